/-! way and count, on both sides, with any argument. -/
theorem j_units (n : Nat) (hn : n ≤ 20) : m_X5_units (nI n) = some (nI (1 + n / 2)) := by
  rw [m_X5_units, show (2 : Int32) = nI 2 from rfl, pk_div (by omega) (by omega) (by omega), show (1 : Int32) = nI 1 from rfl, nI_add]
theorem j_calls (n : Nat) : m_X5_calls (nI n) = some (nI (1 + n)) := by
  rw [m_X5_calls, show (1 : Int32) = nI 1 from rfl, nI_add]
theorem j_corners (n : Nat) : m_X5_corners (nI n) = some (nI (1 + n)) := by
  rw [m_X5_corners, show (1 : Int32) = nI 1 from rfl, nI_add]
theorem j_pred (n : Nat) : nI (1 + n) - 1 = nI n := by rw [Nat.add_comm, nI_pred]
theorem j_way {n fu : Nat} {H T A B C : Nat → Nat} {hd th co se tr kd th2 fi ot la : Nat → Int32} (hfu : 63 ≤ fu) (w : w_ok n H T A B C) (h : w_c H T A B C hd th co se tr) (h2 : w_m H T A B C kd th2 fi ot la) (p1 p2 : Int32) (me far : Nat → Int32) (o : Nat → Int64) : ∃ (k v : Int32) (me' far' : Nat → Int32), m_L_way fu p1 p2 (nI n) th co se tr me o = some (k, me', j_o o k v) ∧ m_X7_way fu p1 p2 (nI (1 + n / 2)) (nI (1 + n)) th2 fi ot la far = some (v, k, far') := by
  have z0 : (0 : Int32) = 0 := rfl
  have n1 : ¬ (1 : Int32) = 0 := by decide
  have hn := w_ok_n20 w
  have e6 : ∀ v me', m_X6_way fu p1 p2 (nI n) th co se tr me = some ("", v, me') → m_L_way fu p1 p2 (nI n) th co se tr me o = some (0, me', j_o o 0 v) := fun v me' e => by
    rw [m_L_way, e, Option.bind_some, if_pos rfl, if_pos j_00, j_o0]
  have e61 : ∀ v me', m_X6_way fu p1 p2 (nI n) th co se tr me = some ("java/lang/IllegalArgumentException", v, me') → m_L_way fu p1 p2 (nI n) th co se tr me o = some (1, me', j_o o 1 v) := fun v me' e => by
    rw [m_L_way, e, Option.bind_some, if_neg j_s1, if_pos rfl, j_o1]
  by_cases c : p1 < 0 ∨ nI (1 + n / 2) ≤ p1
  · refine ⟨1, 0, me, far, e61 0 me ?_, ?_⟩
    · rw [m_X6_way, mt_j]
      by_cases c0 : p1 < 0
      · rw [if_pos c0]
      · rw [if_neg c0, j_units n hn, Option.bind_some, if_pos (c.resolve_left c0)]
    · rw [m_X7_way, j_out (b := n / 2) (j_pred _) (by omega) (by rw [Nat.add_comm (n / 2) 1]; exact c), Option.bind_some, mt_j, mt_j, if_pos z0]; dsimp only; rw [j_t10, Option.bind_some, if_neg n1]
  · rcases pk_ix p1 (n := 1 + n / 2) (by omega) with c' | c' | ⟨u, hu, rfl⟩
    · exact absurd (Or.inl c') c
    · exact absurd (Or.inr c') c
    · have gu : ¬ nI (1 + n / 2) ≤ nI u := fun z => c (Or.inr z)
      have g0 : ¬ nI u < 0 := nI_pos (by omega)
      by_cases d : p2 < 0 ∨ nI (1 + n) ≤ p2
      · refine ⟨1, 0, me, far, e61 0 me ?_, ?_⟩
        · rw [m_X6_way, mt_j, if_neg g0, j_units n hn, Option.bind_some, if_neg gu]
          by_cases c0 : p2 < 0
          · rw [if_pos c0]
          · rw [if_neg c0, j_calls, Option.bind_some, if_neg (fun z => Int32.not_le.mpr z (d.resolve_left c0))]
        · rw [m_X7_way, j_inn (b := n / 2) (j_pred _) (by omega) (by omega), Option.bind_some, mt_j, mt_j, if_neg n1, j_out (b := n) (j_pred _) (by omega) (by rw [Nat.add_comm n 1]; exact d), Option.bind_some, if_pos z0]; dsimp only; rw [j_t10, Option.bind_some, if_neg n1]
      · rcases pk_ix p2 (n := 1 + n) (by omega) with c' | c' | ⟨v, hv, rfl⟩
        · exact absurd (Or.inl c') d
        · exact absurd (Or.inr c') d
        · have hU : 30 + u < 62 := by omega
          have hV : 41 + v < 62 := by omega
          have gv : nI v < nI (1 + n) := nI_lt hv (by omega)
          have gv0 : ¬ nI v < 0 := nI_pos (by omega)
          have eu : (30 : Int32) + nI u = nI (30 + u) := nI_add 30 u
          have ev : (41 : Int32) + nI v = nI (41 + v) := nI_add 41 v
          have ru := h (30 + u) hU
          have ru2 := h2 (30 + u) hU
          have rv := h (41 + v) hV
          have rv2 := h2 (41 + v) hV
          have bu := w_b3 w hU
          have bv := w_b3 w hV
          have iu := t_in hU (by omega)
          have iv := t_in hV (by omega)
          have ei : m_X7_in (nI u) 0 (nI (1 + n / 2) - 1) = some 1 := j_inn (b := n / 2) (j_pred _) (by omega) (by omega)
          have ej : m_X7_in (nI v) 0 (nI (1 + n) - 1) = some 1 := j_inn (b := n) (j_pred _) (by omega) (by omega)
          have e6' : m_X6_way fu (nI u) (nI v) (nI n) th co se tr me = (m_X0_metresBetween fu (nI (30 + u)) (nI (41 + v)) me th co se tr).bind fun q7 => some ("", q7.1, q7.2) := by
            rw [m_X6_way, mt_j, if_neg g0, j_units n hn, Option.bind_some, if_neg gu, if_neg gv0, j_calls, Option.bind_some, if_pos gv, eu, ev]
          by_cases cu : T (30 + u) = 0
          · refine ⟨0, -1, me, far, e6 _ _ ?_, ?_⟩
            · rw [e6', m_X0_metresBetween, w_isThere hU ru.2.1 bu.2.1, Option.bind_some, cu, if_pos nI_0, Option.bind_some]
            · rw [m_X7_way, ei, Option.bind_some, mt_j, mt_j, if_neg n1, ej, Option.bind_some, if_neg n1]; dsimp only; rw [j_t00, Option.bind_some, if_pos z0, eu, if_pos iu, nI_clamp (by omega), ru2.2.1, cu, if_pos nI_0]
          · have cu1 : T (30 + u) = 1 := by omega
            by_cases cv : T (41 + v) = 0
            · refine ⟨0, -1, me, far, e6 _ _ ?_, ?_⟩
              · rw [e6', m_X0_metresBetween, w_isThere hU ru.2.1 bu.2.1, Option.bind_some, cu1, if_neg (by decide), w_isThere hV rv.2.1 bv.2.1, Option.bind_some, cv, if_pos nI_0, Option.bind_some]
              · rw [m_X7_way, ei, Option.bind_some, mt_j, mt_j, if_neg n1, ej, Option.bind_some, if_neg n1]; dsimp only; rw [j_t00, Option.bind_some, if_pos z0, eu, if_pos iu, nI_clamp (by omega), ru2.2.1, cu1, if_neg (by decide), ev, if_pos iv, nI_clamp (by omega), rv2.2.1, cv, if_pos nI_0]
            · have cv1 : T (41 + v) = 1 := by omega
              have aU := w_A21 w (30 + u) hU
              have aV := w_A21 w (41 + v) hV
              obtain ⟨me', x1, x2⟩ := r_cmeasure (fu := fu) (a := A (30 + u)) (by omega) aU (w_rok w) (w_crow w h) me
              obtain ⟨far', y1, y2⟩ := r_mreach (fu := fu) (a := A (41 + v)) (by omega) aV (w_rok w) (w_mrow w h2) far
              have bd := r_D_bd (T := T) (A := A) (B := B) (C := C) (A (41 + v)) (A (30 + u))
              refine ⟨0, r_way T A B C (A (30 + u)) (A (41 + v)), me', far', e6 _ _ ?_, ?_⟩
              · rw [e6', m_X0_metresBetween, w_isThere hU ru.2.1 bu.2.1, Option.bind_some, cu1, if_neg (by decide), w_isThere hV rv.2.1 bv.2.1, Option.bind_some, cv1, if_neg (by decide), w_corner hU ru.2.2.1, Option.bind_some, x2, Option.bind_some, w_corner hV rv.2.2.1, Option.bind_some, r_metresTo aV x1, Option.bind_some, Option.bind_some]
              · rw [m_X7_way, ei, Option.bind_some, mt_j, mt_j, if_neg n1, ej, Option.bind_some, if_neg n1]; dsimp only; rw [j_t00, Option.bind_some, if_pos z0, eu, if_pos iu, nI_clamp (by omega), ru2.2.1, cu1, if_neg (by decide), ev, if_pos iv, nI_clamp (by omega), rv2.2.1, cv1, if_neg (by decide), if_pos (t_in2 hV (by omega)), rv2.2.2.1, y2, Option.bind_some, if_pos (t_in2 hU (by omega)), ru2.2.2.1, if_pos (t_in aU (by omega)), nI_clamp (by omega), y1 _ aU, r_way, r_D_sym (w_rok w) aU aV]
                by_cases cd : 1000000 ≤ r_D T A B C (A (41 + v)) (A (30 + u))
                · rw [if_pos cd, if_pos (show (1000000 : Int32) ≤ nI _ from (nI_leI (a := 1000000) (by omega) (by omega)).mpr cd)]
                · rw [if_neg cd, if_neg (show ¬ (1000000 : Int32) ≤ nI _ from fun z => cd ((nI_leI (a := 1000000) (by omega) (by omega)).mp z))]
theorem j_howMany {T : Nat → Nat} {th : Nat → Int32} {a b fu : Nat} (hfu : 63 ≤ fu) (hab : a ≤ b) (hb : b ≤ 62) (ht : ∀ p, p < 62 → th p = nI (T p) ∧ T p ≤ 1) : m_X5_howManyThere fu (nI a) (nI b) th = some (nI (w_n T a (b - a))) := by
  rw [m_X5_howManyThere, mt_j]
  exact w_howMany hb ht (fun x _ => some x) (b - a) 0 fu (by omega) (by omega)
theorem j_many {H T : Nat → Nat} {kd th : Nat → Int32} {k fu : Nat} (hfu : 63 ≤ fu) (hk : k < 3) (ht : ∀ p, p < 62 → th p = nI (T p) ∧ T p ≤ H p ∧ H p ≤ 1 ∧ kd p = (if H p = 1 then nI (t_kd p) else (-1))) : m_X7_many fu (nI k) kd th = some (nI (w_n (w_k T k) 0 62)) := by
  rw [m_X7_many, mt_j]
  exact w_many hk ht (fun x _ => some x) 62 0 fu (by omega) (by omega)
theorem j_count {n fu : Nat} {H T A B C : Nat → Nat} {hd th co se tr kd th2 fi ot la : Nat → Int32} (hfu : 63 ≤ fu) (w : w_ok n H T A B C) (h : w_c H T A B C hd th co se tr) (h2 : w_m H T A B C kd th2 fi ot la) (p1 : Int32) (sk far : Nat → Int32) (o : Nat → Int64) : ∃ (k v : Int32) (sk' far' : Nat → Int32), m_L_count fu p1 (nI n) th co se tr sk o = some (k, sk', j_o o k v) ∧ m_X7_count fu p1 (nI (1 + n)) kd th2 fi ot la far = some (v, k, far') := by
  have z0 : (0 : Int32) = 0 := rfl
  have n1 : ¬ (1 : Int32) = 0 := by decide
  have hT : ∀ p, p < 62 → th p = nI (T p) ∧ T p ≤ 1 := fun p hp => ⟨(h p hp).2.1, (w_b3 w hp).2.1⟩
  have e6 : ∀ v sk', m_X6_count fu p1 (nI n) th co se tr sk = some ("", v, sk') → m_L_count fu p1 (nI n) th co se tr sk o = some (0, sk', j_o o 0 v) := fun v sk' e => by
    rw [m_L_count, e, Option.bind_some, if_pos rfl, if_pos j_00, j_o0]
  by_cases c : p1 < 0 ∨ nI 6 ≤ p1
  · have e0 : ∀ y : Int32, ¬ (y < 0 ∨ nI 6 ≤ y) → ¬ p1 = y := fun y hy z => hy (z ▸ c)
    refine ⟨1, 0, sk, far, ?_, ?_⟩
    · rw [m_L_count, m_X6_count, if_neg (e0 0 (by decide)), if_neg (e0 1 (by decide)), if_neg (e0 2 (by decide)), if_neg (e0 3 (by decide)), if_neg (e0 4 (by decide)), if_neg (e0 5 (by decide)), Option.bind_some, if_neg j_s1, if_pos rfl, j_o1]
    · rw [m_X7_count, j_out (M := 5) (b := 5) rfl (by omega) c, Option.bind_some, mt_j, if_pos z0]; dsimp only; rw [j_t10, Option.bind_some, if_neg n1]
  · rcases pk_ix p1 (n := 6) (by omega) with c' | c' | ⟨j, hj, rfl⟩
    · exact absurd (Or.inl c') c
    · exact absurd (Or.inr c') c
    · have ei : m_X7_in (nI j) 0 5 = some 1 := j_inn (M := 5) (b := 5) rfl (by omega) (by omega)
      obtain rfl | rfl | rfl | rfl | rfl | rfl : j = 0 ∨ j = 1 ∨ j = 2 ∨ j = 3 ∨ j = 4 ∨ j = 5 := by omega
      · refine ⟨0, nI (1 + n), sk, far, e6 _ _ ?_, ?_⟩
        · rw [m_X6_count, if_pos nI_0, j_corners, Option.bind_some]
        · rw [m_X7_count, ei, Option.bind_some, mt_j, if_neg n1]; dsimp only; rw [j_t00, Option.bind_some, if_pos z0, if_pos nI_0]
      · refine ⟨0, nI (w_n T 0 30), sk, far, e6 _ _ ?_, ?_⟩
        · rw [m_X6_count, if_neg (by decide), if_pos (by decide), show (30 : Int32) = nI 30 from rfl, ← nI_0, j_howMany hfu (by omega) (by omega) hT, Option.bind_some]
        · rw [m_X7_count, ei, Option.bind_some, mt_j, if_neg n1]; dsimp only; rw [j_t00, Option.bind_some, if_pos z0, if_neg (by decide), if_neg (by decide), show nI 1 - 1 = nI 0 from nI_pred 0, j_many hfu (by omega) (w_mkd w h2), Option.bind_some, w_k0]
      · refine ⟨0, nI (w_n T 30 11), sk, far, e6 _ _ ?_, ?_⟩
        · rw [m_X6_count, if_neg (by decide), if_neg (by decide), if_pos (by decide), show (30 : Int32) = nI 30 from rfl, show (41 : Int32) = nI 41 from rfl, j_howMany hfu (by omega) (by omega) hT, Option.bind_some]
        · rw [m_X7_count, ei, Option.bind_some, mt_j, if_neg n1]; dsimp only; rw [j_t00, Option.bind_some, if_pos z0, if_neg (by decide), if_neg (by decide), show nI 2 - 1 = nI 1 from nI_pred 1, j_many hfu (by omega) (w_mkd w h2), Option.bind_some, w_k1]
      · refine ⟨0, nI (w_n T 41 21), sk, far, e6 _ _ ?_, ?_⟩
        · rw [m_X6_count, if_neg (by decide), if_neg (by decide), if_neg (by decide), if_pos (by decide), show (62 : Int32) = nI 62 from rfl, show (41 : Int32) = nI 41 from rfl, j_howMany hfu (by omega) (by omega) hT, Option.bind_some]
        · rw [m_X7_count, ei, Option.bind_some, mt_j, if_neg n1]; dsimp only; rw [j_t00, Option.bind_some, if_pos z0, if_neg (by decide), if_neg (by decide), show nI 3 - 1 = nI 2 from nI_pred 2, j_many hfu (by omega) (w_mkd w h2), Option.bind_some, w_k2]
      · obtain ⟨sk', x1⟩ := w_cservedAll (fu := fu) (sk := sk) (by omega) w h
        obtain ⟨far', y1⟩ := v_mcount hfu w h2 (fun a b m => if nI 4 = (4 : Int32) then some (a, (0 : Int32), m) else some (b, (0 : Int32), m)) 21 0 fu (by omega) (by omega) far
        refine ⟨0, nI (w_n (w_sv T A B C) 41 21), sk', far', e6 _ _ ?_, ?_⟩
        · rw [m_X6_count, if_neg (by decide), if_neg (by decide), if_neg (by decide), if_neg (by decide), if_pos (by decide), x1, Option.bind_some]
        · rw [m_X7_count, ei, Option.bind_some, mt_j, if_neg n1]; dsimp only; rw [j_t00, Option.bind_some, if_pos z0, if_neg (by decide), if_pos (by decide), mt_j]
          refine Eq.trans y1 ?_
          rw [if_pos (by decide)]
      · obtain ⟨far', y1⟩ := v_mcount hfu w h2 (fun a b m => if nI 5 = (4 : Int32) then some (a, (0 : Int32), m) else some (b, (0 : Int32), m)) 21 0 fu (by omega) (by omega) far
        have x1 : m_X0_bursts fu th tr = some (nI (w_n (v_bu T C) 41 21)) := by
          rw [m_X0_bursts, mt_j]
          exact v_cbursts hfu w h (fun x _ => some x) 21 0 fu (by omega) (by omega)
        refine ⟨0, nI (w_n (v_bu T C) 41 21), sk, far', e6 _ _ ?_, ?_⟩
        · rw [m_X6_count, if_neg (by decide), if_neg (by decide), if_neg (by decide), if_neg (by decide), if_neg (by decide), if_pos (by decide), x1, Option.bind_some]
        · rw [m_X7_count, ei, Option.bind_some, mt_j, if_neg n1]; dsimp only; rw [j_t00, Option.bind_some, if_pos z0, if_neg (by decide), if_pos (by decide), mt_j]
          refine Eq.trans y1 ?_
          rw [if_neg (by decide)]
