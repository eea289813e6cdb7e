/-! The calls that answer of a town, on both sides, with any argument: part, leave, holds. -/
def j_o (o : Nat → Int64) (k v : Int32) : Nat → Int64 := if k = 0 then vp_updL o 0 v.toInt64 else o
theorem j_s1 : ¬ ("java/lang/IllegalArgumentException" = "") := by decide
theorem j_s2 : ¬ ("java/lang/IllegalStateException" = "") := by decide
theorem j_s3 : ¬ ("java/lang/IllegalStateException" = "java/lang/IllegalArgumentException") := by decide
theorem j_s4 : ¬ ("java/lang/IndexOutOfBoundsException" = "") := by decide
theorem j_s5 : ¬ ("java/lang/IndexOutOfBoundsException" = "java/lang/IllegalArgumentException") := by decide
theorem j_00 : ¬ ((0 : Int32) < 0 ∨ 1 ≤ (0 : Int32).toNatClampNeg) := by decide
theorem j_c0 : (0 : Int32).toNatClampNeg = 0 := by decide
theorem j_o0 (o : Nat → Int64) (v : Int32) : j_o o 0 v = vp_updL o (0 : Int32).toNatClampNeg v.toInt64 := by rw [j_o, if_pos rfl, j_c0]
theorem j_o1 (o : Nat → Int64) (v : Int32) : j_o o 1 v = o := by rw [j_o, if_neg (by decide)]
theorem j_o2 (o : Nat → Int64) (v : Int32) : j_o o 2 v = o := by rw [j_o, if_neg (by decide)]
theorem j_hi {x : Int32} {b : Nat} (hb : b + 1 < 2 ^ 31) (h : nI (b + 1) ≤ x) : nI b < x := by
  have h1 := Int32.le_iff_toInt_le.mp h
  rw [nI_toInt hb] at h1
  apply Int32.lt_iff_toInt_lt.mpr
  rw [nI_toInt (by omega)]
  omega
theorem j_out {x M : Int32} {b : Nat} (hM : M = nI b) (hb : b + 1 < 2 ^ 31) (h : x < 0 ∨ nI (b + 1) ≤ x) : m_X7_in x 0 M = some 0 := by
  rw [m_X7_in]
  by_cases c : x < 0
  · rw [if_pos c]
  · have h1 := h.resolve_left c
    rw [if_neg c, hM, if_pos (j_hi hb h1)]
theorem j_inn {k b : Nat} {M : Int32} (hM : M = nI b) (h : k ≤ b) (hb : b < 2 ^ 31) : m_X7_in (nI k) 0 M = some 1 := by
  rw [m_X7_in, if_neg (nI_pos (by omega)), hM, if_neg (nI_nlt h hb)]
theorem j_t10 : m_X7_throwing 1 0 = some (1, 1) := by decide
theorem j_t00 : m_X7_throwing 0 0 = some (0, 0) := by decide
theorem j_t01 : m_X7_throwing 0 1 = some (1, 2) := by decide
theorem j_pout {x : Int32} (h : x < 0 ∨ nI 62 ≤ x) : m_X7_isPart x = some 0 := by
  rw [m_X7_isPart, j_out (M := 61) (b := 61) rfl (by omega) h, Option.bind_some, if_pos (by decide)]
theorem j_pin {p : Nat} (h : p < 62) : m_X7_isPart (nI p) = some 1 := by
  rw [m_X7_isPart, j_inn (M := 61) (b := 61) rfl (by omega) (by omega), Option.bind_some, if_pos (by decide)]
theorem j_cout {x : Int32} (h : x < 0 ∨ nI 62 ≤ x) : m_X6_isPart x = some 0 := by
  rw [m_X6_isPart]
  by_cases c : x < 0
  · rw [if_pos c]
  · rw [if_neg c, if_pos (show (62 : Int32) ≤ x from h.resolve_left c)]
theorem j_has {H : Nat → Nat} {hd : Nat → Int32} {p : Nat} (h : p < 62) (hh : hd p = nI (H p)) (h1 : H p ≤ 1) : m_X5_has (nI p) hd = some (nI (H p)) := by
  rw [m_X5_has, t_isPart h, Option.bind_some, if_neg (by decide), if_pos (t_in h (by omega)), nI_clamp (by omega), hh]
  by_cases c : H p = 0
  · rw [c, if_pos nI_0]; rfl
  · have c1 : H p = 1 := by omega
    rw [c1, if_neg (by decide)]; rfl
theorem j_kind {p : Nat} (h : p < 62) : m_X6_kindOf (nI p) = some (nI (t_kd p)) := by
  rw [m_X6_kindOf]
  have a1 := nI_leI (a := 30) (b := p) (by omega) (by omega)
  have a2 := nI_leI (a := 41) (b := p) (by omega) (by omega)
  rcases t_kdc p with ⟨c, e⟩ | ⟨c, c2, e⟩ | ⟨c, e⟩
  · rw [e, if_neg (fun z => by have := a1.mp z; omega)]; rfl
  · rw [e, if_pos (show (30 : Int32) ≤ nI p from a1.mpr c), if_neg (fun z => by have := a2.mp z; omega)]; rfl
  · rw [e, if_pos (show (30 : Int32) ≤ nI p from a1.mpr (by omega)), if_pos (show (41 : Int32) ≤ nI p from a2.mpr c)]; rfl
/-- part -/
theorem j_part {n : Nat} {H T A B C : Nat → Nat} {hd th co se tr kd th2 fi ot la : Nat → Int32} (w : w_ok n H T A B C) (h : w_c H T A B C hd th co se tr) (h2 : w_m H T A B C kd th2 fi ot la) (p1 p2 : Int32) (o : Nat → Int64) : ∃ k v : Int32, m_L_part p1 p2 hd th co se tr o = some (k, j_o o k v) ∧ m_X7_part p1 p2 kd th2 fi ot la = some (v, k) := by
  have z0 : (0 : Int32) = 0 := rfl
  have n1 : ¬ (1 : Int32) = 0 := by decide
  rcases pk_ix p1 (n := 62) (by omega) with c | c | ⟨p, hp, rfl⟩
  · refine ⟨1, 0, ?_, ?_⟩
    · rw [m_L_part, m_X6_part, j_cout (Or.inl c), Option.bind_some, if_pos z0, Option.bind_some, if_neg j_s1, if_pos rfl, j_o1]
    · rw [m_X7_part, j_pout (Or.inl c), Option.bind_some, mt_j, mt_j, if_pos z0]; dsimp only; rw [j_t10, Option.bind_some, if_neg n1]
  · refine ⟨1, 0, ?_, ?_⟩
    · rw [m_L_part, m_X6_part, j_cout (Or.inr c), Option.bind_some, if_pos z0, Option.bind_some, if_neg j_s1, if_pos rfl, j_o1]
    · rw [m_X7_part, j_pout (Or.inr c), Option.bind_some, mt_j, mt_j, if_pos z0]; dsimp only; rw [j_t10, Option.bind_some, if_neg n1]
  · have r := h p hp
    have r2 := h2 p hp
    have b3 := w_b3 w hp
    have hi := t_in hp (by omega)
    by_cases c : p2 < 0 ∨ nI 5 ≤ p2
    · have e0 : ∀ y : Int32, ¬ (y < 0 ∨ nI 5 ≤ y) → ¬ p2 = y := fun y hy z => hy (z ▸ c)
      refine ⟨1, 0, ?_, ?_⟩
      · rw [m_L_part, m_X6_part, t_isPart hp, Option.bind_some, if_neg n1, if_neg (e0 0 (by decide)), if_neg (e0 1 (by decide)), if_neg (e0 2 (by decide)), if_neg (e0 3 (by decide)), if_neg (e0 4 (by decide)), Option.bind_some, if_neg j_s1, if_pos rfl, j_o1]
      · rw [m_X7_part, j_pin hp, Option.bind_some, mt_j, mt_j, if_neg n1, j_out (M := 4) (b := 4) rfl (by omega) c, Option.bind_some, if_pos z0]; dsimp only; rw [j_t10, Option.bind_some, if_neg n1]
    · rcases pk_ix p2 (n := 5) (by omega) with c' | c' | ⟨j, hj, rfl⟩
      · exact absurd (Or.inl c') c
      · exact absurd (Or.inr c') c
      · have ei : m_X7_in (nI j) 0 4 = some 1 := j_inn (M := 4) (b := 4) rfl (by omega) (by omega)
        have e7 : m_X7_part (nI p) (nI j) kd th2 fi ot la = (if nI j = 0 then if (th2 p) = 0 then some ((0 : Int32), (0 : Int32)) else some ((1 : Int32), (0 : Int32)) else if nI j = (1 : Int32) then some (kd p, (0 : Int32)) else if nI j = (2 : Int32) then some (fi p, (0 : Int32)) else if nI j = (3 : Int32) then some (ot p, (0 : Int32)) else some (la p, (0 : Int32))) := by
          rw [m_X7_part, j_pin hp, Option.bind_some, mt_j, mt_j, if_neg n1, ei, Option.bind_some, if_neg n1]; dsimp only; rw [j_t00, Option.bind_some, if_pos z0, if_pos hi, if_pos hi, if_pos hi, if_pos hi, if_pos hi, nI_clamp (by omega)]
        have e6 : ∀ v, m_X6_part (nI p) (nI j) hd th co se tr = some ("", v) → m_L_part (nI p) (nI j) hd th co se tr o = some (0, j_o o 0 v) := fun v e => by
          rw [m_L_part, e, Option.bind_some, if_pos rfl, if_pos j_00, j_o0]
        obtain rfl | rfl | rfl | rfl | rfl : j = 0 ∨ j = 1 ∨ j = 2 ∨ j = 3 ∨ j = 4 := by omega
        · rw [if_pos nI_0, r2.2.1] at e7
          by_cases c0 : T p = 0
          · rw [c0, if_pos nI_0] at e7
            refine ⟨0, 0, e6 0 ?_, e7⟩
            rw [m_X6_part, t_isPart hp, Option.bind_some, if_neg n1, if_pos nI_0, w_isThere hp r.2.1 b3.2.1, Option.bind_some, c0, if_pos nI_0]
          · have c1 : T p = 1 := by omega
            rw [c1, if_neg (by decide)] at e7
            refine ⟨0, 1, e6 1 ?_, e7⟩
            rw [m_X6_part, t_isPart hp, Option.bind_some, if_neg n1, if_pos nI_0, w_isThere hp r.2.1 b3.2.1, Option.bind_some, c1, if_neg (by decide)]
        · rw [if_neg (by decide), if_pos (by decide)] at e7
          refine ⟨0, kd p, e6 _ ?_, e7⟩
          rw [m_X6_part, t_isPart hp, Option.bind_some, if_neg n1, if_neg (by decide), if_pos (by decide), j_has hp r.1 b3.1, Option.bind_some, r2.1]
          by_cases c0 : H p = 0
          · rw [c0, if_pos nI_0, if_neg (by omega)]
          · have c1 : H p = 1 := by omega
            rw [c1, if_neg (by decide), if_pos rfl, j_kind hp, Option.bind_some]
        · rw [if_neg (by decide), if_neg (by decide), if_pos (by decide)] at e7
          refine ⟨0, fi p, e6 _ ?_, e7⟩
          rw [m_X6_part, t_isPart hp, Option.bind_some, if_neg n1, if_neg (by decide), if_neg (by decide), if_pos (by decide), w_corner hp r.2.2.1, Option.bind_some, r2.2.2.1]
        · rw [if_neg (by decide), if_neg (by decide), if_neg (by decide), if_pos (by decide)] at e7
          refine ⟨0, ot p, e6 _ ?_, e7⟩
          rw [m_X6_part, t_isPart hp, Option.bind_some, if_neg n1, if_neg (by decide), if_neg (by decide), if_neg (by decide), if_pos (by decide), w_second hp r.2.2.2.1, Option.bind_some, r2.2.2.2.1]
        · rw [if_neg (by decide), if_neg (by decide), if_neg (by decide), if_neg (by decide)] at e7
          refine ⟨0, la p, e6 _ ?_, e7⟩
          rw [m_X6_part, t_isPart hp, Option.bind_some, if_neg n1, if_neg (by decide), if_neg (by decide), if_neg (by decide), if_neg (by decide), if_pos (by decide), w_third hp r.2.2.2.2, Option.bind_some, r2.2.2.2.2]
/-- a part left out or taken in -/
def w_p (T : Nat → Nat) (p x : Nat) : Nat → Nat := fun q => if q = p then x else T q
theorem w_p_s {T : Nat → Nat} {p x : Nat} : w_p T p x p = x := if_pos rfl
theorem w_p_n {T : Nat → Nat} {p x q : Nat} (h : q ≠ p) : w_p T p x q = T q := if_neg h
theorem w_p_ok {n p x : Nat} {H T A B C : Nat → Nat} (w : w_ok n H T A B C) (hx : x ≤ H p) : w_ok n H (w_p T p x) A B C := by
  refine ⟨w.1, w.2.1, fun q hq => ?_, w.2.2.2⟩
  by_cases c : q = p
  · subst c; rw [w_p_s]; exact hx
  · rw [w_p_n c]; exact w.2.2.1 q hq
theorem w_p_c {p x : Nat} {y : Int32} {H T A B C : Nat → Nat} {hd th co se tr : Nat → Int32} (h : w_c H T A B C hd th co se tr) (hy : y = nI x) : w_c H (w_p T p x) A B C hd (upd th p y) co se tr := by
  intro q hq
  have r := h q hq
  refine ⟨r.1, ?_, r.2.2⟩
  by_cases c : q = p
  · subst c; rw [w_p_s, pk_us, hy]
  · rw [w_p_n c, pk_un c]; exact r.2.1
theorem w_p_m {p x : Nat} {y : Int32} {H T A B C : Nat → Nat} {kd th fi ot la : Nat → Int32} (h : w_m H T A B C kd th fi ot la) (hy : y = nI x) : w_m H (w_p T p x) A B C kd (upd th p y) fi ot la := by
  intro q hq
  have r := h q hq
  refine ⟨r.1, ?_, r.2.2⟩
  by_cases c : q = p
  · subst c; rw [w_p_s, pk_us, hy]
  · rw [w_p_n c, pk_un c]; exact r.2.1
theorem j_setThere {H : Nat → Nat} {hd th : Nat → Int32} {p x : Nat} (hp : p < 62) (hh : hd p = nI (H p)) (h1 : H p = 1) (hx : x ≤ 1) : m_X5_setThere (nI p) (nI x) hd th = some (upd th p (nI x)) := by
  have e : nI x &&& 1 = nI x := by
    have : ∀ x, x < 2 → nI x &&& 1 = nI x := by decide
    exact this _ (by omega)
  rw [m_X5_setThere, j_has hp hh (by omega), Option.bind_some, h1, if_neg (by decide), if_pos (t_in hp (by omega)), nI_clamp (by omega), e]
/-- leave -/
theorem j_leave {n : Nat} {H T A B C : Nat → Nat} {hd th co se tr kd th2 fi ot la : Nat → Int32} (w : w_ok n H T A B C) (h : w_c H T A B C hd th co se tr) (h2 : w_m H T A B C kd th2 fi ot la) (p1 p2 : Int32) (hb : p2 = 0 ∨ p2 = 1) : ∃ (k : Int32) (T' : Nat → Nat) (th' th2' : Nat → Int32), m_L_leave p1 p2 hd th = some (k, th') ∧ m_X7_leave p1 p2 kd th2 = some (k, th2') ∧ w_ok n H T' A B C ∧ w_c H T' A B C hd th' co se tr ∧ w_m H T' A B C kd th2' fi ot la := by
  have z0 : (0 : Int32) = 0 := rfl
  have n1 : ¬ (1 : Int32) = 0 := by decide
  by_cases c : p1 < 0 ∨ nI 62 ≤ p1
  · refine ⟨1, T, th, th2, ?_, ?_, w, h, h2⟩
    · rw [m_L_leave, m_X6_leave, m_X5_has, j_cout c, Option.bind_some, if_pos z0, Option.bind_some, if_pos z0, Option.bind_some, if_neg j_s1, if_pos rfl]
    · rw [m_X7_leave, j_pout c, Option.bind_some, mt_j, mt_j, if_pos z0]; dsimp only; rw [mt_j, mt_j, if_neg n1]; dsimp only; rw [j_t10, Option.bind_some, if_neg n1]
  · rcases pk_ix p1 (n := 62) (by omega) with c' | c' | ⟨p, hp, rfl⟩
    · exact absurd (Or.inl c') c
    · exact absurd (Or.inr c') c
    · have r := h p hp
      have r2 := h2 p hp
      have b3 := w_b3 w hp
      have hi := t_in hp (by omega)
      by_cases c0 : H p = 0
      · have kdm : kd p = -1 := by rw [r2.1, if_neg (by omega)]
        refine ⟨1, T, th, th2, ?_, ?_, w, h, h2⟩
        · rw [m_L_leave, m_X6_leave, j_has hp r.1 b3.1, Option.bind_some, c0, if_pos nI_0, Option.bind_some, if_neg j_s1, if_pos rfl]
        · rw [m_X7_leave, j_pin hp, Option.bind_some, mt_j, mt_j, if_neg n1, Option.bind_some, mt_j, if_neg n1]; dsimp only; rw [if_pos hi, nI_clamp (by omega), kdm, if_neg (by decide), mt_j, mt_j, if_neg n1]; dsimp only; rw [j_t10, Option.bind_some, if_neg n1]
      · have c1 : H p = 1 := by omega
        have k0 : (0 : Int32) ≤ kd p := by rw [r2.1, if_pos c1]; exact nI_pos' (by have := t_kdc p; omega)
        have e6 : ∀ s th', m_X6_leave (nI p) p2 hd th = some (s, th') → m_L_leave (nI p) p2 hd th = (if s = "" then some ((0 : Int32), th') else if s = "java/lang/IllegalArgumentException" then some ((1 : Int32), th') else if s = "java/lang/IllegalStateException" then some ((2 : Int32), th') else none) := fun s th' e => by
          rw [m_L_leave, e, Option.bind_some]
        by_cases cq : nI (T p) = p2
        · refine ⟨0, w_p T p (1 - T p), upd th p (nI (1 - T p)), upd th2 p (nI (1 - T p)), ?_, ?_, w_p_ok w (by omega), w_p_c h rfl, w_p_m h2 rfl⟩
          · refine Eq.trans (e6 "" _ ?_) (if_pos rfl)
            rw [m_X6_leave, j_has hp r.1 b3.1, Option.bind_some, c1, if_neg (by decide), w_isThere hp r.2.1 b3.2.1, Option.bind_some, if_pos cq, mt_j]
            rcases hb with rfl | rfl
            · have ct : T p = 0 := by have := (nI_eq (a := T p) (b := 0) (by omega) (by omega)).mp cq; exact this
              rw [if_pos z0]; dsimp only; rw [show (1 : Int32) = nI 1 from rfl, j_setThere hp r.1 c1 (by omega), Option.bind_some, ct]
            · have ct : T p = 1 := by have := (nI_eq (a := T p) (b := 1) (by omega) (by omega)).mp cq; exact this
              rw [if_neg n1]; dsimp only; rw [← nI_0, j_setThere hp r.1 c1 (by omega), Option.bind_some, ct]
          · rw [m_X7_leave, j_pin hp, Option.bind_some, mt_j, mt_j, if_neg n1, Option.bind_some, mt_j, if_neg n1]; dsimp only; rw [if_pos hi, nI_clamp (by omega), if_pos k0, mt_j, mt_j, if_pos z0, mt_j, if_pos z0]; dsimp only; rw [if_pos hi, nI_clamp (by omega), r2.2.1, if_pos cq, j_t00, Option.bind_some, if_pos z0, mt_j]
            rcases hb with rfl | rfl
            · have ct : T p = 0 := by have := (nI_eq (a := T p) (b := 0) (by omega) (by omega)).mp cq; exact this
              rw [if_pos z0]; dsimp only; rw [if_pos hi, nI_clamp (by omega), ct]; rfl
            · have ct : T p = 1 := by have := (nI_eq (a := T p) (b := 1) (by omega) (by omega)).mp cq; exact this
              rw [if_neg n1]; dsimp only; rw [if_pos hi, nI_clamp (by omega), ct]; rfl
        · refine ⟨2, T, th, th2, ?_, ?_, w, h, h2⟩
          · refine Eq.trans (e6 "java/lang/IllegalStateException" th ?_) ?_
            · rw [m_X6_leave, j_has hp r.1 b3.1, Option.bind_some, c1, if_neg (by decide), w_isThere hp r.2.1 b3.2.1, Option.bind_some, if_neg cq]
            · rw [if_neg j_s2, if_neg j_s3, if_pos rfl]
          · rw [m_X7_leave, j_pin hp, Option.bind_some, mt_j, mt_j, if_neg n1, Option.bind_some, mt_j, if_neg n1]; dsimp only; rw [if_pos hi, nI_clamp (by omega), if_pos k0, mt_j, mt_j, if_pos z0, mt_j, if_pos z0]; dsimp only; rw [if_pos hi, nI_clamp (by omega), r2.2.1, if_neg cq, j_t01, Option.bind_some, if_neg n1]
/-- holds -/
theorem j_vout {x : Int32} (h : x < 0 ∨ nI 5 ≤ x) : m_X6_isVerdict x = some 0 := by
  rw [m_X6_isVerdict]
  by_cases c : x < 0
  · rw [if_pos c]
  · rw [if_neg c, if_pos (show (5 : Int32) ≤ x from h.resolve_left c)]
theorem j_vin {k : Nat} (h : k < 5) : m_X6_isVerdict (nI k) = some 1 := by
  rw [m_X6_isVerdict, if_neg (nI_pos (by omega)), if_neg (fun z => by have := (nI_leI (a := 5) (b := k) (by omega) (by omega)).mp z; omega)]
theorem j_holds {n fu : Nat} {H T A B C : Nat → Nat} {hd th co se tr kd th2 fi ot la : Nat → Int32} (hfu : 63 ≤ fu) (w : w_ok n H T A B C) (h : w_c H T A B C hd th co se tr) (h2 : w_m H T A B C kd th2 fi ot la) (p1 : Int32) (me sk far : Nat → Int32) (o : Nat → Int64) : ∃ (k v : Int32) (me' sk' far' : Nat → Int32), m_L_holds fu p1 th co se tr me sk o = some (k, me', sk', j_o o k v) ∧ m_X7_holds fu p1 kd th2 fi ot la far = some (v, k, far') ∧ (v = 0 ∨ v = 1) := by
  have z0 : (0 : Int32) = 0 := rfl
  have n1 : ¬ (1 : Int32) = 0 := by decide
  by_cases c : p1 < 0 ∨ nI 5 ≤ p1
  · refine ⟨1, 0, me, sk, far, ?_, ?_, Or.inl rfl⟩
    · rw [m_L_holds, m_X6_holds, j_vout c, Option.bind_some, if_pos z0, Option.bind_some, if_neg j_s1, if_pos rfl, j_o1]
    · rw [m_X7_holds, j_out (M := 4) (b := 4) rfl (by omega) c, Option.bind_some, mt_j, if_pos z0]; dsimp only; rw [j_t10, Option.bind_some, if_neg n1]
  · rcases pk_ix p1 (n := 5) (by omega) with c' | c' | ⟨k, hk, rfl⟩
    · exact absurd (Or.inl c') c
    · exact absurd (Or.inr c') c
    · obtain ⟨b, hb, ⟨me', sk', e1⟩, far', e2⟩ := v_says hfu hk w h h2 me sk far
      have bb : b &&& 1 = b := by rcases hb with rfl | rfl <;> decide
      refine ⟨0, b, me', sk', far', ?_, ?_, hb⟩
      · have e3 : m_X6_holds fu (nI k) th co se tr me sk = some ("", b, me', sk') := by
          rw [m_X6_holds, j_vin hk, Option.bind_some, if_neg n1, e1, Option.bind_some, if_pos bb]
        rw [m_L_holds, e3, Option.bind_some, if_pos rfl, mt_j, j_o0]
        rcases hb with rfl | rfl
        · rw [if_pos z0]; dsimp only; rw [if_pos j_00]; rfl
        · rw [if_neg n1]; dsimp only; rw [if_pos j_00]; rfl
      · rw [m_X7_holds, j_inn (M := 4) (b := 4) rfl (by omega) (by omega), Option.bind_some, mt_j, if_neg n1]; dsimp only; rw [j_t00, Option.bind_some, if_pos z0, e2, Option.bind_some, if_pos bb]
