/-! draw and find, on both sides. -/
def j_town (s : Int32) (n : Nat) (T : Nat → Nat) (hd th co se tr kd th2 fi ot la : Nat → Int32) : Prop :=
  w_ok n (t_hd s n) T (t_z s n (t_co s n)) (t_z s n (t_se s n)) (t_z s n (t_tr s)) ∧ w_c (t_hd s n) T (t_z s n (t_co s n)) (t_z s n (t_se s n)) (t_z s n (t_tr s)) hd th co se tr ∧ w_m (t_hd s n) T (t_z s n (t_co s n)) (t_z s n (t_se s n)) (t_z s n (t_tr s)) kd th2 fi ot la
theorem j_zout {x : Int32} (h : x < 0 ∨ nI 21 ≤ x) : m_X6_isSize x = some 0 := by
  rw [m_X6_isSize]
  by_cases c : x < 0
  · rw [if_pos c]
  · rw [if_neg c, if_pos (show (20 : Int32) < x from j_hi (b := 20) (by omega) (h.resolve_left c))]
theorem j_zin {k : Nat} (h : k ≤ 20) : m_X6_isSize (nI k) = some 1 := by
  rw [m_X6_isSize, if_neg (nI_pos (by omega)), if_neg (fun z => by have := (nI_ltI (a := 20) (b := k) (by omega) (by omega)).mp z; omega)]
theorem j_all {s : Int32} {n fu : Nat} (hfu : 63 ≤ fu) (hn : n ≤ 20) {kd th fi ot la : Nat → Int32} (h : tm_at s n 62 kd th fi ot la) : m_X7_all fu kd th = some (nI (t_cnt s n 62)) := by
  have w := w_drawn s hn
  have m := w_mkd w (w_mdrawn h)
  rw [m_X7_all, ← nI_0, j_many hfu (by omega) m, Option.bind_some, show (1 : Int32) = nI 1 from rfl, j_many hfu (by omega) m, Option.bind_some, show (2 : Int32) = nI 2 from rfl, j_many hfu (by omega) m, Option.bind_some, nI_add, nI_add, w_kall, w_cnt]
theorem j_draw {s : Int32} {n fu : Nat} {T : Nat → Nat} {hd th co se tr kd th2 fi ot la : Nat → Int32} (hfu : 63 ≤ fu) (hj : j_town s n T hd th co se tr kd th2 fi ot la) (p1 p2 sd pa : Int32) (o : Nat → Int64) : ∃ (k v sd' pa' s' : Int32) (n' : Nat) (T' : Nat → Nat) (hd' th' co' se' tr' kd' th2' fi' ot' la' : Nat → Int32), m_L_draw fu p1 p2 sd (nI n) pa hd th co se tr o = some (k, sd', nI n', pa', hd', th', co', se', tr', j_o o k v) ∧ m_X7_draw fu p1 p2 (nI (1 + n)) (nI (1 + n / 2)) (nI (1 + n)) s kd th2 fi ot la = some (v, k, nI (1 + n'), nI (1 + n' / 2), nI (1 + n'), s', kd', th2', fi', ot', la') ∧ j_town s' n' T' hd' th' co' se' tr' kd' th2' fi' ot' la' := by
  have z0 : (0 : Int32) = 0 := rfl
  have n1 : ¬ (1 : Int32) = 0 := by decide
  by_cases c : p2 < 0 ∨ nI 21 ≤ p2
  · refine ⟨1, 0, sd, pa, s, n, T, hd, th, co, se, tr, kd, th2, fi, ot, la, ?_, ?_, hj⟩
    · rw [m_L_draw, m_X6_draw, j_zout c, Option.bind_some, if_pos z0, Option.bind_some, if_neg j_s4, if_pos rfl, j_o1]
    · rw [m_X7_draw, j_out (M := 20) (b := 20) rfl (by omega) c, Option.bind_some, mt_j, if_pos z0]; dsimp only; rw [j_t10, Option.bind_some, if_neg n1]
  · rcases pk_ix p2 (n := 21) (by omega) with c' | c' | ⟨m, hm, rfl⟩
    · exact absurd (Or.inl c') c
    · exact absurd (Or.inr c') c
    · have hm20 : m ≤ 20 := by omega
      obtain ⟨hd', th', co', se', tr', a1, a2⟩ := t_become (s := p1) (n := m) (fu := fu) hm20 hfu hd th co se tr
      obtain ⟨kd', th2', fi', ot', la', b1, b2⟩ := tm_make (s := p1) (n := m) (fu := fu) hm20 hfu kd th2 fi ot la
      refine ⟨0, nI (t_cnt p1 m 62), p1, nI (t_cnt p1 m 62), p1, m, t_hd p1 m, hd', th', co', se', tr', kd', th2', fi', ot', la', ?_, ?_, w_drawn p1 hm20, w_cdrawn a1, w_mdrawn b1⟩
      · rw [m_L_draw, m_X6_draw, j_zin hm20, Option.bind_some, if_neg n1, a2, Option.bind_some, m_X5_partsHad, Option.bind_some, Option.bind_some, if_pos rfl, if_pos j_00, j_o0]
      · rw [m_X7_draw, j_inn (M := 20) (b := 20) rfl hm20 (by omega), Option.bind_some, mt_j, if_neg n1]; dsimp only; rw [j_t00, Option.bind_some, if_pos z0, b2, Option.bind_some, j_all hfu hm20 b1, Option.bind_some]
/-- saved, and taken back -/
theorem j_save {T : Nat → Nat} {th : Nat → Int32} (ht : ∀ p, p < 62 → th p = nI (T p) ∧ T p ≤ 1) (G : (Nat → Int32) → Option (Int32 × Int32 × Int32 × Int32 × Int32 × Int32 × (Nat → Int32) × (Nat → Int32) × (Nat → Int32) × (Nat → Int32) × (Nat → Int32) × (Nat → Int32) × (Nat → Int32))) : ∀ (x p fu : Nat), p + x = 62 → x < fu → ∀ ke : Nat → Int32, (∀ q, q < p → ke q = nI (T q)) → ∃ ke' : Nat → Int32, (∀ q, q < 62 → ke' q = nI (T q)) ∧ m_X7_find_L66 th (fun _ m => G m) fu (nI p) ke = G ke' := by
  intro x
  induction x with
  | zero =>
    intro p fu hx hf ke hk
    obtain ⟨f, rfl⟩ : ∃ g, fu = g + 1 := ⟨fu - 1, by omega⟩
    have e : p = 62 := by omega
    subst e
    have g0 : (62 : Int32) ≤ nI 62 := nI_le (a := 62) (b := 62) (by omega) (by omega)
    exact ⟨ke, hk, by rw [m_X7_find_L66, if_pos g0]⟩
  | succ x ih =>
    intro p fu hx hf ke hk
    obtain ⟨f, rfl⟩ : ∃ g, fu = g + 1 := ⟨fu - 1, by omega⟩
    have hp : p < 62 := by omega
    have g0 : ¬ (62 : Int32) ≤ nI p := fun z => by have := (nI_leI (a := 62) (b := p) (by omega) (by omega)).mp z; omega
    have hi := t_in hp (by omega)
    have e1 : nI (T p) &&& 1 = nI (T p) := by
      have : ∀ x, x < 2 → nI x &&& 1 = nI x := by decide
      exact this _ (by have := (ht p hp).2; omega)
    obtain ⟨ke', k1, k2⟩ := ih (p + 1) f (by omega) (by omega) (upd ke p (nI (T p))) (fun q hq => by
      by_cases c : q = p
      · subst c; rw [pk_us]
      · rw [pk_un c]; exact hk q (by omega))
    refine ⟨ke', k1, ?_⟩
    rw [m_X7_find_L66, if_neg g0, if_pos hi, if_pos hi, nI_clamp (by omega), (ht p hp).1, e1, nI_1, k2]
theorem j_back {T : Nat → Nat} {th : Nat → Int32} (ht : ∀ p, p < 62 → th p = nI (T p) ∧ T p ≤ 1) (G : (Nat → Int32) → Option (Int32 × Int32 × Int32 × Int32 × Int32 × Int32 × (Nat → Int32) × (Nat → Int32) × (Nat → Int32) × (Nat → Int32) × (Nat → Int32) × (Nat → Int32) × (Nat → Int32))) : ∀ (x p fu : Nat), p + x = 62 → x < fu → ∀ ke : Nat → Int32, (∀ q, q < p → ke q = nI (T q)) → ∃ ke' : Nat → Int32, (∀ q, q < 62 → ke' q = nI (T q)) ∧ m_X7_find_L170 th (fun _ m => G m) fu (nI p) ke = G ke' := by
  intro x
  induction x with
  | zero =>
    intro p fu hx hf ke hk
    obtain ⟨f, rfl⟩ : ∃ g, fu = g + 1 := ⟨fu - 1, by omega⟩
    have e : p = 62 := by omega
    subst e
    have g0 : (62 : Int32) ≤ nI 62 := nI_le (a := 62) (b := 62) (by omega) (by omega)
    exact ⟨ke, hk, by rw [m_X7_find_L170, if_pos g0]⟩
  | succ x ih =>
    intro p fu hx hf ke hk
    obtain ⟨f, rfl⟩ : ∃ g, fu = g + 1 := ⟨fu - 1, by omega⟩
    have hp : p < 62 := by omega
    have g0 : ¬ (62 : Int32) ≤ nI p := fun z => by have := (nI_leI (a := 62) (b := p) (by omega) (by omega)).mp z; omega
    have hi := t_in hp (by omega)
    have e1 : nI (T p) &&& 1 = nI (T p) := by
      have : ∀ x, x < 2 → nI x &&& 1 = nI x := by decide
      exact this _ (by have := (ht p hp).2; omega)
    obtain ⟨ke', k1, k2⟩ := ih (p + 1) f (by omega) (by omega) (upd ke p (nI (T p))) (fun q hq => by
      by_cases c : q = p
      · subst c; rw [pk_us]
      · rw [pk_un c]; exact hk q (by omega))
    refine ⟨ke', k1, ?_⟩
    rw [m_X7_find_L170, if_neg g0, if_pos hi, if_pos hi, nI_clamp (by omega), (ht p hp).1, e1, nI_1, k2]
/-- seed after seed, both in step -/
theorem j_seeds {k m N FU : Nat} {s0 : Int32} (hfu : 63 ≤ FU) (hk : k < 5) (hm : m ≤ 20) (hN : N ≤ 50)
    (G : Int32 → (Nat → Int32) → (Nat → Int32) → (Nat → Int32) → (Nat → Int32) → (Nat → Int32) → (Nat → Int32) → Option (Int32 × Int32 × Int32 × Int32 × Int32 × Int32 × (Nat → Int32) × (Nat → Int32) × (Nat → Int32) × (Nat → Int32) × (Nat → Int32) × (Nat → Int32) × (Nat → Int32))) :
    ∀ (x i f1 f2 : Nat), i + x = N → x < f1 → x + 1 < f2 → ∀ (ts tz tp c1 c2 c3 c4 : Int32) (hd th co se tr me sk kd th2 fi ot la far : Nat → Int32),
      ∃ (v ts' tz' tp' : Int32) (hd' th' co' se' tr' me' sk' kd' th2' fi' ot' la' far' : Nat → Int32),
        m_X6_find_L50 FU (nI k) s0 (nI m) (nI N) (fun _ a b c d e f g h i j => some ("", ((-1) : Int32), a, b, c, d, e, f, g, h, i, j)) f1 (nI i) ts tz tp hd th co se tr me sk = some ("", v, ts', tz', tp', hd', th', co', se', tr', me', sk') ∧
        m_X7_find_L102 FU (nI k) s0 (nI m) (nI N) (fun a _ _ _ _ _ _ b c d e f g => G a b c d e f g) f2 (-1) 1 (nI i) c1 c2 c3 c4 kd th2 fi ot la far = G v kd' th2' fi' ot' la' far' := by
  intro x
  have z0 : (0 : Int32) = 0 := rfl
  have n1 : ¬ (1 : Int32) = 0 := by decide
  induction x with
  | zero =>
    intro i f1 f2 hx hf1 hf2 ts tz tp c1 c2 c3 c4 hd th co se tr me sk kd th2 fi ot la far
    obtain ⟨g1, rfl⟩ : ∃ g, f1 = g + 1 := ⟨f1 - 1, by omega⟩
    obtain ⟨g2, rfl⟩ : ∃ g, f2 = g + 1 := ⟨f2 - 1, by omega⟩
    have g0 : nI N ≤ nI i := nI_le (by omega) (by omega)
    refine ⟨-1, ts, tz, tp, hd, th, co, se, tr, me, sk, kd, th2, fi, ot, la, far, ?_, ?_⟩
    · rw [m_X6_find_L50, if_pos g0]
    · rw [m_X7_find_L102, if_pos g0]
  | succ x ih =>
    intro i f1 f2 hx hf1 hf2 ts tz tp c1 c2 c3 c4 hd th co se tr me sk kd th2 fi ot la far
    obtain ⟨g1, rfl⟩ : ∃ g, f1 = g + 1 := ⟨f1 - 1, by omega⟩
    obtain ⟨g2, rfl⟩ : ∃ g, f2 = g + 1 := ⟨f2 - 1, by omega⟩
    have g0 : ¬ nI N ≤ nI i := nI_ge (by omega) (by omega)
    obtain ⟨hd1, th1, co1, se1, tr1, a1, a2⟩ := t_become (s := s0 + nI i) (n := m) (fu := FU) hm hfu hd th co se tr
    obtain ⟨kd1, th21, fi1, ot1, la1, b1, b2⟩ := tm_make (s := s0 + nI i) (n := m) (fu := FU) hm hfu kd th2 fi ot la
    obtain ⟨b, hb, ⟨me1, sk1, e1⟩, far1, e2⟩ := v_says hfu hk (w_drawn (s0 + nI i) hm) (w_cdrawn a1) (w_mdrawn b1) me sk far
    rcases hb with rfl | rfl
    · obtain ⟨v, ts', tz', tp', hd', th', co', se', tr', me', sk', kd', th2', fi', ot', la', far', k1, k2⟩ := ih (i + 1) g1 g2 (by omega) (by omega) (by omega) (s0 + nI i) (nI m) (nI (t_cnt (s0 + nI i) m 62)) (nI (1 + m)) (nI (1 + m / 2)) (nI (1 + m)) (s0 + nI i) hd1 th1 co1 se1 tr1 me1 sk1 kd1 th21 fi1 ot1 la1 far1
      refine ⟨v, ts', tz', tp', hd', th', co', se', tr', me', sk', kd', th2', fi', ot', la', far', ?_, ?_⟩
      · rw [m_X6_find_L50, if_neg g0, a2, Option.bind_some, e1, Option.bind_some, if_pos z0, nI_1, k1]
      · rw [m_X7_find_L102, if_neg g0, if_neg n1, b2, Option.bind_some, e2, Option.bind_some, mt_j, if_pos z0]; dsimp only
        rw [if_neg n1, nI_1, k2]
    · refine ⟨s0 + nI i, s0 + nI i, nI m, nI (t_cnt (s0 + nI i) m 62), hd1, th1, co1, se1, tr1, me1, sk1, kd1, th21, fi1, ot1, la1, far1, ?_, ?_⟩
      · rw [m_X6_find_L50, if_neg g0, a2, Option.bind_some, e1, Option.bind_some, if_neg n1]
      · obtain ⟨g3, rfl⟩ : ∃ g, g2 = g + 1 := ⟨g2 - 1, by omega⟩
        rw [m_X7_find_L102, if_neg g0, if_neg n1, b2, Option.bind_some, e2, Option.bind_some, mt_j, if_neg n1]; dsimp only
        rw [if_pos z0, m_X7_find_L102]
        by_cases c : nI N ≤ nI i + 1
        · rw [if_pos c]
        · rw [if_neg c, if_pos z0]
theorem j_t11 : m_X7_throwing 1 1 = some (1, 1) := by decide
theorem w_m_t {H T0 T A B C : Nat → Nat} {kd th th' fi ot la : Nat → Int32} (h : w_m H T0 A B C kd th fi ot la) (ht : ∀ p, p < 62 → th' p = nI (T p)) : w_m H T A B C kd th' fi ot la := fun p hp => ⟨(h p hp).1, ht p hp, (h p hp).2.2⟩
theorem j_find {s : Int32} {n fu : Nat} {T : Nat → Nat} {hd th co se tr kd th2 fi ot la : Nat → Int32} (hfu : 63 ≤ fu) (hj : j_town s n T hd th co se tr kd th2 fi ot la) (p1 p2 p3 p4 ts tz tp : Int32) (xhd xth xco xse xtr me sk ke far : Nat → Int32) (o : Nat → Int64) : ∃ (k v ts' tz' tp' : Int32) (xhd' xth' xco' xse' xtr' me' sk' kd' th2' fi' ot' la' ke' far' : Nat → Int32), m_L_find fu p1 p2 p3 p4 ts tz tp xhd xth xco xse xtr me sk o = some (k, ts', tz', tp', xhd', xth', xco', xse', xtr', me', sk', j_o o k v) ∧ m_X7_find fu p1 p2 p3 p4 (nI (1 + n)) (nI (1 + n / 2)) (nI (1 + n)) s kd th2 fi ot la ke far = some (v, k, nI (1 + n), nI (1 + n / 2), nI (1 + n), s, kd', th2', fi', ot', la', ke', far') ∧ j_town s n T hd th co se tr kd' th2' fi' ot' la' := by
  have z0 : (0 : Int32) = 0 := rfl
  have n1 : ¬ (1 : Int32) = 0 := by decide
  have hn := w_ok_n20 hj.1
  have e6 : ∀ v ts' tz' tp' xhd' xth' xco' xse' xtr' me' sk', m_X6_find fu p1 p2 p3 p4 ts tz tp xhd xth xco xse xtr me sk = some ("", v, ts', tz', tp', xhd', xth', xco', xse', xtr', me', sk') → m_L_find fu p1 p2 p3 p4 ts tz tp xhd xth xco xse xtr me sk o = some (0, ts', tz', tp', xhd', xth', xco', xse', xtr', me', sk', j_o o 0 v) := fun v ts' tz' tp' xhd' xth' xco' xse' xtr' me' sk' e => by
    rw [m_L_find, e, Option.bind_some, if_pos rfl, if_pos j_00, j_o0]
  by_cases c : p1 < 0 ∨ nI 5 ≤ p1
  · refine ⟨1, 0, ts, tz, tp, xhd, xth, xco, xse, xtr, me, sk, kd, th2, fi, ot, la, ke, far, ?_, ?_, hj⟩
    · rw [m_L_find, m_X6_find, j_vout c, Option.bind_some, if_pos z0, Option.bind_some, if_neg j_s1, if_pos rfl, j_o1]
    · rw [m_X7_find, j_out (M := 4) (b := 4) rfl (by omega) c, Option.bind_some, mt_j, if_pos z0]; dsimp only
      obtain ⟨q2, hq2⟩ : ∃ q, m_X7_in p3 0 20 = some q := by
        rw [m_X7_in]; repeat' split
        all_goals exact ⟨_, rfl⟩
      obtain ⟨q4, hq4⟩ : ∃ q, m_X7_in p4 1 50 = some q := by
        rw [m_X7_in]; repeat' split
        all_goals exact ⟨_, rfl⟩
      rw [hq2, Option.bind_some, mt_j, mt_j]
      by_cases c2 : q2 = 0
      · rw [if_pos c2]; dsimp only; rw [j_t11, Option.bind_some, if_neg n1]
      · rw [if_neg c2, hq4, Option.bind_some]
        by_cases c4 : q4 = 0
        · rw [if_pos c4]; dsimp only; rw [j_t11, Option.bind_some, if_neg n1]
        · rw [if_neg c4]; dsimp only; rw [j_t10, Option.bind_some, if_neg n1]
  · rcases pk_ix p1 (n := 5) (by omega) with c' | c' | ⟨k, hk, rfl⟩
    · exact absurd (Or.inl c') c
    · exact absurd (Or.inr c') c
    · have ek : m_X7_in (nI k) 0 4 = some 1 := j_inn (M := 4) (b := 4) rfl (by omega) (by omega)
      by_cases d : p3 < 0 ∨ nI 21 ≤ p3
      · refine ⟨2, 0, ts, tz, tp, xhd, xth, xco, xse, xtr, me, sk, kd, th2, fi, ot, la, ke, far, ?_, ?_, hj⟩
        · rw [m_L_find, m_X6_find, j_vin hk, Option.bind_some, if_neg n1, j_zout d, Option.bind_some, mt_j, if_pos z0]; dsimp only; rw [Option.bind_some, if_neg j_s4, if_neg j_s5, if_pos rfl, j_o2]
        · rw [m_X7_find, ek, Option.bind_some, mt_j, if_neg n1]; dsimp only
          rw [j_out (M := 20) (b := 20) rfl (by omega) d, Option.bind_some, mt_j, mt_j, if_pos z0]; dsimp only; rw [j_t01, Option.bind_some, if_neg n1]
      · rcases pk_ix p3 (n := 21) (by omega) with c' | c' | ⟨m, hm, rfl⟩
        · exact absurd (Or.inl c') d
        · exact absurd (Or.inr c') d
        · have em : m_X7_in (nI m) 0 20 = some 1 := j_inn (M := 20) (b := 20) rfl (by omega) (by omega)
          by_cases c1 : p4 < 1
          · refine ⟨2, 0, ts, tz, tp, xhd, xth, xco, xse, xtr, me, sk, kd, th2, fi, ot, la, ke, far, ?_, ?_, hj⟩
            · rw [m_L_find, m_X6_find, j_vin hk, Option.bind_some, if_neg n1, j_zin (by omega), Option.bind_some, mt_j, if_neg n1, if_pos c1]; dsimp only; rw [Option.bind_some, if_neg j_s4, if_neg j_s5, if_pos rfl, j_o2]
            · rw [m_X7_find, ek, Option.bind_some, mt_j, if_neg n1]; dsimp only
              rw [em, Option.bind_some, mt_j, mt_j, if_neg n1, m_X7_in, if_pos c1, Option.bind_some, if_pos z0]; dsimp only; rw [j_t01, Option.bind_some, if_neg n1]
          · by_cases c5 : p4 ≤ 50
            · obtain ⟨N, hN, rfl⟩ := nI_of2 (x := p4) (M := 50) (n := 50) (by decide) (fun z => c1 (Int32.lt_trans z (by decide))) c5
              have w := hj.1
              have ht2 : ∀ p, p < 62 → th2 p = nI (T p) ∧ T p ≤ 1 := fun p hp => ⟨(hj.2.2 p hp).2.1, (w_b3 w hp).2.1⟩
              have eN : m_X7_in (nI N) 1 50 = some 1 := by
                rw [m_X7_in, if_neg c1, if_neg (fun z => Int32.not_le.mpr z c5)]
              obtain ⟨kN, s1, s2⟩ := j_save (T := T) ht2 (fun ke => (m_X7_find_L102 fu (nI k) p2 (nI m) (nI N) (fun (x7_159 : Int32) (x8_159 : Int32) (x9_159 : Int32) (v_corners_159 : Int32) (v_units_159 : Int32) (v_calls_159 : Int32) (v_seed_159 : Int32) (v_kind_159 : Nat → Int32) (v_there_159 : Nat → Int32) (v_first_159 : Nat → Int32) (v_other_159 : Nat → Int32) (v_last_159 : Nat → Int32) (v_far_159 : Nat → Int32) => (m_X7_make fu s (nI (1 + n) - (1 : Int32)) v_kind_159 v_there_159 v_first_159 v_other_159 v_last_159).bind fun q5 => m_X7_find_L170 ke (fun (x9_197 : Int32) (v_there_197 : Nat → Int32) => some (x7_159, (0 : Int32), q5.1, q5.2.1, q5.2.2.1, q5.2.2.2.1, q5.2.2.2.2.1, v_there_197, q5.2.2.2.2.2.2.1, q5.2.2.2.2.2.2.2.1, q5.2.2.2.2.2.2.2.2, ke, v_far_159)) fu (0 : Int32) q5.2.2.2.2.2.1) fu ((-1) : Int32) (1 : Int32) (0 : Int32) (nI (1 + n)) (nI (1 + n / 2)) (nI (1 + n)) s kd th2 fi ot la far)) 62 0 fu (by omega) (by omega) ke (fun q hq => by omega)
              obtain ⟨v, ts', tz', tp', hd', th', co', se', tr', me', sk', kd', th2', fi', ot', la', far', k1, k2⟩ := j_seeds (k := k) (m := m) (N := N) (FU := fu) (s0 := p2) hfu hk (by omega) hN (fun a kd1 th1 fi1 ot1 la1 far1 => (m_X7_make fu s (nI (1 + n) - (1 : Int32)) kd1 th1 fi1 ot1 la1).bind fun q5 => m_X7_find_L170 kN (fun (x9_197 : Int32) (v_there_197 : Nat → Int32) => some (a, (0 : Int32), q5.1, q5.2.1, q5.2.2.1, q5.2.2.2.1, q5.2.2.2.2.1, v_there_197, q5.2.2.2.2.2.2.1, q5.2.2.2.2.2.2.2.1, q5.2.2.2.2.2.2.2.2, kN, far1)) fu (0 : Int32) q5.2.2.2.2.2.1) N 0 fu fu (by omega) (by omega) (by omega) ts tz tp (nI (1 + n)) (nI (1 + n / 2)) (nI (1 + n)) s xhd xth xco xse xtr me sk kd th2 fi ot la far
              obtain ⟨kd3, th3, fi3, ot3, la3, b1, b2⟩ := tm_make (s := s) (n := n) (fu := fu) hn hfu kd' th2' fi' ot' la'
              obtain ⟨th4, t1, t2⟩ := j_back (T := T) (th := kN) (fun p hp => ⟨s1 p hp, (w_b3 w hp).2.1⟩) (fun t => some (v, (0 : Int32), nI (1 + n), nI (1 + n / 2), nI (1 + n), s, kd3, t, fi3, ot3, la3, kN, far')) 62 0 fu (by omega) (by omega) th3 (fun q hq => by omega)
              refine ⟨0, v, ts', tz', tp', hd', th', co', se', tr', me', sk', kd3, th4, fi3, ot3, la3, kN, far', e6 _ _ _ _ _ _ _ _ _ _ _ ?_, ?_, w, hj.2.1, w_m_t (w_mdrawn b1) t1⟩
              · rw [m_X6_find, j_vin hk, Option.bind_some, if_neg n1, j_zin (by omega), Option.bind_some, mt_j, if_neg n1, if_neg c1, if_pos c5, mt_j]
                exact k1
              · rw [m_X7_find, ek, Option.bind_some, mt_j, if_neg n1]; dsimp only
                rw [em, Option.bind_some, mt_j, mt_j, if_neg n1, eN, Option.bind_some, if_neg n1]; dsimp only; rw [j_t00, Option.bind_some, if_pos z0, mt_j]
                refine Eq.trans s2 ?_
                refine Eq.trans k2 ?_
                rw [j_pred, b2, Option.bind_some]
                exact t2
            · refine ⟨2, 0, ts, tz, tp, xhd, xth, xco, xse, xtr, me, sk, kd, th2, fi, ot, la, ke, far, ?_, ?_, hj⟩
              · rw [m_L_find, m_X6_find, j_vin hk, Option.bind_some, if_neg n1, j_zin (by omega), Option.bind_some, mt_j, if_neg n1, if_neg c1, if_neg c5]; dsimp only; rw [Option.bind_some, if_neg j_s4, if_neg j_s5, if_pos rfl, j_o2]
              · rw [m_X7_find, ek, Option.bind_some, mt_j, if_neg n1]; dsimp only
                rw [em, Option.bind_some, mt_j, mt_j, if_neg n1, m_X7_in, if_neg c1, if_pos (Int32.not_le.mp c5), Option.bind_some, if_pos z0]; dsimp only; rw [j_t01, Option.bind_some, if_neg n1]
