theorem r_it_bd {T A B C : Nat → Nat} (a k v : Nat) : r_it T A B C (r_0 a) k v ≤ 1000000 := Nat.le_trans (r_it_le v k) (r_0_le a v)
theorem r_it_s {T A B C d : Nat → Nat} (k : Nat) : r_it T A B C d (k + 1) = r_ps T A B C (r_it T A B C d k) 30 := by rw [r_it]
/-- the class's rounds -/
theorem r_crounds {T A B C : Nat → Nat} {th co se tr : Nat → Int32} {a FU : Nat} (hFU : 31 ≤ FU) (hr : r_ok T A B C) (hrow : ∀ p, p < 62 → th p = nI (T p) ∧ T p ≤ 1 ∧ co p = nI (A p) ∧ se p = nI (B p) ∧ tr p = nI (C p)) (G : (Nat → Int32) → Option (Nat → Int32)) : ∀ (x j fu : Nat), j + x = 21 → x < fu → ∀ (q : Int32) (me : Nat → Int32), r_row (r_it T A B C (r_0 a) j) me → (q = 0 → r_it T A B C (r_0 a) j = r_D T A B C a) → ∃ me', r_row (r_D T A B C a) me' ∧ m_X3_measureFrom_L36 FU th co se tr (fun _ _ m => G m) fu q (nI j) me = G me' := by
  intro x
  induction x with
  | zero =>
    intro j fu hj hf q me hm hq
    obtain ⟨f, rfl⟩ : ∃ f, fu = f + 1 := ⟨fu - 1, by omega⟩
    have e : j = 21 := by omega
    subst e
    have g0 : (21 : Int32) ≤ nI 21 := nI_le (a := 21) (b := 21) (by omega) (by omega)
    exact ⟨me, hm, by rw [m_X3_measureFrom_L36, if_pos g0]⟩
  | succ x ih =>
    intro j fu hj hf q me hm hq
    obtain ⟨f, rfl⟩ : ∃ f, fu = f + 1 := ⟨fu - 1, by omega⟩
    have g1 : ¬ (21 : Int32) ≤ nI j := fun z => by have := (nI_leI (a := 21) (b := j) (by omega) (by omega)).mp z; omega
    by_cases c : q = 0
    · refine ⟨me, ?_, by rw [m_X3_measureFrom_L36, if_neg g1, if_pos c]⟩
      rw [← hq c]; exact hm
    · have h0 : r_row (r_ps T A B C (r_it T A B C (r_0 a) j) 0) me := hm
      obtain ⟨me1, h1, h2⟩ := r_cpass hr hrow (r_it_bd a j) (fun x3 _ m => m_X3_measureFrom_L36 FU th co se tr (fun _ _ m => G m) f x3 (nI j + (1 : Int32)) m) 30 0 FU (by omega) (by omega) me h0
      obtain ⟨me', h3, h4⟩ := ih (j + 1) f (by omega) (by omega) (nI (r_ch T A B C (r_it T A B C (r_0 a) j) 30)) me1 (by rw [r_it_s]; exact h1) (fun z => by
        have l := r_ch_le (T := T) (A := A) (B := B) (C := C) (d := r_it T A B C (r_0 a) j) 30
        have z' := (nI_eq (b := 0) (by omega) (by omega)).mp z
        rw [r_it_s, r_ch_0 30 z']
        exact r_early hr z')
      refine ⟨me', h3, ?_⟩
      rw [m_X3_measureFrom_L36, if_neg g1, if_neg c, mt_j, ← h4, ← nI_1]
      exact h2
theorem r_cstart {a : Nat} (ha : a < 21) (G : (Nat → Int32) → Option (Nat → Int32)) : ∀ (x v fu : Nat), v + x = 21 → x < fu → ∀ me : Nat → Int32, (∀ u, u < v → me u = nI (r_0 a u)) → ∃ me', r_row (r_0 a) me' ∧ m_X3_measureFrom_L2 (nI a) (fun _ m => G m) fu (nI v) me = G me' := by
  intro x
  induction x with
  | zero =>
    intro v fu hv hf me hm
    obtain ⟨f, rfl⟩ : ∃ f, fu = f + 1 := ⟨fu - 1, by omega⟩
    have e : v = 21 := by omega
    subst e
    have g0 : (21 : Int32) ≤ nI 21 := nI_le (a := 21) (b := 21) (by omega) (by omega)
    exact ⟨me, hm, by rw [m_X3_measureFrom_L2, if_pos g0]⟩
  | succ x ih =>
    intro v fu hv hf me hm
    obtain ⟨f, rfl⟩ : ∃ f, fu = f + 1 := ⟨fu - 1, by omega⟩
    have g1 : ¬ (21 : Int32) ≤ nI v := fun z => by have := (nI_leI (a := 21) (b := v) (by omega) (by omega)).mp z; omega
    obtain ⟨me', h1, h2⟩ := ih (v + 1) f (by omega) (by omega) (upd me v (nI (r_0 a v))) (fun u hu => by
      by_cases c : u = v
      · subst c; rw [pk_us]
      · rw [pk_un c]; exact hm u (by omega))
    refine ⟨me', h1, ?_⟩
    rw [m_X3_measureFrom_L2, if_neg g1, mt_j, ← h2]
    have hi := t_in (e := v) (N := 21) (by omega) (by omega)
    by_cases c : v = a
    · have z : nI (r_0 a v) = 0 := by rw [r_0, if_pos c]; rfl
      rw [if_pos (by rw [c])]
      dsimp only
      rw [if_pos hi, nI_clamp (by omega), nI_1, z]
    · have z : nI (r_0 a v) = 1000000 := by rw [r_0, if_neg c]; rfl
      rw [if_neg (fun z => c ((nI_eq (by omega) (by omega)).mp z))]
      dsimp only
      rw [if_pos hi, nI_clamp (by omega), nI_1, z]
/-- the class's measureFrom -/
theorem r_cmeasure {T A B C : Nat → Nat} {th co se tr : Nat → Int32} {a fu : Nat} (hfu : 31 ≤ fu) (ha : a < 21) (hr : r_ok T A B C) (hrow : ∀ p, p < 62 → th p = nI (T p) ∧ T p ≤ 1 ∧ co p = nI (A p) ∧ se p = nI (B p) ∧ tr p = nI (C p)) (me : Nat → Int32) : ∃ me', r_row (r_D T A B C a) me' ∧ m_X3_measureFrom fu (nI a) me th co se tr = some me' := by
  obtain ⟨m1, h1, h2⟩ := r_cstart ha (fun m => m_X3_measureFrom_L36 fu th co se tr (fun _ _ m => some m) fu (1 : Int32) (0 : Int32) m) 21 0 fu (by omega) (by omega) me (fun u hu => by omega)
  obtain ⟨m2, h3, h4⟩ := r_crounds (a := a) hfu hr hrow (fun m => some m) 21 0 fu (by omega) (by omega) (1 : Int32) m1 h1 (fun z => absurd z (by decide))
  refine ⟨m2, h3, ?_⟩
  rw [m_X3_measureFrom, mt_j, ← h4]
  exact h2
theorem r_D_bd {T A B C : Nat → Nat} (a v : Nat) : r_D T A B C a v ≤ 1000000 := r_it_bd a 21 v
/-- the metres of a way, or -1 -/
def r_way (T A B C : Nat → Nat) (a b : Nat) : Int32 := if 1000000 ≤ r_D T A B C a b then (-1) else nI (r_D T A B C a b)
theorem r_metresTo {T A B C : Nat → Nat} {a b : Nat} {me : Nat → Int32} (hb : b < 21) (h : r_row (r_D T A B C a) me) : m_X3_metresTo (nI b) me = some (r_way T A B C a b) := by
  have l := r_D_bd (T := T) (A := A) (B := B) (C := C) a b
  rw [m_X3_metresTo, r_isCorner hb, Option.bind_some, if_neg (by decide), if_pos (t_in hb (by omega)), if_pos (t_in hb (by omega)), nI_clamp (by omega), h b hb, r_way]
  by_cases c : 1000000 ≤ r_D T A B C a b
  · have g : (1000000 : Int32) ≤ nI (r_D T A B C a b) := (nI_leI (a := 1000000) (by omega) (by omega)).mpr c
    rw [if_pos g, if_pos c]
  · have g : ¬ (1000000 : Int32) ≤ nI (r_D T A B C a b) := fun z => c ((nI_leI (a := 1000000) (by omega) (by omega)).mp z)
    rw [if_neg g, if_neg c]
