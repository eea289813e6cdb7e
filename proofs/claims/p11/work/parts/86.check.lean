/-! check, on both sides: that it ends, and that the tape is used up. -/
def o_T {α : Type} (P : α → Prop) (a : Option α) : Prop := ∃ q, a = some q ∧ P q
theorem o_some {α : Type} {P : α → Prop} {q : α} (h : P q) : o_T P (some q) := ⟨q, rfl, h⟩
theorem o_bind {α β : Type} {P : α → Prop} {Q : β → Prop} {a : Option α} {f : α → Option β} (h : o_T P a) (h2 : ∀ q, P q → o_T Q (f q)) : o_T Q (a.bind f) := by
  obtain ⟨q, rfl, hq⟩ := h
  exact h2 q hq
theorem o_ite {α : Type} {Q : α → Prop} {c : Prop} [Decidable c] {a b : Option α} (h : c → o_T Q a) (h2 : ¬ c → o_T Q b) : o_T Q (if c then a else b) := by
  by_cases z : c
  · rw [if_pos z]; exact h z
  · rw [if_neg z]; exact h2 z
theorem o_j0 {β : Type} {Q : β → Prop} {k : Unit → Option β} {f : (Unit → Option β) → Option β} (hk : o_T Q (k ())) (hf : ∀ K : Unit → Option β, o_T Q (K ()) → o_T Q (f K)) : o_T Q (mt_j k f) := hf k hk
theorem o_j1 {α β : Type} {Q : β → Prop} (P : α → Prop) {k : α → Option β} {f : (α → Option β) → Option β} (hk : ∀ a, P a → o_T Q (k a)) (hf : ∀ K : α → Option β, (∀ a, P a → o_T Q (K a)) → o_T Q (f K)) : o_T Q (mt_j k f) := hf k hk
theorem o_j2 {α γ β : Type} {Q : β → Prop} (P : α → γ → Prop) {k : α → γ → Option β} {f : (α → γ → Option β) → Option β} (hk : ∀ a b, P a b → o_T Q (k a b)) (hf : ∀ K : α → γ → Option β, (∀ a b, P a b → o_T Q (K a b)) → o_T Q (f K)) : o_T Q (mt_j k f) := hf k hk
theorem o_j3 {α γ δ β : Type} {Q : β → Prop} (P : α → γ → δ → Prop) {k : α → γ → δ → Option β} {f : (α → γ → δ → Option β) → Option β} (hk : ∀ a b c, P a b c → o_T Q (k a b c)) (hf : ∀ K : α → γ → δ → Option β, (∀ a b c, P a b c → o_T Q (K a b c)) → o_T Q (f K)) : o_T Q (mt_j k f) := hf k hk
theorem o_in {q M : Int32} {N : Nat} (hM : M = nI N) (hN : N < 2 ^ 31) (h : ¬ q < 0) (h2 : ¬ M ≤ q) : ¬ (q < 0 ∨ N ≤ q.toNatClampNeg) := by
  rcases pk_ix q hN with c | c | ⟨j, hj, rfl⟩
  · exact absurd c h
  · exact absurd (hM ▸ c) h2
  · exact t_in hj hN
/-- the class -/
theorem o_byteAt (p l : Int32) (f : Nat → Int32) : o_T (fun _ => True) (m_X4_byteAt p l f) := by
  rw [m_X4_byteAt]
  exact o_ite (fun _ => o_some trivial) (fun c1 => o_ite (fun _ => o_some trivial) (fun _ => o_ite (fun _ => o_some trivial) (fun c3 => o_ite (fun _ => o_some trivial) (fun c => absurd (o_in (N := 600) rfl (by omega) c1 c3) c))))
theorem o_wrongAt (p : Int32) : o_T (fun q => q.1 = 0) (m_X2_wrongAt p) := o_some rfl
theorem o_bit0 {x : Int32} (h : x = 0) : x &&& 1 = x := by subst h; decide
theorem o_isDigit (p : Int32) : o_T (fun _ => True) (m_X2_isDigit p) := by
  rw [m_X2_isDigit]
  exact o_ite (fun _ => o_some trivial) (fun _ => o_ite (fun _ => o_some trivial) (fun _ => o_some trivial))
theorem o_kind (p : Int32) : o_T (fun _ => True) (m_X2_kindOfLetter p) := by
  rw [m_X2_kindOfLetter]
  exact o_ite (fun _ => o_some trivial) (fun _ => o_ite (fun _ => o_some trivial) (fun _ => o_ite (fun _ => o_some trivial) (fun _ => o_some trivial)))
theorem o_most (p : Int32) : o_T (fun _ => True) (m_X2_mostRowsOf p) := by
  rw [m_X2_mostRowsOf]
  exact o_ite (fun _ => o_some trivial) (fun _ => o_ite (fun _ => o_some trivial) (fun _ => o_some trivial))
theorem o_readByte (c p w l : Int32) (f : Nat → Int32) : o_T (fun _ => True) (m_X2_readByte c p w l f) := by
  rw [m_X2_readByte]
  exact o_bind (o_byteAt _ _ _) (fun q _ => o_ite (fun _ => o_some trivial) (fun _ => o_bind (o_wrongAt _) (fun q3 h3 => o_ite (fun _ => o_some trivial) (fun c => absurd (o_bit0 h3) c))))
theorem o_readL {Q : Int32 × Int32 × Int32 × Int32 → Prop} (pl l : Int32) (f : Nat → Int32) (K : Int32 → Int32 → Option (Int32 × Int32 × Int32 × Int32)) (hK : ∀ a b, o_T Q (K a b)) : ∀ (d j fu : Nat) (x y : Int32), j + d = 4 → d < fu → y = pl + nI j → o_T Q (m_X2_readNumber_L8 pl l f K fu x y) := by
  intro d
  have e : ∀ j, pl + nI j - pl = nI j := fun j => by rw [Int32.add_comm, Int32.add_sub_cancel]
  induction d with
  | zero =>
    intro j fu x y hj hf hy
    obtain ⟨g, rfl⟩ : ∃ g, fu = g + 1 := ⟨fu - 1, by omega⟩
    have : j = 4 := by omega
    subst this
    have g0 : (4 : Int32) ≤ y - pl := by rw [hy, e]; decide
    rw [m_X2_readNumber_L8, if_pos g0]
    exact hK _ _
  | succ d ih =>
    intro j fu x y hj hf hy
    obtain ⟨g, rfl⟩ : ∃ g, fu = g + 1 := ⟨fu - 1, by omega⟩
    rw [m_X2_readNumber_L8]
    refine o_ite (fun _ => hK _ _) (fun _ => o_bind (o_byteAt _ _ _) (fun q _ => o_bind (o_isDigit _) (fun q2 _ => o_ite (fun _ => hK _ _) (fun _ => o_bind (o_byteAt _ _ _) (fun q3 _ => ?_)))))
    exact ih (j + 1) g _ _ (by omega) (by omega) (by rw [hy, Int32.add_assoc, nI_1])
theorem o_readNumber {fu : Nat} (hfu : 63 ≤ fu) (p1 p2 pl nu w l : Int32) (f : Nat → Int32) : o_T (fun _ => True) (m_X2_readNumber fu p1 p2 pl nu w l f) := by
  rw [m_X2_readNumber]
  refine o_j2 (fun _ _ => True) (fun a b _ => ?_) (fun K hK => o_readL pl l f K (fun a b => hK a b trivial) 4 0 fu _ _ (by omega) (by omega) (by rw [nI_0, Int32.add_zero]))
  refine o_ite (fun _ => o_bind (o_wrongAt _) (fun q h => o_ite (fun _ => o_some trivial) (fun c => absurd (o_bit0 h) c))) (fun _ => o_bind (o_byteAt _ _ _) (fun q _ => ?_))
  refine o_j1 (fun _ => True) (fun a _ => ?_) (fun K hK => ?_)
  · refine o_j0 ?_ (fun K hK => ?_)
    · exact o_bind (o_wrongAt _) (fun q h => o_ite (fun _ => o_some trivial) (fun c => absurd (o_bit0 h) c))
    · exact o_ite (fun _ => o_ite (fun _ => hK) (fun _ => o_ite (fun _ => o_some trivial) (fun _ => hK))) (fun _ => hK)
  · refine o_j0 (hK _ trivial) (fun K2 hK2 => ?_)
    exact o_ite (fun _ => o_ite (fun _ => hK2) (fun _ => hK _ trivial)) (fun _ => hK2)
theorem o_readUnit {fu : Nat} (hfu : 63 ≤ fu) (pl nu w l : Int32) (f : Nat → Int32) : o_T (fun _ => True) (m_X2_readUnit fu pl nu w l f) := by
  rw [m_X2_readUnit]
  exact o_bind (o_readNumber hfu _ _ _ _ _ _ _) (fun q _ => o_ite (fun _ => o_some trivial) (fun _ => o_bind (o_readByte _ _ _ _ _) (fun q _ => o_ite (fun _ => o_some trivial) (fun _ => o_bind (o_readNumber hfu _ _ _ _ _ _ _) (fun q _ => o_ite (fun _ => o_some trivial) (fun _ => o_some trivial))))))
theorem o_readStreet {fu : Nat} (hfu : 63 ≤ fu) (pl nu w l : Int32) (f : Nat → Int32) : o_T (fun _ => True) (m_X2_readStreet fu pl nu w l f) := by
  rw [m_X2_readStreet]
  exact o_bind (o_readNumber hfu _ _ _ _ _ _ _) (fun q _ => o_ite (fun _ => o_some trivial) (fun _ => o_bind (o_readByte _ _ _ _ _) (fun q _ => o_ite (fun _ => o_some trivial) (fun _ => o_bind (o_readNumber hfu _ _ _ _ _ _ _) (fun q _ => o_ite (fun _ => o_some trivial) (fun _ => o_bind (o_readByte _ _ _ _ _) (fun q _ => o_ite (fun _ => o_some trivial) (fun _ => o_bind (o_readNumber hfu _ _ _ _ _ _ _) (fun q _ => o_ite (fun _ => o_some trivial) (fun _ => o_some trivial))))))))))
theorem o_readCall {fu : Nat} (hfu : 63 ≤ fu) (pl nu w l : Int32) (f : Nat → Int32) : o_T (fun _ => True) (m_X2_readCall fu pl nu w l f) := by
  rw [m_X2_readCall]
  exact o_bind (o_readNumber hfu _ _ _ _ _ _ _) (fun q _ => o_ite (fun _ => o_some trivial) (fun _ => o_bind (o_readByte _ _ _ _ _) (fun q _ => o_ite (fun _ => o_some trivial) (fun _ => o_bind (o_readNumber hfu _ _ _ _ _ _ _) (fun q _ => o_ite (fun _ => o_some trivial) (fun _ => o_bind (o_readByte _ _ _ _ _) (fun q _ => o_ite (fun _ => o_some trivial) (fun _ => o_bind (o_readNumber hfu _ _ _ _ _ _ _) (fun q _ => o_ite (fun _ => o_some trivial) (fun _ => o_some trivial))))))))))
theorem o_readRow {fu : Nat} (hfu : 63 ≤ fu) (pl lk nu w l : Int32) (f rows : Nat → Int32) : o_T (fun _ => True) (m_X2_readRow fu pl lk nu w l f rows) := by
  rw [m_X2_readRow]
  refine o_bind (o_byteAt _ _ _) (fun q1 _ => o_bind (o_kind _) (fun q2 _ => o_j0 ?_ (fun K hK => ?_)))
  · exact o_bind (o_wrongAt _) (fun q h => o_ite (fun _ => o_some trivial) (fun c => absurd (o_bit0 h) c))
  · refine o_ite (fun _ => hK) (fun c1 => o_ite (fun _ => hK) (fun c2 => o_ite (fun _ => hK) (fun _ => ?_)))
    have hi := o_in (q := q2) (M := 3) (N := 3) rfl (by omega) c1 c2
    refine o_ite (fun _ => ?_) (fun c => absurd hi c)
    refine o_bind (o_most _) (fun q9 _ => o_ite (fun _ => ?_) (fun _ => hK))
    refine o_ite (fun _ => o_ite (fun _ => ?_) (fun c => absurd hi c)) (fun c => absurd hi c)
    refine o_ite (fun _ => ?_) (fun _ => ?_)
    · exact o_bind (o_readStreet hfu _ _ _ _ _) (fun q _ => o_ite (fun _ => o_some trivial) (fun _ => o_bind (o_readByte _ _ _ _ _) (fun q _ => o_ite (fun _ => o_some trivial) (fun _ => o_some trivial))))
    · refine o_j3 (fun _ _ _ => True) (fun a b c _ => ?_) (fun K2 hK2 => ?_)
      · exact o_bind (o_readByte _ _ _ _ _) (fun q _ => o_ite (fun _ => o_some trivial) (fun _ => o_some trivial))
      · refine o_ite (fun _ => ?_) (fun _ => ?_)
        · exact o_bind (o_readUnit hfu _ _ _ _ _) (fun q _ => o_ite (fun _ => o_some trivial) (fun _ => hK2 _ _ _ trivial))
        · exact o_bind (o_readCall hfu _ _ _ _ _) (fun q _ => o_ite (fun _ => o_some trivial) (fun _ => hK2 _ _ _ trivial))
theorem o_rows {Q : Int32 × Int32 × Int32 × Int32 × Int32 × (Nat → Int32) → Prop} {FU : Nat} (hfu : 63 ≤ FU) (l : Int32) (f : Nat → Int32) (K : Int32 → Int32 → Int32 → Int32 → Int32 → Int32 → (Nat → Int32) → Option (Int32 × Int32 × Int32 × Int32 × Int32 × (Nat → Int32))) (hK : ∀ a b c d e g h, o_T Q (K a b c d e g h)) : ∀ (d j fu : Nat) (x pl lk nu w : Int32) (rows : Nat → Int32), j + d = 600 → d < fu → o_T Q (m_X2_wrongPlace_L39 FU l f K fu x (nI j) pl lk nu w rows) := by
  intro d
  induction d with
  | zero =>
    intro j fu x pl lk nu w rows hj hf
    obtain ⟨g, rfl⟩ : ∃ g, fu = g + 1 := ⟨fu - 1, by omega⟩
    have g0 : (600 : Int32) ≤ nI j := nI_le (a := 600) (by omega) (by omega)
    rw [m_X2_wrongPlace_L39, if_pos g0]
    exact hK _ _ _ _ _ _ _
  | succ d ih =>
    intro j fu x pl lk nu w rows hj hf
    obtain ⟨g, rfl⟩ : ∃ g, fu = g + 1 := ⟨fu - 1, by omega⟩
    rw [m_X2_wrongPlace_L39]
    refine o_ite (fun _ => hK _ _ _ _ _ _ _) (fun _ => o_ite (fun _ => hK _ _ _ _ _ _ _) (fun _ => ?_))
    rw [m_X4_length, Option.bind_some]
    refine o_ite (fun _ => hK _ _ _ _ _ _ _) (fun _ => o_bind (o_readRow hfu _ _ _ _ _ _ _) (fun q _ => ?_))
    rw [nI_1]
    exact ih (j + 1) g _ _ _ _ _ _ (by omega) (by omega)
theorem o_zero {Q : Int32 × Int32 × Int32 × Int32 × Int32 × (Nat → Int32) → Prop} (K : Int32 → (Nat → Int32) → Option (Int32 × Int32 × Int32 × Int32 × Int32 × (Nat → Int32))) (hK : ∀ a b, o_T Q (K a b)) : ∀ (d j fu : Nat) (rows : Nat → Int32), j + d = 3 → d < fu → o_T Q (m_X2_wrongPlace_L17 K fu (nI j) rows) := by
  intro d
  induction d with
  | zero =>
    intro j fu rows hj hf
    obtain ⟨g, rfl⟩ : ∃ g, fu = g + 1 := ⟨fu - 1, by omega⟩
    have g0 : (3 : Int32) ≤ nI j := nI_le (a := 3) (by omega) (by omega)
    rw [m_X2_wrongPlace_L17, if_pos g0]
    exact hK _ _
  | succ d ih =>
    intro j fu rows hj hf
    obtain ⟨g, rfl⟩ : ∃ g, fu = g + 1 := ⟨fu - 1, by omega⟩
    rw [m_X2_wrongPlace_L17]
    refine o_ite (fun _ => hK _ _) (fun _ => o_ite (fun _ => ?_) (fun c => absurd (t_in (by omega) (by omega)) c))
    rw [nI_1]
    exact ih (j + 1) g _ (by omega) (by omega)
theorem o_ccheck {fu : Nat} (hfu : 800 ≤ fu) (nu l : Int32) (f rows : Nat → Int32) : ∃ (v a b c d : Int32) (rows' : Nat → Int32), m_X6_check fu nu l f rows = some (v, a, b, c, d, 0, rows') := by
  have h : o_T (fun _ => True) (m_X2_wrongPlace fu nu l f rows) := by
    rw [m_X2_wrongPlace]
    refine o_j2 (fun _ _ => True) (fun a b _ => ?_) (fun K hK => o_zero K (fun a b => hK a b trivial) 3 0 fu _ (by omega) (by omega))
    rw [mt_j]
    exact o_rows (by omega) l f _ (fun _ _ _ _ _ _ _ => o_some trivial) 600 0 fu _ _ _ _ _ _ (by omega) (by omega)
  obtain ⟨q, e, -⟩ := h
  obtain ⟨v, a, b, c, d, r⟩ := q
  refine ⟨v, a, b, c, d, r, ?_⟩
  rw [m_X6_check, e, Option.bind_some, m_X4_clear, Option.bind_some]
/-- the reference -/
theorem o_see {l a : Nat} (hl : l ≤ 600) (ha : a < 2000) (g : Nat → Int32) : o_T (fun _ => True) (m_X7_see (nI l) (nI a) g) := by
  rw [m_X7_see]
  refine o_ite (fun _ => o_some trivial) (fun c => o_ite (fun _ => o_some trivial) (fun c2 => absurd (t_in (N := 600) ?_ (by omega)) c2))
  rcases Nat.lt_or_ge a l with z | z
  · omega
  · exact absurd (nI_le z (by omega)) c
theorem o_fail (p w : Int32) : o_T (fun _ => True) (m_X7_fail p w) := by
  rw [m_X7_fail]
  exact o_ite (fun _ => o_some trivial) (fun _ => o_some trivial)
theorem o_min (p a b : Int32) : o_T (fun _ => True) (m_X7_in p a b) := by
  rw [m_X7_in]
  exact o_ite (fun _ => o_some trivial) (fun _ => o_ite (fun _ => o_some trivial) (fun _ => o_some trivial))
theorem o_expect {l a : Nat} (hl : l ≤ 600) (ha : a < 2000) (p w : Int32) (g : Nat → Int32) : o_T (fun q => q.1 = nI (a + 1)) (m_X7_expect p (nI l) (nI a) w g) := by
  rw [m_X7_expect]
  refine o_bind (o_see hl ha g) (fun q _ => o_j1 (fun _ => True) (fun b _ => o_some (nI_1 a)) (fun K hK => ?_))
  exact o_ite (fun _ => hK _ trivial) (fun _ => o_bind (o_fail _ _) (fun q _ => hK _ trivial))
theorem o_mreadL {Q : Int32 × Int32 × Int32 → Prop} {l A : Nat} (hl : l ≤ 600) (hA : A + 4 < 2000) (g : Nat → Int32) (K : Int32 → Int32 → Int32 → Option (Int32 × Int32 × Int32)) (hK : ∀ x y a, A + 1 ≤ a → a ≤ A + 4 → o_T Q (K x y (nI a))) : ∀ (d j fu : Nat) (x : Int32), j + d = 3 → d < fu → o_T Q (m_X7_read_L70 (nI l) g K fu x (nI j) (nI (A + 1 + j))) := by
  intro d
  induction d with
  | zero =>
    intro j fu x hj hf
    obtain ⟨g, rfl⟩ : ∃ g, fu = g + 1 := ⟨fu - 1, by omega⟩
    have g0 : (3 : Int32) ≤ nI j := nI_le (a := 3) (by omega) (by omega)
    rw [m_X7_read_L70, if_pos g0]
    exact hK _ _ _ (by omega) (by omega)
  | succ d ih =>
    intro j fu x hj hf
    obtain ⟨g1, rfl⟩ : ∃ g, fu = g + 1 := ⟨fu - 1, by omega⟩
    have k := fun x y => hK x y (A + 1 + j) (by omega) (by omega)
    rw [m_X7_read_L70]
    refine o_ite (fun _ => k _ _) (fun _ => o_ite (fun _ => k _ _) (fun _ => o_bind (o_see hl (by omega) g) (fun q _ => o_bind (o_min _ _ _) (fun q2 _ => o_ite (fun _ => k _ _) (fun _ => o_bind (o_see hl (by omega) g) (fun q3 _ => ?_))))))
    rw [nI_1, nI_1]
    exact ih (j + 1) g1 _ (by omega) (by omega)
theorem o_mread {fu l a : Nat} (hfu : 63 ≤ fu) (hl : l ≤ 600) (ha : a + 4 < 2000) (p1 p2 w : Int32) (g : Nat → Int32) : o_T (fun q => ∃ a', a ≤ a' ∧ a' ≤ a + 4 ∧ q.2.1 = nI a') (m_X7_read fu p1 p2 (nI l) (nI a) w g) := by
  rw [m_X7_read]
  refine o_j0 ?_ (fun K hK => ?_)
  · exact o_bind (o_fail _ _) (fun q _ => o_some ⟨a, by omega, by omega, rfl⟩)
  · refine o_ite (fun _ => hK) (fun _ => o_bind (o_see hl (by omega) g) (fun q3 _ => o_bind (o_min _ _ _) (fun q4 _ => o_ite (fun _ => hK) (fun _ => o_bind (o_see hl (by omega) g) (fun q6 _ => ?_)))))
    refine o_j1 (fun _ => True) (fun b _ => ?_) (fun K2 hK2 => ?_)
    · rw [mt_j, nI_1]
      refine o_mreadL (A := a) hl ha g _ (fun x y a' h1 h2 => ?_) 3 0 fu _ (by omega) (by omega)
      refine o_bind (o_min _ _ _) (fun q7 _ => o_j1 (fun _ => True) (fun c _ => ?_) (fun K3 hK3 => ?_))
      · refine o_bind (o_see hl (by omega) g) (fun q8 _ => o_bind (o_min _ _ _) (fun q9 _ => o_ite (fun _ => o_some ⟨a', by omega, h2, rfl⟩) (fun _ => o_bind (o_fail _ _) (fun q _ => o_some ⟨a', by omega, h2, rfl⟩))))
      · exact o_ite (fun _ => o_bind (o_fail _ _) (fun q _ => hK3 _ trivial)) (fun _ => hK3 _ trivial)
    · exact o_ite (fun _ => o_ite (fun _ => hK2 _ trivial) (fun _ => o_bind (o_fail _ _) (fun q _ => hK2 _ trivial))) (fun _ => hK2 _ trivial)
theorem o_munit {fu l a : Nat} (hfu : 63 ≤ fu) (hl : l ≤ 600) (ha : a < 1900) (w : Int32) (g : Nat → Int32) : o_T (fun q => ∃ a', a ≤ a' ∧ a' ≤ a + 14 ∧ q.1 = nI a') (m_X7_readUnit fu (nI l) (nI a) w g) := by
  rw [m_X7_readUnit]
  refine o_bind (o_mread hfu hl (by omega) _ _ _ g) (fun q1 h1 => ?_)
  obtain ⟨a1, x1, y1, z1⟩ := h1
  rw [z1]
  refine o_bind (o_expect hl (by omega) _ _ g) (fun q2 z2 => ?_)
  rw [z2]
  refine o_bind (o_mread hfu hl (by omega) _ _ _ g) (fun q3 h3 => ?_)
  obtain ⟨a3, x3, y3, z3⟩ := h3
  exact o_some ⟨a3, by omega, by omega, z3⟩
theorem o_mstreet {fu l a : Nat} (hfu : 63 ≤ fu) (hl : l ≤ 600) (ha : a < 1900) (w : Int32) (g : Nat → Int32) : o_T (fun q => ∃ a', a ≤ a' ∧ a' ≤ a + 14 ∧ q.1 = nI a') (m_X7_readStreet fu (nI l) (nI a) w g) := by
  rw [m_X7_readStreet]
  refine o_bind (o_mread hfu hl (by omega) _ _ _ g) (fun q1 h1 => ?_)
  obtain ⟨a1, x1, y1, z1⟩ := h1
  rw [z1]
  refine o_bind (o_expect hl (by omega) _ _ g) (fun q2 z2 => ?_)
  rw [z2]
  refine o_bind (o_mread hfu hl (by omega) _ _ _ g) (fun q3 h3 => ?_)
  obtain ⟨a3, x3, y3, z3⟩ := h3
  rw [z3]
  refine o_bind (o_expect hl (by omega) _ _ g) (fun q4 z4 => ?_)
  rw [z4]
  refine o_bind (o_mread hfu hl (by omega) _ _ _ g) (fun q5 h5 => ?_)
  obtain ⟨a5, x5, y5, z5⟩ := h5
  exact o_some ⟨a5, by omega, by omega, z5⟩
theorem o_mcall {fu l a : Nat} (hfu : 63 ≤ fu) (hl : l ≤ 600) (ha : a < 1900) (w : Int32) (g : Nat → Int32) : o_T (fun q => ∃ a', a ≤ a' ∧ a' ≤ a + 14 ∧ q.1 = nI a') (m_X7_readCall fu (nI l) (nI a) w g) := by
  rw [m_X7_readCall]
  refine o_bind (o_mread hfu hl (by omega) _ _ _ g) (fun q1 h1 => ?_)
  obtain ⟨a1, x1, y1, z1⟩ := h1
  rw [z1]
  refine o_bind (o_expect hl (by omega) _ _ g) (fun q2 z2 => ?_)
  rw [z2]
  refine o_bind (o_mread hfu hl (by omega) _ _ _ g) (fun q3 h3 => ?_)
  obtain ⟨a3, x3, y3, z3⟩ := h3
  rw [z3]
  refine o_bind (o_expect hl (by omega) _ _ g) (fun q4 z4 => ?_)
  rw [z4]
  refine o_bind (o_mread hfu hl (by omega) _ _ _ g) (fun q5 h5 => ?_)
  obtain ⟨a5, x5, y5, z5⟩ := h5
  exact o_some ⟨a5, by omega, by omega, z5⟩
theorem o_mrows {Q : Int32 × Int32 × Int32 × Int32 × Int32 × Int32 → Prop} {FU l : Nat} (hfu : 63 ≤ FU) (hl : l ≤ 600) (g : Nat → Int32) (K : Int32 → Int32 → Int32 → Int32 → Option (Int32 × Int32 × Int32 × Int32 × Int32 × Int32)) (hK : ∀ a b c d, o_T Q (K a b c d)) : ∀ (fu a : Nat) (x1 x2 w : Int32), a ≤ 700 → 700 < fu + a → o_T Q (m_X7_check_L32 FU (nI l) g K fu x1 x2 (nI a) w) := by
  intro fu
  induction fu with
  | zero => intro a x1 x2 w h1 h2; omega
  | succ f ih =>
    intro a x1 x2 w h1 h2
    rw [m_X7_check_L32]
    refine o_ite (fun _ => hK _ _ _ _) (fun _ => o_ite (fun _ => hK _ _ _ _) (fun c2 => ?_))
    have hal : a < l := by
      rcases Nat.lt_or_ge a l with z | z
      · exact z
      · exact absurd (nI_le z (by omega)) c2
    refine o_bind (o_see hl (by omega) g) (fun q3 _ => o_j1 (fun _ => True) (fun k _ => ?_) (fun K86 h86 => ?_))
    · refine o_j1 (fun _ => True) (fun r _ => ?_) (fun K101 h101 => o_ite (fun _ => h101 _ trivial) (fun _ => h101 _ trivial))
      refine o_j1 (fun _ => True) (fun m _ => ?_) (fun K125 h125 => o_ite (fun _ => h125 _ trivial) (fun _ => o_ite (fun _ => h125 _ trivial) (fun _ => h125 _ trivial)))
      refine o_j1 (fun _ => True) (fun w1 _ => ?_) (fun K147 h147 => ?_)
      · refine o_j2 (fun y _ => ∃ b, a + 1 ≤ b ∧ b ≤ a + 15 ∧ y = nI b) (fun y w2 hy => ?_) (fun K176 h176 => ?_)
        · refine o_j2 (fun y _ => ∃ b, a + 1 ≤ b ∧ b ≤ a + 29 ∧ y = nI b) (fun y3 w3 hy3 => ?_) (fun K193 h193 => ?_)
          · refine o_j2 (fun y _ => ∃ b, a + 1 ≤ b ∧ b ≤ a + 43 ∧ y = nI b) (fun y4 w4 hy4 => ?_) (fun K210 h210 => ?_)
            · obtain ⟨b, b1, b2, rfl⟩ := hy4
              refine o_bind (o_expect hl (by omega) _ _ g) (fun q4 z4 => ?_)
              rw [z4]
              exact ih (b + 1) _ _ _ (by omega) (by omega)
            · obtain ⟨b, b1, b2, rfl⟩ := hy3
              have k0 := fun w => h210 (nI b) w ⟨b, b1, by omega, rfl⟩
              refine o_ite (fun _ => k0 _) (fun _ => o_ite (fun _ => o_bind (o_mcall hfu hl (by omega) _ g) (fun q h => ?_)) (fun _ => k0 _))
              obtain ⟨b', d1, d2, d3⟩ := h
              exact h210 _ _ ⟨b', by omega, by omega, d3⟩
          · obtain ⟨b, b1, b2, rfl⟩ := hy
            have k0 := fun w => h193 (nI b) w ⟨b, b1, by omega, rfl⟩
            refine o_ite (fun _ => k0 _) (fun _ => o_ite (fun _ => o_bind (o_munit hfu hl (by omega) _ g) (fun q h => ?_)) (fun _ => k0 _))
            obtain ⟨b', d1, d2, d3⟩ := h
            exact h193 _ _ ⟨b', by omega, by omega, d3⟩
        · rw [nI_1]
          have k0 := fun w => h176 (nI (a + 1)) w ⟨a + 1, by omega, by omega, rfl⟩
          refine o_ite (fun _ => k0 _) (fun _ => o_ite (fun _ => o_bind (o_mstreet hfu hl (by omega) _ g) (fun q h => ?_)) (fun _ => k0 _))
          obtain ⟨b', d1, d2, d3⟩ := h
          exact h176 _ _ ⟨b', by omega, by omega, d3⟩
      · refine o_j0 (o_bind (o_fail _ _) (fun q _ => h147 _ trivial)) (fun K139 h139 => ?_)
        exact o_ite (fun _ => h139) (fun _ => o_ite (fun _ => h147 _ trivial) (fun _ => h139))
    · exact o_ite (fun _ => h86 _ trivial) (fun _ => o_ite (fun _ => h86 _ trivial) (fun _ => o_ite (fun _ => h86 _ trivial) (fun _ => h86 _ trivial)))
theorem o_mcheck {fu l : Nat} (hfu : 800 ≤ fu) (hl : l ≤ 600) (g : Nat → Int32) : ∃ (v a b : Int32), m_X7_check fu (nI l) g = some (v, 0, 0, nI l, a, b) := by
  have h : o_T (fun q : Int32 × Int32 × Int32 × Int32 × Int32 × Int32 => ∃ v a b : Int32, q = (v, 0, 0, nI l, a, b)) (m_X7_check fu (nI l) g) := by
    rw [m_X7_check, mt_j]
    exact o_mrows (by omega) hl g _ (fun a b c d => o_some ⟨_, _, _, rfl⟩) fu 0 _ _ _ (by omega) (by omega)
  obtain ⟨q, e, v, a, b, rfl⟩ := h
  exact ⟨v, a, b, e⟩
