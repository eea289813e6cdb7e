/-! The draws of both, as one number. -/
def t_mix (v : Int32) : Int32 := (((((v ^^^ (mt_ushr v (15 : Int32))) * ((-2048144789) : Int32)) ^^^ (mt_ushr ((v ^^^ (mt_ushr v (15 : Int32))) * ((-2048144789) : Int32)) (13 : Int32))) * ((-1028477387) : Int32)) ^^^ (mt_ushr ((((v ^^^ (mt_ushr v (15 : Int32))) * ((-2048144789) : Int32)) ^^^ (mt_ushr ((v ^^^ (mt_ushr v (15 : Int32))) * ((-2048144789) : Int32)) (13 : Int32))) * ((-1028477387) : Int32)) (16 : Int32)))
theorem t_mixC (v : Int32) : m_X5_mixed v = some (t_mix v) := rfl
theorem t_mixM (v : Int32) : m_X7_mix v = some (t_mix v) := rfl
def t_dr (s : Int32) (k i m : Nat) : Nat := ((t_mix ((s + (65537 : Int32) * nI k) + (31 : Int32) * nI i)).toBitVec.toNat / 16) % m
theorem t_dr_lt {s : Int32} {k i m : Nat} (h : 0 < m) : t_dr s k i m < m := Nat.mod_lt _ h
theorem t_nI (x : Int32) : x = nI x.toBitVec.toNat := by
  apply Int32.toBitVec_inj.mp
  apply BitVec.eq_of_toNat_eq
  rw [pk_tn x.toBitVec.isLt]
theorem t_ushr4 (x : Int32) : mt_ushr x (4 : Int32) = nI (x.toBitVec.toNat / 16) := by
  have h := pk_ushr x (4 : Int32) 4 (by decide)
  rw [t_nI (mt_ushr x (4 : Int32))]
  exact congrArg nI h
theorem t_drawn {s : Int32} {k i m : Nat} (h : 0 < m) (hm : m < 2 ^ 31) : m_X5_drawn (nI k) (nI i) (nI m) s = some (nI (t_dr s k i m)) := by
  have h1 : (1 : Int32) ≤ nI m := (nI_leI (a := 1) (by omega) hm).mpr h
  have h2 : ¬ nI m = 0 := nI_ne0 h hm
  rw [m_X5_drawn, if_pos h1, t_mixC, Option.bind_some, if_pos h2, t_ushr4, pk_rem (by have := (t_mix ((s + (65537 : Int32) * nI k) + (31 : Int32) * nI i)).toBitVec.isLt; omega) h hm]
  rfl
theorem t_number {s : Int32} {k i m : Nat} (h : 0 < m) (hm : m < 2 ^ 31) : m_X7_number (nI k) (nI i) (nI m) s = some (nI (t_dr s k i m)) := by
  have h2 : ¬ nI m = 0 := nI_ne0 h hm
  rw [m_X7_number, t_mixM, Option.bind_some, if_pos h2, t_ushr4, pk_rem (by have := (t_mix ((s + (65537 : Int32) * nI k) + (31 : Int32) * nI i)).toBitVec.isLt; omega) h hm]
  rfl
/-- the town of a seed and a size: which parts it has, and their numbers -/
def t_min (s : Int32) : Nat → Nat
  | 0 => t_dr s 9 0 1440
  | c + 1 => if t_dr s 8 (c + 1) 3 = 0 then t_min s c else t_dr s 9 (c + 1) 1440
def t_hd (s : Int32) (n p : Nat) : Nat :=
  if p < 20 then (if p < n then 1 else 0)
  else if p < 30 then (if p - 20 < n / 2 ∧ t_dr s 2 (p - 20) (1 + n) ≠ t_dr s 3 (p - 20) (1 + n) then 1 else 0)
  else if p < 41 then (if p - 30 < 1 + n / 2 then 1 else 0)
  else (if p - 41 < 1 + n then 1 else 0)
def t_co (s : Int32) (n p : Nat) : Nat :=
  if p < 20 then t_dr s 0 (p + 1) (p + 1)
  else if p < 30 then min (t_dr s 2 (p - 20) (1 + n)) (t_dr s 3 (p - 20) (1 + n))
  else if p < 41 then t_dr s 4 (p - 30) (1 + n)
  else t_dr s 6 (p - 41) (1 + n)
def t_se (s : Int32) (n p : Nat) : Nat :=
  if p < 20 then p + 1
  else if p < 30 then max (t_dr s 2 (p - 20) (1 + n)) (t_dr s 3 (p - 20) (1 + n))
  else if p < 41 then 1 + t_dr s 5 (p - 30) 7
  else t_dr s 7 (p - 41) 3
def t_tr (s : Int32) (p : Nat) : Nat :=
  if p < 20 then 1 + t_dr s 1 (p + 1) 99
  else if p < 30 then 1 + t_dr s 1 (100 + (p - 20)) 99
  else if p < 41 then 0
  else t_min s (p - 41)
/-- the rows of a town, of numbers: a part that it hasn't has zeros -/
def t_z (s : Int32) (n : Nat) (f : Nat → Nat) (p : Nat) : Nat := if t_hd s n p = 0 then 0 else f p
/-- rows that agree on the parts up to e: the town's so far -/
def t_up (s : Int32) (n : Nat) (L : Nat → Bool) (A : Nat → Int32) (f : Nat → Nat) : Prop := ∀ p, p < 62 → A p = nI (if L p then t_z s n f p else 0)
