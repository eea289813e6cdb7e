def m_X2_readUnit (fu : Nat) (v_place : Int32) (v_latestNumber : Int32) (v_wrong : Int32) (v_tape_length : Int32) (v_tape_bytes : Nat → Int32) : Option (Int32 × Int32 × Int32 × Int32) := (m_X2_readNumber fu (0 : Int32) (20 : Int32) v_place v_latestNumber v_wrong v_tape_length v_tape_bytes).bind fun q1 => if q1.1 = 0 then some ((0 : Int32), q1.2.1, q1.2.2.1, q1.2.2.2) else (m_X2_readByte (58 : Int32) q1.2.1 q1.2.2.2 v_tape_length v_tape_bytes).bind fun q3 => if q3.1 = 0 then some ((0 : Int32), q3.2.1, q1.2.2.1, q3.2.2) else (m_X2_readNumber fu (1 : Int32) (7 : Int32) q3.2.1 q1.2.2.1 q3.2.2 v_tape_length v_tape_bytes).bind fun q5 => if q5.1 = 0 then some ((0 : Int32), q5.2.1, q5.2.2.1, q5.2.2.2) else some ((1 : Int32), q5.2.1, q5.2.2.1, q5.2.2.2)
set_option maxHeartbeats 4000000 in
set_option maxRecDepth 100000 in
theorem c_X2_readUnit (l : Launch) (dC : Nat → ClassId) (dI : Nat → Nat → Nat) (cZ cI cL : ClassId) (h0 h0_tape h0_tape_bytes h0_rowsOf : Nat) (sz : Nat) (v_place : Int32) (v_latestKind : Int32) (v_latestNumber : Int32) (v_wrong : Int32) (v_tape_length : Int32) (v_tape_bytes : Nat → Int32) (v_rowsOf : Nat → Int32) (fu : Nat) (q : Int32 × Int32 × Int32 × Int32) (hm : m_X2_readUnit fu v_place v_latestNumber v_wrong v_tape_length v_tape_bytes = some q) : Met l yX2_readUnit wsX2_readUnit ({ frames := 2, cells := 0, slots := 0, locals := 46 }) (va_Pc [.ref h0] (mt_S (dC, dI) cZ cI cL sz [(h0, .inr (2, [.ref h0_tape, .ref h0_rowsOf, .int v_place, .int v_latestKind, .int v_latestNumber, .int v_wrong])), (h0_tape, .inr (4, [.ref h0_tape_bytes, .int v_tape_length])), (h0_tape_bytes, .inl (cI, 600, .inl v_tape_bytes)), (h0_rowsOf, .inl (cI, 3, .inl v_rowsOf))])) (va_Qi (fun (r : Int32) (_ : Unit) => r = q.1) (fun _ t => va_P (dC, dI) vwCl [(h0, .inr (2, [.ref h0_tape, .ref h0_rowsOf, .int q.2.1, .int v_latestKind, .int q.2.2.1, .int q.2.2.2])), (h0_tape, .inr (4, [.ref h0_tape_bytes, .int v_tape_length])), (h0_tape_bytes, .inl (cI, 600, .inl v_tape_bytes)), (h0_rowsOf, .inl (cI, 3, .inl v_rowsOf))] t.heap ∧ va_D (va_A [(h0, .inr (2, [.ref h0_tape, .ref h0_rowsOf, .int v_place, .int v_latestKind, .int v_latestNumber, .int v_wrong])), (h0_tape, .inr (4, [.ref h0_tape_bytes, .int v_tape_length])), (h0_tape_bytes, .inl (cI, 600, .inl v_tape_bytes)), (h0_rowsOf, .inl (cI, 3, .inl v_rowsOf))] sz) [(h0, .inr (2, [.ref h0_tape, .ref h0_rowsOf, .int q.2.1, .int v_latestKind, .int q.2.2.1, .int q.2.2.2])), (h0_tape, .inr (4, [.ref h0_tape_bytes, .int v_tape_length])), (h0_tape_bytes, .inl (cI, 600, .inl v_tape_bytes)), (h0_rowsOf, .inl (cI, 3, .inl v_rowsOf))]) (va_A [(h0, .inr (2, [.ref h0_tape, .ref h0_rowsOf, .int v_place, .int v_latestKind, .int v_latestNumber, .int v_wrong])), (h0_tape, .inr (4, [.ref h0_tape_bytes, .int v_tape_length])), (h0_tape_bytes, .inl (cI, 600, .inl v_tape_bytes)), (h0_rowsOf, .inl (cI, 3, .inl v_rowsOf))] sz)) 0 0 (va_A [(h0, .inr (2, [.ref h0_tape, .ref h0_rowsOf, .int v_place, .int v_latestKind, .int v_latestNumber, .int v_wrong])), (h0_tape, .inr (4, [.ref h0_tape_bytes, .int v_tape_length])), (h0_tape_bytes, .inl (cI, 600, .inl v_tape_bytes)), (h0_rowsOf, .inl (cI, 3, .inl v_rowsOf))] sz) := by
  refine Met.ofW (cc := cX2_readUnit) (maxL := 1) (ret := (some .boolean)) (by decide) rfl ?_
  intro p e s m args below meth c s₁ B hml hv
  obtain ⟨rfl, hsz, hP, hC, hD0⟩ := hv
  have hx := B.exec
  have hb := B.bytes
  have hr := B.returns
  have hts := atoms_spec (ws := wsX2_readUnit) B.pre
  have hown : s.vm.findClass RX2 = some m.cls := findClass_of_methodNamed B.named
  have hlocks := B.notSynchronized
  have hK := hC.1
  subst hsz
  have hD := hD0.self (sz := s.heap.size)
  generalize hAe : va_A [(h0, .inr (2, [.ref h0_tape, .ref h0_rowsOf, .int v_place, .int v_latestKind, .int v_latestNumber, .int v_wrong])), (h0_tape, .inr (4, [.ref h0_tape_bytes, .int v_tape_length])), (h0_tape_bytes, .inl (cI, 600, .inl v_tape_bytes)), (h0_rowsOf, .inl (cI, 3, .inl v_rowsOf))] s.heap.size = A at hD ⊢
  have hA : ∀ q : Nat, s.heap.size ≤ q → A q := fun q h => by rw [← hAe]; exact Or.inr h
  have hS : va_S A s.heap s.heap [] := va_S.rf
  have hl := lv_entry [.ref h0] (n := 1) (Nat.le_of_ble_eq_true rfl)
  rw [lg_entry_eq]
  generalize (lg_sl [.ref h0] ++ List.replicate (1 - (lg_sl [.ref h0]).length) Slot.unset).toArray = ls at hl ⊢
  have hl : lv_has ls 1 [(0, .ref h0)] := hl
  rw [m_X2_readUnit] at hm
  refine lv_aload_n hx hb dX2_readUnit_0 rfl (lv_at hl 0 rfl) ?_
  refine lv_iconst (v := (0 : Int32)) hx hb dX2_readUnit_1 (by decide) ?_
  refine lv_bipush (v := (20 : Int32)) hx hb dX2_readUnit_2 (by decide) ?_
  obtain ⟨q1, hq1, hm⟩ := mt_bind hm
  refine mt_calli (wr := []) hP hD hS hA [0, 1, 2, 3] [] rfl rfl (by decide) (by decide) (va_runV (As := [.int (0 : Int32), .int (20 : Int32)]) (rest := []) ⟨hx, hb, hml, hown, hts⟩ (c_X2_readNumber l dC dI cZ cI cL h0 h0_tape h0_tape_bytes h0_rowsOf s.heap.size (0 : Int32) (20 : Int32) v_place v_latestKind v_latestNumber v_wrong v_tape_length v_tape_bytes v_rowsOf fu q1 hq1) (cwV 2 hts gX2_readUnit_X2_readNumber rfl rfl rfl (by decide +kernel) ⟨Nat.le_of_ble_eq_true rfl, Nat.le_of_ble_eq_true rfl⟩) (mt_vS (q := (RX2, TX2, 6)) 2 hC hP hD rfl rfl) rfl rfl hl.1 rfl (lv_room (Nat.le_of_ble_eq_true rfl)) dX2_readUnit_4 ⟨Nat.le_of_ble_eq_true rfl, Nat.le_of_ble_eq_true rfl⟩) (fun H locs hP hD hS => ?_)
  have hP : va_P (dC, dI) vwCl [(h0, .inr (2, [.ref h0_tape, .ref h0_rowsOf, .int q1.2.1, .int v_latestKind, .int q1.2.2.1, .int q1.2.2.2])), (h0_tape, .inr (4, [.ref h0_tape_bytes, .int v_tape_length])), (h0_tape_bytes, .inl (cI, 600, .inl v_tape_bytes)), (h0_rowsOf, .inl (cI, 3, .inl v_rowsOf))] H := hP.sub [0, 1, 2, 3] rfl
  have hD : va_D A [(h0, .inr (2, [.ref h0_tape, .ref h0_rowsOf, .int q1.2.1, .int v_latestKind, .int q1.2.2.1, .int q1.2.2.2])), (h0_tape, .inr (4, [.ref h0_tape_bytes, .int v_tape_length])), (h0_tape_bytes, .inl (cI, 600, .inl v_tape_bytes)), (h0_rowsOf, .inl (cI, 3, .inl v_rowsOf))] := hD.sub [0, 1, 2, 3] (by decide) rfl
  refine lv_if_eq (tgt := 33) hx hb dX2_readUnit_7 (by decide) (fun c2 => ?_) (fun c2 => ?_)
  · replace hm := mt_pos c2 hm
    refine lv_iconst (v := (0 : Int32)) hx hb dX2_readUnit_33 (by decide) ?_
    obtain rfl := Option.some.inj hm
    exact W.zret hx hb hr mt_z0 (fun t ht hW => ⟨⟨_, (), rfl, rfl, by rw [ht]; exact hP, hD⟩, hS.F ht⟩) hS.2.2 dX2_readUnit_34
  · replace hm := mt_neg c2 hm
    refine lv_aload_n hx hb dX2_readUnit_10 rfl (lv_at hl 0 rfl) ?_
    refine lv_bipush (v := (58 : Int32)) hx hb dX2_readUnit_11 (by decide) ?_
    obtain ⟨q3, hq3, hm⟩ := mt_bind hm
    refine mt_calli (wr := []) hP hD hS hA [0, 1, 2, 3] [] rfl rfl (by decide) (by decide) (va_runV (As := [.int (58 : Int32)]) (rest := []) ⟨hx, hb, hml, hown, hts⟩ (c_X2_readByte l dC dI cZ cI cL h0 h0_tape h0_tape_bytes h0_rowsOf H.size (58 : Int32) q1.2.1 v_latestKind q1.2.2.1 q1.2.2.2 v_tape_length v_tape_bytes v_rowsOf q3 hq3) (cwV 1 hts gX2_readUnit_X2_readByte rfl rfl rfl (by decide +kernel) ⟨Nat.le_of_ble_eq_true rfl, Nat.le_of_ble_eq_true rfl⟩) (mt_vS (q := (RX2, TX2, 6)) 2 hC hP hD rfl rfl) rfl rfl hl.1 rfl (lv_room (Nat.le_of_ble_eq_true rfl)) dX2_readUnit_13 ⟨Nat.le_of_ble_eq_true rfl, Nat.le_of_ble_eq_true rfl⟩) (fun H locs hP hD hS => ?_)
    have hP : va_P (dC, dI) vwCl [(h0, .inr (2, [.ref h0_tape, .ref h0_rowsOf, .int q3.2.1, .int v_latestKind, .int q1.2.2.1, .int q3.2.2])), (h0_tape, .inr (4, [.ref h0_tape_bytes, .int v_tape_length])), (h0_tape_bytes, .inl (cI, 600, .inl v_tape_bytes)), (h0_rowsOf, .inl (cI, 3, .inl v_rowsOf))] H := hP.sub [0, 1, 2, 3] rfl
    have hD : va_D A [(h0, .inr (2, [.ref h0_tape, .ref h0_rowsOf, .int q3.2.1, .int v_latestKind, .int q1.2.2.1, .int q3.2.2])), (h0_tape, .inr (4, [.ref h0_tape_bytes, .int v_tape_length])), (h0_tape_bytes, .inl (cI, 600, .inl v_tape_bytes)), (h0_rowsOf, .inl (cI, 3, .inl v_rowsOf))] := hD.sub [0, 1, 2, 3] (by decide) rfl
    refine lv_if_eq (tgt := 33) hx hb dX2_readUnit_16 (by decide) (fun c4 => ?_) (fun c4 => ?_)
    · replace hm := mt_pos c4 hm
      refine lv_iconst (v := (0 : Int32)) hx hb dX2_readUnit_33 (by decide) ?_
      obtain rfl := Option.some.inj hm
      exact W.zret hx hb hr mt_z0 (fun t ht hW => ⟨⟨_, (), rfl, rfl, by rw [ht]; exact hP, hD⟩, hS.F ht⟩) hS.2.2 dX2_readUnit_34
    · replace hm := mt_neg c4 hm
      refine lv_aload_n hx hb dX2_readUnit_19 rfl (lv_at hl 0 rfl) ?_
      refine lv_iconst (v := (1 : Int32)) hx hb dX2_readUnit_20 (by decide) ?_
      refine lv_bipush (v := (7 : Int32)) hx hb dX2_readUnit_21 (by decide) ?_
      obtain ⟨q5, hq5, hm⟩ := mt_bind hm
      refine mt_calli (wr := []) hP hD hS hA [0, 1, 2, 3] [] rfl rfl (by decide) (by decide) (va_runV (As := [.int (1 : Int32), .int (7 : Int32)]) (rest := []) ⟨hx, hb, hml, hown, hts⟩ (c_X2_readNumber l dC dI cZ cI cL h0 h0_tape h0_tape_bytes h0_rowsOf H.size (1 : Int32) (7 : Int32) q3.2.1 v_latestKind q1.2.2.1 q3.2.2 v_tape_length v_tape_bytes v_rowsOf fu q5 hq5) (cwV 2 hts gX2_readUnit_X2_readNumber rfl rfl rfl (by decide +kernel) ⟨Nat.le_of_ble_eq_true rfl, Nat.le_of_ble_eq_true rfl⟩) (mt_vS (q := (RX2, TX2, 6)) 2 hC hP hD rfl rfl) rfl rfl hl.1 rfl (lv_room (Nat.le_of_ble_eq_true rfl)) dX2_readUnit_23 ⟨Nat.le_of_ble_eq_true rfl, Nat.le_of_ble_eq_true rfl⟩) (fun H locs hP hD hS => ?_)
      have hP : va_P (dC, dI) vwCl [(h0, .inr (2, [.ref h0_tape, .ref h0_rowsOf, .int q5.2.1, .int v_latestKind, .int q5.2.2.1, .int q5.2.2.2])), (h0_tape, .inr (4, [.ref h0_tape_bytes, .int v_tape_length])), (h0_tape_bytes, .inl (cI, 600, .inl v_tape_bytes)), (h0_rowsOf, .inl (cI, 3, .inl v_rowsOf))] H := hP.sub [0, 1, 2, 3] rfl
      have hD : va_D A [(h0, .inr (2, [.ref h0_tape, .ref h0_rowsOf, .int q5.2.1, .int v_latestKind, .int q5.2.2.1, .int q5.2.2.2])), (h0_tape, .inr (4, [.ref h0_tape_bytes, .int v_tape_length])), (h0_tape_bytes, .inl (cI, 600, .inl v_tape_bytes)), (h0_rowsOf, .inl (cI, 3, .inl v_rowsOf))] := hD.sub [0, 1, 2, 3] (by decide) rfl
      refine lv_if_eq (tgt := 33) hx hb dX2_readUnit_26 (by decide) (fun c6 => ?_) (fun c6 => ?_)
      · replace hm := mt_pos c6 hm
        refine lv_iconst (v := (0 : Int32)) hx hb dX2_readUnit_33 (by decide) ?_
        obtain rfl := Option.some.inj hm
        exact W.zret hx hb hr mt_z0 (fun t ht hW => ⟨⟨_, (), rfl, rfl, by rw [ht]; exact hP, hD⟩, hS.F ht⟩) hS.2.2 dX2_readUnit_34
      · replace hm := mt_neg c6 hm
        refine lv_iconst (v := (1 : Int32)) hx hb dX2_readUnit_29 (by decide) ?_
        refine lv_goto (tgt := 34) hx hb dX2_readUnit_30 (by decide) ?_
        obtain rfl := Option.some.inj hm
        exact W.zret hx hb hr mt_z1 (fun t ht hW => ⟨⟨_, (), rfl, rfl, by rw [ht]; exact hP, hD⟩, hS.F ht⟩) hS.2.2 dX2_readUnit_34
def m_X2_readCall (fu : Nat) (v_place : Int32) (v_latestNumber : Int32) (v_wrong : Int32) (v_tape_length : Int32) (v_tape_bytes : Nat → Int32) : Option (Int32 × Int32 × Int32 × Int32) := (m_X2_readNumber fu (0 : Int32) (20 : Int32) v_place v_latestNumber v_wrong v_tape_length v_tape_bytes).bind fun q1 => if q1.1 = 0 then some ((0 : Int32), q1.2.1, q1.2.2.1, q1.2.2.2) else (m_X2_readByte (58 : Int32) q1.2.1 q1.2.2.2 v_tape_length v_tape_bytes).bind fun q3 => if q3.1 = 0 then some ((0 : Int32), q3.2.1, q1.2.2.1, q3.2.2) else (m_X2_readNumber fu (0 : Int32) (2 : Int32) q3.2.1 q1.2.2.1 q3.2.2 v_tape_length v_tape_bytes).bind fun q5 => if q5.1 = 0 then some ((0 : Int32), q5.2.1, q5.2.2.1, q5.2.2.2) else (m_X2_readByte (64 : Int32) q5.2.1 q5.2.2.2 v_tape_length v_tape_bytes).bind fun q7 => if q7.1 = 0 then some ((0 : Int32), q7.2.1, q5.2.2.1, q7.2.2) else (m_X2_readNumber fu (0 : Int32) (1439 : Int32) q7.2.1 q5.2.2.1 q7.2.2 v_tape_length v_tape_bytes).bind fun q9 => if q9.1 = 0 then some ((0 : Int32), q9.2.1, q9.2.2.1, q9.2.2.2) else some ((1 : Int32), q9.2.1, q9.2.2.1, q9.2.2.2)
set_option maxHeartbeats 4000000 in
set_option maxRecDepth 100000 in
theorem c_X2_readCall (l : Launch) (dC : Nat → ClassId) (dI : Nat → Nat → Nat) (cZ cI cL : ClassId) (h0 h0_tape h0_tape_bytes h0_rowsOf : Nat) (sz : Nat) (v_place : Int32) (v_latestKind : Int32) (v_latestNumber : Int32) (v_wrong : Int32) (v_tape_length : Int32) (v_tape_bytes : Nat → Int32) (v_rowsOf : Nat → Int32) (fu : Nat) (q : Int32 × Int32 × Int32 × Int32) (hm : m_X2_readCall fu v_place v_latestNumber v_wrong v_tape_length v_tape_bytes = some q) : Met l yX2_readCall wsX2_readCall ({ frames := 2, cells := 0, slots := 0, locals := 46 }) (va_Pc [.ref h0] (mt_S (dC, dI) cZ cI cL sz [(h0, .inr (2, [.ref h0_tape, .ref h0_rowsOf, .int v_place, .int v_latestKind, .int v_latestNumber, .int v_wrong])), (h0_tape, .inr (4, [.ref h0_tape_bytes, .int v_tape_length])), (h0_tape_bytes, .inl (cI, 600, .inl v_tape_bytes)), (h0_rowsOf, .inl (cI, 3, .inl v_rowsOf))])) (va_Qi (fun (r : Int32) (_ : Unit) => r = q.1) (fun _ t => va_P (dC, dI) vwCl [(h0, .inr (2, [.ref h0_tape, .ref h0_rowsOf, .int q.2.1, .int v_latestKind, .int q.2.2.1, .int q.2.2.2])), (h0_tape, .inr (4, [.ref h0_tape_bytes, .int v_tape_length])), (h0_tape_bytes, .inl (cI, 600, .inl v_tape_bytes)), (h0_rowsOf, .inl (cI, 3, .inl v_rowsOf))] t.heap ∧ va_D (va_A [(h0, .inr (2, [.ref h0_tape, .ref h0_rowsOf, .int v_place, .int v_latestKind, .int v_latestNumber, .int v_wrong])), (h0_tape, .inr (4, [.ref h0_tape_bytes, .int v_tape_length])), (h0_tape_bytes, .inl (cI, 600, .inl v_tape_bytes)), (h0_rowsOf, .inl (cI, 3, .inl v_rowsOf))] sz) [(h0, .inr (2, [.ref h0_tape, .ref h0_rowsOf, .int q.2.1, .int v_latestKind, .int q.2.2.1, .int q.2.2.2])), (h0_tape, .inr (4, [.ref h0_tape_bytes, .int v_tape_length])), (h0_tape_bytes, .inl (cI, 600, .inl v_tape_bytes)), (h0_rowsOf, .inl (cI, 3, .inl v_rowsOf))]) (va_A [(h0, .inr (2, [.ref h0_tape, .ref h0_rowsOf, .int v_place, .int v_latestKind, .int v_latestNumber, .int v_wrong])), (h0_tape, .inr (4, [.ref h0_tape_bytes, .int v_tape_length])), (h0_tape_bytes, .inl (cI, 600, .inl v_tape_bytes)), (h0_rowsOf, .inl (cI, 3, .inl v_rowsOf))] sz)) 0 0 (va_A [(h0, .inr (2, [.ref h0_tape, .ref h0_rowsOf, .int v_place, .int v_latestKind, .int v_latestNumber, .int v_wrong])), (h0_tape, .inr (4, [.ref h0_tape_bytes, .int v_tape_length])), (h0_tape_bytes, .inl (cI, 600, .inl v_tape_bytes)), (h0_rowsOf, .inl (cI, 3, .inl v_rowsOf))] sz) := by
  refine Met.ofW (cc := cX2_readCall) (maxL := 1) (ret := (some .boolean)) (by decide) rfl ?_
  intro p e s m args below meth c s₁ B hml hv
  obtain ⟨rfl, hsz, hP, hC, hD0⟩ := hv
  have hx := B.exec
  have hb := B.bytes
  have hr := B.returns
  have hts := atoms_spec (ws := wsX2_readCall) B.pre
  have hown : s.vm.findClass RX2 = some m.cls := findClass_of_methodNamed B.named
  have hlocks := B.notSynchronized
  have hK := hC.1
  subst hsz
  have hD := hD0.self (sz := s.heap.size)
  generalize hAe : va_A [(h0, .inr (2, [.ref h0_tape, .ref h0_rowsOf, .int v_place, .int v_latestKind, .int v_latestNumber, .int v_wrong])), (h0_tape, .inr (4, [.ref h0_tape_bytes, .int v_tape_length])), (h0_tape_bytes, .inl (cI, 600, .inl v_tape_bytes)), (h0_rowsOf, .inl (cI, 3, .inl v_rowsOf))] s.heap.size = A at hD ⊢
  have hA : ∀ q : Nat, s.heap.size ≤ q → A q := fun q h => by rw [← hAe]; exact Or.inr h
  have hS : va_S A s.heap s.heap [] := va_S.rf
  have hl := lv_entry [.ref h0] (n := 1) (Nat.le_of_ble_eq_true rfl)
  rw [lg_entry_eq]
  generalize (lg_sl [.ref h0] ++ List.replicate (1 - (lg_sl [.ref h0]).length) Slot.unset).toArray = ls at hl ⊢
  have hl : lv_has ls 1 [(0, .ref h0)] := hl
  rw [m_X2_readCall] at hm
  refine lv_aload_n hx hb dX2_readCall_0 rfl (lv_at hl 0 rfl) ?_
  refine lv_iconst (v := (0 : Int32)) hx hb dX2_readCall_1 (by decide) ?_
  refine lv_bipush (v := (20 : Int32)) hx hb dX2_readCall_2 (by decide) ?_
  obtain ⟨q1, hq1, hm⟩ := mt_bind hm
  refine mt_calli (wr := []) hP hD hS hA [0, 1, 2, 3] [] rfl rfl (by decide) (by decide) (va_runV (As := [.int (0 : Int32), .int (20 : Int32)]) (rest := []) ⟨hx, hb, hml, hown, hts⟩ (c_X2_readNumber l dC dI cZ cI cL h0 h0_tape h0_tape_bytes h0_rowsOf s.heap.size (0 : Int32) (20 : Int32) v_place v_latestKind v_latestNumber v_wrong v_tape_length v_tape_bytes v_rowsOf fu q1 hq1) (cwV 2 hts gX2_readCall_X2_readNumber rfl rfl rfl (by decide +kernel) ⟨Nat.le_of_ble_eq_true rfl, Nat.le_of_ble_eq_true rfl⟩) (mt_vS (q := (RX2, TX2, 6)) 2 hC hP hD rfl rfl) rfl rfl hl.1 rfl (lv_room (Nat.le_of_ble_eq_true rfl)) dX2_readCall_4 ⟨Nat.le_of_ble_eq_true rfl, Nat.le_of_ble_eq_true rfl⟩) (fun H locs hP hD hS => ?_)
  have hP : va_P (dC, dI) vwCl [(h0, .inr (2, [.ref h0_tape, .ref h0_rowsOf, .int q1.2.1, .int v_latestKind, .int q1.2.2.1, .int q1.2.2.2])), (h0_tape, .inr (4, [.ref h0_tape_bytes, .int v_tape_length])), (h0_tape_bytes, .inl (cI, 600, .inl v_tape_bytes)), (h0_rowsOf, .inl (cI, 3, .inl v_rowsOf))] H := hP.sub [0, 1, 2, 3] rfl
  have hD : va_D A [(h0, .inr (2, [.ref h0_tape, .ref h0_rowsOf, .int q1.2.1, .int v_latestKind, .int q1.2.2.1, .int q1.2.2.2])), (h0_tape, .inr (4, [.ref h0_tape_bytes, .int v_tape_length])), (h0_tape_bytes, .inl (cI, 600, .inl v_tape_bytes)), (h0_rowsOf, .inl (cI, 3, .inl v_rowsOf))] := hD.sub [0, 1, 2, 3] (by decide) rfl
  refine lv_if_eq (tgt := 52) hx hb dX2_readCall_7 (by decide) (fun c2 => ?_) (fun c2 => ?_)
  · replace hm := mt_pos c2 hm
    refine lv_iconst (v := (0 : Int32)) hx hb dX2_readCall_52 (by decide) ?_
    obtain rfl := Option.some.inj hm
    exact W.zret hx hb hr mt_z0 (fun t ht hW => ⟨⟨_, (), rfl, rfl, by rw [ht]; exact hP, hD⟩, hS.F ht⟩) hS.2.2 dX2_readCall_53
  · replace hm := mt_neg c2 hm
    refine lv_aload_n hx hb dX2_readCall_10 rfl (lv_at hl 0 rfl) ?_
    refine lv_bipush (v := (58 : Int32)) hx hb dX2_readCall_11 (by decide) ?_
    obtain ⟨q3, hq3, hm⟩ := mt_bind hm
    refine mt_calli (wr := []) hP hD hS hA [0, 1, 2, 3] [] rfl rfl (by decide) (by decide) (va_runV (As := [.int (58 : Int32)]) (rest := []) ⟨hx, hb, hml, hown, hts⟩ (c_X2_readByte l dC dI cZ cI cL h0 h0_tape h0_tape_bytes h0_rowsOf H.size (58 : Int32) q1.2.1 v_latestKind q1.2.2.1 q1.2.2.2 v_tape_length v_tape_bytes v_rowsOf q3 hq3) (cwV 1 hts gX2_readCall_X2_readByte rfl rfl rfl (by decide +kernel) ⟨Nat.le_of_ble_eq_true rfl, Nat.le_of_ble_eq_true rfl⟩) (mt_vS (q := (RX2, TX2, 6)) 2 hC hP hD rfl rfl) rfl rfl hl.1 rfl (lv_room (Nat.le_of_ble_eq_true rfl)) dX2_readCall_13 ⟨Nat.le_of_ble_eq_true rfl, Nat.le_of_ble_eq_true rfl⟩) (fun H locs hP hD hS => ?_)
    have hP : va_P (dC, dI) vwCl [(h0, .inr (2, [.ref h0_tape, .ref h0_rowsOf, .int q3.2.1, .int v_latestKind, .int q1.2.2.1, .int q3.2.2])), (h0_tape, .inr (4, [.ref h0_tape_bytes, .int v_tape_length])), (h0_tape_bytes, .inl (cI, 600, .inl v_tape_bytes)), (h0_rowsOf, .inl (cI, 3, .inl v_rowsOf))] H := hP.sub [0, 1, 2, 3] rfl
    have hD : va_D A [(h0, .inr (2, [.ref h0_tape, .ref h0_rowsOf, .int q3.2.1, .int v_latestKind, .int q1.2.2.1, .int q3.2.2])), (h0_tape, .inr (4, [.ref h0_tape_bytes, .int v_tape_length])), (h0_tape_bytes, .inl (cI, 600, .inl v_tape_bytes)), (h0_rowsOf, .inl (cI, 3, .inl v_rowsOf))] := hD.sub [0, 1, 2, 3] (by decide) rfl
    refine lv_if_eq (tgt := 52) hx hb dX2_readCall_16 (by decide) (fun c4 => ?_) (fun c4 => ?_)
    · replace hm := mt_pos c4 hm
      refine lv_iconst (v := (0 : Int32)) hx hb dX2_readCall_52 (by decide) ?_
      obtain rfl := Option.some.inj hm
      exact W.zret hx hb hr mt_z0 (fun t ht hW => ⟨⟨_, (), rfl, rfl, by rw [ht]; exact hP, hD⟩, hS.F ht⟩) hS.2.2 dX2_readCall_53
    · replace hm := mt_neg c4 hm
      refine lv_aload_n hx hb dX2_readCall_19 rfl (lv_at hl 0 rfl) ?_
      refine lv_iconst (v := (0 : Int32)) hx hb dX2_readCall_20 (by decide) ?_
      refine lv_iconst (v := (2 : Int32)) hx hb dX2_readCall_21 (by decide) ?_
      obtain ⟨q5, hq5, hm⟩ := mt_bind hm
      refine mt_calli (wr := []) hP hD hS hA [0, 1, 2, 3] [] rfl rfl (by decide) (by decide) (va_runV (As := [.int (0 : Int32), .int (2 : Int32)]) (rest := []) ⟨hx, hb, hml, hown, hts⟩ (c_X2_readNumber l dC dI cZ cI cL h0 h0_tape h0_tape_bytes h0_rowsOf H.size (0 : Int32) (2 : Int32) q3.2.1 v_latestKind q1.2.2.1 q3.2.2 v_tape_length v_tape_bytes v_rowsOf fu q5 hq5) (cwV 2 hts gX2_readCall_X2_readNumber rfl rfl rfl (by decide +kernel) ⟨Nat.le_of_ble_eq_true rfl, Nat.le_of_ble_eq_true rfl⟩) (mt_vS (q := (RX2, TX2, 6)) 2 hC hP hD rfl rfl) rfl rfl hl.1 rfl (lv_room (Nat.le_of_ble_eq_true rfl)) dX2_readCall_22 ⟨Nat.le_of_ble_eq_true rfl, Nat.le_of_ble_eq_true rfl⟩) (fun H locs hP hD hS => ?_)
      have hP : va_P (dC, dI) vwCl [(h0, .inr (2, [.ref h0_tape, .ref h0_rowsOf, .int q5.2.1, .int v_latestKind, .int q5.2.2.1, .int q5.2.2.2])), (h0_tape, .inr (4, [.ref h0_tape_bytes, .int v_tape_length])), (h0_tape_bytes, .inl (cI, 600, .inl v_tape_bytes)), (h0_rowsOf, .inl (cI, 3, .inl v_rowsOf))] H := hP.sub [0, 1, 2, 3] rfl
      have hD : va_D A [(h0, .inr (2, [.ref h0_tape, .ref h0_rowsOf, .int q5.2.1, .int v_latestKind, .int q5.2.2.1, .int q5.2.2.2])), (h0_tape, .inr (4, [.ref h0_tape_bytes, .int v_tape_length])), (h0_tape_bytes, .inl (cI, 600, .inl v_tape_bytes)), (h0_rowsOf, .inl (cI, 3, .inl v_rowsOf))] := hD.sub [0, 1, 2, 3] (by decide) rfl
      refine lv_if_eq (tgt := 52) hx hb dX2_readCall_25 (by decide) (fun c6 => ?_) (fun c6 => ?_)
      · replace hm := mt_pos c6 hm
        refine lv_iconst (v := (0 : Int32)) hx hb dX2_readCall_52 (by decide) ?_
        obtain rfl := Option.some.inj hm
        exact W.zret hx hb hr mt_z0 (fun t ht hW => ⟨⟨_, (), rfl, rfl, by rw [ht]; exact hP, hD⟩, hS.F ht⟩) hS.2.2 dX2_readCall_53
      · replace hm := mt_neg c6 hm
        refine lv_aload_n hx hb dX2_readCall_28 rfl (lv_at hl 0 rfl) ?_
        refine lv_bipush (v := (64 : Int32)) hx hb dX2_readCall_29 (by decide) ?_
        obtain ⟨q7, hq7, hm⟩ := mt_bind hm
        refine mt_calli (wr := []) hP hD hS hA [0, 1, 2, 3] [] rfl rfl (by decide) (by decide) (va_runV (As := [.int (64 : Int32)]) (rest := []) ⟨hx, hb, hml, hown, hts⟩ (c_X2_readByte l dC dI cZ cI cL h0 h0_tape h0_tape_bytes h0_rowsOf H.size (64 : Int32) q5.2.1 v_latestKind q5.2.2.1 q5.2.2.2 v_tape_length v_tape_bytes v_rowsOf q7 hq7) (cwV 1 hts gX2_readCall_X2_readByte rfl rfl rfl (by decide +kernel) ⟨Nat.le_of_ble_eq_true rfl, Nat.le_of_ble_eq_true rfl⟩) (mt_vS (q := (RX2, TX2, 6)) 2 hC hP hD rfl rfl) rfl rfl hl.1 rfl (lv_room (Nat.le_of_ble_eq_true rfl)) dX2_readCall_31 ⟨Nat.le_of_ble_eq_true rfl, Nat.le_of_ble_eq_true rfl⟩) (fun H locs hP hD hS => ?_)
        have hP : va_P (dC, dI) vwCl [(h0, .inr (2, [.ref h0_tape, .ref h0_rowsOf, .int q7.2.1, .int v_latestKind, .int q5.2.2.1, .int q7.2.2])), (h0_tape, .inr (4, [.ref h0_tape_bytes, .int v_tape_length])), (h0_tape_bytes, .inl (cI, 600, .inl v_tape_bytes)), (h0_rowsOf, .inl (cI, 3, .inl v_rowsOf))] H := hP.sub [0, 1, 2, 3] rfl
        have hD : va_D A [(h0, .inr (2, [.ref h0_tape, .ref h0_rowsOf, .int q7.2.1, .int v_latestKind, .int q5.2.2.1, .int q7.2.2])), (h0_tape, .inr (4, [.ref h0_tape_bytes, .int v_tape_length])), (h0_tape_bytes, .inl (cI, 600, .inl v_tape_bytes)), (h0_rowsOf, .inl (cI, 3, .inl v_rowsOf))] := hD.sub [0, 1, 2, 3] (by decide) rfl
        refine lv_if_eq (tgt := 52) hx hb dX2_readCall_34 (by decide) (fun c8 => ?_) (fun c8 => ?_)
        · replace hm := mt_pos c8 hm
          refine lv_iconst (v := (0 : Int32)) hx hb dX2_readCall_52 (by decide) ?_
          obtain rfl := Option.some.inj hm
          exact W.zret hx hb hr mt_z0 (fun t ht hW => ⟨⟨_, (), rfl, rfl, by rw [ht]; exact hP, hD⟩, hS.F ht⟩) hS.2.2 dX2_readCall_53
        · replace hm := mt_neg c8 hm
          refine lv_aload_n hx hb dX2_readCall_37 rfl (lv_at hl 0 rfl) ?_
          refine lv_iconst (v := (0 : Int32)) hx hb dX2_readCall_38 (by decide) ?_
          refine lv_sipush (v := (1439 : Int32)) hx hb dX2_readCall_39 (by decide) ?_
          obtain ⟨q9, hq9, hm⟩ := mt_bind hm
          refine mt_calli (wr := []) hP hD hS hA [0, 1, 2, 3] [] rfl rfl (by decide) (by decide) (va_runV (As := [.int (0 : Int32), .int (1439 : Int32)]) (rest := []) ⟨hx, hb, hml, hown, hts⟩ (c_X2_readNumber l dC dI cZ cI cL h0 h0_tape h0_tape_bytes h0_rowsOf H.size (0 : Int32) (1439 : Int32) q7.2.1 v_latestKind q5.2.2.1 q7.2.2 v_tape_length v_tape_bytes v_rowsOf fu q9 hq9) (cwV 2 hts gX2_readCall_X2_readNumber rfl rfl rfl (by decide +kernel) ⟨Nat.le_of_ble_eq_true rfl, Nat.le_of_ble_eq_true rfl⟩) (mt_vS (q := (RX2, TX2, 6)) 2 hC hP hD rfl rfl) rfl rfl hl.1 rfl (lv_room (Nat.le_of_ble_eq_true rfl)) dX2_readCall_42 ⟨Nat.le_of_ble_eq_true rfl, Nat.le_of_ble_eq_true rfl⟩) (fun H locs hP hD hS => ?_)
          have hP : va_P (dC, dI) vwCl [(h0, .inr (2, [.ref h0_tape, .ref h0_rowsOf, .int q9.2.1, .int v_latestKind, .int q9.2.2.1, .int q9.2.2.2])), (h0_tape, .inr (4, [.ref h0_tape_bytes, .int v_tape_length])), (h0_tape_bytes, .inl (cI, 600, .inl v_tape_bytes)), (h0_rowsOf, .inl (cI, 3, .inl v_rowsOf))] H := hP.sub [0, 1, 2, 3] rfl
          have hD : va_D A [(h0, .inr (2, [.ref h0_tape, .ref h0_rowsOf, .int q9.2.1, .int v_latestKind, .int q9.2.2.1, .int q9.2.2.2])), (h0_tape, .inr (4, [.ref h0_tape_bytes, .int v_tape_length])), (h0_tape_bytes, .inl (cI, 600, .inl v_tape_bytes)), (h0_rowsOf, .inl (cI, 3, .inl v_rowsOf))] := hD.sub [0, 1, 2, 3] (by decide) rfl
          refine lv_if_eq (tgt := 52) hx hb dX2_readCall_45 (by decide) (fun c10 => ?_) (fun c10 => ?_)
          · replace hm := mt_pos c10 hm
            refine lv_iconst (v := (0 : Int32)) hx hb dX2_readCall_52 (by decide) ?_
            obtain rfl := Option.some.inj hm
            exact W.zret hx hb hr mt_z0 (fun t ht hW => ⟨⟨_, (), rfl, rfl, by rw [ht]; exact hP, hD⟩, hS.F ht⟩) hS.2.2 dX2_readCall_53
          · replace hm := mt_neg c10 hm
            refine lv_iconst (v := (1 : Int32)) hx hb dX2_readCall_48 (by decide) ?_
            refine lv_goto (tgt := 53) hx hb dX2_readCall_49 (by decide) ?_
            obtain rfl := Option.some.inj hm
            exact W.zret hx hb hr mt_z1 (fun t ht hW => ⟨⟨_, (), rfl, rfl, by rw [ht]; exact hP, hD⟩, hS.F ht⟩) hS.2.2 dX2_readCall_53
def m_X2_readRow (fu : Nat) (v_place : Int32) (v_latestKind : Int32) (v_latestNumber : Int32) (v_wrong : Int32) (v_tape_length : Int32) (v_tape_bytes : Nat → Int32) (v_rowsOf : Nat → Int32) : Option (Int32 × Int32 × Int32 × Int32 × Int32 × (Nat → Int32)) := (m_X4_byteAt v_place v_tape_length v_tape_bytes).bind fun q1 => (m_X2_kindOfLetter q1).bind fun q2 => mt_j (fun (u45 : Unit) => (m_X2_wrongAt v_place).bind fun q3 => if (q3.1 &&& 1 = q3.1) then some (q3.1, v_place, v_latestKind, v_latestNumber, q3.2, v_rowsOf) else none) fun K45 => if q2 < 0 then K45 () else if (3 : Int32) ≤ q2 then K45 () else if q2 < v_latestKind then K45 () else if (¬ (q2 < 0 ∨ 3 ≤ q2.toNatClampNeg)) then (m_X2_mostRowsOf q2).bind fun q9 => if (v_rowsOf q2.toNatClampNeg) < q9 then if (¬ (q2 < 0 ∨ 3 ≤ q2.toNatClampNeg)) then if (¬ (q2 < 0 ∨ 3 ≤ q2.toNatClampNeg)) then if q2 = 0 then (m_X2_readStreet fu (v_place + (1 : Int32)) v_latestNumber v_wrong v_tape_length v_tape_bytes).bind fun q21 => if q21.1 = 0 then some ((0 : Int32), q21.2.1, q2, q21.2.2.1, q21.2.2.2, (upd v_rowsOf q2.toNatClampNeg ((v_rowsOf q2.toNatClampNeg) + (1 : Int32)))) else (m_X2_readByte (59 : Int32) q21.2.1 q21.2.2.2 v_tape_length v_tape_bytes).bind fun q23 => if q23.1 = 0 then some ((0 : Int32), q23.2.1, q2, q21.2.2.1, q23.2.2, (upd v_rowsOf q2.toNatClampNeg ((v_rowsOf q2.toNatClampNeg) + (1 : Int32)))) else some ((1 : Int32), q23.2.1, q2, q21.2.2.1, q23.2.2, (upd v_rowsOf q2.toNatClampNeg ((v_rowsOf q2.toNatClampNeg) + (1 : Int32)))) else mt_j (fun (v_place_127 : Int32) (v_latestNumber_127 : Int32) (v_wrong_127 : Int32) => (m_X2_readByte (59 : Int32) v_place_127 v_wrong_127 v_tape_length v_tape_bytes).bind fun q14 => if q14.1 = 0 then some ((0 : Int32), q14.2.1, q2, v_latestNumber_127, q14.2.2, (upd v_rowsOf q2.toNatClampNeg ((v_rowsOf q2.toNatClampNeg) + (1 : Int32)))) else some ((1 : Int32), q14.2.1, q2, v_latestNumber_127, q14.2.2, (upd v_rowsOf q2.toNatClampNeg ((v_rowsOf q2.toNatClampNeg) + (1 : Int32))))) fun K127 => if q2 = (1 : Int32) then (m_X2_readUnit fu (v_place + (1 : Int32)) v_latestNumber v_wrong v_tape_length v_tape_bytes).bind fun q19 => if q19.1 = 0 then some ((0 : Int32), q19.2.1, q2, q19.2.2.1, q19.2.2.2, (upd v_rowsOf q2.toNatClampNeg ((v_rowsOf q2.toNatClampNeg) + (1 : Int32)))) else K127 q19.2.1 q19.2.2.1 q19.2.2.2 else (m_X2_readCall fu (v_place + (1 : Int32)) v_latestNumber v_wrong v_tape_length v_tape_bytes).bind fun q17 => if q17.1 = 0 then some ((0 : Int32), q17.2.1, q2, q17.2.2.1, q17.2.2.2, (upd v_rowsOf q2.toNatClampNeg ((v_rowsOf q2.toNatClampNeg) + (1 : Int32)))) else K127 q17.2.1 q17.2.2.1 q17.2.2.2 else none else none else K45 () else none
set_option maxHeartbeats 4000000 in
set_option maxRecDepth 100000 in
theorem c_X2_readRow (l : Launch) (dC : Nat → ClassId) (dI : Nat → Nat → Nat) (cZ cI cL : ClassId) (h0 h0_tape h0_tape_bytes h0_rowsOf : Nat) (sz : Nat) (v_place : Int32) (v_latestKind : Int32) (v_latestNumber : Int32) (v_wrong : Int32) (v_tape_length : Int32) (v_tape_bytes : Nat → Int32) (v_rowsOf : Nat → Int32) (fu : Nat) (q : Int32 × Int32 × Int32 × Int32 × Int32 × (Nat → Int32)) (hm : m_X2_readRow fu v_place v_latestKind v_latestNumber v_wrong v_tape_length v_tape_bytes v_rowsOf = some q) : Met l yX2_readRow wsX2_readRow ({ frames := 3, cells := 0, slots := 0, locals := 66 }) (va_Pc [.ref h0] (mt_S (dC, dI) cZ cI cL sz [(h0, .inr (2, [.ref h0_tape, .ref h0_rowsOf, .int v_place, .int v_latestKind, .int v_latestNumber, .int v_wrong])), (h0_tape, .inr (4, [.ref h0_tape_bytes, .int v_tape_length])), (h0_tape_bytes, .inl (cI, 600, .inl v_tape_bytes)), (h0_rowsOf, .inl (cI, 3, .inl v_rowsOf))])) (va_Qi (fun (r : Int32) (_ : Unit) => r = q.1) (fun _ t => va_P (dC, dI) vwCl [(h0, .inr (2, [.ref h0_tape, .ref h0_rowsOf, .int q.2.1, .int q.2.2.1, .int q.2.2.2.1, .int q.2.2.2.2.1])), (h0_tape, .inr (4, [.ref h0_tape_bytes, .int v_tape_length])), (h0_tape_bytes, .inl (cI, 600, .inl v_tape_bytes)), (h0_rowsOf, .inl (cI, 3, .inl q.2.2.2.2.2))] t.heap ∧ va_D (va_A [(h0, .inr (2, [.ref h0_tape, .ref h0_rowsOf, .int v_place, .int v_latestKind, .int v_latestNumber, .int v_wrong])), (h0_tape, .inr (4, [.ref h0_tape_bytes, .int v_tape_length])), (h0_tape_bytes, .inl (cI, 600, .inl v_tape_bytes)), (h0_rowsOf, .inl (cI, 3, .inl v_rowsOf))] sz) [(h0, .inr (2, [.ref h0_tape, .ref h0_rowsOf, .int q.2.1, .int q.2.2.1, .int q.2.2.2.1, .int q.2.2.2.2.1])), (h0_tape, .inr (4, [.ref h0_tape_bytes, .int v_tape_length])), (h0_tape_bytes, .inl (cI, 600, .inl v_tape_bytes)), (h0_rowsOf, .inl (cI, 3, .inl q.2.2.2.2.2))]) (va_A [(h0, .inr (2, [.ref h0_tape, .ref h0_rowsOf, .int v_place, .int v_latestKind, .int v_latestNumber, .int v_wrong])), (h0_tape, .inr (4, [.ref h0_tape_bytes, .int v_tape_length])), (h0_tape_bytes, .inl (cI, 600, .inl v_tape_bytes)), (h0_rowsOf, .inl (cI, 3, .inl v_rowsOf))] sz)) 0 0 (va_A [(h0, .inr (2, [.ref h0_tape, .ref h0_rowsOf, .int v_place, .int v_latestKind, .int v_latestNumber, .int v_wrong])), (h0_tape, .inr (4, [.ref h0_tape_bytes, .int v_tape_length])), (h0_tape_bytes, .inl (cI, 600, .inl v_tape_bytes)), (h0_rowsOf, .inl (cI, 3, .inl v_rowsOf))] sz) := by
  refine Met.ofW (cc := cX2_readRow) (maxL := 2) (ret := (some .boolean)) (by decide) rfl ?_
  intro p e s m args below meth c s₁ B hml hv
  obtain ⟨rfl, hsz, hP, hC, hD0⟩ := hv
  have hx := B.exec
  have hb := B.bytes
  have hr := B.returns
  have hts := atoms_spec (ws := wsX2_readRow) B.pre
  have hown : s.vm.findClass RX2 = some m.cls := findClass_of_methodNamed B.named
  have hlocks := B.notSynchronized
  have hK := hC.1
  have hiX2 : ∀ w ∈ wsX20, w ∈ wsX2_readRow := by decide +kernel
  subst hsz
  have hD := hD0.self (sz := s.heap.size)
  generalize hAe : va_A [(h0, .inr (2, [.ref h0_tape, .ref h0_rowsOf, .int v_place, .int v_latestKind, .int v_latestNumber, .int v_wrong])), (h0_tape, .inr (4, [.ref h0_tape_bytes, .int v_tape_length])), (h0_tape_bytes, .inl (cI, 600, .inl v_tape_bytes)), (h0_rowsOf, .inl (cI, 3, .inl v_rowsOf))] s.heap.size = A at hD ⊢
  have hA : ∀ q : Nat, s.heap.size ≤ q → A q := fun q h => by rw [← hAe]; exact Or.inr h
  have hS : va_S A s.heap s.heap [] := va_S.rf
  have hl := lv_entry [.ref h0] (n := 2) (Nat.le_of_ble_eq_true rfl)
  rw [lg_entry_eq]
  generalize (lg_sl [.ref h0] ++ List.replicate (2 - (lg_sl [.ref h0]).length) Slot.unset).toArray = ls at hl ⊢
  have hl : lv_has ls 2 [(0, .ref h0)] := hl
  rw [m_X2_readRow] at hm
  refine lv_aload_n hx hb dX2_readRow_0 rfl (lv_at hl 0 rfl) ?_
  refine va_get (D := (dC, dI)) (ci := 2) (v := .ref h0_tape) (C := RX2) (T := TX2) (N := 6) hx hb hts hiX2 hown hK hP 0 rfl rfl 0 (by decide) (hts (.fieldLink RX2 12 "ServiceDrawer$Reader" "tape" "LServiceDrawer$Text;") (by decide +kernel)) (fun _ h9 => h9) rfl dX2_readRow_1 ?_
  refine lv_aload_n hx hb dX2_readRow_4 rfl (lv_at hl 0 rfl) ?_
  refine va_get (D := (dC, dI)) (ci := 2) (v := .int v_place) (C := RX2) (T := TX2) (N := 6) hx hb hts hiX2 hown hK hP 0 rfl rfl 2 (by decide) (hts (.fieldLink RX2 22 "ServiceDrawer$Reader" "place" "I") (by decide +kernel)) (fun _ h9 => h9) rfl dX2_readRow_5 ?_
  obtain ⟨q1, hq1, hm⟩ := mt_bind hm
  refine vp_callSi (va_Run.run (va_runV (As := [.int v_place]) (rest := []) ⟨hx, hb, hml, hown, hts⟩ (c_X4_byteAt l dC dI cZ cI cL h0_tape h0_tape_bytes v_place v_tape_length v_tape_bytes q1 hq1) (cwV 1 hts gX2_readRow_X4_byteAt rfl rfl rfl (by decide +kernel) ⟨Nat.le_of_ble_eq_true rfl, Nat.le_of_ble_eq_true rfl⟩) (mt_vR (q := (RX4, TX4, 2)) 4 hC (hP.sub (ws' := [(h0_tape, .inr (4, [.ref h0_tape_bytes, .int v_tape_length])), (h0_tape_bytes, .inl (cI, 600, .inl v_tape_bytes))]) [1, 2] rfl) rfl rfl) rfl rfl hl.1 rfl (lv_room (Nat.le_of_ble_eq_true rfl)) dX2_readRow_8 ⟨Nat.le_of_ble_eq_true rfl, Nat.le_of_ble_eq_true rfl⟩)) (fun r er => ?_)
  replace er := er.symm
  subst er
  obtain ⟨q2, hq2, hm⟩ := mt_bind hm
  refine vp_callSi (va_Run.run (va_runS (As := [.int q1]) (rest := []) ⟨hx, hb, hml, hown, hts⟩ (c_X2_kindOfLetter l dC dI cZ cI cL q1 q2 hq2) (va_cwS 1 hts gX2_readRow_X2_kindOfLetter rfl rfl rfl (by decide +kernel) ⟨Nat.le_of_ble_eq_true rfl, Nat.le_of_ble_eq_true rfl⟩) (mt_pR hC (hP.sub (ws' := []) [] rfl)) rfl rfl hl.1 rfl (lv_room (Nat.le_of_ble_eq_true rfl)) dX2_readRow_11 ⟨Nat.le_of_ble_eq_true rfl, Nat.le_of_ble_eq_true rfl⟩)) (fun r er => ?_)
  replace er := er.symm
  subst er
  refine lv_istore_n (lv' := [(1, .int q2), (0, .ref h0)]) hx hb dX2_readRow_14 rfl hl (by decide) rfl (fun ls hl => ?_)
  refine lv_iload_n hx hb dX2_readRow_15 rfl (lv_at hl 0 rfl) ?_
  obtain ⟨K45, hK45, hm⟩ := mt_jx hm
  have J45 : ∀ (u45 : Unit), ∀ (H : Heap) (locs : List Loc) (ls : Array Slot), K45 u45 = some q → va_P (dC, dI) vwCl [(h0, .inr (2, [.ref h0_tape, .ref h0_rowsOf, .int v_place, .int v_latestKind, .int v_latestNumber, .int v_wrong])), (h0_tape, .inr (4, [.ref h0_tape_bytes, .int v_tape_length])), (h0_tape_bytes, .inl (cI, 600, .inl v_tape_bytes)), (h0_rowsOf, .inl (cI, 3, .inl v_rowsOf))] H → va_D A [(h0, .inr (2, [.ref h0_tape, .ref h0_rowsOf, .int v_place, .int v_latestKind, .int v_latestNumber, .int v_wrong])), (h0_tape, .inr (4, [.ref h0_tape_bytes, .int v_tape_length])), (h0_tape_bytes, .inl (cI, 600, .inl v_tape_bytes)), (h0_rowsOf, .inl (cI, 3, .inl v_rowsOf))] → va_S A s.heap H locs → lv_has ls 2 [(0, .ref h0), (1, .int q2)] → W p l e (headSpec wsX2_readRow ({ frames := 3, cells := 0, slots := 0, locals := 66 })).room s m [.ref h0].toArray below meth c H locs 0 0 (MQ below (va_Qi (fun (r : Int32) (_ : Unit) => r = q.1) (fun _ t => va_P (dC, dI) vwCl [(h0, .inr (2, [.ref h0_tape, .ref h0_rowsOf, .int q.2.1, .int q.2.2.1, .int q.2.2.2.1, .int q.2.2.2.2.1])), (h0_tape, .inr (4, [.ref h0_tape_bytes, .int v_tape_length])), (h0_tape_bytes, .inl (cI, 600, .inl v_tape_bytes)), (h0_rowsOf, .inl (cI, 3, .inl q.2.2.2.2.2))] t.heap ∧ va_D A [(h0, .inr (2, [.ref h0_tape, .ref h0_rowsOf, .int q.2.1, .int q.2.2.1, .int q.2.2.2.1, .int q.2.2.2.2.1])), (h0_tape, .inr (4, [.ref h0_tape_bytes, .int v_tape_length])), (h0_tape_bytes, .inl (cI, 600, .inl v_tape_bytes)), (h0_rowsOf, .inl (cI, 3, .inl q.2.2.2.2.2))]) A) [.ref h0].toArray s 0 0 A) (F0 m 45 ls []) := by
    intro u45 H locs ls hm hP hD hS hl
    replace hm := mt_app1 hK45 hm
    refine lv_aload_n hx hb dX2_readRow_45 rfl (lv_at hl 0 rfl) ?_
    refine lv_aload_n hx hb dX2_readRow_46 rfl (lv_at hl 0 rfl) ?_
    refine va_get (D := (dC, dI)) (ci := 2) (v := .int v_place) (C := RX2) (T := TX2) (N := 6) hx hb hts hiX2 hown hK hP 0 rfl rfl 2 (by decide) (hts (.fieldLink RX2 22 "ServiceDrawer$Reader" "place" "I") (by decide +kernel)) (fun _ h9 => h9) rfl dX2_readRow_47 ?_
    obtain ⟨q3, hq3, hm⟩ := mt_bind hm
    refine mt_calli (wr := []) hP hD hS hA [0, 1, 2, 3] [] rfl rfl (by decide) (by decide) (va_runV (As := [.int v_place]) (rest := []) ⟨hx, hb, hml, hown, hts⟩ (c_X2_wrongAt l dC dI cZ cI cL h0 h0_tape h0_tape_bytes h0_rowsOf H.size v_place v_place v_latestKind v_latestNumber v_wrong v_tape_length v_tape_bytes v_rowsOf q3 hq3) (cwV 1 hts gX2_readRow_X2_wrongAt rfl rfl rfl (by decide +kernel) ⟨Nat.le_of_ble_eq_true rfl, Nat.le_of_ble_eq_true rfl⟩) (mt_vS (q := (RX2, TX2, 6)) 2 hC hP hD rfl rfl) rfl rfl hl.1 rfl (lv_room (Nat.le_of_ble_eq_true rfl)) dX2_readRow_50 ⟨Nat.le_of_ble_eq_true rfl, Nat.le_of_ble_eq_true rfl⟩) (fun H locs hP hD hS => ?_)
    have hP : va_P (dC, dI) vwCl [(h0, .inr (2, [.ref h0_tape, .ref h0_rowsOf, .int v_place, .int v_latestKind, .int v_latestNumber, .int q3.2])), (h0_tape, .inr (4, [.ref h0_tape_bytes, .int v_tape_length])), (h0_tape_bytes, .inl (cI, 600, .inl v_tape_bytes)), (h0_rowsOf, .inl (cI, 3, .inl v_rowsOf))] H := hP.sub [0, 1, 2, 3] rfl
    have hD : va_D A [(h0, .inr (2, [.ref h0_tape, .ref h0_rowsOf, .int v_place, .int v_latestKind, .int v_latestNumber, .int q3.2])), (h0_tape, .inr (4, [.ref h0_tape_bytes, .int v_tape_length])), (h0_tape_bytes, .inl (cI, 600, .inl v_tape_bytes)), (h0_rowsOf, .inl (cI, 3, .inl v_rowsOf))] := hD.sub [0, 1, 2, 3] (by decide) rfl
    obtain ⟨g4, hm⟩ := mt_gd hm
    obtain rfl := Option.some.inj hm
    exact W.zret hx hb hr (mt_zn g4) (fun t ht hW => ⟨⟨_, (), rfl, rfl, by rw [ht]; exact hP, hD⟩, hS.F ht⟩) hS.2.2 dX2_readRow_53
  refine lv_if_lt (tgt := 45) hx hb dX2_readRow_16 (by decide) (fun c5 => ?_) (fun c5 => ?_)
  · replace hm := mt_pos c5 hm
    exact J45 () _ _ _ hm hP hD hS (lv_sub hl [1, 0] rfl)
  · replace hm := mt_neg c5 hm
    refine lv_iload_n hx hb dX2_readRow_19 rfl (lv_at hl 0 rfl) ?_
    refine lv_iconst (v := (3 : Int32)) hx hb dX2_readRow_20 (by decide) ?_
    refine lv_icmp_ge (tgt := 45) hx hb dX2_readRow_21 (by decide) (fun c6 => ?_) (fun c6 => ?_)
    · replace hm := mt_pos c6 hm
      exact J45 () _ _ _ hm hP hD hS (lv_sub hl [1, 0] rfl)
    · replace hm := mt_neg c6 hm
      refine lv_iload_n hx hb dX2_readRow_24 rfl (lv_at hl 0 rfl) ?_
      refine lv_aload_n hx hb dX2_readRow_25 rfl (lv_at hl 1 rfl) ?_
      refine va_get (D := (dC, dI)) (ci := 2) (v := .int v_latestKind) (C := RX2) (T := TX2) (N := 6) hx hb hts hiX2 hown hK hP 0 rfl rfl 3 (by decide) (hts (.fieldLink RX2 26 "ServiceDrawer$Reader" "latestKind" "I") (by decide +kernel)) (fun _ h9 => h9) rfl dX2_readRow_26 ?_
      refine lv_icmp_lt (tgt := 45) hx hb dX2_readRow_29 (by decide) (fun c7 => ?_) (fun c7 => ?_)
      · replace hm := mt_pos c7 hm
        exact J45 () _ _ _ hm hP hD hS (lv_sub hl [1, 0] rfl)
      · replace hm := mt_neg c7 hm
        refine lv_aload_n hx hb dX2_readRow_32 rfl (lv_at hl 1 rfl) ?_
        refine va_get (D := (dC, dI)) (ci := 2) (v := .ref h0_rowsOf) (C := RX2) (T := TX2) (N := 6) hx hb hts hiX2 hown hK hP 0 rfl rfl 1 (by decide) (hts (.fieldLink RX2 18 "ServiceDrawer$Reader" "rowsOf" "[I") (by decide +kernel)) (fun _ h9 => h9) rfl dX2_readRow_33 ?_
        refine lv_iload_n hx hb dX2_readRow_36 rfl (lv_at hl 0 rfl) ?_
        obtain ⟨g8, hm⟩ := mt_gd hm
        refine va_iald hx hb hK hP 3 1 rfl rfl g8 dX2_readRow_37 ?_
        refine lv_iload_n hx hb dX2_readRow_38 rfl (lv_at hl 0 rfl) ?_
        obtain ⟨q9, hq9, hm⟩ := mt_bind hm
        refine vp_callSi (va_Run.run (va_runS (As := [.int q2]) (rest := [.int (v_rowsOf q2.toNatClampNeg)]) ⟨hx, hb, hml, hown, hts⟩ (c_X2_mostRowsOf l dC dI cZ cI cL q2 q9 hq9) (va_cwS 1 hts gX2_readRow_X2_mostRowsOf rfl rfl rfl (by decide +kernel) ⟨Nat.le_of_ble_eq_true rfl, Nat.le_of_ble_eq_true rfl⟩) (mt_pR hC (hP.sub (ws' := []) [] rfl)) rfl rfl hl.1 rfl (lv_room (Nat.le_of_ble_eq_true rfl)) dX2_readRow_39 ⟨Nat.le_of_ble_eq_true rfl, Nat.le_of_ble_eq_true rfl⟩)) (fun r er => ?_)
        replace er := er.symm
        subst er
        refine lv_icmp_lt (tgt := 54) hx hb dX2_readRow_42 (by decide) (fun c10 => ?_) (fun c10 => ?_)
        · replace hm := mt_pos c10 hm
          refine lv_aload_n hx hb dX2_readRow_54 rfl (lv_at hl 1 rfl) ?_
          refine lv_iload_n hx hb dX2_readRow_55 rfl (lv_at hl 0 rfl) ?_
          refine va_put (D := (dC, dI)) (ci := 2) (v := .int q2) (ty := .int) (C := RX2) (T := TX2) (N := 6) hx hb hts hiX2 tyX2 tyX2_ok nmX2 hown hK hP hD hS 0 rfl rfl 3 (by decide) (hts (.fieldLink RX2 26 "ServiceDrawer$Reader" "latestKind" "I") (by decide +kernel)) (fun _ h9 => h9) rfl (by decide +kernel) rfl rfl (Nat.le_of_ble_eq_true rfl) dX2_readRow_56 (fun H locs hP hD hS => ?_)
          have hP : va_P (dC, dI) vwCl [(h0, .inr (2, [.ref h0_tape, .ref h0_rowsOf, .int v_place, .int q2, .int v_latestNumber, .int v_wrong])), (h0_tape, .inr (4, [.ref h0_tape_bytes, .int v_tape_length])), (h0_tape_bytes, .inl (cI, 600, .inl v_tape_bytes)), (h0_rowsOf, .inl (cI, 3, .inl v_rowsOf))] H := hP
          have hD : va_D A [(h0, .inr (2, [.ref h0_tape, .ref h0_rowsOf, .int v_place, .int q2, .int v_latestNumber, .int v_wrong])), (h0_tape, .inr (4, [.ref h0_tape_bytes, .int v_tape_length])), (h0_tape_bytes, .inl (cI, 600, .inl v_tape_bytes)), (h0_rowsOf, .inl (cI, 3, .inl v_rowsOf))] := hD
          refine lv_aload_n hx hb dX2_readRow_59 rfl (lv_at hl 1 rfl) ?_
          refine va_get (D := (dC, dI)) (ci := 2) (v := .ref h0_rowsOf) (C := RX2) (T := TX2) (N := 6) hx hb hts hiX2 hown hK hP 0 rfl rfl 1 (by decide) (hts (.fieldLink RX2 18 "ServiceDrawer$Reader" "rowsOf" "[I") (by decide +kernel)) (fun _ h9 => h9) rfl dX2_readRow_60 ?_
          refine lv_iload_n hx hb dX2_readRow_63 rfl (lv_at hl 0 rfl) ?_
          refine lv_dup2_11 hx hb dX2_readRow_64 rfl rfl ?_
          obtain ⟨g11, hm⟩ := mt_gd hm
          refine va_iald hx hb hK hP 3 1 rfl rfl g11 dX2_readRow_65 ?_
          refine lv_iconst (v := (1 : Int32)) hx hb dX2_readRow_66 (by decide) ?_
          refine lv_iadd hx hb dX2_readRow_67 ?_
          obtain ⟨g12, hm⟩ := mt_gd hm
          refine va_iast hx hb hK hP hD hS 3 1 rfl rfl g12 dX2_readRow_68 (fun H locs hP hD hS => ?_)
          have hP : va_P (dC, dI) vwCl [(h0, .inr (2, [.ref h0_tape, .ref h0_rowsOf, .int v_place, .int q2, .int v_latestNumber, .int v_wrong])), (h0_tape, .inr (4, [.ref h0_tape_bytes, .int v_tape_length])), (h0_tape_bytes, .inl (cI, 600, .inl v_tape_bytes)), (h0_rowsOf, .inl (cI, 3, .inl (upd v_rowsOf q2.toNatClampNeg ((v_rowsOf q2.toNatClampNeg) + (1 : Int32)))))] H := hP
          have hD : va_D A [(h0, .inr (2, [.ref h0_tape, .ref h0_rowsOf, .int v_place, .int q2, .int v_latestNumber, .int v_wrong])), (h0_tape, .inr (4, [.ref h0_tape_bytes, .int v_tape_length])), (h0_tape_bytes, .inl (cI, 600, .inl v_tape_bytes)), (h0_rowsOf, .inl (cI, 3, .inl (upd v_rowsOf q2.toNatClampNeg ((v_rowsOf q2.toNatClampNeg) + (1 : Int32)))))] := hD
          refine lv_aload_n hx hb dX2_readRow_69 rfl (lv_at hl 1 rfl) ?_
          refine lv_dup hx hb dX2_readRow_70 rfl ?_
          refine va_get (D := (dC, dI)) (ci := 2) (v := .int v_place) (C := RX2) (T := TX2) (N := 6) hx hb hts hiX2 hown hK hP 0 rfl rfl 2 (by decide) (hts (.fieldLink RX2 22 "ServiceDrawer$Reader" "place" "I") (by decide +kernel)) (fun _ h9 => h9) rfl dX2_readRow_71 ?_
          refine lv_iconst (v := (1 : Int32)) hx hb dX2_readRow_74 (by decide) ?_
          refine lv_iadd hx hb dX2_readRow_75 ?_
          refine va_put (D := (dC, dI)) (ci := 2) (v := .int (v_place + (1 : Int32))) (ty := .int) (C := RX2) (T := TX2) (N := 6) hx hb hts hiX2 tyX2 tyX2_ok nmX2 hown hK hP hD hS 0 rfl rfl 2 (by decide) (hts (.fieldLink RX2 22 "ServiceDrawer$Reader" "place" "I") (by decide +kernel)) (fun _ h9 => h9) rfl (by decide +kernel) rfl rfl (Nat.le_of_ble_eq_true rfl) dX2_readRow_76 (fun H locs hP hD hS => ?_)
          have hP : va_P (dC, dI) vwCl [(h0, .inr (2, [.ref h0_tape, .ref h0_rowsOf, .int (v_place + (1 : Int32)), .int q2, .int v_latestNumber, .int v_wrong])), (h0_tape, .inr (4, [.ref h0_tape_bytes, .int v_tape_length])), (h0_tape_bytes, .inl (cI, 600, .inl v_tape_bytes)), (h0_rowsOf, .inl (cI, 3, .inl (upd v_rowsOf q2.toNatClampNeg ((v_rowsOf q2.toNatClampNeg) + (1 : Int32)))))] H := hP
          have hD : va_D A [(h0, .inr (2, [.ref h0_tape, .ref h0_rowsOf, .int (v_place + (1 : Int32)), .int q2, .int v_latestNumber, .int v_wrong])), (h0_tape, .inr (4, [.ref h0_tape_bytes, .int v_tape_length])), (h0_tape_bytes, .inl (cI, 600, .inl v_tape_bytes)), (h0_rowsOf, .inl (cI, 3, .inl (upd v_rowsOf q2.toNatClampNeg ((v_rowsOf q2.toNatClampNeg) + (1 : Int32)))))] := hD
          refine lv_iload_n hx hb dX2_readRow_79 rfl (lv_at hl 0 rfl) ?_
          refine lv_if_ne (tgt := 105) hx hb dX2_readRow_80 (by decide) (fun c13 => ?_) (fun c13 => ?_)
          · replace hm := mt_neg c13 hm
            refine lv_iload_n hx hb dX2_readRow_105 rfl (lv_at hl 0 rfl) ?_
            refine lv_iconst (v := (1 : Int32)) hx hb dX2_readRow_106 (by decide) ?_
            obtain ⟨K127, hK127, hm⟩ := mt_jx hm
            have J127 : ∀ (v_place_127 : Int32) (v_latestNumber_127 : Int32) (v_wrong_127 : Int32), ∀ (H : Heap) (locs : List Loc) (ls : Array Slot), K127 v_place_127 v_latestNumber_127 v_wrong_127 = some q → va_P (dC, dI) vwCl [(h0, .inr (2, [.ref h0_tape, .ref h0_rowsOf, .int v_place_127, .int q2, .int v_latestNumber_127, .int v_wrong_127])), (h0_tape, .inr (4, [.ref h0_tape_bytes, .int v_tape_length])), (h0_tape_bytes, .inl (cI, 600, .inl v_tape_bytes)), (h0_rowsOf, .inl (cI, 3, .inl (upd v_rowsOf q2.toNatClampNeg ((v_rowsOf q2.toNatClampNeg) + (1 : Int32)))))] H → va_D A [(h0, .inr (2, [.ref h0_tape, .ref h0_rowsOf, .int v_place_127, .int q2, .int v_latestNumber_127, .int v_wrong_127])), (h0_tape, .inr (4, [.ref h0_tape_bytes, .int v_tape_length])), (h0_tape_bytes, .inl (cI, 600, .inl v_tape_bytes)), (h0_rowsOf, .inl (cI, 3, .inl (upd v_rowsOf q2.toNatClampNeg ((v_rowsOf q2.toNatClampNeg) + (1 : Int32)))))] → va_S A s.heap H locs → lv_has ls 2 [(0, .ref h0), (1, .int q2)] → W p l e (headSpec wsX2_readRow ({ frames := 3, cells := 0, slots := 0, locals := 66 })).room s m [.ref h0].toArray below meth c H locs 0 0 (MQ below (va_Qi (fun (r : Int32) (_ : Unit) => r = q.1) (fun _ t => va_P (dC, dI) vwCl [(h0, .inr (2, [.ref h0_tape, .ref h0_rowsOf, .int q.2.1, .int q.2.2.1, .int q.2.2.2.1, .int q.2.2.2.2.1])), (h0_tape, .inr (4, [.ref h0_tape_bytes, .int v_tape_length])), (h0_tape_bytes, .inl (cI, 600, .inl v_tape_bytes)), (h0_rowsOf, .inl (cI, 3, .inl q.2.2.2.2.2))] t.heap ∧ va_D A [(h0, .inr (2, [.ref h0_tape, .ref h0_rowsOf, .int q.2.1, .int q.2.2.1, .int q.2.2.2.1, .int q.2.2.2.2.1])), (h0_tape, .inr (4, [.ref h0_tape_bytes, .int v_tape_length])), (h0_tape_bytes, .inl (cI, 600, .inl v_tape_bytes)), (h0_rowsOf, .inl (cI, 3, .inl q.2.2.2.2.2))]) A) [.ref h0].toArray s 0 0 A) (F0 m 127 ls []) := by
              intro v_place_127 v_latestNumber_127 v_wrong_127 H locs ls hm hP hD hS hl
              replace hm := mt_app3 hK127 hm
              refine lv_aload_n hx hb dX2_readRow_127 rfl (lv_at hl 0 rfl) ?_
              refine lv_bipush (v := (59 : Int32)) hx hb dX2_readRow_128 (by decide) ?_
              obtain ⟨q14, hq14, hm⟩ := mt_bind hm
              refine mt_calli (wr := []) hP hD hS hA [0, 1, 2, 3] [] rfl rfl (by decide) (by decide) (va_runV (As := [.int (59 : Int32)]) (rest := []) ⟨hx, hb, hml, hown, hts⟩ (c_X2_readByte l dC dI cZ cI cL h0 h0_tape h0_tape_bytes h0_rowsOf H.size (59 : Int32) v_place_127 q2 v_latestNumber_127 v_wrong_127 v_tape_length v_tape_bytes (upd v_rowsOf q2.toNatClampNeg ((v_rowsOf q2.toNatClampNeg) + (1 : Int32))) q14 hq14) (cwV 1 hts gX2_readRow_X2_readByte rfl rfl rfl (by decide +kernel) ⟨Nat.le_of_ble_eq_true rfl, Nat.le_of_ble_eq_true rfl⟩) (mt_vS (q := (RX2, TX2, 6)) 2 hC hP hD rfl rfl) rfl rfl hl.1 rfl (lv_room (Nat.le_of_ble_eq_true rfl)) dX2_readRow_130 ⟨Nat.le_of_ble_eq_true rfl, Nat.le_of_ble_eq_true rfl⟩) (fun H locs hP hD hS => ?_)
              have hP : va_P (dC, dI) vwCl [(h0, .inr (2, [.ref h0_tape, .ref h0_rowsOf, .int q14.2.1, .int q2, .int v_latestNumber_127, .int q14.2.2])), (h0_tape, .inr (4, [.ref h0_tape_bytes, .int v_tape_length])), (h0_tape_bytes, .inl (cI, 600, .inl v_tape_bytes)), (h0_rowsOf, .inl (cI, 3, .inl (upd v_rowsOf q2.toNatClampNeg ((v_rowsOf q2.toNatClampNeg) + (1 : Int32)))))] H := hP.sub [0, 1, 2, 3] rfl
              have hD : va_D A [(h0, .inr (2, [.ref h0_tape, .ref h0_rowsOf, .int q14.2.1, .int q2, .int v_latestNumber_127, .int q14.2.2])), (h0_tape, .inr (4, [.ref h0_tape_bytes, .int v_tape_length])), (h0_tape_bytes, .inl (cI, 600, .inl v_tape_bytes)), (h0_rowsOf, .inl (cI, 3, .inl (upd v_rowsOf q2.toNatClampNeg ((v_rowsOf q2.toNatClampNeg) + (1 : Int32)))))] := hD.sub [0, 1, 2, 3] (by decide) rfl
              refine lv_if_eq (tgt := 140) hx hb dX2_readRow_133 (by decide) (fun c15 => ?_) (fun c15 => ?_)
              · replace hm := mt_pos c15 hm
                refine lv_iconst (v := (0 : Int32)) hx hb dX2_readRow_140 (by decide) ?_
                obtain rfl := Option.some.inj hm
                exact W.zret hx hb hr mt_z0 (fun t ht hW => ⟨⟨_, (), rfl, rfl, by rw [ht]; exact hP, hD⟩, hS.F ht⟩) hS.2.2 dX2_readRow_141
              · replace hm := mt_neg c15 hm
                refine lv_iconst (v := (1 : Int32)) hx hb dX2_readRow_136 (by decide) ?_
                refine lv_goto (tgt := 141) hx hb dX2_readRow_137 (by decide) ?_
                obtain rfl := Option.some.inj hm
                exact W.zret hx hb hr mt_z1 (fun t ht hW => ⟨⟨_, (), rfl, rfl, by rw [ht]; exact hP, hD⟩, hS.F ht⟩) hS.2.2 dX2_readRow_141
            refine lv_icmp_ne (tgt := 120) hx hb dX2_readRow_107 (by decide) (fun c16 => ?_) (fun c16 => ?_)
            · replace hm := mt_neg c16 hm
              refine lv_aload_n hx hb dX2_readRow_120 rfl (lv_at hl 1 rfl) ?_
              obtain ⟨q17, hq17, hm⟩ := mt_bind hm
              refine mt_calli (wr := []) hP hD hS hA [0, 1, 2, 3] [] rfl rfl (by decide) (by decide) (va_runV (As := []) (rest := []) ⟨hx, hb, hml, hown, hts⟩ (c_X2_readCall l dC dI cZ cI cL h0 h0_tape h0_tape_bytes h0_rowsOf H.size (v_place + (1 : Int32)) q2 v_latestNumber v_wrong v_tape_length v_tape_bytes (upd v_rowsOf q2.toNatClampNeg ((v_rowsOf q2.toNatClampNeg) + (1 : Int32))) fu q17 hq17) (cwV 0 hts gX2_readRow_X2_readCall rfl rfl rfl (by decide +kernel) ⟨Nat.le_of_ble_eq_true rfl, Nat.le_of_ble_eq_true rfl⟩) (mt_vS (q := (RX2, TX2, 6)) 2 hC hP hD rfl rfl) rfl rfl hl.1 rfl (lv_room (Nat.le_of_ble_eq_true rfl)) dX2_readRow_121 ⟨Nat.le_of_ble_eq_true rfl, Nat.le_of_ble_eq_true rfl⟩) (fun H locs hP hD hS => ?_)
              have hP : va_P (dC, dI) vwCl [(h0, .inr (2, [.ref h0_tape, .ref h0_rowsOf, .int q17.2.1, .int q2, .int q17.2.2.1, .int q17.2.2.2])), (h0_tape, .inr (4, [.ref h0_tape_bytes, .int v_tape_length])), (h0_tape_bytes, .inl (cI, 600, .inl v_tape_bytes)), (h0_rowsOf, .inl (cI, 3, .inl (upd v_rowsOf q2.toNatClampNeg ((v_rowsOf q2.toNatClampNeg) + (1 : Int32)))))] H := hP.sub [0, 1, 2, 3] rfl
              have hD : va_D A [(h0, .inr (2, [.ref h0_tape, .ref h0_rowsOf, .int q17.2.1, .int q2, .int q17.2.2.1, .int q17.2.2.2])), (h0_tape, .inr (4, [.ref h0_tape_bytes, .int v_tape_length])), (h0_tape_bytes, .inl (cI, 600, .inl v_tape_bytes)), (h0_rowsOf, .inl (cI, 3, .inl (upd v_rowsOf q2.toNatClampNeg ((v_rowsOf q2.toNatClampNeg) + (1 : Int32)))))] := hD.sub [0, 1, 2, 3] (by decide) rfl
              refine lv_if_eq (tgt := 140) hx hb dX2_readRow_124 (by decide) (fun c18 => ?_) (fun c18 => ?_)
              · replace hm := mt_pos c18 hm
                refine lv_iconst (v := (0 : Int32)) hx hb dX2_readRow_140 (by decide) ?_
                obtain rfl := Option.some.inj hm
                exact W.zret hx hb hr mt_z0 (fun t ht hW => ⟨⟨_, (), rfl, rfl, by rw [ht]; exact hP, hD⟩, hS.F ht⟩) hS.2.2 dX2_readRow_141
              · replace hm := mt_neg c18 hm
                exact J127 q17.2.1 q17.2.2.1 q17.2.2.2 _ _ _ hm hP hD hS (lv_sub hl [1, 0] rfl)
            · replace hm := mt_pos c16 hm
              refine lv_aload_n hx hb dX2_readRow_110 rfl (lv_at hl 1 rfl) ?_
              obtain ⟨q19, hq19, hm⟩ := mt_bind hm
              refine mt_calli (wr := []) hP hD hS hA [0, 1, 2, 3] [] rfl rfl (by decide) (by decide) (va_runV (As := []) (rest := []) ⟨hx, hb, hml, hown, hts⟩ (c_X2_readUnit l dC dI cZ cI cL h0 h0_tape h0_tape_bytes h0_rowsOf H.size (v_place + (1 : Int32)) q2 v_latestNumber v_wrong v_tape_length v_tape_bytes (upd v_rowsOf q2.toNatClampNeg ((v_rowsOf q2.toNatClampNeg) + (1 : Int32))) fu q19 hq19) (cwV 0 hts gX2_readRow_X2_readUnit rfl rfl rfl (by decide +kernel) ⟨Nat.le_of_ble_eq_true rfl, Nat.le_of_ble_eq_true rfl⟩) (mt_vS (q := (RX2, TX2, 6)) 2 hC hP hD rfl rfl) rfl rfl hl.1 rfl (lv_room (Nat.le_of_ble_eq_true rfl)) dX2_readRow_111 ⟨Nat.le_of_ble_eq_true rfl, Nat.le_of_ble_eq_true rfl⟩) (fun H locs hP hD hS => ?_)
              have hP : va_P (dC, dI) vwCl [(h0, .inr (2, [.ref h0_tape, .ref h0_rowsOf, .int q19.2.1, .int q2, .int q19.2.2.1, .int q19.2.2.2])), (h0_tape, .inr (4, [.ref h0_tape_bytes, .int v_tape_length])), (h0_tape_bytes, .inl (cI, 600, .inl v_tape_bytes)), (h0_rowsOf, .inl (cI, 3, .inl (upd v_rowsOf q2.toNatClampNeg ((v_rowsOf q2.toNatClampNeg) + (1 : Int32)))))] H := hP.sub [0, 1, 2, 3] rfl
              have hD : va_D A [(h0, .inr (2, [.ref h0_tape, .ref h0_rowsOf, .int q19.2.1, .int q2, .int q19.2.2.1, .int q19.2.2.2])), (h0_tape, .inr (4, [.ref h0_tape_bytes, .int v_tape_length])), (h0_tape_bytes, .inl (cI, 600, .inl v_tape_bytes)), (h0_rowsOf, .inl (cI, 3, .inl (upd v_rowsOf q2.toNatClampNeg ((v_rowsOf q2.toNatClampNeg) + (1 : Int32)))))] := hD.sub [0, 1, 2, 3] (by decide) rfl
              refine lv_if_eq (tgt := 140) hx hb dX2_readRow_114 (by decide) (fun c20 => ?_) (fun c20 => ?_)
              · replace hm := mt_pos c20 hm
                refine lv_iconst (v := (0 : Int32)) hx hb dX2_readRow_140 (by decide) ?_
                obtain rfl := Option.some.inj hm
                exact W.zret hx hb hr mt_z0 (fun t ht hW => ⟨⟨_, (), rfl, rfl, by rw [ht]; exact hP, hD⟩, hS.F ht⟩) hS.2.2 dX2_readRow_141
              · replace hm := mt_neg c20 hm
                refine lv_goto (tgt := 127) hx hb dX2_readRow_117 (by decide) ?_
                exact J127 q19.2.1 q19.2.2.1 q19.2.2.2 _ _ _ hm hP hD hS (lv_sub hl [1, 0] rfl)
          · replace hm := mt_pos c13 hm
            refine lv_aload_n hx hb dX2_readRow_83 rfl (lv_at hl 1 rfl) ?_
            obtain ⟨q21, hq21, hm⟩ := mt_bind hm
            refine mt_calli (wr := []) hP hD hS hA [0, 1, 2, 3] [] rfl rfl (by decide) (by decide) (va_runV (As := []) (rest := []) ⟨hx, hb, hml, hown, hts⟩ (c_X2_readStreet l dC dI cZ cI cL h0 h0_tape h0_tape_bytes h0_rowsOf H.size (v_place + (1 : Int32)) q2 v_latestNumber v_wrong v_tape_length v_tape_bytes (upd v_rowsOf q2.toNatClampNeg ((v_rowsOf q2.toNatClampNeg) + (1 : Int32))) fu q21 hq21) (cwV 0 hts gX2_readRow_X2_readStreet rfl rfl rfl (by decide +kernel) ⟨Nat.le_of_ble_eq_true rfl, Nat.le_of_ble_eq_true rfl⟩) (mt_vS (q := (RX2, TX2, 6)) 2 hC hP hD rfl rfl) rfl rfl hl.1 rfl (lv_room (Nat.le_of_ble_eq_true rfl)) dX2_readRow_84 ⟨Nat.le_of_ble_eq_true rfl, Nat.le_of_ble_eq_true rfl⟩) (fun H locs hP hD hS => ?_)
            have hP : va_P (dC, dI) vwCl [(h0, .inr (2, [.ref h0_tape, .ref h0_rowsOf, .int q21.2.1, .int q2, .int q21.2.2.1, .int q21.2.2.2])), (h0_tape, .inr (4, [.ref h0_tape_bytes, .int v_tape_length])), (h0_tape_bytes, .inl (cI, 600, .inl v_tape_bytes)), (h0_rowsOf, .inl (cI, 3, .inl (upd v_rowsOf q2.toNatClampNeg ((v_rowsOf q2.toNatClampNeg) + (1 : Int32)))))] H := hP.sub [0, 1, 2, 3] rfl
            have hD : va_D A [(h0, .inr (2, [.ref h0_tape, .ref h0_rowsOf, .int q21.2.1, .int q2, .int q21.2.2.1, .int q21.2.2.2])), (h0_tape, .inr (4, [.ref h0_tape_bytes, .int v_tape_length])), (h0_tape_bytes, .inl (cI, 600, .inl v_tape_bytes)), (h0_rowsOf, .inl (cI, 3, .inl (upd v_rowsOf q2.toNatClampNeg ((v_rowsOf q2.toNatClampNeg) + (1 : Int32)))))] := hD.sub [0, 1, 2, 3] (by decide) rfl
            refine lv_if_eq (tgt := 103) hx hb dX2_readRow_87 (by decide) (fun c22 => ?_) (fun c22 => ?_)
            · replace hm := mt_pos c22 hm
              refine lv_iconst (v := (0 : Int32)) hx hb dX2_readRow_103 (by decide) ?_
              obtain rfl := Option.some.inj hm
              exact W.zret hx hb hr mt_z0 (fun t ht hW => ⟨⟨_, (), rfl, rfl, by rw [ht]; exact hP, hD⟩, hS.F ht⟩) hS.2.2 dX2_readRow_104
            · replace hm := mt_neg c22 hm
              refine lv_aload_n hx hb dX2_readRow_90 rfl (lv_at hl 1 rfl) ?_
              refine lv_bipush (v := (59 : Int32)) hx hb dX2_readRow_91 (by decide) ?_
              obtain ⟨q23, hq23, hm⟩ := mt_bind hm
              refine mt_calli (wr := []) hP hD hS hA [0, 1, 2, 3] [] rfl rfl (by decide) (by decide) (va_runV (As := [.int (59 : Int32)]) (rest := []) ⟨hx, hb, hml, hown, hts⟩ (c_X2_readByte l dC dI cZ cI cL h0 h0_tape h0_tape_bytes h0_rowsOf H.size (59 : Int32) q21.2.1 q2 q21.2.2.1 q21.2.2.2 v_tape_length v_tape_bytes (upd v_rowsOf q2.toNatClampNeg ((v_rowsOf q2.toNatClampNeg) + (1 : Int32))) q23 hq23) (cwV 1 hts gX2_readRow_X2_readByte rfl rfl rfl (by decide +kernel) ⟨Nat.le_of_ble_eq_true rfl, Nat.le_of_ble_eq_true rfl⟩) (mt_vS (q := (RX2, TX2, 6)) 2 hC hP hD rfl rfl) rfl rfl hl.1 rfl (lv_room (Nat.le_of_ble_eq_true rfl)) dX2_readRow_93 ⟨Nat.le_of_ble_eq_true rfl, Nat.le_of_ble_eq_true rfl⟩) (fun H locs hP hD hS => ?_)
              have hP : va_P (dC, dI) vwCl [(h0, .inr (2, [.ref h0_tape, .ref h0_rowsOf, .int q23.2.1, .int q2, .int q21.2.2.1, .int q23.2.2])), (h0_tape, .inr (4, [.ref h0_tape_bytes, .int v_tape_length])), (h0_tape_bytes, .inl (cI, 600, .inl v_tape_bytes)), (h0_rowsOf, .inl (cI, 3, .inl (upd v_rowsOf q2.toNatClampNeg ((v_rowsOf q2.toNatClampNeg) + (1 : Int32)))))] H := hP.sub [0, 1, 2, 3] rfl
              have hD : va_D A [(h0, .inr (2, [.ref h0_tape, .ref h0_rowsOf, .int q23.2.1, .int q2, .int q21.2.2.1, .int q23.2.2])), (h0_tape, .inr (4, [.ref h0_tape_bytes, .int v_tape_length])), (h0_tape_bytes, .inl (cI, 600, .inl v_tape_bytes)), (h0_rowsOf, .inl (cI, 3, .inl (upd v_rowsOf q2.toNatClampNeg ((v_rowsOf q2.toNatClampNeg) + (1 : Int32)))))] := hD.sub [0, 1, 2, 3] (by decide) rfl
              refine lv_if_eq (tgt := 103) hx hb dX2_readRow_96 (by decide) (fun c24 => ?_) (fun c24 => ?_)
              · replace hm := mt_pos c24 hm
                refine lv_iconst (v := (0 : Int32)) hx hb dX2_readRow_103 (by decide) ?_
                obtain rfl := Option.some.inj hm
                exact W.zret hx hb hr mt_z0 (fun t ht hW => ⟨⟨_, (), rfl, rfl, by rw [ht]; exact hP, hD⟩, hS.F ht⟩) hS.2.2 dX2_readRow_104
              · replace hm := mt_neg c24 hm
                refine lv_iconst (v := (1 : Int32)) hx hb dX2_readRow_99 (by decide) ?_
                refine lv_goto (tgt := 104) hx hb dX2_readRow_100 (by decide) ?_
                obtain rfl := Option.some.inj hm
                exact W.zret hx hb hr mt_z1 (fun t ht hW => ⟨⟨_, (), rfl, rfl, by rw [ht]; exact hP, hD⟩, hS.F ht⟩) hS.2.2 dX2_readRow_104
        · replace hm := mt_neg c10 hm
          exact J45 () _ _ _ hm hP hD hS (lv_sub hl [1, 0] rfl)
def m_X2_wrongPlace_L39 (fu : Nat) (v_tape_length : Int32) (v_tape_bytes : Nat → Int32) (K75 : Int32 → Int32 → Int32 → Int32 → Int32 → Int32 → (Nat → Int32) → Option (Int32 × Int32 × Int32 × Int32 × Int32 × (Nat → Int32))) : Nat → Int32 → Int32 → Int32 → Int32 → Int32 → Int32 → (Nat → Int32) → Option (Int32 × Int32 × Int32 × Int32 × Int32 × (Nat → Int32))
  | 0, _, _, _, _, _, _, _ => none
  | n39 + 1, x1_39, x2_39, v_place_39, v_latestKind_39, v_latestNumber_39, v_wrong_39, v_rowsOf_39 => if (600 : Int32) ≤ x2_39 then K75 x1_39 x2_39 v_place_39 v_latestKind_39 v_latestNumber_39 v_wrong_39 v_rowsOf_39 else if x1_39 = 0 then K75 x1_39 x2_39 v_place_39 v_latestKind_39 v_latestNumber_39 v_wrong_39 v_rowsOf_39 else (m_X4_length v_tape_length).bind fun q3 => if q3 ≤ v_place_39 then K75 x1_39 x2_39 v_place_39 v_latestKind_39 v_latestNumber_39 v_wrong_39 v_rowsOf_39 else (m_X2_readRow fu v_place_39 v_latestKind_39 v_latestNumber_39 v_wrong_39 v_tape_length v_tape_bytes v_rowsOf_39).bind fun q5 => m_X2_wrongPlace_L39 fu v_tape_length v_tape_bytes K75 n39 q5.1 (x2_39 + (1 : Int32)) q5.2.1 q5.2.2.1 q5.2.2.2.1 q5.2.2.2.2.1 q5.2.2.2.2.2
def m_X2_wrongPlace_L17 (K35 : Int32 → (Nat → Int32) → Option (Int32 × Int32 × Int32 × Int32 × Int32 × (Nat → Int32))) : Nat → Int32 → (Nat → Int32) → Option (Int32 × Int32 × Int32 × Int32 × Int32 × (Nat → Int32))
  | 0, _, _ => none
  | n17 + 1, x1_17, v_rowsOf_17 => if (3 : Int32) ≤ x1_17 then K35 x1_17 v_rowsOf_17 else if (¬ (x1_17 < 0 ∨ 3 ≤ x1_17.toNatClampNeg)) then m_X2_wrongPlace_L17 K35 n17 (x1_17 + (1 : Int32)) (upd v_rowsOf_17 x1_17.toNatClampNeg (0 : Int32)) else none
def m_X2_wrongPlace (fu : Nat) (v_latestNumber : Int32) (v_tape_length : Int32) (v_tape_bytes : Nat → Int32) (v_rowsOf : Nat → Int32) : Option (Int32 × Int32 × Int32 × Int32 × Int32 × (Nat → Int32)) := mt_j (fun (x1_35 : Int32) (v_rowsOf_35 : Nat → Int32) => mt_j (fun (x1_75 : Int32) (x2_75 : Int32) (v_place_75 : Int32) (v_latestKind_75 : Int32) (v_latestNumber_75 : Int32) (v_wrong_75 : Int32) (v_rowsOf_75 : Nat → Int32) => some (v_wrong_75, v_place_75, v_latestKind_75, v_latestNumber_75, v_wrong_75, v_rowsOf_75)) fun K75 => m_X2_wrongPlace_L39 fu v_tape_length v_tape_bytes K75 fu (1 : Int32) (0 : Int32) (0 : Int32) (0 : Int32) v_latestNumber ((-1) : Int32) v_rowsOf_35) fun K35 => m_X2_wrongPlace_L17 K35 fu (0 : Int32) v_rowsOf
set_option maxHeartbeats 4000000 in
set_option maxRecDepth 100000 in
theorem c_X2_wrongPlace (l : Launch) (dC : Nat → ClassId) (dI : Nat → Nat → Nat) (cZ cI cL : ClassId) (h0 h0_tape h0_tape_bytes h0_rowsOf : Nat) (sz : Nat) (v_place : Int32) (v_latestKind : Int32) (v_latestNumber : Int32) (v_wrong : Int32) (v_tape_length : Int32) (v_tape_bytes : Nat → Int32) (v_rowsOf : Nat → Int32) (fu : Nat) (q : Int32 × Int32 × Int32 × Int32 × Int32 × (Nat → Int32)) (hm : m_X2_wrongPlace fu v_latestNumber v_tape_length v_tape_bytes v_rowsOf = some q) : Met l yX2_wrongPlace wsX2_wrongPlace ({ frames := 4, cells := 0, slots := 0, locals := 87 }) (va_Pc [.ref h0] (mt_S (dC, dI) cZ cI cL sz [(h0, .inr (2, [.ref h0_tape, .ref h0_rowsOf, .int v_place, .int v_latestKind, .int v_latestNumber, .int v_wrong])), (h0_tape, .inr (4, [.ref h0_tape_bytes, .int v_tape_length])), (h0_tape_bytes, .inl (cI, 600, .inl v_tape_bytes)), (h0_rowsOf, .inl (cI, 3, .inl v_rowsOf))])) (va_Qi (fun (r : Int32) (_ : Unit) => r = q.1) (fun _ t => va_P (dC, dI) vwCl [(h0, .inr (2, [.ref h0_tape, .ref h0_rowsOf, .int q.2.1, .int q.2.2.1, .int q.2.2.2.1, .int q.2.2.2.2.1])), (h0_tape, .inr (4, [.ref h0_tape_bytes, .int v_tape_length])), (h0_tape_bytes, .inl (cI, 600, .inl v_tape_bytes)), (h0_rowsOf, .inl (cI, 3, .inl q.2.2.2.2.2))] t.heap ∧ va_D (va_A [(h0, .inr (2, [.ref h0_tape, .ref h0_rowsOf, .int v_place, .int v_latestKind, .int v_latestNumber, .int v_wrong])), (h0_tape, .inr (4, [.ref h0_tape_bytes, .int v_tape_length])), (h0_tape_bytes, .inl (cI, 600, .inl v_tape_bytes)), (h0_rowsOf, .inl (cI, 3, .inl v_rowsOf))] sz) [(h0, .inr (2, [.ref h0_tape, .ref h0_rowsOf, .int q.2.1, .int q.2.2.1, .int q.2.2.2.1, .int q.2.2.2.2.1])), (h0_tape, .inr (4, [.ref h0_tape_bytes, .int v_tape_length])), (h0_tape_bytes, .inl (cI, 600, .inl v_tape_bytes)), (h0_rowsOf, .inl (cI, 3, .inl q.2.2.2.2.2))]) (va_A [(h0, .inr (2, [.ref h0_tape, .ref h0_rowsOf, .int v_place, .int v_latestKind, .int v_latestNumber, .int v_wrong])), (h0_tape, .inr (4, [.ref h0_tape_bytes, .int v_tape_length])), (h0_tape_bytes, .inl (cI, 600, .inl v_tape_bytes)), (h0_rowsOf, .inl (cI, 3, .inl v_rowsOf))] sz)) 0 0 (va_A [(h0, .inr (2, [.ref h0_tape, .ref h0_rowsOf, .int v_place, .int v_latestKind, .int v_latestNumber, .int v_wrong])), (h0_tape, .inr (4, [.ref h0_tape_bytes, .int v_tape_length])), (h0_tape_bytes, .inl (cI, 600, .inl v_tape_bytes)), (h0_rowsOf, .inl (cI, 3, .inl v_rowsOf))] sz) := by
  refine Met.ofW (cc := cX2_wrongPlace) (maxL := 3) (ret := (some .int)) (by decide) rfl ?_
  intro p e s m args below meth c s₁ B hml hv
  obtain ⟨rfl, hsz, hP, hC, hD0⟩ := hv
  have hx := B.exec
  have hb := B.bytes
  have hr := B.returns
  have hts := atoms_spec (ws := wsX2_wrongPlace) B.pre
  have hown : s.vm.findClass RX2 = some m.cls := findClass_of_methodNamed B.named
  have hlocks := B.notSynchronized
  have hK := hC.1
  have hiX2 : ∀ w ∈ wsX20, w ∈ wsX2_wrongPlace := by decide +kernel
  subst hsz
  have hD := hD0.self (sz := s.heap.size)
  generalize hAe : va_A [(h0, .inr (2, [.ref h0_tape, .ref h0_rowsOf, .int v_place, .int v_latestKind, .int v_latestNumber, .int v_wrong])), (h0_tape, .inr (4, [.ref h0_tape_bytes, .int v_tape_length])), (h0_tape_bytes, .inl (cI, 600, .inl v_tape_bytes)), (h0_rowsOf, .inl (cI, 3, .inl v_rowsOf))] s.heap.size = A at hD ⊢
  have hA : ∀ q : Nat, s.heap.size ≤ q → A q := fun q h => by rw [← hAe]; exact Or.inr h
  have hS : va_S A s.heap s.heap [] := va_S.rf
  have hl := lv_entry [.ref h0] (n := 3) (Nat.le_of_ble_eq_true rfl)
  rw [lg_entry_eq]
  generalize (lg_sl [.ref h0] ++ List.replicate (3 - (lg_sl [.ref h0]).length) Slot.unset).toArray = ls at hl ⊢
  have hl : lv_has ls 3 [(0, .ref h0)] := hl
  rw [m_X2_wrongPlace] at hm
  refine lv_aload_n hx hb dX2_wrongPlace_0 rfl (lv_at hl 0 rfl) ?_
  refine lv_iconst (v := (0 : Int32)) hx hb dX2_wrongPlace_1 (by decide) ?_
  refine va_put (D := (dC, dI)) (ci := 2) (v := .int (0 : Int32)) (ty := .int) (C := RX2) (T := TX2) (N := 6) hx hb hts hiX2 tyX2 tyX2_ok nmX2 hown hK hP hD hS 0 rfl rfl 2 (by decide) (hts (.fieldLink RX2 22 "ServiceDrawer$Reader" "place" "I") (by decide +kernel)) (fun _ h9 => h9) rfl (by decide +kernel) rfl rfl (Nat.le_of_ble_eq_true rfl) dX2_wrongPlace_2 (fun H locs hP hD hS => ?_)
  have hP : va_P (dC, dI) vwCl [(h0, .inr (2, [.ref h0_tape, .ref h0_rowsOf, .int (0 : Int32), .int v_latestKind, .int v_latestNumber, .int v_wrong])), (h0_tape, .inr (4, [.ref h0_tape_bytes, .int v_tape_length])), (h0_tape_bytes, .inl (cI, 600, .inl v_tape_bytes)), (h0_rowsOf, .inl (cI, 3, .inl v_rowsOf))] H := hP
  have hD : va_D A [(h0, .inr (2, [.ref h0_tape, .ref h0_rowsOf, .int (0 : Int32), .int v_latestKind, .int v_latestNumber, .int v_wrong])), (h0_tape, .inr (4, [.ref h0_tape_bytes, .int v_tape_length])), (h0_tape_bytes, .inl (cI, 600, .inl v_tape_bytes)), (h0_rowsOf, .inl (cI, 3, .inl v_rowsOf))] := hD
  refine lv_aload_n hx hb dX2_wrongPlace_5 rfl (lv_at hl 0 rfl) ?_
  refine lv_iconst (v := (0 : Int32)) hx hb dX2_wrongPlace_6 (by decide) ?_
  refine va_put (D := (dC, dI)) (ci := 2) (v := .int (0 : Int32)) (ty := .int) (C := RX2) (T := TX2) (N := 6) hx hb hts hiX2 tyX2 tyX2_ok nmX2 hown hK hP hD hS 0 rfl rfl 3 (by decide) (hts (.fieldLink RX2 26 "ServiceDrawer$Reader" "latestKind" "I") (by decide +kernel)) (fun _ h9 => h9) rfl (by decide +kernel) rfl rfl (Nat.le_of_ble_eq_true rfl) dX2_wrongPlace_7 (fun H locs hP hD hS => ?_)
  have hP : va_P (dC, dI) vwCl [(h0, .inr (2, [.ref h0_tape, .ref h0_rowsOf, .int (0 : Int32), .int (0 : Int32), .int v_latestNumber, .int v_wrong])), (h0_tape, .inr (4, [.ref h0_tape_bytes, .int v_tape_length])), (h0_tape_bytes, .inl (cI, 600, .inl v_tape_bytes)), (h0_rowsOf, .inl (cI, 3, .inl v_rowsOf))] H := hP
  have hD : va_D A [(h0, .inr (2, [.ref h0_tape, .ref h0_rowsOf, .int (0 : Int32), .int (0 : Int32), .int v_latestNumber, .int v_wrong])), (h0_tape, .inr (4, [.ref h0_tape_bytes, .int v_tape_length])), (h0_tape_bytes, .inl (cI, 600, .inl v_tape_bytes)), (h0_rowsOf, .inl (cI, 3, .inl v_rowsOf))] := hD
  refine lv_aload_n hx hb dX2_wrongPlace_10 rfl (lv_at hl 0 rfl) ?_
  refine lv_iconst (v := ((-1) : Int32)) hx hb dX2_wrongPlace_11 (by decide) ?_
  refine va_put (D := (dC, dI)) (ci := 2) (v := .int ((-1) : Int32)) (ty := .int) (C := RX2) (T := TX2) (N := 6) hx hb hts hiX2 tyX2 tyX2_ok nmX2 hown hK hP hD hS 0 rfl rfl 5 (by decide) (hts (.fieldLink RX2 29 "ServiceDrawer$Reader" "wrong" "I") (by decide +kernel)) (fun _ h9 => h9) rfl (by decide +kernel) rfl rfl (Nat.le_of_ble_eq_true rfl) dX2_wrongPlace_12 (fun H locs hP hD hS => ?_)
  have hP : va_P (dC, dI) vwCl [(h0, .inr (2, [.ref h0_tape, .ref h0_rowsOf, .int (0 : Int32), .int (0 : Int32), .int v_latestNumber, .int ((-1) : Int32)])), (h0_tape, .inr (4, [.ref h0_tape_bytes, .int v_tape_length])), (h0_tape_bytes, .inl (cI, 600, .inl v_tape_bytes)), (h0_rowsOf, .inl (cI, 3, .inl v_rowsOf))] H := hP
  have hD : va_D A [(h0, .inr (2, [.ref h0_tape, .ref h0_rowsOf, .int (0 : Int32), .int (0 : Int32), .int v_latestNumber, .int ((-1) : Int32)])), (h0_tape, .inr (4, [.ref h0_tape_bytes, .int v_tape_length])), (h0_tape_bytes, .inl (cI, 600, .inl v_tape_bytes)), (h0_rowsOf, .inl (cI, 3, .inl v_rowsOf))] := hD
  refine lv_iconst (v := (0 : Int32)) hx hb dX2_wrongPlace_15 (by decide) ?_
  refine lv_istore_n (lv' := [(1, .int (0 : Int32)), (0, .ref h0)]) hx hb dX2_wrongPlace_16 rfl hl (by decide) rfl (fun ls hl => ?_)
  obtain ⟨K35, hK35, hm⟩ := mt_jx hm
  have J35 : ∀ (x1_35 : Int32) (v_rowsOf_35 : Nat → Int32), ∀ (H : Heap) (locs : List Loc) (ls : Array Slot), K35 x1_35 v_rowsOf_35 = some q → va_P (dC, dI) vwCl [(h0, .inr (2, [.ref h0_tape, .ref h0_rowsOf, .int (0 : Int32), .int (0 : Int32), .int v_latestNumber, .int ((-1) : Int32)])), (h0_tape, .inr (4, [.ref h0_tape_bytes, .int v_tape_length])), (h0_tape_bytes, .inl (cI, 600, .inl v_tape_bytes)), (h0_rowsOf, .inl (cI, 3, .inl v_rowsOf_35))] H → va_D A [(h0, .inr (2, [.ref h0_tape, .ref h0_rowsOf, .int (0 : Int32), .int (0 : Int32), .int v_latestNumber, .int ((-1) : Int32)])), (h0_tape, .inr (4, [.ref h0_tape_bytes, .int v_tape_length])), (h0_tape_bytes, .inl (cI, 600, .inl v_tape_bytes)), (h0_rowsOf, .inl (cI, 3, .inl v_rowsOf_35))] → va_S A s.heap H locs → lv_has ls 3 [(0, .ref h0), (1, .int x1_35)] → W p l e (headSpec wsX2_wrongPlace ({ frames := 4, cells := 0, slots := 0, locals := 87 })).room s m [.ref h0].toArray below meth c H locs 0 0 (MQ below (va_Qi (fun (r : Int32) (_ : Unit) => r = q.1) (fun _ t => va_P (dC, dI) vwCl [(h0, .inr (2, [.ref h0_tape, .ref h0_rowsOf, .int q.2.1, .int q.2.2.1, .int q.2.2.2.1, .int q.2.2.2.2.1])), (h0_tape, .inr (4, [.ref h0_tape_bytes, .int v_tape_length])), (h0_tape_bytes, .inl (cI, 600, .inl v_tape_bytes)), (h0_rowsOf, .inl (cI, 3, .inl q.2.2.2.2.2))] t.heap ∧ va_D A [(h0, .inr (2, [.ref h0_tape, .ref h0_rowsOf, .int q.2.1, .int q.2.2.1, .int q.2.2.2.1, .int q.2.2.2.2.1])), (h0_tape, .inr (4, [.ref h0_tape_bytes, .int v_tape_length])), (h0_tape_bytes, .inl (cI, 600, .inl v_tape_bytes)), (h0_rowsOf, .inl (cI, 3, .inl q.2.2.2.2.2))]) A) [.ref h0].toArray s 0 0 A) (F0 m 35 ls []) := by
    intro x1_35 v_rowsOf_35 H locs ls hm hP hD hS hl
    replace hm := mt_app2 hK35 hm
    refine lv_iconst (v := (1 : Int32)) hx hb dX2_wrongPlace_35 (by decide) ?_
    refine lv_istore_n (lv' := [(1, .int (1 : Int32)), (0, .ref h0)]) hx hb dX2_wrongPlace_36 rfl hl (by decide) rfl (fun ls hl => ?_)
    refine lv_iconst (v := (0 : Int32)) hx hb dX2_wrongPlace_37 (by decide) ?_
    refine lv_istore_n (lv' := [(2, .int (0 : Int32)), (1, .int (1 : Int32)), (0, .ref h0)]) hx hb dX2_wrongPlace_38 rfl hl (by decide) rfl (fun ls hl => ?_)
    obtain ⟨K75, hK75, hm⟩ := mt_jx hm
    have J75 : ∀ (x1_75 : Int32) (x2_75 : Int32) (v_place_75 : Int32) (v_latestKind_75 : Int32) (v_latestNumber_75 : Int32) (v_wrong_75 : Int32) (v_rowsOf_75 : Nat → Int32), ∀ (H : Heap) (locs : List Loc) (ls : Array Slot), K75 x1_75 x2_75 v_place_75 v_latestKind_75 v_latestNumber_75 v_wrong_75 v_rowsOf_75 = some q → va_P (dC, dI) vwCl [(h0, .inr (2, [.ref h0_tape, .ref h0_rowsOf, .int v_place_75, .int v_latestKind_75, .int v_latestNumber_75, .int v_wrong_75])), (h0_tape, .inr (4, [.ref h0_tape_bytes, .int v_tape_length])), (h0_tape_bytes, .inl (cI, 600, .inl v_tape_bytes)), (h0_rowsOf, .inl (cI, 3, .inl v_rowsOf_75))] H → va_D A [(h0, .inr (2, [.ref h0_tape, .ref h0_rowsOf, .int v_place_75, .int v_latestKind_75, .int v_latestNumber_75, .int v_wrong_75])), (h0_tape, .inr (4, [.ref h0_tape_bytes, .int v_tape_length])), (h0_tape_bytes, .inl (cI, 600, .inl v_tape_bytes)), (h0_rowsOf, .inl (cI, 3, .inl v_rowsOf_75))] → va_S A s.heap H locs → lv_has ls 3 [(0, .ref h0), (1, .int x1_75), (2, .int x2_75)] → W p l e (headSpec wsX2_wrongPlace ({ frames := 4, cells := 0, slots := 0, locals := 87 })).room s m [.ref h0].toArray below meth c H locs 0 0 (MQ below (va_Qi (fun (r : Int32) (_ : Unit) => r = q.1) (fun _ t => va_P (dC, dI) vwCl [(h0, .inr (2, [.ref h0_tape, .ref h0_rowsOf, .int q.2.1, .int q.2.2.1, .int q.2.2.2.1, .int q.2.2.2.2.1])), (h0_tape, .inr (4, [.ref h0_tape_bytes, .int v_tape_length])), (h0_tape_bytes, .inl (cI, 600, .inl v_tape_bytes)), (h0_rowsOf, .inl (cI, 3, .inl q.2.2.2.2.2))] t.heap ∧ va_D A [(h0, .inr (2, [.ref h0_tape, .ref h0_rowsOf, .int q.2.1, .int q.2.2.1, .int q.2.2.2.1, .int q.2.2.2.2.1])), (h0_tape, .inr (4, [.ref h0_tape_bytes, .int v_tape_length])), (h0_tape_bytes, .inl (cI, 600, .inl v_tape_bytes)), (h0_rowsOf, .inl (cI, 3, .inl q.2.2.2.2.2))]) A) [.ref h0].toArray s 0 0 A) (F0 m 75 ls []) := by
      intro x1_75 x2_75 v_place_75 v_latestKind_75 v_latestNumber_75 v_wrong_75 v_rowsOf_75 H locs ls hm hP hD hS hl
      replace hm := mt_app7 hK75 hm
      refine lv_aload_n hx hb dX2_wrongPlace_75 rfl (lv_at hl 0 rfl) ?_
      refine va_get (D := (dC, dI)) (ci := 2) (v := .int v_wrong_75) (C := RX2) (T := TX2) (N := 6) hx hb hts hiX2 hown hK hP 0 rfl rfl 5 (by decide) (hts (.fieldLink RX2 29 "ServiceDrawer$Reader" "wrong" "I") (by decide +kernel)) (fun _ h9 => h9) rfl dX2_wrongPlace_76 ?_
      obtain rfl := Option.some.inj hm
      exact W.iret hx hb hr (fun t ht hW => ⟨⟨_, (), rfl, rfl, by rw [ht]; exact hP, hD⟩, hS.F ht⟩) hS.2.2 dX2_wrongPlace_79
    have L39 : ∀ n39 : Nat, ∀ (x1_39 : Int32) (x2_39 : Int32) (v_place_39 : Int32) (v_latestKind_39 : Int32) (v_latestNumber_39 : Int32) (v_wrong_39 : Int32) (v_rowsOf_39 : Nat → Int32), ∀ (H : Heap) (locs : List Loc) (ls : Array Slot), m_X2_wrongPlace_L39 fu v_tape_length v_tape_bytes K75 n39 x1_39 x2_39 v_place_39 v_latestKind_39 v_latestNumber_39 v_wrong_39 v_rowsOf_39 = some q → va_P (dC, dI) vwCl [(h0, .inr (2, [.ref h0_tape, .ref h0_rowsOf, .int v_place_39, .int v_latestKind_39, .int v_latestNumber_39, .int v_wrong_39])), (h0_tape, .inr (4, [.ref h0_tape_bytes, .int v_tape_length])), (h0_tape_bytes, .inl (cI, 600, .inl v_tape_bytes)), (h0_rowsOf, .inl (cI, 3, .inl v_rowsOf_39))] H → va_D A [(h0, .inr (2, [.ref h0_tape, .ref h0_rowsOf, .int v_place_39, .int v_latestKind_39, .int v_latestNumber_39, .int v_wrong_39])), (h0_tape, .inr (4, [.ref h0_tape_bytes, .int v_tape_length])), (h0_tape_bytes, .inl (cI, 600, .inl v_tape_bytes)), (h0_rowsOf, .inl (cI, 3, .inl v_rowsOf_39))] → va_S A s.heap H locs → lv_has ls 3 [(0, .ref h0), (1, .int x1_39), (2, .int x2_39)] → W p l e (headSpec wsX2_wrongPlace ({ frames := 4, cells := 0, slots := 0, locals := 87 })).room s m [.ref h0].toArray below meth c H locs 0 0 (MQ below (va_Qi (fun (r : Int32) (_ : Unit) => r = q.1) (fun _ t => va_P (dC, dI) vwCl [(h0, .inr (2, [.ref h0_tape, .ref h0_rowsOf, .int q.2.1, .int q.2.2.1, .int q.2.2.2.1, .int q.2.2.2.2.1])), (h0_tape, .inr (4, [.ref h0_tape_bytes, .int v_tape_length])), (h0_tape_bytes, .inl (cI, 600, .inl v_tape_bytes)), (h0_rowsOf, .inl (cI, 3, .inl q.2.2.2.2.2))] t.heap ∧ va_D A [(h0, .inr (2, [.ref h0_tape, .ref h0_rowsOf, .int q.2.1, .int q.2.2.1, .int q.2.2.2.1, .int q.2.2.2.2.1])), (h0_tape, .inr (4, [.ref h0_tape_bytes, .int v_tape_length])), (h0_tape_bytes, .inl (cI, 600, .inl v_tape_bytes)), (h0_rowsOf, .inl (cI, 3, .inl q.2.2.2.2.2))]) A) [.ref h0].toArray s 0 0 A) (F0 m 39 ls []) := by
      intro n39
      induction n39 with
      | zero =>
        intro x1_39 x2_39 v_place_39 v_latestKind_39 v_latestNumber_39 v_wrong_39 v_rowsOf_39 H locs ls hm hP hD hS hl
        exact absurd hm (fun h => nomatch h)
      | succ n39 ih39 =>
        intro x1_39 x2_39 v_place_39 v_latestKind_39 v_latestNumber_39 v_wrong_39 v_rowsOf_39 H locs ls hm hP hD hS hl
        rw [m_X2_wrongPlace_L39] at hm
        refine lv_iload_n hx hb dX2_wrongPlace_39 rfl (lv_at hl 2 rfl) ?_
        refine lv_sipush (v := (600 : Int32)) hx hb dX2_wrongPlace_40 (by decide) ?_
        refine lv_icmp_ge (tgt := 75) hx hb dX2_wrongPlace_43 (by decide) (fun c1 => ?_) (fun c1 => ?_)
        · replace hm := mt_pos c1 hm
          exact J75 x1_39 x2_39 v_place_39 v_latestKind_39 v_latestNumber_39 v_wrong_39 v_rowsOf_39 _ _ _ hm hP hD hS (lv_sub hl [0, 1, 2] rfl)
        · replace hm := mt_neg c1 hm
          refine lv_iload_n hx hb dX2_wrongPlace_46 rfl (lv_at hl 1 rfl) ?_
          refine lv_if_eq (tgt := 75) hx hb dX2_wrongPlace_47 (by decide) (fun c2 => ?_) (fun c2 => ?_)
          · replace hm := mt_pos c2 hm
            exact J75 x1_39 x2_39 v_place_39 v_latestKind_39 v_latestNumber_39 v_wrong_39 v_rowsOf_39 _ _ _ hm hP hD hS (lv_sub hl [0, 1, 2] rfl)
          · replace hm := mt_neg c2 hm
            refine lv_aload_n hx hb dX2_wrongPlace_50 rfl (lv_at hl 0 rfl) ?_
            refine va_get (D := (dC, dI)) (ci := 2) (v := .int v_place_39) (C := RX2) (T := TX2) (N := 6) hx hb hts hiX2 hown hK hP 0 rfl rfl 2 (by decide) (hts (.fieldLink RX2 22 "ServiceDrawer$Reader" "place" "I") (by decide +kernel)) (fun _ h9 => h9) rfl dX2_wrongPlace_51 ?_
            refine lv_aload_n hx hb dX2_wrongPlace_54 rfl (lv_at hl 0 rfl) ?_
            refine va_get (D := (dC, dI)) (ci := 2) (v := .ref h0_tape) (C := RX2) (T := TX2) (N := 6) hx hb hts hiX2 hown hK hP 0 rfl rfl 0 (by decide) (hts (.fieldLink RX2 12 "ServiceDrawer$Reader" "tape" "LServiceDrawer$Text;") (by decide +kernel)) (fun _ h9 => h9) rfl dX2_wrongPlace_55 ?_
            obtain ⟨q3, hq3, hm⟩ := mt_bind hm
            refine vp_callSi (va_Run.run (va_runV (As := []) (rest := [.int v_place_39]) ⟨hx, hb, hml, hown, hts⟩ (c_X4_length l dC dI cZ cI cL h0_tape h0_tape_bytes v_tape_length v_tape_bytes q3 hq3) (cwV 0 hts gX2_wrongPlace_X4_length rfl rfl rfl (by decide +kernel) ⟨Nat.le_of_ble_eq_true rfl, Nat.le_of_ble_eq_true rfl⟩) (mt_vR (q := (RX4, TX4, 2)) 4 hC (hP.sub (ws' := [(h0_tape, .inr (4, [.ref h0_tape_bytes, .int v_tape_length])), (h0_tape_bytes, .inl (cI, 600, .inl v_tape_bytes))]) [1, 2] rfl) rfl rfl) rfl rfl hl.1 rfl (lv_room (Nat.le_of_ble_eq_true rfl)) dX2_wrongPlace_58 ⟨Nat.le_of_ble_eq_true rfl, Nat.le_of_ble_eq_true rfl⟩)) (fun r er => ?_)
            replace er := er.symm
            subst er
            refine lv_icmp_ge (tgt := 75) hx hb dX2_wrongPlace_61 (by decide) (fun c4 => ?_) (fun c4 => ?_)
            · replace hm := mt_pos c4 hm
              exact J75 x1_39 x2_39 v_place_39 v_latestKind_39 v_latestNumber_39 v_wrong_39 v_rowsOf_39 _ _ _ hm hP hD hS (lv_sub hl [0, 1, 2] rfl)
            · replace hm := mt_neg c4 hm
              refine lv_aload_n hx hb dX2_wrongPlace_64 rfl (lv_at hl 0 rfl) ?_
              obtain ⟨q5, hq5, hm⟩ := mt_bind hm
              refine mt_calli (wr := []) hP hD hS hA [0, 1, 2, 3] [] rfl rfl (by decide) (by decide) (va_runV (As := []) (rest := []) ⟨hx, hb, hml, hown, hts⟩ (c_X2_readRow l dC dI cZ cI cL h0 h0_tape h0_tape_bytes h0_rowsOf H.size v_place_39 v_latestKind_39 v_latestNumber_39 v_wrong_39 v_tape_length v_tape_bytes v_rowsOf_39 fu q5 hq5) (cwV 0 hts gX2_wrongPlace_X2_readRow rfl rfl rfl (by decide +kernel) ⟨Nat.le_of_ble_eq_true rfl, Nat.le_of_ble_eq_true rfl⟩) (mt_vS (q := (RX2, TX2, 6)) 2 hC hP hD rfl rfl) rfl rfl hl.1 rfl (lv_room (Nat.le_of_ble_eq_true rfl)) dX2_wrongPlace_65 ⟨Nat.le_of_ble_eq_true rfl, Nat.le_of_ble_eq_true rfl⟩) (fun H locs hP hD hS => ?_)
              have hP : va_P (dC, dI) vwCl [(h0, .inr (2, [.ref h0_tape, .ref h0_rowsOf, .int q5.2.1, .int q5.2.2.1, .int q5.2.2.2.1, .int q5.2.2.2.2.1])), (h0_tape, .inr (4, [.ref h0_tape_bytes, .int v_tape_length])), (h0_tape_bytes, .inl (cI, 600, .inl v_tape_bytes)), (h0_rowsOf, .inl (cI, 3, .inl q5.2.2.2.2.2))] H := hP.sub [0, 1, 2, 3] rfl
              have hD : va_D A [(h0, .inr (2, [.ref h0_tape, .ref h0_rowsOf, .int q5.2.1, .int q5.2.2.1, .int q5.2.2.2.1, .int q5.2.2.2.2.1])), (h0_tape, .inr (4, [.ref h0_tape_bytes, .int v_tape_length])), (h0_tape_bytes, .inl (cI, 600, .inl v_tape_bytes)), (h0_rowsOf, .inl (cI, 3, .inl q5.2.2.2.2.2))] := hD.sub [0, 1, 2, 3] (by decide) rfl
              refine lv_istore_n (lv' := [(1, .int q5.1), (0, .ref h0), (2, .int x2_39)]) hx hb dX2_wrongPlace_68 rfl hl (by decide) rfl (fun ls hl => ?_)
              refine lv_iinc (v := (x2_39 + (1 : Int32))) (lv' := [(2, .int (x2_39 + (1 : Int32))), (1, .int q5.1), (0, .ref h0)]) hx hb dX2_wrongPlace_69 hl (k := 2) rfl rfl (by decide) rfl (fun ls hl => ?_)
              refine lv_goto (tgt := 39) hx hb dX2_wrongPlace_72 (by decide) ?_
              exact ih39 q5.1 (x2_39 + (1 : Int32)) q5.2.1 q5.2.2.1 q5.2.2.2.1 q5.2.2.2.2.1 q5.2.2.2.2.2 _ _ _ hm hP hD hS (lv_sub hl [2, 1, 0] rfl)
    exact L39 fu (1 : Int32) (0 : Int32) (0 : Int32) (0 : Int32) v_latestNumber ((-1) : Int32) v_rowsOf_35 _ _ _ hm hP hD hS (lv_sub hl [2, 1, 0] rfl)
  have L17 : ∀ n17 : Nat, ∀ (x1_17 : Int32) (v_rowsOf_17 : Nat → Int32), ∀ (H : Heap) (locs : List Loc) (ls : Array Slot), m_X2_wrongPlace_L17 K35 n17 x1_17 v_rowsOf_17 = some q → va_P (dC, dI) vwCl [(h0, .inr (2, [.ref h0_tape, .ref h0_rowsOf, .int (0 : Int32), .int (0 : Int32), .int v_latestNumber, .int ((-1) : Int32)])), (h0_tape, .inr (4, [.ref h0_tape_bytes, .int v_tape_length])), (h0_tape_bytes, .inl (cI, 600, .inl v_tape_bytes)), (h0_rowsOf, .inl (cI, 3, .inl v_rowsOf_17))] H → va_D A [(h0, .inr (2, [.ref h0_tape, .ref h0_rowsOf, .int (0 : Int32), .int (0 : Int32), .int v_latestNumber, .int ((-1) : Int32)])), (h0_tape, .inr (4, [.ref h0_tape_bytes, .int v_tape_length])), (h0_tape_bytes, .inl (cI, 600, .inl v_tape_bytes)), (h0_rowsOf, .inl (cI, 3, .inl v_rowsOf_17))] → va_S A s.heap H locs → lv_has ls 3 [(0, .ref h0), (1, .int x1_17)] → W p l e (headSpec wsX2_wrongPlace ({ frames := 4, cells := 0, slots := 0, locals := 87 })).room s m [.ref h0].toArray below meth c H locs 0 0 (MQ below (va_Qi (fun (r : Int32) (_ : Unit) => r = q.1) (fun _ t => va_P (dC, dI) vwCl [(h0, .inr (2, [.ref h0_tape, .ref h0_rowsOf, .int q.2.1, .int q.2.2.1, .int q.2.2.2.1, .int q.2.2.2.2.1])), (h0_tape, .inr (4, [.ref h0_tape_bytes, .int v_tape_length])), (h0_tape_bytes, .inl (cI, 600, .inl v_tape_bytes)), (h0_rowsOf, .inl (cI, 3, .inl q.2.2.2.2.2))] t.heap ∧ va_D A [(h0, .inr (2, [.ref h0_tape, .ref h0_rowsOf, .int q.2.1, .int q.2.2.1, .int q.2.2.2.1, .int q.2.2.2.2.1])), (h0_tape, .inr (4, [.ref h0_tape_bytes, .int v_tape_length])), (h0_tape_bytes, .inl (cI, 600, .inl v_tape_bytes)), (h0_rowsOf, .inl (cI, 3, .inl q.2.2.2.2.2))]) A) [.ref h0].toArray s 0 0 A) (F0 m 17 ls []) := by
    intro n17
    induction n17 with
    | zero =>
      intro x1_17 v_rowsOf_17 H locs ls hm hP hD hS hl
      exact absurd hm (fun h => nomatch h)
    | succ n17 ih17 =>
      intro x1_17 v_rowsOf_17 H locs ls hm hP hD hS hl
      rw [m_X2_wrongPlace_L17] at hm
      refine lv_iload_n hx hb dX2_wrongPlace_17 rfl (lv_at hl 1 rfl) ?_
      refine lv_iconst (v := (3 : Int32)) hx hb dX2_wrongPlace_18 (by decide) ?_
      refine lv_icmp_ge (tgt := 35) hx hb dX2_wrongPlace_19 (by decide) (fun c6 => ?_) (fun c6 => ?_)
      · replace hm := mt_pos c6 hm
        exact J35 x1_17 v_rowsOf_17 _ _ _ hm hP hD hS (lv_sub hl [0, 1] rfl)
      · replace hm := mt_neg c6 hm
        refine lv_aload_n hx hb dX2_wrongPlace_22 rfl (lv_at hl 0 rfl) ?_
        refine va_get (D := (dC, dI)) (ci := 2) (v := .ref h0_rowsOf) (C := RX2) (T := TX2) (N := 6) hx hb hts hiX2 hown hK hP 0 rfl rfl 1 (by decide) (hts (.fieldLink RX2 18 "ServiceDrawer$Reader" "rowsOf" "[I") (by decide +kernel)) (fun _ h9 => h9) rfl dX2_wrongPlace_23 ?_
        refine lv_iload_n hx hb dX2_wrongPlace_26 rfl (lv_at hl 1 rfl) ?_
        refine lv_iconst (v := (0 : Int32)) hx hb dX2_wrongPlace_27 (by decide) ?_
        obtain ⟨g7, hm⟩ := mt_gd hm
        refine va_iast hx hb hK hP hD hS 3 1 rfl rfl g7 dX2_wrongPlace_28 (fun H locs hP hD hS => ?_)
        have hP : va_P (dC, dI) vwCl [(h0, .inr (2, [.ref h0_tape, .ref h0_rowsOf, .int (0 : Int32), .int (0 : Int32), .int v_latestNumber, .int ((-1) : Int32)])), (h0_tape, .inr (4, [.ref h0_tape_bytes, .int v_tape_length])), (h0_tape_bytes, .inl (cI, 600, .inl v_tape_bytes)), (h0_rowsOf, .inl (cI, 3, .inl (upd v_rowsOf_17 x1_17.toNatClampNeg (0 : Int32))))] H := hP
        have hD : va_D A [(h0, .inr (2, [.ref h0_tape, .ref h0_rowsOf, .int (0 : Int32), .int (0 : Int32), .int v_latestNumber, .int ((-1) : Int32)])), (h0_tape, .inr (4, [.ref h0_tape_bytes, .int v_tape_length])), (h0_tape_bytes, .inl (cI, 600, .inl v_tape_bytes)), (h0_rowsOf, .inl (cI, 3, .inl (upd v_rowsOf_17 x1_17.toNatClampNeg (0 : Int32))))] := hD
        refine lv_iinc (v := (x1_17 + (1 : Int32))) (lv' := [(1, .int (x1_17 + (1 : Int32))), (0, .ref h0)]) hx hb dX2_wrongPlace_29 hl (k := 1) rfl rfl (by decide) rfl (fun ls hl => ?_)
        refine lv_goto (tgt := 17) hx hb dX2_wrongPlace_32 (by decide) ?_
        exact ih17 (x1_17 + (1 : Int32)) (upd v_rowsOf_17 x1_17.toNatClampNeg (0 : Int32)) _ _ _ hm hP hD hS (lv_sub hl [1, 0] rfl)
  exact L17 fu (0 : Int32) v_rowsOf _ _ _ hm hP hD hS (lv_sub hl [1, 0] rfl)
