def m_X6_isPart (p0 : Int32) : Option (Int32) := if p0 < 0 then some (0 : Int32) else if (62 : Int32) ≤ p0 then some (0 : Int32) else some (1 : Int32)
set_option maxHeartbeats 4000000 in
set_option maxRecDepth 100000 in
theorem c_X6_isPart (l : Launch) (dC : Nat → ClassId) (dI : Nat → Nat → Nat) (cZ cI cL : ClassId) (p0 : Int32) (q : Int32) (hm : m_X6_isPart p0 = some q) : Met l yX6_isPart wsX6_isPart ({ frames := 0, cells := 0, slots := 0, locals := 0 }) (va_Pc [.int p0] (mt_R (dC, dI) cZ cI cL [])) (vp_Si (fun r => r = q)) 0 0 (fun _ => False) := by
  refine Met.ofW (cc := cX6_isPart) (maxL := 1) (ret := (some .boolean)) (by decide) rfl ?_
  intro p e s m args below meth c s₁ B hml hv
  obtain ⟨rfl, hP, hC⟩ := hv
  have hx := B.exec
  have hb := B.bytes
  have hr := B.returns
  have hts := atoms_spec (ws := wsX6_isPart) B.pre
  have hown : s.vm.findClass RX6 = some m.cls := findClass_of_methodNamed B.named
  have hlocks := B.notSynchronized
  have hK := hC.1
  have hl := lv_entry [.int p0] (n := 1) (Nat.le_of_ble_eq_true rfl)
  rw [lg_entry_eq]
  generalize (lg_sl [.int p0] ++ List.replicate (1 - (lg_sl [.int p0]).length) Slot.unset).toArray = ls at hl ⊢
  have hl : lv_has ls 1 [(0, .int p0)] := hl
  rw [m_X6_isPart] at hm
  refine lv_iload_n hx hb dX6_isPart_0 rfl (lv_at hl 0 rfl) ?_
  refine lv_if_lt (tgt := 14) hx hb dX6_isPart_1 (by decide) (fun c1 => ?_) (fun c1 => ?_)
  · replace hm := mt_pos c1 hm
    refine lv_iconst (v := (0 : Int32)) hx hb dX6_isPart_14 (by decide) ?_
    obtain rfl := Option.some.inj hm
    exact W.zret hx hb hr mt_z0 (fun t ht hW => ⟨_, rfl, rfl, ht⟩) t_nil dX6_isPart_15
  · replace hm := mt_neg c1 hm
    refine lv_iload_n hx hb dX6_isPart_4 rfl (lv_at hl 0 rfl) ?_
    refine lv_bipush (v := (62 : Int32)) hx hb dX6_isPart_5 (by decide) ?_
    refine lv_icmp_ge (tgt := 14) hx hb dX6_isPart_7 (by decide) (fun c2 => ?_) (fun c2 => ?_)
    · replace hm := mt_pos c2 hm
      refine lv_iconst (v := (0 : Int32)) hx hb dX6_isPart_14 (by decide) ?_
      obtain rfl := Option.some.inj hm
      exact W.zret hx hb hr mt_z0 (fun t ht hW => ⟨_, rfl, rfl, ht⟩) t_nil dX6_isPart_15
    · replace hm := mt_neg c2 hm
      refine lv_iconst (v := (1 : Int32)) hx hb dX6_isPart_10 (by decide) ?_
      refine lv_goto (tgt := 15) hx hb dX6_isPart_11 (by decide) ?_
      obtain rfl := Option.some.inj hm
      exact W.zret hx hb hr mt_z1 (fun t ht hW => ⟨_, rfl, rfl, ht⟩) t_nil dX6_isPart_15
def m_X5_cornerOf (p1 : Int32) (v_corner : Nat → Int32) : Option (Int32) := (m_X6_isPart p1).bind fun q1 => if q1 = 0 then some (0 : Int32) else if (¬ (p1 < 0 ∨ 62 ≤ p1.toNatClampNeg)) then some (v_corner p1.toNatClampNeg) else none
set_option maxHeartbeats 4000000 in
set_option maxRecDepth 100000 in
theorem c_X5_cornerOf (l : Launch) (dC : Nat → ClassId) (dI : Nat → Nat → Nat) (cZ cI cL : ClassId) (h0 h0_had h0_there h0_corner h0_second h0_third : Nat) (p1 : Int32) (v_seed : Int32) (v_size : Int32) (v_parts : Int32) (v_had : Nat → Int32) (v_there : Nat → Int32) (v_corner : Nat → Int32) (v_second : Nat → Int32) (v_third : Nat → Int32) (q : Int32) (hm : m_X5_cornerOf p1 v_corner = some q) : Met l yX5_cornerOf wsX5_cornerOf ({ frames := 1, cells := 0, slots := 0, locals := 20 }) (va_Pc [.ref h0, .int p1] (mt_R (dC, dI) cZ cI cL [(h0, .inr (5, [.ref h0_had, .ref h0_there, .ref h0_corner, .ref h0_second, .ref h0_third, .int v_seed, .int v_size, .int v_parts])), (h0_had, .inl (cZ, 62, .inl v_had)), (h0_there, .inl (cZ, 62, .inl v_there)), (h0_corner, .inl (cI, 62, .inl v_corner)), (h0_second, .inl (cI, 62, .inl v_second)), (h0_third, .inl (cI, 62, .inl v_third))])) (vp_Si (fun r => r = q)) 0 0 (fun _ => False) := by
  refine Met.ofW (cc := cX5_cornerOf) (maxL := 2) (ret := (some .int)) (by decide) rfl ?_
  intro p e s m args below meth c s₁ B hml hv
  obtain ⟨rfl, hP, hC⟩ := hv
  have hx := B.exec
  have hb := B.bytes
  have hr := B.returns
  have hts := atoms_spec (ws := wsX5_cornerOf) B.pre
  have hown : s.vm.findClass RX5 = some m.cls := findClass_of_methodNamed B.named
  have hlocks := B.notSynchronized
  have hK := hC.1
  have hiX5 : ∀ w ∈ wsX50, w ∈ wsX5_cornerOf := by decide +kernel
  have hl := lv_entry [.ref h0, .int p1] (n := 2) (Nat.le_of_ble_eq_true rfl)
  rw [lg_entry_eq]
  generalize (lg_sl [.ref h0, .int p1] ++ List.replicate (2 - (lg_sl [.ref h0, .int p1]).length) Slot.unset).toArray = ls at hl ⊢
  have hl : lv_has ls 2 [(0, .ref h0), (1, .int p1)] := hl
  rw [m_X5_cornerOf] at hm
  refine lv_iload_n hx hb dX5_cornerOf_0 rfl (lv_at hl 1 rfl) ?_
  obtain ⟨q1, hq1, hm⟩ := mt_bind hm
  refine vp_callSi (va_Run.run (va_runSN (As := [.int p1]) (rest := []) ⟨hx, hb, hml, hown, hts⟩ (c_X6_isPart l dC dI cZ cI cL p1 q1 hq1) ⟨(va_cnB 1 hts gX5_cornerOf_X6_isPart_n83 rfl rfl rfl (hC.2.m RX5 83 yX6_isPart "ServiceDrawer" (by decide +kernel)) (hts (.initialized RX6) (by decide +kernel)) (by decide +kernel) ⟨Nat.le_of_ble_eq_true rfl, Nat.le_of_ble_eq_true rfl⟩), hts (.static yX6_isPart) (by decide +kernel), trivial⟩ (mt_pR hC (hP.sub (ws' := []) [] rfl)) rfl rfl hl.1 rfl (lv_room (Nat.le_of_ble_eq_true rfl)) dX5_cornerOf_1 ⟨Nat.le_of_ble_eq_true rfl, Nat.le_of_ble_eq_true rfl⟩)) (fun r er => ?_)
  replace er := er.symm
  subst er
  refine lv_if_eq (tgt := 16) hx hb dX5_cornerOf_4 (by decide) (fun c2 => ?_) (fun c2 => ?_)
  · replace hm := mt_pos c2 hm
    refine lv_iconst (v := (0 : Int32)) hx hb dX5_cornerOf_16 (by decide) ?_
    obtain rfl := Option.some.inj hm
    exact W.iret hx hb hr (fun t ht hW => ⟨_, rfl, rfl, ht⟩) t_nil dX5_cornerOf_17
  · replace hm := mt_neg c2 hm
    refine lv_aload_n hx hb dX5_cornerOf_7 rfl (lv_at hl 0 rfl) ?_
    refine va_get (D := (dC, dI)) (ci := 5) (v := .ref h0_corner) (C := RX5) (T := TX5) (N := 8) hx hb hts hiX5 hown hK hP 0 rfl rfl 2 (by decide) (hts (.fieldLink RX5 18 "ServiceDrawer$Town" "corner" "[I") (by decide +kernel)) (fun _ h9 => h9) rfl dX5_cornerOf_8 ?_
    refine lv_iload_n hx hb dX5_cornerOf_11 rfl (lv_at hl 1 rfl) ?_
    obtain ⟨g3, hm⟩ := mt_gd hm
    refine va_iald hx hb hK hP 3 1 rfl rfl g3 dX5_cornerOf_12 ?_
    refine lv_goto (tgt := 17) hx hb dX5_cornerOf_13 (by decide) ?_
    obtain rfl := Option.some.inj hm
    exact W.iret hx hb hr (fun t ht hW => ⟨_, rfl, rfl, ht⟩) t_nil dX5_cornerOf_17
def m_X5_isThere (p1 : Int32) (v_there : Nat → Int32) : Option (Int32) := (m_X6_isPart p1).bind fun q1 => if q1 = 0 then some (0 : Int32) else if (¬ (p1 < 0 ∨ 62 ≤ p1.toNatClampNeg)) then if (v_there p1.toNatClampNeg) = 0 then some (0 : Int32) else some (1 : Int32) else none
set_option maxHeartbeats 4000000 in
set_option maxRecDepth 100000 in
theorem c_X5_isThere (l : Launch) (dC : Nat → ClassId) (dI : Nat → Nat → Nat) (cZ cI cL : ClassId) (h0 h0_had h0_there h0_corner h0_second h0_third : Nat) (p1 : Int32) (v_seed : Int32) (v_size : Int32) (v_parts : Int32) (v_had : Nat → Int32) (v_there : Nat → Int32) (v_corner : Nat → Int32) (v_second : Nat → Int32) (v_third : Nat → Int32) (q : Int32) (hm : m_X5_isThere p1 v_there = some q) : Met l yX5_isThere wsX5_isThere ({ frames := 1, cells := 0, slots := 0, locals := 20 }) (va_Pc [.ref h0, .int p1] (mt_R (dC, dI) cZ cI cL [(h0, .inr (5, [.ref h0_had, .ref h0_there, .ref h0_corner, .ref h0_second, .ref h0_third, .int v_seed, .int v_size, .int v_parts])), (h0_had, .inl (cZ, 62, .inl v_had)), (h0_there, .inl (cZ, 62, .inl v_there)), (h0_corner, .inl (cI, 62, .inl v_corner)), (h0_second, .inl (cI, 62, .inl v_second)), (h0_third, .inl (cI, 62, .inl v_third))])) (vp_Si (fun r => r = q)) 0 0 (fun _ => False) := by
  refine Met.ofW (cc := cX5_isThere) (maxL := 2) (ret := (some .boolean)) (by decide) rfl ?_
  intro p e s m args below meth c s₁ B hml hv
  obtain ⟨rfl, hP, hC⟩ := hv
  have hx := B.exec
  have hb := B.bytes
  have hr := B.returns
  have hts := atoms_spec (ws := wsX5_isThere) B.pre
  have hown : s.vm.findClass RX5 = some m.cls := findClass_of_methodNamed B.named
  have hlocks := B.notSynchronized
  have hK := hC.1
  have hiX5 : ∀ w ∈ wsX50, w ∈ wsX5_isThere := by decide +kernel
  have hl := lv_entry [.ref h0, .int p1] (n := 2) (Nat.le_of_ble_eq_true rfl)
  rw [lg_entry_eq]
  generalize (lg_sl [.ref h0, .int p1] ++ List.replicate (2 - (lg_sl [.ref h0, .int p1]).length) Slot.unset).toArray = ls at hl ⊢
  have hl : lv_has ls 2 [(0, .ref h0), (1, .int p1)] := hl
  rw [m_X5_isThere] at hm
  refine lv_iload_n hx hb dX5_isThere_0 rfl (lv_at hl 1 rfl) ?_
  obtain ⟨q1, hq1, hm⟩ := mt_bind hm
  refine vp_callSi (va_Run.run (va_runSN (As := [.int p1]) (rest := []) ⟨hx, hb, hml, hown, hts⟩ (c_X6_isPart l dC dI cZ cI cL p1 q1 hq1) ⟨(va_cnB 1 hts gX5_isThere_X6_isPart_n83 rfl rfl rfl (hC.2.m RX5 83 yX6_isPart "ServiceDrawer" (by decide +kernel)) (hts (.initialized RX6) (by decide +kernel)) (by decide +kernel) ⟨Nat.le_of_ble_eq_true rfl, Nat.le_of_ble_eq_true rfl⟩), hts (.static yX6_isPart) (by decide +kernel), trivial⟩ (mt_pR hC (hP.sub (ws' := []) [] rfl)) rfl rfl hl.1 rfl (lv_room (Nat.le_of_ble_eq_true rfl)) dX5_isThere_1 ⟨Nat.le_of_ble_eq_true rfl, Nat.le_of_ble_eq_true rfl⟩)) (fun r er => ?_)
  replace er := er.symm
  subst er
  refine lv_if_eq (tgt := 20) hx hb dX5_isThere_4 (by decide) (fun c2 => ?_) (fun c2 => ?_)
  · replace hm := mt_pos c2 hm
    refine lv_iconst (v := (0 : Int32)) hx hb dX5_isThere_20 (by decide) ?_
    obtain rfl := Option.some.inj hm
    exact W.zret hx hb hr mt_z0 (fun t ht hW => ⟨_, rfl, rfl, ht⟩) t_nil dX5_isThere_21
  · replace hm := mt_neg c2 hm
    refine lv_aload_n hx hb dX5_isThere_7 rfl (lv_at hl 0 rfl) ?_
    refine va_get (D := (dC, dI)) (ci := 5) (v := .ref h0_there) (C := RX5) (T := TX5) (N := 8) hx hb hts hiX5 hown hK hP 0 rfl rfl 1 (by decide) (hts (.fieldLink RX5 15 "ServiceDrawer$Town" "there" "[Z") (by decide +kernel)) (fun _ h9 => h9) rfl dX5_isThere_8 ?_
    refine lv_iload_n hx hb dX5_isThere_11 rfl (lv_at hl 1 rfl) ?_
    obtain ⟨g3, hm⟩ := mt_gd hm
    refine va_zald hx hb hK hP 2 0 rfl rfl g3 dX5_isThere_12 ?_
    refine lv_if_eq (tgt := 20) hx hb dX5_isThere_13 (by decide) (fun c4 => ?_) (fun c4 => ?_)
    · replace hm := mt_pos c4 hm
      refine lv_iconst (v := (0 : Int32)) hx hb dX5_isThere_20 (by decide) ?_
      obtain rfl := Option.some.inj hm
      exact W.zret hx hb hr mt_z0 (fun t ht hW => ⟨_, rfl, rfl, ht⟩) t_nil dX5_isThere_21
    · replace hm := mt_neg c4 hm
      refine lv_iconst (v := (1 : Int32)) hx hb dX5_isThere_16 (by decide) ?_
      refine lv_goto (tgt := 21) hx hb dX5_isThere_17 (by decide) ?_
      obtain rfl := Option.some.inj hm
      exact W.zret hx hb hr mt_z1 (fun t ht hW => ⟨_, rfl, rfl, ht⟩) t_nil dX5_isThere_21
def m_X6_isCorner (p0 : Int32) : Option (Int32) := if p0 < 0 then some (0 : Int32) else if (21 : Int32) ≤ p0 then some (0 : Int32) else some (1 : Int32)
set_option maxHeartbeats 4000000 in
set_option maxRecDepth 100000 in
theorem c_X6_isCorner (l : Launch) (dC : Nat → ClassId) (dI : Nat → Nat → Nat) (cZ cI cL : ClassId) (p0 : Int32) (q : Int32) (hm : m_X6_isCorner p0 = some q) : Met l yX6_isCorner wsX6_isCorner ({ frames := 0, cells := 0, slots := 0, locals := 0 }) (va_Pc [.int p0] (mt_R (dC, dI) cZ cI cL [])) (vp_Si (fun r => r = q)) 0 0 (fun _ => False) := by
  refine Met.ofW (cc := cX6_isCorner) (maxL := 1) (ret := (some .boolean)) (by decide) rfl ?_
  intro p e s m args below meth c s₁ B hml hv
  obtain ⟨rfl, hP, hC⟩ := hv
  have hx := B.exec
  have hb := B.bytes
  have hr := B.returns
  have hts := atoms_spec (ws := wsX6_isCorner) B.pre
  have hown : s.vm.findClass RX6 = some m.cls := findClass_of_methodNamed B.named
  have hlocks := B.notSynchronized
  have hK := hC.1
  have hl := lv_entry [.int p0] (n := 1) (Nat.le_of_ble_eq_true rfl)
  rw [lg_entry_eq]
  generalize (lg_sl [.int p0] ++ List.replicate (1 - (lg_sl [.int p0]).length) Slot.unset).toArray = ls at hl ⊢
  have hl : lv_has ls 1 [(0, .int p0)] := hl
  rw [m_X6_isCorner] at hm
  refine lv_iload_n hx hb dX6_isCorner_0 rfl (lv_at hl 0 rfl) ?_
  refine lv_if_lt (tgt := 14) hx hb dX6_isCorner_1 (by decide) (fun c1 => ?_) (fun c1 => ?_)
  · replace hm := mt_pos c1 hm
    refine lv_iconst (v := (0 : Int32)) hx hb dX6_isCorner_14 (by decide) ?_
    obtain rfl := Option.some.inj hm
    exact W.zret hx hb hr mt_z0 (fun t ht hW => ⟨_, rfl, rfl, ht⟩) t_nil dX6_isCorner_15
  · replace hm := mt_neg c1 hm
    refine lv_iload_n hx hb dX6_isCorner_4 rfl (lv_at hl 0 rfl) ?_
    refine lv_bipush (v := (21 : Int32)) hx hb dX6_isCorner_5 (by decide) ?_
    refine lv_icmp_ge (tgt := 14) hx hb dX6_isCorner_7 (by decide) (fun c2 => ?_) (fun c2 => ?_)
    · replace hm := mt_pos c2 hm
      refine lv_iconst (v := (0 : Int32)) hx hb dX6_isCorner_14 (by decide) ?_
      obtain rfl := Option.some.inj hm
      exact W.zret hx hb hr mt_z0 (fun t ht hW => ⟨_, rfl, rfl, ht⟩) t_nil dX6_isCorner_15
    · replace hm := mt_neg c2 hm
      refine lv_iconst (v := (1 : Int32)) hx hb dX6_isCorner_10 (by decide) ?_
      refine lv_goto (tgt := 15) hx hb dX6_isCorner_11 (by decide) ?_
      obtain rfl := Option.some.inj hm
      exact W.zret hx hb hr mt_z1 (fun t ht hW => ⟨_, rfl, rfl, ht⟩) t_nil dX6_isCorner_15
def m_X5_secondOf (p1 : Int32) (v_second : Nat → Int32) : Option (Int32) := (m_X6_isPart p1).bind fun q1 => if q1 = 0 then some (0 : Int32) else if (¬ (p1 < 0 ∨ 62 ≤ p1.toNatClampNeg)) then some (v_second p1.toNatClampNeg) else none
set_option maxHeartbeats 4000000 in
set_option maxRecDepth 100000 in
theorem c_X5_secondOf (l : Launch) (dC : Nat → ClassId) (dI : Nat → Nat → Nat) (cZ cI cL : ClassId) (h0 h0_had h0_there h0_corner h0_second h0_third : Nat) (p1 : Int32) (v_seed : Int32) (v_size : Int32) (v_parts : Int32) (v_had : Nat → Int32) (v_there : Nat → Int32) (v_corner : Nat → Int32) (v_second : Nat → Int32) (v_third : Nat → Int32) (q : Int32) (hm : m_X5_secondOf p1 v_second = some q) : Met l yX5_secondOf wsX5_secondOf ({ frames := 1, cells := 0, slots := 0, locals := 20 }) (va_Pc [.ref h0, .int p1] (mt_R (dC, dI) cZ cI cL [(h0, .inr (5, [.ref h0_had, .ref h0_there, .ref h0_corner, .ref h0_second, .ref h0_third, .int v_seed, .int v_size, .int v_parts])), (h0_had, .inl (cZ, 62, .inl v_had)), (h0_there, .inl (cZ, 62, .inl v_there)), (h0_corner, .inl (cI, 62, .inl v_corner)), (h0_second, .inl (cI, 62, .inl v_second)), (h0_third, .inl (cI, 62, .inl v_third))])) (vp_Si (fun r => r = q)) 0 0 (fun _ => False) := by
  refine Met.ofW (cc := cX5_secondOf) (maxL := 2) (ret := (some .int)) (by decide) rfl ?_
  intro p e s m args below meth c s₁ B hml hv
  obtain ⟨rfl, hP, hC⟩ := hv
  have hx := B.exec
  have hb := B.bytes
  have hr := B.returns
  have hts := atoms_spec (ws := wsX5_secondOf) B.pre
  have hown : s.vm.findClass RX5 = some m.cls := findClass_of_methodNamed B.named
  have hlocks := B.notSynchronized
  have hK := hC.1
  have hiX5 : ∀ w ∈ wsX50, w ∈ wsX5_secondOf := by decide +kernel
  have hl := lv_entry [.ref h0, .int p1] (n := 2) (Nat.le_of_ble_eq_true rfl)
  rw [lg_entry_eq]
  generalize (lg_sl [.ref h0, .int p1] ++ List.replicate (2 - (lg_sl [.ref h0, .int p1]).length) Slot.unset).toArray = ls at hl ⊢
  have hl : lv_has ls 2 [(0, .ref h0), (1, .int p1)] := hl
  rw [m_X5_secondOf] at hm
  refine lv_iload_n hx hb dX5_secondOf_0 rfl (lv_at hl 1 rfl) ?_
  obtain ⟨q1, hq1, hm⟩ := mt_bind hm
  refine vp_callSi (va_Run.run (va_runSN (As := [.int p1]) (rest := []) ⟨hx, hb, hml, hown, hts⟩ (c_X6_isPart l dC dI cZ cI cL p1 q1 hq1) ⟨(va_cnB 1 hts gX5_secondOf_X6_isPart_n83 rfl rfl rfl (hC.2.m RX5 83 yX6_isPart "ServiceDrawer" (by decide +kernel)) (hts (.initialized RX6) (by decide +kernel)) (by decide +kernel) ⟨Nat.le_of_ble_eq_true rfl, Nat.le_of_ble_eq_true rfl⟩), hts (.static yX6_isPart) (by decide +kernel), trivial⟩ (mt_pR hC (hP.sub (ws' := []) [] rfl)) rfl rfl hl.1 rfl (lv_room (Nat.le_of_ble_eq_true rfl)) dX5_secondOf_1 ⟨Nat.le_of_ble_eq_true rfl, Nat.le_of_ble_eq_true rfl⟩)) (fun r er => ?_)
  replace er := er.symm
  subst er
  refine lv_if_eq (tgt := 16) hx hb dX5_secondOf_4 (by decide) (fun c2 => ?_) (fun c2 => ?_)
  · replace hm := mt_pos c2 hm
    refine lv_iconst (v := (0 : Int32)) hx hb dX5_secondOf_16 (by decide) ?_
    obtain rfl := Option.some.inj hm
    exact W.iret hx hb hr (fun t ht hW => ⟨_, rfl, rfl, ht⟩) t_nil dX5_secondOf_17
  · replace hm := mt_neg c2 hm
    refine lv_aload_n hx hb dX5_secondOf_7 rfl (lv_at hl 0 rfl) ?_
    refine va_get (D := (dC, dI)) (ci := 5) (v := .ref h0_second) (C := RX5) (T := TX5) (N := 8) hx hb hts hiX5 hown hK hP 0 rfl rfl 3 (by decide) (hts (.fieldLink RX5 22 "ServiceDrawer$Town" "second" "[I") (by decide +kernel)) (fun _ h9 => h9) rfl dX5_secondOf_8 ?_
    refine lv_iload_n hx hb dX5_secondOf_11 rfl (lv_at hl 1 rfl) ?_
    obtain ⟨g3, hm⟩ := mt_gd hm
    refine va_iald hx hb hK hP 4 1 rfl rfl g3 dX5_secondOf_12 ?_
    refine lv_goto (tgt := 17) hx hb dX5_secondOf_13 (by decide) ?_
    obtain rfl := Option.some.inj hm
    exact W.iret hx hb hr (fun t ht hW => ⟨_, rfl, rfl, ht⟩) t_nil dX5_secondOf_17
def m_X3_share (p1 : Int32) (p2 : Int32) (v_skills : Nat → Int32) : Option (Int32 × (Nat → Int32)) := (m_X6_isCorner p1).bind fun q1 => if q1 = 0 then some ((0 : Int32), v_skills) else (m_X6_isCorner p2).bind fun q3 => if q3 = 0 then some ((0 : Int32), v_skills) else if (¬ (p1 < 0 ∨ 21 ≤ p1.toNatClampNeg)) then if (¬ (p2 < 0 ∨ 21 ≤ p2.toNatClampNeg)) then if (v_skills p1.toNatClampNeg) = (v_skills p2.toNatClampNeg) then some ((0 : Int32), v_skills) else if (¬ (p1 < 0 ∨ 21 ≤ p1.toNatClampNeg)) then if (¬ (p2 < 0 ∨ 21 ≤ p2.toNatClampNeg)) then if (¬ (p1 < 0 ∨ 21 ≤ p1.toNatClampNeg)) then if (¬ (p2 < 0 ∨ 21 ≤ p2.toNatClampNeg)) then some ((1 : Int32), (upd (upd v_skills p1.toNatClampNeg ((v_skills p1.toNatClampNeg) ||| (v_skills p2.toNatClampNeg))) p2.toNatClampNeg ((v_skills p1.toNatClampNeg) ||| (v_skills p2.toNatClampNeg)))) else none else none else none else none else none else none
set_option maxHeartbeats 4000000 in
set_option maxRecDepth 100000 in
theorem c_X3_share (l : Launch) (dC : Nat → ClassId) (dI : Nat → Nat → Nat) (cZ cI cL : ClassId) (h0 h0_metres h0_skills : Nat) (sz : Nat) (p1 : Int32) (p2 : Int32) (v_metres : Nat → Int32) (v_skills : Nat → Int32) (q : Int32 × (Nat → Int32)) (hm : m_X3_share p1 p2 v_skills = some q) : Met l yX3_share wsX3_share ({ frames := 1, cells := 0, slots := 0, locals := 20 }) (va_Pc [.ref h0, .int p1, .int p2] (mt_S (dC, dI) cZ cI cL sz [(h0, .inr (3, [.ref h0_metres, .ref h0_skills])), (h0_metres, .inl (cI, 21, .inl v_metres)), (h0_skills, .inl (cI, 21, .inl v_skills))])) (va_Qi (fun (r : Int32) (_ : Unit) => r = q.1) (fun _ t => va_P (dC, dI) vwCl [(h0, .inr (3, [.ref h0_metres, .ref h0_skills])), (h0_metres, .inl (cI, 21, .inl v_metres)), (h0_skills, .inl (cI, 21, .inl q.2))] t.heap ∧ va_D (va_A [(h0, .inr (3, [.ref h0_metres, .ref h0_skills])), (h0_metres, .inl (cI, 21, .inl v_metres)), (h0_skills, .inl (cI, 21, .inl v_skills))] sz) [(h0, .inr (3, [.ref h0_metres, .ref h0_skills])), (h0_metres, .inl (cI, 21, .inl v_metres)), (h0_skills, .inl (cI, 21, .inl q.2))]) (va_A [(h0, .inr (3, [.ref h0_metres, .ref h0_skills])), (h0_metres, .inl (cI, 21, .inl v_metres)), (h0_skills, .inl (cI, 21, .inl v_skills))] sz)) 0 0 (va_A [(h0, .inr (3, [.ref h0_metres, .ref h0_skills])), (h0_metres, .inl (cI, 21, .inl v_metres)), (h0_skills, .inl (cI, 21, .inl v_skills))] sz) := by
  refine Met.ofW (cc := cX3_share) (maxL := 4) (ret := (some .boolean)) (by decide) rfl ?_
  intro p e s m args below meth c s₁ B hml hv
  obtain ⟨rfl, hsz, hP, hC, hD0⟩ := hv
  have hx := B.exec
  have hb := B.bytes
  have hr := B.returns
  have hts := atoms_spec (ws := wsX3_share) B.pre
  have hown : s.vm.findClass RX3 = some m.cls := findClass_of_methodNamed B.named
  have hlocks := B.notSynchronized
  have hK := hC.1
  have hiX3 : ∀ w ∈ wsX30, w ∈ wsX3_share := by decide +kernel
  subst hsz
  have hD := hD0.self (sz := s.heap.size)
  generalize hAe : va_A [(h0, .inr (3, [.ref h0_metres, .ref h0_skills])), (h0_metres, .inl (cI, 21, .inl v_metres)), (h0_skills, .inl (cI, 21, .inl v_skills))] s.heap.size = A at hD ⊢
  have hA : ∀ q : Nat, s.heap.size ≤ q → A q := fun q h => by rw [← hAe]; exact Or.inr h
  have hS : va_S A s.heap s.heap [] := va_S.rf
  have hl := lv_entry [.ref h0, .int p1, .int p2] (n := 4) (Nat.le_of_ble_eq_true rfl)
  rw [lg_entry_eq]
  generalize (lg_sl [.ref h0, .int p1, .int p2] ++ List.replicate (4 - (lg_sl [.ref h0, .int p1, .int p2]).length) Slot.unset).toArray = ls at hl ⊢
  have hl : lv_has ls 4 [(0, .ref h0), (1, .int p1), (2, .int p2)] := hl
  rw [m_X3_share] at hm
  refine lv_iload_n hx hb dX3_share_0 rfl (lv_at hl 1 rfl) ?_
  obtain ⟨q1, hq1, hm⟩ := mt_bind hm
  refine vp_callSi (va_Run.run (va_runSN (As := [.int p1]) (rest := []) ⟨hx, hb, hml, hown, hts⟩ (c_X6_isCorner l dC dI cZ cI cL p1 q1 hq1) ⟨(va_cnB 1 hts gX3_share_X6_isCorner_n39 rfl rfl rfl (hC.2.m RX3 39 yX6_isCorner "ServiceDrawer" (by decide +kernel)) (hts (.initialized RX6) (by decide +kernel)) (by decide +kernel) ⟨Nat.le_of_ble_eq_true rfl, Nat.le_of_ble_eq_true rfl⟩), hts (.static yX6_isCorner) (by decide +kernel), trivial⟩ (mt_pR hC (hP.sub (ws' := []) [] rfl)) rfl rfl hl.1 rfl (lv_room (Nat.le_of_ble_eq_true rfl)) dX3_share_1 ⟨Nat.le_of_ble_eq_true rfl, Nat.le_of_ble_eq_true rfl⟩)) (fun r er => ?_)
  replace er := er.symm
  subst er
  refine lv_if_eq (tgt := 29) hx hb dX3_share_4 (by decide) (fun c2 => ?_) (fun c2 => ?_)
  · replace hm := mt_pos c2 hm
    refine lv_iconst (v := (0 : Int32)) hx hb dX3_share_29 (by decide) ?_
    obtain rfl := Option.some.inj hm
    exact W.zret hx hb hr mt_z0 (fun t ht hW => ⟨⟨_, (), rfl, rfl, by rw [ht]; exact hP, hD⟩, hS.F ht⟩) hS.2.2 dX3_share_30
  · replace hm := mt_neg c2 hm
    refine lv_iload_n hx hb dX3_share_7 rfl (lv_at hl 2 rfl) ?_
    obtain ⟨q3, hq3, hm⟩ := mt_bind hm
    refine vp_callSi (va_Run.run (va_runSN (As := [.int p2]) (rest := []) ⟨hx, hb, hml, hown, hts⟩ (c_X6_isCorner l dC dI cZ cI cL p2 q3 hq3) ⟨(va_cnB 1 hts gX3_share_X6_isCorner_n39 rfl rfl rfl (hC.2.m RX3 39 yX6_isCorner "ServiceDrawer" (by decide +kernel)) (hts (.initialized RX6) (by decide +kernel)) (by decide +kernel) ⟨Nat.le_of_ble_eq_true rfl, Nat.le_of_ble_eq_true rfl⟩), hts (.static yX6_isCorner) (by decide +kernel), trivial⟩ (mt_pR hC (hP.sub (ws' := []) [] rfl)) rfl rfl hl.1 rfl (lv_room (Nat.le_of_ble_eq_true rfl)) dX3_share_8 ⟨Nat.le_of_ble_eq_true rfl, Nat.le_of_ble_eq_true rfl⟩)) (fun r er => ?_)
    replace er := er.symm
    subst er
    refine lv_if_eq (tgt := 29) hx hb dX3_share_11 (by decide) (fun c4 => ?_) (fun c4 => ?_)
    · replace hm := mt_pos c4 hm
      refine lv_iconst (v := (0 : Int32)) hx hb dX3_share_29 (by decide) ?_
      obtain rfl := Option.some.inj hm
      exact W.zret hx hb hr mt_z0 (fun t ht hW => ⟨⟨_, (), rfl, rfl, by rw [ht]; exact hP, hD⟩, hS.F ht⟩) hS.2.2 dX3_share_30
    · replace hm := mt_neg c4 hm
      refine lv_aload_n hx hb dX3_share_14 rfl (lv_at hl 0 rfl) ?_
      refine va_get (D := (dC, dI)) (ci := 3) (v := .ref h0_skills) (C := RX3) (T := TX3) (N := 2) hx hb hts hiX3 hown hK hP 0 rfl rfl 1 (by decide) (hts (.fieldLink RX3 15 "ServiceDrawer$Roads" "skills" "[I") (by decide +kernel)) (fun _ h9 => h9) rfl dX3_share_15 ?_
      refine lv_iload_n hx hb dX3_share_18 rfl (lv_at hl 1 rfl) ?_
      obtain ⟨g5, hm⟩ := mt_gd hm
      refine va_iald hx hb hK hP 2 1 rfl rfl g5 dX3_share_19 ?_
      refine lv_aload_n hx hb dX3_share_20 rfl (lv_at hl 0 rfl) ?_
      refine va_get (D := (dC, dI)) (ci := 3) (v := .ref h0_skills) (C := RX3) (T := TX3) (N := 2) hx hb hts hiX3 hown hK hP 0 rfl rfl 1 (by decide) (hts (.fieldLink RX3 15 "ServiceDrawer$Roads" "skills" "[I") (by decide +kernel)) (fun _ h9 => h9) rfl dX3_share_21 ?_
      refine lv_iload_n hx hb dX3_share_24 rfl (lv_at hl 2 rfl) ?_
      obtain ⟨g6, hm⟩ := mt_gd hm
      refine va_iald hx hb hK hP 2 1 rfl rfl g6 dX3_share_25 ?_
      refine lv_icmp_ne (tgt := 31) hx hb dX3_share_26 (by decide) (fun c7 => ?_) (fun c7 => ?_)
      · replace hm := mt_neg c7 hm
        refine lv_aload_n hx hb dX3_share_31 rfl (lv_at hl 0 rfl) ?_
        refine va_get (D := (dC, dI)) (ci := 3) (v := .ref h0_skills) (C := RX3) (T := TX3) (N := 2) hx hb hts hiX3 hown hK hP 0 rfl rfl 1 (by decide) (hts (.fieldLink RX3 15 "ServiceDrawer$Roads" "skills" "[I") (by decide +kernel)) (fun _ h9 => h9) rfl dX3_share_32 ?_
        refine lv_iload_n hx hb dX3_share_35 rfl (lv_at hl 1 rfl) ?_
        obtain ⟨g8, hm⟩ := mt_gd hm
        refine va_iald hx hb hK hP 2 1 rfl rfl g8 dX3_share_36 ?_
        refine lv_aload_n hx hb dX3_share_37 rfl (lv_at hl 0 rfl) ?_
        refine va_get (D := (dC, dI)) (ci := 3) (v := .ref h0_skills) (C := RX3) (T := TX3) (N := 2) hx hb hts hiX3 hown hK hP 0 rfl rfl 1 (by decide) (hts (.fieldLink RX3 15 "ServiceDrawer$Roads" "skills" "[I") (by decide +kernel)) (fun _ h9 => h9) rfl dX3_share_38 ?_
        refine lv_iload_n hx hb dX3_share_41 rfl (lv_at hl 2 rfl) ?_
        obtain ⟨g9, hm⟩ := mt_gd hm
        refine va_iald hx hb hK hP 2 1 rfl rfl g9 dX3_share_42 ?_
        refine lv_ior hx hb dX3_share_43 ?_
        refine lv_istore_n (lv' := [(3, .int ((v_skills p1.toNatClampNeg) ||| (v_skills p2.toNatClampNeg))), (0, .ref h0), (1, .int p1), (2, .int p2)]) hx hb dX3_share_44 rfl hl (by decide) rfl (fun ls hl => ?_)
        refine lv_aload_n hx hb dX3_share_45 rfl (lv_at hl 1 rfl) ?_
        refine va_get (D := (dC, dI)) (ci := 3) (v := .ref h0_skills) (C := RX3) (T := TX3) (N := 2) hx hb hts hiX3 hown hK hP 0 rfl rfl 1 (by decide) (hts (.fieldLink RX3 15 "ServiceDrawer$Roads" "skills" "[I") (by decide +kernel)) (fun _ h9 => h9) rfl dX3_share_46 ?_
        refine lv_iload_n hx hb dX3_share_49 rfl (lv_at hl 2 rfl) ?_
        refine lv_iload_n hx hb dX3_share_50 rfl (lv_at hl 0 rfl) ?_
        obtain ⟨g10, hm⟩ := mt_gd hm
        refine va_iast hx hb hK hP hD hS 2 1 rfl rfl g10 dX3_share_51 (fun H locs hP hD hS => ?_)
        have hP : va_P (dC, dI) vwCl [(h0, .inr (3, [.ref h0_metres, .ref h0_skills])), (h0_metres, .inl (cI, 21, .inl v_metres)), (h0_skills, .inl (cI, 21, .inl (upd v_skills p1.toNatClampNeg ((v_skills p1.toNatClampNeg) ||| (v_skills p2.toNatClampNeg)))))] H := hP
        have hD : va_D A [(h0, .inr (3, [.ref h0_metres, .ref h0_skills])), (h0_metres, .inl (cI, 21, .inl v_metres)), (h0_skills, .inl (cI, 21, .inl (upd v_skills p1.toNatClampNeg ((v_skills p1.toNatClampNeg) ||| (v_skills p2.toNatClampNeg)))))] := hD
        refine lv_aload_n hx hb dX3_share_52 rfl (lv_at hl 1 rfl) ?_
        refine va_get (D := (dC, dI)) (ci := 3) (v := .ref h0_skills) (C := RX3) (T := TX3) (N := 2) hx hb hts hiX3 hown hK hP 0 rfl rfl 1 (by decide) (hts (.fieldLink RX3 15 "ServiceDrawer$Roads" "skills" "[I") (by decide +kernel)) (fun _ h9 => h9) rfl dX3_share_53 ?_
        refine lv_iload_n hx hb dX3_share_56 rfl (lv_at hl 3 rfl) ?_
        refine lv_iload_n hx hb dX3_share_57 rfl (lv_at hl 0 rfl) ?_
        obtain ⟨g11, hm⟩ := mt_gd hm
        refine va_iast hx hb hK hP hD hS 2 1 rfl rfl g11 dX3_share_58 (fun H locs hP hD hS => ?_)
        have hP : va_P (dC, dI) vwCl [(h0, .inr (3, [.ref h0_metres, .ref h0_skills])), (h0_metres, .inl (cI, 21, .inl v_metres)), (h0_skills, .inl (cI, 21, .inl (upd (upd v_skills p1.toNatClampNeg ((v_skills p1.toNatClampNeg) ||| (v_skills p2.toNatClampNeg))) p2.toNatClampNeg ((v_skills p1.toNatClampNeg) ||| (v_skills p2.toNatClampNeg)))))] H := hP
        have hD : va_D A [(h0, .inr (3, [.ref h0_metres, .ref h0_skills])), (h0_metres, .inl (cI, 21, .inl v_metres)), (h0_skills, .inl (cI, 21, .inl (upd (upd v_skills p1.toNatClampNeg ((v_skills p1.toNatClampNeg) ||| (v_skills p2.toNatClampNeg))) p2.toNatClampNeg ((v_skills p1.toNatClampNeg) ||| (v_skills p2.toNatClampNeg)))))] := hD
        refine lv_iconst (v := (1 : Int32)) hx hb dX3_share_59 (by decide) ?_
        obtain rfl := Option.some.inj hm
        exact W.zret hx hb hr mt_z1 (fun t ht hW => ⟨⟨_, (), rfl, rfl, by rw [ht]; exact hP, hD⟩, hS.F ht⟩) hS.2.2 dX3_share_60
      · replace hm := mt_pos c7 hm
        refine lv_iconst (v := (0 : Int32)) hx hb dX3_share_29 (by decide) ?_
        obtain rfl := Option.some.inj hm
        exact W.zret hx hb hr mt_z0 (fun t ht hW => ⟨⟨_, (), rfl, rfl, by rw [ht]; exact hP, hD⟩, hS.F ht⟩) hS.2.2 dX3_share_30
def m_X3_bringSkills_L90 (a1_there : Nat → Int32) (a1_corner : Nat → Int32) (a1_second : Nat → Int32) (K133 : Int32 → Int32 → (Nat → Int32) → Option ((Nat → Int32))) : Nat → Int32 → Int32 → (Nat → Int32) → Option ((Nat → Int32))
  | 0, _, _, _ => none
  | n90 + 1, x2_90, x4_90, v_skills_90 => if (30 : Int32) ≤ x4_90 then K133 x2_90 x4_90 v_skills_90 else (m_X5_isThere x4_90 a1_there).bind fun q4 => if q4 = 0 then m_X3_bringSkills_L90 a1_there a1_corner a1_second K133 n90 x2_90 (x4_90 + (1 : Int32)) v_skills_90 else (m_X5_cornerOf x4_90 a1_corner).bind fun q6 => (m_X5_secondOf x4_90 a1_second).bind fun q7 => (m_X3_share q6 q7 v_skills_90).bind fun q8 => if q8.1 = 0 then m_X3_bringSkills_L90 a1_there a1_corner a1_second K133 n90 x2_90 (x4_90 + (1 : Int32)) q8.2 else m_X3_bringSkills_L90 a1_there a1_corner a1_second K133 n90 (1 : Int32) (x4_90 + (1 : Int32)) q8.2
def m_X3_bringSkills_L75 (fu : Nat) (a1_there : Nat → Int32) (a1_corner : Nat → Int32) (a1_second : Nat → Int32) (K139 : Int32 → Int32 → (Nat → Int32) → Option ((Nat → Int32))) : Nat → Int32 → Int32 → (Nat → Int32) → Option ((Nat → Int32))
  | 0, _, _, _ => none
  | n75 + 1, x2_75, x3_75, v_skills_75 => if (21 : Int32) ≤ x3_75 then K139 x2_75 x3_75 v_skills_75 else if x2_75 = 0 then K139 x2_75 x3_75 v_skills_75 else mt_j (fun (x2_133 : Int32) (x4_133 : Int32) (v_skills_133 : Nat → Int32) => m_X3_bringSkills_L75 fu a1_there a1_corner a1_second K139 n75 x2_133 (x3_75 + (1 : Int32)) v_skills_133) fun K133 => m_X3_bringSkills_L90 a1_there a1_corner a1_second K133 fu (0 : Int32) (0 : Int32) v_skills_75
def m_X3_bringSkills_L24 (a1_there : Nat → Int32) (a1_corner : Nat → Int32) (a1_second : Nat → Int32) (K71 : Int32 → (Nat → Int32) → Option ((Nat → Int32))) : Nat → Int32 → (Nat → Int32) → Option ((Nat → Int32))
  | 0, _, _ => none
  | n24 + 1, x2_24, v_skills_24 => if (41 : Int32) ≤ x2_24 then K71 x2_24 v_skills_24 else (m_X5_cornerOf x2_24 a1_corner).bind fun q11 => (m_X5_isThere x2_24 a1_there).bind fun q12 => if q12 = 0 then m_X3_bringSkills_L24 a1_there a1_corner a1_second K71 n24 (x2_24 + (1 : Int32)) v_skills_24 else (m_X6_isCorner q11).bind fun q14 => if q14 = 0 then m_X3_bringSkills_L24 a1_there a1_corner a1_second K71 n24 (x2_24 + (1 : Int32)) v_skills_24 else if (¬ (q11 < 0 ∨ 21 ≤ q11.toNatClampNeg)) then (m_X5_secondOf x2_24 a1_second).bind fun q17 => if (¬ (q11 < 0 ∨ 21 ≤ q11.toNatClampNeg)) then m_X3_bringSkills_L24 a1_there a1_corner a1_second K71 n24 (x2_24 + (1 : Int32)) (upd v_skills_24 q11.toNatClampNeg ((v_skills_24 q11.toNatClampNeg) ||| q17)) else none else none
def m_X3_bringSkills_L2 (K21 : Int32 → (Nat → Int32) → Option ((Nat → Int32))) : Nat → Int32 → (Nat → Int32) → Option ((Nat → Int32))
  | 0, _, _ => none
  | n2 + 1, x2_2, v_skills_2 => if (21 : Int32) ≤ x2_2 then K21 x2_2 v_skills_2 else if (¬ (x2_2 < 0 ∨ 21 ≤ x2_2.toNatClampNeg)) then m_X3_bringSkills_L2 K21 n2 (x2_2 + (1 : Int32)) (upd v_skills_2 x2_2.toNatClampNeg (0 : Int32)) else none
def m_X3_bringSkills (fu : Nat) (v_skills : Nat → Int32) (a1_there : Nat → Int32) (a1_corner : Nat → Int32) (a1_second : Nat → Int32) : Option ((Nat → Int32)) := mt_j (fun (x2_21 : Int32) (v_skills_21 : Nat → Int32) => mt_j (fun (x2_71 : Int32) (v_skills_71 : Nat → Int32) => mt_j (fun (x2_139 : Int32) (x3_139 : Int32) (v_skills_139 : Nat → Int32) => some v_skills_139) fun K139 => m_X3_bringSkills_L75 fu a1_there a1_corner a1_second K139 fu (1 : Int32) (0 : Int32) v_skills_71) fun K71 => m_X3_bringSkills_L24 a1_there a1_corner a1_second K71 fu (30 : Int32) v_skills_21) fun K21 => m_X3_bringSkills_L2 K21 fu (0 : Int32) v_skills
set_option maxHeartbeats 4000000 in
set_option maxRecDepth 100000 in
theorem c_X3_bringSkills (l : Launch) (dC : Nat → ClassId) (dI : Nat → Nat → Nat) (cZ cI cL : ClassId) (h0 h0_metres h0_skills h1 h1_had h1_there h1_corner h1_second h1_third : Nat) (sz : Nat) (v_metres : Nat → Int32) (v_skills : Nat → Int32) (a1_seed : Int32) (a1_size : Int32) (a1_parts : Int32) (a1_had : Nat → Int32) (a1_there : Nat → Int32) (a1_corner : Nat → Int32) (a1_second : Nat → Int32) (a1_third : Nat → Int32) (fu : Nat) (q : (Nat → Int32)) (hm : m_X3_bringSkills fu v_skills a1_there a1_corner a1_second = some q) : Met l yX3_bringSkills wsX3_bringSkills ({ frames := 2, cells := 0, slots := 0, locals := 43 }) (va_Pc [.ref h0, .ref h1] (mt_S (dC, dI) cZ cI cL sz [(h0, .inr (3, [.ref h0_metres, .ref h0_skills])), (h0_metres, .inl (cI, 21, .inl v_metres)), (h0_skills, .inl (cI, 21, .inl v_skills)), (h1, .inr (5, [.ref h1_had, .ref h1_there, .ref h1_corner, .ref h1_second, .ref h1_third, .int a1_seed, .int a1_size, .int a1_parts])), (h1_had, .inl (cZ, 62, .inl a1_had)), (h1_there, .inl (cZ, 62, .inl a1_there)), (h1_corner, .inl (cI, 62, .inl a1_corner)), (h1_second, .inl (cI, 62, .inl a1_second)), (h1_third, .inl (cI, 62, .inl a1_third))])) (va_Qv (fun (_ : Unit) => True) (fun _ t => va_P (dC, dI) vwCl [(h0, .inr (3, [.ref h0_metres, .ref h0_skills])), (h0_metres, .inl (cI, 21, .inl v_metres)), (h0_skills, .inl (cI, 21, .inl q)), (h1, .inr (5, [.ref h1_had, .ref h1_there, .ref h1_corner, .ref h1_second, .ref h1_third, .int a1_seed, .int a1_size, .int a1_parts])), (h1_had, .inl (cZ, 62, .inl a1_had)), (h1_there, .inl (cZ, 62, .inl a1_there)), (h1_corner, .inl (cI, 62, .inl a1_corner)), (h1_second, .inl (cI, 62, .inl a1_second)), (h1_third, .inl (cI, 62, .inl a1_third))] t.heap ∧ va_D (va_A [(h0, .inr (3, [.ref h0_metres, .ref h0_skills])), (h0_metres, .inl (cI, 21, .inl v_metres)), (h0_skills, .inl (cI, 21, .inl v_skills)), (h1, .inr (5, [.ref h1_had, .ref h1_there, .ref h1_corner, .ref h1_second, .ref h1_third, .int a1_seed, .int a1_size, .int a1_parts])), (h1_had, .inl (cZ, 62, .inl a1_had)), (h1_there, .inl (cZ, 62, .inl a1_there)), (h1_corner, .inl (cI, 62, .inl a1_corner)), (h1_second, .inl (cI, 62, .inl a1_second)), (h1_third, .inl (cI, 62, .inl a1_third))] sz) [(h0, .inr (3, [.ref h0_metres, .ref h0_skills])), (h0_metres, .inl (cI, 21, .inl v_metres)), (h0_skills, .inl (cI, 21, .inl q)), (h1, .inr (5, [.ref h1_had, .ref h1_there, .ref h1_corner, .ref h1_second, .ref h1_third, .int a1_seed, .int a1_size, .int a1_parts])), (h1_had, .inl (cZ, 62, .inl a1_had)), (h1_there, .inl (cZ, 62, .inl a1_there)), (h1_corner, .inl (cI, 62, .inl a1_corner)), (h1_second, .inl (cI, 62, .inl a1_second)), (h1_third, .inl (cI, 62, .inl a1_third))]) (va_A [(h0, .inr (3, [.ref h0_metres, .ref h0_skills])), (h0_metres, .inl (cI, 21, .inl v_metres)), (h0_skills, .inl (cI, 21, .inl v_skills)), (h1, .inr (5, [.ref h1_had, .ref h1_there, .ref h1_corner, .ref h1_second, .ref h1_third, .int a1_seed, .int a1_size, .int a1_parts])), (h1_had, .inl (cZ, 62, .inl a1_had)), (h1_there, .inl (cZ, 62, .inl a1_there)), (h1_corner, .inl (cI, 62, .inl a1_corner)), (h1_second, .inl (cI, 62, .inl a1_second)), (h1_third, .inl (cI, 62, .inl a1_third))] sz)) 0 0 (va_A [(h0, .inr (3, [.ref h0_metres, .ref h0_skills])), (h0_metres, .inl (cI, 21, .inl v_metres)), (h0_skills, .inl (cI, 21, .inl v_skills)), (h1, .inr (5, [.ref h1_had, .ref h1_there, .ref h1_corner, .ref h1_second, .ref h1_third, .int a1_seed, .int a1_size, .int a1_parts])), (h1_had, .inl (cZ, 62, .inl a1_had)), (h1_there, .inl (cZ, 62, .inl a1_there)), (h1_corner, .inl (cI, 62, .inl a1_corner)), (h1_second, .inl (cI, 62, .inl a1_second)), (h1_third, .inl (cI, 62, .inl a1_third))] sz) := by
  refine Met.ofW (cc := cX3_bringSkills) (maxL := 5) (ret := none) (by decide) rfl ?_
  intro p e s m args below meth c s₁ B hml hv
  obtain ⟨rfl, hsz, hP, hC, hD0⟩ := hv
  have hx := B.exec
  have hb := B.bytes
  have hr := B.returns
  have hts := atoms_spec (ws := wsX3_bringSkills) B.pre
  have hown : s.vm.findClass RX3 = some m.cls := findClass_of_methodNamed B.named
  have hlocks := B.notSynchronized
  have hK := hC.1
  have hiX3 : ∀ w ∈ wsX30, w ∈ wsX3_bringSkills := by decide +kernel
  subst hsz
  have hD := hD0.self (sz := s.heap.size)
  generalize hAe : va_A [(h0, .inr (3, [.ref h0_metres, .ref h0_skills])), (h0_metres, .inl (cI, 21, .inl v_metres)), (h0_skills, .inl (cI, 21, .inl v_skills)), (h1, .inr (5, [.ref h1_had, .ref h1_there, .ref h1_corner, .ref h1_second, .ref h1_third, .int a1_seed, .int a1_size, .int a1_parts])), (h1_had, .inl (cZ, 62, .inl a1_had)), (h1_there, .inl (cZ, 62, .inl a1_there)), (h1_corner, .inl (cI, 62, .inl a1_corner)), (h1_second, .inl (cI, 62, .inl a1_second)), (h1_third, .inl (cI, 62, .inl a1_third))] s.heap.size = A at hD ⊢
  have hA : ∀ q : Nat, s.heap.size ≤ q → A q := fun q h => by rw [← hAe]; exact Or.inr h
  have hS : va_S A s.heap s.heap [] := va_S.rf
  have hl := lv_entry [.ref h0, .ref h1] (n := 5) (Nat.le_of_ble_eq_true rfl)
  rw [lg_entry_eq]
  generalize (lg_sl [.ref h0, .ref h1] ++ List.replicate (5 - (lg_sl [.ref h0, .ref h1]).length) Slot.unset).toArray = ls at hl ⊢
  have hl : lv_has ls 5 [(0, .ref h0), (1, .ref h1)] := hl
  rw [m_X3_bringSkills] at hm
  refine lv_iconst (v := (0 : Int32)) hx hb dX3_bringSkills_0 (by decide) ?_
  refine lv_istore_n (lv' := [(2, .int (0 : Int32)), (0, .ref h0), (1, .ref h1)]) hx hb dX3_bringSkills_1 rfl hl (by decide) rfl (fun ls hl => ?_)
  obtain ⟨K21, hK21, hm⟩ := mt_jx hm
  have J21 : ∀ (x2_21 : Int32) (v_skills_21 : Nat → Int32), ∀ (H : Heap) (locs : List Loc) (ls : Array Slot), K21 x2_21 v_skills_21 = some q → va_P (dC, dI) vwCl [(h0, .inr (3, [.ref h0_metres, .ref h0_skills])), (h0_metres, .inl (cI, 21, .inl v_metres)), (h0_skills, .inl (cI, 21, .inl v_skills_21)), (h1, .inr (5, [.ref h1_had, .ref h1_there, .ref h1_corner, .ref h1_second, .ref h1_third, .int a1_seed, .int a1_size, .int a1_parts])), (h1_had, .inl (cZ, 62, .inl a1_had)), (h1_there, .inl (cZ, 62, .inl a1_there)), (h1_corner, .inl (cI, 62, .inl a1_corner)), (h1_second, .inl (cI, 62, .inl a1_second)), (h1_third, .inl (cI, 62, .inl a1_third))] H → va_D A [(h0, .inr (3, [.ref h0_metres, .ref h0_skills])), (h0_metres, .inl (cI, 21, .inl v_metres)), (h0_skills, .inl (cI, 21, .inl v_skills_21)), (h1, .inr (5, [.ref h1_had, .ref h1_there, .ref h1_corner, .ref h1_second, .ref h1_third, .int a1_seed, .int a1_size, .int a1_parts])), (h1_had, .inl (cZ, 62, .inl a1_had)), (h1_there, .inl (cZ, 62, .inl a1_there)), (h1_corner, .inl (cI, 62, .inl a1_corner)), (h1_second, .inl (cI, 62, .inl a1_second)), (h1_third, .inl (cI, 62, .inl a1_third))] → va_S A s.heap H locs → lv_has ls 5 [(0, .ref h0), (1, .ref h1), (2, .int x2_21)] → W p l e (headSpec wsX3_bringSkills ({ frames := 2, cells := 0, slots := 0, locals := 43 })).room s m [.ref h0, .ref h1].toArray below meth c H locs 0 0 (MQ below (va_Qv (fun (_ : Unit) => True) (fun _ t => va_P (dC, dI) vwCl [(h0, .inr (3, [.ref h0_metres, .ref h0_skills])), (h0_metres, .inl (cI, 21, .inl v_metres)), (h0_skills, .inl (cI, 21, .inl q)), (h1, .inr (5, [.ref h1_had, .ref h1_there, .ref h1_corner, .ref h1_second, .ref h1_third, .int a1_seed, .int a1_size, .int a1_parts])), (h1_had, .inl (cZ, 62, .inl a1_had)), (h1_there, .inl (cZ, 62, .inl a1_there)), (h1_corner, .inl (cI, 62, .inl a1_corner)), (h1_second, .inl (cI, 62, .inl a1_second)), (h1_third, .inl (cI, 62, .inl a1_third))] t.heap ∧ va_D A [(h0, .inr (3, [.ref h0_metres, .ref h0_skills])), (h0_metres, .inl (cI, 21, .inl v_metres)), (h0_skills, .inl (cI, 21, .inl q)), (h1, .inr (5, [.ref h1_had, .ref h1_there, .ref h1_corner, .ref h1_second, .ref h1_third, .int a1_seed, .int a1_size, .int a1_parts])), (h1_had, .inl (cZ, 62, .inl a1_had)), (h1_there, .inl (cZ, 62, .inl a1_there)), (h1_corner, .inl (cI, 62, .inl a1_corner)), (h1_second, .inl (cI, 62, .inl a1_second)), (h1_third, .inl (cI, 62, .inl a1_third))]) A) [.ref h0, .ref h1].toArray s 0 0 A) (F0 m 21 ls []) := by
    intro x2_21 v_skills_21 H locs ls hm hP hD hS hl
    replace hm := mt_app2 hK21 hm
    refine lv_bipush (v := (30 : Int32)) hx hb dX3_bringSkills_21 (by decide) ?_
    refine lv_istore_n (lv' := [(2, .int (30 : Int32)), (0, .ref h0), (1, .ref h1)]) hx hb dX3_bringSkills_23 rfl hl (by decide) rfl (fun ls hl => ?_)
    obtain ⟨K71, hK71, hm⟩ := mt_jx hm
    have J71 : ∀ (x2_71 : Int32) (v_skills_71 : Nat → Int32), ∀ (H : Heap) (locs : List Loc) (ls : Array Slot), K71 x2_71 v_skills_71 = some q → va_P (dC, dI) vwCl [(h0, .inr (3, [.ref h0_metres, .ref h0_skills])), (h0_metres, .inl (cI, 21, .inl v_metres)), (h0_skills, .inl (cI, 21, .inl v_skills_71)), (h1, .inr (5, [.ref h1_had, .ref h1_there, .ref h1_corner, .ref h1_second, .ref h1_third, .int a1_seed, .int a1_size, .int a1_parts])), (h1_had, .inl (cZ, 62, .inl a1_had)), (h1_there, .inl (cZ, 62, .inl a1_there)), (h1_corner, .inl (cI, 62, .inl a1_corner)), (h1_second, .inl (cI, 62, .inl a1_second)), (h1_third, .inl (cI, 62, .inl a1_third))] H → va_D A [(h0, .inr (3, [.ref h0_metres, .ref h0_skills])), (h0_metres, .inl (cI, 21, .inl v_metres)), (h0_skills, .inl (cI, 21, .inl v_skills_71)), (h1, .inr (5, [.ref h1_had, .ref h1_there, .ref h1_corner, .ref h1_second, .ref h1_third, .int a1_seed, .int a1_size, .int a1_parts])), (h1_had, .inl (cZ, 62, .inl a1_had)), (h1_there, .inl (cZ, 62, .inl a1_there)), (h1_corner, .inl (cI, 62, .inl a1_corner)), (h1_second, .inl (cI, 62, .inl a1_second)), (h1_third, .inl (cI, 62, .inl a1_third))] → va_S A s.heap H locs → lv_has ls 5 [(0, .ref h0), (1, .ref h1), (2, .int x2_71)] → W p l e (headSpec wsX3_bringSkills ({ frames := 2, cells := 0, slots := 0, locals := 43 })).room s m [.ref h0, .ref h1].toArray below meth c H locs 0 0 (MQ below (va_Qv (fun (_ : Unit) => True) (fun _ t => va_P (dC, dI) vwCl [(h0, .inr (3, [.ref h0_metres, .ref h0_skills])), (h0_metres, .inl (cI, 21, .inl v_metres)), (h0_skills, .inl (cI, 21, .inl q)), (h1, .inr (5, [.ref h1_had, .ref h1_there, .ref h1_corner, .ref h1_second, .ref h1_third, .int a1_seed, .int a1_size, .int a1_parts])), (h1_had, .inl (cZ, 62, .inl a1_had)), (h1_there, .inl (cZ, 62, .inl a1_there)), (h1_corner, .inl (cI, 62, .inl a1_corner)), (h1_second, .inl (cI, 62, .inl a1_second)), (h1_third, .inl (cI, 62, .inl a1_third))] t.heap ∧ va_D A [(h0, .inr (3, [.ref h0_metres, .ref h0_skills])), (h0_metres, .inl (cI, 21, .inl v_metres)), (h0_skills, .inl (cI, 21, .inl q)), (h1, .inr (5, [.ref h1_had, .ref h1_there, .ref h1_corner, .ref h1_second, .ref h1_third, .int a1_seed, .int a1_size, .int a1_parts])), (h1_had, .inl (cZ, 62, .inl a1_had)), (h1_there, .inl (cZ, 62, .inl a1_there)), (h1_corner, .inl (cI, 62, .inl a1_corner)), (h1_second, .inl (cI, 62, .inl a1_second)), (h1_third, .inl (cI, 62, .inl a1_third))]) A) [.ref h0, .ref h1].toArray s 0 0 A) (F0 m 71 ls []) := by
      intro x2_71 v_skills_71 H locs ls hm hP hD hS hl
      replace hm := mt_app2 hK71 hm
      refine lv_iconst (v := (1 : Int32)) hx hb dX3_bringSkills_71 (by decide) ?_
      refine lv_istore_n (lv' := [(2, .int (1 : Int32)), (0, .ref h0), (1, .ref h1)]) hx hb dX3_bringSkills_72 rfl hl (by decide) rfl (fun ls hl => ?_)
      refine lv_iconst (v := (0 : Int32)) hx hb dX3_bringSkills_73 (by decide) ?_
      refine lv_istore_n (lv' := [(3, .int (0 : Int32)), (2, .int (1 : Int32)), (0, .ref h0), (1, .ref h1)]) hx hb dX3_bringSkills_74 rfl hl (by decide) rfl (fun ls hl => ?_)
      obtain ⟨K139, hK139, hm⟩ := mt_jx hm
      have J139 : ∀ (x2_139 : Int32) (x3_139 : Int32) (v_skills_139 : Nat → Int32), ∀ (H : Heap) (locs : List Loc) (ls : Array Slot), K139 x2_139 x3_139 v_skills_139 = some q → va_P (dC, dI) vwCl [(h0, .inr (3, [.ref h0_metres, .ref h0_skills])), (h0_metres, .inl (cI, 21, .inl v_metres)), (h0_skills, .inl (cI, 21, .inl v_skills_139)), (h1, .inr (5, [.ref h1_had, .ref h1_there, .ref h1_corner, .ref h1_second, .ref h1_third, .int a1_seed, .int a1_size, .int a1_parts])), (h1_had, .inl (cZ, 62, .inl a1_had)), (h1_there, .inl (cZ, 62, .inl a1_there)), (h1_corner, .inl (cI, 62, .inl a1_corner)), (h1_second, .inl (cI, 62, .inl a1_second)), (h1_third, .inl (cI, 62, .inl a1_third))] H → va_D A [(h0, .inr (3, [.ref h0_metres, .ref h0_skills])), (h0_metres, .inl (cI, 21, .inl v_metres)), (h0_skills, .inl (cI, 21, .inl v_skills_139)), (h1, .inr (5, [.ref h1_had, .ref h1_there, .ref h1_corner, .ref h1_second, .ref h1_third, .int a1_seed, .int a1_size, .int a1_parts])), (h1_had, .inl (cZ, 62, .inl a1_had)), (h1_there, .inl (cZ, 62, .inl a1_there)), (h1_corner, .inl (cI, 62, .inl a1_corner)), (h1_second, .inl (cI, 62, .inl a1_second)), (h1_third, .inl (cI, 62, .inl a1_third))] → va_S A s.heap H locs → lv_has ls 5 [(0, .ref h0), (1, .ref h1), (2, .int x2_139), (3, .int x3_139)] → W p l e (headSpec wsX3_bringSkills ({ frames := 2, cells := 0, slots := 0, locals := 43 })).room s m [.ref h0, .ref h1].toArray below meth c H locs 0 0 (MQ below (va_Qv (fun (_ : Unit) => True) (fun _ t => va_P (dC, dI) vwCl [(h0, .inr (3, [.ref h0_metres, .ref h0_skills])), (h0_metres, .inl (cI, 21, .inl v_metres)), (h0_skills, .inl (cI, 21, .inl q)), (h1, .inr (5, [.ref h1_had, .ref h1_there, .ref h1_corner, .ref h1_second, .ref h1_third, .int a1_seed, .int a1_size, .int a1_parts])), (h1_had, .inl (cZ, 62, .inl a1_had)), (h1_there, .inl (cZ, 62, .inl a1_there)), (h1_corner, .inl (cI, 62, .inl a1_corner)), (h1_second, .inl (cI, 62, .inl a1_second)), (h1_third, .inl (cI, 62, .inl a1_third))] t.heap ∧ va_D A [(h0, .inr (3, [.ref h0_metres, .ref h0_skills])), (h0_metres, .inl (cI, 21, .inl v_metres)), (h0_skills, .inl (cI, 21, .inl q)), (h1, .inr (5, [.ref h1_had, .ref h1_there, .ref h1_corner, .ref h1_second, .ref h1_third, .int a1_seed, .int a1_size, .int a1_parts])), (h1_had, .inl (cZ, 62, .inl a1_had)), (h1_there, .inl (cZ, 62, .inl a1_there)), (h1_corner, .inl (cI, 62, .inl a1_corner)), (h1_second, .inl (cI, 62, .inl a1_second)), (h1_third, .inl (cI, 62, .inl a1_third))]) A) [.ref h0, .ref h1].toArray s 0 0 A) (F0 m 139 ls []) := by
        intro x2_139 x3_139 v_skills_139 H locs ls hm hP hD hS hl
        replace hm := mt_app3 hK139 hm
        obtain rfl := Option.some.inj hm
        exact W.vret hx hb hr (fun t ht hW => ⟨⟨(), rfl, trivial, by rw [ht]; exact hP, hD⟩, hS.F ht⟩) hS.2.2 dX3_bringSkills_139
      have L75 : ∀ n75 : Nat, ∀ (x2_75 : Int32) (x3_75 : Int32) (v_skills_75 : Nat → Int32), ∀ (H : Heap) (locs : List Loc) (ls : Array Slot), m_X3_bringSkills_L75 fu a1_there a1_corner a1_second K139 n75 x2_75 x3_75 v_skills_75 = some q → va_P (dC, dI) vwCl [(h0, .inr (3, [.ref h0_metres, .ref h0_skills])), (h0_metres, .inl (cI, 21, .inl v_metres)), (h0_skills, .inl (cI, 21, .inl v_skills_75)), (h1, .inr (5, [.ref h1_had, .ref h1_there, .ref h1_corner, .ref h1_second, .ref h1_third, .int a1_seed, .int a1_size, .int a1_parts])), (h1_had, .inl (cZ, 62, .inl a1_had)), (h1_there, .inl (cZ, 62, .inl a1_there)), (h1_corner, .inl (cI, 62, .inl a1_corner)), (h1_second, .inl (cI, 62, .inl a1_second)), (h1_third, .inl (cI, 62, .inl a1_third))] H → va_D A [(h0, .inr (3, [.ref h0_metres, .ref h0_skills])), (h0_metres, .inl (cI, 21, .inl v_metres)), (h0_skills, .inl (cI, 21, .inl v_skills_75)), (h1, .inr (5, [.ref h1_had, .ref h1_there, .ref h1_corner, .ref h1_second, .ref h1_third, .int a1_seed, .int a1_size, .int a1_parts])), (h1_had, .inl (cZ, 62, .inl a1_had)), (h1_there, .inl (cZ, 62, .inl a1_there)), (h1_corner, .inl (cI, 62, .inl a1_corner)), (h1_second, .inl (cI, 62, .inl a1_second)), (h1_third, .inl (cI, 62, .inl a1_third))] → va_S A s.heap H locs → lv_has ls 5 [(0, .ref h0), (1, .ref h1), (2, .int x2_75), (3, .int x3_75)] → W p l e (headSpec wsX3_bringSkills ({ frames := 2, cells := 0, slots := 0, locals := 43 })).room s m [.ref h0, .ref h1].toArray below meth c H locs 0 0 (MQ below (va_Qv (fun (_ : Unit) => True) (fun _ t => va_P (dC, dI) vwCl [(h0, .inr (3, [.ref h0_metres, .ref h0_skills])), (h0_metres, .inl (cI, 21, .inl v_metres)), (h0_skills, .inl (cI, 21, .inl q)), (h1, .inr (5, [.ref h1_had, .ref h1_there, .ref h1_corner, .ref h1_second, .ref h1_third, .int a1_seed, .int a1_size, .int a1_parts])), (h1_had, .inl (cZ, 62, .inl a1_had)), (h1_there, .inl (cZ, 62, .inl a1_there)), (h1_corner, .inl (cI, 62, .inl a1_corner)), (h1_second, .inl (cI, 62, .inl a1_second)), (h1_third, .inl (cI, 62, .inl a1_third))] t.heap ∧ va_D A [(h0, .inr (3, [.ref h0_metres, .ref h0_skills])), (h0_metres, .inl (cI, 21, .inl v_metres)), (h0_skills, .inl (cI, 21, .inl q)), (h1, .inr (5, [.ref h1_had, .ref h1_there, .ref h1_corner, .ref h1_second, .ref h1_third, .int a1_seed, .int a1_size, .int a1_parts])), (h1_had, .inl (cZ, 62, .inl a1_had)), (h1_there, .inl (cZ, 62, .inl a1_there)), (h1_corner, .inl (cI, 62, .inl a1_corner)), (h1_second, .inl (cI, 62, .inl a1_second)), (h1_third, .inl (cI, 62, .inl a1_third))]) A) [.ref h0, .ref h1].toArray s 0 0 A) (F0 m 75 ls []) := by
        intro n75
        induction n75 with
        | zero =>
          intro x2_75 x3_75 v_skills_75 H locs ls hm hP hD hS hl
          exact absurd hm (fun h => nomatch h)
        | succ n75 ih75 =>
          intro x2_75 x3_75 v_skills_75 H locs ls hm hP hD hS hl
          rw [m_X3_bringSkills_L75] at hm
          refine lv_iload_n hx hb dX3_bringSkills_75 rfl (lv_at hl 3 rfl) ?_
          refine lv_bipush (v := (21 : Int32)) hx hb dX3_bringSkills_76 (by decide) ?_
          refine lv_icmp_ge (tgt := 139) hx hb dX3_bringSkills_78 (by decide) (fun c1 => ?_) (fun c1 => ?_)
          · replace hm := mt_pos c1 hm
            exact J139 x2_75 x3_75 v_skills_75 _ _ _ hm hP hD hS (lv_sub hl [0, 1, 2, 3] rfl)
          · replace hm := mt_neg c1 hm
            refine lv_iload_n hx hb dX3_bringSkills_81 rfl (lv_at hl 2 rfl) ?_
            refine lv_if_eq (tgt := 139) hx hb dX3_bringSkills_82 (by decide) (fun c2 => ?_) (fun c2 => ?_)
            · replace hm := mt_pos c2 hm
              exact J139 x2_75 x3_75 v_skills_75 _ _ _ hm hP hD hS (lv_sub hl [0, 1, 2, 3] rfl)
            · replace hm := mt_neg c2 hm
              refine lv_iconst (v := (0 : Int32)) hx hb dX3_bringSkills_85 (by decide) ?_
              refine lv_istore_n (lv' := [(2, .int (0 : Int32)), (0, .ref h0), (1, .ref h1), (3, .int x3_75)]) hx hb dX3_bringSkills_86 rfl hl (by decide) rfl (fun ls hl => ?_)
              refine lv_iconst (v := (0 : Int32)) hx hb dX3_bringSkills_87 (by decide) ?_
              refine lv_istore (lv' := [(4, .int (0 : Int32)), (2, .int (0 : Int32)), (0, .ref h0), (1, .ref h1), (3, .int x3_75)]) hx hb dX3_bringSkills_88 hl (by decide) rfl (fun ls hl => ?_)
              obtain ⟨K133, hK133, hm⟩ := mt_jx hm
              have J133 : ∀ (x2_133 : Int32) (x4_133 : Int32) (v_skills_133 : Nat → Int32), ∀ (H : Heap) (locs : List Loc) (ls : Array Slot), K133 x2_133 x4_133 v_skills_133 = some q → va_P (dC, dI) vwCl [(h0, .inr (3, [.ref h0_metres, .ref h0_skills])), (h0_metres, .inl (cI, 21, .inl v_metres)), (h0_skills, .inl (cI, 21, .inl v_skills_133)), (h1, .inr (5, [.ref h1_had, .ref h1_there, .ref h1_corner, .ref h1_second, .ref h1_third, .int a1_seed, .int a1_size, .int a1_parts])), (h1_had, .inl (cZ, 62, .inl a1_had)), (h1_there, .inl (cZ, 62, .inl a1_there)), (h1_corner, .inl (cI, 62, .inl a1_corner)), (h1_second, .inl (cI, 62, .inl a1_second)), (h1_third, .inl (cI, 62, .inl a1_third))] H → va_D A [(h0, .inr (3, [.ref h0_metres, .ref h0_skills])), (h0_metres, .inl (cI, 21, .inl v_metres)), (h0_skills, .inl (cI, 21, .inl v_skills_133)), (h1, .inr (5, [.ref h1_had, .ref h1_there, .ref h1_corner, .ref h1_second, .ref h1_third, .int a1_seed, .int a1_size, .int a1_parts])), (h1_had, .inl (cZ, 62, .inl a1_had)), (h1_there, .inl (cZ, 62, .inl a1_there)), (h1_corner, .inl (cI, 62, .inl a1_corner)), (h1_second, .inl (cI, 62, .inl a1_second)), (h1_third, .inl (cI, 62, .inl a1_third))] → va_S A s.heap H locs → lv_has ls 5 [(0, .ref h0), (1, .ref h1), (2, .int x2_133), (3, .int x3_75), (4, .int x4_133)] → W p l e (headSpec wsX3_bringSkills ({ frames := 2, cells := 0, slots := 0, locals := 43 })).room s m [.ref h0, .ref h1].toArray below meth c H locs 0 0 (MQ below (va_Qv (fun (_ : Unit) => True) (fun _ t => va_P (dC, dI) vwCl [(h0, .inr (3, [.ref h0_metres, .ref h0_skills])), (h0_metres, .inl (cI, 21, .inl v_metres)), (h0_skills, .inl (cI, 21, .inl q)), (h1, .inr (5, [.ref h1_had, .ref h1_there, .ref h1_corner, .ref h1_second, .ref h1_third, .int a1_seed, .int a1_size, .int a1_parts])), (h1_had, .inl (cZ, 62, .inl a1_had)), (h1_there, .inl (cZ, 62, .inl a1_there)), (h1_corner, .inl (cI, 62, .inl a1_corner)), (h1_second, .inl (cI, 62, .inl a1_second)), (h1_third, .inl (cI, 62, .inl a1_third))] t.heap ∧ va_D A [(h0, .inr (3, [.ref h0_metres, .ref h0_skills])), (h0_metres, .inl (cI, 21, .inl v_metres)), (h0_skills, .inl (cI, 21, .inl q)), (h1, .inr (5, [.ref h1_had, .ref h1_there, .ref h1_corner, .ref h1_second, .ref h1_third, .int a1_seed, .int a1_size, .int a1_parts])), (h1_had, .inl (cZ, 62, .inl a1_had)), (h1_there, .inl (cZ, 62, .inl a1_there)), (h1_corner, .inl (cI, 62, .inl a1_corner)), (h1_second, .inl (cI, 62, .inl a1_second)), (h1_third, .inl (cI, 62, .inl a1_third))]) A) [.ref h0, .ref h1].toArray s 0 0 A) (F0 m 133 ls []) := by
                intro x2_133 x4_133 v_skills_133 H locs ls hm hP hD hS hl
                replace hm := mt_app3 hK133 hm
                refine lv_iinc (v := (x3_75 + (1 : Int32))) (lv' := [(3, .int (x3_75 + (1 : Int32))), (0, .ref h0), (1, .ref h1), (2, .int x2_133), (4, .int x4_133)]) hx hb dX3_bringSkills_133 hl (k := 3) rfl rfl (by decide) rfl (fun ls hl => ?_)
                refine lv_goto (tgt := 75) hx hb dX3_bringSkills_136 (by decide) ?_
                exact ih75 x2_133 (x3_75 + (1 : Int32)) v_skills_133 _ _ _ hm hP hD hS (lv_sub hl [1, 2, 3, 0] rfl)
              have L90 : ∀ n90 : Nat, ∀ (x2_90 : Int32) (x4_90 : Int32) (v_skills_90 : Nat → Int32), ∀ (H : Heap) (locs : List Loc) (ls : Array Slot), m_X3_bringSkills_L90 a1_there a1_corner a1_second K133 n90 x2_90 x4_90 v_skills_90 = some q → va_P (dC, dI) vwCl [(h0, .inr (3, [.ref h0_metres, .ref h0_skills])), (h0_metres, .inl (cI, 21, .inl v_metres)), (h0_skills, .inl (cI, 21, .inl v_skills_90)), (h1, .inr (5, [.ref h1_had, .ref h1_there, .ref h1_corner, .ref h1_second, .ref h1_third, .int a1_seed, .int a1_size, .int a1_parts])), (h1_had, .inl (cZ, 62, .inl a1_had)), (h1_there, .inl (cZ, 62, .inl a1_there)), (h1_corner, .inl (cI, 62, .inl a1_corner)), (h1_second, .inl (cI, 62, .inl a1_second)), (h1_third, .inl (cI, 62, .inl a1_third))] H → va_D A [(h0, .inr (3, [.ref h0_metres, .ref h0_skills])), (h0_metres, .inl (cI, 21, .inl v_metres)), (h0_skills, .inl (cI, 21, .inl v_skills_90)), (h1, .inr (5, [.ref h1_had, .ref h1_there, .ref h1_corner, .ref h1_second, .ref h1_third, .int a1_seed, .int a1_size, .int a1_parts])), (h1_had, .inl (cZ, 62, .inl a1_had)), (h1_there, .inl (cZ, 62, .inl a1_there)), (h1_corner, .inl (cI, 62, .inl a1_corner)), (h1_second, .inl (cI, 62, .inl a1_second)), (h1_third, .inl (cI, 62, .inl a1_third))] → va_S A s.heap H locs → lv_has ls 5 [(0, .ref h0), (1, .ref h1), (2, .int x2_90), (3, .int x3_75), (4, .int x4_90)] → W p l e (headSpec wsX3_bringSkills ({ frames := 2, cells := 0, slots := 0, locals := 43 })).room s m [.ref h0, .ref h1].toArray below meth c H locs 0 0 (MQ below (va_Qv (fun (_ : Unit) => True) (fun _ t => va_P (dC, dI) vwCl [(h0, .inr (3, [.ref h0_metres, .ref h0_skills])), (h0_metres, .inl (cI, 21, .inl v_metres)), (h0_skills, .inl (cI, 21, .inl q)), (h1, .inr (5, [.ref h1_had, .ref h1_there, .ref h1_corner, .ref h1_second, .ref h1_third, .int a1_seed, .int a1_size, .int a1_parts])), (h1_had, .inl (cZ, 62, .inl a1_had)), (h1_there, .inl (cZ, 62, .inl a1_there)), (h1_corner, .inl (cI, 62, .inl a1_corner)), (h1_second, .inl (cI, 62, .inl a1_second)), (h1_third, .inl (cI, 62, .inl a1_third))] t.heap ∧ va_D A [(h0, .inr (3, [.ref h0_metres, .ref h0_skills])), (h0_metres, .inl (cI, 21, .inl v_metres)), (h0_skills, .inl (cI, 21, .inl q)), (h1, .inr (5, [.ref h1_had, .ref h1_there, .ref h1_corner, .ref h1_second, .ref h1_third, .int a1_seed, .int a1_size, .int a1_parts])), (h1_had, .inl (cZ, 62, .inl a1_had)), (h1_there, .inl (cZ, 62, .inl a1_there)), (h1_corner, .inl (cI, 62, .inl a1_corner)), (h1_second, .inl (cI, 62, .inl a1_second)), (h1_third, .inl (cI, 62, .inl a1_third))]) A) [.ref h0, .ref h1].toArray s 0 0 A) (F0 m 90 ls []) := by
                intro n90
                induction n90 with
                | zero =>
                  intro x2_90 x4_90 v_skills_90 H locs ls hm hP hD hS hl
                  exact absurd hm (fun h => nomatch h)
                | succ n90 ih90 =>
                  intro x2_90 x4_90 v_skills_90 H locs ls hm hP hD hS hl
                  rw [m_X3_bringSkills_L90] at hm
                  refine lv_iload hx hb dX3_bringSkills_90 (lv_at hl 4 rfl) ?_
                  refine lv_bipush (v := (30 : Int32)) hx hb dX3_bringSkills_92 (by decide) ?_
                  refine lv_icmp_ge (tgt := 133) hx hb dX3_bringSkills_94 (by decide) (fun c3 => ?_) (fun c3 => ?_)
                  · replace hm := mt_pos c3 hm
                    exact J133 x2_90 x4_90 v_skills_90 _ _ _ hm hP hD hS (lv_sub hl [0, 1, 2, 3, 4] rfl)
                  · replace hm := mt_neg c3 hm
                    refine lv_aload_n hx hb dX3_bringSkills_97 rfl (lv_at hl 1 rfl) ?_
                    refine lv_iload hx hb dX3_bringSkills_98 (lv_at hl 4 rfl) ?_
                    obtain ⟨q4, hq4, hm⟩ := mt_bind hm
                    refine vp_callSi (va_Run.run (va_runV (As := [.int x4_90]) (rest := []) ⟨hx, hb, hml, hown, hts⟩ (c_X5_isThere l dC dI cZ cI cL h1 h1_had h1_there h1_corner h1_second h1_third x4_90 a1_seed a1_size a1_parts a1_had a1_there a1_corner a1_second a1_third q4 hq4) (cwV 1 hts gX3_bringSkills_X5_isThere rfl rfl rfl (by decide +kernel) ⟨Nat.le_of_ble_eq_true rfl, Nat.le_of_ble_eq_true rfl⟩) (mt_vR (q := (RX5, TX5, 8)) 5 hC (hP.sub (ws' := [(h1, .inr (5, [.ref h1_had, .ref h1_there, .ref h1_corner, .ref h1_second, .ref h1_third, .int a1_seed, .int a1_size, .int a1_parts])), (h1_had, .inl (cZ, 62, .inl a1_had)), (h1_there, .inl (cZ, 62, .inl a1_there)), (h1_corner, .inl (cI, 62, .inl a1_corner)), (h1_second, .inl (cI, 62, .inl a1_second)), (h1_third, .inl (cI, 62, .inl a1_third))]) [3, 4, 5, 6, 7, 8] rfl) rfl rfl) rfl rfl hl.1 rfl (lv_room (Nat.le_of_ble_eq_true rfl)) dX3_bringSkills_100 ⟨Nat.le_of_ble_eq_true rfl, Nat.le_of_ble_eq_true rfl⟩)) (fun r er => ?_)
                    replace er := er.symm
                    subst er
                    refine lv_if_eq (tgt := 127) hx hb dX3_bringSkills_103 (by decide) (fun c5 => ?_) (fun c5 => ?_)
                    · replace hm := mt_pos c5 hm
                      refine lv_iinc (v := (x4_90 + (1 : Int32))) (lv' := [(4, .int (x4_90 + (1 : Int32))), (0, .ref h0), (1, .ref h1), (2, .int x2_90), (3, .int x3_75)]) hx hb dX3_bringSkills_127 hl (k := 4) rfl rfl (by decide) rfl (fun ls hl => ?_)
                      refine lv_goto (tgt := 90) hx hb dX3_bringSkills_130 (by decide) ?_
                      exact ih90 x2_90 (x4_90 + (1 : Int32)) v_skills_90 _ _ _ hm hP hD hS (lv_sub hl [1, 2, 3, 4, 0] rfl)
                    · replace hm := mt_neg c5 hm
                      refine lv_aload_n hx hb dX3_bringSkills_106 rfl (lv_at hl 0 rfl) ?_
                      refine lv_aload_n hx hb dX3_bringSkills_107 rfl (lv_at hl 1 rfl) ?_
                      refine lv_iload hx hb dX3_bringSkills_108 (lv_at hl 4 rfl) ?_
                      obtain ⟨q6, hq6, hm⟩ := mt_bind hm
                      refine vp_callSi (va_Run.run (va_runV (As := [.int x4_90]) (rest := [.ref h0]) ⟨hx, hb, hml, hown, hts⟩ (c_X5_cornerOf l dC dI cZ cI cL h1 h1_had h1_there h1_corner h1_second h1_third x4_90 a1_seed a1_size a1_parts a1_had a1_there a1_corner a1_second a1_third q6 hq6) (cwV 1 hts gX3_bringSkills_X5_cornerOf rfl rfl rfl (by decide +kernel) ⟨Nat.le_of_ble_eq_true rfl, Nat.le_of_ble_eq_true rfl⟩) (mt_vR (q := (RX5, TX5, 8)) 5 hC (hP.sub (ws' := [(h1, .inr (5, [.ref h1_had, .ref h1_there, .ref h1_corner, .ref h1_second, .ref h1_third, .int a1_seed, .int a1_size, .int a1_parts])), (h1_had, .inl (cZ, 62, .inl a1_had)), (h1_there, .inl (cZ, 62, .inl a1_there)), (h1_corner, .inl (cI, 62, .inl a1_corner)), (h1_second, .inl (cI, 62, .inl a1_second)), (h1_third, .inl (cI, 62, .inl a1_third))]) [3, 4, 5, 6, 7, 8] rfl) rfl rfl) rfl rfl hl.1 rfl (lv_room (Nat.le_of_ble_eq_true rfl)) dX3_bringSkills_110 ⟨Nat.le_of_ble_eq_true rfl, Nat.le_of_ble_eq_true rfl⟩)) (fun r er => ?_)
                      replace er := er.symm
                      subst er
                      refine lv_aload_n hx hb dX3_bringSkills_113 rfl (lv_at hl 1 rfl) ?_
                      refine lv_iload hx hb dX3_bringSkills_114 (lv_at hl 4 rfl) ?_
                      obtain ⟨q7, hq7, hm⟩ := mt_bind hm
                      refine vp_callSi (va_Run.run (va_runV (As := [.int x4_90]) (rest := [.int q6, .ref h0]) ⟨hx, hb, hml, hown, hts⟩ (c_X5_secondOf l dC dI cZ cI cL h1 h1_had h1_there h1_corner h1_second h1_third x4_90 a1_seed a1_size a1_parts a1_had a1_there a1_corner a1_second a1_third q7 hq7) (cwV 1 hts gX3_bringSkills_X5_secondOf rfl rfl rfl (by decide +kernel) ⟨Nat.le_of_ble_eq_true rfl, Nat.le_of_ble_eq_true rfl⟩) (mt_vR (q := (RX5, TX5, 8)) 5 hC (hP.sub (ws' := [(h1, .inr (5, [.ref h1_had, .ref h1_there, .ref h1_corner, .ref h1_second, .ref h1_third, .int a1_seed, .int a1_size, .int a1_parts])), (h1_had, .inl (cZ, 62, .inl a1_had)), (h1_there, .inl (cZ, 62, .inl a1_there)), (h1_corner, .inl (cI, 62, .inl a1_corner)), (h1_second, .inl (cI, 62, .inl a1_second)), (h1_third, .inl (cI, 62, .inl a1_third))]) [3, 4, 5, 6, 7, 8] rfl) rfl rfl) rfl rfl hl.1 rfl (lv_room (Nat.le_of_ble_eq_true rfl)) dX3_bringSkills_116 ⟨Nat.le_of_ble_eq_true rfl, Nat.le_of_ble_eq_true rfl⟩)) (fun r er => ?_)
                      replace er := er.symm
                      subst er
                      obtain ⟨q8, hq8, hm⟩ := mt_bind hm
                      refine mt_calli (wr := [(h1, .inr (5, [.ref h1_had, .ref h1_there, .ref h1_corner, .ref h1_second, .ref h1_third, .int a1_seed, .int a1_size, .int a1_parts])), (h1_had, .inl (cZ, 62, .inl a1_had)), (h1_there, .inl (cZ, 62, .inl a1_there)), (h1_corner, .inl (cI, 62, .inl a1_corner)), (h1_second, .inl (cI, 62, .inl a1_second)), (h1_third, .inl (cI, 62, .inl a1_third))]) hP hD hS hA [0, 1, 2] [3, 4, 5, 6, 7, 8] rfl rfl (by decide) (by decide) (va_runV (As := [.int q6, .int q7]) (rest := []) ⟨hx, hb, hml, hown, hts⟩ (c_X3_share l dC dI cZ cI cL h0 h0_metres h0_skills H.size q6 q7 v_metres v_skills_90 q8 hq8) (cwV 2 hts gX3_bringSkills_X3_share rfl rfl rfl (by decide +kernel) ⟨Nat.le_of_ble_eq_true rfl, Nat.le_of_ble_eq_true rfl⟩) (mt_vS (q := (RX3, TX3, 2)) 3 hC (hP.sub (ws' := [(h0, .inr (3, [.ref h0_metres, .ref h0_skills])), (h0_metres, .inl (cI, 21, .inl v_metres)), (h0_skills, .inl (cI, 21, .inl v_skills_90))]) [0, 1, 2] rfl) (hD.sub (ws' := [(h0, .inr (3, [.ref h0_metres, .ref h0_skills])), (h0_metres, .inl (cI, 21, .inl v_metres)), (h0_skills, .inl (cI, 21, .inl v_skills_90))]) [0, 1, 2] (by decide) rfl) rfl rfl) rfl rfl hl.1 rfl (lv_room (Nat.le_of_ble_eq_true rfl)) dX3_bringSkills_119 ⟨Nat.le_of_ble_eq_true rfl, Nat.le_of_ble_eq_true rfl⟩) (fun H locs hP hD hS => ?_)
                      have hP : va_P (dC, dI) vwCl [(h0, .inr (3, [.ref h0_metres, .ref h0_skills])), (h0_metres, .inl (cI, 21, .inl v_metres)), (h0_skills, .inl (cI, 21, .inl q8.2)), (h1, .inr (5, [.ref h1_had, .ref h1_there, .ref h1_corner, .ref h1_second, .ref h1_third, .int a1_seed, .int a1_size, .int a1_parts])), (h1_had, .inl (cZ, 62, .inl a1_had)), (h1_there, .inl (cZ, 62, .inl a1_there)), (h1_corner, .inl (cI, 62, .inl a1_corner)), (h1_second, .inl (cI, 62, .inl a1_second)), (h1_third, .inl (cI, 62, .inl a1_third))] H := hP.sub [6, 7, 8, 0, 1, 2, 3, 4, 5] rfl
                      have hD : va_D A [(h0, .inr (3, [.ref h0_metres, .ref h0_skills])), (h0_metres, .inl (cI, 21, .inl v_metres)), (h0_skills, .inl (cI, 21, .inl q8.2)), (h1, .inr (5, [.ref h1_had, .ref h1_there, .ref h1_corner, .ref h1_second, .ref h1_third, .int a1_seed, .int a1_size, .int a1_parts])), (h1_had, .inl (cZ, 62, .inl a1_had)), (h1_there, .inl (cZ, 62, .inl a1_there)), (h1_corner, .inl (cI, 62, .inl a1_corner)), (h1_second, .inl (cI, 62, .inl a1_second)), (h1_third, .inl (cI, 62, .inl a1_third))] := hD.sub [6, 7, 8, 0, 1, 2, 3, 4, 5] (by decide) rfl
                      refine lv_if_eq (tgt := 127) hx hb dX3_bringSkills_122 (by decide) (fun c9 => ?_) (fun c9 => ?_)
                      · replace hm := mt_pos c9 hm
                        refine lv_iinc (v := (x4_90 + (1 : Int32))) (lv' := [(4, .int (x4_90 + (1 : Int32))), (0, .ref h0), (1, .ref h1), (2, .int x2_90), (3, .int x3_75)]) hx hb dX3_bringSkills_127 hl (k := 4) rfl rfl (by decide) rfl (fun ls hl => ?_)
                        refine lv_goto (tgt := 90) hx hb dX3_bringSkills_130 (by decide) ?_
                        exact ih90 x2_90 (x4_90 + (1 : Int32)) q8.2 _ _ _ hm hP hD hS (lv_sub hl [1, 2, 3, 4, 0] rfl)
                      · replace hm := mt_neg c9 hm
                        refine lv_iconst (v := (1 : Int32)) hx hb dX3_bringSkills_125 (by decide) ?_
                        refine lv_istore_n (lv' := [(2, .int (1 : Int32)), (0, .ref h0), (1, .ref h1), (3, .int x3_75), (4, .int x4_90)]) hx hb dX3_bringSkills_126 rfl hl (by decide) rfl (fun ls hl => ?_)
                        refine lv_iinc (v := (x4_90 + (1 : Int32))) (lv' := [(4, .int (x4_90 + (1 : Int32))), (2, .int (1 : Int32)), (0, .ref h0), (1, .ref h1), (3, .int x3_75)]) hx hb dX3_bringSkills_127 hl (k := 4) rfl rfl (by decide) rfl (fun ls hl => ?_)
                        refine lv_goto (tgt := 90) hx hb dX3_bringSkills_130 (by decide) ?_
                        exact ih90 (1 : Int32) (x4_90 + (1 : Int32)) q8.2 _ _ _ hm hP hD hS (lv_sub hl [2, 3, 1, 4, 0] rfl)
              exact L90 fu (0 : Int32) (0 : Int32) v_skills_75 _ _ _ hm hP hD hS (lv_sub hl [2, 3, 1, 4, 0] rfl)
      exact L75 fu (1 : Int32) (0 : Int32) v_skills_71 _ _ _ hm hP hD hS (lv_sub hl [2, 3, 1, 0] rfl)
    have L24 : ∀ n24 : Nat, ∀ (x2_24 : Int32) (v_skills_24 : Nat → Int32), ∀ (H : Heap) (locs : List Loc) (ls : Array Slot), m_X3_bringSkills_L24 a1_there a1_corner a1_second K71 n24 x2_24 v_skills_24 = some q → va_P (dC, dI) vwCl [(h0, .inr (3, [.ref h0_metres, .ref h0_skills])), (h0_metres, .inl (cI, 21, .inl v_metres)), (h0_skills, .inl (cI, 21, .inl v_skills_24)), (h1, .inr (5, [.ref h1_had, .ref h1_there, .ref h1_corner, .ref h1_second, .ref h1_third, .int a1_seed, .int a1_size, .int a1_parts])), (h1_had, .inl (cZ, 62, .inl a1_had)), (h1_there, .inl (cZ, 62, .inl a1_there)), (h1_corner, .inl (cI, 62, .inl a1_corner)), (h1_second, .inl (cI, 62, .inl a1_second)), (h1_third, .inl (cI, 62, .inl a1_third))] H → va_D A [(h0, .inr (3, [.ref h0_metres, .ref h0_skills])), (h0_metres, .inl (cI, 21, .inl v_metres)), (h0_skills, .inl (cI, 21, .inl v_skills_24)), (h1, .inr (5, [.ref h1_had, .ref h1_there, .ref h1_corner, .ref h1_second, .ref h1_third, .int a1_seed, .int a1_size, .int a1_parts])), (h1_had, .inl (cZ, 62, .inl a1_had)), (h1_there, .inl (cZ, 62, .inl a1_there)), (h1_corner, .inl (cI, 62, .inl a1_corner)), (h1_second, .inl (cI, 62, .inl a1_second)), (h1_third, .inl (cI, 62, .inl a1_third))] → va_S A s.heap H locs → lv_has ls 5 [(0, .ref h0), (1, .ref h1), (2, .int x2_24)] → W p l e (headSpec wsX3_bringSkills ({ frames := 2, cells := 0, slots := 0, locals := 43 })).room s m [.ref h0, .ref h1].toArray below meth c H locs 0 0 (MQ below (va_Qv (fun (_ : Unit) => True) (fun _ t => va_P (dC, dI) vwCl [(h0, .inr (3, [.ref h0_metres, .ref h0_skills])), (h0_metres, .inl (cI, 21, .inl v_metres)), (h0_skills, .inl (cI, 21, .inl q)), (h1, .inr (5, [.ref h1_had, .ref h1_there, .ref h1_corner, .ref h1_second, .ref h1_third, .int a1_seed, .int a1_size, .int a1_parts])), (h1_had, .inl (cZ, 62, .inl a1_had)), (h1_there, .inl (cZ, 62, .inl a1_there)), (h1_corner, .inl (cI, 62, .inl a1_corner)), (h1_second, .inl (cI, 62, .inl a1_second)), (h1_third, .inl (cI, 62, .inl a1_third))] t.heap ∧ va_D A [(h0, .inr (3, [.ref h0_metres, .ref h0_skills])), (h0_metres, .inl (cI, 21, .inl v_metres)), (h0_skills, .inl (cI, 21, .inl q)), (h1, .inr (5, [.ref h1_had, .ref h1_there, .ref h1_corner, .ref h1_second, .ref h1_third, .int a1_seed, .int a1_size, .int a1_parts])), (h1_had, .inl (cZ, 62, .inl a1_had)), (h1_there, .inl (cZ, 62, .inl a1_there)), (h1_corner, .inl (cI, 62, .inl a1_corner)), (h1_second, .inl (cI, 62, .inl a1_second)), (h1_third, .inl (cI, 62, .inl a1_third))]) A) [.ref h0, .ref h1].toArray s 0 0 A) (F0 m 24 ls []) := by
      intro n24
      induction n24 with
      | zero =>
        intro x2_24 v_skills_24 H locs ls hm hP hD hS hl
        exact absurd hm (fun h => nomatch h)
      | succ n24 ih24 =>
        intro x2_24 v_skills_24 H locs ls hm hP hD hS hl
        rw [m_X3_bringSkills_L24] at hm
        refine lv_iload_n hx hb dX3_bringSkills_24 rfl (lv_at hl 2 rfl) ?_
        refine lv_bipush (v := (41 : Int32)) hx hb dX3_bringSkills_25 (by decide) ?_
        refine lv_icmp_ge (tgt := 71) hx hb dX3_bringSkills_27 (by decide) (fun c10 => ?_) (fun c10 => ?_)
        · replace hm := mt_pos c10 hm
          exact J71 x2_24 v_skills_24 _ _ _ hm hP hD hS (lv_sub hl [0, 1, 2] rfl)
        · replace hm := mt_neg c10 hm
          refine lv_aload_n hx hb dX3_bringSkills_30 rfl (lv_at hl 1 rfl) ?_
          refine lv_iload_n hx hb dX3_bringSkills_31 rfl (lv_at hl 2 rfl) ?_
          obtain ⟨q11, hq11, hm⟩ := mt_bind hm
          refine vp_callSi (va_Run.run (va_runV (As := [.int x2_24]) (rest := []) ⟨hx, hb, hml, hown, hts⟩ (c_X5_cornerOf l dC dI cZ cI cL h1 h1_had h1_there h1_corner h1_second h1_third x2_24 a1_seed a1_size a1_parts a1_had a1_there a1_corner a1_second a1_third q11 hq11) (cwV 1 hts gX3_bringSkills_X5_cornerOf rfl rfl rfl (by decide +kernel) ⟨Nat.le_of_ble_eq_true rfl, Nat.le_of_ble_eq_true rfl⟩) (mt_vR (q := (RX5, TX5, 8)) 5 hC (hP.sub (ws' := [(h1, .inr (5, [.ref h1_had, .ref h1_there, .ref h1_corner, .ref h1_second, .ref h1_third, .int a1_seed, .int a1_size, .int a1_parts])), (h1_had, .inl (cZ, 62, .inl a1_had)), (h1_there, .inl (cZ, 62, .inl a1_there)), (h1_corner, .inl (cI, 62, .inl a1_corner)), (h1_second, .inl (cI, 62, .inl a1_second)), (h1_third, .inl (cI, 62, .inl a1_third))]) [3, 4, 5, 6, 7, 8] rfl) rfl rfl) rfl rfl hl.1 rfl (lv_room (Nat.le_of_ble_eq_true rfl)) dX3_bringSkills_32 ⟨Nat.le_of_ble_eq_true rfl, Nat.le_of_ble_eq_true rfl⟩)) (fun r er => ?_)
          replace er := er.symm
          subst er
          refine lv_istore_n (lv' := [(3, .int q11), (0, .ref h0), (1, .ref h1), (2, .int x2_24)]) hx hb dX3_bringSkills_35 rfl hl (by decide) rfl (fun ls hl => ?_)
          refine lv_aload_n hx hb dX3_bringSkills_36 rfl (lv_at hl 2 rfl) ?_
          refine lv_iload_n hx hb dX3_bringSkills_37 rfl (lv_at hl 3 rfl) ?_
          obtain ⟨q12, hq12, hm⟩ := mt_bind hm
          refine vp_callSi (va_Run.run (va_runV (As := [.int x2_24]) (rest := []) ⟨hx, hb, hml, hown, hts⟩ (c_X5_isThere l dC dI cZ cI cL h1 h1_had h1_there h1_corner h1_second h1_third x2_24 a1_seed a1_size a1_parts a1_had a1_there a1_corner a1_second a1_third q12 hq12) (cwV 1 hts gX3_bringSkills_X5_isThere rfl rfl rfl (by decide +kernel) ⟨Nat.le_of_ble_eq_true rfl, Nat.le_of_ble_eq_true rfl⟩) (mt_vR (q := (RX5, TX5, 8)) 5 hC (hP.sub (ws' := [(h1, .inr (5, [.ref h1_had, .ref h1_there, .ref h1_corner, .ref h1_second, .ref h1_third, .int a1_seed, .int a1_size, .int a1_parts])), (h1_had, .inl (cZ, 62, .inl a1_had)), (h1_there, .inl (cZ, 62, .inl a1_there)), (h1_corner, .inl (cI, 62, .inl a1_corner)), (h1_second, .inl (cI, 62, .inl a1_second)), (h1_third, .inl (cI, 62, .inl a1_third))]) [3, 4, 5, 6, 7, 8] rfl) rfl rfl) rfl rfl hl.1 rfl (lv_room (Nat.le_of_ble_eq_true rfl)) dX3_bringSkills_38 ⟨Nat.le_of_ble_eq_true rfl, Nat.le_of_ble_eq_true rfl⟩)) (fun r er => ?_)
          replace er := er.symm
          subst er
          refine lv_if_eq (tgt := 65) hx hb dX3_bringSkills_41 (by decide) (fun c13 => ?_) (fun c13 => ?_)
          · replace hm := mt_pos c13 hm
            refine lv_iinc (v := (x2_24 + (1 : Int32))) (lv' := [(2, .int (x2_24 + (1 : Int32))), (3, .int q11), (0, .ref h0), (1, .ref h1)]) hx hb dX3_bringSkills_65 hl (k := 3) rfl rfl (by decide) rfl (fun ls hl => ?_)
            refine lv_goto (tgt := 24) hx hb dX3_bringSkills_68 (by decide) ?_
            exact ih24 (x2_24 + (1 : Int32)) v_skills_24 _ _ _ hm hP hD hS (lv_sub hl [2, 3, 0] rfl)
          · replace hm := mt_neg c13 hm
            refine lv_iload_n hx hb dX3_bringSkills_44 rfl (lv_at hl 0 rfl) ?_
            obtain ⟨q14, hq14, hm⟩ := mt_bind hm
            refine vp_callSi (va_Run.run (va_runSN (As := [.int q11]) (rest := []) ⟨hx, hb, hml, hown, hts⟩ (c_X6_isCorner l dC dI cZ cI cL q11 q14 hq14) ⟨(va_cnB 1 hts gX3_bringSkills_X6_isCorner_n39 rfl rfl rfl (hC.2.m RX3 39 yX6_isCorner "ServiceDrawer" (by decide +kernel)) (hts (.initialized RX6) (by decide +kernel)) (by decide +kernel) ⟨Nat.le_of_ble_eq_true rfl, Nat.le_of_ble_eq_true rfl⟩), hts (.static yX6_isCorner) (by decide +kernel), trivial⟩ (mt_pR hC (hP.sub (ws' := []) [] rfl)) rfl rfl hl.1 rfl (lv_room (Nat.le_of_ble_eq_true rfl)) dX3_bringSkills_45 ⟨Nat.le_of_ble_eq_true rfl, Nat.le_of_ble_eq_true rfl⟩)) (fun r er => ?_)
            replace er := er.symm
            subst er
            refine lv_if_eq (tgt := 65) hx hb dX3_bringSkills_48 (by decide) (fun c15 => ?_) (fun c15 => ?_)
            · replace hm := mt_pos c15 hm
              refine lv_iinc (v := (x2_24 + (1 : Int32))) (lv' := [(2, .int (x2_24 + (1 : Int32))), (3, .int q11), (0, .ref h0), (1, .ref h1)]) hx hb dX3_bringSkills_65 hl (k := 3) rfl rfl (by decide) rfl (fun ls hl => ?_)
              refine lv_goto (tgt := 24) hx hb dX3_bringSkills_68 (by decide) ?_
              exact ih24 (x2_24 + (1 : Int32)) v_skills_24 _ _ _ hm hP hD hS (lv_sub hl [2, 3, 0] rfl)
            · replace hm := mt_neg c15 hm
              refine lv_aload_n hx hb dX3_bringSkills_51 rfl (lv_at hl 1 rfl) ?_
              refine va_get (D := (dC, dI)) (ci := 3) (v := .ref h0_skills) (C := RX3) (T := TX3) (N := 2) hx hb hts hiX3 hown hK hP 0 rfl rfl 1 (by decide) (hts (.fieldLink RX3 15 "ServiceDrawer$Roads" "skills" "[I") (by decide +kernel)) (fun _ h9 => h9) rfl dX3_bringSkills_52 ?_
              refine lv_iload_n hx hb dX3_bringSkills_55 rfl (lv_at hl 0 rfl) ?_
              refine lv_dup2_11 hx hb dX3_bringSkills_56 rfl rfl ?_
              obtain ⟨g16, hm⟩ := mt_gd hm
              refine va_iald hx hb hK hP 2 1 rfl rfl g16 dX3_bringSkills_57 ?_
              refine lv_aload_n hx hb dX3_bringSkills_58 rfl (lv_at hl 2 rfl) ?_
              refine lv_iload_n hx hb dX3_bringSkills_59 rfl (lv_at hl 3 rfl) ?_
              obtain ⟨q17, hq17, hm⟩ := mt_bind hm
              refine vp_callSi (va_Run.run (va_runV (As := [.int x2_24]) (rest := [.int (v_skills_24 q11.toNatClampNeg), .int q11, .ref h0_skills]) ⟨hx, hb, hml, hown, hts⟩ (c_X5_secondOf l dC dI cZ cI cL h1 h1_had h1_there h1_corner h1_second h1_third x2_24 a1_seed a1_size a1_parts a1_had a1_there a1_corner a1_second a1_third q17 hq17) (cwV 1 hts gX3_bringSkills_X5_secondOf rfl rfl rfl (by decide +kernel) ⟨Nat.le_of_ble_eq_true rfl, Nat.le_of_ble_eq_true rfl⟩) (mt_vR (q := (RX5, TX5, 8)) 5 hC (hP.sub (ws' := [(h1, .inr (5, [.ref h1_had, .ref h1_there, .ref h1_corner, .ref h1_second, .ref h1_third, .int a1_seed, .int a1_size, .int a1_parts])), (h1_had, .inl (cZ, 62, .inl a1_had)), (h1_there, .inl (cZ, 62, .inl a1_there)), (h1_corner, .inl (cI, 62, .inl a1_corner)), (h1_second, .inl (cI, 62, .inl a1_second)), (h1_third, .inl (cI, 62, .inl a1_third))]) [3, 4, 5, 6, 7, 8] rfl) rfl rfl) rfl rfl hl.1 rfl (lv_room (Nat.le_of_ble_eq_true rfl)) dX3_bringSkills_60 ⟨Nat.le_of_ble_eq_true rfl, Nat.le_of_ble_eq_true rfl⟩)) (fun r er => ?_)
              replace er := er.symm
              subst er
              refine lv_ior hx hb dX3_bringSkills_63 ?_
              obtain ⟨g18, hm⟩ := mt_gd hm
              refine va_iast hx hb hK hP hD hS 2 1 rfl rfl g18 dX3_bringSkills_64 (fun H locs hP hD hS => ?_)
              have hP : va_P (dC, dI) vwCl [(h0, .inr (3, [.ref h0_metres, .ref h0_skills])), (h0_metres, .inl (cI, 21, .inl v_metres)), (h0_skills, .inl (cI, 21, .inl (upd v_skills_24 q11.toNatClampNeg ((v_skills_24 q11.toNatClampNeg) ||| q17)))), (h1, .inr (5, [.ref h1_had, .ref h1_there, .ref h1_corner, .ref h1_second, .ref h1_third, .int a1_seed, .int a1_size, .int a1_parts])), (h1_had, .inl (cZ, 62, .inl a1_had)), (h1_there, .inl (cZ, 62, .inl a1_there)), (h1_corner, .inl (cI, 62, .inl a1_corner)), (h1_second, .inl (cI, 62, .inl a1_second)), (h1_third, .inl (cI, 62, .inl a1_third))] H := hP
              have hD : va_D A [(h0, .inr (3, [.ref h0_metres, .ref h0_skills])), (h0_metres, .inl (cI, 21, .inl v_metres)), (h0_skills, .inl (cI, 21, .inl (upd v_skills_24 q11.toNatClampNeg ((v_skills_24 q11.toNatClampNeg) ||| q17)))), (h1, .inr (5, [.ref h1_had, .ref h1_there, .ref h1_corner, .ref h1_second, .ref h1_third, .int a1_seed, .int a1_size, .int a1_parts])), (h1_had, .inl (cZ, 62, .inl a1_had)), (h1_there, .inl (cZ, 62, .inl a1_there)), (h1_corner, .inl (cI, 62, .inl a1_corner)), (h1_second, .inl (cI, 62, .inl a1_second)), (h1_third, .inl (cI, 62, .inl a1_third))] := hD
              refine lv_iinc (v := (x2_24 + (1 : Int32))) (lv' := [(2, .int (x2_24 + (1 : Int32))), (3, .int q11), (0, .ref h0), (1, .ref h1)]) hx hb dX3_bringSkills_65 hl (k := 3) rfl rfl (by decide) rfl (fun ls hl => ?_)
              refine lv_goto (tgt := 24) hx hb dX3_bringSkills_68 (by decide) ?_
              exact ih24 (x2_24 + (1 : Int32)) (upd v_skills_24 q11.toNatClampNeg ((v_skills_24 q11.toNatClampNeg) ||| q17)) _ _ _ hm hP hD hS (lv_sub hl [2, 3, 0] rfl)
    exact L24 fu (30 : Int32) v_skills_21 _ _ _ hm hP hD hS (lv_sub hl [1, 2, 0] rfl)
  have L2 : ∀ n2 : Nat, ∀ (x2_2 : Int32) (v_skills_2 : Nat → Int32), ∀ (H : Heap) (locs : List Loc) (ls : Array Slot), m_X3_bringSkills_L2 K21 n2 x2_2 v_skills_2 = some q → va_P (dC, dI) vwCl [(h0, .inr (3, [.ref h0_metres, .ref h0_skills])), (h0_metres, .inl (cI, 21, .inl v_metres)), (h0_skills, .inl (cI, 21, .inl v_skills_2)), (h1, .inr (5, [.ref h1_had, .ref h1_there, .ref h1_corner, .ref h1_second, .ref h1_third, .int a1_seed, .int a1_size, .int a1_parts])), (h1_had, .inl (cZ, 62, .inl a1_had)), (h1_there, .inl (cZ, 62, .inl a1_there)), (h1_corner, .inl (cI, 62, .inl a1_corner)), (h1_second, .inl (cI, 62, .inl a1_second)), (h1_third, .inl (cI, 62, .inl a1_third))] H → va_D A [(h0, .inr (3, [.ref h0_metres, .ref h0_skills])), (h0_metres, .inl (cI, 21, .inl v_metres)), (h0_skills, .inl (cI, 21, .inl v_skills_2)), (h1, .inr (5, [.ref h1_had, .ref h1_there, .ref h1_corner, .ref h1_second, .ref h1_third, .int a1_seed, .int a1_size, .int a1_parts])), (h1_had, .inl (cZ, 62, .inl a1_had)), (h1_there, .inl (cZ, 62, .inl a1_there)), (h1_corner, .inl (cI, 62, .inl a1_corner)), (h1_second, .inl (cI, 62, .inl a1_second)), (h1_third, .inl (cI, 62, .inl a1_third))] → va_S A s.heap H locs → lv_has ls 5 [(0, .ref h0), (1, .ref h1), (2, .int x2_2)] → W p l e (headSpec wsX3_bringSkills ({ frames := 2, cells := 0, slots := 0, locals := 43 })).room s m [.ref h0, .ref h1].toArray below meth c H locs 0 0 (MQ below (va_Qv (fun (_ : Unit) => True) (fun _ t => va_P (dC, dI) vwCl [(h0, .inr (3, [.ref h0_metres, .ref h0_skills])), (h0_metres, .inl (cI, 21, .inl v_metres)), (h0_skills, .inl (cI, 21, .inl q)), (h1, .inr (5, [.ref h1_had, .ref h1_there, .ref h1_corner, .ref h1_second, .ref h1_third, .int a1_seed, .int a1_size, .int a1_parts])), (h1_had, .inl (cZ, 62, .inl a1_had)), (h1_there, .inl (cZ, 62, .inl a1_there)), (h1_corner, .inl (cI, 62, .inl a1_corner)), (h1_second, .inl (cI, 62, .inl a1_second)), (h1_third, .inl (cI, 62, .inl a1_third))] t.heap ∧ va_D A [(h0, .inr (3, [.ref h0_metres, .ref h0_skills])), (h0_metres, .inl (cI, 21, .inl v_metres)), (h0_skills, .inl (cI, 21, .inl q)), (h1, .inr (5, [.ref h1_had, .ref h1_there, .ref h1_corner, .ref h1_second, .ref h1_third, .int a1_seed, .int a1_size, .int a1_parts])), (h1_had, .inl (cZ, 62, .inl a1_had)), (h1_there, .inl (cZ, 62, .inl a1_there)), (h1_corner, .inl (cI, 62, .inl a1_corner)), (h1_second, .inl (cI, 62, .inl a1_second)), (h1_third, .inl (cI, 62, .inl a1_third))]) A) [.ref h0, .ref h1].toArray s 0 0 A) (F0 m 2 ls []) := by
    intro n2
    induction n2 with
    | zero =>
      intro x2_2 v_skills_2 H locs ls hm hP hD hS hl
      exact absurd hm (fun h => nomatch h)
    | succ n2 ih2 =>
      intro x2_2 v_skills_2 H locs ls hm hP hD hS hl
      rw [m_X3_bringSkills_L2] at hm
      refine lv_iload_n hx hb dX3_bringSkills_2 rfl (lv_at hl 2 rfl) ?_
      refine lv_bipush (v := (21 : Int32)) hx hb dX3_bringSkills_3 (by decide) ?_
      refine lv_icmp_ge (tgt := 21) hx hb dX3_bringSkills_5 (by decide) (fun c19 => ?_) (fun c19 => ?_)
      · replace hm := mt_pos c19 hm
        exact J21 x2_2 v_skills_2 _ _ _ hm hP hD hS (lv_sub hl [0, 1, 2] rfl)
      · replace hm := mt_neg c19 hm
        refine lv_aload_n hx hb dX3_bringSkills_8 rfl (lv_at hl 0 rfl) ?_
        refine va_get (D := (dC, dI)) (ci := 3) (v := .ref h0_skills) (C := RX3) (T := TX3) (N := 2) hx hb hts hiX3 hown hK hP 0 rfl rfl 1 (by decide) (hts (.fieldLink RX3 15 "ServiceDrawer$Roads" "skills" "[I") (by decide +kernel)) (fun _ h9 => h9) rfl dX3_bringSkills_9 ?_
        refine lv_iload_n hx hb dX3_bringSkills_12 rfl (lv_at hl 2 rfl) ?_
        refine lv_iconst (v := (0 : Int32)) hx hb dX3_bringSkills_13 (by decide) ?_
        obtain ⟨g20, hm⟩ := mt_gd hm
        refine va_iast hx hb hK hP hD hS 2 1 rfl rfl g20 dX3_bringSkills_14 (fun H locs hP hD hS => ?_)
        have hP : va_P (dC, dI) vwCl [(h0, .inr (3, [.ref h0_metres, .ref h0_skills])), (h0_metres, .inl (cI, 21, .inl v_metres)), (h0_skills, .inl (cI, 21, .inl (upd v_skills_2 x2_2.toNatClampNeg (0 : Int32)))), (h1, .inr (5, [.ref h1_had, .ref h1_there, .ref h1_corner, .ref h1_second, .ref h1_third, .int a1_seed, .int a1_size, .int a1_parts])), (h1_had, .inl (cZ, 62, .inl a1_had)), (h1_there, .inl (cZ, 62, .inl a1_there)), (h1_corner, .inl (cI, 62, .inl a1_corner)), (h1_second, .inl (cI, 62, .inl a1_second)), (h1_third, .inl (cI, 62, .inl a1_third))] H := hP
        have hD : va_D A [(h0, .inr (3, [.ref h0_metres, .ref h0_skills])), (h0_metres, .inl (cI, 21, .inl v_metres)), (h0_skills, .inl (cI, 21, .inl (upd v_skills_2 x2_2.toNatClampNeg (0 : Int32)))), (h1, .inr (5, [.ref h1_had, .ref h1_there, .ref h1_corner, .ref h1_second, .ref h1_third, .int a1_seed, .int a1_size, .int a1_parts])), (h1_had, .inl (cZ, 62, .inl a1_had)), (h1_there, .inl (cZ, 62, .inl a1_there)), (h1_corner, .inl (cI, 62, .inl a1_corner)), (h1_second, .inl (cI, 62, .inl a1_second)), (h1_third, .inl (cI, 62, .inl a1_third))] := hD
        refine lv_iinc (v := (x2_2 + (1 : Int32))) (lv' := [(2, .int (x2_2 + (1 : Int32))), (0, .ref h0), (1, .ref h1)]) hx hb dX3_bringSkills_15 hl (k := 2) rfl rfl (by decide) rfl (fun ls hl => ?_)
        refine lv_goto (tgt := 2) hx hb dX3_bringSkills_18 (by decide) ?_
        exact ih2 (x2_2 + (1 : Int32)) (upd v_skills_2 x2_2.toNatClampNeg (0 : Int32)) _ _ _ hm hP hD hS (lv_sub hl [1, 2, 0] rfl)
  exact L2 fu (0 : Int32) v_skills _ _ _ hm hP hD hS (lv_sub hl [1, 2, 0] rfl)
def m_X3_skillComesTo (p1 : Int32) (p2 : Int32) (v_skills : Nat → Int32) : Option (Int32) := (m_X6_isCorner p1).bind fun q1 => if q1 = 0 then some (0 : Int32) else if (¬ (p1 < 0 ∨ 21 ≤ p1.toNatClampNeg)) then if (((v_skills p1.toNatClampNeg) >>> (p2 &&& 31)) &&& (1 : Int32)) = (1 : Int32) then some (1 : Int32) else some (0 : Int32) else none
set_option maxHeartbeats 4000000 in
set_option maxRecDepth 100000 in
theorem c_X3_skillComesTo (l : Launch) (dC : Nat → ClassId) (dI : Nat → Nat → Nat) (cZ cI cL : ClassId) (h0 h0_metres h0_skills : Nat) (p1 : Int32) (p2 : Int32) (v_metres : Nat → Int32) (v_skills : Nat → Int32) (q : Int32) (hm : m_X3_skillComesTo p1 p2 v_skills = some q) : Met l yX3_skillComesTo wsX3_skillComesTo ({ frames := 1, cells := 0, slots := 0, locals := 20 }) (va_Pc [.ref h0, .int p1, .int p2] (mt_R (dC, dI) cZ cI cL [(h0, .inr (3, [.ref h0_metres, .ref h0_skills])), (h0_metres, .inl (cI, 21, .inl v_metres)), (h0_skills, .inl (cI, 21, .inl v_skills))])) (vp_Si (fun r => r = q)) 0 0 (fun _ => False) := by
  refine Met.ofW (cc := cX3_skillComesTo) (maxL := 3) (ret := (some .boolean)) (by decide) rfl ?_
  intro p e s m args below meth c s₁ B hml hv
  obtain ⟨rfl, hP, hC⟩ := hv
  have hx := B.exec
  have hb := B.bytes
  have hr := B.returns
  have hts := atoms_spec (ws := wsX3_skillComesTo) B.pre
  have hown : s.vm.findClass RX3 = some m.cls := findClass_of_methodNamed B.named
  have hlocks := B.notSynchronized
  have hK := hC.1
  have hiX3 : ∀ w ∈ wsX30, w ∈ wsX3_skillComesTo := by decide +kernel
  have hl := lv_entry [.ref h0, .int p1, .int p2] (n := 3) (Nat.le_of_ble_eq_true rfl)
  rw [lg_entry_eq]
  generalize (lg_sl [.ref h0, .int p1, .int p2] ++ List.replicate (3 - (lg_sl [.ref h0, .int p1, .int p2]).length) Slot.unset).toArray = ls at hl ⊢
  have hl : lv_has ls 3 [(0, .ref h0), (1, .int p1), (2, .int p2)] := hl
  rw [m_X3_skillComesTo] at hm
  refine lv_iload_n hx hb dX3_skillComesTo_0 rfl (lv_at hl 1 rfl) ?_
  obtain ⟨q1, hq1, hm⟩ := mt_bind hm
  refine vp_callSi (va_Run.run (va_runSN (As := [.int p1]) (rest := []) ⟨hx, hb, hml, hown, hts⟩ (c_X6_isCorner l dC dI cZ cI cL p1 q1 hq1) ⟨(va_cnB 1 hts gX3_skillComesTo_X6_isCorner_n39 rfl rfl rfl (hC.2.m RX3 39 yX6_isCorner "ServiceDrawer" (by decide +kernel)) (hts (.initialized RX6) (by decide +kernel)) (by decide +kernel) ⟨Nat.le_of_ble_eq_true rfl, Nat.le_of_ble_eq_true rfl⟩), hts (.static yX6_isCorner) (by decide +kernel), trivial⟩ (mt_pR hC (hP.sub (ws' := []) [] rfl)) rfl rfl hl.1 rfl (lv_room (Nat.le_of_ble_eq_true rfl)) dX3_skillComesTo_1 ⟨Nat.le_of_ble_eq_true rfl, Nat.le_of_ble_eq_true rfl⟩)) (fun r er => ?_)
  replace er := er.symm
  subst er
  refine lv_if_eq (tgt := 25) hx hb dX3_skillComesTo_4 (by decide) (fun c2 => ?_) (fun c2 => ?_)
  · replace hm := mt_pos c2 hm
    refine lv_iconst (v := (0 : Int32)) hx hb dX3_skillComesTo_25 (by decide) ?_
    obtain rfl := Option.some.inj hm
    exact W.zret hx hb hr mt_z0 (fun t ht hW => ⟨_, rfl, rfl, ht⟩) t_nil dX3_skillComesTo_26
  · replace hm := mt_neg c2 hm
    refine lv_aload_n hx hb dX3_skillComesTo_7 rfl (lv_at hl 0 rfl) ?_
    refine va_get (D := (dC, dI)) (ci := 3) (v := .ref h0_skills) (C := RX3) (T := TX3) (N := 2) hx hb hts hiX3 hown hK hP 0 rfl rfl 1 (by decide) (hts (.fieldLink RX3 15 "ServiceDrawer$Roads" "skills" "[I") (by decide +kernel)) (fun _ h9 => h9) rfl dX3_skillComesTo_8 ?_
    refine lv_iload_n hx hb dX3_skillComesTo_11 rfl (lv_at hl 1 rfl) ?_
    obtain ⟨g3, hm⟩ := mt_gd hm
    refine va_iald hx hb hK hP 2 1 rfl rfl g3 dX3_skillComesTo_12 ?_
    refine lv_iload_n hx hb dX3_skillComesTo_13 rfl (lv_at hl 2 rfl) ?_
    refine lv_ishr hx hb dX3_skillComesTo_14 ?_
    refine lv_iconst (v := (1 : Int32)) hx hb dX3_skillComesTo_15 (by decide) ?_
    refine lv_iand hx hb dX3_skillComesTo_16 ?_
    refine lv_iconst (v := (1 : Int32)) hx hb dX3_skillComesTo_17 (by decide) ?_
    refine lv_icmp_ne (tgt := 25) hx hb dX3_skillComesTo_18 (by decide) (fun c4 => ?_) (fun c4 => ?_)
    · replace hm := mt_neg c4 hm
      refine lv_iconst (v := (0 : Int32)) hx hb dX3_skillComesTo_25 (by decide) ?_
      obtain rfl := Option.some.inj hm
      exact W.zret hx hb hr mt_z0 (fun t ht hW => ⟨_, rfl, rfl, ht⟩) t_nil dX3_skillComesTo_26
    · replace hm := mt_pos c4 hm
      refine lv_iconst (v := (1 : Int32)) hx hb dX3_skillComesTo_21 (by decide) ?_
      refine lv_goto (tgt := 26) hx hb dX3_skillComesTo_22 (by decide) ?_
      obtain rfl := Option.some.inj hm
      exact W.zret hx hb hr mt_z1 (fun t ht hW => ⟨_, rfl, rfl, ht⟩) t_nil dX3_skillComesTo_26
def m_X0_servedCalls_L13 (a1_there : Nat → Int32) (a1_corner : Nat → Int32) (a1_second : Nat → Int32) (q1 : (Nat → Int32)) (K56 : Int32 → Int32 → Option (Int32 × (Nat → Int32))) : Nat → Int32 → Int32 → Option (Int32 × (Nat → Int32))
  | 0, _, _ => none
  | n13 + 1, x2_13, x3_13 => if (62 : Int32) ≤ x3_13 then K56 x2_13 x3_13 else (m_X5_isThere x3_13 a1_there).bind fun q3 => if q3 = 0 then m_X0_servedCalls_L13 a1_there a1_corner a1_second q1 K56 n13 x2_13 (x3_13 + (1 : Int32)) else (m_X5_cornerOf x3_13 a1_corner).bind fun q5 => (m_X5_secondOf x3_13 a1_second).bind fun q6 => (m_X3_skillComesTo q5 q6 q1).bind fun q7 => if q7 = 0 then m_X0_servedCalls_L13 a1_there a1_corner a1_second q1 K56 n13 x2_13 (x3_13 + (1 : Int32)) else m_X0_servedCalls_L13 a1_there a1_corner a1_second q1 K56 n13 (x2_13 + (1 : Int32)) (x3_13 + (1 : Int32))
def m_X0_servedCalls (fu : Nat) (v_roads_skills : Nat → Int32) (a1_there : Nat → Int32) (a1_corner : Nat → Int32) (a1_second : Nat → Int32) : Option (Int32 × (Nat → Int32)) := (m_X3_bringSkills fu v_roads_skills a1_there a1_corner a1_second).bind fun q1 => mt_j (fun (x2_56 : Int32) (x3_56 : Int32) => some (x2_56, q1)) fun K56 => m_X0_servedCalls_L13 a1_there a1_corner a1_second q1 K56 fu (0 : Int32) (41 : Int32)
set_option maxHeartbeats 4000000 in
set_option maxRecDepth 100000 in
theorem c_X0_servedCalls (l : Launch) (dC : Nat → ClassId) (dI : Nat → Nat → Nat) (cZ cI cL : ClassId) (h0 h0_roads h0_roads_metres h0_roads_skills h1 h1_had h1_there h1_corner h1_second h1_third : Nat) (sz : Nat) (v_roads_metres : Nat → Int32) (v_roads_skills : Nat → Int32) (a1_seed : Int32) (a1_size : Int32) (a1_parts : Int32) (a1_had : Nat → Int32) (a1_there : Nat → Int32) (a1_corner : Nat → Int32) (a1_second : Nat → Int32) (a1_third : Nat → Int32) (fu : Nat) (q : Int32 × (Nat → Int32)) (hm : m_X0_servedCalls fu v_roads_skills a1_there a1_corner a1_second = some q) : Met l yX0_servedCalls wsX0_servedCalls ({ frames := 3, cells := 0, slots := 0, locals := 67 }) (va_Pc [.ref h0, .ref h1] (mt_S (dC, dI) cZ cI cL sz [(h0, .inr (0, [.ref h0_roads])), (h0_roads, .inr (3, [.ref h0_roads_metres, .ref h0_roads_skills])), (h0_roads_metres, .inl (cI, 21, .inl v_roads_metres)), (h0_roads_skills, .inl (cI, 21, .inl v_roads_skills)), (h1, .inr (5, [.ref h1_had, .ref h1_there, .ref h1_corner, .ref h1_second, .ref h1_third, .int a1_seed, .int a1_size, .int a1_parts])), (h1_had, .inl (cZ, 62, .inl a1_had)), (h1_there, .inl (cZ, 62, .inl a1_there)), (h1_corner, .inl (cI, 62, .inl a1_corner)), (h1_second, .inl (cI, 62, .inl a1_second)), (h1_third, .inl (cI, 62, .inl a1_third))])) (va_Qi (fun (r : Int32) (_ : Unit) => r = q.1) (fun _ t => va_P (dC, dI) vwCl [(h0, .inr (0, [.ref h0_roads])), (h0_roads, .inr (3, [.ref h0_roads_metres, .ref h0_roads_skills])), (h0_roads_metres, .inl (cI, 21, .inl v_roads_metres)), (h0_roads_skills, .inl (cI, 21, .inl q.2)), (h1, .inr (5, [.ref h1_had, .ref h1_there, .ref h1_corner, .ref h1_second, .ref h1_third, .int a1_seed, .int a1_size, .int a1_parts])), (h1_had, .inl (cZ, 62, .inl a1_had)), (h1_there, .inl (cZ, 62, .inl a1_there)), (h1_corner, .inl (cI, 62, .inl a1_corner)), (h1_second, .inl (cI, 62, .inl a1_second)), (h1_third, .inl (cI, 62, .inl a1_third))] t.heap ∧ va_D (va_A [(h0, .inr (0, [.ref h0_roads])), (h0_roads, .inr (3, [.ref h0_roads_metres, .ref h0_roads_skills])), (h0_roads_metres, .inl (cI, 21, .inl v_roads_metres)), (h0_roads_skills, .inl (cI, 21, .inl v_roads_skills)), (h1, .inr (5, [.ref h1_had, .ref h1_there, .ref h1_corner, .ref h1_second, .ref h1_third, .int a1_seed, .int a1_size, .int a1_parts])), (h1_had, .inl (cZ, 62, .inl a1_had)), (h1_there, .inl (cZ, 62, .inl a1_there)), (h1_corner, .inl (cI, 62, .inl a1_corner)), (h1_second, .inl (cI, 62, .inl a1_second)), (h1_third, .inl (cI, 62, .inl a1_third))] sz) [(h0, .inr (0, [.ref h0_roads])), (h0_roads, .inr (3, [.ref h0_roads_metres, .ref h0_roads_skills])), (h0_roads_metres, .inl (cI, 21, .inl v_roads_metres)), (h0_roads_skills, .inl (cI, 21, .inl q.2)), (h1, .inr (5, [.ref h1_had, .ref h1_there, .ref h1_corner, .ref h1_second, .ref h1_third, .int a1_seed, .int a1_size, .int a1_parts])), (h1_had, .inl (cZ, 62, .inl a1_had)), (h1_there, .inl (cZ, 62, .inl a1_there)), (h1_corner, .inl (cI, 62, .inl a1_corner)), (h1_second, .inl (cI, 62, .inl a1_second)), (h1_third, .inl (cI, 62, .inl a1_third))]) (va_A [(h0, .inr (0, [.ref h0_roads])), (h0_roads, .inr (3, [.ref h0_roads_metres, .ref h0_roads_skills])), (h0_roads_metres, .inl (cI, 21, .inl v_roads_metres)), (h0_roads_skills, .inl (cI, 21, .inl v_roads_skills)), (h1, .inr (5, [.ref h1_had, .ref h1_there, .ref h1_corner, .ref h1_second, .ref h1_third, .int a1_seed, .int a1_size, .int a1_parts])), (h1_had, .inl (cZ, 62, .inl a1_had)), (h1_there, .inl (cZ, 62, .inl a1_there)), (h1_corner, .inl (cI, 62, .inl a1_corner)), (h1_second, .inl (cI, 62, .inl a1_second)), (h1_third, .inl (cI, 62, .inl a1_third))] sz)) 0 0 (va_A [(h0, .inr (0, [.ref h0_roads])), (h0_roads, .inr (3, [.ref h0_roads_metres, .ref h0_roads_skills])), (h0_roads_metres, .inl (cI, 21, .inl v_roads_metres)), (h0_roads_skills, .inl (cI, 21, .inl v_roads_skills)), (h1, .inr (5, [.ref h1_had, .ref h1_there, .ref h1_corner, .ref h1_second, .ref h1_third, .int a1_seed, .int a1_size, .int a1_parts])), (h1_had, .inl (cZ, 62, .inl a1_had)), (h1_there, .inl (cZ, 62, .inl a1_there)), (h1_corner, .inl (cI, 62, .inl a1_corner)), (h1_second, .inl (cI, 62, .inl a1_second)), (h1_third, .inl (cI, 62, .inl a1_third))] sz) := by
  refine Met.ofW (cc := cX0_servedCalls) (maxL := 4) (ret := (some .int)) (by decide) rfl ?_
  intro p e s m args below meth c s₁ B hml hv
  obtain ⟨rfl, hsz, hP, hC, hD0⟩ := hv
  have hx := B.exec
  have hb := B.bytes
  have hr := B.returns
  have hts := atoms_spec (ws := wsX0_servedCalls) B.pre
  have hown : s.vm.findClass RX0 = some m.cls := findClass_of_methodNamed B.named
  have hlocks := B.notSynchronized
  have hK := hC.1
  have hiX0 : ∀ w ∈ wsX00, w ∈ wsX0_servedCalls := by decide +kernel
  subst hsz
  have hD := hD0.self (sz := s.heap.size)
  generalize hAe : va_A [(h0, .inr (0, [.ref h0_roads])), (h0_roads, .inr (3, [.ref h0_roads_metres, .ref h0_roads_skills])), (h0_roads_metres, .inl (cI, 21, .inl v_roads_metres)), (h0_roads_skills, .inl (cI, 21, .inl v_roads_skills)), (h1, .inr (5, [.ref h1_had, .ref h1_there, .ref h1_corner, .ref h1_second, .ref h1_third, .int a1_seed, .int a1_size, .int a1_parts])), (h1_had, .inl (cZ, 62, .inl a1_had)), (h1_there, .inl (cZ, 62, .inl a1_there)), (h1_corner, .inl (cI, 62, .inl a1_corner)), (h1_second, .inl (cI, 62, .inl a1_second)), (h1_third, .inl (cI, 62, .inl a1_third))] s.heap.size = A at hD ⊢
  have hA : ∀ q : Nat, s.heap.size ≤ q → A q := fun q h => by rw [← hAe]; exact Or.inr h
  have hS : va_S A s.heap s.heap [] := va_S.rf
  have hl := lv_entry [.ref h0, .ref h1] (n := 4) (Nat.le_of_ble_eq_true rfl)
  rw [lg_entry_eq]
  generalize (lg_sl [.ref h0, .ref h1] ++ List.replicate (4 - (lg_sl [.ref h0, .ref h1]).length) Slot.unset).toArray = ls at hl ⊢
  have hl : lv_has ls 4 [(0, .ref h0), (1, .ref h1)] := hl
  rw [m_X0_servedCalls] at hm
  refine lv_aload_n hx hb dX0_servedCalls_0 rfl (lv_at hl 0 rfl) ?_
  refine va_get (D := (dC, dI)) (ci := 0) (v := .ref h0_roads) (C := RX0) (T := TX0) (N := 1) hx hb hts hiX0 hown hK hP 0 rfl rfl 0 (by decide) (hts (.fieldLink RX0 12 "ServiceDrawer$Judge" "roads" "LServiceDrawer$Roads;") (by decide +kernel)) (fun _ h9 => h9) rfl dX0_servedCalls_1 ?_
  refine lv_aload_n hx hb dX0_servedCalls_4 rfl (lv_at hl 1 rfl) ?_
  obtain ⟨q1, hq1, hm⟩ := mt_bind hm
  refine mt_callv (wr := [(h0, .inr (0, [.ref h0_roads]))]) hP hD hS hA [1, 2, 3, 4, 5, 6, 7, 8, 9] [0] rfl rfl (by decide) (by decide) (va_runV (As := [.ref h1]) (rest := []) ⟨hx, hb, hml, hown, hts⟩ (c_X3_bringSkills l dC dI cZ cI cL h0_roads h0_roads_metres h0_roads_skills h1 h1_had h1_there h1_corner h1_second h1_third s.heap.size v_roads_metres v_roads_skills a1_seed a1_size a1_parts a1_had a1_there a1_corner a1_second a1_third fu q1 hq1) (cwV 1 hts gX0_servedCalls_X3_bringSkills rfl rfl rfl (by decide +kernel) ⟨Nat.le_of_ble_eq_true rfl, Nat.le_of_ble_eq_true rfl⟩) (mt_vS (q := (RX3, TX3, 2)) 3 hC (hP.sub (ws' := [(h0_roads, .inr (3, [.ref h0_roads_metres, .ref h0_roads_skills])), (h0_roads_metres, .inl (cI, 21, .inl v_roads_metres)), (h0_roads_skills, .inl (cI, 21, .inl v_roads_skills)), (h1, .inr (5, [.ref h1_had, .ref h1_there, .ref h1_corner, .ref h1_second, .ref h1_third, .int a1_seed, .int a1_size, .int a1_parts])), (h1_had, .inl (cZ, 62, .inl a1_had)), (h1_there, .inl (cZ, 62, .inl a1_there)), (h1_corner, .inl (cI, 62, .inl a1_corner)), (h1_second, .inl (cI, 62, .inl a1_second)), (h1_third, .inl (cI, 62, .inl a1_third))]) [1, 2, 3, 4, 5, 6, 7, 8, 9] rfl) (hD.sub (ws' := [(h0_roads, .inr (3, [.ref h0_roads_metres, .ref h0_roads_skills])), (h0_roads_metres, .inl (cI, 21, .inl v_roads_metres)), (h0_roads_skills, .inl (cI, 21, .inl v_roads_skills)), (h1, .inr (5, [.ref h1_had, .ref h1_there, .ref h1_corner, .ref h1_second, .ref h1_third, .int a1_seed, .int a1_size, .int a1_parts])), (h1_had, .inl (cZ, 62, .inl a1_had)), (h1_there, .inl (cZ, 62, .inl a1_there)), (h1_corner, .inl (cI, 62, .inl a1_corner)), (h1_second, .inl (cI, 62, .inl a1_second)), (h1_third, .inl (cI, 62, .inl a1_third))]) [1, 2, 3, 4, 5, 6, 7, 8, 9] (by decide) rfl) rfl rfl) rfl rfl hl.1 rfl (lv_room (Nat.le_of_ble_eq_true rfl)) dX0_servedCalls_5 ⟨Nat.le_of_ble_eq_true rfl, Nat.le_of_ble_eq_true rfl⟩) (fun H locs hP hD hS => ?_)
  have hP : va_P (dC, dI) vwCl [(h0, .inr (0, [.ref h0_roads])), (h0_roads, .inr (3, [.ref h0_roads_metres, .ref h0_roads_skills])), (h0_roads_metres, .inl (cI, 21, .inl v_roads_metres)), (h0_roads_skills, .inl (cI, 21, .inl q1)), (h1, .inr (5, [.ref h1_had, .ref h1_there, .ref h1_corner, .ref h1_second, .ref h1_third, .int a1_seed, .int a1_size, .int a1_parts])), (h1_had, .inl (cZ, 62, .inl a1_had)), (h1_there, .inl (cZ, 62, .inl a1_there)), (h1_corner, .inl (cI, 62, .inl a1_corner)), (h1_second, .inl (cI, 62, .inl a1_second)), (h1_third, .inl (cI, 62, .inl a1_third))] H := hP.sub [0, 1, 2, 3, 4, 5, 6, 7, 8, 9] rfl
  have hD : va_D A [(h0, .inr (0, [.ref h0_roads])), (h0_roads, .inr (3, [.ref h0_roads_metres, .ref h0_roads_skills])), (h0_roads_metres, .inl (cI, 21, .inl v_roads_metres)), (h0_roads_skills, .inl (cI, 21, .inl q1)), (h1, .inr (5, [.ref h1_had, .ref h1_there, .ref h1_corner, .ref h1_second, .ref h1_third, .int a1_seed, .int a1_size, .int a1_parts])), (h1_had, .inl (cZ, 62, .inl a1_had)), (h1_there, .inl (cZ, 62, .inl a1_there)), (h1_corner, .inl (cI, 62, .inl a1_corner)), (h1_second, .inl (cI, 62, .inl a1_second)), (h1_third, .inl (cI, 62, .inl a1_third))] := hD.sub [0, 1, 2, 3, 4, 5, 6, 7, 8, 9] (by decide) rfl
  refine lv_iconst (v := (0 : Int32)) hx hb dX0_servedCalls_8 (by decide) ?_
  refine lv_istore_n (lv' := [(2, .int (0 : Int32)), (0, .ref h0), (1, .ref h1)]) hx hb dX0_servedCalls_9 rfl hl (by decide) rfl (fun ls hl => ?_)
  refine lv_bipush (v := (41 : Int32)) hx hb dX0_servedCalls_10 (by decide) ?_
  refine lv_istore_n (lv' := [(3, .int (41 : Int32)), (2, .int (0 : Int32)), (0, .ref h0), (1, .ref h1)]) hx hb dX0_servedCalls_12 rfl hl (by decide) rfl (fun ls hl => ?_)
  obtain ⟨K56, hK56, hm⟩ := mt_jx hm
  have J56 : ∀ (x2_56 : Int32) (x3_56 : Int32), ∀ (H : Heap) (locs : List Loc) (ls : Array Slot), K56 x2_56 x3_56 = some q → va_P (dC, dI) vwCl [(h0, .inr (0, [.ref h0_roads])), (h0_roads, .inr (3, [.ref h0_roads_metres, .ref h0_roads_skills])), (h0_roads_metres, .inl (cI, 21, .inl v_roads_metres)), (h0_roads_skills, .inl (cI, 21, .inl q1)), (h1, .inr (5, [.ref h1_had, .ref h1_there, .ref h1_corner, .ref h1_second, .ref h1_third, .int a1_seed, .int a1_size, .int a1_parts])), (h1_had, .inl (cZ, 62, .inl a1_had)), (h1_there, .inl (cZ, 62, .inl a1_there)), (h1_corner, .inl (cI, 62, .inl a1_corner)), (h1_second, .inl (cI, 62, .inl a1_second)), (h1_third, .inl (cI, 62, .inl a1_third))] H → va_D A [(h0, .inr (0, [.ref h0_roads])), (h0_roads, .inr (3, [.ref h0_roads_metres, .ref h0_roads_skills])), (h0_roads_metres, .inl (cI, 21, .inl v_roads_metres)), (h0_roads_skills, .inl (cI, 21, .inl q1)), (h1, .inr (5, [.ref h1_had, .ref h1_there, .ref h1_corner, .ref h1_second, .ref h1_third, .int a1_seed, .int a1_size, .int a1_parts])), (h1_had, .inl (cZ, 62, .inl a1_had)), (h1_there, .inl (cZ, 62, .inl a1_there)), (h1_corner, .inl (cI, 62, .inl a1_corner)), (h1_second, .inl (cI, 62, .inl a1_second)), (h1_third, .inl (cI, 62, .inl a1_third))] → va_S A s.heap H locs → lv_has ls 4 [(0, .ref h0), (1, .ref h1), (2, .int x2_56), (3, .int x3_56)] → W p l e (headSpec wsX0_servedCalls ({ frames := 3, cells := 0, slots := 0, locals := 67 })).room s m [.ref h0, .ref h1].toArray below meth c H locs 0 0 (MQ below (va_Qi (fun (r : Int32) (_ : Unit) => r = q.1) (fun _ t => va_P (dC, dI) vwCl [(h0, .inr (0, [.ref h0_roads])), (h0_roads, .inr (3, [.ref h0_roads_metres, .ref h0_roads_skills])), (h0_roads_metres, .inl (cI, 21, .inl v_roads_metres)), (h0_roads_skills, .inl (cI, 21, .inl q.2)), (h1, .inr (5, [.ref h1_had, .ref h1_there, .ref h1_corner, .ref h1_second, .ref h1_third, .int a1_seed, .int a1_size, .int a1_parts])), (h1_had, .inl (cZ, 62, .inl a1_had)), (h1_there, .inl (cZ, 62, .inl a1_there)), (h1_corner, .inl (cI, 62, .inl a1_corner)), (h1_second, .inl (cI, 62, .inl a1_second)), (h1_third, .inl (cI, 62, .inl a1_third))] t.heap ∧ va_D A [(h0, .inr (0, [.ref h0_roads])), (h0_roads, .inr (3, [.ref h0_roads_metres, .ref h0_roads_skills])), (h0_roads_metres, .inl (cI, 21, .inl v_roads_metres)), (h0_roads_skills, .inl (cI, 21, .inl q.2)), (h1, .inr (5, [.ref h1_had, .ref h1_there, .ref h1_corner, .ref h1_second, .ref h1_third, .int a1_seed, .int a1_size, .int a1_parts])), (h1_had, .inl (cZ, 62, .inl a1_had)), (h1_there, .inl (cZ, 62, .inl a1_there)), (h1_corner, .inl (cI, 62, .inl a1_corner)), (h1_second, .inl (cI, 62, .inl a1_second)), (h1_third, .inl (cI, 62, .inl a1_third))]) A) [.ref h0, .ref h1].toArray s 0 0 A) (F0 m 56 ls []) := by
    intro x2_56 x3_56 H locs ls hm hP hD hS hl
    replace hm := mt_app2 hK56 hm
    refine lv_iload_n hx hb dX0_servedCalls_56 rfl (lv_at hl 2 rfl) ?_
    obtain rfl := Option.some.inj hm
    exact W.iret hx hb hr (fun t ht hW => ⟨⟨_, (), rfl, rfl, by rw [ht]; exact hP, hD⟩, hS.F ht⟩) hS.2.2 dX0_servedCalls_57
  have L13 : ∀ n13 : Nat, ∀ (x2_13 : Int32) (x3_13 : Int32), ∀ (H : Heap) (locs : List Loc) (ls : Array Slot), m_X0_servedCalls_L13 a1_there a1_corner a1_second q1 K56 n13 x2_13 x3_13 = some q → va_P (dC, dI) vwCl [(h0, .inr (0, [.ref h0_roads])), (h0_roads, .inr (3, [.ref h0_roads_metres, .ref h0_roads_skills])), (h0_roads_metres, .inl (cI, 21, .inl v_roads_metres)), (h0_roads_skills, .inl (cI, 21, .inl q1)), (h1, .inr (5, [.ref h1_had, .ref h1_there, .ref h1_corner, .ref h1_second, .ref h1_third, .int a1_seed, .int a1_size, .int a1_parts])), (h1_had, .inl (cZ, 62, .inl a1_had)), (h1_there, .inl (cZ, 62, .inl a1_there)), (h1_corner, .inl (cI, 62, .inl a1_corner)), (h1_second, .inl (cI, 62, .inl a1_second)), (h1_third, .inl (cI, 62, .inl a1_third))] H → va_D A [(h0, .inr (0, [.ref h0_roads])), (h0_roads, .inr (3, [.ref h0_roads_metres, .ref h0_roads_skills])), (h0_roads_metres, .inl (cI, 21, .inl v_roads_metres)), (h0_roads_skills, .inl (cI, 21, .inl q1)), (h1, .inr (5, [.ref h1_had, .ref h1_there, .ref h1_corner, .ref h1_second, .ref h1_third, .int a1_seed, .int a1_size, .int a1_parts])), (h1_had, .inl (cZ, 62, .inl a1_had)), (h1_there, .inl (cZ, 62, .inl a1_there)), (h1_corner, .inl (cI, 62, .inl a1_corner)), (h1_second, .inl (cI, 62, .inl a1_second)), (h1_third, .inl (cI, 62, .inl a1_third))] → va_S A s.heap H locs → lv_has ls 4 [(0, .ref h0), (1, .ref h1), (2, .int x2_13), (3, .int x3_13)] → W p l e (headSpec wsX0_servedCalls ({ frames := 3, cells := 0, slots := 0, locals := 67 })).room s m [.ref h0, .ref h1].toArray below meth c H locs 0 0 (MQ below (va_Qi (fun (r : Int32) (_ : Unit) => r = q.1) (fun _ t => va_P (dC, dI) vwCl [(h0, .inr (0, [.ref h0_roads])), (h0_roads, .inr (3, [.ref h0_roads_metres, .ref h0_roads_skills])), (h0_roads_metres, .inl (cI, 21, .inl v_roads_metres)), (h0_roads_skills, .inl (cI, 21, .inl q.2)), (h1, .inr (5, [.ref h1_had, .ref h1_there, .ref h1_corner, .ref h1_second, .ref h1_third, .int a1_seed, .int a1_size, .int a1_parts])), (h1_had, .inl (cZ, 62, .inl a1_had)), (h1_there, .inl (cZ, 62, .inl a1_there)), (h1_corner, .inl (cI, 62, .inl a1_corner)), (h1_second, .inl (cI, 62, .inl a1_second)), (h1_third, .inl (cI, 62, .inl a1_third))] t.heap ∧ va_D A [(h0, .inr (0, [.ref h0_roads])), (h0_roads, .inr (3, [.ref h0_roads_metres, .ref h0_roads_skills])), (h0_roads_metres, .inl (cI, 21, .inl v_roads_metres)), (h0_roads_skills, .inl (cI, 21, .inl q.2)), (h1, .inr (5, [.ref h1_had, .ref h1_there, .ref h1_corner, .ref h1_second, .ref h1_third, .int a1_seed, .int a1_size, .int a1_parts])), (h1_had, .inl (cZ, 62, .inl a1_had)), (h1_there, .inl (cZ, 62, .inl a1_there)), (h1_corner, .inl (cI, 62, .inl a1_corner)), (h1_second, .inl (cI, 62, .inl a1_second)), (h1_third, .inl (cI, 62, .inl a1_third))]) A) [.ref h0, .ref h1].toArray s 0 0 A) (F0 m 13 ls []) := by
    intro n13
    induction n13 with
    | zero =>
      intro x2_13 x3_13 H locs ls hm hP hD hS hl
      exact absurd hm (fun h => nomatch h)
    | succ n13 ih13 =>
      intro x2_13 x3_13 H locs ls hm hP hD hS hl
      rw [m_X0_servedCalls_L13] at hm
      refine lv_iload_n hx hb dX0_servedCalls_13 rfl (lv_at hl 3 rfl) ?_
      refine lv_bipush (v := (62 : Int32)) hx hb dX0_servedCalls_14 (by decide) ?_
      refine lv_icmp_ge (tgt := 56) hx hb dX0_servedCalls_16 (by decide) (fun c2 => ?_) (fun c2 => ?_)
      · replace hm := mt_pos c2 hm
        exact J56 x2_13 x3_13 _ _ _ hm hP hD hS (lv_sub hl [0, 1, 2, 3] rfl)
      · replace hm := mt_neg c2 hm
        refine lv_aload_n hx hb dX0_servedCalls_19 rfl (lv_at hl 1 rfl) ?_
        refine lv_iload_n hx hb dX0_servedCalls_20 rfl (lv_at hl 3 rfl) ?_
        obtain ⟨q3, hq3, hm⟩ := mt_bind hm
        refine vp_callSi (va_Run.run (va_runV (As := [.int x3_13]) (rest := []) ⟨hx, hb, hml, hown, hts⟩ (c_X5_isThere l dC dI cZ cI cL h1 h1_had h1_there h1_corner h1_second h1_third x3_13 a1_seed a1_size a1_parts a1_had a1_there a1_corner a1_second a1_third q3 hq3) (cwV 1 hts gX0_servedCalls_X5_isThere rfl rfl rfl (by decide +kernel) ⟨Nat.le_of_ble_eq_true rfl, Nat.le_of_ble_eq_true rfl⟩) (mt_vR (q := (RX5, TX5, 8)) 5 hC (hP.sub (ws' := [(h1, .inr (5, [.ref h1_had, .ref h1_there, .ref h1_corner, .ref h1_second, .ref h1_third, .int a1_seed, .int a1_size, .int a1_parts])), (h1_had, .inl (cZ, 62, .inl a1_had)), (h1_there, .inl (cZ, 62, .inl a1_there)), (h1_corner, .inl (cI, 62, .inl a1_corner)), (h1_second, .inl (cI, 62, .inl a1_second)), (h1_third, .inl (cI, 62, .inl a1_third))]) [4, 5, 6, 7, 8, 9] rfl) rfl rfl) rfl rfl hl.1 rfl (lv_room (Nat.le_of_ble_eq_true rfl)) dX0_servedCalls_21 ⟨Nat.le_of_ble_eq_true rfl, Nat.le_of_ble_eq_true rfl⟩)) (fun r er => ?_)
        replace er := er.symm
        subst er
        refine lv_if_eq (tgt := 50) hx hb dX0_servedCalls_24 (by decide) (fun c4 => ?_) (fun c4 => ?_)
        · replace hm := mt_pos c4 hm
          refine lv_iinc (v := (x3_13 + (1 : Int32))) (lv' := [(3, .int (x3_13 + (1 : Int32))), (0, .ref h0), (1, .ref h1), (2, .int x2_13)]) hx hb dX0_servedCalls_50 hl (k := 3) rfl rfl (by decide) rfl (fun ls hl => ?_)
          refine lv_goto (tgt := 13) hx hb dX0_servedCalls_53 (by decide) ?_
          exact ih13 x2_13 (x3_13 + (1 : Int32)) _ _ _ hm hP hD hS (lv_sub hl [1, 2, 3, 0] rfl)
        · replace hm := mt_neg c4 hm
          refine lv_aload_n hx hb dX0_servedCalls_27 rfl (lv_at hl 0 rfl) ?_
          refine va_get (D := (dC, dI)) (ci := 0) (v := .ref h0_roads) (C := RX0) (T := TX0) (N := 1) hx hb hts hiX0 hown hK hP 0 rfl rfl 0 (by decide) (hts (.fieldLink RX0 12 "ServiceDrawer$Judge" "roads" "LServiceDrawer$Roads;") (by decide +kernel)) (fun _ h9 => h9) rfl dX0_servedCalls_28 ?_
          refine lv_aload_n hx hb dX0_servedCalls_31 rfl (lv_at hl 1 rfl) ?_
          refine lv_iload_n hx hb dX0_servedCalls_32 rfl (lv_at hl 3 rfl) ?_
          obtain ⟨q5, hq5, hm⟩ := mt_bind hm
          refine vp_callSi (va_Run.run (va_runV (As := [.int x3_13]) (rest := [.ref h0_roads]) ⟨hx, hb, hml, hown, hts⟩ (c_X5_cornerOf l dC dI cZ cI cL h1 h1_had h1_there h1_corner h1_second h1_third x3_13 a1_seed a1_size a1_parts a1_had a1_there a1_corner a1_second a1_third q5 hq5) (cwV 1 hts gX0_servedCalls_X5_cornerOf rfl rfl rfl (by decide +kernel) ⟨Nat.le_of_ble_eq_true rfl, Nat.le_of_ble_eq_true rfl⟩) (mt_vR (q := (RX5, TX5, 8)) 5 hC (hP.sub (ws' := [(h1, .inr (5, [.ref h1_had, .ref h1_there, .ref h1_corner, .ref h1_second, .ref h1_third, .int a1_seed, .int a1_size, .int a1_parts])), (h1_had, .inl (cZ, 62, .inl a1_had)), (h1_there, .inl (cZ, 62, .inl a1_there)), (h1_corner, .inl (cI, 62, .inl a1_corner)), (h1_second, .inl (cI, 62, .inl a1_second)), (h1_third, .inl (cI, 62, .inl a1_third))]) [4, 5, 6, 7, 8, 9] rfl) rfl rfl) rfl rfl hl.1 rfl (lv_room (Nat.le_of_ble_eq_true rfl)) dX0_servedCalls_33 ⟨Nat.le_of_ble_eq_true rfl, Nat.le_of_ble_eq_true rfl⟩)) (fun r er => ?_)
          replace er := er.symm
          subst er
          refine lv_aload_n hx hb dX0_servedCalls_36 rfl (lv_at hl 1 rfl) ?_
          refine lv_iload_n hx hb dX0_servedCalls_37 rfl (lv_at hl 3 rfl) ?_
          obtain ⟨q6, hq6, hm⟩ := mt_bind hm
          refine vp_callSi (va_Run.run (va_runV (As := [.int x3_13]) (rest := [.int q5, .ref h0_roads]) ⟨hx, hb, hml, hown, hts⟩ (c_X5_secondOf l dC dI cZ cI cL h1 h1_had h1_there h1_corner h1_second h1_third x3_13 a1_seed a1_size a1_parts a1_had a1_there a1_corner a1_second a1_third q6 hq6) (cwV 1 hts gX0_servedCalls_X5_secondOf rfl rfl rfl (by decide +kernel) ⟨Nat.le_of_ble_eq_true rfl, Nat.le_of_ble_eq_true rfl⟩) (mt_vR (q := (RX5, TX5, 8)) 5 hC (hP.sub (ws' := [(h1, .inr (5, [.ref h1_had, .ref h1_there, .ref h1_corner, .ref h1_second, .ref h1_third, .int a1_seed, .int a1_size, .int a1_parts])), (h1_had, .inl (cZ, 62, .inl a1_had)), (h1_there, .inl (cZ, 62, .inl a1_there)), (h1_corner, .inl (cI, 62, .inl a1_corner)), (h1_second, .inl (cI, 62, .inl a1_second)), (h1_third, .inl (cI, 62, .inl a1_third))]) [4, 5, 6, 7, 8, 9] rfl) rfl rfl) rfl rfl hl.1 rfl (lv_room (Nat.le_of_ble_eq_true rfl)) dX0_servedCalls_38 ⟨Nat.le_of_ble_eq_true rfl, Nat.le_of_ble_eq_true rfl⟩)) (fun r er => ?_)
          replace er := er.symm
          subst er
          obtain ⟨q7, hq7, hm⟩ := mt_bind hm
          refine vp_callSi (va_Run.run (va_runV (As := [.int q5, .int q6]) (rest := []) ⟨hx, hb, hml, hown, hts⟩ (c_X3_skillComesTo l dC dI cZ cI cL h0_roads h0_roads_metres h0_roads_skills q5 q6 v_roads_metres q1 q7 hq7) (cwV 2 hts gX0_servedCalls_X3_skillComesTo rfl rfl rfl (by decide +kernel) ⟨Nat.le_of_ble_eq_true rfl, Nat.le_of_ble_eq_true rfl⟩) (mt_vR (q := (RX3, TX3, 2)) 3 hC (hP.sub (ws' := [(h0_roads, .inr (3, [.ref h0_roads_metres, .ref h0_roads_skills])), (h0_roads_metres, .inl (cI, 21, .inl v_roads_metres)), (h0_roads_skills, .inl (cI, 21, .inl q1))]) [1, 2, 3] rfl) rfl rfl) rfl rfl hl.1 rfl (lv_room (Nat.le_of_ble_eq_true rfl)) dX0_servedCalls_41 ⟨Nat.le_of_ble_eq_true rfl, Nat.le_of_ble_eq_true rfl⟩)) (fun r er => ?_)
          replace er := er.symm
          subst er
          refine lv_if_eq (tgt := 50) hx hb dX0_servedCalls_44 (by decide) (fun c8 => ?_) (fun c8 => ?_)
          · replace hm := mt_pos c8 hm
            refine lv_iinc (v := (x3_13 + (1 : Int32))) (lv' := [(3, .int (x3_13 + (1 : Int32))), (0, .ref h0), (1, .ref h1), (2, .int x2_13)]) hx hb dX0_servedCalls_50 hl (k := 3) rfl rfl (by decide) rfl (fun ls hl => ?_)
            refine lv_goto (tgt := 13) hx hb dX0_servedCalls_53 (by decide) ?_
            exact ih13 x2_13 (x3_13 + (1 : Int32)) _ _ _ hm hP hD hS (lv_sub hl [1, 2, 3, 0] rfl)
          · replace hm := mt_neg c8 hm
            refine lv_iinc (v := (x2_13 + (1 : Int32))) (lv' := [(2, .int (x2_13 + (1 : Int32))), (0, .ref h0), (1, .ref h1), (3, .int x3_13)]) hx hb dX0_servedCalls_47 hl (k := 2) rfl rfl (by decide) rfl (fun ls hl => ?_)
            refine lv_iinc (v := (x3_13 + (1 : Int32))) (lv' := [(3, .int (x3_13 + (1 : Int32))), (2, .int (x2_13 + (1 : Int32))), (0, .ref h0), (1, .ref h1)]) hx hb dX0_servedCalls_50 hl (k := 3) rfl rfl (by decide) rfl (fun ls hl => ?_)
            refine lv_goto (tgt := 13) hx hb dX0_servedCalls_53 (by decide) ?_
            exact ih13 (x2_13 + (1 : Int32)) (x3_13 + (1 : Int32)) _ _ _ hm hP hD hS (lv_sub hl [2, 3, 1, 0] rfl)
  exact L13 fu (0 : Int32) (41 : Int32) _ _ _ hm hP hD hS (lv_sub hl [2, 3, 1, 0] rfl)
