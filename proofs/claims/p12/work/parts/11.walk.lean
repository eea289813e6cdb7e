def m_X5_howManyThere_L5 (p2 : Int32) (v_there : Nat → Int32) (K29 : Int32 → Int32 → Option (Int32)) : Nat → Int32 → Int32 → Option (Int32)
  | 0, _, _ => none
  | n5 + 1, x3_5, x4_5 => if p2 ≤ x4_5 then K29 x3_5 x4_5 else (m_X5_isThere x4_5 v_there).bind fun q2 => if q2 = 0 then m_X5_howManyThere_L5 p2 v_there K29 n5 x3_5 (x4_5 + (1 : Int32)) else m_X5_howManyThere_L5 p2 v_there K29 n5 (x3_5 + (1 : Int32)) (x4_5 + (1 : Int32))
def m_X5_howManyThere (fu : Nat) (p1 : Int32) (p2 : Int32) (v_there : Nat → Int32) : Option (Int32) := mt_j (fun (x3_29 : Int32) (x4_29 : Int32) => some x3_29) fun K29 => m_X5_howManyThere_L5 p2 v_there K29 fu (0 : Int32) p1
set_option maxHeartbeats 4000000 in
set_option maxRecDepth 100000 in
theorem c_X5_howManyThere (l : Launch) (dC : Nat → ClassId) (dI : Nat → Nat → Nat) (cZ cI cL : ClassId) (h0 h0_had h0_there h0_corner h0_second h0_third : Nat) (p1 : Int32) (p2 : Int32) (v_seed : Int32) (v_size : Int32) (v_parts : Int32) (v_had : Nat → Int32) (v_there : Nat → Int32) (v_corner : Nat → Int32) (v_second : Nat → Int32) (v_third : Nat → Int32) (fu : Nat) (q : Int32) (hm : m_X5_howManyThere fu p1 p2 v_there = some q) : Met l yX5_howManyThere wsX5_howManyThere ({ frames := 2, cells := 0, slots := 0, locals := 41 }) (va_Pc [.ref h0, .int p1, .int p2] (mt_R (dC, dI) cZ cI cL [(h0, .inr (5, [.ref h0_had, .ref h0_there, .ref h0_corner, .ref h0_second, .ref h0_third, .int v_seed, .int v_size, .int v_parts])), (h0_had, .inl (cZ, 62, .inl v_had)), (h0_there, .inl (cZ, 62, .inl v_there)), (h0_corner, .inl (cI, 62, .inl v_corner)), (h0_second, .inl (cI, 62, .inl v_second)), (h0_third, .inl (cI, 62, .inl v_third))])) (vp_Si (fun r => r = q)) 0 0 (fun _ => False) := by
  refine Met.ofW (cc := cX5_howManyThere) (maxL := 5) (ret := (some .int)) (by decide) rfl ?_
  intro p e s m args below meth c s₁ B hml hv
  obtain ⟨rfl, hP, hC⟩ := hv
  have hx := B.exec
  have hb := B.bytes
  have hr := B.returns
  have hts := atoms_spec (ws := wsX5_howManyThere) B.pre
  have hown : s.vm.findClass RX5 = some m.cls := findClass_of_methodNamed B.named
  have hlocks := B.notSynchronized
  have hK := hC.1
  have hl := lv_entry [.ref h0, .int p1, .int p2] (n := 5) (Nat.le_of_ble_eq_true rfl)
  rw [lg_entry_eq]
  generalize (lg_sl [.ref h0, .int p1, .int p2] ++ List.replicate (5 - (lg_sl [.ref h0, .int p1, .int p2]).length) Slot.unset).toArray = ls at hl ⊢
  have hl : lv_has ls 5 [(0, .ref h0), (1, .int p1), (2, .int p2)] := hl
  rw [m_X5_howManyThere] at hm
  refine lv_iconst (v := (0 : Int32)) hx hb dX5_howManyThere_0 (by decide) ?_
  refine lv_istore_n (lv' := [(3, .int (0 : Int32)), (0, .ref h0), (1, .int p1), (2, .int p2)]) hx hb dX5_howManyThere_1 rfl hl (by decide) rfl (fun ls hl => ?_)
  refine lv_iload_n hx hb dX5_howManyThere_2 rfl (lv_at hl 2 rfl) ?_
  refine lv_istore (lv' := [(4, .int p1), (3, .int (0 : Int32)), (0, .ref h0), (1, .int p1), (2, .int p2)]) hx hb dX5_howManyThere_3 hl (by decide) rfl (fun ls hl => ?_)
  obtain ⟨K29, hK29, hm⟩ := mt_jx hm
  have J29 : ∀ (x3_29 : Int32) (x4_29 : Int32), ∀ (ls : Array Slot), K29 x3_29 x4_29 = some q → lv_has ls 5 [(0, .ref h0), (1, .int p1), (2, .int p2), (3, .int x3_29), (4, .int x4_29)] → W p l e (headSpec wsX5_howManyThere ({ frames := 2, cells := 0, slots := 0, locals := 41 })).room s m [.ref h0, .int p1, .int p2].toArray below meth c s.heap [] 0 0 (MQ below (vp_Si (fun r => r = q)) [.ref h0, .int p1, .int p2].toArray s 0 0 (fun _ => False)) (F0 m 29 ls []) := by
    intro x3_29 x4_29 ls hm hl
    replace hm := mt_app2 hK29 hm
    refine lv_iload_n hx hb dX5_howManyThere_29 rfl (lv_at hl 3 rfl) ?_
    obtain rfl := Option.some.inj hm
    exact W.iret hx hb hr (fun t ht hW => ⟨_, rfl, rfl, ht⟩) t_nil dX5_howManyThere_30
  have L5 : ∀ n5 : Nat, ∀ (x3_5 : Int32) (x4_5 : Int32), ∀ (ls : Array Slot), m_X5_howManyThere_L5 p2 v_there K29 n5 x3_5 x4_5 = some q → lv_has ls 5 [(0, .ref h0), (1, .int p1), (2, .int p2), (3, .int x3_5), (4, .int x4_5)] → W p l e (headSpec wsX5_howManyThere ({ frames := 2, cells := 0, slots := 0, locals := 41 })).room s m [.ref h0, .int p1, .int p2].toArray below meth c s.heap [] 0 0 (MQ below (vp_Si (fun r => r = q)) [.ref h0, .int p1, .int p2].toArray s 0 0 (fun _ => False)) (F0 m 5 ls []) := by
    intro n5
    induction n5 with
    | zero =>
      intro x3_5 x4_5 ls hm hl
      exact absurd hm (fun h => nomatch h)
    | succ n5 ih5 =>
      intro x3_5 x4_5 ls hm hl
      rw [m_X5_howManyThere_L5] at hm
      refine lv_iload hx hb dX5_howManyThere_5 (lv_at hl 4 rfl) ?_
      refine lv_iload_n hx hb dX5_howManyThere_7 rfl (lv_at hl 2 rfl) ?_
      refine lv_icmp_ge (tgt := 29) hx hb dX5_howManyThere_8 (by decide) (fun c1 => ?_) (fun c1 => ?_)
      · replace hm := mt_pos c1 hm
        exact J29 x3_5 x4_5 _ hm (lv_sub hl [0, 1, 2, 3, 4] rfl)
      · replace hm := mt_neg c1 hm
        refine lv_aload_n hx hb dX5_howManyThere_11 rfl (lv_at hl 0 rfl) ?_
        refine lv_iload hx hb dX5_howManyThere_12 (lv_at hl 4 rfl) ?_
        obtain ⟨q2, hq2, hm⟩ := mt_bind hm
        refine vp_callSi (va_Run.run (va_runV (As := [.int x4_5]) (rest := []) ⟨hx, hb, hml, hown, hts⟩ (c_X5_isThere l dC dI cZ cI cL h0 h0_had h0_there h0_corner h0_second h0_third x4_5 v_seed v_size v_parts v_had v_there v_corner v_second v_third q2 hq2) (cwV 1 hts gX5_howManyThere_X5_isThere rfl rfl rfl (by decide +kernel) ⟨Nat.le_of_ble_eq_true rfl, Nat.le_of_ble_eq_true rfl⟩) (mt_vR (q := (RX5, TX5, 8)) 5 hC (hP.sub (ws' := [(h0, .inr (5, [.ref h0_had, .ref h0_there, .ref h0_corner, .ref h0_second, .ref h0_third, .int v_seed, .int v_size, .int v_parts])), (h0_had, .inl (cZ, 62, .inl v_had)), (h0_there, .inl (cZ, 62, .inl v_there)), (h0_corner, .inl (cI, 62, .inl v_corner)), (h0_second, .inl (cI, 62, .inl v_second)), (h0_third, .inl (cI, 62, .inl v_third))]) [0, 1, 2, 3, 4, 5] rfl) rfl rfl) rfl rfl hl.1 rfl (lv_room (Nat.le_of_ble_eq_true rfl)) dX5_howManyThere_14 ⟨Nat.le_of_ble_eq_true rfl, Nat.le_of_ble_eq_true rfl⟩)) (fun r er => ?_)
        replace er := er.symm
        subst er
        refine lv_if_eq (tgt := 23) hx hb dX5_howManyThere_17 (by decide) (fun c3 => ?_) (fun c3 => ?_)
        · replace hm := mt_pos c3 hm
          refine lv_iinc (v := (x4_5 + (1 : Int32))) (lv' := [(4, .int (x4_5 + (1 : Int32))), (0, .ref h0), (1, .int p1), (2, .int p2), (3, .int x3_5)]) hx hb dX5_howManyThere_23 hl (k := 4) rfl rfl (by decide) rfl (fun ls hl => ?_)
          refine lv_goto (tgt := 5) hx hb dX5_howManyThere_26 (by decide) ?_
          exact ih5 x3_5 (x4_5 + (1 : Int32)) _ hm (lv_sub hl [1, 2, 3, 4, 0] rfl)
        · replace hm := mt_neg c3 hm
          refine lv_iinc (v := (x3_5 + (1 : Int32))) (lv' := [(3, .int (x3_5 + (1 : Int32))), (0, .ref h0), (1, .int p1), (2, .int p2), (4, .int x4_5)]) hx hb dX5_howManyThere_20 hl (k := 3) rfl rfl (by decide) rfl (fun ls hl => ?_)
          refine lv_iinc (v := (x4_5 + (1 : Int32))) (lv' := [(4, .int (x4_5 + (1 : Int32))), (3, .int (x3_5 + (1 : Int32))), (0, .ref h0), (1, .int p1), (2, .int p2)]) hx hb dX5_howManyThere_23 hl (k := 4) rfl rfl (by decide) rfl (fun ls hl => ?_)
          refine lv_goto (tgt := 5) hx hb dX5_howManyThere_26 (by decide) ?_
          exact ih5 (x3_5 + (1 : Int32)) (x4_5 + (1 : Int32)) _ hm (lv_sub hl [2, 3, 4, 1, 0] rfl)
  exact L5 fu (0 : Int32) p1 _ hm (lv_sub hl [2, 3, 4, 1, 0] rfl)
def m_X5_thirdOf (p1 : Int32) (v_third : Nat → Int32) : Option (Int32) := (m_X6_isPart p1).bind fun q1 => if q1 = 0 then some (0 : Int32) else if (¬ (p1 < 0 ∨ 62 ≤ p1.toNatClampNeg)) then some (v_third p1.toNatClampNeg) else none
set_option maxHeartbeats 4000000 in
set_option maxRecDepth 100000 in
theorem c_X5_thirdOf (l : Launch) (dC : Nat → ClassId) (dI : Nat → Nat → Nat) (cZ cI cL : ClassId) (h0 h0_had h0_there h0_corner h0_second h0_third : Nat) (p1 : Int32) (v_seed : Int32) (v_size : Int32) (v_parts : Int32) (v_had : Nat → Int32) (v_there : Nat → Int32) (v_corner : Nat → Int32) (v_second : Nat → Int32) (v_third : Nat → Int32) (q : Int32) (hm : m_X5_thirdOf p1 v_third = some q) : Met l yX5_thirdOf wsX5_thirdOf ({ frames := 1, cells := 0, slots := 0, locals := 20 }) (va_Pc [.ref h0, .int p1] (mt_R (dC, dI) cZ cI cL [(h0, .inr (5, [.ref h0_had, .ref h0_there, .ref h0_corner, .ref h0_second, .ref h0_third, .int v_seed, .int v_size, .int v_parts])), (h0_had, .inl (cZ, 62, .inl v_had)), (h0_there, .inl (cZ, 62, .inl v_there)), (h0_corner, .inl (cI, 62, .inl v_corner)), (h0_second, .inl (cI, 62, .inl v_second)), (h0_third, .inl (cI, 62, .inl v_third))])) (vp_Si (fun r => r = q)) 0 0 (fun _ => False) := by
  refine Met.ofW (cc := cX5_thirdOf) (maxL := 2) (ret := (some .int)) (by decide) rfl ?_
  intro p e s m args below meth c s₁ B hml hv
  obtain ⟨rfl, hP, hC⟩ := hv
  have hx := B.exec
  have hb := B.bytes
  have hr := B.returns
  have hts := atoms_spec (ws := wsX5_thirdOf) B.pre
  have hown : s.vm.findClass RX5 = some m.cls := findClass_of_methodNamed B.named
  have hlocks := B.notSynchronized
  have hK := hC.1
  have hiX5 : ∀ w ∈ wsX50, w ∈ wsX5_thirdOf := by decide +kernel
  have hl := lv_entry [.ref h0, .int p1] (n := 2) (Nat.le_of_ble_eq_true rfl)
  rw [lg_entry_eq]
  generalize (lg_sl [.ref h0, .int p1] ++ List.replicate (2 - (lg_sl [.ref h0, .int p1]).length) Slot.unset).toArray = ls at hl ⊢
  have hl : lv_has ls 2 [(0, .ref h0), (1, .int p1)] := hl
  rw [m_X5_thirdOf] at hm
  refine lv_iload_n hx hb dX5_thirdOf_0 rfl (lv_at hl 1 rfl) ?_
  obtain ⟨q1, hq1, hm⟩ := mt_bind hm
  refine vp_callSi (va_Run.run (va_runSN (As := [.int p1]) (rest := []) ⟨hx, hb, hml, hown, hts⟩ (c_X6_isPart l dC dI cZ cI cL p1 q1 hq1) ⟨(va_cnB 1 hts gX5_thirdOf_X6_isPart_n83 rfl rfl rfl (hC.2.m RX5 83 yX6_isPart "ServiceDrawer" (by decide +kernel)) (hts (.initialized RX6) (by decide +kernel)) (by decide +kernel) ⟨Nat.le_of_ble_eq_true rfl, Nat.le_of_ble_eq_true rfl⟩), hts (.static yX6_isPart) (by decide +kernel), trivial⟩ (mt_pR hC (hP.sub (ws' := []) [] rfl)) rfl rfl hl.1 rfl (lv_room (Nat.le_of_ble_eq_true rfl)) dX5_thirdOf_1 ⟨Nat.le_of_ble_eq_true rfl, Nat.le_of_ble_eq_true rfl⟩)) (fun r er => ?_)
  replace er := er.symm
  subst er
  refine lv_if_eq (tgt := 16) hx hb dX5_thirdOf_4 (by decide) (fun c2 => ?_) (fun c2 => ?_)
  · replace hm := mt_pos c2 hm
    refine lv_iconst (v := (0 : Int32)) hx hb dX5_thirdOf_16 (by decide) ?_
    obtain rfl := Option.some.inj hm
    exact W.iret hx hb hr (fun t ht hW => ⟨_, rfl, rfl, ht⟩) t_nil dX5_thirdOf_17
  · replace hm := mt_neg c2 hm
    refine lv_aload_n hx hb dX5_thirdOf_7 rfl (lv_at hl 0 rfl) ?_
    refine va_get (D := (dC, dI)) (ci := 5) (v := .ref h0_third) (C := RX5) (T := TX5) (N := 8) hx hb hts hiX5 hown hK hP 0 rfl rfl 4 (by decide) (hts (.fieldLink RX5 25 "ServiceDrawer$Town" "third" "[I") (by decide +kernel)) (fun _ h9 => h9) rfl dX5_thirdOf_8 ?_
    refine lv_iload_n hx hb dX5_thirdOf_11 rfl (lv_at hl 1 rfl) ?_
    obtain ⟨g3, hm⟩ := mt_gd hm
    refine va_iald hx hb hK hP 5 1 rfl rfl g3 dX5_thirdOf_12 ?_
    refine lv_goto (tgt := 17) hx hb dX5_thirdOf_13 (by decide) ?_
    obtain rfl := Option.some.inj hm
    exact W.iret hx hb hr (fun t ht hW => ⟨_, rfl, rfl, ht⟩) t_nil dX5_thirdOf_17
def m_X0_meetsEarlier_L3 (p1 : Int32) (a0_there : Nat → Int32) (a0_corner : Nat → Int32) (a0_third : Nat → Int32) (K50 : Int32 → Option (Int32)) : Nat → Int32 → Option (Int32)
  | 0, _ => none
  | n3 + 1, x2_3 => if p1 ≤ x2_3 then K50 x2_3 else (m_X5_isThere x2_3 a0_there).bind fun q2 => if q2 = 0 then m_X0_meetsEarlier_L3 p1 a0_there a0_corner a0_third K50 n3 (x2_3 + (1 : Int32)) else (m_X5_thirdOf x2_3 a0_third).bind fun q4 => (m_X5_thirdOf p1 a0_third).bind fun q5 => if q4 = q5 then (m_X5_cornerOf x2_3 a0_corner).bind fun q7 => (m_X5_cornerOf p1 a0_corner).bind fun q8 => if q7 = q8 then some (1 : Int32) else m_X0_meetsEarlier_L3 p1 a0_there a0_corner a0_third K50 n3 (x2_3 + (1 : Int32)) else m_X0_meetsEarlier_L3 p1 a0_there a0_corner a0_third K50 n3 (x2_3 + (1 : Int32))
def m_X0_meetsEarlier (fu : Nat) (p1 : Int32) (a0_there : Nat → Int32) (a0_corner : Nat → Int32) (a0_third : Nat → Int32) : Option (Int32) := mt_j (fun (x2_50 : Int32) => some (0 : Int32)) fun K50 => m_X0_meetsEarlier_L3 p1 a0_there a0_corner a0_third K50 fu (41 : Int32)
set_option maxHeartbeats 4000000 in
set_option maxRecDepth 100000 in
theorem c_X0_meetsEarlier (l : Launch) (dC : Nat → ClassId) (dI : Nat → Nat → Nat) (cZ cI cL : ClassId) (h0 h0_had h0_there h0_corner h0_second h0_third : Nat) (p1 : Int32) (a0_seed : Int32) (a0_size : Int32) (a0_parts : Int32) (a0_had : Nat → Int32) (a0_there : Nat → Int32) (a0_corner : Nat → Int32) (a0_second : Nat → Int32) (a0_third : Nat → Int32) (fu : Nat) (q : Int32) (hm : m_X0_meetsEarlier fu p1 a0_there a0_corner a0_third = some q) : Met l yX0_meetsEarlier wsX0_meetsEarlier ({ frames := 2, cells := 0, slots := 0, locals := 41 }) (va_Pc [.ref h0, .int p1] (mt_R (dC, dI) cZ cI cL [(h0, .inr (5, [.ref h0_had, .ref h0_there, .ref h0_corner, .ref h0_second, .ref h0_third, .int a0_seed, .int a0_size, .int a0_parts])), (h0_had, .inl (cZ, 62, .inl a0_had)), (h0_there, .inl (cZ, 62, .inl a0_there)), (h0_corner, .inl (cI, 62, .inl a0_corner)), (h0_second, .inl (cI, 62, .inl a0_second)), (h0_third, .inl (cI, 62, .inl a0_third))])) (vp_Si (fun r => r = q)) 0 0 (fun _ => False) := by
  refine Met.ofW (cc := cX0_meetsEarlier) (maxL := 3) (ret := (some .boolean)) (by decide) rfl ?_
  intro p e s m args below meth c s₁ B hml hv
  obtain ⟨rfl, hP, hC⟩ := hv
  have hx := B.exec
  have hb := B.bytes
  have hr := B.returns
  have hts := atoms_spec (ws := wsX0_meetsEarlier) B.pre
  have hown : s.vm.findClass RX0 = some m.cls := findClass_of_methodNamed B.named
  have hlocks := B.notSynchronized
  have hK := hC.1
  have hl := lv_entry [.ref h0, .int p1] (n := 3) (Nat.le_of_ble_eq_true rfl)
  rw [lg_entry_eq]
  generalize (lg_sl [.ref h0, .int p1] ++ List.replicate (3 - (lg_sl [.ref h0, .int p1]).length) Slot.unset).toArray = ls at hl ⊢
  have hl : lv_has ls 3 [(0, .ref h0), (1, .int p1)] := hl
  rw [m_X0_meetsEarlier] at hm
  refine lv_bipush (v := (41 : Int32)) hx hb dX0_meetsEarlier_0 (by decide) ?_
  refine lv_istore_n (lv' := [(2, .int (41 : Int32)), (0, .ref h0), (1, .int p1)]) hx hb dX0_meetsEarlier_2 rfl hl (by decide) rfl (fun ls hl => ?_)
  obtain ⟨K50, hK50, hm⟩ := mt_jx hm
  have J50 : ∀ (x2_50 : Int32), ∀ (ls : Array Slot), K50 x2_50 = some q → lv_has ls 3 [(0, .ref h0), (1, .int p1), (2, .int x2_50)] → W p l e (headSpec wsX0_meetsEarlier ({ frames := 2, cells := 0, slots := 0, locals := 41 })).room s m [.ref h0, .int p1].toArray below meth c s.heap [] 0 0 (MQ below (vp_Si (fun r => r = q)) [.ref h0, .int p1].toArray s 0 0 (fun _ => False)) (F0 m 50 ls []) := by
    intro x2_50 ls hm hl
    replace hm := mt_app1 hK50 hm
    refine lv_iconst (v := (0 : Int32)) hx hb dX0_meetsEarlier_50 (by decide) ?_
    obtain rfl := Option.some.inj hm
    exact W.zret hx hb hr mt_z0 (fun t ht hW => ⟨_, rfl, rfl, ht⟩) t_nil dX0_meetsEarlier_51
  have L3 : ∀ n3 : Nat, ∀ (x2_3 : Int32), ∀ (ls : Array Slot), m_X0_meetsEarlier_L3 p1 a0_there a0_corner a0_third K50 n3 x2_3 = some q → lv_has ls 3 [(0, .ref h0), (1, .int p1), (2, .int x2_3)] → W p l e (headSpec wsX0_meetsEarlier ({ frames := 2, cells := 0, slots := 0, locals := 41 })).room s m [.ref h0, .int p1].toArray below meth c s.heap [] 0 0 (MQ below (vp_Si (fun r => r = q)) [.ref h0, .int p1].toArray s 0 0 (fun _ => False)) (F0 m 3 ls []) := by
    intro n3
    induction n3 with
    | zero =>
      intro x2_3 ls hm hl
      exact absurd hm (fun h => nomatch h)
    | succ n3 ih3 =>
      intro x2_3 ls hm hl
      rw [m_X0_meetsEarlier_L3] at hm
      refine lv_iload_n hx hb dX0_meetsEarlier_3 rfl (lv_at hl 2 rfl) ?_
      refine lv_iload_n hx hb dX0_meetsEarlier_4 rfl (lv_at hl 1 rfl) ?_
      refine lv_icmp_ge (tgt := 50) hx hb dX0_meetsEarlier_5 (by decide) (fun c1 => ?_) (fun c1 => ?_)
      · replace hm := mt_pos c1 hm
        exact J50 x2_3 _ hm (lv_sub hl [0, 1, 2] rfl)
      · replace hm := mt_neg c1 hm
        refine lv_aload_n hx hb dX0_meetsEarlier_8 rfl (lv_at hl 0 rfl) ?_
        refine lv_iload_n hx hb dX0_meetsEarlier_9 rfl (lv_at hl 2 rfl) ?_
        obtain ⟨q2, hq2, hm⟩ := mt_bind hm
        refine vp_callSi (va_Run.run (va_runV (As := [.int x2_3]) (rest := []) ⟨hx, hb, hml, hown, hts⟩ (c_X5_isThere l dC dI cZ cI cL h0 h0_had h0_there h0_corner h0_second h0_third x2_3 a0_seed a0_size a0_parts a0_had a0_there a0_corner a0_second a0_third q2 hq2) (cwV 1 hts gX0_meetsEarlier_X5_isThere rfl rfl rfl (by decide +kernel) ⟨Nat.le_of_ble_eq_true rfl, Nat.le_of_ble_eq_true rfl⟩) (mt_vR (q := (RX5, TX5, 8)) 5 hC (hP.sub (ws' := [(h0, .inr (5, [.ref h0_had, .ref h0_there, .ref h0_corner, .ref h0_second, .ref h0_third, .int a0_seed, .int a0_size, .int a0_parts])), (h0_had, .inl (cZ, 62, .inl a0_had)), (h0_there, .inl (cZ, 62, .inl a0_there)), (h0_corner, .inl (cI, 62, .inl a0_corner)), (h0_second, .inl (cI, 62, .inl a0_second)), (h0_third, .inl (cI, 62, .inl a0_third))]) [0, 1, 2, 3, 4, 5] rfl) rfl rfl) rfl rfl hl.1 rfl (lv_room (Nat.le_of_ble_eq_true rfl)) dX0_meetsEarlier_10 ⟨Nat.le_of_ble_eq_true rfl, Nat.le_of_ble_eq_true rfl⟩)) (fun r er => ?_)
        replace er := er.symm
        subst er
        refine lv_if_eq (tgt := 44) hx hb dX0_meetsEarlier_13 (by decide) (fun c3 => ?_) (fun c3 => ?_)
        · replace hm := mt_pos c3 hm
          refine lv_iinc (v := (x2_3 + (1 : Int32))) (lv' := [(2, .int (x2_3 + (1 : Int32))), (0, .ref h0), (1, .int p1)]) hx hb dX0_meetsEarlier_44 hl (k := 2) rfl rfl (by decide) rfl (fun ls hl => ?_)
          refine lv_goto (tgt := 3) hx hb dX0_meetsEarlier_47 (by decide) ?_
          exact ih3 (x2_3 + (1 : Int32)) _ hm (lv_sub hl [1, 2, 0] rfl)
        · replace hm := mt_neg c3 hm
          refine lv_aload_n hx hb dX0_meetsEarlier_16 rfl (lv_at hl 0 rfl) ?_
          refine lv_iload_n hx hb dX0_meetsEarlier_17 rfl (lv_at hl 2 rfl) ?_
          obtain ⟨q4, hq4, hm⟩ := mt_bind hm
          refine vp_callSi (va_Run.run (va_runV (As := [.int x2_3]) (rest := []) ⟨hx, hb, hml, hown, hts⟩ (c_X5_thirdOf l dC dI cZ cI cL h0 h0_had h0_there h0_corner h0_second h0_third x2_3 a0_seed a0_size a0_parts a0_had a0_there a0_corner a0_second a0_third q4 hq4) (cwV 1 hts gX0_meetsEarlier_X5_thirdOf rfl rfl rfl (by decide +kernel) ⟨Nat.le_of_ble_eq_true rfl, Nat.le_of_ble_eq_true rfl⟩) (mt_vR (q := (RX5, TX5, 8)) 5 hC (hP.sub (ws' := [(h0, .inr (5, [.ref h0_had, .ref h0_there, .ref h0_corner, .ref h0_second, .ref h0_third, .int a0_seed, .int a0_size, .int a0_parts])), (h0_had, .inl (cZ, 62, .inl a0_had)), (h0_there, .inl (cZ, 62, .inl a0_there)), (h0_corner, .inl (cI, 62, .inl a0_corner)), (h0_second, .inl (cI, 62, .inl a0_second)), (h0_third, .inl (cI, 62, .inl a0_third))]) [0, 1, 2, 3, 4, 5] rfl) rfl rfl) rfl rfl hl.1 rfl (lv_room (Nat.le_of_ble_eq_true rfl)) dX0_meetsEarlier_18 ⟨Nat.le_of_ble_eq_true rfl, Nat.le_of_ble_eq_true rfl⟩)) (fun r er => ?_)
          replace er := er.symm
          subst er
          refine lv_aload_n hx hb dX0_meetsEarlier_21 rfl (lv_at hl 0 rfl) ?_
          refine lv_iload_n hx hb dX0_meetsEarlier_22 rfl (lv_at hl 1 rfl) ?_
          obtain ⟨q5, hq5, hm⟩ := mt_bind hm
          refine vp_callSi (va_Run.run (va_runV (As := [.int p1]) (rest := [.int q4]) ⟨hx, hb, hml, hown, hts⟩ (c_X5_thirdOf l dC dI cZ cI cL h0 h0_had h0_there h0_corner h0_second h0_third p1 a0_seed a0_size a0_parts a0_had a0_there a0_corner a0_second a0_third q5 hq5) (cwV 1 hts gX0_meetsEarlier_X5_thirdOf rfl rfl rfl (by decide +kernel) ⟨Nat.le_of_ble_eq_true rfl, Nat.le_of_ble_eq_true rfl⟩) (mt_vR (q := (RX5, TX5, 8)) 5 hC (hP.sub (ws' := [(h0, .inr (5, [.ref h0_had, .ref h0_there, .ref h0_corner, .ref h0_second, .ref h0_third, .int a0_seed, .int a0_size, .int a0_parts])), (h0_had, .inl (cZ, 62, .inl a0_had)), (h0_there, .inl (cZ, 62, .inl a0_there)), (h0_corner, .inl (cI, 62, .inl a0_corner)), (h0_second, .inl (cI, 62, .inl a0_second)), (h0_third, .inl (cI, 62, .inl a0_third))]) [0, 1, 2, 3, 4, 5] rfl) rfl rfl) rfl rfl hl.1 rfl (lv_room (Nat.le_of_ble_eq_true rfl)) dX0_meetsEarlier_23 ⟨Nat.le_of_ble_eq_true rfl, Nat.le_of_ble_eq_true rfl⟩)) (fun r er => ?_)
          replace er := er.symm
          subst er
          refine lv_icmp_ne (tgt := 44) hx hb dX0_meetsEarlier_26 (by decide) (fun c6 => ?_) (fun c6 => ?_)
          · replace hm := mt_neg c6 hm
            refine lv_iinc (v := (x2_3 + (1 : Int32))) (lv' := [(2, .int (x2_3 + (1 : Int32))), (0, .ref h0), (1, .int p1)]) hx hb dX0_meetsEarlier_44 hl (k := 2) rfl rfl (by decide) rfl (fun ls hl => ?_)
            refine lv_goto (tgt := 3) hx hb dX0_meetsEarlier_47 (by decide) ?_
            exact ih3 (x2_3 + (1 : Int32)) _ hm (lv_sub hl [1, 2, 0] rfl)
          · replace hm := mt_pos c6 hm
            refine lv_aload_n hx hb dX0_meetsEarlier_29 rfl (lv_at hl 0 rfl) ?_
            refine lv_iload_n hx hb dX0_meetsEarlier_30 rfl (lv_at hl 2 rfl) ?_
            obtain ⟨q7, hq7, hm⟩ := mt_bind hm
            refine vp_callSi (va_Run.run (va_runV (As := [.int x2_3]) (rest := []) ⟨hx, hb, hml, hown, hts⟩ (c_X5_cornerOf l dC dI cZ cI cL h0 h0_had h0_there h0_corner h0_second h0_third x2_3 a0_seed a0_size a0_parts a0_had a0_there a0_corner a0_second a0_third q7 hq7) (cwV 1 hts gX0_meetsEarlier_X5_cornerOf rfl rfl rfl (by decide +kernel) ⟨Nat.le_of_ble_eq_true rfl, Nat.le_of_ble_eq_true rfl⟩) (mt_vR (q := (RX5, TX5, 8)) 5 hC (hP.sub (ws' := [(h0, .inr (5, [.ref h0_had, .ref h0_there, .ref h0_corner, .ref h0_second, .ref h0_third, .int a0_seed, .int a0_size, .int a0_parts])), (h0_had, .inl (cZ, 62, .inl a0_had)), (h0_there, .inl (cZ, 62, .inl a0_there)), (h0_corner, .inl (cI, 62, .inl a0_corner)), (h0_second, .inl (cI, 62, .inl a0_second)), (h0_third, .inl (cI, 62, .inl a0_third))]) [0, 1, 2, 3, 4, 5] rfl) rfl rfl) rfl rfl hl.1 rfl (lv_room (Nat.le_of_ble_eq_true rfl)) dX0_meetsEarlier_31 ⟨Nat.le_of_ble_eq_true rfl, Nat.le_of_ble_eq_true rfl⟩)) (fun r er => ?_)
            replace er := er.symm
            subst er
            refine lv_aload_n hx hb dX0_meetsEarlier_34 rfl (lv_at hl 0 rfl) ?_
            refine lv_iload_n hx hb dX0_meetsEarlier_35 rfl (lv_at hl 1 rfl) ?_
            obtain ⟨q8, hq8, hm⟩ := mt_bind hm
            refine vp_callSi (va_Run.run (va_runV (As := [.int p1]) (rest := [.int q7]) ⟨hx, hb, hml, hown, hts⟩ (c_X5_cornerOf l dC dI cZ cI cL h0 h0_had h0_there h0_corner h0_second h0_third p1 a0_seed a0_size a0_parts a0_had a0_there a0_corner a0_second a0_third q8 hq8) (cwV 1 hts gX0_meetsEarlier_X5_cornerOf rfl rfl rfl (by decide +kernel) ⟨Nat.le_of_ble_eq_true rfl, Nat.le_of_ble_eq_true rfl⟩) (mt_vR (q := (RX5, TX5, 8)) 5 hC (hP.sub (ws' := [(h0, .inr (5, [.ref h0_had, .ref h0_there, .ref h0_corner, .ref h0_second, .ref h0_third, .int a0_seed, .int a0_size, .int a0_parts])), (h0_had, .inl (cZ, 62, .inl a0_had)), (h0_there, .inl (cZ, 62, .inl a0_there)), (h0_corner, .inl (cI, 62, .inl a0_corner)), (h0_second, .inl (cI, 62, .inl a0_second)), (h0_third, .inl (cI, 62, .inl a0_third))]) [0, 1, 2, 3, 4, 5] rfl) rfl rfl) rfl rfl hl.1 rfl (lv_room (Nat.le_of_ble_eq_true rfl)) dX0_meetsEarlier_36 ⟨Nat.le_of_ble_eq_true rfl, Nat.le_of_ble_eq_true rfl⟩)) (fun r er => ?_)
            replace er := er.symm
            subst er
            refine lv_icmp_ne (tgt := 44) hx hb dX0_meetsEarlier_39 (by decide) (fun c9 => ?_) (fun c9 => ?_)
            · replace hm := mt_neg c9 hm
              refine lv_iinc (v := (x2_3 + (1 : Int32))) (lv' := [(2, .int (x2_3 + (1 : Int32))), (0, .ref h0), (1, .int p1)]) hx hb dX0_meetsEarlier_44 hl (k := 2) rfl rfl (by decide) rfl (fun ls hl => ?_)
              refine lv_goto (tgt := 3) hx hb dX0_meetsEarlier_47 (by decide) ?_
              exact ih3 (x2_3 + (1 : Int32)) _ hm (lv_sub hl [1, 2, 0] rfl)
            · replace hm := mt_pos c9 hm
              refine lv_iconst (v := (1 : Int32)) hx hb dX0_meetsEarlier_42 (by decide) ?_
              obtain rfl := Option.some.inj hm
              exact W.zret hx hb hr mt_z1 (fun t ht hW => ⟨_, rfl, rfl, ht⟩) t_nil dX0_meetsEarlier_43
  exact L3 fu (41 : Int32) _ hm (lv_sub hl [1, 2, 0] rfl)
def m_X0_someCallsMeet_L3 (fu : Nat) (a0_there : Nat → Int32) (a0_corner : Nat → Int32) (a0_third : Nat → Int32) (K33 : Int32 → Option (Int32)) : Nat → Int32 → Option (Int32)
  | 0, _ => none
  | n3 + 1, x1_3 => if (62 : Int32) ≤ x1_3 then K33 x1_3 else (m_X5_isThere x1_3 a0_there).bind fun q2 => if q2 = 0 then m_X0_someCallsMeet_L3 fu a0_there a0_corner a0_third K33 n3 (x1_3 + (1 : Int32)) else (m_X0_meetsEarlier fu x1_3 a0_there a0_corner a0_third).bind fun q4 => if q4 = 0 then m_X0_someCallsMeet_L3 fu a0_there a0_corner a0_third K33 n3 (x1_3 + (1 : Int32)) else some (1 : Int32)
def m_X0_someCallsMeet (fu : Nat) (a0_there : Nat → Int32) (a0_corner : Nat → Int32) (a0_third : Nat → Int32) : Option (Int32) := mt_j (fun (x1_33 : Int32) => some (0 : Int32)) fun K33 => m_X0_someCallsMeet_L3 fu a0_there a0_corner a0_third K33 fu (41 : Int32)
set_option maxHeartbeats 4000000 in
set_option maxRecDepth 100000 in
theorem c_X0_someCallsMeet (l : Launch) (dC : Nat → ClassId) (dI : Nat → Nat → Nat) (cZ cI cL : ClassId) (h0 h0_had h0_there h0_corner h0_second h0_third : Nat) (a0_seed : Int32) (a0_size : Int32) (a0_parts : Int32) (a0_had : Nat → Int32) (a0_there : Nat → Int32) (a0_corner : Nat → Int32) (a0_second : Nat → Int32) (a0_third : Nat → Int32) (fu : Nat) (q : Int32) (hm : m_X0_someCallsMeet fu a0_there a0_corner a0_third = some q) : Met l yX0_someCallsMeet wsX0_someCallsMeet ({ frames := 3, cells := 0, slots := 0, locals := 63 }) (va_Pc [.ref h0] (mt_R (dC, dI) cZ cI cL [(h0, .inr (5, [.ref h0_had, .ref h0_there, .ref h0_corner, .ref h0_second, .ref h0_third, .int a0_seed, .int a0_size, .int a0_parts])), (h0_had, .inl (cZ, 62, .inl a0_had)), (h0_there, .inl (cZ, 62, .inl a0_there)), (h0_corner, .inl (cI, 62, .inl a0_corner)), (h0_second, .inl (cI, 62, .inl a0_second)), (h0_third, .inl (cI, 62, .inl a0_third))])) (vp_Si (fun r => r = q)) 0 0 (fun _ => False) := by
  refine Met.ofW (cc := cX0_someCallsMeet) (maxL := 2) (ret := (some .boolean)) (by decide) rfl ?_
  intro p e s m args below meth c s₁ B hml hv
  obtain ⟨rfl, hP, hC⟩ := hv
  have hx := B.exec
  have hb := B.bytes
  have hr := B.returns
  have hts := atoms_spec (ws := wsX0_someCallsMeet) B.pre
  have hown : s.vm.findClass RX0 = some m.cls := findClass_of_methodNamed B.named
  have hlocks := B.notSynchronized
  have hK := hC.1
  have hl := lv_entry [.ref h0] (n := 2) (Nat.le_of_ble_eq_true rfl)
  rw [lg_entry_eq]
  generalize (lg_sl [.ref h0] ++ List.replicate (2 - (lg_sl [.ref h0]).length) Slot.unset).toArray = ls at hl ⊢
  have hl : lv_has ls 2 [(0, .ref h0)] := hl
  rw [m_X0_someCallsMeet] at hm
  refine lv_bipush (v := (41 : Int32)) hx hb dX0_someCallsMeet_0 (by decide) ?_
  refine lv_istore_n (lv' := [(1, .int (41 : Int32)), (0, .ref h0)]) hx hb dX0_someCallsMeet_2 rfl hl (by decide) rfl (fun ls hl => ?_)
  obtain ⟨K33, hK33, hm⟩ := mt_jx hm
  have J33 : ∀ (x1_33 : Int32), ∀ (ls : Array Slot), K33 x1_33 = some q → lv_has ls 2 [(0, .ref h0), (1, .int x1_33)] → W p l e (headSpec wsX0_someCallsMeet ({ frames := 3, cells := 0, slots := 0, locals := 63 })).room s m [.ref h0].toArray below meth c s.heap [] 0 0 (MQ below (vp_Si (fun r => r = q)) [.ref h0].toArray s 0 0 (fun _ => False)) (F0 m 33 ls []) := by
    intro x1_33 ls hm hl
    replace hm := mt_app1 hK33 hm
    refine lv_iconst (v := (0 : Int32)) hx hb dX0_someCallsMeet_33 (by decide) ?_
    obtain rfl := Option.some.inj hm
    exact W.zret hx hb hr mt_z0 (fun t ht hW => ⟨_, rfl, rfl, ht⟩) t_nil dX0_someCallsMeet_34
  have L3 : ∀ n3 : Nat, ∀ (x1_3 : Int32), ∀ (ls : Array Slot), m_X0_someCallsMeet_L3 fu a0_there a0_corner a0_third K33 n3 x1_3 = some q → lv_has ls 2 [(0, .ref h0), (1, .int x1_3)] → W p l e (headSpec wsX0_someCallsMeet ({ frames := 3, cells := 0, slots := 0, locals := 63 })).room s m [.ref h0].toArray below meth c s.heap [] 0 0 (MQ below (vp_Si (fun r => r = q)) [.ref h0].toArray s 0 0 (fun _ => False)) (F0 m 3 ls []) := by
    intro n3
    induction n3 with
    | zero =>
      intro x1_3 ls hm hl
      exact absurd hm (fun h => nomatch h)
    | succ n3 ih3 =>
      intro x1_3 ls hm hl
      rw [m_X0_someCallsMeet_L3] at hm
      refine lv_iload_n hx hb dX0_someCallsMeet_3 rfl (lv_at hl 1 rfl) ?_
      refine lv_bipush (v := (62 : Int32)) hx hb dX0_someCallsMeet_4 (by decide) ?_
      refine lv_icmp_ge (tgt := 33) hx hb dX0_someCallsMeet_6 (by decide) (fun c1 => ?_) (fun c1 => ?_)
      · replace hm := mt_pos c1 hm
        exact J33 x1_3 _ hm (lv_sub hl [0, 1] rfl)
      · replace hm := mt_neg c1 hm
        refine lv_aload_n hx hb dX0_someCallsMeet_9 rfl (lv_at hl 0 rfl) ?_
        refine lv_iload_n hx hb dX0_someCallsMeet_10 rfl (lv_at hl 1 rfl) ?_
        obtain ⟨q2, hq2, hm⟩ := mt_bind hm
        refine vp_callSi (va_Run.run (va_runV (As := [.int x1_3]) (rest := []) ⟨hx, hb, hml, hown, hts⟩ (c_X5_isThere l dC dI cZ cI cL h0 h0_had h0_there h0_corner h0_second h0_third x1_3 a0_seed a0_size a0_parts a0_had a0_there a0_corner a0_second a0_third q2 hq2) (cwV 1 hts gX0_someCallsMeet_X5_isThere rfl rfl rfl (by decide +kernel) ⟨Nat.le_of_ble_eq_true rfl, Nat.le_of_ble_eq_true rfl⟩) (mt_vR (q := (RX5, TX5, 8)) 5 hC (hP.sub (ws' := [(h0, .inr (5, [.ref h0_had, .ref h0_there, .ref h0_corner, .ref h0_second, .ref h0_third, .int a0_seed, .int a0_size, .int a0_parts])), (h0_had, .inl (cZ, 62, .inl a0_had)), (h0_there, .inl (cZ, 62, .inl a0_there)), (h0_corner, .inl (cI, 62, .inl a0_corner)), (h0_second, .inl (cI, 62, .inl a0_second)), (h0_third, .inl (cI, 62, .inl a0_third))]) [0, 1, 2, 3, 4, 5] rfl) rfl rfl) rfl rfl hl.1 rfl (lv_room (Nat.le_of_ble_eq_true rfl)) dX0_someCallsMeet_11 ⟨Nat.le_of_ble_eq_true rfl, Nat.le_of_ble_eq_true rfl⟩)) (fun r er => ?_)
        replace er := er.symm
        subst er
        refine lv_if_eq (tgt := 27) hx hb dX0_someCallsMeet_14 (by decide) (fun c3 => ?_) (fun c3 => ?_)
        · replace hm := mt_pos c3 hm
          refine lv_iinc (v := (x1_3 + (1 : Int32))) (lv' := [(1, .int (x1_3 + (1 : Int32))), (0, .ref h0)]) hx hb dX0_someCallsMeet_27 hl (k := 1) rfl rfl (by decide) rfl (fun ls hl => ?_)
          refine lv_goto (tgt := 3) hx hb dX0_someCallsMeet_30 (by decide) ?_
          exact ih3 (x1_3 + (1 : Int32)) _ hm (lv_sub hl [1, 0] rfl)
        · replace hm := mt_neg c3 hm
          refine lv_aload_n hx hb dX0_someCallsMeet_17 rfl (lv_at hl 0 rfl) ?_
          refine lv_iload_n hx hb dX0_someCallsMeet_18 rfl (lv_at hl 1 rfl) ?_
          obtain ⟨q4, hq4, hm⟩ := mt_bind hm
          refine vp_callSi (va_Run.run (va_runS (As := [.ref h0, .int x1_3]) (rest := []) ⟨hx, hb, hml, hown, hts⟩ (c_X0_meetsEarlier l dC dI cZ cI cL h0 h0_had h0_there h0_corner h0_second h0_third x1_3 a0_seed a0_size a0_parts a0_had a0_there a0_corner a0_second a0_third fu q4 hq4) (va_cwS 2 hts gX0_someCallsMeet_X0_meetsEarlier rfl rfl rfl (by decide +kernel) ⟨Nat.le_of_ble_eq_true rfl, Nat.le_of_ble_eq_true rfl⟩) (mt_pR hC (hP.sub (ws' := [(h0, .inr (5, [.ref h0_had, .ref h0_there, .ref h0_corner, .ref h0_second, .ref h0_third, .int a0_seed, .int a0_size, .int a0_parts])), (h0_had, .inl (cZ, 62, .inl a0_had)), (h0_there, .inl (cZ, 62, .inl a0_there)), (h0_corner, .inl (cI, 62, .inl a0_corner)), (h0_second, .inl (cI, 62, .inl a0_second)), (h0_third, .inl (cI, 62, .inl a0_third))]) [0, 1, 2, 3, 4, 5] rfl)) rfl rfl hl.1 rfl (lv_room (Nat.le_of_ble_eq_true rfl)) dX0_someCallsMeet_19 ⟨Nat.le_of_ble_eq_true rfl, Nat.le_of_ble_eq_true rfl⟩)) (fun r er => ?_)
          replace er := er.symm
          subst er
          refine lv_if_eq (tgt := 27) hx hb dX0_someCallsMeet_22 (by decide) (fun c5 => ?_) (fun c5 => ?_)
          · replace hm := mt_pos c5 hm
            refine lv_iinc (v := (x1_3 + (1 : Int32))) (lv' := [(1, .int (x1_3 + (1 : Int32))), (0, .ref h0)]) hx hb dX0_someCallsMeet_27 hl (k := 1) rfl rfl (by decide) rfl (fun ls hl => ?_)
            refine lv_goto (tgt := 3) hx hb dX0_someCallsMeet_30 (by decide) ?_
            exact ih3 (x1_3 + (1 : Int32)) _ hm (lv_sub hl [1, 0] rfl)
          · replace hm := mt_neg c5 hm
            refine lv_iconst (v := (1 : Int32)) hx hb dX0_someCallsMeet_25 (by decide) ?_
            obtain rfl := Option.some.inj hm
            exact W.zret hx hb hr mt_z1 (fun t ht hW => ⟨_, rfl, rfl, ht⟩) t_nil dX0_someCallsMeet_26
  exact L3 fu (41 : Int32) _ hm (lv_sub hl [1, 0] rfl)
def m_X0_someUnitHas_L3 (p1 : Int32) (a0_there : Nat → Int32) (a0_second : Nat → Int32) (K38 : Int32 → Option (Int32)) : Nat → Int32 → Option (Int32)
  | 0, _ => none
  | n3 + 1, x2_3 => if (41 : Int32) ≤ x2_3 then K38 x2_3 else (m_X5_isThere x2_3 a0_there).bind fun q2 => if q2 = 0 then m_X0_someUnitHas_L3 p1 a0_there a0_second K38 n3 (x2_3 + (1 : Int32)) else (m_X5_secondOf x2_3 a0_second).bind fun q4 => if ((q4 >>> (p1 &&& 31)) &&& (1 : Int32)) = (1 : Int32) then some (1 : Int32) else m_X0_someUnitHas_L3 p1 a0_there a0_second K38 n3 (x2_3 + (1 : Int32))
def m_X0_someUnitHas (fu : Nat) (p1 : Int32) (a0_there : Nat → Int32) (a0_second : Nat → Int32) : Option (Int32) := mt_j (fun (x2_38 : Int32) => some (0 : Int32)) fun K38 => m_X0_someUnitHas_L3 p1 a0_there a0_second K38 fu (30 : Int32)
set_option maxHeartbeats 4000000 in
set_option maxRecDepth 100000 in
theorem c_X0_someUnitHas (l : Launch) (dC : Nat → ClassId) (dI : Nat → Nat → Nat) (cZ cI cL : ClassId) (h0 h0_had h0_there h0_corner h0_second h0_third : Nat) (p1 : Int32) (a0_seed : Int32) (a0_size : Int32) (a0_parts : Int32) (a0_had : Nat → Int32) (a0_there : Nat → Int32) (a0_corner : Nat → Int32) (a0_second : Nat → Int32) (a0_third : Nat → Int32) (fu : Nat) (q : Int32) (hm : m_X0_someUnitHas fu p1 a0_there a0_second = some q) : Met l yX0_someUnitHas wsX0_someUnitHas ({ frames := 2, cells := 0, slots := 0, locals := 41 }) (va_Pc [.ref h0, .int p1] (mt_R (dC, dI) cZ cI cL [(h0, .inr (5, [.ref h0_had, .ref h0_there, .ref h0_corner, .ref h0_second, .ref h0_third, .int a0_seed, .int a0_size, .int a0_parts])), (h0_had, .inl (cZ, 62, .inl a0_had)), (h0_there, .inl (cZ, 62, .inl a0_there)), (h0_corner, .inl (cI, 62, .inl a0_corner)), (h0_second, .inl (cI, 62, .inl a0_second)), (h0_third, .inl (cI, 62, .inl a0_third))])) (vp_Si (fun r => r = q)) 0 0 (fun _ => False) := by
  refine Met.ofW (cc := cX0_someUnitHas) (maxL := 3) (ret := (some .boolean)) (by decide) rfl ?_
  intro p e s m args below meth c s₁ B hml hv
  obtain ⟨rfl, hP, hC⟩ := hv
  have hx := B.exec
  have hb := B.bytes
  have hr := B.returns
  have hts := atoms_spec (ws := wsX0_someUnitHas) B.pre
  have hown : s.vm.findClass RX0 = some m.cls := findClass_of_methodNamed B.named
  have hlocks := B.notSynchronized
  have hK := hC.1
  have hl := lv_entry [.ref h0, .int p1] (n := 3) (Nat.le_of_ble_eq_true rfl)
  rw [lg_entry_eq]
  generalize (lg_sl [.ref h0, .int p1] ++ List.replicate (3 - (lg_sl [.ref h0, .int p1]).length) Slot.unset).toArray = ls at hl ⊢
  have hl : lv_has ls 3 [(0, .ref h0), (1, .int p1)] := hl
  rw [m_X0_someUnitHas] at hm
  refine lv_bipush (v := (30 : Int32)) hx hb dX0_someUnitHas_0 (by decide) ?_
  refine lv_istore_n (lv' := [(2, .int (30 : Int32)), (0, .ref h0), (1, .int p1)]) hx hb dX0_someUnitHas_2 rfl hl (by decide) rfl (fun ls hl => ?_)
  obtain ⟨K38, hK38, hm⟩ := mt_jx hm
  have J38 : ∀ (x2_38 : Int32), ∀ (ls : Array Slot), K38 x2_38 = some q → lv_has ls 3 [(0, .ref h0), (1, .int p1), (2, .int x2_38)] → W p l e (headSpec wsX0_someUnitHas ({ frames := 2, cells := 0, slots := 0, locals := 41 })).room s m [.ref h0, .int p1].toArray below meth c s.heap [] 0 0 (MQ below (vp_Si (fun r => r = q)) [.ref h0, .int p1].toArray s 0 0 (fun _ => False)) (F0 m 38 ls []) := by
    intro x2_38 ls hm hl
    replace hm := mt_app1 hK38 hm
    refine lv_iconst (v := (0 : Int32)) hx hb dX0_someUnitHas_38 (by decide) ?_
    obtain rfl := Option.some.inj hm
    exact W.zret hx hb hr mt_z0 (fun t ht hW => ⟨_, rfl, rfl, ht⟩) t_nil dX0_someUnitHas_39
  have L3 : ∀ n3 : Nat, ∀ (x2_3 : Int32), ∀ (ls : Array Slot), m_X0_someUnitHas_L3 p1 a0_there a0_second K38 n3 x2_3 = some q → lv_has ls 3 [(0, .ref h0), (1, .int p1), (2, .int x2_3)] → W p l e (headSpec wsX0_someUnitHas ({ frames := 2, cells := 0, slots := 0, locals := 41 })).room s m [.ref h0, .int p1].toArray below meth c s.heap [] 0 0 (MQ below (vp_Si (fun r => r = q)) [.ref h0, .int p1].toArray s 0 0 (fun _ => False)) (F0 m 3 ls []) := by
    intro n3
    induction n3 with
    | zero =>
      intro x2_3 ls hm hl
      exact absurd hm (fun h => nomatch h)
    | succ n3 ih3 =>
      intro x2_3 ls hm hl
      rw [m_X0_someUnitHas_L3] at hm
      refine lv_iload_n hx hb dX0_someUnitHas_3 rfl (lv_at hl 2 rfl) ?_
      refine lv_bipush (v := (41 : Int32)) hx hb dX0_someUnitHas_4 (by decide) ?_
      refine lv_icmp_ge (tgt := 38) hx hb dX0_someUnitHas_6 (by decide) (fun c1 => ?_) (fun c1 => ?_)
      · replace hm := mt_pos c1 hm
        exact J38 x2_3 _ hm (lv_sub hl [0, 1, 2] rfl)
      · replace hm := mt_neg c1 hm
        refine lv_aload_n hx hb dX0_someUnitHas_9 rfl (lv_at hl 0 rfl) ?_
        refine lv_iload_n hx hb dX0_someUnitHas_10 rfl (lv_at hl 2 rfl) ?_
        obtain ⟨q2, hq2, hm⟩ := mt_bind hm
        refine vp_callSi (va_Run.run (va_runV (As := [.int x2_3]) (rest := []) ⟨hx, hb, hml, hown, hts⟩ (c_X5_isThere l dC dI cZ cI cL h0 h0_had h0_there h0_corner h0_second h0_third x2_3 a0_seed a0_size a0_parts a0_had a0_there a0_corner a0_second a0_third q2 hq2) (cwV 1 hts gX0_someUnitHas_X5_isThere rfl rfl rfl (by decide +kernel) ⟨Nat.le_of_ble_eq_true rfl, Nat.le_of_ble_eq_true rfl⟩) (mt_vR (q := (RX5, TX5, 8)) 5 hC (hP.sub (ws' := [(h0, .inr (5, [.ref h0_had, .ref h0_there, .ref h0_corner, .ref h0_second, .ref h0_third, .int a0_seed, .int a0_size, .int a0_parts])), (h0_had, .inl (cZ, 62, .inl a0_had)), (h0_there, .inl (cZ, 62, .inl a0_there)), (h0_corner, .inl (cI, 62, .inl a0_corner)), (h0_second, .inl (cI, 62, .inl a0_second)), (h0_third, .inl (cI, 62, .inl a0_third))]) [0, 1, 2, 3, 4, 5] rfl) rfl rfl) rfl rfl hl.1 rfl (lv_room (Nat.le_of_ble_eq_true rfl)) dX0_someUnitHas_11 ⟨Nat.le_of_ble_eq_true rfl, Nat.le_of_ble_eq_true rfl⟩)) (fun r er => ?_)
        replace er := er.symm
        subst er
        refine lv_if_eq (tgt := 32) hx hb dX0_someUnitHas_14 (by decide) (fun c3 => ?_) (fun c3 => ?_)
        · replace hm := mt_pos c3 hm
          refine lv_iinc (v := (x2_3 + (1 : Int32))) (lv' := [(2, .int (x2_3 + (1 : Int32))), (0, .ref h0), (1, .int p1)]) hx hb dX0_someUnitHas_32 hl (k := 2) rfl rfl (by decide) rfl (fun ls hl => ?_)
          refine lv_goto (tgt := 3) hx hb dX0_someUnitHas_35 (by decide) ?_
          exact ih3 (x2_3 + (1 : Int32)) _ hm (lv_sub hl [1, 2, 0] rfl)
        · replace hm := mt_neg c3 hm
          refine lv_aload_n hx hb dX0_someUnitHas_17 rfl (lv_at hl 0 rfl) ?_
          refine lv_iload_n hx hb dX0_someUnitHas_18 rfl (lv_at hl 2 rfl) ?_
          obtain ⟨q4, hq4, hm⟩ := mt_bind hm
          refine vp_callSi (va_Run.run (va_runV (As := [.int x2_3]) (rest := []) ⟨hx, hb, hml, hown, hts⟩ (c_X5_secondOf l dC dI cZ cI cL h0 h0_had h0_there h0_corner h0_second h0_third x2_3 a0_seed a0_size a0_parts a0_had a0_there a0_corner a0_second a0_third q4 hq4) (cwV 1 hts gX0_someUnitHas_X5_secondOf rfl rfl rfl (by decide +kernel) ⟨Nat.le_of_ble_eq_true rfl, Nat.le_of_ble_eq_true rfl⟩) (mt_vR (q := (RX5, TX5, 8)) 5 hC (hP.sub (ws' := [(h0, .inr (5, [.ref h0_had, .ref h0_there, .ref h0_corner, .ref h0_second, .ref h0_third, .int a0_seed, .int a0_size, .int a0_parts])), (h0_had, .inl (cZ, 62, .inl a0_had)), (h0_there, .inl (cZ, 62, .inl a0_there)), (h0_corner, .inl (cI, 62, .inl a0_corner)), (h0_second, .inl (cI, 62, .inl a0_second)), (h0_third, .inl (cI, 62, .inl a0_third))]) [0, 1, 2, 3, 4, 5] rfl) rfl rfl) rfl rfl hl.1 rfl (lv_room (Nat.le_of_ble_eq_true rfl)) dX0_someUnitHas_19 ⟨Nat.le_of_ble_eq_true rfl, Nat.le_of_ble_eq_true rfl⟩)) (fun r er => ?_)
          replace er := er.symm
          subst er
          refine lv_iload_n hx hb dX0_someUnitHas_22 rfl (lv_at hl 1 rfl) ?_
          refine lv_ishr hx hb dX0_someUnitHas_23 ?_
          refine lv_iconst (v := (1 : Int32)) hx hb dX0_someUnitHas_24 (by decide) ?_
          refine lv_iand hx hb dX0_someUnitHas_25 ?_
          refine lv_iconst (v := (1 : Int32)) hx hb dX0_someUnitHas_26 (by decide) ?_
          refine lv_icmp_ne (tgt := 32) hx hb dX0_someUnitHas_27 (by decide) (fun c5 => ?_) (fun c5 => ?_)
          · replace hm := mt_neg c5 hm
            refine lv_iinc (v := (x2_3 + (1 : Int32))) (lv' := [(2, .int (x2_3 + (1 : Int32))), (0, .ref h0), (1, .int p1)]) hx hb dX0_someUnitHas_32 hl (k := 2) rfl rfl (by decide) rfl (fun ls hl => ?_)
            refine lv_goto (tgt := 3) hx hb dX0_someUnitHas_35 (by decide) ?_
            exact ih3 (x2_3 + (1 : Int32)) _ hm (lv_sub hl [1, 2, 0] rfl)
          · replace hm := mt_pos c5 hm
            refine lv_iconst (v := (1 : Int32)) hx hb dX0_someUnitHas_30 (by decide) ?_
            obtain rfl := Option.some.inj hm
            exact W.zret hx hb hr mt_z1 (fun t ht hW => ⟨_, rfl, rfl, ht⟩) t_nil dX0_someUnitHas_31
  exact L3 fu (30 : Int32) _ hm (lv_sub hl [1, 2, 0] rfl)
def m_X3_shorten (p1 : Int32) (p2 : Int32) (p3 : Int32) (v_metres : Nat → Int32) : Option (Int32 × (Nat → Int32)) := (m_X6_isCorner p1).bind fun q1 => if q1 = 0 then some ((0 : Int32), v_metres) else (m_X6_isCorner p2).bind fun q3 => if q3 = 0 then some ((0 : Int32), v_metres) else if (¬ (p1 < 0 ∨ 21 ≤ p1.toNatClampNeg)) then if (¬ (p2 < 0 ∨ 21 ≤ p2.toNatClampNeg)) then if ((v_metres p1.toNatClampNeg) + p3) < (v_metres p2.toNatClampNeg) then if (¬ (p1 < 0 ∨ 21 ≤ p1.toNatClampNeg)) then if (¬ (p2 < 0 ∨ 21 ≤ p2.toNatClampNeg)) then some ((1 : Int32), (upd v_metres p2.toNatClampNeg ((v_metres p1.toNatClampNeg) + p3))) else none else none else some ((0 : Int32), v_metres) else none else none
set_option maxHeartbeats 4000000 in
set_option maxRecDepth 100000 in
theorem c_X3_shorten (l : Launch) (dC : Nat → ClassId) (dI : Nat → Nat → Nat) (cZ cI cL : ClassId) (h0 h0_metres h0_skills : Nat) (sz : Nat) (p1 : Int32) (p2 : Int32) (p3 : Int32) (v_metres : Nat → Int32) (v_skills : Nat → Int32) (q : Int32 × (Nat → Int32)) (hm : m_X3_shorten p1 p2 p3 v_metres = some q) : Met l yX3_shorten wsX3_shorten ({ frames := 1, cells := 0, slots := 0, locals := 20 }) (va_Pc [.ref h0, .int p1, .int p2, .int p3] (mt_S (dC, dI) cZ cI cL sz [(h0, .inr (3, [.ref h0_metres, .ref h0_skills])), (h0_metres, .inl (cI, 21, .inl v_metres)), (h0_skills, .inl (cI, 21, .inl v_skills))])) (va_Qi (fun (r : Int32) (_ : Unit) => r = q.1) (fun _ t => va_P (dC, dI) vwCl [(h0, .inr (3, [.ref h0_metres, .ref h0_skills])), (h0_metres, .inl (cI, 21, .inl q.2)), (h0_skills, .inl (cI, 21, .inl v_skills))] t.heap ∧ va_D (va_A [(h0, .inr (3, [.ref h0_metres, .ref h0_skills])), (h0_metres, .inl (cI, 21, .inl v_metres)), (h0_skills, .inl (cI, 21, .inl v_skills))] sz) [(h0, .inr (3, [.ref h0_metres, .ref h0_skills])), (h0_metres, .inl (cI, 21, .inl q.2)), (h0_skills, .inl (cI, 21, .inl v_skills))]) (va_A [(h0, .inr (3, [.ref h0_metres, .ref h0_skills])), (h0_metres, .inl (cI, 21, .inl v_metres)), (h0_skills, .inl (cI, 21, .inl v_skills))] sz)) 0 0 (va_A [(h0, .inr (3, [.ref h0_metres, .ref h0_skills])), (h0_metres, .inl (cI, 21, .inl v_metres)), (h0_skills, .inl (cI, 21, .inl v_skills))] sz) := by
  refine Met.ofW (cc := cX3_shorten) (maxL := 4) (ret := (some .boolean)) (by decide) rfl ?_
  intro p e s m args below meth c s₁ B hml hv
  obtain ⟨rfl, hsz, hP, hC, hD0⟩ := hv
  have hx := B.exec
  have hb := B.bytes
  have hr := B.returns
  have hts := atoms_spec (ws := wsX3_shorten) B.pre
  have hown : s.vm.findClass RX3 = some m.cls := findClass_of_methodNamed B.named
  have hlocks := B.notSynchronized
  have hK := hC.1
  have hiX3 : ∀ w ∈ wsX30, w ∈ wsX3_shorten := by decide +kernel
  subst hsz
  have hD := hD0.self (sz := s.heap.size)
  generalize hAe : va_A [(h0, .inr (3, [.ref h0_metres, .ref h0_skills])), (h0_metres, .inl (cI, 21, .inl v_metres)), (h0_skills, .inl (cI, 21, .inl v_skills))] s.heap.size = A at hD ⊢
  have hA : ∀ q : Nat, s.heap.size ≤ q → A q := fun q h => by rw [← hAe]; exact Or.inr h
  have hS : va_S A s.heap s.heap [] := va_S.rf
  have hl := lv_entry [.ref h0, .int p1, .int p2, .int p3] (n := 4) (Nat.le_of_ble_eq_true rfl)
  rw [lg_entry_eq]
  generalize (lg_sl [.ref h0, .int p1, .int p2, .int p3] ++ List.replicate (4 - (lg_sl [.ref h0, .int p1, .int p2, .int p3]).length) Slot.unset).toArray = ls at hl ⊢
  have hl : lv_has ls 4 [(0, .ref h0), (1, .int p1), (2, .int p2), (3, .int p3)] := hl
  rw [m_X3_shorten] at hm
  refine lv_iload_n hx hb dX3_shorten_0 rfl (lv_at hl 1 rfl) ?_
  obtain ⟨q1, hq1, hm⟩ := mt_bind hm
  refine vp_callSi (va_Run.run (va_runSN (As := [.int p1]) (rest := []) ⟨hx, hb, hml, hown, hts⟩ (c_X6_isCorner l dC dI cZ cI cL p1 q1 hq1) ⟨(va_cnB 1 hts gX3_shorten_X6_isCorner_n39 rfl rfl rfl (hC.2.m RX3 39 yX6_isCorner "ServiceDrawer" (by decide +kernel)) (hts (.initialized RX6) (by decide +kernel)) (by decide +kernel) ⟨Nat.le_of_ble_eq_true rfl, Nat.le_of_ble_eq_true rfl⟩), hts (.static yX6_isCorner) (by decide +kernel), trivial⟩ (mt_pR hC (hP.sub (ws' := []) [] rfl)) rfl rfl hl.1 rfl (lv_room (Nat.le_of_ble_eq_true rfl)) dX3_shorten_1 ⟨Nat.le_of_ble_eq_true rfl, Nat.le_of_ble_eq_true rfl⟩)) (fun r er => ?_)
  replace er := er.symm
  subst er
  refine lv_if_eq (tgt := 31) hx hb dX3_shorten_4 (by decide) (fun c2 => ?_) (fun c2 => ?_)
  · replace hm := mt_pos c2 hm
    refine lv_iconst (v := (0 : Int32)) hx hb dX3_shorten_31 (by decide) ?_
    obtain rfl := Option.some.inj hm
    exact W.zret hx hb hr mt_z0 (fun t ht hW => ⟨⟨_, (), rfl, rfl, by rw [ht]; exact hP, hD⟩, hS.F ht⟩) hS.2.2 dX3_shorten_32
  · replace hm := mt_neg c2 hm
    refine lv_iload_n hx hb dX3_shorten_7 rfl (lv_at hl 2 rfl) ?_
    obtain ⟨q3, hq3, hm⟩ := mt_bind hm
    refine vp_callSi (va_Run.run (va_runSN (As := [.int p2]) (rest := []) ⟨hx, hb, hml, hown, hts⟩ (c_X6_isCorner l dC dI cZ cI cL p2 q3 hq3) ⟨(va_cnB 1 hts gX3_shorten_X6_isCorner_n39 rfl rfl rfl (hC.2.m RX3 39 yX6_isCorner "ServiceDrawer" (by decide +kernel)) (hts (.initialized RX6) (by decide +kernel)) (by decide +kernel) ⟨Nat.le_of_ble_eq_true rfl, Nat.le_of_ble_eq_true rfl⟩), hts (.static yX6_isCorner) (by decide +kernel), trivial⟩ (mt_pR hC (hP.sub (ws' := []) [] rfl)) rfl rfl hl.1 rfl (lv_room (Nat.le_of_ble_eq_true rfl)) dX3_shorten_8 ⟨Nat.le_of_ble_eq_true rfl, Nat.le_of_ble_eq_true rfl⟩)) (fun r er => ?_)
    replace er := er.symm
    subst er
    refine lv_if_eq (tgt := 31) hx hb dX3_shorten_11 (by decide) (fun c4 => ?_) (fun c4 => ?_)
    · replace hm := mt_pos c4 hm
      refine lv_iconst (v := (0 : Int32)) hx hb dX3_shorten_31 (by decide) ?_
      obtain rfl := Option.some.inj hm
      exact W.zret hx hb hr mt_z0 (fun t ht hW => ⟨⟨_, (), rfl, rfl, by rw [ht]; exact hP, hD⟩, hS.F ht⟩) hS.2.2 dX3_shorten_32
    · replace hm := mt_neg c4 hm
      refine lv_aload_n hx hb dX3_shorten_14 rfl (lv_at hl 0 rfl) ?_
      refine va_get (D := (dC, dI)) (ci := 3) (v := .ref h0_metres) (C := RX3) (T := TX3) (N := 2) hx hb hts hiX3 hown hK hP 0 rfl rfl 0 (by decide) (hts (.fieldLink RX3 9 "ServiceDrawer$Roads" "metres" "[I") (by decide +kernel)) (fun _ h9 => h9) rfl dX3_shorten_15 ?_
      refine lv_iload_n hx hb dX3_shorten_18 rfl (lv_at hl 1 rfl) ?_
      obtain ⟨g5, hm⟩ := mt_gd hm
      refine va_iald hx hb hK hP 1 1 rfl rfl g5 dX3_shorten_19 ?_
      refine lv_iload_n hx hb dX3_shorten_20 rfl (lv_at hl 3 rfl) ?_
      refine lv_iadd hx hb dX3_shorten_21 ?_
      refine lv_aload_n hx hb dX3_shorten_22 rfl (lv_at hl 0 rfl) ?_
      refine va_get (D := (dC, dI)) (ci := 3) (v := .ref h0_metres) (C := RX3) (T := TX3) (N := 2) hx hb hts hiX3 hown hK hP 0 rfl rfl 0 (by decide) (hts (.fieldLink RX3 9 "ServiceDrawer$Roads" "metres" "[I") (by decide +kernel)) (fun _ h9 => h9) rfl dX3_shorten_23 ?_
      refine lv_iload_n hx hb dX3_shorten_26 rfl (lv_at hl 2 rfl) ?_
      obtain ⟨g6, hm⟩ := mt_gd hm
      refine va_iald hx hb hK hP 1 1 rfl rfl g6 dX3_shorten_27 ?_
      refine lv_icmp_lt (tgt := 33) hx hb dX3_shorten_28 (by decide) (fun c7 => ?_) (fun c7 => ?_)
      · replace hm := mt_pos c7 hm
        refine lv_aload_n hx hb dX3_shorten_33 rfl (lv_at hl 0 rfl) ?_
        refine va_get (D := (dC, dI)) (ci := 3) (v := .ref h0_metres) (C := RX3) (T := TX3) (N := 2) hx hb hts hiX3 hown hK hP 0 rfl rfl 0 (by decide) (hts (.fieldLink RX3 9 "ServiceDrawer$Roads" "metres" "[I") (by decide +kernel)) (fun _ h9 => h9) rfl dX3_shorten_34 ?_
        refine lv_iload_n hx hb dX3_shorten_37 rfl (lv_at hl 2 rfl) ?_
        refine lv_aload_n hx hb dX3_shorten_38 rfl (lv_at hl 0 rfl) ?_
        refine va_get (D := (dC, dI)) (ci := 3) (v := .ref h0_metres) (C := RX3) (T := TX3) (N := 2) hx hb hts hiX3 hown hK hP 0 rfl rfl 0 (by decide) (hts (.fieldLink RX3 9 "ServiceDrawer$Roads" "metres" "[I") (by decide +kernel)) (fun _ h9 => h9) rfl dX3_shorten_39 ?_
        refine lv_iload_n hx hb dX3_shorten_42 rfl (lv_at hl 1 rfl) ?_
        obtain ⟨g8, hm⟩ := mt_gd hm
        refine va_iald hx hb hK hP 1 1 rfl rfl g8 dX3_shorten_43 ?_
        refine lv_iload_n hx hb dX3_shorten_44 rfl (lv_at hl 3 rfl) ?_
        refine lv_iadd hx hb dX3_shorten_45 ?_
        obtain ⟨g9, hm⟩ := mt_gd hm
        refine va_iast hx hb hK hP hD hS 1 1 rfl rfl g9 dX3_shorten_46 (fun H locs hP hD hS => ?_)
        have hP : va_P (dC, dI) vwCl [(h0, .inr (3, [.ref h0_metres, .ref h0_skills])), (h0_metres, .inl (cI, 21, .inl (upd v_metres p2.toNatClampNeg ((v_metres p1.toNatClampNeg) + p3)))), (h0_skills, .inl (cI, 21, .inl v_skills))] H := hP
        have hD : va_D A [(h0, .inr (3, [.ref h0_metres, .ref h0_skills])), (h0_metres, .inl (cI, 21, .inl (upd v_metres p2.toNatClampNeg ((v_metres p1.toNatClampNeg) + p3)))), (h0_skills, .inl (cI, 21, .inl v_skills))] := hD
        refine lv_iconst (v := (1 : Int32)) hx hb dX3_shorten_47 (by decide) ?_
        obtain rfl := Option.some.inj hm
        exact W.zret hx hb hr mt_z1 (fun t ht hW => ⟨⟨_, (), rfl, rfl, by rw [ht]; exact hP, hD⟩, hS.F ht⟩) hS.2.2 dX3_shorten_48
      · replace hm := mt_neg c7 hm
        refine lv_iconst (v := (0 : Int32)) hx hb dX3_shorten_31 (by decide) ?_
        obtain rfl := Option.some.inj hm
        exact W.zret hx hb hr mt_z0 (fun t ht hW => ⟨⟨_, (), rfl, rfl, by rw [ht]; exact hP, hD⟩, hS.F ht⟩) hS.2.2 dX3_shorten_32
def m_X3_measureFrom_L52 (a1_there : Nat → Int32) (a1_corner : Nat → Int32) (a1_second : Nat → Int32) (a1_third : Nat → Int32) (K142 : Int32 → Int32 → (Nat → Int32) → Option ((Nat → Int32))) : Nat → Int32 → Int32 → (Nat → Int32) → Option ((Nat → Int32))
  | 0, _, _, _ => none
  | n52 + 1, x3_52, x5_52, v_metres_52 => if (30 : Int32) ≤ x5_52 then K142 x3_52 x5_52 v_metres_52 else (m_X5_isThere x5_52 a1_there).bind fun q4 => if q4 = 0 then m_X3_measureFrom_L52 a1_there a1_corner a1_second a1_third K142 n52 x3_52 (x5_52 + (1 : Int32)) v_metres_52 else (m_X5_cornerOf x5_52 a1_corner).bind fun q6 => (m_X5_secondOf x5_52 a1_second).bind fun q7 => (m_X5_thirdOf x5_52 a1_third).bind fun q8 => (m_X3_shorten q6 q7 q8 v_metres_52).bind fun q9 => (m_X5_secondOf x5_52 a1_second).bind fun q10 => (m_X5_cornerOf x5_52 a1_corner).bind fun q11 => (m_X5_thirdOf x5_52 a1_third).bind fun q12 => (m_X3_shorten q10 q11 q12 q9.2).bind fun q13 => if x3_52 = 0 then if q9.1 = 0 then if q13.1 = 0 then m_X3_measureFrom_L52 a1_there a1_corner a1_second a1_third K142 n52 (0 : Int32) (x5_52 + (1 : Int32)) q13.2 else m_X3_measureFrom_L52 a1_there a1_corner a1_second a1_third K142 n52 (1 : Int32) (x5_52 + (1 : Int32)) q13.2 else m_X3_measureFrom_L52 a1_there a1_corner a1_second a1_third K142 n52 (1 : Int32) (x5_52 + (1 : Int32)) q13.2 else m_X3_measureFrom_L52 a1_there a1_corner a1_second a1_third K142 n52 (1 : Int32) (x5_52 + (1 : Int32)) q13.2
def m_X3_measureFrom_L36 (fu : Nat) (a1_there : Nat → Int32) (a1_corner : Nat → Int32) (a1_second : Nat → Int32) (a1_third : Nat → Int32) (K148 : Int32 → Int32 → (Nat → Int32) → Option ((Nat → Int32))) : Nat → Int32 → Int32 → (Nat → Int32) → Option ((Nat → Int32))
  | 0, _, _, _ => none
  | n36 + 1, x3_36, x4_36, v_metres_36 => if (21 : Int32) ≤ x4_36 then K148 x3_36 x4_36 v_metres_36 else if x3_36 = 0 then K148 x3_36 x4_36 v_metres_36 else mt_j (fun (x3_142 : Int32) (x5_142 : Int32) (v_metres_142 : Nat → Int32) => m_X3_measureFrom_L36 fu a1_there a1_corner a1_second a1_third K148 n36 x3_142 (x4_36 + (1 : Int32)) v_metres_142) fun K142 => m_X3_measureFrom_L52 a1_there a1_corner a1_second a1_third K142 fu (0 : Int32) (0 : Int32) v_metres_36
def m_X3_measureFrom_L2 (p2 : Int32) (K31 : Int32 → (Nat → Int32) → Option ((Nat → Int32))) : Nat → Int32 → (Nat → Int32) → Option ((Nat → Int32))
  | 0, _, _ => none
  | n2 + 1, x3_2, v_metres_2 => if (21 : Int32) ≤ x3_2 then K31 x3_2 v_metres_2 else mt_j (fun (j0_24 : Int32) (j1_24 : Int32) => if (¬ (j1_24 < 0 ∨ 21 ≤ j1_24.toNatClampNeg)) then m_X3_measureFrom_L2 p2 K31 n2 (x3_2 + (1 : Int32)) (upd v_metres_2 j1_24.toNatClampNeg j0_24) else none) fun K24 => if x3_2 = p2 then K24 (0 : Int32) x3_2 else K24 (1000000 : Int32) x3_2
def m_X3_measureFrom (fu : Nat) (p2 : Int32) (v_metres : Nat → Int32) (a1_there : Nat → Int32) (a1_corner : Nat → Int32) (a1_second : Nat → Int32) (a1_third : Nat → Int32) : Option ((Nat → Int32)) := mt_j (fun (x3_31 : Int32) (v_metres_31 : Nat → Int32) => mt_j (fun (x3_148 : Int32) (x4_148 : Int32) (v_metres_148 : Nat → Int32) => some v_metres_148) fun K148 => m_X3_measureFrom_L36 fu a1_there a1_corner a1_second a1_third K148 fu (1 : Int32) (0 : Int32) v_metres_31) fun K31 => m_X3_measureFrom_L2 p2 K31 fu (0 : Int32) v_metres
set_option maxHeartbeats 4000000 in
set_option maxRecDepth 100000 in
theorem c_X3_measureFrom (l : Launch) (dC : Nat → ClassId) (dI : Nat → Nat → Nat) (cZ cI cL : ClassId) (h0 h0_metres h0_skills h1 h1_had h1_there h1_corner h1_second h1_third : Nat) (sz : Nat) (p2 : Int32) (v_metres : Nat → Int32) (v_skills : Nat → Int32) (a1_seed : Int32) (a1_size : Int32) (a1_parts : Int32) (a1_had : Nat → Int32) (a1_there : Nat → Int32) (a1_corner : Nat → Int32) (a1_second : Nat → Int32) (a1_third : Nat → Int32) (fu : Nat) (q : (Nat → Int32)) (hm : m_X3_measureFrom fu p2 v_metres a1_there a1_corner a1_second a1_third = some q) : Met l yX3_measureFrom wsX3_measureFrom ({ frames := 2, cells := 0, slots := 0, locals := 43 }) (va_Pc [.ref h0, .ref h1, .int p2] (mt_S (dC, dI) cZ cI cL sz [(h0, .inr (3, [.ref h0_metres, .ref h0_skills])), (h0_metres, .inl (cI, 21, .inl v_metres)), (h0_skills, .inl (cI, 21, .inl v_skills)), (h1, .inr (5, [.ref h1_had, .ref h1_there, .ref h1_corner, .ref h1_second, .ref h1_third, .int a1_seed, .int a1_size, .int a1_parts])), (h1_had, .inl (cZ, 62, .inl a1_had)), (h1_there, .inl (cZ, 62, .inl a1_there)), (h1_corner, .inl (cI, 62, .inl a1_corner)), (h1_second, .inl (cI, 62, .inl a1_second)), (h1_third, .inl (cI, 62, .inl a1_third))])) (va_Qv (fun (_ : Unit) => True) (fun _ t => va_P (dC, dI) vwCl [(h0, .inr (3, [.ref h0_metres, .ref h0_skills])), (h0_metres, .inl (cI, 21, .inl q)), (h0_skills, .inl (cI, 21, .inl v_skills)), (h1, .inr (5, [.ref h1_had, .ref h1_there, .ref h1_corner, .ref h1_second, .ref h1_third, .int a1_seed, .int a1_size, .int a1_parts])), (h1_had, .inl (cZ, 62, .inl a1_had)), (h1_there, .inl (cZ, 62, .inl a1_there)), (h1_corner, .inl (cI, 62, .inl a1_corner)), (h1_second, .inl (cI, 62, .inl a1_second)), (h1_third, .inl (cI, 62, .inl a1_third))] t.heap ∧ va_D (va_A [(h0, .inr (3, [.ref h0_metres, .ref h0_skills])), (h0_metres, .inl (cI, 21, .inl v_metres)), (h0_skills, .inl (cI, 21, .inl v_skills)), (h1, .inr (5, [.ref h1_had, .ref h1_there, .ref h1_corner, .ref h1_second, .ref h1_third, .int a1_seed, .int a1_size, .int a1_parts])), (h1_had, .inl (cZ, 62, .inl a1_had)), (h1_there, .inl (cZ, 62, .inl a1_there)), (h1_corner, .inl (cI, 62, .inl a1_corner)), (h1_second, .inl (cI, 62, .inl a1_second)), (h1_third, .inl (cI, 62, .inl a1_third))] sz) [(h0, .inr (3, [.ref h0_metres, .ref h0_skills])), (h0_metres, .inl (cI, 21, .inl q)), (h0_skills, .inl (cI, 21, .inl v_skills)), (h1, .inr (5, [.ref h1_had, .ref h1_there, .ref h1_corner, .ref h1_second, .ref h1_third, .int a1_seed, .int a1_size, .int a1_parts])), (h1_had, .inl (cZ, 62, .inl a1_had)), (h1_there, .inl (cZ, 62, .inl a1_there)), (h1_corner, .inl (cI, 62, .inl a1_corner)), (h1_second, .inl (cI, 62, .inl a1_second)), (h1_third, .inl (cI, 62, .inl a1_third))]) (va_A [(h0, .inr (3, [.ref h0_metres, .ref h0_skills])), (h0_metres, .inl (cI, 21, .inl v_metres)), (h0_skills, .inl (cI, 21, .inl v_skills)), (h1, .inr (5, [.ref h1_had, .ref h1_there, .ref h1_corner, .ref h1_second, .ref h1_third, .int a1_seed, .int a1_size, .int a1_parts])), (h1_had, .inl (cZ, 62, .inl a1_had)), (h1_there, .inl (cZ, 62, .inl a1_there)), (h1_corner, .inl (cI, 62, .inl a1_corner)), (h1_second, .inl (cI, 62, .inl a1_second)), (h1_third, .inl (cI, 62, .inl a1_third))] sz)) 0 0 (va_A [(h0, .inr (3, [.ref h0_metres, .ref h0_skills])), (h0_metres, .inl (cI, 21, .inl v_metres)), (h0_skills, .inl (cI, 21, .inl v_skills)), (h1, .inr (5, [.ref h1_had, .ref h1_there, .ref h1_corner, .ref h1_second, .ref h1_third, .int a1_seed, .int a1_size, .int a1_parts])), (h1_had, .inl (cZ, 62, .inl a1_had)), (h1_there, .inl (cZ, 62, .inl a1_there)), (h1_corner, .inl (cI, 62, .inl a1_corner)), (h1_second, .inl (cI, 62, .inl a1_second)), (h1_third, .inl (cI, 62, .inl a1_third))] sz) := by
  refine Met.ofW (cc := cX3_measureFrom) (maxL := 8) (ret := none) (by decide) rfl ?_
  intro p e s m args below meth c s₁ B hml hv
  obtain ⟨rfl, hsz, hP, hC, hD0⟩ := hv
  have hx := B.exec
  have hb := B.bytes
  have hr := B.returns
  have hts := atoms_spec (ws := wsX3_measureFrom) B.pre
  have hown : s.vm.findClass RX3 = some m.cls := findClass_of_methodNamed B.named
  have hlocks := B.notSynchronized
  have hK := hC.1
  have hiX3 : ∀ w ∈ wsX30, w ∈ wsX3_measureFrom := by decide +kernel
  subst hsz
  have hD := hD0.self (sz := s.heap.size)
  generalize hAe : va_A [(h0, .inr (3, [.ref h0_metres, .ref h0_skills])), (h0_metres, .inl (cI, 21, .inl v_metres)), (h0_skills, .inl (cI, 21, .inl v_skills)), (h1, .inr (5, [.ref h1_had, .ref h1_there, .ref h1_corner, .ref h1_second, .ref h1_third, .int a1_seed, .int a1_size, .int a1_parts])), (h1_had, .inl (cZ, 62, .inl a1_had)), (h1_there, .inl (cZ, 62, .inl a1_there)), (h1_corner, .inl (cI, 62, .inl a1_corner)), (h1_second, .inl (cI, 62, .inl a1_second)), (h1_third, .inl (cI, 62, .inl a1_third))] s.heap.size = A at hD ⊢
  have hA : ∀ q : Nat, s.heap.size ≤ q → A q := fun q h => by rw [← hAe]; exact Or.inr h
  have hS : va_S A s.heap s.heap [] := va_S.rf
  have hl := lv_entry [.ref h0, .ref h1, .int p2] (n := 8) (Nat.le_of_ble_eq_true rfl)
  rw [lg_entry_eq]
  generalize (lg_sl [.ref h0, .ref h1, .int p2] ++ List.replicate (8 - (lg_sl [.ref h0, .ref h1, .int p2]).length) Slot.unset).toArray = ls at hl ⊢
  have hl : lv_has ls 8 [(0, .ref h0), (1, .ref h1), (2, .int p2)] := hl
  rw [m_X3_measureFrom] at hm
  refine lv_iconst (v := (0 : Int32)) hx hb dX3_measureFrom_0 (by decide) ?_
  refine lv_istore_n (lv' := [(3, .int (0 : Int32)), (0, .ref h0), (1, .ref h1), (2, .int p2)]) hx hb dX3_measureFrom_1 rfl hl (by decide) rfl (fun ls hl => ?_)
  obtain ⟨K31, hK31, hm⟩ := mt_jx hm
  have J31 : ∀ (x3_31 : Int32) (v_metres_31 : Nat → Int32), ∀ (H : Heap) (locs : List Loc) (ls : Array Slot), K31 x3_31 v_metres_31 = some q → va_P (dC, dI) vwCl [(h0, .inr (3, [.ref h0_metres, .ref h0_skills])), (h0_metres, .inl (cI, 21, .inl v_metres_31)), (h0_skills, .inl (cI, 21, .inl v_skills)), (h1, .inr (5, [.ref h1_had, .ref h1_there, .ref h1_corner, .ref h1_second, .ref h1_third, .int a1_seed, .int a1_size, .int a1_parts])), (h1_had, .inl (cZ, 62, .inl a1_had)), (h1_there, .inl (cZ, 62, .inl a1_there)), (h1_corner, .inl (cI, 62, .inl a1_corner)), (h1_second, .inl (cI, 62, .inl a1_second)), (h1_third, .inl (cI, 62, .inl a1_third))] H → va_D A [(h0, .inr (3, [.ref h0_metres, .ref h0_skills])), (h0_metres, .inl (cI, 21, .inl v_metres_31)), (h0_skills, .inl (cI, 21, .inl v_skills)), (h1, .inr (5, [.ref h1_had, .ref h1_there, .ref h1_corner, .ref h1_second, .ref h1_third, .int a1_seed, .int a1_size, .int a1_parts])), (h1_had, .inl (cZ, 62, .inl a1_had)), (h1_there, .inl (cZ, 62, .inl a1_there)), (h1_corner, .inl (cI, 62, .inl a1_corner)), (h1_second, .inl (cI, 62, .inl a1_second)), (h1_third, .inl (cI, 62, .inl a1_third))] → va_S A s.heap H locs → lv_has ls 8 [(0, .ref h0), (1, .ref h1), (2, .int p2), (3, .int x3_31)] → W p l e (headSpec wsX3_measureFrom ({ frames := 2, cells := 0, slots := 0, locals := 43 })).room s m [.ref h0, .ref h1, .int p2].toArray below meth c H locs 0 0 (MQ below (va_Qv (fun (_ : Unit) => True) (fun _ t => va_P (dC, dI) vwCl [(h0, .inr (3, [.ref h0_metres, .ref h0_skills])), (h0_metres, .inl (cI, 21, .inl q)), (h0_skills, .inl (cI, 21, .inl v_skills)), (h1, .inr (5, [.ref h1_had, .ref h1_there, .ref h1_corner, .ref h1_second, .ref h1_third, .int a1_seed, .int a1_size, .int a1_parts])), (h1_had, .inl (cZ, 62, .inl a1_had)), (h1_there, .inl (cZ, 62, .inl a1_there)), (h1_corner, .inl (cI, 62, .inl a1_corner)), (h1_second, .inl (cI, 62, .inl a1_second)), (h1_third, .inl (cI, 62, .inl a1_third))] t.heap ∧ va_D A [(h0, .inr (3, [.ref h0_metres, .ref h0_skills])), (h0_metres, .inl (cI, 21, .inl q)), (h0_skills, .inl (cI, 21, .inl v_skills)), (h1, .inr (5, [.ref h1_had, .ref h1_there, .ref h1_corner, .ref h1_second, .ref h1_third, .int a1_seed, .int a1_size, .int a1_parts])), (h1_had, .inl (cZ, 62, .inl a1_had)), (h1_there, .inl (cZ, 62, .inl a1_there)), (h1_corner, .inl (cI, 62, .inl a1_corner)), (h1_second, .inl (cI, 62, .inl a1_second)), (h1_third, .inl (cI, 62, .inl a1_third))]) A) [.ref h0, .ref h1, .int p2].toArray s 0 0 A) (F0 m 31 ls []) := by
    intro x3_31 v_metres_31 H locs ls hm hP hD hS hl
    replace hm := mt_app2 hK31 hm
    refine lv_iconst (v := (1 : Int32)) hx hb dX3_measureFrom_31 (by decide) ?_
    refine lv_istore_n (lv' := [(3, .int (1 : Int32)), (0, .ref h0), (1, .ref h1), (2, .int p2)]) hx hb dX3_measureFrom_32 rfl hl (by decide) rfl (fun ls hl => ?_)
    refine lv_iconst (v := (0 : Int32)) hx hb dX3_measureFrom_33 (by decide) ?_
    refine lv_istore (lv' := [(4, .int (0 : Int32)), (3, .int (1 : Int32)), (0, .ref h0), (1, .ref h1), (2, .int p2)]) hx hb dX3_measureFrom_34 hl (by decide) rfl (fun ls hl => ?_)
    obtain ⟨K148, hK148, hm⟩ := mt_jx hm
    have J148 : ∀ (x3_148 : Int32) (x4_148 : Int32) (v_metres_148 : Nat → Int32), ∀ (H : Heap) (locs : List Loc) (ls : Array Slot), K148 x3_148 x4_148 v_metres_148 = some q → va_P (dC, dI) vwCl [(h0, .inr (3, [.ref h0_metres, .ref h0_skills])), (h0_metres, .inl (cI, 21, .inl v_metres_148)), (h0_skills, .inl (cI, 21, .inl v_skills)), (h1, .inr (5, [.ref h1_had, .ref h1_there, .ref h1_corner, .ref h1_second, .ref h1_third, .int a1_seed, .int a1_size, .int a1_parts])), (h1_had, .inl (cZ, 62, .inl a1_had)), (h1_there, .inl (cZ, 62, .inl a1_there)), (h1_corner, .inl (cI, 62, .inl a1_corner)), (h1_second, .inl (cI, 62, .inl a1_second)), (h1_third, .inl (cI, 62, .inl a1_third))] H → va_D A [(h0, .inr (3, [.ref h0_metres, .ref h0_skills])), (h0_metres, .inl (cI, 21, .inl v_metres_148)), (h0_skills, .inl (cI, 21, .inl v_skills)), (h1, .inr (5, [.ref h1_had, .ref h1_there, .ref h1_corner, .ref h1_second, .ref h1_third, .int a1_seed, .int a1_size, .int a1_parts])), (h1_had, .inl (cZ, 62, .inl a1_had)), (h1_there, .inl (cZ, 62, .inl a1_there)), (h1_corner, .inl (cI, 62, .inl a1_corner)), (h1_second, .inl (cI, 62, .inl a1_second)), (h1_third, .inl (cI, 62, .inl a1_third))] → va_S A s.heap H locs → lv_has ls 8 [(0, .ref h0), (1, .ref h1), (2, .int p2), (3, .int x3_148), (4, .int x4_148)] → W p l e (headSpec wsX3_measureFrom ({ frames := 2, cells := 0, slots := 0, locals := 43 })).room s m [.ref h0, .ref h1, .int p2].toArray below meth c H locs 0 0 (MQ below (va_Qv (fun (_ : Unit) => True) (fun _ t => va_P (dC, dI) vwCl [(h0, .inr (3, [.ref h0_metres, .ref h0_skills])), (h0_metres, .inl (cI, 21, .inl q)), (h0_skills, .inl (cI, 21, .inl v_skills)), (h1, .inr (5, [.ref h1_had, .ref h1_there, .ref h1_corner, .ref h1_second, .ref h1_third, .int a1_seed, .int a1_size, .int a1_parts])), (h1_had, .inl (cZ, 62, .inl a1_had)), (h1_there, .inl (cZ, 62, .inl a1_there)), (h1_corner, .inl (cI, 62, .inl a1_corner)), (h1_second, .inl (cI, 62, .inl a1_second)), (h1_third, .inl (cI, 62, .inl a1_third))] t.heap ∧ va_D A [(h0, .inr (3, [.ref h0_metres, .ref h0_skills])), (h0_metres, .inl (cI, 21, .inl q)), (h0_skills, .inl (cI, 21, .inl v_skills)), (h1, .inr (5, [.ref h1_had, .ref h1_there, .ref h1_corner, .ref h1_second, .ref h1_third, .int a1_seed, .int a1_size, .int a1_parts])), (h1_had, .inl (cZ, 62, .inl a1_had)), (h1_there, .inl (cZ, 62, .inl a1_there)), (h1_corner, .inl (cI, 62, .inl a1_corner)), (h1_second, .inl (cI, 62, .inl a1_second)), (h1_third, .inl (cI, 62, .inl a1_third))]) A) [.ref h0, .ref h1, .int p2].toArray s 0 0 A) (F0 m 148 ls []) := by
      intro x3_148 x4_148 v_metres_148 H locs ls hm hP hD hS hl
      replace hm := mt_app3 hK148 hm
      obtain rfl := Option.some.inj hm
      exact W.vret hx hb hr (fun t ht hW => ⟨⟨(), rfl, trivial, by rw [ht]; exact hP, hD⟩, hS.F ht⟩) hS.2.2 dX3_measureFrom_148
    have L36 : ∀ n36 : Nat, ∀ (x3_36 : Int32) (x4_36 : Int32) (v_metres_36 : Nat → Int32), ∀ (H : Heap) (locs : List Loc) (ls : Array Slot), m_X3_measureFrom_L36 fu a1_there a1_corner a1_second a1_third K148 n36 x3_36 x4_36 v_metres_36 = some q → va_P (dC, dI) vwCl [(h0, .inr (3, [.ref h0_metres, .ref h0_skills])), (h0_metres, .inl (cI, 21, .inl v_metres_36)), (h0_skills, .inl (cI, 21, .inl v_skills)), (h1, .inr (5, [.ref h1_had, .ref h1_there, .ref h1_corner, .ref h1_second, .ref h1_third, .int a1_seed, .int a1_size, .int a1_parts])), (h1_had, .inl (cZ, 62, .inl a1_had)), (h1_there, .inl (cZ, 62, .inl a1_there)), (h1_corner, .inl (cI, 62, .inl a1_corner)), (h1_second, .inl (cI, 62, .inl a1_second)), (h1_third, .inl (cI, 62, .inl a1_third))] H → va_D A [(h0, .inr (3, [.ref h0_metres, .ref h0_skills])), (h0_metres, .inl (cI, 21, .inl v_metres_36)), (h0_skills, .inl (cI, 21, .inl v_skills)), (h1, .inr (5, [.ref h1_had, .ref h1_there, .ref h1_corner, .ref h1_second, .ref h1_third, .int a1_seed, .int a1_size, .int a1_parts])), (h1_had, .inl (cZ, 62, .inl a1_had)), (h1_there, .inl (cZ, 62, .inl a1_there)), (h1_corner, .inl (cI, 62, .inl a1_corner)), (h1_second, .inl (cI, 62, .inl a1_second)), (h1_third, .inl (cI, 62, .inl a1_third))] → va_S A s.heap H locs → lv_has ls 8 [(0, .ref h0), (1, .ref h1), (2, .int p2), (3, .int x3_36), (4, .int x4_36)] → W p l e (headSpec wsX3_measureFrom ({ frames := 2, cells := 0, slots := 0, locals := 43 })).room s m [.ref h0, .ref h1, .int p2].toArray below meth c H locs 0 0 (MQ below (va_Qv (fun (_ : Unit) => True) (fun _ t => va_P (dC, dI) vwCl [(h0, .inr (3, [.ref h0_metres, .ref h0_skills])), (h0_metres, .inl (cI, 21, .inl q)), (h0_skills, .inl (cI, 21, .inl v_skills)), (h1, .inr (5, [.ref h1_had, .ref h1_there, .ref h1_corner, .ref h1_second, .ref h1_third, .int a1_seed, .int a1_size, .int a1_parts])), (h1_had, .inl (cZ, 62, .inl a1_had)), (h1_there, .inl (cZ, 62, .inl a1_there)), (h1_corner, .inl (cI, 62, .inl a1_corner)), (h1_second, .inl (cI, 62, .inl a1_second)), (h1_third, .inl (cI, 62, .inl a1_third))] t.heap ∧ va_D A [(h0, .inr (3, [.ref h0_metres, .ref h0_skills])), (h0_metres, .inl (cI, 21, .inl q)), (h0_skills, .inl (cI, 21, .inl v_skills)), (h1, .inr (5, [.ref h1_had, .ref h1_there, .ref h1_corner, .ref h1_second, .ref h1_third, .int a1_seed, .int a1_size, .int a1_parts])), (h1_had, .inl (cZ, 62, .inl a1_had)), (h1_there, .inl (cZ, 62, .inl a1_there)), (h1_corner, .inl (cI, 62, .inl a1_corner)), (h1_second, .inl (cI, 62, .inl a1_second)), (h1_third, .inl (cI, 62, .inl a1_third))]) A) [.ref h0, .ref h1, .int p2].toArray s 0 0 A) (F0 m 36 ls []) := by
      intro n36
      induction n36 with
      | zero =>
        intro x3_36 x4_36 v_metres_36 H locs ls hm hP hD hS hl
        exact absurd hm (fun h => nomatch h)
      | succ n36 ih36 =>
        intro x3_36 x4_36 v_metres_36 H locs ls hm hP hD hS hl
        rw [m_X3_measureFrom_L36] at hm
        refine lv_iload hx hb dX3_measureFrom_36 (lv_at hl 4 rfl) ?_
        refine lv_bipush (v := (21 : Int32)) hx hb dX3_measureFrom_38 (by decide) ?_
        refine lv_icmp_ge (tgt := 148) hx hb dX3_measureFrom_40 (by decide) (fun c1 => ?_) (fun c1 => ?_)
        · replace hm := mt_pos c1 hm
          exact J148 x3_36 x4_36 v_metres_36 _ _ _ hm hP hD hS (lv_sub hl [0, 1, 2, 3, 4] rfl)
        · replace hm := mt_neg c1 hm
          refine lv_iload_n hx hb dX3_measureFrom_43 rfl (lv_at hl 3 rfl) ?_
          refine lv_if_eq (tgt := 148) hx hb dX3_measureFrom_44 (by decide) (fun c2 => ?_) (fun c2 => ?_)
          · replace hm := mt_pos c2 hm
            exact J148 x3_36 x4_36 v_metres_36 _ _ _ hm hP hD hS (lv_sub hl [0, 1, 2, 3, 4] rfl)
          · replace hm := mt_neg c2 hm
            refine lv_iconst (v := (0 : Int32)) hx hb dX3_measureFrom_47 (by decide) ?_
            refine lv_istore_n (lv' := [(3, .int (0 : Int32)), (0, .ref h0), (1, .ref h1), (2, .int p2), (4, .int x4_36)]) hx hb dX3_measureFrom_48 rfl hl (by decide) rfl (fun ls hl => ?_)
            refine lv_iconst (v := (0 : Int32)) hx hb dX3_measureFrom_49 (by decide) ?_
            refine lv_istore (lv' := [(5, .int (0 : Int32)), (3, .int (0 : Int32)), (0, .ref h0), (1, .ref h1), (2, .int p2), (4, .int x4_36)]) hx hb dX3_measureFrom_50 hl (by decide) rfl (fun ls hl => ?_)
            obtain ⟨K142, hK142, hm⟩ := mt_jx hm
            have J142 : ∀ (x3_142 : Int32) (x5_142 : Int32) (v_metres_142 : Nat → Int32), ∀ (H : Heap) (locs : List Loc) (ls : Array Slot), K142 x3_142 x5_142 v_metres_142 = some q → va_P (dC, dI) vwCl [(h0, .inr (3, [.ref h0_metres, .ref h0_skills])), (h0_metres, .inl (cI, 21, .inl v_metres_142)), (h0_skills, .inl (cI, 21, .inl v_skills)), (h1, .inr (5, [.ref h1_had, .ref h1_there, .ref h1_corner, .ref h1_second, .ref h1_third, .int a1_seed, .int a1_size, .int a1_parts])), (h1_had, .inl (cZ, 62, .inl a1_had)), (h1_there, .inl (cZ, 62, .inl a1_there)), (h1_corner, .inl (cI, 62, .inl a1_corner)), (h1_second, .inl (cI, 62, .inl a1_second)), (h1_third, .inl (cI, 62, .inl a1_third))] H → va_D A [(h0, .inr (3, [.ref h0_metres, .ref h0_skills])), (h0_metres, .inl (cI, 21, .inl v_metres_142)), (h0_skills, .inl (cI, 21, .inl v_skills)), (h1, .inr (5, [.ref h1_had, .ref h1_there, .ref h1_corner, .ref h1_second, .ref h1_third, .int a1_seed, .int a1_size, .int a1_parts])), (h1_had, .inl (cZ, 62, .inl a1_had)), (h1_there, .inl (cZ, 62, .inl a1_there)), (h1_corner, .inl (cI, 62, .inl a1_corner)), (h1_second, .inl (cI, 62, .inl a1_second)), (h1_third, .inl (cI, 62, .inl a1_third))] → va_S A s.heap H locs → lv_has ls 8 [(0, .ref h0), (1, .ref h1), (2, .int p2), (3, .int x3_142), (4, .int x4_36), (5, .int x5_142)] → W p l e (headSpec wsX3_measureFrom ({ frames := 2, cells := 0, slots := 0, locals := 43 })).room s m [.ref h0, .ref h1, .int p2].toArray below meth c H locs 0 0 (MQ below (va_Qv (fun (_ : Unit) => True) (fun _ t => va_P (dC, dI) vwCl [(h0, .inr (3, [.ref h0_metres, .ref h0_skills])), (h0_metres, .inl (cI, 21, .inl q)), (h0_skills, .inl (cI, 21, .inl v_skills)), (h1, .inr (5, [.ref h1_had, .ref h1_there, .ref h1_corner, .ref h1_second, .ref h1_third, .int a1_seed, .int a1_size, .int a1_parts])), (h1_had, .inl (cZ, 62, .inl a1_had)), (h1_there, .inl (cZ, 62, .inl a1_there)), (h1_corner, .inl (cI, 62, .inl a1_corner)), (h1_second, .inl (cI, 62, .inl a1_second)), (h1_third, .inl (cI, 62, .inl a1_third))] t.heap ∧ va_D A [(h0, .inr (3, [.ref h0_metres, .ref h0_skills])), (h0_metres, .inl (cI, 21, .inl q)), (h0_skills, .inl (cI, 21, .inl v_skills)), (h1, .inr (5, [.ref h1_had, .ref h1_there, .ref h1_corner, .ref h1_second, .ref h1_third, .int a1_seed, .int a1_size, .int a1_parts])), (h1_had, .inl (cZ, 62, .inl a1_had)), (h1_there, .inl (cZ, 62, .inl a1_there)), (h1_corner, .inl (cI, 62, .inl a1_corner)), (h1_second, .inl (cI, 62, .inl a1_second)), (h1_third, .inl (cI, 62, .inl a1_third))]) A) [.ref h0, .ref h1, .int p2].toArray s 0 0 A) (F0 m 142 ls []) := by
              intro x3_142 x5_142 v_metres_142 H locs ls hm hP hD hS hl
              replace hm := mt_app3 hK142 hm
              refine lv_iinc (v := (x4_36 + (1 : Int32))) (lv' := [(4, .int (x4_36 + (1 : Int32))), (0, .ref h0), (1, .ref h1), (2, .int p2), (3, .int x3_142), (5, .int x5_142)]) hx hb dX3_measureFrom_142 hl (k := 4) rfl rfl (by decide) rfl (fun ls hl => ?_)
              refine lv_goto (tgt := 36) hx hb dX3_measureFrom_145 (by decide) ?_
              exact ih36 x3_142 (x4_36 + (1 : Int32)) v_metres_142 _ _ _ hm hP hD hS (lv_sub hl [1, 2, 3, 4, 0] rfl)
            have L52 : ∀ n52 : Nat, ∀ (x3_52 : Int32) (x5_52 : Int32) (v_metres_52 : Nat → Int32), ∀ (H : Heap) (locs : List Loc) (ls : Array Slot), m_X3_measureFrom_L52 a1_there a1_corner a1_second a1_third K142 n52 x3_52 x5_52 v_metres_52 = some q → va_P (dC, dI) vwCl [(h0, .inr (3, [.ref h0_metres, .ref h0_skills])), (h0_metres, .inl (cI, 21, .inl v_metres_52)), (h0_skills, .inl (cI, 21, .inl v_skills)), (h1, .inr (5, [.ref h1_had, .ref h1_there, .ref h1_corner, .ref h1_second, .ref h1_third, .int a1_seed, .int a1_size, .int a1_parts])), (h1_had, .inl (cZ, 62, .inl a1_had)), (h1_there, .inl (cZ, 62, .inl a1_there)), (h1_corner, .inl (cI, 62, .inl a1_corner)), (h1_second, .inl (cI, 62, .inl a1_second)), (h1_third, .inl (cI, 62, .inl a1_third))] H → va_D A [(h0, .inr (3, [.ref h0_metres, .ref h0_skills])), (h0_metres, .inl (cI, 21, .inl v_metres_52)), (h0_skills, .inl (cI, 21, .inl v_skills)), (h1, .inr (5, [.ref h1_had, .ref h1_there, .ref h1_corner, .ref h1_second, .ref h1_third, .int a1_seed, .int a1_size, .int a1_parts])), (h1_had, .inl (cZ, 62, .inl a1_had)), (h1_there, .inl (cZ, 62, .inl a1_there)), (h1_corner, .inl (cI, 62, .inl a1_corner)), (h1_second, .inl (cI, 62, .inl a1_second)), (h1_third, .inl (cI, 62, .inl a1_third))] → va_S A s.heap H locs → lv_has ls 8 [(0, .ref h0), (1, .ref h1), (2, .int p2), (3, .int x3_52), (4, .int x4_36), (5, .int x5_52)] → W p l e (headSpec wsX3_measureFrom ({ frames := 2, cells := 0, slots := 0, locals := 43 })).room s m [.ref h0, .ref h1, .int p2].toArray below meth c H locs 0 0 (MQ below (va_Qv (fun (_ : Unit) => True) (fun _ t => va_P (dC, dI) vwCl [(h0, .inr (3, [.ref h0_metres, .ref h0_skills])), (h0_metres, .inl (cI, 21, .inl q)), (h0_skills, .inl (cI, 21, .inl v_skills)), (h1, .inr (5, [.ref h1_had, .ref h1_there, .ref h1_corner, .ref h1_second, .ref h1_third, .int a1_seed, .int a1_size, .int a1_parts])), (h1_had, .inl (cZ, 62, .inl a1_had)), (h1_there, .inl (cZ, 62, .inl a1_there)), (h1_corner, .inl (cI, 62, .inl a1_corner)), (h1_second, .inl (cI, 62, .inl a1_second)), (h1_third, .inl (cI, 62, .inl a1_third))] t.heap ∧ va_D A [(h0, .inr (3, [.ref h0_metres, .ref h0_skills])), (h0_metres, .inl (cI, 21, .inl q)), (h0_skills, .inl (cI, 21, .inl v_skills)), (h1, .inr (5, [.ref h1_had, .ref h1_there, .ref h1_corner, .ref h1_second, .ref h1_third, .int a1_seed, .int a1_size, .int a1_parts])), (h1_had, .inl (cZ, 62, .inl a1_had)), (h1_there, .inl (cZ, 62, .inl a1_there)), (h1_corner, .inl (cI, 62, .inl a1_corner)), (h1_second, .inl (cI, 62, .inl a1_second)), (h1_third, .inl (cI, 62, .inl a1_third))]) A) [.ref h0, .ref h1, .int p2].toArray s 0 0 A) (F0 m 52 ls []) := by
              intro n52
              induction n52 with
              | zero =>
                intro x3_52 x5_52 v_metres_52 H locs ls hm hP hD hS hl
                exact absurd hm (fun h => nomatch h)
              | succ n52 ih52 =>
                intro x3_52 x5_52 v_metres_52 H locs ls hm hP hD hS hl
                rw [m_X3_measureFrom_L52] at hm
                refine lv_iload hx hb dX3_measureFrom_52 (lv_at hl 5 rfl) ?_
                refine lv_bipush (v := (30 : Int32)) hx hb dX3_measureFrom_54 (by decide) ?_
                refine lv_icmp_ge (tgt := 142) hx hb dX3_measureFrom_56 (by decide) (fun c3 => ?_) (fun c3 => ?_)
                · replace hm := mt_pos c3 hm
                  exact J142 x3_52 x5_52 v_metres_52 _ _ _ hm hP hD hS (lv_sub hl [0, 1, 2, 3, 4, 5] rfl)
                · replace hm := mt_neg c3 hm
                  refine lv_aload_n hx hb dX3_measureFrom_59 rfl (lv_at hl 1 rfl) ?_
                  refine lv_iload hx hb dX3_measureFrom_60 (lv_at hl 5 rfl) ?_
                  obtain ⟨q4, hq4, hm⟩ := mt_bind hm
                  refine vp_callSi (va_Run.run (va_runV (As := [.int x5_52]) (rest := []) ⟨hx, hb, hml, hown, hts⟩ (c_X5_isThere l dC dI cZ cI cL h1 h1_had h1_there h1_corner h1_second h1_third x5_52 a1_seed a1_size a1_parts a1_had a1_there a1_corner a1_second a1_third q4 hq4) (cwV 1 hts gX3_measureFrom_X5_isThere rfl rfl rfl (by decide +kernel) ⟨Nat.le_of_ble_eq_true rfl, Nat.le_of_ble_eq_true rfl⟩) (mt_vR (q := (RX5, TX5, 8)) 5 hC (hP.sub (ws' := [(h1, .inr (5, [.ref h1_had, .ref h1_there, .ref h1_corner, .ref h1_second, .ref h1_third, .int a1_seed, .int a1_size, .int a1_parts])), (h1_had, .inl (cZ, 62, .inl a1_had)), (h1_there, .inl (cZ, 62, .inl a1_there)), (h1_corner, .inl (cI, 62, .inl a1_corner)), (h1_second, .inl (cI, 62, .inl a1_second)), (h1_third, .inl (cI, 62, .inl a1_third))]) [3, 4, 5, 6, 7, 8] rfl) rfl rfl) rfl rfl hl.1 rfl (lv_room (Nat.le_of_ble_eq_true rfl)) dX3_measureFrom_62 ⟨Nat.le_of_ble_eq_true rfl, Nat.le_of_ble_eq_true rfl⟩)) (fun r er => ?_)
                  replace er := er.symm
                  subst er
                  refine lv_if_eq (tgt := 136) hx hb dX3_measureFrom_65 (by decide) (fun c5 => ?_) (fun c5 => ?_)
                  · replace hm := mt_pos c5 hm
                    refine lv_iinc (v := (x5_52 + (1 : Int32))) (lv' := [(5, .int (x5_52 + (1 : Int32))), (0, .ref h0), (1, .ref h1), (2, .int p2), (3, .int x3_52), (4, .int x4_36)]) hx hb dX3_measureFrom_136 hl (k := 5) rfl rfl (by decide) rfl (fun ls hl => ?_)
                    refine lv_goto (tgt := 52) hx hb dX3_measureFrom_139 (by decide) ?_
                    exact ih52 x3_52 (x5_52 + (1 : Int32)) v_metres_52 _ _ _ hm hP hD hS (lv_sub hl [1, 2, 3, 4, 5, 0] rfl)
                  · replace hm := mt_neg c5 hm
                    refine lv_aload_n hx hb dX3_measureFrom_68 rfl (lv_at hl 0 rfl) ?_
                    refine lv_aload_n hx hb dX3_measureFrom_69 rfl (lv_at hl 1 rfl) ?_
                    refine lv_iload hx hb dX3_measureFrom_70 (lv_at hl 5 rfl) ?_
                    obtain ⟨q6, hq6, hm⟩ := mt_bind hm
                    refine vp_callSi (va_Run.run (va_runV (As := [.int x5_52]) (rest := [.ref h0]) ⟨hx, hb, hml, hown, hts⟩ (c_X5_cornerOf l dC dI cZ cI cL h1 h1_had h1_there h1_corner h1_second h1_third x5_52 a1_seed a1_size a1_parts a1_had a1_there a1_corner a1_second a1_third q6 hq6) (cwV 1 hts gX3_measureFrom_X5_cornerOf rfl rfl rfl (by decide +kernel) ⟨Nat.le_of_ble_eq_true rfl, Nat.le_of_ble_eq_true rfl⟩) (mt_vR (q := (RX5, TX5, 8)) 5 hC (hP.sub (ws' := [(h1, .inr (5, [.ref h1_had, .ref h1_there, .ref h1_corner, .ref h1_second, .ref h1_third, .int a1_seed, .int a1_size, .int a1_parts])), (h1_had, .inl (cZ, 62, .inl a1_had)), (h1_there, .inl (cZ, 62, .inl a1_there)), (h1_corner, .inl (cI, 62, .inl a1_corner)), (h1_second, .inl (cI, 62, .inl a1_second)), (h1_third, .inl (cI, 62, .inl a1_third))]) [3, 4, 5, 6, 7, 8] rfl) rfl rfl) rfl rfl hl.1 rfl (lv_room (Nat.le_of_ble_eq_true rfl)) dX3_measureFrom_72 ⟨Nat.le_of_ble_eq_true rfl, Nat.le_of_ble_eq_true rfl⟩)) (fun r er => ?_)
                    replace er := er.symm
                    subst er
                    refine lv_aload_n hx hb dX3_measureFrom_75 rfl (lv_at hl 1 rfl) ?_
                    refine lv_iload hx hb dX3_measureFrom_76 (lv_at hl 5 rfl) ?_
                    obtain ⟨q7, hq7, hm⟩ := mt_bind hm
                    refine vp_callSi (va_Run.run (va_runV (As := [.int x5_52]) (rest := [.int q6, .ref h0]) ⟨hx, hb, hml, hown, hts⟩ (c_X5_secondOf l dC dI cZ cI cL h1 h1_had h1_there h1_corner h1_second h1_third x5_52 a1_seed a1_size a1_parts a1_had a1_there a1_corner a1_second a1_third q7 hq7) (cwV 1 hts gX3_measureFrom_X5_secondOf rfl rfl rfl (by decide +kernel) ⟨Nat.le_of_ble_eq_true rfl, Nat.le_of_ble_eq_true rfl⟩) (mt_vR (q := (RX5, TX5, 8)) 5 hC (hP.sub (ws' := [(h1, .inr (5, [.ref h1_had, .ref h1_there, .ref h1_corner, .ref h1_second, .ref h1_third, .int a1_seed, .int a1_size, .int a1_parts])), (h1_had, .inl (cZ, 62, .inl a1_had)), (h1_there, .inl (cZ, 62, .inl a1_there)), (h1_corner, .inl (cI, 62, .inl a1_corner)), (h1_second, .inl (cI, 62, .inl a1_second)), (h1_third, .inl (cI, 62, .inl a1_third))]) [3, 4, 5, 6, 7, 8] rfl) rfl rfl) rfl rfl hl.1 rfl (lv_room (Nat.le_of_ble_eq_true rfl)) dX3_measureFrom_78 ⟨Nat.le_of_ble_eq_true rfl, Nat.le_of_ble_eq_true rfl⟩)) (fun r er => ?_)
                    replace er := er.symm
                    subst er
                    refine lv_aload_n hx hb dX3_measureFrom_81 rfl (lv_at hl 1 rfl) ?_
                    refine lv_iload hx hb dX3_measureFrom_82 (lv_at hl 5 rfl) ?_
                    obtain ⟨q8, hq8, hm⟩ := mt_bind hm
                    refine vp_callSi (va_Run.run (va_runV (As := [.int x5_52]) (rest := [.int q7, .int q6, .ref h0]) ⟨hx, hb, hml, hown, hts⟩ (c_X5_thirdOf l dC dI cZ cI cL h1 h1_had h1_there h1_corner h1_second h1_third x5_52 a1_seed a1_size a1_parts a1_had a1_there a1_corner a1_second a1_third q8 hq8) (cwV 1 hts gX3_measureFrom_X5_thirdOf rfl rfl rfl (by decide +kernel) ⟨Nat.le_of_ble_eq_true rfl, Nat.le_of_ble_eq_true rfl⟩) (mt_vR (q := (RX5, TX5, 8)) 5 hC (hP.sub (ws' := [(h1, .inr (5, [.ref h1_had, .ref h1_there, .ref h1_corner, .ref h1_second, .ref h1_third, .int a1_seed, .int a1_size, .int a1_parts])), (h1_had, .inl (cZ, 62, .inl a1_had)), (h1_there, .inl (cZ, 62, .inl a1_there)), (h1_corner, .inl (cI, 62, .inl a1_corner)), (h1_second, .inl (cI, 62, .inl a1_second)), (h1_third, .inl (cI, 62, .inl a1_third))]) [3, 4, 5, 6, 7, 8] rfl) rfl rfl) rfl rfl hl.1 rfl (lv_room (Nat.le_of_ble_eq_true rfl)) dX3_measureFrom_84 ⟨Nat.le_of_ble_eq_true rfl, Nat.le_of_ble_eq_true rfl⟩)) (fun r er => ?_)
                    replace er := er.symm
                    subst er
                    obtain ⟨q9, hq9, hm⟩ := mt_bind hm
                    refine mt_calli (wr := [(h1, .inr (5, [.ref h1_had, .ref h1_there, .ref h1_corner, .ref h1_second, .ref h1_third, .int a1_seed, .int a1_size, .int a1_parts])), (h1_had, .inl (cZ, 62, .inl a1_had)), (h1_there, .inl (cZ, 62, .inl a1_there)), (h1_corner, .inl (cI, 62, .inl a1_corner)), (h1_second, .inl (cI, 62, .inl a1_second)), (h1_third, .inl (cI, 62, .inl a1_third))]) hP hD hS hA [0, 1, 2] [3, 4, 5, 6, 7, 8] rfl rfl (by decide) (by decide) (va_runV (As := [.int q6, .int q7, .int q8]) (rest := []) ⟨hx, hb, hml, hown, hts⟩ (c_X3_shorten l dC dI cZ cI cL h0 h0_metres h0_skills H.size q6 q7 q8 v_metres_52 v_skills q9 hq9) (cwV 3 hts gX3_measureFrom_X3_shorten rfl rfl rfl (by decide +kernel) ⟨Nat.le_of_ble_eq_true rfl, Nat.le_of_ble_eq_true rfl⟩) (mt_vS (q := (RX3, TX3, 2)) 3 hC (hP.sub (ws' := [(h0, .inr (3, [.ref h0_metres, .ref h0_skills])), (h0_metres, .inl (cI, 21, .inl v_metres_52)), (h0_skills, .inl (cI, 21, .inl v_skills))]) [0, 1, 2] rfl) (hD.sub (ws' := [(h0, .inr (3, [.ref h0_metres, .ref h0_skills])), (h0_metres, .inl (cI, 21, .inl v_metres_52)), (h0_skills, .inl (cI, 21, .inl v_skills))]) [0, 1, 2] (by decide) rfl) rfl rfl) rfl rfl hl.1 rfl (lv_room (Nat.le_of_ble_eq_true rfl)) dX3_measureFrom_87 ⟨Nat.le_of_ble_eq_true rfl, Nat.le_of_ble_eq_true rfl⟩) (fun H locs hP hD hS => ?_)
                    have hP : va_P (dC, dI) vwCl [(h0, .inr (3, [.ref h0_metres, .ref h0_skills])), (h0_metres, .inl (cI, 21, .inl q9.2)), (h0_skills, .inl (cI, 21, .inl v_skills)), (h1, .inr (5, [.ref h1_had, .ref h1_there, .ref h1_corner, .ref h1_second, .ref h1_third, .int a1_seed, .int a1_size, .int a1_parts])), (h1_had, .inl (cZ, 62, .inl a1_had)), (h1_there, .inl (cZ, 62, .inl a1_there)), (h1_corner, .inl (cI, 62, .inl a1_corner)), (h1_second, .inl (cI, 62, .inl a1_second)), (h1_third, .inl (cI, 62, .inl a1_third))] H := hP.sub [6, 7, 8, 0, 1, 2, 3, 4, 5] rfl
                    have hD : va_D A [(h0, .inr (3, [.ref h0_metres, .ref h0_skills])), (h0_metres, .inl (cI, 21, .inl q9.2)), (h0_skills, .inl (cI, 21, .inl v_skills)), (h1, .inr (5, [.ref h1_had, .ref h1_there, .ref h1_corner, .ref h1_second, .ref h1_third, .int a1_seed, .int a1_size, .int a1_parts])), (h1_had, .inl (cZ, 62, .inl a1_had)), (h1_there, .inl (cZ, 62, .inl a1_there)), (h1_corner, .inl (cI, 62, .inl a1_corner)), (h1_second, .inl (cI, 62, .inl a1_second)), (h1_third, .inl (cI, 62, .inl a1_third))] := hD.sub [6, 7, 8, 0, 1, 2, 3, 4, 5] (by decide) rfl
                    refine lv_istore (lv' := [(6, .int q9.1), (0, .ref h0), (1, .ref h1), (2, .int p2), (3, .int x3_52), (4, .int x4_36), (5, .int x5_52)]) hx hb dX3_measureFrom_90 hl (by decide) rfl (fun ls hl => ?_)
                    refine lv_aload_n hx hb dX3_measureFrom_92 rfl (lv_at hl 1 rfl) ?_
                    refine lv_aload_n hx hb dX3_measureFrom_93 rfl (lv_at hl 2 rfl) ?_
                    refine lv_iload hx hb dX3_measureFrom_94 (lv_at hl 6 rfl) ?_
                    obtain ⟨q10, hq10, hm⟩ := mt_bind hm
                    refine vp_callSi (va_Run.run (va_runV (As := [.int x5_52]) (rest := [.ref h0]) ⟨hx, hb, hml, hown, hts⟩ (c_X5_secondOf l dC dI cZ cI cL h1 h1_had h1_there h1_corner h1_second h1_third x5_52 a1_seed a1_size a1_parts a1_had a1_there a1_corner a1_second a1_third q10 hq10) (cwV 1 hts gX3_measureFrom_X5_secondOf rfl rfl rfl (by decide +kernel) ⟨Nat.le_of_ble_eq_true rfl, Nat.le_of_ble_eq_true rfl⟩) (mt_vR (q := (RX5, TX5, 8)) 5 hC (hP.sub (ws' := [(h1, .inr (5, [.ref h1_had, .ref h1_there, .ref h1_corner, .ref h1_second, .ref h1_third, .int a1_seed, .int a1_size, .int a1_parts])), (h1_had, .inl (cZ, 62, .inl a1_had)), (h1_there, .inl (cZ, 62, .inl a1_there)), (h1_corner, .inl (cI, 62, .inl a1_corner)), (h1_second, .inl (cI, 62, .inl a1_second)), (h1_third, .inl (cI, 62, .inl a1_third))]) [3, 4, 5, 6, 7, 8] rfl) rfl rfl) rfl rfl hl.1 rfl (lv_room (Nat.le_of_ble_eq_true rfl)) dX3_measureFrom_96 ⟨Nat.le_of_ble_eq_true rfl, Nat.le_of_ble_eq_true rfl⟩)) (fun r er => ?_)
                    replace er := er.symm
                    subst er
                    refine lv_aload_n hx hb dX3_measureFrom_99 rfl (lv_at hl 2 rfl) ?_
                    refine lv_iload hx hb dX3_measureFrom_100 (lv_at hl 6 rfl) ?_
                    obtain ⟨q11, hq11, hm⟩ := mt_bind hm
                    refine vp_callSi (va_Run.run (va_runV (As := [.int x5_52]) (rest := [.int q10, .ref h0]) ⟨hx, hb, hml, hown, hts⟩ (c_X5_cornerOf l dC dI cZ cI cL h1 h1_had h1_there h1_corner h1_second h1_third x5_52 a1_seed a1_size a1_parts a1_had a1_there a1_corner a1_second a1_third q11 hq11) (cwV 1 hts gX3_measureFrom_X5_cornerOf rfl rfl rfl (by decide +kernel) ⟨Nat.le_of_ble_eq_true rfl, Nat.le_of_ble_eq_true rfl⟩) (mt_vR (q := (RX5, TX5, 8)) 5 hC (hP.sub (ws' := [(h1, .inr (5, [.ref h1_had, .ref h1_there, .ref h1_corner, .ref h1_second, .ref h1_third, .int a1_seed, .int a1_size, .int a1_parts])), (h1_had, .inl (cZ, 62, .inl a1_had)), (h1_there, .inl (cZ, 62, .inl a1_there)), (h1_corner, .inl (cI, 62, .inl a1_corner)), (h1_second, .inl (cI, 62, .inl a1_second)), (h1_third, .inl (cI, 62, .inl a1_third))]) [3, 4, 5, 6, 7, 8] rfl) rfl rfl) rfl rfl hl.1 rfl (lv_room (Nat.le_of_ble_eq_true rfl)) dX3_measureFrom_102 ⟨Nat.le_of_ble_eq_true rfl, Nat.le_of_ble_eq_true rfl⟩)) (fun r er => ?_)
                    replace er := er.symm
                    subst er
                    refine lv_aload_n hx hb dX3_measureFrom_105 rfl (lv_at hl 2 rfl) ?_
                    refine lv_iload hx hb dX3_measureFrom_106 (lv_at hl 6 rfl) ?_
                    obtain ⟨q12, hq12, hm⟩ := mt_bind hm
                    refine vp_callSi (va_Run.run (va_runV (As := [.int x5_52]) (rest := [.int q11, .int q10, .ref h0]) ⟨hx, hb, hml, hown, hts⟩ (c_X5_thirdOf l dC dI cZ cI cL h1 h1_had h1_there h1_corner h1_second h1_third x5_52 a1_seed a1_size a1_parts a1_had a1_there a1_corner a1_second a1_third q12 hq12) (cwV 1 hts gX3_measureFrom_X5_thirdOf rfl rfl rfl (by decide +kernel) ⟨Nat.le_of_ble_eq_true rfl, Nat.le_of_ble_eq_true rfl⟩) (mt_vR (q := (RX5, TX5, 8)) 5 hC (hP.sub (ws' := [(h1, .inr (5, [.ref h1_had, .ref h1_there, .ref h1_corner, .ref h1_second, .ref h1_third, .int a1_seed, .int a1_size, .int a1_parts])), (h1_had, .inl (cZ, 62, .inl a1_had)), (h1_there, .inl (cZ, 62, .inl a1_there)), (h1_corner, .inl (cI, 62, .inl a1_corner)), (h1_second, .inl (cI, 62, .inl a1_second)), (h1_third, .inl (cI, 62, .inl a1_third))]) [3, 4, 5, 6, 7, 8] rfl) rfl rfl) rfl rfl hl.1 rfl (lv_room (Nat.le_of_ble_eq_true rfl)) dX3_measureFrom_108 ⟨Nat.le_of_ble_eq_true rfl, Nat.le_of_ble_eq_true rfl⟩)) (fun r er => ?_)
                    replace er := er.symm
                    subst er
                    obtain ⟨q13, hq13, hm⟩ := mt_bind hm
                    refine mt_calli (wr := [(h1, .inr (5, [.ref h1_had, .ref h1_there, .ref h1_corner, .ref h1_second, .ref h1_third, .int a1_seed, .int a1_size, .int a1_parts])), (h1_had, .inl (cZ, 62, .inl a1_had)), (h1_there, .inl (cZ, 62, .inl a1_there)), (h1_corner, .inl (cI, 62, .inl a1_corner)), (h1_second, .inl (cI, 62, .inl a1_second)), (h1_third, .inl (cI, 62, .inl a1_third))]) hP hD hS hA [0, 1, 2] [3, 4, 5, 6, 7, 8] rfl rfl (by decide) (by decide) (va_runV (As := [.int q10, .int q11, .int q12]) (rest := []) ⟨hx, hb, hml, hown, hts⟩ (c_X3_shorten l dC dI cZ cI cL h0 h0_metres h0_skills H.size q10 q11 q12 q9.2 v_skills q13 hq13) (cwV 3 hts gX3_measureFrom_X3_shorten rfl rfl rfl (by decide +kernel) ⟨Nat.le_of_ble_eq_true rfl, Nat.le_of_ble_eq_true rfl⟩) (mt_vS (q := (RX3, TX3, 2)) 3 hC (hP.sub (ws' := [(h0, .inr (3, [.ref h0_metres, .ref h0_skills])), (h0_metres, .inl (cI, 21, .inl q9.2)), (h0_skills, .inl (cI, 21, .inl v_skills))]) [0, 1, 2] rfl) (hD.sub (ws' := [(h0, .inr (3, [.ref h0_metres, .ref h0_skills])), (h0_metres, .inl (cI, 21, .inl q9.2)), (h0_skills, .inl (cI, 21, .inl v_skills))]) [0, 1, 2] (by decide) rfl) rfl rfl) rfl rfl hl.1 rfl (lv_room (Nat.le_of_ble_eq_true rfl)) dX3_measureFrom_111 ⟨Nat.le_of_ble_eq_true rfl, Nat.le_of_ble_eq_true rfl⟩) (fun H locs hP hD hS => ?_)
                    have hP : va_P (dC, dI) vwCl [(h0, .inr (3, [.ref h0_metres, .ref h0_skills])), (h0_metres, .inl (cI, 21, .inl q13.2)), (h0_skills, .inl (cI, 21, .inl v_skills)), (h1, .inr (5, [.ref h1_had, .ref h1_there, .ref h1_corner, .ref h1_second, .ref h1_third, .int a1_seed, .int a1_size, .int a1_parts])), (h1_had, .inl (cZ, 62, .inl a1_had)), (h1_there, .inl (cZ, 62, .inl a1_there)), (h1_corner, .inl (cI, 62, .inl a1_corner)), (h1_second, .inl (cI, 62, .inl a1_second)), (h1_third, .inl (cI, 62, .inl a1_third))] H := hP.sub [6, 7, 8, 0, 1, 2, 3, 4, 5] rfl
                    have hD : va_D A [(h0, .inr (3, [.ref h0_metres, .ref h0_skills])), (h0_metres, .inl (cI, 21, .inl q13.2)), (h0_skills, .inl (cI, 21, .inl v_skills)), (h1, .inr (5, [.ref h1_had, .ref h1_there, .ref h1_corner, .ref h1_second, .ref h1_third, .int a1_seed, .int a1_size, .int a1_parts])), (h1_had, .inl (cZ, 62, .inl a1_had)), (h1_there, .inl (cZ, 62, .inl a1_there)), (h1_corner, .inl (cI, 62, .inl a1_corner)), (h1_second, .inl (cI, 62, .inl a1_second)), (h1_third, .inl (cI, 62, .inl a1_third))] := hD.sub [6, 7, 8, 0, 1, 2, 3, 4, 5] (by decide) rfl
                    refine lv_istore (lv' := [(7, .int q13.1), (6, .int q9.1), (0, .ref h0), (1, .ref h1), (2, .int p2), (3, .int x3_52), (4, .int x4_36), (5, .int x5_52)]) hx hb dX3_measureFrom_114 hl (by decide) rfl (fun ls hl => ?_)
                    refine lv_iload_n hx hb dX3_measureFrom_116 rfl (lv_at hl 5 rfl) ?_
                    refine lv_if_ne (tgt := 130) hx hb dX3_measureFrom_117 (by decide) (fun c14 => ?_) (fun c14 => ?_)
                    · replace hm := mt_neg c14 hm
                      refine lv_iconst (v := (1 : Int32)) hx hb dX3_measureFrom_130 (by decide) ?_
                      refine lv_goto (tgt := 135) hx hb dX3_measureFrom_131 (by decide) ?_
                      refine lv_istore_n (lv' := [(3, .int (1 : Int32)), (7, .int q13.1), (6, .int q9.1), (0, .ref h0), (1, .ref h1), (2, .int p2), (4, .int x4_36), (5, .int x5_52)]) hx hb dX3_measureFrom_135 rfl hl (by decide) rfl (fun ls hl => ?_)
                      refine lv_iinc (v := (x5_52 + (1 : Int32))) (lv' := [(5, .int (x5_52 + (1 : Int32))), (3, .int (1 : Int32)), (7, .int q13.1), (6, .int q9.1), (0, .ref h0), (1, .ref h1), (2, .int p2), (4, .int x4_36)]) hx hb dX3_measureFrom_136 hl (k := 7) rfl rfl (by decide) rfl (fun ls hl => ?_)
                      refine lv_goto (tgt := 52) hx hb dX3_measureFrom_139 (by decide) ?_
                      exact ih52 (1 : Int32) (x5_52 + (1 : Int32)) q13.2 _ _ _ hm hP hD hS (lv_sub hl [4, 5, 6, 1, 7, 0] rfl)
                    · replace hm := mt_pos c14 hm
                      refine lv_iload hx hb dX3_measureFrom_120 (lv_at hl 1 rfl) ?_
                      refine lv_if_ne (tgt := 130) hx hb dX3_measureFrom_122 (by decide) (fun c15 => ?_) (fun c15 => ?_)
                      · replace hm := mt_neg c15 hm
                        refine lv_iconst (v := (1 : Int32)) hx hb dX3_measureFrom_130 (by decide) ?_
                        refine lv_goto (tgt := 135) hx hb dX3_measureFrom_131 (by decide) ?_
                        refine lv_istore_n (lv' := [(3, .int (1 : Int32)), (7, .int q13.1), (6, .int q9.1), (0, .ref h0), (1, .ref h1), (2, .int p2), (4, .int x4_36), (5, .int x5_52)]) hx hb dX3_measureFrom_135 rfl hl (by decide) rfl (fun ls hl => ?_)
                        refine lv_iinc (v := (x5_52 + (1 : Int32))) (lv' := [(5, .int (x5_52 + (1 : Int32))), (3, .int (1 : Int32)), (7, .int q13.1), (6, .int q9.1), (0, .ref h0), (1, .ref h1), (2, .int p2), (4, .int x4_36)]) hx hb dX3_measureFrom_136 hl (k := 7) rfl rfl (by decide) rfl (fun ls hl => ?_)
                        refine lv_goto (tgt := 52) hx hb dX3_measureFrom_139 (by decide) ?_
                        exact ih52 (1 : Int32) (x5_52 + (1 : Int32)) q13.2 _ _ _ hm hP hD hS (lv_sub hl [4, 5, 6, 1, 7, 0] rfl)
                      · replace hm := mt_pos c15 hm
                        refine lv_iload hx hb dX3_measureFrom_125 (lv_at hl 0 rfl) ?_
                        refine lv_if_eq (tgt := 134) hx hb dX3_measureFrom_127 (by decide) (fun c16 => ?_) (fun c16 => ?_)
                        · replace hm := mt_pos c16 hm
                          refine lv_iconst (v := (0 : Int32)) hx hb dX3_measureFrom_134 (by decide) ?_
                          refine lv_istore_n (lv' := [(3, .int (0 : Int32)), (7, .int q13.1), (6, .int q9.1), (0, .ref h0), (1, .ref h1), (2, .int p2), (4, .int x4_36), (5, .int x5_52)]) hx hb dX3_measureFrom_135 rfl hl (by decide) rfl (fun ls hl => ?_)
                          refine lv_iinc (v := (x5_52 + (1 : Int32))) (lv' := [(5, .int (x5_52 + (1 : Int32))), (3, .int (0 : Int32)), (7, .int q13.1), (6, .int q9.1), (0, .ref h0), (1, .ref h1), (2, .int p2), (4, .int x4_36)]) hx hb dX3_measureFrom_136 hl (k := 7) rfl rfl (by decide) rfl (fun ls hl => ?_)
                          refine lv_goto (tgt := 52) hx hb dX3_measureFrom_139 (by decide) ?_
                          exact ih52 (0 : Int32) (x5_52 + (1 : Int32)) q13.2 _ _ _ hm hP hD hS (lv_sub hl [4, 5, 6, 1, 7, 0] rfl)
                        · replace hm := mt_neg c16 hm
                          refine lv_iconst (v := (1 : Int32)) hx hb dX3_measureFrom_130 (by decide) ?_
                          refine lv_goto (tgt := 135) hx hb dX3_measureFrom_131 (by decide) ?_
                          refine lv_istore_n (lv' := [(3, .int (1 : Int32)), (7, .int q13.1), (6, .int q9.1), (0, .ref h0), (1, .ref h1), (2, .int p2), (4, .int x4_36), (5, .int x5_52)]) hx hb dX3_measureFrom_135 rfl hl (by decide) rfl (fun ls hl => ?_)
                          refine lv_iinc (v := (x5_52 + (1 : Int32))) (lv' := [(5, .int (x5_52 + (1 : Int32))), (3, .int (1 : Int32)), (7, .int q13.1), (6, .int q9.1), (0, .ref h0), (1, .ref h1), (2, .int p2), (4, .int x4_36)]) hx hb dX3_measureFrom_136 hl (k := 7) rfl rfl (by decide) rfl (fun ls hl => ?_)
                          refine lv_goto (tgt := 52) hx hb dX3_measureFrom_139 (by decide) ?_
                          exact ih52 (1 : Int32) (x5_52 + (1 : Int32)) q13.2 _ _ _ hm hP hD hS (lv_sub hl [4, 5, 6, 1, 7, 0] rfl)
            exact L52 fu (0 : Int32) (0 : Int32) v_metres_36 _ _ _ hm hP hD hS (lv_sub hl [2, 3, 4, 1, 5, 0] rfl)
    exact L36 fu (1 : Int32) (0 : Int32) v_metres_31 _ _ _ hm hP hD hS (lv_sub hl [2, 3, 4, 1, 0] rfl)
  have L2 : ∀ n2 : Nat, ∀ (x3_2 : Int32) (v_metres_2 : Nat → Int32), ∀ (H : Heap) (locs : List Loc) (ls : Array Slot), m_X3_measureFrom_L2 p2 K31 n2 x3_2 v_metres_2 = some q → va_P (dC, dI) vwCl [(h0, .inr (3, [.ref h0_metres, .ref h0_skills])), (h0_metres, .inl (cI, 21, .inl v_metres_2)), (h0_skills, .inl (cI, 21, .inl v_skills)), (h1, .inr (5, [.ref h1_had, .ref h1_there, .ref h1_corner, .ref h1_second, .ref h1_third, .int a1_seed, .int a1_size, .int a1_parts])), (h1_had, .inl (cZ, 62, .inl a1_had)), (h1_there, .inl (cZ, 62, .inl a1_there)), (h1_corner, .inl (cI, 62, .inl a1_corner)), (h1_second, .inl (cI, 62, .inl a1_second)), (h1_third, .inl (cI, 62, .inl a1_third))] H → va_D A [(h0, .inr (3, [.ref h0_metres, .ref h0_skills])), (h0_metres, .inl (cI, 21, .inl v_metres_2)), (h0_skills, .inl (cI, 21, .inl v_skills)), (h1, .inr (5, [.ref h1_had, .ref h1_there, .ref h1_corner, .ref h1_second, .ref h1_third, .int a1_seed, .int a1_size, .int a1_parts])), (h1_had, .inl (cZ, 62, .inl a1_had)), (h1_there, .inl (cZ, 62, .inl a1_there)), (h1_corner, .inl (cI, 62, .inl a1_corner)), (h1_second, .inl (cI, 62, .inl a1_second)), (h1_third, .inl (cI, 62, .inl a1_third))] → va_S A s.heap H locs → lv_has ls 8 [(0, .ref h0), (1, .ref h1), (2, .int p2), (3, .int x3_2)] → W p l e (headSpec wsX3_measureFrom ({ frames := 2, cells := 0, slots := 0, locals := 43 })).room s m [.ref h0, .ref h1, .int p2].toArray below meth c H locs 0 0 (MQ below (va_Qv (fun (_ : Unit) => True) (fun _ t => va_P (dC, dI) vwCl [(h0, .inr (3, [.ref h0_metres, .ref h0_skills])), (h0_metres, .inl (cI, 21, .inl q)), (h0_skills, .inl (cI, 21, .inl v_skills)), (h1, .inr (5, [.ref h1_had, .ref h1_there, .ref h1_corner, .ref h1_second, .ref h1_third, .int a1_seed, .int a1_size, .int a1_parts])), (h1_had, .inl (cZ, 62, .inl a1_had)), (h1_there, .inl (cZ, 62, .inl a1_there)), (h1_corner, .inl (cI, 62, .inl a1_corner)), (h1_second, .inl (cI, 62, .inl a1_second)), (h1_third, .inl (cI, 62, .inl a1_third))] t.heap ∧ va_D A [(h0, .inr (3, [.ref h0_metres, .ref h0_skills])), (h0_metres, .inl (cI, 21, .inl q)), (h0_skills, .inl (cI, 21, .inl v_skills)), (h1, .inr (5, [.ref h1_had, .ref h1_there, .ref h1_corner, .ref h1_second, .ref h1_third, .int a1_seed, .int a1_size, .int a1_parts])), (h1_had, .inl (cZ, 62, .inl a1_had)), (h1_there, .inl (cZ, 62, .inl a1_there)), (h1_corner, .inl (cI, 62, .inl a1_corner)), (h1_second, .inl (cI, 62, .inl a1_second)), (h1_third, .inl (cI, 62, .inl a1_third))]) A) [.ref h0, .ref h1, .int p2].toArray s 0 0 A) (F0 m 2 ls []) := by
    intro n2
    induction n2 with
    | zero =>
      intro x3_2 v_metres_2 H locs ls hm hP hD hS hl
      exact absurd hm (fun h => nomatch h)
    | succ n2 ih2 =>
      intro x3_2 v_metres_2 H locs ls hm hP hD hS hl
      rw [m_X3_measureFrom_L2] at hm
      refine lv_iload_n hx hb dX3_measureFrom_2 rfl (lv_at hl 3 rfl) ?_
      refine lv_bipush (v := (21 : Int32)) hx hb dX3_measureFrom_3 (by decide) ?_
      refine lv_icmp_ge (tgt := 31) hx hb dX3_measureFrom_5 (by decide) (fun c17 => ?_) (fun c17 => ?_)
      · replace hm := mt_pos c17 hm
        exact J31 x3_2 v_metres_2 _ _ _ hm hP hD hS (lv_sub hl [0, 1, 2, 3] rfl)
      · replace hm := mt_neg c17 hm
        refine lv_aload_n hx hb dX3_measureFrom_8 rfl (lv_at hl 0 rfl) ?_
        refine va_get (D := (dC, dI)) (ci := 3) (v := .ref h0_metres) (C := RX3) (T := TX3) (N := 2) hx hb hts hiX3 hown hK hP 0 rfl rfl 0 (by decide) (hts (.fieldLink RX3 9 "ServiceDrawer$Roads" "metres" "[I") (by decide +kernel)) (fun _ h9 => h9) rfl dX3_measureFrom_9 ?_
        refine lv_iload_n hx hb dX3_measureFrom_12 rfl (lv_at hl 3 rfl) ?_
        refine lv_iload_n hx hb dX3_measureFrom_13 rfl (lv_at hl 3 rfl) ?_
        refine lv_iload_n hx hb dX3_measureFrom_14 rfl (lv_at hl 2 rfl) ?_
        obtain ⟨K24, hK24, hm⟩ := mt_jx hm
        have J24 : ∀ (j0_24 : Int32) (j1_24 : Int32), ∀ (H : Heap) (locs : List Loc) (ls : Array Slot), K24 j0_24 j1_24 = some q → va_P (dC, dI) vwCl [(h0, .inr (3, [.ref h0_metres, .ref h0_skills])), (h0_metres, .inl (cI, 21, .inl v_metres_2)), (h0_skills, .inl (cI, 21, .inl v_skills)), (h1, .inr (5, [.ref h1_had, .ref h1_there, .ref h1_corner, .ref h1_second, .ref h1_third, .int a1_seed, .int a1_size, .int a1_parts])), (h1_had, .inl (cZ, 62, .inl a1_had)), (h1_there, .inl (cZ, 62, .inl a1_there)), (h1_corner, .inl (cI, 62, .inl a1_corner)), (h1_second, .inl (cI, 62, .inl a1_second)), (h1_third, .inl (cI, 62, .inl a1_third))] H → va_D A [(h0, .inr (3, [.ref h0_metres, .ref h0_skills])), (h0_metres, .inl (cI, 21, .inl v_metres_2)), (h0_skills, .inl (cI, 21, .inl v_skills)), (h1, .inr (5, [.ref h1_had, .ref h1_there, .ref h1_corner, .ref h1_second, .ref h1_third, .int a1_seed, .int a1_size, .int a1_parts])), (h1_had, .inl (cZ, 62, .inl a1_had)), (h1_there, .inl (cZ, 62, .inl a1_there)), (h1_corner, .inl (cI, 62, .inl a1_corner)), (h1_second, .inl (cI, 62, .inl a1_second)), (h1_third, .inl (cI, 62, .inl a1_third))] → va_S A s.heap H locs → lv_has ls 8 [(0, .ref h0), (1, .ref h1), (2, .int p2), (3, .int x3_2)] → W p l e (headSpec wsX3_measureFrom ({ frames := 2, cells := 0, slots := 0, locals := 43 })).room s m [.ref h0, .ref h1, .int p2].toArray below meth c H locs 0 0 (MQ below (va_Qv (fun (_ : Unit) => True) (fun _ t => va_P (dC, dI) vwCl [(h0, .inr (3, [.ref h0_metres, .ref h0_skills])), (h0_metres, .inl (cI, 21, .inl q)), (h0_skills, .inl (cI, 21, .inl v_skills)), (h1, .inr (5, [.ref h1_had, .ref h1_there, .ref h1_corner, .ref h1_second, .ref h1_third, .int a1_seed, .int a1_size, .int a1_parts])), (h1_had, .inl (cZ, 62, .inl a1_had)), (h1_there, .inl (cZ, 62, .inl a1_there)), (h1_corner, .inl (cI, 62, .inl a1_corner)), (h1_second, .inl (cI, 62, .inl a1_second)), (h1_third, .inl (cI, 62, .inl a1_third))] t.heap ∧ va_D A [(h0, .inr (3, [.ref h0_metres, .ref h0_skills])), (h0_metres, .inl (cI, 21, .inl q)), (h0_skills, .inl (cI, 21, .inl v_skills)), (h1, .inr (5, [.ref h1_had, .ref h1_there, .ref h1_corner, .ref h1_second, .ref h1_third, .int a1_seed, .int a1_size, .int a1_parts])), (h1_had, .inl (cZ, 62, .inl a1_had)), (h1_there, .inl (cZ, 62, .inl a1_there)), (h1_corner, .inl (cI, 62, .inl a1_corner)), (h1_second, .inl (cI, 62, .inl a1_second)), (h1_third, .inl (cI, 62, .inl a1_third))]) A) [.ref h0, .ref h1, .int p2].toArray s 0 0 A) (F0 m 24 ls [.int j0_24, .int j1_24, .ref h0_metres]) := by
          intro j0_24 j1_24 H locs ls hm hP hD hS hl
          replace hm := mt_app2 hK24 hm
          obtain ⟨g18, hm⟩ := mt_gd hm
          refine va_iast hx hb hK hP hD hS 1 1 rfl rfl g18 dX3_measureFrom_24 (fun H locs hP hD hS => ?_)
          have hP : va_P (dC, dI) vwCl [(h0, .inr (3, [.ref h0_metres, .ref h0_skills])), (h0_metres, .inl (cI, 21, .inl (upd v_metres_2 j1_24.toNatClampNeg j0_24))), (h0_skills, .inl (cI, 21, .inl v_skills)), (h1, .inr (5, [.ref h1_had, .ref h1_there, .ref h1_corner, .ref h1_second, .ref h1_third, .int a1_seed, .int a1_size, .int a1_parts])), (h1_had, .inl (cZ, 62, .inl a1_had)), (h1_there, .inl (cZ, 62, .inl a1_there)), (h1_corner, .inl (cI, 62, .inl a1_corner)), (h1_second, .inl (cI, 62, .inl a1_second)), (h1_third, .inl (cI, 62, .inl a1_third))] H := hP
          have hD : va_D A [(h0, .inr (3, [.ref h0_metres, .ref h0_skills])), (h0_metres, .inl (cI, 21, .inl (upd v_metres_2 j1_24.toNatClampNeg j0_24))), (h0_skills, .inl (cI, 21, .inl v_skills)), (h1, .inr (5, [.ref h1_had, .ref h1_there, .ref h1_corner, .ref h1_second, .ref h1_third, .int a1_seed, .int a1_size, .int a1_parts])), (h1_had, .inl (cZ, 62, .inl a1_had)), (h1_there, .inl (cZ, 62, .inl a1_there)), (h1_corner, .inl (cI, 62, .inl a1_corner)), (h1_second, .inl (cI, 62, .inl a1_second)), (h1_third, .inl (cI, 62, .inl a1_third))] := hD
          refine lv_iinc (v := (x3_2 + (1 : Int32))) (lv' := [(3, .int (x3_2 + (1 : Int32))), (0, .ref h0), (1, .ref h1), (2, .int p2)]) hx hb dX3_measureFrom_25 hl (k := 3) rfl rfl (by decide) rfl (fun ls hl => ?_)
          refine lv_goto (tgt := 2) hx hb dX3_measureFrom_28 (by decide) ?_
          exact ih2 (x3_2 + (1 : Int32)) (upd v_metres_2 j1_24.toNatClampNeg j0_24) _ _ _ hm hP hD hS (lv_sub hl [1, 2, 3, 0] rfl)
        refine lv_icmp_ne (tgt := 22) hx hb dX3_measureFrom_15 (by decide) (fun c19 => ?_) (fun c19 => ?_)
        · replace hm := mt_neg c19 hm
          refine lv_ldc (v := (1000000 : Int32)) hx hb hown (hts (.constant RX3 18 (1000000 : Int32)) (by decide +kernel)) dX3_measureFrom_22 ?_
          exact J24 (1000000 : Int32) x3_2 _ _ _ hm hP hD hS (lv_sub hl [0, 1, 2, 3] rfl)
        · replace hm := mt_pos c19 hm
          refine lv_iconst (v := (0 : Int32)) hx hb dX3_measureFrom_18 (by decide) ?_
          refine lv_goto (tgt := 24) hx hb dX3_measureFrom_19 (by decide) ?_
          exact J24 (0 : Int32) x3_2 _ _ _ hm hP hD hS (lv_sub hl [0, 1, 2, 3] rfl)
  exact L2 fu (0 : Int32) v_metres _ _ _ hm hP hD hS (lv_sub hl [1, 2, 3, 0] rfl)
