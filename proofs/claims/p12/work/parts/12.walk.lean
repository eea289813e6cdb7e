def m_X3_metresTo (p1 : Int32) (v_metres : Nat → Int32) : Option (Int32) := (m_X6_isCorner p1).bind fun q1 => if q1 = 0 then some ((-1) : Int32) else if (¬ (p1 < 0 ∨ 21 ≤ p1.toNatClampNeg)) then if (1000000 : Int32) ≤ (v_metres p1.toNatClampNeg) then some ((-1) : Int32) else if (¬ (p1 < 0 ∨ 21 ≤ p1.toNatClampNeg)) then some (v_metres p1.toNatClampNeg) else none else none
set_option maxHeartbeats 4000000 in
set_option maxRecDepth 100000 in
theorem c_X3_metresTo (l : Launch) (dC : Nat → ClassId) (dI : Nat → Nat → Nat) (cZ cI cL : ClassId) (h0 h0_metres h0_skills : Nat) (p1 : Int32) (v_metres : Nat → Int32) (v_skills : Nat → Int32) (q : Int32) (hm : m_X3_metresTo p1 v_metres = some q) : Met l yX3_metresTo wsX3_metresTo ({ frames := 1, cells := 0, slots := 0, locals := 20 }) (va_Pc [.ref h0, .int p1] (mt_R (dC, dI) cZ cI cL [(h0, .inr (3, [.ref h0_metres, .ref h0_skills])), (h0_metres, .inl (cI, 21, .inl v_metres)), (h0_skills, .inl (cI, 21, .inl v_skills))])) (vp_Si (fun r => r = q)) 0 0 (fun _ => False) := by
  refine Met.ofW (cc := cX3_metresTo) (maxL := 2) (ret := (some .int)) (by decide) rfl ?_
  intro p e s m args below meth c s₁ B hml hv
  obtain ⟨rfl, hP, hC⟩ := hv
  have hx := B.exec
  have hb := B.bytes
  have hr := B.returns
  have hts := atoms_spec (ws := wsX3_metresTo) B.pre
  have hown : s.vm.findClass RX3 = some m.cls := findClass_of_methodNamed B.named
  have hlocks := B.notSynchronized
  have hK := hC.1
  have hiX3 : ∀ w ∈ wsX30, w ∈ wsX3_metresTo := by decide +kernel
  have hl := lv_entry [.ref h0, .int p1] (n := 2) (Nat.le_of_ble_eq_true rfl)
  rw [lg_entry_eq]
  generalize (lg_sl [.ref h0, .int p1] ++ List.replicate (2 - (lg_sl [.ref h0, .int p1]).length) Slot.unset).toArray = ls at hl ⊢
  have hl : lv_has ls 2 [(0, .ref h0), (1, .int p1)] := hl
  rw [m_X3_metresTo] at hm
  refine lv_iload_n hx hb dX3_metresTo_0 rfl (lv_at hl 1 rfl) ?_
  obtain ⟨q1, hq1, hm⟩ := mt_bind hm
  refine vp_callSi (va_Run.run (va_runSN (As := [.int p1]) (rest := []) ⟨hx, hb, hml, hown, hts⟩ (c_X6_isCorner l dC dI cZ cI cL p1 q1 hq1) ⟨(va_cnB 1 hts gX3_metresTo_X6_isCorner_n39 rfl rfl rfl (hC.2.m RX3 39 yX6_isCorner "ServiceDrawer" (by decide +kernel)) (hts (.initialized RX6) (by decide +kernel)) (by decide +kernel) ⟨Nat.le_of_ble_eq_true rfl, Nat.le_of_ble_eq_true rfl⟩), hts (.static yX6_isCorner) (by decide +kernel), trivial⟩ (mt_pR hC (hP.sub (ws' := []) [] rfl)) rfl rfl hl.1 rfl (lv_room (Nat.le_of_ble_eq_true rfl)) dX3_metresTo_1 ⟨Nat.le_of_ble_eq_true rfl, Nat.le_of_ble_eq_true rfl⟩)) (fun r er => ?_)
  replace er := er.symm
  subst er
  refine lv_if_eq (tgt := 27) hx hb dX3_metresTo_4 (by decide) (fun c2 => ?_) (fun c2 => ?_)
  · replace hm := mt_pos c2 hm
    refine lv_iconst (v := ((-1) : Int32)) hx hb dX3_metresTo_27 (by decide) ?_
    obtain rfl := Option.some.inj hm
    exact W.iret hx hb hr (fun t ht hW => ⟨_, rfl, rfl, ht⟩) t_nil dX3_metresTo_28
  · replace hm := mt_neg c2 hm
    refine lv_aload_n hx hb dX3_metresTo_7 rfl (lv_at hl 0 rfl) ?_
    refine va_get (D := (dC, dI)) (ci := 3) (v := .ref h0_metres) (C := RX3) (T := TX3) (N := 2) hx hb hts hiX3 hown hK hP 0 rfl rfl 0 (by decide) (hts (.fieldLink RX3 9 "ServiceDrawer$Roads" "metres" "[I") (by decide +kernel)) (fun _ h9 => h9) rfl dX3_metresTo_8 ?_
    refine lv_iload_n hx hb dX3_metresTo_11 rfl (lv_at hl 1 rfl) ?_
    obtain ⟨g3, hm⟩ := mt_gd hm
    refine va_iald hx hb hK hP 1 1 rfl rfl g3 dX3_metresTo_12 ?_
    refine lv_ldc (v := (1000000 : Int32)) hx hb hown (hts (.constant RX3 18 (1000000 : Int32)) (by decide +kernel)) dX3_metresTo_13 ?_
    refine lv_icmp_ge (tgt := 27) hx hb dX3_metresTo_15 (by decide) (fun c4 => ?_) (fun c4 => ?_)
    · replace hm := mt_pos c4 hm
      refine lv_iconst (v := ((-1) : Int32)) hx hb dX3_metresTo_27 (by decide) ?_
      obtain rfl := Option.some.inj hm
      exact W.iret hx hb hr (fun t ht hW => ⟨_, rfl, rfl, ht⟩) t_nil dX3_metresTo_28
    · replace hm := mt_neg c4 hm
      refine lv_aload_n hx hb dX3_metresTo_18 rfl (lv_at hl 0 rfl) ?_
      refine va_get (D := (dC, dI)) (ci := 3) (v := .ref h0_metres) (C := RX3) (T := TX3) (N := 2) hx hb hts hiX3 hown hK hP 0 rfl rfl 0 (by decide) (hts (.fieldLink RX3 9 "ServiceDrawer$Roads" "metres" "[I") (by decide +kernel)) (fun _ h9 => h9) rfl dX3_metresTo_19 ?_
      refine lv_iload_n hx hb dX3_metresTo_22 rfl (lv_at hl 1 rfl) ?_
      obtain ⟨g5, hm⟩ := mt_gd hm
      refine va_iald hx hb hK hP 1 1 rfl rfl g5 dX3_metresTo_23 ?_
      refine lv_goto (tgt := 28) hx hb dX3_metresTo_24 (by decide) ?_
      obtain rfl := Option.some.inj hm
      exact W.iret hx hb hr (fun t ht hW => ⟨_, rfl, rfl, ht⟩) t_nil dX3_metresTo_28
def m_X0_someWayIsLong_L33 (a1_there : Nat → Int32) (a1_corner : Nat → Int32) (q5 : (Nat → Int32)) (K72 : Unit → Option (Int32 × (Nat → Int32))) : Nat → Int32 → Option (Int32 × (Nat → Int32))
  | 0, _ => none
  | n33 + 1, x3_33 => if (62 : Int32) ≤ x3_33 then K72 () else (m_X5_isThere x3_33 a1_there).bind fun q7 => if q7 = 0 then m_X0_someWayIsLong_L33 a1_there a1_corner q5 K72 n33 (x3_33 + (1 : Int32)) else (m_X5_cornerOf x3_33 a1_corner).bind fun q9 => (m_X3_metresTo q9 q5).bind fun q10 => if q10 ≤ (99 : Int32) then m_X0_someWayIsLong_L33 a1_there a1_corner q5 K72 n33 (x3_33 + (1 : Int32)) else some ((1 : Int32), q5)
def m_X0_someWayIsLong_L3 (fu : Nat) (a1_there : Nat → Int32) (a1_corner : Nat → Int32) (a1_second : Nat → Int32) (a1_third : Nat → Int32) (K78 : Int32 → (Nat → Int32) → Option (Int32 × (Nat → Int32))) : Nat → Int32 → (Nat → Int32) → Option (Int32 × (Nat → Int32))
  | 0, _, _ => none
  | n3 + 1, x2_3, v_roads_metres_3 => if (41 : Int32) ≤ x2_3 then K78 x2_3 v_roads_metres_3 else (m_X5_isThere x2_3 a1_there).bind fun q2 => if q2 = 0 then m_X0_someWayIsLong_L3 fu a1_there a1_corner a1_second a1_third K78 n3 (x2_3 + (1 : Int32)) v_roads_metres_3 else (m_X5_cornerOf x2_3 a1_corner).bind fun q4 => (m_X3_measureFrom fu q4 v_roads_metres_3 a1_there a1_corner a1_second a1_third).bind fun q5 => mt_j (fun (u72 : Unit) => m_X0_someWayIsLong_L3 fu a1_there a1_corner a1_second a1_third K78 n3 (x2_3 + (1 : Int32)) q5) fun K72 => m_X0_someWayIsLong_L33 a1_there a1_corner q5 K72 fu (41 : Int32)
def m_X0_someWayIsLong (fu : Nat) (v_roads_metres : Nat → Int32) (a1_there : Nat → Int32) (a1_corner : Nat → Int32) (a1_second : Nat → Int32) (a1_third : Nat → Int32) : Option (Int32 × (Nat → Int32)) := mt_j (fun (x2_78 : Int32) (v_roads_metres_78 : Nat → Int32) => some ((0 : Int32), v_roads_metres_78)) fun K78 => m_X0_someWayIsLong_L3 fu a1_there a1_corner a1_second a1_third K78 fu (30 : Int32) v_roads_metres
set_option maxHeartbeats 4000000 in
set_option maxRecDepth 100000 in
theorem c_X0_someWayIsLong (l : Launch) (dC : Nat → ClassId) (dI : Nat → Nat → Nat) (cZ cI cL : ClassId) (h0 h0_roads h0_roads_metres h0_roads_skills h1 h1_had h1_there h1_corner h1_second h1_third : Nat) (sz : Nat) (v_roads_metres : Nat → Int32) (v_roads_skills : Nat → Int32) (a1_seed : Int32) (a1_size : Int32) (a1_parts : Int32) (a1_had : Nat → Int32) (a1_there : Nat → Int32) (a1_corner : Nat → Int32) (a1_second : Nat → Int32) (a1_third : Nat → Int32) (fu : Nat) (q : Int32 × (Nat → Int32)) (hm : m_X0_someWayIsLong fu v_roads_metres a1_there a1_corner a1_second a1_third = some q) : Met l yX0_someWayIsLong wsX0_someWayIsLong ({ frames := 3, cells := 0, slots := 0, locals := 70 }) (va_Pc [.ref h0, .ref h1] (mt_S (dC, dI) cZ cI cL sz [(h0, .inr (0, [.ref h0_roads])), (h0_roads, .inr (3, [.ref h0_roads_metres, .ref h0_roads_skills])), (h0_roads_metres, .inl (cI, 21, .inl v_roads_metres)), (h0_roads_skills, .inl (cI, 21, .inl v_roads_skills)), (h1, .inr (5, [.ref h1_had, .ref h1_there, .ref h1_corner, .ref h1_second, .ref h1_third, .int a1_seed, .int a1_size, .int a1_parts])), (h1_had, .inl (cZ, 62, .inl a1_had)), (h1_there, .inl (cZ, 62, .inl a1_there)), (h1_corner, .inl (cI, 62, .inl a1_corner)), (h1_second, .inl (cI, 62, .inl a1_second)), (h1_third, .inl (cI, 62, .inl a1_third))])) (va_Qi (fun (r : Int32) (_ : Unit) => r = q.1) (fun _ t => va_P (dC, dI) vwCl [(h0, .inr (0, [.ref h0_roads])), (h0_roads, .inr (3, [.ref h0_roads_metres, .ref h0_roads_skills])), (h0_roads_metres, .inl (cI, 21, .inl q.2)), (h0_roads_skills, .inl (cI, 21, .inl v_roads_skills)), (h1, .inr (5, [.ref h1_had, .ref h1_there, .ref h1_corner, .ref h1_second, .ref h1_third, .int a1_seed, .int a1_size, .int a1_parts])), (h1_had, .inl (cZ, 62, .inl a1_had)), (h1_there, .inl (cZ, 62, .inl a1_there)), (h1_corner, .inl (cI, 62, .inl a1_corner)), (h1_second, .inl (cI, 62, .inl a1_second)), (h1_third, .inl (cI, 62, .inl a1_third))] t.heap ∧ va_D (va_A [(h0, .inr (0, [.ref h0_roads])), (h0_roads, .inr (3, [.ref h0_roads_metres, .ref h0_roads_skills])), (h0_roads_metres, .inl (cI, 21, .inl v_roads_metres)), (h0_roads_skills, .inl (cI, 21, .inl v_roads_skills)), (h1, .inr (5, [.ref h1_had, .ref h1_there, .ref h1_corner, .ref h1_second, .ref h1_third, .int a1_seed, .int a1_size, .int a1_parts])), (h1_had, .inl (cZ, 62, .inl a1_had)), (h1_there, .inl (cZ, 62, .inl a1_there)), (h1_corner, .inl (cI, 62, .inl a1_corner)), (h1_second, .inl (cI, 62, .inl a1_second)), (h1_third, .inl (cI, 62, .inl a1_third))] sz) [(h0, .inr (0, [.ref h0_roads])), (h0_roads, .inr (3, [.ref h0_roads_metres, .ref h0_roads_skills])), (h0_roads_metres, .inl (cI, 21, .inl q.2)), (h0_roads_skills, .inl (cI, 21, .inl v_roads_skills)), (h1, .inr (5, [.ref h1_had, .ref h1_there, .ref h1_corner, .ref h1_second, .ref h1_third, .int a1_seed, .int a1_size, .int a1_parts])), (h1_had, .inl (cZ, 62, .inl a1_had)), (h1_there, .inl (cZ, 62, .inl a1_there)), (h1_corner, .inl (cI, 62, .inl a1_corner)), (h1_second, .inl (cI, 62, .inl a1_second)), (h1_third, .inl (cI, 62, .inl a1_third))]) (va_A [(h0, .inr (0, [.ref h0_roads])), (h0_roads, .inr (3, [.ref h0_roads_metres, .ref h0_roads_skills])), (h0_roads_metres, .inl (cI, 21, .inl v_roads_metres)), (h0_roads_skills, .inl (cI, 21, .inl v_roads_skills)), (h1, .inr (5, [.ref h1_had, .ref h1_there, .ref h1_corner, .ref h1_second, .ref h1_third, .int a1_seed, .int a1_size, .int a1_parts])), (h1_had, .inl (cZ, 62, .inl a1_had)), (h1_there, .inl (cZ, 62, .inl a1_there)), (h1_corner, .inl (cI, 62, .inl a1_corner)), (h1_second, .inl (cI, 62, .inl a1_second)), (h1_third, .inl (cI, 62, .inl a1_third))] sz)) 0 0 (va_A [(h0, .inr (0, [.ref h0_roads])), (h0_roads, .inr (3, [.ref h0_roads_metres, .ref h0_roads_skills])), (h0_roads_metres, .inl (cI, 21, .inl v_roads_metres)), (h0_roads_skills, .inl (cI, 21, .inl v_roads_skills)), (h1, .inr (5, [.ref h1_had, .ref h1_there, .ref h1_corner, .ref h1_second, .ref h1_third, .int a1_seed, .int a1_size, .int a1_parts])), (h1_had, .inl (cZ, 62, .inl a1_had)), (h1_there, .inl (cZ, 62, .inl a1_there)), (h1_corner, .inl (cI, 62, .inl a1_corner)), (h1_second, .inl (cI, 62, .inl a1_second)), (h1_third, .inl (cI, 62, .inl a1_third))] sz) := by
  refine Met.ofW (cc := cX0_someWayIsLong) (maxL := 4) (ret := (some .boolean)) (by decide) rfl ?_
  intro p e s m args below meth c s₁ B hml hv
  obtain ⟨rfl, hsz, hP, hC, hD0⟩ := hv
  have hx := B.exec
  have hb := B.bytes
  have hr := B.returns
  have hts := atoms_spec (ws := wsX0_someWayIsLong) B.pre
  have hown : s.vm.findClass RX0 = some m.cls := findClass_of_methodNamed B.named
  have hlocks := B.notSynchronized
  have hK := hC.1
  have hiX0 : ∀ w ∈ wsX00, w ∈ wsX0_someWayIsLong := by decide +kernel
  subst hsz
  have hD := hD0.self (sz := s.heap.size)
  generalize hAe : va_A [(h0, .inr (0, [.ref h0_roads])), (h0_roads, .inr (3, [.ref h0_roads_metres, .ref h0_roads_skills])), (h0_roads_metres, .inl (cI, 21, .inl v_roads_metres)), (h0_roads_skills, .inl (cI, 21, .inl v_roads_skills)), (h1, .inr (5, [.ref h1_had, .ref h1_there, .ref h1_corner, .ref h1_second, .ref h1_third, .int a1_seed, .int a1_size, .int a1_parts])), (h1_had, .inl (cZ, 62, .inl a1_had)), (h1_there, .inl (cZ, 62, .inl a1_there)), (h1_corner, .inl (cI, 62, .inl a1_corner)), (h1_second, .inl (cI, 62, .inl a1_second)), (h1_third, .inl (cI, 62, .inl a1_third))] s.heap.size = A at hD ⊢
  have hA : ∀ q : Nat, s.heap.size ≤ q → A q := fun q h => by rw [← hAe]; exact Or.inr h
  have hS : va_S A s.heap s.heap [] := va_S.rf
  have hl := lv_entry [.ref h0, .ref h1] (n := 4) (Nat.le_of_ble_eq_true rfl)
  rw [lg_entry_eq]
  generalize (lg_sl [.ref h0, .ref h1] ++ List.replicate (4 - (lg_sl [.ref h0, .ref h1]).length) Slot.unset).toArray = ls at hl ⊢
  have hl : lv_has ls 4 [(0, .ref h0), (1, .ref h1)] := hl
  rw [m_X0_someWayIsLong] at hm
  refine lv_bipush (v := (30 : Int32)) hx hb dX0_someWayIsLong_0 (by decide) ?_
  refine lv_istore_n (lv' := [(2, .int (30 : Int32)), (0, .ref h0), (1, .ref h1)]) hx hb dX0_someWayIsLong_2 rfl hl (by decide) rfl (fun ls hl => ?_)
  obtain ⟨K78, hK78, hm⟩ := mt_jx hm
  have J78 : ∀ (x2_78 : Int32) (v_roads_metres_78 : Nat → Int32), ∀ (H : Heap) (locs : List Loc) (ls : Array Slot), K78 x2_78 v_roads_metres_78 = some q → va_P (dC, dI) vwCl [(h0, .inr (0, [.ref h0_roads])), (h0_roads, .inr (3, [.ref h0_roads_metres, .ref h0_roads_skills])), (h0_roads_metres, .inl (cI, 21, .inl v_roads_metres_78)), (h0_roads_skills, .inl (cI, 21, .inl v_roads_skills)), (h1, .inr (5, [.ref h1_had, .ref h1_there, .ref h1_corner, .ref h1_second, .ref h1_third, .int a1_seed, .int a1_size, .int a1_parts])), (h1_had, .inl (cZ, 62, .inl a1_had)), (h1_there, .inl (cZ, 62, .inl a1_there)), (h1_corner, .inl (cI, 62, .inl a1_corner)), (h1_second, .inl (cI, 62, .inl a1_second)), (h1_third, .inl (cI, 62, .inl a1_third))] H → va_D A [(h0, .inr (0, [.ref h0_roads])), (h0_roads, .inr (3, [.ref h0_roads_metres, .ref h0_roads_skills])), (h0_roads_metres, .inl (cI, 21, .inl v_roads_metres_78)), (h0_roads_skills, .inl (cI, 21, .inl v_roads_skills)), (h1, .inr (5, [.ref h1_had, .ref h1_there, .ref h1_corner, .ref h1_second, .ref h1_third, .int a1_seed, .int a1_size, .int a1_parts])), (h1_had, .inl (cZ, 62, .inl a1_had)), (h1_there, .inl (cZ, 62, .inl a1_there)), (h1_corner, .inl (cI, 62, .inl a1_corner)), (h1_second, .inl (cI, 62, .inl a1_second)), (h1_third, .inl (cI, 62, .inl a1_third))] → va_S A s.heap H locs → lv_has ls 4 [(0, .ref h0), (1, .ref h1), (2, .int x2_78)] → W p l e (headSpec wsX0_someWayIsLong ({ frames := 3, cells := 0, slots := 0, locals := 70 })).room s m [.ref h0, .ref h1].toArray below meth c H locs 0 0 (MQ below (va_Qi (fun (r : Int32) (_ : Unit) => r = q.1) (fun _ t => va_P (dC, dI) vwCl [(h0, .inr (0, [.ref h0_roads])), (h0_roads, .inr (3, [.ref h0_roads_metres, .ref h0_roads_skills])), (h0_roads_metres, .inl (cI, 21, .inl q.2)), (h0_roads_skills, .inl (cI, 21, .inl v_roads_skills)), (h1, .inr (5, [.ref h1_had, .ref h1_there, .ref h1_corner, .ref h1_second, .ref h1_third, .int a1_seed, .int a1_size, .int a1_parts])), (h1_had, .inl (cZ, 62, .inl a1_had)), (h1_there, .inl (cZ, 62, .inl a1_there)), (h1_corner, .inl (cI, 62, .inl a1_corner)), (h1_second, .inl (cI, 62, .inl a1_second)), (h1_third, .inl (cI, 62, .inl a1_third))] t.heap ∧ va_D A [(h0, .inr (0, [.ref h0_roads])), (h0_roads, .inr (3, [.ref h0_roads_metres, .ref h0_roads_skills])), (h0_roads_metres, .inl (cI, 21, .inl q.2)), (h0_roads_skills, .inl (cI, 21, .inl v_roads_skills)), (h1, .inr (5, [.ref h1_had, .ref h1_there, .ref h1_corner, .ref h1_second, .ref h1_third, .int a1_seed, .int a1_size, .int a1_parts])), (h1_had, .inl (cZ, 62, .inl a1_had)), (h1_there, .inl (cZ, 62, .inl a1_there)), (h1_corner, .inl (cI, 62, .inl a1_corner)), (h1_second, .inl (cI, 62, .inl a1_second)), (h1_third, .inl (cI, 62, .inl a1_third))]) A) [.ref h0, .ref h1].toArray s 0 0 A) (F0 m 78 ls []) := by
    intro x2_78 v_roads_metres_78 H locs ls hm hP hD hS hl
    replace hm := mt_app2 hK78 hm
    refine lv_iconst (v := (0 : Int32)) hx hb dX0_someWayIsLong_78 (by decide) ?_
    obtain rfl := Option.some.inj hm
    exact W.zret hx hb hr mt_z0 (fun t ht hW => ⟨⟨_, (), rfl, rfl, by rw [ht]; exact hP, hD⟩, hS.F ht⟩) hS.2.2 dX0_someWayIsLong_79
  have L3 : ∀ n3 : Nat, ∀ (x2_3 : Int32) (v_roads_metres_3 : Nat → Int32), ∀ (H : Heap) (locs : List Loc) (ls : Array Slot), m_X0_someWayIsLong_L3 fu a1_there a1_corner a1_second a1_third K78 n3 x2_3 v_roads_metres_3 = some q → va_P (dC, dI) vwCl [(h0, .inr (0, [.ref h0_roads])), (h0_roads, .inr (3, [.ref h0_roads_metres, .ref h0_roads_skills])), (h0_roads_metres, .inl (cI, 21, .inl v_roads_metres_3)), (h0_roads_skills, .inl (cI, 21, .inl v_roads_skills)), (h1, .inr (5, [.ref h1_had, .ref h1_there, .ref h1_corner, .ref h1_second, .ref h1_third, .int a1_seed, .int a1_size, .int a1_parts])), (h1_had, .inl (cZ, 62, .inl a1_had)), (h1_there, .inl (cZ, 62, .inl a1_there)), (h1_corner, .inl (cI, 62, .inl a1_corner)), (h1_second, .inl (cI, 62, .inl a1_second)), (h1_third, .inl (cI, 62, .inl a1_third))] H → va_D A [(h0, .inr (0, [.ref h0_roads])), (h0_roads, .inr (3, [.ref h0_roads_metres, .ref h0_roads_skills])), (h0_roads_metres, .inl (cI, 21, .inl v_roads_metres_3)), (h0_roads_skills, .inl (cI, 21, .inl v_roads_skills)), (h1, .inr (5, [.ref h1_had, .ref h1_there, .ref h1_corner, .ref h1_second, .ref h1_third, .int a1_seed, .int a1_size, .int a1_parts])), (h1_had, .inl (cZ, 62, .inl a1_had)), (h1_there, .inl (cZ, 62, .inl a1_there)), (h1_corner, .inl (cI, 62, .inl a1_corner)), (h1_second, .inl (cI, 62, .inl a1_second)), (h1_third, .inl (cI, 62, .inl a1_third))] → va_S A s.heap H locs → lv_has ls 4 [(0, .ref h0), (1, .ref h1), (2, .int x2_3)] → W p l e (headSpec wsX0_someWayIsLong ({ frames := 3, cells := 0, slots := 0, locals := 70 })).room s m [.ref h0, .ref h1].toArray below meth c H locs 0 0 (MQ below (va_Qi (fun (r : Int32) (_ : Unit) => r = q.1) (fun _ t => va_P (dC, dI) vwCl [(h0, .inr (0, [.ref h0_roads])), (h0_roads, .inr (3, [.ref h0_roads_metres, .ref h0_roads_skills])), (h0_roads_metres, .inl (cI, 21, .inl q.2)), (h0_roads_skills, .inl (cI, 21, .inl v_roads_skills)), (h1, .inr (5, [.ref h1_had, .ref h1_there, .ref h1_corner, .ref h1_second, .ref h1_third, .int a1_seed, .int a1_size, .int a1_parts])), (h1_had, .inl (cZ, 62, .inl a1_had)), (h1_there, .inl (cZ, 62, .inl a1_there)), (h1_corner, .inl (cI, 62, .inl a1_corner)), (h1_second, .inl (cI, 62, .inl a1_second)), (h1_third, .inl (cI, 62, .inl a1_third))] t.heap ∧ va_D A [(h0, .inr (0, [.ref h0_roads])), (h0_roads, .inr (3, [.ref h0_roads_metres, .ref h0_roads_skills])), (h0_roads_metres, .inl (cI, 21, .inl q.2)), (h0_roads_skills, .inl (cI, 21, .inl v_roads_skills)), (h1, .inr (5, [.ref h1_had, .ref h1_there, .ref h1_corner, .ref h1_second, .ref h1_third, .int a1_seed, .int a1_size, .int a1_parts])), (h1_had, .inl (cZ, 62, .inl a1_had)), (h1_there, .inl (cZ, 62, .inl a1_there)), (h1_corner, .inl (cI, 62, .inl a1_corner)), (h1_second, .inl (cI, 62, .inl a1_second)), (h1_third, .inl (cI, 62, .inl a1_third))]) A) [.ref h0, .ref h1].toArray s 0 0 A) (F0 m 3 ls []) := by
    intro n3
    induction n3 with
    | zero =>
      intro x2_3 v_roads_metres_3 H locs ls hm hP hD hS hl
      exact absurd hm (fun h => nomatch h)
    | succ n3 ih3 =>
      intro x2_3 v_roads_metres_3 H locs ls hm hP hD hS hl
      rw [m_X0_someWayIsLong_L3] at hm
      refine lv_iload_n hx hb dX0_someWayIsLong_3 rfl (lv_at hl 2 rfl) ?_
      refine lv_bipush (v := (41 : Int32)) hx hb dX0_someWayIsLong_4 (by decide) ?_
      refine lv_icmp_ge (tgt := 78) hx hb dX0_someWayIsLong_6 (by decide) (fun c1 => ?_) (fun c1 => ?_)
      · replace hm := mt_pos c1 hm
        exact J78 x2_3 v_roads_metres_3 _ _ _ hm hP hD hS (lv_sub hl [0, 1, 2] rfl)
      · replace hm := mt_neg c1 hm
        refine lv_aload_n hx hb dX0_someWayIsLong_9 rfl (lv_at hl 1 rfl) ?_
        refine lv_iload_n hx hb dX0_someWayIsLong_10 rfl (lv_at hl 2 rfl) ?_
        obtain ⟨q2, hq2, hm⟩ := mt_bind hm
        refine vp_callSi (va_Run.run (va_runV (As := [.int x2_3]) (rest := []) ⟨hx, hb, hml, hown, hts⟩ (c_X5_isThere l dC dI cZ cI cL h1 h1_had h1_there h1_corner h1_second h1_third x2_3 a1_seed a1_size a1_parts a1_had a1_there a1_corner a1_second a1_third q2 hq2) (cwV 1 hts gX0_someWayIsLong_X5_isThere rfl rfl rfl (by decide +kernel) ⟨Nat.le_of_ble_eq_true rfl, Nat.le_of_ble_eq_true rfl⟩) (mt_vR (q := (RX5, TX5, 8)) 5 hC (hP.sub (ws' := [(h1, .inr (5, [.ref h1_had, .ref h1_there, .ref h1_corner, .ref h1_second, .ref h1_third, .int a1_seed, .int a1_size, .int a1_parts])), (h1_had, .inl (cZ, 62, .inl a1_had)), (h1_there, .inl (cZ, 62, .inl a1_there)), (h1_corner, .inl (cI, 62, .inl a1_corner)), (h1_second, .inl (cI, 62, .inl a1_second)), (h1_third, .inl (cI, 62, .inl a1_third))]) [4, 5, 6, 7, 8, 9] rfl) rfl rfl) rfl rfl hl.1 rfl (lv_room (Nat.le_of_ble_eq_true rfl)) dX0_someWayIsLong_11 ⟨Nat.le_of_ble_eq_true rfl, Nat.le_of_ble_eq_true rfl⟩)) (fun r er => ?_)
        replace er := er.symm
        subst er
        refine lv_if_eq (tgt := 72) hx hb dX0_someWayIsLong_14 (by decide) (fun c3 => ?_) (fun c3 => ?_)
        · replace hm := mt_pos c3 hm
          refine lv_iinc (v := (x2_3 + (1 : Int32))) (lv' := [(2, .int (x2_3 + (1 : Int32))), (0, .ref h0), (1, .ref h1)]) hx hb dX0_someWayIsLong_72 hl (k := 2) rfl rfl (by decide) rfl (fun ls hl => ?_)
          refine lv_goto (tgt := 3) hx hb dX0_someWayIsLong_75 (by decide) ?_
          exact ih3 (x2_3 + (1 : Int32)) v_roads_metres_3 _ _ _ hm hP hD hS (lv_sub hl [1, 2, 0] rfl)
        · replace hm := mt_neg c3 hm
          refine lv_aload_n hx hb dX0_someWayIsLong_17 rfl (lv_at hl 0 rfl) ?_
          refine va_get (D := (dC, dI)) (ci := 0) (v := .ref h0_roads) (C := RX0) (T := TX0) (N := 1) hx hb hts hiX0 hown hK hP 0 rfl rfl 0 (by decide) (hts (.fieldLink RX0 12 "ServiceDrawer$Judge" "roads" "LServiceDrawer$Roads;") (by decide +kernel)) (fun _ h9 => h9) rfl dX0_someWayIsLong_18 ?_
          refine lv_aload_n hx hb dX0_someWayIsLong_21 rfl (lv_at hl 1 rfl) ?_
          refine lv_aload_n hx hb dX0_someWayIsLong_22 rfl (lv_at hl 1 rfl) ?_
          refine lv_iload_n hx hb dX0_someWayIsLong_23 rfl (lv_at hl 2 rfl) ?_
          obtain ⟨q4, hq4, hm⟩ := mt_bind hm
          refine vp_callSi (va_Run.run (va_runV (As := [.int x2_3]) (rest := [.ref h1, .ref h0_roads]) ⟨hx, hb, hml, hown, hts⟩ (c_X5_cornerOf l dC dI cZ cI cL h1 h1_had h1_there h1_corner h1_second h1_third x2_3 a1_seed a1_size a1_parts a1_had a1_there a1_corner a1_second a1_third q4 hq4) (cwV 1 hts gX0_someWayIsLong_X5_cornerOf rfl rfl rfl (by decide +kernel) ⟨Nat.le_of_ble_eq_true rfl, Nat.le_of_ble_eq_true rfl⟩) (mt_vR (q := (RX5, TX5, 8)) 5 hC (hP.sub (ws' := [(h1, .inr (5, [.ref h1_had, .ref h1_there, .ref h1_corner, .ref h1_second, .ref h1_third, .int a1_seed, .int a1_size, .int a1_parts])), (h1_had, .inl (cZ, 62, .inl a1_had)), (h1_there, .inl (cZ, 62, .inl a1_there)), (h1_corner, .inl (cI, 62, .inl a1_corner)), (h1_second, .inl (cI, 62, .inl a1_second)), (h1_third, .inl (cI, 62, .inl a1_third))]) [4, 5, 6, 7, 8, 9] rfl) rfl rfl) rfl rfl hl.1 rfl (lv_room (Nat.le_of_ble_eq_true rfl)) dX0_someWayIsLong_24 ⟨Nat.le_of_ble_eq_true rfl, Nat.le_of_ble_eq_true rfl⟩)) (fun r er => ?_)
          replace er := er.symm
          subst er
          obtain ⟨q5, hq5, hm⟩ := mt_bind hm
          refine mt_callv (wr := [(h0, .inr (0, [.ref h0_roads]))]) hP hD hS hA [1, 2, 3, 4, 5, 6, 7, 8, 9] [0] rfl rfl (by decide) (by decide) (va_runV (As := [.ref h1, .int q4]) (rest := []) ⟨hx, hb, hml, hown, hts⟩ (c_X3_measureFrom l dC dI cZ cI cL h0_roads h0_roads_metres h0_roads_skills h1 h1_had h1_there h1_corner h1_second h1_third H.size q4 v_roads_metres_3 v_roads_skills a1_seed a1_size a1_parts a1_had a1_there a1_corner a1_second a1_third fu q5 hq5) (cwV 2 hts gX0_someWayIsLong_X3_measureFrom rfl rfl rfl (by decide +kernel) ⟨Nat.le_of_ble_eq_true rfl, Nat.le_of_ble_eq_true rfl⟩) (mt_vS (q := (RX3, TX3, 2)) 3 hC (hP.sub (ws' := [(h0_roads, .inr (3, [.ref h0_roads_metres, .ref h0_roads_skills])), (h0_roads_metres, .inl (cI, 21, .inl v_roads_metres_3)), (h0_roads_skills, .inl (cI, 21, .inl v_roads_skills)), (h1, .inr (5, [.ref h1_had, .ref h1_there, .ref h1_corner, .ref h1_second, .ref h1_third, .int a1_seed, .int a1_size, .int a1_parts])), (h1_had, .inl (cZ, 62, .inl a1_had)), (h1_there, .inl (cZ, 62, .inl a1_there)), (h1_corner, .inl (cI, 62, .inl a1_corner)), (h1_second, .inl (cI, 62, .inl a1_second)), (h1_third, .inl (cI, 62, .inl a1_third))]) [1, 2, 3, 4, 5, 6, 7, 8, 9] rfl) (hD.sub (ws' := [(h0_roads, .inr (3, [.ref h0_roads_metres, .ref h0_roads_skills])), (h0_roads_metres, .inl (cI, 21, .inl v_roads_metres_3)), (h0_roads_skills, .inl (cI, 21, .inl v_roads_skills)), (h1, .inr (5, [.ref h1_had, .ref h1_there, .ref h1_corner, .ref h1_second, .ref h1_third, .int a1_seed, .int a1_size, .int a1_parts])), (h1_had, .inl (cZ, 62, .inl a1_had)), (h1_there, .inl (cZ, 62, .inl a1_there)), (h1_corner, .inl (cI, 62, .inl a1_corner)), (h1_second, .inl (cI, 62, .inl a1_second)), (h1_third, .inl (cI, 62, .inl a1_third))]) [1, 2, 3, 4, 5, 6, 7, 8, 9] (by decide) rfl) rfl rfl) rfl rfl hl.1 rfl (lv_room (Nat.le_of_ble_eq_true rfl)) dX0_someWayIsLong_27 ⟨Nat.le_of_ble_eq_true rfl, Nat.le_of_ble_eq_true rfl⟩) (fun H locs hP hD hS => ?_)
          have hP : va_P (dC, dI) vwCl [(h0, .inr (0, [.ref h0_roads])), (h0_roads, .inr (3, [.ref h0_roads_metres, .ref h0_roads_skills])), (h0_roads_metres, .inl (cI, 21, .inl q5)), (h0_roads_skills, .inl (cI, 21, .inl v_roads_skills)), (h1, .inr (5, [.ref h1_had, .ref h1_there, .ref h1_corner, .ref h1_second, .ref h1_third, .int a1_seed, .int a1_size, .int a1_parts])), (h1_had, .inl (cZ, 62, .inl a1_had)), (h1_there, .inl (cZ, 62, .inl a1_there)), (h1_corner, .inl (cI, 62, .inl a1_corner)), (h1_second, .inl (cI, 62, .inl a1_second)), (h1_third, .inl (cI, 62, .inl a1_third))] H := hP.sub [0, 1, 2, 3, 4, 5, 6, 7, 8, 9] rfl
          have hD : va_D A [(h0, .inr (0, [.ref h0_roads])), (h0_roads, .inr (3, [.ref h0_roads_metres, .ref h0_roads_skills])), (h0_roads_metres, .inl (cI, 21, .inl q5)), (h0_roads_skills, .inl (cI, 21, .inl v_roads_skills)), (h1, .inr (5, [.ref h1_had, .ref h1_there, .ref h1_corner, .ref h1_second, .ref h1_third, .int a1_seed, .int a1_size, .int a1_parts])), (h1_had, .inl (cZ, 62, .inl a1_had)), (h1_there, .inl (cZ, 62, .inl a1_there)), (h1_corner, .inl (cI, 62, .inl a1_corner)), (h1_second, .inl (cI, 62, .inl a1_second)), (h1_third, .inl (cI, 62, .inl a1_third))] := hD.sub [0, 1, 2, 3, 4, 5, 6, 7, 8, 9] (by decide) rfl
          refine lv_bipush (v := (41 : Int32)) hx hb dX0_someWayIsLong_30 (by decide) ?_
          refine lv_istore_n (lv' := [(3, .int (41 : Int32)), (0, .ref h0), (1, .ref h1), (2, .int x2_3)]) hx hb dX0_someWayIsLong_32 rfl hl (by decide) rfl (fun ls hl => ?_)
          obtain ⟨K72, hK72, hm⟩ := mt_jx hm
          have J72 : ∀ (u72 : Unit), ∀ (H : Heap) (locs : List Loc) (ls : Array Slot), K72 u72 = some q → va_P (dC, dI) vwCl [(h0, .inr (0, [.ref h0_roads])), (h0_roads, .inr (3, [.ref h0_roads_metres, .ref h0_roads_skills])), (h0_roads_metres, .inl (cI, 21, .inl q5)), (h0_roads_skills, .inl (cI, 21, .inl v_roads_skills)), (h1, .inr (5, [.ref h1_had, .ref h1_there, .ref h1_corner, .ref h1_second, .ref h1_third, .int a1_seed, .int a1_size, .int a1_parts])), (h1_had, .inl (cZ, 62, .inl a1_had)), (h1_there, .inl (cZ, 62, .inl a1_there)), (h1_corner, .inl (cI, 62, .inl a1_corner)), (h1_second, .inl (cI, 62, .inl a1_second)), (h1_third, .inl (cI, 62, .inl a1_third))] H → va_D A [(h0, .inr (0, [.ref h0_roads])), (h0_roads, .inr (3, [.ref h0_roads_metres, .ref h0_roads_skills])), (h0_roads_metres, .inl (cI, 21, .inl q5)), (h0_roads_skills, .inl (cI, 21, .inl v_roads_skills)), (h1, .inr (5, [.ref h1_had, .ref h1_there, .ref h1_corner, .ref h1_second, .ref h1_third, .int a1_seed, .int a1_size, .int a1_parts])), (h1_had, .inl (cZ, 62, .inl a1_had)), (h1_there, .inl (cZ, 62, .inl a1_there)), (h1_corner, .inl (cI, 62, .inl a1_corner)), (h1_second, .inl (cI, 62, .inl a1_second)), (h1_third, .inl (cI, 62, .inl a1_third))] → va_S A s.heap H locs → lv_has ls 4 [(0, .ref h0), (1, .ref h1), (2, .int x2_3)] → W p l e (headSpec wsX0_someWayIsLong ({ frames := 3, cells := 0, slots := 0, locals := 70 })).room s m [.ref h0, .ref h1].toArray below meth c H locs 0 0 (MQ below (va_Qi (fun (r : Int32) (_ : Unit) => r = q.1) (fun _ t => va_P (dC, dI) vwCl [(h0, .inr (0, [.ref h0_roads])), (h0_roads, .inr (3, [.ref h0_roads_metres, .ref h0_roads_skills])), (h0_roads_metres, .inl (cI, 21, .inl q.2)), (h0_roads_skills, .inl (cI, 21, .inl v_roads_skills)), (h1, .inr (5, [.ref h1_had, .ref h1_there, .ref h1_corner, .ref h1_second, .ref h1_third, .int a1_seed, .int a1_size, .int a1_parts])), (h1_had, .inl (cZ, 62, .inl a1_had)), (h1_there, .inl (cZ, 62, .inl a1_there)), (h1_corner, .inl (cI, 62, .inl a1_corner)), (h1_second, .inl (cI, 62, .inl a1_second)), (h1_third, .inl (cI, 62, .inl a1_third))] t.heap ∧ va_D A [(h0, .inr (0, [.ref h0_roads])), (h0_roads, .inr (3, [.ref h0_roads_metres, .ref h0_roads_skills])), (h0_roads_metres, .inl (cI, 21, .inl q.2)), (h0_roads_skills, .inl (cI, 21, .inl v_roads_skills)), (h1, .inr (5, [.ref h1_had, .ref h1_there, .ref h1_corner, .ref h1_second, .ref h1_third, .int a1_seed, .int a1_size, .int a1_parts])), (h1_had, .inl (cZ, 62, .inl a1_had)), (h1_there, .inl (cZ, 62, .inl a1_there)), (h1_corner, .inl (cI, 62, .inl a1_corner)), (h1_second, .inl (cI, 62, .inl a1_second)), (h1_third, .inl (cI, 62, .inl a1_third))]) A) [.ref h0, .ref h1].toArray s 0 0 A) (F0 m 72 ls []) := by
            intro u72 H locs ls hm hP hD hS hl
            replace hm := mt_app1 hK72 hm
            refine lv_iinc (v := (x2_3 + (1 : Int32))) (lv' := [(2, .int (x2_3 + (1 : Int32))), (0, .ref h0), (1, .ref h1)]) hx hb dX0_someWayIsLong_72 hl (k := 2) rfl rfl (by decide) rfl (fun ls hl => ?_)
            refine lv_goto (tgt := 3) hx hb dX0_someWayIsLong_75 (by decide) ?_
            exact ih3 (x2_3 + (1 : Int32)) q5 _ _ _ hm hP hD hS (lv_sub hl [1, 2, 0] rfl)
          have L33 : ∀ n33 : Nat, ∀ (x3_33 : Int32), ∀ (H : Heap) (locs : List Loc) (ls : Array Slot), m_X0_someWayIsLong_L33 a1_there a1_corner q5 K72 n33 x3_33 = some q → va_P (dC, dI) vwCl [(h0, .inr (0, [.ref h0_roads])), (h0_roads, .inr (3, [.ref h0_roads_metres, .ref h0_roads_skills])), (h0_roads_metres, .inl (cI, 21, .inl q5)), (h0_roads_skills, .inl (cI, 21, .inl v_roads_skills)), (h1, .inr (5, [.ref h1_had, .ref h1_there, .ref h1_corner, .ref h1_second, .ref h1_third, .int a1_seed, .int a1_size, .int a1_parts])), (h1_had, .inl (cZ, 62, .inl a1_had)), (h1_there, .inl (cZ, 62, .inl a1_there)), (h1_corner, .inl (cI, 62, .inl a1_corner)), (h1_second, .inl (cI, 62, .inl a1_second)), (h1_third, .inl (cI, 62, .inl a1_third))] H → va_D A [(h0, .inr (0, [.ref h0_roads])), (h0_roads, .inr (3, [.ref h0_roads_metres, .ref h0_roads_skills])), (h0_roads_metres, .inl (cI, 21, .inl q5)), (h0_roads_skills, .inl (cI, 21, .inl v_roads_skills)), (h1, .inr (5, [.ref h1_had, .ref h1_there, .ref h1_corner, .ref h1_second, .ref h1_third, .int a1_seed, .int a1_size, .int a1_parts])), (h1_had, .inl (cZ, 62, .inl a1_had)), (h1_there, .inl (cZ, 62, .inl a1_there)), (h1_corner, .inl (cI, 62, .inl a1_corner)), (h1_second, .inl (cI, 62, .inl a1_second)), (h1_third, .inl (cI, 62, .inl a1_third))] → va_S A s.heap H locs → lv_has ls 4 [(0, .ref h0), (1, .ref h1), (2, .int x2_3), (3, .int x3_33)] → W p l e (headSpec wsX0_someWayIsLong ({ frames := 3, cells := 0, slots := 0, locals := 70 })).room s m [.ref h0, .ref h1].toArray below meth c H locs 0 0 (MQ below (va_Qi (fun (r : Int32) (_ : Unit) => r = q.1) (fun _ t => va_P (dC, dI) vwCl [(h0, .inr (0, [.ref h0_roads])), (h0_roads, .inr (3, [.ref h0_roads_metres, .ref h0_roads_skills])), (h0_roads_metres, .inl (cI, 21, .inl q.2)), (h0_roads_skills, .inl (cI, 21, .inl v_roads_skills)), (h1, .inr (5, [.ref h1_had, .ref h1_there, .ref h1_corner, .ref h1_second, .ref h1_third, .int a1_seed, .int a1_size, .int a1_parts])), (h1_had, .inl (cZ, 62, .inl a1_had)), (h1_there, .inl (cZ, 62, .inl a1_there)), (h1_corner, .inl (cI, 62, .inl a1_corner)), (h1_second, .inl (cI, 62, .inl a1_second)), (h1_third, .inl (cI, 62, .inl a1_third))] t.heap ∧ va_D A [(h0, .inr (0, [.ref h0_roads])), (h0_roads, .inr (3, [.ref h0_roads_metres, .ref h0_roads_skills])), (h0_roads_metres, .inl (cI, 21, .inl q.2)), (h0_roads_skills, .inl (cI, 21, .inl v_roads_skills)), (h1, .inr (5, [.ref h1_had, .ref h1_there, .ref h1_corner, .ref h1_second, .ref h1_third, .int a1_seed, .int a1_size, .int a1_parts])), (h1_had, .inl (cZ, 62, .inl a1_had)), (h1_there, .inl (cZ, 62, .inl a1_there)), (h1_corner, .inl (cI, 62, .inl a1_corner)), (h1_second, .inl (cI, 62, .inl a1_second)), (h1_third, .inl (cI, 62, .inl a1_third))]) A) [.ref h0, .ref h1].toArray s 0 0 A) (F0 m 33 ls []) := by
            intro n33
            induction n33 with
            | zero =>
              intro x3_33 H locs ls hm hP hD hS hl
              exact absurd hm (fun h => nomatch h)
            | succ n33 ih33 =>
              intro x3_33 H locs ls hm hP hD hS hl
              rw [m_X0_someWayIsLong_L33] at hm
              refine lv_iload_n hx hb dX0_someWayIsLong_33 rfl (lv_at hl 3 rfl) ?_
              refine lv_bipush (v := (62 : Int32)) hx hb dX0_someWayIsLong_34 (by decide) ?_
              refine lv_icmp_ge (tgt := 72) hx hb dX0_someWayIsLong_36 (by decide) (fun c6 => ?_) (fun c6 => ?_)
              · replace hm := mt_pos c6 hm
                exact J72 () _ _ _ hm hP hD hS (lv_sub hl [0, 1, 2] rfl)
              · replace hm := mt_neg c6 hm
                refine lv_aload_n hx hb dX0_someWayIsLong_39 rfl (lv_at hl 1 rfl) ?_
                refine lv_iload_n hx hb dX0_someWayIsLong_40 rfl (lv_at hl 3 rfl) ?_
                obtain ⟨q7, hq7, hm⟩ := mt_bind hm
                refine vp_callSi (va_Run.run (va_runV (As := [.int x3_33]) (rest := []) ⟨hx, hb, hml, hown, hts⟩ (c_X5_isThere l dC dI cZ cI cL h1 h1_had h1_there h1_corner h1_second h1_third x3_33 a1_seed a1_size a1_parts a1_had a1_there a1_corner a1_second a1_third q7 hq7) (cwV 1 hts gX0_someWayIsLong_X5_isThere rfl rfl rfl (by decide +kernel) ⟨Nat.le_of_ble_eq_true rfl, Nat.le_of_ble_eq_true rfl⟩) (mt_vR (q := (RX5, TX5, 8)) 5 hC (hP.sub (ws' := [(h1, .inr (5, [.ref h1_had, .ref h1_there, .ref h1_corner, .ref h1_second, .ref h1_third, .int a1_seed, .int a1_size, .int a1_parts])), (h1_had, .inl (cZ, 62, .inl a1_had)), (h1_there, .inl (cZ, 62, .inl a1_there)), (h1_corner, .inl (cI, 62, .inl a1_corner)), (h1_second, .inl (cI, 62, .inl a1_second)), (h1_third, .inl (cI, 62, .inl a1_third))]) [4, 5, 6, 7, 8, 9] rfl) rfl rfl) rfl rfl hl.1 rfl (lv_room (Nat.le_of_ble_eq_true rfl)) dX0_someWayIsLong_41 ⟨Nat.le_of_ble_eq_true rfl, Nat.le_of_ble_eq_true rfl⟩)) (fun r er => ?_)
                replace er := er.symm
                subst er
                refine lv_if_eq (tgt := 66) hx hb dX0_someWayIsLong_44 (by decide) (fun c8 => ?_) (fun c8 => ?_)
                · replace hm := mt_pos c8 hm
                  refine lv_iinc (v := (x3_33 + (1 : Int32))) (lv' := [(3, .int (x3_33 + (1 : Int32))), (0, .ref h0), (1, .ref h1), (2, .int x2_3)]) hx hb dX0_someWayIsLong_66 hl (k := 3) rfl rfl (by decide) rfl (fun ls hl => ?_)
                  refine lv_goto (tgt := 33) hx hb dX0_someWayIsLong_69 (by decide) ?_
                  exact ih33 (x3_33 + (1 : Int32)) _ _ _ hm hP hD hS (lv_sub hl [1, 2, 3, 0] rfl)
                · replace hm := mt_neg c8 hm
                  refine lv_aload_n hx hb dX0_someWayIsLong_47 rfl (lv_at hl 0 rfl) ?_
                  refine va_get (D := (dC, dI)) (ci := 0) (v := .ref h0_roads) (C := RX0) (T := TX0) (N := 1) hx hb hts hiX0 hown hK hP 0 rfl rfl 0 (by decide) (hts (.fieldLink RX0 12 "ServiceDrawer$Judge" "roads" "LServiceDrawer$Roads;") (by decide +kernel)) (fun _ h9 => h9) rfl dX0_someWayIsLong_48 ?_
                  refine lv_aload_n hx hb dX0_someWayIsLong_51 rfl (lv_at hl 1 rfl) ?_
                  refine lv_iload_n hx hb dX0_someWayIsLong_52 rfl (lv_at hl 3 rfl) ?_
                  obtain ⟨q9, hq9, hm⟩ := mt_bind hm
                  refine vp_callSi (va_Run.run (va_runV (As := [.int x3_33]) (rest := [.ref h0_roads]) ⟨hx, hb, hml, hown, hts⟩ (c_X5_cornerOf l dC dI cZ cI cL h1 h1_had h1_there h1_corner h1_second h1_third x3_33 a1_seed a1_size a1_parts a1_had a1_there a1_corner a1_second a1_third q9 hq9) (cwV 1 hts gX0_someWayIsLong_X5_cornerOf rfl rfl rfl (by decide +kernel) ⟨Nat.le_of_ble_eq_true rfl, Nat.le_of_ble_eq_true rfl⟩) (mt_vR (q := (RX5, TX5, 8)) 5 hC (hP.sub (ws' := [(h1, .inr (5, [.ref h1_had, .ref h1_there, .ref h1_corner, .ref h1_second, .ref h1_third, .int a1_seed, .int a1_size, .int a1_parts])), (h1_had, .inl (cZ, 62, .inl a1_had)), (h1_there, .inl (cZ, 62, .inl a1_there)), (h1_corner, .inl (cI, 62, .inl a1_corner)), (h1_second, .inl (cI, 62, .inl a1_second)), (h1_third, .inl (cI, 62, .inl a1_third))]) [4, 5, 6, 7, 8, 9] rfl) rfl rfl) rfl rfl hl.1 rfl (lv_room (Nat.le_of_ble_eq_true rfl)) dX0_someWayIsLong_53 ⟨Nat.le_of_ble_eq_true rfl, Nat.le_of_ble_eq_true rfl⟩)) (fun r er => ?_)
                  replace er := er.symm
                  subst er
                  obtain ⟨q10, hq10, hm⟩ := mt_bind hm
                  refine vp_callSi (va_Run.run (va_runV (As := [.int q9]) (rest := []) ⟨hx, hb, hml, hown, hts⟩ (c_X3_metresTo l dC dI cZ cI cL h0_roads h0_roads_metres h0_roads_skills q9 q5 v_roads_skills q10 hq10) (cwV 1 hts gX0_someWayIsLong_X3_metresTo rfl rfl rfl (by decide +kernel) ⟨Nat.le_of_ble_eq_true rfl, Nat.le_of_ble_eq_true rfl⟩) (mt_vR (q := (RX3, TX3, 2)) 3 hC (hP.sub (ws' := [(h0_roads, .inr (3, [.ref h0_roads_metres, .ref h0_roads_skills])), (h0_roads_metres, .inl (cI, 21, .inl q5)), (h0_roads_skills, .inl (cI, 21, .inl v_roads_skills))]) [1, 2, 3] rfl) rfl rfl) rfl rfl hl.1 rfl (lv_room (Nat.le_of_ble_eq_true rfl)) dX0_someWayIsLong_56 ⟨Nat.le_of_ble_eq_true rfl, Nat.le_of_ble_eq_true rfl⟩)) (fun r er => ?_)
                  replace er := er.symm
                  subst er
                  refine lv_bipush (v := (99 : Int32)) hx hb dX0_someWayIsLong_59 (by decide) ?_
                  refine lv_icmp_le (tgt := 66) hx hb dX0_someWayIsLong_61 (by decide) (fun c11 => ?_) (fun c11 => ?_)
                  · replace hm := mt_pos c11 hm
                    refine lv_iinc (v := (x3_33 + (1 : Int32))) (lv' := [(3, .int (x3_33 + (1 : Int32))), (0, .ref h0), (1, .ref h1), (2, .int x2_3)]) hx hb dX0_someWayIsLong_66 hl (k := 3) rfl rfl (by decide) rfl (fun ls hl => ?_)
                    refine lv_goto (tgt := 33) hx hb dX0_someWayIsLong_69 (by decide) ?_
                    exact ih33 (x3_33 + (1 : Int32)) _ _ _ hm hP hD hS (lv_sub hl [1, 2, 3, 0] rfl)
                  · replace hm := mt_neg c11 hm
                    refine lv_iconst (v := (1 : Int32)) hx hb dX0_someWayIsLong_64 (by decide) ?_
                    obtain rfl := Option.some.inj hm
                    exact W.zret hx hb hr mt_z1 (fun t ht hW => ⟨⟨_, (), rfl, rfl, by rw [ht]; exact hP, hD⟩, hS.F ht⟩) hS.2.2 dX0_someWayIsLong_65
          exact L33 fu (41 : Int32) _ _ _ hm hP hD hS (lv_sub hl [1, 2, 3, 0] rfl)
  exact L3 fu (30 : Int32) v_roads_metres _ _ _ hm hP hD hS (lv_sub hl [1, 2, 0] rfl)
def m_X0_metresOfStreets_L4 (a0_there : Nat → Int32) (a0_third : Nat → Int32) (K32 : Int32 → Int32 → Option (Int32)) : Nat → Int32 → Int32 → Option (Int32)
  | 0, _, _ => none
  | n4 + 1, x1_4, x2_4 => if (30 : Int32) ≤ x2_4 then K32 x1_4 x2_4 else (m_X5_isThere x2_4 a0_there).bind fun q2 => if q2 = 0 then m_X0_metresOfStreets_L4 a0_there a0_third K32 n4 x1_4 (x2_4 + (1 : Int32)) else (m_X5_thirdOf x2_4 a0_third).bind fun q4 => m_X0_metresOfStreets_L4 a0_there a0_third K32 n4 (x1_4 + q4) (x2_4 + (1 : Int32))
def m_X0_metresOfStreets (fu : Nat) (a0_there : Nat → Int32) (a0_third : Nat → Int32) : Option (Int32) := mt_j (fun (x1_32 : Int32) (x2_32 : Int32) => some x1_32) fun K32 => m_X0_metresOfStreets_L4 a0_there a0_third K32 fu (0 : Int32) (0 : Int32)
set_option maxHeartbeats 4000000 in
set_option maxRecDepth 100000 in
theorem c_X0_metresOfStreets (l : Launch) (dC : Nat → ClassId) (dI : Nat → Nat → Nat) (cZ cI cL : ClassId) (h0 h0_had h0_there h0_corner h0_second h0_third : Nat) (a0_seed : Int32) (a0_size : Int32) (a0_parts : Int32) (a0_had : Nat → Int32) (a0_there : Nat → Int32) (a0_corner : Nat → Int32) (a0_second : Nat → Int32) (a0_third : Nat → Int32) (fu : Nat) (q : Int32) (hm : m_X0_metresOfStreets fu a0_there a0_third = some q) : Met l yX0_metresOfStreets wsX0_metresOfStreets ({ frames := 2, cells := 0, slots := 0, locals := 41 }) (va_Pc [.ref h0] (mt_R (dC, dI) cZ cI cL [(h0, .inr (5, [.ref h0_had, .ref h0_there, .ref h0_corner, .ref h0_second, .ref h0_third, .int a0_seed, .int a0_size, .int a0_parts])), (h0_had, .inl (cZ, 62, .inl a0_had)), (h0_there, .inl (cZ, 62, .inl a0_there)), (h0_corner, .inl (cI, 62, .inl a0_corner)), (h0_second, .inl (cI, 62, .inl a0_second)), (h0_third, .inl (cI, 62, .inl a0_third))])) (vp_Si (fun r => r = q)) 0 0 (fun _ => False) := by
  refine Met.ofW (cc := cX0_metresOfStreets) (maxL := 3) (ret := (some .int)) (by decide) rfl ?_
  intro p e s m args below meth c s₁ B hml hv
  obtain ⟨rfl, hP, hC⟩ := hv
  have hx := B.exec
  have hb := B.bytes
  have hr := B.returns
  have hts := atoms_spec (ws := wsX0_metresOfStreets) B.pre
  have hown : s.vm.findClass RX0 = some m.cls := findClass_of_methodNamed B.named
  have hlocks := B.notSynchronized
  have hK := hC.1
  have hl := lv_entry [.ref h0] (n := 3) (Nat.le_of_ble_eq_true rfl)
  rw [lg_entry_eq]
  generalize (lg_sl [.ref h0] ++ List.replicate (3 - (lg_sl [.ref h0]).length) Slot.unset).toArray = ls at hl ⊢
  have hl : lv_has ls 3 [(0, .ref h0)] := hl
  rw [m_X0_metresOfStreets] at hm
  refine lv_iconst (v := (0 : Int32)) hx hb dX0_metresOfStreets_0 (by decide) ?_
  refine lv_istore_n (lv' := [(1, .int (0 : Int32)), (0, .ref h0)]) hx hb dX0_metresOfStreets_1 rfl hl (by decide) rfl (fun ls hl => ?_)
  refine lv_iconst (v := (0 : Int32)) hx hb dX0_metresOfStreets_2 (by decide) ?_
  refine lv_istore_n (lv' := [(2, .int (0 : Int32)), (1, .int (0 : Int32)), (0, .ref h0)]) hx hb dX0_metresOfStreets_3 rfl hl (by decide) rfl (fun ls hl => ?_)
  obtain ⟨K32, hK32, hm⟩ := mt_jx hm
  have J32 : ∀ (x1_32 : Int32) (x2_32 : Int32), ∀ (ls : Array Slot), K32 x1_32 x2_32 = some q → lv_has ls 3 [(0, .ref h0), (1, .int x1_32), (2, .int x2_32)] → W p l e (headSpec wsX0_metresOfStreets ({ frames := 2, cells := 0, slots := 0, locals := 41 })).room s m [.ref h0].toArray below meth c s.heap [] 0 0 (MQ below (vp_Si (fun r => r = q)) [.ref h0].toArray s 0 0 (fun _ => False)) (F0 m 32 ls []) := by
    intro x1_32 x2_32 ls hm hl
    replace hm := mt_app2 hK32 hm
    refine lv_iload_n hx hb dX0_metresOfStreets_32 rfl (lv_at hl 1 rfl) ?_
    obtain rfl := Option.some.inj hm
    exact W.iret hx hb hr (fun t ht hW => ⟨_, rfl, rfl, ht⟩) t_nil dX0_metresOfStreets_33
  have L4 : ∀ n4 : Nat, ∀ (x1_4 : Int32) (x2_4 : Int32), ∀ (ls : Array Slot), m_X0_metresOfStreets_L4 a0_there a0_third K32 n4 x1_4 x2_4 = some q → lv_has ls 3 [(0, .ref h0), (1, .int x1_4), (2, .int x2_4)] → W p l e (headSpec wsX0_metresOfStreets ({ frames := 2, cells := 0, slots := 0, locals := 41 })).room s m [.ref h0].toArray below meth c s.heap [] 0 0 (MQ below (vp_Si (fun r => r = q)) [.ref h0].toArray s 0 0 (fun _ => False)) (F0 m 4 ls []) := by
    intro n4
    induction n4 with
    | zero =>
      intro x1_4 x2_4 ls hm hl
      exact absurd hm (fun h => nomatch h)
    | succ n4 ih4 =>
      intro x1_4 x2_4 ls hm hl
      rw [m_X0_metresOfStreets_L4] at hm
      refine lv_iload_n hx hb dX0_metresOfStreets_4 rfl (lv_at hl 2 rfl) ?_
      refine lv_bipush (v := (30 : Int32)) hx hb dX0_metresOfStreets_5 (by decide) ?_
      refine lv_icmp_ge (tgt := 32) hx hb dX0_metresOfStreets_7 (by decide) (fun c1 => ?_) (fun c1 => ?_)
      · replace hm := mt_pos c1 hm
        exact J32 x1_4 x2_4 _ hm (lv_sub hl [0, 1, 2] rfl)
      · replace hm := mt_neg c1 hm
        refine lv_aload_n hx hb dX0_metresOfStreets_10 rfl (lv_at hl 0 rfl) ?_
        refine lv_iload_n hx hb dX0_metresOfStreets_11 rfl (lv_at hl 2 rfl) ?_
        obtain ⟨q2, hq2, hm⟩ := mt_bind hm
        refine vp_callSi (va_Run.run (va_runV (As := [.int x2_4]) (rest := []) ⟨hx, hb, hml, hown, hts⟩ (c_X5_isThere l dC dI cZ cI cL h0 h0_had h0_there h0_corner h0_second h0_third x2_4 a0_seed a0_size a0_parts a0_had a0_there a0_corner a0_second a0_third q2 hq2) (cwV 1 hts gX0_metresOfStreets_X5_isThere rfl rfl rfl (by decide +kernel) ⟨Nat.le_of_ble_eq_true rfl, Nat.le_of_ble_eq_true rfl⟩) (mt_vR (q := (RX5, TX5, 8)) 5 hC (hP.sub (ws' := [(h0, .inr (5, [.ref h0_had, .ref h0_there, .ref h0_corner, .ref h0_second, .ref h0_third, .int a0_seed, .int a0_size, .int a0_parts])), (h0_had, .inl (cZ, 62, .inl a0_had)), (h0_there, .inl (cZ, 62, .inl a0_there)), (h0_corner, .inl (cI, 62, .inl a0_corner)), (h0_second, .inl (cI, 62, .inl a0_second)), (h0_third, .inl (cI, 62, .inl a0_third))]) [0, 1, 2, 3, 4, 5] rfl) rfl rfl) rfl rfl hl.1 rfl (lv_room (Nat.le_of_ble_eq_true rfl)) dX0_metresOfStreets_12 ⟨Nat.le_of_ble_eq_true rfl, Nat.le_of_ble_eq_true rfl⟩)) (fun r er => ?_)
        replace er := er.symm
        subst er
        refine lv_if_eq (tgt := 26) hx hb dX0_metresOfStreets_15 (by decide) (fun c3 => ?_) (fun c3 => ?_)
        · replace hm := mt_pos c3 hm
          refine lv_iinc (v := (x2_4 + (1 : Int32))) (lv' := [(2, .int (x2_4 + (1 : Int32))), (0, .ref h0), (1, .int x1_4)]) hx hb dX0_metresOfStreets_26 hl (k := 2) rfl rfl (by decide) rfl (fun ls hl => ?_)
          refine lv_goto (tgt := 4) hx hb dX0_metresOfStreets_29 (by decide) ?_
          exact ih4 x1_4 (x2_4 + (1 : Int32)) _ hm (lv_sub hl [1, 2, 0] rfl)
        · replace hm := mt_neg c3 hm
          refine lv_iload_n hx hb dX0_metresOfStreets_18 rfl (lv_at hl 1 rfl) ?_
          refine lv_aload_n hx hb dX0_metresOfStreets_19 rfl (lv_at hl 0 rfl) ?_
          refine lv_iload_n hx hb dX0_metresOfStreets_20 rfl (lv_at hl 2 rfl) ?_
          obtain ⟨q4, hq4, hm⟩ := mt_bind hm
          refine vp_callSi (va_Run.run (va_runV (As := [.int x2_4]) (rest := [.int x1_4]) ⟨hx, hb, hml, hown, hts⟩ (c_X5_thirdOf l dC dI cZ cI cL h0 h0_had h0_there h0_corner h0_second h0_third x2_4 a0_seed a0_size a0_parts a0_had a0_there a0_corner a0_second a0_third q4 hq4) (cwV 1 hts gX0_metresOfStreets_X5_thirdOf rfl rfl rfl (by decide +kernel) ⟨Nat.le_of_ble_eq_true rfl, Nat.le_of_ble_eq_true rfl⟩) (mt_vR (q := (RX5, TX5, 8)) 5 hC (hP.sub (ws' := [(h0, .inr (5, [.ref h0_had, .ref h0_there, .ref h0_corner, .ref h0_second, .ref h0_third, .int a0_seed, .int a0_size, .int a0_parts])), (h0_had, .inl (cZ, 62, .inl a0_had)), (h0_there, .inl (cZ, 62, .inl a0_there)), (h0_corner, .inl (cI, 62, .inl a0_corner)), (h0_second, .inl (cI, 62, .inl a0_second)), (h0_third, .inl (cI, 62, .inl a0_third))]) [0, 1, 2, 3, 4, 5] rfl) rfl rfl) rfl rfl hl.1 rfl (lv_room (Nat.le_of_ble_eq_true rfl)) dX0_metresOfStreets_21 ⟨Nat.le_of_ble_eq_true rfl, Nat.le_of_ble_eq_true rfl⟩)) (fun r er => ?_)
          replace er := er.symm
          subst er
          refine lv_iadd hx hb dX0_metresOfStreets_24 ?_
          refine lv_istore_n (lv' := [(1, .int (x1_4 + q4)), (0, .ref h0), (2, .int x2_4)]) hx hb dX0_metresOfStreets_25 rfl hl (by decide) rfl (fun ls hl => ?_)
          refine lv_iinc (v := (x2_4 + (1 : Int32))) (lv' := [(2, .int (x2_4 + (1 : Int32))), (1, .int (x1_4 + q4)), (0, .ref h0)]) hx hb dX0_metresOfStreets_26 hl (k := 2) rfl rfl (by decide) rfl (fun ls hl => ?_)
          refine lv_goto (tgt := 4) hx hb dX0_metresOfStreets_29 (by decide) ?_
          exact ih4 (x1_4 + q4) (x2_4 + (1 : Int32)) _ hm (lv_sub hl [2, 1, 0] rfl)
  exact L4 fu (0 : Int32) (0 : Int32) _ hm (lv_sub hl [2, 1, 0] rfl)
def m_X0_says (fu : Nat) (p2 : Int32) (v_roads_metres : Nat → Int32) (v_roads_skills : Nat → Int32) (a1_there : Nat → Int32) (a1_corner : Nat → Int32) (a1_second : Nat → Int32) (a1_third : Nat → Int32) : Option (Int32 × (Nat → Int32) × (Nat → Int32)) := if p2 = (0 : Int32) then (m_X0_servedCalls fu v_roads_skills a1_there a1_corner a1_second).bind fun q2 => (m_X5_howManyThere fu (41 : Int32) (62 : Int32) a1_there).bind fun q3 => if q3 ≤ q2.1 then some ((0 : Int32), v_roads_metres, q2.2) else some ((1 : Int32), v_roads_metres, q2.2) else if p2 = (1 : Int32) then (m_X0_someCallsMeet fu a1_there a1_corner a1_third).bind fun q6 => if (q6 &&& 1 = q6) then some (q6, v_roads_metres, v_roads_skills) else none else if p2 = (2 : Int32) then (m_X0_someUnitHas fu (2 : Int32) a1_there a1_second).bind fun q9 => if q9 = 0 then some ((1 : Int32), v_roads_metres, v_roads_skills) else some ((0 : Int32), v_roads_metres, v_roads_skills) else if p2 = (3 : Int32) then (m_X0_someWayIsLong fu v_roads_metres a1_there a1_corner a1_second a1_third).bind fun q12 => if (q12.1 &&& 1 = q12.1) then some (q12.1, q12.2, v_roads_skills) else none else if p2 = (4 : Int32) then (m_X0_metresOfStreets fu a1_there a1_third).bind fun q15 => if q15 ≤ (300 : Int32) then some ((0 : Int32), v_roads_metres, v_roads_skills) else some ((1 : Int32), v_roads_metres, v_roads_skills) else some ((0 : Int32), v_roads_metres, v_roads_skills)
set_option maxHeartbeats 4000000 in
set_option maxRecDepth 100000 in
theorem c_X0_says (l : Launch) (dC : Nat → ClassId) (dI : Nat → Nat → Nat) (cZ cI cL : ClassId) (h0 h0_roads h0_roads_metres h0_roads_skills h1 h1_had h1_there h1_corner h1_second h1_third : Nat) (sz : Nat) (p2 : Int32) (v_roads_metres : Nat → Int32) (v_roads_skills : Nat → Int32) (a1_seed : Int32) (a1_size : Int32) (a1_parts : Int32) (a1_had : Nat → Int32) (a1_there : Nat → Int32) (a1_corner : Nat → Int32) (a1_second : Nat → Int32) (a1_third : Nat → Int32) (fu : Nat) (q : Int32 × (Nat → Int32) × (Nat → Int32)) (hm : m_X0_says fu p2 v_roads_metres v_roads_skills a1_there a1_corner a1_second a1_third = some q) : Met l yX0_says wsX0_says ({ frames := 4, cells := 0, slots := 0, locals := 93 }) (va_Pc [.ref h0, .ref h1, .int p2] (mt_S (dC, dI) cZ cI cL sz [(h0, .inr (0, [.ref h0_roads])), (h0_roads, .inr (3, [.ref h0_roads_metres, .ref h0_roads_skills])), (h0_roads_metres, .inl (cI, 21, .inl v_roads_metres)), (h0_roads_skills, .inl (cI, 21, .inl v_roads_skills)), (h1, .inr (5, [.ref h1_had, .ref h1_there, .ref h1_corner, .ref h1_second, .ref h1_third, .int a1_seed, .int a1_size, .int a1_parts])), (h1_had, .inl (cZ, 62, .inl a1_had)), (h1_there, .inl (cZ, 62, .inl a1_there)), (h1_corner, .inl (cI, 62, .inl a1_corner)), (h1_second, .inl (cI, 62, .inl a1_second)), (h1_third, .inl (cI, 62, .inl a1_third))])) (va_Qi (fun (r : Int32) (_ : Unit) => r = q.1) (fun _ t => va_P (dC, dI) vwCl [(h0, .inr (0, [.ref h0_roads])), (h0_roads, .inr (3, [.ref h0_roads_metres, .ref h0_roads_skills])), (h0_roads_metres, .inl (cI, 21, .inl q.2.1)), (h0_roads_skills, .inl (cI, 21, .inl q.2.2)), (h1, .inr (5, [.ref h1_had, .ref h1_there, .ref h1_corner, .ref h1_second, .ref h1_third, .int a1_seed, .int a1_size, .int a1_parts])), (h1_had, .inl (cZ, 62, .inl a1_had)), (h1_there, .inl (cZ, 62, .inl a1_there)), (h1_corner, .inl (cI, 62, .inl a1_corner)), (h1_second, .inl (cI, 62, .inl a1_second)), (h1_third, .inl (cI, 62, .inl a1_third))] t.heap ∧ va_D (va_A [(h0, .inr (0, [.ref h0_roads])), (h0_roads, .inr (3, [.ref h0_roads_metres, .ref h0_roads_skills])), (h0_roads_metres, .inl (cI, 21, .inl v_roads_metres)), (h0_roads_skills, .inl (cI, 21, .inl v_roads_skills)), (h1, .inr (5, [.ref h1_had, .ref h1_there, .ref h1_corner, .ref h1_second, .ref h1_third, .int a1_seed, .int a1_size, .int a1_parts])), (h1_had, .inl (cZ, 62, .inl a1_had)), (h1_there, .inl (cZ, 62, .inl a1_there)), (h1_corner, .inl (cI, 62, .inl a1_corner)), (h1_second, .inl (cI, 62, .inl a1_second)), (h1_third, .inl (cI, 62, .inl a1_third))] sz) [(h0, .inr (0, [.ref h0_roads])), (h0_roads, .inr (3, [.ref h0_roads_metres, .ref h0_roads_skills])), (h0_roads_metres, .inl (cI, 21, .inl q.2.1)), (h0_roads_skills, .inl (cI, 21, .inl q.2.2)), (h1, .inr (5, [.ref h1_had, .ref h1_there, .ref h1_corner, .ref h1_second, .ref h1_third, .int a1_seed, .int a1_size, .int a1_parts])), (h1_had, .inl (cZ, 62, .inl a1_had)), (h1_there, .inl (cZ, 62, .inl a1_there)), (h1_corner, .inl (cI, 62, .inl a1_corner)), (h1_second, .inl (cI, 62, .inl a1_second)), (h1_third, .inl (cI, 62, .inl a1_third))]) (va_A [(h0, .inr (0, [.ref h0_roads])), (h0_roads, .inr (3, [.ref h0_roads_metres, .ref h0_roads_skills])), (h0_roads_metres, .inl (cI, 21, .inl v_roads_metres)), (h0_roads_skills, .inl (cI, 21, .inl v_roads_skills)), (h1, .inr (5, [.ref h1_had, .ref h1_there, .ref h1_corner, .ref h1_second, .ref h1_third, .int a1_seed, .int a1_size, .int a1_parts])), (h1_had, .inl (cZ, 62, .inl a1_had)), (h1_there, .inl (cZ, 62, .inl a1_there)), (h1_corner, .inl (cI, 62, .inl a1_corner)), (h1_second, .inl (cI, 62, .inl a1_second)), (h1_third, .inl (cI, 62, .inl a1_third))] sz)) 0 0 (va_A [(h0, .inr (0, [.ref h0_roads])), (h0_roads, .inr (3, [.ref h0_roads_metres, .ref h0_roads_skills])), (h0_roads_metres, .inl (cI, 21, .inl v_roads_metres)), (h0_roads_skills, .inl (cI, 21, .inl v_roads_skills)), (h1, .inr (5, [.ref h1_had, .ref h1_there, .ref h1_corner, .ref h1_second, .ref h1_third, .int a1_seed, .int a1_size, .int a1_parts])), (h1_had, .inl (cZ, 62, .inl a1_had)), (h1_there, .inl (cZ, 62, .inl a1_there)), (h1_corner, .inl (cI, 62, .inl a1_corner)), (h1_second, .inl (cI, 62, .inl a1_second)), (h1_third, .inl (cI, 62, .inl a1_third))] sz) := by
  refine Met.ofW (cc := cX0_says) (maxL := 3) (ret := (some .boolean)) (by decide) rfl ?_
  intro p e s m args below meth c s₁ B hml hv
  obtain ⟨rfl, hsz, hP, hC, hD0⟩ := hv
  have hx := B.exec
  have hb := B.bytes
  have hr := B.returns
  have hts := atoms_spec (ws := wsX0_says) B.pre
  have hown : s.vm.findClass RX0 = some m.cls := findClass_of_methodNamed B.named
  have hlocks := B.notSynchronized
  have hK := hC.1
  subst hsz
  have hD := hD0.self (sz := s.heap.size)
  generalize hAe : va_A [(h0, .inr (0, [.ref h0_roads])), (h0_roads, .inr (3, [.ref h0_roads_metres, .ref h0_roads_skills])), (h0_roads_metres, .inl (cI, 21, .inl v_roads_metres)), (h0_roads_skills, .inl (cI, 21, .inl v_roads_skills)), (h1, .inr (5, [.ref h1_had, .ref h1_there, .ref h1_corner, .ref h1_second, .ref h1_third, .int a1_seed, .int a1_size, .int a1_parts])), (h1_had, .inl (cZ, 62, .inl a1_had)), (h1_there, .inl (cZ, 62, .inl a1_there)), (h1_corner, .inl (cI, 62, .inl a1_corner)), (h1_second, .inl (cI, 62, .inl a1_second)), (h1_third, .inl (cI, 62, .inl a1_third))] s.heap.size = A at hD ⊢
  have hA : ∀ q : Nat, s.heap.size ≤ q → A q := fun q h => by rw [← hAe]; exact Or.inr h
  have hS : va_S A s.heap s.heap [] := va_S.rf
  have hl := lv_entry [.ref h0, .ref h1, .int p2] (n := 3) (Nat.le_of_ble_eq_true rfl)
  rw [lg_entry_eq]
  generalize (lg_sl [.ref h0, .ref h1, .int p2] ++ List.replicate (3 - (lg_sl [.ref h0, .ref h1, .int p2]).length) Slot.unset).toArray = ls at hl ⊢
  have hl : lv_has ls 3 [(0, .ref h0), (1, .ref h1), (2, .int p2)] := hl
  rw [m_X0_says] at hm
  refine lv_iload_n hx hb dX0_says_0 rfl (lv_at hl 2 rfl) ?_
  by_cases c1 : p2 = (0 : Int32)
  · replace hm := mt_pos c1 hm
    refine lv_tableIn (tgt := 36) hx hb dX0_says_1 (by rw [c1]; decide) (by rw [c1]; decide) (by rw [c1]; rfl) (by decide) ?_
    refine lv_aload_n hx hb dX0_says_36 rfl (lv_at hl 0 rfl) ?_
    refine lv_aload_n hx hb dX0_says_37 rfl (lv_at hl 1 rfl) ?_
    obtain ⟨q2, hq2, hm⟩ := mt_bind hm
    refine mt_calli (wr := []) hP hD hS hA [0, 1, 2, 3, 4, 5, 6, 7, 8, 9] [] rfl rfl (by decide) (by decide) (va_runV (As := [.ref h1]) (rest := []) ⟨hx, hb, hml, hown, hts⟩ (c_X0_servedCalls l dC dI cZ cI cL h0 h0_roads h0_roads_metres h0_roads_skills h1 h1_had h1_there h1_corner h1_second h1_third s.heap.size v_roads_metres v_roads_skills a1_seed a1_size a1_parts a1_had a1_there a1_corner a1_second a1_third fu q2 hq2) (cwV 1 hts gX0_says_X0_servedCalls rfl rfl rfl (by decide +kernel) ⟨Nat.le_of_ble_eq_true rfl, Nat.le_of_ble_eq_true rfl⟩) (mt_vS (q := (RX0, TX0, 1)) 0 hC hP hD rfl rfl) rfl rfl hl.1 rfl (lv_room (Nat.le_of_ble_eq_true rfl)) dX0_says_38 ⟨Nat.le_of_ble_eq_true rfl, Nat.le_of_ble_eq_true rfl⟩) (fun H locs hP hD hS => ?_)
    have hP : va_P (dC, dI) vwCl [(h0, .inr (0, [.ref h0_roads])), (h0_roads, .inr (3, [.ref h0_roads_metres, .ref h0_roads_skills])), (h0_roads_metres, .inl (cI, 21, .inl v_roads_metres)), (h0_roads_skills, .inl (cI, 21, .inl q2.2)), (h1, .inr (5, [.ref h1_had, .ref h1_there, .ref h1_corner, .ref h1_second, .ref h1_third, .int a1_seed, .int a1_size, .int a1_parts])), (h1_had, .inl (cZ, 62, .inl a1_had)), (h1_there, .inl (cZ, 62, .inl a1_there)), (h1_corner, .inl (cI, 62, .inl a1_corner)), (h1_second, .inl (cI, 62, .inl a1_second)), (h1_third, .inl (cI, 62, .inl a1_third))] H := hP.sub [0, 1, 2, 3, 4, 5, 6, 7, 8, 9] rfl
    have hD : va_D A [(h0, .inr (0, [.ref h0_roads])), (h0_roads, .inr (3, [.ref h0_roads_metres, .ref h0_roads_skills])), (h0_roads_metres, .inl (cI, 21, .inl v_roads_metres)), (h0_roads_skills, .inl (cI, 21, .inl q2.2)), (h1, .inr (5, [.ref h1_had, .ref h1_there, .ref h1_corner, .ref h1_second, .ref h1_third, .int a1_seed, .int a1_size, .int a1_parts])), (h1_had, .inl (cZ, 62, .inl a1_had)), (h1_there, .inl (cZ, 62, .inl a1_there)), (h1_corner, .inl (cI, 62, .inl a1_corner)), (h1_second, .inl (cI, 62, .inl a1_second)), (h1_third, .inl (cI, 62, .inl a1_third))] := hD.sub [0, 1, 2, 3, 4, 5, 6, 7, 8, 9] (by decide) rfl
    refine lv_aload_n hx hb dX0_says_41 rfl (lv_at hl 1 rfl) ?_
    refine lv_bipush (v := (41 : Int32)) hx hb dX0_says_42 (by decide) ?_
    refine lv_bipush (v := (62 : Int32)) hx hb dX0_says_44 (by decide) ?_
    obtain ⟨q3, hq3, hm⟩ := mt_bind hm
    refine vp_callSi (va_Run.run (va_runV (As := [.int (41 : Int32), .int (62 : Int32)]) (rest := [.int q2.1]) ⟨hx, hb, hml, hown, hts⟩ (c_X5_howManyThere l dC dI cZ cI cL h1 h1_had h1_there h1_corner h1_second h1_third (41 : Int32) (62 : Int32) a1_seed a1_size a1_parts a1_had a1_there a1_corner a1_second a1_third fu q3 hq3) (cwV 2 hts gX0_says_X5_howManyThere rfl rfl rfl (by decide +kernel) ⟨Nat.le_of_ble_eq_true rfl, Nat.le_of_ble_eq_true rfl⟩) (mt_vR (q := (RX5, TX5, 8)) 5 hC (hP.sub (ws' := [(h1, .inr (5, [.ref h1_had, .ref h1_there, .ref h1_corner, .ref h1_second, .ref h1_third, .int a1_seed, .int a1_size, .int a1_parts])), (h1_had, .inl (cZ, 62, .inl a1_had)), (h1_there, .inl (cZ, 62, .inl a1_there)), (h1_corner, .inl (cI, 62, .inl a1_corner)), (h1_second, .inl (cI, 62, .inl a1_second)), (h1_third, .inl (cI, 62, .inl a1_third))]) [4, 5, 6, 7, 8, 9] rfl) rfl rfl) rfl rfl hl.1 rfl (lv_room (Nat.le_of_ble_eq_true rfl)) dX0_says_46 ⟨Nat.le_of_ble_eq_true rfl, Nat.le_of_ble_eq_true rfl⟩)) (fun r er => ?_)
    replace er := er.symm
    subst er
    refine lv_icmp_ge (tgt := 56) hx hb dX0_says_49 (by decide) (fun c4 => ?_) (fun c4 => ?_)
    · replace hm := mt_pos c4 hm
      refine lv_iconst (v := (0 : Int32)) hx hb dX0_says_56 (by decide) ?_
      obtain rfl := Option.some.inj hm
      exact W.zret hx hb hr mt_z0 (fun t ht hW => ⟨⟨_, (), rfl, rfl, by rw [ht]; exact hP, hD⟩, hS.F ht⟩) hS.2.2 dX0_says_57
    · replace hm := mt_neg c4 hm
      refine lv_iconst (v := (1 : Int32)) hx hb dX0_says_52 (by decide) ?_
      refine lv_goto (tgt := 57) hx hb dX0_says_53 (by decide) ?_
      obtain rfl := Option.some.inj hm
      exact W.zret hx hb hr mt_z1 (fun t ht hW => ⟨⟨_, (), rfl, rfl, by rw [ht]; exact hP, hD⟩, hS.F ht⟩) hS.2.2 dX0_says_57
  replace hm := mt_neg c1 hm
  by_cases c5 : p2 = (1 : Int32)
  · replace hm := mt_pos c5 hm
    refine lv_tableIn (tgt := 58) hx hb dX0_says_1 (by rw [c5]; decide) (by rw [c5]; decide) (by rw [c5]; rfl) (by decide) ?_
    refine lv_aload_n hx hb dX0_says_58 rfl (lv_at hl 1 rfl) ?_
    obtain ⟨q6, hq6, hm⟩ := mt_bind hm
    refine vp_callSi (va_Run.run (va_runS (As := [.ref h1]) (rest := []) ⟨hx, hb, hml, hown, hts⟩ (c_X0_someCallsMeet l dC dI cZ cI cL h1 h1_had h1_there h1_corner h1_second h1_third a1_seed a1_size a1_parts a1_had a1_there a1_corner a1_second a1_third fu q6 hq6) (va_cwS 1 hts gX0_says_X0_someCallsMeet rfl rfl rfl (by decide +kernel) ⟨Nat.le_of_ble_eq_true rfl, Nat.le_of_ble_eq_true rfl⟩) (mt_pR hC (hP.sub (ws' := [(h1, .inr (5, [.ref h1_had, .ref h1_there, .ref h1_corner, .ref h1_second, .ref h1_third, .int a1_seed, .int a1_size, .int a1_parts])), (h1_had, .inl (cZ, 62, .inl a1_had)), (h1_there, .inl (cZ, 62, .inl a1_there)), (h1_corner, .inl (cI, 62, .inl a1_corner)), (h1_second, .inl (cI, 62, .inl a1_second)), (h1_third, .inl (cI, 62, .inl a1_third))]) [4, 5, 6, 7, 8, 9] rfl)) rfl rfl hl.1 rfl (lv_room (Nat.le_of_ble_eq_true rfl)) dX0_says_59 ⟨Nat.le_of_ble_eq_true rfl, Nat.le_of_ble_eq_true rfl⟩)) (fun r er => ?_)
    replace er := er.symm
    subst er
    obtain ⟨g7, hm⟩ := mt_gd hm
    obtain rfl := Option.some.inj hm
    exact W.zret hx hb hr (mt_zn g7) (fun t ht hW => ⟨⟨_, (), rfl, rfl, by rw [ht]; exact hP, hD⟩, hS.F ht⟩) hS.2.2 dX0_says_62
  replace hm := mt_neg c5 hm
  by_cases c8 : p2 = (2 : Int32)
  · replace hm := mt_pos c8 hm
    refine lv_tableIn (tgt := 63) hx hb dX0_says_1 (by rw [c8]; decide) (by rw [c8]; decide) (by rw [c8]; rfl) (by decide) ?_
    refine lv_aload_n hx hb dX0_says_63 rfl (lv_at hl 1 rfl) ?_
    refine lv_iconst (v := (2 : Int32)) hx hb dX0_says_64 (by decide) ?_
    obtain ⟨q9, hq9, hm⟩ := mt_bind hm
    refine vp_callSi (va_Run.run (va_runS (As := [.ref h1, .int (2 : Int32)]) (rest := []) ⟨hx, hb, hml, hown, hts⟩ (c_X0_someUnitHas l dC dI cZ cI cL h1 h1_had h1_there h1_corner h1_second h1_third (2 : Int32) a1_seed a1_size a1_parts a1_had a1_there a1_corner a1_second a1_third fu q9 hq9) (va_cwS 2 hts gX0_says_X0_someUnitHas rfl rfl rfl (by decide +kernel) ⟨Nat.le_of_ble_eq_true rfl, Nat.le_of_ble_eq_true rfl⟩) (mt_pR hC (hP.sub (ws' := [(h1, .inr (5, [.ref h1_had, .ref h1_there, .ref h1_corner, .ref h1_second, .ref h1_third, .int a1_seed, .int a1_size, .int a1_parts])), (h1_had, .inl (cZ, 62, .inl a1_had)), (h1_there, .inl (cZ, 62, .inl a1_there)), (h1_corner, .inl (cI, 62, .inl a1_corner)), (h1_second, .inl (cI, 62, .inl a1_second)), (h1_third, .inl (cI, 62, .inl a1_third))]) [4, 5, 6, 7, 8, 9] rfl)) rfl rfl hl.1 rfl (lv_room (Nat.le_of_ble_eq_true rfl)) dX0_says_65 ⟨Nat.le_of_ble_eq_true rfl, Nat.le_of_ble_eq_true rfl⟩)) (fun r er => ?_)
    replace er := er.symm
    subst er
    refine lv_if_ne (tgt := 75) hx hb dX0_says_68 (by decide) (fun c10 => ?_) (fun c10 => ?_)
    · replace hm := mt_neg c10 hm
      refine lv_iconst (v := (0 : Int32)) hx hb dX0_says_75 (by decide) ?_
      obtain rfl := Option.some.inj hm
      exact W.zret hx hb hr mt_z0 (fun t ht hW => ⟨⟨_, (), rfl, rfl, by rw [ht]; exact hP, hD⟩, hS.F ht⟩) hS.2.2 dX0_says_76
    · replace hm := mt_pos c10 hm
      refine lv_iconst (v := (1 : Int32)) hx hb dX0_says_71 (by decide) ?_
      refine lv_goto (tgt := 76) hx hb dX0_says_72 (by decide) ?_
      obtain rfl := Option.some.inj hm
      exact W.zret hx hb hr mt_z1 (fun t ht hW => ⟨⟨_, (), rfl, rfl, by rw [ht]; exact hP, hD⟩, hS.F ht⟩) hS.2.2 dX0_says_76
  replace hm := mt_neg c8 hm
  by_cases c11 : p2 = (3 : Int32)
  · replace hm := mt_pos c11 hm
    refine lv_tableIn (tgt := 77) hx hb dX0_says_1 (by rw [c11]; decide) (by rw [c11]; decide) (by rw [c11]; rfl) (by decide) ?_
    refine lv_aload_n hx hb dX0_says_77 rfl (lv_at hl 0 rfl) ?_
    refine lv_aload_n hx hb dX0_says_78 rfl (lv_at hl 1 rfl) ?_
    obtain ⟨q12, hq12, hm⟩ := mt_bind hm
    refine mt_calli (wr := []) hP hD hS hA [0, 1, 2, 3, 4, 5, 6, 7, 8, 9] [] rfl rfl (by decide) (by decide) (va_runV (As := [.ref h1]) (rest := []) ⟨hx, hb, hml, hown, hts⟩ (c_X0_someWayIsLong l dC dI cZ cI cL h0 h0_roads h0_roads_metres h0_roads_skills h1 h1_had h1_there h1_corner h1_second h1_third s.heap.size v_roads_metres v_roads_skills a1_seed a1_size a1_parts a1_had a1_there a1_corner a1_second a1_third fu q12 hq12) (cwV 1 hts gX0_says_X0_someWayIsLong rfl rfl rfl (by decide +kernel) ⟨Nat.le_of_ble_eq_true rfl, Nat.le_of_ble_eq_true rfl⟩) (mt_vS (q := (RX0, TX0, 1)) 0 hC hP hD rfl rfl) rfl rfl hl.1 rfl (lv_room (Nat.le_of_ble_eq_true rfl)) dX0_says_79 ⟨Nat.le_of_ble_eq_true rfl, Nat.le_of_ble_eq_true rfl⟩) (fun H locs hP hD hS => ?_)
    have hP : va_P (dC, dI) vwCl [(h0, .inr (0, [.ref h0_roads])), (h0_roads, .inr (3, [.ref h0_roads_metres, .ref h0_roads_skills])), (h0_roads_metres, .inl (cI, 21, .inl q12.2)), (h0_roads_skills, .inl (cI, 21, .inl v_roads_skills)), (h1, .inr (5, [.ref h1_had, .ref h1_there, .ref h1_corner, .ref h1_second, .ref h1_third, .int a1_seed, .int a1_size, .int a1_parts])), (h1_had, .inl (cZ, 62, .inl a1_had)), (h1_there, .inl (cZ, 62, .inl a1_there)), (h1_corner, .inl (cI, 62, .inl a1_corner)), (h1_second, .inl (cI, 62, .inl a1_second)), (h1_third, .inl (cI, 62, .inl a1_third))] H := hP.sub [0, 1, 2, 3, 4, 5, 6, 7, 8, 9] rfl
    have hD : va_D A [(h0, .inr (0, [.ref h0_roads])), (h0_roads, .inr (3, [.ref h0_roads_metres, .ref h0_roads_skills])), (h0_roads_metres, .inl (cI, 21, .inl q12.2)), (h0_roads_skills, .inl (cI, 21, .inl v_roads_skills)), (h1, .inr (5, [.ref h1_had, .ref h1_there, .ref h1_corner, .ref h1_second, .ref h1_third, .int a1_seed, .int a1_size, .int a1_parts])), (h1_had, .inl (cZ, 62, .inl a1_had)), (h1_there, .inl (cZ, 62, .inl a1_there)), (h1_corner, .inl (cI, 62, .inl a1_corner)), (h1_second, .inl (cI, 62, .inl a1_second)), (h1_third, .inl (cI, 62, .inl a1_third))] := hD.sub [0, 1, 2, 3, 4, 5, 6, 7, 8, 9] (by decide) rfl
    obtain ⟨g13, hm⟩ := mt_gd hm
    obtain rfl := Option.some.inj hm
    exact W.zret hx hb hr (mt_zn g13) (fun t ht hW => ⟨⟨_, (), rfl, rfl, by rw [ht]; exact hP, hD⟩, hS.F ht⟩) hS.2.2 dX0_says_82
  replace hm := mt_neg c11 hm
  by_cases c14 : p2 = (4 : Int32)
  · replace hm := mt_pos c14 hm
    refine lv_tableIn (tgt := 83) hx hb dX0_says_1 (by rw [c14]; decide) (by rw [c14]; decide) (by rw [c14]; rfl) (by decide) ?_
    refine lv_aload_n hx hb dX0_says_83 rfl (lv_at hl 1 rfl) ?_
    obtain ⟨q15, hq15, hm⟩ := mt_bind hm
    refine vp_callSi (va_Run.run (va_runS (As := [.ref h1]) (rest := []) ⟨hx, hb, hml, hown, hts⟩ (c_X0_metresOfStreets l dC dI cZ cI cL h1 h1_had h1_there h1_corner h1_second h1_third a1_seed a1_size a1_parts a1_had a1_there a1_corner a1_second a1_third fu q15 hq15) (va_cwS 1 hts gX0_says_X0_metresOfStreets rfl rfl rfl (by decide +kernel) ⟨Nat.le_of_ble_eq_true rfl, Nat.le_of_ble_eq_true rfl⟩) (mt_pR hC (hP.sub (ws' := [(h1, .inr (5, [.ref h1_had, .ref h1_there, .ref h1_corner, .ref h1_second, .ref h1_third, .int a1_seed, .int a1_size, .int a1_parts])), (h1_had, .inl (cZ, 62, .inl a1_had)), (h1_there, .inl (cZ, 62, .inl a1_there)), (h1_corner, .inl (cI, 62, .inl a1_corner)), (h1_second, .inl (cI, 62, .inl a1_second)), (h1_third, .inl (cI, 62, .inl a1_third))]) [4, 5, 6, 7, 8, 9] rfl)) rfl rfl hl.1 rfl (lv_room (Nat.le_of_ble_eq_true rfl)) dX0_says_84 ⟨Nat.le_of_ble_eq_true rfl, Nat.le_of_ble_eq_true rfl⟩)) (fun r er => ?_)
    replace er := er.symm
    subst er
    refine lv_sipush (v := (300 : Int32)) hx hb dX0_says_87 (by decide) ?_
    refine lv_icmp_le (tgt := 97) hx hb dX0_says_90 (by decide) (fun c16 => ?_) (fun c16 => ?_)
    · replace hm := mt_pos c16 hm
      refine lv_iconst (v := (0 : Int32)) hx hb dX0_says_97 (by decide) ?_
      obtain rfl := Option.some.inj hm
      exact W.zret hx hb hr mt_z0 (fun t ht hW => ⟨⟨_, (), rfl, rfl, by rw [ht]; exact hP, hD⟩, hS.F ht⟩) hS.2.2 dX0_says_98
    · replace hm := mt_neg c16 hm
      refine lv_iconst (v := (1 : Int32)) hx hb dX0_says_93 (by decide) ?_
      refine lv_goto (tgt := 98) hx hb dX0_says_94 (by decide) ?_
      obtain rfl := Option.some.inj hm
      exact W.zret hx hb hr mt_z1 (fun t ht hW => ⟨⟨_, (), rfl, rfl, by rw [ht]; exact hP, hD⟩, hS.F ht⟩) hS.2.2 dX0_says_98
  replace hm := mt_neg c14 hm
  refine lv_tableOut (tgt := 99) hx hb dX0_says_1 (by have z0 : (p2).toInt ≠ 0 := fun h => c1 (Int32.toInt_inj.mp (h.trans (by decide))); have z1 : (p2).toInt ≠ 1 := fun h => c5 (Int32.toInt_inj.mp (h.trans (by decide))); have z2 : (p2).toInt ≠ 2 := fun h => c8 (Int32.toInt_inj.mp (h.trans (by decide))); have z3 : (p2).toInt ≠ 3 := fun h => c11 (Int32.toInt_inj.mp (h.trans (by decide))); have z4 : (p2).toInt ≠ 4 := fun h => c14 (Int32.toInt_inj.mp (h.trans (by decide))); omega) (by decide) ?_
  refine lv_iconst (v := (0 : Int32)) hx hb dX0_says_99 (by decide) ?_
  obtain rfl := Option.some.inj hm
  exact W.zret hx hb hr mt_z0 (fun t ht hW => ⟨⟨_, (), rfl, rfl, by rw [ht]; exact hP, hD⟩, hS.F ht⟩) hS.2.2 dX0_says_100
def m_X5_has (p1 : Int32) (v_had : Nat → Int32) : Option (Int32) := (m_X6_isPart p1).bind fun q1 => if q1 = 0 then some (0 : Int32) else if (¬ (p1 < 0 ∨ 62 ≤ p1.toNatClampNeg)) then if (v_had p1.toNatClampNeg) = 0 then some (0 : Int32) else some (1 : Int32) else none
set_option maxHeartbeats 4000000 in
set_option maxRecDepth 100000 in
theorem c_X5_has (l : Launch) (dC : Nat → ClassId) (dI : Nat → Nat → Nat) (cZ cI cL : ClassId) (h0 h0_had h0_there h0_corner h0_second h0_third : Nat) (p1 : Int32) (v_seed : Int32) (v_size : Int32) (v_parts : Int32) (v_had : Nat → Int32) (v_there : Nat → Int32) (v_corner : Nat → Int32) (v_second : Nat → Int32) (v_third : Nat → Int32) (q : Int32) (hm : m_X5_has p1 v_had = some q) : Met l yX5_has wsX5_has ({ frames := 1, cells := 0, slots := 0, locals := 20 }) (va_Pc [.ref h0, .int p1] (mt_R (dC, dI) cZ cI cL [(h0, .inr (5, [.ref h0_had, .ref h0_there, .ref h0_corner, .ref h0_second, .ref h0_third, .int v_seed, .int v_size, .int v_parts])), (h0_had, .inl (cZ, 62, .inl v_had)), (h0_there, .inl (cZ, 62, .inl v_there)), (h0_corner, .inl (cI, 62, .inl v_corner)), (h0_second, .inl (cI, 62, .inl v_second)), (h0_third, .inl (cI, 62, .inl v_third))])) (vp_Si (fun r => r = q)) 0 0 (fun _ => False) := by
  refine Met.ofW (cc := cX5_has) (maxL := 2) (ret := (some .boolean)) (by decide) rfl ?_
  intro p e s m args below meth c s₁ B hml hv
  obtain ⟨rfl, hP, hC⟩ := hv
  have hx := B.exec
  have hb := B.bytes
  have hr := B.returns
  have hts := atoms_spec (ws := wsX5_has) B.pre
  have hown : s.vm.findClass RX5 = some m.cls := findClass_of_methodNamed B.named
  have hlocks := B.notSynchronized
  have hK := hC.1
  have hiX5 : ∀ w ∈ wsX50, w ∈ wsX5_has := by decide +kernel
  have hl := lv_entry [.ref h0, .int p1] (n := 2) (Nat.le_of_ble_eq_true rfl)
  rw [lg_entry_eq]
  generalize (lg_sl [.ref h0, .int p1] ++ List.replicate (2 - (lg_sl [.ref h0, .int p1]).length) Slot.unset).toArray = ls at hl ⊢
  have hl : lv_has ls 2 [(0, .ref h0), (1, .int p1)] := hl
  rw [m_X5_has] at hm
  refine lv_iload_n hx hb dX5_has_0 rfl (lv_at hl 1 rfl) ?_
  obtain ⟨q1, hq1, hm⟩ := mt_bind hm
  refine vp_callSi (va_Run.run (va_runSN (As := [.int p1]) (rest := []) ⟨hx, hb, hml, hown, hts⟩ (c_X6_isPart l dC dI cZ cI cL p1 q1 hq1) ⟨(va_cnB 1 hts gX5_has_X6_isPart_n83 rfl rfl rfl (hC.2.m RX5 83 yX6_isPart "ServiceDrawer" (by decide +kernel)) (hts (.initialized RX6) (by decide +kernel)) (by decide +kernel) ⟨Nat.le_of_ble_eq_true rfl, Nat.le_of_ble_eq_true rfl⟩), hts (.static yX6_isPart) (by decide +kernel), trivial⟩ (mt_pR hC (hP.sub (ws' := []) [] rfl)) rfl rfl hl.1 rfl (lv_room (Nat.le_of_ble_eq_true rfl)) dX5_has_1 ⟨Nat.le_of_ble_eq_true rfl, Nat.le_of_ble_eq_true rfl⟩)) (fun r er => ?_)
  replace er := er.symm
  subst er
  refine lv_if_eq (tgt := 20) hx hb dX5_has_4 (by decide) (fun c2 => ?_) (fun c2 => ?_)
  · replace hm := mt_pos c2 hm
    refine lv_iconst (v := (0 : Int32)) hx hb dX5_has_20 (by decide) ?_
    obtain rfl := Option.some.inj hm
    exact W.zret hx hb hr mt_z0 (fun t ht hW => ⟨_, rfl, rfl, ht⟩) t_nil dX5_has_21
  · replace hm := mt_neg c2 hm
    refine lv_aload_n hx hb dX5_has_7 rfl (lv_at hl 0 rfl) ?_
    refine va_get (D := (dC, dI)) (ci := 5) (v := .ref h0_had) (C := RX5) (T := TX5) (N := 8) hx hb hts hiX5 hown hK hP 0 rfl rfl 0 (by decide) (hts (.fieldLink RX5 9 "ServiceDrawer$Town" "had" "[Z") (by decide +kernel)) (fun _ h9 => h9) rfl dX5_has_8 ?_
    refine lv_iload_n hx hb dX5_has_11 rfl (lv_at hl 1 rfl) ?_
    obtain ⟨g3, hm⟩ := mt_gd hm
    refine va_zald hx hb hK hP 1 0 rfl rfl g3 dX5_has_12 ?_
    refine lv_if_eq (tgt := 20) hx hb dX5_has_13 (by decide) (fun c4 => ?_) (fun c4 => ?_)
    · replace hm := mt_pos c4 hm
      refine lv_iconst (v := (0 : Int32)) hx hb dX5_has_20 (by decide) ?_
      obtain rfl := Option.some.inj hm
      exact W.zret hx hb hr mt_z0 (fun t ht hW => ⟨_, rfl, rfl, ht⟩) t_nil dX5_has_21
    · replace hm := mt_neg c4 hm
      refine lv_iconst (v := (1 : Int32)) hx hb dX5_has_16 (by decide) ?_
      refine lv_goto (tgt := 21) hx hb dX5_has_17 (by decide) ?_
      obtain rfl := Option.some.inj hm
      exact W.zret hx hb hr mt_z1 (fun t ht hW => ⟨_, rfl, rfl, ht⟩) t_nil dX5_has_21
def m_X5_setThere (p1 : Int32) (p2 : Int32) (v_had : Nat → Int32) (v_there : Nat → Int32) : Option ((Nat → Int32)) := (m_X5_has p1 v_had).bind fun q1 => if q1 = 0 then some v_there else if (¬ (p1 < 0 ∨ 62 ≤ p1.toNatClampNeg)) then some (upd v_there p1.toNatClampNeg (p2 &&& 1)) else none
set_option maxHeartbeats 4000000 in
set_option maxRecDepth 100000 in
theorem c_X5_setThere (l : Launch) (dC : Nat → ClassId) (dI : Nat → Nat → Nat) (cZ cI cL : ClassId) (h0 h0_had h0_there h0_corner h0_second h0_third : Nat) (sz : Nat) (p1 : Int32) (p2 : Int32) (v_seed : Int32) (v_size : Int32) (v_parts : Int32) (v_had : Nat → Int32) (v_there : Nat → Int32) (v_corner : Nat → Int32) (v_second : Nat → Int32) (v_third : Nat → Int32) (q : (Nat → Int32)) (hm : m_X5_setThere p1 p2 v_had v_there = some q) : Met l yX5_setThere wsX5_setThere ({ frames := 2, cells := 0, slots := 0, locals := 41 }) (va_Pc [.ref h0, .int p1, .int p2] (mt_S (dC, dI) cZ cI cL sz [(h0, .inr (5, [.ref h0_had, .ref h0_there, .ref h0_corner, .ref h0_second, .ref h0_third, .int v_seed, .int v_size, .int v_parts])), (h0_had, .inl (cZ, 62, .inl v_had)), (h0_there, .inl (cZ, 62, .inl v_there)), (h0_corner, .inl (cI, 62, .inl v_corner)), (h0_second, .inl (cI, 62, .inl v_second)), (h0_third, .inl (cI, 62, .inl v_third))])) (va_Qv (fun (_ : Unit) => True) (fun _ t => va_P (dC, dI) vwCl [(h0, .inr (5, [.ref h0_had, .ref h0_there, .ref h0_corner, .ref h0_second, .ref h0_third, .int v_seed, .int v_size, .int v_parts])), (h0_had, .inl (cZ, 62, .inl v_had)), (h0_there, .inl (cZ, 62, .inl q)), (h0_corner, .inl (cI, 62, .inl v_corner)), (h0_second, .inl (cI, 62, .inl v_second)), (h0_third, .inl (cI, 62, .inl v_third))] t.heap ∧ va_D (va_A [(h0, .inr (5, [.ref h0_had, .ref h0_there, .ref h0_corner, .ref h0_second, .ref h0_third, .int v_seed, .int v_size, .int v_parts])), (h0_had, .inl (cZ, 62, .inl v_had)), (h0_there, .inl (cZ, 62, .inl v_there)), (h0_corner, .inl (cI, 62, .inl v_corner)), (h0_second, .inl (cI, 62, .inl v_second)), (h0_third, .inl (cI, 62, .inl v_third))] sz) [(h0, .inr (5, [.ref h0_had, .ref h0_there, .ref h0_corner, .ref h0_second, .ref h0_third, .int v_seed, .int v_size, .int v_parts])), (h0_had, .inl (cZ, 62, .inl v_had)), (h0_there, .inl (cZ, 62, .inl q)), (h0_corner, .inl (cI, 62, .inl v_corner)), (h0_second, .inl (cI, 62, .inl v_second)), (h0_third, .inl (cI, 62, .inl v_third))]) (va_A [(h0, .inr (5, [.ref h0_had, .ref h0_there, .ref h0_corner, .ref h0_second, .ref h0_third, .int v_seed, .int v_size, .int v_parts])), (h0_had, .inl (cZ, 62, .inl v_had)), (h0_there, .inl (cZ, 62, .inl v_there)), (h0_corner, .inl (cI, 62, .inl v_corner)), (h0_second, .inl (cI, 62, .inl v_second)), (h0_third, .inl (cI, 62, .inl v_third))] sz)) 0 0 (va_A [(h0, .inr (5, [.ref h0_had, .ref h0_there, .ref h0_corner, .ref h0_second, .ref h0_third, .int v_seed, .int v_size, .int v_parts])), (h0_had, .inl (cZ, 62, .inl v_had)), (h0_there, .inl (cZ, 62, .inl v_there)), (h0_corner, .inl (cI, 62, .inl v_corner)), (h0_second, .inl (cI, 62, .inl v_second)), (h0_third, .inl (cI, 62, .inl v_third))] sz) := by
  refine Met.ofW (cc := cX5_setThere) (maxL := 3) (ret := none) (by decide) rfl ?_
  intro p e s m args below meth c s₁ B hml hv
  obtain ⟨rfl, hsz, hP, hC, hD0⟩ := hv
  have hx := B.exec
  have hb := B.bytes
  have hr := B.returns
  have hts := atoms_spec (ws := wsX5_setThere) B.pre
  have hown : s.vm.findClass RX5 = some m.cls := findClass_of_methodNamed B.named
  have hlocks := B.notSynchronized
  have hK := hC.1
  have hiX5 : ∀ w ∈ wsX50, w ∈ wsX5_setThere := by decide +kernel
  subst hsz
  have hD := hD0.self (sz := s.heap.size)
  generalize hAe : va_A [(h0, .inr (5, [.ref h0_had, .ref h0_there, .ref h0_corner, .ref h0_second, .ref h0_third, .int v_seed, .int v_size, .int v_parts])), (h0_had, .inl (cZ, 62, .inl v_had)), (h0_there, .inl (cZ, 62, .inl v_there)), (h0_corner, .inl (cI, 62, .inl v_corner)), (h0_second, .inl (cI, 62, .inl v_second)), (h0_third, .inl (cI, 62, .inl v_third))] s.heap.size = A at hD ⊢
  have hA : ∀ q : Nat, s.heap.size ≤ q → A q := fun q h => by rw [← hAe]; exact Or.inr h
  have hS : va_S A s.heap s.heap [] := va_S.rf
  have hl := lv_entry [.ref h0, .int p1, .int p2] (n := 3) (Nat.le_of_ble_eq_true rfl)
  rw [lg_entry_eq]
  generalize (lg_sl [.ref h0, .int p1, .int p2] ++ List.replicate (3 - (lg_sl [.ref h0, .int p1, .int p2]).length) Slot.unset).toArray = ls at hl ⊢
  have hl : lv_has ls 3 [(0, .ref h0), (1, .int p1), (2, .int p2)] := hl
  rw [m_X5_setThere] at hm
  refine lv_aload_n hx hb dX5_setThere_0 rfl (lv_at hl 0 rfl) ?_
  refine lv_iload_n hx hb dX5_setThere_1 rfl (lv_at hl 1 rfl) ?_
  obtain ⟨q1, hq1, hm⟩ := mt_bind hm
  refine vp_callSi (va_Run.run (va_runV (As := [.int p1]) (rest := []) ⟨hx, hb, hml, hown, hts⟩ (c_X5_has l dC dI cZ cI cL h0 h0_had h0_there h0_corner h0_second h0_third p1 v_seed v_size v_parts v_had v_there v_corner v_second v_third q1 hq1) (cwV 1 hts gX5_setThere_X5_has rfl rfl rfl (by decide +kernel) ⟨Nat.le_of_ble_eq_true rfl, Nat.le_of_ble_eq_true rfl⟩) (mt_vR (q := (RX5, TX5, 8)) 5 hC (hP.sub (ws' := [(h0, .inr (5, [.ref h0_had, .ref h0_there, .ref h0_corner, .ref h0_second, .ref h0_third, .int v_seed, .int v_size, .int v_parts])), (h0_had, .inl (cZ, 62, .inl v_had)), (h0_there, .inl (cZ, 62, .inl v_there)), (h0_corner, .inl (cI, 62, .inl v_corner)), (h0_second, .inl (cI, 62, .inl v_second)), (h0_third, .inl (cI, 62, .inl v_third))]) [0, 1, 2, 3, 4, 5] rfl) rfl rfl) rfl rfl hl.1 rfl (lv_room (Nat.le_of_ble_eq_true rfl)) dX5_setThere_2 ⟨Nat.le_of_ble_eq_true rfl, Nat.le_of_ble_eq_true rfl⟩)) (fun r er => ?_)
  replace er := er.symm
  subst er
  refine lv_if_eq (tgt := 15) hx hb dX5_setThere_5 (by decide) (fun c2 => ?_) (fun c2 => ?_)
  · replace hm := mt_pos c2 hm
    obtain rfl := Option.some.inj hm
    exact W.vret hx hb hr (fun t ht hW => ⟨⟨(), rfl, trivial, by rw [ht]; exact hP, hD⟩, hS.F ht⟩) hS.2.2 dX5_setThere_15
  · replace hm := mt_neg c2 hm
    refine lv_aload_n hx hb dX5_setThere_8 rfl (lv_at hl 0 rfl) ?_
    refine va_get (D := (dC, dI)) (ci := 5) (v := .ref h0_there) (C := RX5) (T := TX5) (N := 8) hx hb hts hiX5 hown hK hP 0 rfl rfl 1 (by decide) (hts (.fieldLink RX5 15 "ServiceDrawer$Town" "there" "[Z") (by decide +kernel)) (fun _ h9 => h9) rfl dX5_setThere_9 ?_
    refine lv_iload_n hx hb dX5_setThere_12 rfl (lv_at hl 1 rfl) ?_
    refine lv_iload_n hx hb dX5_setThere_13 rfl (lv_at hl 2 rfl) ?_
    obtain ⟨g3, hm⟩ := mt_gd hm
    refine va_zast hx hb hK hP hD hS 2 0 rfl rfl g3 dX5_setThere_14 (fun H locs hP hD hS => ?_)
    have hP : va_P (dC, dI) vwCl [(h0, .inr (5, [.ref h0_had, .ref h0_there, .ref h0_corner, .ref h0_second, .ref h0_third, .int v_seed, .int v_size, .int v_parts])), (h0_had, .inl (cZ, 62, .inl v_had)), (h0_there, .inl (cZ, 62, .inl (upd v_there p1.toNatClampNeg (p2 &&& 1)))), (h0_corner, .inl (cI, 62, .inl v_corner)), (h0_second, .inl (cI, 62, .inl v_second)), (h0_third, .inl (cI, 62, .inl v_third))] H := hP
    have hD : va_D A [(h0, .inr (5, [.ref h0_had, .ref h0_there, .ref h0_corner, .ref h0_second, .ref h0_third, .int v_seed, .int v_size, .int v_parts])), (h0_had, .inl (cZ, 62, .inl v_had)), (h0_there, .inl (cZ, 62, .inl (upd v_there p1.toNatClampNeg (p2 &&& 1)))), (h0_corner, .inl (cI, 62, .inl v_corner)), (h0_second, .inl (cI, 62, .inl v_second)), (h0_third, .inl (cI, 62, .inl v_third))] := hD
    obtain rfl := Option.some.inj hm
    exact W.vret hx hb hr (fun t ht hW => ⟨⟨(), rfl, trivial, by rw [ht]; exact hP, hD⟩, hS.F ht⟩) hS.2.2 dX5_setThere_15
def m_X0_leaveOutWhile_L26 (fu : Nat) (p2 : Int32) (a1_had : Nat → Int32) (a1_corner : Nat → Int32) (a1_second : Nat → Int32) (a1_third : Nat → Int32) (K109 : Int32 → Int32 → Int32 → (Nat → Int32) → (Nat → Int32) → (Nat → Int32) → Option (Int32 × (Nat → Int32) × (Nat → Int32) × (Nat → Int32))) : Nat → Int32 → Int32 → Int32 → (Nat → Int32) → (Nat → Int32) → (Nat → Int32) → Option (Int32 × (Nat → Int32) × (Nat → Int32) × (Nat → Int32))
  | 0, _, _, _, _, _, _ => none
  | n26 + 1, x3_26, x4_26, x6_26, v_roads_metres_26, v_roads_skills_26, a1_there_26 => if (62 : Int32) ≤ x6_26 then K109 x3_26 x4_26 x6_26 v_roads_metres_26 v_roads_skills_26 a1_there_26 else (m_X5_isThere x6_26 a1_there_26).bind fun q4 => if q4 = 0 then m_X0_leaveOutWhile_L26 fu p2 a1_had a1_corner a1_second a1_third K109 n26 x3_26 x4_26 (x6_26 + (1 : Int32)) v_roads_metres_26 v_roads_skills_26 a1_there_26 else (m_X5_setThere x6_26 (0 : Int32) a1_had a1_there_26).bind fun q6 => (m_X0_says fu p2 v_roads_metres_26 v_roads_skills_26 q6 a1_corner a1_second a1_third).bind fun q7 => mt_j (fun (j0_70 : Int32) (j1_70 : Int32) => (m_X5_setThere j1_70 j0_70 a1_had q6).bind fun q8 => mt_j (fun (j0_84 : Int32) (j1_84 : Int32) => if x4_26 = 0 then if q7.1 = 0 then m_X0_leaveOutWhile_L26 fu p2 a1_had a1_corner a1_second a1_third K109 n26 (j1_84 + j0_84) (0 : Int32) (x6_26 + (1 : Int32)) q7.2.1 q7.2.2 q8 else m_X0_leaveOutWhile_L26 fu p2 a1_had a1_corner a1_second a1_third K109 n26 (j1_84 + j0_84) (1 : Int32) (x6_26 + (1 : Int32)) q7.2.1 q7.2.2 q8 else m_X0_leaveOutWhile_L26 fu p2 a1_had a1_corner a1_second a1_third K109 n26 (j1_84 + j0_84) (1 : Int32) (x6_26 + (1 : Int32)) q7.2.1 q7.2.2 q8) fun K84 => if q7.1 = 0 then K84 (0 : Int32) x3_26 else K84 (1 : Int32) x3_26) fun K70 => if q7.1 = 0 then K70 (1 : Int32) x6_26 else K70 (0 : Int32) x6_26
def m_X0_leaveOutWhile_L8 (fu : Nat) (p2 : Int32) (a1_had : Nat → Int32) (a1_corner : Nat → Int32) (a1_second : Nat → Int32) (a1_third : Nat → Int32) (K115 : Int32 → Int32 → Int32 → (Nat → Int32) → (Nat → Int32) → (Nat → Int32) → Option (Int32 × (Nat → Int32) × (Nat → Int32) × (Nat → Int32))) : Nat → Int32 → Int32 → Int32 → (Nat → Int32) → (Nat → Int32) → (Nat → Int32) → Option (Int32 × (Nat → Int32) × (Nat → Int32) × (Nat → Int32))
  | 0, _, _, _, _, _, _ => none
  | n8 + 1, x3_8, x4_8, x5_8, v_roads_metres_8, v_roads_skills_8, a1_there_8 => if (62 : Int32) < x5_8 then K115 x3_8 x4_8 x5_8 v_roads_metres_8 v_roads_skills_8 a1_there_8 else if x4_8 = 0 then K115 x3_8 x4_8 x5_8 v_roads_metres_8 v_roads_skills_8 a1_there_8 else mt_j (fun (x3_109 : Int32) (x4_109 : Int32) (x6_109 : Int32) (v_roads_metres_109 : Nat → Int32) (v_roads_skills_109 : Nat → Int32) (a1_there_109 : Nat → Int32) => m_X0_leaveOutWhile_L8 fu p2 a1_had a1_corner a1_second a1_third K115 n8 x3_109 x4_109 (x5_8 + (1 : Int32)) v_roads_metres_109 v_roads_skills_109 a1_there_109) fun K109 => m_X0_leaveOutWhile_L26 fu p2 a1_had a1_corner a1_second a1_third K109 fu x3_8 (0 : Int32) (0 : Int32) v_roads_metres_8 v_roads_skills_8 a1_there_8
def m_X0_leaveOutWhile (fu : Nat) (p2 : Int32) (v_roads_metres : Nat → Int32) (v_roads_skills : Nat → Int32) (a1_had : Nat → Int32) (a1_there : Nat → Int32) (a1_corner : Nat → Int32) (a1_second : Nat → Int32) (a1_third : Nat → Int32) : Option (Int32 × (Nat → Int32) × (Nat → Int32) × (Nat → Int32)) := mt_j (fun (x3_115 : Int32) (x4_115 : Int32) (x5_115 : Int32) (v_roads_metres_115 : Nat → Int32) (v_roads_skills_115 : Nat → Int32) (a1_there_115 : Nat → Int32) => some (x3_115, v_roads_metres_115, v_roads_skills_115, a1_there_115)) fun K115 => m_X0_leaveOutWhile_L8 fu p2 a1_had a1_corner a1_second a1_third K115 fu (0 : Int32) (1 : Int32) (0 : Int32) v_roads_metres v_roads_skills a1_there
set_option maxHeartbeats 4000000 in
set_option maxRecDepth 100000 in
theorem c_X0_leaveOutWhile (l : Launch) (dC : Nat → ClassId) (dI : Nat → Nat → Nat) (cZ cI cL : ClassId) (h0 h0_roads h0_roads_metres h0_roads_skills h1 h1_had h1_there h1_corner h1_second h1_third : Nat) (sz : Nat) (p2 : Int32) (v_roads_metres : Nat → Int32) (v_roads_skills : Nat → Int32) (a1_seed : Int32) (a1_size : Int32) (a1_parts : Int32) (a1_had : Nat → Int32) (a1_there : Nat → Int32) (a1_corner : Nat → Int32) (a1_second : Nat → Int32) (a1_third : Nat → Int32) (fu : Nat) (q : Int32 × (Nat → Int32) × (Nat → Int32) × (Nat → Int32)) (hm : m_X0_leaveOutWhile fu p2 v_roads_metres v_roads_skills a1_had a1_there a1_corner a1_second a1_third = some q) : Met l yX0_leaveOutWhile wsX0_leaveOutWhile ({ frames := 5, cells := 0, slots := 0, locals := 115 }) (va_Pc [.ref h0, .ref h1, .int p2] (mt_S (dC, dI) cZ cI cL sz [(h0, .inr (0, [.ref h0_roads])), (h0_roads, .inr (3, [.ref h0_roads_metres, .ref h0_roads_skills])), (h0_roads_metres, .inl (cI, 21, .inl v_roads_metres)), (h0_roads_skills, .inl (cI, 21, .inl v_roads_skills)), (h1, .inr (5, [.ref h1_had, .ref h1_there, .ref h1_corner, .ref h1_second, .ref h1_third, .int a1_seed, .int a1_size, .int a1_parts])), (h1_had, .inl (cZ, 62, .inl a1_had)), (h1_there, .inl (cZ, 62, .inl a1_there)), (h1_corner, .inl (cI, 62, .inl a1_corner)), (h1_second, .inl (cI, 62, .inl a1_second)), (h1_third, .inl (cI, 62, .inl a1_third))])) (va_Qi (fun (r : Int32) (_ : Unit) => r = q.1) (fun _ t => va_P (dC, dI) vwCl [(h0, .inr (0, [.ref h0_roads])), (h0_roads, .inr (3, [.ref h0_roads_metres, .ref h0_roads_skills])), (h0_roads_metres, .inl (cI, 21, .inl q.2.1)), (h0_roads_skills, .inl (cI, 21, .inl q.2.2.1)), (h1, .inr (5, [.ref h1_had, .ref h1_there, .ref h1_corner, .ref h1_second, .ref h1_third, .int a1_seed, .int a1_size, .int a1_parts])), (h1_had, .inl (cZ, 62, .inl a1_had)), (h1_there, .inl (cZ, 62, .inl q.2.2.2)), (h1_corner, .inl (cI, 62, .inl a1_corner)), (h1_second, .inl (cI, 62, .inl a1_second)), (h1_third, .inl (cI, 62, .inl a1_third))] t.heap ∧ va_D (va_A [(h0, .inr (0, [.ref h0_roads])), (h0_roads, .inr (3, [.ref h0_roads_metres, .ref h0_roads_skills])), (h0_roads_metres, .inl (cI, 21, .inl v_roads_metres)), (h0_roads_skills, .inl (cI, 21, .inl v_roads_skills)), (h1, .inr (5, [.ref h1_had, .ref h1_there, .ref h1_corner, .ref h1_second, .ref h1_third, .int a1_seed, .int a1_size, .int a1_parts])), (h1_had, .inl (cZ, 62, .inl a1_had)), (h1_there, .inl (cZ, 62, .inl a1_there)), (h1_corner, .inl (cI, 62, .inl a1_corner)), (h1_second, .inl (cI, 62, .inl a1_second)), (h1_third, .inl (cI, 62, .inl a1_third))] sz) [(h0, .inr (0, [.ref h0_roads])), (h0_roads, .inr (3, [.ref h0_roads_metres, .ref h0_roads_skills])), (h0_roads_metres, .inl (cI, 21, .inl q.2.1)), (h0_roads_skills, .inl (cI, 21, .inl q.2.2.1)), (h1, .inr (5, [.ref h1_had, .ref h1_there, .ref h1_corner, .ref h1_second, .ref h1_third, .int a1_seed, .int a1_size, .int a1_parts])), (h1_had, .inl (cZ, 62, .inl a1_had)), (h1_there, .inl (cZ, 62, .inl q.2.2.2)), (h1_corner, .inl (cI, 62, .inl a1_corner)), (h1_second, .inl (cI, 62, .inl a1_second)), (h1_third, .inl (cI, 62, .inl a1_third))]) (va_A [(h0, .inr (0, [.ref h0_roads])), (h0_roads, .inr (3, [.ref h0_roads_metres, .ref h0_roads_skills])), (h0_roads_metres, .inl (cI, 21, .inl v_roads_metres)), (h0_roads_skills, .inl (cI, 21, .inl v_roads_skills)), (h1, .inr (5, [.ref h1_had, .ref h1_there, .ref h1_corner, .ref h1_second, .ref h1_third, .int a1_seed, .int a1_size, .int a1_parts])), (h1_had, .inl (cZ, 62, .inl a1_had)), (h1_there, .inl (cZ, 62, .inl a1_there)), (h1_corner, .inl (cI, 62, .inl a1_corner)), (h1_second, .inl (cI, 62, .inl a1_second)), (h1_third, .inl (cI, 62, .inl a1_third))] sz)) 0 0 (va_A [(h0, .inr (0, [.ref h0_roads])), (h0_roads, .inr (3, [.ref h0_roads_metres, .ref h0_roads_skills])), (h0_roads_metres, .inl (cI, 21, .inl v_roads_metres)), (h0_roads_skills, .inl (cI, 21, .inl v_roads_skills)), (h1, .inr (5, [.ref h1_had, .ref h1_there, .ref h1_corner, .ref h1_second, .ref h1_third, .int a1_seed, .int a1_size, .int a1_parts])), (h1_had, .inl (cZ, 62, .inl a1_had)), (h1_there, .inl (cZ, 62, .inl a1_there)), (h1_corner, .inl (cI, 62, .inl a1_corner)), (h1_second, .inl (cI, 62, .inl a1_second)), (h1_third, .inl (cI, 62, .inl a1_third))] sz) := by
  refine Met.ofW (cc := cX0_leaveOutWhile) (maxL := 8) (ret := (some .int)) (by decide) rfl ?_
  intro p e s m args below meth c s₁ B hml hv
  obtain ⟨rfl, hsz, hP, hC, hD0⟩ := hv
  have hx := B.exec
  have hb := B.bytes
  have hr := B.returns
  have hts := atoms_spec (ws := wsX0_leaveOutWhile) B.pre
  have hown : s.vm.findClass RX0 = some m.cls := findClass_of_methodNamed B.named
  have hlocks := B.notSynchronized
  have hK := hC.1
  subst hsz
  have hD := hD0.self (sz := s.heap.size)
  generalize hAe : va_A [(h0, .inr (0, [.ref h0_roads])), (h0_roads, .inr (3, [.ref h0_roads_metres, .ref h0_roads_skills])), (h0_roads_metres, .inl (cI, 21, .inl v_roads_metres)), (h0_roads_skills, .inl (cI, 21, .inl v_roads_skills)), (h1, .inr (5, [.ref h1_had, .ref h1_there, .ref h1_corner, .ref h1_second, .ref h1_third, .int a1_seed, .int a1_size, .int a1_parts])), (h1_had, .inl (cZ, 62, .inl a1_had)), (h1_there, .inl (cZ, 62, .inl a1_there)), (h1_corner, .inl (cI, 62, .inl a1_corner)), (h1_second, .inl (cI, 62, .inl a1_second)), (h1_third, .inl (cI, 62, .inl a1_third))] s.heap.size = A at hD ⊢
  have hA : ∀ q : Nat, s.heap.size ≤ q → A q := fun q h => by rw [← hAe]; exact Or.inr h
  have hS : va_S A s.heap s.heap [] := va_S.rf
  have hl := lv_entry [.ref h0, .ref h1, .int p2] (n := 8) (Nat.le_of_ble_eq_true rfl)
  rw [lg_entry_eq]
  generalize (lg_sl [.ref h0, .ref h1, .int p2] ++ List.replicate (8 - (lg_sl [.ref h0, .ref h1, .int p2]).length) Slot.unset).toArray = ls at hl ⊢
  have hl : lv_has ls 8 [(0, .ref h0), (1, .ref h1), (2, .int p2)] := hl
  rw [m_X0_leaveOutWhile] at hm
  refine lv_iconst (v := (0 : Int32)) hx hb dX0_leaveOutWhile_0 (by decide) ?_
  refine lv_istore_n (lv' := [(3, .int (0 : Int32)), (0, .ref h0), (1, .ref h1), (2, .int p2)]) hx hb dX0_leaveOutWhile_1 rfl hl (by decide) rfl (fun ls hl => ?_)
  refine lv_iconst (v := (1 : Int32)) hx hb dX0_leaveOutWhile_2 (by decide) ?_
  refine lv_istore (lv' := [(4, .int (1 : Int32)), (3, .int (0 : Int32)), (0, .ref h0), (1, .ref h1), (2, .int p2)]) hx hb dX0_leaveOutWhile_3 hl (by decide) rfl (fun ls hl => ?_)
  refine lv_iconst (v := (0 : Int32)) hx hb dX0_leaveOutWhile_5 (by decide) ?_
  refine lv_istore (lv' := [(5, .int (0 : Int32)), (4, .int (1 : Int32)), (3, .int (0 : Int32)), (0, .ref h0), (1, .ref h1), (2, .int p2)]) hx hb dX0_leaveOutWhile_6 hl (by decide) rfl (fun ls hl => ?_)
  obtain ⟨K115, hK115, hm⟩ := mt_jx hm
  have J115 : ∀ (x3_115 : Int32) (x4_115 : Int32) (x5_115 : Int32) (v_roads_metres_115 : Nat → Int32) (v_roads_skills_115 : Nat → Int32) (a1_there_115 : Nat → Int32), ∀ (H : Heap) (locs : List Loc) (ls : Array Slot), K115 x3_115 x4_115 x5_115 v_roads_metres_115 v_roads_skills_115 a1_there_115 = some q → va_P (dC, dI) vwCl [(h0, .inr (0, [.ref h0_roads])), (h0_roads, .inr (3, [.ref h0_roads_metres, .ref h0_roads_skills])), (h0_roads_metres, .inl (cI, 21, .inl v_roads_metres_115)), (h0_roads_skills, .inl (cI, 21, .inl v_roads_skills_115)), (h1, .inr (5, [.ref h1_had, .ref h1_there, .ref h1_corner, .ref h1_second, .ref h1_third, .int a1_seed, .int a1_size, .int a1_parts])), (h1_had, .inl (cZ, 62, .inl a1_had)), (h1_there, .inl (cZ, 62, .inl a1_there_115)), (h1_corner, .inl (cI, 62, .inl a1_corner)), (h1_second, .inl (cI, 62, .inl a1_second)), (h1_third, .inl (cI, 62, .inl a1_third))] H → va_D A [(h0, .inr (0, [.ref h0_roads])), (h0_roads, .inr (3, [.ref h0_roads_metres, .ref h0_roads_skills])), (h0_roads_metres, .inl (cI, 21, .inl v_roads_metres_115)), (h0_roads_skills, .inl (cI, 21, .inl v_roads_skills_115)), (h1, .inr (5, [.ref h1_had, .ref h1_there, .ref h1_corner, .ref h1_second, .ref h1_third, .int a1_seed, .int a1_size, .int a1_parts])), (h1_had, .inl (cZ, 62, .inl a1_had)), (h1_there, .inl (cZ, 62, .inl a1_there_115)), (h1_corner, .inl (cI, 62, .inl a1_corner)), (h1_second, .inl (cI, 62, .inl a1_second)), (h1_third, .inl (cI, 62, .inl a1_third))] → va_S A s.heap H locs → lv_has ls 8 [(0, .ref h0), (1, .ref h1), (2, .int p2), (3, .int x3_115), (4, .int x4_115), (5, .int x5_115)] → W p l e (headSpec wsX0_leaveOutWhile ({ frames := 5, cells := 0, slots := 0, locals := 115 })).room s m [.ref h0, .ref h1, .int p2].toArray below meth c H locs 0 0 (MQ below (va_Qi (fun (r : Int32) (_ : Unit) => r = q.1) (fun _ t => va_P (dC, dI) vwCl [(h0, .inr (0, [.ref h0_roads])), (h0_roads, .inr (3, [.ref h0_roads_metres, .ref h0_roads_skills])), (h0_roads_metres, .inl (cI, 21, .inl q.2.1)), (h0_roads_skills, .inl (cI, 21, .inl q.2.2.1)), (h1, .inr (5, [.ref h1_had, .ref h1_there, .ref h1_corner, .ref h1_second, .ref h1_third, .int a1_seed, .int a1_size, .int a1_parts])), (h1_had, .inl (cZ, 62, .inl a1_had)), (h1_there, .inl (cZ, 62, .inl q.2.2.2)), (h1_corner, .inl (cI, 62, .inl a1_corner)), (h1_second, .inl (cI, 62, .inl a1_second)), (h1_third, .inl (cI, 62, .inl a1_third))] t.heap ∧ va_D A [(h0, .inr (0, [.ref h0_roads])), (h0_roads, .inr (3, [.ref h0_roads_metres, .ref h0_roads_skills])), (h0_roads_metres, .inl (cI, 21, .inl q.2.1)), (h0_roads_skills, .inl (cI, 21, .inl q.2.2.1)), (h1, .inr (5, [.ref h1_had, .ref h1_there, .ref h1_corner, .ref h1_second, .ref h1_third, .int a1_seed, .int a1_size, .int a1_parts])), (h1_had, .inl (cZ, 62, .inl a1_had)), (h1_there, .inl (cZ, 62, .inl q.2.2.2)), (h1_corner, .inl (cI, 62, .inl a1_corner)), (h1_second, .inl (cI, 62, .inl a1_second)), (h1_third, .inl (cI, 62, .inl a1_third))]) A) [.ref h0, .ref h1, .int p2].toArray s 0 0 A) (F0 m 115 ls []) := by
    intro x3_115 x4_115 x5_115 v_roads_metres_115 v_roads_skills_115 a1_there_115 H locs ls hm hP hD hS hl
    replace hm := mt_app6 hK115 hm
    refine lv_iload_n hx hb dX0_leaveOutWhile_115 rfl (lv_at hl 3 rfl) ?_
    obtain rfl := Option.some.inj hm
    exact W.iret hx hb hr (fun t ht hW => ⟨⟨_, (), rfl, rfl, by rw [ht]; exact hP, hD⟩, hS.F ht⟩) hS.2.2 dX0_leaveOutWhile_116
  have L8 : ∀ n8 : Nat, ∀ (x3_8 : Int32) (x4_8 : Int32) (x5_8 : Int32) (v_roads_metres_8 : Nat → Int32) (v_roads_skills_8 : Nat → Int32) (a1_there_8 : Nat → Int32), ∀ (H : Heap) (locs : List Loc) (ls : Array Slot), m_X0_leaveOutWhile_L8 fu p2 a1_had a1_corner a1_second a1_third K115 n8 x3_8 x4_8 x5_8 v_roads_metres_8 v_roads_skills_8 a1_there_8 = some q → va_P (dC, dI) vwCl [(h0, .inr (0, [.ref h0_roads])), (h0_roads, .inr (3, [.ref h0_roads_metres, .ref h0_roads_skills])), (h0_roads_metres, .inl (cI, 21, .inl v_roads_metres_8)), (h0_roads_skills, .inl (cI, 21, .inl v_roads_skills_8)), (h1, .inr (5, [.ref h1_had, .ref h1_there, .ref h1_corner, .ref h1_second, .ref h1_third, .int a1_seed, .int a1_size, .int a1_parts])), (h1_had, .inl (cZ, 62, .inl a1_had)), (h1_there, .inl (cZ, 62, .inl a1_there_8)), (h1_corner, .inl (cI, 62, .inl a1_corner)), (h1_second, .inl (cI, 62, .inl a1_second)), (h1_third, .inl (cI, 62, .inl a1_third))] H → va_D A [(h0, .inr (0, [.ref h0_roads])), (h0_roads, .inr (3, [.ref h0_roads_metres, .ref h0_roads_skills])), (h0_roads_metres, .inl (cI, 21, .inl v_roads_metres_8)), (h0_roads_skills, .inl (cI, 21, .inl v_roads_skills_8)), (h1, .inr (5, [.ref h1_had, .ref h1_there, .ref h1_corner, .ref h1_second, .ref h1_third, .int a1_seed, .int a1_size, .int a1_parts])), (h1_had, .inl (cZ, 62, .inl a1_had)), (h1_there, .inl (cZ, 62, .inl a1_there_8)), (h1_corner, .inl (cI, 62, .inl a1_corner)), (h1_second, .inl (cI, 62, .inl a1_second)), (h1_third, .inl (cI, 62, .inl a1_third))] → va_S A s.heap H locs → lv_has ls 8 [(0, .ref h0), (1, .ref h1), (2, .int p2), (3, .int x3_8), (4, .int x4_8), (5, .int x5_8)] → W p l e (headSpec wsX0_leaveOutWhile ({ frames := 5, cells := 0, slots := 0, locals := 115 })).room s m [.ref h0, .ref h1, .int p2].toArray below meth c H locs 0 0 (MQ below (va_Qi (fun (r : Int32) (_ : Unit) => r = q.1) (fun _ t => va_P (dC, dI) vwCl [(h0, .inr (0, [.ref h0_roads])), (h0_roads, .inr (3, [.ref h0_roads_metres, .ref h0_roads_skills])), (h0_roads_metres, .inl (cI, 21, .inl q.2.1)), (h0_roads_skills, .inl (cI, 21, .inl q.2.2.1)), (h1, .inr (5, [.ref h1_had, .ref h1_there, .ref h1_corner, .ref h1_second, .ref h1_third, .int a1_seed, .int a1_size, .int a1_parts])), (h1_had, .inl (cZ, 62, .inl a1_had)), (h1_there, .inl (cZ, 62, .inl q.2.2.2)), (h1_corner, .inl (cI, 62, .inl a1_corner)), (h1_second, .inl (cI, 62, .inl a1_second)), (h1_third, .inl (cI, 62, .inl a1_third))] t.heap ∧ va_D A [(h0, .inr (0, [.ref h0_roads])), (h0_roads, .inr (3, [.ref h0_roads_metres, .ref h0_roads_skills])), (h0_roads_metres, .inl (cI, 21, .inl q.2.1)), (h0_roads_skills, .inl (cI, 21, .inl q.2.2.1)), (h1, .inr (5, [.ref h1_had, .ref h1_there, .ref h1_corner, .ref h1_second, .ref h1_third, .int a1_seed, .int a1_size, .int a1_parts])), (h1_had, .inl (cZ, 62, .inl a1_had)), (h1_there, .inl (cZ, 62, .inl q.2.2.2)), (h1_corner, .inl (cI, 62, .inl a1_corner)), (h1_second, .inl (cI, 62, .inl a1_second)), (h1_third, .inl (cI, 62, .inl a1_third))]) A) [.ref h0, .ref h1, .int p2].toArray s 0 0 A) (F0 m 8 ls []) := by
    intro n8
    induction n8 with
    | zero =>
      intro x3_8 x4_8 x5_8 v_roads_metres_8 v_roads_skills_8 a1_there_8 H locs ls hm hP hD hS hl
      exact absurd hm (fun h => nomatch h)
    | succ n8 ih8 =>
      intro x3_8 x4_8 x5_8 v_roads_metres_8 v_roads_skills_8 a1_there_8 H locs ls hm hP hD hS hl
      rw [m_X0_leaveOutWhile_L8] at hm
      refine lv_iload hx hb dX0_leaveOutWhile_8 (lv_at hl 5 rfl) ?_
      refine lv_bipush (v := (62 : Int32)) hx hb dX0_leaveOutWhile_10 (by decide) ?_
      refine lv_icmp_gt (tgt := 115) hx hb dX0_leaveOutWhile_12 (by decide) (fun c1 => ?_) (fun c1 => ?_)
      · replace hm := mt_pos c1 hm
        exact J115 x3_8 x4_8 x5_8 v_roads_metres_8 v_roads_skills_8 a1_there_8 _ _ _ hm hP hD hS (lv_sub hl [0, 1, 2, 3, 4, 5] rfl)
      · replace hm := mt_neg c1 hm
        refine lv_iload hx hb dX0_leaveOutWhile_15 (lv_at hl 4 rfl) ?_
        refine lv_if_eq (tgt := 115) hx hb dX0_leaveOutWhile_17 (by decide) (fun c2 => ?_) (fun c2 => ?_)
        · replace hm := mt_pos c2 hm
          exact J115 x3_8 x4_8 x5_8 v_roads_metres_8 v_roads_skills_8 a1_there_8 _ _ _ hm hP hD hS (lv_sub hl [0, 1, 2, 3, 4, 5] rfl)
        · replace hm := mt_neg c2 hm
          refine lv_iconst (v := (0 : Int32)) hx hb dX0_leaveOutWhile_20 (by decide) ?_
          refine lv_istore (lv' := [(4, .int (0 : Int32)), (0, .ref h0), (1, .ref h1), (2, .int p2), (3, .int x3_8), (5, .int x5_8)]) hx hb dX0_leaveOutWhile_21 hl (by decide) rfl (fun ls hl => ?_)
          refine lv_iconst (v := (0 : Int32)) hx hb dX0_leaveOutWhile_23 (by decide) ?_
          refine lv_istore (lv' := [(6, .int (0 : Int32)), (4, .int (0 : Int32)), (0, .ref h0), (1, .ref h1), (2, .int p2), (3, .int x3_8), (5, .int x5_8)]) hx hb dX0_leaveOutWhile_24 hl (by decide) rfl (fun ls hl => ?_)
          obtain ⟨K109, hK109, hm⟩ := mt_jx hm
          have J109 : ∀ (x3_109 : Int32) (x4_109 : Int32) (x6_109 : Int32) (v_roads_metres_109 : Nat → Int32) (v_roads_skills_109 : Nat → Int32) (a1_there_109 : Nat → Int32), ∀ (H : Heap) (locs : List Loc) (ls : Array Slot), K109 x3_109 x4_109 x6_109 v_roads_metres_109 v_roads_skills_109 a1_there_109 = some q → va_P (dC, dI) vwCl [(h0, .inr (0, [.ref h0_roads])), (h0_roads, .inr (3, [.ref h0_roads_metres, .ref h0_roads_skills])), (h0_roads_metres, .inl (cI, 21, .inl v_roads_metres_109)), (h0_roads_skills, .inl (cI, 21, .inl v_roads_skills_109)), (h1, .inr (5, [.ref h1_had, .ref h1_there, .ref h1_corner, .ref h1_second, .ref h1_third, .int a1_seed, .int a1_size, .int a1_parts])), (h1_had, .inl (cZ, 62, .inl a1_had)), (h1_there, .inl (cZ, 62, .inl a1_there_109)), (h1_corner, .inl (cI, 62, .inl a1_corner)), (h1_second, .inl (cI, 62, .inl a1_second)), (h1_third, .inl (cI, 62, .inl a1_third))] H → va_D A [(h0, .inr (0, [.ref h0_roads])), (h0_roads, .inr (3, [.ref h0_roads_metres, .ref h0_roads_skills])), (h0_roads_metres, .inl (cI, 21, .inl v_roads_metres_109)), (h0_roads_skills, .inl (cI, 21, .inl v_roads_skills_109)), (h1, .inr (5, [.ref h1_had, .ref h1_there, .ref h1_corner, .ref h1_second, .ref h1_third, .int a1_seed, .int a1_size, .int a1_parts])), (h1_had, .inl (cZ, 62, .inl a1_had)), (h1_there, .inl (cZ, 62, .inl a1_there_109)), (h1_corner, .inl (cI, 62, .inl a1_corner)), (h1_second, .inl (cI, 62, .inl a1_second)), (h1_third, .inl (cI, 62, .inl a1_third))] → va_S A s.heap H locs → lv_has ls 8 [(0, .ref h0), (1, .ref h1), (2, .int p2), (3, .int x3_109), (4, .int x4_109), (5, .int x5_8), (6, .int x6_109)] → W p l e (headSpec wsX0_leaveOutWhile ({ frames := 5, cells := 0, slots := 0, locals := 115 })).room s m [.ref h0, .ref h1, .int p2].toArray below meth c H locs 0 0 (MQ below (va_Qi (fun (r : Int32) (_ : Unit) => r = q.1) (fun _ t => va_P (dC, dI) vwCl [(h0, .inr (0, [.ref h0_roads])), (h0_roads, .inr (3, [.ref h0_roads_metres, .ref h0_roads_skills])), (h0_roads_metres, .inl (cI, 21, .inl q.2.1)), (h0_roads_skills, .inl (cI, 21, .inl q.2.2.1)), (h1, .inr (5, [.ref h1_had, .ref h1_there, .ref h1_corner, .ref h1_second, .ref h1_third, .int a1_seed, .int a1_size, .int a1_parts])), (h1_had, .inl (cZ, 62, .inl a1_had)), (h1_there, .inl (cZ, 62, .inl q.2.2.2)), (h1_corner, .inl (cI, 62, .inl a1_corner)), (h1_second, .inl (cI, 62, .inl a1_second)), (h1_third, .inl (cI, 62, .inl a1_third))] t.heap ∧ va_D A [(h0, .inr (0, [.ref h0_roads])), (h0_roads, .inr (3, [.ref h0_roads_metres, .ref h0_roads_skills])), (h0_roads_metres, .inl (cI, 21, .inl q.2.1)), (h0_roads_skills, .inl (cI, 21, .inl q.2.2.1)), (h1, .inr (5, [.ref h1_had, .ref h1_there, .ref h1_corner, .ref h1_second, .ref h1_third, .int a1_seed, .int a1_size, .int a1_parts])), (h1_had, .inl (cZ, 62, .inl a1_had)), (h1_there, .inl (cZ, 62, .inl q.2.2.2)), (h1_corner, .inl (cI, 62, .inl a1_corner)), (h1_second, .inl (cI, 62, .inl a1_second)), (h1_third, .inl (cI, 62, .inl a1_third))]) A) [.ref h0, .ref h1, .int p2].toArray s 0 0 A) (F0 m 109 ls []) := by
            intro x3_109 x4_109 x6_109 v_roads_metres_109 v_roads_skills_109 a1_there_109 H locs ls hm hP hD hS hl
            replace hm := mt_app6 hK109 hm
            refine lv_iinc (v := (x5_8 + (1 : Int32))) (lv' := [(5, .int (x5_8 + (1 : Int32))), (0, .ref h0), (1, .ref h1), (2, .int p2), (3, .int x3_109), (4, .int x4_109), (6, .int x6_109)]) hx hb dX0_leaveOutWhile_109 hl (k := 5) rfl rfl (by decide) rfl (fun ls hl => ?_)
            refine lv_goto (tgt := 8) hx hb dX0_leaveOutWhile_112 (by decide) ?_
            exact ih8 x3_109 x4_109 (x5_8 + (1 : Int32)) v_roads_metres_109 v_roads_skills_109 a1_there_109 _ _ _ hm hP hD hS (lv_sub hl [1, 2, 3, 4, 5, 0] rfl)
          have L26 : ∀ n26 : Nat, ∀ (x3_26 : Int32) (x4_26 : Int32) (x6_26 : Int32) (v_roads_metres_26 : Nat → Int32) (v_roads_skills_26 : Nat → Int32) (a1_there_26 : Nat → Int32), ∀ (H : Heap) (locs : List Loc) (ls : Array Slot), m_X0_leaveOutWhile_L26 fu p2 a1_had a1_corner a1_second a1_third K109 n26 x3_26 x4_26 x6_26 v_roads_metres_26 v_roads_skills_26 a1_there_26 = some q → va_P (dC, dI) vwCl [(h0, .inr (0, [.ref h0_roads])), (h0_roads, .inr (3, [.ref h0_roads_metres, .ref h0_roads_skills])), (h0_roads_metres, .inl (cI, 21, .inl v_roads_metres_26)), (h0_roads_skills, .inl (cI, 21, .inl v_roads_skills_26)), (h1, .inr (5, [.ref h1_had, .ref h1_there, .ref h1_corner, .ref h1_second, .ref h1_third, .int a1_seed, .int a1_size, .int a1_parts])), (h1_had, .inl (cZ, 62, .inl a1_had)), (h1_there, .inl (cZ, 62, .inl a1_there_26)), (h1_corner, .inl (cI, 62, .inl a1_corner)), (h1_second, .inl (cI, 62, .inl a1_second)), (h1_third, .inl (cI, 62, .inl a1_third))] H → va_D A [(h0, .inr (0, [.ref h0_roads])), (h0_roads, .inr (3, [.ref h0_roads_metres, .ref h0_roads_skills])), (h0_roads_metres, .inl (cI, 21, .inl v_roads_metres_26)), (h0_roads_skills, .inl (cI, 21, .inl v_roads_skills_26)), (h1, .inr (5, [.ref h1_had, .ref h1_there, .ref h1_corner, .ref h1_second, .ref h1_third, .int a1_seed, .int a1_size, .int a1_parts])), (h1_had, .inl (cZ, 62, .inl a1_had)), (h1_there, .inl (cZ, 62, .inl a1_there_26)), (h1_corner, .inl (cI, 62, .inl a1_corner)), (h1_second, .inl (cI, 62, .inl a1_second)), (h1_third, .inl (cI, 62, .inl a1_third))] → va_S A s.heap H locs → lv_has ls 8 [(0, .ref h0), (1, .ref h1), (2, .int p2), (3, .int x3_26), (4, .int x4_26), (5, .int x5_8), (6, .int x6_26)] → W p l e (headSpec wsX0_leaveOutWhile ({ frames := 5, cells := 0, slots := 0, locals := 115 })).room s m [.ref h0, .ref h1, .int p2].toArray below meth c H locs 0 0 (MQ below (va_Qi (fun (r : Int32) (_ : Unit) => r = q.1) (fun _ t => va_P (dC, dI) vwCl [(h0, .inr (0, [.ref h0_roads])), (h0_roads, .inr (3, [.ref h0_roads_metres, .ref h0_roads_skills])), (h0_roads_metres, .inl (cI, 21, .inl q.2.1)), (h0_roads_skills, .inl (cI, 21, .inl q.2.2.1)), (h1, .inr (5, [.ref h1_had, .ref h1_there, .ref h1_corner, .ref h1_second, .ref h1_third, .int a1_seed, .int a1_size, .int a1_parts])), (h1_had, .inl (cZ, 62, .inl a1_had)), (h1_there, .inl (cZ, 62, .inl q.2.2.2)), (h1_corner, .inl (cI, 62, .inl a1_corner)), (h1_second, .inl (cI, 62, .inl a1_second)), (h1_third, .inl (cI, 62, .inl a1_third))] t.heap ∧ va_D A [(h0, .inr (0, [.ref h0_roads])), (h0_roads, .inr (3, [.ref h0_roads_metres, .ref h0_roads_skills])), (h0_roads_metres, .inl (cI, 21, .inl q.2.1)), (h0_roads_skills, .inl (cI, 21, .inl q.2.2.1)), (h1, .inr (5, [.ref h1_had, .ref h1_there, .ref h1_corner, .ref h1_second, .ref h1_third, .int a1_seed, .int a1_size, .int a1_parts])), (h1_had, .inl (cZ, 62, .inl a1_had)), (h1_there, .inl (cZ, 62, .inl q.2.2.2)), (h1_corner, .inl (cI, 62, .inl a1_corner)), (h1_second, .inl (cI, 62, .inl a1_second)), (h1_third, .inl (cI, 62, .inl a1_third))]) A) [.ref h0, .ref h1, .int p2].toArray s 0 0 A) (F0 m 26 ls []) := by
            intro n26
            induction n26 with
            | zero =>
              intro x3_26 x4_26 x6_26 v_roads_metres_26 v_roads_skills_26 a1_there_26 H locs ls hm hP hD hS hl
              exact absurd hm (fun h => nomatch h)
            | succ n26 ih26 =>
              intro x3_26 x4_26 x6_26 v_roads_metres_26 v_roads_skills_26 a1_there_26 H locs ls hm hP hD hS hl
              rw [m_X0_leaveOutWhile_L26] at hm
              refine lv_iload hx hb dX0_leaveOutWhile_26 (lv_at hl 6 rfl) ?_
              refine lv_bipush (v := (62 : Int32)) hx hb dX0_leaveOutWhile_28 (by decide) ?_
              refine lv_icmp_ge (tgt := 109) hx hb dX0_leaveOutWhile_30 (by decide) (fun c3 => ?_) (fun c3 => ?_)
              · replace hm := mt_pos c3 hm
                exact J109 x3_26 x4_26 x6_26 v_roads_metres_26 v_roads_skills_26 a1_there_26 _ _ _ hm hP hD hS (lv_sub hl [0, 1, 2, 3, 4, 5, 6] rfl)
              · replace hm := mt_neg c3 hm
                refine lv_aload_n hx hb dX0_leaveOutWhile_33 rfl (lv_at hl 1 rfl) ?_
                refine lv_iload hx hb dX0_leaveOutWhile_34 (lv_at hl 6 rfl) ?_
                obtain ⟨q4, hq4, hm⟩ := mt_bind hm
                refine vp_callSi (va_Run.run (va_runV (As := [.int x6_26]) (rest := []) ⟨hx, hb, hml, hown, hts⟩ (c_X5_isThere l dC dI cZ cI cL h1 h1_had h1_there h1_corner h1_second h1_third x6_26 a1_seed a1_size a1_parts a1_had a1_there_26 a1_corner a1_second a1_third q4 hq4) (cwV 1 hts gX0_leaveOutWhile_X5_isThere rfl rfl rfl (by decide +kernel) ⟨Nat.le_of_ble_eq_true rfl, Nat.le_of_ble_eq_true rfl⟩) (mt_vR (q := (RX5, TX5, 8)) 5 hC (hP.sub (ws' := [(h1, .inr (5, [.ref h1_had, .ref h1_there, .ref h1_corner, .ref h1_second, .ref h1_third, .int a1_seed, .int a1_size, .int a1_parts])), (h1_had, .inl (cZ, 62, .inl a1_had)), (h1_there, .inl (cZ, 62, .inl a1_there_26)), (h1_corner, .inl (cI, 62, .inl a1_corner)), (h1_second, .inl (cI, 62, .inl a1_second)), (h1_third, .inl (cI, 62, .inl a1_third))]) [4, 5, 6, 7, 8, 9] rfl) rfl rfl) rfl rfl hl.1 rfl (lv_room (Nat.le_of_ble_eq_true rfl)) dX0_leaveOutWhile_36 ⟨Nat.le_of_ble_eq_true rfl, Nat.le_of_ble_eq_true rfl⟩)) (fun r er => ?_)
                replace er := er.symm
                subst er
                refine lv_if_eq (tgt := 103) hx hb dX0_leaveOutWhile_39 (by decide) (fun c5 => ?_) (fun c5 => ?_)
                · replace hm := mt_pos c5 hm
                  refine lv_iinc (v := (x6_26 + (1 : Int32))) (lv' := [(6, .int (x6_26 + (1 : Int32))), (0, .ref h0), (1, .ref h1), (2, .int p2), (3, .int x3_26), (4, .int x4_26), (5, .int x5_8)]) hx hb dX0_leaveOutWhile_103 hl (k := 6) rfl rfl (by decide) rfl (fun ls hl => ?_)
                  refine lv_goto (tgt := 26) hx hb dX0_leaveOutWhile_106 (by decide) ?_
                  exact ih26 x3_26 x4_26 (x6_26 + (1 : Int32)) v_roads_metres_26 v_roads_skills_26 a1_there_26 _ _ _ hm hP hD hS (lv_sub hl [1, 2, 3, 4, 5, 6, 0] rfl)
                · replace hm := mt_neg c5 hm
                  refine lv_aload_n hx hb dX0_leaveOutWhile_42 rfl (lv_at hl 1 rfl) ?_
                  refine lv_iload hx hb dX0_leaveOutWhile_43 (lv_at hl 6 rfl) ?_
                  refine lv_iconst (v := (0 : Int32)) hx hb dX0_leaveOutWhile_45 (by decide) ?_
                  obtain ⟨q6, hq6, hm⟩ := mt_bind hm
                  refine mt_callv (wr := [(h0, .inr (0, [.ref h0_roads])), (h0_roads, .inr (3, [.ref h0_roads_metres, .ref h0_roads_skills])), (h0_roads_metres, .inl (cI, 21, .inl v_roads_metres_26)), (h0_roads_skills, .inl (cI, 21, .inl v_roads_skills_26))]) hP hD hS hA [4, 5, 6, 7, 8, 9] [0, 1, 2, 3] rfl rfl (by decide) (by decide) (va_runV (As := [.int x6_26, .int (0 : Int32)]) (rest := []) ⟨hx, hb, hml, hown, hts⟩ (c_X5_setThere l dC dI cZ cI cL h1 h1_had h1_there h1_corner h1_second h1_third H.size x6_26 (0 : Int32) a1_seed a1_size a1_parts a1_had a1_there_26 a1_corner a1_second a1_third q6 hq6) (cwV 2 hts gX0_leaveOutWhile_X5_setThere rfl rfl rfl (by decide +kernel) ⟨Nat.le_of_ble_eq_true rfl, Nat.le_of_ble_eq_true rfl⟩) (mt_vS (q := (RX5, TX5, 8)) 5 hC (hP.sub (ws' := [(h1, .inr (5, [.ref h1_had, .ref h1_there, .ref h1_corner, .ref h1_second, .ref h1_third, .int a1_seed, .int a1_size, .int a1_parts])), (h1_had, .inl (cZ, 62, .inl a1_had)), (h1_there, .inl (cZ, 62, .inl a1_there_26)), (h1_corner, .inl (cI, 62, .inl a1_corner)), (h1_second, .inl (cI, 62, .inl a1_second)), (h1_third, .inl (cI, 62, .inl a1_third))]) [4, 5, 6, 7, 8, 9] rfl) (hD.sub (ws' := [(h1, .inr (5, [.ref h1_had, .ref h1_there, .ref h1_corner, .ref h1_second, .ref h1_third, .int a1_seed, .int a1_size, .int a1_parts])), (h1_had, .inl (cZ, 62, .inl a1_had)), (h1_there, .inl (cZ, 62, .inl a1_there_26)), (h1_corner, .inl (cI, 62, .inl a1_corner)), (h1_second, .inl (cI, 62, .inl a1_second)), (h1_third, .inl (cI, 62, .inl a1_third))]) [4, 5, 6, 7, 8, 9] (by decide) rfl) rfl rfl) rfl rfl hl.1 rfl (lv_room (Nat.le_of_ble_eq_true rfl)) dX0_leaveOutWhile_46 ⟨Nat.le_of_ble_eq_true rfl, Nat.le_of_ble_eq_true rfl⟩) (fun H locs hP hD hS => ?_)
                  have hP : va_P (dC, dI) vwCl [(h0, .inr (0, [.ref h0_roads])), (h0_roads, .inr (3, [.ref h0_roads_metres, .ref h0_roads_skills])), (h0_roads_metres, .inl (cI, 21, .inl v_roads_metres_26)), (h0_roads_skills, .inl (cI, 21, .inl v_roads_skills_26)), (h1, .inr (5, [.ref h1_had, .ref h1_there, .ref h1_corner, .ref h1_second, .ref h1_third, .int a1_seed, .int a1_size, .int a1_parts])), (h1_had, .inl (cZ, 62, .inl a1_had)), (h1_there, .inl (cZ, 62, .inl q6)), (h1_corner, .inl (cI, 62, .inl a1_corner)), (h1_second, .inl (cI, 62, .inl a1_second)), (h1_third, .inl (cI, 62, .inl a1_third))] H := hP.sub [0, 1, 2, 3, 4, 5, 6, 7, 8, 9] rfl
                  have hD : va_D A [(h0, .inr (0, [.ref h0_roads])), (h0_roads, .inr (3, [.ref h0_roads_metres, .ref h0_roads_skills])), (h0_roads_metres, .inl (cI, 21, .inl v_roads_metres_26)), (h0_roads_skills, .inl (cI, 21, .inl v_roads_skills_26)), (h1, .inr (5, [.ref h1_had, .ref h1_there, .ref h1_corner, .ref h1_second, .ref h1_third, .int a1_seed, .int a1_size, .int a1_parts])), (h1_had, .inl (cZ, 62, .inl a1_had)), (h1_there, .inl (cZ, 62, .inl q6)), (h1_corner, .inl (cI, 62, .inl a1_corner)), (h1_second, .inl (cI, 62, .inl a1_second)), (h1_third, .inl (cI, 62, .inl a1_third))] := hD.sub [0, 1, 2, 3, 4, 5, 6, 7, 8, 9] (by decide) rfl
                  refine lv_aload_n hx hb dX0_leaveOutWhile_49 rfl (lv_at hl 0 rfl) ?_
                  refine lv_aload_n hx hb dX0_leaveOutWhile_50 rfl (lv_at hl 1 rfl) ?_
                  refine lv_iload_n hx hb dX0_leaveOutWhile_51 rfl (lv_at hl 2 rfl) ?_
                  obtain ⟨q7, hq7, hm⟩ := mt_bind hm
                  refine mt_calli (wr := []) hP hD hS hA [0, 1, 2, 3, 4, 5, 6, 7, 8, 9] [] rfl rfl (by decide) (by decide) (va_runV (As := [.ref h1, .int p2]) (rest := []) ⟨hx, hb, hml, hown, hts⟩ (c_X0_says l dC dI cZ cI cL h0 h0_roads h0_roads_metres h0_roads_skills h1 h1_had h1_there h1_corner h1_second h1_third H.size p2 v_roads_metres_26 v_roads_skills_26 a1_seed a1_size a1_parts a1_had q6 a1_corner a1_second a1_third fu q7 hq7) (cwV 2 hts gX0_leaveOutWhile_X0_says rfl rfl rfl (by decide +kernel) ⟨Nat.le_of_ble_eq_true rfl, Nat.le_of_ble_eq_true rfl⟩) (mt_vS (q := (RX0, TX0, 1)) 0 hC hP hD rfl rfl) rfl rfl hl.1 rfl (lv_room (Nat.le_of_ble_eq_true rfl)) dX0_leaveOutWhile_52 ⟨Nat.le_of_ble_eq_true rfl, Nat.le_of_ble_eq_true rfl⟩) (fun H locs hP hD hS => ?_)
                  have hP : va_P (dC, dI) vwCl [(h0, .inr (0, [.ref h0_roads])), (h0_roads, .inr (3, [.ref h0_roads_metres, .ref h0_roads_skills])), (h0_roads_metres, .inl (cI, 21, .inl q7.2.1)), (h0_roads_skills, .inl (cI, 21, .inl q7.2.2)), (h1, .inr (5, [.ref h1_had, .ref h1_there, .ref h1_corner, .ref h1_second, .ref h1_third, .int a1_seed, .int a1_size, .int a1_parts])), (h1_had, .inl (cZ, 62, .inl a1_had)), (h1_there, .inl (cZ, 62, .inl q6)), (h1_corner, .inl (cI, 62, .inl a1_corner)), (h1_second, .inl (cI, 62, .inl a1_second)), (h1_third, .inl (cI, 62, .inl a1_third))] H := hP.sub [0, 1, 2, 3, 4, 5, 6, 7, 8, 9] rfl
                  have hD : va_D A [(h0, .inr (0, [.ref h0_roads])), (h0_roads, .inr (3, [.ref h0_roads_metres, .ref h0_roads_skills])), (h0_roads_metres, .inl (cI, 21, .inl q7.2.1)), (h0_roads_skills, .inl (cI, 21, .inl q7.2.2)), (h1, .inr (5, [.ref h1_had, .ref h1_there, .ref h1_corner, .ref h1_second, .ref h1_third, .int a1_seed, .int a1_size, .int a1_parts])), (h1_had, .inl (cZ, 62, .inl a1_had)), (h1_there, .inl (cZ, 62, .inl q6)), (h1_corner, .inl (cI, 62, .inl a1_corner)), (h1_second, .inl (cI, 62, .inl a1_second)), (h1_third, .inl (cI, 62, .inl a1_third))] := hD.sub [0, 1, 2, 3, 4, 5, 6, 7, 8, 9] (by decide) rfl
                  refine lv_istore (lv' := [(7, .int q7.1), (0, .ref h0), (1, .ref h1), (2, .int p2), (3, .int x3_26), (4, .int x4_26), (5, .int x5_8), (6, .int x6_26)]) hx hb dX0_leaveOutWhile_55 hl (by decide) rfl (fun ls hl => ?_)
                  refine lv_aload_n hx hb dX0_leaveOutWhile_57 rfl (lv_at hl 2 rfl) ?_
                  refine lv_iload hx hb dX0_leaveOutWhile_58 (lv_at hl 7 rfl) ?_
                  refine lv_iload hx hb dX0_leaveOutWhile_60 (lv_at hl 0 rfl) ?_
                  obtain ⟨K70, hK70, hm⟩ := mt_jx hm
                  have J70 : ∀ (j0_70 : Int32) (j1_70 : Int32), ∀ (H : Heap) (locs : List Loc) (ls : Array Slot), K70 j0_70 j1_70 = some q → va_P (dC, dI) vwCl [(h0, .inr (0, [.ref h0_roads])), (h0_roads, .inr (3, [.ref h0_roads_metres, .ref h0_roads_skills])), (h0_roads_metres, .inl (cI, 21, .inl q7.2.1)), (h0_roads_skills, .inl (cI, 21, .inl q7.2.2)), (h1, .inr (5, [.ref h1_had, .ref h1_there, .ref h1_corner, .ref h1_second, .ref h1_third, .int a1_seed, .int a1_size, .int a1_parts])), (h1_had, .inl (cZ, 62, .inl a1_had)), (h1_there, .inl (cZ, 62, .inl q6)), (h1_corner, .inl (cI, 62, .inl a1_corner)), (h1_second, .inl (cI, 62, .inl a1_second)), (h1_third, .inl (cI, 62, .inl a1_third))] H → va_D A [(h0, .inr (0, [.ref h0_roads])), (h0_roads, .inr (3, [.ref h0_roads_metres, .ref h0_roads_skills])), (h0_roads_metres, .inl (cI, 21, .inl q7.2.1)), (h0_roads_skills, .inl (cI, 21, .inl q7.2.2)), (h1, .inr (5, [.ref h1_had, .ref h1_there, .ref h1_corner, .ref h1_second, .ref h1_third, .int a1_seed, .int a1_size, .int a1_parts])), (h1_had, .inl (cZ, 62, .inl a1_had)), (h1_there, .inl (cZ, 62, .inl q6)), (h1_corner, .inl (cI, 62, .inl a1_corner)), (h1_second, .inl (cI, 62, .inl a1_second)), (h1_third, .inl (cI, 62, .inl a1_third))] → va_S A s.heap H locs → lv_has ls 8 [(0, .ref h0), (1, .ref h1), (2, .int p2), (3, .int x3_26), (4, .int x4_26), (5, .int x5_8), (6, .int x6_26), (7, .int q7.1)] → W p l e (headSpec wsX0_leaveOutWhile ({ frames := 5, cells := 0, slots := 0, locals := 115 })).room s m [.ref h0, .ref h1, .int p2].toArray below meth c H locs 0 0 (MQ below (va_Qi (fun (r : Int32) (_ : Unit) => r = q.1) (fun _ t => va_P (dC, dI) vwCl [(h0, .inr (0, [.ref h0_roads])), (h0_roads, .inr (3, [.ref h0_roads_metres, .ref h0_roads_skills])), (h0_roads_metres, .inl (cI, 21, .inl q.2.1)), (h0_roads_skills, .inl (cI, 21, .inl q.2.2.1)), (h1, .inr (5, [.ref h1_had, .ref h1_there, .ref h1_corner, .ref h1_second, .ref h1_third, .int a1_seed, .int a1_size, .int a1_parts])), (h1_had, .inl (cZ, 62, .inl a1_had)), (h1_there, .inl (cZ, 62, .inl q.2.2.2)), (h1_corner, .inl (cI, 62, .inl a1_corner)), (h1_second, .inl (cI, 62, .inl a1_second)), (h1_third, .inl (cI, 62, .inl a1_third))] t.heap ∧ va_D A [(h0, .inr (0, [.ref h0_roads])), (h0_roads, .inr (3, [.ref h0_roads_metres, .ref h0_roads_skills])), (h0_roads_metres, .inl (cI, 21, .inl q.2.1)), (h0_roads_skills, .inl (cI, 21, .inl q.2.2.1)), (h1, .inr (5, [.ref h1_had, .ref h1_there, .ref h1_corner, .ref h1_second, .ref h1_third, .int a1_seed, .int a1_size, .int a1_parts])), (h1_had, .inl (cZ, 62, .inl a1_had)), (h1_there, .inl (cZ, 62, .inl q.2.2.2)), (h1_corner, .inl (cI, 62, .inl a1_corner)), (h1_second, .inl (cI, 62, .inl a1_second)), (h1_third, .inl (cI, 62, .inl a1_third))]) A) [.ref h0, .ref h1, .int p2].toArray s 0 0 A) (F0 m 70 ls [.int j0_70, .int j1_70, .ref h1]) := by
                    intro j0_70 j1_70 H locs ls hm hP hD hS hl
                    replace hm := mt_app2 hK70 hm
                    obtain ⟨q8, hq8, hm⟩ := mt_bind hm
                    refine mt_callv (wr := [(h0, .inr (0, [.ref h0_roads])), (h0_roads, .inr (3, [.ref h0_roads_metres, .ref h0_roads_skills])), (h0_roads_metres, .inl (cI, 21, .inl q7.2.1)), (h0_roads_skills, .inl (cI, 21, .inl q7.2.2))]) hP hD hS hA [4, 5, 6, 7, 8, 9] [0, 1, 2, 3] rfl rfl (by decide) (by decide) (va_runV (As := [.int j1_70, .int j0_70]) (rest := []) ⟨hx, hb, hml, hown, hts⟩ (c_X5_setThere l dC dI cZ cI cL h1 h1_had h1_there h1_corner h1_second h1_third H.size j1_70 j0_70 a1_seed a1_size a1_parts a1_had q6 a1_corner a1_second a1_third q8 hq8) (cwV 2 hts gX0_leaveOutWhile_X5_setThere rfl rfl rfl (by decide +kernel) ⟨Nat.le_of_ble_eq_true rfl, Nat.le_of_ble_eq_true rfl⟩) (mt_vS (q := (RX5, TX5, 8)) 5 hC (hP.sub (ws' := [(h1, .inr (5, [.ref h1_had, .ref h1_there, .ref h1_corner, .ref h1_second, .ref h1_third, .int a1_seed, .int a1_size, .int a1_parts])), (h1_had, .inl (cZ, 62, .inl a1_had)), (h1_there, .inl (cZ, 62, .inl q6)), (h1_corner, .inl (cI, 62, .inl a1_corner)), (h1_second, .inl (cI, 62, .inl a1_second)), (h1_third, .inl (cI, 62, .inl a1_third))]) [4, 5, 6, 7, 8, 9] rfl) (hD.sub (ws' := [(h1, .inr (5, [.ref h1_had, .ref h1_there, .ref h1_corner, .ref h1_second, .ref h1_third, .int a1_seed, .int a1_size, .int a1_parts])), (h1_had, .inl (cZ, 62, .inl a1_had)), (h1_there, .inl (cZ, 62, .inl q6)), (h1_corner, .inl (cI, 62, .inl a1_corner)), (h1_second, .inl (cI, 62, .inl a1_second)), (h1_third, .inl (cI, 62, .inl a1_third))]) [4, 5, 6, 7, 8, 9] (by decide) rfl) rfl rfl) rfl rfl hl.1 rfl (lv_room (Nat.le_of_ble_eq_true rfl)) dX0_leaveOutWhile_70 ⟨Nat.le_of_ble_eq_true rfl, Nat.le_of_ble_eq_true rfl⟩) (fun H locs hP hD hS => ?_)
                    have hP : va_P (dC, dI) vwCl [(h0, .inr (0, [.ref h0_roads])), (h0_roads, .inr (3, [.ref h0_roads_metres, .ref h0_roads_skills])), (h0_roads_metres, .inl (cI, 21, .inl q7.2.1)), (h0_roads_skills, .inl (cI, 21, .inl q7.2.2)), (h1, .inr (5, [.ref h1_had, .ref h1_there, .ref h1_corner, .ref h1_second, .ref h1_third, .int a1_seed, .int a1_size, .int a1_parts])), (h1_had, .inl (cZ, 62, .inl a1_had)), (h1_there, .inl (cZ, 62, .inl q8)), (h1_corner, .inl (cI, 62, .inl a1_corner)), (h1_second, .inl (cI, 62, .inl a1_second)), (h1_third, .inl (cI, 62, .inl a1_third))] H := hP.sub [0, 1, 2, 3, 4, 5, 6, 7, 8, 9] rfl
                    have hD : va_D A [(h0, .inr (0, [.ref h0_roads])), (h0_roads, .inr (3, [.ref h0_roads_metres, .ref h0_roads_skills])), (h0_roads_metres, .inl (cI, 21, .inl q7.2.1)), (h0_roads_skills, .inl (cI, 21, .inl q7.2.2)), (h1, .inr (5, [.ref h1_had, .ref h1_there, .ref h1_corner, .ref h1_second, .ref h1_third, .int a1_seed, .int a1_size, .int a1_parts])), (h1_had, .inl (cZ, 62, .inl a1_had)), (h1_there, .inl (cZ, 62, .inl q8)), (h1_corner, .inl (cI, 62, .inl a1_corner)), (h1_second, .inl (cI, 62, .inl a1_second)), (h1_third, .inl (cI, 62, .inl a1_third))] := hD.sub [0, 1, 2, 3, 4, 5, 6, 7, 8, 9] (by decide) rfl
                    refine lv_iload_n hx hb dX0_leaveOutWhile_73 rfl (lv_at hl 3 rfl) ?_
                    refine lv_iload hx hb dX0_leaveOutWhile_74 (lv_at hl 7 rfl) ?_
                    obtain ⟨K84, hK84, hm⟩ := mt_jx hm
                    have J84 : ∀ (j0_84 : Int32) (j1_84 : Int32), ∀ (H : Heap) (locs : List Loc) (ls : Array Slot), K84 j0_84 j1_84 = some q → va_P (dC, dI) vwCl [(h0, .inr (0, [.ref h0_roads])), (h0_roads, .inr (3, [.ref h0_roads_metres, .ref h0_roads_skills])), (h0_roads_metres, .inl (cI, 21, .inl q7.2.1)), (h0_roads_skills, .inl (cI, 21, .inl q7.2.2)), (h1, .inr (5, [.ref h1_had, .ref h1_there, .ref h1_corner, .ref h1_second, .ref h1_third, .int a1_seed, .int a1_size, .int a1_parts])), (h1_had, .inl (cZ, 62, .inl a1_had)), (h1_there, .inl (cZ, 62, .inl q8)), (h1_corner, .inl (cI, 62, .inl a1_corner)), (h1_second, .inl (cI, 62, .inl a1_second)), (h1_third, .inl (cI, 62, .inl a1_third))] H → va_D A [(h0, .inr (0, [.ref h0_roads])), (h0_roads, .inr (3, [.ref h0_roads_metres, .ref h0_roads_skills])), (h0_roads_metres, .inl (cI, 21, .inl q7.2.1)), (h0_roads_skills, .inl (cI, 21, .inl q7.2.2)), (h1, .inr (5, [.ref h1_had, .ref h1_there, .ref h1_corner, .ref h1_second, .ref h1_third, .int a1_seed, .int a1_size, .int a1_parts])), (h1_had, .inl (cZ, 62, .inl a1_had)), (h1_there, .inl (cZ, 62, .inl q8)), (h1_corner, .inl (cI, 62, .inl a1_corner)), (h1_second, .inl (cI, 62, .inl a1_second)), (h1_third, .inl (cI, 62, .inl a1_third))] → va_S A s.heap H locs → lv_has ls 8 [(0, .ref h0), (1, .ref h1), (2, .int p2), (3, .int x3_26), (4, .int x4_26), (5, .int x5_8), (6, .int x6_26), (7, .int q7.1)] → W p l e (headSpec wsX0_leaveOutWhile ({ frames := 5, cells := 0, slots := 0, locals := 115 })).room s m [.ref h0, .ref h1, .int p2].toArray below meth c H locs 0 0 (MQ below (va_Qi (fun (r : Int32) (_ : Unit) => r = q.1) (fun _ t => va_P (dC, dI) vwCl [(h0, .inr (0, [.ref h0_roads])), (h0_roads, .inr (3, [.ref h0_roads_metres, .ref h0_roads_skills])), (h0_roads_metres, .inl (cI, 21, .inl q.2.1)), (h0_roads_skills, .inl (cI, 21, .inl q.2.2.1)), (h1, .inr (5, [.ref h1_had, .ref h1_there, .ref h1_corner, .ref h1_second, .ref h1_third, .int a1_seed, .int a1_size, .int a1_parts])), (h1_had, .inl (cZ, 62, .inl a1_had)), (h1_there, .inl (cZ, 62, .inl q.2.2.2)), (h1_corner, .inl (cI, 62, .inl a1_corner)), (h1_second, .inl (cI, 62, .inl a1_second)), (h1_third, .inl (cI, 62, .inl a1_third))] t.heap ∧ va_D A [(h0, .inr (0, [.ref h0_roads])), (h0_roads, .inr (3, [.ref h0_roads_metres, .ref h0_roads_skills])), (h0_roads_metres, .inl (cI, 21, .inl q.2.1)), (h0_roads_skills, .inl (cI, 21, .inl q.2.2.1)), (h1, .inr (5, [.ref h1_had, .ref h1_there, .ref h1_corner, .ref h1_second, .ref h1_third, .int a1_seed, .int a1_size, .int a1_parts])), (h1_had, .inl (cZ, 62, .inl a1_had)), (h1_there, .inl (cZ, 62, .inl q.2.2.2)), (h1_corner, .inl (cI, 62, .inl a1_corner)), (h1_second, .inl (cI, 62, .inl a1_second)), (h1_third, .inl (cI, 62, .inl a1_third))]) A) [.ref h0, .ref h1, .int p2].toArray s 0 0 A) (F0 m 84 ls [.int j0_84, .int j1_84]) := by
                      intro j0_84 j1_84 H locs ls hm hP hD hS hl
                      replace hm := mt_app2 hK84 hm
                      refine lv_iadd hx hb dX0_leaveOutWhile_84 ?_
                      refine lv_istore_n (lv' := [(3, .int (j1_84 + j0_84)), (0, .ref h0), (1, .ref h1), (2, .int p2), (4, .int x4_26), (5, .int x5_8), (6, .int x6_26), (7, .int q7.1)]) hx hb dX0_leaveOutWhile_85 rfl hl (by decide) rfl (fun ls hl => ?_)
                      refine lv_iload hx hb dX0_leaveOutWhile_86 (lv_at hl 4 rfl) ?_
                      refine lv_if_ne (tgt := 96) hx hb dX0_leaveOutWhile_88 (by decide) (fun c9 => ?_) (fun c9 => ?_)
                      · replace hm := mt_neg c9 hm
                        refine lv_iconst (v := (1 : Int32)) hx hb dX0_leaveOutWhile_96 (by decide) ?_
                        refine lv_goto (tgt := 101) hx hb dX0_leaveOutWhile_97 (by decide) ?_
                        refine lv_istore (lv' := [(4, .int (1 : Int32)), (3, .int (j1_84 + j0_84)), (0, .ref h0), (1, .ref h1), (2, .int p2), (5, .int x5_8), (6, .int x6_26), (7, .int q7.1)]) hx hb dX0_leaveOutWhile_101 hl (by decide) rfl (fun ls hl => ?_)
                        refine lv_iinc (v := (x6_26 + (1 : Int32))) (lv' := [(6, .int (x6_26 + (1 : Int32))), (4, .int (1 : Int32)), (3, .int (j1_84 + j0_84)), (0, .ref h0), (1, .ref h1), (2, .int p2), (5, .int x5_8), (7, .int q7.1)]) hx hb dX0_leaveOutWhile_103 hl (k := 6) rfl rfl (by decide) rfl (fun ls hl => ?_)
                        refine lv_goto (tgt := 26) hx hb dX0_leaveOutWhile_106 (by decide) ?_
                        exact ih26 (j1_84 + j0_84) (1 : Int32) (x6_26 + (1 : Int32)) q7.2.1 q7.2.2 q8 _ _ _ hm hP hD hS (lv_sub hl [3, 4, 5, 2, 1, 6, 0] rfl)
                      · replace hm := mt_pos c9 hm
                        refine lv_iload hx hb dX0_leaveOutWhile_91 (lv_at hl 7 rfl) ?_
                        refine lv_if_eq (tgt := 100) hx hb dX0_leaveOutWhile_93 (by decide) (fun c10 => ?_) (fun c10 => ?_)
                        · replace hm := mt_pos c10 hm
                          refine lv_iconst (v := (0 : Int32)) hx hb dX0_leaveOutWhile_100 (by decide) ?_
                          refine lv_istore (lv' := [(4, .int (0 : Int32)), (3, .int (j1_84 + j0_84)), (0, .ref h0), (1, .ref h1), (2, .int p2), (5, .int x5_8), (6, .int x6_26), (7, .int q7.1)]) hx hb dX0_leaveOutWhile_101 hl (by decide) rfl (fun ls hl => ?_)
                          refine lv_iinc (v := (x6_26 + (1 : Int32))) (lv' := [(6, .int (x6_26 + (1 : Int32))), (4, .int (0 : Int32)), (3, .int (j1_84 + j0_84)), (0, .ref h0), (1, .ref h1), (2, .int p2), (5, .int x5_8), (7, .int q7.1)]) hx hb dX0_leaveOutWhile_103 hl (k := 6) rfl rfl (by decide) rfl (fun ls hl => ?_)
                          refine lv_goto (tgt := 26) hx hb dX0_leaveOutWhile_106 (by decide) ?_
                          exact ih26 (j1_84 + j0_84) (0 : Int32) (x6_26 + (1 : Int32)) q7.2.1 q7.2.2 q8 _ _ _ hm hP hD hS (lv_sub hl [3, 4, 5, 2, 1, 6, 0] rfl)
                        · replace hm := mt_neg c10 hm
                          refine lv_iconst (v := (1 : Int32)) hx hb dX0_leaveOutWhile_96 (by decide) ?_
                          refine lv_goto (tgt := 101) hx hb dX0_leaveOutWhile_97 (by decide) ?_
                          refine lv_istore (lv' := [(4, .int (1 : Int32)), (3, .int (j1_84 + j0_84)), (0, .ref h0), (1, .ref h1), (2, .int p2), (5, .int x5_8), (6, .int x6_26), (7, .int q7.1)]) hx hb dX0_leaveOutWhile_101 hl (by decide) rfl (fun ls hl => ?_)
                          refine lv_iinc (v := (x6_26 + (1 : Int32))) (lv' := [(6, .int (x6_26 + (1 : Int32))), (4, .int (1 : Int32)), (3, .int (j1_84 + j0_84)), (0, .ref h0), (1, .ref h1), (2, .int p2), (5, .int x5_8), (7, .int q7.1)]) hx hb dX0_leaveOutWhile_103 hl (k := 6) rfl rfl (by decide) rfl (fun ls hl => ?_)
                          refine lv_goto (tgt := 26) hx hb dX0_leaveOutWhile_106 (by decide) ?_
                          exact ih26 (j1_84 + j0_84) (1 : Int32) (x6_26 + (1 : Int32)) q7.2.1 q7.2.2 q8 _ _ _ hm hP hD hS (lv_sub hl [3, 4, 5, 2, 1, 6, 0] rfl)
                    refine lv_if_eq (tgt := 83) hx hb dX0_leaveOutWhile_76 (by decide) (fun c11 => ?_) (fun c11 => ?_)
                    · replace hm := mt_pos c11 hm
                      refine lv_iconst (v := (0 : Int32)) hx hb dX0_leaveOutWhile_83 (by decide) ?_
                      exact J84 (0 : Int32) x3_26 _ _ _ hm hP hD hS (lv_sub hl [0, 1, 2, 3, 4, 5, 6, 7] rfl)
                    · replace hm := mt_neg c11 hm
                      refine lv_iconst (v := (1 : Int32)) hx hb dX0_leaveOutWhile_79 (by decide) ?_
                      refine lv_goto (tgt := 84) hx hb dX0_leaveOutWhile_80 (by decide) ?_
                      exact J84 (1 : Int32) x3_26 _ _ _ hm hP hD hS (lv_sub hl [0, 1, 2, 3, 4, 5, 6, 7] rfl)
                  refine lv_if_ne (tgt := 69) hx hb dX0_leaveOutWhile_62 (by decide) (fun c12 => ?_) (fun c12 => ?_)
                  · replace hm := mt_neg c12 hm
                    refine lv_iconst (v := (0 : Int32)) hx hb dX0_leaveOutWhile_69 (by decide) ?_
                    exact J70 (0 : Int32) x6_26 _ _ _ hm hP hD hS (lv_sub hl [1, 2, 3, 4, 5, 6, 7, 0] rfl)
                  · replace hm := mt_pos c12 hm
                    refine lv_iconst (v := (1 : Int32)) hx hb dX0_leaveOutWhile_65 (by decide) ?_
                    refine lv_goto (tgt := 70) hx hb dX0_leaveOutWhile_66 (by decide) ?_
                    exact J70 (1 : Int32) x6_26 _ _ _ hm hP hD hS (lv_sub hl [1, 2, 3, 4, 5, 6, 7, 0] rfl)
          exact L26 fu x3_8 (0 : Int32) (0 : Int32) v_roads_metres_8 v_roads_skills_8 a1_there_8 _ _ _ hm hP hD hS (lv_sub hl [2, 3, 4, 5, 1, 6, 0] rfl)
  exact L8 fu (0 : Int32) (1 : Int32) (0 : Int32) v_roads_metres v_roads_skills a1_there _ _ _ hm hP hD hS (lv_sub hl [3, 4, 5, 2, 1, 0] rfl)
