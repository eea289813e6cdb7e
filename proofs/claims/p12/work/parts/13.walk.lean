def m_X0_metresBetween (fu : Nat) (p2 : Int32) (p3 : Int32) (v_roads_metres : Nat → Int32) (a1_there : Nat → Int32) (a1_corner : Nat → Int32) (a1_second : Nat → Int32) (a1_third : Nat → Int32) : Option (Int32 × (Nat → Int32)) := (m_X5_isThere p2 a1_there).bind fun q1 => if q1 = 0 then some (((-1) : Int32), v_roads_metres) else (m_X5_isThere p3 a1_there).bind fun q3 => if q3 = 0 then some (((-1) : Int32), v_roads_metres) else (m_X5_cornerOf p2 a1_corner).bind fun q5 => (m_X3_measureFrom fu q5 v_roads_metres a1_there a1_corner a1_second a1_third).bind fun q6 => (m_X5_cornerOf p3 a1_corner).bind fun q7 => (m_X3_metresTo q7 q6).bind fun q8 => some (q8, q6)
set_option maxHeartbeats 4000000 in
set_option maxRecDepth 100000 in
theorem c_X0_metresBetween (l : Launch) (dC : Nat → ClassId) (dI : Nat → Nat → Nat) (cZ cI cL : ClassId) (h0 h0_roads h0_roads_metres h0_roads_skills h1 h1_had h1_there h1_corner h1_second h1_third : Nat) (sz : Nat) (p2 : Int32) (p3 : Int32) (v_roads_metres : Nat → Int32) (v_roads_skills : Nat → Int32) (a1_seed : Int32) (a1_size : Int32) (a1_parts : Int32) (a1_had : Nat → Int32) (a1_there : Nat → Int32) (a1_corner : Nat → Int32) (a1_second : Nat → Int32) (a1_third : Nat → Int32) (fu : Nat) (q : Int32 × (Nat → Int32)) (hm : m_X0_metresBetween fu p2 p3 v_roads_metres a1_there a1_corner a1_second a1_third = some q) : Met l yX0_metresBetween wsX0_metresBetween ({ frames := 3, cells := 0, slots := 0, locals := 70 }) (va_Pc [.ref h0, .ref h1, .int p2, .int p3] (mt_S (dC, dI) cZ cI cL sz [(h0, .inr (0, [.ref h0_roads])), (h0_roads, .inr (3, [.ref h0_roads_metres, .ref h0_roads_skills])), (h0_roads_metres, .inl (cI, 21, .inl v_roads_metres)), (h0_roads_skills, .inl (cI, 21, .inl v_roads_skills)), (h1, .inr (5, [.ref h1_had, .ref h1_there, .ref h1_corner, .ref h1_second, .ref h1_third, .int a1_seed, .int a1_size, .int a1_parts])), (h1_had, .inl (cZ, 62, .inl a1_had)), (h1_there, .inl (cZ, 62, .inl a1_there)), (h1_corner, .inl (cI, 62, .inl a1_corner)), (h1_second, .inl (cI, 62, .inl a1_second)), (h1_third, .inl (cI, 62, .inl a1_third))])) (va_Qi (fun (r : Int32) (_ : Unit) => r = q.1) (fun _ t => va_P (dC, dI) vwCl [(h0, .inr (0, [.ref h0_roads])), (h0_roads, .inr (3, [.ref h0_roads_metres, .ref h0_roads_skills])), (h0_roads_metres, .inl (cI, 21, .inl q.2)), (h0_roads_skills, .inl (cI, 21, .inl v_roads_skills)), (h1, .inr (5, [.ref h1_had, .ref h1_there, .ref h1_corner, .ref h1_second, .ref h1_third, .int a1_seed, .int a1_size, .int a1_parts])), (h1_had, .inl (cZ, 62, .inl a1_had)), (h1_there, .inl (cZ, 62, .inl a1_there)), (h1_corner, .inl (cI, 62, .inl a1_corner)), (h1_second, .inl (cI, 62, .inl a1_second)), (h1_third, .inl (cI, 62, .inl a1_third))] t.heap ∧ va_D (va_A [(h0, .inr (0, [.ref h0_roads])), (h0_roads, .inr (3, [.ref h0_roads_metres, .ref h0_roads_skills])), (h0_roads_metres, .inl (cI, 21, .inl v_roads_metres)), (h0_roads_skills, .inl (cI, 21, .inl v_roads_skills)), (h1, .inr (5, [.ref h1_had, .ref h1_there, .ref h1_corner, .ref h1_second, .ref h1_third, .int a1_seed, .int a1_size, .int a1_parts])), (h1_had, .inl (cZ, 62, .inl a1_had)), (h1_there, .inl (cZ, 62, .inl a1_there)), (h1_corner, .inl (cI, 62, .inl a1_corner)), (h1_second, .inl (cI, 62, .inl a1_second)), (h1_third, .inl (cI, 62, .inl a1_third))] sz) [(h0, .inr (0, [.ref h0_roads])), (h0_roads, .inr (3, [.ref h0_roads_metres, .ref h0_roads_skills])), (h0_roads_metres, .inl (cI, 21, .inl q.2)), (h0_roads_skills, .inl (cI, 21, .inl v_roads_skills)), (h1, .inr (5, [.ref h1_had, .ref h1_there, .ref h1_corner, .ref h1_second, .ref h1_third, .int a1_seed, .int a1_size, .int a1_parts])), (h1_had, .inl (cZ, 62, .inl a1_had)), (h1_there, .inl (cZ, 62, .inl a1_there)), (h1_corner, .inl (cI, 62, .inl a1_corner)), (h1_second, .inl (cI, 62, .inl a1_second)), (h1_third, .inl (cI, 62, .inl a1_third))]) (va_A [(h0, .inr (0, [.ref h0_roads])), (h0_roads, .inr (3, [.ref h0_roads_metres, .ref h0_roads_skills])), (h0_roads_metres, .inl (cI, 21, .inl v_roads_metres)), (h0_roads_skills, .inl (cI, 21, .inl v_roads_skills)), (h1, .inr (5, [.ref h1_had, .ref h1_there, .ref h1_corner, .ref h1_second, .ref h1_third, .int a1_seed, .int a1_size, .int a1_parts])), (h1_had, .inl (cZ, 62, .inl a1_had)), (h1_there, .inl (cZ, 62, .inl a1_there)), (h1_corner, .inl (cI, 62, .inl a1_corner)), (h1_second, .inl (cI, 62, .inl a1_second)), (h1_third, .inl (cI, 62, .inl a1_third))] sz)) 0 0 (va_A [(h0, .inr (0, [.ref h0_roads])), (h0_roads, .inr (3, [.ref h0_roads_metres, .ref h0_roads_skills])), (h0_roads_metres, .inl (cI, 21, .inl v_roads_metres)), (h0_roads_skills, .inl (cI, 21, .inl v_roads_skills)), (h1, .inr (5, [.ref h1_had, .ref h1_there, .ref h1_corner, .ref h1_second, .ref h1_third, .int a1_seed, .int a1_size, .int a1_parts])), (h1_had, .inl (cZ, 62, .inl a1_had)), (h1_there, .inl (cZ, 62, .inl a1_there)), (h1_corner, .inl (cI, 62, .inl a1_corner)), (h1_second, .inl (cI, 62, .inl a1_second)), (h1_third, .inl (cI, 62, .inl a1_third))] sz) := by
  refine Met.ofW (cc := cX0_metresBetween) (maxL := 4) (ret := (some .int)) (by decide) rfl ?_
  intro p e s m args below meth c s₁ B hml hv
  obtain ⟨rfl, hsz, hP, hC, hD0⟩ := hv
  have hx := B.exec
  have hb := B.bytes
  have hr := B.returns
  have hts := atoms_spec (ws := wsX0_metresBetween) B.pre
  have hown : s.vm.findClass RX0 = some m.cls := findClass_of_methodNamed B.named
  have hlocks := B.notSynchronized
  have hK := hC.1
  have hiX0 : ∀ w ∈ wsX00, w ∈ wsX0_metresBetween := by decide +kernel
  subst hsz
  have hD := hD0.self (sz := s.heap.size)
  generalize hAe : va_A [(h0, .inr (0, [.ref h0_roads])), (h0_roads, .inr (3, [.ref h0_roads_metres, .ref h0_roads_skills])), (h0_roads_metres, .inl (cI, 21, .inl v_roads_metres)), (h0_roads_skills, .inl (cI, 21, .inl v_roads_skills)), (h1, .inr (5, [.ref h1_had, .ref h1_there, .ref h1_corner, .ref h1_second, .ref h1_third, .int a1_seed, .int a1_size, .int a1_parts])), (h1_had, .inl (cZ, 62, .inl a1_had)), (h1_there, .inl (cZ, 62, .inl a1_there)), (h1_corner, .inl (cI, 62, .inl a1_corner)), (h1_second, .inl (cI, 62, .inl a1_second)), (h1_third, .inl (cI, 62, .inl a1_third))] s.heap.size = A at hD ⊢
  have hA : ∀ q : Nat, s.heap.size ≤ q → A q := fun q h => by rw [← hAe]; exact Or.inr h
  have hS : va_S A s.heap s.heap [] := va_S.rf
  have hl := lv_entry [.ref h0, .ref h1, .int p2, .int p3] (n := 4) (Nat.le_of_ble_eq_true rfl)
  rw [lg_entry_eq]
  generalize (lg_sl [.ref h0, .ref h1, .int p2, .int p3] ++ List.replicate (4 - (lg_sl [.ref h0, .ref h1, .int p2, .int p3]).length) Slot.unset).toArray = ls at hl ⊢
  have hl : lv_has ls 4 [(0, .ref h0), (1, .ref h1), (2, .int p2), (3, .int p3)] := hl
  rw [m_X0_metresBetween] at hm
  refine lv_aload_n hx hb dX0_metresBetween_0 rfl (lv_at hl 1 rfl) ?_
  refine lv_iload_n hx hb dX0_metresBetween_1 rfl (lv_at hl 2 rfl) ?_
  obtain ⟨q1, hq1, hm⟩ := mt_bind hm
  refine vp_callSi (va_Run.run (va_runV (As := [.int p2]) (rest := []) ⟨hx, hb, hml, hown, hts⟩ (c_X5_isThere l dC dI cZ cI cL h1 h1_had h1_there h1_corner h1_second h1_third p2 a1_seed a1_size a1_parts a1_had a1_there a1_corner a1_second a1_third q1 hq1) (cwV 1 hts gX0_metresBetween_X5_isThere rfl rfl rfl (by decide +kernel) ⟨Nat.le_of_ble_eq_true rfl, Nat.le_of_ble_eq_true rfl⟩) (mt_vR (q := (RX5, TX5, 8)) 5 hC (hP.sub (ws' := [(h1, .inr (5, [.ref h1_had, .ref h1_there, .ref h1_corner, .ref h1_second, .ref h1_third, .int a1_seed, .int a1_size, .int a1_parts])), (h1_had, .inl (cZ, 62, .inl a1_had)), (h1_there, .inl (cZ, 62, .inl a1_there)), (h1_corner, .inl (cI, 62, .inl a1_corner)), (h1_second, .inl (cI, 62, .inl a1_second)), (h1_third, .inl (cI, 62, .inl a1_third))]) [4, 5, 6, 7, 8, 9] rfl) rfl rfl) rfl rfl hl.1 rfl (lv_room (Nat.le_of_ble_eq_true rfl)) dX0_metresBetween_2 ⟨Nat.le_of_ble_eq_true rfl, Nat.le_of_ble_eq_true rfl⟩)) (fun r er => ?_)
  replace er := er.symm
  subst er
  refine lv_if_eq (tgt := 16) hx hb dX0_metresBetween_5 (by decide) (fun c2 => ?_) (fun c2 => ?_)
  · replace hm := mt_pos c2 hm
    refine lv_iconst (v := ((-1) : Int32)) hx hb dX0_metresBetween_16 (by decide) ?_
    obtain rfl := Option.some.inj hm
    exact W.iret hx hb hr (fun t ht hW => ⟨⟨_, (), rfl, rfl, by rw [ht]; exact hP, hD⟩, hS.F ht⟩) hS.2.2 dX0_metresBetween_17
  · replace hm := mt_neg c2 hm
    refine lv_aload_n hx hb dX0_metresBetween_8 rfl (lv_at hl 1 rfl) ?_
    refine lv_iload_n hx hb dX0_metresBetween_9 rfl (lv_at hl 3 rfl) ?_
    obtain ⟨q3, hq3, hm⟩ := mt_bind hm
    refine vp_callSi (va_Run.run (va_runV (As := [.int p3]) (rest := []) ⟨hx, hb, hml, hown, hts⟩ (c_X5_isThere l dC dI cZ cI cL h1 h1_had h1_there h1_corner h1_second h1_third p3 a1_seed a1_size a1_parts a1_had a1_there a1_corner a1_second a1_third q3 hq3) (cwV 1 hts gX0_metresBetween_X5_isThere rfl rfl rfl (by decide +kernel) ⟨Nat.le_of_ble_eq_true rfl, Nat.le_of_ble_eq_true rfl⟩) (mt_vR (q := (RX5, TX5, 8)) 5 hC (hP.sub (ws' := [(h1, .inr (5, [.ref h1_had, .ref h1_there, .ref h1_corner, .ref h1_second, .ref h1_third, .int a1_seed, .int a1_size, .int a1_parts])), (h1_had, .inl (cZ, 62, .inl a1_had)), (h1_there, .inl (cZ, 62, .inl a1_there)), (h1_corner, .inl (cI, 62, .inl a1_corner)), (h1_second, .inl (cI, 62, .inl a1_second)), (h1_third, .inl (cI, 62, .inl a1_third))]) [4, 5, 6, 7, 8, 9] rfl) rfl rfl) rfl rfl hl.1 rfl (lv_room (Nat.le_of_ble_eq_true rfl)) dX0_metresBetween_10 ⟨Nat.le_of_ble_eq_true rfl, Nat.le_of_ble_eq_true rfl⟩)) (fun r er => ?_)
    replace er := er.symm
    subst er
    refine lv_if_ne (tgt := 18) hx hb dX0_metresBetween_13 (by decide) (fun c4 => ?_) (fun c4 => ?_)
    · replace hm := mt_neg c4 hm
      refine lv_aload_n hx hb dX0_metresBetween_18 rfl (lv_at hl 0 rfl) ?_
      refine va_get (D := (dC, dI)) (ci := 0) (v := .ref h0_roads) (C := RX0) (T := TX0) (N := 1) hx hb hts hiX0 hown hK hP 0 rfl rfl 0 (by decide) (hts (.fieldLink RX0 12 "ServiceDrawer$Judge" "roads" "LServiceDrawer$Roads;") (by decide +kernel)) (fun _ h9 => h9) rfl dX0_metresBetween_19 ?_
      refine lv_aload_n hx hb dX0_metresBetween_22 rfl (lv_at hl 1 rfl) ?_
      refine lv_aload_n hx hb dX0_metresBetween_23 rfl (lv_at hl 1 rfl) ?_
      refine lv_iload_n hx hb dX0_metresBetween_24 rfl (lv_at hl 2 rfl) ?_
      obtain ⟨q5, hq5, hm⟩ := mt_bind hm
      refine vp_callSi (va_Run.run (va_runV (As := [.int p2]) (rest := [.ref h1, .ref h0_roads]) ⟨hx, hb, hml, hown, hts⟩ (c_X5_cornerOf l dC dI cZ cI cL h1 h1_had h1_there h1_corner h1_second h1_third p2 a1_seed a1_size a1_parts a1_had a1_there a1_corner a1_second a1_third q5 hq5) (cwV 1 hts gX0_metresBetween_X5_cornerOf rfl rfl rfl (by decide +kernel) ⟨Nat.le_of_ble_eq_true rfl, Nat.le_of_ble_eq_true rfl⟩) (mt_vR (q := (RX5, TX5, 8)) 5 hC (hP.sub (ws' := [(h1, .inr (5, [.ref h1_had, .ref h1_there, .ref h1_corner, .ref h1_second, .ref h1_third, .int a1_seed, .int a1_size, .int a1_parts])), (h1_had, .inl (cZ, 62, .inl a1_had)), (h1_there, .inl (cZ, 62, .inl a1_there)), (h1_corner, .inl (cI, 62, .inl a1_corner)), (h1_second, .inl (cI, 62, .inl a1_second)), (h1_third, .inl (cI, 62, .inl a1_third))]) [4, 5, 6, 7, 8, 9] rfl) rfl rfl) rfl rfl hl.1 rfl (lv_room (Nat.le_of_ble_eq_true rfl)) dX0_metresBetween_25 ⟨Nat.le_of_ble_eq_true rfl, Nat.le_of_ble_eq_true rfl⟩)) (fun r er => ?_)
      replace er := er.symm
      subst er
      obtain ⟨q6, hq6, hm⟩ := mt_bind hm
      refine mt_callv (wr := [(h0, .inr (0, [.ref h0_roads]))]) hP hD hS hA [1, 2, 3, 4, 5, 6, 7, 8, 9] [0] rfl rfl (by decide) (by decide) (va_runV (As := [.ref h1, .int q5]) (rest := []) ⟨hx, hb, hml, hown, hts⟩ (c_X3_measureFrom l dC dI cZ cI cL h0_roads h0_roads_metres h0_roads_skills h1 h1_had h1_there h1_corner h1_second h1_third s.heap.size q5 v_roads_metres v_roads_skills a1_seed a1_size a1_parts a1_had a1_there a1_corner a1_second a1_third fu q6 hq6) (cwV 2 hts gX0_metresBetween_X3_measureFrom rfl rfl rfl (by decide +kernel) ⟨Nat.le_of_ble_eq_true rfl, Nat.le_of_ble_eq_true rfl⟩) (mt_vS (q := (RX3, TX3, 2)) 3 hC (hP.sub (ws' := [(h0_roads, .inr (3, [.ref h0_roads_metres, .ref h0_roads_skills])), (h0_roads_metres, .inl (cI, 21, .inl v_roads_metres)), (h0_roads_skills, .inl (cI, 21, .inl v_roads_skills)), (h1, .inr (5, [.ref h1_had, .ref h1_there, .ref h1_corner, .ref h1_second, .ref h1_third, .int a1_seed, .int a1_size, .int a1_parts])), (h1_had, .inl (cZ, 62, .inl a1_had)), (h1_there, .inl (cZ, 62, .inl a1_there)), (h1_corner, .inl (cI, 62, .inl a1_corner)), (h1_second, .inl (cI, 62, .inl a1_second)), (h1_third, .inl (cI, 62, .inl a1_third))]) [1, 2, 3, 4, 5, 6, 7, 8, 9] rfl) (hD.sub (ws' := [(h0_roads, .inr (3, [.ref h0_roads_metres, .ref h0_roads_skills])), (h0_roads_metres, .inl (cI, 21, .inl v_roads_metres)), (h0_roads_skills, .inl (cI, 21, .inl v_roads_skills)), (h1, .inr (5, [.ref h1_had, .ref h1_there, .ref h1_corner, .ref h1_second, .ref h1_third, .int a1_seed, .int a1_size, .int a1_parts])), (h1_had, .inl (cZ, 62, .inl a1_had)), (h1_there, .inl (cZ, 62, .inl a1_there)), (h1_corner, .inl (cI, 62, .inl a1_corner)), (h1_second, .inl (cI, 62, .inl a1_second)), (h1_third, .inl (cI, 62, .inl a1_third))]) [1, 2, 3, 4, 5, 6, 7, 8, 9] (by decide) rfl) rfl rfl) rfl rfl hl.1 rfl (lv_room (Nat.le_of_ble_eq_true rfl)) dX0_metresBetween_28 ⟨Nat.le_of_ble_eq_true rfl, Nat.le_of_ble_eq_true rfl⟩) (fun H locs hP hD hS => ?_)
      have hP : va_P (dC, dI) vwCl [(h0, .inr (0, [.ref h0_roads])), (h0_roads, .inr (3, [.ref h0_roads_metres, .ref h0_roads_skills])), (h0_roads_metres, .inl (cI, 21, .inl q6)), (h0_roads_skills, .inl (cI, 21, .inl v_roads_skills)), (h1, .inr (5, [.ref h1_had, .ref h1_there, .ref h1_corner, .ref h1_second, .ref h1_third, .int a1_seed, .int a1_size, .int a1_parts])), (h1_had, .inl (cZ, 62, .inl a1_had)), (h1_there, .inl (cZ, 62, .inl a1_there)), (h1_corner, .inl (cI, 62, .inl a1_corner)), (h1_second, .inl (cI, 62, .inl a1_second)), (h1_third, .inl (cI, 62, .inl a1_third))] H := hP.sub [0, 1, 2, 3, 4, 5, 6, 7, 8, 9] rfl
      have hD : va_D A [(h0, .inr (0, [.ref h0_roads])), (h0_roads, .inr (3, [.ref h0_roads_metres, .ref h0_roads_skills])), (h0_roads_metres, .inl (cI, 21, .inl q6)), (h0_roads_skills, .inl (cI, 21, .inl v_roads_skills)), (h1, .inr (5, [.ref h1_had, .ref h1_there, .ref h1_corner, .ref h1_second, .ref h1_third, .int a1_seed, .int a1_size, .int a1_parts])), (h1_had, .inl (cZ, 62, .inl a1_had)), (h1_there, .inl (cZ, 62, .inl a1_there)), (h1_corner, .inl (cI, 62, .inl a1_corner)), (h1_second, .inl (cI, 62, .inl a1_second)), (h1_third, .inl (cI, 62, .inl a1_third))] := hD.sub [0, 1, 2, 3, 4, 5, 6, 7, 8, 9] (by decide) rfl
      refine lv_aload_n hx hb dX0_metresBetween_31 rfl (lv_at hl 0 rfl) ?_
      refine va_get (D := (dC, dI)) (ci := 0) (v := .ref h0_roads) (C := RX0) (T := TX0) (N := 1) hx hb hts hiX0 hown hK hP 0 rfl rfl 0 (by decide) (hts (.fieldLink RX0 12 "ServiceDrawer$Judge" "roads" "LServiceDrawer$Roads;") (by decide +kernel)) (fun _ h9 => h9) rfl dX0_metresBetween_32 ?_
      refine lv_aload_n hx hb dX0_metresBetween_35 rfl (lv_at hl 1 rfl) ?_
      refine lv_iload_n hx hb dX0_metresBetween_36 rfl (lv_at hl 3 rfl) ?_
      obtain ⟨q7, hq7, hm⟩ := mt_bind hm
      refine vp_callSi (va_Run.run (va_runV (As := [.int p3]) (rest := [.ref h0_roads]) ⟨hx, hb, hml, hown, hts⟩ (c_X5_cornerOf l dC dI cZ cI cL h1 h1_had h1_there h1_corner h1_second h1_third p3 a1_seed a1_size a1_parts a1_had a1_there a1_corner a1_second a1_third q7 hq7) (cwV 1 hts gX0_metresBetween_X5_cornerOf rfl rfl rfl (by decide +kernel) ⟨Nat.le_of_ble_eq_true rfl, Nat.le_of_ble_eq_true rfl⟩) (mt_vR (q := (RX5, TX5, 8)) 5 hC (hP.sub (ws' := [(h1, .inr (5, [.ref h1_had, .ref h1_there, .ref h1_corner, .ref h1_second, .ref h1_third, .int a1_seed, .int a1_size, .int a1_parts])), (h1_had, .inl (cZ, 62, .inl a1_had)), (h1_there, .inl (cZ, 62, .inl a1_there)), (h1_corner, .inl (cI, 62, .inl a1_corner)), (h1_second, .inl (cI, 62, .inl a1_second)), (h1_third, .inl (cI, 62, .inl a1_third))]) [4, 5, 6, 7, 8, 9] rfl) rfl rfl) rfl rfl hl.1 rfl (lv_room (Nat.le_of_ble_eq_true rfl)) dX0_metresBetween_37 ⟨Nat.le_of_ble_eq_true rfl, Nat.le_of_ble_eq_true rfl⟩)) (fun r er => ?_)
      replace er := er.symm
      subst er
      obtain ⟨q8, hq8, hm⟩ := mt_bind hm
      refine vp_callSi (va_Run.run (va_runV (As := [.int q7]) (rest := []) ⟨hx, hb, hml, hown, hts⟩ (c_X3_metresTo l dC dI cZ cI cL h0_roads h0_roads_metres h0_roads_skills q7 q6 v_roads_skills q8 hq8) (cwV 1 hts gX0_metresBetween_X3_metresTo rfl rfl rfl (by decide +kernel) ⟨Nat.le_of_ble_eq_true rfl, Nat.le_of_ble_eq_true rfl⟩) (mt_vR (q := (RX3, TX3, 2)) 3 hC (hP.sub (ws' := [(h0_roads, .inr (3, [.ref h0_roads_metres, .ref h0_roads_skills])), (h0_roads_metres, .inl (cI, 21, .inl q6)), (h0_roads_skills, .inl (cI, 21, .inl v_roads_skills))]) [1, 2, 3] rfl) rfl rfl) rfl rfl hl.1 rfl (lv_room (Nat.le_of_ble_eq_true rfl)) dX0_metresBetween_40 ⟨Nat.le_of_ble_eq_true rfl, Nat.le_of_ble_eq_true rfl⟩)) (fun r er => ?_)
      replace er := er.symm
      subst er
      obtain rfl := Option.some.inj hm
      exact W.iret hx hb hr (fun t ht hW => ⟨⟨_, (), rfl, rfl, by rw [ht]; exact hP, hD⟩, hS.F ht⟩) hS.2.2 dX0_metresBetween_43
    · replace hm := mt_pos c4 hm
      refine lv_iconst (v := ((-1) : Int32)) hx hb dX0_metresBetween_16 (by decide) ?_
      obtain rfl := Option.some.inj hm
      exact W.iret hx hb hr (fun t ht hW => ⟨⟨_, (), rfl, rfl, by rw [ht]; exact hP, hD⟩, hS.F ht⟩) hS.2.2 dX0_metresBetween_17
def m_X0_hasEarlierOfMinute_L3 (p1 : Int32) (a0_there : Nat → Int32) (a0_third : Nat → Int32) (K37 : Int32 → Option (Int32)) : Nat → Int32 → Option (Int32)
  | 0, _ => none
  | n3 + 1, x2_3 => if p1 ≤ x2_3 then K37 x2_3 else (m_X5_isThere x2_3 a0_there).bind fun q2 => if q2 = 0 then m_X0_hasEarlierOfMinute_L3 p1 a0_there a0_third K37 n3 (x2_3 + (1 : Int32)) else (m_X5_thirdOf x2_3 a0_third).bind fun q4 => (m_X5_thirdOf p1 a0_third).bind fun q5 => if q4 = q5 then some (1 : Int32) else m_X0_hasEarlierOfMinute_L3 p1 a0_there a0_third K37 n3 (x2_3 + (1 : Int32))
def m_X0_hasEarlierOfMinute (fu : Nat) (p1 : Int32) (a0_there : Nat → Int32) (a0_third : Nat → Int32) : Option (Int32) := mt_j (fun (x2_37 : Int32) => some (0 : Int32)) fun K37 => m_X0_hasEarlierOfMinute_L3 p1 a0_there a0_third K37 fu (41 : Int32)
set_option maxHeartbeats 4000000 in
set_option maxRecDepth 100000 in
theorem c_X0_hasEarlierOfMinute (l : Launch) (dC : Nat → ClassId) (dI : Nat → Nat → Nat) (cZ cI cL : ClassId) (h0 h0_had h0_there h0_corner h0_second h0_third : Nat) (p1 : Int32) (a0_seed : Int32) (a0_size : Int32) (a0_parts : Int32) (a0_had : Nat → Int32) (a0_there : Nat → Int32) (a0_corner : Nat → Int32) (a0_second : Nat → Int32) (a0_third : Nat → Int32) (fu : Nat) (q : Int32) (hm : m_X0_hasEarlierOfMinute fu p1 a0_there a0_third = some q) : Met l yX0_hasEarlierOfMinute wsX0_hasEarlierOfMinute ({ frames := 2, cells := 0, slots := 0, locals := 41 }) (va_Pc [.ref h0, .int p1] (mt_R (dC, dI) cZ cI cL [(h0, .inr (5, [.ref h0_had, .ref h0_there, .ref h0_corner, .ref h0_second, .ref h0_third, .int a0_seed, .int a0_size, .int a0_parts])), (h0_had, .inl (cZ, 62, .inl a0_had)), (h0_there, .inl (cZ, 62, .inl a0_there)), (h0_corner, .inl (cI, 62, .inl a0_corner)), (h0_second, .inl (cI, 62, .inl a0_second)), (h0_third, .inl (cI, 62, .inl a0_third))])) (vp_Si (fun r => r = q)) 0 0 (fun _ => False) := by
  refine Met.ofW (cc := cX0_hasEarlierOfMinute) (maxL := 3) (ret := (some .boolean)) (by decide) rfl ?_
  intro p e s m args below meth c s₁ B hml hv
  obtain ⟨rfl, hP, hC⟩ := hv
  have hx := B.exec
  have hb := B.bytes
  have hr := B.returns
  have hts := atoms_spec (ws := wsX0_hasEarlierOfMinute) B.pre
  have hown : s.vm.findClass RX0 = some m.cls := findClass_of_methodNamed B.named
  have hlocks := B.notSynchronized
  have hK := hC.1
  have hl := lv_entry [.ref h0, .int p1] (n := 3) (Nat.le_of_ble_eq_true rfl)
  rw [lg_entry_eq]
  generalize (lg_sl [.ref h0, .int p1] ++ List.replicate (3 - (lg_sl [.ref h0, .int p1]).length) Slot.unset).toArray = ls at hl ⊢
  have hl : lv_has ls 3 [(0, .ref h0), (1, .int p1)] := hl
  rw [m_X0_hasEarlierOfMinute] at hm
  refine lv_bipush (v := (41 : Int32)) hx hb dX0_hasEarlierOfMinute_0 (by decide) ?_
  refine lv_istore_n (lv' := [(2, .int (41 : Int32)), (0, .ref h0), (1, .int p1)]) hx hb dX0_hasEarlierOfMinute_2 rfl hl (by decide) rfl (fun ls hl => ?_)
  obtain ⟨K37, hK37, hm⟩ := mt_jx hm
  have J37 : ∀ (x2_37 : Int32), ∀ (ls : Array Slot), K37 x2_37 = some q → lv_has ls 3 [(0, .ref h0), (1, .int p1), (2, .int x2_37)] → W p l e (headSpec wsX0_hasEarlierOfMinute ({ frames := 2, cells := 0, slots := 0, locals := 41 })).room s m [.ref h0, .int p1].toArray below meth c s.heap [] 0 0 (MQ below (vp_Si (fun r => r = q)) [.ref h0, .int p1].toArray s 0 0 (fun _ => False)) (F0 m 37 ls []) := by
    intro x2_37 ls hm hl
    replace hm := mt_app1 hK37 hm
    refine lv_iconst (v := (0 : Int32)) hx hb dX0_hasEarlierOfMinute_37 (by decide) ?_
    obtain rfl := Option.some.inj hm
    exact W.zret hx hb hr mt_z0 (fun t ht hW => ⟨_, rfl, rfl, ht⟩) t_nil dX0_hasEarlierOfMinute_38
  have L3 : ∀ n3 : Nat, ∀ (x2_3 : Int32), ∀ (ls : Array Slot), m_X0_hasEarlierOfMinute_L3 p1 a0_there a0_third K37 n3 x2_3 = some q → lv_has ls 3 [(0, .ref h0), (1, .int p1), (2, .int x2_3)] → W p l e (headSpec wsX0_hasEarlierOfMinute ({ frames := 2, cells := 0, slots := 0, locals := 41 })).room s m [.ref h0, .int p1].toArray below meth c s.heap [] 0 0 (MQ below (vp_Si (fun r => r = q)) [.ref h0, .int p1].toArray s 0 0 (fun _ => False)) (F0 m 3 ls []) := by
    intro n3
    induction n3 with
    | zero =>
      intro x2_3 ls hm hl
      exact absurd hm (fun h => nomatch h)
    | succ n3 ih3 =>
      intro x2_3 ls hm hl
      rw [m_X0_hasEarlierOfMinute_L3] at hm
      refine lv_iload_n hx hb dX0_hasEarlierOfMinute_3 rfl (lv_at hl 2 rfl) ?_
      refine lv_iload_n hx hb dX0_hasEarlierOfMinute_4 rfl (lv_at hl 1 rfl) ?_
      refine lv_icmp_ge (tgt := 37) hx hb dX0_hasEarlierOfMinute_5 (by decide) (fun c1 => ?_) (fun c1 => ?_)
      · replace hm := mt_pos c1 hm
        exact J37 x2_3 _ hm (lv_sub hl [0, 1, 2] rfl)
      · replace hm := mt_neg c1 hm
        refine lv_aload_n hx hb dX0_hasEarlierOfMinute_8 rfl (lv_at hl 0 rfl) ?_
        refine lv_iload_n hx hb dX0_hasEarlierOfMinute_9 rfl (lv_at hl 2 rfl) ?_
        obtain ⟨q2, hq2, hm⟩ := mt_bind hm
        refine vp_callSi (va_Run.run (va_runV (As := [.int x2_3]) (rest := []) ⟨hx, hb, hml, hown, hts⟩ (c_X5_isThere l dC dI cZ cI cL h0 h0_had h0_there h0_corner h0_second h0_third x2_3 a0_seed a0_size a0_parts a0_had a0_there a0_corner a0_second a0_third q2 hq2) (cwV 1 hts gX0_hasEarlierOfMinute_X5_isThere rfl rfl rfl (by decide +kernel) ⟨Nat.le_of_ble_eq_true rfl, Nat.le_of_ble_eq_true rfl⟩) (mt_vR (q := (RX5, TX5, 8)) 5 hC (hP.sub (ws' := [(h0, .inr (5, [.ref h0_had, .ref h0_there, .ref h0_corner, .ref h0_second, .ref h0_third, .int a0_seed, .int a0_size, .int a0_parts])), (h0_had, .inl (cZ, 62, .inl a0_had)), (h0_there, .inl (cZ, 62, .inl a0_there)), (h0_corner, .inl (cI, 62, .inl a0_corner)), (h0_second, .inl (cI, 62, .inl a0_second)), (h0_third, .inl (cI, 62, .inl a0_third))]) [0, 1, 2, 3, 4, 5] rfl) rfl rfl) rfl rfl hl.1 rfl (lv_room (Nat.le_of_ble_eq_true rfl)) dX0_hasEarlierOfMinute_10 ⟨Nat.le_of_ble_eq_true rfl, Nat.le_of_ble_eq_true rfl⟩)) (fun r er => ?_)
        replace er := er.symm
        subst er
        refine lv_if_eq (tgt := 31) hx hb dX0_hasEarlierOfMinute_13 (by decide) (fun c3 => ?_) (fun c3 => ?_)
        · replace hm := mt_pos c3 hm
          refine lv_iinc (v := (x2_3 + (1 : Int32))) (lv' := [(2, .int (x2_3 + (1 : Int32))), (0, .ref h0), (1, .int p1)]) hx hb dX0_hasEarlierOfMinute_31 hl (k := 2) rfl rfl (by decide) rfl (fun ls hl => ?_)
          refine lv_goto (tgt := 3) hx hb dX0_hasEarlierOfMinute_34 (by decide) ?_
          exact ih3 (x2_3 + (1 : Int32)) _ hm (lv_sub hl [1, 2, 0] rfl)
        · replace hm := mt_neg c3 hm
          refine lv_aload_n hx hb dX0_hasEarlierOfMinute_16 rfl (lv_at hl 0 rfl) ?_
          refine lv_iload_n hx hb dX0_hasEarlierOfMinute_17 rfl (lv_at hl 2 rfl) ?_
          obtain ⟨q4, hq4, hm⟩ := mt_bind hm
          refine vp_callSi (va_Run.run (va_runV (As := [.int x2_3]) (rest := []) ⟨hx, hb, hml, hown, hts⟩ (c_X5_thirdOf l dC dI cZ cI cL h0 h0_had h0_there h0_corner h0_second h0_third x2_3 a0_seed a0_size a0_parts a0_had a0_there a0_corner a0_second a0_third q4 hq4) (cwV 1 hts gX0_hasEarlierOfMinute_X5_thirdOf rfl rfl rfl (by decide +kernel) ⟨Nat.le_of_ble_eq_true rfl, Nat.le_of_ble_eq_true rfl⟩) (mt_vR (q := (RX5, TX5, 8)) 5 hC (hP.sub (ws' := [(h0, .inr (5, [.ref h0_had, .ref h0_there, .ref h0_corner, .ref h0_second, .ref h0_third, .int a0_seed, .int a0_size, .int a0_parts])), (h0_had, .inl (cZ, 62, .inl a0_had)), (h0_there, .inl (cZ, 62, .inl a0_there)), (h0_corner, .inl (cI, 62, .inl a0_corner)), (h0_second, .inl (cI, 62, .inl a0_second)), (h0_third, .inl (cI, 62, .inl a0_third))]) [0, 1, 2, 3, 4, 5] rfl) rfl rfl) rfl rfl hl.1 rfl (lv_room (Nat.le_of_ble_eq_true rfl)) dX0_hasEarlierOfMinute_18 ⟨Nat.le_of_ble_eq_true rfl, Nat.le_of_ble_eq_true rfl⟩)) (fun r er => ?_)
          replace er := er.symm
          subst er
          refine lv_aload_n hx hb dX0_hasEarlierOfMinute_21 rfl (lv_at hl 0 rfl) ?_
          refine lv_iload_n hx hb dX0_hasEarlierOfMinute_22 rfl (lv_at hl 1 rfl) ?_
          obtain ⟨q5, hq5, hm⟩ := mt_bind hm
          refine vp_callSi (va_Run.run (va_runV (As := [.int p1]) (rest := [.int q4]) ⟨hx, hb, hml, hown, hts⟩ (c_X5_thirdOf l dC dI cZ cI cL h0 h0_had h0_there h0_corner h0_second h0_third p1 a0_seed a0_size a0_parts a0_had a0_there a0_corner a0_second a0_third q5 hq5) (cwV 1 hts gX0_hasEarlierOfMinute_X5_thirdOf rfl rfl rfl (by decide +kernel) ⟨Nat.le_of_ble_eq_true rfl, Nat.le_of_ble_eq_true rfl⟩) (mt_vR (q := (RX5, TX5, 8)) 5 hC (hP.sub (ws' := [(h0, .inr (5, [.ref h0_had, .ref h0_there, .ref h0_corner, .ref h0_second, .ref h0_third, .int a0_seed, .int a0_size, .int a0_parts])), (h0_had, .inl (cZ, 62, .inl a0_had)), (h0_there, .inl (cZ, 62, .inl a0_there)), (h0_corner, .inl (cI, 62, .inl a0_corner)), (h0_second, .inl (cI, 62, .inl a0_second)), (h0_third, .inl (cI, 62, .inl a0_third))]) [0, 1, 2, 3, 4, 5] rfl) rfl rfl) rfl rfl hl.1 rfl (lv_room (Nat.le_of_ble_eq_true rfl)) dX0_hasEarlierOfMinute_23 ⟨Nat.le_of_ble_eq_true rfl, Nat.le_of_ble_eq_true rfl⟩)) (fun r er => ?_)
          replace er := er.symm
          subst er
          refine lv_icmp_ne (tgt := 31) hx hb dX0_hasEarlierOfMinute_26 (by decide) (fun c6 => ?_) (fun c6 => ?_)
          · replace hm := mt_neg c6 hm
            refine lv_iinc (v := (x2_3 + (1 : Int32))) (lv' := [(2, .int (x2_3 + (1 : Int32))), (0, .ref h0), (1, .int p1)]) hx hb dX0_hasEarlierOfMinute_31 hl (k := 2) rfl rfl (by decide) rfl (fun ls hl => ?_)
            refine lv_goto (tgt := 3) hx hb dX0_hasEarlierOfMinute_34 (by decide) ?_
            exact ih3 (x2_3 + (1 : Int32)) _ hm (lv_sub hl [1, 2, 0] rfl)
          · replace hm := mt_pos c6 hm
            refine lv_iconst (v := (1 : Int32)) hx hb dX0_hasEarlierOfMinute_29 (by decide) ?_
            obtain rfl := Option.some.inj hm
            exact W.zret hx hb hr mt_z1 (fun t ht hW => ⟨_, rfl, rfl, ht⟩) t_nil dX0_hasEarlierOfMinute_30
  exact L3 fu (41 : Int32) _ hm (lv_sub hl [1, 2, 0] rfl)
def m_X0_bursts_L5 (fu : Nat) (a1_there : Nat → Int32) (a1_third : Nat → Int32) (K36 : Int32 → Int32 → Option (Int32)) : Nat → Int32 → Int32 → Option (Int32)
  | 0, _, _ => none
  | n5 + 1, x2_5, x3_5 => if (62 : Int32) ≤ x3_5 then K36 x2_5 x3_5 else (m_X5_isThere x3_5 a1_there).bind fun q2 => if q2 = 0 then m_X0_bursts_L5 fu a1_there a1_third K36 n5 x2_5 (x3_5 + (1 : Int32)) else (m_X0_hasEarlierOfMinute fu x3_5 a1_there a1_third).bind fun q4 => if q4 = 0 then m_X0_bursts_L5 fu a1_there a1_third K36 n5 x2_5 (x3_5 + (1 : Int32)) else m_X0_bursts_L5 fu a1_there a1_third K36 n5 (x2_5 + (1 : Int32)) (x3_5 + (1 : Int32))
def m_X0_bursts (fu : Nat) (a1_there : Nat → Int32) (a1_third : Nat → Int32) : Option (Int32) := mt_j (fun (x2_36 : Int32) (x3_36 : Int32) => some x2_36) fun K36 => m_X0_bursts_L5 fu a1_there a1_third K36 fu (0 : Int32) (41 : Int32)
set_option maxHeartbeats 4000000 in
set_option maxRecDepth 100000 in
theorem c_X0_bursts (l : Launch) (dC : Nat → ClassId) (dI : Nat → Nat → Nat) (cZ cI cL : ClassId) (h0 h0_roads h0_roads_metres h0_roads_skills h1 h1_had h1_there h1_corner h1_second h1_third : Nat) (v_roads_metres : Nat → Int32) (v_roads_skills : Nat → Int32) (a1_seed : Int32) (a1_size : Int32) (a1_parts : Int32) (a1_had : Nat → Int32) (a1_there : Nat → Int32) (a1_corner : Nat → Int32) (a1_second : Nat → Int32) (a1_third : Nat → Int32) (fu : Nat) (q : Int32) (hm : m_X0_bursts fu a1_there a1_third = some q) : Met l yX0_bursts wsX0_bursts ({ frames := 3, cells := 0, slots := 0, locals := 63 }) (va_Pc [.ref h0, .ref h1] (mt_R (dC, dI) cZ cI cL [(h0, .inr (0, [.ref h0_roads])), (h0_roads, .inr (3, [.ref h0_roads_metres, .ref h0_roads_skills])), (h0_roads_metres, .inl (cI, 21, .inl v_roads_metres)), (h0_roads_skills, .inl (cI, 21, .inl v_roads_skills)), (h1, .inr (5, [.ref h1_had, .ref h1_there, .ref h1_corner, .ref h1_second, .ref h1_third, .int a1_seed, .int a1_size, .int a1_parts])), (h1_had, .inl (cZ, 62, .inl a1_had)), (h1_there, .inl (cZ, 62, .inl a1_there)), (h1_corner, .inl (cI, 62, .inl a1_corner)), (h1_second, .inl (cI, 62, .inl a1_second)), (h1_third, .inl (cI, 62, .inl a1_third))])) (vp_Si (fun r => r = q)) 0 0 (fun _ => False) := by
  refine Met.ofW (cc := cX0_bursts) (maxL := 4) (ret := (some .int)) (by decide) rfl ?_
  intro p e s m args below meth c s₁ B hml hv
  obtain ⟨rfl, hP, hC⟩ := hv
  have hx := B.exec
  have hb := B.bytes
  have hr := B.returns
  have hts := atoms_spec (ws := wsX0_bursts) B.pre
  have hown : s.vm.findClass RX0 = some m.cls := findClass_of_methodNamed B.named
  have hlocks := B.notSynchronized
  have hK := hC.1
  have hl := lv_entry [.ref h0, .ref h1] (n := 4) (Nat.le_of_ble_eq_true rfl)
  rw [lg_entry_eq]
  generalize (lg_sl [.ref h0, .ref h1] ++ List.replicate (4 - (lg_sl [.ref h0, .ref h1]).length) Slot.unset).toArray = ls at hl ⊢
  have hl : lv_has ls 4 [(0, .ref h0), (1, .ref h1)] := hl
  rw [m_X0_bursts] at hm
  refine lv_iconst (v := (0 : Int32)) hx hb dX0_bursts_0 (by decide) ?_
  refine lv_istore_n (lv' := [(2, .int (0 : Int32)), (0, .ref h0), (1, .ref h1)]) hx hb dX0_bursts_1 rfl hl (by decide) rfl (fun ls hl => ?_)
  refine lv_bipush (v := (41 : Int32)) hx hb dX0_bursts_2 (by decide) ?_
  refine lv_istore_n (lv' := [(3, .int (41 : Int32)), (2, .int (0 : Int32)), (0, .ref h0), (1, .ref h1)]) hx hb dX0_bursts_4 rfl hl (by decide) rfl (fun ls hl => ?_)
  obtain ⟨K36, hK36, hm⟩ := mt_jx hm
  have J36 : ∀ (x2_36 : Int32) (x3_36 : Int32), ∀ (ls : Array Slot), K36 x2_36 x3_36 = some q → lv_has ls 4 [(0, .ref h0), (1, .ref h1), (2, .int x2_36), (3, .int x3_36)] → W p l e (headSpec wsX0_bursts ({ frames := 3, cells := 0, slots := 0, locals := 63 })).room s m [.ref h0, .ref h1].toArray below meth c s.heap [] 0 0 (MQ below (vp_Si (fun r => r = q)) [.ref h0, .ref h1].toArray s 0 0 (fun _ => False)) (F0 m 36 ls []) := by
    intro x2_36 x3_36 ls hm hl
    replace hm := mt_app2 hK36 hm
    refine lv_iload_n hx hb dX0_bursts_36 rfl (lv_at hl 2 rfl) ?_
    obtain rfl := Option.some.inj hm
    exact W.iret hx hb hr (fun t ht hW => ⟨_, rfl, rfl, ht⟩) t_nil dX0_bursts_37
  have L5 : ∀ n5 : Nat, ∀ (x2_5 : Int32) (x3_5 : Int32), ∀ (ls : Array Slot), m_X0_bursts_L5 fu a1_there a1_third K36 n5 x2_5 x3_5 = some q → lv_has ls 4 [(0, .ref h0), (1, .ref h1), (2, .int x2_5), (3, .int x3_5)] → W p l e (headSpec wsX0_bursts ({ frames := 3, cells := 0, slots := 0, locals := 63 })).room s m [.ref h0, .ref h1].toArray below meth c s.heap [] 0 0 (MQ below (vp_Si (fun r => r = q)) [.ref h0, .ref h1].toArray s 0 0 (fun _ => False)) (F0 m 5 ls []) := by
    intro n5
    induction n5 with
    | zero =>
      intro x2_5 x3_5 ls hm hl
      exact absurd hm (fun h => nomatch h)
    | succ n5 ih5 =>
      intro x2_5 x3_5 ls hm hl
      rw [m_X0_bursts_L5] at hm
      refine lv_iload_n hx hb dX0_bursts_5 rfl (lv_at hl 3 rfl) ?_
      refine lv_bipush (v := (62 : Int32)) hx hb dX0_bursts_6 (by decide) ?_
      refine lv_icmp_ge (tgt := 36) hx hb dX0_bursts_8 (by decide) (fun c1 => ?_) (fun c1 => ?_)
      · replace hm := mt_pos c1 hm
        exact J36 x2_5 x3_5 _ hm (lv_sub hl [0, 1, 2, 3] rfl)
      · replace hm := mt_neg c1 hm
        refine lv_aload_n hx hb dX0_bursts_11 rfl (lv_at hl 1 rfl) ?_
        refine lv_iload_n hx hb dX0_bursts_12 rfl (lv_at hl 3 rfl) ?_
        obtain ⟨q2, hq2, hm⟩ := mt_bind hm
        refine vp_callSi (va_Run.run (va_runV (As := [.int x3_5]) (rest := []) ⟨hx, hb, hml, hown, hts⟩ (c_X5_isThere l dC dI cZ cI cL h1 h1_had h1_there h1_corner h1_second h1_third x3_5 a1_seed a1_size a1_parts a1_had a1_there a1_corner a1_second a1_third q2 hq2) (cwV 1 hts gX0_bursts_X5_isThere rfl rfl rfl (by decide +kernel) ⟨Nat.le_of_ble_eq_true rfl, Nat.le_of_ble_eq_true rfl⟩) (mt_vR (q := (RX5, TX5, 8)) 5 hC (hP.sub (ws' := [(h1, .inr (5, [.ref h1_had, .ref h1_there, .ref h1_corner, .ref h1_second, .ref h1_third, .int a1_seed, .int a1_size, .int a1_parts])), (h1_had, .inl (cZ, 62, .inl a1_had)), (h1_there, .inl (cZ, 62, .inl a1_there)), (h1_corner, .inl (cI, 62, .inl a1_corner)), (h1_second, .inl (cI, 62, .inl a1_second)), (h1_third, .inl (cI, 62, .inl a1_third))]) [4, 5, 6, 7, 8, 9] rfl) rfl rfl) rfl rfl hl.1 rfl (lv_room (Nat.le_of_ble_eq_true rfl)) dX0_bursts_13 ⟨Nat.le_of_ble_eq_true rfl, Nat.le_of_ble_eq_true rfl⟩)) (fun r er => ?_)
        replace er := er.symm
        subst er
        refine lv_if_eq (tgt := 30) hx hb dX0_bursts_16 (by decide) (fun c3 => ?_) (fun c3 => ?_)
        · replace hm := mt_pos c3 hm
          refine lv_iinc (v := (x3_5 + (1 : Int32))) (lv' := [(3, .int (x3_5 + (1 : Int32))), (0, .ref h0), (1, .ref h1), (2, .int x2_5)]) hx hb dX0_bursts_30 hl (k := 3) rfl rfl (by decide) rfl (fun ls hl => ?_)
          refine lv_goto (tgt := 5) hx hb dX0_bursts_33 (by decide) ?_
          exact ih5 x2_5 (x3_5 + (1 : Int32)) _ hm (lv_sub hl [1, 2, 3, 0] rfl)
        · replace hm := mt_neg c3 hm
          refine lv_aload_n hx hb dX0_bursts_19 rfl (lv_at hl 1 rfl) ?_
          refine lv_iload_n hx hb dX0_bursts_20 rfl (lv_at hl 3 rfl) ?_
          obtain ⟨q4, hq4, hm⟩ := mt_bind hm
          refine vp_callSi (va_Run.run (va_runS (As := [.ref h1, .int x3_5]) (rest := []) ⟨hx, hb, hml, hown, hts⟩ (c_X0_hasEarlierOfMinute l dC dI cZ cI cL h1 h1_had h1_there h1_corner h1_second h1_third x3_5 a1_seed a1_size a1_parts a1_had a1_there a1_corner a1_second a1_third fu q4 hq4) (va_cwS 2 hts gX0_bursts_X0_hasEarlierOfMinute rfl rfl rfl (by decide +kernel) ⟨Nat.le_of_ble_eq_true rfl, Nat.le_of_ble_eq_true rfl⟩) (mt_pR hC (hP.sub (ws' := [(h1, .inr (5, [.ref h1_had, .ref h1_there, .ref h1_corner, .ref h1_second, .ref h1_third, .int a1_seed, .int a1_size, .int a1_parts])), (h1_had, .inl (cZ, 62, .inl a1_had)), (h1_there, .inl (cZ, 62, .inl a1_there)), (h1_corner, .inl (cI, 62, .inl a1_corner)), (h1_second, .inl (cI, 62, .inl a1_second)), (h1_third, .inl (cI, 62, .inl a1_third))]) [4, 5, 6, 7, 8, 9] rfl)) rfl rfl hl.1 rfl (lv_room (Nat.le_of_ble_eq_true rfl)) dX0_bursts_21 ⟨Nat.le_of_ble_eq_true rfl, Nat.le_of_ble_eq_true rfl⟩)) (fun r er => ?_)
          replace er := er.symm
          subst er
          refine lv_if_eq (tgt := 30) hx hb dX0_bursts_24 (by decide) (fun c5 => ?_) (fun c5 => ?_)
          · replace hm := mt_pos c5 hm
            refine lv_iinc (v := (x3_5 + (1 : Int32))) (lv' := [(3, .int (x3_5 + (1 : Int32))), (0, .ref h0), (1, .ref h1), (2, .int x2_5)]) hx hb dX0_bursts_30 hl (k := 3) rfl rfl (by decide) rfl (fun ls hl => ?_)
            refine lv_goto (tgt := 5) hx hb dX0_bursts_33 (by decide) ?_
            exact ih5 x2_5 (x3_5 + (1 : Int32)) _ hm (lv_sub hl [1, 2, 3, 0] rfl)
          · replace hm := mt_neg c5 hm
            refine lv_iinc (v := (x2_5 + (1 : Int32))) (lv' := [(2, .int (x2_5 + (1 : Int32))), (0, .ref h0), (1, .ref h1), (3, .int x3_5)]) hx hb dX0_bursts_27 hl (k := 2) rfl rfl (by decide) rfl (fun ls hl => ?_)
            refine lv_iinc (v := (x3_5 + (1 : Int32))) (lv' := [(3, .int (x3_5 + (1 : Int32))), (2, .int (x2_5 + (1 : Int32))), (0, .ref h0), (1, .ref h1)]) hx hb dX0_bursts_30 hl (k := 3) rfl rfl (by decide) rfl (fun ls hl => ?_)
            refine lv_goto (tgt := 5) hx hb dX0_bursts_33 (by decide) ?_
            exact ih5 (x2_5 + (1 : Int32)) (x3_5 + (1 : Int32)) _ hm (lv_sub hl [2, 3, 1, 0] rfl)
  exact L5 fu (0 : Int32) (41 : Int32) _ hm (lv_sub hl [2, 3, 1, 0] rfl)
def m_X4_clear  : Option (Int32) := some (0 : Int32)
set_option maxHeartbeats 4000000 in
set_option maxRecDepth 100000 in
theorem c_X4_clear (l : Launch) (dC : Nat → ClassId) (dI : Nat → Nat → Nat) (cZ cI cL : ClassId) (h0 h0_bytes : Nat) (sz : Nat) (v_length : Int32) (v_bytes : Nat → Int32) (q : Int32) (hm : m_X4_clear = some q) : Met l yX4_clear wsX4_clear ({ frames := 0, cells := 0, slots := 0, locals := 0 }) (va_Pc [.ref h0] (mt_S (dC, dI) cZ cI cL sz [(h0, .inr (4, [.ref h0_bytes, .int v_length])), (h0_bytes, .inl (cI, 600, .inl v_bytes))])) (va_Qv (fun (_ : Unit) => True) (fun _ t => va_P (dC, dI) vwCl [(h0, .inr (4, [.ref h0_bytes, .int q])), (h0_bytes, .inl (cI, 600, .inl v_bytes))] t.heap ∧ va_D (va_A [(h0, .inr (4, [.ref h0_bytes, .int v_length])), (h0_bytes, .inl (cI, 600, .inl v_bytes))] sz) [(h0, .inr (4, [.ref h0_bytes, .int q])), (h0_bytes, .inl (cI, 600, .inl v_bytes))]) (va_A [(h0, .inr (4, [.ref h0_bytes, .int v_length])), (h0_bytes, .inl (cI, 600, .inl v_bytes))] sz)) 0 0 (va_A [(h0, .inr (4, [.ref h0_bytes, .int v_length])), (h0_bytes, .inl (cI, 600, .inl v_bytes))] sz) := by
  refine Met.ofW (cc := cX4_clear) (maxL := 1) (ret := none) (by decide) rfl ?_
  intro p e s m args below meth c s₁ B hml hv
  obtain ⟨rfl, hsz, hP, hC, hD0⟩ := hv
  have hx := B.exec
  have hb := B.bytes
  have hr := B.returns
  have hts := atoms_spec (ws := wsX4_clear) B.pre
  have hown : s.vm.findClass RX4 = some m.cls := findClass_of_methodNamed B.named
  have hlocks := B.notSynchronized
  have hK := hC.1
  have hiX4 : ∀ w ∈ wsX40, w ∈ wsX4_clear := by decide +kernel
  subst hsz
  have hD := hD0.self (sz := s.heap.size)
  generalize hAe : va_A [(h0, .inr (4, [.ref h0_bytes, .int v_length])), (h0_bytes, .inl (cI, 600, .inl v_bytes))] s.heap.size = A at hD ⊢
  have hA : ∀ q : Nat, s.heap.size ≤ q → A q := fun q h => by rw [← hAe]; exact Or.inr h
  have hS : va_S A s.heap s.heap [] := va_S.rf
  have hl := lv_entry [.ref h0] (n := 1) (Nat.le_of_ble_eq_true rfl)
  rw [lg_entry_eq]
  generalize (lg_sl [.ref h0] ++ List.replicate (1 - (lg_sl [.ref h0]).length) Slot.unset).toArray = ls at hl ⊢
  have hl : lv_has ls 1 [(0, .ref h0)] := hl
  rw [m_X4_clear] at hm
  refine lv_aload_n hx hb dX4_clear_0 rfl (lv_at hl 0 rfl) ?_
  refine lv_iconst (v := (0 : Int32)) hx hb dX4_clear_1 (by decide) ?_
  refine va_put (D := (dC, dI)) (ci := 4) (v := .int (0 : Int32)) (ty := .int) (C := RX4) (T := TX4) (N := 2) hx hb hts hiX4 tyX4 tyX4_ok nmX4 hown hK hP hD hS 0 rfl rfl 1 (by decide) (hts (.fieldLink RX4 15 "ServiceDrawer$Text" "length" "I") (by decide +kernel)) (fun _ h9 => h9) rfl (by decide +kernel) rfl rfl (Nat.le_of_ble_eq_true rfl) dX4_clear_2 (fun H locs hP hD hS => ?_)
  have hP : va_P (dC, dI) vwCl [(h0, .inr (4, [.ref h0_bytes, .int (0 : Int32)])), (h0_bytes, .inl (cI, 600, .inl v_bytes))] H := hP
  have hD : va_D A [(h0, .inr (4, [.ref h0_bytes, .int (0 : Int32)])), (h0_bytes, .inl (cI, 600, .inl v_bytes))] := hD
  obtain rfl := Option.some.inj hm
  exact W.vret hx hb hr (fun t ht hW => ⟨⟨(), rfl, trivial, by rw [ht]; exact hP, hD⟩, hS.F ht⟩) hS.2.2 dX4_clear_5
def m_X6_kindOf (p0 : Int32) : Option (Int32) := if (30 : Int32) ≤ p0 then if (41 : Int32) ≤ p0 then some (2 : Int32) else some (1 : Int32) else some (0 : Int32)
set_option maxHeartbeats 4000000 in
set_option maxRecDepth 100000 in
theorem c_X6_kindOf (l : Launch) (dC : Nat → ClassId) (dI : Nat → Nat → Nat) (cZ cI cL : ClassId) (p0 : Int32) (q : Int32) (hm : m_X6_kindOf p0 = some q) : Met l yX6_kindOf wsX6_kindOf ({ frames := 0, cells := 0, slots := 0, locals := 0 }) (va_Pc [.int p0] (mt_R (dC, dI) cZ cI cL [])) (vp_Si (fun r => r = q)) 0 0 (fun _ => False) := by
  refine Met.ofW (cc := cX6_kindOf) (maxL := 1) (ret := (some .int)) (by decide) rfl ?_
  intro p e s m args below meth c s₁ B hml hv
  obtain ⟨rfl, hP, hC⟩ := hv
  have hx := B.exec
  have hb := B.bytes
  have hr := B.returns
  have hts := atoms_spec (ws := wsX6_kindOf) B.pre
  have hown : s.vm.findClass RX6 = some m.cls := findClass_of_methodNamed B.named
  have hlocks := B.notSynchronized
  have hK := hC.1
  have hl := lv_entry [.int p0] (n := 1) (Nat.le_of_ble_eq_true rfl)
  rw [lg_entry_eq]
  generalize (lg_sl [.int p0] ++ List.replicate (1 - (lg_sl [.int p0]).length) Slot.unset).toArray = ls at hl ⊢
  have hl : lv_has ls 1 [(0, .int p0)] := hl
  rw [m_X6_kindOf] at hm
  refine lv_iload_n hx hb dX6_kindOf_0 rfl (lv_at hl 0 rfl) ?_
  refine lv_bipush (v := (30 : Int32)) hx hb dX6_kindOf_1 (by decide) ?_
  refine lv_icmp_ge (tgt := 8) hx hb dX6_kindOf_3 (by decide) (fun c1 => ?_) (fun c1 => ?_)
  · replace hm := mt_pos c1 hm
    refine lv_iload_n hx hb dX6_kindOf_8 rfl (lv_at hl 0 rfl) ?_
    refine lv_bipush (v := (41 : Int32)) hx hb dX6_kindOf_9 (by decide) ?_
    refine lv_icmp_ge (tgt := 18) hx hb dX6_kindOf_11 (by decide) (fun c2 => ?_) (fun c2 => ?_)
    · replace hm := mt_pos c2 hm
      refine lv_iconst (v := (2 : Int32)) hx hb dX6_kindOf_18 (by decide) ?_
      obtain rfl := Option.some.inj hm
      exact W.iret hx hb hr (fun t ht hW => ⟨_, rfl, rfl, ht⟩) t_nil dX6_kindOf_19
    · replace hm := mt_neg c2 hm
      refine lv_iconst (v := (1 : Int32)) hx hb dX6_kindOf_14 (by decide) ?_
      refine lv_goto (tgt := 19) hx hb dX6_kindOf_15 (by decide) ?_
      obtain rfl := Option.some.inj hm
      exact W.iret hx hb hr (fun t ht hW => ⟨_, rfl, rfl, ht⟩) t_nil dX6_kindOf_19
  · replace hm := mt_neg c1 hm
    refine lv_iconst (v := (0 : Int32)) hx hb dX6_kindOf_6 (by decide) ?_
    obtain rfl := Option.some.inj hm
    exact W.iret hx hb hr (fun t ht hW => ⟨_, rfl, rfl, ht⟩) t_nil dX6_kindOf_7
def m_X4_add (p1 : Int32) (v_length : Int32) (v_bytes : Nat → Int32) : Option (Int32 × (Nat → Int32)) := if v_length < 0 then some (v_length, v_bytes) else if (600 : Int32) ≤ v_length then some (v_length, v_bytes) else if (¬ (v_length < 0 ∨ 600 ≤ v_length.toNatClampNeg)) then some ((v_length + (1 : Int32)), (upd v_bytes v_length.toNatClampNeg p1)) else none
set_option maxHeartbeats 4000000 in
set_option maxRecDepth 100000 in
theorem c_X4_add (l : Launch) (dC : Nat → ClassId) (dI : Nat → Nat → Nat) (cZ cI cL : ClassId) (h0 h0_bytes : Nat) (sz : Nat) (p1 : Int32) (v_length : Int32) (v_bytes : Nat → Int32) (q : Int32 × (Nat → Int32)) (hm : m_X4_add p1 v_length v_bytes = some q) : Met l yX4_add wsX4_add ({ frames := 0, cells := 0, slots := 0, locals := 0 }) (va_Pc [.ref h0, .int p1] (mt_S (dC, dI) cZ cI cL sz [(h0, .inr (4, [.ref h0_bytes, .int v_length])), (h0_bytes, .inl (cI, 600, .inl v_bytes))])) (va_Qv (fun (_ : Unit) => True) (fun _ t => va_P (dC, dI) vwCl [(h0, .inr (4, [.ref h0_bytes, .int q.1])), (h0_bytes, .inl (cI, 600, .inl q.2))] t.heap ∧ va_D (va_A [(h0, .inr (4, [.ref h0_bytes, .int v_length])), (h0_bytes, .inl (cI, 600, .inl v_bytes))] sz) [(h0, .inr (4, [.ref h0_bytes, .int q.1])), (h0_bytes, .inl (cI, 600, .inl q.2))]) (va_A [(h0, .inr (4, [.ref h0_bytes, .int v_length])), (h0_bytes, .inl (cI, 600, .inl v_bytes))] sz)) 0 0 (va_A [(h0, .inr (4, [.ref h0_bytes, .int v_length])), (h0_bytes, .inl (cI, 600, .inl v_bytes))] sz) := by
  refine Met.ofW (cc := cX4_add) (maxL := 2) (ret := none) (by decide) rfl ?_
  intro p e s m args below meth c s₁ B hml hv
  obtain ⟨rfl, hsz, hP, hC, hD0⟩ := hv
  have hx := B.exec
  have hb := B.bytes
  have hr := B.returns
  have hts := atoms_spec (ws := wsX4_add) B.pre
  have hown : s.vm.findClass RX4 = some m.cls := findClass_of_methodNamed B.named
  have hlocks := B.notSynchronized
  have hK := hC.1
  have hiX4 : ∀ w ∈ wsX40, w ∈ wsX4_add := by decide +kernel
  subst hsz
  have hD := hD0.self (sz := s.heap.size)
  generalize hAe : va_A [(h0, .inr (4, [.ref h0_bytes, .int v_length])), (h0_bytes, .inl (cI, 600, .inl v_bytes))] s.heap.size = A at hD ⊢
  have hA : ∀ q : Nat, s.heap.size ≤ q → A q := fun q h => by rw [← hAe]; exact Or.inr h
  have hS : va_S A s.heap s.heap [] := va_S.rf
  have hl := lv_entry [.ref h0, .int p1] (n := 2) (Nat.le_of_ble_eq_true rfl)
  rw [lg_entry_eq]
  generalize (lg_sl [.ref h0, .int p1] ++ List.replicate (2 - (lg_sl [.ref h0, .int p1]).length) Slot.unset).toArray = ls at hl ⊢
  have hl : lv_has ls 2 [(0, .ref h0), (1, .int p1)] := hl
  rw [m_X4_add] at hm
  refine lv_aload_n hx hb dX4_add_0 rfl (lv_at hl 0 rfl) ?_
  refine va_get (D := (dC, dI)) (ci := 4) (v := .int v_length) (C := RX4) (T := TX4) (N := 2) hx hb hts hiX4 hown hK hP 0 rfl rfl 1 (by decide) (hts (.fieldLink RX4 15 "ServiceDrawer$Text" "length" "I") (by decide +kernel)) (fun _ h9 => h9) rfl dX4_add_1 ?_
  refine lv_if_lt (tgt := 37) hx hb dX4_add_4 (by decide) (fun c1 => ?_) (fun c1 => ?_)
  · replace hm := mt_pos c1 hm
    obtain rfl := Option.some.inj hm
    exact W.vret hx hb hr (fun t ht hW => ⟨⟨(), rfl, trivial, by rw [ht]; exact hP, hD⟩, hS.F ht⟩) hS.2.2 dX4_add_37
  · replace hm := mt_neg c1 hm
    refine lv_aload_n hx hb dX4_add_7 rfl (lv_at hl 0 rfl) ?_
    refine va_get (D := (dC, dI)) (ci := 4) (v := .int v_length) (C := RX4) (T := TX4) (N := 2) hx hb hts hiX4 hown hK hP 0 rfl rfl 1 (by decide) (hts (.fieldLink RX4 15 "ServiceDrawer$Text" "length" "I") (by decide +kernel)) (fun _ h9 => h9) rfl dX4_add_8 ?_
    refine lv_sipush (v := (600 : Int32)) hx hb dX4_add_11 (by decide) ?_
    refine lv_icmp_ge (tgt := 37) hx hb dX4_add_14 (by decide) (fun c2 => ?_) (fun c2 => ?_)
    · replace hm := mt_pos c2 hm
      obtain rfl := Option.some.inj hm
      exact W.vret hx hb hr (fun t ht hW => ⟨⟨(), rfl, trivial, by rw [ht]; exact hP, hD⟩, hS.F ht⟩) hS.2.2 dX4_add_37
    · replace hm := mt_neg c2 hm
      refine lv_aload_n hx hb dX4_add_17 rfl (lv_at hl 0 rfl) ?_
      refine va_get (D := (dC, dI)) (ci := 4) (v := .ref h0_bytes) (C := RX4) (T := TX4) (N := 2) hx hb hts hiX4 hown hK hP 0 rfl rfl 0 (by decide) (hts (.fieldLink RX4 9 "ServiceDrawer$Text" "bytes" "[I") (by decide +kernel)) (fun _ h9 => h9) rfl dX4_add_18 ?_
      refine lv_aload_n hx hb dX4_add_21 rfl (lv_at hl 0 rfl) ?_
      refine va_get (D := (dC, dI)) (ci := 4) (v := .int v_length) (C := RX4) (T := TX4) (N := 2) hx hb hts hiX4 hown hK hP 0 rfl rfl 1 (by decide) (hts (.fieldLink RX4 15 "ServiceDrawer$Text" "length" "I") (by decide +kernel)) (fun _ h9 => h9) rfl dX4_add_22 ?_
      refine lv_iload_n hx hb dX4_add_25 rfl (lv_at hl 1 rfl) ?_
      obtain ⟨g3, hm⟩ := mt_gd hm
      refine va_iast hx hb hK hP hD hS 1 1 rfl rfl g3 dX4_add_26 (fun H locs hP hD hS => ?_)
      have hP : va_P (dC, dI) vwCl [(h0, .inr (4, [.ref h0_bytes, .int v_length])), (h0_bytes, .inl (cI, 600, .inl (upd v_bytes v_length.toNatClampNeg p1)))] H := hP
      have hD : va_D A [(h0, .inr (4, [.ref h0_bytes, .int v_length])), (h0_bytes, .inl (cI, 600, .inl (upd v_bytes v_length.toNatClampNeg p1)))] := hD
      refine lv_aload_n hx hb dX4_add_27 rfl (lv_at hl 0 rfl) ?_
      refine lv_dup hx hb dX4_add_28 rfl ?_
      refine va_get (D := (dC, dI)) (ci := 4) (v := .int v_length) (C := RX4) (T := TX4) (N := 2) hx hb hts hiX4 hown hK hP 0 rfl rfl 1 (by decide) (hts (.fieldLink RX4 15 "ServiceDrawer$Text" "length" "I") (by decide +kernel)) (fun _ h9 => h9) rfl dX4_add_29 ?_
      refine lv_iconst (v := (1 : Int32)) hx hb dX4_add_32 (by decide) ?_
      refine lv_iadd hx hb dX4_add_33 ?_
      refine va_put (D := (dC, dI)) (ci := 4) (v := .int (v_length + (1 : Int32))) (ty := .int) (C := RX4) (T := TX4) (N := 2) hx hb hts hiX4 tyX4 tyX4_ok nmX4 hown hK hP hD hS 0 rfl rfl 1 (by decide) (hts (.fieldLink RX4 15 "ServiceDrawer$Text" "length" "I") (by decide +kernel)) (fun _ h9 => h9) rfl (by decide +kernel) rfl rfl (Nat.le_of_ble_eq_true rfl) dX4_add_34 (fun H locs hP hD hS => ?_)
      have hP : va_P (dC, dI) vwCl [(h0, .inr (4, [.ref h0_bytes, .int (v_length + (1 : Int32))])), (h0_bytes, .inl (cI, 600, .inl (upd v_bytes v_length.toNatClampNeg p1)))] H := hP
      have hD : va_D A [(h0, .inr (4, [.ref h0_bytes, .int (v_length + (1 : Int32))])), (h0_bytes, .inl (cI, 600, .inl (upd v_bytes v_length.toNatClampNeg p1)))] := hD
      obtain rfl := Option.some.inj hm
      exact W.vret hx hb hr (fun t ht hW => ⟨⟨(), rfl, trivial, by rw [ht]; exact hP, hD⟩, hS.F ht⟩) hS.2.2 dX4_add_37
def m_X1_writeNumber (p1 : Int32) (v_text_length : Int32) (v_text_bytes : Nat → Int32) : Option (Int32 × (Nat → Int32)) := mt_j (fun (v_text_length_25 : Int32) (v_text_bytes_25 : Nat → Int32) => mt_j (fun (v_text_length_48 : Int32) (v_text_bytes_48 : Nat → Int32) => mt_j (fun (v_text_length_71 : Int32) (v_text_bytes_71 : Nat → Int32) => (m_X4_add ((48 : Int32) + (p1 - p1 / (10 : Int32) * (10 : Int32))) v_text_length_71 v_text_bytes_71).bind fun q1 => some (q1.1, q1.2)) fun K71 => if p1 < (10 : Int32) then K71 v_text_length_48 v_text_bytes_48 else (m_X4_add ((48 : Int32) + ((p1 / (10 : Int32)) - (p1 / (10 : Int32)) / (10 : Int32) * (10 : Int32))) v_text_length_48 v_text_bytes_48).bind fun q3 => K71 q3.1 q3.2) fun K48 => if p1 < (100 : Int32) then K48 v_text_length_25 v_text_bytes_25 else (m_X4_add ((48 : Int32) + ((p1 / (100 : Int32)) - (p1 / (100 : Int32)) / (10 : Int32) * (10 : Int32))) v_text_length_25 v_text_bytes_25).bind fun q5 => K48 q5.1 q5.2) fun K25 => if p1 < (1000 : Int32) then K25 v_text_length v_text_bytes else (m_X4_add ((48 : Int32) + ((p1 / (1000 : Int32)) - (p1 / (1000 : Int32)) / (10 : Int32) * (10 : Int32))) v_text_length v_text_bytes).bind fun q7 => K25 q7.1 q7.2
set_option maxHeartbeats 4000000 in
set_option maxRecDepth 100000 in
theorem c_X1_writeNumber (l : Launch) (dC : Nat → ClassId) (dI : Nat → Nat → Nat) (cZ cI cL : ClassId) (h0 h0_text h0_text_bytes : Nat) (sz : Nat) (p1 : Int32) (v_text_length : Int32) (v_text_bytes : Nat → Int32) (q : Int32 × (Nat → Int32)) (hm : m_X1_writeNumber p1 v_text_length v_text_bytes = some q) : Met l yX1_writeNumber wsX1_writeNumber ({ frames := 1, cells := 0, slots := 0, locals := 21 }) (va_Pc [.ref h0, .int p1] (mt_S (dC, dI) cZ cI cL sz [(h0, .inr (1, [.ref h0_text])), (h0_text, .inr (4, [.ref h0_text_bytes, .int v_text_length])), (h0_text_bytes, .inl (cI, 600, .inl v_text_bytes))])) (va_Qv (fun (_ : Unit) => True) (fun _ t => va_P (dC, dI) vwCl [(h0, .inr (1, [.ref h0_text])), (h0_text, .inr (4, [.ref h0_text_bytes, .int q.1])), (h0_text_bytes, .inl (cI, 600, .inl q.2))] t.heap ∧ va_D (va_A [(h0, .inr (1, [.ref h0_text])), (h0_text, .inr (4, [.ref h0_text_bytes, .int v_text_length])), (h0_text_bytes, .inl (cI, 600, .inl v_text_bytes))] sz) [(h0, .inr (1, [.ref h0_text])), (h0_text, .inr (4, [.ref h0_text_bytes, .int q.1])), (h0_text_bytes, .inl (cI, 600, .inl q.2))]) (va_A [(h0, .inr (1, [.ref h0_text])), (h0_text, .inr (4, [.ref h0_text_bytes, .int v_text_length])), (h0_text_bytes, .inl (cI, 600, .inl v_text_bytes))] sz)) 0 0 (va_A [(h0, .inr (1, [.ref h0_text])), (h0_text, .inr (4, [.ref h0_text_bytes, .int v_text_length])), (h0_text_bytes, .inl (cI, 600, .inl v_text_bytes))] sz) := by
  refine Met.ofW (cc := cX1_writeNumber) (maxL := 2) (ret := none) (by decide) rfl ?_
  intro p e s m args below meth c s₁ B hml hv
  obtain ⟨rfl, hsz, hP, hC, hD0⟩ := hv
  have hx := B.exec
  have hb := B.bytes
  have hr := B.returns
  have hts := atoms_spec (ws := wsX1_writeNumber) B.pre
  have hown : s.vm.findClass RX1 = some m.cls := findClass_of_methodNamed B.named
  have hlocks := B.notSynchronized
  have hK := hC.1
  have hiX1 : ∀ w ∈ wsX10, w ∈ wsX1_writeNumber := by decide +kernel
  subst hsz
  have hD := hD0.self (sz := s.heap.size)
  generalize hAe : va_A [(h0, .inr (1, [.ref h0_text])), (h0_text, .inr (4, [.ref h0_text_bytes, .int v_text_length])), (h0_text_bytes, .inl (cI, 600, .inl v_text_bytes))] s.heap.size = A at hD ⊢
  have hA : ∀ q : Nat, s.heap.size ≤ q → A q := fun q h => by rw [← hAe]; exact Or.inr h
  have hS : va_S A s.heap s.heap [] := va_S.rf
  have hl := lv_entry [.ref h0, .int p1] (n := 2) (Nat.le_of_ble_eq_true rfl)
  rw [lg_entry_eq]
  generalize (lg_sl [.ref h0, .int p1] ++ List.replicate (2 - (lg_sl [.ref h0, .int p1]).length) Slot.unset).toArray = ls at hl ⊢
  have hl : lv_has ls 2 [(0, .ref h0), (1, .int p1)] := hl
  rw [m_X1_writeNumber] at hm
  refine lv_iload_n hx hb dX1_writeNumber_0 rfl (lv_at hl 1 rfl) ?_
  refine lv_sipush (v := (1000 : Int32)) hx hb dX1_writeNumber_1 (by decide) ?_
  obtain ⟨K25, hK25, hm⟩ := mt_jx hm
  have J25 : ∀ (v_text_length_25 : Int32) (v_text_bytes_25 : Nat → Int32), ∀ (H : Heap) (locs : List Loc) (ls : Array Slot), K25 v_text_length_25 v_text_bytes_25 = some q → va_P (dC, dI) vwCl [(h0, .inr (1, [.ref h0_text])), (h0_text, .inr (4, [.ref h0_text_bytes, .int v_text_length_25])), (h0_text_bytes, .inl (cI, 600, .inl v_text_bytes_25))] H → va_D A [(h0, .inr (1, [.ref h0_text])), (h0_text, .inr (4, [.ref h0_text_bytes, .int v_text_length_25])), (h0_text_bytes, .inl (cI, 600, .inl v_text_bytes_25))] → va_S A s.heap H locs → lv_has ls 2 [(0, .ref h0), (1, .int p1)] → W p l e (headSpec wsX1_writeNumber ({ frames := 1, cells := 0, slots := 0, locals := 21 })).room s m [.ref h0, .int p1].toArray below meth c H locs 0 0 (MQ below (va_Qv (fun (_ : Unit) => True) (fun _ t => va_P (dC, dI) vwCl [(h0, .inr (1, [.ref h0_text])), (h0_text, .inr (4, [.ref h0_text_bytes, .int q.1])), (h0_text_bytes, .inl (cI, 600, .inl q.2))] t.heap ∧ va_D A [(h0, .inr (1, [.ref h0_text])), (h0_text, .inr (4, [.ref h0_text_bytes, .int q.1])), (h0_text_bytes, .inl (cI, 600, .inl q.2))]) A) [.ref h0, .int p1].toArray s 0 0 A) (F0 m 25 ls []) := by
    intro v_text_length_25 v_text_bytes_25 H locs ls hm hP hD hS hl
    replace hm := mt_app2 hK25 hm
    refine lv_iload_n hx hb dX1_writeNumber_25 rfl (lv_at hl 1 rfl) ?_
    refine lv_bipush (v := (100 : Int32)) hx hb dX1_writeNumber_26 (by decide) ?_
    obtain ⟨K48, hK48, hm⟩ := mt_jx hm
    have J48 : ∀ (v_text_length_48 : Int32) (v_text_bytes_48 : Nat → Int32), ∀ (H : Heap) (locs : List Loc) (ls : Array Slot), K48 v_text_length_48 v_text_bytes_48 = some q → va_P (dC, dI) vwCl [(h0, .inr (1, [.ref h0_text])), (h0_text, .inr (4, [.ref h0_text_bytes, .int v_text_length_48])), (h0_text_bytes, .inl (cI, 600, .inl v_text_bytes_48))] H → va_D A [(h0, .inr (1, [.ref h0_text])), (h0_text, .inr (4, [.ref h0_text_bytes, .int v_text_length_48])), (h0_text_bytes, .inl (cI, 600, .inl v_text_bytes_48))] → va_S A s.heap H locs → lv_has ls 2 [(0, .ref h0), (1, .int p1)] → W p l e (headSpec wsX1_writeNumber ({ frames := 1, cells := 0, slots := 0, locals := 21 })).room s m [.ref h0, .int p1].toArray below meth c H locs 0 0 (MQ below (va_Qv (fun (_ : Unit) => True) (fun _ t => va_P (dC, dI) vwCl [(h0, .inr (1, [.ref h0_text])), (h0_text, .inr (4, [.ref h0_text_bytes, .int q.1])), (h0_text_bytes, .inl (cI, 600, .inl q.2))] t.heap ∧ va_D A [(h0, .inr (1, [.ref h0_text])), (h0_text, .inr (4, [.ref h0_text_bytes, .int q.1])), (h0_text_bytes, .inl (cI, 600, .inl q.2))]) A) [.ref h0, .int p1].toArray s 0 0 A) (F0 m 48 ls []) := by
      intro v_text_length_48 v_text_bytes_48 H locs ls hm hP hD hS hl
      replace hm := mt_app2 hK48 hm
      refine lv_iload_n hx hb dX1_writeNumber_48 rfl (lv_at hl 1 rfl) ?_
      refine lv_bipush (v := (10 : Int32)) hx hb dX1_writeNumber_49 (by decide) ?_
      obtain ⟨K71, hK71, hm⟩ := mt_jx hm
      have J71 : ∀ (v_text_length_71 : Int32) (v_text_bytes_71 : Nat → Int32), ∀ (H : Heap) (locs : List Loc) (ls : Array Slot), K71 v_text_length_71 v_text_bytes_71 = some q → va_P (dC, dI) vwCl [(h0, .inr (1, [.ref h0_text])), (h0_text, .inr (4, [.ref h0_text_bytes, .int v_text_length_71])), (h0_text_bytes, .inl (cI, 600, .inl v_text_bytes_71))] H → va_D A [(h0, .inr (1, [.ref h0_text])), (h0_text, .inr (4, [.ref h0_text_bytes, .int v_text_length_71])), (h0_text_bytes, .inl (cI, 600, .inl v_text_bytes_71))] → va_S A s.heap H locs → lv_has ls 2 [(0, .ref h0), (1, .int p1)] → W p l e (headSpec wsX1_writeNumber ({ frames := 1, cells := 0, slots := 0, locals := 21 })).room s m [.ref h0, .int p1].toArray below meth c H locs 0 0 (MQ below (va_Qv (fun (_ : Unit) => True) (fun _ t => va_P (dC, dI) vwCl [(h0, .inr (1, [.ref h0_text])), (h0_text, .inr (4, [.ref h0_text_bytes, .int q.1])), (h0_text_bytes, .inl (cI, 600, .inl q.2))] t.heap ∧ va_D A [(h0, .inr (1, [.ref h0_text])), (h0_text, .inr (4, [.ref h0_text_bytes, .int q.1])), (h0_text_bytes, .inl (cI, 600, .inl q.2))]) A) [.ref h0, .int p1].toArray s 0 0 A) (F0 m 71 ls []) := by
        intro v_text_length_71 v_text_bytes_71 H locs ls hm hP hD hS hl
        replace hm := mt_app2 hK71 hm
        refine lv_aload_n hx hb dX1_writeNumber_71 rfl (lv_at hl 0 rfl) ?_
        refine va_get (D := (dC, dI)) (ci := 1) (v := .ref h0_text) (C := RX1) (T := TX1) (N := 1) hx hb hts hiX1 hown hK hP 0 rfl rfl 0 (by decide) (hts (.fieldLink RX1 12 "ServiceDrawer$Printer" "text" "LServiceDrawer$Text;") (by decide +kernel)) (fun _ h9 => h9) rfl dX1_writeNumber_72 ?_
        refine lv_bipush (v := (48 : Int32)) hx hb dX1_writeNumber_75 (by decide) ?_
        refine lv_iload_n hx hb dX1_writeNumber_77 rfl (lv_at hl 1 rfl) ?_
        refine lv_bipush (v := (10 : Int32)) hx hb dX1_writeNumber_78 (by decide) ?_
        refine lv_irem hx hb dX1_writeNumber_80 (by decide) ?_
        refine lv_iadd hx hb dX1_writeNumber_81 ?_
        obtain ⟨q1, hq1, hm⟩ := mt_bind hm
        refine mt_callv (wr := [(h0, .inr (1, [.ref h0_text]))]) hP hD hS hA [1, 2] [0] rfl rfl (by decide) (by decide) (va_runV (As := [.int ((48 : Int32) + (p1 - p1 / (10 : Int32) * (10 : Int32)))]) (rest := []) ⟨hx, hb, hml, hown, hts⟩ (c_X4_add l dC dI cZ cI cL h0_text h0_text_bytes H.size ((48 : Int32) + (p1 - p1 / (10 : Int32) * (10 : Int32))) v_text_length_71 v_text_bytes_71 q1 hq1) (cwV 1 hts gX1_writeNumber_X4_add rfl rfl rfl (by decide +kernel) ⟨Nat.le_of_ble_eq_true rfl, Nat.le_of_ble_eq_true rfl⟩) (mt_vS (q := (RX4, TX4, 2)) 4 hC (hP.sub (ws' := [(h0_text, .inr (4, [.ref h0_text_bytes, .int v_text_length_71])), (h0_text_bytes, .inl (cI, 600, .inl v_text_bytes_71))]) [1, 2] rfl) (hD.sub (ws' := [(h0_text, .inr (4, [.ref h0_text_bytes, .int v_text_length_71])), (h0_text_bytes, .inl (cI, 600, .inl v_text_bytes_71))]) [1, 2] (by decide) rfl) rfl rfl) rfl rfl hl.1 rfl (lv_room (Nat.le_of_ble_eq_true rfl)) dX1_writeNumber_82 ⟨Nat.le_of_ble_eq_true rfl, Nat.le_of_ble_eq_true rfl⟩) (fun H locs hP hD hS => ?_)
        have hP : va_P (dC, dI) vwCl [(h0, .inr (1, [.ref h0_text])), (h0_text, .inr (4, [.ref h0_text_bytes, .int q1.1])), (h0_text_bytes, .inl (cI, 600, .inl q1.2))] H := hP.sub [0, 1, 2] rfl
        have hD : va_D A [(h0, .inr (1, [.ref h0_text])), (h0_text, .inr (4, [.ref h0_text_bytes, .int q1.1])), (h0_text_bytes, .inl (cI, 600, .inl q1.2))] := hD.sub [0, 1, 2] (by decide) rfl
        obtain rfl := Option.some.inj hm
        exact W.vret hx hb hr (fun t ht hW => ⟨⟨(), rfl, trivial, by rw [ht]; exact hP, hD⟩, hS.F ht⟩) hS.2.2 dX1_writeNumber_85
      refine lv_icmp_lt (tgt := 71) hx hb dX1_writeNumber_51 (by decide) (fun c2 => ?_) (fun c2 => ?_)
      · replace hm := mt_pos c2 hm
        exact J71 v_text_length_48 v_text_bytes_48 _ _ _ hm hP hD hS (lv_sub hl [0, 1] rfl)
      · replace hm := mt_neg c2 hm
        refine lv_aload_n hx hb dX1_writeNumber_54 rfl (lv_at hl 0 rfl) ?_
        refine va_get (D := (dC, dI)) (ci := 1) (v := .ref h0_text) (C := RX1) (T := TX1) (N := 1) hx hb hts hiX1 hown hK hP 0 rfl rfl 0 (by decide) (hts (.fieldLink RX1 12 "ServiceDrawer$Printer" "text" "LServiceDrawer$Text;") (by decide +kernel)) (fun _ h9 => h9) rfl dX1_writeNumber_55 ?_
        refine lv_bipush (v := (48 : Int32)) hx hb dX1_writeNumber_58 (by decide) ?_
        refine lv_iload_n hx hb dX1_writeNumber_60 rfl (lv_at hl 1 rfl) ?_
        refine lv_bipush (v := (10 : Int32)) hx hb dX1_writeNumber_61 (by decide) ?_
        refine lv_idiv hx hb dX1_writeNumber_63 (by decide) ?_
        refine lv_bipush (v := (10 : Int32)) hx hb dX1_writeNumber_64 (by decide) ?_
        refine lv_irem hx hb dX1_writeNumber_66 (by decide) ?_
        refine lv_iadd hx hb dX1_writeNumber_67 ?_
        obtain ⟨q3, hq3, hm⟩ := mt_bind hm
        refine mt_callv (wr := [(h0, .inr (1, [.ref h0_text]))]) hP hD hS hA [1, 2] [0] rfl rfl (by decide) (by decide) (va_runV (As := [.int ((48 : Int32) + ((p1 / (10 : Int32)) - (p1 / (10 : Int32)) / (10 : Int32) * (10 : Int32)))]) (rest := []) ⟨hx, hb, hml, hown, hts⟩ (c_X4_add l dC dI cZ cI cL h0_text h0_text_bytes H.size ((48 : Int32) + ((p1 / (10 : Int32)) - (p1 / (10 : Int32)) / (10 : Int32) * (10 : Int32))) v_text_length_48 v_text_bytes_48 q3 hq3) (cwV 1 hts gX1_writeNumber_X4_add rfl rfl rfl (by decide +kernel) ⟨Nat.le_of_ble_eq_true rfl, Nat.le_of_ble_eq_true rfl⟩) (mt_vS (q := (RX4, TX4, 2)) 4 hC (hP.sub (ws' := [(h0_text, .inr (4, [.ref h0_text_bytes, .int v_text_length_48])), (h0_text_bytes, .inl (cI, 600, .inl v_text_bytes_48))]) [1, 2] rfl) (hD.sub (ws' := [(h0_text, .inr (4, [.ref h0_text_bytes, .int v_text_length_48])), (h0_text_bytes, .inl (cI, 600, .inl v_text_bytes_48))]) [1, 2] (by decide) rfl) rfl rfl) rfl rfl hl.1 rfl (lv_room (Nat.le_of_ble_eq_true rfl)) dX1_writeNumber_68 ⟨Nat.le_of_ble_eq_true rfl, Nat.le_of_ble_eq_true rfl⟩) (fun H locs hP hD hS => ?_)
        have hP : va_P (dC, dI) vwCl [(h0, .inr (1, [.ref h0_text])), (h0_text, .inr (4, [.ref h0_text_bytes, .int q3.1])), (h0_text_bytes, .inl (cI, 600, .inl q3.2))] H := hP.sub [0, 1, 2] rfl
        have hD : va_D A [(h0, .inr (1, [.ref h0_text])), (h0_text, .inr (4, [.ref h0_text_bytes, .int q3.1])), (h0_text_bytes, .inl (cI, 600, .inl q3.2))] := hD.sub [0, 1, 2] (by decide) rfl
        exact J71 q3.1 q3.2 _ _ _ hm hP hD hS (lv_sub hl [0, 1] rfl)
    refine lv_icmp_lt (tgt := 48) hx hb dX1_writeNumber_28 (by decide) (fun c4 => ?_) (fun c4 => ?_)
    · replace hm := mt_pos c4 hm
      exact J48 v_text_length_25 v_text_bytes_25 _ _ _ hm hP hD hS (lv_sub hl [0, 1] rfl)
    · replace hm := mt_neg c4 hm
      refine lv_aload_n hx hb dX1_writeNumber_31 rfl (lv_at hl 0 rfl) ?_
      refine va_get (D := (dC, dI)) (ci := 1) (v := .ref h0_text) (C := RX1) (T := TX1) (N := 1) hx hb hts hiX1 hown hK hP 0 rfl rfl 0 (by decide) (hts (.fieldLink RX1 12 "ServiceDrawer$Printer" "text" "LServiceDrawer$Text;") (by decide +kernel)) (fun _ h9 => h9) rfl dX1_writeNumber_32 ?_
      refine lv_bipush (v := (48 : Int32)) hx hb dX1_writeNumber_35 (by decide) ?_
      refine lv_iload_n hx hb dX1_writeNumber_37 rfl (lv_at hl 1 rfl) ?_
      refine lv_bipush (v := (100 : Int32)) hx hb dX1_writeNumber_38 (by decide) ?_
      refine lv_idiv hx hb dX1_writeNumber_40 (by decide) ?_
      refine lv_bipush (v := (10 : Int32)) hx hb dX1_writeNumber_41 (by decide) ?_
      refine lv_irem hx hb dX1_writeNumber_43 (by decide) ?_
      refine lv_iadd hx hb dX1_writeNumber_44 ?_
      obtain ⟨q5, hq5, hm⟩ := mt_bind hm
      refine mt_callv (wr := [(h0, .inr (1, [.ref h0_text]))]) hP hD hS hA [1, 2] [0] rfl rfl (by decide) (by decide) (va_runV (As := [.int ((48 : Int32) + ((p1 / (100 : Int32)) - (p1 / (100 : Int32)) / (10 : Int32) * (10 : Int32)))]) (rest := []) ⟨hx, hb, hml, hown, hts⟩ (c_X4_add l dC dI cZ cI cL h0_text h0_text_bytes H.size ((48 : Int32) + ((p1 / (100 : Int32)) - (p1 / (100 : Int32)) / (10 : Int32) * (10 : Int32))) v_text_length_25 v_text_bytes_25 q5 hq5) (cwV 1 hts gX1_writeNumber_X4_add rfl rfl rfl (by decide +kernel) ⟨Nat.le_of_ble_eq_true rfl, Nat.le_of_ble_eq_true rfl⟩) (mt_vS (q := (RX4, TX4, 2)) 4 hC (hP.sub (ws' := [(h0_text, .inr (4, [.ref h0_text_bytes, .int v_text_length_25])), (h0_text_bytes, .inl (cI, 600, .inl v_text_bytes_25))]) [1, 2] rfl) (hD.sub (ws' := [(h0_text, .inr (4, [.ref h0_text_bytes, .int v_text_length_25])), (h0_text_bytes, .inl (cI, 600, .inl v_text_bytes_25))]) [1, 2] (by decide) rfl) rfl rfl) rfl rfl hl.1 rfl (lv_room (Nat.le_of_ble_eq_true rfl)) dX1_writeNumber_45 ⟨Nat.le_of_ble_eq_true rfl, Nat.le_of_ble_eq_true rfl⟩) (fun H locs hP hD hS => ?_)
      have hP : va_P (dC, dI) vwCl [(h0, .inr (1, [.ref h0_text])), (h0_text, .inr (4, [.ref h0_text_bytes, .int q5.1])), (h0_text_bytes, .inl (cI, 600, .inl q5.2))] H := hP.sub [0, 1, 2] rfl
      have hD : va_D A [(h0, .inr (1, [.ref h0_text])), (h0_text, .inr (4, [.ref h0_text_bytes, .int q5.1])), (h0_text_bytes, .inl (cI, 600, .inl q5.2))] := hD.sub [0, 1, 2] (by decide) rfl
      exact J48 q5.1 q5.2 _ _ _ hm hP hD hS (lv_sub hl [0, 1] rfl)
  refine lv_icmp_lt (tgt := 25) hx hb dX1_writeNumber_4 (by decide) (fun c6 => ?_) (fun c6 => ?_)
  · replace hm := mt_pos c6 hm
    exact J25 v_text_length v_text_bytes _ _ _ hm hP hD hS (lv_sub hl [0, 1] rfl)
  · replace hm := mt_neg c6 hm
    refine lv_aload_n hx hb dX1_writeNumber_7 rfl (lv_at hl 0 rfl) ?_
    refine va_get (D := (dC, dI)) (ci := 1) (v := .ref h0_text) (C := RX1) (T := TX1) (N := 1) hx hb hts hiX1 hown hK hP 0 rfl rfl 0 (by decide) (hts (.fieldLink RX1 12 "ServiceDrawer$Printer" "text" "LServiceDrawer$Text;") (by decide +kernel)) (fun _ h9 => h9) rfl dX1_writeNumber_8 ?_
    refine lv_bipush (v := (48 : Int32)) hx hb dX1_writeNumber_11 (by decide) ?_
    refine lv_iload_n hx hb dX1_writeNumber_13 rfl (lv_at hl 1 rfl) ?_
    refine lv_sipush (v := (1000 : Int32)) hx hb dX1_writeNumber_14 (by decide) ?_
    refine lv_idiv hx hb dX1_writeNumber_17 (by decide) ?_
    refine lv_bipush (v := (10 : Int32)) hx hb dX1_writeNumber_18 (by decide) ?_
    refine lv_irem hx hb dX1_writeNumber_20 (by decide) ?_
    refine lv_iadd hx hb dX1_writeNumber_21 ?_
    obtain ⟨q7, hq7, hm⟩ := mt_bind hm
    refine mt_callv (wr := [(h0, .inr (1, [.ref h0_text]))]) hP hD hS hA [1, 2] [0] rfl rfl (by decide) (by decide) (va_runV (As := [.int ((48 : Int32) + ((p1 / (1000 : Int32)) - (p1 / (1000 : Int32)) / (10 : Int32) * (10 : Int32)))]) (rest := []) ⟨hx, hb, hml, hown, hts⟩ (c_X4_add l dC dI cZ cI cL h0_text h0_text_bytes s.heap.size ((48 : Int32) + ((p1 / (1000 : Int32)) - (p1 / (1000 : Int32)) / (10 : Int32) * (10 : Int32))) v_text_length v_text_bytes q7 hq7) (cwV 1 hts gX1_writeNumber_X4_add rfl rfl rfl (by decide +kernel) ⟨Nat.le_of_ble_eq_true rfl, Nat.le_of_ble_eq_true rfl⟩) (mt_vS (q := (RX4, TX4, 2)) 4 hC (hP.sub (ws' := [(h0_text, .inr (4, [.ref h0_text_bytes, .int v_text_length])), (h0_text_bytes, .inl (cI, 600, .inl v_text_bytes))]) [1, 2] rfl) (hD.sub (ws' := [(h0_text, .inr (4, [.ref h0_text_bytes, .int v_text_length])), (h0_text_bytes, .inl (cI, 600, .inl v_text_bytes))]) [1, 2] (by decide) rfl) rfl rfl) rfl rfl hl.1 rfl (lv_room (Nat.le_of_ble_eq_true rfl)) dX1_writeNumber_22 ⟨Nat.le_of_ble_eq_true rfl, Nat.le_of_ble_eq_true rfl⟩) (fun H locs hP hD hS => ?_)
    have hP : va_P (dC, dI) vwCl [(h0, .inr (1, [.ref h0_text])), (h0_text, .inr (4, [.ref h0_text_bytes, .int q7.1])), (h0_text_bytes, .inl (cI, 600, .inl q7.2))] H := hP.sub [0, 1, 2] rfl
    have hD : va_D A [(h0, .inr (1, [.ref h0_text])), (h0_text, .inr (4, [.ref h0_text_bytes, .int q7.1])), (h0_text_bytes, .inl (cI, 600, .inl q7.2))] := hD.sub [0, 1, 2] (by decide) rfl
    exact J25 q7.1 q7.2 _ _ _ hm hP hD hS (lv_sub hl [0, 1] rfl)
def m_X1_writePart (p2 : Int32) (v_text_length : Int32) (v_text_bytes : Nat → Int32) (a1_corner : Nat → Int32) (a1_second : Nat → Int32) (a1_third : Nat → Int32) : Option (Int32 × (Nat → Int32)) := (m_X6_kindOf p2).bind fun q1 => mt_j (fun (j0_30 : Int32) => (m_X4_add j0_30 v_text_length v_text_bytes).bind fun q2 => (m_X5_cornerOf p2 a1_corner).bind fun q3 => (m_X1_writeNumber q3 q2.1 q2.2).bind fun q4 => mt_j (fun (j0_57 : Int32) => (m_X4_add j0_57 q4.1 q4.2).bind fun q5 => (m_X5_secondOf p2 a1_second).bind fun q6 => (m_X1_writeNumber q6 q5.1 q5.2).bind fun q7 => if q1 = (1 : Int32) then some (q7.1, q7.2) else mt_j (fun (j0_89 : Int32) => (m_X4_add j0_89 q7.1 q7.2).bind fun q9 => (m_X5_thirdOf p2 a1_third).bind fun q10 => (m_X1_writeNumber q10 q9.1 q9.2).bind fun q11 => some (q11.1, q11.2)) fun K89 => if q1 = 0 then K89 (58 : Int32) else K89 (64 : Int32)) fun K57 => if q1 = 0 then K57 (45 : Int32) else K57 (58 : Int32)) fun K30 => if q1 = 0 then K30 (115 : Int32) else if q1 = (1 : Int32) then K30 (117 : Int32) else K30 (99 : Int32)
set_option maxHeartbeats 4000000 in
set_option maxRecDepth 100000 in
theorem c_X1_writePart (l : Launch) (dC : Nat → ClassId) (dI : Nat → Nat → Nat) (cZ cI cL : ClassId) (h0 h0_text h0_text_bytes h1 h1_had h1_there h1_corner h1_second h1_third : Nat) (sz : Nat) (p2 : Int32) (v_text_length : Int32) (v_text_bytes : Nat → Int32) (a1_seed : Int32) (a1_size : Int32) (a1_parts : Int32) (a1_had : Nat → Int32) (a1_there : Nat → Int32) (a1_corner : Nat → Int32) (a1_second : Nat → Int32) (a1_third : Nat → Int32) (q : Int32 × (Nat → Int32)) (hm : m_X1_writePart p2 v_text_length v_text_bytes a1_corner a1_second a1_third = some q) : Met l yX1_writePart wsX1_writePart ({ frames := 2, cells := 0, slots := 0, locals := 42 }) (va_Pc [.ref h0, .ref h1, .int p2] (mt_S (dC, dI) cZ cI cL sz [(h0, .inr (1, [.ref h0_text])), (h0_text, .inr (4, [.ref h0_text_bytes, .int v_text_length])), (h0_text_bytes, .inl (cI, 600, .inl v_text_bytes)), (h1, .inr (5, [.ref h1_had, .ref h1_there, .ref h1_corner, .ref h1_second, .ref h1_third, .int a1_seed, .int a1_size, .int a1_parts])), (h1_had, .inl (cZ, 62, .inl a1_had)), (h1_there, .inl (cZ, 62, .inl a1_there)), (h1_corner, .inl (cI, 62, .inl a1_corner)), (h1_second, .inl (cI, 62, .inl a1_second)), (h1_third, .inl (cI, 62, .inl a1_third))])) (va_Qv (fun (_ : Unit) => True) (fun _ t => va_P (dC, dI) vwCl [(h0, .inr (1, [.ref h0_text])), (h0_text, .inr (4, [.ref h0_text_bytes, .int q.1])), (h0_text_bytes, .inl (cI, 600, .inl q.2)), (h1, .inr (5, [.ref h1_had, .ref h1_there, .ref h1_corner, .ref h1_second, .ref h1_third, .int a1_seed, .int a1_size, .int a1_parts])), (h1_had, .inl (cZ, 62, .inl a1_had)), (h1_there, .inl (cZ, 62, .inl a1_there)), (h1_corner, .inl (cI, 62, .inl a1_corner)), (h1_second, .inl (cI, 62, .inl a1_second)), (h1_third, .inl (cI, 62, .inl a1_third))] t.heap ∧ va_D (va_A [(h0, .inr (1, [.ref h0_text])), (h0_text, .inr (4, [.ref h0_text_bytes, .int v_text_length])), (h0_text_bytes, .inl (cI, 600, .inl v_text_bytes)), (h1, .inr (5, [.ref h1_had, .ref h1_there, .ref h1_corner, .ref h1_second, .ref h1_third, .int a1_seed, .int a1_size, .int a1_parts])), (h1_had, .inl (cZ, 62, .inl a1_had)), (h1_there, .inl (cZ, 62, .inl a1_there)), (h1_corner, .inl (cI, 62, .inl a1_corner)), (h1_second, .inl (cI, 62, .inl a1_second)), (h1_third, .inl (cI, 62, .inl a1_third))] sz) [(h0, .inr (1, [.ref h0_text])), (h0_text, .inr (4, [.ref h0_text_bytes, .int q.1])), (h0_text_bytes, .inl (cI, 600, .inl q.2)), (h1, .inr (5, [.ref h1_had, .ref h1_there, .ref h1_corner, .ref h1_second, .ref h1_third, .int a1_seed, .int a1_size, .int a1_parts])), (h1_had, .inl (cZ, 62, .inl a1_had)), (h1_there, .inl (cZ, 62, .inl a1_there)), (h1_corner, .inl (cI, 62, .inl a1_corner)), (h1_second, .inl (cI, 62, .inl a1_second)), (h1_third, .inl (cI, 62, .inl a1_third))]) (va_A [(h0, .inr (1, [.ref h0_text])), (h0_text, .inr (4, [.ref h0_text_bytes, .int v_text_length])), (h0_text_bytes, .inl (cI, 600, .inl v_text_bytes)), (h1, .inr (5, [.ref h1_had, .ref h1_there, .ref h1_corner, .ref h1_second, .ref h1_third, .int a1_seed, .int a1_size, .int a1_parts])), (h1_had, .inl (cZ, 62, .inl a1_had)), (h1_there, .inl (cZ, 62, .inl a1_there)), (h1_corner, .inl (cI, 62, .inl a1_corner)), (h1_second, .inl (cI, 62, .inl a1_second)), (h1_third, .inl (cI, 62, .inl a1_third))] sz)) 0 0 (va_A [(h0, .inr (1, [.ref h0_text])), (h0_text, .inr (4, [.ref h0_text_bytes, .int v_text_length])), (h0_text_bytes, .inl (cI, 600, .inl v_text_bytes)), (h1, .inr (5, [.ref h1_had, .ref h1_there, .ref h1_corner, .ref h1_second, .ref h1_third, .int a1_seed, .int a1_size, .int a1_parts])), (h1_had, .inl (cZ, 62, .inl a1_had)), (h1_there, .inl (cZ, 62, .inl a1_there)), (h1_corner, .inl (cI, 62, .inl a1_corner)), (h1_second, .inl (cI, 62, .inl a1_second)), (h1_third, .inl (cI, 62, .inl a1_third))] sz) := by
  refine Met.ofW (cc := cX1_writePart) (maxL := 4) (ret := none) (by decide) rfl ?_
  intro p e s m args below meth c s₁ B hml hv
  obtain ⟨rfl, hsz, hP, hC, hD0⟩ := hv
  have hx := B.exec
  have hb := B.bytes
  have hr := B.returns
  have hts := atoms_spec (ws := wsX1_writePart) B.pre
  have hown : s.vm.findClass RX1 = some m.cls := findClass_of_methodNamed B.named
  have hlocks := B.notSynchronized
  have hK := hC.1
  have hiX1 : ∀ w ∈ wsX10, w ∈ wsX1_writePart := by decide +kernel
  subst hsz
  have hD := hD0.self (sz := s.heap.size)
  generalize hAe : va_A [(h0, .inr (1, [.ref h0_text])), (h0_text, .inr (4, [.ref h0_text_bytes, .int v_text_length])), (h0_text_bytes, .inl (cI, 600, .inl v_text_bytes)), (h1, .inr (5, [.ref h1_had, .ref h1_there, .ref h1_corner, .ref h1_second, .ref h1_third, .int a1_seed, .int a1_size, .int a1_parts])), (h1_had, .inl (cZ, 62, .inl a1_had)), (h1_there, .inl (cZ, 62, .inl a1_there)), (h1_corner, .inl (cI, 62, .inl a1_corner)), (h1_second, .inl (cI, 62, .inl a1_second)), (h1_third, .inl (cI, 62, .inl a1_third))] s.heap.size = A at hD ⊢
  have hA : ∀ q : Nat, s.heap.size ≤ q → A q := fun q h => by rw [← hAe]; exact Or.inr h
  have hS : va_S A s.heap s.heap [] := va_S.rf
  have hl := lv_entry [.ref h0, .ref h1, .int p2] (n := 4) (Nat.le_of_ble_eq_true rfl)
  rw [lg_entry_eq]
  generalize (lg_sl [.ref h0, .ref h1, .int p2] ++ List.replicate (4 - (lg_sl [.ref h0, .ref h1, .int p2]).length) Slot.unset).toArray = ls at hl ⊢
  have hl : lv_has ls 4 [(0, .ref h0), (1, .ref h1), (2, .int p2)] := hl
  rw [m_X1_writePart] at hm
  refine lv_iload_n hx hb dX1_writePart_0 rfl (lv_at hl 2 rfl) ?_
  obtain ⟨q1, hq1, hm⟩ := mt_bind hm
  refine vp_callSi (va_Run.run (va_runSN (As := [.int p2]) (rest := []) ⟨hx, hb, hml, hown, hts⟩ (c_X6_kindOf l dC dI cZ cI cL p2 q1 hq1) ⟨(va_cnB 1 hts gX1_writePart_X6_kindOf_n35 rfl rfl rfl (hC.2.m RX1 35 yX6_kindOf "ServiceDrawer" (by decide +kernel)) (hts (.initialized RX6) (by decide +kernel)) (by decide +kernel) ⟨Nat.le_of_ble_eq_true rfl, Nat.le_of_ble_eq_true rfl⟩), hts (.static yX6_kindOf) (by decide +kernel), trivial⟩ (mt_pR hC (hP.sub (ws' := []) [] rfl)) rfl rfl hl.1 rfl (lv_room (Nat.le_of_ble_eq_true rfl)) dX1_writePart_1 ⟨Nat.le_of_ble_eq_true rfl, Nat.le_of_ble_eq_true rfl⟩)) (fun r er => ?_)
  replace er := er.symm
  subst er
  refine lv_istore_n (lv' := [(3, .int q1), (0, .ref h0), (1, .ref h1), (2, .int p2)]) hx hb dX1_writePart_4 rfl hl (by decide) rfl (fun ls hl => ?_)
  refine lv_aload_n hx hb dX1_writePart_5 rfl (lv_at hl 1 rfl) ?_
  refine va_get (D := (dC, dI)) (ci := 1) (v := .ref h0_text) (C := RX1) (T := TX1) (N := 1) hx hb hts hiX1 hown hK hP 0 rfl rfl 0 (by decide) (hts (.fieldLink RX1 12 "ServiceDrawer$Printer" "text" "LServiceDrawer$Text;") (by decide +kernel)) (fun _ h9 => h9) rfl dX1_writePart_6 ?_
  refine lv_iload_n hx hb dX1_writePart_9 rfl (lv_at hl 0 rfl) ?_
  obtain ⟨K30, hK30, hm⟩ := mt_jx hm
  have J30 : ∀ (j0_30 : Int32), ∀ (H : Heap) (locs : List Loc) (ls : Array Slot), K30 j0_30 = some q → va_P (dC, dI) vwCl [(h0, .inr (1, [.ref h0_text])), (h0_text, .inr (4, [.ref h0_text_bytes, .int v_text_length])), (h0_text_bytes, .inl (cI, 600, .inl v_text_bytes)), (h1, .inr (5, [.ref h1_had, .ref h1_there, .ref h1_corner, .ref h1_second, .ref h1_third, .int a1_seed, .int a1_size, .int a1_parts])), (h1_had, .inl (cZ, 62, .inl a1_had)), (h1_there, .inl (cZ, 62, .inl a1_there)), (h1_corner, .inl (cI, 62, .inl a1_corner)), (h1_second, .inl (cI, 62, .inl a1_second)), (h1_third, .inl (cI, 62, .inl a1_third))] H → va_D A [(h0, .inr (1, [.ref h0_text])), (h0_text, .inr (4, [.ref h0_text_bytes, .int v_text_length])), (h0_text_bytes, .inl (cI, 600, .inl v_text_bytes)), (h1, .inr (5, [.ref h1_had, .ref h1_there, .ref h1_corner, .ref h1_second, .ref h1_third, .int a1_seed, .int a1_size, .int a1_parts])), (h1_had, .inl (cZ, 62, .inl a1_had)), (h1_there, .inl (cZ, 62, .inl a1_there)), (h1_corner, .inl (cI, 62, .inl a1_corner)), (h1_second, .inl (cI, 62, .inl a1_second)), (h1_third, .inl (cI, 62, .inl a1_third))] → va_S A s.heap H locs → lv_has ls 4 [(0, .ref h0), (1, .ref h1), (2, .int p2), (3, .int q1)] → W p l e (headSpec wsX1_writePart ({ frames := 2, cells := 0, slots := 0, locals := 42 })).room s m [.ref h0, .ref h1, .int p2].toArray below meth c H locs 0 0 (MQ below (va_Qv (fun (_ : Unit) => True) (fun _ t => va_P (dC, dI) vwCl [(h0, .inr (1, [.ref h0_text])), (h0_text, .inr (4, [.ref h0_text_bytes, .int q.1])), (h0_text_bytes, .inl (cI, 600, .inl q.2)), (h1, .inr (5, [.ref h1_had, .ref h1_there, .ref h1_corner, .ref h1_second, .ref h1_third, .int a1_seed, .int a1_size, .int a1_parts])), (h1_had, .inl (cZ, 62, .inl a1_had)), (h1_there, .inl (cZ, 62, .inl a1_there)), (h1_corner, .inl (cI, 62, .inl a1_corner)), (h1_second, .inl (cI, 62, .inl a1_second)), (h1_third, .inl (cI, 62, .inl a1_third))] t.heap ∧ va_D A [(h0, .inr (1, [.ref h0_text])), (h0_text, .inr (4, [.ref h0_text_bytes, .int q.1])), (h0_text_bytes, .inl (cI, 600, .inl q.2)), (h1, .inr (5, [.ref h1_had, .ref h1_there, .ref h1_corner, .ref h1_second, .ref h1_third, .int a1_seed, .int a1_size, .int a1_parts])), (h1_had, .inl (cZ, 62, .inl a1_had)), (h1_there, .inl (cZ, 62, .inl a1_there)), (h1_corner, .inl (cI, 62, .inl a1_corner)), (h1_second, .inl (cI, 62, .inl a1_second)), (h1_third, .inl (cI, 62, .inl a1_third))]) A) [.ref h0, .ref h1, .int p2].toArray s 0 0 A) (F0 m 30 ls [.int j0_30, .ref h0_text]) := by
    intro j0_30 H locs ls hm hP hD hS hl
    replace hm := mt_app1 hK30 hm
    obtain ⟨q2, hq2, hm⟩ := mt_bind hm
    refine mt_callv (wr := [(h0, .inr (1, [.ref h0_text])), (h1, .inr (5, [.ref h1_had, .ref h1_there, .ref h1_corner, .ref h1_second, .ref h1_third, .int a1_seed, .int a1_size, .int a1_parts])), (h1_had, .inl (cZ, 62, .inl a1_had)), (h1_there, .inl (cZ, 62, .inl a1_there)), (h1_corner, .inl (cI, 62, .inl a1_corner)), (h1_second, .inl (cI, 62, .inl a1_second)), (h1_third, .inl (cI, 62, .inl a1_third))]) hP hD hS hA [1, 2] [0, 3, 4, 5, 6, 7, 8] rfl rfl (by decide) (by decide) (va_runV (As := [.int j0_30]) (rest := []) ⟨hx, hb, hml, hown, hts⟩ (c_X4_add l dC dI cZ cI cL h0_text h0_text_bytes H.size j0_30 v_text_length v_text_bytes q2 hq2) (cwV 1 hts gX1_writePart_X4_add rfl rfl rfl (by decide +kernel) ⟨Nat.le_of_ble_eq_true rfl, Nat.le_of_ble_eq_true rfl⟩) (mt_vS (q := (RX4, TX4, 2)) 4 hC (hP.sub (ws' := [(h0_text, .inr (4, [.ref h0_text_bytes, .int v_text_length])), (h0_text_bytes, .inl (cI, 600, .inl v_text_bytes))]) [1, 2] rfl) (hD.sub (ws' := [(h0_text, .inr (4, [.ref h0_text_bytes, .int v_text_length])), (h0_text_bytes, .inl (cI, 600, .inl v_text_bytes))]) [1, 2] (by decide) rfl) rfl rfl) rfl rfl hl.1 rfl (lv_room (Nat.le_of_ble_eq_true rfl)) dX1_writePart_30 ⟨Nat.le_of_ble_eq_true rfl, Nat.le_of_ble_eq_true rfl⟩) (fun H locs hP hD hS => ?_)
    have hP : va_P (dC, dI) vwCl [(h0, .inr (1, [.ref h0_text])), (h0_text, .inr (4, [.ref h0_text_bytes, .int q2.1])), (h0_text_bytes, .inl (cI, 600, .inl q2.2)), (h1, .inr (5, [.ref h1_had, .ref h1_there, .ref h1_corner, .ref h1_second, .ref h1_third, .int a1_seed, .int a1_size, .int a1_parts])), (h1_had, .inl (cZ, 62, .inl a1_had)), (h1_there, .inl (cZ, 62, .inl a1_there)), (h1_corner, .inl (cI, 62, .inl a1_corner)), (h1_second, .inl (cI, 62, .inl a1_second)), (h1_third, .inl (cI, 62, .inl a1_third))] H := hP.sub [0, 7, 8, 1, 2, 3, 4, 5, 6] rfl
    have hD : va_D A [(h0, .inr (1, [.ref h0_text])), (h0_text, .inr (4, [.ref h0_text_bytes, .int q2.1])), (h0_text_bytes, .inl (cI, 600, .inl q2.2)), (h1, .inr (5, [.ref h1_had, .ref h1_there, .ref h1_corner, .ref h1_second, .ref h1_third, .int a1_seed, .int a1_size, .int a1_parts])), (h1_had, .inl (cZ, 62, .inl a1_had)), (h1_there, .inl (cZ, 62, .inl a1_there)), (h1_corner, .inl (cI, 62, .inl a1_corner)), (h1_second, .inl (cI, 62, .inl a1_second)), (h1_third, .inl (cI, 62, .inl a1_third))] := hD.sub [0, 7, 8, 1, 2, 3, 4, 5, 6] (by decide) rfl
    refine lv_aload_n hx hb dX1_writePart_33 rfl (lv_at hl 0 rfl) ?_
    refine lv_aload_n hx hb dX1_writePart_34 rfl (lv_at hl 1 rfl) ?_
    refine lv_iload_n hx hb dX1_writePart_35 rfl (lv_at hl 2 rfl) ?_
    obtain ⟨q3, hq3, hm⟩ := mt_bind hm
    refine vp_callSi (va_Run.run (va_runV (As := [.int p2]) (rest := [.ref h0]) ⟨hx, hb, hml, hown, hts⟩ (c_X5_cornerOf l dC dI cZ cI cL h1 h1_had h1_there h1_corner h1_second h1_third p2 a1_seed a1_size a1_parts a1_had a1_there a1_corner a1_second a1_third q3 hq3) (cwV 1 hts gX1_writePart_X5_cornerOf rfl rfl rfl (by decide +kernel) ⟨Nat.le_of_ble_eq_true rfl, Nat.le_of_ble_eq_true rfl⟩) (mt_vR (q := (RX5, TX5, 8)) 5 hC (hP.sub (ws' := [(h1, .inr (5, [.ref h1_had, .ref h1_there, .ref h1_corner, .ref h1_second, .ref h1_third, .int a1_seed, .int a1_size, .int a1_parts])), (h1_had, .inl (cZ, 62, .inl a1_had)), (h1_there, .inl (cZ, 62, .inl a1_there)), (h1_corner, .inl (cI, 62, .inl a1_corner)), (h1_second, .inl (cI, 62, .inl a1_second)), (h1_third, .inl (cI, 62, .inl a1_third))]) [3, 4, 5, 6, 7, 8] rfl) rfl rfl) rfl rfl hl.1 rfl (lv_room (Nat.le_of_ble_eq_true rfl)) dX1_writePart_36 ⟨Nat.le_of_ble_eq_true rfl, Nat.le_of_ble_eq_true rfl⟩)) (fun r er => ?_)
    replace er := er.symm
    subst er
    obtain ⟨q4, hq4, hm⟩ := mt_bind hm
    refine mt_callv (wr := [(h1, .inr (5, [.ref h1_had, .ref h1_there, .ref h1_corner, .ref h1_second, .ref h1_third, .int a1_seed, .int a1_size, .int a1_parts])), (h1_had, .inl (cZ, 62, .inl a1_had)), (h1_there, .inl (cZ, 62, .inl a1_there)), (h1_corner, .inl (cI, 62, .inl a1_corner)), (h1_second, .inl (cI, 62, .inl a1_second)), (h1_third, .inl (cI, 62, .inl a1_third))]) hP hD hS hA [0, 1, 2] [3, 4, 5, 6, 7, 8] rfl rfl (by decide) (by decide) (va_runV (As := [.int q3]) (rest := []) ⟨hx, hb, hml, hown, hts⟩ (c_X1_writeNumber l dC dI cZ cI cL h0 h0_text h0_text_bytes H.size q3 q2.1 q2.2 q4 hq4) (cwV 1 hts gX1_writePart_X1_writeNumber rfl rfl rfl (by decide +kernel) ⟨Nat.le_of_ble_eq_true rfl, Nat.le_of_ble_eq_true rfl⟩) (mt_vS (q := (RX1, TX1, 1)) 1 hC (hP.sub (ws' := [(h0, .inr (1, [.ref h0_text])), (h0_text, .inr (4, [.ref h0_text_bytes, .int q2.1])), (h0_text_bytes, .inl (cI, 600, .inl q2.2))]) [0, 1, 2] rfl) (hD.sub (ws' := [(h0, .inr (1, [.ref h0_text])), (h0_text, .inr (4, [.ref h0_text_bytes, .int q2.1])), (h0_text_bytes, .inl (cI, 600, .inl q2.2))]) [0, 1, 2] (by decide) rfl) rfl rfl) rfl rfl hl.1 rfl (lv_room (Nat.le_of_ble_eq_true rfl)) dX1_writePart_39 ⟨Nat.le_of_ble_eq_true rfl, Nat.le_of_ble_eq_true rfl⟩) (fun H locs hP hD hS => ?_)
    have hP : va_P (dC, dI) vwCl [(h0, .inr (1, [.ref h0_text])), (h0_text, .inr (4, [.ref h0_text_bytes, .int q4.1])), (h0_text_bytes, .inl (cI, 600, .inl q4.2)), (h1, .inr (5, [.ref h1_had, .ref h1_there, .ref h1_corner, .ref h1_second, .ref h1_third, .int a1_seed, .int a1_size, .int a1_parts])), (h1_had, .inl (cZ, 62, .inl a1_had)), (h1_there, .inl (cZ, 62, .inl a1_there)), (h1_corner, .inl (cI, 62, .inl a1_corner)), (h1_second, .inl (cI, 62, .inl a1_second)), (h1_third, .inl (cI, 62, .inl a1_third))] H := hP.sub [6, 7, 8, 0, 1, 2, 3, 4, 5] rfl
    have hD : va_D A [(h0, .inr (1, [.ref h0_text])), (h0_text, .inr (4, [.ref h0_text_bytes, .int q4.1])), (h0_text_bytes, .inl (cI, 600, .inl q4.2)), (h1, .inr (5, [.ref h1_had, .ref h1_there, .ref h1_corner, .ref h1_second, .ref h1_third, .int a1_seed, .int a1_size, .int a1_parts])), (h1_had, .inl (cZ, 62, .inl a1_had)), (h1_there, .inl (cZ, 62, .inl a1_there)), (h1_corner, .inl (cI, 62, .inl a1_corner)), (h1_second, .inl (cI, 62, .inl a1_second)), (h1_third, .inl (cI, 62, .inl a1_third))] := hD.sub [6, 7, 8, 0, 1, 2, 3, 4, 5] (by decide) rfl
    refine lv_aload_n hx hb dX1_writePart_42 rfl (lv_at hl 0 rfl) ?_
    refine va_get (D := (dC, dI)) (ci := 1) (v := .ref h0_text) (C := RX1) (T := TX1) (N := 1) hx hb hts hiX1 hown hK hP 0 rfl rfl 0 (by decide) (hts (.fieldLink RX1 12 "ServiceDrawer$Printer" "text" "LServiceDrawer$Text;") (by decide +kernel)) (fun _ h9 => h9) rfl dX1_writePart_43 ?_
    refine lv_iload_n hx hb dX1_writePart_46 rfl (lv_at hl 3 rfl) ?_
    obtain ⟨K57, hK57, hm⟩ := mt_jx hm
    have J57 : ∀ (j0_57 : Int32), ∀ (H : Heap) (locs : List Loc) (ls : Array Slot), K57 j0_57 = some q → va_P (dC, dI) vwCl [(h0, .inr (1, [.ref h0_text])), (h0_text, .inr (4, [.ref h0_text_bytes, .int q4.1])), (h0_text_bytes, .inl (cI, 600, .inl q4.2)), (h1, .inr (5, [.ref h1_had, .ref h1_there, .ref h1_corner, .ref h1_second, .ref h1_third, .int a1_seed, .int a1_size, .int a1_parts])), (h1_had, .inl (cZ, 62, .inl a1_had)), (h1_there, .inl (cZ, 62, .inl a1_there)), (h1_corner, .inl (cI, 62, .inl a1_corner)), (h1_second, .inl (cI, 62, .inl a1_second)), (h1_third, .inl (cI, 62, .inl a1_third))] H → va_D A [(h0, .inr (1, [.ref h0_text])), (h0_text, .inr (4, [.ref h0_text_bytes, .int q4.1])), (h0_text_bytes, .inl (cI, 600, .inl q4.2)), (h1, .inr (5, [.ref h1_had, .ref h1_there, .ref h1_corner, .ref h1_second, .ref h1_third, .int a1_seed, .int a1_size, .int a1_parts])), (h1_had, .inl (cZ, 62, .inl a1_had)), (h1_there, .inl (cZ, 62, .inl a1_there)), (h1_corner, .inl (cI, 62, .inl a1_corner)), (h1_second, .inl (cI, 62, .inl a1_second)), (h1_third, .inl (cI, 62, .inl a1_third))] → va_S A s.heap H locs → lv_has ls 4 [(0, .ref h0), (1, .ref h1), (2, .int p2), (3, .int q1)] → W p l e (headSpec wsX1_writePart ({ frames := 2, cells := 0, slots := 0, locals := 42 })).room s m [.ref h0, .ref h1, .int p2].toArray below meth c H locs 0 0 (MQ below (va_Qv (fun (_ : Unit) => True) (fun _ t => va_P (dC, dI) vwCl [(h0, .inr (1, [.ref h0_text])), (h0_text, .inr (4, [.ref h0_text_bytes, .int q.1])), (h0_text_bytes, .inl (cI, 600, .inl q.2)), (h1, .inr (5, [.ref h1_had, .ref h1_there, .ref h1_corner, .ref h1_second, .ref h1_third, .int a1_seed, .int a1_size, .int a1_parts])), (h1_had, .inl (cZ, 62, .inl a1_had)), (h1_there, .inl (cZ, 62, .inl a1_there)), (h1_corner, .inl (cI, 62, .inl a1_corner)), (h1_second, .inl (cI, 62, .inl a1_second)), (h1_third, .inl (cI, 62, .inl a1_third))] t.heap ∧ va_D A [(h0, .inr (1, [.ref h0_text])), (h0_text, .inr (4, [.ref h0_text_bytes, .int q.1])), (h0_text_bytes, .inl (cI, 600, .inl q.2)), (h1, .inr (5, [.ref h1_had, .ref h1_there, .ref h1_corner, .ref h1_second, .ref h1_third, .int a1_seed, .int a1_size, .int a1_parts])), (h1_had, .inl (cZ, 62, .inl a1_had)), (h1_there, .inl (cZ, 62, .inl a1_there)), (h1_corner, .inl (cI, 62, .inl a1_corner)), (h1_second, .inl (cI, 62, .inl a1_second)), (h1_third, .inl (cI, 62, .inl a1_third))]) A) [.ref h0, .ref h1, .int p2].toArray s 0 0 A) (F0 m 57 ls [.int j0_57, .ref h0_text]) := by
      intro j0_57 H locs ls hm hP hD hS hl
      replace hm := mt_app1 hK57 hm
      obtain ⟨q5, hq5, hm⟩ := mt_bind hm
      refine mt_callv (wr := [(h0, .inr (1, [.ref h0_text])), (h1, .inr (5, [.ref h1_had, .ref h1_there, .ref h1_corner, .ref h1_second, .ref h1_third, .int a1_seed, .int a1_size, .int a1_parts])), (h1_had, .inl (cZ, 62, .inl a1_had)), (h1_there, .inl (cZ, 62, .inl a1_there)), (h1_corner, .inl (cI, 62, .inl a1_corner)), (h1_second, .inl (cI, 62, .inl a1_second)), (h1_third, .inl (cI, 62, .inl a1_third))]) hP hD hS hA [1, 2] [0, 3, 4, 5, 6, 7, 8] rfl rfl (by decide) (by decide) (va_runV (As := [.int j0_57]) (rest := []) ⟨hx, hb, hml, hown, hts⟩ (c_X4_add l dC dI cZ cI cL h0_text h0_text_bytes H.size j0_57 q4.1 q4.2 q5 hq5) (cwV 1 hts gX1_writePart_X4_add rfl rfl rfl (by decide +kernel) ⟨Nat.le_of_ble_eq_true rfl, Nat.le_of_ble_eq_true rfl⟩) (mt_vS (q := (RX4, TX4, 2)) 4 hC (hP.sub (ws' := [(h0_text, .inr (4, [.ref h0_text_bytes, .int q4.1])), (h0_text_bytes, .inl (cI, 600, .inl q4.2))]) [1, 2] rfl) (hD.sub (ws' := [(h0_text, .inr (4, [.ref h0_text_bytes, .int q4.1])), (h0_text_bytes, .inl (cI, 600, .inl q4.2))]) [1, 2] (by decide) rfl) rfl rfl) rfl rfl hl.1 rfl (lv_room (Nat.le_of_ble_eq_true rfl)) dX1_writePart_57 ⟨Nat.le_of_ble_eq_true rfl, Nat.le_of_ble_eq_true rfl⟩) (fun H locs hP hD hS => ?_)
      have hP : va_P (dC, dI) vwCl [(h0, .inr (1, [.ref h0_text])), (h0_text, .inr (4, [.ref h0_text_bytes, .int q5.1])), (h0_text_bytes, .inl (cI, 600, .inl q5.2)), (h1, .inr (5, [.ref h1_had, .ref h1_there, .ref h1_corner, .ref h1_second, .ref h1_third, .int a1_seed, .int a1_size, .int a1_parts])), (h1_had, .inl (cZ, 62, .inl a1_had)), (h1_there, .inl (cZ, 62, .inl a1_there)), (h1_corner, .inl (cI, 62, .inl a1_corner)), (h1_second, .inl (cI, 62, .inl a1_second)), (h1_third, .inl (cI, 62, .inl a1_third))] H := hP.sub [0, 7, 8, 1, 2, 3, 4, 5, 6] rfl
      have hD : va_D A [(h0, .inr (1, [.ref h0_text])), (h0_text, .inr (4, [.ref h0_text_bytes, .int q5.1])), (h0_text_bytes, .inl (cI, 600, .inl q5.2)), (h1, .inr (5, [.ref h1_had, .ref h1_there, .ref h1_corner, .ref h1_second, .ref h1_third, .int a1_seed, .int a1_size, .int a1_parts])), (h1_had, .inl (cZ, 62, .inl a1_had)), (h1_there, .inl (cZ, 62, .inl a1_there)), (h1_corner, .inl (cI, 62, .inl a1_corner)), (h1_second, .inl (cI, 62, .inl a1_second)), (h1_third, .inl (cI, 62, .inl a1_third))] := hD.sub [0, 7, 8, 1, 2, 3, 4, 5, 6] (by decide) rfl
      refine lv_aload_n hx hb dX1_writePart_60 rfl (lv_at hl 0 rfl) ?_
      refine lv_aload_n hx hb dX1_writePart_61 rfl (lv_at hl 1 rfl) ?_
      refine lv_iload_n hx hb dX1_writePart_62 rfl (lv_at hl 2 rfl) ?_
      obtain ⟨q6, hq6, hm⟩ := mt_bind hm
      refine vp_callSi (va_Run.run (va_runV (As := [.int p2]) (rest := [.ref h0]) ⟨hx, hb, hml, hown, hts⟩ (c_X5_secondOf l dC dI cZ cI cL h1 h1_had h1_there h1_corner h1_second h1_third p2 a1_seed a1_size a1_parts a1_had a1_there a1_corner a1_second a1_third q6 hq6) (cwV 1 hts gX1_writePart_X5_secondOf rfl rfl rfl (by decide +kernel) ⟨Nat.le_of_ble_eq_true rfl, Nat.le_of_ble_eq_true rfl⟩) (mt_vR (q := (RX5, TX5, 8)) 5 hC (hP.sub (ws' := [(h1, .inr (5, [.ref h1_had, .ref h1_there, .ref h1_corner, .ref h1_second, .ref h1_third, .int a1_seed, .int a1_size, .int a1_parts])), (h1_had, .inl (cZ, 62, .inl a1_had)), (h1_there, .inl (cZ, 62, .inl a1_there)), (h1_corner, .inl (cI, 62, .inl a1_corner)), (h1_second, .inl (cI, 62, .inl a1_second)), (h1_third, .inl (cI, 62, .inl a1_third))]) [3, 4, 5, 6, 7, 8] rfl) rfl rfl) rfl rfl hl.1 rfl (lv_room (Nat.le_of_ble_eq_true rfl)) dX1_writePart_63 ⟨Nat.le_of_ble_eq_true rfl, Nat.le_of_ble_eq_true rfl⟩)) (fun r er => ?_)
      replace er := er.symm
      subst er
      obtain ⟨q7, hq7, hm⟩ := mt_bind hm
      refine mt_callv (wr := [(h1, .inr (5, [.ref h1_had, .ref h1_there, .ref h1_corner, .ref h1_second, .ref h1_third, .int a1_seed, .int a1_size, .int a1_parts])), (h1_had, .inl (cZ, 62, .inl a1_had)), (h1_there, .inl (cZ, 62, .inl a1_there)), (h1_corner, .inl (cI, 62, .inl a1_corner)), (h1_second, .inl (cI, 62, .inl a1_second)), (h1_third, .inl (cI, 62, .inl a1_third))]) hP hD hS hA [0, 1, 2] [3, 4, 5, 6, 7, 8] rfl rfl (by decide) (by decide) (va_runV (As := [.int q6]) (rest := []) ⟨hx, hb, hml, hown, hts⟩ (c_X1_writeNumber l dC dI cZ cI cL h0 h0_text h0_text_bytes H.size q6 q5.1 q5.2 q7 hq7) (cwV 1 hts gX1_writePart_X1_writeNumber rfl rfl rfl (by decide +kernel) ⟨Nat.le_of_ble_eq_true rfl, Nat.le_of_ble_eq_true rfl⟩) (mt_vS (q := (RX1, TX1, 1)) 1 hC (hP.sub (ws' := [(h0, .inr (1, [.ref h0_text])), (h0_text, .inr (4, [.ref h0_text_bytes, .int q5.1])), (h0_text_bytes, .inl (cI, 600, .inl q5.2))]) [0, 1, 2] rfl) (hD.sub (ws' := [(h0, .inr (1, [.ref h0_text])), (h0_text, .inr (4, [.ref h0_text_bytes, .int q5.1])), (h0_text_bytes, .inl (cI, 600, .inl q5.2))]) [0, 1, 2] (by decide) rfl) rfl rfl) rfl rfl hl.1 rfl (lv_room (Nat.le_of_ble_eq_true rfl)) dX1_writePart_66 ⟨Nat.le_of_ble_eq_true rfl, Nat.le_of_ble_eq_true rfl⟩) (fun H locs hP hD hS => ?_)
      have hP : va_P (dC, dI) vwCl [(h0, .inr (1, [.ref h0_text])), (h0_text, .inr (4, [.ref h0_text_bytes, .int q7.1])), (h0_text_bytes, .inl (cI, 600, .inl q7.2)), (h1, .inr (5, [.ref h1_had, .ref h1_there, .ref h1_corner, .ref h1_second, .ref h1_third, .int a1_seed, .int a1_size, .int a1_parts])), (h1_had, .inl (cZ, 62, .inl a1_had)), (h1_there, .inl (cZ, 62, .inl a1_there)), (h1_corner, .inl (cI, 62, .inl a1_corner)), (h1_second, .inl (cI, 62, .inl a1_second)), (h1_third, .inl (cI, 62, .inl a1_third))] H := hP.sub [6, 7, 8, 0, 1, 2, 3, 4, 5] rfl
      have hD : va_D A [(h0, .inr (1, [.ref h0_text])), (h0_text, .inr (4, [.ref h0_text_bytes, .int q7.1])), (h0_text_bytes, .inl (cI, 600, .inl q7.2)), (h1, .inr (5, [.ref h1_had, .ref h1_there, .ref h1_corner, .ref h1_second, .ref h1_third, .int a1_seed, .int a1_size, .int a1_parts])), (h1_had, .inl (cZ, 62, .inl a1_had)), (h1_there, .inl (cZ, 62, .inl a1_there)), (h1_corner, .inl (cI, 62, .inl a1_corner)), (h1_second, .inl (cI, 62, .inl a1_second)), (h1_third, .inl (cI, 62, .inl a1_third))] := hD.sub [6, 7, 8, 0, 1, 2, 3, 4, 5] (by decide) rfl
      refine lv_iload_n hx hb dX1_writePart_69 rfl (lv_at hl 3 rfl) ?_
      refine lv_iconst (v := (1 : Int32)) hx hb dX1_writePart_70 (by decide) ?_
      refine lv_icmp_eq (tgt := 101) hx hb dX1_writePart_71 (by decide) (fun c8 => ?_) (fun c8 => ?_)
      · replace hm := mt_pos c8 hm
        obtain rfl := Option.some.inj hm
        exact W.vret hx hb hr (fun t ht hW => ⟨⟨(), rfl, trivial, by rw [ht]; exact hP, hD⟩, hS.F ht⟩) hS.2.2 dX1_writePart_101
      · replace hm := mt_neg c8 hm
        refine lv_aload_n hx hb dX1_writePart_74 rfl (lv_at hl 0 rfl) ?_
        refine va_get (D := (dC, dI)) (ci := 1) (v := .ref h0_text) (C := RX1) (T := TX1) (N := 1) hx hb hts hiX1 hown hK hP 0 rfl rfl 0 (by decide) (hts (.fieldLink RX1 12 "ServiceDrawer$Printer" "text" "LServiceDrawer$Text;") (by decide +kernel)) (fun _ h9 => h9) rfl dX1_writePart_75 ?_
        refine lv_iload_n hx hb dX1_writePart_78 rfl (lv_at hl 3 rfl) ?_
        obtain ⟨K89, hK89, hm⟩ := mt_jx hm
        have J89 : ∀ (j0_89 : Int32), ∀ (H : Heap) (locs : List Loc) (ls : Array Slot), K89 j0_89 = some q → va_P (dC, dI) vwCl [(h0, .inr (1, [.ref h0_text])), (h0_text, .inr (4, [.ref h0_text_bytes, .int q7.1])), (h0_text_bytes, .inl (cI, 600, .inl q7.2)), (h1, .inr (5, [.ref h1_had, .ref h1_there, .ref h1_corner, .ref h1_second, .ref h1_third, .int a1_seed, .int a1_size, .int a1_parts])), (h1_had, .inl (cZ, 62, .inl a1_had)), (h1_there, .inl (cZ, 62, .inl a1_there)), (h1_corner, .inl (cI, 62, .inl a1_corner)), (h1_second, .inl (cI, 62, .inl a1_second)), (h1_third, .inl (cI, 62, .inl a1_third))] H → va_D A [(h0, .inr (1, [.ref h0_text])), (h0_text, .inr (4, [.ref h0_text_bytes, .int q7.1])), (h0_text_bytes, .inl (cI, 600, .inl q7.2)), (h1, .inr (5, [.ref h1_had, .ref h1_there, .ref h1_corner, .ref h1_second, .ref h1_third, .int a1_seed, .int a1_size, .int a1_parts])), (h1_had, .inl (cZ, 62, .inl a1_had)), (h1_there, .inl (cZ, 62, .inl a1_there)), (h1_corner, .inl (cI, 62, .inl a1_corner)), (h1_second, .inl (cI, 62, .inl a1_second)), (h1_third, .inl (cI, 62, .inl a1_third))] → va_S A s.heap H locs → lv_has ls 4 [(0, .ref h0), (1, .ref h1), (2, .int p2), (3, .int q1)] → W p l e (headSpec wsX1_writePart ({ frames := 2, cells := 0, slots := 0, locals := 42 })).room s m [.ref h0, .ref h1, .int p2].toArray below meth c H locs 0 0 (MQ below (va_Qv (fun (_ : Unit) => True) (fun _ t => va_P (dC, dI) vwCl [(h0, .inr (1, [.ref h0_text])), (h0_text, .inr (4, [.ref h0_text_bytes, .int q.1])), (h0_text_bytes, .inl (cI, 600, .inl q.2)), (h1, .inr (5, [.ref h1_had, .ref h1_there, .ref h1_corner, .ref h1_second, .ref h1_third, .int a1_seed, .int a1_size, .int a1_parts])), (h1_had, .inl (cZ, 62, .inl a1_had)), (h1_there, .inl (cZ, 62, .inl a1_there)), (h1_corner, .inl (cI, 62, .inl a1_corner)), (h1_second, .inl (cI, 62, .inl a1_second)), (h1_third, .inl (cI, 62, .inl a1_third))] t.heap ∧ va_D A [(h0, .inr (1, [.ref h0_text])), (h0_text, .inr (4, [.ref h0_text_bytes, .int q.1])), (h0_text_bytes, .inl (cI, 600, .inl q.2)), (h1, .inr (5, [.ref h1_had, .ref h1_there, .ref h1_corner, .ref h1_second, .ref h1_third, .int a1_seed, .int a1_size, .int a1_parts])), (h1_had, .inl (cZ, 62, .inl a1_had)), (h1_there, .inl (cZ, 62, .inl a1_there)), (h1_corner, .inl (cI, 62, .inl a1_corner)), (h1_second, .inl (cI, 62, .inl a1_second)), (h1_third, .inl (cI, 62, .inl a1_third))]) A) [.ref h0, .ref h1, .int p2].toArray s 0 0 A) (F0 m 89 ls [.int j0_89, .ref h0_text]) := by
          intro j0_89 H locs ls hm hP hD hS hl
          replace hm := mt_app1 hK89 hm
          obtain ⟨q9, hq9, hm⟩ := mt_bind hm
          refine mt_callv (wr := [(h0, .inr (1, [.ref h0_text])), (h1, .inr (5, [.ref h1_had, .ref h1_there, .ref h1_corner, .ref h1_second, .ref h1_third, .int a1_seed, .int a1_size, .int a1_parts])), (h1_had, .inl (cZ, 62, .inl a1_had)), (h1_there, .inl (cZ, 62, .inl a1_there)), (h1_corner, .inl (cI, 62, .inl a1_corner)), (h1_second, .inl (cI, 62, .inl a1_second)), (h1_third, .inl (cI, 62, .inl a1_third))]) hP hD hS hA [1, 2] [0, 3, 4, 5, 6, 7, 8] rfl rfl (by decide) (by decide) (va_runV (As := [.int j0_89]) (rest := []) ⟨hx, hb, hml, hown, hts⟩ (c_X4_add l dC dI cZ cI cL h0_text h0_text_bytes H.size j0_89 q7.1 q7.2 q9 hq9) (cwV 1 hts gX1_writePart_X4_add rfl rfl rfl (by decide +kernel) ⟨Nat.le_of_ble_eq_true rfl, Nat.le_of_ble_eq_true rfl⟩) (mt_vS (q := (RX4, TX4, 2)) 4 hC (hP.sub (ws' := [(h0_text, .inr (4, [.ref h0_text_bytes, .int q7.1])), (h0_text_bytes, .inl (cI, 600, .inl q7.2))]) [1, 2] rfl) (hD.sub (ws' := [(h0_text, .inr (4, [.ref h0_text_bytes, .int q7.1])), (h0_text_bytes, .inl (cI, 600, .inl q7.2))]) [1, 2] (by decide) rfl) rfl rfl) rfl rfl hl.1 rfl (lv_room (Nat.le_of_ble_eq_true rfl)) dX1_writePart_89 ⟨Nat.le_of_ble_eq_true rfl, Nat.le_of_ble_eq_true rfl⟩) (fun H locs hP hD hS => ?_)
          have hP : va_P (dC, dI) vwCl [(h0, .inr (1, [.ref h0_text])), (h0_text, .inr (4, [.ref h0_text_bytes, .int q9.1])), (h0_text_bytes, .inl (cI, 600, .inl q9.2)), (h1, .inr (5, [.ref h1_had, .ref h1_there, .ref h1_corner, .ref h1_second, .ref h1_third, .int a1_seed, .int a1_size, .int a1_parts])), (h1_had, .inl (cZ, 62, .inl a1_had)), (h1_there, .inl (cZ, 62, .inl a1_there)), (h1_corner, .inl (cI, 62, .inl a1_corner)), (h1_second, .inl (cI, 62, .inl a1_second)), (h1_third, .inl (cI, 62, .inl a1_third))] H := hP.sub [0, 7, 8, 1, 2, 3, 4, 5, 6] rfl
          have hD : va_D A [(h0, .inr (1, [.ref h0_text])), (h0_text, .inr (4, [.ref h0_text_bytes, .int q9.1])), (h0_text_bytes, .inl (cI, 600, .inl q9.2)), (h1, .inr (5, [.ref h1_had, .ref h1_there, .ref h1_corner, .ref h1_second, .ref h1_third, .int a1_seed, .int a1_size, .int a1_parts])), (h1_had, .inl (cZ, 62, .inl a1_had)), (h1_there, .inl (cZ, 62, .inl a1_there)), (h1_corner, .inl (cI, 62, .inl a1_corner)), (h1_second, .inl (cI, 62, .inl a1_second)), (h1_third, .inl (cI, 62, .inl a1_third))] := hD.sub [0, 7, 8, 1, 2, 3, 4, 5, 6] (by decide) rfl
          refine lv_aload_n hx hb dX1_writePart_92 rfl (lv_at hl 0 rfl) ?_
          refine lv_aload_n hx hb dX1_writePart_93 rfl (lv_at hl 1 rfl) ?_
          refine lv_iload_n hx hb dX1_writePart_94 rfl (lv_at hl 2 rfl) ?_
          obtain ⟨q10, hq10, hm⟩ := mt_bind hm
          refine vp_callSi (va_Run.run (va_runV (As := [.int p2]) (rest := [.ref h0]) ⟨hx, hb, hml, hown, hts⟩ (c_X5_thirdOf l dC dI cZ cI cL h1 h1_had h1_there h1_corner h1_second h1_third p2 a1_seed a1_size a1_parts a1_had a1_there a1_corner a1_second a1_third q10 hq10) (cwV 1 hts gX1_writePart_X5_thirdOf rfl rfl rfl (by decide +kernel) ⟨Nat.le_of_ble_eq_true rfl, Nat.le_of_ble_eq_true rfl⟩) (mt_vR (q := (RX5, TX5, 8)) 5 hC (hP.sub (ws' := [(h1, .inr (5, [.ref h1_had, .ref h1_there, .ref h1_corner, .ref h1_second, .ref h1_third, .int a1_seed, .int a1_size, .int a1_parts])), (h1_had, .inl (cZ, 62, .inl a1_had)), (h1_there, .inl (cZ, 62, .inl a1_there)), (h1_corner, .inl (cI, 62, .inl a1_corner)), (h1_second, .inl (cI, 62, .inl a1_second)), (h1_third, .inl (cI, 62, .inl a1_third))]) [3, 4, 5, 6, 7, 8] rfl) rfl rfl) rfl rfl hl.1 rfl (lv_room (Nat.le_of_ble_eq_true rfl)) dX1_writePart_95 ⟨Nat.le_of_ble_eq_true rfl, Nat.le_of_ble_eq_true rfl⟩)) (fun r er => ?_)
          replace er := er.symm
          subst er
          obtain ⟨q11, hq11, hm⟩ := mt_bind hm
          refine mt_callv (wr := [(h1, .inr (5, [.ref h1_had, .ref h1_there, .ref h1_corner, .ref h1_second, .ref h1_third, .int a1_seed, .int a1_size, .int a1_parts])), (h1_had, .inl (cZ, 62, .inl a1_had)), (h1_there, .inl (cZ, 62, .inl a1_there)), (h1_corner, .inl (cI, 62, .inl a1_corner)), (h1_second, .inl (cI, 62, .inl a1_second)), (h1_third, .inl (cI, 62, .inl a1_third))]) hP hD hS hA [0, 1, 2] [3, 4, 5, 6, 7, 8] rfl rfl (by decide) (by decide) (va_runV (As := [.int q10]) (rest := []) ⟨hx, hb, hml, hown, hts⟩ (c_X1_writeNumber l dC dI cZ cI cL h0 h0_text h0_text_bytes H.size q10 q9.1 q9.2 q11 hq11) (cwV 1 hts gX1_writePart_X1_writeNumber rfl rfl rfl (by decide +kernel) ⟨Nat.le_of_ble_eq_true rfl, Nat.le_of_ble_eq_true rfl⟩) (mt_vS (q := (RX1, TX1, 1)) 1 hC (hP.sub (ws' := [(h0, .inr (1, [.ref h0_text])), (h0_text, .inr (4, [.ref h0_text_bytes, .int q9.1])), (h0_text_bytes, .inl (cI, 600, .inl q9.2))]) [0, 1, 2] rfl) (hD.sub (ws' := [(h0, .inr (1, [.ref h0_text])), (h0_text, .inr (4, [.ref h0_text_bytes, .int q9.1])), (h0_text_bytes, .inl (cI, 600, .inl q9.2))]) [0, 1, 2] (by decide) rfl) rfl rfl) rfl rfl hl.1 rfl (lv_room (Nat.le_of_ble_eq_true rfl)) dX1_writePart_98 ⟨Nat.le_of_ble_eq_true rfl, Nat.le_of_ble_eq_true rfl⟩) (fun H locs hP hD hS => ?_)
          have hP : va_P (dC, dI) vwCl [(h0, .inr (1, [.ref h0_text])), (h0_text, .inr (4, [.ref h0_text_bytes, .int q11.1])), (h0_text_bytes, .inl (cI, 600, .inl q11.2)), (h1, .inr (5, [.ref h1_had, .ref h1_there, .ref h1_corner, .ref h1_second, .ref h1_third, .int a1_seed, .int a1_size, .int a1_parts])), (h1_had, .inl (cZ, 62, .inl a1_had)), (h1_there, .inl (cZ, 62, .inl a1_there)), (h1_corner, .inl (cI, 62, .inl a1_corner)), (h1_second, .inl (cI, 62, .inl a1_second)), (h1_third, .inl (cI, 62, .inl a1_third))] H := hP.sub [6, 7, 8, 0, 1, 2, 3, 4, 5] rfl
          have hD : va_D A [(h0, .inr (1, [.ref h0_text])), (h0_text, .inr (4, [.ref h0_text_bytes, .int q11.1])), (h0_text_bytes, .inl (cI, 600, .inl q11.2)), (h1, .inr (5, [.ref h1_had, .ref h1_there, .ref h1_corner, .ref h1_second, .ref h1_third, .int a1_seed, .int a1_size, .int a1_parts])), (h1_had, .inl (cZ, 62, .inl a1_had)), (h1_there, .inl (cZ, 62, .inl a1_there)), (h1_corner, .inl (cI, 62, .inl a1_corner)), (h1_second, .inl (cI, 62, .inl a1_second)), (h1_third, .inl (cI, 62, .inl a1_third))] := hD.sub [6, 7, 8, 0, 1, 2, 3, 4, 5] (by decide) rfl
          obtain rfl := Option.some.inj hm
          exact W.vret hx hb hr (fun t ht hW => ⟨⟨(), rfl, trivial, by rw [ht]; exact hP, hD⟩, hS.F ht⟩) hS.2.2 dX1_writePart_101
        refine lv_if_ne (tgt := 87) hx hb dX1_writePart_79 (by decide) (fun c12 => ?_) (fun c12 => ?_)
        · replace hm := mt_neg c12 hm
          refine lv_bipush (v := (64 : Int32)) hx hb dX1_writePart_87 (by decide) ?_
          exact J89 (64 : Int32) _ _ _ hm hP hD hS (lv_sub hl [0, 1, 2, 3] rfl)
        · replace hm := mt_pos c12 hm
          refine lv_bipush (v := (58 : Int32)) hx hb dX1_writePart_82 (by decide) ?_
          refine lv_goto (tgt := 89) hx hb dX1_writePart_84 (by decide) ?_
          exact J89 (58 : Int32) _ _ _ hm hP hD hS (lv_sub hl [0, 1, 2, 3] rfl)
    refine lv_if_ne (tgt := 55) hx hb dX1_writePart_47 (by decide) (fun c13 => ?_) (fun c13 => ?_)
    · replace hm := mt_neg c13 hm
      refine lv_bipush (v := (58 : Int32)) hx hb dX1_writePart_55 (by decide) ?_
      exact J57 (58 : Int32) _ _ _ hm hP hD hS (lv_sub hl [0, 1, 2, 3] rfl)
    · replace hm := mt_pos c13 hm
      refine lv_bipush (v := (45 : Int32)) hx hb dX1_writePart_50 (by decide) ?_
      refine lv_goto (tgt := 57) hx hb dX1_writePart_52 (by decide) ?_
      exact J57 (45 : Int32) _ _ _ hm hP hD hS (lv_sub hl [0, 1, 2, 3] rfl)
  refine lv_if_ne (tgt := 18) hx hb dX1_writePart_10 (by decide) (fun c14 => ?_) (fun c14 => ?_)
  · replace hm := mt_neg c14 hm
    refine lv_iload_n hx hb dX1_writePart_18 rfl (lv_at hl 0 rfl) ?_
    refine lv_iconst (v := (1 : Int32)) hx hb dX1_writePart_19 (by decide) ?_
    refine lv_icmp_ne (tgt := 28) hx hb dX1_writePart_20 (by decide) (fun c15 => ?_) (fun c15 => ?_)
    · replace hm := mt_neg c15 hm
      refine lv_bipush (v := (99 : Int32)) hx hb dX1_writePart_28 (by decide) ?_
      exact J30 (99 : Int32) _ _ _ hm hP hD hS (lv_sub hl [1, 2, 3, 0] rfl)
    · replace hm := mt_pos c15 hm
      refine lv_bipush (v := (117 : Int32)) hx hb dX1_writePart_23 (by decide) ?_
      refine lv_goto (tgt := 30) hx hb dX1_writePart_25 (by decide) ?_
      exact J30 (117 : Int32) _ _ _ hm hP hD hS (lv_sub hl [1, 2, 3, 0] rfl)
  · replace hm := mt_pos c14 hm
    refine lv_bipush (v := (115 : Int32)) hx hb dX1_writePart_13 (by decide) ?_
    refine lv_goto (tgt := 30) hx hb dX1_writePart_15 (by decide) ?_
    exact J30 (115 : Int32) _ _ _ hm hP hD hS (lv_sub hl [1, 2, 3, 0] rfl)
