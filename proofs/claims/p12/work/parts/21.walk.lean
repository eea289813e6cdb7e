def m_X7_isTwice_L12 (v_there : Nat → Int32) (v_first : Nat → Int32) (v_last : Nat → Int32) (x1_3 : Int32) (K73 : Int32 → Option (Int32)) : Nat → Int32 → Option (Int32)
  | 0, _ => none
  | n12 + 1, x2_12 => if x1_3 ≤ x2_12 then K73 x2_12 else if (¬ (x1_3 < 0 ∨ 62 ≤ x1_3.toNatClampNeg)) then if (v_there x1_3.toNatClampNeg) = 0 then m_X7_isTwice_L12 v_there v_first v_last x1_3 K73 n12 (x2_12 + (1 : Int32)) else if (¬ (x2_12 < 0 ∨ 62 ≤ x2_12.toNatClampNeg)) then if (v_there x2_12.toNatClampNeg) = 0 then m_X7_isTwice_L12 v_there v_first v_last x1_3 K73 n12 (x2_12 + (1 : Int32)) else if (¬ (x1_3 < 0 ∨ 62 ≤ x1_3.toNatClampNeg)) then if (¬ (x2_12 < 0 ∨ 62 ≤ x2_12.toNatClampNeg)) then if (v_last x1_3.toNatClampNeg) = (v_last x2_12.toNatClampNeg) then if (¬ (x1_3 < 0 ∨ 62 ≤ x1_3.toNatClampNeg)) then if (¬ (x2_12 < 0 ∨ 62 ≤ x2_12.toNatClampNeg)) then if (v_first x1_3.toNatClampNeg) = (v_first x2_12.toNatClampNeg) then some (1 : Int32) else m_X7_isTwice_L12 v_there v_first v_last x1_3 K73 n12 (x2_12 + (1 : Int32)) else none else none else m_X7_isTwice_L12 v_there v_first v_last x1_3 K73 n12 (x2_12 + (1 : Int32)) else none else none else none else none
def m_X7_isTwice_L3 (fu : Nat) (v_there : Nat → Int32) (v_first : Nat → Int32) (v_last : Nat → Int32) (K79 : Int32 → Option (Int32)) : Nat → Int32 → Option (Int32)
  | 0, _ => none
  | n3 + 1, x1_3 => if (62 : Int32) ≤ x1_3 then K79 x1_3 else mt_j (fun (x2_73 : Int32) => m_X7_isTwice_L3 fu v_there v_first v_last K79 n3 (x1_3 + (1 : Int32))) fun K73 => m_X7_isTwice_L12 v_there v_first v_last x1_3 K73 fu (41 : Int32)
def m_X7_isTwice (fu : Nat) (v_there : Nat → Int32) (v_first : Nat → Int32) (v_last : Nat → Int32) : Option (Int32) := mt_j (fun (x1_79 : Int32) => some (0 : Int32)) fun K79 => m_X7_isTwice_L3 fu v_there v_first v_last K79 fu (41 : Int32)
set_option maxHeartbeats 4000000 in
set_option maxRecDepth 100000 in
theorem c_X7_isTwice (l : Launch) (dC : Nat → ClassId) (dI : Nat → Nat → Nat) (cZ cI cL : ClassId) (h0 h0_kind h0_there h0_first h0_other h0_last h0_kept h0_far h0_out h0_tape : Nat) (v_thrown : Int32) (v_corners : Int32) (v_units : Int32) (v_calls : Int32) (v_seed : Int32) (v_printed : Int32) (v_taped : Int32) (v_length : Int32) (v_at : Int32) (v_wrong : Int32) (v_kind : Nat → Int32) (v_there : Nat → Int32) (v_first : Nat → Int32) (v_other : Nat → Int32) (v_last : Nat → Int32) (v_kept : Nat → Int32) (v_far : Nat → Int32) (v_out : Nat → Int32) (v_tape : Nat → Int32) (fu : Nat) (q : Int32) (hm : m_X7_isTwice fu v_there v_first v_last = some q) : Met l yX7_isTwice wsX7_isTwice ({ frames := 0, cells := 0, slots := 0, locals := 0 }) (va_Pc [.ref h0] (mt_R (dC, dI) cZ cI cL [(h0, .inr (7, [.int v_thrown, .int v_corners, .int v_units, .int v_calls, .int v_seed, .ref h0_kind, .ref h0_there, .ref h0_first, .ref h0_other, .ref h0_last, .ref h0_kept, .ref h0_far, .ref h0_out, .int v_printed, .ref h0_tape, .int v_taped, .int v_length, .int v_at, .int v_wrong])), (h0_kind, .inl (cI, 62, .inl v_kind)), (h0_there, .inl (cZ, 62, .inl v_there)), (h0_first, .inl (cI, 62, .inl v_first)), (h0_other, .inl (cI, 62, .inl v_other)), (h0_last, .inl (cI, 62, .inl v_last)), (h0_kept, .inl (cZ, 62, .inl v_kept)), (h0_far, .inl (cI, 21, .inl v_far)), (h0_out, .inl (cI, 1200, .inl v_out)), (h0_tape, .inl (cI, 600, .inl v_tape))])) (vp_Si (fun r => r = q)) 0 0 (fun _ => False) := by
  refine Met.ofW (cc := cX7_isTwice) (maxL := 3) (ret := (some .boolean)) (by decide) rfl ?_
  intro p e s m args below meth c s₁ B hml hv
  obtain ⟨rfl, hP, hC⟩ := hv
  have hx := B.exec
  have hb := B.bytes
  have hr := B.returns
  have hts := atoms_spec (ws := wsX7_isTwice) B.pre
  have hown : s.vm.findClass RX7 = some m.cls := findClass_of_methodNamed B.named
  have hlocks := B.notSynchronized
  have hK := hC.1
  have hiX7 : ∀ w ∈ wsX70, w ∈ wsX7_isTwice := by decide +kernel
  have hl := lv_entry [.ref h0] (n := 3) (Nat.le_of_ble_eq_true rfl)
  rw [lg_entry_eq]
  generalize (lg_sl [.ref h0] ++ List.replicate (3 - (lg_sl [.ref h0]).length) Slot.unset).toArray = ls at hl ⊢
  have hl : lv_has ls 3 [(0, .ref h0)] := hl
  rw [m_X7_isTwice] at hm
  refine lv_bipush (v := (41 : Int32)) hx hb dX7_isTwice_0 (by decide) ?_
  refine lv_istore_n (lv' := [(1, .int (41 : Int32)), (0, .ref h0)]) hx hb dX7_isTwice_2 rfl hl (by decide) rfl (fun ls hl => ?_)
  obtain ⟨K79, hK79, hm⟩ := mt_jx hm
  have J79 : ∀ (x1_79 : Int32), ∀ (ls : Array Slot), K79 x1_79 = some q → lv_has ls 3 [(0, .ref h0), (1, .int x1_79)] → W p l e (headSpec wsX7_isTwice ({ frames := 0, cells := 0, slots := 0, locals := 0 })).room s m [.ref h0].toArray below meth c s.heap [] 0 0 (MQ below (vp_Si (fun r => r = q)) [.ref h0].toArray s 0 0 (fun _ => False)) (F0 m 79 ls []) := by
    intro x1_79 ls hm hl
    replace hm := mt_app1 hK79 hm
    refine lv_iconst (v := (0 : Int32)) hx hb dX7_isTwice_79 (by decide) ?_
    obtain rfl := Option.some.inj hm
    exact W.zret hx hb hr mt_z0 (fun t ht hW => ⟨_, rfl, rfl, ht⟩) t_nil dX7_isTwice_80
  have L3 : ∀ n3 : Nat, ∀ (x1_3 : Int32), ∀ (ls : Array Slot), m_X7_isTwice_L3 fu v_there v_first v_last K79 n3 x1_3 = some q → lv_has ls 3 [(0, .ref h0), (1, .int x1_3)] → W p l e (headSpec wsX7_isTwice ({ frames := 0, cells := 0, slots := 0, locals := 0 })).room s m [.ref h0].toArray below meth c s.heap [] 0 0 (MQ below (vp_Si (fun r => r = q)) [.ref h0].toArray s 0 0 (fun _ => False)) (F0 m 3 ls []) := by
    intro n3
    induction n3 with
    | zero =>
      intro x1_3 ls hm hl
      exact absurd hm (fun h => nomatch h)
    | succ n3 ih3 =>
      intro x1_3 ls hm hl
      rw [m_X7_isTwice_L3] at hm
      refine lv_iload_n hx hb dX7_isTwice_3 rfl (lv_at hl 1 rfl) ?_
      refine lv_bipush (v := (62 : Int32)) hx hb dX7_isTwice_4 (by decide) ?_
      refine lv_icmp_ge (tgt := 79) hx hb dX7_isTwice_6 (by decide) (fun c1 => ?_) (fun c1 => ?_)
      · replace hm := mt_pos c1 hm
        exact J79 x1_3 _ hm (lv_sub hl [0, 1] rfl)
      · replace hm := mt_neg c1 hm
        refine lv_bipush (v := (41 : Int32)) hx hb dX7_isTwice_9 (by decide) ?_
        refine lv_istore_n (lv' := [(2, .int (41 : Int32)), (0, .ref h0), (1, .int x1_3)]) hx hb dX7_isTwice_11 rfl hl (by decide) rfl (fun ls hl => ?_)
        obtain ⟨K73, hK73, hm⟩ := mt_jx hm
        have J73 : ∀ (x2_73 : Int32), ∀ (ls : Array Slot), K73 x2_73 = some q → lv_has ls 3 [(0, .ref h0), (1, .int x1_3), (2, .int x2_73)] → W p l e (headSpec wsX7_isTwice ({ frames := 0, cells := 0, slots := 0, locals := 0 })).room s m [.ref h0].toArray below meth c s.heap [] 0 0 (MQ below (vp_Si (fun r => r = q)) [.ref h0].toArray s 0 0 (fun _ => False)) (F0 m 73 ls []) := by
          intro x2_73 ls hm hl
          replace hm := mt_app1 hK73 hm
          refine lv_iinc (v := (x1_3 + (1 : Int32))) (lv' := [(1, .int (x1_3 + (1 : Int32))), (0, .ref h0), (2, .int x2_73)]) hx hb dX7_isTwice_73 hl (k := 1) rfl rfl (by decide) rfl (fun ls hl => ?_)
          refine lv_goto (tgt := 3) hx hb dX7_isTwice_76 (by decide) ?_
          exact ih3 (x1_3 + (1 : Int32)) _ hm (lv_sub hl [1, 0] rfl)
        have L12 : ∀ n12 : Nat, ∀ (x2_12 : Int32), ∀ (ls : Array Slot), m_X7_isTwice_L12 v_there v_first v_last x1_3 K73 n12 x2_12 = some q → lv_has ls 3 [(0, .ref h0), (1, .int x1_3), (2, .int x2_12)] → W p l e (headSpec wsX7_isTwice ({ frames := 0, cells := 0, slots := 0, locals := 0 })).room s m [.ref h0].toArray below meth c s.heap [] 0 0 (MQ below (vp_Si (fun r => r = q)) [.ref h0].toArray s 0 0 (fun _ => False)) (F0 m 12 ls []) := by
          intro n12
          induction n12 with
          | zero =>
            intro x2_12 ls hm hl
            exact absurd hm (fun h => nomatch h)
          | succ n12 ih12 =>
            intro x2_12 ls hm hl
            rw [m_X7_isTwice_L12] at hm
            refine lv_iload_n hx hb dX7_isTwice_12 rfl (lv_at hl 2 rfl) ?_
            refine lv_iload_n hx hb dX7_isTwice_13 rfl (lv_at hl 1 rfl) ?_
            refine lv_icmp_ge (tgt := 73) hx hb dX7_isTwice_14 (by decide) (fun c2 => ?_) (fun c2 => ?_)
            · replace hm := mt_pos c2 hm
              exact J73 x2_12 _ hm (lv_sub hl [0, 1, 2] rfl)
            · replace hm := mt_neg c2 hm
              refine lv_aload_n hx hb dX7_isTwice_17 rfl (lv_at hl 0 rfl) ?_
              refine va_get (D := (dC, dI)) (ci := 7) (v := .ref h0_there) (C := RX7) (T := TX7) (N := 19) hx hb hts hiX7 hown hK hP 0 rfl rfl 6 (by decide) (hts (.fieldLink RX7 13 "ServiceDrawerModel" "there" "[Z") (by decide +kernel)) (fun _ h9 => h9) rfl dX7_isTwice_18 ?_
              refine lv_iload_n hx hb dX7_isTwice_21 rfl (lv_at hl 1 rfl) ?_
              obtain ⟨g3, hm⟩ := mt_gd hm
              refine va_zald hx hb hK hP 2 0 rfl rfl g3 dX7_isTwice_22 ?_
              refine lv_if_eq (tgt := 67) hx hb dX7_isTwice_23 (by decide) (fun c4 => ?_) (fun c4 => ?_)
              · replace hm := mt_pos c4 hm
                refine lv_iinc (v := (x2_12 + (1 : Int32))) (lv' := [(2, .int (x2_12 + (1 : Int32))), (0, .ref h0), (1, .int x1_3)]) hx hb dX7_isTwice_67 hl (k := 2) rfl rfl (by decide) rfl (fun ls hl => ?_)
                refine lv_goto (tgt := 12) hx hb dX7_isTwice_70 (by decide) ?_
                exact ih12 (x2_12 + (1 : Int32)) _ hm (lv_sub hl [1, 2, 0] rfl)
              · replace hm := mt_neg c4 hm
                refine lv_aload_n hx hb dX7_isTwice_26 rfl (lv_at hl 0 rfl) ?_
                refine va_get (D := (dC, dI)) (ci := 7) (v := .ref h0_there) (C := RX7) (T := TX7) (N := 19) hx hb hts hiX7 hown hK hP 0 rfl rfl 6 (by decide) (hts (.fieldLink RX7 13 "ServiceDrawerModel" "there" "[Z") (by decide +kernel)) (fun _ h9 => h9) rfl dX7_isTwice_27 ?_
                refine lv_iload_n hx hb dX7_isTwice_30 rfl (lv_at hl 2 rfl) ?_
                obtain ⟨g5, hm⟩ := mt_gd hm
                refine va_zald hx hb hK hP 2 0 rfl rfl g5 dX7_isTwice_31 ?_
                refine lv_if_eq (tgt := 67) hx hb dX7_isTwice_32 (by decide) (fun c6 => ?_) (fun c6 => ?_)
                · replace hm := mt_pos c6 hm
                  refine lv_iinc (v := (x2_12 + (1 : Int32))) (lv' := [(2, .int (x2_12 + (1 : Int32))), (0, .ref h0), (1, .int x1_3)]) hx hb dX7_isTwice_67 hl (k := 2) rfl rfl (by decide) rfl (fun ls hl => ?_)
                  refine lv_goto (tgt := 12) hx hb dX7_isTwice_70 (by decide) ?_
                  exact ih12 (x2_12 + (1 : Int32)) _ hm (lv_sub hl [1, 2, 0] rfl)
                · replace hm := mt_neg c6 hm
                  refine lv_aload_n hx hb dX7_isTwice_35 rfl (lv_at hl 0 rfl) ?_
                  refine va_get (D := (dC, dI)) (ci := 7) (v := .ref h0_last) (C := RX7) (T := TX7) (N := 19) hx hb hts hiX7 hown hK hP 0 rfl rfl 9 (by decide) (hts (.fieldLink RX7 23 "ServiceDrawerModel" "last" "[I") (by decide +kernel)) (fun _ h9 => h9) rfl dX7_isTwice_36 ?_
                  refine lv_iload_n hx hb dX7_isTwice_39 rfl (lv_at hl 1 rfl) ?_
                  obtain ⟨g7, hm⟩ := mt_gd hm
                  refine va_iald hx hb hK hP 5 1 rfl rfl g7 dX7_isTwice_40 ?_
                  refine lv_aload_n hx hb dX7_isTwice_41 rfl (lv_at hl 0 rfl) ?_
                  refine va_get (D := (dC, dI)) (ci := 7) (v := .ref h0_last) (C := RX7) (T := TX7) (N := 19) hx hb hts hiX7 hown hK hP 0 rfl rfl 9 (by decide) (hts (.fieldLink RX7 23 "ServiceDrawerModel" "last" "[I") (by decide +kernel)) (fun _ h9 => h9) rfl dX7_isTwice_42 ?_
                  refine lv_iload_n hx hb dX7_isTwice_45 rfl (lv_at hl 2 rfl) ?_
                  obtain ⟨g8, hm⟩ := mt_gd hm
                  refine va_iald hx hb hK hP 5 1 rfl rfl g8 dX7_isTwice_46 ?_
                  refine lv_icmp_ne (tgt := 67) hx hb dX7_isTwice_47 (by decide) (fun c9 => ?_) (fun c9 => ?_)
                  · replace hm := mt_neg c9 hm
                    refine lv_iinc (v := (x2_12 + (1 : Int32))) (lv' := [(2, .int (x2_12 + (1 : Int32))), (0, .ref h0), (1, .int x1_3)]) hx hb dX7_isTwice_67 hl (k := 2) rfl rfl (by decide) rfl (fun ls hl => ?_)
                    refine lv_goto (tgt := 12) hx hb dX7_isTwice_70 (by decide) ?_
                    exact ih12 (x2_12 + (1 : Int32)) _ hm (lv_sub hl [1, 2, 0] rfl)
                  · replace hm := mt_pos c9 hm
                    refine lv_aload_n hx hb dX7_isTwice_50 rfl (lv_at hl 0 rfl) ?_
                    refine va_get (D := (dC, dI)) (ci := 7) (v := .ref h0_first) (C := RX7) (T := TX7) (N := 19) hx hb hts hiX7 hown hK hP 0 rfl rfl 7 (by decide) (hts (.fieldLink RX7 17 "ServiceDrawerModel" "first" "[I") (by decide +kernel)) (fun _ h9 => h9) rfl dX7_isTwice_51 ?_
                    refine lv_iload_n hx hb dX7_isTwice_54 rfl (lv_at hl 1 rfl) ?_
                    obtain ⟨g10, hm⟩ := mt_gd hm
                    refine va_iald hx hb hK hP 3 1 rfl rfl g10 dX7_isTwice_55 ?_
                    refine lv_aload_n hx hb dX7_isTwice_56 rfl (lv_at hl 0 rfl) ?_
                    refine va_get (D := (dC, dI)) (ci := 7) (v := .ref h0_first) (C := RX7) (T := TX7) (N := 19) hx hb hts hiX7 hown hK hP 0 rfl rfl 7 (by decide) (hts (.fieldLink RX7 17 "ServiceDrawerModel" "first" "[I") (by decide +kernel)) (fun _ h9 => h9) rfl dX7_isTwice_57 ?_
                    refine lv_iload_n hx hb dX7_isTwice_60 rfl (lv_at hl 2 rfl) ?_
                    obtain ⟨g11, hm⟩ := mt_gd hm
                    refine va_iald hx hb hK hP 3 1 rfl rfl g11 dX7_isTwice_61 ?_
                    refine lv_icmp_ne (tgt := 67) hx hb dX7_isTwice_62 (by decide) (fun c12 => ?_) (fun c12 => ?_)
                    · replace hm := mt_neg c12 hm
                      refine lv_iinc (v := (x2_12 + (1 : Int32))) (lv' := [(2, .int (x2_12 + (1 : Int32))), (0, .ref h0), (1, .int x1_3)]) hx hb dX7_isTwice_67 hl (k := 2) rfl rfl (by decide) rfl (fun ls hl => ?_)
                      refine lv_goto (tgt := 12) hx hb dX7_isTwice_70 (by decide) ?_
                      exact ih12 (x2_12 + (1 : Int32)) _ hm (lv_sub hl [1, 2, 0] rfl)
                    · replace hm := mt_pos c12 hm
                      refine lv_iconst (v := (1 : Int32)) hx hb dX7_isTwice_65 (by decide) ?_
                      obtain rfl := Option.some.inj hm
                      exact W.zret hx hb hr mt_z1 (fun t ht hW => ⟨_, rfl, rfl, ht⟩) t_nil dX7_isTwice_66
        exact L12 fu (41 : Int32) _ hm (lv_sub hl [1, 2, 0] rfl)
  exact L3 fu (41 : Int32) _ hm (lv_sub hl [1, 0] rfl)
def m_X7_isLong_L33 (v_there : Nat → Int32) (v_first : Nat → Int32) (q6 : (Nat → Int32)) (K85 : Int32 → Option (Int32 × (Nat → Int32))) : Nat → Int32 → Int32 → Option (Int32 × (Nat → Int32))
  | 0, _, _ => none
  | n33 + 1, x1_33, x3_33 => if (41 : Int32) ≤ x3_33 then K85 x1_33 else if x1_33 = 0 then if (¬ (x3_33 < 0 ∨ 62 ≤ x3_33.toNatClampNeg)) then if (v_there x3_33.toNatClampNeg) = 0 then m_X7_isLong_L33 v_there v_first q6 K85 n33 (0 : Int32) (x3_33 + (1 : Int32)) else if (¬ (x3_33 < 0 ∨ 62 ≤ x3_33.toNatClampNeg)) then if (¬ ((v_first x3_33.toNatClampNeg) < 0 ∨ 21 ≤ (v_first x3_33.toNatClampNeg).toNatClampNeg)) then (m_X7_in (q6 (v_first x3_33.toNatClampNeg).toNatClampNeg) (100 : Int32) (999999 : Int32)).bind fun q13 => if q13 = 0 then m_X7_isLong_L33 v_there v_first q6 K85 n33 (0 : Int32) (x3_33 + (1 : Int32)) else m_X7_isLong_L33 v_there v_first q6 K85 n33 (1 : Int32) (x3_33 + (1 : Int32)) else none else none else none else m_X7_isLong_L33 v_there v_first q6 K85 n33 (1 : Int32) (x3_33 + (1 : Int32))
def m_X7_isLong_L5 (fu : Nat) (v_there : Nat → Int32) (v_first : Nat → Int32) (v_other : Nat → Int32) (v_last : Nat → Int32) (K91 : Int32 → Int32 → (Nat → Int32) → Option (Int32 × (Nat → Int32))) : Nat → Int32 → Int32 → (Nat → Int32) → Option (Int32 × (Nat → Int32))
  | 0, _, _, _ => none
  | n5 + 1, x1_5, x2_5, v_far_5 => if (62 : Int32) ≤ x2_5 then K91 x1_5 x2_5 v_far_5 else if (¬ (x2_5 < 0 ∨ 62 ≤ x2_5.toNatClampNeg)) then if (v_there x2_5.toNatClampNeg) = 0 then m_X7_isLong_L5 fu v_there v_first v_other v_last K91 n5 x1_5 (x2_5 + (1 : Int32)) v_far_5 else if (¬ (x2_5 < 0 ∨ 62 ≤ x2_5.toNatClampNeg)) then (m_X7_reach fu (v_first x2_5.toNatClampNeg) v_there v_first v_other v_last v_far_5).bind fun q6 => mt_j (fun (x1_85 : Int32) => m_X7_isLong_L5 fu v_there v_first v_other v_last K91 n5 x1_85 (x2_5 + (1 : Int32)) q6) fun K85 => m_X7_isLong_L33 v_there v_first q6 K85 fu x1_5 (30 : Int32) else none else none
def m_X7_isLong (fu : Nat) (v_there : Nat → Int32) (v_first : Nat → Int32) (v_other : Nat → Int32) (v_last : Nat → Int32) (v_far : Nat → Int32) : Option (Int32 × (Nat → Int32)) := mt_j (fun (x1_91 : Int32) (x2_91 : Int32) (v_far_91 : Nat → Int32) => if (x1_91 &&& 1 = x1_91) then some (x1_91, v_far_91) else none) fun K91 => m_X7_isLong_L5 fu v_there v_first v_other v_last K91 fu (0 : Int32) (41 : Int32) v_far
set_option maxHeartbeats 4000000 in
set_option maxRecDepth 100000 in
theorem c_X7_isLong (l : Launch) (dC : Nat → ClassId) (dI : Nat → Nat → Nat) (cZ cI cL : ClassId) (h0 h0_kind h0_there h0_first h0_other h0_last h0_kept h0_far h0_out h0_tape : Nat) (sz : Nat) (v_thrown : Int32) (v_corners : Int32) (v_units : Int32) (v_calls : Int32) (v_seed : Int32) (v_printed : Int32) (v_taped : Int32) (v_length : Int32) (v_at : Int32) (v_wrong : Int32) (v_kind : Nat → Int32) (v_there : Nat → Int32) (v_first : Nat → Int32) (v_other : Nat → Int32) (v_last : Nat → Int32) (v_kept : Nat → Int32) (v_far : Nat → Int32) (v_out : Nat → Int32) (v_tape : Nat → Int32) (fu : Nat) (q : Int32 × (Nat → Int32)) (hm : m_X7_isLong fu v_there v_first v_other v_last v_far = some q) : Met l yX7_isLong wsX7_isLong ({ frames := 1, cells := 0, slots := 0, locals := 26 }) (va_Pc [.ref h0] (mt_S (dC, dI) cZ cI cL sz [(h0, .inr (7, [.int v_thrown, .int v_corners, .int v_units, .int v_calls, .int v_seed, .ref h0_kind, .ref h0_there, .ref h0_first, .ref h0_other, .ref h0_last, .ref h0_kept, .ref h0_far, .ref h0_out, .int v_printed, .ref h0_tape, .int v_taped, .int v_length, .int v_at, .int v_wrong])), (h0_kind, .inl (cI, 62, .inl v_kind)), (h0_there, .inl (cZ, 62, .inl v_there)), (h0_first, .inl (cI, 62, .inl v_first)), (h0_other, .inl (cI, 62, .inl v_other)), (h0_last, .inl (cI, 62, .inl v_last)), (h0_kept, .inl (cZ, 62, .inl v_kept)), (h0_far, .inl (cI, 21, .inl v_far)), (h0_out, .inl (cI, 1200, .inl v_out)), (h0_tape, .inl (cI, 600, .inl v_tape))])) (va_Qi (fun (r : Int32) (_ : Unit) => r = q.1) (fun _ t => va_P (dC, dI) vwCl [(h0, .inr (7, [.int v_thrown, .int v_corners, .int v_units, .int v_calls, .int v_seed, .ref h0_kind, .ref h0_there, .ref h0_first, .ref h0_other, .ref h0_last, .ref h0_kept, .ref h0_far, .ref h0_out, .int v_printed, .ref h0_tape, .int v_taped, .int v_length, .int v_at, .int v_wrong])), (h0_kind, .inl (cI, 62, .inl v_kind)), (h0_there, .inl (cZ, 62, .inl v_there)), (h0_first, .inl (cI, 62, .inl v_first)), (h0_other, .inl (cI, 62, .inl v_other)), (h0_last, .inl (cI, 62, .inl v_last)), (h0_kept, .inl (cZ, 62, .inl v_kept)), (h0_far, .inl (cI, 21, .inl q.2)), (h0_out, .inl (cI, 1200, .inl v_out)), (h0_tape, .inl (cI, 600, .inl v_tape))] t.heap ∧ va_D (va_A [(h0, .inr (7, [.int v_thrown, .int v_corners, .int v_units, .int v_calls, .int v_seed, .ref h0_kind, .ref h0_there, .ref h0_first, .ref h0_other, .ref h0_last, .ref h0_kept, .ref h0_far, .ref h0_out, .int v_printed, .ref h0_tape, .int v_taped, .int v_length, .int v_at, .int v_wrong])), (h0_kind, .inl (cI, 62, .inl v_kind)), (h0_there, .inl (cZ, 62, .inl v_there)), (h0_first, .inl (cI, 62, .inl v_first)), (h0_other, .inl (cI, 62, .inl v_other)), (h0_last, .inl (cI, 62, .inl v_last)), (h0_kept, .inl (cZ, 62, .inl v_kept)), (h0_far, .inl (cI, 21, .inl v_far)), (h0_out, .inl (cI, 1200, .inl v_out)), (h0_tape, .inl (cI, 600, .inl v_tape))] sz) [(h0, .inr (7, [.int v_thrown, .int v_corners, .int v_units, .int v_calls, .int v_seed, .ref h0_kind, .ref h0_there, .ref h0_first, .ref h0_other, .ref h0_last, .ref h0_kept, .ref h0_far, .ref h0_out, .int v_printed, .ref h0_tape, .int v_taped, .int v_length, .int v_at, .int v_wrong])), (h0_kind, .inl (cI, 62, .inl v_kind)), (h0_there, .inl (cZ, 62, .inl v_there)), (h0_first, .inl (cI, 62, .inl v_first)), (h0_other, .inl (cI, 62, .inl v_other)), (h0_last, .inl (cI, 62, .inl v_last)), (h0_kept, .inl (cZ, 62, .inl v_kept)), (h0_far, .inl (cI, 21, .inl q.2)), (h0_out, .inl (cI, 1200, .inl v_out)), (h0_tape, .inl (cI, 600, .inl v_tape))]) (va_A [(h0, .inr (7, [.int v_thrown, .int v_corners, .int v_units, .int v_calls, .int v_seed, .ref h0_kind, .ref h0_there, .ref h0_first, .ref h0_other, .ref h0_last, .ref h0_kept, .ref h0_far, .ref h0_out, .int v_printed, .ref h0_tape, .int v_taped, .int v_length, .int v_at, .int v_wrong])), (h0_kind, .inl (cI, 62, .inl v_kind)), (h0_there, .inl (cZ, 62, .inl v_there)), (h0_first, .inl (cI, 62, .inl v_first)), (h0_other, .inl (cI, 62, .inl v_other)), (h0_last, .inl (cI, 62, .inl v_last)), (h0_kept, .inl (cZ, 62, .inl v_kept)), (h0_far, .inl (cI, 21, .inl v_far)), (h0_out, .inl (cI, 1200, .inl v_out)), (h0_tape, .inl (cI, 600, .inl v_tape))] sz)) 0 0 (va_A [(h0, .inr (7, [.int v_thrown, .int v_corners, .int v_units, .int v_calls, .int v_seed, .ref h0_kind, .ref h0_there, .ref h0_first, .ref h0_other, .ref h0_last, .ref h0_kept, .ref h0_far, .ref h0_out, .int v_printed, .ref h0_tape, .int v_taped, .int v_length, .int v_at, .int v_wrong])), (h0_kind, .inl (cI, 62, .inl v_kind)), (h0_there, .inl (cZ, 62, .inl v_there)), (h0_first, .inl (cI, 62, .inl v_first)), (h0_other, .inl (cI, 62, .inl v_other)), (h0_last, .inl (cI, 62, .inl v_last)), (h0_kept, .inl (cZ, 62, .inl v_kept)), (h0_far, .inl (cI, 21, .inl v_far)), (h0_out, .inl (cI, 1200, .inl v_out)), (h0_tape, .inl (cI, 600, .inl v_tape))] sz) := by
  refine Met.ofW (cc := cX7_isLong) (maxL := 4) (ret := (some .boolean)) (by decide) rfl ?_
  intro p e s m args below meth c s₁ B hml hv
  obtain ⟨rfl, hsz, hP, hC, hD0⟩ := hv
  have hx := B.exec
  have hb := B.bytes
  have hr := B.returns
  have hts := atoms_spec (ws := wsX7_isLong) B.pre
  have hown : s.vm.findClass RX7 = some m.cls := findClass_of_methodNamed B.named
  have hlocks := B.notSynchronized
  have hK := hC.1
  have hiX7 : ∀ w ∈ wsX70, w ∈ wsX7_isLong := by decide +kernel
  subst hsz
  have hD := hD0.self (sz := s.heap.size)
  generalize hAe : va_A [(h0, .inr (7, [.int v_thrown, .int v_corners, .int v_units, .int v_calls, .int v_seed, .ref h0_kind, .ref h0_there, .ref h0_first, .ref h0_other, .ref h0_last, .ref h0_kept, .ref h0_far, .ref h0_out, .int v_printed, .ref h0_tape, .int v_taped, .int v_length, .int v_at, .int v_wrong])), (h0_kind, .inl (cI, 62, .inl v_kind)), (h0_there, .inl (cZ, 62, .inl v_there)), (h0_first, .inl (cI, 62, .inl v_first)), (h0_other, .inl (cI, 62, .inl v_other)), (h0_last, .inl (cI, 62, .inl v_last)), (h0_kept, .inl (cZ, 62, .inl v_kept)), (h0_far, .inl (cI, 21, .inl v_far)), (h0_out, .inl (cI, 1200, .inl v_out)), (h0_tape, .inl (cI, 600, .inl v_tape))] s.heap.size = A at hD ⊢
  have hA : ∀ q : Nat, s.heap.size ≤ q → A q := fun q h => by rw [← hAe]; exact Or.inr h
  have hS : va_S A s.heap s.heap [] := va_S.rf
  have hl := lv_entry [.ref h0] (n := 4) (Nat.le_of_ble_eq_true rfl)
  rw [lg_entry_eq]
  generalize (lg_sl [.ref h0] ++ List.replicate (4 - (lg_sl [.ref h0]).length) Slot.unset).toArray = ls at hl ⊢
  have hl : lv_has ls 4 [(0, .ref h0)] := hl
  rw [m_X7_isLong] at hm
  refine lv_iconst (v := (0 : Int32)) hx hb dX7_isLong_0 (by decide) ?_
  refine lv_istore_n (lv' := [(1, .int (0 : Int32)), (0, .ref h0)]) hx hb dX7_isLong_1 rfl hl (by decide) rfl (fun ls hl => ?_)
  refine lv_bipush (v := (41 : Int32)) hx hb dX7_isLong_2 (by decide) ?_
  refine lv_istore_n (lv' := [(2, .int (41 : Int32)), (1, .int (0 : Int32)), (0, .ref h0)]) hx hb dX7_isLong_4 rfl hl (by decide) rfl (fun ls hl => ?_)
  obtain ⟨K91, hK91, hm⟩ := mt_jx hm
  have J91 : ∀ (x1_91 : Int32) (x2_91 : Int32) (v_far_91 : Nat → Int32), ∀ (H : Heap) (locs : List Loc) (ls : Array Slot), K91 x1_91 x2_91 v_far_91 = some q → va_P (dC, dI) vwCl [(h0, .inr (7, [.int v_thrown, .int v_corners, .int v_units, .int v_calls, .int v_seed, .ref h0_kind, .ref h0_there, .ref h0_first, .ref h0_other, .ref h0_last, .ref h0_kept, .ref h0_far, .ref h0_out, .int v_printed, .ref h0_tape, .int v_taped, .int v_length, .int v_at, .int v_wrong])), (h0_kind, .inl (cI, 62, .inl v_kind)), (h0_there, .inl (cZ, 62, .inl v_there)), (h0_first, .inl (cI, 62, .inl v_first)), (h0_other, .inl (cI, 62, .inl v_other)), (h0_last, .inl (cI, 62, .inl v_last)), (h0_kept, .inl (cZ, 62, .inl v_kept)), (h0_far, .inl (cI, 21, .inl v_far_91)), (h0_out, .inl (cI, 1200, .inl v_out)), (h0_tape, .inl (cI, 600, .inl v_tape))] H → va_D A [(h0, .inr (7, [.int v_thrown, .int v_corners, .int v_units, .int v_calls, .int v_seed, .ref h0_kind, .ref h0_there, .ref h0_first, .ref h0_other, .ref h0_last, .ref h0_kept, .ref h0_far, .ref h0_out, .int v_printed, .ref h0_tape, .int v_taped, .int v_length, .int v_at, .int v_wrong])), (h0_kind, .inl (cI, 62, .inl v_kind)), (h0_there, .inl (cZ, 62, .inl v_there)), (h0_first, .inl (cI, 62, .inl v_first)), (h0_other, .inl (cI, 62, .inl v_other)), (h0_last, .inl (cI, 62, .inl v_last)), (h0_kept, .inl (cZ, 62, .inl v_kept)), (h0_far, .inl (cI, 21, .inl v_far_91)), (h0_out, .inl (cI, 1200, .inl v_out)), (h0_tape, .inl (cI, 600, .inl v_tape))] → va_S A s.heap H locs → lv_has ls 4 [(0, .ref h0), (1, .int x1_91), (2, .int x2_91)] → W p l e (headSpec wsX7_isLong ({ frames := 1, cells := 0, slots := 0, locals := 26 })).room s m [.ref h0].toArray below meth c H locs 0 0 (MQ below (va_Qi (fun (r : Int32) (_ : Unit) => r = q.1) (fun _ t => va_P (dC, dI) vwCl [(h0, .inr (7, [.int v_thrown, .int v_corners, .int v_units, .int v_calls, .int v_seed, .ref h0_kind, .ref h0_there, .ref h0_first, .ref h0_other, .ref h0_last, .ref h0_kept, .ref h0_far, .ref h0_out, .int v_printed, .ref h0_tape, .int v_taped, .int v_length, .int v_at, .int v_wrong])), (h0_kind, .inl (cI, 62, .inl v_kind)), (h0_there, .inl (cZ, 62, .inl v_there)), (h0_first, .inl (cI, 62, .inl v_first)), (h0_other, .inl (cI, 62, .inl v_other)), (h0_last, .inl (cI, 62, .inl v_last)), (h0_kept, .inl (cZ, 62, .inl v_kept)), (h0_far, .inl (cI, 21, .inl q.2)), (h0_out, .inl (cI, 1200, .inl v_out)), (h0_tape, .inl (cI, 600, .inl v_tape))] t.heap ∧ va_D A [(h0, .inr (7, [.int v_thrown, .int v_corners, .int v_units, .int v_calls, .int v_seed, .ref h0_kind, .ref h0_there, .ref h0_first, .ref h0_other, .ref h0_last, .ref h0_kept, .ref h0_far, .ref h0_out, .int v_printed, .ref h0_tape, .int v_taped, .int v_length, .int v_at, .int v_wrong])), (h0_kind, .inl (cI, 62, .inl v_kind)), (h0_there, .inl (cZ, 62, .inl v_there)), (h0_first, .inl (cI, 62, .inl v_first)), (h0_other, .inl (cI, 62, .inl v_other)), (h0_last, .inl (cI, 62, .inl v_last)), (h0_kept, .inl (cZ, 62, .inl v_kept)), (h0_far, .inl (cI, 21, .inl q.2)), (h0_out, .inl (cI, 1200, .inl v_out)), (h0_tape, .inl (cI, 600, .inl v_tape))]) A) [.ref h0].toArray s 0 0 A) (F0 m 91 ls []) := by
    intro x1_91 x2_91 v_far_91 H locs ls hm hP hD hS hl
    replace hm := mt_app3 hK91 hm
    refine lv_iload_n hx hb dX7_isLong_91 rfl (lv_at hl 1 rfl) ?_
    obtain ⟨g1, hm⟩ := mt_gd hm
    obtain rfl := Option.some.inj hm
    exact W.zret hx hb hr (mt_zn g1) (fun t ht hW => ⟨⟨_, (), rfl, rfl, by rw [ht]; exact hP, hD⟩, hS.F ht⟩) hS.2.2 dX7_isLong_92
  have L5 : ∀ n5 : Nat, ∀ (x1_5 : Int32) (x2_5 : Int32) (v_far_5 : Nat → Int32), ∀ (H : Heap) (locs : List Loc) (ls : Array Slot), m_X7_isLong_L5 fu v_there v_first v_other v_last K91 n5 x1_5 x2_5 v_far_5 = some q → va_P (dC, dI) vwCl [(h0, .inr (7, [.int v_thrown, .int v_corners, .int v_units, .int v_calls, .int v_seed, .ref h0_kind, .ref h0_there, .ref h0_first, .ref h0_other, .ref h0_last, .ref h0_kept, .ref h0_far, .ref h0_out, .int v_printed, .ref h0_tape, .int v_taped, .int v_length, .int v_at, .int v_wrong])), (h0_kind, .inl (cI, 62, .inl v_kind)), (h0_there, .inl (cZ, 62, .inl v_there)), (h0_first, .inl (cI, 62, .inl v_first)), (h0_other, .inl (cI, 62, .inl v_other)), (h0_last, .inl (cI, 62, .inl v_last)), (h0_kept, .inl (cZ, 62, .inl v_kept)), (h0_far, .inl (cI, 21, .inl v_far_5)), (h0_out, .inl (cI, 1200, .inl v_out)), (h0_tape, .inl (cI, 600, .inl v_tape))] H → va_D A [(h0, .inr (7, [.int v_thrown, .int v_corners, .int v_units, .int v_calls, .int v_seed, .ref h0_kind, .ref h0_there, .ref h0_first, .ref h0_other, .ref h0_last, .ref h0_kept, .ref h0_far, .ref h0_out, .int v_printed, .ref h0_tape, .int v_taped, .int v_length, .int v_at, .int v_wrong])), (h0_kind, .inl (cI, 62, .inl v_kind)), (h0_there, .inl (cZ, 62, .inl v_there)), (h0_first, .inl (cI, 62, .inl v_first)), (h0_other, .inl (cI, 62, .inl v_other)), (h0_last, .inl (cI, 62, .inl v_last)), (h0_kept, .inl (cZ, 62, .inl v_kept)), (h0_far, .inl (cI, 21, .inl v_far_5)), (h0_out, .inl (cI, 1200, .inl v_out)), (h0_tape, .inl (cI, 600, .inl v_tape))] → va_S A s.heap H locs → lv_has ls 4 [(0, .ref h0), (1, .int x1_5), (2, .int x2_5)] → W p l e (headSpec wsX7_isLong ({ frames := 1, cells := 0, slots := 0, locals := 26 })).room s m [.ref h0].toArray below meth c H locs 0 0 (MQ below (va_Qi (fun (r : Int32) (_ : Unit) => r = q.1) (fun _ t => va_P (dC, dI) vwCl [(h0, .inr (7, [.int v_thrown, .int v_corners, .int v_units, .int v_calls, .int v_seed, .ref h0_kind, .ref h0_there, .ref h0_first, .ref h0_other, .ref h0_last, .ref h0_kept, .ref h0_far, .ref h0_out, .int v_printed, .ref h0_tape, .int v_taped, .int v_length, .int v_at, .int v_wrong])), (h0_kind, .inl (cI, 62, .inl v_kind)), (h0_there, .inl (cZ, 62, .inl v_there)), (h0_first, .inl (cI, 62, .inl v_first)), (h0_other, .inl (cI, 62, .inl v_other)), (h0_last, .inl (cI, 62, .inl v_last)), (h0_kept, .inl (cZ, 62, .inl v_kept)), (h0_far, .inl (cI, 21, .inl q.2)), (h0_out, .inl (cI, 1200, .inl v_out)), (h0_tape, .inl (cI, 600, .inl v_tape))] t.heap ∧ va_D A [(h0, .inr (7, [.int v_thrown, .int v_corners, .int v_units, .int v_calls, .int v_seed, .ref h0_kind, .ref h0_there, .ref h0_first, .ref h0_other, .ref h0_last, .ref h0_kept, .ref h0_far, .ref h0_out, .int v_printed, .ref h0_tape, .int v_taped, .int v_length, .int v_at, .int v_wrong])), (h0_kind, .inl (cI, 62, .inl v_kind)), (h0_there, .inl (cZ, 62, .inl v_there)), (h0_first, .inl (cI, 62, .inl v_first)), (h0_other, .inl (cI, 62, .inl v_other)), (h0_last, .inl (cI, 62, .inl v_last)), (h0_kept, .inl (cZ, 62, .inl v_kept)), (h0_far, .inl (cI, 21, .inl q.2)), (h0_out, .inl (cI, 1200, .inl v_out)), (h0_tape, .inl (cI, 600, .inl v_tape))]) A) [.ref h0].toArray s 0 0 A) (F0 m 5 ls []) := by
    intro n5
    induction n5 with
    | zero =>
      intro x1_5 x2_5 v_far_5 H locs ls hm hP hD hS hl
      exact absurd hm (fun h => nomatch h)
    | succ n5 ih5 =>
      intro x1_5 x2_5 v_far_5 H locs ls hm hP hD hS hl
      rw [m_X7_isLong_L5] at hm
      refine lv_iload_n hx hb dX7_isLong_5 rfl (lv_at hl 2 rfl) ?_
      refine lv_bipush (v := (62 : Int32)) hx hb dX7_isLong_6 (by decide) ?_
      refine lv_icmp_ge (tgt := 91) hx hb dX7_isLong_8 (by decide) (fun c2 => ?_) (fun c2 => ?_)
      · replace hm := mt_pos c2 hm
        exact J91 x1_5 x2_5 v_far_5 _ _ _ hm hP hD hS (lv_sub hl [0, 1, 2] rfl)
      · replace hm := mt_neg c2 hm
        refine lv_aload_n hx hb dX7_isLong_11 rfl (lv_at hl 0 rfl) ?_
        refine va_get (D := (dC, dI)) (ci := 7) (v := .ref h0_there) (C := RX7) (T := TX7) (N := 19) hx hb hts hiX7 hown hK hP 0 rfl rfl 6 (by decide) (hts (.fieldLink RX7 13 "ServiceDrawerModel" "there" "[Z") (by decide +kernel)) (fun _ h9 => h9) rfl dX7_isLong_12 ?_
        refine lv_iload_n hx hb dX7_isLong_15 rfl (lv_at hl 2 rfl) ?_
        obtain ⟨g3, hm⟩ := mt_gd hm
        refine va_zald hx hb hK hP 2 0 rfl rfl g3 dX7_isLong_16 ?_
        refine lv_if_eq (tgt := 85) hx hb dX7_isLong_17 (by decide) (fun c4 => ?_) (fun c4 => ?_)
        · replace hm := mt_pos c4 hm
          refine lv_iinc (v := (x2_5 + (1 : Int32))) (lv' := [(2, .int (x2_5 + (1 : Int32))), (0, .ref h0), (1, .int x1_5)]) hx hb dX7_isLong_85 hl (k := 2) rfl rfl (by decide) rfl (fun ls hl => ?_)
          refine lv_goto (tgt := 5) hx hb dX7_isLong_88 (by decide) ?_
          exact ih5 x1_5 (x2_5 + (1 : Int32)) v_far_5 _ _ _ hm hP hD hS (lv_sub hl [1, 2, 0] rfl)
        · replace hm := mt_neg c4 hm
          refine lv_aload_n hx hb dX7_isLong_20 rfl (lv_at hl 0 rfl) ?_
          refine lv_aload_n hx hb dX7_isLong_21 rfl (lv_at hl 0 rfl) ?_
          refine va_get (D := (dC, dI)) (ci := 7) (v := .ref h0_first) (C := RX7) (T := TX7) (N := 19) hx hb hts hiX7 hown hK hP 0 rfl rfl 7 (by decide) (hts (.fieldLink RX7 17 "ServiceDrawerModel" "first" "[I") (by decide +kernel)) (fun _ h9 => h9) rfl dX7_isLong_22 ?_
          refine lv_iload_n hx hb dX7_isLong_25 rfl (lv_at hl 2 rfl) ?_
          obtain ⟨g5, hm⟩ := mt_gd hm
          refine va_iald hx hb hK hP 3 1 rfl rfl g5 dX7_isLong_26 ?_
          obtain ⟨q6, hq6, hm⟩ := mt_bind hm
          refine mt_callv (wr := []) hP hD hS hA [0, 1, 2, 3, 4, 5, 6, 7, 8, 9] [] rfl rfl (by decide) (by decide) (va_runV (As := [.int (v_first x2_5.toNatClampNeg)]) (rest := []) ⟨hx, hb, hml, hown, hts⟩ (c_X7_reach l dC dI cZ cI cL h0 h0_kind h0_there h0_first h0_other h0_last h0_kept h0_far h0_out h0_tape H.size (v_first x2_5.toNatClampNeg) v_thrown v_corners v_units v_calls v_seed v_printed v_taped v_length v_at v_wrong v_kind v_there v_first v_other v_last v_kept v_far_5 v_out v_tape fu q6 hq6) (cwV 1 hts gX7_isLong_X7_reach rfl rfl rfl (by decide +kernel) ⟨Nat.le_of_ble_eq_true rfl, Nat.le_of_ble_eq_true rfl⟩) (mt_vS (q := (RX7, TX7, 19)) 7 hC hP hD rfl rfl) rfl rfl hl.1 rfl (lv_room (Nat.le_of_ble_eq_true rfl)) dX7_isLong_27 ⟨Nat.le_of_ble_eq_true rfl, Nat.le_of_ble_eq_true rfl⟩) (fun H locs hP hD hS => ?_)
          have hP : va_P (dC, dI) vwCl [(h0, .inr (7, [.int v_thrown, .int v_corners, .int v_units, .int v_calls, .int v_seed, .ref h0_kind, .ref h0_there, .ref h0_first, .ref h0_other, .ref h0_last, .ref h0_kept, .ref h0_far, .ref h0_out, .int v_printed, .ref h0_tape, .int v_taped, .int v_length, .int v_at, .int v_wrong])), (h0_kind, .inl (cI, 62, .inl v_kind)), (h0_there, .inl (cZ, 62, .inl v_there)), (h0_first, .inl (cI, 62, .inl v_first)), (h0_other, .inl (cI, 62, .inl v_other)), (h0_last, .inl (cI, 62, .inl v_last)), (h0_kept, .inl (cZ, 62, .inl v_kept)), (h0_far, .inl (cI, 21, .inl q6)), (h0_out, .inl (cI, 1200, .inl v_out)), (h0_tape, .inl (cI, 600, .inl v_tape))] H := hP.sub [0, 1, 2, 3, 4, 5, 6, 7, 8, 9] rfl
          have hD : va_D A [(h0, .inr (7, [.int v_thrown, .int v_corners, .int v_units, .int v_calls, .int v_seed, .ref h0_kind, .ref h0_there, .ref h0_first, .ref h0_other, .ref h0_last, .ref h0_kept, .ref h0_far, .ref h0_out, .int v_printed, .ref h0_tape, .int v_taped, .int v_length, .int v_at, .int v_wrong])), (h0_kind, .inl (cI, 62, .inl v_kind)), (h0_there, .inl (cZ, 62, .inl v_there)), (h0_first, .inl (cI, 62, .inl v_first)), (h0_other, .inl (cI, 62, .inl v_other)), (h0_last, .inl (cI, 62, .inl v_last)), (h0_kept, .inl (cZ, 62, .inl v_kept)), (h0_far, .inl (cI, 21, .inl q6)), (h0_out, .inl (cI, 1200, .inl v_out)), (h0_tape, .inl (cI, 600, .inl v_tape))] := hD.sub [0, 1, 2, 3, 4, 5, 6, 7, 8, 9] (by decide) rfl
          refine lv_bipush (v := (30 : Int32)) hx hb dX7_isLong_30 (by decide) ?_
          refine lv_istore_n (lv' := [(3, .int (30 : Int32)), (0, .ref h0), (1, .int x1_5), (2, .int x2_5)]) hx hb dX7_isLong_32 rfl hl (by decide) rfl (fun ls hl => ?_)
          obtain ⟨K85, hK85, hm⟩ := mt_jx hm
          have J85 : ∀ (x1_85 : Int32), ∀ (H : Heap) (locs : List Loc) (ls : Array Slot), K85 x1_85 = some q → va_P (dC, dI) vwCl [(h0, .inr (7, [.int v_thrown, .int v_corners, .int v_units, .int v_calls, .int v_seed, .ref h0_kind, .ref h0_there, .ref h0_first, .ref h0_other, .ref h0_last, .ref h0_kept, .ref h0_far, .ref h0_out, .int v_printed, .ref h0_tape, .int v_taped, .int v_length, .int v_at, .int v_wrong])), (h0_kind, .inl (cI, 62, .inl v_kind)), (h0_there, .inl (cZ, 62, .inl v_there)), (h0_first, .inl (cI, 62, .inl v_first)), (h0_other, .inl (cI, 62, .inl v_other)), (h0_last, .inl (cI, 62, .inl v_last)), (h0_kept, .inl (cZ, 62, .inl v_kept)), (h0_far, .inl (cI, 21, .inl q6)), (h0_out, .inl (cI, 1200, .inl v_out)), (h0_tape, .inl (cI, 600, .inl v_tape))] H → va_D A [(h0, .inr (7, [.int v_thrown, .int v_corners, .int v_units, .int v_calls, .int v_seed, .ref h0_kind, .ref h0_there, .ref h0_first, .ref h0_other, .ref h0_last, .ref h0_kept, .ref h0_far, .ref h0_out, .int v_printed, .ref h0_tape, .int v_taped, .int v_length, .int v_at, .int v_wrong])), (h0_kind, .inl (cI, 62, .inl v_kind)), (h0_there, .inl (cZ, 62, .inl v_there)), (h0_first, .inl (cI, 62, .inl v_first)), (h0_other, .inl (cI, 62, .inl v_other)), (h0_last, .inl (cI, 62, .inl v_last)), (h0_kept, .inl (cZ, 62, .inl v_kept)), (h0_far, .inl (cI, 21, .inl q6)), (h0_out, .inl (cI, 1200, .inl v_out)), (h0_tape, .inl (cI, 600, .inl v_tape))] → va_S A s.heap H locs → lv_has ls 4 [(0, .ref h0), (1, .int x1_85), (2, .int x2_5)] → W p l e (headSpec wsX7_isLong ({ frames := 1, cells := 0, slots := 0, locals := 26 })).room s m [.ref h0].toArray below meth c H locs 0 0 (MQ below (va_Qi (fun (r : Int32) (_ : Unit) => r = q.1) (fun _ t => va_P (dC, dI) vwCl [(h0, .inr (7, [.int v_thrown, .int v_corners, .int v_units, .int v_calls, .int v_seed, .ref h0_kind, .ref h0_there, .ref h0_first, .ref h0_other, .ref h0_last, .ref h0_kept, .ref h0_far, .ref h0_out, .int v_printed, .ref h0_tape, .int v_taped, .int v_length, .int v_at, .int v_wrong])), (h0_kind, .inl (cI, 62, .inl v_kind)), (h0_there, .inl (cZ, 62, .inl v_there)), (h0_first, .inl (cI, 62, .inl v_first)), (h0_other, .inl (cI, 62, .inl v_other)), (h0_last, .inl (cI, 62, .inl v_last)), (h0_kept, .inl (cZ, 62, .inl v_kept)), (h0_far, .inl (cI, 21, .inl q.2)), (h0_out, .inl (cI, 1200, .inl v_out)), (h0_tape, .inl (cI, 600, .inl v_tape))] t.heap ∧ va_D A [(h0, .inr (7, [.int v_thrown, .int v_corners, .int v_units, .int v_calls, .int v_seed, .ref h0_kind, .ref h0_there, .ref h0_first, .ref h0_other, .ref h0_last, .ref h0_kept, .ref h0_far, .ref h0_out, .int v_printed, .ref h0_tape, .int v_taped, .int v_length, .int v_at, .int v_wrong])), (h0_kind, .inl (cI, 62, .inl v_kind)), (h0_there, .inl (cZ, 62, .inl v_there)), (h0_first, .inl (cI, 62, .inl v_first)), (h0_other, .inl (cI, 62, .inl v_other)), (h0_last, .inl (cI, 62, .inl v_last)), (h0_kept, .inl (cZ, 62, .inl v_kept)), (h0_far, .inl (cI, 21, .inl q.2)), (h0_out, .inl (cI, 1200, .inl v_out)), (h0_tape, .inl (cI, 600, .inl v_tape))]) A) [.ref h0].toArray s 0 0 A) (F0 m 85 ls []) := by
            intro x1_85 H locs ls hm hP hD hS hl
            replace hm := mt_app1 hK85 hm
            refine lv_iinc (v := (x2_5 + (1 : Int32))) (lv' := [(2, .int (x2_5 + (1 : Int32))), (0, .ref h0), (1, .int x1_85)]) hx hb dX7_isLong_85 hl (k := 2) rfl rfl (by decide) rfl (fun ls hl => ?_)
            refine lv_goto (tgt := 5) hx hb dX7_isLong_88 (by decide) ?_
            exact ih5 x1_85 (x2_5 + (1 : Int32)) q6 _ _ _ hm hP hD hS (lv_sub hl [1, 2, 0] rfl)
          have L33 : ∀ n33 : Nat, ∀ (x1_33 : Int32) (x3_33 : Int32), ∀ (H : Heap) (locs : List Loc) (ls : Array Slot), m_X7_isLong_L33 v_there v_first q6 K85 n33 x1_33 x3_33 = some q → va_P (dC, dI) vwCl [(h0, .inr (7, [.int v_thrown, .int v_corners, .int v_units, .int v_calls, .int v_seed, .ref h0_kind, .ref h0_there, .ref h0_first, .ref h0_other, .ref h0_last, .ref h0_kept, .ref h0_far, .ref h0_out, .int v_printed, .ref h0_tape, .int v_taped, .int v_length, .int v_at, .int v_wrong])), (h0_kind, .inl (cI, 62, .inl v_kind)), (h0_there, .inl (cZ, 62, .inl v_there)), (h0_first, .inl (cI, 62, .inl v_first)), (h0_other, .inl (cI, 62, .inl v_other)), (h0_last, .inl (cI, 62, .inl v_last)), (h0_kept, .inl (cZ, 62, .inl v_kept)), (h0_far, .inl (cI, 21, .inl q6)), (h0_out, .inl (cI, 1200, .inl v_out)), (h0_tape, .inl (cI, 600, .inl v_tape))] H → va_D A [(h0, .inr (7, [.int v_thrown, .int v_corners, .int v_units, .int v_calls, .int v_seed, .ref h0_kind, .ref h0_there, .ref h0_first, .ref h0_other, .ref h0_last, .ref h0_kept, .ref h0_far, .ref h0_out, .int v_printed, .ref h0_tape, .int v_taped, .int v_length, .int v_at, .int v_wrong])), (h0_kind, .inl (cI, 62, .inl v_kind)), (h0_there, .inl (cZ, 62, .inl v_there)), (h0_first, .inl (cI, 62, .inl v_first)), (h0_other, .inl (cI, 62, .inl v_other)), (h0_last, .inl (cI, 62, .inl v_last)), (h0_kept, .inl (cZ, 62, .inl v_kept)), (h0_far, .inl (cI, 21, .inl q6)), (h0_out, .inl (cI, 1200, .inl v_out)), (h0_tape, .inl (cI, 600, .inl v_tape))] → va_S A s.heap H locs → lv_has ls 4 [(0, .ref h0), (1, .int x1_33), (2, .int x2_5), (3, .int x3_33)] → W p l e (headSpec wsX7_isLong ({ frames := 1, cells := 0, slots := 0, locals := 26 })).room s m [.ref h0].toArray below meth c H locs 0 0 (MQ below (va_Qi (fun (r : Int32) (_ : Unit) => r = q.1) (fun _ t => va_P (dC, dI) vwCl [(h0, .inr (7, [.int v_thrown, .int v_corners, .int v_units, .int v_calls, .int v_seed, .ref h0_kind, .ref h0_there, .ref h0_first, .ref h0_other, .ref h0_last, .ref h0_kept, .ref h0_far, .ref h0_out, .int v_printed, .ref h0_tape, .int v_taped, .int v_length, .int v_at, .int v_wrong])), (h0_kind, .inl (cI, 62, .inl v_kind)), (h0_there, .inl (cZ, 62, .inl v_there)), (h0_first, .inl (cI, 62, .inl v_first)), (h0_other, .inl (cI, 62, .inl v_other)), (h0_last, .inl (cI, 62, .inl v_last)), (h0_kept, .inl (cZ, 62, .inl v_kept)), (h0_far, .inl (cI, 21, .inl q.2)), (h0_out, .inl (cI, 1200, .inl v_out)), (h0_tape, .inl (cI, 600, .inl v_tape))] t.heap ∧ va_D A [(h0, .inr (7, [.int v_thrown, .int v_corners, .int v_units, .int v_calls, .int v_seed, .ref h0_kind, .ref h0_there, .ref h0_first, .ref h0_other, .ref h0_last, .ref h0_kept, .ref h0_far, .ref h0_out, .int v_printed, .ref h0_tape, .int v_taped, .int v_length, .int v_at, .int v_wrong])), (h0_kind, .inl (cI, 62, .inl v_kind)), (h0_there, .inl (cZ, 62, .inl v_there)), (h0_first, .inl (cI, 62, .inl v_first)), (h0_other, .inl (cI, 62, .inl v_other)), (h0_last, .inl (cI, 62, .inl v_last)), (h0_kept, .inl (cZ, 62, .inl v_kept)), (h0_far, .inl (cI, 21, .inl q.2)), (h0_out, .inl (cI, 1200, .inl v_out)), (h0_tape, .inl (cI, 600, .inl v_tape))]) A) [.ref h0].toArray s 0 0 A) (F0 m 33 ls []) := by
            intro n33
            induction n33 with
            | zero =>
              intro x1_33 x3_33 H locs ls hm hP hD hS hl
              exact absurd hm (fun h => nomatch h)
            | succ n33 ih33 =>
              intro x1_33 x3_33 H locs ls hm hP hD hS hl
              rw [m_X7_isLong_L33] at hm
              refine lv_iload_n hx hb dX7_isLong_33 rfl (lv_at hl 3 rfl) ?_
              refine lv_bipush (v := (41 : Int32)) hx hb dX7_isLong_34 (by decide) ?_
              refine lv_icmp_ge (tgt := 85) hx hb dX7_isLong_36 (by decide) (fun c7 => ?_) (fun c7 => ?_)
              · replace hm := mt_pos c7 hm
                exact J85 x1_33 _ _ _ hm hP hD hS (lv_sub hl [0, 1, 2] rfl)
              · replace hm := mt_neg c7 hm
                refine lv_iload_n hx hb dX7_isLong_39 rfl (lv_at hl 1 rfl) ?_
                refine lv_if_ne (tgt := 73) hx hb dX7_isLong_40 (by decide) (fun c8 => ?_) (fun c8 => ?_)
                · replace hm := mt_neg c8 hm
                  refine lv_iconst (v := (1 : Int32)) hx hb dX7_isLong_73 (by decide) ?_
                  refine lv_goto (tgt := 78) hx hb dX7_isLong_74 (by decide) ?_
                  refine lv_istore_n (lv' := [(1, .int (1 : Int32)), (0, .ref h0), (2, .int x2_5), (3, .int x3_33)]) hx hb dX7_isLong_78 rfl hl (by decide) rfl (fun ls hl => ?_)
                  refine lv_iinc (v := (x3_33 + (1 : Int32))) (lv' := [(3, .int (x3_33 + (1 : Int32))), (1, .int (1 : Int32)), (0, .ref h0), (2, .int x2_5)]) hx hb dX7_isLong_79 hl (k := 3) rfl rfl (by decide) rfl (fun ls hl => ?_)
                  refine lv_goto (tgt := 33) hx hb dX7_isLong_82 (by decide) ?_
                  exact ih33 (1 : Int32) (x3_33 + (1 : Int32)) _ _ _ hm hP hD hS (lv_sub hl [2, 1, 3, 0] rfl)
                · replace hm := mt_pos c8 hm
                  refine lv_aload_n hx hb dX7_isLong_43 rfl (lv_at hl 0 rfl) ?_
                  refine va_get (D := (dC, dI)) (ci := 7) (v := .ref h0_there) (C := RX7) (T := TX7) (N := 19) hx hb hts hiX7 hown hK hP 0 rfl rfl 6 (by decide) (hts (.fieldLink RX7 13 "ServiceDrawerModel" "there" "[Z") (by decide +kernel)) (fun _ h9 => h9) rfl dX7_isLong_44 ?_
                  refine lv_iload_n hx hb dX7_isLong_47 rfl (lv_at hl 3 rfl) ?_
                  obtain ⟨g9, hm⟩ := mt_gd hm
                  refine va_zald hx hb hK hP 2 0 rfl rfl g9 dX7_isLong_48 ?_
                  refine lv_if_eq (tgt := 77) hx hb dX7_isLong_49 (by decide) (fun c10 => ?_) (fun c10 => ?_)
                  · replace hm := mt_pos c10 hm
                    refine lv_iconst (v := (0 : Int32)) hx hb dX7_isLong_77 (by decide) ?_
                    refine lv_istore_n (lv' := [(1, .int (0 : Int32)), (0, .ref h0), (2, .int x2_5), (3, .int x3_33)]) hx hb dX7_isLong_78 rfl hl (by decide) rfl (fun ls hl => ?_)
                    refine lv_iinc (v := (x3_33 + (1 : Int32))) (lv' := [(3, .int (x3_33 + (1 : Int32))), (1, .int (0 : Int32)), (0, .ref h0), (2, .int x2_5)]) hx hb dX7_isLong_79 hl (k := 3) rfl rfl (by decide) rfl (fun ls hl => ?_)
                    refine lv_goto (tgt := 33) hx hb dX7_isLong_82 (by decide) ?_
                    exact ih33 (0 : Int32) (x3_33 + (1 : Int32)) _ _ _ hm hP hD hS (lv_sub hl [2, 1, 3, 0] rfl)
                  · replace hm := mt_neg c10 hm
                    refine lv_aload_n hx hb dX7_isLong_52 rfl (lv_at hl 0 rfl) ?_
                    refine va_get (D := (dC, dI)) (ci := 7) (v := .ref h0_far) (C := RX7) (T := TX7) (N := 19) hx hb hts hiX7 hown hK hP 0 rfl rfl 11 (by decide) (hts (.fieldLink RX7 29 "ServiceDrawerModel" "far" "[I") (by decide +kernel)) (fun _ h9 => h9) rfl dX7_isLong_53 ?_
                    refine lv_aload_n hx hb dX7_isLong_56 rfl (lv_at hl 0 rfl) ?_
                    refine va_get (D := (dC, dI)) (ci := 7) (v := .ref h0_first) (C := RX7) (T := TX7) (N := 19) hx hb hts hiX7 hown hK hP 0 rfl rfl 7 (by decide) (hts (.fieldLink RX7 17 "ServiceDrawerModel" "first" "[I") (by decide +kernel)) (fun _ h9 => h9) rfl dX7_isLong_57 ?_
                    refine lv_iload_n hx hb dX7_isLong_60 rfl (lv_at hl 3 rfl) ?_
                    obtain ⟨g11, hm⟩ := mt_gd hm
                    refine va_iald hx hb hK hP 3 1 rfl rfl g11 dX7_isLong_61 ?_
                    obtain ⟨g12, hm⟩ := mt_gd hm
                    refine va_iald hx hb hK hP 7 1 rfl rfl g12 dX7_isLong_62 ?_
                    refine lv_bipush (v := (100 : Int32)) hx hb dX7_isLong_63 (by decide) ?_
                    refine lv_ldc (v := (999999 : Int32)) hx hb hown (hts (.constant RX7 97 (999999 : Int32)) (by decide +kernel)) dX7_isLong_65 ?_
                    obtain ⟨q13, hq13, hm⟩ := mt_bind hm
                    refine vp_callSi (va_Run.run (va_runS (As := [.int (q6 (v_first x3_33.toNatClampNeg).toNatClampNeg), .int (100 : Int32), .int (999999 : Int32)]) (rest := []) ⟨hx, hb, hml, hown, hts⟩ (c_X7_in l dC dI cZ cI cL (q6 (v_first x3_33.toNatClampNeg).toNatClampNeg) (100 : Int32) (999999 : Int32) q13 hq13) (va_cwS 3 hts gX7_isLong_X7_in rfl rfl rfl (by decide +kernel) ⟨Nat.le_of_ble_eq_true rfl, Nat.le_of_ble_eq_true rfl⟩) (mt_pR hC (hP.sub (ws' := []) [] rfl)) rfl rfl hl.1 rfl (lv_room (Nat.le_of_ble_eq_true rfl)) dX7_isLong_67 ⟨Nat.le_of_ble_eq_true rfl, Nat.le_of_ble_eq_true rfl⟩)) (fun r er => ?_)
                    replace er := er.symm
                    subst er
                    refine lv_if_eq (tgt := 77) hx hb dX7_isLong_70 (by decide) (fun c14 => ?_) (fun c14 => ?_)
                    · replace hm := mt_pos c14 hm
                      refine lv_iconst (v := (0 : Int32)) hx hb dX7_isLong_77 (by decide) ?_
                      refine lv_istore_n (lv' := [(1, .int (0 : Int32)), (0, .ref h0), (2, .int x2_5), (3, .int x3_33)]) hx hb dX7_isLong_78 rfl hl (by decide) rfl (fun ls hl => ?_)
                      refine lv_iinc (v := (x3_33 + (1 : Int32))) (lv' := [(3, .int (x3_33 + (1 : Int32))), (1, .int (0 : Int32)), (0, .ref h0), (2, .int x2_5)]) hx hb dX7_isLong_79 hl (k := 3) rfl rfl (by decide) rfl (fun ls hl => ?_)
                      refine lv_goto (tgt := 33) hx hb dX7_isLong_82 (by decide) ?_
                      exact ih33 (0 : Int32) (x3_33 + (1 : Int32)) _ _ _ hm hP hD hS (lv_sub hl [2, 1, 3, 0] rfl)
                    · replace hm := mt_neg c14 hm
                      refine lv_iconst (v := (1 : Int32)) hx hb dX7_isLong_73 (by decide) ?_
                      refine lv_goto (tgt := 78) hx hb dX7_isLong_74 (by decide) ?_
                      refine lv_istore_n (lv' := [(1, .int (1 : Int32)), (0, .ref h0), (2, .int x2_5), (3, .int x3_33)]) hx hb dX7_isLong_78 rfl hl (by decide) rfl (fun ls hl => ?_)
                      refine lv_iinc (v := (x3_33 + (1 : Int32))) (lv' := [(3, .int (x3_33 + (1 : Int32))), (1, .int (1 : Int32)), (0, .ref h0), (2, .int x2_5)]) hx hb dX7_isLong_79 hl (k := 3) rfl rfl (by decide) rfl (fun ls hl => ?_)
                      refine lv_goto (tgt := 33) hx hb dX7_isLong_82 (by decide) ?_
                      exact ih33 (1 : Int32) (x3_33 + (1 : Int32)) _ _ _ hm hP hD hS (lv_sub hl [2, 1, 3, 0] rfl)
          exact L33 fu x1_5 (30 : Int32) _ _ _ hm hP hD hS (lv_sub hl [1, 2, 3, 0] rfl)
  exact L5 fu (0 : Int32) (41 : Int32) v_far _ _ _ hm hP hD hS (lv_sub hl [2, 1, 0] rfl)
def m_X7_isSo_L7 (fu : Nat) (p1 : Int32) (v_kind : Nat → Int32) (v_there : Nat → Int32) (v_first : Nat → Int32) (v_other : Nat → Int32) (v_last : Nat → Int32) (K145 : Int32 → Int32 → Int32 → (Nat → Int32) → Option (Int32 × (Nat → Int32))) : Nat → Int32 → Int32 → Int32 → (Nat → Int32) → Option (Int32 × (Nat → Int32))
  | 0, _, _, _, _ => none
  | n7 + 1, x2_7, x3_7, x4_7, v_far_7 => if (62 : Int32) ≤ x4_7 then K145 x2_7 x3_7 x4_7 v_far_7 else mt_j (fun (j0_57 : Int32) (v_far_57 : Nat → Int32) => mt_j (fun (j0_104 : Int32) => if (¬ (x4_7 < 0 ∨ 62 ≤ x4_7.toNatClampNeg)) then if (v_kind x4_7.toNatClampNeg) = 0 then if (¬ (x4_7 < 0 ∨ 62 ≤ x4_7.toNatClampNeg)) then if (v_there x4_7.toNatClampNeg) = 0 then m_X7_isSo_L7 fu p1 v_kind v_there v_first v_other v_last K145 n7 j0_104 (x3_7 + (0 : Int32)) (x4_7 + (1 : Int32)) v_far_57 else if (¬ (x4_7 < 0 ∨ 62 ≤ x4_7.toNatClampNeg)) then m_X7_isSo_L7 fu p1 v_kind v_there v_first v_other v_last K145 n7 j0_104 (x3_7 + (v_last x4_7.toNatClampNeg)) (x4_7 + (1 : Int32)) v_far_57 else none else none else m_X7_isSo_L7 fu p1 v_kind v_there v_first v_other v_last K145 n7 j0_104 (x3_7 + (0 : Int32)) (x4_7 + (1 : Int32)) v_far_57 else none) fun K104 => mt_j (fun (u99 : Unit) => K104 (1 : Int32)) fun K99 => if j0_57 = 0 then mt_j (fun (u103 : Unit) => K104 (0 : Int32)) fun K103 => if p1 = (2 : Int32) then if (¬ (x4_7 < 0 ∨ 62 ≤ x4_7.toNatClampNeg)) then if (v_kind x4_7.toNatClampNeg) = (1 : Int32) then if (¬ (x4_7 < 0 ∨ 62 ≤ x4_7.toNatClampNeg)) then if (v_there x4_7.toNatClampNeg) = 0 then K103 () else if (¬ (x4_7 < 0 ∨ 62 ≤ x4_7.toNatClampNeg)) then if (v_other x4_7.toNatClampNeg) ≤ (3 : Int32) then K103 () else K99 () else none else none else K103 () else none else K103 () else K99 ()) fun K57 => mt_j (fun (v_far_52 : Nat → Int32) => K57 (1 : Int32) v_far_52) fun K52 => if x2_7 = 0 then mt_j (fun (v_far_56 : Nat → Int32) => K57 (0 : Int32) v_far_56) fun K56 => if p1 = 0 then if (¬ (x4_7 < 0 ∨ 62 ≤ x4_7.toNatClampNeg)) then if (v_kind x4_7.toNatClampNeg) = (2 : Int32) then if (¬ (x4_7 < 0 ∨ 62 ≤ x4_7.toNatClampNeg)) then if (v_there x4_7.toNatClampNeg) = 0 then K56 v_far_7 else (m_X7_isServed fu x4_7 v_there v_first v_other v_last v_far_7).bind fun q32 => if q32.1 = 0 then K52 q32.2 else K56 q32.2 else none else K56 v_far_7 else none else K56 v_far_7 else K52 v_far_7
def m_X7_isSo (fu : Nat) (p1 : Int32) (v_kind : Nat → Int32) (v_there : Nat → Int32) (v_first : Nat → Int32) (v_other : Nat → Int32) (v_last : Nat → Int32) (v_far : Nat → Int32) : Option (Int32 × (Nat → Int32)) := mt_j (fun (x2_145 : Int32) (x3_145 : Int32) (x4_145 : Int32) (v_far_145 : Nat → Int32) => if p1 = 0 then if (x2_145 &&& 1 = x2_145) then some (x2_145, v_far_145) else none else if p1 = (1 : Int32) then (m_X7_isTwice fu v_there v_first v_last).bind fun q9 => if (q9 &&& 1 = q9) then some (q9, v_far_145) else none else if p1 = (2 : Int32) then if x2_145 = 0 then some ((1 : Int32), v_far_145) else some ((0 : Int32), v_far_145) else if p1 = (3 : Int32) then (m_X7_isLong fu v_there v_first v_other v_last v_far_145).bind fun q6 => if (q6.1 &&& 1 = q6.1) then some (q6.1, q6.2) else none else if x3_145 ≤ (300 : Int32) then some ((0 : Int32), v_far_145) else some ((1 : Int32), v_far_145)) fun K145 => m_X7_isSo_L7 fu p1 v_kind v_there v_first v_other v_last K145 fu (0 : Int32) (0 : Int32) (0 : Int32) v_far
set_option maxHeartbeats 4000000 in
set_option maxRecDepth 100000 in
theorem c_X7_isSo (l : Launch) (dC : Nat → ClassId) (dI : Nat → Nat → Nat) (cZ cI cL : ClassId) (h0 h0_kind h0_there h0_first h0_other h0_last h0_kept h0_far h0_out h0_tape : Nat) (sz : Nat) (p1 : Int32) (v_thrown : Int32) (v_corners : Int32) (v_units : Int32) (v_calls : Int32) (v_seed : Int32) (v_printed : Int32) (v_taped : Int32) (v_length : Int32) (v_at : Int32) (v_wrong : Int32) (v_kind : Nat → Int32) (v_there : Nat → Int32) (v_first : Nat → Int32) (v_other : Nat → Int32) (v_last : Nat → Int32) (v_kept : Nat → Int32) (v_far : Nat → Int32) (v_out : Nat → Int32) (v_tape : Nat → Int32) (fu : Nat) (q : Int32 × (Nat → Int32)) (hm : m_X7_isSo fu p1 v_kind v_there v_first v_other v_last v_far = some q) : Met l yX7_isSo wsX7_isSo ({ frames := 2, cells := 0, slots := 0, locals := 49 }) (va_Pc [.ref h0, .int p1] (mt_S (dC, dI) cZ cI cL sz [(h0, .inr (7, [.int v_thrown, .int v_corners, .int v_units, .int v_calls, .int v_seed, .ref h0_kind, .ref h0_there, .ref h0_first, .ref h0_other, .ref h0_last, .ref h0_kept, .ref h0_far, .ref h0_out, .int v_printed, .ref h0_tape, .int v_taped, .int v_length, .int v_at, .int v_wrong])), (h0_kind, .inl (cI, 62, .inl v_kind)), (h0_there, .inl (cZ, 62, .inl v_there)), (h0_first, .inl (cI, 62, .inl v_first)), (h0_other, .inl (cI, 62, .inl v_other)), (h0_last, .inl (cI, 62, .inl v_last)), (h0_kept, .inl (cZ, 62, .inl v_kept)), (h0_far, .inl (cI, 21, .inl v_far)), (h0_out, .inl (cI, 1200, .inl v_out)), (h0_tape, .inl (cI, 600, .inl v_tape))])) (va_Qi (fun (r : Int32) (_ : Unit) => r = q.1) (fun _ t => va_P (dC, dI) vwCl [(h0, .inr (7, [.int v_thrown, .int v_corners, .int v_units, .int v_calls, .int v_seed, .ref h0_kind, .ref h0_there, .ref h0_first, .ref h0_other, .ref h0_last, .ref h0_kept, .ref h0_far, .ref h0_out, .int v_printed, .ref h0_tape, .int v_taped, .int v_length, .int v_at, .int v_wrong])), (h0_kind, .inl (cI, 62, .inl v_kind)), (h0_there, .inl (cZ, 62, .inl v_there)), (h0_first, .inl (cI, 62, .inl v_first)), (h0_other, .inl (cI, 62, .inl v_other)), (h0_last, .inl (cI, 62, .inl v_last)), (h0_kept, .inl (cZ, 62, .inl v_kept)), (h0_far, .inl (cI, 21, .inl q.2)), (h0_out, .inl (cI, 1200, .inl v_out)), (h0_tape, .inl (cI, 600, .inl v_tape))] t.heap ∧ va_D (va_A [(h0, .inr (7, [.int v_thrown, .int v_corners, .int v_units, .int v_calls, .int v_seed, .ref h0_kind, .ref h0_there, .ref h0_first, .ref h0_other, .ref h0_last, .ref h0_kept, .ref h0_far, .ref h0_out, .int v_printed, .ref h0_tape, .int v_taped, .int v_length, .int v_at, .int v_wrong])), (h0_kind, .inl (cI, 62, .inl v_kind)), (h0_there, .inl (cZ, 62, .inl v_there)), (h0_first, .inl (cI, 62, .inl v_first)), (h0_other, .inl (cI, 62, .inl v_other)), (h0_last, .inl (cI, 62, .inl v_last)), (h0_kept, .inl (cZ, 62, .inl v_kept)), (h0_far, .inl (cI, 21, .inl v_far)), (h0_out, .inl (cI, 1200, .inl v_out)), (h0_tape, .inl (cI, 600, .inl v_tape))] sz) [(h0, .inr (7, [.int v_thrown, .int v_corners, .int v_units, .int v_calls, .int v_seed, .ref h0_kind, .ref h0_there, .ref h0_first, .ref h0_other, .ref h0_last, .ref h0_kept, .ref h0_far, .ref h0_out, .int v_printed, .ref h0_tape, .int v_taped, .int v_length, .int v_at, .int v_wrong])), (h0_kind, .inl (cI, 62, .inl v_kind)), (h0_there, .inl (cZ, 62, .inl v_there)), (h0_first, .inl (cI, 62, .inl v_first)), (h0_other, .inl (cI, 62, .inl v_other)), (h0_last, .inl (cI, 62, .inl v_last)), (h0_kept, .inl (cZ, 62, .inl v_kept)), (h0_far, .inl (cI, 21, .inl q.2)), (h0_out, .inl (cI, 1200, .inl v_out)), (h0_tape, .inl (cI, 600, .inl v_tape))]) (va_A [(h0, .inr (7, [.int v_thrown, .int v_corners, .int v_units, .int v_calls, .int v_seed, .ref h0_kind, .ref h0_there, .ref h0_first, .ref h0_other, .ref h0_last, .ref h0_kept, .ref h0_far, .ref h0_out, .int v_printed, .ref h0_tape, .int v_taped, .int v_length, .int v_at, .int v_wrong])), (h0_kind, .inl (cI, 62, .inl v_kind)), (h0_there, .inl (cZ, 62, .inl v_there)), (h0_first, .inl (cI, 62, .inl v_first)), (h0_other, .inl (cI, 62, .inl v_other)), (h0_last, .inl (cI, 62, .inl v_last)), (h0_kept, .inl (cZ, 62, .inl v_kept)), (h0_far, .inl (cI, 21, .inl v_far)), (h0_out, .inl (cI, 1200, .inl v_out)), (h0_tape, .inl (cI, 600, .inl v_tape))] sz)) 0 0 (va_A [(h0, .inr (7, [.int v_thrown, .int v_corners, .int v_units, .int v_calls, .int v_seed, .ref h0_kind, .ref h0_there, .ref h0_first, .ref h0_other, .ref h0_last, .ref h0_kept, .ref h0_far, .ref h0_out, .int v_printed, .ref h0_tape, .int v_taped, .int v_length, .int v_at, .int v_wrong])), (h0_kind, .inl (cI, 62, .inl v_kind)), (h0_there, .inl (cZ, 62, .inl v_there)), (h0_first, .inl (cI, 62, .inl v_first)), (h0_other, .inl (cI, 62, .inl v_other)), (h0_last, .inl (cI, 62, .inl v_last)), (h0_kept, .inl (cZ, 62, .inl v_kept)), (h0_far, .inl (cI, 21, .inl v_far)), (h0_out, .inl (cI, 1200, .inl v_out)), (h0_tape, .inl (cI, 600, .inl v_tape))] sz) := by
  refine Met.ofW (cc := cX7_isSo) (maxL := 5) (ret := (some .boolean)) (by decide) rfl ?_
  intro p e s m args below meth c s₁ B hml hv
  obtain ⟨rfl, hsz, hP, hC, hD0⟩ := hv
  have hx := B.exec
  have hb := B.bytes
  have hr := B.returns
  have hts := atoms_spec (ws := wsX7_isSo) B.pre
  have hown : s.vm.findClass RX7 = some m.cls := findClass_of_methodNamed B.named
  have hlocks := B.notSynchronized
  have hK := hC.1
  have hiX7 : ∀ w ∈ wsX70, w ∈ wsX7_isSo := by decide +kernel
  subst hsz
  have hD := hD0.self (sz := s.heap.size)
  generalize hAe : va_A [(h0, .inr (7, [.int v_thrown, .int v_corners, .int v_units, .int v_calls, .int v_seed, .ref h0_kind, .ref h0_there, .ref h0_first, .ref h0_other, .ref h0_last, .ref h0_kept, .ref h0_far, .ref h0_out, .int v_printed, .ref h0_tape, .int v_taped, .int v_length, .int v_at, .int v_wrong])), (h0_kind, .inl (cI, 62, .inl v_kind)), (h0_there, .inl (cZ, 62, .inl v_there)), (h0_first, .inl (cI, 62, .inl v_first)), (h0_other, .inl (cI, 62, .inl v_other)), (h0_last, .inl (cI, 62, .inl v_last)), (h0_kept, .inl (cZ, 62, .inl v_kept)), (h0_far, .inl (cI, 21, .inl v_far)), (h0_out, .inl (cI, 1200, .inl v_out)), (h0_tape, .inl (cI, 600, .inl v_tape))] s.heap.size = A at hD ⊢
  have hA : ∀ q : Nat, s.heap.size ≤ q → A q := fun q h => by rw [← hAe]; exact Or.inr h
  have hS : va_S A s.heap s.heap [] := va_S.rf
  have hl := lv_entry [.ref h0, .int p1] (n := 5) (Nat.le_of_ble_eq_true rfl)
  rw [lg_entry_eq]
  generalize (lg_sl [.ref h0, .int p1] ++ List.replicate (5 - (lg_sl [.ref h0, .int p1]).length) Slot.unset).toArray = ls at hl ⊢
  have hl : lv_has ls 5 [(0, .ref h0), (1, .int p1)] := hl
  rw [m_X7_isSo] at hm
  refine lv_iconst (v := (0 : Int32)) hx hb dX7_isSo_0 (by decide) ?_
  refine lv_istore_n (lv' := [(2, .int (0 : Int32)), (0, .ref h0), (1, .int p1)]) hx hb dX7_isSo_1 rfl hl (by decide) rfl (fun ls hl => ?_)
  refine lv_iconst (v := (0 : Int32)) hx hb dX7_isSo_2 (by decide) ?_
  refine lv_istore_n (lv' := [(3, .int (0 : Int32)), (2, .int (0 : Int32)), (0, .ref h0), (1, .int p1)]) hx hb dX7_isSo_3 rfl hl (by decide) rfl (fun ls hl => ?_)
  refine lv_iconst (v := (0 : Int32)) hx hb dX7_isSo_4 (by decide) ?_
  refine lv_istore (lv' := [(4, .int (0 : Int32)), (3, .int (0 : Int32)), (2, .int (0 : Int32)), (0, .ref h0), (1, .int p1)]) hx hb dX7_isSo_5 hl (by decide) rfl (fun ls hl => ?_)
  obtain ⟨K145, hK145, hm⟩ := mt_jx hm
  have J145 : ∀ (x2_145 : Int32) (x3_145 : Int32) (x4_145 : Int32) (v_far_145 : Nat → Int32), ∀ (H : Heap) (locs : List Loc) (ls : Array Slot), K145 x2_145 x3_145 x4_145 v_far_145 = some q → va_P (dC, dI) vwCl [(h0, .inr (7, [.int v_thrown, .int v_corners, .int v_units, .int v_calls, .int v_seed, .ref h0_kind, .ref h0_there, .ref h0_first, .ref h0_other, .ref h0_last, .ref h0_kept, .ref h0_far, .ref h0_out, .int v_printed, .ref h0_tape, .int v_taped, .int v_length, .int v_at, .int v_wrong])), (h0_kind, .inl (cI, 62, .inl v_kind)), (h0_there, .inl (cZ, 62, .inl v_there)), (h0_first, .inl (cI, 62, .inl v_first)), (h0_other, .inl (cI, 62, .inl v_other)), (h0_last, .inl (cI, 62, .inl v_last)), (h0_kept, .inl (cZ, 62, .inl v_kept)), (h0_far, .inl (cI, 21, .inl v_far_145)), (h0_out, .inl (cI, 1200, .inl v_out)), (h0_tape, .inl (cI, 600, .inl v_tape))] H → va_D A [(h0, .inr (7, [.int v_thrown, .int v_corners, .int v_units, .int v_calls, .int v_seed, .ref h0_kind, .ref h0_there, .ref h0_first, .ref h0_other, .ref h0_last, .ref h0_kept, .ref h0_far, .ref h0_out, .int v_printed, .ref h0_tape, .int v_taped, .int v_length, .int v_at, .int v_wrong])), (h0_kind, .inl (cI, 62, .inl v_kind)), (h0_there, .inl (cZ, 62, .inl v_there)), (h0_first, .inl (cI, 62, .inl v_first)), (h0_other, .inl (cI, 62, .inl v_other)), (h0_last, .inl (cI, 62, .inl v_last)), (h0_kept, .inl (cZ, 62, .inl v_kept)), (h0_far, .inl (cI, 21, .inl v_far_145)), (h0_out, .inl (cI, 1200, .inl v_out)), (h0_tape, .inl (cI, 600, .inl v_tape))] → va_S A s.heap H locs → lv_has ls 5 [(0, .ref h0), (1, .int p1), (2, .int x2_145), (3, .int x3_145), (4, .int x4_145)] → W p l e (headSpec wsX7_isSo ({ frames := 2, cells := 0, slots := 0, locals := 49 })).room s m [.ref h0, .int p1].toArray below meth c H locs 0 0 (MQ below (va_Qi (fun (r : Int32) (_ : Unit) => r = q.1) (fun _ t => va_P (dC, dI) vwCl [(h0, .inr (7, [.int v_thrown, .int v_corners, .int v_units, .int v_calls, .int v_seed, .ref h0_kind, .ref h0_there, .ref h0_first, .ref h0_other, .ref h0_last, .ref h0_kept, .ref h0_far, .ref h0_out, .int v_printed, .ref h0_tape, .int v_taped, .int v_length, .int v_at, .int v_wrong])), (h0_kind, .inl (cI, 62, .inl v_kind)), (h0_there, .inl (cZ, 62, .inl v_there)), (h0_first, .inl (cI, 62, .inl v_first)), (h0_other, .inl (cI, 62, .inl v_other)), (h0_last, .inl (cI, 62, .inl v_last)), (h0_kept, .inl (cZ, 62, .inl v_kept)), (h0_far, .inl (cI, 21, .inl q.2)), (h0_out, .inl (cI, 1200, .inl v_out)), (h0_tape, .inl (cI, 600, .inl v_tape))] t.heap ∧ va_D A [(h0, .inr (7, [.int v_thrown, .int v_corners, .int v_units, .int v_calls, .int v_seed, .ref h0_kind, .ref h0_there, .ref h0_first, .ref h0_other, .ref h0_last, .ref h0_kept, .ref h0_far, .ref h0_out, .int v_printed, .ref h0_tape, .int v_taped, .int v_length, .int v_at, .int v_wrong])), (h0_kind, .inl (cI, 62, .inl v_kind)), (h0_there, .inl (cZ, 62, .inl v_there)), (h0_first, .inl (cI, 62, .inl v_first)), (h0_other, .inl (cI, 62, .inl v_other)), (h0_last, .inl (cI, 62, .inl v_last)), (h0_kept, .inl (cZ, 62, .inl v_kept)), (h0_far, .inl (cI, 21, .inl q.2)), (h0_out, .inl (cI, 1200, .inl v_out)), (h0_tape, .inl (cI, 600, .inl v_tape))]) A) [.ref h0, .int p1].toArray s 0 0 A) (F0 m 145 ls []) := by
    intro x2_145 x3_145 x4_145 v_far_145 H locs ls hm hP hD hS hl
    replace hm := mt_app4 hK145 hm
    refine lv_iload_n hx hb dX7_isSo_145 rfl (lv_at hl 1 rfl) ?_
    refine lv_if_ne (tgt := 153) hx hb dX7_isSo_146 (by decide) (fun c1 => ?_) (fun c1 => ?_)
    · replace hm := mt_neg c1 hm
      refine lv_iload_n hx hb dX7_isSo_153 rfl (lv_at hl 1 rfl) ?_
      refine lv_iconst (v := (1 : Int32)) hx hb dX7_isSo_154 (by decide) ?_
      refine lv_icmp_ne (tgt := 165) hx hb dX7_isSo_155 (by decide) (fun c2 => ?_) (fun c2 => ?_)
      · replace hm := mt_neg c2 hm
        refine lv_iload_n hx hb dX7_isSo_165 rfl (lv_at hl 1 rfl) ?_
        refine lv_iconst (v := (2 : Int32)) hx hb dX7_isSo_166 (by decide) ?_
        refine lv_icmp_ne (tgt := 182) hx hb dX7_isSo_167 (by decide) (fun c3 => ?_) (fun c3 => ?_)
        · replace hm := mt_neg c3 hm
          refine lv_iload_n hx hb dX7_isSo_182 rfl (lv_at hl 1 rfl) ?_
          refine lv_iconst (v := (3 : Int32)) hx hb dX7_isSo_183 (by decide) ?_
          refine lv_icmp_ne (tgt := 194) hx hb dX7_isSo_184 (by decide) (fun c4 => ?_) (fun c4 => ?_)
          · replace hm := mt_neg c4 hm
            refine lv_iload_n hx hb dX7_isSo_194 rfl (lv_at hl 3 rfl) ?_
            refine lv_sipush (v := (300 : Int32)) hx hb dX7_isSo_195 (by decide) ?_
            refine lv_icmp_le (tgt := 205) hx hb dX7_isSo_198 (by decide) (fun c5 => ?_) (fun c5 => ?_)
            · replace hm := mt_pos c5 hm
              refine lv_iconst (v := (0 : Int32)) hx hb dX7_isSo_205 (by decide) ?_
              obtain rfl := Option.some.inj hm
              exact W.zret hx hb hr mt_z0 (fun t ht hW => ⟨⟨_, (), rfl, rfl, by rw [ht]; exact hP, hD⟩, hS.F ht⟩) hS.2.2 dX7_isSo_206
            · replace hm := mt_neg c5 hm
              refine lv_iconst (v := (1 : Int32)) hx hb dX7_isSo_201 (by decide) ?_
              refine lv_goto (tgt := 206) hx hb dX7_isSo_202 (by decide) ?_
              obtain rfl := Option.some.inj hm
              exact W.zret hx hb hr mt_z1 (fun t ht hW => ⟨⟨_, (), rfl, rfl, by rw [ht]; exact hP, hD⟩, hS.F ht⟩) hS.2.2 dX7_isSo_206
          · replace hm := mt_pos c4 hm
            refine lv_aload_n hx hb dX7_isSo_187 rfl (lv_at hl 0 rfl) ?_
            obtain ⟨q6, hq6, hm⟩ := mt_bind hm
            refine mt_calli (wr := []) hP hD hS hA [0, 1, 2, 3, 4, 5, 6, 7, 8, 9] [] rfl rfl (by decide) (by decide) (va_runV (As := []) (rest := []) ⟨hx, hb, hml, hown, hts⟩ (c_X7_isLong l dC dI cZ cI cL h0 h0_kind h0_there h0_first h0_other h0_last h0_kept h0_far h0_out h0_tape H.size v_thrown v_corners v_units v_calls v_seed v_printed v_taped v_length v_at v_wrong v_kind v_there v_first v_other v_last v_kept v_far_145 v_out v_tape fu q6 hq6) (cwV 0 hts gX7_isSo_X7_isLong rfl rfl rfl (by decide +kernel) ⟨Nat.le_of_ble_eq_true rfl, Nat.le_of_ble_eq_true rfl⟩) (mt_vS (q := (RX7, TX7, 19)) 7 hC hP hD rfl rfl) rfl rfl hl.1 rfl (lv_room (Nat.le_of_ble_eq_true rfl)) dX7_isSo_188 ⟨Nat.le_of_ble_eq_true rfl, Nat.le_of_ble_eq_true rfl⟩) (fun H locs hP hD hS => ?_)
            have hP : va_P (dC, dI) vwCl [(h0, .inr (7, [.int v_thrown, .int v_corners, .int v_units, .int v_calls, .int v_seed, .ref h0_kind, .ref h0_there, .ref h0_first, .ref h0_other, .ref h0_last, .ref h0_kept, .ref h0_far, .ref h0_out, .int v_printed, .ref h0_tape, .int v_taped, .int v_length, .int v_at, .int v_wrong])), (h0_kind, .inl (cI, 62, .inl v_kind)), (h0_there, .inl (cZ, 62, .inl v_there)), (h0_first, .inl (cI, 62, .inl v_first)), (h0_other, .inl (cI, 62, .inl v_other)), (h0_last, .inl (cI, 62, .inl v_last)), (h0_kept, .inl (cZ, 62, .inl v_kept)), (h0_far, .inl (cI, 21, .inl q6.2)), (h0_out, .inl (cI, 1200, .inl v_out)), (h0_tape, .inl (cI, 600, .inl v_tape))] H := hP.sub [0, 1, 2, 3, 4, 5, 6, 7, 8, 9] rfl
            have hD : va_D A [(h0, .inr (7, [.int v_thrown, .int v_corners, .int v_units, .int v_calls, .int v_seed, .ref h0_kind, .ref h0_there, .ref h0_first, .ref h0_other, .ref h0_last, .ref h0_kept, .ref h0_far, .ref h0_out, .int v_printed, .ref h0_tape, .int v_taped, .int v_length, .int v_at, .int v_wrong])), (h0_kind, .inl (cI, 62, .inl v_kind)), (h0_there, .inl (cZ, 62, .inl v_there)), (h0_first, .inl (cI, 62, .inl v_first)), (h0_other, .inl (cI, 62, .inl v_other)), (h0_last, .inl (cI, 62, .inl v_last)), (h0_kept, .inl (cZ, 62, .inl v_kept)), (h0_far, .inl (cI, 21, .inl q6.2)), (h0_out, .inl (cI, 1200, .inl v_out)), (h0_tape, .inl (cI, 600, .inl v_tape))] := hD.sub [0, 1, 2, 3, 4, 5, 6, 7, 8, 9] (by decide) rfl
            refine lv_goto (tgt := 206) hx hb dX7_isSo_191 (by decide) ?_
            obtain ⟨g7, hm⟩ := mt_gd hm
            obtain rfl := Option.some.inj hm
            exact W.zret hx hb hr (mt_zn g7) (fun t ht hW => ⟨⟨_, (), rfl, rfl, by rw [ht]; exact hP, hD⟩, hS.F ht⟩) hS.2.2 dX7_isSo_206
        · replace hm := mt_pos c3 hm
          refine lv_iload_n hx hb dX7_isSo_170 rfl (lv_at hl 2 rfl) ?_
          refine lv_if_ne (tgt := 178) hx hb dX7_isSo_171 (by decide) (fun c8 => ?_) (fun c8 => ?_)
          · replace hm := mt_neg c8 hm
            refine lv_iconst (v := (0 : Int32)) hx hb dX7_isSo_178 (by decide) ?_
            refine lv_goto (tgt := 206) hx hb dX7_isSo_179 (by decide) ?_
            obtain rfl := Option.some.inj hm
            exact W.zret hx hb hr mt_z0 (fun t ht hW => ⟨⟨_, (), rfl, rfl, by rw [ht]; exact hP, hD⟩, hS.F ht⟩) hS.2.2 dX7_isSo_206
          · replace hm := mt_pos c8 hm
            refine lv_iconst (v := (1 : Int32)) hx hb dX7_isSo_174 (by decide) ?_
            refine lv_goto (tgt := 206) hx hb dX7_isSo_175 (by decide) ?_
            obtain rfl := Option.some.inj hm
            exact W.zret hx hb hr mt_z1 (fun t ht hW => ⟨⟨_, (), rfl, rfl, by rw [ht]; exact hP, hD⟩, hS.F ht⟩) hS.2.2 dX7_isSo_206
      · replace hm := mt_pos c2 hm
        refine lv_aload_n hx hb dX7_isSo_158 rfl (lv_at hl 0 rfl) ?_
        obtain ⟨q9, hq9, hm⟩ := mt_bind hm
        refine vp_callSi (va_Run.run (va_runV (As := []) (rest := []) ⟨hx, hb, hml, hown, hts⟩ (c_X7_isTwice l dC dI cZ cI cL h0 h0_kind h0_there h0_first h0_other h0_last h0_kept h0_far h0_out h0_tape v_thrown v_corners v_units v_calls v_seed v_printed v_taped v_length v_at v_wrong v_kind v_there v_first v_other v_last v_kept v_far_145 v_out v_tape fu q9 hq9) (cwV 0 hts gX7_isSo_X7_isTwice rfl rfl rfl (by decide +kernel) ⟨Nat.le_of_ble_eq_true rfl, Nat.le_of_ble_eq_true rfl⟩) (mt_vR (q := (RX7, TX7, 19)) 7 hC (hP.sub (ws' := [(h0, .inr (7, [.int v_thrown, .int v_corners, .int v_units, .int v_calls, .int v_seed, .ref h0_kind, .ref h0_there, .ref h0_first, .ref h0_other, .ref h0_last, .ref h0_kept, .ref h0_far, .ref h0_out, .int v_printed, .ref h0_tape, .int v_taped, .int v_length, .int v_at, .int v_wrong])), (h0_kind, .inl (cI, 62, .inl v_kind)), (h0_there, .inl (cZ, 62, .inl v_there)), (h0_first, .inl (cI, 62, .inl v_first)), (h0_other, .inl (cI, 62, .inl v_other)), (h0_last, .inl (cI, 62, .inl v_last)), (h0_kept, .inl (cZ, 62, .inl v_kept)), (h0_far, .inl (cI, 21, .inl v_far_145)), (h0_out, .inl (cI, 1200, .inl v_out)), (h0_tape, .inl (cI, 600, .inl v_tape))]) [0, 1, 2, 3, 4, 5, 6, 7, 8, 9] rfl) rfl rfl) rfl rfl hl.1 rfl (lv_room (Nat.le_of_ble_eq_true rfl)) dX7_isSo_159 ⟨Nat.le_of_ble_eq_true rfl, Nat.le_of_ble_eq_true rfl⟩)) (fun r er => ?_)
        replace er := er.symm
        subst er
        refine lv_goto (tgt := 206) hx hb dX7_isSo_162 (by decide) ?_
        obtain ⟨g10, hm⟩ := mt_gd hm
        obtain rfl := Option.some.inj hm
        exact W.zret hx hb hr (mt_zn g10) (fun t ht hW => ⟨⟨_, (), rfl, rfl, by rw [ht]; exact hP, hD⟩, hS.F ht⟩) hS.2.2 dX7_isSo_206
    · replace hm := mt_pos c1 hm
      refine lv_iload_n hx hb dX7_isSo_149 rfl (lv_at hl 2 rfl) ?_
      refine lv_goto (tgt := 206) hx hb dX7_isSo_150 (by decide) ?_
      obtain ⟨g11, hm⟩ := mt_gd hm
      obtain rfl := Option.some.inj hm
      exact W.zret hx hb hr (mt_zn g11) (fun t ht hW => ⟨⟨_, (), rfl, rfl, by rw [ht]; exact hP, hD⟩, hS.F ht⟩) hS.2.2 dX7_isSo_206
  have L7 : ∀ n7 : Nat, ∀ (x2_7 : Int32) (x3_7 : Int32) (x4_7 : Int32) (v_far_7 : Nat → Int32), ∀ (H : Heap) (locs : List Loc) (ls : Array Slot), m_X7_isSo_L7 fu p1 v_kind v_there v_first v_other v_last K145 n7 x2_7 x3_7 x4_7 v_far_7 = some q → va_P (dC, dI) vwCl [(h0, .inr (7, [.int v_thrown, .int v_corners, .int v_units, .int v_calls, .int v_seed, .ref h0_kind, .ref h0_there, .ref h0_first, .ref h0_other, .ref h0_last, .ref h0_kept, .ref h0_far, .ref h0_out, .int v_printed, .ref h0_tape, .int v_taped, .int v_length, .int v_at, .int v_wrong])), (h0_kind, .inl (cI, 62, .inl v_kind)), (h0_there, .inl (cZ, 62, .inl v_there)), (h0_first, .inl (cI, 62, .inl v_first)), (h0_other, .inl (cI, 62, .inl v_other)), (h0_last, .inl (cI, 62, .inl v_last)), (h0_kept, .inl (cZ, 62, .inl v_kept)), (h0_far, .inl (cI, 21, .inl v_far_7)), (h0_out, .inl (cI, 1200, .inl v_out)), (h0_tape, .inl (cI, 600, .inl v_tape))] H → va_D A [(h0, .inr (7, [.int v_thrown, .int v_corners, .int v_units, .int v_calls, .int v_seed, .ref h0_kind, .ref h0_there, .ref h0_first, .ref h0_other, .ref h0_last, .ref h0_kept, .ref h0_far, .ref h0_out, .int v_printed, .ref h0_tape, .int v_taped, .int v_length, .int v_at, .int v_wrong])), (h0_kind, .inl (cI, 62, .inl v_kind)), (h0_there, .inl (cZ, 62, .inl v_there)), (h0_first, .inl (cI, 62, .inl v_first)), (h0_other, .inl (cI, 62, .inl v_other)), (h0_last, .inl (cI, 62, .inl v_last)), (h0_kept, .inl (cZ, 62, .inl v_kept)), (h0_far, .inl (cI, 21, .inl v_far_7)), (h0_out, .inl (cI, 1200, .inl v_out)), (h0_tape, .inl (cI, 600, .inl v_tape))] → va_S A s.heap H locs → lv_has ls 5 [(0, .ref h0), (1, .int p1), (2, .int x2_7), (3, .int x3_7), (4, .int x4_7)] → W p l e (headSpec wsX7_isSo ({ frames := 2, cells := 0, slots := 0, locals := 49 })).room s m [.ref h0, .int p1].toArray below meth c H locs 0 0 (MQ below (va_Qi (fun (r : Int32) (_ : Unit) => r = q.1) (fun _ t => va_P (dC, dI) vwCl [(h0, .inr (7, [.int v_thrown, .int v_corners, .int v_units, .int v_calls, .int v_seed, .ref h0_kind, .ref h0_there, .ref h0_first, .ref h0_other, .ref h0_last, .ref h0_kept, .ref h0_far, .ref h0_out, .int v_printed, .ref h0_tape, .int v_taped, .int v_length, .int v_at, .int v_wrong])), (h0_kind, .inl (cI, 62, .inl v_kind)), (h0_there, .inl (cZ, 62, .inl v_there)), (h0_first, .inl (cI, 62, .inl v_first)), (h0_other, .inl (cI, 62, .inl v_other)), (h0_last, .inl (cI, 62, .inl v_last)), (h0_kept, .inl (cZ, 62, .inl v_kept)), (h0_far, .inl (cI, 21, .inl q.2)), (h0_out, .inl (cI, 1200, .inl v_out)), (h0_tape, .inl (cI, 600, .inl v_tape))] t.heap ∧ va_D A [(h0, .inr (7, [.int v_thrown, .int v_corners, .int v_units, .int v_calls, .int v_seed, .ref h0_kind, .ref h0_there, .ref h0_first, .ref h0_other, .ref h0_last, .ref h0_kept, .ref h0_far, .ref h0_out, .int v_printed, .ref h0_tape, .int v_taped, .int v_length, .int v_at, .int v_wrong])), (h0_kind, .inl (cI, 62, .inl v_kind)), (h0_there, .inl (cZ, 62, .inl v_there)), (h0_first, .inl (cI, 62, .inl v_first)), (h0_other, .inl (cI, 62, .inl v_other)), (h0_last, .inl (cI, 62, .inl v_last)), (h0_kept, .inl (cZ, 62, .inl v_kept)), (h0_far, .inl (cI, 21, .inl q.2)), (h0_out, .inl (cI, 1200, .inl v_out)), (h0_tape, .inl (cI, 600, .inl v_tape))]) A) [.ref h0, .int p1].toArray s 0 0 A) (F0 m 7 ls []) := by
    intro n7
    induction n7 with
    | zero =>
      intro x2_7 x3_7 x4_7 v_far_7 H locs ls hm hP hD hS hl
      exact absurd hm (fun h => nomatch h)
    | succ n7 ih7 =>
      intro x2_7 x3_7 x4_7 v_far_7 H locs ls hm hP hD hS hl
      rw [m_X7_isSo_L7] at hm
      refine lv_iload hx hb dX7_isSo_7 (lv_at hl 4 rfl) ?_
      refine lv_bipush (v := (62 : Int32)) hx hb dX7_isSo_9 (by decide) ?_
      refine lv_icmp_ge (tgt := 145) hx hb dX7_isSo_11 (by decide) (fun c12 => ?_) (fun c12 => ?_)
      · replace hm := mt_pos c12 hm
        exact J145 x2_7 x3_7 x4_7 v_far_7 _ _ _ hm hP hD hS (lv_sub hl [0, 1, 2, 3, 4] rfl)
      · replace hm := mt_neg c12 hm
        refine lv_iload_n hx hb dX7_isSo_14 rfl (lv_at hl 2 rfl) ?_
        obtain ⟨K57, hK57, hm⟩ := mt_jx hm
        have J57 : ∀ (j0_57 : Int32) (v_far_57 : Nat → Int32), ∀ (H : Heap) (locs : List Loc) (ls : Array Slot), K57 j0_57 v_far_57 = some q → va_P (dC, dI) vwCl [(h0, .inr (7, [.int v_thrown, .int v_corners, .int v_units, .int v_calls, .int v_seed, .ref h0_kind, .ref h0_there, .ref h0_first, .ref h0_other, .ref h0_last, .ref h0_kept, .ref h0_far, .ref h0_out, .int v_printed, .ref h0_tape, .int v_taped, .int v_length, .int v_at, .int v_wrong])), (h0_kind, .inl (cI, 62, .inl v_kind)), (h0_there, .inl (cZ, 62, .inl v_there)), (h0_first, .inl (cI, 62, .inl v_first)), (h0_other, .inl (cI, 62, .inl v_other)), (h0_last, .inl (cI, 62, .inl v_last)), (h0_kept, .inl (cZ, 62, .inl v_kept)), (h0_far, .inl (cI, 21, .inl v_far_57)), (h0_out, .inl (cI, 1200, .inl v_out)), (h0_tape, .inl (cI, 600, .inl v_tape))] H → va_D A [(h0, .inr (7, [.int v_thrown, .int v_corners, .int v_units, .int v_calls, .int v_seed, .ref h0_kind, .ref h0_there, .ref h0_first, .ref h0_other, .ref h0_last, .ref h0_kept, .ref h0_far, .ref h0_out, .int v_printed, .ref h0_tape, .int v_taped, .int v_length, .int v_at, .int v_wrong])), (h0_kind, .inl (cI, 62, .inl v_kind)), (h0_there, .inl (cZ, 62, .inl v_there)), (h0_first, .inl (cI, 62, .inl v_first)), (h0_other, .inl (cI, 62, .inl v_other)), (h0_last, .inl (cI, 62, .inl v_last)), (h0_kept, .inl (cZ, 62, .inl v_kept)), (h0_far, .inl (cI, 21, .inl v_far_57)), (h0_out, .inl (cI, 1200, .inl v_out)), (h0_tape, .inl (cI, 600, .inl v_tape))] → va_S A s.heap H locs → lv_has ls 5 [(0, .ref h0), (1, .int p1), (2, .int x2_7), (3, .int x3_7), (4, .int x4_7)] → W p l e (headSpec wsX7_isSo ({ frames := 2, cells := 0, slots := 0, locals := 49 })).room s m [.ref h0, .int p1].toArray below meth c H locs 0 0 (MQ below (va_Qi (fun (r : Int32) (_ : Unit) => r = q.1) (fun _ t => va_P (dC, dI) vwCl [(h0, .inr (7, [.int v_thrown, .int v_corners, .int v_units, .int v_calls, .int v_seed, .ref h0_kind, .ref h0_there, .ref h0_first, .ref h0_other, .ref h0_last, .ref h0_kept, .ref h0_far, .ref h0_out, .int v_printed, .ref h0_tape, .int v_taped, .int v_length, .int v_at, .int v_wrong])), (h0_kind, .inl (cI, 62, .inl v_kind)), (h0_there, .inl (cZ, 62, .inl v_there)), (h0_first, .inl (cI, 62, .inl v_first)), (h0_other, .inl (cI, 62, .inl v_other)), (h0_last, .inl (cI, 62, .inl v_last)), (h0_kept, .inl (cZ, 62, .inl v_kept)), (h0_far, .inl (cI, 21, .inl q.2)), (h0_out, .inl (cI, 1200, .inl v_out)), (h0_tape, .inl (cI, 600, .inl v_tape))] t.heap ∧ va_D A [(h0, .inr (7, [.int v_thrown, .int v_corners, .int v_units, .int v_calls, .int v_seed, .ref h0_kind, .ref h0_there, .ref h0_first, .ref h0_other, .ref h0_last, .ref h0_kept, .ref h0_far, .ref h0_out, .int v_printed, .ref h0_tape, .int v_taped, .int v_length, .int v_at, .int v_wrong])), (h0_kind, .inl (cI, 62, .inl v_kind)), (h0_there, .inl (cZ, 62, .inl v_there)), (h0_first, .inl (cI, 62, .inl v_first)), (h0_other, .inl (cI, 62, .inl v_other)), (h0_last, .inl (cI, 62, .inl v_last)), (h0_kept, .inl (cZ, 62, .inl v_kept)), (h0_far, .inl (cI, 21, .inl q.2)), (h0_out, .inl (cI, 1200, .inl v_out)), (h0_tape, .inl (cI, 600, .inl v_tape))]) A) [.ref h0, .int p1].toArray s 0 0 A) (F0 m 57 ls [.int j0_57]) := by
          intro j0_57 v_far_57 H locs ls hm hP hD hS hl
          replace hm := mt_app2 hK57 hm
          refine lv_istore_n (lv' := [(2, .int j0_57), (0, .ref h0), (1, .int p1), (3, .int x3_7), (4, .int x4_7)]) hx hb dX7_isSo_57 rfl hl (by decide) rfl (fun ls hl => ?_)
          refine lv_iload_n hx hb dX7_isSo_58 rfl (lv_at hl 0 rfl) ?_
          obtain ⟨K104, hK104, hm⟩ := mt_jx hm
          have J104 : ∀ (j0_104 : Int32), ∀ (H : Heap) (locs : List Loc) (ls : Array Slot), K104 j0_104 = some q → va_P (dC, dI) vwCl [(h0, .inr (7, [.int v_thrown, .int v_corners, .int v_units, .int v_calls, .int v_seed, .ref h0_kind, .ref h0_there, .ref h0_first, .ref h0_other, .ref h0_last, .ref h0_kept, .ref h0_far, .ref h0_out, .int v_printed, .ref h0_tape, .int v_taped, .int v_length, .int v_at, .int v_wrong])), (h0_kind, .inl (cI, 62, .inl v_kind)), (h0_there, .inl (cZ, 62, .inl v_there)), (h0_first, .inl (cI, 62, .inl v_first)), (h0_other, .inl (cI, 62, .inl v_other)), (h0_last, .inl (cI, 62, .inl v_last)), (h0_kept, .inl (cZ, 62, .inl v_kept)), (h0_far, .inl (cI, 21, .inl v_far_57)), (h0_out, .inl (cI, 1200, .inl v_out)), (h0_tape, .inl (cI, 600, .inl v_tape))] H → va_D A [(h0, .inr (7, [.int v_thrown, .int v_corners, .int v_units, .int v_calls, .int v_seed, .ref h0_kind, .ref h0_there, .ref h0_first, .ref h0_other, .ref h0_last, .ref h0_kept, .ref h0_far, .ref h0_out, .int v_printed, .ref h0_tape, .int v_taped, .int v_length, .int v_at, .int v_wrong])), (h0_kind, .inl (cI, 62, .inl v_kind)), (h0_there, .inl (cZ, 62, .inl v_there)), (h0_first, .inl (cI, 62, .inl v_first)), (h0_other, .inl (cI, 62, .inl v_other)), (h0_last, .inl (cI, 62, .inl v_last)), (h0_kept, .inl (cZ, 62, .inl v_kept)), (h0_far, .inl (cI, 21, .inl v_far_57)), (h0_out, .inl (cI, 1200, .inl v_out)), (h0_tape, .inl (cI, 600, .inl v_tape))] → va_S A s.heap H locs → lv_has ls 5 [(0, .ref h0), (1, .int p1), (2, .int j0_57), (3, .int x3_7), (4, .int x4_7)] → W p l e (headSpec wsX7_isSo ({ frames := 2, cells := 0, slots := 0, locals := 49 })).room s m [.ref h0, .int p1].toArray below meth c H locs 0 0 (MQ below (va_Qi (fun (r : Int32) (_ : Unit) => r = q.1) (fun _ t => va_P (dC, dI) vwCl [(h0, .inr (7, [.int v_thrown, .int v_corners, .int v_units, .int v_calls, .int v_seed, .ref h0_kind, .ref h0_there, .ref h0_first, .ref h0_other, .ref h0_last, .ref h0_kept, .ref h0_far, .ref h0_out, .int v_printed, .ref h0_tape, .int v_taped, .int v_length, .int v_at, .int v_wrong])), (h0_kind, .inl (cI, 62, .inl v_kind)), (h0_there, .inl (cZ, 62, .inl v_there)), (h0_first, .inl (cI, 62, .inl v_first)), (h0_other, .inl (cI, 62, .inl v_other)), (h0_last, .inl (cI, 62, .inl v_last)), (h0_kept, .inl (cZ, 62, .inl v_kept)), (h0_far, .inl (cI, 21, .inl q.2)), (h0_out, .inl (cI, 1200, .inl v_out)), (h0_tape, .inl (cI, 600, .inl v_tape))] t.heap ∧ va_D A [(h0, .inr (7, [.int v_thrown, .int v_corners, .int v_units, .int v_calls, .int v_seed, .ref h0_kind, .ref h0_there, .ref h0_first, .ref h0_other, .ref h0_last, .ref h0_kept, .ref h0_far, .ref h0_out, .int v_printed, .ref h0_tape, .int v_taped, .int v_length, .int v_at, .int v_wrong])), (h0_kind, .inl (cI, 62, .inl v_kind)), (h0_there, .inl (cZ, 62, .inl v_there)), (h0_first, .inl (cI, 62, .inl v_first)), (h0_other, .inl (cI, 62, .inl v_other)), (h0_last, .inl (cI, 62, .inl v_last)), (h0_kept, .inl (cZ, 62, .inl v_kept)), (h0_far, .inl (cI, 21, .inl q.2)), (h0_out, .inl (cI, 1200, .inl v_out)), (h0_tape, .inl (cI, 600, .inl v_tape))]) A) [.ref h0, .int p1].toArray s 0 0 A) (F0 m 104 ls [.int j0_104]) := by
            intro j0_104 H locs ls hm hP hD hS hl
            replace hm := mt_app1 hK104 hm
            refine lv_istore_n (lv' := [(2, .int j0_104), (0, .ref h0), (1, .int p1), (3, .int x3_7), (4, .int x4_7)]) hx hb dX7_isSo_104 rfl hl (by decide) rfl (fun ls hl => ?_)
            refine lv_iload_n hx hb dX7_isSo_105 rfl (lv_at hl 3 rfl) ?_
            refine lv_aload_n hx hb dX7_isSo_106 rfl (lv_at hl 1 rfl) ?_
            refine va_get (D := (dC, dI)) (ci := 7) (v := .ref h0_kind) (C := RX7) (T := TX7) (N := 19) hx hb hts hiX7 hown hK hP 0 rfl rfl 5 (by decide) (hts (.fieldLink RX7 7 "ServiceDrawerModel" "kind" "[I") (by decide +kernel)) (fun _ h9 => h9) rfl dX7_isSo_107 ?_
            refine lv_iload hx hb dX7_isSo_110 (lv_at hl 4 rfl) ?_
            obtain ⟨g13, hm⟩ := mt_gd hm
            refine va_iald hx hb hK hP 1 1 rfl rfl g13 dX7_isSo_112 ?_
            refine lv_if_ne (tgt := 136) hx hb dX7_isSo_113 (by decide) (fun c14 => ?_) (fun c14 => ?_)
            · replace hm := mt_neg c14 hm
              refine lv_iconst (v := (0 : Int32)) hx hb dX7_isSo_136 (by decide) ?_
              refine lv_iadd hx hb dX7_isSo_137 ?_
              refine lv_istore_n (lv' := [(3, .int (x3_7 + (0 : Int32))), (2, .int j0_104), (0, .ref h0), (1, .int p1), (4, .int x4_7)]) hx hb dX7_isSo_138 rfl hl (by decide) rfl (fun ls hl => ?_)
              refine lv_iinc (v := (x4_7 + (1 : Int32))) (lv' := [(4, .int (x4_7 + (1 : Int32))), (3, .int (x3_7 + (0 : Int32))), (2, .int j0_104), (0, .ref h0), (1, .int p1)]) hx hb dX7_isSo_139 hl (k := 4) rfl rfl (by decide) rfl (fun ls hl => ?_)
              refine lv_goto (tgt := 7) hx hb dX7_isSo_142 (by decide) ?_
              exact ih7 j0_104 (x3_7 + (0 : Int32)) (x4_7 + (1 : Int32)) v_far_57 _ _ _ hm hP hD hS (lv_sub hl [3, 4, 2, 1, 0] rfl)
            · replace hm := mt_pos c14 hm
              refine lv_aload_n hx hb dX7_isSo_116 rfl (lv_at hl 1 rfl) ?_
              refine va_get (D := (dC, dI)) (ci := 7) (v := .ref h0_there) (C := RX7) (T := TX7) (N := 19) hx hb hts hiX7 hown hK hP 0 rfl rfl 6 (by decide) (hts (.fieldLink RX7 13 "ServiceDrawerModel" "there" "[Z") (by decide +kernel)) (fun _ h9 => h9) rfl dX7_isSo_117 ?_
              refine lv_iload hx hb dX7_isSo_120 (lv_at hl 4 rfl) ?_
              obtain ⟨g15, hm⟩ := mt_gd hm
              refine va_zald hx hb hK hP 2 0 rfl rfl g15 dX7_isSo_122 ?_
              refine lv_if_eq (tgt := 136) hx hb dX7_isSo_123 (by decide) (fun c16 => ?_) (fun c16 => ?_)
              · replace hm := mt_pos c16 hm
                refine lv_iconst (v := (0 : Int32)) hx hb dX7_isSo_136 (by decide) ?_
                refine lv_iadd hx hb dX7_isSo_137 ?_
                refine lv_istore_n (lv' := [(3, .int (x3_7 + (0 : Int32))), (2, .int j0_104), (0, .ref h0), (1, .int p1), (4, .int x4_7)]) hx hb dX7_isSo_138 rfl hl (by decide) rfl (fun ls hl => ?_)
                refine lv_iinc (v := (x4_7 + (1 : Int32))) (lv' := [(4, .int (x4_7 + (1 : Int32))), (3, .int (x3_7 + (0 : Int32))), (2, .int j0_104), (0, .ref h0), (1, .int p1)]) hx hb dX7_isSo_139 hl (k := 4) rfl rfl (by decide) rfl (fun ls hl => ?_)
                refine lv_goto (tgt := 7) hx hb dX7_isSo_142 (by decide) ?_
                exact ih7 j0_104 (x3_7 + (0 : Int32)) (x4_7 + (1 : Int32)) v_far_57 _ _ _ hm hP hD hS (lv_sub hl [3, 4, 2, 1, 0] rfl)
              · replace hm := mt_neg c16 hm
                refine lv_aload_n hx hb dX7_isSo_126 rfl (lv_at hl 1 rfl) ?_
                refine va_get (D := (dC, dI)) (ci := 7) (v := .ref h0_last) (C := RX7) (T := TX7) (N := 19) hx hb hts hiX7 hown hK hP 0 rfl rfl 9 (by decide) (hts (.fieldLink RX7 23 "ServiceDrawerModel" "last" "[I") (by decide +kernel)) (fun _ h9 => h9) rfl dX7_isSo_127 ?_
                refine lv_iload hx hb dX7_isSo_130 (lv_at hl 4 rfl) ?_
                obtain ⟨g17, hm⟩ := mt_gd hm
                refine va_iald hx hb hK hP 5 1 rfl rfl g17 dX7_isSo_132 ?_
                refine lv_goto (tgt := 137) hx hb dX7_isSo_133 (by decide) ?_
                refine lv_iadd hx hb dX7_isSo_137 ?_
                refine lv_istore_n (lv' := [(3, .int (x3_7 + (v_last x4_7.toNatClampNeg))), (2, .int j0_104), (0, .ref h0), (1, .int p1), (4, .int x4_7)]) hx hb dX7_isSo_138 rfl hl (by decide) rfl (fun ls hl => ?_)
                refine lv_iinc (v := (x4_7 + (1 : Int32))) (lv' := [(4, .int (x4_7 + (1 : Int32))), (3, .int (x3_7 + (v_last x4_7.toNatClampNeg))), (2, .int j0_104), (0, .ref h0), (1, .int p1)]) hx hb dX7_isSo_139 hl (k := 4) rfl rfl (by decide) rfl (fun ls hl => ?_)
                refine lv_goto (tgt := 7) hx hb dX7_isSo_142 (by decide) ?_
                exact ih7 j0_104 (x3_7 + (v_last x4_7.toNatClampNeg)) (x4_7 + (1 : Int32)) v_far_57 _ _ _ hm hP hD hS (lv_sub hl [3, 4, 2, 1, 0] rfl)
          obtain ⟨K99, hK99, hm⟩ := mt_jx hm
          have J99 : ∀ (u99 : Unit), ∀ (H : Heap) (locs : List Loc) (ls : Array Slot), K99 u99 = some q → va_P (dC, dI) vwCl [(h0, .inr (7, [.int v_thrown, .int v_corners, .int v_units, .int v_calls, .int v_seed, .ref h0_kind, .ref h0_there, .ref h0_first, .ref h0_other, .ref h0_last, .ref h0_kept, .ref h0_far, .ref h0_out, .int v_printed, .ref h0_tape, .int v_taped, .int v_length, .int v_at, .int v_wrong])), (h0_kind, .inl (cI, 62, .inl v_kind)), (h0_there, .inl (cZ, 62, .inl v_there)), (h0_first, .inl (cI, 62, .inl v_first)), (h0_other, .inl (cI, 62, .inl v_other)), (h0_last, .inl (cI, 62, .inl v_last)), (h0_kept, .inl (cZ, 62, .inl v_kept)), (h0_far, .inl (cI, 21, .inl v_far_57)), (h0_out, .inl (cI, 1200, .inl v_out)), (h0_tape, .inl (cI, 600, .inl v_tape))] H → va_D A [(h0, .inr (7, [.int v_thrown, .int v_corners, .int v_units, .int v_calls, .int v_seed, .ref h0_kind, .ref h0_there, .ref h0_first, .ref h0_other, .ref h0_last, .ref h0_kept, .ref h0_far, .ref h0_out, .int v_printed, .ref h0_tape, .int v_taped, .int v_length, .int v_at, .int v_wrong])), (h0_kind, .inl (cI, 62, .inl v_kind)), (h0_there, .inl (cZ, 62, .inl v_there)), (h0_first, .inl (cI, 62, .inl v_first)), (h0_other, .inl (cI, 62, .inl v_other)), (h0_last, .inl (cI, 62, .inl v_last)), (h0_kept, .inl (cZ, 62, .inl v_kept)), (h0_far, .inl (cI, 21, .inl v_far_57)), (h0_out, .inl (cI, 1200, .inl v_out)), (h0_tape, .inl (cI, 600, .inl v_tape))] → va_S A s.heap H locs → lv_has ls 5 [(0, .ref h0), (1, .int p1), (2, .int j0_57), (3, .int x3_7), (4, .int x4_7)] → W p l e (headSpec wsX7_isSo ({ frames := 2, cells := 0, slots := 0, locals := 49 })).room s m [.ref h0, .int p1].toArray below meth c H locs 0 0 (MQ below (va_Qi (fun (r : Int32) (_ : Unit) => r = q.1) (fun _ t => va_P (dC, dI) vwCl [(h0, .inr (7, [.int v_thrown, .int v_corners, .int v_units, .int v_calls, .int v_seed, .ref h0_kind, .ref h0_there, .ref h0_first, .ref h0_other, .ref h0_last, .ref h0_kept, .ref h0_far, .ref h0_out, .int v_printed, .ref h0_tape, .int v_taped, .int v_length, .int v_at, .int v_wrong])), (h0_kind, .inl (cI, 62, .inl v_kind)), (h0_there, .inl (cZ, 62, .inl v_there)), (h0_first, .inl (cI, 62, .inl v_first)), (h0_other, .inl (cI, 62, .inl v_other)), (h0_last, .inl (cI, 62, .inl v_last)), (h0_kept, .inl (cZ, 62, .inl v_kept)), (h0_far, .inl (cI, 21, .inl q.2)), (h0_out, .inl (cI, 1200, .inl v_out)), (h0_tape, .inl (cI, 600, .inl v_tape))] t.heap ∧ va_D A [(h0, .inr (7, [.int v_thrown, .int v_corners, .int v_units, .int v_calls, .int v_seed, .ref h0_kind, .ref h0_there, .ref h0_first, .ref h0_other, .ref h0_last, .ref h0_kept, .ref h0_far, .ref h0_out, .int v_printed, .ref h0_tape, .int v_taped, .int v_length, .int v_at, .int v_wrong])), (h0_kind, .inl (cI, 62, .inl v_kind)), (h0_there, .inl (cZ, 62, .inl v_there)), (h0_first, .inl (cI, 62, .inl v_first)), (h0_other, .inl (cI, 62, .inl v_other)), (h0_last, .inl (cI, 62, .inl v_last)), (h0_kept, .inl (cZ, 62, .inl v_kept)), (h0_far, .inl (cI, 21, .inl q.2)), (h0_out, .inl (cI, 1200, .inl v_out)), (h0_tape, .inl (cI, 600, .inl v_tape))]) A) [.ref h0, .int p1].toArray s 0 0 A) (F0 m 99 ls []) := by
            intro u99 H locs ls hm hP hD hS hl
            replace hm := mt_app1 hK99 hm
            refine lv_iconst (v := (1 : Int32)) hx hb dX7_isSo_99 (by decide) ?_
            refine lv_goto (tgt := 104) hx hb dX7_isSo_100 (by decide) ?_
            exact J104 (1 : Int32) _ _ _ hm hP hD hS (lv_sub hl [0, 1, 2, 3, 4] rfl)
          refine lv_if_ne (tgt := 99) hx hb dX7_isSo_59 (by decide) (fun c18 => ?_) (fun c18 => ?_)
          · replace hm := mt_neg c18 hm
            exact J99 () _ _ _ hm hP hD hS (lv_sub hl [1, 2, 0, 3, 4] rfl)
          · replace hm := mt_pos c18 hm
            refine lv_iload_n hx hb dX7_isSo_62 rfl (lv_at hl 2 rfl) ?_
            refine lv_iconst (v := (2 : Int32)) hx hb dX7_isSo_63 (by decide) ?_
            obtain ⟨K103, hK103, hm⟩ := mt_jx hm
            have J103 : ∀ (u103 : Unit), ∀ (H : Heap) (locs : List Loc) (ls : Array Slot), K103 u103 = some q → va_P (dC, dI) vwCl [(h0, .inr (7, [.int v_thrown, .int v_corners, .int v_units, .int v_calls, .int v_seed, .ref h0_kind, .ref h0_there, .ref h0_first, .ref h0_other, .ref h0_last, .ref h0_kept, .ref h0_far, .ref h0_out, .int v_printed, .ref h0_tape, .int v_taped, .int v_length, .int v_at, .int v_wrong])), (h0_kind, .inl (cI, 62, .inl v_kind)), (h0_there, .inl (cZ, 62, .inl v_there)), (h0_first, .inl (cI, 62, .inl v_first)), (h0_other, .inl (cI, 62, .inl v_other)), (h0_last, .inl (cI, 62, .inl v_last)), (h0_kept, .inl (cZ, 62, .inl v_kept)), (h0_far, .inl (cI, 21, .inl v_far_57)), (h0_out, .inl (cI, 1200, .inl v_out)), (h0_tape, .inl (cI, 600, .inl v_tape))] H → va_D A [(h0, .inr (7, [.int v_thrown, .int v_corners, .int v_units, .int v_calls, .int v_seed, .ref h0_kind, .ref h0_there, .ref h0_first, .ref h0_other, .ref h0_last, .ref h0_kept, .ref h0_far, .ref h0_out, .int v_printed, .ref h0_tape, .int v_taped, .int v_length, .int v_at, .int v_wrong])), (h0_kind, .inl (cI, 62, .inl v_kind)), (h0_there, .inl (cZ, 62, .inl v_there)), (h0_first, .inl (cI, 62, .inl v_first)), (h0_other, .inl (cI, 62, .inl v_other)), (h0_last, .inl (cI, 62, .inl v_last)), (h0_kept, .inl (cZ, 62, .inl v_kept)), (h0_far, .inl (cI, 21, .inl v_far_57)), (h0_out, .inl (cI, 1200, .inl v_out)), (h0_tape, .inl (cI, 600, .inl v_tape))] → va_S A s.heap H locs → lv_has ls 5 [(0, .ref h0), (1, .int p1), (2, .int j0_57), (3, .int x3_7), (4, .int x4_7)] → W p l e (headSpec wsX7_isSo ({ frames := 2, cells := 0, slots := 0, locals := 49 })).room s m [.ref h0, .int p1].toArray below meth c H locs 0 0 (MQ below (va_Qi (fun (r : Int32) (_ : Unit) => r = q.1) (fun _ t => va_P (dC, dI) vwCl [(h0, .inr (7, [.int v_thrown, .int v_corners, .int v_units, .int v_calls, .int v_seed, .ref h0_kind, .ref h0_there, .ref h0_first, .ref h0_other, .ref h0_last, .ref h0_kept, .ref h0_far, .ref h0_out, .int v_printed, .ref h0_tape, .int v_taped, .int v_length, .int v_at, .int v_wrong])), (h0_kind, .inl (cI, 62, .inl v_kind)), (h0_there, .inl (cZ, 62, .inl v_there)), (h0_first, .inl (cI, 62, .inl v_first)), (h0_other, .inl (cI, 62, .inl v_other)), (h0_last, .inl (cI, 62, .inl v_last)), (h0_kept, .inl (cZ, 62, .inl v_kept)), (h0_far, .inl (cI, 21, .inl q.2)), (h0_out, .inl (cI, 1200, .inl v_out)), (h0_tape, .inl (cI, 600, .inl v_tape))] t.heap ∧ va_D A [(h0, .inr (7, [.int v_thrown, .int v_corners, .int v_units, .int v_calls, .int v_seed, .ref h0_kind, .ref h0_there, .ref h0_first, .ref h0_other, .ref h0_last, .ref h0_kept, .ref h0_far, .ref h0_out, .int v_printed, .ref h0_tape, .int v_taped, .int v_length, .int v_at, .int v_wrong])), (h0_kind, .inl (cI, 62, .inl v_kind)), (h0_there, .inl (cZ, 62, .inl v_there)), (h0_first, .inl (cI, 62, .inl v_first)), (h0_other, .inl (cI, 62, .inl v_other)), (h0_last, .inl (cI, 62, .inl v_last)), (h0_kept, .inl (cZ, 62, .inl v_kept)), (h0_far, .inl (cI, 21, .inl q.2)), (h0_out, .inl (cI, 1200, .inl v_out)), (h0_tape, .inl (cI, 600, .inl v_tape))]) A) [.ref h0, .int p1].toArray s 0 0 A) (F0 m 103 ls []) := by
              intro u103 H locs ls hm hP hD hS hl
              replace hm := mt_app1 hK103 hm
              refine lv_iconst (v := (0 : Int32)) hx hb dX7_isSo_103 (by decide) ?_
              exact J104 (0 : Int32) _ _ _ hm hP hD hS (lv_sub hl [0, 1, 2, 3, 4] rfl)
            refine lv_icmp_ne (tgt := 103) hx hb dX7_isSo_64 (by decide) (fun c19 => ?_) (fun c19 => ?_)
            · replace hm := mt_neg c19 hm
              exact J103 () _ _ _ hm hP hD hS (lv_sub hl [1, 2, 0, 3, 4] rfl)
            · replace hm := mt_pos c19 hm
              refine lv_aload_n hx hb dX7_isSo_67 rfl (lv_at hl 1 rfl) ?_
              refine va_get (D := (dC, dI)) (ci := 7) (v := .ref h0_kind) (C := RX7) (T := TX7) (N := 19) hx hb hts hiX7 hown hK hP 0 rfl rfl 5 (by decide) (hts (.fieldLink RX7 7 "ServiceDrawerModel" "kind" "[I") (by decide +kernel)) (fun _ h9 => h9) rfl dX7_isSo_68 ?_
              refine lv_iload hx hb dX7_isSo_71 (lv_at hl 4 rfl) ?_
              obtain ⟨g20, hm⟩ := mt_gd hm
              refine va_iald hx hb hK hP 1 1 rfl rfl g20 dX7_isSo_73 ?_
              refine lv_iconst (v := (1 : Int32)) hx hb dX7_isSo_74 (by decide) ?_
              refine lv_icmp_ne (tgt := 103) hx hb dX7_isSo_75 (by decide) (fun c21 => ?_) (fun c21 => ?_)
              · replace hm := mt_neg c21 hm
                exact J103 () _ _ _ hm hP hD hS (lv_sub hl [1, 2, 0, 3, 4] rfl)
              · replace hm := mt_pos c21 hm
                refine lv_aload_n hx hb dX7_isSo_78 rfl (lv_at hl 1 rfl) ?_
                refine va_get (D := (dC, dI)) (ci := 7) (v := .ref h0_there) (C := RX7) (T := TX7) (N := 19) hx hb hts hiX7 hown hK hP 0 rfl rfl 6 (by decide) (hts (.fieldLink RX7 13 "ServiceDrawerModel" "there" "[Z") (by decide +kernel)) (fun _ h9 => h9) rfl dX7_isSo_79 ?_
                refine lv_iload hx hb dX7_isSo_82 (lv_at hl 4 rfl) ?_
                obtain ⟨g22, hm⟩ := mt_gd hm
                refine va_zald hx hb hK hP 2 0 rfl rfl g22 dX7_isSo_84 ?_
                refine lv_if_eq (tgt := 103) hx hb dX7_isSo_85 (by decide) (fun c23 => ?_) (fun c23 => ?_)
                · replace hm := mt_pos c23 hm
                  exact J103 () _ _ _ hm hP hD hS (lv_sub hl [1, 2, 0, 3, 4] rfl)
                · replace hm := mt_neg c23 hm
                  refine lv_aload_n hx hb dX7_isSo_88 rfl (lv_at hl 1 rfl) ?_
                  refine va_get (D := (dC, dI)) (ci := 7) (v := .ref h0_other) (C := RX7) (T := TX7) (N := 19) hx hb hts hiX7 hown hK hP 0 rfl rfl 8 (by decide) (hts (.fieldLink RX7 20 "ServiceDrawerModel" "other" "[I") (by decide +kernel)) (fun _ h9 => h9) rfl dX7_isSo_89 ?_
                  refine lv_iload hx hb dX7_isSo_92 (lv_at hl 4 rfl) ?_
                  obtain ⟨g24, hm⟩ := mt_gd hm
                  refine va_iald hx hb hK hP 4 1 rfl rfl g24 dX7_isSo_94 ?_
                  refine lv_iconst (v := (3 : Int32)) hx hb dX7_isSo_95 (by decide) ?_
                  refine lv_icmp_le (tgt := 103) hx hb dX7_isSo_96 (by decide) (fun c25 => ?_) (fun c25 => ?_)
                  · replace hm := mt_pos c25 hm
                    exact J103 () _ _ _ hm hP hD hS (lv_sub hl [1, 2, 0, 3, 4] rfl)
                  · replace hm := mt_neg c25 hm
                    exact J99 () _ _ _ hm hP hD hS (lv_sub hl [1, 2, 0, 3, 4] rfl)
        obtain ⟨K52, hK52, hm⟩ := mt_jx hm
        have J52 : ∀ (v_far_52 : Nat → Int32), ∀ (H : Heap) (locs : List Loc) (ls : Array Slot), K52 v_far_52 = some q → va_P (dC, dI) vwCl [(h0, .inr (7, [.int v_thrown, .int v_corners, .int v_units, .int v_calls, .int v_seed, .ref h0_kind, .ref h0_there, .ref h0_first, .ref h0_other, .ref h0_last, .ref h0_kept, .ref h0_far, .ref h0_out, .int v_printed, .ref h0_tape, .int v_taped, .int v_length, .int v_at, .int v_wrong])), (h0_kind, .inl (cI, 62, .inl v_kind)), (h0_there, .inl (cZ, 62, .inl v_there)), (h0_first, .inl (cI, 62, .inl v_first)), (h0_other, .inl (cI, 62, .inl v_other)), (h0_last, .inl (cI, 62, .inl v_last)), (h0_kept, .inl (cZ, 62, .inl v_kept)), (h0_far, .inl (cI, 21, .inl v_far_52)), (h0_out, .inl (cI, 1200, .inl v_out)), (h0_tape, .inl (cI, 600, .inl v_tape))] H → va_D A [(h0, .inr (7, [.int v_thrown, .int v_corners, .int v_units, .int v_calls, .int v_seed, .ref h0_kind, .ref h0_there, .ref h0_first, .ref h0_other, .ref h0_last, .ref h0_kept, .ref h0_far, .ref h0_out, .int v_printed, .ref h0_tape, .int v_taped, .int v_length, .int v_at, .int v_wrong])), (h0_kind, .inl (cI, 62, .inl v_kind)), (h0_there, .inl (cZ, 62, .inl v_there)), (h0_first, .inl (cI, 62, .inl v_first)), (h0_other, .inl (cI, 62, .inl v_other)), (h0_last, .inl (cI, 62, .inl v_last)), (h0_kept, .inl (cZ, 62, .inl v_kept)), (h0_far, .inl (cI, 21, .inl v_far_52)), (h0_out, .inl (cI, 1200, .inl v_out)), (h0_tape, .inl (cI, 600, .inl v_tape))] → va_S A s.heap H locs → lv_has ls 5 [(0, .ref h0), (1, .int p1), (2, .int x2_7), (3, .int x3_7), (4, .int x4_7)] → W p l e (headSpec wsX7_isSo ({ frames := 2, cells := 0, slots := 0, locals := 49 })).room s m [.ref h0, .int p1].toArray below meth c H locs 0 0 (MQ below (va_Qi (fun (r : Int32) (_ : Unit) => r = q.1) (fun _ t => va_P (dC, dI) vwCl [(h0, .inr (7, [.int v_thrown, .int v_corners, .int v_units, .int v_calls, .int v_seed, .ref h0_kind, .ref h0_there, .ref h0_first, .ref h0_other, .ref h0_last, .ref h0_kept, .ref h0_far, .ref h0_out, .int v_printed, .ref h0_tape, .int v_taped, .int v_length, .int v_at, .int v_wrong])), (h0_kind, .inl (cI, 62, .inl v_kind)), (h0_there, .inl (cZ, 62, .inl v_there)), (h0_first, .inl (cI, 62, .inl v_first)), (h0_other, .inl (cI, 62, .inl v_other)), (h0_last, .inl (cI, 62, .inl v_last)), (h0_kept, .inl (cZ, 62, .inl v_kept)), (h0_far, .inl (cI, 21, .inl q.2)), (h0_out, .inl (cI, 1200, .inl v_out)), (h0_tape, .inl (cI, 600, .inl v_tape))] t.heap ∧ va_D A [(h0, .inr (7, [.int v_thrown, .int v_corners, .int v_units, .int v_calls, .int v_seed, .ref h0_kind, .ref h0_there, .ref h0_first, .ref h0_other, .ref h0_last, .ref h0_kept, .ref h0_far, .ref h0_out, .int v_printed, .ref h0_tape, .int v_taped, .int v_length, .int v_at, .int v_wrong])), (h0_kind, .inl (cI, 62, .inl v_kind)), (h0_there, .inl (cZ, 62, .inl v_there)), (h0_first, .inl (cI, 62, .inl v_first)), (h0_other, .inl (cI, 62, .inl v_other)), (h0_last, .inl (cI, 62, .inl v_last)), (h0_kept, .inl (cZ, 62, .inl v_kept)), (h0_far, .inl (cI, 21, .inl q.2)), (h0_out, .inl (cI, 1200, .inl v_out)), (h0_tape, .inl (cI, 600, .inl v_tape))]) A) [.ref h0, .int p1].toArray s 0 0 A) (F0 m 52 ls []) := by
          intro v_far_52 H locs ls hm hP hD hS hl
          replace hm := mt_app1 hK52 hm
          refine lv_iconst (v := (1 : Int32)) hx hb dX7_isSo_52 (by decide) ?_
          refine lv_goto (tgt := 57) hx hb dX7_isSo_53 (by decide) ?_
          exact J57 (1 : Int32) v_far_52 _ _ _ hm hP hD hS (lv_sub hl [0, 1, 2, 3, 4] rfl)
        refine lv_if_ne (tgt := 52) hx hb dX7_isSo_15 (by decide) (fun c26 => ?_) (fun c26 => ?_)
        · replace hm := mt_neg c26 hm
          exact J52 v_far_7 _ _ _ hm hP hD hS (lv_sub hl [0, 1, 2, 3, 4] rfl)
        · replace hm := mt_pos c26 hm
          refine lv_iload_n hx hb dX7_isSo_18 rfl (lv_at hl 1 rfl) ?_
          obtain ⟨K56, hK56, hm⟩ := mt_jx hm
          have J56 : ∀ (v_far_56 : Nat → Int32), ∀ (H : Heap) (locs : List Loc) (ls : Array Slot), K56 v_far_56 = some q → va_P (dC, dI) vwCl [(h0, .inr (7, [.int v_thrown, .int v_corners, .int v_units, .int v_calls, .int v_seed, .ref h0_kind, .ref h0_there, .ref h0_first, .ref h0_other, .ref h0_last, .ref h0_kept, .ref h0_far, .ref h0_out, .int v_printed, .ref h0_tape, .int v_taped, .int v_length, .int v_at, .int v_wrong])), (h0_kind, .inl (cI, 62, .inl v_kind)), (h0_there, .inl (cZ, 62, .inl v_there)), (h0_first, .inl (cI, 62, .inl v_first)), (h0_other, .inl (cI, 62, .inl v_other)), (h0_last, .inl (cI, 62, .inl v_last)), (h0_kept, .inl (cZ, 62, .inl v_kept)), (h0_far, .inl (cI, 21, .inl v_far_56)), (h0_out, .inl (cI, 1200, .inl v_out)), (h0_tape, .inl (cI, 600, .inl v_tape))] H → va_D A [(h0, .inr (7, [.int v_thrown, .int v_corners, .int v_units, .int v_calls, .int v_seed, .ref h0_kind, .ref h0_there, .ref h0_first, .ref h0_other, .ref h0_last, .ref h0_kept, .ref h0_far, .ref h0_out, .int v_printed, .ref h0_tape, .int v_taped, .int v_length, .int v_at, .int v_wrong])), (h0_kind, .inl (cI, 62, .inl v_kind)), (h0_there, .inl (cZ, 62, .inl v_there)), (h0_first, .inl (cI, 62, .inl v_first)), (h0_other, .inl (cI, 62, .inl v_other)), (h0_last, .inl (cI, 62, .inl v_last)), (h0_kept, .inl (cZ, 62, .inl v_kept)), (h0_far, .inl (cI, 21, .inl v_far_56)), (h0_out, .inl (cI, 1200, .inl v_out)), (h0_tape, .inl (cI, 600, .inl v_tape))] → va_S A s.heap H locs → lv_has ls 5 [(0, .ref h0), (1, .int p1), (2, .int x2_7), (3, .int x3_7), (4, .int x4_7)] → W p l e (headSpec wsX7_isSo ({ frames := 2, cells := 0, slots := 0, locals := 49 })).room s m [.ref h0, .int p1].toArray below meth c H locs 0 0 (MQ below (va_Qi (fun (r : Int32) (_ : Unit) => r = q.1) (fun _ t => va_P (dC, dI) vwCl [(h0, .inr (7, [.int v_thrown, .int v_corners, .int v_units, .int v_calls, .int v_seed, .ref h0_kind, .ref h0_there, .ref h0_first, .ref h0_other, .ref h0_last, .ref h0_kept, .ref h0_far, .ref h0_out, .int v_printed, .ref h0_tape, .int v_taped, .int v_length, .int v_at, .int v_wrong])), (h0_kind, .inl (cI, 62, .inl v_kind)), (h0_there, .inl (cZ, 62, .inl v_there)), (h0_first, .inl (cI, 62, .inl v_first)), (h0_other, .inl (cI, 62, .inl v_other)), (h0_last, .inl (cI, 62, .inl v_last)), (h0_kept, .inl (cZ, 62, .inl v_kept)), (h0_far, .inl (cI, 21, .inl q.2)), (h0_out, .inl (cI, 1200, .inl v_out)), (h0_tape, .inl (cI, 600, .inl v_tape))] t.heap ∧ va_D A [(h0, .inr (7, [.int v_thrown, .int v_corners, .int v_units, .int v_calls, .int v_seed, .ref h0_kind, .ref h0_there, .ref h0_first, .ref h0_other, .ref h0_last, .ref h0_kept, .ref h0_far, .ref h0_out, .int v_printed, .ref h0_tape, .int v_taped, .int v_length, .int v_at, .int v_wrong])), (h0_kind, .inl (cI, 62, .inl v_kind)), (h0_there, .inl (cZ, 62, .inl v_there)), (h0_first, .inl (cI, 62, .inl v_first)), (h0_other, .inl (cI, 62, .inl v_other)), (h0_last, .inl (cI, 62, .inl v_last)), (h0_kept, .inl (cZ, 62, .inl v_kept)), (h0_far, .inl (cI, 21, .inl q.2)), (h0_out, .inl (cI, 1200, .inl v_out)), (h0_tape, .inl (cI, 600, .inl v_tape))]) A) [.ref h0, .int p1].toArray s 0 0 A) (F0 m 56 ls []) := by
            intro v_far_56 H locs ls hm hP hD hS hl
            replace hm := mt_app1 hK56 hm
            refine lv_iconst (v := (0 : Int32)) hx hb dX7_isSo_56 (by decide) ?_
            exact J57 (0 : Int32) v_far_56 _ _ _ hm hP hD hS (lv_sub hl [0, 1, 2, 3, 4] rfl)
          refine lv_if_ne (tgt := 56) hx hb dX7_isSo_19 (by decide) (fun c27 => ?_) (fun c27 => ?_)
          · replace hm := mt_neg c27 hm
            exact J56 v_far_7 _ _ _ hm hP hD hS (lv_sub hl [0, 1, 2, 3, 4] rfl)
          · replace hm := mt_pos c27 hm
            refine lv_aload_n hx hb dX7_isSo_22 rfl (lv_at hl 0 rfl) ?_
            refine va_get (D := (dC, dI)) (ci := 7) (v := .ref h0_kind) (C := RX7) (T := TX7) (N := 19) hx hb hts hiX7 hown hK hP 0 rfl rfl 5 (by decide) (hts (.fieldLink RX7 7 "ServiceDrawerModel" "kind" "[I") (by decide +kernel)) (fun _ h9 => h9) rfl dX7_isSo_23 ?_
            refine lv_iload hx hb dX7_isSo_26 (lv_at hl 4 rfl) ?_
            obtain ⟨g28, hm⟩ := mt_gd hm
            refine va_iald hx hb hK hP 1 1 rfl rfl g28 dX7_isSo_28 ?_
            refine lv_iconst (v := (2 : Int32)) hx hb dX7_isSo_29 (by decide) ?_
            refine lv_icmp_ne (tgt := 56) hx hb dX7_isSo_30 (by decide) (fun c29 => ?_) (fun c29 => ?_)
            · replace hm := mt_neg c29 hm
              exact J56 v_far_7 _ _ _ hm hP hD hS (lv_sub hl [0, 1, 2, 3, 4] rfl)
            · replace hm := mt_pos c29 hm
              refine lv_aload_n hx hb dX7_isSo_33 rfl (lv_at hl 0 rfl) ?_
              refine va_get (D := (dC, dI)) (ci := 7) (v := .ref h0_there) (C := RX7) (T := TX7) (N := 19) hx hb hts hiX7 hown hK hP 0 rfl rfl 6 (by decide) (hts (.fieldLink RX7 13 "ServiceDrawerModel" "there" "[Z") (by decide +kernel)) (fun _ h9 => h9) rfl dX7_isSo_34 ?_
              refine lv_iload hx hb dX7_isSo_37 (lv_at hl 4 rfl) ?_
              obtain ⟨g30, hm⟩ := mt_gd hm
              refine va_zald hx hb hK hP 2 0 rfl rfl g30 dX7_isSo_39 ?_
              refine lv_if_eq (tgt := 56) hx hb dX7_isSo_40 (by decide) (fun c31 => ?_) (fun c31 => ?_)
              · replace hm := mt_pos c31 hm
                exact J56 v_far_7 _ _ _ hm hP hD hS (lv_sub hl [0, 1, 2, 3, 4] rfl)
              · replace hm := mt_neg c31 hm
                refine lv_aload_n hx hb dX7_isSo_43 rfl (lv_at hl 0 rfl) ?_
                refine lv_iload hx hb dX7_isSo_44 (lv_at hl 4 rfl) ?_
                obtain ⟨q32, hq32, hm⟩ := mt_bind hm
                refine mt_calli (wr := []) hP hD hS hA [0, 1, 2, 3, 4, 5, 6, 7, 8, 9] [] rfl rfl (by decide) (by decide) (va_runV (As := [.int x4_7]) (rest := []) ⟨hx, hb, hml, hown, hts⟩ (c_X7_isServed l dC dI cZ cI cL h0 h0_kind h0_there h0_first h0_other h0_last h0_kept h0_far h0_out h0_tape H.size x4_7 v_thrown v_corners v_units v_calls v_seed v_printed v_taped v_length v_at v_wrong v_kind v_there v_first v_other v_last v_kept v_far_7 v_out v_tape fu q32 hq32) (cwV 1 hts gX7_isSo_X7_isServed rfl rfl rfl (by decide +kernel) ⟨Nat.le_of_ble_eq_true rfl, Nat.le_of_ble_eq_true rfl⟩) (mt_vS (q := (RX7, TX7, 19)) 7 hC hP hD rfl rfl) rfl rfl hl.1 rfl (lv_room (Nat.le_of_ble_eq_true rfl)) dX7_isSo_46 ⟨Nat.le_of_ble_eq_true rfl, Nat.le_of_ble_eq_true rfl⟩) (fun H locs hP hD hS => ?_)
                have hP : va_P (dC, dI) vwCl [(h0, .inr (7, [.int v_thrown, .int v_corners, .int v_units, .int v_calls, .int v_seed, .ref h0_kind, .ref h0_there, .ref h0_first, .ref h0_other, .ref h0_last, .ref h0_kept, .ref h0_far, .ref h0_out, .int v_printed, .ref h0_tape, .int v_taped, .int v_length, .int v_at, .int v_wrong])), (h0_kind, .inl (cI, 62, .inl v_kind)), (h0_there, .inl (cZ, 62, .inl v_there)), (h0_first, .inl (cI, 62, .inl v_first)), (h0_other, .inl (cI, 62, .inl v_other)), (h0_last, .inl (cI, 62, .inl v_last)), (h0_kept, .inl (cZ, 62, .inl v_kept)), (h0_far, .inl (cI, 21, .inl q32.2)), (h0_out, .inl (cI, 1200, .inl v_out)), (h0_tape, .inl (cI, 600, .inl v_tape))] H := hP.sub [0, 1, 2, 3, 4, 5, 6, 7, 8, 9] rfl
                have hD : va_D A [(h0, .inr (7, [.int v_thrown, .int v_corners, .int v_units, .int v_calls, .int v_seed, .ref h0_kind, .ref h0_there, .ref h0_first, .ref h0_other, .ref h0_last, .ref h0_kept, .ref h0_far, .ref h0_out, .int v_printed, .ref h0_tape, .int v_taped, .int v_length, .int v_at, .int v_wrong])), (h0_kind, .inl (cI, 62, .inl v_kind)), (h0_there, .inl (cZ, 62, .inl v_there)), (h0_first, .inl (cI, 62, .inl v_first)), (h0_other, .inl (cI, 62, .inl v_other)), (h0_last, .inl (cI, 62, .inl v_last)), (h0_kept, .inl (cZ, 62, .inl v_kept)), (h0_far, .inl (cI, 21, .inl q32.2)), (h0_out, .inl (cI, 1200, .inl v_out)), (h0_tape, .inl (cI, 600, .inl v_tape))] := hD.sub [0, 1, 2, 3, 4, 5, 6, 7, 8, 9] (by decide) rfl
                refine lv_if_ne (tgt := 56) hx hb dX7_isSo_49 (by decide) (fun c33 => ?_) (fun c33 => ?_)
                · replace hm := mt_neg c33 hm
                  exact J56 q32.2 _ _ _ hm hP hD hS (lv_sub hl [0, 1, 2, 3, 4] rfl)
                · replace hm := mt_pos c33 hm
                  exact J52 q32.2 _ _ _ hm hP hD hS (lv_sub hl [0, 1, 2, 3, 4] rfl)
  exact L7 fu (0 : Int32) (0 : Int32) (0 : Int32) v_far _ _ _ hm hP hD hS (lv_sub hl [3, 4, 2, 1, 0] rfl)
