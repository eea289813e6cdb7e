def m_X5_forget_L7 (K54 : Int32 → (Nat → Int32) → (Nat → Int32) → (Nat → Int32) → (Nat → Int32) → (Nat → Int32) → Option (Int32 × (Nat → Int32) × (Nat → Int32) × (Nat → Int32) × (Nat → Int32) × (Nat → Int32))) : Nat → Int32 → (Nat → Int32) → (Nat → Int32) → (Nat → Int32) → (Nat → Int32) → (Nat → Int32) → Option (Int32 × (Nat → Int32) × (Nat → Int32) × (Nat → Int32) × (Nat → Int32) × (Nat → Int32))
  | 0, _, _, _, _, _, _ => none
  | n7 + 1, x1_7, v_had_7, v_there_7, v_corner_7, v_second_7, v_third_7 => if (62 : Int32) ≤ x1_7 then K54 x1_7 v_had_7 v_there_7 v_corner_7 v_second_7 v_third_7 else if (¬ (x1_7 < 0 ∨ 62 ≤ x1_7.toNatClampNeg)) then if (¬ (x1_7 < 0 ∨ 62 ≤ x1_7.toNatClampNeg)) then if (¬ (x1_7 < 0 ∨ 62 ≤ x1_7.toNatClampNeg)) then if (¬ (x1_7 < 0 ∨ 62 ≤ x1_7.toNatClampNeg)) then if (¬ (x1_7 < 0 ∨ 62 ≤ x1_7.toNatClampNeg)) then m_X5_forget_L7 K54 n7 (x1_7 + (1 : Int32)) (upd v_had_7 x1_7.toNatClampNeg ((0 : Int32) &&& 1)) (upd v_there_7 x1_7.toNatClampNeg ((0 : Int32) &&& 1)) (upd v_corner_7 x1_7.toNatClampNeg (0 : Int32)) (upd v_second_7 x1_7.toNatClampNeg (0 : Int32)) (upd v_third_7 x1_7.toNatClampNeg (0 : Int32)) else none else none else none else none else none
def m_X5_forget (fu : Nat) (v_had : Nat → Int32) (v_there : Nat → Int32) (v_corner : Nat → Int32) (v_second : Nat → Int32) (v_third : Nat → Int32) : Option (Int32 × (Nat → Int32) × (Nat → Int32) × (Nat → Int32) × (Nat → Int32) × (Nat → Int32)) := mt_j (fun (x1_54 : Int32) (v_had_54 : Nat → Int32) (v_there_54 : Nat → Int32) (v_corner_54 : Nat → Int32) (v_second_54 : Nat → Int32) (v_third_54 : Nat → Int32) => some ((0 : Int32), v_had_54, v_there_54, v_corner_54, v_second_54, v_third_54)) fun K54 => m_X5_forget_L7 K54 fu (0 : Int32) v_had v_there v_corner v_second v_third
set_option maxHeartbeats 4000000 in
set_option maxRecDepth 100000 in
theorem c_X5_forget (l : Launch) (dC : Nat → ClassId) (dI : Nat → Nat → Nat) (cZ cI cL : ClassId) (h0 h0_had h0_there h0_corner h0_second h0_third : Nat) (sz : Nat) (v_seed : Int32) (v_size : Int32) (v_parts : Int32) (v_had : Nat → Int32) (v_there : Nat → Int32) (v_corner : Nat → Int32) (v_second : Nat → Int32) (v_third : Nat → Int32) (fu : Nat) (q : Int32 × (Nat → Int32) × (Nat → Int32) × (Nat → Int32) × (Nat → Int32) × (Nat → Int32)) (hm : m_X5_forget fu v_had v_there v_corner v_second v_third = some q) : Met l yX5_forget wsX5_forget ({ frames := 0, cells := 0, slots := 0, locals := 0 }) (va_Pc [.ref h0] (mt_S (dC, dI) cZ cI cL sz [(h0, .inr (5, [.ref h0_had, .ref h0_there, .ref h0_corner, .ref h0_second, .ref h0_third, .int v_seed, .int v_size, .int v_parts])), (h0_had, .inl (cZ, 62, .inl v_had)), (h0_there, .inl (cZ, 62, .inl v_there)), (h0_corner, .inl (cI, 62, .inl v_corner)), (h0_second, .inl (cI, 62, .inl v_second)), (h0_third, .inl (cI, 62, .inl v_third))])) (va_Qv (fun (_ : Unit) => True) (fun _ t => va_P (dC, dI) vwCl [(h0, .inr (5, [.ref h0_had, .ref h0_there, .ref h0_corner, .ref h0_second, .ref h0_third, .int v_seed, .int v_size, .int q.1])), (h0_had, .inl (cZ, 62, .inl q.2.1)), (h0_there, .inl (cZ, 62, .inl q.2.2.1)), (h0_corner, .inl (cI, 62, .inl q.2.2.2.1)), (h0_second, .inl (cI, 62, .inl q.2.2.2.2.1)), (h0_third, .inl (cI, 62, .inl q.2.2.2.2.2))] t.heap ∧ va_D (va_A [(h0, .inr (5, [.ref h0_had, .ref h0_there, .ref h0_corner, .ref h0_second, .ref h0_third, .int v_seed, .int v_size, .int v_parts])), (h0_had, .inl (cZ, 62, .inl v_had)), (h0_there, .inl (cZ, 62, .inl v_there)), (h0_corner, .inl (cI, 62, .inl v_corner)), (h0_second, .inl (cI, 62, .inl v_second)), (h0_third, .inl (cI, 62, .inl v_third))] sz) [(h0, .inr (5, [.ref h0_had, .ref h0_there, .ref h0_corner, .ref h0_second, .ref h0_third, .int v_seed, .int v_size, .int q.1])), (h0_had, .inl (cZ, 62, .inl q.2.1)), (h0_there, .inl (cZ, 62, .inl q.2.2.1)), (h0_corner, .inl (cI, 62, .inl q.2.2.2.1)), (h0_second, .inl (cI, 62, .inl q.2.2.2.2.1)), (h0_third, .inl (cI, 62, .inl q.2.2.2.2.2))]) (va_A [(h0, .inr (5, [.ref h0_had, .ref h0_there, .ref h0_corner, .ref h0_second, .ref h0_third, .int v_seed, .int v_size, .int v_parts])), (h0_had, .inl (cZ, 62, .inl v_had)), (h0_there, .inl (cZ, 62, .inl v_there)), (h0_corner, .inl (cI, 62, .inl v_corner)), (h0_second, .inl (cI, 62, .inl v_second)), (h0_third, .inl (cI, 62, .inl v_third))] sz)) 0 0 (va_A [(h0, .inr (5, [.ref h0_had, .ref h0_there, .ref h0_corner, .ref h0_second, .ref h0_third, .int v_seed, .int v_size, .int v_parts])), (h0_had, .inl (cZ, 62, .inl v_had)), (h0_there, .inl (cZ, 62, .inl v_there)), (h0_corner, .inl (cI, 62, .inl v_corner)), (h0_second, .inl (cI, 62, .inl v_second)), (h0_third, .inl (cI, 62, .inl v_third))] sz) := by
  refine Met.ofW (cc := cX5_forget) (maxL := 2) (ret := none) (by decide) rfl ?_
  intro p e s m args below meth c s₁ B hml hv
  obtain ⟨rfl, hsz, hP, hC, hD0⟩ := hv
  have hx := B.exec
  have hb := B.bytes
  have hr := B.returns
  have hts := atoms_spec (ws := wsX5_forget) B.pre
  have hown : s.vm.findClass RX5 = some m.cls := findClass_of_methodNamed B.named
  have hlocks := B.notSynchronized
  have hK := hC.1
  have hiX5 : ∀ w ∈ wsX50, w ∈ wsX5_forget := by decide +kernel
  subst hsz
  have hD := hD0.self (sz := s.heap.size)
  generalize hAe : va_A [(h0, .inr (5, [.ref h0_had, .ref h0_there, .ref h0_corner, .ref h0_second, .ref h0_third, .int v_seed, .int v_size, .int v_parts])), (h0_had, .inl (cZ, 62, .inl v_had)), (h0_there, .inl (cZ, 62, .inl v_there)), (h0_corner, .inl (cI, 62, .inl v_corner)), (h0_second, .inl (cI, 62, .inl v_second)), (h0_third, .inl (cI, 62, .inl v_third))] s.heap.size = A at hD ⊢
  have hA : ∀ q : Nat, s.heap.size ≤ q → A q := fun q h => by rw [← hAe]; exact Or.inr h
  have hS : va_S A s.heap s.heap [] := va_S.rf
  have hl := lv_entry [.ref h0] (n := 2) (Nat.le_of_ble_eq_true rfl)
  rw [lg_entry_eq]
  generalize (lg_sl [.ref h0] ++ List.replicate (2 - (lg_sl [.ref h0]).length) Slot.unset).toArray = ls at hl ⊢
  have hl : lv_has ls 2 [(0, .ref h0)] := hl
  rw [m_X5_forget] at hm
  refine lv_aload_n hx hb dX5_forget_0 rfl (lv_at hl 0 rfl) ?_
  refine lv_iconst (v := (0 : Int32)) hx hb dX5_forget_1 (by decide) ?_
  refine va_put (D := (dC, dI)) (ci := 5) (v := .int (0 : Int32)) (ty := .int) (C := RX5) (T := TX5) (N := 8) hx hb hts hiX5 tyX5 tyX5_ok nmX5 hown hK hP hD hS 0 rfl rfl 7 (by decide) (hts (.fieldLink RX5 50 "ServiceDrawer$Town" "parts" "I") (by decide +kernel)) (fun _ h9 => h9) rfl (by decide +kernel) rfl rfl (Nat.le_of_ble_eq_true rfl) dX5_forget_2 (fun H locs hP hD hS => ?_)
  have hP : va_P (dC, dI) vwCl [(h0, .inr (5, [.ref h0_had, .ref h0_there, .ref h0_corner, .ref h0_second, .ref h0_third, .int v_seed, .int v_size, .int (0 : Int32)])), (h0_had, .inl (cZ, 62, .inl v_had)), (h0_there, .inl (cZ, 62, .inl v_there)), (h0_corner, .inl (cI, 62, .inl v_corner)), (h0_second, .inl (cI, 62, .inl v_second)), (h0_third, .inl (cI, 62, .inl v_third))] H := hP
  have hD : va_D A [(h0, .inr (5, [.ref h0_had, .ref h0_there, .ref h0_corner, .ref h0_second, .ref h0_third, .int v_seed, .int v_size, .int (0 : Int32)])), (h0_had, .inl (cZ, 62, .inl v_had)), (h0_there, .inl (cZ, 62, .inl v_there)), (h0_corner, .inl (cI, 62, .inl v_corner)), (h0_second, .inl (cI, 62, .inl v_second)), (h0_third, .inl (cI, 62, .inl v_third))] := hD
  refine lv_iconst (v := (0 : Int32)) hx hb dX5_forget_5 (by decide) ?_
  refine lv_istore_n (lv' := [(1, .int (0 : Int32)), (0, .ref h0)]) hx hb dX5_forget_6 rfl hl (by decide) rfl (fun ls hl => ?_)
  obtain ⟨K54, hK54, hm⟩ := mt_jx hm
  have J54 : ∀ (x1_54 : Int32) (v_had_54 : Nat → Int32) (v_there_54 : Nat → Int32) (v_corner_54 : Nat → Int32) (v_second_54 : Nat → Int32) (v_third_54 : Nat → Int32), ∀ (H : Heap) (locs : List Loc) (ls : Array Slot), K54 x1_54 v_had_54 v_there_54 v_corner_54 v_second_54 v_third_54 = some q → va_P (dC, dI) vwCl [(h0, .inr (5, [.ref h0_had, .ref h0_there, .ref h0_corner, .ref h0_second, .ref h0_third, .int v_seed, .int v_size, .int (0 : Int32)])), (h0_had, .inl (cZ, 62, .inl v_had_54)), (h0_there, .inl (cZ, 62, .inl v_there_54)), (h0_corner, .inl (cI, 62, .inl v_corner_54)), (h0_second, .inl (cI, 62, .inl v_second_54)), (h0_third, .inl (cI, 62, .inl v_third_54))] H → va_D A [(h0, .inr (5, [.ref h0_had, .ref h0_there, .ref h0_corner, .ref h0_second, .ref h0_third, .int v_seed, .int v_size, .int (0 : Int32)])), (h0_had, .inl (cZ, 62, .inl v_had_54)), (h0_there, .inl (cZ, 62, .inl v_there_54)), (h0_corner, .inl (cI, 62, .inl v_corner_54)), (h0_second, .inl (cI, 62, .inl v_second_54)), (h0_third, .inl (cI, 62, .inl v_third_54))] → va_S A s.heap H locs → lv_has ls 2 [(0, .ref h0), (1, .int x1_54)] → W p l e (headSpec wsX5_forget ({ frames := 0, cells := 0, slots := 0, locals := 0 })).room s m [.ref h0].toArray below meth c H locs 0 0 (MQ below (va_Qv (fun (_ : Unit) => True) (fun _ t => va_P (dC, dI) vwCl [(h0, .inr (5, [.ref h0_had, .ref h0_there, .ref h0_corner, .ref h0_second, .ref h0_third, .int v_seed, .int v_size, .int q.1])), (h0_had, .inl (cZ, 62, .inl q.2.1)), (h0_there, .inl (cZ, 62, .inl q.2.2.1)), (h0_corner, .inl (cI, 62, .inl q.2.2.2.1)), (h0_second, .inl (cI, 62, .inl q.2.2.2.2.1)), (h0_third, .inl (cI, 62, .inl q.2.2.2.2.2))] t.heap ∧ va_D A [(h0, .inr (5, [.ref h0_had, .ref h0_there, .ref h0_corner, .ref h0_second, .ref h0_third, .int v_seed, .int v_size, .int q.1])), (h0_had, .inl (cZ, 62, .inl q.2.1)), (h0_there, .inl (cZ, 62, .inl q.2.2.1)), (h0_corner, .inl (cI, 62, .inl q.2.2.2.1)), (h0_second, .inl (cI, 62, .inl q.2.2.2.2.1)), (h0_third, .inl (cI, 62, .inl q.2.2.2.2.2))]) A) [.ref h0].toArray s 0 0 A) (F0 m 54 ls []) := by
    intro x1_54 v_had_54 v_there_54 v_corner_54 v_second_54 v_third_54 H locs ls hm hP hD hS hl
    replace hm := mt_app6 hK54 hm
    obtain rfl := Option.some.inj hm
    exact W.vret hx hb hr (fun t ht hW => ⟨⟨(), rfl, trivial, by rw [ht]; exact hP, hD⟩, hS.F ht⟩) hS.2.2 dX5_forget_54
  have L7 : ∀ n7 : Nat, ∀ (x1_7 : Int32) (v_had_7 : Nat → Int32) (v_there_7 : Nat → Int32) (v_corner_7 : Nat → Int32) (v_second_7 : Nat → Int32) (v_third_7 : Nat → Int32), ∀ (H : Heap) (locs : List Loc) (ls : Array Slot), m_X5_forget_L7 K54 n7 x1_7 v_had_7 v_there_7 v_corner_7 v_second_7 v_third_7 = some q → va_P (dC, dI) vwCl [(h0, .inr (5, [.ref h0_had, .ref h0_there, .ref h0_corner, .ref h0_second, .ref h0_third, .int v_seed, .int v_size, .int (0 : Int32)])), (h0_had, .inl (cZ, 62, .inl v_had_7)), (h0_there, .inl (cZ, 62, .inl v_there_7)), (h0_corner, .inl (cI, 62, .inl v_corner_7)), (h0_second, .inl (cI, 62, .inl v_second_7)), (h0_third, .inl (cI, 62, .inl v_third_7))] H → va_D A [(h0, .inr (5, [.ref h0_had, .ref h0_there, .ref h0_corner, .ref h0_second, .ref h0_third, .int v_seed, .int v_size, .int (0 : Int32)])), (h0_had, .inl (cZ, 62, .inl v_had_7)), (h0_there, .inl (cZ, 62, .inl v_there_7)), (h0_corner, .inl (cI, 62, .inl v_corner_7)), (h0_second, .inl (cI, 62, .inl v_second_7)), (h0_third, .inl (cI, 62, .inl v_third_7))] → va_S A s.heap H locs → lv_has ls 2 [(0, .ref h0), (1, .int x1_7)] → W p l e (headSpec wsX5_forget ({ frames := 0, cells := 0, slots := 0, locals := 0 })).room s m [.ref h0].toArray below meth c H locs 0 0 (MQ below (va_Qv (fun (_ : Unit) => True) (fun _ t => va_P (dC, dI) vwCl [(h0, .inr (5, [.ref h0_had, .ref h0_there, .ref h0_corner, .ref h0_second, .ref h0_third, .int v_seed, .int v_size, .int q.1])), (h0_had, .inl (cZ, 62, .inl q.2.1)), (h0_there, .inl (cZ, 62, .inl q.2.2.1)), (h0_corner, .inl (cI, 62, .inl q.2.2.2.1)), (h0_second, .inl (cI, 62, .inl q.2.2.2.2.1)), (h0_third, .inl (cI, 62, .inl q.2.2.2.2.2))] t.heap ∧ va_D A [(h0, .inr (5, [.ref h0_had, .ref h0_there, .ref h0_corner, .ref h0_second, .ref h0_third, .int v_seed, .int v_size, .int q.1])), (h0_had, .inl (cZ, 62, .inl q.2.1)), (h0_there, .inl (cZ, 62, .inl q.2.2.1)), (h0_corner, .inl (cI, 62, .inl q.2.2.2.1)), (h0_second, .inl (cI, 62, .inl q.2.2.2.2.1)), (h0_third, .inl (cI, 62, .inl q.2.2.2.2.2))]) A) [.ref h0].toArray s 0 0 A) (F0 m 7 ls []) := by
    intro n7
    induction n7 with
    | zero =>
      intro x1_7 v_had_7 v_there_7 v_corner_7 v_second_7 v_third_7 H locs ls hm hP hD hS hl
      exact absurd hm (fun h => nomatch h)
    | succ n7 ih7 =>
      intro x1_7 v_had_7 v_there_7 v_corner_7 v_second_7 v_third_7 H locs ls hm hP hD hS hl
      rw [m_X5_forget_L7] at hm
      refine lv_iload_n hx hb dX5_forget_7 rfl (lv_at hl 1 rfl) ?_
      refine lv_bipush (v := (62 : Int32)) hx hb dX5_forget_8 (by decide) ?_
      refine lv_icmp_ge (tgt := 54) hx hb dX5_forget_10 (by decide) (fun c1 => ?_) (fun c1 => ?_)
      · replace hm := mt_pos c1 hm
        exact J54 x1_7 v_had_7 v_there_7 v_corner_7 v_second_7 v_third_7 _ _ _ hm hP hD hS (lv_sub hl [0, 1] rfl)
      · replace hm := mt_neg c1 hm
        refine lv_aload_n hx hb dX5_forget_13 rfl (lv_at hl 0 rfl) ?_
        refine va_get (D := (dC, dI)) (ci := 5) (v := .ref h0_had) (C := RX5) (T := TX5) (N := 8) hx hb hts hiX5 hown hK hP 0 rfl rfl 0 (by decide) (hts (.fieldLink RX5 9 "ServiceDrawer$Town" "had" "[Z") (by decide +kernel)) (fun _ h9 => h9) rfl dX5_forget_14 ?_
        refine lv_iload_n hx hb dX5_forget_17 rfl (lv_at hl 1 rfl) ?_
        refine lv_iconst (v := (0 : Int32)) hx hb dX5_forget_18 (by decide) ?_
        obtain ⟨g2, hm⟩ := mt_gd hm
        refine va_zast hx hb hK hP hD hS 1 0 rfl rfl g2 dX5_forget_19 (fun H locs hP hD hS => ?_)
        have hP : va_P (dC, dI) vwCl [(h0, .inr (5, [.ref h0_had, .ref h0_there, .ref h0_corner, .ref h0_second, .ref h0_third, .int v_seed, .int v_size, .int (0 : Int32)])), (h0_had, .inl (cZ, 62, .inl (upd v_had_7 x1_7.toNatClampNeg ((0 : Int32) &&& 1)))), (h0_there, .inl (cZ, 62, .inl v_there_7)), (h0_corner, .inl (cI, 62, .inl v_corner_7)), (h0_second, .inl (cI, 62, .inl v_second_7)), (h0_third, .inl (cI, 62, .inl v_third_7))] H := hP
        have hD : va_D A [(h0, .inr (5, [.ref h0_had, .ref h0_there, .ref h0_corner, .ref h0_second, .ref h0_third, .int v_seed, .int v_size, .int (0 : Int32)])), (h0_had, .inl (cZ, 62, .inl (upd v_had_7 x1_7.toNatClampNeg ((0 : Int32) &&& 1)))), (h0_there, .inl (cZ, 62, .inl v_there_7)), (h0_corner, .inl (cI, 62, .inl v_corner_7)), (h0_second, .inl (cI, 62, .inl v_second_7)), (h0_third, .inl (cI, 62, .inl v_third_7))] := hD
        refine lv_aload_n hx hb dX5_forget_20 rfl (lv_at hl 0 rfl) ?_
        refine va_get (D := (dC, dI)) (ci := 5) (v := .ref h0_there) (C := RX5) (T := TX5) (N := 8) hx hb hts hiX5 hown hK hP 0 rfl rfl 1 (by decide) (hts (.fieldLink RX5 15 "ServiceDrawer$Town" "there" "[Z") (by decide +kernel)) (fun _ h9 => h9) rfl dX5_forget_21 ?_
        refine lv_iload_n hx hb dX5_forget_24 rfl (lv_at hl 1 rfl) ?_
        refine lv_iconst (v := (0 : Int32)) hx hb dX5_forget_25 (by decide) ?_
        obtain ⟨g3, hm⟩ := mt_gd hm
        refine va_zast hx hb hK hP hD hS 2 0 rfl rfl g3 dX5_forget_26 (fun H locs hP hD hS => ?_)
        have hP : va_P (dC, dI) vwCl [(h0, .inr (5, [.ref h0_had, .ref h0_there, .ref h0_corner, .ref h0_second, .ref h0_third, .int v_seed, .int v_size, .int (0 : Int32)])), (h0_had, .inl (cZ, 62, .inl (upd v_had_7 x1_7.toNatClampNeg ((0 : Int32) &&& 1)))), (h0_there, .inl (cZ, 62, .inl (upd v_there_7 x1_7.toNatClampNeg ((0 : Int32) &&& 1)))), (h0_corner, .inl (cI, 62, .inl v_corner_7)), (h0_second, .inl (cI, 62, .inl v_second_7)), (h0_third, .inl (cI, 62, .inl v_third_7))] H := hP
        have hD : va_D A [(h0, .inr (5, [.ref h0_had, .ref h0_there, .ref h0_corner, .ref h0_second, .ref h0_third, .int v_seed, .int v_size, .int (0 : Int32)])), (h0_had, .inl (cZ, 62, .inl (upd v_had_7 x1_7.toNatClampNeg ((0 : Int32) &&& 1)))), (h0_there, .inl (cZ, 62, .inl (upd v_there_7 x1_7.toNatClampNeg ((0 : Int32) &&& 1)))), (h0_corner, .inl (cI, 62, .inl v_corner_7)), (h0_second, .inl (cI, 62, .inl v_second_7)), (h0_third, .inl (cI, 62, .inl v_third_7))] := hD
        refine lv_aload_n hx hb dX5_forget_27 rfl (lv_at hl 0 rfl) ?_
        refine va_get (D := (dC, dI)) (ci := 5) (v := .ref h0_corner) (C := RX5) (T := TX5) (N := 8) hx hb hts hiX5 hown hK hP 0 rfl rfl 2 (by decide) (hts (.fieldLink RX5 18 "ServiceDrawer$Town" "corner" "[I") (by decide +kernel)) (fun _ h9 => h9) rfl dX5_forget_28 ?_
        refine lv_iload_n hx hb dX5_forget_31 rfl (lv_at hl 1 rfl) ?_
        refine lv_iconst (v := (0 : Int32)) hx hb dX5_forget_32 (by decide) ?_
        obtain ⟨g4, hm⟩ := mt_gd hm
        refine va_iast hx hb hK hP hD hS 3 1 rfl rfl g4 dX5_forget_33 (fun H locs hP hD hS => ?_)
        have hP : va_P (dC, dI) vwCl [(h0, .inr (5, [.ref h0_had, .ref h0_there, .ref h0_corner, .ref h0_second, .ref h0_third, .int v_seed, .int v_size, .int (0 : Int32)])), (h0_had, .inl (cZ, 62, .inl (upd v_had_7 x1_7.toNatClampNeg ((0 : Int32) &&& 1)))), (h0_there, .inl (cZ, 62, .inl (upd v_there_7 x1_7.toNatClampNeg ((0 : Int32) &&& 1)))), (h0_corner, .inl (cI, 62, .inl (upd v_corner_7 x1_7.toNatClampNeg (0 : Int32)))), (h0_second, .inl (cI, 62, .inl v_second_7)), (h0_third, .inl (cI, 62, .inl v_third_7))] H := hP
        have hD : va_D A [(h0, .inr (5, [.ref h0_had, .ref h0_there, .ref h0_corner, .ref h0_second, .ref h0_third, .int v_seed, .int v_size, .int (0 : Int32)])), (h0_had, .inl (cZ, 62, .inl (upd v_had_7 x1_7.toNatClampNeg ((0 : Int32) &&& 1)))), (h0_there, .inl (cZ, 62, .inl (upd v_there_7 x1_7.toNatClampNeg ((0 : Int32) &&& 1)))), (h0_corner, .inl (cI, 62, .inl (upd v_corner_7 x1_7.toNatClampNeg (0 : Int32)))), (h0_second, .inl (cI, 62, .inl v_second_7)), (h0_third, .inl (cI, 62, .inl v_third_7))] := hD
        refine lv_aload_n hx hb dX5_forget_34 rfl (lv_at hl 0 rfl) ?_
        refine va_get (D := (dC, dI)) (ci := 5) (v := .ref h0_second) (C := RX5) (T := TX5) (N := 8) hx hb hts hiX5 hown hK hP 0 rfl rfl 3 (by decide) (hts (.fieldLink RX5 22 "ServiceDrawer$Town" "second" "[I") (by decide +kernel)) (fun _ h9 => h9) rfl dX5_forget_35 ?_
        refine lv_iload_n hx hb dX5_forget_38 rfl (lv_at hl 1 rfl) ?_
        refine lv_iconst (v := (0 : Int32)) hx hb dX5_forget_39 (by decide) ?_
        obtain ⟨g5, hm⟩ := mt_gd hm
        refine va_iast hx hb hK hP hD hS 4 1 rfl rfl g5 dX5_forget_40 (fun H locs hP hD hS => ?_)
        have hP : va_P (dC, dI) vwCl [(h0, .inr (5, [.ref h0_had, .ref h0_there, .ref h0_corner, .ref h0_second, .ref h0_third, .int v_seed, .int v_size, .int (0 : Int32)])), (h0_had, .inl (cZ, 62, .inl (upd v_had_7 x1_7.toNatClampNeg ((0 : Int32) &&& 1)))), (h0_there, .inl (cZ, 62, .inl (upd v_there_7 x1_7.toNatClampNeg ((0 : Int32) &&& 1)))), (h0_corner, .inl (cI, 62, .inl (upd v_corner_7 x1_7.toNatClampNeg (0 : Int32)))), (h0_second, .inl (cI, 62, .inl (upd v_second_7 x1_7.toNatClampNeg (0 : Int32)))), (h0_third, .inl (cI, 62, .inl v_third_7))] H := hP
        have hD : va_D A [(h0, .inr (5, [.ref h0_had, .ref h0_there, .ref h0_corner, .ref h0_second, .ref h0_third, .int v_seed, .int v_size, .int (0 : Int32)])), (h0_had, .inl (cZ, 62, .inl (upd v_had_7 x1_7.toNatClampNeg ((0 : Int32) &&& 1)))), (h0_there, .inl (cZ, 62, .inl (upd v_there_7 x1_7.toNatClampNeg ((0 : Int32) &&& 1)))), (h0_corner, .inl (cI, 62, .inl (upd v_corner_7 x1_7.toNatClampNeg (0 : Int32)))), (h0_second, .inl (cI, 62, .inl (upd v_second_7 x1_7.toNatClampNeg (0 : Int32)))), (h0_third, .inl (cI, 62, .inl v_third_7))] := hD
        refine lv_aload_n hx hb dX5_forget_41 rfl (lv_at hl 0 rfl) ?_
        refine va_get (D := (dC, dI)) (ci := 5) (v := .ref h0_third) (C := RX5) (T := TX5) (N := 8) hx hb hts hiX5 hown hK hP 0 rfl rfl 4 (by decide) (hts (.fieldLink RX5 25 "ServiceDrawer$Town" "third" "[I") (by decide +kernel)) (fun _ h9 => h9) rfl dX5_forget_42 ?_
        refine lv_iload_n hx hb dX5_forget_45 rfl (lv_at hl 1 rfl) ?_
        refine lv_iconst (v := (0 : Int32)) hx hb dX5_forget_46 (by decide) ?_
        obtain ⟨g6, hm⟩ := mt_gd hm
        refine va_iast hx hb hK hP hD hS 5 1 rfl rfl g6 dX5_forget_47 (fun H locs hP hD hS => ?_)
        have hP : va_P (dC, dI) vwCl [(h0, .inr (5, [.ref h0_had, .ref h0_there, .ref h0_corner, .ref h0_second, .ref h0_third, .int v_seed, .int v_size, .int (0 : Int32)])), (h0_had, .inl (cZ, 62, .inl (upd v_had_7 x1_7.toNatClampNeg ((0 : Int32) &&& 1)))), (h0_there, .inl (cZ, 62, .inl (upd v_there_7 x1_7.toNatClampNeg ((0 : Int32) &&& 1)))), (h0_corner, .inl (cI, 62, .inl (upd v_corner_7 x1_7.toNatClampNeg (0 : Int32)))), (h0_second, .inl (cI, 62, .inl (upd v_second_7 x1_7.toNatClampNeg (0 : Int32)))), (h0_third, .inl (cI, 62, .inl (upd v_third_7 x1_7.toNatClampNeg (0 : Int32))))] H := hP
        have hD : va_D A [(h0, .inr (5, [.ref h0_had, .ref h0_there, .ref h0_corner, .ref h0_second, .ref h0_third, .int v_seed, .int v_size, .int (0 : Int32)])), (h0_had, .inl (cZ, 62, .inl (upd v_had_7 x1_7.toNatClampNeg ((0 : Int32) &&& 1)))), (h0_there, .inl (cZ, 62, .inl (upd v_there_7 x1_7.toNatClampNeg ((0 : Int32) &&& 1)))), (h0_corner, .inl (cI, 62, .inl (upd v_corner_7 x1_7.toNatClampNeg (0 : Int32)))), (h0_second, .inl (cI, 62, .inl (upd v_second_7 x1_7.toNatClampNeg (0 : Int32)))), (h0_third, .inl (cI, 62, .inl (upd v_third_7 x1_7.toNatClampNeg (0 : Int32))))] := hD
        refine lv_iinc (v := (x1_7 + (1 : Int32))) (lv' := [(1, .int (x1_7 + (1 : Int32))), (0, .ref h0)]) hx hb dX5_forget_48 hl (k := 1) rfl rfl (by decide) rfl (fun ls hl => ?_)
        refine lv_goto (tgt := 7) hx hb dX5_forget_51 (by decide) ?_
        exact ih7 (x1_7 + (1 : Int32)) (upd v_had_7 x1_7.toNatClampNeg ((0 : Int32) &&& 1)) (upd v_there_7 x1_7.toNatClampNeg ((0 : Int32) &&& 1)) (upd v_corner_7 x1_7.toNatClampNeg (0 : Int32)) (upd v_second_7 x1_7.toNatClampNeg (0 : Int32)) (upd v_third_7 x1_7.toNatClampNeg (0 : Int32)) _ _ _ hm hP hD hS (lv_sub hl [1, 0] rfl)
  exact L7 fu (0 : Int32) v_had v_there v_corner v_second v_third _ _ _ hm hP hD hS (lv_sub hl [1, 0] rfl)
def m_X5_mixed (p0 : Int32) : Option (Int32) := some (((((p0 ^^^ (mt_ushr p0 (15 : Int32))) * ((-2048144789) : Int32)) ^^^ (mt_ushr ((p0 ^^^ (mt_ushr p0 (15 : Int32))) * ((-2048144789) : Int32)) (13 : Int32))) * ((-1028477387) : Int32)) ^^^ (mt_ushr ((((p0 ^^^ (mt_ushr p0 (15 : Int32))) * ((-2048144789) : Int32)) ^^^ (mt_ushr ((p0 ^^^ (mt_ushr p0 (15 : Int32))) * ((-2048144789) : Int32)) (13 : Int32))) * ((-1028477387) : Int32)) (16 : Int32)))
set_option maxHeartbeats 4000000 in
set_option maxRecDepth 100000 in
theorem c_X5_mixed (l : Launch) (dC : Nat → ClassId) (dI : Nat → Nat → Nat) (cZ cI cL : ClassId) (p0 : Int32) (q : Int32) (hm : m_X5_mixed p0 = some q) : Met l yX5_mixed wsX5_mixed ({ frames := 0, cells := 0, slots := 0, locals := 0 }) (va_Pc [.int p0] (mt_R (dC, dI) cZ cI cL [])) (vp_Si (fun r => r = q)) 0 0 (fun _ => False) := by
  refine Met.ofW (cc := cX5_mixed) (maxL := 2) (ret := (some .int)) (by decide) rfl ?_
  intro p e s m args below meth c s₁ B hml hv
  obtain ⟨rfl, hP, hC⟩ := hv
  have hx := B.exec
  have hb := B.bytes
  have hr := B.returns
  have hts := atoms_spec (ws := wsX5_mixed) B.pre
  have hown : s.vm.findClass RX5 = some m.cls := findClass_of_methodNamed B.named
  have hlocks := B.notSynchronized
  have hK := hC.1
  have hl := lv_entry [.int p0] (n := 2) (Nat.le_of_ble_eq_true rfl)
  rw [lg_entry_eq]
  generalize (lg_sl [.int p0] ++ List.replicate (2 - (lg_sl [.int p0]).length) Slot.unset).toArray = ls at hl ⊢
  have hl : lv_has ls 2 [(0, .int p0)] := hl
  rw [m_X5_mixed] at hm
  refine lv_iload_n hx hb dX5_mixed_0 rfl (lv_at hl 0 rfl) ?_
  refine lv_iload_n hx hb dX5_mixed_1 rfl (lv_at hl 0 rfl) ?_
  refine lv_bipush (v := (15 : Int32)) hx hb dX5_mixed_2 (by decide) ?_
  refine lv_iushr (v := (mt_ushr p0 (15 : Int32))) hx hb dX5_mixed_4 rfl ?_
  refine lv_ixor hx hb dX5_mixed_5 ?_
  refine lv_ldc (v := ((-2048144789) : Int32)) hx hb hown (hts (.constant RX5 92 ((-2048144789) : Int32)) (by decide +kernel)) dX5_mixed_6 ?_
  refine lv_imul hx hb dX5_mixed_8 ?_
  refine lv_istore_n (lv' := [(1, .int ((p0 ^^^ (mt_ushr p0 (15 : Int32))) * ((-2048144789) : Int32))), (0, .int p0)]) hx hb dX5_mixed_9 rfl hl (by decide) rfl (fun ls hl => ?_)
  refine lv_iload_n hx hb dX5_mixed_10 rfl (lv_at hl 0 rfl) ?_
  refine lv_iload_n hx hb dX5_mixed_11 rfl (lv_at hl 0 rfl) ?_
  refine lv_bipush (v := (13 : Int32)) hx hb dX5_mixed_12 (by decide) ?_
  refine lv_iushr (v := (mt_ushr ((p0 ^^^ (mt_ushr p0 (15 : Int32))) * ((-2048144789) : Int32)) (13 : Int32))) hx hb dX5_mixed_14 rfl ?_
  refine lv_ixor hx hb dX5_mixed_15 ?_
  refine lv_ldc (v := ((-1028477387) : Int32)) hx hb hown (hts (.constant RX5 93 ((-1028477387) : Int32)) (by decide +kernel)) dX5_mixed_16 ?_
  refine lv_imul hx hb dX5_mixed_18 ?_
  refine lv_istore_n (lv' := [(1, .int ((((p0 ^^^ (mt_ushr p0 (15 : Int32))) * ((-2048144789) : Int32)) ^^^ (mt_ushr ((p0 ^^^ (mt_ushr p0 (15 : Int32))) * ((-2048144789) : Int32)) (13 : Int32))) * ((-1028477387) : Int32))), (0, .int p0)]) hx hb dX5_mixed_19 rfl hl (by decide) rfl (fun ls hl => ?_)
  refine lv_iload_n hx hb dX5_mixed_20 rfl (lv_at hl 0 rfl) ?_
  refine lv_iload_n hx hb dX5_mixed_21 rfl (lv_at hl 0 rfl) ?_
  refine lv_bipush (v := (16 : Int32)) hx hb dX5_mixed_22 (by decide) ?_
  refine lv_iushr (v := (mt_ushr ((((p0 ^^^ (mt_ushr p0 (15 : Int32))) * ((-2048144789) : Int32)) ^^^ (mt_ushr ((p0 ^^^ (mt_ushr p0 (15 : Int32))) * ((-2048144789) : Int32)) (13 : Int32))) * ((-1028477387) : Int32)) (16 : Int32))) hx hb dX5_mixed_24 rfl ?_
  refine lv_ixor hx hb dX5_mixed_25 ?_
  obtain rfl := Option.some.inj hm
  exact W.iret hx hb hr (fun t ht hW => ⟨_, rfl, rfl, ht⟩) t_nil dX5_mixed_26
def m_X5_drawn (p1 : Int32) (p2 : Int32) (p3 : Int32) (v_seed : Int32) : Option (Int32) := if (1 : Int32) ≤ p3 then (m_X5_mixed ((v_seed + ((65537 : Int32) * p1)) + ((31 : Int32) * p2))).bind fun q2 => if (¬ p3 = 0) then some ((mt_ushr q2 (4 : Int32)) - (mt_ushr q2 (4 : Int32)) / p3 * p3) else none else some (0 : Int32)
set_option maxHeartbeats 4000000 in
set_option maxRecDepth 100000 in
theorem c_X5_drawn (l : Launch) (dC : Nat → ClassId) (dI : Nat → Nat → Nat) (cZ cI cL : ClassId) (h0 h0_had h0_there h0_corner h0_second h0_third : Nat) (p1 : Int32) (p2 : Int32) (p3 : Int32) (v_seed : Int32) (v_size : Int32) (v_parts : Int32) (v_had : Nat → Int32) (v_there : Nat → Int32) (v_corner : Nat → Int32) (v_second : Nat → Int32) (v_third : Nat → Int32) (q : Int32) (hm : m_X5_drawn p1 p2 p3 v_seed = some q) : Met l yX5_drawn wsX5_drawn ({ frames := 1, cells := 0, slots := 0, locals := 21 }) (va_Pc [.ref h0, .int p1, .int p2, .int p3] (mt_R (dC, dI) cZ cI cL [(h0, .inr (5, [.ref h0_had, .ref h0_there, .ref h0_corner, .ref h0_second, .ref h0_third, .int v_seed, .int v_size, .int v_parts])), (h0_had, .inl (cZ, 62, .inl v_had)), (h0_there, .inl (cZ, 62, .inl v_there)), (h0_corner, .inl (cI, 62, .inl v_corner)), (h0_second, .inl (cI, 62, .inl v_second)), (h0_third, .inl (cI, 62, .inl v_third))])) (vp_Si (fun r => r = q)) 0 0 (fun _ => False) := by
  refine Met.ofW (cc := cX5_drawn) (maxL := 4) (ret := (some .int)) (by decide) rfl ?_
  intro p e s m args below meth c s₁ B hml hv
  obtain ⟨rfl, hP, hC⟩ := hv
  have hx := B.exec
  have hb := B.bytes
  have hr := B.returns
  have hts := atoms_spec (ws := wsX5_drawn) B.pre
  have hown : s.vm.findClass RX5 = some m.cls := findClass_of_methodNamed B.named
  have hlocks := B.notSynchronized
  have hK := hC.1
  have hiX5 : ∀ w ∈ wsX50, w ∈ wsX5_drawn := by decide +kernel
  have hl := lv_entry [.ref h0, .int p1, .int p2, .int p3] (n := 4) (Nat.le_of_ble_eq_true rfl)
  rw [lg_entry_eq]
  generalize (lg_sl [.ref h0, .int p1, .int p2, .int p3] ++ List.replicate (4 - (lg_sl [.ref h0, .int p1, .int p2, .int p3]).length) Slot.unset).toArray = ls at hl ⊢
  have hl : lv_has ls 4 [(0, .ref h0), (1, .int p1), (2, .int p2), (3, .int p3)] := hl
  rw [m_X5_drawn] at hm
  refine lv_iload_n hx hb dX5_drawn_0 rfl (lv_at hl 3 rfl) ?_
  refine lv_iconst (v := (1 : Int32)) hx hb dX5_drawn_1 (by decide) ?_
  refine lv_icmp_ge (tgt := 7) hx hb dX5_drawn_2 (by decide) (fun c1 => ?_) (fun c1 => ?_)
  · replace hm := mt_pos c1 hm
    refine lv_aload_n hx hb dX5_drawn_7 rfl (lv_at hl 0 rfl) ?_
    refine va_get (D := (dC, dI)) (ci := 5) (v := .int v_seed) (C := RX5) (T := TX5) (N := 8) hx hb hts hiX5 hown hK hP 0 rfl rfl 5 (by decide) (hts (.fieldLink RX5 28 "ServiceDrawer$Town" "seed" "I") (by decide +kernel)) (fun _ h9 => h9) rfl dX5_drawn_8 ?_
    refine lv_ldc (v := (65537 : Int32)) hx hb hown (hts (.constant RX5 87 (65537 : Int32)) (by decide +kernel)) dX5_drawn_11 ?_
    refine lv_iload_n hx hb dX5_drawn_13 rfl (lv_at hl 1 rfl) ?_
    refine lv_imul hx hb dX5_drawn_14 ?_
    refine lv_iadd hx hb dX5_drawn_15 ?_
    refine lv_bipush (v := (31 : Int32)) hx hb dX5_drawn_16 (by decide) ?_
    refine lv_iload_n hx hb dX5_drawn_18 rfl (lv_at hl 2 rfl) ?_
    refine lv_imul hx hb dX5_drawn_19 ?_
    refine lv_iadd hx hb dX5_drawn_20 ?_
    obtain ⟨q2, hq2, hm⟩ := mt_bind hm
    refine vp_callSi (va_Run.run (va_runS (As := [.int ((v_seed + ((65537 : Int32) * p1)) + ((31 : Int32) * p2))]) (rest := []) ⟨hx, hb, hml, hown, hts⟩ (c_X5_mixed l dC dI cZ cI cL ((v_seed + ((65537 : Int32) * p1)) + ((31 : Int32) * p2)) q2 hq2) (va_cwS 1 hts gX5_drawn_X5_mixed rfl rfl rfl (by decide +kernel) ⟨Nat.le_of_ble_eq_true rfl, Nat.le_of_ble_eq_true rfl⟩) (mt_pR hC (hP.sub (ws' := []) [] rfl)) rfl rfl hl.1 rfl (lv_room (Nat.le_of_ble_eq_true rfl)) dX5_drawn_21 ⟨Nat.le_of_ble_eq_true rfl, Nat.le_of_ble_eq_true rfl⟩)) (fun r er => ?_)
    replace er := er.symm
    subst er
    refine lv_iconst (v := (4 : Int32)) hx hb dX5_drawn_24 (by decide) ?_
    refine lv_iushr (v := (mt_ushr q2 (4 : Int32))) hx hb dX5_drawn_25 rfl ?_
    refine lv_iload_n hx hb dX5_drawn_26 rfl (lv_at hl 3 rfl) ?_
    obtain ⟨g3, hm⟩ := mt_gd hm
    refine lv_irem hx hb dX5_drawn_27 g3 ?_
    obtain rfl := Option.some.inj hm
    exact W.iret hx hb hr (fun t ht hW => ⟨_, rfl, rfl, ht⟩) t_nil dX5_drawn_28
  · replace hm := mt_neg c1 hm
    refine lv_iconst (v := (0 : Int32)) hx hb dX5_drawn_5 (by decide) ?_
    obtain rfl := Option.some.inj hm
    exact W.iret hx hb hr (fun t ht hW => ⟨_, rfl, rfl, ht⟩) t_nil dX5_drawn_6
def m_X5_put (p1 : Int32) (p2 : Int32) (p3 : Int32) (p4 : Int32) (v_parts : Int32) (v_had : Nat → Int32) (v_there : Nat → Int32) (v_corner : Nat → Int32) (v_second : Nat → Int32) (v_third : Nat → Int32) : Option (Int32 × (Nat → Int32) × (Nat → Int32) × (Nat → Int32) × (Nat → Int32) × (Nat → Int32)) := (m_X6_isPart p1).bind fun q1 => if q1 = 0 then some (v_parts, v_had, v_there, v_corner, v_second, v_third) else if (¬ (p1 < 0 ∨ 62 ≤ p1.toNatClampNeg)) then if (¬ (p1 < 0 ∨ 62 ≤ p1.toNatClampNeg)) then if (¬ (p1 < 0 ∨ 62 ≤ p1.toNatClampNeg)) then if (¬ (p1 < 0 ∨ 62 ≤ p1.toNatClampNeg)) then if (¬ (p1 < 0 ∨ 62 ≤ p1.toNatClampNeg)) then some ((v_parts + (1 : Int32)), (upd v_had p1.toNatClampNeg ((1 : Int32) &&& 1)), (upd v_there p1.toNatClampNeg ((1 : Int32) &&& 1)), (upd v_corner p1.toNatClampNeg p2), (upd v_second p1.toNatClampNeg p3), (upd v_third p1.toNatClampNeg p4)) else none else none else none else none else none
set_option maxHeartbeats 4000000 in
set_option maxRecDepth 100000 in
theorem c_X5_put (l : Launch) (dC : Nat → ClassId) (dI : Nat → Nat → Nat) (cZ cI cL : ClassId) (h0 h0_had h0_there h0_corner h0_second h0_third : Nat) (sz : Nat) (p1 : Int32) (p2 : Int32) (p3 : Int32) (p4 : Int32) (v_seed : Int32) (v_size : Int32) (v_parts : Int32) (v_had : Nat → Int32) (v_there : Nat → Int32) (v_corner : Nat → Int32) (v_second : Nat → Int32) (v_third : Nat → Int32) (q : Int32 × (Nat → Int32) × (Nat → Int32) × (Nat → Int32) × (Nat → Int32) × (Nat → Int32)) (hm : m_X5_put p1 p2 p3 p4 v_parts v_had v_there v_corner v_second v_third = some q) : Met l yX5_put wsX5_put ({ frames := 1, cells := 0, slots := 0, locals := 20 }) (va_Pc [.ref h0, .int p1, .int p2, .int p3, .int p4] (mt_S (dC, dI) cZ cI cL sz [(h0, .inr (5, [.ref h0_had, .ref h0_there, .ref h0_corner, .ref h0_second, .ref h0_third, .int v_seed, .int v_size, .int v_parts])), (h0_had, .inl (cZ, 62, .inl v_had)), (h0_there, .inl (cZ, 62, .inl v_there)), (h0_corner, .inl (cI, 62, .inl v_corner)), (h0_second, .inl (cI, 62, .inl v_second)), (h0_third, .inl (cI, 62, .inl v_third))])) (va_Qv (fun (_ : Unit) => True) (fun _ t => va_P (dC, dI) vwCl [(h0, .inr (5, [.ref h0_had, .ref h0_there, .ref h0_corner, .ref h0_second, .ref h0_third, .int v_seed, .int v_size, .int q.1])), (h0_had, .inl (cZ, 62, .inl q.2.1)), (h0_there, .inl (cZ, 62, .inl q.2.2.1)), (h0_corner, .inl (cI, 62, .inl q.2.2.2.1)), (h0_second, .inl (cI, 62, .inl q.2.2.2.2.1)), (h0_third, .inl (cI, 62, .inl q.2.2.2.2.2))] t.heap ∧ va_D (va_A [(h0, .inr (5, [.ref h0_had, .ref h0_there, .ref h0_corner, .ref h0_second, .ref h0_third, .int v_seed, .int v_size, .int v_parts])), (h0_had, .inl (cZ, 62, .inl v_had)), (h0_there, .inl (cZ, 62, .inl v_there)), (h0_corner, .inl (cI, 62, .inl v_corner)), (h0_second, .inl (cI, 62, .inl v_second)), (h0_third, .inl (cI, 62, .inl v_third))] sz) [(h0, .inr (5, [.ref h0_had, .ref h0_there, .ref h0_corner, .ref h0_second, .ref h0_third, .int v_seed, .int v_size, .int q.1])), (h0_had, .inl (cZ, 62, .inl q.2.1)), (h0_there, .inl (cZ, 62, .inl q.2.2.1)), (h0_corner, .inl (cI, 62, .inl q.2.2.2.1)), (h0_second, .inl (cI, 62, .inl q.2.2.2.2.1)), (h0_third, .inl (cI, 62, .inl q.2.2.2.2.2))]) (va_A [(h0, .inr (5, [.ref h0_had, .ref h0_there, .ref h0_corner, .ref h0_second, .ref h0_third, .int v_seed, .int v_size, .int v_parts])), (h0_had, .inl (cZ, 62, .inl v_had)), (h0_there, .inl (cZ, 62, .inl v_there)), (h0_corner, .inl (cI, 62, .inl v_corner)), (h0_second, .inl (cI, 62, .inl v_second)), (h0_third, .inl (cI, 62, .inl v_third))] sz)) 0 0 (va_A [(h0, .inr (5, [.ref h0_had, .ref h0_there, .ref h0_corner, .ref h0_second, .ref h0_third, .int v_seed, .int v_size, .int v_parts])), (h0_had, .inl (cZ, 62, .inl v_had)), (h0_there, .inl (cZ, 62, .inl v_there)), (h0_corner, .inl (cI, 62, .inl v_corner)), (h0_second, .inl (cI, 62, .inl v_second)), (h0_third, .inl (cI, 62, .inl v_third))] sz) := by
  refine Met.ofW (cc := cX5_put) (maxL := 5) (ret := none) (by decide) rfl ?_
  intro p e s m args below meth c s₁ B hml hv
  obtain ⟨rfl, hsz, hP, hC, hD0⟩ := hv
  have hx := B.exec
  have hb := B.bytes
  have hr := B.returns
  have hts := atoms_spec (ws := wsX5_put) B.pre
  have hown : s.vm.findClass RX5 = some m.cls := findClass_of_methodNamed B.named
  have hlocks := B.notSynchronized
  have hK := hC.1
  have hiX5 : ∀ w ∈ wsX50, w ∈ wsX5_put := by decide +kernel
  subst hsz
  have hD := hD0.self (sz := s.heap.size)
  generalize hAe : va_A [(h0, .inr (5, [.ref h0_had, .ref h0_there, .ref h0_corner, .ref h0_second, .ref h0_third, .int v_seed, .int v_size, .int v_parts])), (h0_had, .inl (cZ, 62, .inl v_had)), (h0_there, .inl (cZ, 62, .inl v_there)), (h0_corner, .inl (cI, 62, .inl v_corner)), (h0_second, .inl (cI, 62, .inl v_second)), (h0_third, .inl (cI, 62, .inl v_third))] s.heap.size = A at hD ⊢
  have hA : ∀ q : Nat, s.heap.size ≤ q → A q := fun q h => by rw [← hAe]; exact Or.inr h
  have hS : va_S A s.heap s.heap [] := va_S.rf
  have hl := lv_entry [.ref h0, .int p1, .int p2, .int p3, .int p4] (n := 5) (Nat.le_of_ble_eq_true rfl)
  rw [lg_entry_eq]
  generalize (lg_sl [.ref h0, .int p1, .int p2, .int p3, .int p4] ++ List.replicate (5 - (lg_sl [.ref h0, .int p1, .int p2, .int p3, .int p4]).length) Slot.unset).toArray = ls at hl ⊢
  have hl : lv_has ls 5 [(0, .ref h0), (1, .int p1), (2, .int p2), (3, .int p3), (4, .int p4)] := hl
  rw [m_X5_put] at hm
  refine lv_iload_n hx hb dX5_put_0 rfl (lv_at hl 1 rfl) ?_
  obtain ⟨q1, hq1, hm⟩ := mt_bind hm
  refine vp_callSi (va_Run.run (va_runSN (As := [.int p1]) (rest := []) ⟨hx, hb, hml, hown, hts⟩ (c_X6_isPart l dC dI cZ cI cL p1 q1 hq1) ⟨(va_cnB 1 hts gX5_put_X6_isPart_n83 rfl rfl rfl (hC.2.m RX5 83 yX6_isPart "ServiceDrawer" (by decide +kernel)) (hts (.initialized RX6) (by decide +kernel)) (by decide +kernel) ⟨Nat.le_of_ble_eq_true rfl, Nat.le_of_ble_eq_true rfl⟩), hts (.static yX6_isPart) (by decide +kernel), trivial⟩ (mt_pR hC (hP.sub (ws' := []) [] rfl)) rfl rfl hl.1 rfl (lv_room (Nat.le_of_ble_eq_true rfl)) dX5_put_1 ⟨Nat.le_of_ble_eq_true rfl, Nat.le_of_ble_eq_true rfl⟩)) (fun r er => ?_)
  replace er := er.symm
  subst er
  refine lv_if_eq (tgt := 53) hx hb dX5_put_4 (by decide) (fun c2 => ?_) (fun c2 => ?_)
  · replace hm := mt_pos c2 hm
    obtain rfl := Option.some.inj hm
    exact W.vret hx hb hr (fun t ht hW => ⟨⟨(), rfl, trivial, by rw [ht]; exact hP, hD⟩, hS.F ht⟩) hS.2.2 dX5_put_53
  · replace hm := mt_neg c2 hm
    refine lv_aload_n hx hb dX5_put_7 rfl (lv_at hl 0 rfl) ?_
    refine va_get (D := (dC, dI)) (ci := 5) (v := .ref h0_had) (C := RX5) (T := TX5) (N := 8) hx hb hts hiX5 hown hK hP 0 rfl rfl 0 (by decide) (hts (.fieldLink RX5 9 "ServiceDrawer$Town" "had" "[Z") (by decide +kernel)) (fun _ h9 => h9) rfl dX5_put_8 ?_
    refine lv_iload_n hx hb dX5_put_11 rfl (lv_at hl 1 rfl) ?_
    refine lv_iconst (v := (1 : Int32)) hx hb dX5_put_12 (by decide) ?_
    obtain ⟨g3, hm⟩ := mt_gd hm
    refine va_zast hx hb hK hP hD hS 1 0 rfl rfl g3 dX5_put_13 (fun H locs hP hD hS => ?_)
    have hP : va_P (dC, dI) vwCl [(h0, .inr (5, [.ref h0_had, .ref h0_there, .ref h0_corner, .ref h0_second, .ref h0_third, .int v_seed, .int v_size, .int v_parts])), (h0_had, .inl (cZ, 62, .inl (upd v_had p1.toNatClampNeg ((1 : Int32) &&& 1)))), (h0_there, .inl (cZ, 62, .inl v_there)), (h0_corner, .inl (cI, 62, .inl v_corner)), (h0_second, .inl (cI, 62, .inl v_second)), (h0_third, .inl (cI, 62, .inl v_third))] H := hP
    have hD : va_D A [(h0, .inr (5, [.ref h0_had, .ref h0_there, .ref h0_corner, .ref h0_second, .ref h0_third, .int v_seed, .int v_size, .int v_parts])), (h0_had, .inl (cZ, 62, .inl (upd v_had p1.toNatClampNeg ((1 : Int32) &&& 1)))), (h0_there, .inl (cZ, 62, .inl v_there)), (h0_corner, .inl (cI, 62, .inl v_corner)), (h0_second, .inl (cI, 62, .inl v_second)), (h0_third, .inl (cI, 62, .inl v_third))] := hD
    refine lv_aload_n hx hb dX5_put_14 rfl (lv_at hl 0 rfl) ?_
    refine va_get (D := (dC, dI)) (ci := 5) (v := .ref h0_there) (C := RX5) (T := TX5) (N := 8) hx hb hts hiX5 hown hK hP 0 rfl rfl 1 (by decide) (hts (.fieldLink RX5 15 "ServiceDrawer$Town" "there" "[Z") (by decide +kernel)) (fun _ h9 => h9) rfl dX5_put_15 ?_
    refine lv_iload_n hx hb dX5_put_18 rfl (lv_at hl 1 rfl) ?_
    refine lv_iconst (v := (1 : Int32)) hx hb dX5_put_19 (by decide) ?_
    obtain ⟨g4, hm⟩ := mt_gd hm
    refine va_zast hx hb hK hP hD hS 2 0 rfl rfl g4 dX5_put_20 (fun H locs hP hD hS => ?_)
    have hP : va_P (dC, dI) vwCl [(h0, .inr (5, [.ref h0_had, .ref h0_there, .ref h0_corner, .ref h0_second, .ref h0_third, .int v_seed, .int v_size, .int v_parts])), (h0_had, .inl (cZ, 62, .inl (upd v_had p1.toNatClampNeg ((1 : Int32) &&& 1)))), (h0_there, .inl (cZ, 62, .inl (upd v_there p1.toNatClampNeg ((1 : Int32) &&& 1)))), (h0_corner, .inl (cI, 62, .inl v_corner)), (h0_second, .inl (cI, 62, .inl v_second)), (h0_third, .inl (cI, 62, .inl v_third))] H := hP
    have hD : va_D A [(h0, .inr (5, [.ref h0_had, .ref h0_there, .ref h0_corner, .ref h0_second, .ref h0_third, .int v_seed, .int v_size, .int v_parts])), (h0_had, .inl (cZ, 62, .inl (upd v_had p1.toNatClampNeg ((1 : Int32) &&& 1)))), (h0_there, .inl (cZ, 62, .inl (upd v_there p1.toNatClampNeg ((1 : Int32) &&& 1)))), (h0_corner, .inl (cI, 62, .inl v_corner)), (h0_second, .inl (cI, 62, .inl v_second)), (h0_third, .inl (cI, 62, .inl v_third))] := hD
    refine lv_aload_n hx hb dX5_put_21 rfl (lv_at hl 0 rfl) ?_
    refine va_get (D := (dC, dI)) (ci := 5) (v := .ref h0_corner) (C := RX5) (T := TX5) (N := 8) hx hb hts hiX5 hown hK hP 0 rfl rfl 2 (by decide) (hts (.fieldLink RX5 18 "ServiceDrawer$Town" "corner" "[I") (by decide +kernel)) (fun _ h9 => h9) rfl dX5_put_22 ?_
    refine lv_iload_n hx hb dX5_put_25 rfl (lv_at hl 1 rfl) ?_
    refine lv_iload_n hx hb dX5_put_26 rfl (lv_at hl 2 rfl) ?_
    obtain ⟨g5, hm⟩ := mt_gd hm
    refine va_iast hx hb hK hP hD hS 3 1 rfl rfl g5 dX5_put_27 (fun H locs hP hD hS => ?_)
    have hP : va_P (dC, dI) vwCl [(h0, .inr (5, [.ref h0_had, .ref h0_there, .ref h0_corner, .ref h0_second, .ref h0_third, .int v_seed, .int v_size, .int v_parts])), (h0_had, .inl (cZ, 62, .inl (upd v_had p1.toNatClampNeg ((1 : Int32) &&& 1)))), (h0_there, .inl (cZ, 62, .inl (upd v_there p1.toNatClampNeg ((1 : Int32) &&& 1)))), (h0_corner, .inl (cI, 62, .inl (upd v_corner p1.toNatClampNeg p2))), (h0_second, .inl (cI, 62, .inl v_second)), (h0_third, .inl (cI, 62, .inl v_third))] H := hP
    have hD : va_D A [(h0, .inr (5, [.ref h0_had, .ref h0_there, .ref h0_corner, .ref h0_second, .ref h0_third, .int v_seed, .int v_size, .int v_parts])), (h0_had, .inl (cZ, 62, .inl (upd v_had p1.toNatClampNeg ((1 : Int32) &&& 1)))), (h0_there, .inl (cZ, 62, .inl (upd v_there p1.toNatClampNeg ((1 : Int32) &&& 1)))), (h0_corner, .inl (cI, 62, .inl (upd v_corner p1.toNatClampNeg p2))), (h0_second, .inl (cI, 62, .inl v_second)), (h0_third, .inl (cI, 62, .inl v_third))] := hD
    refine lv_aload_n hx hb dX5_put_28 rfl (lv_at hl 0 rfl) ?_
    refine va_get (D := (dC, dI)) (ci := 5) (v := .ref h0_second) (C := RX5) (T := TX5) (N := 8) hx hb hts hiX5 hown hK hP 0 rfl rfl 3 (by decide) (hts (.fieldLink RX5 22 "ServiceDrawer$Town" "second" "[I") (by decide +kernel)) (fun _ h9 => h9) rfl dX5_put_29 ?_
    refine lv_iload_n hx hb dX5_put_32 rfl (lv_at hl 1 rfl) ?_
    refine lv_iload_n hx hb dX5_put_33 rfl (lv_at hl 3 rfl) ?_
    obtain ⟨g6, hm⟩ := mt_gd hm
    refine va_iast hx hb hK hP hD hS 4 1 rfl rfl g6 dX5_put_34 (fun H locs hP hD hS => ?_)
    have hP : va_P (dC, dI) vwCl [(h0, .inr (5, [.ref h0_had, .ref h0_there, .ref h0_corner, .ref h0_second, .ref h0_third, .int v_seed, .int v_size, .int v_parts])), (h0_had, .inl (cZ, 62, .inl (upd v_had p1.toNatClampNeg ((1 : Int32) &&& 1)))), (h0_there, .inl (cZ, 62, .inl (upd v_there p1.toNatClampNeg ((1 : Int32) &&& 1)))), (h0_corner, .inl (cI, 62, .inl (upd v_corner p1.toNatClampNeg p2))), (h0_second, .inl (cI, 62, .inl (upd v_second p1.toNatClampNeg p3))), (h0_third, .inl (cI, 62, .inl v_third))] H := hP
    have hD : va_D A [(h0, .inr (5, [.ref h0_had, .ref h0_there, .ref h0_corner, .ref h0_second, .ref h0_third, .int v_seed, .int v_size, .int v_parts])), (h0_had, .inl (cZ, 62, .inl (upd v_had p1.toNatClampNeg ((1 : Int32) &&& 1)))), (h0_there, .inl (cZ, 62, .inl (upd v_there p1.toNatClampNeg ((1 : Int32) &&& 1)))), (h0_corner, .inl (cI, 62, .inl (upd v_corner p1.toNatClampNeg p2))), (h0_second, .inl (cI, 62, .inl (upd v_second p1.toNatClampNeg p3))), (h0_third, .inl (cI, 62, .inl v_third))] := hD
    refine lv_aload_n hx hb dX5_put_35 rfl (lv_at hl 0 rfl) ?_
    refine va_get (D := (dC, dI)) (ci := 5) (v := .ref h0_third) (C := RX5) (T := TX5) (N := 8) hx hb hts hiX5 hown hK hP 0 rfl rfl 4 (by decide) (hts (.fieldLink RX5 25 "ServiceDrawer$Town" "third" "[I") (by decide +kernel)) (fun _ h9 => h9) rfl dX5_put_36 ?_
    refine lv_iload_n hx hb dX5_put_39 rfl (lv_at hl 1 rfl) ?_
    refine lv_iload hx hb dX5_put_40 (lv_at hl 4 rfl) ?_
    obtain ⟨g7, hm⟩ := mt_gd hm
    refine va_iast hx hb hK hP hD hS 5 1 rfl rfl g7 dX5_put_42 (fun H locs hP hD hS => ?_)
    have hP : va_P (dC, dI) vwCl [(h0, .inr (5, [.ref h0_had, .ref h0_there, .ref h0_corner, .ref h0_second, .ref h0_third, .int v_seed, .int v_size, .int v_parts])), (h0_had, .inl (cZ, 62, .inl (upd v_had p1.toNatClampNeg ((1 : Int32) &&& 1)))), (h0_there, .inl (cZ, 62, .inl (upd v_there p1.toNatClampNeg ((1 : Int32) &&& 1)))), (h0_corner, .inl (cI, 62, .inl (upd v_corner p1.toNatClampNeg p2))), (h0_second, .inl (cI, 62, .inl (upd v_second p1.toNatClampNeg p3))), (h0_third, .inl (cI, 62, .inl (upd v_third p1.toNatClampNeg p4)))] H := hP
    have hD : va_D A [(h0, .inr (5, [.ref h0_had, .ref h0_there, .ref h0_corner, .ref h0_second, .ref h0_third, .int v_seed, .int v_size, .int v_parts])), (h0_had, .inl (cZ, 62, .inl (upd v_had p1.toNatClampNeg ((1 : Int32) &&& 1)))), (h0_there, .inl (cZ, 62, .inl (upd v_there p1.toNatClampNeg ((1 : Int32) &&& 1)))), (h0_corner, .inl (cI, 62, .inl (upd v_corner p1.toNatClampNeg p2))), (h0_second, .inl (cI, 62, .inl (upd v_second p1.toNatClampNeg p3))), (h0_third, .inl (cI, 62, .inl (upd v_third p1.toNatClampNeg p4)))] := hD
    refine lv_aload_n hx hb dX5_put_43 rfl (lv_at hl 0 rfl) ?_
    refine lv_dup hx hb dX5_put_44 rfl ?_
    refine va_get (D := (dC, dI)) (ci := 5) (v := .int v_parts) (C := RX5) (T := TX5) (N := 8) hx hb hts hiX5 hown hK hP 0 rfl rfl 7 (by decide) (hts (.fieldLink RX5 50 "ServiceDrawer$Town" "parts" "I") (by decide +kernel)) (fun _ h9 => h9) rfl dX5_put_45 ?_
    refine lv_iconst (v := (1 : Int32)) hx hb dX5_put_48 (by decide) ?_
    refine lv_iadd hx hb dX5_put_49 ?_
    refine va_put (D := (dC, dI)) (ci := 5) (v := .int (v_parts + (1 : Int32))) (ty := .int) (C := RX5) (T := TX5) (N := 8) hx hb hts hiX5 tyX5 tyX5_ok nmX5 hown hK hP hD hS 0 rfl rfl 7 (by decide) (hts (.fieldLink RX5 50 "ServiceDrawer$Town" "parts" "I") (by decide +kernel)) (fun _ h9 => h9) rfl (by decide +kernel) rfl rfl (Nat.le_of_ble_eq_true rfl) dX5_put_50 (fun H locs hP hD hS => ?_)
    have hP : va_P (dC, dI) vwCl [(h0, .inr (5, [.ref h0_had, .ref h0_there, .ref h0_corner, .ref h0_second, .ref h0_third, .int v_seed, .int v_size, .int (v_parts + (1 : Int32))])), (h0_had, .inl (cZ, 62, .inl (upd v_had p1.toNatClampNeg ((1 : Int32) &&& 1)))), (h0_there, .inl (cZ, 62, .inl (upd v_there p1.toNatClampNeg ((1 : Int32) &&& 1)))), (h0_corner, .inl (cI, 62, .inl (upd v_corner p1.toNatClampNeg p2))), (h0_second, .inl (cI, 62, .inl (upd v_second p1.toNatClampNeg p3))), (h0_third, .inl (cI, 62, .inl (upd v_third p1.toNatClampNeg p4)))] H := hP
    have hD : va_D A [(h0, .inr (5, [.ref h0_had, .ref h0_there, .ref h0_corner, .ref h0_second, .ref h0_third, .int v_seed, .int v_size, .int (v_parts + (1 : Int32))])), (h0_had, .inl (cZ, 62, .inl (upd v_had p1.toNatClampNeg ((1 : Int32) &&& 1)))), (h0_there, .inl (cZ, 62, .inl (upd v_there p1.toNatClampNeg ((1 : Int32) &&& 1)))), (h0_corner, .inl (cI, 62, .inl (upd v_corner p1.toNatClampNeg p2))), (h0_second, .inl (cI, 62, .inl (upd v_second p1.toNatClampNeg p3))), (h0_third, .inl (cI, 62, .inl (upd v_third p1.toNatClampNeg p4)))] := hD
    obtain rfl := Option.some.inj hm
    exact W.vret hx hb hr (fun t ht hW => ⟨⟨(), rfl, trivial, by rw [ht]; exact hP, hD⟩, hS.F ht⟩) hS.2.2 dX5_put_53
def m_X5_putStreet (p1 : Int32) (p2 : Int32) (p3 : Int32) (p4 : Int32) (v_parts : Int32) (v_had : Nat → Int32) (v_there : Nat → Int32) (v_corner : Nat → Int32) (v_second : Nat → Int32) (v_third : Nat → Int32) : Option (Int32 × (Nat → Int32) × (Nat → Int32) × (Nat → Int32) × (Nat → Int32) × (Nat → Int32)) := (m_X5_put p1 (mt_min p2 p3) (mt_max p2 p3) p4 v_parts v_had v_there v_corner v_second v_third).bind fun q1 => some (q1.1, q1.2.1, q1.2.2.1, q1.2.2.2.1, q1.2.2.2.2.1, q1.2.2.2.2.2)
set_option maxHeartbeats 4000000 in
set_option maxRecDepth 100000 in
theorem c_X5_putStreet (l : Launch) (dC : Nat → ClassId) (dI : Nat → Nat → Nat) (cZ cI cL : ClassId) (h0 h0_had h0_there h0_corner h0_second h0_third : Nat) (sz : Nat) (p1 : Int32) (p2 : Int32) (p3 : Int32) (p4 : Int32) (v_seed : Int32) (v_size : Int32) (v_parts : Int32) (v_had : Nat → Int32) (v_there : Nat → Int32) (v_corner : Nat → Int32) (v_second : Nat → Int32) (v_third : Nat → Int32) (q : Int32 × (Nat → Int32) × (Nat → Int32) × (Nat → Int32) × (Nat → Int32) × (Nat → Int32)) (hm : m_X5_putStreet p1 p2 p3 p4 v_parts v_had v_there v_corner v_second v_third = some q) : Met l yX5_putStreet wsX5_putStreet ({ frames := 2, cells := 0, slots := 0, locals := 44 }) (va_Pc [.ref h0, .int p1, .int p2, .int p3, .int p4] (mt_S (dC, dI) cZ cI cL sz [(h0, .inr (5, [.ref h0_had, .ref h0_there, .ref h0_corner, .ref h0_second, .ref h0_third, .int v_seed, .int v_size, .int v_parts])), (h0_had, .inl (cZ, 62, .inl v_had)), (h0_there, .inl (cZ, 62, .inl v_there)), (h0_corner, .inl (cI, 62, .inl v_corner)), (h0_second, .inl (cI, 62, .inl v_second)), (h0_third, .inl (cI, 62, .inl v_third))])) (va_Qv (fun (_ : Unit) => True) (fun _ t => va_P (dC, dI) vwCl [(h0, .inr (5, [.ref h0_had, .ref h0_there, .ref h0_corner, .ref h0_second, .ref h0_third, .int v_seed, .int v_size, .int q.1])), (h0_had, .inl (cZ, 62, .inl q.2.1)), (h0_there, .inl (cZ, 62, .inl q.2.2.1)), (h0_corner, .inl (cI, 62, .inl q.2.2.2.1)), (h0_second, .inl (cI, 62, .inl q.2.2.2.2.1)), (h0_third, .inl (cI, 62, .inl q.2.2.2.2.2))] t.heap ∧ va_D (va_A [(h0, .inr (5, [.ref h0_had, .ref h0_there, .ref h0_corner, .ref h0_second, .ref h0_third, .int v_seed, .int v_size, .int v_parts])), (h0_had, .inl (cZ, 62, .inl v_had)), (h0_there, .inl (cZ, 62, .inl v_there)), (h0_corner, .inl (cI, 62, .inl v_corner)), (h0_second, .inl (cI, 62, .inl v_second)), (h0_third, .inl (cI, 62, .inl v_third))] sz) [(h0, .inr (5, [.ref h0_had, .ref h0_there, .ref h0_corner, .ref h0_second, .ref h0_third, .int v_seed, .int v_size, .int q.1])), (h0_had, .inl (cZ, 62, .inl q.2.1)), (h0_there, .inl (cZ, 62, .inl q.2.2.1)), (h0_corner, .inl (cI, 62, .inl q.2.2.2.1)), (h0_second, .inl (cI, 62, .inl q.2.2.2.2.1)), (h0_third, .inl (cI, 62, .inl q.2.2.2.2.2))]) (va_A [(h0, .inr (5, [.ref h0_had, .ref h0_there, .ref h0_corner, .ref h0_second, .ref h0_third, .int v_seed, .int v_size, .int v_parts])), (h0_had, .inl (cZ, 62, .inl v_had)), (h0_there, .inl (cZ, 62, .inl v_there)), (h0_corner, .inl (cI, 62, .inl v_corner)), (h0_second, .inl (cI, 62, .inl v_second)), (h0_third, .inl (cI, 62, .inl v_third))] sz)) 0 0 (va_A [(h0, .inr (5, [.ref h0_had, .ref h0_there, .ref h0_corner, .ref h0_second, .ref h0_third, .int v_seed, .int v_size, .int v_parts])), (h0_had, .inl (cZ, 62, .inl v_had)), (h0_there, .inl (cZ, 62, .inl v_there)), (h0_corner, .inl (cI, 62, .inl v_corner)), (h0_second, .inl (cI, 62, .inl v_second)), (h0_third, .inl (cI, 62, .inl v_third))] sz) := by
  refine Met.ofW (cc := cX5_putStreet) (maxL := 5) (ret := none) (by decide) rfl ?_
  intro p e s m args below meth c s₁ B hml hv
  obtain ⟨rfl, hsz, hP, hC, hD0⟩ := hv
  have hx := B.exec
  have hb := B.bytes
  have hr := B.returns
  have hts := atoms_spec (ws := wsX5_putStreet) B.pre
  have hown : s.vm.findClass RX5 = some m.cls := findClass_of_methodNamed B.named
  have hlocks := B.notSynchronized
  have hK := hC.1
  subst hsz
  have hD := hD0.self (sz := s.heap.size)
  generalize hAe : va_A [(h0, .inr (5, [.ref h0_had, .ref h0_there, .ref h0_corner, .ref h0_second, .ref h0_third, .int v_seed, .int v_size, .int v_parts])), (h0_had, .inl (cZ, 62, .inl v_had)), (h0_there, .inl (cZ, 62, .inl v_there)), (h0_corner, .inl (cI, 62, .inl v_corner)), (h0_second, .inl (cI, 62, .inl v_second)), (h0_third, .inl (cI, 62, .inl v_third))] s.heap.size = A at hD ⊢
  have hA : ∀ q : Nat, s.heap.size ≤ q → A q := fun q h => by rw [← hAe]; exact Or.inr h
  have hS : va_S A s.heap s.heap [] := va_S.rf
  have hl := lv_entry [.ref h0, .int p1, .int p2, .int p3, .int p4] (n := 5) (Nat.le_of_ble_eq_true rfl)
  rw [lg_entry_eq]
  generalize (lg_sl [.ref h0, .int p1, .int p2, .int p3, .int p4] ++ List.replicate (5 - (lg_sl [.ref h0, .int p1, .int p2, .int p3, .int p4]).length) Slot.unset).toArray = ls at hl ⊢
  have hl : lv_has ls 5 [(0, .ref h0), (1, .int p1), (2, .int p2), (3, .int p3), (4, .int p4)] := hl
  rw [m_X5_putStreet] at hm
  refine lv_aload_n hx hb dX5_putStreet_0 rfl (lv_at hl 0 rfl) ?_
  refine lv_iload_n hx hb dX5_putStreet_1 rfl (lv_at hl 1 rfl) ?_
  refine lv_iload_n hx hb dX5_putStreet_2 rfl (lv_at hl 2 rfl) ?_
  refine lv_iload_n hx hb dX5_putStreet_3 rfl (lv_at hl 3 rfl) ?_
  refine va_mmin hx hb (hml.trans hl.1.symm) hown (hts (.methodLink RX5 74 Lib.Math.min.name) (by decide +kernel)) (hts (.static Lib.Math.min.name) (by decide +kernel)) (hts (.initialized "java/lang/Math") (by decide +kernel)) (hts (.code Lib.Math.min.name Lib.Math.min.code 2 (some .int)) (by decide +kernel)) (Nat.le_of_ble_eq_true rfl) (Nat.le_of_ble_eq_true rfl) (Nat.le_refl _) (Nat.le_refl _) dX5_putStreet_4 ?_
  refine W.eq (g2 := F0 m 7 ls [.int (mt_min p2 p3), .int p1, .ref h0]) rfl ?_
  refine lv_iload_n hx hb dX5_putStreet_7 rfl (lv_at hl 2 rfl) ?_
  refine lv_iload_n hx hb dX5_putStreet_8 rfl (lv_at hl 3 rfl) ?_
  refine va_mmax hx hb (hml.trans hl.1.symm) hown (hts (.methodLink RX5 80 Lib.Math.max.name) (by decide +kernel)) (hts (.static Lib.Math.max.name) (by decide +kernel)) (hts (.initialized "java/lang/Math") (by decide +kernel)) (hts (.code Lib.Math.max.name Lib.Math.max.code 2 (some .int)) (by decide +kernel)) (Nat.le_of_ble_eq_true rfl) (Nat.le_of_ble_eq_true rfl) (Nat.le_refl _) (Nat.le_refl _) dX5_putStreet_9 ?_
  refine W.eq (g2 := F0 m 12 ls [.int (mt_max p2 p3), .int (mt_min p2 p3), .int p1, .ref h0]) rfl ?_
  refine lv_iload hx hb dX5_putStreet_12 (lv_at hl 4 rfl) ?_
  obtain ⟨q1, hq1, hm⟩ := mt_bind hm
  refine mt_callv (wr := []) hP hD hS hA [0, 1, 2, 3, 4, 5] [] rfl rfl (by decide) (by decide) (va_runV (As := [.int p1, .int (mt_min p2 p3), .int (mt_max p2 p3), .int p4]) (rest := []) ⟨hx, hb, hml, hown, hts⟩ (c_X5_put l dC dI cZ cI cL h0 h0_had h0_there h0_corner h0_second h0_third s.heap.size p1 (mt_min p2 p3) (mt_max p2 p3) p4 v_seed v_size v_parts v_had v_there v_corner v_second v_third q1 hq1) (cwV 4 hts gX5_putStreet_X5_put rfl rfl rfl (by decide +kernel) ⟨Nat.le_of_ble_eq_true rfl, Nat.le_of_ble_eq_true rfl⟩) (mt_vS (q := (RX5, TX5, 8)) 5 hC hP hD rfl rfl) rfl rfl hl.1 rfl (lv_room (Nat.le_of_ble_eq_true rfl)) dX5_putStreet_14 ⟨Nat.le_of_ble_eq_true rfl, Nat.le_of_ble_eq_true rfl⟩) (fun H locs hP hD hS => ?_)
  have hP : va_P (dC, dI) vwCl [(h0, .inr (5, [.ref h0_had, .ref h0_there, .ref h0_corner, .ref h0_second, .ref h0_third, .int v_seed, .int v_size, .int q1.1])), (h0_had, .inl (cZ, 62, .inl q1.2.1)), (h0_there, .inl (cZ, 62, .inl q1.2.2.1)), (h0_corner, .inl (cI, 62, .inl q1.2.2.2.1)), (h0_second, .inl (cI, 62, .inl q1.2.2.2.2.1)), (h0_third, .inl (cI, 62, .inl q1.2.2.2.2.2))] H := hP.sub [0, 1, 2, 3, 4, 5] rfl
  have hD : va_D A [(h0, .inr (5, [.ref h0_had, .ref h0_there, .ref h0_corner, .ref h0_second, .ref h0_third, .int v_seed, .int v_size, .int q1.1])), (h0_had, .inl (cZ, 62, .inl q1.2.1)), (h0_there, .inl (cZ, 62, .inl q1.2.2.1)), (h0_corner, .inl (cI, 62, .inl q1.2.2.2.1)), (h0_second, .inl (cI, 62, .inl q1.2.2.2.2.1)), (h0_third, .inl (cI, 62, .inl q1.2.2.2.2.2))] := hD.sub [0, 1, 2, 3, 4, 5] (by decide) rfl
  obtain rfl := Option.some.inj hm
  exact W.vret hx hb hr (fun t ht hW => ⟨⟨(), rfl, trivial, by rw [ht]; exact hP, hD⟩, hS.F ht⟩) hS.2.2 dX5_putStreet_17
def m_X5_drawStreets_L2 (v_seed : Int32) (v_size : Int32) (K41 : Int32 → Int32 → (Nat → Int32) → (Nat → Int32) → (Nat → Int32) → (Nat → Int32) → (Nat → Int32) → Option (Int32 × (Nat → Int32) × (Nat → Int32) × (Nat → Int32) × (Nat → Int32) × (Nat → Int32))) : Nat → Int32 → Int32 → (Nat → Int32) → (Nat → Int32) → (Nat → Int32) → (Nat → Int32) → (Nat → Int32) → Option (Int32 × (Nat → Int32) × (Nat → Int32) × (Nat → Int32) × (Nat → Int32) × (Nat → Int32))
  | 0, _, _, _, _, _, _, _ => none
  | n2 + 1, x1_2, v_parts_2, v_had_2, v_there_2, v_corner_2, v_second_2, v_third_2 => if v_size < x1_2 then K41 x1_2 v_parts_2 v_had_2 v_there_2 v_corner_2 v_second_2 v_third_2 else (m_X5_drawn (0 : Int32) x1_2 x1_2 v_seed).bind fun q2 => (m_X5_drawn (1 : Int32) x1_2 (99 : Int32) v_seed).bind fun q3 => (m_X5_putStreet (x1_2 - (1 : Int32)) x1_2 q2 ((1 : Int32) + q3) v_parts_2 v_had_2 v_there_2 v_corner_2 v_second_2 v_third_2).bind fun q4 => m_X5_drawStreets_L2 v_seed v_size K41 n2 (x1_2 + (1 : Int32)) q4.1 q4.2.1 q4.2.2.1 q4.2.2.2.1 q4.2.2.2.2.1 q4.2.2.2.2.2
def m_X5_drawStreets (fu : Nat) (v_seed : Int32) (v_size : Int32) (v_parts : Int32) (v_had : Nat → Int32) (v_there : Nat → Int32) (v_corner : Nat → Int32) (v_second : Nat → Int32) (v_third : Nat → Int32) : Option (Int32 × (Nat → Int32) × (Nat → Int32) × (Nat → Int32) × (Nat → Int32) × (Nat → Int32)) := mt_j (fun (x1_41 : Int32) (v_parts_41 : Int32) (v_had_41 : Nat → Int32) (v_there_41 : Nat → Int32) (v_corner_41 : Nat → Int32) (v_second_41 : Nat → Int32) (v_third_41 : Nat → Int32) => some (v_parts_41, v_had_41, v_there_41, v_corner_41, v_second_41, v_third_41)) fun K41 => m_X5_drawStreets_L2 v_seed v_size K41 fu (1 : Int32) v_parts v_had v_there v_corner v_second v_third
set_option maxHeartbeats 4000000 in
set_option maxRecDepth 100000 in
theorem c_X5_drawStreets (l : Launch) (dC : Nat → ClassId) (dI : Nat → Nat → Nat) (cZ cI cL : ClassId) (h0 h0_had h0_there h0_corner h0_second h0_third : Nat) (sz : Nat) (v_seed : Int32) (v_size : Int32) (v_parts : Int32) (v_had : Nat → Int32) (v_there : Nat → Int32) (v_corner : Nat → Int32) (v_second : Nat → Int32) (v_third : Nat → Int32) (fu : Nat) (q : Int32 × (Nat → Int32) × (Nat → Int32) × (Nat → Int32) × (Nat → Int32) × (Nat → Int32)) (hm : m_X5_drawStreets fu v_seed v_size v_parts v_had v_there v_corner v_second v_third = some q) : Met l yX5_drawStreets wsX5_drawStreets ({ frames := 3, cells := 0, slots := 0, locals := 68 }) (va_Pc [.ref h0] (mt_S (dC, dI) cZ cI cL sz [(h0, .inr (5, [.ref h0_had, .ref h0_there, .ref h0_corner, .ref h0_second, .ref h0_third, .int v_seed, .int v_size, .int v_parts])), (h0_had, .inl (cZ, 62, .inl v_had)), (h0_there, .inl (cZ, 62, .inl v_there)), (h0_corner, .inl (cI, 62, .inl v_corner)), (h0_second, .inl (cI, 62, .inl v_second)), (h0_third, .inl (cI, 62, .inl v_third))])) (va_Qv (fun (_ : Unit) => True) (fun _ t => va_P (dC, dI) vwCl [(h0, .inr (5, [.ref h0_had, .ref h0_there, .ref h0_corner, .ref h0_second, .ref h0_third, .int v_seed, .int v_size, .int q.1])), (h0_had, .inl (cZ, 62, .inl q.2.1)), (h0_there, .inl (cZ, 62, .inl q.2.2.1)), (h0_corner, .inl (cI, 62, .inl q.2.2.2.1)), (h0_second, .inl (cI, 62, .inl q.2.2.2.2.1)), (h0_third, .inl (cI, 62, .inl q.2.2.2.2.2))] t.heap ∧ va_D (va_A [(h0, .inr (5, [.ref h0_had, .ref h0_there, .ref h0_corner, .ref h0_second, .ref h0_third, .int v_seed, .int v_size, .int v_parts])), (h0_had, .inl (cZ, 62, .inl v_had)), (h0_there, .inl (cZ, 62, .inl v_there)), (h0_corner, .inl (cI, 62, .inl v_corner)), (h0_second, .inl (cI, 62, .inl v_second)), (h0_third, .inl (cI, 62, .inl v_third))] sz) [(h0, .inr (5, [.ref h0_had, .ref h0_there, .ref h0_corner, .ref h0_second, .ref h0_third, .int v_seed, .int v_size, .int q.1])), (h0_had, .inl (cZ, 62, .inl q.2.1)), (h0_there, .inl (cZ, 62, .inl q.2.2.1)), (h0_corner, .inl (cI, 62, .inl q.2.2.2.1)), (h0_second, .inl (cI, 62, .inl q.2.2.2.2.1)), (h0_third, .inl (cI, 62, .inl q.2.2.2.2.2))]) (va_A [(h0, .inr (5, [.ref h0_had, .ref h0_there, .ref h0_corner, .ref h0_second, .ref h0_third, .int v_seed, .int v_size, .int v_parts])), (h0_had, .inl (cZ, 62, .inl v_had)), (h0_there, .inl (cZ, 62, .inl v_there)), (h0_corner, .inl (cI, 62, .inl v_corner)), (h0_second, .inl (cI, 62, .inl v_second)), (h0_third, .inl (cI, 62, .inl v_third))] sz)) 0 0 (va_A [(h0, .inr (5, [.ref h0_had, .ref h0_there, .ref h0_corner, .ref h0_second, .ref h0_third, .int v_seed, .int v_size, .int v_parts])), (h0_had, .inl (cZ, 62, .inl v_had)), (h0_there, .inl (cZ, 62, .inl v_there)), (h0_corner, .inl (cI, 62, .inl v_corner)), (h0_second, .inl (cI, 62, .inl v_second)), (h0_third, .inl (cI, 62, .inl v_third))] sz) := by
  refine Met.ofW (cc := cX5_drawStreets) (maxL := 2) (ret := none) (by decide) rfl ?_
  intro p e s m args below meth c s₁ B hml hv
  obtain ⟨rfl, hsz, hP, hC, hD0⟩ := hv
  have hx := B.exec
  have hb := B.bytes
  have hr := B.returns
  have hts := atoms_spec (ws := wsX5_drawStreets) B.pre
  have hown : s.vm.findClass RX5 = some m.cls := findClass_of_methodNamed B.named
  have hlocks := B.notSynchronized
  have hK := hC.1
  have hiX5 : ∀ w ∈ wsX50, w ∈ wsX5_drawStreets := by decide +kernel
  subst hsz
  have hD := hD0.self (sz := s.heap.size)
  generalize hAe : va_A [(h0, .inr (5, [.ref h0_had, .ref h0_there, .ref h0_corner, .ref h0_second, .ref h0_third, .int v_seed, .int v_size, .int v_parts])), (h0_had, .inl (cZ, 62, .inl v_had)), (h0_there, .inl (cZ, 62, .inl v_there)), (h0_corner, .inl (cI, 62, .inl v_corner)), (h0_second, .inl (cI, 62, .inl v_second)), (h0_third, .inl (cI, 62, .inl v_third))] s.heap.size = A at hD ⊢
  have hA : ∀ q : Nat, s.heap.size ≤ q → A q := fun q h => by rw [← hAe]; exact Or.inr h
  have hS : va_S A s.heap s.heap [] := va_S.rf
  have hl := lv_entry [.ref h0] (n := 2) (Nat.le_of_ble_eq_true rfl)
  rw [lg_entry_eq]
  generalize (lg_sl [.ref h0] ++ List.replicate (2 - (lg_sl [.ref h0]).length) Slot.unset).toArray = ls at hl ⊢
  have hl : lv_has ls 2 [(0, .ref h0)] := hl
  rw [m_X5_drawStreets] at hm
  refine lv_iconst (v := (1 : Int32)) hx hb dX5_drawStreets_0 (by decide) ?_
  refine lv_istore_n (lv' := [(1, .int (1 : Int32)), (0, .ref h0)]) hx hb dX5_drawStreets_1 rfl hl (by decide) rfl (fun ls hl => ?_)
  obtain ⟨K41, hK41, hm⟩ := mt_jx hm
  have J41 : ∀ (x1_41 : Int32) (v_parts_41 : Int32) (v_had_41 : Nat → Int32) (v_there_41 : Nat → Int32) (v_corner_41 : Nat → Int32) (v_second_41 : Nat → Int32) (v_third_41 : Nat → Int32), ∀ (H : Heap) (locs : List Loc) (ls : Array Slot), K41 x1_41 v_parts_41 v_had_41 v_there_41 v_corner_41 v_second_41 v_third_41 = some q → va_P (dC, dI) vwCl [(h0, .inr (5, [.ref h0_had, .ref h0_there, .ref h0_corner, .ref h0_second, .ref h0_third, .int v_seed, .int v_size, .int v_parts_41])), (h0_had, .inl (cZ, 62, .inl v_had_41)), (h0_there, .inl (cZ, 62, .inl v_there_41)), (h0_corner, .inl (cI, 62, .inl v_corner_41)), (h0_second, .inl (cI, 62, .inl v_second_41)), (h0_third, .inl (cI, 62, .inl v_third_41))] H → va_D A [(h0, .inr (5, [.ref h0_had, .ref h0_there, .ref h0_corner, .ref h0_second, .ref h0_third, .int v_seed, .int v_size, .int v_parts_41])), (h0_had, .inl (cZ, 62, .inl v_had_41)), (h0_there, .inl (cZ, 62, .inl v_there_41)), (h0_corner, .inl (cI, 62, .inl v_corner_41)), (h0_second, .inl (cI, 62, .inl v_second_41)), (h0_third, .inl (cI, 62, .inl v_third_41))] → va_S A s.heap H locs → lv_has ls 2 [(0, .ref h0), (1, .int x1_41)] → W p l e (headSpec wsX5_drawStreets ({ frames := 3, cells := 0, slots := 0, locals := 68 })).room s m [.ref h0].toArray below meth c H locs 0 0 (MQ below (va_Qv (fun (_ : Unit) => True) (fun _ t => va_P (dC, dI) vwCl [(h0, .inr (5, [.ref h0_had, .ref h0_there, .ref h0_corner, .ref h0_second, .ref h0_third, .int v_seed, .int v_size, .int q.1])), (h0_had, .inl (cZ, 62, .inl q.2.1)), (h0_there, .inl (cZ, 62, .inl q.2.2.1)), (h0_corner, .inl (cI, 62, .inl q.2.2.2.1)), (h0_second, .inl (cI, 62, .inl q.2.2.2.2.1)), (h0_third, .inl (cI, 62, .inl q.2.2.2.2.2))] t.heap ∧ va_D A [(h0, .inr (5, [.ref h0_had, .ref h0_there, .ref h0_corner, .ref h0_second, .ref h0_third, .int v_seed, .int v_size, .int q.1])), (h0_had, .inl (cZ, 62, .inl q.2.1)), (h0_there, .inl (cZ, 62, .inl q.2.2.1)), (h0_corner, .inl (cI, 62, .inl q.2.2.2.1)), (h0_second, .inl (cI, 62, .inl q.2.2.2.2.1)), (h0_third, .inl (cI, 62, .inl q.2.2.2.2.2))]) A) [.ref h0].toArray s 0 0 A) (F0 m 41 ls []) := by
    intro x1_41 v_parts_41 v_had_41 v_there_41 v_corner_41 v_second_41 v_third_41 H locs ls hm hP hD hS hl
    replace hm := mt_app7 hK41 hm
    obtain rfl := Option.some.inj hm
    exact W.vret hx hb hr (fun t ht hW => ⟨⟨(), rfl, trivial, by rw [ht]; exact hP, hD⟩, hS.F ht⟩) hS.2.2 dX5_drawStreets_41
  have L2 : ∀ n2 : Nat, ∀ (x1_2 : Int32) (v_parts_2 : Int32) (v_had_2 : Nat → Int32) (v_there_2 : Nat → Int32) (v_corner_2 : Nat → Int32) (v_second_2 : Nat → Int32) (v_third_2 : Nat → Int32), ∀ (H : Heap) (locs : List Loc) (ls : Array Slot), m_X5_drawStreets_L2 v_seed v_size K41 n2 x1_2 v_parts_2 v_had_2 v_there_2 v_corner_2 v_second_2 v_third_2 = some q → va_P (dC, dI) vwCl [(h0, .inr (5, [.ref h0_had, .ref h0_there, .ref h0_corner, .ref h0_second, .ref h0_third, .int v_seed, .int v_size, .int v_parts_2])), (h0_had, .inl (cZ, 62, .inl v_had_2)), (h0_there, .inl (cZ, 62, .inl v_there_2)), (h0_corner, .inl (cI, 62, .inl v_corner_2)), (h0_second, .inl (cI, 62, .inl v_second_2)), (h0_third, .inl (cI, 62, .inl v_third_2))] H → va_D A [(h0, .inr (5, [.ref h0_had, .ref h0_there, .ref h0_corner, .ref h0_second, .ref h0_third, .int v_seed, .int v_size, .int v_parts_2])), (h0_had, .inl (cZ, 62, .inl v_had_2)), (h0_there, .inl (cZ, 62, .inl v_there_2)), (h0_corner, .inl (cI, 62, .inl v_corner_2)), (h0_second, .inl (cI, 62, .inl v_second_2)), (h0_third, .inl (cI, 62, .inl v_third_2))] → va_S A s.heap H locs → lv_has ls 2 [(0, .ref h0), (1, .int x1_2)] → W p l e (headSpec wsX5_drawStreets ({ frames := 3, cells := 0, slots := 0, locals := 68 })).room s m [.ref h0].toArray below meth c H locs 0 0 (MQ below (va_Qv (fun (_ : Unit) => True) (fun _ t => va_P (dC, dI) vwCl [(h0, .inr (5, [.ref h0_had, .ref h0_there, .ref h0_corner, .ref h0_second, .ref h0_third, .int v_seed, .int v_size, .int q.1])), (h0_had, .inl (cZ, 62, .inl q.2.1)), (h0_there, .inl (cZ, 62, .inl q.2.2.1)), (h0_corner, .inl (cI, 62, .inl q.2.2.2.1)), (h0_second, .inl (cI, 62, .inl q.2.2.2.2.1)), (h0_third, .inl (cI, 62, .inl q.2.2.2.2.2))] t.heap ∧ va_D A [(h0, .inr (5, [.ref h0_had, .ref h0_there, .ref h0_corner, .ref h0_second, .ref h0_third, .int v_seed, .int v_size, .int q.1])), (h0_had, .inl (cZ, 62, .inl q.2.1)), (h0_there, .inl (cZ, 62, .inl q.2.2.1)), (h0_corner, .inl (cI, 62, .inl q.2.2.2.1)), (h0_second, .inl (cI, 62, .inl q.2.2.2.2.1)), (h0_third, .inl (cI, 62, .inl q.2.2.2.2.2))]) A) [.ref h0].toArray s 0 0 A) (F0 m 2 ls []) := by
    intro n2
    induction n2 with
    | zero =>
      intro x1_2 v_parts_2 v_had_2 v_there_2 v_corner_2 v_second_2 v_third_2 H locs ls hm hP hD hS hl
      exact absurd hm (fun h => nomatch h)
    | succ n2 ih2 =>
      intro x1_2 v_parts_2 v_had_2 v_there_2 v_corner_2 v_second_2 v_third_2 H locs ls hm hP hD hS hl
      rw [m_X5_drawStreets_L2] at hm
      refine lv_iload_n hx hb dX5_drawStreets_2 rfl (lv_at hl 1 rfl) ?_
      refine lv_aload_n hx hb dX5_drawStreets_3 rfl (lv_at hl 0 rfl) ?_
      refine va_get (D := (dC, dI)) (ci := 5) (v := .int v_size) (C := RX5) (T := TX5) (N := 8) hx hb hts hiX5 hown hK hP 0 rfl rfl 6 (by decide) (hts (.fieldLink RX5 32 "ServiceDrawer$Town" "size" "I") (by decide +kernel)) (fun _ h9 => h9) rfl dX5_drawStreets_4 ?_
      refine lv_icmp_gt (tgt := 41) hx hb dX5_drawStreets_7 (by decide) (fun c1 => ?_) (fun c1 => ?_)
      · replace hm := mt_pos c1 hm
        exact J41 x1_2 v_parts_2 v_had_2 v_there_2 v_corner_2 v_second_2 v_third_2 _ _ _ hm hP hD hS (lv_sub hl [0, 1] rfl)
      · replace hm := mt_neg c1 hm
        refine lv_aload_n hx hb dX5_drawStreets_10 rfl (lv_at hl 0 rfl) ?_
        refine lv_iload_n hx hb dX5_drawStreets_11 rfl (lv_at hl 1 rfl) ?_
        refine lv_iconst (v := (1 : Int32)) hx hb dX5_drawStreets_12 (by decide) ?_
        refine lv_isub hx hb dX5_drawStreets_13 ?_
        refine lv_iload_n hx hb dX5_drawStreets_14 rfl (lv_at hl 1 rfl) ?_
        refine lv_aload_n hx hb dX5_drawStreets_15 rfl (lv_at hl 0 rfl) ?_
        refine lv_iconst (v := (0 : Int32)) hx hb dX5_drawStreets_16 (by decide) ?_
        refine lv_iload_n hx hb dX5_drawStreets_17 rfl (lv_at hl 1 rfl) ?_
        refine lv_iload_n hx hb dX5_drawStreets_18 rfl (lv_at hl 1 rfl) ?_
        obtain ⟨q2, hq2, hm⟩ := mt_bind hm
        refine vp_callSi (va_Run.run (va_runV (As := [.int (0 : Int32), .int x1_2, .int x1_2]) (rest := [.int x1_2, .int (x1_2 - (1 : Int32)), .ref h0]) ⟨hx, hb, hml, hown, hts⟩ (c_X5_drawn l dC dI cZ cI cL h0 h0_had h0_there h0_corner h0_second h0_third (0 : Int32) x1_2 x1_2 v_seed v_size v_parts_2 v_had_2 v_there_2 v_corner_2 v_second_2 v_third_2 q2 hq2) (cwV 3 hts gX5_drawStreets_X5_drawn rfl rfl rfl (by decide +kernel) ⟨Nat.le_of_ble_eq_true rfl, Nat.le_of_ble_eq_true rfl⟩) (mt_vR (q := (RX5, TX5, 8)) 5 hC (hP.sub (ws' := [(h0, .inr (5, [.ref h0_had, .ref h0_there, .ref h0_corner, .ref h0_second, .ref h0_third, .int v_seed, .int v_size, .int v_parts_2])), (h0_had, .inl (cZ, 62, .inl v_had_2)), (h0_there, .inl (cZ, 62, .inl v_there_2)), (h0_corner, .inl (cI, 62, .inl v_corner_2)), (h0_second, .inl (cI, 62, .inl v_second_2)), (h0_third, .inl (cI, 62, .inl v_third_2))]) [0, 1, 2, 3, 4, 5] rfl) rfl rfl) rfl rfl hl.1 rfl (lv_room (Nat.le_of_ble_eq_true rfl)) dX5_drawStreets_19 ⟨Nat.le_of_ble_eq_true rfl, Nat.le_of_ble_eq_true rfl⟩)) (fun r er => ?_)
        replace er := er.symm
        subst er
        refine lv_iconst (v := (1 : Int32)) hx hb dX5_drawStreets_22 (by decide) ?_
        refine lv_aload_n hx hb dX5_drawStreets_23 rfl (lv_at hl 0 rfl) ?_
        refine lv_iconst (v := (1 : Int32)) hx hb dX5_drawStreets_24 (by decide) ?_
        refine lv_iload_n hx hb dX5_drawStreets_25 rfl (lv_at hl 1 rfl) ?_
        refine lv_bipush (v := (99 : Int32)) hx hb dX5_drawStreets_26 (by decide) ?_
        obtain ⟨q3, hq3, hm⟩ := mt_bind hm
        refine vp_callSi (va_Run.run (va_runV (As := [.int (1 : Int32), .int x1_2, .int (99 : Int32)]) (rest := [.int (1 : Int32), .int q2, .int x1_2, .int (x1_2 - (1 : Int32)), .ref h0]) ⟨hx, hb, hml, hown, hts⟩ (c_X5_drawn l dC dI cZ cI cL h0 h0_had h0_there h0_corner h0_second h0_third (1 : Int32) x1_2 (99 : Int32) v_seed v_size v_parts_2 v_had_2 v_there_2 v_corner_2 v_second_2 v_third_2 q3 hq3) (cwV 3 hts gX5_drawStreets_X5_drawn rfl rfl rfl (by decide +kernel) ⟨Nat.le_of_ble_eq_true rfl, Nat.le_of_ble_eq_true rfl⟩) (mt_vR (q := (RX5, TX5, 8)) 5 hC (hP.sub (ws' := [(h0, .inr (5, [.ref h0_had, .ref h0_there, .ref h0_corner, .ref h0_second, .ref h0_third, .int v_seed, .int v_size, .int v_parts_2])), (h0_had, .inl (cZ, 62, .inl v_had_2)), (h0_there, .inl (cZ, 62, .inl v_there_2)), (h0_corner, .inl (cI, 62, .inl v_corner_2)), (h0_second, .inl (cI, 62, .inl v_second_2)), (h0_third, .inl (cI, 62, .inl v_third_2))]) [0, 1, 2, 3, 4, 5] rfl) rfl rfl) rfl rfl hl.1 rfl (lv_room (Nat.le_of_ble_eq_true rfl)) dX5_drawStreets_28 ⟨Nat.le_of_ble_eq_true rfl, Nat.le_of_ble_eq_true rfl⟩)) (fun r er => ?_)
        replace er := er.symm
        subst er
        refine lv_iadd hx hb dX5_drawStreets_31 ?_
        obtain ⟨q4, hq4, hm⟩ := mt_bind hm
        refine mt_callv (wr := []) hP hD hS hA [0, 1, 2, 3, 4, 5] [] rfl rfl (by decide) (by decide) (va_runV (As := [.int (x1_2 - (1 : Int32)), .int x1_2, .int q2, .int ((1 : Int32) + q3)]) (rest := []) ⟨hx, hb, hml, hown, hts⟩ (c_X5_putStreet l dC dI cZ cI cL h0 h0_had h0_there h0_corner h0_second h0_third H.size (x1_2 - (1 : Int32)) x1_2 q2 ((1 : Int32) + q3) v_seed v_size v_parts_2 v_had_2 v_there_2 v_corner_2 v_second_2 v_third_2 q4 hq4) (cwV 4 hts gX5_drawStreets_X5_putStreet rfl rfl rfl (by decide +kernel) ⟨Nat.le_of_ble_eq_true rfl, Nat.le_of_ble_eq_true rfl⟩) (mt_vS (q := (RX5, TX5, 8)) 5 hC hP hD rfl rfl) rfl rfl hl.1 rfl (lv_room (Nat.le_of_ble_eq_true rfl)) dX5_drawStreets_32 ⟨Nat.le_of_ble_eq_true rfl, Nat.le_of_ble_eq_true rfl⟩) (fun H locs hP hD hS => ?_)
        have hP : va_P (dC, dI) vwCl [(h0, .inr (5, [.ref h0_had, .ref h0_there, .ref h0_corner, .ref h0_second, .ref h0_third, .int v_seed, .int v_size, .int q4.1])), (h0_had, .inl (cZ, 62, .inl q4.2.1)), (h0_there, .inl (cZ, 62, .inl q4.2.2.1)), (h0_corner, .inl (cI, 62, .inl q4.2.2.2.1)), (h0_second, .inl (cI, 62, .inl q4.2.2.2.2.1)), (h0_third, .inl (cI, 62, .inl q4.2.2.2.2.2))] H := hP.sub [0, 1, 2, 3, 4, 5] rfl
        have hD : va_D A [(h0, .inr (5, [.ref h0_had, .ref h0_there, .ref h0_corner, .ref h0_second, .ref h0_third, .int v_seed, .int v_size, .int q4.1])), (h0_had, .inl (cZ, 62, .inl q4.2.1)), (h0_there, .inl (cZ, 62, .inl q4.2.2.1)), (h0_corner, .inl (cI, 62, .inl q4.2.2.2.1)), (h0_second, .inl (cI, 62, .inl q4.2.2.2.2.1)), (h0_third, .inl (cI, 62, .inl q4.2.2.2.2.2))] := hD.sub [0, 1, 2, 3, 4, 5] (by decide) rfl
        refine lv_iinc (v := (x1_2 + (1 : Int32))) (lv' := [(1, .int (x1_2 + (1 : Int32))), (0, .ref h0)]) hx hb dX5_drawStreets_35 hl (k := 1) rfl rfl (by decide) rfl (fun ls hl => ?_)
        refine lv_goto (tgt := 2) hx hb dX5_drawStreets_38 (by decide) ?_
        exact ih2 (x1_2 + (1 : Int32)) q4.1 q4.2.1 q4.2.2.1 q4.2.2.2.1 q4.2.2.2.2.1 q4.2.2.2.2.2 _ _ _ hm hP hD hS (lv_sub hl [1, 0] rfl)
  exact L2 fu (1 : Int32) v_parts v_had v_there v_corner v_second v_third _ _ _ hm hP hD hS (lv_sub hl [1, 0] rfl)
def m_X5_corners (v_size : Int32) : Option (Int32) := some ((1 : Int32) + v_size)
set_option maxHeartbeats 4000000 in
set_option maxRecDepth 100000 in
theorem c_X5_corners (l : Launch) (dC : Nat → ClassId) (dI : Nat → Nat → Nat) (cZ cI cL : ClassId) (h0 h0_had h0_there h0_corner h0_second h0_third : Nat) (v_seed : Int32) (v_size : Int32) (v_parts : Int32) (v_had : Nat → Int32) (v_there : Nat → Int32) (v_corner : Nat → Int32) (v_second : Nat → Int32) (v_third : Nat → Int32) (q : Int32) (hm : m_X5_corners v_size = some q) : Met l yX5_corners wsX5_corners ({ frames := 0, cells := 0, slots := 0, locals := 0 }) (va_Pc [.ref h0] (mt_R (dC, dI) cZ cI cL [(h0, .inr (5, [.ref h0_had, .ref h0_there, .ref h0_corner, .ref h0_second, .ref h0_third, .int v_seed, .int v_size, .int v_parts])), (h0_had, .inl (cZ, 62, .inl v_had)), (h0_there, .inl (cZ, 62, .inl v_there)), (h0_corner, .inl (cI, 62, .inl v_corner)), (h0_second, .inl (cI, 62, .inl v_second)), (h0_third, .inl (cI, 62, .inl v_third))])) (vp_Si (fun r => r = q)) 0 0 (fun _ => False) := by
  refine Met.ofW (cc := cX5_corners) (maxL := 1) (ret := (some .int)) (by decide) rfl ?_
  intro p e s m args below meth c s₁ B hml hv
  obtain ⟨rfl, hP, hC⟩ := hv
  have hx := B.exec
  have hb := B.bytes
  have hr := B.returns
  have hts := atoms_spec (ws := wsX5_corners) B.pre
  have hown : s.vm.findClass RX5 = some m.cls := findClass_of_methodNamed B.named
  have hlocks := B.notSynchronized
  have hK := hC.1
  have hiX5 : ∀ w ∈ wsX50, w ∈ wsX5_corners := by decide +kernel
  have hl := lv_entry [.ref h0] (n := 1) (Nat.le_of_ble_eq_true rfl)
  rw [lg_entry_eq]
  generalize (lg_sl [.ref h0] ++ List.replicate (1 - (lg_sl [.ref h0]).length) Slot.unset).toArray = ls at hl ⊢
  have hl : lv_has ls 1 [(0, .ref h0)] := hl
  rw [m_X5_corners] at hm
  refine lv_iconst (v := (1 : Int32)) hx hb dX5_corners_0 (by decide) ?_
  refine lv_aload_n hx hb dX5_corners_1 rfl (lv_at hl 0 rfl) ?_
  refine va_get (D := (dC, dI)) (ci := 5) (v := .int v_size) (C := RX5) (T := TX5) (N := 8) hx hb hts hiX5 hown hK hP 0 rfl rfl 6 (by decide) (hts (.fieldLink RX5 32 "ServiceDrawer$Town" "size" "I") (by decide +kernel)) (fun _ h9 => h9) rfl dX5_corners_2 ?_
  refine lv_iadd hx hb dX5_corners_5 ?_
  obtain rfl := Option.some.inj hm
  exact W.iret hx hb hr (fun t ht hW => ⟨_, rfl, rfl, ht⟩) t_nil dX5_corners_6
def m_X5_drawFurtherStreets_L2 (v_seed : Int32) (v_size : Int32) (K68 : Int32 → Int32 → (Nat → Int32) → (Nat → Int32) → (Nat → Int32) → (Nat → Int32) → (Nat → Int32) → Option (Int32 × (Nat → Int32) × (Nat → Int32) × (Nat → Int32) × (Nat → Int32) × (Nat → Int32))) : Nat → Int32 → Int32 → (Nat → Int32) → (Nat → Int32) → (Nat → Int32) → (Nat → Int32) → (Nat → Int32) → Option (Int32 × (Nat → Int32) × (Nat → Int32) × (Nat → Int32) × (Nat → Int32) × (Nat → Int32))
  | 0, _, _, _, _, _, _, _ => none
  | n2 + 1, x1_2, v_parts_2, v_had_2, v_there_2, v_corner_2, v_second_2, v_third_2 => if (v_size / (2 : Int32)) ≤ x1_2 then K68 x1_2 v_parts_2 v_had_2 v_there_2 v_corner_2 v_second_2 v_third_2 else (m_X5_corners v_size).bind fun q2 => (m_X5_drawn (2 : Int32) x1_2 q2 v_seed).bind fun q3 => (m_X5_corners v_size).bind fun q4 => (m_X5_drawn (3 : Int32) x1_2 q4 v_seed).bind fun q5 => if q3 = q5 then m_X5_drawFurtherStreets_L2 v_seed v_size K68 n2 (x1_2 + (1 : Int32)) v_parts_2 v_had_2 v_there_2 v_corner_2 v_second_2 v_third_2 else (m_X5_drawn (1 : Int32) ((100 : Int32) + x1_2) (99 : Int32) v_seed).bind fun q7 => (m_X5_putStreet ((20 : Int32) + x1_2) q3 q5 ((1 : Int32) + q7) v_parts_2 v_had_2 v_there_2 v_corner_2 v_second_2 v_third_2).bind fun q8 => m_X5_drawFurtherStreets_L2 v_seed v_size K68 n2 (x1_2 + (1 : Int32)) q8.1 q8.2.1 q8.2.2.1 q8.2.2.2.1 q8.2.2.2.2.1 q8.2.2.2.2.2
def m_X5_drawFurtherStreets (fu : Nat) (v_seed : Int32) (v_size : Int32) (v_parts : Int32) (v_had : Nat → Int32) (v_there : Nat → Int32) (v_corner : Nat → Int32) (v_second : Nat → Int32) (v_third : Nat → Int32) : Option (Int32 × (Nat → Int32) × (Nat → Int32) × (Nat → Int32) × (Nat → Int32) × (Nat → Int32)) := mt_j (fun (x1_68 : Int32) (v_parts_68 : Int32) (v_had_68 : Nat → Int32) (v_there_68 : Nat → Int32) (v_corner_68 : Nat → Int32) (v_second_68 : Nat → Int32) (v_third_68 : Nat → Int32) => some (v_parts_68, v_had_68, v_there_68, v_corner_68, v_second_68, v_third_68)) fun K68 => m_X5_drawFurtherStreets_L2 v_seed v_size K68 fu (0 : Int32) v_parts v_had v_there v_corner v_second v_third
set_option maxHeartbeats 4000000 in
set_option maxRecDepth 100000 in
theorem c_X5_drawFurtherStreets (l : Launch) (dC : Nat → ClassId) (dI : Nat → Nat → Nat) (cZ cI cL : ClassId) (h0 h0_had h0_there h0_corner h0_second h0_third : Nat) (sz : Nat) (v_seed : Int32) (v_size : Int32) (v_parts : Int32) (v_had : Nat → Int32) (v_there : Nat → Int32) (v_corner : Nat → Int32) (v_second : Nat → Int32) (v_third : Nat → Int32) (fu : Nat) (q : Int32 × (Nat → Int32) × (Nat → Int32) × (Nat → Int32) × (Nat → Int32) × (Nat → Int32)) (hm : m_X5_drawFurtherStreets fu v_seed v_size v_parts v_had v_there v_corner v_second v_third = some q) : Met l yX5_drawFurtherStreets wsX5_drawFurtherStreets ({ frames := 3, cells := 0, slots := 0, locals := 68 }) (va_Pc [.ref h0] (mt_S (dC, dI) cZ cI cL sz [(h0, .inr (5, [.ref h0_had, .ref h0_there, .ref h0_corner, .ref h0_second, .ref h0_third, .int v_seed, .int v_size, .int v_parts])), (h0_had, .inl (cZ, 62, .inl v_had)), (h0_there, .inl (cZ, 62, .inl v_there)), (h0_corner, .inl (cI, 62, .inl v_corner)), (h0_second, .inl (cI, 62, .inl v_second)), (h0_third, .inl (cI, 62, .inl v_third))])) (va_Qv (fun (_ : Unit) => True) (fun _ t => va_P (dC, dI) vwCl [(h0, .inr (5, [.ref h0_had, .ref h0_there, .ref h0_corner, .ref h0_second, .ref h0_third, .int v_seed, .int v_size, .int q.1])), (h0_had, .inl (cZ, 62, .inl q.2.1)), (h0_there, .inl (cZ, 62, .inl q.2.2.1)), (h0_corner, .inl (cI, 62, .inl q.2.2.2.1)), (h0_second, .inl (cI, 62, .inl q.2.2.2.2.1)), (h0_third, .inl (cI, 62, .inl q.2.2.2.2.2))] t.heap ∧ va_D (va_A [(h0, .inr (5, [.ref h0_had, .ref h0_there, .ref h0_corner, .ref h0_second, .ref h0_third, .int v_seed, .int v_size, .int v_parts])), (h0_had, .inl (cZ, 62, .inl v_had)), (h0_there, .inl (cZ, 62, .inl v_there)), (h0_corner, .inl (cI, 62, .inl v_corner)), (h0_second, .inl (cI, 62, .inl v_second)), (h0_third, .inl (cI, 62, .inl v_third))] sz) [(h0, .inr (5, [.ref h0_had, .ref h0_there, .ref h0_corner, .ref h0_second, .ref h0_third, .int v_seed, .int v_size, .int q.1])), (h0_had, .inl (cZ, 62, .inl q.2.1)), (h0_there, .inl (cZ, 62, .inl q.2.2.1)), (h0_corner, .inl (cI, 62, .inl q.2.2.2.1)), (h0_second, .inl (cI, 62, .inl q.2.2.2.2.1)), (h0_third, .inl (cI, 62, .inl q.2.2.2.2.2))]) (va_A [(h0, .inr (5, [.ref h0_had, .ref h0_there, .ref h0_corner, .ref h0_second, .ref h0_third, .int v_seed, .int v_size, .int v_parts])), (h0_had, .inl (cZ, 62, .inl v_had)), (h0_there, .inl (cZ, 62, .inl v_there)), (h0_corner, .inl (cI, 62, .inl v_corner)), (h0_second, .inl (cI, 62, .inl v_second)), (h0_third, .inl (cI, 62, .inl v_third))] sz)) 0 0 (va_A [(h0, .inr (5, [.ref h0_had, .ref h0_there, .ref h0_corner, .ref h0_second, .ref h0_third, .int v_seed, .int v_size, .int v_parts])), (h0_had, .inl (cZ, 62, .inl v_had)), (h0_there, .inl (cZ, 62, .inl v_there)), (h0_corner, .inl (cI, 62, .inl v_corner)), (h0_second, .inl (cI, 62, .inl v_second)), (h0_third, .inl (cI, 62, .inl v_third))] sz) := by
  refine Met.ofW (cc := cX5_drawFurtherStreets) (maxL := 4) (ret := none) (by decide) rfl ?_
  intro p e s m args below meth c s₁ B hml hv
  obtain ⟨rfl, hsz, hP, hC, hD0⟩ := hv
  have hx := B.exec
  have hb := B.bytes
  have hr := B.returns
  have hts := atoms_spec (ws := wsX5_drawFurtherStreets) B.pre
  have hown : s.vm.findClass RX5 = some m.cls := findClass_of_methodNamed B.named
  have hlocks := B.notSynchronized
  have hK := hC.1
  have hiX5 : ∀ w ∈ wsX50, w ∈ wsX5_drawFurtherStreets := by decide +kernel
  subst hsz
  have hD := hD0.self (sz := s.heap.size)
  generalize hAe : va_A [(h0, .inr (5, [.ref h0_had, .ref h0_there, .ref h0_corner, .ref h0_second, .ref h0_third, .int v_seed, .int v_size, .int v_parts])), (h0_had, .inl (cZ, 62, .inl v_had)), (h0_there, .inl (cZ, 62, .inl v_there)), (h0_corner, .inl (cI, 62, .inl v_corner)), (h0_second, .inl (cI, 62, .inl v_second)), (h0_third, .inl (cI, 62, .inl v_third))] s.heap.size = A at hD ⊢
  have hA : ∀ q : Nat, s.heap.size ≤ q → A q := fun q h => by rw [← hAe]; exact Or.inr h
  have hS : va_S A s.heap s.heap [] := va_S.rf
  have hl := lv_entry [.ref h0] (n := 4) (Nat.le_of_ble_eq_true rfl)
  rw [lg_entry_eq]
  generalize (lg_sl [.ref h0] ++ List.replicate (4 - (lg_sl [.ref h0]).length) Slot.unset).toArray = ls at hl ⊢
  have hl : lv_has ls 4 [(0, .ref h0)] := hl
  rw [m_X5_drawFurtherStreets] at hm
  refine lv_iconst (v := (0 : Int32)) hx hb dX5_drawFurtherStreets_0 (by decide) ?_
  refine lv_istore_n (lv' := [(1, .int (0 : Int32)), (0, .ref h0)]) hx hb dX5_drawFurtherStreets_1 rfl hl (by decide) rfl (fun ls hl => ?_)
  obtain ⟨K68, hK68, hm⟩ := mt_jx hm
  have J68 : ∀ (x1_68 : Int32) (v_parts_68 : Int32) (v_had_68 : Nat → Int32) (v_there_68 : Nat → Int32) (v_corner_68 : Nat → Int32) (v_second_68 : Nat → Int32) (v_third_68 : Nat → Int32), ∀ (H : Heap) (locs : List Loc) (ls : Array Slot), K68 x1_68 v_parts_68 v_had_68 v_there_68 v_corner_68 v_second_68 v_third_68 = some q → va_P (dC, dI) vwCl [(h0, .inr (5, [.ref h0_had, .ref h0_there, .ref h0_corner, .ref h0_second, .ref h0_third, .int v_seed, .int v_size, .int v_parts_68])), (h0_had, .inl (cZ, 62, .inl v_had_68)), (h0_there, .inl (cZ, 62, .inl v_there_68)), (h0_corner, .inl (cI, 62, .inl v_corner_68)), (h0_second, .inl (cI, 62, .inl v_second_68)), (h0_third, .inl (cI, 62, .inl v_third_68))] H → va_D A [(h0, .inr (5, [.ref h0_had, .ref h0_there, .ref h0_corner, .ref h0_second, .ref h0_third, .int v_seed, .int v_size, .int v_parts_68])), (h0_had, .inl (cZ, 62, .inl v_had_68)), (h0_there, .inl (cZ, 62, .inl v_there_68)), (h0_corner, .inl (cI, 62, .inl v_corner_68)), (h0_second, .inl (cI, 62, .inl v_second_68)), (h0_third, .inl (cI, 62, .inl v_third_68))] → va_S A s.heap H locs → lv_has ls 4 [(0, .ref h0), (1, .int x1_68)] → W p l e (headSpec wsX5_drawFurtherStreets ({ frames := 3, cells := 0, slots := 0, locals := 68 })).room s m [.ref h0].toArray below meth c H locs 0 0 (MQ below (va_Qv (fun (_ : Unit) => True) (fun _ t => va_P (dC, dI) vwCl [(h0, .inr (5, [.ref h0_had, .ref h0_there, .ref h0_corner, .ref h0_second, .ref h0_third, .int v_seed, .int v_size, .int q.1])), (h0_had, .inl (cZ, 62, .inl q.2.1)), (h0_there, .inl (cZ, 62, .inl q.2.2.1)), (h0_corner, .inl (cI, 62, .inl q.2.2.2.1)), (h0_second, .inl (cI, 62, .inl q.2.2.2.2.1)), (h0_third, .inl (cI, 62, .inl q.2.2.2.2.2))] t.heap ∧ va_D A [(h0, .inr (5, [.ref h0_had, .ref h0_there, .ref h0_corner, .ref h0_second, .ref h0_third, .int v_seed, .int v_size, .int q.1])), (h0_had, .inl (cZ, 62, .inl q.2.1)), (h0_there, .inl (cZ, 62, .inl q.2.2.1)), (h0_corner, .inl (cI, 62, .inl q.2.2.2.1)), (h0_second, .inl (cI, 62, .inl q.2.2.2.2.1)), (h0_third, .inl (cI, 62, .inl q.2.2.2.2.2))]) A) [.ref h0].toArray s 0 0 A) (F0 m 68 ls []) := by
    intro x1_68 v_parts_68 v_had_68 v_there_68 v_corner_68 v_second_68 v_third_68 H locs ls hm hP hD hS hl
    replace hm := mt_app7 hK68 hm
    obtain rfl := Option.some.inj hm
    exact W.vret hx hb hr (fun t ht hW => ⟨⟨(), rfl, trivial, by rw [ht]; exact hP, hD⟩, hS.F ht⟩) hS.2.2 dX5_drawFurtherStreets_68
  have L2 : ∀ n2 : Nat, ∀ (x1_2 : Int32) (v_parts_2 : Int32) (v_had_2 : Nat → Int32) (v_there_2 : Nat → Int32) (v_corner_2 : Nat → Int32) (v_second_2 : Nat → Int32) (v_third_2 : Nat → Int32), ∀ (H : Heap) (locs : List Loc) (ls : Array Slot), m_X5_drawFurtherStreets_L2 v_seed v_size K68 n2 x1_2 v_parts_2 v_had_2 v_there_2 v_corner_2 v_second_2 v_third_2 = some q → va_P (dC, dI) vwCl [(h0, .inr (5, [.ref h0_had, .ref h0_there, .ref h0_corner, .ref h0_second, .ref h0_third, .int v_seed, .int v_size, .int v_parts_2])), (h0_had, .inl (cZ, 62, .inl v_had_2)), (h0_there, .inl (cZ, 62, .inl v_there_2)), (h0_corner, .inl (cI, 62, .inl v_corner_2)), (h0_second, .inl (cI, 62, .inl v_second_2)), (h0_third, .inl (cI, 62, .inl v_third_2))] H → va_D A [(h0, .inr (5, [.ref h0_had, .ref h0_there, .ref h0_corner, .ref h0_second, .ref h0_third, .int v_seed, .int v_size, .int v_parts_2])), (h0_had, .inl (cZ, 62, .inl v_had_2)), (h0_there, .inl (cZ, 62, .inl v_there_2)), (h0_corner, .inl (cI, 62, .inl v_corner_2)), (h0_second, .inl (cI, 62, .inl v_second_2)), (h0_third, .inl (cI, 62, .inl v_third_2))] → va_S A s.heap H locs → lv_has ls 4 [(0, .ref h0), (1, .int x1_2)] → W p l e (headSpec wsX5_drawFurtherStreets ({ frames := 3, cells := 0, slots := 0, locals := 68 })).room s m [.ref h0].toArray below meth c H locs 0 0 (MQ below (va_Qv (fun (_ : Unit) => True) (fun _ t => va_P (dC, dI) vwCl [(h0, .inr (5, [.ref h0_had, .ref h0_there, .ref h0_corner, .ref h0_second, .ref h0_third, .int v_seed, .int v_size, .int q.1])), (h0_had, .inl (cZ, 62, .inl q.2.1)), (h0_there, .inl (cZ, 62, .inl q.2.2.1)), (h0_corner, .inl (cI, 62, .inl q.2.2.2.1)), (h0_second, .inl (cI, 62, .inl q.2.2.2.2.1)), (h0_third, .inl (cI, 62, .inl q.2.2.2.2.2))] t.heap ∧ va_D A [(h0, .inr (5, [.ref h0_had, .ref h0_there, .ref h0_corner, .ref h0_second, .ref h0_third, .int v_seed, .int v_size, .int q.1])), (h0_had, .inl (cZ, 62, .inl q.2.1)), (h0_there, .inl (cZ, 62, .inl q.2.2.1)), (h0_corner, .inl (cI, 62, .inl q.2.2.2.1)), (h0_second, .inl (cI, 62, .inl q.2.2.2.2.1)), (h0_third, .inl (cI, 62, .inl q.2.2.2.2.2))]) A) [.ref h0].toArray s 0 0 A) (F0 m 2 ls []) := by
    intro n2
    induction n2 with
    | zero =>
      intro x1_2 v_parts_2 v_had_2 v_there_2 v_corner_2 v_second_2 v_third_2 H locs ls hm hP hD hS hl
      exact absurd hm (fun h => nomatch h)
    | succ n2 ih2 =>
      intro x1_2 v_parts_2 v_had_2 v_there_2 v_corner_2 v_second_2 v_third_2 H locs ls hm hP hD hS hl
      rw [m_X5_drawFurtherStreets_L2] at hm
      refine lv_iload_n hx hb dX5_drawFurtherStreets_2 rfl (lv_at hl 1 rfl) ?_
      refine lv_aload_n hx hb dX5_drawFurtherStreets_3 rfl (lv_at hl 0 rfl) ?_
      refine va_get (D := (dC, dI)) (ci := 5) (v := .int v_size) (C := RX5) (T := TX5) (N := 8) hx hb hts hiX5 hown hK hP 0 rfl rfl 6 (by decide) (hts (.fieldLink RX5 32 "ServiceDrawer$Town" "size" "I") (by decide +kernel)) (fun _ h9 => h9) rfl dX5_drawFurtherStreets_4 ?_
      refine lv_iconst (v := (2 : Int32)) hx hb dX5_drawFurtherStreets_7 (by decide) ?_
      refine lv_idiv hx hb dX5_drawFurtherStreets_8 (by decide) ?_
      refine lv_icmp_ge (tgt := 68) hx hb dX5_drawFurtherStreets_9 (by decide) (fun c1 => ?_) (fun c1 => ?_)
      · replace hm := mt_pos c1 hm
        exact J68 x1_2 v_parts_2 v_had_2 v_there_2 v_corner_2 v_second_2 v_third_2 _ _ _ hm hP hD hS (lv_sub hl [0, 1] rfl)
      · replace hm := mt_neg c1 hm
        refine lv_aload_n hx hb dX5_drawFurtherStreets_12 rfl (lv_at hl 0 rfl) ?_
        refine lv_iconst (v := (2 : Int32)) hx hb dX5_drawFurtherStreets_13 (by decide) ?_
        refine lv_iload_n hx hb dX5_drawFurtherStreets_14 rfl (lv_at hl 1 rfl) ?_
        refine lv_aload_n hx hb dX5_drawFurtherStreets_15 rfl (lv_at hl 0 rfl) ?_
        obtain ⟨q2, hq2, hm⟩ := mt_bind hm
        refine vp_callSi (va_Run.run (va_runV (As := []) (rest := [.int x1_2, .int (2 : Int32), .ref h0]) ⟨hx, hb, hml, hown, hts⟩ (c_X5_corners l dC dI cZ cI cL h0 h0_had h0_there h0_corner h0_second h0_third v_seed v_size v_parts_2 v_had_2 v_there_2 v_corner_2 v_second_2 v_third_2 q2 hq2) (cwV 0 hts gX5_drawFurtherStreets_X5_corners rfl rfl rfl (by decide +kernel) ⟨Nat.le_of_ble_eq_true rfl, Nat.le_of_ble_eq_true rfl⟩) (mt_vR (q := (RX5, TX5, 8)) 5 hC (hP.sub (ws' := [(h0, .inr (5, [.ref h0_had, .ref h0_there, .ref h0_corner, .ref h0_second, .ref h0_third, .int v_seed, .int v_size, .int v_parts_2])), (h0_had, .inl (cZ, 62, .inl v_had_2)), (h0_there, .inl (cZ, 62, .inl v_there_2)), (h0_corner, .inl (cI, 62, .inl v_corner_2)), (h0_second, .inl (cI, 62, .inl v_second_2)), (h0_third, .inl (cI, 62, .inl v_third_2))]) [0, 1, 2, 3, 4, 5] rfl) rfl rfl) rfl rfl hl.1 rfl (lv_room (Nat.le_of_ble_eq_true rfl)) dX5_drawFurtherStreets_16 ⟨Nat.le_of_ble_eq_true rfl, Nat.le_of_ble_eq_true rfl⟩)) (fun r er => ?_)
        replace er := er.symm
        subst er
        obtain ⟨q3, hq3, hm⟩ := mt_bind hm
        refine vp_callSi (va_Run.run (va_runV (As := [.int (2 : Int32), .int x1_2, .int q2]) (rest := []) ⟨hx, hb, hml, hown, hts⟩ (c_X5_drawn l dC dI cZ cI cL h0 h0_had h0_there h0_corner h0_second h0_third (2 : Int32) x1_2 q2 v_seed v_size v_parts_2 v_had_2 v_there_2 v_corner_2 v_second_2 v_third_2 q3 hq3) (cwV 3 hts gX5_drawFurtherStreets_X5_drawn rfl rfl rfl (by decide +kernel) ⟨Nat.le_of_ble_eq_true rfl, Nat.le_of_ble_eq_true rfl⟩) (mt_vR (q := (RX5, TX5, 8)) 5 hC (hP.sub (ws' := [(h0, .inr (5, [.ref h0_had, .ref h0_there, .ref h0_corner, .ref h0_second, .ref h0_third, .int v_seed, .int v_size, .int v_parts_2])), (h0_had, .inl (cZ, 62, .inl v_had_2)), (h0_there, .inl (cZ, 62, .inl v_there_2)), (h0_corner, .inl (cI, 62, .inl v_corner_2)), (h0_second, .inl (cI, 62, .inl v_second_2)), (h0_third, .inl (cI, 62, .inl v_third_2))]) [0, 1, 2, 3, 4, 5] rfl) rfl rfl) rfl rfl hl.1 rfl (lv_room (Nat.le_of_ble_eq_true rfl)) dX5_drawFurtherStreets_19 ⟨Nat.le_of_ble_eq_true rfl, Nat.le_of_ble_eq_true rfl⟩)) (fun r er => ?_)
        replace er := er.symm
        subst er
        refine lv_istore_n (lv' := [(2, .int q3), (0, .ref h0), (1, .int x1_2)]) hx hb dX5_drawFurtherStreets_22 rfl hl (by decide) rfl (fun ls hl => ?_)
        refine lv_aload_n hx hb dX5_drawFurtherStreets_23 rfl (lv_at hl 1 rfl) ?_
        refine lv_iconst (v := (3 : Int32)) hx hb dX5_drawFurtherStreets_24 (by decide) ?_
        refine lv_iload_n hx hb dX5_drawFurtherStreets_25 rfl (lv_at hl 2 rfl) ?_
        refine lv_aload_n hx hb dX5_drawFurtherStreets_26 rfl (lv_at hl 1 rfl) ?_
        obtain ⟨q4, hq4, hm⟩ := mt_bind hm
        refine vp_callSi (va_Run.run (va_runV (As := []) (rest := [.int x1_2, .int (3 : Int32), .ref h0]) ⟨hx, hb, hml, hown, hts⟩ (c_X5_corners l dC dI cZ cI cL h0 h0_had h0_there h0_corner h0_second h0_third v_seed v_size v_parts_2 v_had_2 v_there_2 v_corner_2 v_second_2 v_third_2 q4 hq4) (cwV 0 hts gX5_drawFurtherStreets_X5_corners rfl rfl rfl (by decide +kernel) ⟨Nat.le_of_ble_eq_true rfl, Nat.le_of_ble_eq_true rfl⟩) (mt_vR (q := (RX5, TX5, 8)) 5 hC (hP.sub (ws' := [(h0, .inr (5, [.ref h0_had, .ref h0_there, .ref h0_corner, .ref h0_second, .ref h0_third, .int v_seed, .int v_size, .int v_parts_2])), (h0_had, .inl (cZ, 62, .inl v_had_2)), (h0_there, .inl (cZ, 62, .inl v_there_2)), (h0_corner, .inl (cI, 62, .inl v_corner_2)), (h0_second, .inl (cI, 62, .inl v_second_2)), (h0_third, .inl (cI, 62, .inl v_third_2))]) [0, 1, 2, 3, 4, 5] rfl) rfl rfl) rfl rfl hl.1 rfl (lv_room (Nat.le_of_ble_eq_true rfl)) dX5_drawFurtherStreets_27 ⟨Nat.le_of_ble_eq_true rfl, Nat.le_of_ble_eq_true rfl⟩)) (fun r er => ?_)
        replace er := er.symm
        subst er
        obtain ⟨q5, hq5, hm⟩ := mt_bind hm
        refine vp_callSi (va_Run.run (va_runV (As := [.int (3 : Int32), .int x1_2, .int q4]) (rest := []) ⟨hx, hb, hml, hown, hts⟩ (c_X5_drawn l dC dI cZ cI cL h0 h0_had h0_there h0_corner h0_second h0_third (3 : Int32) x1_2 q4 v_seed v_size v_parts_2 v_had_2 v_there_2 v_corner_2 v_second_2 v_third_2 q5 hq5) (cwV 3 hts gX5_drawFurtherStreets_X5_drawn rfl rfl rfl (by decide +kernel) ⟨Nat.le_of_ble_eq_true rfl, Nat.le_of_ble_eq_true rfl⟩) (mt_vR (q := (RX5, TX5, 8)) 5 hC (hP.sub (ws' := [(h0, .inr (5, [.ref h0_had, .ref h0_there, .ref h0_corner, .ref h0_second, .ref h0_third, .int v_seed, .int v_size, .int v_parts_2])), (h0_had, .inl (cZ, 62, .inl v_had_2)), (h0_there, .inl (cZ, 62, .inl v_there_2)), (h0_corner, .inl (cI, 62, .inl v_corner_2)), (h0_second, .inl (cI, 62, .inl v_second_2)), (h0_third, .inl (cI, 62, .inl v_third_2))]) [0, 1, 2, 3, 4, 5] rfl) rfl rfl) rfl rfl hl.1 rfl (lv_room (Nat.le_of_ble_eq_true rfl)) dX5_drawFurtherStreets_30 ⟨Nat.le_of_ble_eq_true rfl, Nat.le_of_ble_eq_true rfl⟩)) (fun r er => ?_)
        replace er := er.symm
        subst er
        refine lv_istore_n (lv' := [(3, .int q5), (2, .int q3), (0, .ref h0), (1, .int x1_2)]) hx hb dX5_drawFurtherStreets_33 rfl hl (by decide) rfl (fun ls hl => ?_)
        refine lv_iload_n hx hb dX5_drawFurtherStreets_34 rfl (lv_at hl 1 rfl) ?_
        refine lv_iload_n hx hb dX5_drawFurtherStreets_35 rfl (lv_at hl 0 rfl) ?_
        refine lv_icmp_eq (tgt := 62) hx hb dX5_drawFurtherStreets_36 (by decide) (fun c6 => ?_) (fun c6 => ?_)
        · replace hm := mt_pos c6 hm
          refine lv_iinc (v := (x1_2 + (1 : Int32))) (lv' := [(1, .int (x1_2 + (1 : Int32))), (3, .int q5), (2, .int q3), (0, .ref h0)]) hx hb dX5_drawFurtherStreets_62 hl (k := 3) rfl rfl (by decide) rfl (fun ls hl => ?_)
          refine lv_goto (tgt := 2) hx hb dX5_drawFurtherStreets_65 (by decide) ?_
          exact ih2 (x1_2 + (1 : Int32)) v_parts_2 v_had_2 v_there_2 v_corner_2 v_second_2 v_third_2 _ _ _ hm hP hD hS (lv_sub hl [3, 0] rfl)
        · replace hm := mt_neg c6 hm
          refine lv_aload_n hx hb dX5_drawFurtherStreets_39 rfl (lv_at hl 2 rfl) ?_
          refine lv_bipush (v := (20 : Int32)) hx hb dX5_drawFurtherStreets_40 (by decide) ?_
          refine lv_iload_n hx hb dX5_drawFurtherStreets_42 rfl (lv_at hl 3 rfl) ?_
          refine lv_iadd hx hb dX5_drawFurtherStreets_43 ?_
          refine lv_iload_n hx hb dX5_drawFurtherStreets_44 rfl (lv_at hl 1 rfl) ?_
          refine lv_iload_n hx hb dX5_drawFurtherStreets_45 rfl (lv_at hl 0 rfl) ?_
          refine lv_iconst (v := (1 : Int32)) hx hb dX5_drawFurtherStreets_46 (by decide) ?_
          refine lv_aload_n hx hb dX5_drawFurtherStreets_47 rfl (lv_at hl 2 rfl) ?_
          refine lv_iconst (v := (1 : Int32)) hx hb dX5_drawFurtherStreets_48 (by decide) ?_
          refine lv_bipush (v := (100 : Int32)) hx hb dX5_drawFurtherStreets_49 (by decide) ?_
          refine lv_iload_n hx hb dX5_drawFurtherStreets_51 rfl (lv_at hl 3 rfl) ?_
          refine lv_iadd hx hb dX5_drawFurtherStreets_52 ?_
          refine lv_bipush (v := (99 : Int32)) hx hb dX5_drawFurtherStreets_53 (by decide) ?_
          obtain ⟨q7, hq7, hm⟩ := mt_bind hm
          refine vp_callSi (va_Run.run (va_runV (As := [.int (1 : Int32), .int ((100 : Int32) + x1_2), .int (99 : Int32)]) (rest := [.int (1 : Int32), .int q5, .int q3, .int ((20 : Int32) + x1_2), .ref h0]) ⟨hx, hb, hml, hown, hts⟩ (c_X5_drawn l dC dI cZ cI cL h0 h0_had h0_there h0_corner h0_second h0_third (1 : Int32) ((100 : Int32) + x1_2) (99 : Int32) v_seed v_size v_parts_2 v_had_2 v_there_2 v_corner_2 v_second_2 v_third_2 q7 hq7) (cwV 3 hts gX5_drawFurtherStreets_X5_drawn rfl rfl rfl (by decide +kernel) ⟨Nat.le_of_ble_eq_true rfl, Nat.le_of_ble_eq_true rfl⟩) (mt_vR (q := (RX5, TX5, 8)) 5 hC (hP.sub (ws' := [(h0, .inr (5, [.ref h0_had, .ref h0_there, .ref h0_corner, .ref h0_second, .ref h0_third, .int v_seed, .int v_size, .int v_parts_2])), (h0_had, .inl (cZ, 62, .inl v_had_2)), (h0_there, .inl (cZ, 62, .inl v_there_2)), (h0_corner, .inl (cI, 62, .inl v_corner_2)), (h0_second, .inl (cI, 62, .inl v_second_2)), (h0_third, .inl (cI, 62, .inl v_third_2))]) [0, 1, 2, 3, 4, 5] rfl) rfl rfl) rfl rfl hl.1 rfl (lv_room (Nat.le_of_ble_eq_true rfl)) dX5_drawFurtherStreets_55 ⟨Nat.le_of_ble_eq_true rfl, Nat.le_of_ble_eq_true rfl⟩)) (fun r er => ?_)
          replace er := er.symm
          subst er
          refine lv_iadd hx hb dX5_drawFurtherStreets_58 ?_
          obtain ⟨q8, hq8, hm⟩ := mt_bind hm
          refine mt_callv (wr := []) hP hD hS hA [0, 1, 2, 3, 4, 5] [] rfl rfl (by decide) (by decide) (va_runV (As := [.int ((20 : Int32) + x1_2), .int q3, .int q5, .int ((1 : Int32) + q7)]) (rest := []) ⟨hx, hb, hml, hown, hts⟩ (c_X5_putStreet l dC dI cZ cI cL h0 h0_had h0_there h0_corner h0_second h0_third H.size ((20 : Int32) + x1_2) q3 q5 ((1 : Int32) + q7) v_seed v_size v_parts_2 v_had_2 v_there_2 v_corner_2 v_second_2 v_third_2 q8 hq8) (cwV 4 hts gX5_drawFurtherStreets_X5_putStreet rfl rfl rfl (by decide +kernel) ⟨Nat.le_of_ble_eq_true rfl, Nat.le_of_ble_eq_true rfl⟩) (mt_vS (q := (RX5, TX5, 8)) 5 hC hP hD rfl rfl) rfl rfl hl.1 rfl (lv_room (Nat.le_of_ble_eq_true rfl)) dX5_drawFurtherStreets_59 ⟨Nat.le_of_ble_eq_true rfl, Nat.le_of_ble_eq_true rfl⟩) (fun H locs hP hD hS => ?_)
          have hP : va_P (dC, dI) vwCl [(h0, .inr (5, [.ref h0_had, .ref h0_there, .ref h0_corner, .ref h0_second, .ref h0_third, .int v_seed, .int v_size, .int q8.1])), (h0_had, .inl (cZ, 62, .inl q8.2.1)), (h0_there, .inl (cZ, 62, .inl q8.2.2.1)), (h0_corner, .inl (cI, 62, .inl q8.2.2.2.1)), (h0_second, .inl (cI, 62, .inl q8.2.2.2.2.1)), (h0_third, .inl (cI, 62, .inl q8.2.2.2.2.2))] H := hP.sub [0, 1, 2, 3, 4, 5] rfl
          have hD : va_D A [(h0, .inr (5, [.ref h0_had, .ref h0_there, .ref h0_corner, .ref h0_second, .ref h0_third, .int v_seed, .int v_size, .int q8.1])), (h0_had, .inl (cZ, 62, .inl q8.2.1)), (h0_there, .inl (cZ, 62, .inl q8.2.2.1)), (h0_corner, .inl (cI, 62, .inl q8.2.2.2.1)), (h0_second, .inl (cI, 62, .inl q8.2.2.2.2.1)), (h0_third, .inl (cI, 62, .inl q8.2.2.2.2.2))] := hD.sub [0, 1, 2, 3, 4, 5] (by decide) rfl
          refine lv_iinc (v := (x1_2 + (1 : Int32))) (lv' := [(1, .int (x1_2 + (1 : Int32))), (3, .int q5), (2, .int q3), (0, .ref h0)]) hx hb dX5_drawFurtherStreets_62 hl (k := 3) rfl rfl (by decide) rfl (fun ls hl => ?_)
          refine lv_goto (tgt := 2) hx hb dX5_drawFurtherStreets_65 (by decide) ?_
          exact ih2 (x1_2 + (1 : Int32)) q8.1 q8.2.1 q8.2.2.1 q8.2.2.2.1 q8.2.2.2.2.1 q8.2.2.2.2.2 _ _ _ hm hP hD hS (lv_sub hl [3, 0] rfl)
  exact L2 fu (0 : Int32) v_parts v_had v_there v_corner v_second v_third _ _ _ hm hP hD hS (lv_sub hl [1, 0] rfl)
