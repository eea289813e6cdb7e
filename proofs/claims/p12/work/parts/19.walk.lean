def m_X7_throwing (p1 : Int32) (p2 : Int32) : Option (Int32 × Int32) := mt_j (fun (j0_18 : Int32) => if j0_18 ≤ 0 then some ((0 : Int32), j0_18) else some ((1 : Int32), j0_18)) fun K18 => if p1 = 0 then if p2 = 0 then K18 (0 : Int32) else K18 (2 : Int32) else K18 (1 : Int32)
set_option maxHeartbeats 4000000 in
set_option maxRecDepth 100000 in
theorem c_X7_throwing (l : Launch) (dC : Nat → ClassId) (dI : Nat → Nat → Nat) (cZ cI cL : ClassId) (h0 h0_kind h0_there h0_first h0_other h0_last h0_kept h0_far h0_out h0_tape : Nat) (sz : Nat) (p1 : Int32) (p2 : Int32) (v_thrown : Int32) (v_corners : Int32) (v_units : Int32) (v_calls : Int32) (v_seed : Int32) (v_printed : Int32) (v_taped : Int32) (v_length : Int32) (v_at : Int32) (v_wrong : Int32) (v_kind : Nat → Int32) (v_there : Nat → Int32) (v_first : Nat → Int32) (v_other : Nat → Int32) (v_last : Nat → Int32) (v_kept : Nat → Int32) (v_far : Nat → Int32) (v_out : Nat → Int32) (v_tape : Nat → Int32) (q : Int32 × Int32) (hm : m_X7_throwing p1 p2 = some q) : Met l yX7_throwing wsX7_throwing ({ frames := 0, cells := 0, slots := 0, locals := 0 }) (va_Pc [.ref h0, .int p1, .int p2] (mt_S (dC, dI) cZ cI cL sz [(h0, .inr (7, [.int v_thrown, .int v_corners, .int v_units, .int v_calls, .int v_seed, .ref h0_kind, .ref h0_there, .ref h0_first, .ref h0_other, .ref h0_last, .ref h0_kept, .ref h0_far, .ref h0_out, .int v_printed, .ref h0_tape, .int v_taped, .int v_length, .int v_at, .int v_wrong])), (h0_kind, .inl (cI, 62, .inl v_kind)), (h0_there, .inl (cZ, 62, .inl v_there)), (h0_first, .inl (cI, 62, .inl v_first)), (h0_other, .inl (cI, 62, .inl v_other)), (h0_last, .inl (cI, 62, .inl v_last)), (h0_kept, .inl (cZ, 62, .inl v_kept)), (h0_far, .inl (cI, 21, .inl v_far)), (h0_out, .inl (cI, 1200, .inl v_out)), (h0_tape, .inl (cI, 600, .inl v_tape))])) (va_Qi (fun (r : Int32) (_ : Unit) => r = q.1) (fun _ t => va_P (dC, dI) vwCl [(h0, .inr (7, [.int q.2, .int v_corners, .int v_units, .int v_calls, .int v_seed, .ref h0_kind, .ref h0_there, .ref h0_first, .ref h0_other, .ref h0_last, .ref h0_kept, .ref h0_far, .ref h0_out, .int v_printed, .ref h0_tape, .int v_taped, .int v_length, .int v_at, .int v_wrong])), (h0_kind, .inl (cI, 62, .inl v_kind)), (h0_there, .inl (cZ, 62, .inl v_there)), (h0_first, .inl (cI, 62, .inl v_first)), (h0_other, .inl (cI, 62, .inl v_other)), (h0_last, .inl (cI, 62, .inl v_last)), (h0_kept, .inl (cZ, 62, .inl v_kept)), (h0_far, .inl (cI, 21, .inl v_far)), (h0_out, .inl (cI, 1200, .inl v_out)), (h0_tape, .inl (cI, 600, .inl v_tape))] t.heap ∧ va_D (va_A [(h0, .inr (7, [.int v_thrown, .int v_corners, .int v_units, .int v_calls, .int v_seed, .ref h0_kind, .ref h0_there, .ref h0_first, .ref h0_other, .ref h0_last, .ref h0_kept, .ref h0_far, .ref h0_out, .int v_printed, .ref h0_tape, .int v_taped, .int v_length, .int v_at, .int v_wrong])), (h0_kind, .inl (cI, 62, .inl v_kind)), (h0_there, .inl (cZ, 62, .inl v_there)), (h0_first, .inl (cI, 62, .inl v_first)), (h0_other, .inl (cI, 62, .inl v_other)), (h0_last, .inl (cI, 62, .inl v_last)), (h0_kept, .inl (cZ, 62, .inl v_kept)), (h0_far, .inl (cI, 21, .inl v_far)), (h0_out, .inl (cI, 1200, .inl v_out)), (h0_tape, .inl (cI, 600, .inl v_tape))] sz) [(h0, .inr (7, [.int q.2, .int v_corners, .int v_units, .int v_calls, .int v_seed, .ref h0_kind, .ref h0_there, .ref h0_first, .ref h0_other, .ref h0_last, .ref h0_kept, .ref h0_far, .ref h0_out, .int v_printed, .ref h0_tape, .int v_taped, .int v_length, .int v_at, .int v_wrong])), (h0_kind, .inl (cI, 62, .inl v_kind)), (h0_there, .inl (cZ, 62, .inl v_there)), (h0_first, .inl (cI, 62, .inl v_first)), (h0_other, .inl (cI, 62, .inl v_other)), (h0_last, .inl (cI, 62, .inl v_last)), (h0_kept, .inl (cZ, 62, .inl v_kept)), (h0_far, .inl (cI, 21, .inl v_far)), (h0_out, .inl (cI, 1200, .inl v_out)), (h0_tape, .inl (cI, 600, .inl v_tape))]) (va_A [(h0, .inr (7, [.int v_thrown, .int v_corners, .int v_units, .int v_calls, .int v_seed, .ref h0_kind, .ref h0_there, .ref h0_first, .ref h0_other, .ref h0_last, .ref h0_kept, .ref h0_far, .ref h0_out, .int v_printed, .ref h0_tape, .int v_taped, .int v_length, .int v_at, .int v_wrong])), (h0_kind, .inl (cI, 62, .inl v_kind)), (h0_there, .inl (cZ, 62, .inl v_there)), (h0_first, .inl (cI, 62, .inl v_first)), (h0_other, .inl (cI, 62, .inl v_other)), (h0_last, .inl (cI, 62, .inl v_last)), (h0_kept, .inl (cZ, 62, .inl v_kept)), (h0_far, .inl (cI, 21, .inl v_far)), (h0_out, .inl (cI, 1200, .inl v_out)), (h0_tape, .inl (cI, 600, .inl v_tape))] sz)) 0 0 (va_A [(h0, .inr (7, [.int v_thrown, .int v_corners, .int v_units, .int v_calls, .int v_seed, .ref h0_kind, .ref h0_there, .ref h0_first, .ref h0_other, .ref h0_last, .ref h0_kept, .ref h0_far, .ref h0_out, .int v_printed, .ref h0_tape, .int v_taped, .int v_length, .int v_at, .int v_wrong])), (h0_kind, .inl (cI, 62, .inl v_kind)), (h0_there, .inl (cZ, 62, .inl v_there)), (h0_first, .inl (cI, 62, .inl v_first)), (h0_other, .inl (cI, 62, .inl v_other)), (h0_last, .inl (cI, 62, .inl v_last)), (h0_kept, .inl (cZ, 62, .inl v_kept)), (h0_far, .inl (cI, 21, .inl v_far)), (h0_out, .inl (cI, 1200, .inl v_out)), (h0_tape, .inl (cI, 600, .inl v_tape))] sz) := by
  refine Met.ofW (cc := cX7_throwing) (maxL := 3) (ret := (some .boolean)) (by decide) rfl ?_
  intro p e s m args below meth c s₁ B hml hv
  obtain ⟨rfl, hsz, hP, hC, hD0⟩ := hv
  have hx := B.exec
  have hb := B.bytes
  have hr := B.returns
  have hts := atoms_spec (ws := wsX7_throwing) B.pre
  have hown : s.vm.findClass RX7 = some m.cls := findClass_of_methodNamed B.named
  have hlocks := B.notSynchronized
  have hK := hC.1
  have hiX7 : ∀ w ∈ wsX70, w ∈ wsX7_throwing := by decide +kernel
  subst hsz
  have hD := hD0.self (sz := s.heap.size)
  generalize hAe : va_A [(h0, .inr (7, [.int v_thrown, .int v_corners, .int v_units, .int v_calls, .int v_seed, .ref h0_kind, .ref h0_there, .ref h0_first, .ref h0_other, .ref h0_last, .ref h0_kept, .ref h0_far, .ref h0_out, .int v_printed, .ref h0_tape, .int v_taped, .int v_length, .int v_at, .int v_wrong])), (h0_kind, .inl (cI, 62, .inl v_kind)), (h0_there, .inl (cZ, 62, .inl v_there)), (h0_first, .inl (cI, 62, .inl v_first)), (h0_other, .inl (cI, 62, .inl v_other)), (h0_last, .inl (cI, 62, .inl v_last)), (h0_kept, .inl (cZ, 62, .inl v_kept)), (h0_far, .inl (cI, 21, .inl v_far)), (h0_out, .inl (cI, 1200, .inl v_out)), (h0_tape, .inl (cI, 600, .inl v_tape))] s.heap.size = A at hD ⊢
  have hA : ∀ q : Nat, s.heap.size ≤ q → A q := fun q h => by rw [← hAe]; exact Or.inr h
  have hS : va_S A s.heap s.heap [] := va_S.rf
  have hl := lv_entry [.ref h0, .int p1, .int p2] (n := 3) (Nat.le_of_ble_eq_true rfl)
  rw [lg_entry_eq]
  generalize (lg_sl [.ref h0, .int p1, .int p2] ++ List.replicate (3 - (lg_sl [.ref h0, .int p1, .int p2]).length) Slot.unset).toArray = ls at hl ⊢
  have hl : lv_has ls 3 [(0, .ref h0), (1, .int p1), (2, .int p2)] := hl
  rw [m_X7_throwing] at hm
  refine lv_aload_n hx hb dX7_throwing_0 rfl (lv_at hl 0 rfl) ?_
  refine lv_iload_n hx hb dX7_throwing_1 rfl (lv_at hl 1 rfl) ?_
  obtain ⟨K18, hK18, hm⟩ := mt_jx hm
  have J18 : ∀ (j0_18 : Int32), ∀ (H : Heap) (locs : List Loc) (ls : Array Slot), K18 j0_18 = some q → va_P (dC, dI) vwCl [(h0, .inr (7, [.int v_thrown, .int v_corners, .int v_units, .int v_calls, .int v_seed, .ref h0_kind, .ref h0_there, .ref h0_first, .ref h0_other, .ref h0_last, .ref h0_kept, .ref h0_far, .ref h0_out, .int v_printed, .ref h0_tape, .int v_taped, .int v_length, .int v_at, .int v_wrong])), (h0_kind, .inl (cI, 62, .inl v_kind)), (h0_there, .inl (cZ, 62, .inl v_there)), (h0_first, .inl (cI, 62, .inl v_first)), (h0_other, .inl (cI, 62, .inl v_other)), (h0_last, .inl (cI, 62, .inl v_last)), (h0_kept, .inl (cZ, 62, .inl v_kept)), (h0_far, .inl (cI, 21, .inl v_far)), (h0_out, .inl (cI, 1200, .inl v_out)), (h0_tape, .inl (cI, 600, .inl v_tape))] H → va_D A [(h0, .inr (7, [.int v_thrown, .int v_corners, .int v_units, .int v_calls, .int v_seed, .ref h0_kind, .ref h0_there, .ref h0_first, .ref h0_other, .ref h0_last, .ref h0_kept, .ref h0_far, .ref h0_out, .int v_printed, .ref h0_tape, .int v_taped, .int v_length, .int v_at, .int v_wrong])), (h0_kind, .inl (cI, 62, .inl v_kind)), (h0_there, .inl (cZ, 62, .inl v_there)), (h0_first, .inl (cI, 62, .inl v_first)), (h0_other, .inl (cI, 62, .inl v_other)), (h0_last, .inl (cI, 62, .inl v_last)), (h0_kept, .inl (cZ, 62, .inl v_kept)), (h0_far, .inl (cI, 21, .inl v_far)), (h0_out, .inl (cI, 1200, .inl v_out)), (h0_tape, .inl (cI, 600, .inl v_tape))] → va_S A s.heap H locs → lv_has ls 3 [(0, .ref h0), (1, .int p1), (2, .int p2)] → W p l e (headSpec wsX7_throwing ({ frames := 0, cells := 0, slots := 0, locals := 0 })).room s m [.ref h0, .int p1, .int p2].toArray below meth c H locs 0 0 (MQ below (va_Qi (fun (r : Int32) (_ : Unit) => r = q.1) (fun _ t => va_P (dC, dI) vwCl [(h0, .inr (7, [.int q.2, .int v_corners, .int v_units, .int v_calls, .int v_seed, .ref h0_kind, .ref h0_there, .ref h0_first, .ref h0_other, .ref h0_last, .ref h0_kept, .ref h0_far, .ref h0_out, .int v_printed, .ref h0_tape, .int v_taped, .int v_length, .int v_at, .int v_wrong])), (h0_kind, .inl (cI, 62, .inl v_kind)), (h0_there, .inl (cZ, 62, .inl v_there)), (h0_first, .inl (cI, 62, .inl v_first)), (h0_other, .inl (cI, 62, .inl v_other)), (h0_last, .inl (cI, 62, .inl v_last)), (h0_kept, .inl (cZ, 62, .inl v_kept)), (h0_far, .inl (cI, 21, .inl v_far)), (h0_out, .inl (cI, 1200, .inl v_out)), (h0_tape, .inl (cI, 600, .inl v_tape))] t.heap ∧ va_D A [(h0, .inr (7, [.int q.2, .int v_corners, .int v_units, .int v_calls, .int v_seed, .ref h0_kind, .ref h0_there, .ref h0_first, .ref h0_other, .ref h0_last, .ref h0_kept, .ref h0_far, .ref h0_out, .int v_printed, .ref h0_tape, .int v_taped, .int v_length, .int v_at, .int v_wrong])), (h0_kind, .inl (cI, 62, .inl v_kind)), (h0_there, .inl (cZ, 62, .inl v_there)), (h0_first, .inl (cI, 62, .inl v_first)), (h0_other, .inl (cI, 62, .inl v_other)), (h0_last, .inl (cI, 62, .inl v_last)), (h0_kept, .inl (cZ, 62, .inl v_kept)), (h0_far, .inl (cI, 21, .inl v_far)), (h0_out, .inl (cI, 1200, .inl v_out)), (h0_tape, .inl (cI, 600, .inl v_tape))]) A) [.ref h0, .int p1, .int p2].toArray s 0 0 A) (F0 m 18 ls [.int j0_18, .ref h0]) := by
    intro j0_18 H locs ls hm hP hD hS hl
    replace hm := mt_app1 hK18 hm
    refine va_put (D := (dC, dI)) (ci := 7) (v := .int j0_18) (ty := .int) (C := RX7) (T := TX7) (N := 19) hx hb hts hiX7 tyX7 tyX7_ok nmX7 hown hK hP hD hS 0 rfl rfl 0 (by decide) (hts (.fieldLink RX7 42 "ServiceDrawerModel" "thrown" "I") (by decide +kernel)) (fun _ h9 => h9) rfl (by decide +kernel) rfl rfl (Nat.le_of_ble_eq_true rfl) dX7_throwing_18 (fun H locs hP hD hS => ?_)
    have hP : va_P (dC, dI) vwCl [(h0, .inr (7, [.int j0_18, .int v_corners, .int v_units, .int v_calls, .int v_seed, .ref h0_kind, .ref h0_there, .ref h0_first, .ref h0_other, .ref h0_last, .ref h0_kept, .ref h0_far, .ref h0_out, .int v_printed, .ref h0_tape, .int v_taped, .int v_length, .int v_at, .int v_wrong])), (h0_kind, .inl (cI, 62, .inl v_kind)), (h0_there, .inl (cZ, 62, .inl v_there)), (h0_first, .inl (cI, 62, .inl v_first)), (h0_other, .inl (cI, 62, .inl v_other)), (h0_last, .inl (cI, 62, .inl v_last)), (h0_kept, .inl (cZ, 62, .inl v_kept)), (h0_far, .inl (cI, 21, .inl v_far)), (h0_out, .inl (cI, 1200, .inl v_out)), (h0_tape, .inl (cI, 600, .inl v_tape))] H := hP
    have hD : va_D A [(h0, .inr (7, [.int j0_18, .int v_corners, .int v_units, .int v_calls, .int v_seed, .ref h0_kind, .ref h0_there, .ref h0_first, .ref h0_other, .ref h0_last, .ref h0_kept, .ref h0_far, .ref h0_out, .int v_printed, .ref h0_tape, .int v_taped, .int v_length, .int v_at, .int v_wrong])), (h0_kind, .inl (cI, 62, .inl v_kind)), (h0_there, .inl (cZ, 62, .inl v_there)), (h0_first, .inl (cI, 62, .inl v_first)), (h0_other, .inl (cI, 62, .inl v_other)), (h0_last, .inl (cI, 62, .inl v_last)), (h0_kept, .inl (cZ, 62, .inl v_kept)), (h0_far, .inl (cI, 21, .inl v_far)), (h0_out, .inl (cI, 1200, .inl v_out)), (h0_tape, .inl (cI, 600, .inl v_tape))] := hD
    refine lv_aload_n hx hb dX7_throwing_21 rfl (lv_at hl 0 rfl) ?_
    refine va_get (D := (dC, dI)) (ci := 7) (v := .int j0_18) (C := RX7) (T := TX7) (N := 19) hx hb hts hiX7 hown hK hP 0 rfl rfl 0 (by decide) (hts (.fieldLink RX7 42 "ServiceDrawerModel" "thrown" "I") (by decide +kernel)) (fun _ h9 => h9) rfl dX7_throwing_22 ?_
    refine lv_if_le (tgt := 32) hx hb dX7_throwing_25 (by decide) (fun c1 => ?_) (fun c1 => ?_)
    · replace hm := mt_pos c1 hm
      refine lv_iconst (v := (0 : Int32)) hx hb dX7_throwing_32 (by decide) ?_
      obtain rfl := Option.some.inj hm
      exact W.zret hx hb hr mt_z0 (fun t ht hW => ⟨⟨_, (), rfl, rfl, by rw [ht]; exact hP, hD⟩, hS.F ht⟩) hS.2.2 dX7_throwing_33
    · replace hm := mt_neg c1 hm
      refine lv_iconst (v := (1 : Int32)) hx hb dX7_throwing_28 (by decide) ?_
      refine lv_goto (tgt := 33) hx hb dX7_throwing_29 (by decide) ?_
      obtain rfl := Option.some.inj hm
      exact W.zret hx hb hr mt_z1 (fun t ht hW => ⟨⟨_, (), rfl, rfl, by rw [ht]; exact hP, hD⟩, hS.F ht⟩) hS.2.2 dX7_throwing_33
  refine lv_if_eq (tgt := 9) hx hb dX7_throwing_2 (by decide) (fun c2 => ?_) (fun c2 => ?_)
  · replace hm := mt_pos c2 hm
    refine lv_iload_n hx hb dX7_throwing_9 rfl (lv_at hl 2 rfl) ?_
    refine lv_if_eq (tgt := 17) hx hb dX7_throwing_10 (by decide) (fun c3 => ?_) (fun c3 => ?_)
    · replace hm := mt_pos c3 hm
      refine lv_iconst (v := (0 : Int32)) hx hb dX7_throwing_17 (by decide) ?_
      exact J18 (0 : Int32) _ _ _ hm hP hD hS (lv_sub hl [0, 1, 2] rfl)
    · replace hm := mt_neg c3 hm
      refine lv_iconst (v := (2 : Int32)) hx hb dX7_throwing_13 (by decide) ?_
      refine lv_goto (tgt := 18) hx hb dX7_throwing_14 (by decide) ?_
      exact J18 (2 : Int32) _ _ _ hm hP hD hS (lv_sub hl [0, 1, 2] rfl)
  · replace hm := mt_neg c2 hm
    refine lv_iconst (v := (1 : Int32)) hx hb dX7_throwing_5 (by decide) ?_
    refine lv_goto (tgt := 18) hx hb dX7_throwing_6 (by decide) ?_
    exact J18 (1 : Int32) _ _ _ hm hP hD hS (lv_sub hl [0, 1, 2] rfl)
def m_X7_in (p0 : Int32) (p1 : Int32) (p2 : Int32) : Option (Int32) := if p0 < p1 then some (0 : Int32) else if p2 < p0 then some (0 : Int32) else some (1 : Int32)
set_option maxHeartbeats 4000000 in
set_option maxRecDepth 100000 in
theorem c_X7_in (l : Launch) (dC : Nat → ClassId) (dI : Nat → Nat → Nat) (cZ cI cL : ClassId) (p0 : Int32) (p1 : Int32) (p2 : Int32) (q : Int32) (hm : m_X7_in p0 p1 p2 = some q) : Met l yX7_in wsX7_in ({ frames := 0, cells := 0, slots := 0, locals := 0 }) (va_Pc [.int p0, .int p1, .int p2] (mt_R (dC, dI) cZ cI cL [])) (vp_Si (fun r => r = q)) 0 0 (fun _ => False) := by
  refine Met.ofW (cc := cX7_in) (maxL := 3) (ret := (some .boolean)) (by decide) rfl ?_
  intro p e s m args below meth c s₁ B hml hv
  obtain ⟨rfl, hP, hC⟩ := hv
  have hx := B.exec
  have hb := B.bytes
  have hr := B.returns
  have hts := atoms_spec (ws := wsX7_in) B.pre
  have hown : s.vm.findClass RX7 = some m.cls := findClass_of_methodNamed B.named
  have hlocks := B.notSynchronized
  have hK := hC.1
  have hl := lv_entry [.int p0, .int p1, .int p2] (n := 3) (Nat.le_of_ble_eq_true rfl)
  rw [lg_entry_eq]
  generalize (lg_sl [.int p0, .int p1, .int p2] ++ List.replicate (3 - (lg_sl [.int p0, .int p1, .int p2]).length) Slot.unset).toArray = ls at hl ⊢
  have hl : lv_has ls 3 [(0, .int p0), (1, .int p1), (2, .int p2)] := hl
  rw [m_X7_in] at hm
  refine lv_iload_n hx hb dX7_in_0 rfl (lv_at hl 0 rfl) ?_
  refine lv_iload_n hx hb dX7_in_1 rfl (lv_at hl 1 rfl) ?_
  refine lv_icmp_lt (tgt := 14) hx hb dX7_in_2 (by decide) (fun c1 => ?_) (fun c1 => ?_)
  · replace hm := mt_pos c1 hm
    refine lv_iconst (v := (0 : Int32)) hx hb dX7_in_14 (by decide) ?_
    obtain rfl := Option.some.inj hm
    exact W.zret hx hb hr mt_z0 (fun t ht hW => ⟨_, rfl, rfl, ht⟩) t_nil dX7_in_15
  · replace hm := mt_neg c1 hm
    refine lv_iload_n hx hb dX7_in_5 rfl (lv_at hl 0 rfl) ?_
    refine lv_iload_n hx hb dX7_in_6 rfl (lv_at hl 2 rfl) ?_
    refine lv_icmp_gt (tgt := 14) hx hb dX7_in_7 (by decide) (fun c2 => ?_) (fun c2 => ?_)
    · replace hm := mt_pos c2 hm
      refine lv_iconst (v := (0 : Int32)) hx hb dX7_in_14 (by decide) ?_
      obtain rfl := Option.some.inj hm
      exact W.zret hx hb hr mt_z0 (fun t ht hW => ⟨_, rfl, rfl, ht⟩) t_nil dX7_in_15
    · replace hm := mt_neg c2 hm
      refine lv_iconst (v := (1 : Int32)) hx hb dX7_in_10 (by decide) ?_
      refine lv_goto (tgt := 15) hx hb dX7_in_11 (by decide) ?_
      obtain rfl := Option.some.inj hm
      exact W.zret hx hb hr mt_z1 (fun t ht hW => ⟨_, rfl, rfl, ht⟩) t_nil dX7_in_15
def m_X7_many_L4 (p1 : Int32) (v_kind : Nat → Int32) (v_there : Nat → Int32) (K43 : Int32 → Int32 → Option (Int32)) : Nat → Int32 → Int32 → Option (Int32)
  | 0, _, _ => none
  | n4 + 1, x2_4, x3_4 => if (62 : Int32) ≤ x3_4 then K43 x2_4 x3_4 else if (¬ (x3_4 < 0 ∨ 62 ≤ x3_4.toNatClampNeg)) then if (v_there x3_4.toNatClampNeg) = 0 then m_X7_many_L4 p1 v_kind v_there K43 n4 (x2_4 + (0 : Int32)) (x3_4 + (1 : Int32)) else if (¬ (x3_4 < 0 ∨ 62 ≤ x3_4.toNatClampNeg)) then if (v_kind x3_4.toNatClampNeg) = p1 then m_X7_many_L4 p1 v_kind v_there K43 n4 (x2_4 + (1 : Int32)) (x3_4 + (1 : Int32)) else m_X7_many_L4 p1 v_kind v_there K43 n4 (x2_4 + (0 : Int32)) (x3_4 + (1 : Int32)) else none else none
def m_X7_many (fu : Nat) (p1 : Int32) (v_kind : Nat → Int32) (v_there : Nat → Int32) : Option (Int32) := mt_j (fun (x2_43 : Int32) (x3_43 : Int32) => some x2_43) fun K43 => m_X7_many_L4 p1 v_kind v_there K43 fu (0 : Int32) (0 : Int32)
set_option maxHeartbeats 4000000 in
set_option maxRecDepth 100000 in
theorem c_X7_many (l : Launch) (dC : Nat → ClassId) (dI : Nat → Nat → Nat) (cZ cI cL : ClassId) (h0 h0_kind h0_there h0_first h0_other h0_last h0_kept h0_far h0_out h0_tape : Nat) (p1 : Int32) (v_thrown : Int32) (v_corners : Int32) (v_units : Int32) (v_calls : Int32) (v_seed : Int32) (v_printed : Int32) (v_taped : Int32) (v_length : Int32) (v_at : Int32) (v_wrong : Int32) (v_kind : Nat → Int32) (v_there : Nat → Int32) (v_first : Nat → Int32) (v_other : Nat → Int32) (v_last : Nat → Int32) (v_kept : Nat → Int32) (v_far : Nat → Int32) (v_out : Nat → Int32) (v_tape : Nat → Int32) (fu : Nat) (q : Int32) (hm : m_X7_many fu p1 v_kind v_there = some q) : Met l yX7_many wsX7_many ({ frames := 0, cells := 0, slots := 0, locals := 0 }) (va_Pc [.ref h0, .int p1] (mt_R (dC, dI) cZ cI cL [(h0, .inr (7, [.int v_thrown, .int v_corners, .int v_units, .int v_calls, .int v_seed, .ref h0_kind, .ref h0_there, .ref h0_first, .ref h0_other, .ref h0_last, .ref h0_kept, .ref h0_far, .ref h0_out, .int v_printed, .ref h0_tape, .int v_taped, .int v_length, .int v_at, .int v_wrong])), (h0_kind, .inl (cI, 62, .inl v_kind)), (h0_there, .inl (cZ, 62, .inl v_there)), (h0_first, .inl (cI, 62, .inl v_first)), (h0_other, .inl (cI, 62, .inl v_other)), (h0_last, .inl (cI, 62, .inl v_last)), (h0_kept, .inl (cZ, 62, .inl v_kept)), (h0_far, .inl (cI, 21, .inl v_far)), (h0_out, .inl (cI, 1200, .inl v_out)), (h0_tape, .inl (cI, 600, .inl v_tape))])) (vp_Si (fun r => r = q)) 0 0 (fun _ => False) := by
  refine Met.ofW (cc := cX7_many) (maxL := 4) (ret := (some .int)) (by decide) rfl ?_
  intro p e s m args below meth c s₁ B hml hv
  obtain ⟨rfl, hP, hC⟩ := hv
  have hx := B.exec
  have hb := B.bytes
  have hr := B.returns
  have hts := atoms_spec (ws := wsX7_many) B.pre
  have hown : s.vm.findClass RX7 = some m.cls := findClass_of_methodNamed B.named
  have hlocks := B.notSynchronized
  have hK := hC.1
  have hiX7 : ∀ w ∈ wsX70, w ∈ wsX7_many := by decide +kernel
  have hl := lv_entry [.ref h0, .int p1] (n := 4) (Nat.le_of_ble_eq_true rfl)
  rw [lg_entry_eq]
  generalize (lg_sl [.ref h0, .int p1] ++ List.replicate (4 - (lg_sl [.ref h0, .int p1]).length) Slot.unset).toArray = ls at hl ⊢
  have hl : lv_has ls 4 [(0, .ref h0), (1, .int p1)] := hl
  rw [m_X7_many] at hm
  refine lv_iconst (v := (0 : Int32)) hx hb dX7_many_0 (by decide) ?_
  refine lv_istore_n (lv' := [(2, .int (0 : Int32)), (0, .ref h0), (1, .int p1)]) hx hb dX7_many_1 rfl hl (by decide) rfl (fun ls hl => ?_)
  refine lv_iconst (v := (0 : Int32)) hx hb dX7_many_2 (by decide) ?_
  refine lv_istore_n (lv' := [(3, .int (0 : Int32)), (2, .int (0 : Int32)), (0, .ref h0), (1, .int p1)]) hx hb dX7_many_3 rfl hl (by decide) rfl (fun ls hl => ?_)
  obtain ⟨K43, hK43, hm⟩ := mt_jx hm
  have J43 : ∀ (x2_43 : Int32) (x3_43 : Int32), ∀ (ls : Array Slot), K43 x2_43 x3_43 = some q → lv_has ls 4 [(0, .ref h0), (1, .int p1), (2, .int x2_43), (3, .int x3_43)] → W p l e (headSpec wsX7_many ({ frames := 0, cells := 0, slots := 0, locals := 0 })).room s m [.ref h0, .int p1].toArray below meth c s.heap [] 0 0 (MQ below (vp_Si (fun r => r = q)) [.ref h0, .int p1].toArray s 0 0 (fun _ => False)) (F0 m 43 ls []) := by
    intro x2_43 x3_43 ls hm hl
    replace hm := mt_app2 hK43 hm
    refine lv_iload_n hx hb dX7_many_43 rfl (lv_at hl 2 rfl) ?_
    obtain rfl := Option.some.inj hm
    exact W.iret hx hb hr (fun t ht hW => ⟨_, rfl, rfl, ht⟩) t_nil dX7_many_44
  have L4 : ∀ n4 : Nat, ∀ (x2_4 : Int32) (x3_4 : Int32), ∀ (ls : Array Slot), m_X7_many_L4 p1 v_kind v_there K43 n4 x2_4 x3_4 = some q → lv_has ls 4 [(0, .ref h0), (1, .int p1), (2, .int x2_4), (3, .int x3_4)] → W p l e (headSpec wsX7_many ({ frames := 0, cells := 0, slots := 0, locals := 0 })).room s m [.ref h0, .int p1].toArray below meth c s.heap [] 0 0 (MQ below (vp_Si (fun r => r = q)) [.ref h0, .int p1].toArray s 0 0 (fun _ => False)) (F0 m 4 ls []) := by
    intro n4
    induction n4 with
    | zero =>
      intro x2_4 x3_4 ls hm hl
      exact absurd hm (fun h => nomatch h)
    | succ n4 ih4 =>
      intro x2_4 x3_4 ls hm hl
      rw [m_X7_many_L4] at hm
      refine lv_iload_n hx hb dX7_many_4 rfl (lv_at hl 3 rfl) ?_
      refine lv_bipush (v := (62 : Int32)) hx hb dX7_many_5 (by decide) ?_
      refine lv_icmp_ge (tgt := 43) hx hb dX7_many_7 (by decide) (fun c1 => ?_) (fun c1 => ?_)
      · replace hm := mt_pos c1 hm
        exact J43 x2_4 x3_4 _ hm (lv_sub hl [0, 1, 2, 3] rfl)
      · replace hm := mt_neg c1 hm
        refine lv_iload_n hx hb dX7_many_10 rfl (lv_at hl 2 rfl) ?_
        refine lv_aload_n hx hb dX7_many_11 rfl (lv_at hl 0 rfl) ?_
        refine va_get (D := (dC, dI)) (ci := 7) (v := .ref h0_there) (C := RX7) (T := TX7) (N := 19) hx hb hts hiX7 hown hK hP 0 rfl rfl 6 (by decide) (hts (.fieldLink RX7 13 "ServiceDrawerModel" "there" "[Z") (by decide +kernel)) (fun _ h9 => h9) rfl dX7_many_12 ?_
        refine lv_iload_n hx hb dX7_many_15 rfl (lv_at hl 3 rfl) ?_
        obtain ⟨g2, hm⟩ := mt_gd hm
        refine va_zald hx hb hK hP 2 0 rfl rfl g2 dX7_many_16 ?_
        refine lv_if_eq (tgt := 34) hx hb dX7_many_17 (by decide) (fun c3 => ?_) (fun c3 => ?_)
        · replace hm := mt_pos c3 hm
          refine lv_iconst (v := (0 : Int32)) hx hb dX7_many_34 (by decide) ?_
          refine lv_iadd hx hb dX7_many_35 ?_
          refine lv_istore_n (lv' := [(2, .int (x2_4 + (0 : Int32))), (0, .ref h0), (1, .int p1), (3, .int x3_4)]) hx hb dX7_many_36 rfl hl (by decide) rfl (fun ls hl => ?_)
          refine lv_iinc (v := (x3_4 + (1 : Int32))) (lv' := [(3, .int (x3_4 + (1 : Int32))), (2, .int (x2_4 + (0 : Int32))), (0, .ref h0), (1, .int p1)]) hx hb dX7_many_37 hl (k := 3) rfl rfl (by decide) rfl (fun ls hl => ?_)
          refine lv_goto (tgt := 4) hx hb dX7_many_40 (by decide) ?_
          exact ih4 (x2_4 + (0 : Int32)) (x3_4 + (1 : Int32)) _ hm (lv_sub hl [2, 3, 1, 0] rfl)
        · replace hm := mt_neg c3 hm
          refine lv_aload_n hx hb dX7_many_20 rfl (lv_at hl 0 rfl) ?_
          refine va_get (D := (dC, dI)) (ci := 7) (v := .ref h0_kind) (C := RX7) (T := TX7) (N := 19) hx hb hts hiX7 hown hK hP 0 rfl rfl 5 (by decide) (hts (.fieldLink RX7 7 "ServiceDrawerModel" "kind" "[I") (by decide +kernel)) (fun _ h9 => h9) rfl dX7_many_21 ?_
          refine lv_iload_n hx hb dX7_many_24 rfl (lv_at hl 3 rfl) ?_
          obtain ⟨g4, hm⟩ := mt_gd hm
          refine va_iald hx hb hK hP 1 1 rfl rfl g4 dX7_many_25 ?_
          refine lv_iload_n hx hb dX7_many_26 rfl (lv_at hl 1 rfl) ?_
          refine lv_icmp_ne (tgt := 34) hx hb dX7_many_27 (by decide) (fun c5 => ?_) (fun c5 => ?_)
          · replace hm := mt_neg c5 hm
            refine lv_iconst (v := (0 : Int32)) hx hb dX7_many_34 (by decide) ?_
            refine lv_iadd hx hb dX7_many_35 ?_
            refine lv_istore_n (lv' := [(2, .int (x2_4 + (0 : Int32))), (0, .ref h0), (1, .int p1), (3, .int x3_4)]) hx hb dX7_many_36 rfl hl (by decide) rfl (fun ls hl => ?_)
            refine lv_iinc (v := (x3_4 + (1 : Int32))) (lv' := [(3, .int (x3_4 + (1 : Int32))), (2, .int (x2_4 + (0 : Int32))), (0, .ref h0), (1, .int p1)]) hx hb dX7_many_37 hl (k := 3) rfl rfl (by decide) rfl (fun ls hl => ?_)
            refine lv_goto (tgt := 4) hx hb dX7_many_40 (by decide) ?_
            exact ih4 (x2_4 + (0 : Int32)) (x3_4 + (1 : Int32)) _ hm (lv_sub hl [2, 3, 1, 0] rfl)
          · replace hm := mt_pos c5 hm
            refine lv_iconst (v := (1 : Int32)) hx hb dX7_many_30 (by decide) ?_
            refine lv_goto (tgt := 35) hx hb dX7_many_31 (by decide) ?_
            refine lv_iadd hx hb dX7_many_35 ?_
            refine lv_istore_n (lv' := [(2, .int (x2_4 + (1 : Int32))), (0, .ref h0), (1, .int p1), (3, .int x3_4)]) hx hb dX7_many_36 rfl hl (by decide) rfl (fun ls hl => ?_)
            refine lv_iinc (v := (x3_4 + (1 : Int32))) (lv' := [(3, .int (x3_4 + (1 : Int32))), (2, .int (x2_4 + (1 : Int32))), (0, .ref h0), (1, .int p1)]) hx hb dX7_many_37 hl (k := 3) rfl rfl (by decide) rfl (fun ls hl => ?_)
            refine lv_goto (tgt := 4) hx hb dX7_many_40 (by decide) ?_
            exact ih4 (x2_4 + (1 : Int32)) (x3_4 + (1 : Int32)) _ hm (lv_sub hl [2, 3, 1, 0] rfl)
  exact L4 fu (0 : Int32) (0 : Int32) _ hm (lv_sub hl [2, 3, 1, 0] rfl)
def m_X7_all (fu : Nat) (v_kind : Nat → Int32) (v_there : Nat → Int32) : Option (Int32) := (m_X7_many fu (0 : Int32) v_kind v_there).bind fun q1 => (m_X7_many fu (1 : Int32) v_kind v_there).bind fun q2 => (m_X7_many fu (2 : Int32) v_kind v_there).bind fun q3 => some ((q1 + q2) + q3)
set_option maxHeartbeats 4000000 in
set_option maxRecDepth 100000 in
theorem c_X7_all (l : Launch) (dC : Nat → ClassId) (dI : Nat → Nat → Nat) (cZ cI cL : ClassId) (h0 h0_kind h0_there h0_first h0_other h0_last h0_kept h0_far h0_out h0_tape : Nat) (v_thrown : Int32) (v_corners : Int32) (v_units : Int32) (v_calls : Int32) (v_seed : Int32) (v_printed : Int32) (v_taped : Int32) (v_length : Int32) (v_at : Int32) (v_wrong : Int32) (v_kind : Nat → Int32) (v_there : Nat → Int32) (v_first : Nat → Int32) (v_other : Nat → Int32) (v_last : Nat → Int32) (v_kept : Nat → Int32) (v_far : Nat → Int32) (v_out : Nat → Int32) (v_tape : Nat → Int32) (fu : Nat) (q : Int32) (hm : m_X7_all fu v_kind v_there = some q) : Met l yX7_all wsX7_all ({ frames := 1, cells := 0, slots := 0, locals := 23 }) (va_Pc [.ref h0] (mt_R (dC, dI) cZ cI cL [(h0, .inr (7, [.int v_thrown, .int v_corners, .int v_units, .int v_calls, .int v_seed, .ref h0_kind, .ref h0_there, .ref h0_first, .ref h0_other, .ref h0_last, .ref h0_kept, .ref h0_far, .ref h0_out, .int v_printed, .ref h0_tape, .int v_taped, .int v_length, .int v_at, .int v_wrong])), (h0_kind, .inl (cI, 62, .inl v_kind)), (h0_there, .inl (cZ, 62, .inl v_there)), (h0_first, .inl (cI, 62, .inl v_first)), (h0_other, .inl (cI, 62, .inl v_other)), (h0_last, .inl (cI, 62, .inl v_last)), (h0_kept, .inl (cZ, 62, .inl v_kept)), (h0_far, .inl (cI, 21, .inl v_far)), (h0_out, .inl (cI, 1200, .inl v_out)), (h0_tape, .inl (cI, 600, .inl v_tape))])) (vp_Si (fun r => r = q)) 0 0 (fun _ => False) := by
  refine Met.ofW (cc := cX7_all) (maxL := 1) (ret := (some .int)) (by decide) rfl ?_
  intro p e s m args below meth c s₁ B hml hv
  obtain ⟨rfl, hP, hC⟩ := hv
  have hx := B.exec
  have hb := B.bytes
  have hr := B.returns
  have hts := atoms_spec (ws := wsX7_all) B.pre
  have hown : s.vm.findClass RX7 = some m.cls := findClass_of_methodNamed B.named
  have hlocks := B.notSynchronized
  have hK := hC.1
  have hl := lv_entry [.ref h0] (n := 1) (Nat.le_of_ble_eq_true rfl)
  rw [lg_entry_eq]
  generalize (lg_sl [.ref h0] ++ List.replicate (1 - (lg_sl [.ref h0]).length) Slot.unset).toArray = ls at hl ⊢
  have hl : lv_has ls 1 [(0, .ref h0)] := hl
  rw [m_X7_all] at hm
  refine lv_aload_n hx hb dX7_all_0 rfl (lv_at hl 0 rfl) ?_
  refine lv_iconst (v := (0 : Int32)) hx hb dX7_all_1 (by decide) ?_
  obtain ⟨q1, hq1, hm⟩ := mt_bind hm
  refine vp_callSi (va_Run.run (va_runV (As := [.int (0 : Int32)]) (rest := []) ⟨hx, hb, hml, hown, hts⟩ (c_X7_many l dC dI cZ cI cL h0 h0_kind h0_there h0_first h0_other h0_last h0_kept h0_far h0_out h0_tape (0 : Int32) v_thrown v_corners v_units v_calls v_seed v_printed v_taped v_length v_at v_wrong v_kind v_there v_first v_other v_last v_kept v_far v_out v_tape fu q1 hq1) (cwV 1 hts gX7_all_X7_many rfl rfl rfl (by decide +kernel) ⟨Nat.le_of_ble_eq_true rfl, Nat.le_of_ble_eq_true rfl⟩) (mt_vR (q := (RX7, TX7, 19)) 7 hC (hP.sub (ws' := [(h0, .inr (7, [.int v_thrown, .int v_corners, .int v_units, .int v_calls, .int v_seed, .ref h0_kind, .ref h0_there, .ref h0_first, .ref h0_other, .ref h0_last, .ref h0_kept, .ref h0_far, .ref h0_out, .int v_printed, .ref h0_tape, .int v_taped, .int v_length, .int v_at, .int v_wrong])), (h0_kind, .inl (cI, 62, .inl v_kind)), (h0_there, .inl (cZ, 62, .inl v_there)), (h0_first, .inl (cI, 62, .inl v_first)), (h0_other, .inl (cI, 62, .inl v_other)), (h0_last, .inl (cI, 62, .inl v_last)), (h0_kept, .inl (cZ, 62, .inl v_kept)), (h0_far, .inl (cI, 21, .inl v_far)), (h0_out, .inl (cI, 1200, .inl v_out)), (h0_tape, .inl (cI, 600, .inl v_tape))]) [0, 1, 2, 3, 4, 5, 6, 7, 8, 9] rfl) rfl rfl) rfl rfl hl.1 rfl (lv_room (Nat.le_of_ble_eq_true rfl)) dX7_all_2 ⟨Nat.le_of_ble_eq_true rfl, Nat.le_of_ble_eq_true rfl⟩)) (fun r er => ?_)
  replace er := er.symm
  subst er
  refine lv_aload_n hx hb dX7_all_5 rfl (lv_at hl 0 rfl) ?_
  refine lv_iconst (v := (1 : Int32)) hx hb dX7_all_6 (by decide) ?_
  obtain ⟨q2, hq2, hm⟩ := mt_bind hm
  refine vp_callSi (va_Run.run (va_runV (As := [.int (1 : Int32)]) (rest := [.int q1]) ⟨hx, hb, hml, hown, hts⟩ (c_X7_many l dC dI cZ cI cL h0 h0_kind h0_there h0_first h0_other h0_last h0_kept h0_far h0_out h0_tape (1 : Int32) v_thrown v_corners v_units v_calls v_seed v_printed v_taped v_length v_at v_wrong v_kind v_there v_first v_other v_last v_kept v_far v_out v_tape fu q2 hq2) (cwV 1 hts gX7_all_X7_many rfl rfl rfl (by decide +kernel) ⟨Nat.le_of_ble_eq_true rfl, Nat.le_of_ble_eq_true rfl⟩) (mt_vR (q := (RX7, TX7, 19)) 7 hC (hP.sub (ws' := [(h0, .inr (7, [.int v_thrown, .int v_corners, .int v_units, .int v_calls, .int v_seed, .ref h0_kind, .ref h0_there, .ref h0_first, .ref h0_other, .ref h0_last, .ref h0_kept, .ref h0_far, .ref h0_out, .int v_printed, .ref h0_tape, .int v_taped, .int v_length, .int v_at, .int v_wrong])), (h0_kind, .inl (cI, 62, .inl v_kind)), (h0_there, .inl (cZ, 62, .inl v_there)), (h0_first, .inl (cI, 62, .inl v_first)), (h0_other, .inl (cI, 62, .inl v_other)), (h0_last, .inl (cI, 62, .inl v_last)), (h0_kept, .inl (cZ, 62, .inl v_kept)), (h0_far, .inl (cI, 21, .inl v_far)), (h0_out, .inl (cI, 1200, .inl v_out)), (h0_tape, .inl (cI, 600, .inl v_tape))]) [0, 1, 2, 3, 4, 5, 6, 7, 8, 9] rfl) rfl rfl) rfl rfl hl.1 rfl (lv_room (Nat.le_of_ble_eq_true rfl)) dX7_all_7 ⟨Nat.le_of_ble_eq_true rfl, Nat.le_of_ble_eq_true rfl⟩)) (fun r er => ?_)
  replace er := er.symm
  subst er
  refine lv_iadd hx hb dX7_all_10 ?_
  refine lv_aload_n hx hb dX7_all_11 rfl (lv_at hl 0 rfl) ?_
  refine lv_iconst (v := (2 : Int32)) hx hb dX7_all_12 (by decide) ?_
  obtain ⟨q3, hq3, hm⟩ := mt_bind hm
  refine vp_callSi (va_Run.run (va_runV (As := [.int (2 : Int32)]) (rest := [.int (q1 + q2)]) ⟨hx, hb, hml, hown, hts⟩ (c_X7_many l dC dI cZ cI cL h0 h0_kind h0_there h0_first h0_other h0_last h0_kept h0_far h0_out h0_tape (2 : Int32) v_thrown v_corners v_units v_calls v_seed v_printed v_taped v_length v_at v_wrong v_kind v_there v_first v_other v_last v_kept v_far v_out v_tape fu q3 hq3) (cwV 1 hts gX7_all_X7_many rfl rfl rfl (by decide +kernel) ⟨Nat.le_of_ble_eq_true rfl, Nat.le_of_ble_eq_true rfl⟩) (mt_vR (q := (RX7, TX7, 19)) 7 hC (hP.sub (ws' := [(h0, .inr (7, [.int v_thrown, .int v_corners, .int v_units, .int v_calls, .int v_seed, .ref h0_kind, .ref h0_there, .ref h0_first, .ref h0_other, .ref h0_last, .ref h0_kept, .ref h0_far, .ref h0_out, .int v_printed, .ref h0_tape, .int v_taped, .int v_length, .int v_at, .int v_wrong])), (h0_kind, .inl (cI, 62, .inl v_kind)), (h0_there, .inl (cZ, 62, .inl v_there)), (h0_first, .inl (cI, 62, .inl v_first)), (h0_other, .inl (cI, 62, .inl v_other)), (h0_last, .inl (cI, 62, .inl v_last)), (h0_kept, .inl (cZ, 62, .inl v_kept)), (h0_far, .inl (cI, 21, .inl v_far)), (h0_out, .inl (cI, 1200, .inl v_out)), (h0_tape, .inl (cI, 600, .inl v_tape))]) [0, 1, 2, 3, 4, 5, 6, 7, 8, 9] rfl) rfl rfl) rfl rfl hl.1 rfl (lv_room (Nat.le_of_ble_eq_true rfl)) dX7_all_13 ⟨Nat.le_of_ble_eq_true rfl, Nat.le_of_ble_eq_true rfl⟩)) (fun r er => ?_)
  replace er := er.symm
  subst er
  refine lv_iadd hx hb dX7_all_16 ?_
  obtain rfl := Option.some.inj hm
  exact W.iret hx hb hr (fun t ht hW => ⟨_, rfl, rfl, ht⟩) t_nil dX7_all_17
def m_X7_draw (fu : Nat) (p1 : Int32) (p2 : Int32) (v_corners : Int32) (v_units : Int32) (v_calls : Int32) (v_seed : Int32) (v_kind : Nat → Int32) (v_there : Nat → Int32) (v_first : Nat → Int32) (v_other : Nat → Int32) (v_last : Nat → Int32) : Option (Int32 × Int32 × Int32 × Int32 × Int32 × Int32 × (Nat → Int32) × (Nat → Int32) × (Nat → Int32) × (Nat → Int32) × (Nat → Int32)) := (m_X7_in p2 (0 : Int32) (20 : Int32)).bind fun q1 => mt_j (fun (j0_16 : Int32) => (m_X7_throwing j0_16 (0 : Int32)).bind fun q2 => if q2.1 = 0 then (m_X7_make fu p1 p2 v_kind v_there v_first v_other v_last).bind fun q4 => (m_X7_all fu q4.2.2.2.2.1 q4.2.2.2.2.2.1).bind fun q5 => some (q5, q2.2, q4.1, q4.2.1, q4.2.2.1, q4.2.2.2.1, q4.2.2.2.2.1, q4.2.2.2.2.2.1, q4.2.2.2.2.2.2.1, q4.2.2.2.2.2.2.2.1, q4.2.2.2.2.2.2.2.2) else some ((0 : Int32), q2.2, v_corners, v_units, v_calls, v_seed, v_kind, v_there, v_first, v_other, v_last)) fun K16 => if q1 = 0 then K16 (1 : Int32) else K16 (0 : Int32)
set_option maxHeartbeats 4000000 in
set_option maxRecDepth 100000 in
theorem c_X7_draw (l : Launch) (dC : Nat → ClassId) (dI : Nat → Nat → Nat) (cZ cI cL : ClassId) (h0 h0_kind h0_there h0_first h0_other h0_last h0_kept h0_far h0_out h0_tape : Nat) (sz : Nat) (p1 : Int32) (p2 : Int32) (v_thrown : Int32) (v_corners : Int32) (v_units : Int32) (v_calls : Int32) (v_seed : Int32) (v_printed : Int32) (v_taped : Int32) (v_length : Int32) (v_at : Int32) (v_wrong : Int32) (v_kind : Nat → Int32) (v_there : Nat → Int32) (v_first : Nat → Int32) (v_other : Nat → Int32) (v_last : Nat → Int32) (v_kept : Nat → Int32) (v_far : Nat → Int32) (v_out : Nat → Int32) (v_tape : Nat → Int32) (fu : Nat) (q : Int32 × Int32 × Int32 × Int32 × Int32 × Int32 × (Nat → Int32) × (Nat → Int32) × (Nat → Int32) × (Nat → Int32) × (Nat → Int32)) (hm : m_X7_draw fu p1 p2 v_corners v_units v_calls v_seed v_kind v_there v_first v_other v_last = some q) : Met l yX7_draw wsX7_draw ({ frames := 3, cells := 0, slots := 0, locals := 69 }) (va_Pc [.ref h0, .int p1, .int p2] (mt_S (dC, dI) cZ cI cL sz [(h0, .inr (7, [.int v_thrown, .int v_corners, .int v_units, .int v_calls, .int v_seed, .ref h0_kind, .ref h0_there, .ref h0_first, .ref h0_other, .ref h0_last, .ref h0_kept, .ref h0_far, .ref h0_out, .int v_printed, .ref h0_tape, .int v_taped, .int v_length, .int v_at, .int v_wrong])), (h0_kind, .inl (cI, 62, .inl v_kind)), (h0_there, .inl (cZ, 62, .inl v_there)), (h0_first, .inl (cI, 62, .inl v_first)), (h0_other, .inl (cI, 62, .inl v_other)), (h0_last, .inl (cI, 62, .inl v_last)), (h0_kept, .inl (cZ, 62, .inl v_kept)), (h0_far, .inl (cI, 21, .inl v_far)), (h0_out, .inl (cI, 1200, .inl v_out)), (h0_tape, .inl (cI, 600, .inl v_tape))])) (va_Qi (fun (r : Int32) (_ : Unit) => r = q.1) (fun _ t => va_P (dC, dI) vwCl [(h0, .inr (7, [.int q.2.1, .int q.2.2.1, .int q.2.2.2.1, .int q.2.2.2.2.1, .int q.2.2.2.2.2.1, .ref h0_kind, .ref h0_there, .ref h0_first, .ref h0_other, .ref h0_last, .ref h0_kept, .ref h0_far, .ref h0_out, .int v_printed, .ref h0_tape, .int v_taped, .int v_length, .int v_at, .int v_wrong])), (h0_kind, .inl (cI, 62, .inl q.2.2.2.2.2.2.1)), (h0_there, .inl (cZ, 62, .inl q.2.2.2.2.2.2.2.1)), (h0_first, .inl (cI, 62, .inl q.2.2.2.2.2.2.2.2.1)), (h0_other, .inl (cI, 62, .inl q.2.2.2.2.2.2.2.2.2.1)), (h0_last, .inl (cI, 62, .inl q.2.2.2.2.2.2.2.2.2.2)), (h0_kept, .inl (cZ, 62, .inl v_kept)), (h0_far, .inl (cI, 21, .inl v_far)), (h0_out, .inl (cI, 1200, .inl v_out)), (h0_tape, .inl (cI, 600, .inl v_tape))] t.heap ∧ va_D (va_A [(h0, .inr (7, [.int v_thrown, .int v_corners, .int v_units, .int v_calls, .int v_seed, .ref h0_kind, .ref h0_there, .ref h0_first, .ref h0_other, .ref h0_last, .ref h0_kept, .ref h0_far, .ref h0_out, .int v_printed, .ref h0_tape, .int v_taped, .int v_length, .int v_at, .int v_wrong])), (h0_kind, .inl (cI, 62, .inl v_kind)), (h0_there, .inl (cZ, 62, .inl v_there)), (h0_first, .inl (cI, 62, .inl v_first)), (h0_other, .inl (cI, 62, .inl v_other)), (h0_last, .inl (cI, 62, .inl v_last)), (h0_kept, .inl (cZ, 62, .inl v_kept)), (h0_far, .inl (cI, 21, .inl v_far)), (h0_out, .inl (cI, 1200, .inl v_out)), (h0_tape, .inl (cI, 600, .inl v_tape))] sz) [(h0, .inr (7, [.int q.2.1, .int q.2.2.1, .int q.2.2.2.1, .int q.2.2.2.2.1, .int q.2.2.2.2.2.1, .ref h0_kind, .ref h0_there, .ref h0_first, .ref h0_other, .ref h0_last, .ref h0_kept, .ref h0_far, .ref h0_out, .int v_printed, .ref h0_tape, .int v_taped, .int v_length, .int v_at, .int v_wrong])), (h0_kind, .inl (cI, 62, .inl q.2.2.2.2.2.2.1)), (h0_there, .inl (cZ, 62, .inl q.2.2.2.2.2.2.2.1)), (h0_first, .inl (cI, 62, .inl q.2.2.2.2.2.2.2.2.1)), (h0_other, .inl (cI, 62, .inl q.2.2.2.2.2.2.2.2.2.1)), (h0_last, .inl (cI, 62, .inl q.2.2.2.2.2.2.2.2.2.2)), (h0_kept, .inl (cZ, 62, .inl v_kept)), (h0_far, .inl (cI, 21, .inl v_far)), (h0_out, .inl (cI, 1200, .inl v_out)), (h0_tape, .inl (cI, 600, .inl v_tape))]) (va_A [(h0, .inr (7, [.int v_thrown, .int v_corners, .int v_units, .int v_calls, .int v_seed, .ref h0_kind, .ref h0_there, .ref h0_first, .ref h0_other, .ref h0_last, .ref h0_kept, .ref h0_far, .ref h0_out, .int v_printed, .ref h0_tape, .int v_taped, .int v_length, .int v_at, .int v_wrong])), (h0_kind, .inl (cI, 62, .inl v_kind)), (h0_there, .inl (cZ, 62, .inl v_there)), (h0_first, .inl (cI, 62, .inl v_first)), (h0_other, .inl (cI, 62, .inl v_other)), (h0_last, .inl (cI, 62, .inl v_last)), (h0_kept, .inl (cZ, 62, .inl v_kept)), (h0_far, .inl (cI, 21, .inl v_far)), (h0_out, .inl (cI, 1200, .inl v_out)), (h0_tape, .inl (cI, 600, .inl v_tape))] sz)) 0 0 (va_A [(h0, .inr (7, [.int v_thrown, .int v_corners, .int v_units, .int v_calls, .int v_seed, .ref h0_kind, .ref h0_there, .ref h0_first, .ref h0_other, .ref h0_last, .ref h0_kept, .ref h0_far, .ref h0_out, .int v_printed, .ref h0_tape, .int v_taped, .int v_length, .int v_at, .int v_wrong])), (h0_kind, .inl (cI, 62, .inl v_kind)), (h0_there, .inl (cZ, 62, .inl v_there)), (h0_first, .inl (cI, 62, .inl v_first)), (h0_other, .inl (cI, 62, .inl v_other)), (h0_last, .inl (cI, 62, .inl v_last)), (h0_kept, .inl (cZ, 62, .inl v_kept)), (h0_far, .inl (cI, 21, .inl v_far)), (h0_out, .inl (cI, 1200, .inl v_out)), (h0_tape, .inl (cI, 600, .inl v_tape))] sz) := by
  refine Met.ofW (cc := cX7_draw) (maxL := 3) (ret := (some .int)) (by decide) rfl ?_
  intro p e s m args below meth c s₁ B hml hv
  obtain ⟨rfl, hsz, hP, hC, hD0⟩ := hv
  have hx := B.exec
  have hb := B.bytes
  have hr := B.returns
  have hts := atoms_spec (ws := wsX7_draw) B.pre
  have hown : s.vm.findClass RX7 = some m.cls := findClass_of_methodNamed B.named
  have hlocks := B.notSynchronized
  have hK := hC.1
  subst hsz
  have hD := hD0.self (sz := s.heap.size)
  generalize hAe : va_A [(h0, .inr (7, [.int v_thrown, .int v_corners, .int v_units, .int v_calls, .int v_seed, .ref h0_kind, .ref h0_there, .ref h0_first, .ref h0_other, .ref h0_last, .ref h0_kept, .ref h0_far, .ref h0_out, .int v_printed, .ref h0_tape, .int v_taped, .int v_length, .int v_at, .int v_wrong])), (h0_kind, .inl (cI, 62, .inl v_kind)), (h0_there, .inl (cZ, 62, .inl v_there)), (h0_first, .inl (cI, 62, .inl v_first)), (h0_other, .inl (cI, 62, .inl v_other)), (h0_last, .inl (cI, 62, .inl v_last)), (h0_kept, .inl (cZ, 62, .inl v_kept)), (h0_far, .inl (cI, 21, .inl v_far)), (h0_out, .inl (cI, 1200, .inl v_out)), (h0_tape, .inl (cI, 600, .inl v_tape))] s.heap.size = A at hD ⊢
  have hA : ∀ q : Nat, s.heap.size ≤ q → A q := fun q h => by rw [← hAe]; exact Or.inr h
  have hS : va_S A s.heap s.heap [] := va_S.rf
  have hl := lv_entry [.ref h0, .int p1, .int p2] (n := 3) (Nat.le_of_ble_eq_true rfl)
  rw [lg_entry_eq]
  generalize (lg_sl [.ref h0, .int p1, .int p2] ++ List.replicate (3 - (lg_sl [.ref h0, .int p1, .int p2]).length) Slot.unset).toArray = ls at hl ⊢
  have hl : lv_has ls 3 [(0, .ref h0), (1, .int p1), (2, .int p2)] := hl
  rw [m_X7_draw] at hm
  refine lv_aload_n hx hb dX7_draw_0 rfl (lv_at hl 0 rfl) ?_
  refine lv_iload_n hx hb dX7_draw_1 rfl (lv_at hl 2 rfl) ?_
  refine lv_iconst (v := (0 : Int32)) hx hb dX7_draw_2 (by decide) ?_
  refine lv_bipush (v := (20 : Int32)) hx hb dX7_draw_3 (by decide) ?_
  obtain ⟨q1, hq1, hm⟩ := mt_bind hm
  refine vp_callSi (va_Run.run (va_runS (As := [.int p2, .int (0 : Int32), .int (20 : Int32)]) (rest := [.ref h0]) ⟨hx, hb, hml, hown, hts⟩ (c_X7_in l dC dI cZ cI cL p2 (0 : Int32) (20 : Int32) q1 hq1) (va_cwS 3 hts gX7_draw_X7_in rfl rfl rfl (by decide +kernel) ⟨Nat.le_of_ble_eq_true rfl, Nat.le_of_ble_eq_true rfl⟩) (mt_pR hC (hP.sub (ws' := []) [] rfl)) rfl rfl hl.1 rfl (lv_room (Nat.le_of_ble_eq_true rfl)) dX7_draw_5 ⟨Nat.le_of_ble_eq_true rfl, Nat.le_of_ble_eq_true rfl⟩)) (fun r er => ?_)
  replace er := er.symm
  subst er
  obtain ⟨K16, hK16, hm⟩ := mt_jx hm
  have J16 : ∀ (j0_16 : Int32), ∀ (H : Heap) (locs : List Loc) (ls : Array Slot), K16 j0_16 = some q → va_P (dC, dI) vwCl [(h0, .inr (7, [.int v_thrown, .int v_corners, .int v_units, .int v_calls, .int v_seed, .ref h0_kind, .ref h0_there, .ref h0_first, .ref h0_other, .ref h0_last, .ref h0_kept, .ref h0_far, .ref h0_out, .int v_printed, .ref h0_tape, .int v_taped, .int v_length, .int v_at, .int v_wrong])), (h0_kind, .inl (cI, 62, .inl v_kind)), (h0_there, .inl (cZ, 62, .inl v_there)), (h0_first, .inl (cI, 62, .inl v_first)), (h0_other, .inl (cI, 62, .inl v_other)), (h0_last, .inl (cI, 62, .inl v_last)), (h0_kept, .inl (cZ, 62, .inl v_kept)), (h0_far, .inl (cI, 21, .inl v_far)), (h0_out, .inl (cI, 1200, .inl v_out)), (h0_tape, .inl (cI, 600, .inl v_tape))] H → va_D A [(h0, .inr (7, [.int v_thrown, .int v_corners, .int v_units, .int v_calls, .int v_seed, .ref h0_kind, .ref h0_there, .ref h0_first, .ref h0_other, .ref h0_last, .ref h0_kept, .ref h0_far, .ref h0_out, .int v_printed, .ref h0_tape, .int v_taped, .int v_length, .int v_at, .int v_wrong])), (h0_kind, .inl (cI, 62, .inl v_kind)), (h0_there, .inl (cZ, 62, .inl v_there)), (h0_first, .inl (cI, 62, .inl v_first)), (h0_other, .inl (cI, 62, .inl v_other)), (h0_last, .inl (cI, 62, .inl v_last)), (h0_kept, .inl (cZ, 62, .inl v_kept)), (h0_far, .inl (cI, 21, .inl v_far)), (h0_out, .inl (cI, 1200, .inl v_out)), (h0_tape, .inl (cI, 600, .inl v_tape))] → va_S A s.heap H locs → lv_has ls 3 [(0, .ref h0), (1, .int p1), (2, .int p2)] → W p l e (headSpec wsX7_draw ({ frames := 3, cells := 0, slots := 0, locals := 69 })).room s m [.ref h0, .int p1, .int p2].toArray below meth c H locs 0 0 (MQ below (va_Qi (fun (r : Int32) (_ : Unit) => r = q.1) (fun _ t => va_P (dC, dI) vwCl [(h0, .inr (7, [.int q.2.1, .int q.2.2.1, .int q.2.2.2.1, .int q.2.2.2.2.1, .int q.2.2.2.2.2.1, .ref h0_kind, .ref h0_there, .ref h0_first, .ref h0_other, .ref h0_last, .ref h0_kept, .ref h0_far, .ref h0_out, .int v_printed, .ref h0_tape, .int v_taped, .int v_length, .int v_at, .int v_wrong])), (h0_kind, .inl (cI, 62, .inl q.2.2.2.2.2.2.1)), (h0_there, .inl (cZ, 62, .inl q.2.2.2.2.2.2.2.1)), (h0_first, .inl (cI, 62, .inl q.2.2.2.2.2.2.2.2.1)), (h0_other, .inl (cI, 62, .inl q.2.2.2.2.2.2.2.2.2.1)), (h0_last, .inl (cI, 62, .inl q.2.2.2.2.2.2.2.2.2.2)), (h0_kept, .inl (cZ, 62, .inl v_kept)), (h0_far, .inl (cI, 21, .inl v_far)), (h0_out, .inl (cI, 1200, .inl v_out)), (h0_tape, .inl (cI, 600, .inl v_tape))] t.heap ∧ va_D A [(h0, .inr (7, [.int q.2.1, .int q.2.2.1, .int q.2.2.2.1, .int q.2.2.2.2.1, .int q.2.2.2.2.2.1, .ref h0_kind, .ref h0_there, .ref h0_first, .ref h0_other, .ref h0_last, .ref h0_kept, .ref h0_far, .ref h0_out, .int v_printed, .ref h0_tape, .int v_taped, .int v_length, .int v_at, .int v_wrong])), (h0_kind, .inl (cI, 62, .inl q.2.2.2.2.2.2.1)), (h0_there, .inl (cZ, 62, .inl q.2.2.2.2.2.2.2.1)), (h0_first, .inl (cI, 62, .inl q.2.2.2.2.2.2.2.2.1)), (h0_other, .inl (cI, 62, .inl q.2.2.2.2.2.2.2.2.2.1)), (h0_last, .inl (cI, 62, .inl q.2.2.2.2.2.2.2.2.2.2)), (h0_kept, .inl (cZ, 62, .inl v_kept)), (h0_far, .inl (cI, 21, .inl v_far)), (h0_out, .inl (cI, 1200, .inl v_out)), (h0_tape, .inl (cI, 600, .inl v_tape))]) A) [.ref h0, .int p1, .int p2].toArray s 0 0 A) (F0 m 16 ls [.int j0_16, .ref h0]) := by
    intro j0_16 H locs ls hm hP hD hS hl
    replace hm := mt_app1 hK16 hm
    refine lv_iconst (v := (0 : Int32)) hx hb dX7_draw_16 (by decide) ?_
    obtain ⟨q2, hq2, hm⟩ := mt_bind hm
    refine mt_calli (wr := []) hP hD hS hA [0, 1, 2, 3, 4, 5, 6, 7, 8, 9] [] rfl rfl (by decide) (by decide) (va_runV (As := [.int j0_16, .int (0 : Int32)]) (rest := []) ⟨hx, hb, hml, hown, hts⟩ (c_X7_throwing l dC dI cZ cI cL h0 h0_kind h0_there h0_first h0_other h0_last h0_kept h0_far h0_out h0_tape H.size j0_16 (0 : Int32) v_thrown v_corners v_units v_calls v_seed v_printed v_taped v_length v_at v_wrong v_kind v_there v_first v_other v_last v_kept v_far v_out v_tape q2 hq2) (cwV 2 hts gX7_draw_X7_throwing rfl rfl rfl (by decide +kernel) ⟨Nat.le_of_ble_eq_true rfl, Nat.le_of_ble_eq_true rfl⟩) (mt_vS (q := (RX7, TX7, 19)) 7 hC hP hD rfl rfl) rfl rfl hl.1 rfl (lv_room (Nat.le_of_ble_eq_true rfl)) dX7_draw_17 ⟨Nat.le_of_ble_eq_true rfl, Nat.le_of_ble_eq_true rfl⟩) (fun H locs hP hD hS => ?_)
    have hP : va_P (dC, dI) vwCl [(h0, .inr (7, [.int q2.2, .int v_corners, .int v_units, .int v_calls, .int v_seed, .ref h0_kind, .ref h0_there, .ref h0_first, .ref h0_other, .ref h0_last, .ref h0_kept, .ref h0_far, .ref h0_out, .int v_printed, .ref h0_tape, .int v_taped, .int v_length, .int v_at, .int v_wrong])), (h0_kind, .inl (cI, 62, .inl v_kind)), (h0_there, .inl (cZ, 62, .inl v_there)), (h0_first, .inl (cI, 62, .inl v_first)), (h0_other, .inl (cI, 62, .inl v_other)), (h0_last, .inl (cI, 62, .inl v_last)), (h0_kept, .inl (cZ, 62, .inl v_kept)), (h0_far, .inl (cI, 21, .inl v_far)), (h0_out, .inl (cI, 1200, .inl v_out)), (h0_tape, .inl (cI, 600, .inl v_tape))] H := hP.sub [0, 1, 2, 3, 4, 5, 6, 7, 8, 9] rfl
    have hD : va_D A [(h0, .inr (7, [.int q2.2, .int v_corners, .int v_units, .int v_calls, .int v_seed, .ref h0_kind, .ref h0_there, .ref h0_first, .ref h0_other, .ref h0_last, .ref h0_kept, .ref h0_far, .ref h0_out, .int v_printed, .ref h0_tape, .int v_taped, .int v_length, .int v_at, .int v_wrong])), (h0_kind, .inl (cI, 62, .inl v_kind)), (h0_there, .inl (cZ, 62, .inl v_there)), (h0_first, .inl (cI, 62, .inl v_first)), (h0_other, .inl (cI, 62, .inl v_other)), (h0_last, .inl (cI, 62, .inl v_last)), (h0_kept, .inl (cZ, 62, .inl v_kept)), (h0_far, .inl (cI, 21, .inl v_far)), (h0_out, .inl (cI, 1200, .inl v_out)), (h0_tape, .inl (cI, 600, .inl v_tape))] := hD.sub [0, 1, 2, 3, 4, 5, 6, 7, 8, 9] (by decide) rfl
    refine lv_if_eq (tgt := 25) hx hb dX7_draw_20 (by decide) (fun c3 => ?_) (fun c3 => ?_)
    · replace hm := mt_pos c3 hm
      refine lv_aload_n hx hb dX7_draw_25 rfl (lv_at hl 0 rfl) ?_
      refine lv_iload_n hx hb dX7_draw_26 rfl (lv_at hl 1 rfl) ?_
      refine lv_iload_n hx hb dX7_draw_27 rfl (lv_at hl 2 rfl) ?_
      obtain ⟨q4, hq4, hm⟩ := mt_bind hm
      refine mt_callv (wr := []) hP hD hS hA [0, 1, 2, 3, 4, 5, 6, 7, 8, 9] [] rfl rfl (by decide) (by decide) (va_runV (As := [.int p1, .int p2]) (rest := []) ⟨hx, hb, hml, hown, hts⟩ (c_X7_make l dC dI cZ cI cL h0 h0_kind h0_there h0_first h0_other h0_last h0_kept h0_far h0_out h0_tape H.size p1 p2 q2.2 v_corners v_units v_calls v_seed v_printed v_taped v_length v_at v_wrong v_kind v_there v_first v_other v_last v_kept v_far v_out v_tape fu q4 hq4) (cwV 2 hts gX7_draw_X7_make rfl rfl rfl (by decide +kernel) ⟨Nat.le_of_ble_eq_true rfl, Nat.le_of_ble_eq_true rfl⟩) (mt_vS (q := (RX7, TX7, 19)) 7 hC hP hD rfl rfl) rfl rfl hl.1 rfl (lv_room (Nat.le_of_ble_eq_true rfl)) dX7_draw_28 ⟨Nat.le_of_ble_eq_true rfl, Nat.le_of_ble_eq_true rfl⟩) (fun H locs hP hD hS => ?_)
      have hP : va_P (dC, dI) vwCl [(h0, .inr (7, [.int q2.2, .int q4.1, .int q4.2.1, .int q4.2.2.1, .int q4.2.2.2.1, .ref h0_kind, .ref h0_there, .ref h0_first, .ref h0_other, .ref h0_last, .ref h0_kept, .ref h0_far, .ref h0_out, .int v_printed, .ref h0_tape, .int v_taped, .int v_length, .int v_at, .int v_wrong])), (h0_kind, .inl (cI, 62, .inl q4.2.2.2.2.1)), (h0_there, .inl (cZ, 62, .inl q4.2.2.2.2.2.1)), (h0_first, .inl (cI, 62, .inl q4.2.2.2.2.2.2.1)), (h0_other, .inl (cI, 62, .inl q4.2.2.2.2.2.2.2.1)), (h0_last, .inl (cI, 62, .inl q4.2.2.2.2.2.2.2.2)), (h0_kept, .inl (cZ, 62, .inl v_kept)), (h0_far, .inl (cI, 21, .inl v_far)), (h0_out, .inl (cI, 1200, .inl v_out)), (h0_tape, .inl (cI, 600, .inl v_tape))] H := hP.sub [0, 1, 2, 3, 4, 5, 6, 7, 8, 9] rfl
      have hD : va_D A [(h0, .inr (7, [.int q2.2, .int q4.1, .int q4.2.1, .int q4.2.2.1, .int q4.2.2.2.1, .ref h0_kind, .ref h0_there, .ref h0_first, .ref h0_other, .ref h0_last, .ref h0_kept, .ref h0_far, .ref h0_out, .int v_printed, .ref h0_tape, .int v_taped, .int v_length, .int v_at, .int v_wrong])), (h0_kind, .inl (cI, 62, .inl q4.2.2.2.2.1)), (h0_there, .inl (cZ, 62, .inl q4.2.2.2.2.2.1)), (h0_first, .inl (cI, 62, .inl q4.2.2.2.2.2.2.1)), (h0_other, .inl (cI, 62, .inl q4.2.2.2.2.2.2.2.1)), (h0_last, .inl (cI, 62, .inl q4.2.2.2.2.2.2.2.2)), (h0_kept, .inl (cZ, 62, .inl v_kept)), (h0_far, .inl (cI, 21, .inl v_far)), (h0_out, .inl (cI, 1200, .inl v_out)), (h0_tape, .inl (cI, 600, .inl v_tape))] := hD.sub [0, 1, 2, 3, 4, 5, 6, 7, 8, 9] (by decide) rfl
      refine lv_aload_n hx hb dX7_draw_31 rfl (lv_at hl 0 rfl) ?_
      obtain ⟨q5, hq5, hm⟩ := mt_bind hm
      refine vp_callSi (va_Run.run (va_runV (As := []) (rest := []) ⟨hx, hb, hml, hown, hts⟩ (c_X7_all l dC dI cZ cI cL h0 h0_kind h0_there h0_first h0_other h0_last h0_kept h0_far h0_out h0_tape q2.2 q4.1 q4.2.1 q4.2.2.1 q4.2.2.2.1 v_printed v_taped v_length v_at v_wrong q4.2.2.2.2.1 q4.2.2.2.2.2.1 q4.2.2.2.2.2.2.1 q4.2.2.2.2.2.2.2.1 q4.2.2.2.2.2.2.2.2 v_kept v_far v_out v_tape fu q5 hq5) (cwV 0 hts gX7_draw_X7_all rfl rfl rfl (by decide +kernel) ⟨Nat.le_of_ble_eq_true rfl, Nat.le_of_ble_eq_true rfl⟩) (mt_vR (q := (RX7, TX7, 19)) 7 hC (hP.sub (ws' := [(h0, .inr (7, [.int q2.2, .int q4.1, .int q4.2.1, .int q4.2.2.1, .int q4.2.2.2.1, .ref h0_kind, .ref h0_there, .ref h0_first, .ref h0_other, .ref h0_last, .ref h0_kept, .ref h0_far, .ref h0_out, .int v_printed, .ref h0_tape, .int v_taped, .int v_length, .int v_at, .int v_wrong])), (h0_kind, .inl (cI, 62, .inl q4.2.2.2.2.1)), (h0_there, .inl (cZ, 62, .inl q4.2.2.2.2.2.1)), (h0_first, .inl (cI, 62, .inl q4.2.2.2.2.2.2.1)), (h0_other, .inl (cI, 62, .inl q4.2.2.2.2.2.2.2.1)), (h0_last, .inl (cI, 62, .inl q4.2.2.2.2.2.2.2.2)), (h0_kept, .inl (cZ, 62, .inl v_kept)), (h0_far, .inl (cI, 21, .inl v_far)), (h0_out, .inl (cI, 1200, .inl v_out)), (h0_tape, .inl (cI, 600, .inl v_tape))]) [0, 1, 2, 3, 4, 5, 6, 7, 8, 9] rfl) rfl rfl) rfl rfl hl.1 rfl (lv_room (Nat.le_of_ble_eq_true rfl)) dX7_draw_32 ⟨Nat.le_of_ble_eq_true rfl, Nat.le_of_ble_eq_true rfl⟩)) (fun r er => ?_)
      replace er := er.symm
      subst er
      obtain rfl := Option.some.inj hm
      exact W.iret hx hb hr (fun t ht hW => ⟨⟨_, (), rfl, rfl, by rw [ht]; exact hP, hD⟩, hS.F ht⟩) hS.2.2 dX7_draw_35
    · replace hm := mt_neg c3 hm
      refine lv_iconst (v := (0 : Int32)) hx hb dX7_draw_23 (by decide) ?_
      obtain rfl := Option.some.inj hm
      exact W.iret hx hb hr (fun t ht hW => ⟨⟨_, (), rfl, rfl, by rw [ht]; exact hP, hD⟩, hS.F ht⟩) hS.2.2 dX7_draw_24
  refine lv_if_ne (tgt := 15) hx hb dX7_draw_8 (by decide) (fun c6 => ?_) (fun c6 => ?_)
  · replace hm := mt_neg c6 hm
    refine lv_iconst (v := (0 : Int32)) hx hb dX7_draw_15 (by decide) ?_
    exact J16 (0 : Int32) _ _ _ hm hP hD hS (lv_sub hl [0, 1, 2] rfl)
  · replace hm := mt_pos c6 hm
    refine lv_iconst (v := (1 : Int32)) hx hb dX7_draw_11 (by decide) ?_
    refine lv_goto (tgt := 16) hx hb dX7_draw_12 (by decide) ?_
    exact J16 (1 : Int32) _ _ _ hm hP hD hS (lv_sub hl [0, 1, 2] rfl)
def m_X7_isPart (p0 : Int32) : Option (Int32) := (m_X7_in p0 (0 : Int32) (61 : Int32)).bind fun q1 => if (q1 &&& 1 = q1) then some q1 else none
set_option maxHeartbeats 4000000 in
set_option maxRecDepth 100000 in
theorem c_X7_isPart (l : Launch) (dC : Nat → ClassId) (dI : Nat → Nat → Nat) (cZ cI cL : ClassId) (p0 : Int32) (q : Int32) (hm : m_X7_isPart p0 = some q) : Met l yX7_isPart wsX7_isPart ({ frames := 1, cells := 0, slots := 0, locals := 22 }) (va_Pc [.int p0] (mt_R (dC, dI) cZ cI cL [])) (vp_Si (fun r => r = q)) 0 0 (fun _ => False) := by
  refine Met.ofW (cc := cX7_isPart) (maxL := 1) (ret := (some .boolean)) (by decide) rfl ?_
  intro p e s m args below meth c s₁ B hml hv
  obtain ⟨rfl, hP, hC⟩ := hv
  have hx := B.exec
  have hb := B.bytes
  have hr := B.returns
  have hts := atoms_spec (ws := wsX7_isPart) B.pre
  have hown : s.vm.findClass RX7 = some m.cls := findClass_of_methodNamed B.named
  have hlocks := B.notSynchronized
  have hK := hC.1
  have hl := lv_entry [.int p0] (n := 1) (Nat.le_of_ble_eq_true rfl)
  rw [lg_entry_eq]
  generalize (lg_sl [.int p0] ++ List.replicate (1 - (lg_sl [.int p0]).length) Slot.unset).toArray = ls at hl ⊢
  have hl : lv_has ls 1 [(0, .int p0)] := hl
  rw [m_X7_isPart] at hm
  refine lv_iload_n hx hb dX7_isPart_0 rfl (lv_at hl 0 rfl) ?_
  refine lv_iconst (v := (0 : Int32)) hx hb dX7_isPart_1 (by decide) ?_
  refine lv_bipush (v := (61 : Int32)) hx hb dX7_isPart_2 (by decide) ?_
  obtain ⟨q1, hq1, hm⟩ := mt_bind hm
  refine vp_callSi (va_Run.run (va_runS (As := [.int p0, .int (0 : Int32), .int (61 : Int32)]) (rest := []) ⟨hx, hb, hml, hown, hts⟩ (c_X7_in l dC dI cZ cI cL p0 (0 : Int32) (61 : Int32) q1 hq1) (va_cwS 3 hts gX7_isPart_X7_in rfl rfl rfl (by decide +kernel) ⟨Nat.le_of_ble_eq_true rfl, Nat.le_of_ble_eq_true rfl⟩) (mt_pR hC (hP.sub (ws' := []) [] rfl)) rfl rfl hl.1 rfl (lv_room (Nat.le_of_ble_eq_true rfl)) dX7_isPart_4 ⟨Nat.le_of_ble_eq_true rfl, Nat.le_of_ble_eq_true rfl⟩)) (fun r er => ?_)
  replace er := er.symm
  subst er
  obtain ⟨g2, hm⟩ := mt_gd hm
  obtain rfl := Option.some.inj hm
  exact W.zret hx hb hr (mt_zn g2) (fun t ht hW => ⟨_, rfl, rfl, ht⟩) t_nil dX7_isPart_7
def m_X7_part (p1 : Int32) (p2 : Int32) (v_kind : Nat → Int32) (v_there : Nat → Int32) (v_first : Nat → Int32) (v_other : Nat → Int32) (v_last : Nat → Int32) : Option (Int32 × Int32) := (m_X7_isPart p1).bind fun q1 => mt_j (fun (j0_22 : Int32) => (m_X7_throwing j0_22 (0 : Int32)).bind fun q2 => if q2.1 = 0 then if p2 = 0 then if (¬ (p1 < 0 ∨ 62 ≤ p1.toNatClampNeg)) then if (v_there p1.toNatClampNeg) = 0 then some ((0 : Int32), q2.2) else some ((1 : Int32), q2.2) else none else if p2 = (1 : Int32) then if (¬ (p1 < 0 ∨ 62 ≤ p1.toNatClampNeg)) then some ((v_kind p1.toNatClampNeg), q2.2) else none else if p2 = (2 : Int32) then if (¬ (p1 < 0 ∨ 62 ≤ p1.toNatClampNeg)) then some ((v_first p1.toNatClampNeg), q2.2) else none else if p2 = (3 : Int32) then if (¬ (p1 < 0 ∨ 62 ≤ p1.toNatClampNeg)) then some ((v_other p1.toNatClampNeg), q2.2) else none else if (¬ (p1 < 0 ∨ 62 ≤ p1.toNatClampNeg)) then some ((v_last p1.toNatClampNeg), q2.2) else none else some ((0 : Int32), q2.2)) fun K22 => mt_j (fun (u17 : Unit) => K22 (1 : Int32)) fun K17 => if q1 = 0 then K17 () else (m_X7_in p2 (0 : Int32) (4 : Int32)).bind fun q15 => if q15 = 0 then K17 () else K22 (0 : Int32)
set_option maxHeartbeats 4000000 in
set_option maxRecDepth 100000 in
theorem c_X7_part (l : Launch) (dC : Nat → ClassId) (dI : Nat → Nat → Nat) (cZ cI cL : ClassId) (h0 h0_kind h0_there h0_first h0_other h0_last h0_kept h0_far h0_out h0_tape : Nat) (sz : Nat) (p1 : Int32) (p2 : Int32) (v_thrown : Int32) (v_corners : Int32) (v_units : Int32) (v_calls : Int32) (v_seed : Int32) (v_printed : Int32) (v_taped : Int32) (v_length : Int32) (v_at : Int32) (v_wrong : Int32) (v_kind : Nat → Int32) (v_there : Nat → Int32) (v_first : Nat → Int32) (v_other : Nat → Int32) (v_last : Nat → Int32) (v_kept : Nat → Int32) (v_far : Nat → Int32) (v_out : Nat → Int32) (v_tape : Nat → Int32) (q : Int32 × Int32) (hm : m_X7_part p1 p2 v_kind v_there v_first v_other v_last = some q) : Met l yX7_part wsX7_part ({ frames := 2, cells := 0, slots := 0, locals := 42 }) (va_Pc [.ref h0, .int p1, .int p2] (mt_S (dC, dI) cZ cI cL sz [(h0, .inr (7, [.int v_thrown, .int v_corners, .int v_units, .int v_calls, .int v_seed, .ref h0_kind, .ref h0_there, .ref h0_first, .ref h0_other, .ref h0_last, .ref h0_kept, .ref h0_far, .ref h0_out, .int v_printed, .ref h0_tape, .int v_taped, .int v_length, .int v_at, .int v_wrong])), (h0_kind, .inl (cI, 62, .inl v_kind)), (h0_there, .inl (cZ, 62, .inl v_there)), (h0_first, .inl (cI, 62, .inl v_first)), (h0_other, .inl (cI, 62, .inl v_other)), (h0_last, .inl (cI, 62, .inl v_last)), (h0_kept, .inl (cZ, 62, .inl v_kept)), (h0_far, .inl (cI, 21, .inl v_far)), (h0_out, .inl (cI, 1200, .inl v_out)), (h0_tape, .inl (cI, 600, .inl v_tape))])) (va_Qi (fun (r : Int32) (_ : Unit) => r = q.1) (fun _ t => va_P (dC, dI) vwCl [(h0, .inr (7, [.int q.2, .int v_corners, .int v_units, .int v_calls, .int v_seed, .ref h0_kind, .ref h0_there, .ref h0_first, .ref h0_other, .ref h0_last, .ref h0_kept, .ref h0_far, .ref h0_out, .int v_printed, .ref h0_tape, .int v_taped, .int v_length, .int v_at, .int v_wrong])), (h0_kind, .inl (cI, 62, .inl v_kind)), (h0_there, .inl (cZ, 62, .inl v_there)), (h0_first, .inl (cI, 62, .inl v_first)), (h0_other, .inl (cI, 62, .inl v_other)), (h0_last, .inl (cI, 62, .inl v_last)), (h0_kept, .inl (cZ, 62, .inl v_kept)), (h0_far, .inl (cI, 21, .inl v_far)), (h0_out, .inl (cI, 1200, .inl v_out)), (h0_tape, .inl (cI, 600, .inl v_tape))] t.heap ∧ va_D (va_A [(h0, .inr (7, [.int v_thrown, .int v_corners, .int v_units, .int v_calls, .int v_seed, .ref h0_kind, .ref h0_there, .ref h0_first, .ref h0_other, .ref h0_last, .ref h0_kept, .ref h0_far, .ref h0_out, .int v_printed, .ref h0_tape, .int v_taped, .int v_length, .int v_at, .int v_wrong])), (h0_kind, .inl (cI, 62, .inl v_kind)), (h0_there, .inl (cZ, 62, .inl v_there)), (h0_first, .inl (cI, 62, .inl v_first)), (h0_other, .inl (cI, 62, .inl v_other)), (h0_last, .inl (cI, 62, .inl v_last)), (h0_kept, .inl (cZ, 62, .inl v_kept)), (h0_far, .inl (cI, 21, .inl v_far)), (h0_out, .inl (cI, 1200, .inl v_out)), (h0_tape, .inl (cI, 600, .inl v_tape))] sz) [(h0, .inr (7, [.int q.2, .int v_corners, .int v_units, .int v_calls, .int v_seed, .ref h0_kind, .ref h0_there, .ref h0_first, .ref h0_other, .ref h0_last, .ref h0_kept, .ref h0_far, .ref h0_out, .int v_printed, .ref h0_tape, .int v_taped, .int v_length, .int v_at, .int v_wrong])), (h0_kind, .inl (cI, 62, .inl v_kind)), (h0_there, .inl (cZ, 62, .inl v_there)), (h0_first, .inl (cI, 62, .inl v_first)), (h0_other, .inl (cI, 62, .inl v_other)), (h0_last, .inl (cI, 62, .inl v_last)), (h0_kept, .inl (cZ, 62, .inl v_kept)), (h0_far, .inl (cI, 21, .inl v_far)), (h0_out, .inl (cI, 1200, .inl v_out)), (h0_tape, .inl (cI, 600, .inl v_tape))]) (va_A [(h0, .inr (7, [.int v_thrown, .int v_corners, .int v_units, .int v_calls, .int v_seed, .ref h0_kind, .ref h0_there, .ref h0_first, .ref h0_other, .ref h0_last, .ref h0_kept, .ref h0_far, .ref h0_out, .int v_printed, .ref h0_tape, .int v_taped, .int v_length, .int v_at, .int v_wrong])), (h0_kind, .inl (cI, 62, .inl v_kind)), (h0_there, .inl (cZ, 62, .inl v_there)), (h0_first, .inl (cI, 62, .inl v_first)), (h0_other, .inl (cI, 62, .inl v_other)), (h0_last, .inl (cI, 62, .inl v_last)), (h0_kept, .inl (cZ, 62, .inl v_kept)), (h0_far, .inl (cI, 21, .inl v_far)), (h0_out, .inl (cI, 1200, .inl v_out)), (h0_tape, .inl (cI, 600, .inl v_tape))] sz)) 0 0 (va_A [(h0, .inr (7, [.int v_thrown, .int v_corners, .int v_units, .int v_calls, .int v_seed, .ref h0_kind, .ref h0_there, .ref h0_first, .ref h0_other, .ref h0_last, .ref h0_kept, .ref h0_far, .ref h0_out, .int v_printed, .ref h0_tape, .int v_taped, .int v_length, .int v_at, .int v_wrong])), (h0_kind, .inl (cI, 62, .inl v_kind)), (h0_there, .inl (cZ, 62, .inl v_there)), (h0_first, .inl (cI, 62, .inl v_first)), (h0_other, .inl (cI, 62, .inl v_other)), (h0_last, .inl (cI, 62, .inl v_last)), (h0_kept, .inl (cZ, 62, .inl v_kept)), (h0_far, .inl (cI, 21, .inl v_far)), (h0_out, .inl (cI, 1200, .inl v_out)), (h0_tape, .inl (cI, 600, .inl v_tape))] sz) := by
  refine Met.ofW (cc := cX7_part) (maxL := 3) (ret := (some .int)) (by decide) rfl ?_
  intro p e s m args below meth c s₁ B hml hv
  obtain ⟨rfl, hsz, hP, hC, hD0⟩ := hv
  have hx := B.exec
  have hb := B.bytes
  have hr := B.returns
  have hts := atoms_spec (ws := wsX7_part) B.pre
  have hown : s.vm.findClass RX7 = some m.cls := findClass_of_methodNamed B.named
  have hlocks := B.notSynchronized
  have hK := hC.1
  have hiX7 : ∀ w ∈ wsX70, w ∈ wsX7_part := by decide +kernel
  subst hsz
  have hD := hD0.self (sz := s.heap.size)
  generalize hAe : va_A [(h0, .inr (7, [.int v_thrown, .int v_corners, .int v_units, .int v_calls, .int v_seed, .ref h0_kind, .ref h0_there, .ref h0_first, .ref h0_other, .ref h0_last, .ref h0_kept, .ref h0_far, .ref h0_out, .int v_printed, .ref h0_tape, .int v_taped, .int v_length, .int v_at, .int v_wrong])), (h0_kind, .inl (cI, 62, .inl v_kind)), (h0_there, .inl (cZ, 62, .inl v_there)), (h0_first, .inl (cI, 62, .inl v_first)), (h0_other, .inl (cI, 62, .inl v_other)), (h0_last, .inl (cI, 62, .inl v_last)), (h0_kept, .inl (cZ, 62, .inl v_kept)), (h0_far, .inl (cI, 21, .inl v_far)), (h0_out, .inl (cI, 1200, .inl v_out)), (h0_tape, .inl (cI, 600, .inl v_tape))] s.heap.size = A at hD ⊢
  have hA : ∀ q : Nat, s.heap.size ≤ q → A q := fun q h => by rw [← hAe]; exact Or.inr h
  have hS : va_S A s.heap s.heap [] := va_S.rf
  have hl := lv_entry [.ref h0, .int p1, .int p2] (n := 3) (Nat.le_of_ble_eq_true rfl)
  rw [lg_entry_eq]
  generalize (lg_sl [.ref h0, .int p1, .int p2] ++ List.replicate (3 - (lg_sl [.ref h0, .int p1, .int p2]).length) Slot.unset).toArray = ls at hl ⊢
  have hl : lv_has ls 3 [(0, .ref h0), (1, .int p1), (2, .int p2)] := hl
  rw [m_X7_part] at hm
  refine lv_aload_n hx hb dX7_part_0 rfl (lv_at hl 0 rfl) ?_
  refine lv_iload_n hx hb dX7_part_1 rfl (lv_at hl 1 rfl) ?_
  obtain ⟨q1, hq1, hm⟩ := mt_bind hm
  refine vp_callSi (va_Run.run (va_runS (As := [.int p1]) (rest := [.ref h0]) ⟨hx, hb, hml, hown, hts⟩ (c_X7_isPart l dC dI cZ cI cL p1 q1 hq1) (va_cwS 1 hts gX7_part_X7_isPart rfl rfl rfl (by decide +kernel) ⟨Nat.le_of_ble_eq_true rfl, Nat.le_of_ble_eq_true rfl⟩) (mt_pR hC (hP.sub (ws' := []) [] rfl)) rfl rfl hl.1 rfl (lv_room (Nat.le_of_ble_eq_true rfl)) dX7_part_2 ⟨Nat.le_of_ble_eq_true rfl, Nat.le_of_ble_eq_true rfl⟩)) (fun r er => ?_)
  replace er := er.symm
  subst er
  obtain ⟨K22, hK22, hm⟩ := mt_jx hm
  have J22 : ∀ (j0_22 : Int32), ∀ (H : Heap) (locs : List Loc) (ls : Array Slot), K22 j0_22 = some q → va_P (dC, dI) vwCl [(h0, .inr (7, [.int v_thrown, .int v_corners, .int v_units, .int v_calls, .int v_seed, .ref h0_kind, .ref h0_there, .ref h0_first, .ref h0_other, .ref h0_last, .ref h0_kept, .ref h0_far, .ref h0_out, .int v_printed, .ref h0_tape, .int v_taped, .int v_length, .int v_at, .int v_wrong])), (h0_kind, .inl (cI, 62, .inl v_kind)), (h0_there, .inl (cZ, 62, .inl v_there)), (h0_first, .inl (cI, 62, .inl v_first)), (h0_other, .inl (cI, 62, .inl v_other)), (h0_last, .inl (cI, 62, .inl v_last)), (h0_kept, .inl (cZ, 62, .inl v_kept)), (h0_far, .inl (cI, 21, .inl v_far)), (h0_out, .inl (cI, 1200, .inl v_out)), (h0_tape, .inl (cI, 600, .inl v_tape))] H → va_D A [(h0, .inr (7, [.int v_thrown, .int v_corners, .int v_units, .int v_calls, .int v_seed, .ref h0_kind, .ref h0_there, .ref h0_first, .ref h0_other, .ref h0_last, .ref h0_kept, .ref h0_far, .ref h0_out, .int v_printed, .ref h0_tape, .int v_taped, .int v_length, .int v_at, .int v_wrong])), (h0_kind, .inl (cI, 62, .inl v_kind)), (h0_there, .inl (cZ, 62, .inl v_there)), (h0_first, .inl (cI, 62, .inl v_first)), (h0_other, .inl (cI, 62, .inl v_other)), (h0_last, .inl (cI, 62, .inl v_last)), (h0_kept, .inl (cZ, 62, .inl v_kept)), (h0_far, .inl (cI, 21, .inl v_far)), (h0_out, .inl (cI, 1200, .inl v_out)), (h0_tape, .inl (cI, 600, .inl v_tape))] → va_S A s.heap H locs → lv_has ls 3 [(0, .ref h0), (1, .int p1), (2, .int p2)] → W p l e (headSpec wsX7_part ({ frames := 2, cells := 0, slots := 0, locals := 42 })).room s m [.ref h0, .int p1, .int p2].toArray below meth c H locs 0 0 (MQ below (va_Qi (fun (r : Int32) (_ : Unit) => r = q.1) (fun _ t => va_P (dC, dI) vwCl [(h0, .inr (7, [.int q.2, .int v_corners, .int v_units, .int v_calls, .int v_seed, .ref h0_kind, .ref h0_there, .ref h0_first, .ref h0_other, .ref h0_last, .ref h0_kept, .ref h0_far, .ref h0_out, .int v_printed, .ref h0_tape, .int v_taped, .int v_length, .int v_at, .int v_wrong])), (h0_kind, .inl (cI, 62, .inl v_kind)), (h0_there, .inl (cZ, 62, .inl v_there)), (h0_first, .inl (cI, 62, .inl v_first)), (h0_other, .inl (cI, 62, .inl v_other)), (h0_last, .inl (cI, 62, .inl v_last)), (h0_kept, .inl (cZ, 62, .inl v_kept)), (h0_far, .inl (cI, 21, .inl v_far)), (h0_out, .inl (cI, 1200, .inl v_out)), (h0_tape, .inl (cI, 600, .inl v_tape))] t.heap ∧ va_D A [(h0, .inr (7, [.int q.2, .int v_corners, .int v_units, .int v_calls, .int v_seed, .ref h0_kind, .ref h0_there, .ref h0_first, .ref h0_other, .ref h0_last, .ref h0_kept, .ref h0_far, .ref h0_out, .int v_printed, .ref h0_tape, .int v_taped, .int v_length, .int v_at, .int v_wrong])), (h0_kind, .inl (cI, 62, .inl v_kind)), (h0_there, .inl (cZ, 62, .inl v_there)), (h0_first, .inl (cI, 62, .inl v_first)), (h0_other, .inl (cI, 62, .inl v_other)), (h0_last, .inl (cI, 62, .inl v_last)), (h0_kept, .inl (cZ, 62, .inl v_kept)), (h0_far, .inl (cI, 21, .inl v_far)), (h0_out, .inl (cI, 1200, .inl v_out)), (h0_tape, .inl (cI, 600, .inl v_tape))]) A) [.ref h0, .int p1, .int p2].toArray s 0 0 A) (F0 m 22 ls [.int j0_22, .ref h0]) := by
    intro j0_22 H locs ls hm hP hD hS hl
    replace hm := mt_app1 hK22 hm
    refine lv_iconst (v := (0 : Int32)) hx hb dX7_part_22 (by decide) ?_
    obtain ⟨q2, hq2, hm⟩ := mt_bind hm
    refine mt_calli (wr := []) hP hD hS hA [0, 1, 2, 3, 4, 5, 6, 7, 8, 9] [] rfl rfl (by decide) (by decide) (va_runV (As := [.int j0_22, .int (0 : Int32)]) (rest := []) ⟨hx, hb, hml, hown, hts⟩ (c_X7_throwing l dC dI cZ cI cL h0 h0_kind h0_there h0_first h0_other h0_last h0_kept h0_far h0_out h0_tape H.size j0_22 (0 : Int32) v_thrown v_corners v_units v_calls v_seed v_printed v_taped v_length v_at v_wrong v_kind v_there v_first v_other v_last v_kept v_far v_out v_tape q2 hq2) (cwV 2 hts gX7_part_X7_throwing rfl rfl rfl (by decide +kernel) ⟨Nat.le_of_ble_eq_true rfl, Nat.le_of_ble_eq_true rfl⟩) (mt_vS (q := (RX7, TX7, 19)) 7 hC hP hD rfl rfl) rfl rfl hl.1 rfl (lv_room (Nat.le_of_ble_eq_true rfl)) dX7_part_23 ⟨Nat.le_of_ble_eq_true rfl, Nat.le_of_ble_eq_true rfl⟩) (fun H locs hP hD hS => ?_)
    have hP : va_P (dC, dI) vwCl [(h0, .inr (7, [.int q2.2, .int v_corners, .int v_units, .int v_calls, .int v_seed, .ref h0_kind, .ref h0_there, .ref h0_first, .ref h0_other, .ref h0_last, .ref h0_kept, .ref h0_far, .ref h0_out, .int v_printed, .ref h0_tape, .int v_taped, .int v_length, .int v_at, .int v_wrong])), (h0_kind, .inl (cI, 62, .inl v_kind)), (h0_there, .inl (cZ, 62, .inl v_there)), (h0_first, .inl (cI, 62, .inl v_first)), (h0_other, .inl (cI, 62, .inl v_other)), (h0_last, .inl (cI, 62, .inl v_last)), (h0_kept, .inl (cZ, 62, .inl v_kept)), (h0_far, .inl (cI, 21, .inl v_far)), (h0_out, .inl (cI, 1200, .inl v_out)), (h0_tape, .inl (cI, 600, .inl v_tape))] H := hP.sub [0, 1, 2, 3, 4, 5, 6, 7, 8, 9] rfl
    have hD : va_D A [(h0, .inr (7, [.int q2.2, .int v_corners, .int v_units, .int v_calls, .int v_seed, .ref h0_kind, .ref h0_there, .ref h0_first, .ref h0_other, .ref h0_last, .ref h0_kept, .ref h0_far, .ref h0_out, .int v_printed, .ref h0_tape, .int v_taped, .int v_length, .int v_at, .int v_wrong])), (h0_kind, .inl (cI, 62, .inl v_kind)), (h0_there, .inl (cZ, 62, .inl v_there)), (h0_first, .inl (cI, 62, .inl v_first)), (h0_other, .inl (cI, 62, .inl v_other)), (h0_last, .inl (cI, 62, .inl v_last)), (h0_kept, .inl (cZ, 62, .inl v_kept)), (h0_far, .inl (cI, 21, .inl v_far)), (h0_out, .inl (cI, 1200, .inl v_out)), (h0_tape, .inl (cI, 600, .inl v_tape))] := hD.sub [0, 1, 2, 3, 4, 5, 6, 7, 8, 9] (by decide) rfl
    refine lv_if_eq (tgt := 31) hx hb dX7_part_26 (by decide) (fun c3 => ?_) (fun c3 => ?_)
    · replace hm := mt_pos c3 hm
      refine lv_iload_n hx hb dX7_part_31 rfl (lv_at hl 2 rfl) ?_
      refine lv_if_ne (tgt := 52) hx hb dX7_part_32 (by decide) (fun c4 => ?_) (fun c4 => ?_)
      · replace hm := mt_neg c4 hm
        refine lv_iload_n hx hb dX7_part_52 rfl (lv_at hl 2 rfl) ?_
        refine lv_iconst (v := (1 : Int32)) hx hb dX7_part_53 (by decide) ?_
        refine lv_icmp_ne (tgt := 66) hx hb dX7_part_54 (by decide) (fun c5 => ?_) (fun c5 => ?_)
        · replace hm := mt_neg c5 hm
          refine lv_iload_n hx hb dX7_part_66 rfl (lv_at hl 2 rfl) ?_
          refine lv_iconst (v := (2 : Int32)) hx hb dX7_part_67 (by decide) ?_
          refine lv_icmp_ne (tgt := 80) hx hb dX7_part_68 (by decide) (fun c6 => ?_) (fun c6 => ?_)
          · replace hm := mt_neg c6 hm
            refine lv_iload_n hx hb dX7_part_80 rfl (lv_at hl 2 rfl) ?_
            refine lv_iconst (v := (3 : Int32)) hx hb dX7_part_81 (by decide) ?_
            refine lv_icmp_ne (tgt := 94) hx hb dX7_part_82 (by decide) (fun c7 => ?_) (fun c7 => ?_)
            · replace hm := mt_neg c7 hm
              refine lv_aload_n hx hb dX7_part_94 rfl (lv_at hl 0 rfl) ?_
              refine va_get (D := (dC, dI)) (ci := 7) (v := .ref h0_last) (C := RX7) (T := TX7) (N := 19) hx hb hts hiX7 hown hK hP 0 rfl rfl 9 (by decide) (hts (.fieldLink RX7 23 "ServiceDrawerModel" "last" "[I") (by decide +kernel)) (fun _ h9 => h9) rfl dX7_part_95 ?_
              refine lv_iload_n hx hb dX7_part_98 rfl (lv_at hl 1 rfl) ?_
              obtain ⟨g8, hm⟩ := mt_gd hm
              refine va_iald hx hb hK hP 5 1 rfl rfl g8 dX7_part_99 ?_
              obtain rfl := Option.some.inj hm
              exact W.iret hx hb hr (fun t ht hW => ⟨⟨_, (), rfl, rfl, by rw [ht]; exact hP, hD⟩, hS.F ht⟩) hS.2.2 dX7_part_100
            · replace hm := mt_pos c7 hm
              refine lv_aload_n hx hb dX7_part_85 rfl (lv_at hl 0 rfl) ?_
              refine va_get (D := (dC, dI)) (ci := 7) (v := .ref h0_other) (C := RX7) (T := TX7) (N := 19) hx hb hts hiX7 hown hK hP 0 rfl rfl 8 (by decide) (hts (.fieldLink RX7 20 "ServiceDrawerModel" "other" "[I") (by decide +kernel)) (fun _ h9 => h9) rfl dX7_part_86 ?_
              refine lv_iload_n hx hb dX7_part_89 rfl (lv_at hl 1 rfl) ?_
              obtain ⟨g9, hm⟩ := mt_gd hm
              refine va_iald hx hb hK hP 4 1 rfl rfl g9 dX7_part_90 ?_
              refine lv_goto (tgt := 100) hx hb dX7_part_91 (by decide) ?_
              obtain rfl := Option.some.inj hm
              exact W.iret hx hb hr (fun t ht hW => ⟨⟨_, (), rfl, rfl, by rw [ht]; exact hP, hD⟩, hS.F ht⟩) hS.2.2 dX7_part_100
          · replace hm := mt_pos c6 hm
            refine lv_aload_n hx hb dX7_part_71 rfl (lv_at hl 0 rfl) ?_
            refine va_get (D := (dC, dI)) (ci := 7) (v := .ref h0_first) (C := RX7) (T := TX7) (N := 19) hx hb hts hiX7 hown hK hP 0 rfl rfl 7 (by decide) (hts (.fieldLink RX7 17 "ServiceDrawerModel" "first" "[I") (by decide +kernel)) (fun _ h9 => h9) rfl dX7_part_72 ?_
            refine lv_iload_n hx hb dX7_part_75 rfl (lv_at hl 1 rfl) ?_
            obtain ⟨g10, hm⟩ := mt_gd hm
            refine va_iald hx hb hK hP 3 1 rfl rfl g10 dX7_part_76 ?_
            refine lv_goto (tgt := 100) hx hb dX7_part_77 (by decide) ?_
            obtain rfl := Option.some.inj hm
            exact W.iret hx hb hr (fun t ht hW => ⟨⟨_, (), rfl, rfl, by rw [ht]; exact hP, hD⟩, hS.F ht⟩) hS.2.2 dX7_part_100
        · replace hm := mt_pos c5 hm
          refine lv_aload_n hx hb dX7_part_57 rfl (lv_at hl 0 rfl) ?_
          refine va_get (D := (dC, dI)) (ci := 7) (v := .ref h0_kind) (C := RX7) (T := TX7) (N := 19) hx hb hts hiX7 hown hK hP 0 rfl rfl 5 (by decide) (hts (.fieldLink RX7 7 "ServiceDrawerModel" "kind" "[I") (by decide +kernel)) (fun _ h9 => h9) rfl dX7_part_58 ?_
          refine lv_iload_n hx hb dX7_part_61 rfl (lv_at hl 1 rfl) ?_
          obtain ⟨g11, hm⟩ := mt_gd hm
          refine va_iald hx hb hK hP 1 1 rfl rfl g11 dX7_part_62 ?_
          refine lv_goto (tgt := 100) hx hb dX7_part_63 (by decide) ?_
          obtain rfl := Option.some.inj hm
          exact W.iret hx hb hr (fun t ht hW => ⟨⟨_, (), rfl, rfl, by rw [ht]; exact hP, hD⟩, hS.F ht⟩) hS.2.2 dX7_part_100
      · replace hm := mt_pos c4 hm
        refine lv_aload_n hx hb dX7_part_35 rfl (lv_at hl 0 rfl) ?_
        refine va_get (D := (dC, dI)) (ci := 7) (v := .ref h0_there) (C := RX7) (T := TX7) (N := 19) hx hb hts hiX7 hown hK hP 0 rfl rfl 6 (by decide) (hts (.fieldLink RX7 13 "ServiceDrawerModel" "there" "[Z") (by decide +kernel)) (fun _ h9 => h9) rfl dX7_part_36 ?_
        refine lv_iload_n hx hb dX7_part_39 rfl (lv_at hl 1 rfl) ?_
        obtain ⟨g12, hm⟩ := mt_gd hm
        refine va_zald hx hb hK hP 2 0 rfl rfl g12 dX7_part_40 ?_
        refine lv_if_eq (tgt := 48) hx hb dX7_part_41 (by decide) (fun c13 => ?_) (fun c13 => ?_)
        · replace hm := mt_pos c13 hm
          refine lv_iconst (v := (0 : Int32)) hx hb dX7_part_48 (by decide) ?_
          refine lv_goto (tgt := 100) hx hb dX7_part_49 (by decide) ?_
          obtain rfl := Option.some.inj hm
          exact W.iret hx hb hr (fun t ht hW => ⟨⟨_, (), rfl, rfl, by rw [ht]; exact hP, hD⟩, hS.F ht⟩) hS.2.2 dX7_part_100
        · replace hm := mt_neg c13 hm
          refine lv_iconst (v := (1 : Int32)) hx hb dX7_part_44 (by decide) ?_
          refine lv_goto (tgt := 100) hx hb dX7_part_45 (by decide) ?_
          obtain rfl := Option.some.inj hm
          exact W.iret hx hb hr (fun t ht hW => ⟨⟨_, (), rfl, rfl, by rw [ht]; exact hP, hD⟩, hS.F ht⟩) hS.2.2 dX7_part_100
    · replace hm := mt_neg c3 hm
      refine lv_iconst (v := (0 : Int32)) hx hb dX7_part_29 (by decide) ?_
      obtain rfl := Option.some.inj hm
      exact W.iret hx hb hr (fun t ht hW => ⟨⟨_, (), rfl, rfl, by rw [ht]; exact hP, hD⟩, hS.F ht⟩) hS.2.2 dX7_part_30
  obtain ⟨K17, hK17, hm⟩ := mt_jx hm
  have J17 : ∀ (u17 : Unit), ∀ (H : Heap) (locs : List Loc) (ls : Array Slot), K17 u17 = some q → va_P (dC, dI) vwCl [(h0, .inr (7, [.int v_thrown, .int v_corners, .int v_units, .int v_calls, .int v_seed, .ref h0_kind, .ref h0_there, .ref h0_first, .ref h0_other, .ref h0_last, .ref h0_kept, .ref h0_far, .ref h0_out, .int v_printed, .ref h0_tape, .int v_taped, .int v_length, .int v_at, .int v_wrong])), (h0_kind, .inl (cI, 62, .inl v_kind)), (h0_there, .inl (cZ, 62, .inl v_there)), (h0_first, .inl (cI, 62, .inl v_first)), (h0_other, .inl (cI, 62, .inl v_other)), (h0_last, .inl (cI, 62, .inl v_last)), (h0_kept, .inl (cZ, 62, .inl v_kept)), (h0_far, .inl (cI, 21, .inl v_far)), (h0_out, .inl (cI, 1200, .inl v_out)), (h0_tape, .inl (cI, 600, .inl v_tape))] H → va_D A [(h0, .inr (7, [.int v_thrown, .int v_corners, .int v_units, .int v_calls, .int v_seed, .ref h0_kind, .ref h0_there, .ref h0_first, .ref h0_other, .ref h0_last, .ref h0_kept, .ref h0_far, .ref h0_out, .int v_printed, .ref h0_tape, .int v_taped, .int v_length, .int v_at, .int v_wrong])), (h0_kind, .inl (cI, 62, .inl v_kind)), (h0_there, .inl (cZ, 62, .inl v_there)), (h0_first, .inl (cI, 62, .inl v_first)), (h0_other, .inl (cI, 62, .inl v_other)), (h0_last, .inl (cI, 62, .inl v_last)), (h0_kept, .inl (cZ, 62, .inl v_kept)), (h0_far, .inl (cI, 21, .inl v_far)), (h0_out, .inl (cI, 1200, .inl v_out)), (h0_tape, .inl (cI, 600, .inl v_tape))] → va_S A s.heap H locs → lv_has ls 3 [(0, .ref h0), (1, .int p1), (2, .int p2)] → W p l e (headSpec wsX7_part ({ frames := 2, cells := 0, slots := 0, locals := 42 })).room s m [.ref h0, .int p1, .int p2].toArray below meth c H locs 0 0 (MQ below (va_Qi (fun (r : Int32) (_ : Unit) => r = q.1) (fun _ t => va_P (dC, dI) vwCl [(h0, .inr (7, [.int q.2, .int v_corners, .int v_units, .int v_calls, .int v_seed, .ref h0_kind, .ref h0_there, .ref h0_first, .ref h0_other, .ref h0_last, .ref h0_kept, .ref h0_far, .ref h0_out, .int v_printed, .ref h0_tape, .int v_taped, .int v_length, .int v_at, .int v_wrong])), (h0_kind, .inl (cI, 62, .inl v_kind)), (h0_there, .inl (cZ, 62, .inl v_there)), (h0_first, .inl (cI, 62, .inl v_first)), (h0_other, .inl (cI, 62, .inl v_other)), (h0_last, .inl (cI, 62, .inl v_last)), (h0_kept, .inl (cZ, 62, .inl v_kept)), (h0_far, .inl (cI, 21, .inl v_far)), (h0_out, .inl (cI, 1200, .inl v_out)), (h0_tape, .inl (cI, 600, .inl v_tape))] t.heap ∧ va_D A [(h0, .inr (7, [.int q.2, .int v_corners, .int v_units, .int v_calls, .int v_seed, .ref h0_kind, .ref h0_there, .ref h0_first, .ref h0_other, .ref h0_last, .ref h0_kept, .ref h0_far, .ref h0_out, .int v_printed, .ref h0_tape, .int v_taped, .int v_length, .int v_at, .int v_wrong])), (h0_kind, .inl (cI, 62, .inl v_kind)), (h0_there, .inl (cZ, 62, .inl v_there)), (h0_first, .inl (cI, 62, .inl v_first)), (h0_other, .inl (cI, 62, .inl v_other)), (h0_last, .inl (cI, 62, .inl v_last)), (h0_kept, .inl (cZ, 62, .inl v_kept)), (h0_far, .inl (cI, 21, .inl v_far)), (h0_out, .inl (cI, 1200, .inl v_out)), (h0_tape, .inl (cI, 600, .inl v_tape))]) A) [.ref h0, .int p1, .int p2].toArray s 0 0 A) (F0 m 17 ls [.ref h0]) := by
    intro u17 H locs ls hm hP hD hS hl
    replace hm := mt_app1 hK17 hm
    refine lv_iconst (v := (1 : Int32)) hx hb dX7_part_17 (by decide) ?_
    refine lv_goto (tgt := 22) hx hb dX7_part_18 (by decide) ?_
    exact J22 (1 : Int32) _ _ _ hm hP hD hS (lv_sub hl [0, 1, 2] rfl)
  refine lv_if_eq (tgt := 17) hx hb dX7_part_5 (by decide) (fun c14 => ?_) (fun c14 => ?_)
  · replace hm := mt_pos c14 hm
    exact J17 () _ _ _ hm hP hD hS (lv_sub hl [0, 1, 2] rfl)
  · replace hm := mt_neg c14 hm
    refine lv_iload_n hx hb dX7_part_8 rfl (lv_at hl 2 rfl) ?_
    refine lv_iconst (v := (0 : Int32)) hx hb dX7_part_9 (by decide) ?_
    refine lv_iconst (v := (4 : Int32)) hx hb dX7_part_10 (by decide) ?_
    obtain ⟨q15, hq15, hm⟩ := mt_bind hm
    refine vp_callSi (va_Run.run (va_runS (As := [.int p2, .int (0 : Int32), .int (4 : Int32)]) (rest := [.ref h0]) ⟨hx, hb, hml, hown, hts⟩ (c_X7_in l dC dI cZ cI cL p2 (0 : Int32) (4 : Int32) q15 hq15) (va_cwS 3 hts gX7_part_X7_in rfl rfl rfl (by decide +kernel) ⟨Nat.le_of_ble_eq_true rfl, Nat.le_of_ble_eq_true rfl⟩) (mt_pR hC (hP.sub (ws' := []) [] rfl)) rfl rfl hl.1 rfl (lv_room (Nat.le_of_ble_eq_true rfl)) dX7_part_11 ⟨Nat.le_of_ble_eq_true rfl, Nat.le_of_ble_eq_true rfl⟩)) (fun r er => ?_)
    replace er := er.symm
    subst er
    refine lv_if_ne (tgt := 21) hx hb dX7_part_14 (by decide) (fun c16 => ?_) (fun c16 => ?_)
    · replace hm := mt_neg c16 hm
      refine lv_iconst (v := (0 : Int32)) hx hb dX7_part_21 (by decide) ?_
      exact J22 (0 : Int32) _ _ _ hm hP hD hS (lv_sub hl [0, 1, 2] rfl)
    · replace hm := mt_pos c16 hm
      exact J17 () _ _ _ hm hP hD hS (lv_sub hl [0, 1, 2] rfl)
def m_X7_leave (p1 : Int32) (p2 : Int32) (v_kind : Nat → Int32) (v_there : Nat → Int32) : Option (Int32 × (Nat → Int32)) := (m_X7_isPart p1).bind fun q1 => mt_j (fun (j0_32 : Int32) => mt_j (fun (j0_62 : Int32) (j1_62 : Int32) => (m_X7_throwing j1_62 j0_62).bind fun q2 => if q2.1 = 0 then mt_j (fun (j0_83 : Int32) (j1_83 : Int32) => if (¬ (j1_83 < 0 ∨ 62 ≤ j1_83.toNatClampNeg)) then some (q2.2, (upd v_there j1_83.toNatClampNeg (j0_83 &&& 1))) else none) fun K83 => if p2 = 0 then K83 (1 : Int32) p1 else K83 (0 : Int32) p1 else some (q2.2, v_there)) fun K62 => mt_j (fun (j0_61 : Int32) => K62 (0 : Int32) j0_61) fun K61 => if j0_32 = 0 then mt_j (fun (j0_52 : Int32) (j2_52 : Int32) => if (¬ (j0_52 < 0 ∨ 62 ≤ j0_52.toNatClampNeg)) then if (v_there j0_52.toNatClampNeg) = p2 then K61 j2_52 else K62 (1 : Int32) j2_52 else none) fun K52 => if j0_32 = 0 then K52 p1 j0_32 else K52 (0 : Int32) j0_32 else K61 j0_32) fun K32 => mt_j (fun (u27 : Unit) => K32 (1 : Int32)) fun K27 => if q1 = 0 then K27 () else (m_X7_isPart p1).bind fun q11 => mt_j (fun (j0_23 : Int32) => if (¬ (j0_23 < 0 ∨ 62 ≤ j0_23.toNatClampNeg)) then if 0 ≤ (v_kind j0_23.toNatClampNeg) then K32 (0 : Int32) else K27 () else none) fun K23 => if q11 = 0 then K23 (0 : Int32) else K23 p1
set_option maxHeartbeats 4000000 in
set_option maxRecDepth 100000 in
theorem c_X7_leave (l : Launch) (dC : Nat → ClassId) (dI : Nat → Nat → Nat) (cZ cI cL : ClassId) (h0 h0_kind h0_there h0_first h0_other h0_last h0_kept h0_far h0_out h0_tape : Nat) (sz : Nat) (p1 : Int32) (p2 : Int32) (v_thrown : Int32) (v_corners : Int32) (v_units : Int32) (v_calls : Int32) (v_seed : Int32) (v_printed : Int32) (v_taped : Int32) (v_length : Int32) (v_at : Int32) (v_wrong : Int32) (v_kind : Nat → Int32) (v_there : Nat → Int32) (v_first : Nat → Int32) (v_other : Nat → Int32) (v_last : Nat → Int32) (v_kept : Nat → Int32) (v_far : Nat → Int32) (v_out : Nat → Int32) (v_tape : Nat → Int32) (q : Int32 × (Nat → Int32)) (hm : m_X7_leave p1 p2 v_kind v_there = some q) : Met l yX7_leave wsX7_leave ({ frames := 2, cells := 0, slots := 0, locals := 42 }) (va_Pc [.ref h0, .int p1, .int p2] (mt_S (dC, dI) cZ cI cL sz [(h0, .inr (7, [.int v_thrown, .int v_corners, .int v_units, .int v_calls, .int v_seed, .ref h0_kind, .ref h0_there, .ref h0_first, .ref h0_other, .ref h0_last, .ref h0_kept, .ref h0_far, .ref h0_out, .int v_printed, .ref h0_tape, .int v_taped, .int v_length, .int v_at, .int v_wrong])), (h0_kind, .inl (cI, 62, .inl v_kind)), (h0_there, .inl (cZ, 62, .inl v_there)), (h0_first, .inl (cI, 62, .inl v_first)), (h0_other, .inl (cI, 62, .inl v_other)), (h0_last, .inl (cI, 62, .inl v_last)), (h0_kept, .inl (cZ, 62, .inl v_kept)), (h0_far, .inl (cI, 21, .inl v_far)), (h0_out, .inl (cI, 1200, .inl v_out)), (h0_tape, .inl (cI, 600, .inl v_tape))])) (va_Qv (fun (_ : Unit) => True) (fun _ t => va_P (dC, dI) vwCl [(h0, .inr (7, [.int q.1, .int v_corners, .int v_units, .int v_calls, .int v_seed, .ref h0_kind, .ref h0_there, .ref h0_first, .ref h0_other, .ref h0_last, .ref h0_kept, .ref h0_far, .ref h0_out, .int v_printed, .ref h0_tape, .int v_taped, .int v_length, .int v_at, .int v_wrong])), (h0_kind, .inl (cI, 62, .inl v_kind)), (h0_there, .inl (cZ, 62, .inl q.2)), (h0_first, .inl (cI, 62, .inl v_first)), (h0_other, .inl (cI, 62, .inl v_other)), (h0_last, .inl (cI, 62, .inl v_last)), (h0_kept, .inl (cZ, 62, .inl v_kept)), (h0_far, .inl (cI, 21, .inl v_far)), (h0_out, .inl (cI, 1200, .inl v_out)), (h0_tape, .inl (cI, 600, .inl v_tape))] t.heap ∧ va_D (va_A [(h0, .inr (7, [.int v_thrown, .int v_corners, .int v_units, .int v_calls, .int v_seed, .ref h0_kind, .ref h0_there, .ref h0_first, .ref h0_other, .ref h0_last, .ref h0_kept, .ref h0_far, .ref h0_out, .int v_printed, .ref h0_tape, .int v_taped, .int v_length, .int v_at, .int v_wrong])), (h0_kind, .inl (cI, 62, .inl v_kind)), (h0_there, .inl (cZ, 62, .inl v_there)), (h0_first, .inl (cI, 62, .inl v_first)), (h0_other, .inl (cI, 62, .inl v_other)), (h0_last, .inl (cI, 62, .inl v_last)), (h0_kept, .inl (cZ, 62, .inl v_kept)), (h0_far, .inl (cI, 21, .inl v_far)), (h0_out, .inl (cI, 1200, .inl v_out)), (h0_tape, .inl (cI, 600, .inl v_tape))] sz) [(h0, .inr (7, [.int q.1, .int v_corners, .int v_units, .int v_calls, .int v_seed, .ref h0_kind, .ref h0_there, .ref h0_first, .ref h0_other, .ref h0_last, .ref h0_kept, .ref h0_far, .ref h0_out, .int v_printed, .ref h0_tape, .int v_taped, .int v_length, .int v_at, .int v_wrong])), (h0_kind, .inl (cI, 62, .inl v_kind)), (h0_there, .inl (cZ, 62, .inl q.2)), (h0_first, .inl (cI, 62, .inl v_first)), (h0_other, .inl (cI, 62, .inl v_other)), (h0_last, .inl (cI, 62, .inl v_last)), (h0_kept, .inl (cZ, 62, .inl v_kept)), (h0_far, .inl (cI, 21, .inl v_far)), (h0_out, .inl (cI, 1200, .inl v_out)), (h0_tape, .inl (cI, 600, .inl v_tape))]) (va_A [(h0, .inr (7, [.int v_thrown, .int v_corners, .int v_units, .int v_calls, .int v_seed, .ref h0_kind, .ref h0_there, .ref h0_first, .ref h0_other, .ref h0_last, .ref h0_kept, .ref h0_far, .ref h0_out, .int v_printed, .ref h0_tape, .int v_taped, .int v_length, .int v_at, .int v_wrong])), (h0_kind, .inl (cI, 62, .inl v_kind)), (h0_there, .inl (cZ, 62, .inl v_there)), (h0_first, .inl (cI, 62, .inl v_first)), (h0_other, .inl (cI, 62, .inl v_other)), (h0_last, .inl (cI, 62, .inl v_last)), (h0_kept, .inl (cZ, 62, .inl v_kept)), (h0_far, .inl (cI, 21, .inl v_far)), (h0_out, .inl (cI, 1200, .inl v_out)), (h0_tape, .inl (cI, 600, .inl v_tape))] sz)) 0 0 (va_A [(h0, .inr (7, [.int v_thrown, .int v_corners, .int v_units, .int v_calls, .int v_seed, .ref h0_kind, .ref h0_there, .ref h0_first, .ref h0_other, .ref h0_last, .ref h0_kept, .ref h0_far, .ref h0_out, .int v_printed, .ref h0_tape, .int v_taped, .int v_length, .int v_at, .int v_wrong])), (h0_kind, .inl (cI, 62, .inl v_kind)), (h0_there, .inl (cZ, 62, .inl v_there)), (h0_first, .inl (cI, 62, .inl v_first)), (h0_other, .inl (cI, 62, .inl v_other)), (h0_last, .inl (cI, 62, .inl v_last)), (h0_kept, .inl (cZ, 62, .inl v_kept)), (h0_far, .inl (cI, 21, .inl v_far)), (h0_out, .inl (cI, 1200, .inl v_out)), (h0_tape, .inl (cI, 600, .inl v_tape))] sz) := by
  refine Met.ofW (cc := cX7_leave) (maxL := 4) (ret := none) (by decide) rfl ?_
  intro p e s m args below meth c s₁ B hml hv
  obtain ⟨rfl, hsz, hP, hC, hD0⟩ := hv
  have hx := B.exec
  have hb := B.bytes
  have hr := B.returns
  have hts := atoms_spec (ws := wsX7_leave) B.pre
  have hown : s.vm.findClass RX7 = some m.cls := findClass_of_methodNamed B.named
  have hlocks := B.notSynchronized
  have hK := hC.1
  have hiX7 : ∀ w ∈ wsX70, w ∈ wsX7_leave := by decide +kernel
  subst hsz
  have hD := hD0.self (sz := s.heap.size)
  generalize hAe : va_A [(h0, .inr (7, [.int v_thrown, .int v_corners, .int v_units, .int v_calls, .int v_seed, .ref h0_kind, .ref h0_there, .ref h0_first, .ref h0_other, .ref h0_last, .ref h0_kept, .ref h0_far, .ref h0_out, .int v_printed, .ref h0_tape, .int v_taped, .int v_length, .int v_at, .int v_wrong])), (h0_kind, .inl (cI, 62, .inl v_kind)), (h0_there, .inl (cZ, 62, .inl v_there)), (h0_first, .inl (cI, 62, .inl v_first)), (h0_other, .inl (cI, 62, .inl v_other)), (h0_last, .inl (cI, 62, .inl v_last)), (h0_kept, .inl (cZ, 62, .inl v_kept)), (h0_far, .inl (cI, 21, .inl v_far)), (h0_out, .inl (cI, 1200, .inl v_out)), (h0_tape, .inl (cI, 600, .inl v_tape))] s.heap.size = A at hD ⊢
  have hA : ∀ q : Nat, s.heap.size ≤ q → A q := fun q h => by rw [← hAe]; exact Or.inr h
  have hS : va_S A s.heap s.heap [] := va_S.rf
  have hl := lv_entry [.ref h0, .int p1, .int p2] (n := 4) (Nat.le_of_ble_eq_true rfl)
  rw [lg_entry_eq]
  generalize (lg_sl [.ref h0, .int p1, .int p2] ++ List.replicate (4 - (lg_sl [.ref h0, .int p1, .int p2]).length) Slot.unset).toArray = ls at hl ⊢
  have hl : lv_has ls 4 [(0, .ref h0), (1, .int p1), (2, .int p2)] := hl
  rw [m_X7_leave] at hm
  refine lv_iload_n hx hb dX7_leave_0 rfl (lv_at hl 1 rfl) ?_
  obtain ⟨q1, hq1, hm⟩ := mt_bind hm
  refine vp_callSi (va_Run.run (va_runS (As := [.int p1]) (rest := []) ⟨hx, hb, hml, hown, hts⟩ (c_X7_isPart l dC dI cZ cI cL p1 q1 hq1) (va_cwS 1 hts gX7_leave_X7_isPart rfl rfl rfl (by decide +kernel) ⟨Nat.le_of_ble_eq_true rfl, Nat.le_of_ble_eq_true rfl⟩) (mt_pR hC (hP.sub (ws' := []) [] rfl)) rfl rfl hl.1 rfl (lv_room (Nat.le_of_ble_eq_true rfl)) dX7_leave_1 ⟨Nat.le_of_ble_eq_true rfl, Nat.le_of_ble_eq_true rfl⟩)) (fun r er => ?_)
  replace er := er.symm
  subst er
  obtain ⟨K32, hK32, hm⟩ := mt_jx hm
  have J32 : ∀ (j0_32 : Int32), ∀ (H : Heap) (locs : List Loc) (ls : Array Slot), K32 j0_32 = some q → va_P (dC, dI) vwCl [(h0, .inr (7, [.int v_thrown, .int v_corners, .int v_units, .int v_calls, .int v_seed, .ref h0_kind, .ref h0_there, .ref h0_first, .ref h0_other, .ref h0_last, .ref h0_kept, .ref h0_far, .ref h0_out, .int v_printed, .ref h0_tape, .int v_taped, .int v_length, .int v_at, .int v_wrong])), (h0_kind, .inl (cI, 62, .inl v_kind)), (h0_there, .inl (cZ, 62, .inl v_there)), (h0_first, .inl (cI, 62, .inl v_first)), (h0_other, .inl (cI, 62, .inl v_other)), (h0_last, .inl (cI, 62, .inl v_last)), (h0_kept, .inl (cZ, 62, .inl v_kept)), (h0_far, .inl (cI, 21, .inl v_far)), (h0_out, .inl (cI, 1200, .inl v_out)), (h0_tape, .inl (cI, 600, .inl v_tape))] H → va_D A [(h0, .inr (7, [.int v_thrown, .int v_corners, .int v_units, .int v_calls, .int v_seed, .ref h0_kind, .ref h0_there, .ref h0_first, .ref h0_other, .ref h0_last, .ref h0_kept, .ref h0_far, .ref h0_out, .int v_printed, .ref h0_tape, .int v_taped, .int v_length, .int v_at, .int v_wrong])), (h0_kind, .inl (cI, 62, .inl v_kind)), (h0_there, .inl (cZ, 62, .inl v_there)), (h0_first, .inl (cI, 62, .inl v_first)), (h0_other, .inl (cI, 62, .inl v_other)), (h0_last, .inl (cI, 62, .inl v_last)), (h0_kept, .inl (cZ, 62, .inl v_kept)), (h0_far, .inl (cI, 21, .inl v_far)), (h0_out, .inl (cI, 1200, .inl v_out)), (h0_tape, .inl (cI, 600, .inl v_tape))] → va_S A s.heap H locs → lv_has ls 4 [(0, .ref h0), (1, .int p1), (2, .int p2)] → W p l e (headSpec wsX7_leave ({ frames := 2, cells := 0, slots := 0, locals := 42 })).room s m [.ref h0, .int p1, .int p2].toArray below meth c H locs 0 0 (MQ below (va_Qv (fun (_ : Unit) => True) (fun _ t => va_P (dC, dI) vwCl [(h0, .inr (7, [.int q.1, .int v_corners, .int v_units, .int v_calls, .int v_seed, .ref h0_kind, .ref h0_there, .ref h0_first, .ref h0_other, .ref h0_last, .ref h0_kept, .ref h0_far, .ref h0_out, .int v_printed, .ref h0_tape, .int v_taped, .int v_length, .int v_at, .int v_wrong])), (h0_kind, .inl (cI, 62, .inl v_kind)), (h0_there, .inl (cZ, 62, .inl q.2)), (h0_first, .inl (cI, 62, .inl v_first)), (h0_other, .inl (cI, 62, .inl v_other)), (h0_last, .inl (cI, 62, .inl v_last)), (h0_kept, .inl (cZ, 62, .inl v_kept)), (h0_far, .inl (cI, 21, .inl v_far)), (h0_out, .inl (cI, 1200, .inl v_out)), (h0_tape, .inl (cI, 600, .inl v_tape))] t.heap ∧ va_D A [(h0, .inr (7, [.int q.1, .int v_corners, .int v_units, .int v_calls, .int v_seed, .ref h0_kind, .ref h0_there, .ref h0_first, .ref h0_other, .ref h0_last, .ref h0_kept, .ref h0_far, .ref h0_out, .int v_printed, .ref h0_tape, .int v_taped, .int v_length, .int v_at, .int v_wrong])), (h0_kind, .inl (cI, 62, .inl v_kind)), (h0_there, .inl (cZ, 62, .inl q.2)), (h0_first, .inl (cI, 62, .inl v_first)), (h0_other, .inl (cI, 62, .inl v_other)), (h0_last, .inl (cI, 62, .inl v_last)), (h0_kept, .inl (cZ, 62, .inl v_kept)), (h0_far, .inl (cI, 21, .inl v_far)), (h0_out, .inl (cI, 1200, .inl v_out)), (h0_tape, .inl (cI, 600, .inl v_tape))]) A) [.ref h0, .int p1, .int p2].toArray s 0 0 A) (F0 m 32 ls [.int j0_32]) := by
    intro j0_32 H locs ls hm hP hD hS hl
    replace hm := mt_app1 hK32 hm
    refine lv_istore_n (lv' := [(3, .int j0_32), (0, .ref h0), (1, .int p1), (2, .int p2)]) hx hb dX7_leave_32 rfl hl (by decide) rfl (fun ls hl => ?_)
    refine lv_aload_n hx hb dX7_leave_33 rfl (lv_at hl 1 rfl) ?_
    refine lv_iload_n hx hb dX7_leave_34 rfl (lv_at hl 0 rfl) ?_
    refine lv_iload_n hx hb dX7_leave_35 rfl (lv_at hl 0 rfl) ?_
    obtain ⟨K62, hK62, hm⟩ := mt_jx hm
    have J62 : ∀ (j0_62 : Int32) (j1_62 : Int32), ∀ (H : Heap) (locs : List Loc) (ls : Array Slot), K62 j0_62 j1_62 = some q → va_P (dC, dI) vwCl [(h0, .inr (7, [.int v_thrown, .int v_corners, .int v_units, .int v_calls, .int v_seed, .ref h0_kind, .ref h0_there, .ref h0_first, .ref h0_other, .ref h0_last, .ref h0_kept, .ref h0_far, .ref h0_out, .int v_printed, .ref h0_tape, .int v_taped, .int v_length, .int v_at, .int v_wrong])), (h0_kind, .inl (cI, 62, .inl v_kind)), (h0_there, .inl (cZ, 62, .inl v_there)), (h0_first, .inl (cI, 62, .inl v_first)), (h0_other, .inl (cI, 62, .inl v_other)), (h0_last, .inl (cI, 62, .inl v_last)), (h0_kept, .inl (cZ, 62, .inl v_kept)), (h0_far, .inl (cI, 21, .inl v_far)), (h0_out, .inl (cI, 1200, .inl v_out)), (h0_tape, .inl (cI, 600, .inl v_tape))] H → va_D A [(h0, .inr (7, [.int v_thrown, .int v_corners, .int v_units, .int v_calls, .int v_seed, .ref h0_kind, .ref h0_there, .ref h0_first, .ref h0_other, .ref h0_last, .ref h0_kept, .ref h0_far, .ref h0_out, .int v_printed, .ref h0_tape, .int v_taped, .int v_length, .int v_at, .int v_wrong])), (h0_kind, .inl (cI, 62, .inl v_kind)), (h0_there, .inl (cZ, 62, .inl v_there)), (h0_first, .inl (cI, 62, .inl v_first)), (h0_other, .inl (cI, 62, .inl v_other)), (h0_last, .inl (cI, 62, .inl v_last)), (h0_kept, .inl (cZ, 62, .inl v_kept)), (h0_far, .inl (cI, 21, .inl v_far)), (h0_out, .inl (cI, 1200, .inl v_out)), (h0_tape, .inl (cI, 600, .inl v_tape))] → va_S A s.heap H locs → lv_has ls 4 [(0, .ref h0), (1, .int p1), (2, .int p2), (3, .int j0_32)] → W p l e (headSpec wsX7_leave ({ frames := 2, cells := 0, slots := 0, locals := 42 })).room s m [.ref h0, .int p1, .int p2].toArray below meth c H locs 0 0 (MQ below (va_Qv (fun (_ : Unit) => True) (fun _ t => va_P (dC, dI) vwCl [(h0, .inr (7, [.int q.1, .int v_corners, .int v_units, .int v_calls, .int v_seed, .ref h0_kind, .ref h0_there, .ref h0_first, .ref h0_other, .ref h0_last, .ref h0_kept, .ref h0_far, .ref h0_out, .int v_printed, .ref h0_tape, .int v_taped, .int v_length, .int v_at, .int v_wrong])), (h0_kind, .inl (cI, 62, .inl v_kind)), (h0_there, .inl (cZ, 62, .inl q.2)), (h0_first, .inl (cI, 62, .inl v_first)), (h0_other, .inl (cI, 62, .inl v_other)), (h0_last, .inl (cI, 62, .inl v_last)), (h0_kept, .inl (cZ, 62, .inl v_kept)), (h0_far, .inl (cI, 21, .inl v_far)), (h0_out, .inl (cI, 1200, .inl v_out)), (h0_tape, .inl (cI, 600, .inl v_tape))] t.heap ∧ va_D A [(h0, .inr (7, [.int q.1, .int v_corners, .int v_units, .int v_calls, .int v_seed, .ref h0_kind, .ref h0_there, .ref h0_first, .ref h0_other, .ref h0_last, .ref h0_kept, .ref h0_far, .ref h0_out, .int v_printed, .ref h0_tape, .int v_taped, .int v_length, .int v_at, .int v_wrong])), (h0_kind, .inl (cI, 62, .inl v_kind)), (h0_there, .inl (cZ, 62, .inl q.2)), (h0_first, .inl (cI, 62, .inl v_first)), (h0_other, .inl (cI, 62, .inl v_other)), (h0_last, .inl (cI, 62, .inl v_last)), (h0_kept, .inl (cZ, 62, .inl v_kept)), (h0_far, .inl (cI, 21, .inl v_far)), (h0_out, .inl (cI, 1200, .inl v_out)), (h0_tape, .inl (cI, 600, .inl v_tape))]) A) [.ref h0, .int p1, .int p2].toArray s 0 0 A) (F0 m 62 ls [.int j0_62, .int j1_62, .ref h0]) := by
      intro j0_62 j1_62 H locs ls hm hP hD hS hl
      replace hm := mt_app2 hK62 hm
      obtain ⟨q2, hq2, hm⟩ := mt_bind hm
      refine mt_calli (wr := []) hP hD hS hA [0, 1, 2, 3, 4, 5, 6, 7, 8, 9] [] rfl rfl (by decide) (by decide) (va_runV (As := [.int j1_62, .int j0_62]) (rest := []) ⟨hx, hb, hml, hown, hts⟩ (c_X7_throwing l dC dI cZ cI cL h0 h0_kind h0_there h0_first h0_other h0_last h0_kept h0_far h0_out h0_tape H.size j1_62 j0_62 v_thrown v_corners v_units v_calls v_seed v_printed v_taped v_length v_at v_wrong v_kind v_there v_first v_other v_last v_kept v_far v_out v_tape q2 hq2) (cwV 2 hts gX7_leave_X7_throwing rfl rfl rfl (by decide +kernel) ⟨Nat.le_of_ble_eq_true rfl, Nat.le_of_ble_eq_true rfl⟩) (mt_vS (q := (RX7, TX7, 19)) 7 hC hP hD rfl rfl) rfl rfl hl.1 rfl (lv_room (Nat.le_of_ble_eq_true rfl)) dX7_leave_62 ⟨Nat.le_of_ble_eq_true rfl, Nat.le_of_ble_eq_true rfl⟩) (fun H locs hP hD hS => ?_)
      have hP : va_P (dC, dI) vwCl [(h0, .inr (7, [.int q2.2, .int v_corners, .int v_units, .int v_calls, .int v_seed, .ref h0_kind, .ref h0_there, .ref h0_first, .ref h0_other, .ref h0_last, .ref h0_kept, .ref h0_far, .ref h0_out, .int v_printed, .ref h0_tape, .int v_taped, .int v_length, .int v_at, .int v_wrong])), (h0_kind, .inl (cI, 62, .inl v_kind)), (h0_there, .inl (cZ, 62, .inl v_there)), (h0_first, .inl (cI, 62, .inl v_first)), (h0_other, .inl (cI, 62, .inl v_other)), (h0_last, .inl (cI, 62, .inl v_last)), (h0_kept, .inl (cZ, 62, .inl v_kept)), (h0_far, .inl (cI, 21, .inl v_far)), (h0_out, .inl (cI, 1200, .inl v_out)), (h0_tape, .inl (cI, 600, .inl v_tape))] H := hP.sub [0, 1, 2, 3, 4, 5, 6, 7, 8, 9] rfl
      have hD : va_D A [(h0, .inr (7, [.int q2.2, .int v_corners, .int v_units, .int v_calls, .int v_seed, .ref h0_kind, .ref h0_there, .ref h0_first, .ref h0_other, .ref h0_last, .ref h0_kept, .ref h0_far, .ref h0_out, .int v_printed, .ref h0_tape, .int v_taped, .int v_length, .int v_at, .int v_wrong])), (h0_kind, .inl (cI, 62, .inl v_kind)), (h0_there, .inl (cZ, 62, .inl v_there)), (h0_first, .inl (cI, 62, .inl v_first)), (h0_other, .inl (cI, 62, .inl v_other)), (h0_last, .inl (cI, 62, .inl v_last)), (h0_kept, .inl (cZ, 62, .inl v_kept)), (h0_far, .inl (cI, 21, .inl v_far)), (h0_out, .inl (cI, 1200, .inl v_out)), (h0_tape, .inl (cI, 600, .inl v_tape))] := hD.sub [0, 1, 2, 3, 4, 5, 6, 7, 8, 9] (by decide) rfl
      refine lv_if_eq (tgt := 69) hx hb dX7_leave_65 (by decide) (fun c3 => ?_) (fun c3 => ?_)
      · replace hm := mt_pos c3 hm
        refine lv_aload_n hx hb dX7_leave_69 rfl (lv_at hl 0 rfl) ?_
        refine va_get (D := (dC, dI)) (ci := 7) (v := .ref h0_there) (C := RX7) (T := TX7) (N := 19) hx hb hts hiX7 hown hK hP 0 rfl rfl 6 (by decide) (hts (.fieldLink RX7 13 "ServiceDrawerModel" "there" "[Z") (by decide +kernel)) (fun _ h9 => h9) rfl dX7_leave_70 ?_
        refine lv_iload_n hx hb dX7_leave_73 rfl (lv_at hl 1 rfl) ?_
        refine lv_iload_n hx hb dX7_leave_74 rfl (lv_at hl 2 rfl) ?_
        obtain ⟨K83, hK83, hm⟩ := mt_jx hm
        have J83 : ∀ (j0_83 : Int32) (j1_83 : Int32), ∀ (H : Heap) (locs : List Loc) (ls : Array Slot), K83 j0_83 j1_83 = some q → va_P (dC, dI) vwCl [(h0, .inr (7, [.int q2.2, .int v_corners, .int v_units, .int v_calls, .int v_seed, .ref h0_kind, .ref h0_there, .ref h0_first, .ref h0_other, .ref h0_last, .ref h0_kept, .ref h0_far, .ref h0_out, .int v_printed, .ref h0_tape, .int v_taped, .int v_length, .int v_at, .int v_wrong])), (h0_kind, .inl (cI, 62, .inl v_kind)), (h0_there, .inl (cZ, 62, .inl v_there)), (h0_first, .inl (cI, 62, .inl v_first)), (h0_other, .inl (cI, 62, .inl v_other)), (h0_last, .inl (cI, 62, .inl v_last)), (h0_kept, .inl (cZ, 62, .inl v_kept)), (h0_far, .inl (cI, 21, .inl v_far)), (h0_out, .inl (cI, 1200, .inl v_out)), (h0_tape, .inl (cI, 600, .inl v_tape))] H → va_D A [(h0, .inr (7, [.int q2.2, .int v_corners, .int v_units, .int v_calls, .int v_seed, .ref h0_kind, .ref h0_there, .ref h0_first, .ref h0_other, .ref h0_last, .ref h0_kept, .ref h0_far, .ref h0_out, .int v_printed, .ref h0_tape, .int v_taped, .int v_length, .int v_at, .int v_wrong])), (h0_kind, .inl (cI, 62, .inl v_kind)), (h0_there, .inl (cZ, 62, .inl v_there)), (h0_first, .inl (cI, 62, .inl v_first)), (h0_other, .inl (cI, 62, .inl v_other)), (h0_last, .inl (cI, 62, .inl v_last)), (h0_kept, .inl (cZ, 62, .inl v_kept)), (h0_far, .inl (cI, 21, .inl v_far)), (h0_out, .inl (cI, 1200, .inl v_out)), (h0_tape, .inl (cI, 600, .inl v_tape))] → va_S A s.heap H locs → lv_has ls 4 [(0, .ref h0), (1, .int p1), (2, .int p2), (3, .int j0_32)] → W p l e (headSpec wsX7_leave ({ frames := 2, cells := 0, slots := 0, locals := 42 })).room s m [.ref h0, .int p1, .int p2].toArray below meth c H locs 0 0 (MQ below (va_Qv (fun (_ : Unit) => True) (fun _ t => va_P (dC, dI) vwCl [(h0, .inr (7, [.int q.1, .int v_corners, .int v_units, .int v_calls, .int v_seed, .ref h0_kind, .ref h0_there, .ref h0_first, .ref h0_other, .ref h0_last, .ref h0_kept, .ref h0_far, .ref h0_out, .int v_printed, .ref h0_tape, .int v_taped, .int v_length, .int v_at, .int v_wrong])), (h0_kind, .inl (cI, 62, .inl v_kind)), (h0_there, .inl (cZ, 62, .inl q.2)), (h0_first, .inl (cI, 62, .inl v_first)), (h0_other, .inl (cI, 62, .inl v_other)), (h0_last, .inl (cI, 62, .inl v_last)), (h0_kept, .inl (cZ, 62, .inl v_kept)), (h0_far, .inl (cI, 21, .inl v_far)), (h0_out, .inl (cI, 1200, .inl v_out)), (h0_tape, .inl (cI, 600, .inl v_tape))] t.heap ∧ va_D A [(h0, .inr (7, [.int q.1, .int v_corners, .int v_units, .int v_calls, .int v_seed, .ref h0_kind, .ref h0_there, .ref h0_first, .ref h0_other, .ref h0_last, .ref h0_kept, .ref h0_far, .ref h0_out, .int v_printed, .ref h0_tape, .int v_taped, .int v_length, .int v_at, .int v_wrong])), (h0_kind, .inl (cI, 62, .inl v_kind)), (h0_there, .inl (cZ, 62, .inl q.2)), (h0_first, .inl (cI, 62, .inl v_first)), (h0_other, .inl (cI, 62, .inl v_other)), (h0_last, .inl (cI, 62, .inl v_last)), (h0_kept, .inl (cZ, 62, .inl v_kept)), (h0_far, .inl (cI, 21, .inl v_far)), (h0_out, .inl (cI, 1200, .inl v_out)), (h0_tape, .inl (cI, 600, .inl v_tape))]) A) [.ref h0, .int p1, .int p2].toArray s 0 0 A) (F0 m 83 ls [.int j0_83, .int j1_83, .ref h0_there]) := by
          intro j0_83 j1_83 H locs ls hm hP hD hS hl
          replace hm := mt_app2 hK83 hm
          obtain ⟨g4, hm⟩ := mt_gd hm
          refine va_zast hx hb hK hP hD hS 2 0 rfl rfl g4 dX7_leave_83 (fun H locs hP hD hS => ?_)
          have hP : va_P (dC, dI) vwCl [(h0, .inr (7, [.int q2.2, .int v_corners, .int v_units, .int v_calls, .int v_seed, .ref h0_kind, .ref h0_there, .ref h0_first, .ref h0_other, .ref h0_last, .ref h0_kept, .ref h0_far, .ref h0_out, .int v_printed, .ref h0_tape, .int v_taped, .int v_length, .int v_at, .int v_wrong])), (h0_kind, .inl (cI, 62, .inl v_kind)), (h0_there, .inl (cZ, 62, .inl (upd v_there j1_83.toNatClampNeg (j0_83 &&& 1)))), (h0_first, .inl (cI, 62, .inl v_first)), (h0_other, .inl (cI, 62, .inl v_other)), (h0_last, .inl (cI, 62, .inl v_last)), (h0_kept, .inl (cZ, 62, .inl v_kept)), (h0_far, .inl (cI, 21, .inl v_far)), (h0_out, .inl (cI, 1200, .inl v_out)), (h0_tape, .inl (cI, 600, .inl v_tape))] H := hP
          have hD : va_D A [(h0, .inr (7, [.int q2.2, .int v_corners, .int v_units, .int v_calls, .int v_seed, .ref h0_kind, .ref h0_there, .ref h0_first, .ref h0_other, .ref h0_last, .ref h0_kept, .ref h0_far, .ref h0_out, .int v_printed, .ref h0_tape, .int v_taped, .int v_length, .int v_at, .int v_wrong])), (h0_kind, .inl (cI, 62, .inl v_kind)), (h0_there, .inl (cZ, 62, .inl (upd v_there j1_83.toNatClampNeg (j0_83 &&& 1)))), (h0_first, .inl (cI, 62, .inl v_first)), (h0_other, .inl (cI, 62, .inl v_other)), (h0_last, .inl (cI, 62, .inl v_last)), (h0_kept, .inl (cZ, 62, .inl v_kept)), (h0_far, .inl (cI, 21, .inl v_far)), (h0_out, .inl (cI, 1200, .inl v_out)), (h0_tape, .inl (cI, 600, .inl v_tape))] := hD
          obtain rfl := Option.some.inj hm
          exact W.vret hx hb hr (fun t ht hW => ⟨⟨(), rfl, trivial, by rw [ht]; exact hP, hD⟩, hS.F ht⟩) hS.2.2 dX7_leave_84
        refine lv_if_ne (tgt := 82) hx hb dX7_leave_75 (by decide) (fun c5 => ?_) (fun c5 => ?_)
        · replace hm := mt_neg c5 hm
          refine lv_iconst (v := (0 : Int32)) hx hb dX7_leave_82 (by decide) ?_
          exact J83 (0 : Int32) p1 _ _ _ hm hP hD hS (lv_sub hl [0, 1, 2, 3] rfl)
        · replace hm := mt_pos c5 hm
          refine lv_iconst (v := (1 : Int32)) hx hb dX7_leave_78 (by decide) ?_
          refine lv_goto (tgt := 83) hx hb dX7_leave_79 (by decide) ?_
          exact J83 (1 : Int32) p1 _ _ _ hm hP hD hS (lv_sub hl [0, 1, 2, 3] rfl)
      · replace hm := mt_neg c3 hm
        obtain rfl := Option.some.inj hm
        exact W.vret hx hb hr (fun t ht hW => ⟨⟨(), rfl, trivial, by rw [ht]; exact hP, hD⟩, hS.F ht⟩) hS.2.2 dX7_leave_68
    obtain ⟨K61, hK61, hm⟩ := mt_jx hm
    have J61 : ∀ (j0_61 : Int32), ∀ (H : Heap) (locs : List Loc) (ls : Array Slot), K61 j0_61 = some q → va_P (dC, dI) vwCl [(h0, .inr (7, [.int v_thrown, .int v_corners, .int v_units, .int v_calls, .int v_seed, .ref h0_kind, .ref h0_there, .ref h0_first, .ref h0_other, .ref h0_last, .ref h0_kept, .ref h0_far, .ref h0_out, .int v_printed, .ref h0_tape, .int v_taped, .int v_length, .int v_at, .int v_wrong])), (h0_kind, .inl (cI, 62, .inl v_kind)), (h0_there, .inl (cZ, 62, .inl v_there)), (h0_first, .inl (cI, 62, .inl v_first)), (h0_other, .inl (cI, 62, .inl v_other)), (h0_last, .inl (cI, 62, .inl v_last)), (h0_kept, .inl (cZ, 62, .inl v_kept)), (h0_far, .inl (cI, 21, .inl v_far)), (h0_out, .inl (cI, 1200, .inl v_out)), (h0_tape, .inl (cI, 600, .inl v_tape))] H → va_D A [(h0, .inr (7, [.int v_thrown, .int v_corners, .int v_units, .int v_calls, .int v_seed, .ref h0_kind, .ref h0_there, .ref h0_first, .ref h0_other, .ref h0_last, .ref h0_kept, .ref h0_far, .ref h0_out, .int v_printed, .ref h0_tape, .int v_taped, .int v_length, .int v_at, .int v_wrong])), (h0_kind, .inl (cI, 62, .inl v_kind)), (h0_there, .inl (cZ, 62, .inl v_there)), (h0_first, .inl (cI, 62, .inl v_first)), (h0_other, .inl (cI, 62, .inl v_other)), (h0_last, .inl (cI, 62, .inl v_last)), (h0_kept, .inl (cZ, 62, .inl v_kept)), (h0_far, .inl (cI, 21, .inl v_far)), (h0_out, .inl (cI, 1200, .inl v_out)), (h0_tape, .inl (cI, 600, .inl v_tape))] → va_S A s.heap H locs → lv_has ls 4 [(0, .ref h0), (1, .int p1), (2, .int p2), (3, .int j0_32)] → W p l e (headSpec wsX7_leave ({ frames := 2, cells := 0, slots := 0, locals := 42 })).room s m [.ref h0, .int p1, .int p2].toArray below meth c H locs 0 0 (MQ below (va_Qv (fun (_ : Unit) => True) (fun _ t => va_P (dC, dI) vwCl [(h0, .inr (7, [.int q.1, .int v_corners, .int v_units, .int v_calls, .int v_seed, .ref h0_kind, .ref h0_there, .ref h0_first, .ref h0_other, .ref h0_last, .ref h0_kept, .ref h0_far, .ref h0_out, .int v_printed, .ref h0_tape, .int v_taped, .int v_length, .int v_at, .int v_wrong])), (h0_kind, .inl (cI, 62, .inl v_kind)), (h0_there, .inl (cZ, 62, .inl q.2)), (h0_first, .inl (cI, 62, .inl v_first)), (h0_other, .inl (cI, 62, .inl v_other)), (h0_last, .inl (cI, 62, .inl v_last)), (h0_kept, .inl (cZ, 62, .inl v_kept)), (h0_far, .inl (cI, 21, .inl v_far)), (h0_out, .inl (cI, 1200, .inl v_out)), (h0_tape, .inl (cI, 600, .inl v_tape))] t.heap ∧ va_D A [(h0, .inr (7, [.int q.1, .int v_corners, .int v_units, .int v_calls, .int v_seed, .ref h0_kind, .ref h0_there, .ref h0_first, .ref h0_other, .ref h0_last, .ref h0_kept, .ref h0_far, .ref h0_out, .int v_printed, .ref h0_tape, .int v_taped, .int v_length, .int v_at, .int v_wrong])), (h0_kind, .inl (cI, 62, .inl v_kind)), (h0_there, .inl (cZ, 62, .inl q.2)), (h0_first, .inl (cI, 62, .inl v_first)), (h0_other, .inl (cI, 62, .inl v_other)), (h0_last, .inl (cI, 62, .inl v_last)), (h0_kept, .inl (cZ, 62, .inl v_kept)), (h0_far, .inl (cI, 21, .inl v_far)), (h0_out, .inl (cI, 1200, .inl v_out)), (h0_tape, .inl (cI, 600, .inl v_tape))]) A) [.ref h0, .int p1, .int p2].toArray s 0 0 A) (F0 m 61 ls [.int j0_61, .ref h0]) := by
      intro j0_61 H locs ls hm hP hD hS hl
      replace hm := mt_app1 hK61 hm
      refine lv_iconst (v := (0 : Int32)) hx hb dX7_leave_61 (by decide) ?_
      exact J62 (0 : Int32) j0_61 _ _ _ hm hP hD hS (lv_sub hl [0, 1, 2, 3] rfl)
    refine lv_if_ne (tgt := 61) hx hb dX7_leave_36 (by decide) (fun c6 => ?_) (fun c6 => ?_)
    · replace hm := mt_neg c6 hm
      exact J61 j0_32 _ _ _ hm hP hD hS (lv_sub hl [1, 2, 3, 0] rfl)
    · replace hm := mt_pos c6 hm
      refine lv_aload_n hx hb dX7_leave_39 rfl (lv_at hl 1 rfl) ?_
      refine va_get (D := (dC, dI)) (ci := 7) (v := .ref h0_there) (C := RX7) (T := TX7) (N := 19) hx hb hts hiX7 hown hK hP 0 rfl rfl 6 (by decide) (hts (.fieldLink RX7 13 "ServiceDrawerModel" "there" "[Z") (by decide +kernel)) (fun _ h9 => h9) rfl dX7_leave_40 ?_
      refine lv_iload_n hx hb dX7_leave_43 rfl (lv_at hl 0 rfl) ?_
      obtain ⟨K52, hK52, hm⟩ := mt_jx hm
      have J52 : ∀ (j0_52 : Int32) (j2_52 : Int32), ∀ (H : Heap) (locs : List Loc) (ls : Array Slot), K52 j0_52 j2_52 = some q → va_P (dC, dI) vwCl [(h0, .inr (7, [.int v_thrown, .int v_corners, .int v_units, .int v_calls, .int v_seed, .ref h0_kind, .ref h0_there, .ref h0_first, .ref h0_other, .ref h0_last, .ref h0_kept, .ref h0_far, .ref h0_out, .int v_printed, .ref h0_tape, .int v_taped, .int v_length, .int v_at, .int v_wrong])), (h0_kind, .inl (cI, 62, .inl v_kind)), (h0_there, .inl (cZ, 62, .inl v_there)), (h0_first, .inl (cI, 62, .inl v_first)), (h0_other, .inl (cI, 62, .inl v_other)), (h0_last, .inl (cI, 62, .inl v_last)), (h0_kept, .inl (cZ, 62, .inl v_kept)), (h0_far, .inl (cI, 21, .inl v_far)), (h0_out, .inl (cI, 1200, .inl v_out)), (h0_tape, .inl (cI, 600, .inl v_tape))] H → va_D A [(h0, .inr (7, [.int v_thrown, .int v_corners, .int v_units, .int v_calls, .int v_seed, .ref h0_kind, .ref h0_there, .ref h0_first, .ref h0_other, .ref h0_last, .ref h0_kept, .ref h0_far, .ref h0_out, .int v_printed, .ref h0_tape, .int v_taped, .int v_length, .int v_at, .int v_wrong])), (h0_kind, .inl (cI, 62, .inl v_kind)), (h0_there, .inl (cZ, 62, .inl v_there)), (h0_first, .inl (cI, 62, .inl v_first)), (h0_other, .inl (cI, 62, .inl v_other)), (h0_last, .inl (cI, 62, .inl v_last)), (h0_kept, .inl (cZ, 62, .inl v_kept)), (h0_far, .inl (cI, 21, .inl v_far)), (h0_out, .inl (cI, 1200, .inl v_out)), (h0_tape, .inl (cI, 600, .inl v_tape))] → va_S A s.heap H locs → lv_has ls 4 [(0, .ref h0), (1, .int p1), (2, .int p2), (3, .int j0_32)] → W p l e (headSpec wsX7_leave ({ frames := 2, cells := 0, slots := 0, locals := 42 })).room s m [.ref h0, .int p1, .int p2].toArray below meth c H locs 0 0 (MQ below (va_Qv (fun (_ : Unit) => True) (fun _ t => va_P (dC, dI) vwCl [(h0, .inr (7, [.int q.1, .int v_corners, .int v_units, .int v_calls, .int v_seed, .ref h0_kind, .ref h0_there, .ref h0_first, .ref h0_other, .ref h0_last, .ref h0_kept, .ref h0_far, .ref h0_out, .int v_printed, .ref h0_tape, .int v_taped, .int v_length, .int v_at, .int v_wrong])), (h0_kind, .inl (cI, 62, .inl v_kind)), (h0_there, .inl (cZ, 62, .inl q.2)), (h0_first, .inl (cI, 62, .inl v_first)), (h0_other, .inl (cI, 62, .inl v_other)), (h0_last, .inl (cI, 62, .inl v_last)), (h0_kept, .inl (cZ, 62, .inl v_kept)), (h0_far, .inl (cI, 21, .inl v_far)), (h0_out, .inl (cI, 1200, .inl v_out)), (h0_tape, .inl (cI, 600, .inl v_tape))] t.heap ∧ va_D A [(h0, .inr (7, [.int q.1, .int v_corners, .int v_units, .int v_calls, .int v_seed, .ref h0_kind, .ref h0_there, .ref h0_first, .ref h0_other, .ref h0_last, .ref h0_kept, .ref h0_far, .ref h0_out, .int v_printed, .ref h0_tape, .int v_taped, .int v_length, .int v_at, .int v_wrong])), (h0_kind, .inl (cI, 62, .inl v_kind)), (h0_there, .inl (cZ, 62, .inl q.2)), (h0_first, .inl (cI, 62, .inl v_first)), (h0_other, .inl (cI, 62, .inl v_other)), (h0_last, .inl (cI, 62, .inl v_last)), (h0_kept, .inl (cZ, 62, .inl v_kept)), (h0_far, .inl (cI, 21, .inl v_far)), (h0_out, .inl (cI, 1200, .inl v_out)), (h0_tape, .inl (cI, 600, .inl v_tape))]) A) [.ref h0, .int p1, .int p2].toArray s 0 0 A) (F0 m 52 ls [.int j0_52, .ref h0_there, .int j2_52, .ref h0]) := by
        intro j0_52 j2_52 H locs ls hm hP hD hS hl
        replace hm := mt_app2 hK52 hm
        obtain ⟨g7, hm⟩ := mt_gd hm
        refine va_zald hx hb hK hP 2 0 rfl rfl g7 dX7_leave_52 ?_
        refine lv_iload_n hx hb dX7_leave_53 rfl (lv_at hl 2 rfl) ?_
        refine lv_icmp_eq (tgt := 61) hx hb dX7_leave_54 (by decide) (fun c8 => ?_) (fun c8 => ?_)
        · replace hm := mt_pos c8 hm
          exact J61 j2_52 _ _ _ hm hP hD hS (lv_sub hl [0, 1, 2, 3] rfl)
        · replace hm := mt_neg c8 hm
          refine lv_iconst (v := (1 : Int32)) hx hb dX7_leave_57 (by decide) ?_
          refine lv_goto (tgt := 62) hx hb dX7_leave_58 (by decide) ?_
          exact J62 (1 : Int32) j2_52 _ _ _ hm hP hD hS (lv_sub hl [0, 1, 2, 3] rfl)
      refine lv_if_eq (tgt := 51) hx hb dX7_leave_44 (by decide) (fun c9 => ?_) (fun c9 => ?_)
      · replace hm := mt_pos c9 hm
        refine lv_iload_n hx hb dX7_leave_51 rfl (lv_at hl 2 rfl) ?_
        exact J52 p1 j0_32 _ _ _ hm hP hD hS (lv_sub hl [1, 2, 3, 0] rfl)
      · replace hm := mt_neg c9 hm
        refine lv_iconst (v := (0 : Int32)) hx hb dX7_leave_47 (by decide) ?_
        refine lv_goto (tgt := 52) hx hb dX7_leave_48 (by decide) ?_
        exact J52 (0 : Int32) j0_32 _ _ _ hm hP hD hS (lv_sub hl [1, 2, 3, 0] rfl)
  obtain ⟨K27, hK27, hm⟩ := mt_jx hm
  have J27 : ∀ (u27 : Unit), ∀ (H : Heap) (locs : List Loc) (ls : Array Slot), K27 u27 = some q → va_P (dC, dI) vwCl [(h0, .inr (7, [.int v_thrown, .int v_corners, .int v_units, .int v_calls, .int v_seed, .ref h0_kind, .ref h0_there, .ref h0_first, .ref h0_other, .ref h0_last, .ref h0_kept, .ref h0_far, .ref h0_out, .int v_printed, .ref h0_tape, .int v_taped, .int v_length, .int v_at, .int v_wrong])), (h0_kind, .inl (cI, 62, .inl v_kind)), (h0_there, .inl (cZ, 62, .inl v_there)), (h0_first, .inl (cI, 62, .inl v_first)), (h0_other, .inl (cI, 62, .inl v_other)), (h0_last, .inl (cI, 62, .inl v_last)), (h0_kept, .inl (cZ, 62, .inl v_kept)), (h0_far, .inl (cI, 21, .inl v_far)), (h0_out, .inl (cI, 1200, .inl v_out)), (h0_tape, .inl (cI, 600, .inl v_tape))] H → va_D A [(h0, .inr (7, [.int v_thrown, .int v_corners, .int v_units, .int v_calls, .int v_seed, .ref h0_kind, .ref h0_there, .ref h0_first, .ref h0_other, .ref h0_last, .ref h0_kept, .ref h0_far, .ref h0_out, .int v_printed, .ref h0_tape, .int v_taped, .int v_length, .int v_at, .int v_wrong])), (h0_kind, .inl (cI, 62, .inl v_kind)), (h0_there, .inl (cZ, 62, .inl v_there)), (h0_first, .inl (cI, 62, .inl v_first)), (h0_other, .inl (cI, 62, .inl v_other)), (h0_last, .inl (cI, 62, .inl v_last)), (h0_kept, .inl (cZ, 62, .inl v_kept)), (h0_far, .inl (cI, 21, .inl v_far)), (h0_out, .inl (cI, 1200, .inl v_out)), (h0_tape, .inl (cI, 600, .inl v_tape))] → va_S A s.heap H locs → lv_has ls 4 [(0, .ref h0), (1, .int p1), (2, .int p2)] → W p l e (headSpec wsX7_leave ({ frames := 2, cells := 0, slots := 0, locals := 42 })).room s m [.ref h0, .int p1, .int p2].toArray below meth c H locs 0 0 (MQ below (va_Qv (fun (_ : Unit) => True) (fun _ t => va_P (dC, dI) vwCl [(h0, .inr (7, [.int q.1, .int v_corners, .int v_units, .int v_calls, .int v_seed, .ref h0_kind, .ref h0_there, .ref h0_first, .ref h0_other, .ref h0_last, .ref h0_kept, .ref h0_far, .ref h0_out, .int v_printed, .ref h0_tape, .int v_taped, .int v_length, .int v_at, .int v_wrong])), (h0_kind, .inl (cI, 62, .inl v_kind)), (h0_there, .inl (cZ, 62, .inl q.2)), (h0_first, .inl (cI, 62, .inl v_first)), (h0_other, .inl (cI, 62, .inl v_other)), (h0_last, .inl (cI, 62, .inl v_last)), (h0_kept, .inl (cZ, 62, .inl v_kept)), (h0_far, .inl (cI, 21, .inl v_far)), (h0_out, .inl (cI, 1200, .inl v_out)), (h0_tape, .inl (cI, 600, .inl v_tape))] t.heap ∧ va_D A [(h0, .inr (7, [.int q.1, .int v_corners, .int v_units, .int v_calls, .int v_seed, .ref h0_kind, .ref h0_there, .ref h0_first, .ref h0_other, .ref h0_last, .ref h0_kept, .ref h0_far, .ref h0_out, .int v_printed, .ref h0_tape, .int v_taped, .int v_length, .int v_at, .int v_wrong])), (h0_kind, .inl (cI, 62, .inl v_kind)), (h0_there, .inl (cZ, 62, .inl q.2)), (h0_first, .inl (cI, 62, .inl v_first)), (h0_other, .inl (cI, 62, .inl v_other)), (h0_last, .inl (cI, 62, .inl v_last)), (h0_kept, .inl (cZ, 62, .inl v_kept)), (h0_far, .inl (cI, 21, .inl v_far)), (h0_out, .inl (cI, 1200, .inl v_out)), (h0_tape, .inl (cI, 600, .inl v_tape))]) A) [.ref h0, .int p1, .int p2].toArray s 0 0 A) (F0 m 27 ls []) := by
    intro u27 H locs ls hm hP hD hS hl
    replace hm := mt_app1 hK27 hm
    refine lv_iconst (v := (1 : Int32)) hx hb dX7_leave_27 (by decide) ?_
    refine lv_goto (tgt := 32) hx hb dX7_leave_28 (by decide) ?_
    exact J32 (1 : Int32) _ _ _ hm hP hD hS (lv_sub hl [0, 1, 2] rfl)
  refine lv_if_eq (tgt := 27) hx hb dX7_leave_4 (by decide) (fun c10 => ?_) (fun c10 => ?_)
  · replace hm := mt_pos c10 hm
    exact J27 () _ _ _ hm hP hD hS (lv_sub hl [0, 1, 2] rfl)
  · replace hm := mt_neg c10 hm
    refine lv_aload_n hx hb dX7_leave_7 rfl (lv_at hl 0 rfl) ?_
    refine va_get (D := (dC, dI)) (ci := 7) (v := .ref h0_kind) (C := RX7) (T := TX7) (N := 19) hx hb hts hiX7 hown hK hP 0 rfl rfl 5 (by decide) (hts (.fieldLink RX7 7 "ServiceDrawerModel" "kind" "[I") (by decide +kernel)) (fun _ h9 => h9) rfl dX7_leave_8 ?_
    refine lv_iload_n hx hb dX7_leave_11 rfl (lv_at hl 1 rfl) ?_
    obtain ⟨q11, hq11, hm⟩ := mt_bind hm
    refine vp_callSi (va_Run.run (va_runS (As := [.int p1]) (rest := [.ref h0_kind]) ⟨hx, hb, hml, hown, hts⟩ (c_X7_isPart l dC dI cZ cI cL p1 q11 hq11) (va_cwS 1 hts gX7_leave_X7_isPart rfl rfl rfl (by decide +kernel) ⟨Nat.le_of_ble_eq_true rfl, Nat.le_of_ble_eq_true rfl⟩) (mt_pR hC (hP.sub (ws' := []) [] rfl)) rfl rfl hl.1 rfl (lv_room (Nat.le_of_ble_eq_true rfl)) dX7_leave_12 ⟨Nat.le_of_ble_eq_true rfl, Nat.le_of_ble_eq_true rfl⟩)) (fun r er => ?_)
    replace er := er.symm
    subst er
    obtain ⟨K23, hK23, hm⟩ := mt_jx hm
    have J23 : ∀ (j0_23 : Int32), ∀ (H : Heap) (locs : List Loc) (ls : Array Slot), K23 j0_23 = some q → va_P (dC, dI) vwCl [(h0, .inr (7, [.int v_thrown, .int v_corners, .int v_units, .int v_calls, .int v_seed, .ref h0_kind, .ref h0_there, .ref h0_first, .ref h0_other, .ref h0_last, .ref h0_kept, .ref h0_far, .ref h0_out, .int v_printed, .ref h0_tape, .int v_taped, .int v_length, .int v_at, .int v_wrong])), (h0_kind, .inl (cI, 62, .inl v_kind)), (h0_there, .inl (cZ, 62, .inl v_there)), (h0_first, .inl (cI, 62, .inl v_first)), (h0_other, .inl (cI, 62, .inl v_other)), (h0_last, .inl (cI, 62, .inl v_last)), (h0_kept, .inl (cZ, 62, .inl v_kept)), (h0_far, .inl (cI, 21, .inl v_far)), (h0_out, .inl (cI, 1200, .inl v_out)), (h0_tape, .inl (cI, 600, .inl v_tape))] H → va_D A [(h0, .inr (7, [.int v_thrown, .int v_corners, .int v_units, .int v_calls, .int v_seed, .ref h0_kind, .ref h0_there, .ref h0_first, .ref h0_other, .ref h0_last, .ref h0_kept, .ref h0_far, .ref h0_out, .int v_printed, .ref h0_tape, .int v_taped, .int v_length, .int v_at, .int v_wrong])), (h0_kind, .inl (cI, 62, .inl v_kind)), (h0_there, .inl (cZ, 62, .inl v_there)), (h0_first, .inl (cI, 62, .inl v_first)), (h0_other, .inl (cI, 62, .inl v_other)), (h0_last, .inl (cI, 62, .inl v_last)), (h0_kept, .inl (cZ, 62, .inl v_kept)), (h0_far, .inl (cI, 21, .inl v_far)), (h0_out, .inl (cI, 1200, .inl v_out)), (h0_tape, .inl (cI, 600, .inl v_tape))] → va_S A s.heap H locs → lv_has ls 4 [(0, .ref h0), (1, .int p1), (2, .int p2)] → W p l e (headSpec wsX7_leave ({ frames := 2, cells := 0, slots := 0, locals := 42 })).room s m [.ref h0, .int p1, .int p2].toArray below meth c H locs 0 0 (MQ below (va_Qv (fun (_ : Unit) => True) (fun _ t => va_P (dC, dI) vwCl [(h0, .inr (7, [.int q.1, .int v_corners, .int v_units, .int v_calls, .int v_seed, .ref h0_kind, .ref h0_there, .ref h0_first, .ref h0_other, .ref h0_last, .ref h0_kept, .ref h0_far, .ref h0_out, .int v_printed, .ref h0_tape, .int v_taped, .int v_length, .int v_at, .int v_wrong])), (h0_kind, .inl (cI, 62, .inl v_kind)), (h0_there, .inl (cZ, 62, .inl q.2)), (h0_first, .inl (cI, 62, .inl v_first)), (h0_other, .inl (cI, 62, .inl v_other)), (h0_last, .inl (cI, 62, .inl v_last)), (h0_kept, .inl (cZ, 62, .inl v_kept)), (h0_far, .inl (cI, 21, .inl v_far)), (h0_out, .inl (cI, 1200, .inl v_out)), (h0_tape, .inl (cI, 600, .inl v_tape))] t.heap ∧ va_D A [(h0, .inr (7, [.int q.1, .int v_corners, .int v_units, .int v_calls, .int v_seed, .ref h0_kind, .ref h0_there, .ref h0_first, .ref h0_other, .ref h0_last, .ref h0_kept, .ref h0_far, .ref h0_out, .int v_printed, .ref h0_tape, .int v_taped, .int v_length, .int v_at, .int v_wrong])), (h0_kind, .inl (cI, 62, .inl v_kind)), (h0_there, .inl (cZ, 62, .inl q.2)), (h0_first, .inl (cI, 62, .inl v_first)), (h0_other, .inl (cI, 62, .inl v_other)), (h0_last, .inl (cI, 62, .inl v_last)), (h0_kept, .inl (cZ, 62, .inl v_kept)), (h0_far, .inl (cI, 21, .inl v_far)), (h0_out, .inl (cI, 1200, .inl v_out)), (h0_tape, .inl (cI, 600, .inl v_tape))]) A) [.ref h0, .int p1, .int p2].toArray s 0 0 A) (F0 m 23 ls [.int j0_23, .ref h0_kind]) := by
      intro j0_23 H locs ls hm hP hD hS hl
      replace hm := mt_app1 hK23 hm
      obtain ⟨g12, hm⟩ := mt_gd hm
      refine va_iald hx hb hK hP 1 1 rfl rfl g12 dX7_leave_23 ?_
      refine lv_if_ge (tgt := 31) hx hb dX7_leave_24 (by decide) (fun c13 => ?_) (fun c13 => ?_)
      · replace hm := mt_pos c13 hm
        refine lv_iconst (v := (0 : Int32)) hx hb dX7_leave_31 (by decide) ?_
        exact J32 (0 : Int32) _ _ _ hm hP hD hS (lv_sub hl [0, 1, 2] rfl)
      · replace hm := mt_neg c13 hm
        exact J27 () _ _ _ hm hP hD hS (lv_sub hl [0, 1, 2] rfl)
    refine lv_if_eq (tgt := 22) hx hb dX7_leave_15 (by decide) (fun c14 => ?_) (fun c14 => ?_)
    · replace hm := mt_pos c14 hm
      refine lv_iconst (v := (0 : Int32)) hx hb dX7_leave_22 (by decide) ?_
      exact J23 (0 : Int32) _ _ _ hm hP hD hS (lv_sub hl [0, 1, 2] rfl)
    · replace hm := mt_neg c14 hm
      refine lv_iload_n hx hb dX7_leave_18 rfl (lv_at hl 1 rfl) ?_
      refine lv_goto (tgt := 23) hx hb dX7_leave_19 (by decide) ?_
      exact J23 p1 _ _ _ hm hP hD hS (lv_sub hl [0, 1, 2] rfl)
