def m_X1_write_L9 (a1_there : Nat → Int32) (a1_corner : Nat → Int32) (a1_second : Nat → Int32) (a1_third : Nat → Int32) (K44 : Int32 → Int32 → (Nat → Int32) → Option (Int32 × (Nat → Int32))) : Nat → Int32 → Int32 → (Nat → Int32) → Option (Int32 × (Nat → Int32))
  | 0, _, _, _ => none
  | n9 + 1, x2_9, v_text_length_9, v_text_bytes_9 => if (62 : Int32) ≤ x2_9 then K44 x2_9 v_text_length_9 v_text_bytes_9 else (m_X5_isThere x2_9 a1_there).bind fun q3 => if q3 = 0 then m_X1_write_L9 a1_there a1_corner a1_second a1_third K44 n9 (x2_9 + (1 : Int32)) v_text_length_9 v_text_bytes_9 else (m_X1_writePart x2_9 v_text_length_9 v_text_bytes_9 a1_corner a1_second a1_third).bind fun q5 => (m_X4_add (59 : Int32) q5.1 q5.2).bind fun q6 => m_X1_write_L9 a1_there a1_corner a1_second a1_third K44 n9 (x2_9 + (1 : Int32)) q6.1 q6.2
def m_X1_write (fu : Nat) (v_text_bytes : Nat → Int32) (a1_there : Nat → Int32) (a1_corner : Nat → Int32) (a1_second : Nat → Int32) (a1_third : Nat → Int32) : Option (Int32 × (Nat → Int32)) := (m_X4_clear).bind fun q1 => mt_j (fun (x2_44 : Int32) (v_text_length_44 : Int32) (v_text_bytes_44 : Nat → Int32) => some (v_text_length_44, v_text_bytes_44)) fun K44 => m_X1_write_L9 a1_there a1_corner a1_second a1_third K44 fu (0 : Int32) q1 v_text_bytes
set_option maxHeartbeats 4000000 in
set_option maxRecDepth 100000 in
theorem c_X1_write (l : Launch) (dC : Nat → ClassId) (dI : Nat → Nat → Nat) (cZ cI cL : ClassId) (h0 h0_text h0_text_bytes h1 h1_had h1_there h1_corner h1_second h1_third : Nat) (sz : Nat) (v_text_length : Int32) (v_text_bytes : Nat → Int32) (a1_seed : Int32) (a1_size : Int32) (a1_parts : Int32) (a1_had : Nat → Int32) (a1_there : Nat → Int32) (a1_corner : Nat → Int32) (a1_second : Nat → Int32) (a1_third : Nat → Int32) (fu : Nat) (q : Int32 × (Nat → Int32)) (hm : m_X1_write fu v_text_bytes a1_there a1_corner a1_second a1_third = some q) : Met l yX1_write wsX1_write ({ frames := 3, cells := 0, slots := 0, locals := 65 }) (va_Pc [.ref h0, .ref h1] (mt_S (dC, dI) cZ cI cL sz [(h0, .inr (1, [.ref h0_text])), (h0_text, .inr (4, [.ref h0_text_bytes, .int v_text_length])), (h0_text_bytes, .inl (cI, 600, .inl v_text_bytes)), (h1, .inr (5, [.ref h1_had, .ref h1_there, .ref h1_corner, .ref h1_second, .ref h1_third, .int a1_seed, .int a1_size, .int a1_parts])), (h1_had, .inl (cZ, 62, .inl a1_had)), (h1_there, .inl (cZ, 62, .inl a1_there)), (h1_corner, .inl (cI, 62, .inl a1_corner)), (h1_second, .inl (cI, 62, .inl a1_second)), (h1_third, .inl (cI, 62, .inl a1_third))])) (va_Qv (fun (_ : Unit) => True) (fun _ t => va_P (dC, dI) vwCl [(h0, .inr (1, [.ref h0_text])), (h0_text, .inr (4, [.ref h0_text_bytes, .int q.1])), (h0_text_bytes, .inl (cI, 600, .inl q.2)), (h1, .inr (5, [.ref h1_had, .ref h1_there, .ref h1_corner, .ref h1_second, .ref h1_third, .int a1_seed, .int a1_size, .int a1_parts])), (h1_had, .inl (cZ, 62, .inl a1_had)), (h1_there, .inl (cZ, 62, .inl a1_there)), (h1_corner, .inl (cI, 62, .inl a1_corner)), (h1_second, .inl (cI, 62, .inl a1_second)), (h1_third, .inl (cI, 62, .inl a1_third))] t.heap ∧ va_D (va_A [(h0, .inr (1, [.ref h0_text])), (h0_text, .inr (4, [.ref h0_text_bytes, .int v_text_length])), (h0_text_bytes, .inl (cI, 600, .inl v_text_bytes)), (h1, .inr (5, [.ref h1_had, .ref h1_there, .ref h1_corner, .ref h1_second, .ref h1_third, .int a1_seed, .int a1_size, .int a1_parts])), (h1_had, .inl (cZ, 62, .inl a1_had)), (h1_there, .inl (cZ, 62, .inl a1_there)), (h1_corner, .inl (cI, 62, .inl a1_corner)), (h1_second, .inl (cI, 62, .inl a1_second)), (h1_third, .inl (cI, 62, .inl a1_third))] sz) [(h0, .inr (1, [.ref h0_text])), (h0_text, .inr (4, [.ref h0_text_bytes, .int q.1])), (h0_text_bytes, .inl (cI, 600, .inl q.2)), (h1, .inr (5, [.ref h1_had, .ref h1_there, .ref h1_corner, .ref h1_second, .ref h1_third, .int a1_seed, .int a1_size, .int a1_parts])), (h1_had, .inl (cZ, 62, .inl a1_had)), (h1_there, .inl (cZ, 62, .inl a1_there)), (h1_corner, .inl (cI, 62, .inl a1_corner)), (h1_second, .inl (cI, 62, .inl a1_second)), (h1_third, .inl (cI, 62, .inl a1_third))]) (va_A [(h0, .inr (1, [.ref h0_text])), (h0_text, .inr (4, [.ref h0_text_bytes, .int v_text_length])), (h0_text_bytes, .inl (cI, 600, .inl v_text_bytes)), (h1, .inr (5, [.ref h1_had, .ref h1_there, .ref h1_corner, .ref h1_second, .ref h1_third, .int a1_seed, .int a1_size, .int a1_parts])), (h1_had, .inl (cZ, 62, .inl a1_had)), (h1_there, .inl (cZ, 62, .inl a1_there)), (h1_corner, .inl (cI, 62, .inl a1_corner)), (h1_second, .inl (cI, 62, .inl a1_second)), (h1_third, .inl (cI, 62, .inl a1_third))] sz)) 0 0 (va_A [(h0, .inr (1, [.ref h0_text])), (h0_text, .inr (4, [.ref h0_text_bytes, .int v_text_length])), (h0_text_bytes, .inl (cI, 600, .inl v_text_bytes)), (h1, .inr (5, [.ref h1_had, .ref h1_there, .ref h1_corner, .ref h1_second, .ref h1_third, .int a1_seed, .int a1_size, .int a1_parts])), (h1_had, .inl (cZ, 62, .inl a1_had)), (h1_there, .inl (cZ, 62, .inl a1_there)), (h1_corner, .inl (cI, 62, .inl a1_corner)), (h1_second, .inl (cI, 62, .inl a1_second)), (h1_third, .inl (cI, 62, .inl a1_third))] sz) := by
  refine Met.ofW (cc := cX1_write) (maxL := 3) (ret := none) (by decide) rfl ?_
  intro p e s m args below meth c s₁ B hml hv
  obtain ⟨rfl, hsz, hP, hC, hD0⟩ := hv
  have hx := B.exec
  have hb := B.bytes
  have hr := B.returns
  have hts := atoms_spec (ws := wsX1_write) B.pre
  have hown : s.vm.findClass RX1 = some m.cls := findClass_of_methodNamed B.named
  have hlocks := B.notSynchronized
  have hK := hC.1
  have hiX1 : ∀ w ∈ wsX10, w ∈ wsX1_write := by decide +kernel
  subst hsz
  have hD := hD0.self (sz := s.heap.size)
  generalize hAe : va_A [(h0, .inr (1, [.ref h0_text])), (h0_text, .inr (4, [.ref h0_text_bytes, .int v_text_length])), (h0_text_bytes, .inl (cI, 600, .inl v_text_bytes)), (h1, .inr (5, [.ref h1_had, .ref h1_there, .ref h1_corner, .ref h1_second, .ref h1_third, .int a1_seed, .int a1_size, .int a1_parts])), (h1_had, .inl (cZ, 62, .inl a1_had)), (h1_there, .inl (cZ, 62, .inl a1_there)), (h1_corner, .inl (cI, 62, .inl a1_corner)), (h1_second, .inl (cI, 62, .inl a1_second)), (h1_third, .inl (cI, 62, .inl a1_third))] s.heap.size = A at hD ⊢
  have hA : ∀ q : Nat, s.heap.size ≤ q → A q := fun q h => by rw [← hAe]; exact Or.inr h
  have hS : va_S A s.heap s.heap [] := va_S.rf
  have hl := lv_entry [.ref h0, .ref h1] (n := 3) (Nat.le_of_ble_eq_true rfl)
  rw [lg_entry_eq]
  generalize (lg_sl [.ref h0, .ref h1] ++ List.replicate (3 - (lg_sl [.ref h0, .ref h1]).length) Slot.unset).toArray = ls at hl ⊢
  have hl : lv_has ls 3 [(0, .ref h0), (1, .ref h1)] := hl
  rw [m_X1_write] at hm
  refine lv_aload_n hx hb dX1_write_0 rfl (lv_at hl 0 rfl) ?_
  refine va_get (D := (dC, dI)) (ci := 1) (v := .ref h0_text) (C := RX1) (T := TX1) (N := 1) hx hb hts hiX1 hown hK hP 0 rfl rfl 0 (by decide) (hts (.fieldLink RX1 12 "ServiceDrawer$Printer" "text" "LServiceDrawer$Text;") (by decide +kernel)) (fun _ h9 => h9) rfl dX1_write_1 ?_
  obtain ⟨q1, hq1, hm⟩ := mt_bind hm
  refine mt_callv (wr := [(h0, .inr (1, [.ref h0_text])), (h1, .inr (5, [.ref h1_had, .ref h1_there, .ref h1_corner, .ref h1_second, .ref h1_third, .int a1_seed, .int a1_size, .int a1_parts])), (h1_had, .inl (cZ, 62, .inl a1_had)), (h1_there, .inl (cZ, 62, .inl a1_there)), (h1_corner, .inl (cI, 62, .inl a1_corner)), (h1_second, .inl (cI, 62, .inl a1_second)), (h1_third, .inl (cI, 62, .inl a1_third))]) hP hD hS hA [1, 2] [0, 3, 4, 5, 6, 7, 8] rfl rfl (by decide) (by decide) (va_runV (As := []) (rest := []) ⟨hx, hb, hml, hown, hts⟩ (c_X4_clear l dC dI cZ cI cL h0_text h0_text_bytes s.heap.size v_text_length v_text_bytes q1 hq1) (cwV 0 hts gX1_write_X4_clear rfl rfl rfl (by decide +kernel) ⟨Nat.le_of_ble_eq_true rfl, Nat.le_of_ble_eq_true rfl⟩) (mt_vS (q := (RX4, TX4, 2)) 4 hC (hP.sub (ws' := [(h0_text, .inr (4, [.ref h0_text_bytes, .int v_text_length])), (h0_text_bytes, .inl (cI, 600, .inl v_text_bytes))]) [1, 2] rfl) (hD.sub (ws' := [(h0_text, .inr (4, [.ref h0_text_bytes, .int v_text_length])), (h0_text_bytes, .inl (cI, 600, .inl v_text_bytes))]) [1, 2] (by decide) rfl) rfl rfl) rfl rfl hl.1 rfl (lv_room (Nat.le_of_ble_eq_true rfl)) dX1_write_4 ⟨Nat.le_of_ble_eq_true rfl, Nat.le_of_ble_eq_true rfl⟩) (fun H locs hP hD hS => ?_)
  have hP : va_P (dC, dI) vwCl [(h0, .inr (1, [.ref h0_text])), (h0_text, .inr (4, [.ref h0_text_bytes, .int q1])), (h0_text_bytes, .inl (cI, 600, .inl v_text_bytes)), (h1, .inr (5, [.ref h1_had, .ref h1_there, .ref h1_corner, .ref h1_second, .ref h1_third, .int a1_seed, .int a1_size, .int a1_parts])), (h1_had, .inl (cZ, 62, .inl a1_had)), (h1_there, .inl (cZ, 62, .inl a1_there)), (h1_corner, .inl (cI, 62, .inl a1_corner)), (h1_second, .inl (cI, 62, .inl a1_second)), (h1_third, .inl (cI, 62, .inl a1_third))] H := hP.sub [0, 7, 8, 1, 2, 3, 4, 5, 6] rfl
  have hD : va_D A [(h0, .inr (1, [.ref h0_text])), (h0_text, .inr (4, [.ref h0_text_bytes, .int q1])), (h0_text_bytes, .inl (cI, 600, .inl v_text_bytes)), (h1, .inr (5, [.ref h1_had, .ref h1_there, .ref h1_corner, .ref h1_second, .ref h1_third, .int a1_seed, .int a1_size, .int a1_parts])), (h1_had, .inl (cZ, 62, .inl a1_had)), (h1_there, .inl (cZ, 62, .inl a1_there)), (h1_corner, .inl (cI, 62, .inl a1_corner)), (h1_second, .inl (cI, 62, .inl a1_second)), (h1_third, .inl (cI, 62, .inl a1_third))] := hD.sub [0, 7, 8, 1, 2, 3, 4, 5, 6] (by decide) rfl
  refine lv_iconst (v := (0 : Int32)) hx hb dX1_write_7 (by decide) ?_
  refine lv_istore_n (lv' := [(2, .int (0 : Int32)), (0, .ref h0), (1, .ref h1)]) hx hb dX1_write_8 rfl hl (by decide) rfl (fun ls hl => ?_)
  obtain ⟨K44, hK44, hm⟩ := mt_jx hm
  have J44 : ∀ (x2_44 : Int32) (v_text_length_44 : Int32) (v_text_bytes_44 : Nat → Int32), ∀ (H : Heap) (locs : List Loc) (ls : Array Slot), K44 x2_44 v_text_length_44 v_text_bytes_44 = some q → va_P (dC, dI) vwCl [(h0, .inr (1, [.ref h0_text])), (h0_text, .inr (4, [.ref h0_text_bytes, .int v_text_length_44])), (h0_text_bytes, .inl (cI, 600, .inl v_text_bytes_44)), (h1, .inr (5, [.ref h1_had, .ref h1_there, .ref h1_corner, .ref h1_second, .ref h1_third, .int a1_seed, .int a1_size, .int a1_parts])), (h1_had, .inl (cZ, 62, .inl a1_had)), (h1_there, .inl (cZ, 62, .inl a1_there)), (h1_corner, .inl (cI, 62, .inl a1_corner)), (h1_second, .inl (cI, 62, .inl a1_second)), (h1_third, .inl (cI, 62, .inl a1_third))] H → va_D A [(h0, .inr (1, [.ref h0_text])), (h0_text, .inr (4, [.ref h0_text_bytes, .int v_text_length_44])), (h0_text_bytes, .inl (cI, 600, .inl v_text_bytes_44)), (h1, .inr (5, [.ref h1_had, .ref h1_there, .ref h1_corner, .ref h1_second, .ref h1_third, .int a1_seed, .int a1_size, .int a1_parts])), (h1_had, .inl (cZ, 62, .inl a1_had)), (h1_there, .inl (cZ, 62, .inl a1_there)), (h1_corner, .inl (cI, 62, .inl a1_corner)), (h1_second, .inl (cI, 62, .inl a1_second)), (h1_third, .inl (cI, 62, .inl a1_third))] → va_S A s.heap H locs → lv_has ls 3 [(0, .ref h0), (1, .ref h1), (2, .int x2_44)] → W p l e (headSpec wsX1_write ({ frames := 3, cells := 0, slots := 0, locals := 65 })).room s m [.ref h0, .ref h1].toArray below meth c H locs 0 0 (MQ below (va_Qv (fun (_ : Unit) => True) (fun _ t => va_P (dC, dI) vwCl [(h0, .inr (1, [.ref h0_text])), (h0_text, .inr (4, [.ref h0_text_bytes, .int q.1])), (h0_text_bytes, .inl (cI, 600, .inl q.2)), (h1, .inr (5, [.ref h1_had, .ref h1_there, .ref h1_corner, .ref h1_second, .ref h1_third, .int a1_seed, .int a1_size, .int a1_parts])), (h1_had, .inl (cZ, 62, .inl a1_had)), (h1_there, .inl (cZ, 62, .inl a1_there)), (h1_corner, .inl (cI, 62, .inl a1_corner)), (h1_second, .inl (cI, 62, .inl a1_second)), (h1_third, .inl (cI, 62, .inl a1_third))] t.heap ∧ va_D A [(h0, .inr (1, [.ref h0_text])), (h0_text, .inr (4, [.ref h0_text_bytes, .int q.1])), (h0_text_bytes, .inl (cI, 600, .inl q.2)), (h1, .inr (5, [.ref h1_had, .ref h1_there, .ref h1_corner, .ref h1_second, .ref h1_third, .int a1_seed, .int a1_size, .int a1_parts])), (h1_had, .inl (cZ, 62, .inl a1_had)), (h1_there, .inl (cZ, 62, .inl a1_there)), (h1_corner, .inl (cI, 62, .inl a1_corner)), (h1_second, .inl (cI, 62, .inl a1_second)), (h1_third, .inl (cI, 62, .inl a1_third))]) A) [.ref h0, .ref h1].toArray s 0 0 A) (F0 m 44 ls []) := by
    intro x2_44 v_text_length_44 v_text_bytes_44 H locs ls hm hP hD hS hl
    replace hm := mt_app3 hK44 hm
    obtain rfl := Option.some.inj hm
    exact W.vret hx hb hr (fun t ht hW => ⟨⟨(), rfl, trivial, by rw [ht]; exact hP, hD⟩, hS.F ht⟩) hS.2.2 dX1_write_44
  have L9 : ∀ n9 : Nat, ∀ (x2_9 : Int32) (v_text_length_9 : Int32) (v_text_bytes_9 : Nat → Int32), ∀ (H : Heap) (locs : List Loc) (ls : Array Slot), m_X1_write_L9 a1_there a1_corner a1_second a1_third K44 n9 x2_9 v_text_length_9 v_text_bytes_9 = some q → va_P (dC, dI) vwCl [(h0, .inr (1, [.ref h0_text])), (h0_text, .inr (4, [.ref h0_text_bytes, .int v_text_length_9])), (h0_text_bytes, .inl (cI, 600, .inl v_text_bytes_9)), (h1, .inr (5, [.ref h1_had, .ref h1_there, .ref h1_corner, .ref h1_second, .ref h1_third, .int a1_seed, .int a1_size, .int a1_parts])), (h1_had, .inl (cZ, 62, .inl a1_had)), (h1_there, .inl (cZ, 62, .inl a1_there)), (h1_corner, .inl (cI, 62, .inl a1_corner)), (h1_second, .inl (cI, 62, .inl a1_second)), (h1_third, .inl (cI, 62, .inl a1_third))] H → va_D A [(h0, .inr (1, [.ref h0_text])), (h0_text, .inr (4, [.ref h0_text_bytes, .int v_text_length_9])), (h0_text_bytes, .inl (cI, 600, .inl v_text_bytes_9)), (h1, .inr (5, [.ref h1_had, .ref h1_there, .ref h1_corner, .ref h1_second, .ref h1_third, .int a1_seed, .int a1_size, .int a1_parts])), (h1_had, .inl (cZ, 62, .inl a1_had)), (h1_there, .inl (cZ, 62, .inl a1_there)), (h1_corner, .inl (cI, 62, .inl a1_corner)), (h1_second, .inl (cI, 62, .inl a1_second)), (h1_third, .inl (cI, 62, .inl a1_third))] → va_S A s.heap H locs → lv_has ls 3 [(0, .ref h0), (1, .ref h1), (2, .int x2_9)] → W p l e (headSpec wsX1_write ({ frames := 3, cells := 0, slots := 0, locals := 65 })).room s m [.ref h0, .ref h1].toArray below meth c H locs 0 0 (MQ below (va_Qv (fun (_ : Unit) => True) (fun _ t => va_P (dC, dI) vwCl [(h0, .inr (1, [.ref h0_text])), (h0_text, .inr (4, [.ref h0_text_bytes, .int q.1])), (h0_text_bytes, .inl (cI, 600, .inl q.2)), (h1, .inr (5, [.ref h1_had, .ref h1_there, .ref h1_corner, .ref h1_second, .ref h1_third, .int a1_seed, .int a1_size, .int a1_parts])), (h1_had, .inl (cZ, 62, .inl a1_had)), (h1_there, .inl (cZ, 62, .inl a1_there)), (h1_corner, .inl (cI, 62, .inl a1_corner)), (h1_second, .inl (cI, 62, .inl a1_second)), (h1_third, .inl (cI, 62, .inl a1_third))] t.heap ∧ va_D A [(h0, .inr (1, [.ref h0_text])), (h0_text, .inr (4, [.ref h0_text_bytes, .int q.1])), (h0_text_bytes, .inl (cI, 600, .inl q.2)), (h1, .inr (5, [.ref h1_had, .ref h1_there, .ref h1_corner, .ref h1_second, .ref h1_third, .int a1_seed, .int a1_size, .int a1_parts])), (h1_had, .inl (cZ, 62, .inl a1_had)), (h1_there, .inl (cZ, 62, .inl a1_there)), (h1_corner, .inl (cI, 62, .inl a1_corner)), (h1_second, .inl (cI, 62, .inl a1_second)), (h1_third, .inl (cI, 62, .inl a1_third))]) A) [.ref h0, .ref h1].toArray s 0 0 A) (F0 m 9 ls []) := by
    intro n9
    induction n9 with
    | zero =>
      intro x2_9 v_text_length_9 v_text_bytes_9 H locs ls hm hP hD hS hl
      exact absurd hm (fun h => nomatch h)
    | succ n9 ih9 =>
      intro x2_9 v_text_length_9 v_text_bytes_9 H locs ls hm hP hD hS hl
      rw [m_X1_write_L9] at hm
      refine lv_iload_n hx hb dX1_write_9 rfl (lv_at hl 2 rfl) ?_
      refine lv_bipush (v := (62 : Int32)) hx hb dX1_write_10 (by decide) ?_
      refine lv_icmp_ge (tgt := 44) hx hb dX1_write_12 (by decide) (fun c2 => ?_) (fun c2 => ?_)
      · replace hm := mt_pos c2 hm
        exact J44 x2_9 v_text_length_9 v_text_bytes_9 _ _ _ hm hP hD hS (lv_sub hl [0, 1, 2] rfl)
      · replace hm := mt_neg c2 hm
        refine lv_aload_n hx hb dX1_write_15 rfl (lv_at hl 1 rfl) ?_
        refine lv_iload_n hx hb dX1_write_16 rfl (lv_at hl 2 rfl) ?_
        obtain ⟨q3, hq3, hm⟩ := mt_bind hm
        refine vp_callSi (va_Run.run (va_runV (As := [.int x2_9]) (rest := []) ⟨hx, hb, hml, hown, hts⟩ (c_X5_isThere l dC dI cZ cI cL h1 h1_had h1_there h1_corner h1_second h1_third x2_9 a1_seed a1_size a1_parts a1_had a1_there a1_corner a1_second a1_third q3 hq3) (cwV 1 hts gX1_write_X5_isThere rfl rfl rfl (by decide +kernel) ⟨Nat.le_of_ble_eq_true rfl, Nat.le_of_ble_eq_true rfl⟩) (mt_vR (q := (RX5, TX5, 8)) 5 hC (hP.sub (ws' := [(h1, .inr (5, [.ref h1_had, .ref h1_there, .ref h1_corner, .ref h1_second, .ref h1_third, .int a1_seed, .int a1_size, .int a1_parts])), (h1_had, .inl (cZ, 62, .inl a1_had)), (h1_there, .inl (cZ, 62, .inl a1_there)), (h1_corner, .inl (cI, 62, .inl a1_corner)), (h1_second, .inl (cI, 62, .inl a1_second)), (h1_third, .inl (cI, 62, .inl a1_third))]) [3, 4, 5, 6, 7, 8] rfl) rfl rfl) rfl rfl hl.1 rfl (lv_room (Nat.le_of_ble_eq_true rfl)) dX1_write_17 ⟨Nat.le_of_ble_eq_true rfl, Nat.le_of_ble_eq_true rfl⟩)) (fun r er => ?_)
        replace er := er.symm
        subst er
        refine lv_if_eq (tgt := 38) hx hb dX1_write_20 (by decide) (fun c4 => ?_) (fun c4 => ?_)
        · replace hm := mt_pos c4 hm
          refine lv_iinc (v := (x2_9 + (1 : Int32))) (lv' := [(2, .int (x2_9 + (1 : Int32))), (0, .ref h0), (1, .ref h1)]) hx hb dX1_write_38 hl (k := 2) rfl rfl (by decide) rfl (fun ls hl => ?_)
          refine lv_goto (tgt := 9) hx hb dX1_write_41 (by decide) ?_
          exact ih9 (x2_9 + (1 : Int32)) v_text_length_9 v_text_bytes_9 _ _ _ hm hP hD hS (lv_sub hl [1, 2, 0] rfl)
        · replace hm := mt_neg c4 hm
          refine lv_aload_n hx hb dX1_write_23 rfl (lv_at hl 0 rfl) ?_
          refine lv_aload_n hx hb dX1_write_24 rfl (lv_at hl 1 rfl) ?_
          refine lv_iload_n hx hb dX1_write_25 rfl (lv_at hl 2 rfl) ?_
          obtain ⟨q5, hq5, hm⟩ := mt_bind hm
          refine mt_callv (wr := []) hP hD hS hA [0, 1, 2, 3, 4, 5, 6, 7, 8] [] rfl rfl (by decide) (by decide) (va_runV (As := [.ref h1, .int x2_9]) (rest := []) ⟨hx, hb, hml, hown, hts⟩ (c_X1_writePart l dC dI cZ cI cL h0 h0_text h0_text_bytes h1 h1_had h1_there h1_corner h1_second h1_third H.size x2_9 v_text_length_9 v_text_bytes_9 a1_seed a1_size a1_parts a1_had a1_there a1_corner a1_second a1_third q5 hq5) (cwV 2 hts gX1_write_X1_writePart rfl rfl rfl (by decide +kernel) ⟨Nat.le_of_ble_eq_true rfl, Nat.le_of_ble_eq_true rfl⟩) (mt_vS (q := (RX1, TX1, 1)) 1 hC hP hD rfl rfl) rfl rfl hl.1 rfl (lv_room (Nat.le_of_ble_eq_true rfl)) dX1_write_26 ⟨Nat.le_of_ble_eq_true rfl, Nat.le_of_ble_eq_true rfl⟩) (fun H locs hP hD hS => ?_)
          have hP : va_P (dC, dI) vwCl [(h0, .inr (1, [.ref h0_text])), (h0_text, .inr (4, [.ref h0_text_bytes, .int q5.1])), (h0_text_bytes, .inl (cI, 600, .inl q5.2)), (h1, .inr (5, [.ref h1_had, .ref h1_there, .ref h1_corner, .ref h1_second, .ref h1_third, .int a1_seed, .int a1_size, .int a1_parts])), (h1_had, .inl (cZ, 62, .inl a1_had)), (h1_there, .inl (cZ, 62, .inl a1_there)), (h1_corner, .inl (cI, 62, .inl a1_corner)), (h1_second, .inl (cI, 62, .inl a1_second)), (h1_third, .inl (cI, 62, .inl a1_third))] H := hP.sub [0, 1, 2, 3, 4, 5, 6, 7, 8] rfl
          have hD : va_D A [(h0, .inr (1, [.ref h0_text])), (h0_text, .inr (4, [.ref h0_text_bytes, .int q5.1])), (h0_text_bytes, .inl (cI, 600, .inl q5.2)), (h1, .inr (5, [.ref h1_had, .ref h1_there, .ref h1_corner, .ref h1_second, .ref h1_third, .int a1_seed, .int a1_size, .int a1_parts])), (h1_had, .inl (cZ, 62, .inl a1_had)), (h1_there, .inl (cZ, 62, .inl a1_there)), (h1_corner, .inl (cI, 62, .inl a1_corner)), (h1_second, .inl (cI, 62, .inl a1_second)), (h1_third, .inl (cI, 62, .inl a1_third))] := hD.sub [0, 1, 2, 3, 4, 5, 6, 7, 8] (by decide) rfl
          refine lv_aload_n hx hb dX1_write_29 rfl (lv_at hl 0 rfl) ?_
          refine va_get (D := (dC, dI)) (ci := 1) (v := .ref h0_text) (C := RX1) (T := TX1) (N := 1) hx hb hts hiX1 hown hK hP 0 rfl rfl 0 (by decide) (hts (.fieldLink RX1 12 "ServiceDrawer$Printer" "text" "LServiceDrawer$Text;") (by decide +kernel)) (fun _ h9 => h9) rfl dX1_write_30 ?_
          refine lv_bipush (v := (59 : Int32)) hx hb dX1_write_33 (by decide) ?_
          obtain ⟨q6, hq6, hm⟩ := mt_bind hm
          refine mt_callv (wr := [(h0, .inr (1, [.ref h0_text])), (h1, .inr (5, [.ref h1_had, .ref h1_there, .ref h1_corner, .ref h1_second, .ref h1_third, .int a1_seed, .int a1_size, .int a1_parts])), (h1_had, .inl (cZ, 62, .inl a1_had)), (h1_there, .inl (cZ, 62, .inl a1_there)), (h1_corner, .inl (cI, 62, .inl a1_corner)), (h1_second, .inl (cI, 62, .inl a1_second)), (h1_third, .inl (cI, 62, .inl a1_third))]) hP hD hS hA [1, 2] [0, 3, 4, 5, 6, 7, 8] rfl rfl (by decide) (by decide) (va_runV (As := [.int (59 : Int32)]) (rest := []) ⟨hx, hb, hml, hown, hts⟩ (c_X4_add l dC dI cZ cI cL h0_text h0_text_bytes H.size (59 : Int32) q5.1 q5.2 q6 hq6) (cwV 1 hts gX1_write_X4_add rfl rfl rfl (by decide +kernel) ⟨Nat.le_of_ble_eq_true rfl, Nat.le_of_ble_eq_true rfl⟩) (mt_vS (q := (RX4, TX4, 2)) 4 hC (hP.sub (ws' := [(h0_text, .inr (4, [.ref h0_text_bytes, .int q5.1])), (h0_text_bytes, .inl (cI, 600, .inl q5.2))]) [1, 2] rfl) (hD.sub (ws' := [(h0_text, .inr (4, [.ref h0_text_bytes, .int q5.1])), (h0_text_bytes, .inl (cI, 600, .inl q5.2))]) [1, 2] (by decide) rfl) rfl rfl) rfl rfl hl.1 rfl (lv_room (Nat.le_of_ble_eq_true rfl)) dX1_write_35 ⟨Nat.le_of_ble_eq_true rfl, Nat.le_of_ble_eq_true rfl⟩) (fun H locs hP hD hS => ?_)
          have hP : va_P (dC, dI) vwCl [(h0, .inr (1, [.ref h0_text])), (h0_text, .inr (4, [.ref h0_text_bytes, .int q6.1])), (h0_text_bytes, .inl (cI, 600, .inl q6.2)), (h1, .inr (5, [.ref h1_had, .ref h1_there, .ref h1_corner, .ref h1_second, .ref h1_third, .int a1_seed, .int a1_size, .int a1_parts])), (h1_had, .inl (cZ, 62, .inl a1_had)), (h1_there, .inl (cZ, 62, .inl a1_there)), (h1_corner, .inl (cI, 62, .inl a1_corner)), (h1_second, .inl (cI, 62, .inl a1_second)), (h1_third, .inl (cI, 62, .inl a1_third))] H := hP.sub [0, 7, 8, 1, 2, 3, 4, 5, 6] rfl
          have hD : va_D A [(h0, .inr (1, [.ref h0_text])), (h0_text, .inr (4, [.ref h0_text_bytes, .int q6.1])), (h0_text_bytes, .inl (cI, 600, .inl q6.2)), (h1, .inr (5, [.ref h1_had, .ref h1_there, .ref h1_corner, .ref h1_second, .ref h1_third, .int a1_seed, .int a1_size, .int a1_parts])), (h1_had, .inl (cZ, 62, .inl a1_had)), (h1_there, .inl (cZ, 62, .inl a1_there)), (h1_corner, .inl (cI, 62, .inl a1_corner)), (h1_second, .inl (cI, 62, .inl a1_second)), (h1_third, .inl (cI, 62, .inl a1_third))] := hD.sub [0, 7, 8, 1, 2, 3, 4, 5, 6] (by decide) rfl
          refine lv_iinc (v := (x2_9 + (1 : Int32))) (lv' := [(2, .int (x2_9 + (1 : Int32))), (0, .ref h0), (1, .ref h1)]) hx hb dX1_write_38 hl (k := 2) rfl rfl (by decide) rfl (fun ls hl => ?_)
          refine lv_goto (tgt := 9) hx hb dX1_write_41 (by decide) ?_
          exact ih9 (x2_9 + (1 : Int32)) q6.1 q6.2 _ _ _ hm hP hD hS (lv_sub hl [1, 2, 0] rfl)
  exact L9 fu (0 : Int32) q1 v_text_bytes _ _ _ hm hP hD hS (lv_sub hl [1, 2, 0] rfl)
def m_X4_length (v_length : Int32) : Option (Int32) := some v_length
set_option maxHeartbeats 4000000 in
set_option maxRecDepth 100000 in
theorem c_X4_length (l : Launch) (dC : Nat → ClassId) (dI : Nat → Nat → Nat) (cZ cI cL : ClassId) (h0 h0_bytes : Nat) (v_length : Int32) (v_bytes : Nat → Int32) (q : Int32) (hm : m_X4_length v_length = some q) : Met l yX4_length wsX4_length ({ frames := 0, cells := 0, slots := 0, locals := 0 }) (va_Pc [.ref h0] (mt_R (dC, dI) cZ cI cL [(h0, .inr (4, [.ref h0_bytes, .int v_length])), (h0_bytes, .inl (cI, 600, .inl v_bytes))])) (vp_Si (fun r => r = q)) 0 0 (fun _ => False) := by
  refine Met.ofW (cc := cX4_length) (maxL := 1) (ret := (some .int)) (by decide) rfl ?_
  intro p e s m args below meth c s₁ B hml hv
  obtain ⟨rfl, hP, hC⟩ := hv
  have hx := B.exec
  have hb := B.bytes
  have hr := B.returns
  have hts := atoms_spec (ws := wsX4_length) B.pre
  have hown : s.vm.findClass RX4 = some m.cls := findClass_of_methodNamed B.named
  have hlocks := B.notSynchronized
  have hK := hC.1
  have hiX4 : ∀ w ∈ wsX40, w ∈ wsX4_length := by decide +kernel
  have hl := lv_entry [.ref h0] (n := 1) (Nat.le_of_ble_eq_true rfl)
  rw [lg_entry_eq]
  generalize (lg_sl [.ref h0] ++ List.replicate (1 - (lg_sl [.ref h0]).length) Slot.unset).toArray = ls at hl ⊢
  have hl : lv_has ls 1 [(0, .ref h0)] := hl
  rw [m_X4_length] at hm
  refine lv_aload_n hx hb dX4_length_0 rfl (lv_at hl 0 rfl) ?_
  refine va_get (D := (dC, dI)) (ci := 4) (v := .int v_length) (C := RX4) (T := TX4) (N := 2) hx hb hts hiX4 hown hK hP 0 rfl rfl 1 (by decide) (hts (.fieldLink RX4 15 "ServiceDrawer$Text" "length" "I") (by decide +kernel)) (fun _ h9 => h9) rfl dX4_length_1 ?_
  obtain rfl := Option.some.inj hm
  exact W.iret hx hb hr (fun t ht hW => ⟨_, rfl, rfl, ht⟩) t_nil dX4_length_4
def m_X4_byteAt (p1 : Int32) (v_length : Int32) (v_bytes : Nat → Int32) : Option (Int32) := if p1 < 0 then some ((-1) : Int32) else if v_length ≤ p1 then some ((-1) : Int32) else if (600 : Int32) ≤ p1 then some ((-1) : Int32) else if (¬ (p1 < 0 ∨ 600 ≤ p1.toNatClampNeg)) then some (v_bytes p1.toNatClampNeg) else none
set_option maxHeartbeats 4000000 in
set_option maxRecDepth 100000 in
theorem c_X4_byteAt (l : Launch) (dC : Nat → ClassId) (dI : Nat → Nat → Nat) (cZ cI cL : ClassId) (h0 h0_bytes : Nat) (p1 : Int32) (v_length : Int32) (v_bytes : Nat → Int32) (q : Int32) (hm : m_X4_byteAt p1 v_length v_bytes = some q) : Met l yX4_byteAt wsX4_byteAt ({ frames := 0, cells := 0, slots := 0, locals := 0 }) (va_Pc [.ref h0, .int p1] (mt_R (dC, dI) cZ cI cL [(h0, .inr (4, [.ref h0_bytes, .int v_length])), (h0_bytes, .inl (cI, 600, .inl v_bytes))])) (vp_Si (fun r => r = q)) 0 0 (fun _ => False) := by
  refine Met.ofW (cc := cX4_byteAt) (maxL := 2) (ret := (some .int)) (by decide) rfl ?_
  intro p e s m args below meth c s₁ B hml hv
  obtain ⟨rfl, hP, hC⟩ := hv
  have hx := B.exec
  have hb := B.bytes
  have hr := B.returns
  have hts := atoms_spec (ws := wsX4_byteAt) B.pre
  have hown : s.vm.findClass RX4 = some m.cls := findClass_of_methodNamed B.named
  have hlocks := B.notSynchronized
  have hK := hC.1
  have hiX4 : ∀ w ∈ wsX40, w ∈ wsX4_byteAt := by decide +kernel
  have hl := lv_entry [.ref h0, .int p1] (n := 2) (Nat.le_of_ble_eq_true rfl)
  rw [lg_entry_eq]
  generalize (lg_sl [.ref h0, .int p1] ++ List.replicate (2 - (lg_sl [.ref h0, .int p1]).length) Slot.unset).toArray = ls at hl ⊢
  have hl : lv_has ls 2 [(0, .ref h0), (1, .int p1)] := hl
  rw [m_X4_byteAt] at hm
  refine lv_iload_n hx hb dX4_byteAt_0 rfl (lv_at hl 1 rfl) ?_
  refine lv_if_lt (tgt := 28) hx hb dX4_byteAt_1 (by decide) (fun c1 => ?_) (fun c1 => ?_)
  · replace hm := mt_pos c1 hm
    refine lv_iconst (v := ((-1) : Int32)) hx hb dX4_byteAt_28 (by decide) ?_
    obtain rfl := Option.some.inj hm
    exact W.iret hx hb hr (fun t ht hW => ⟨_, rfl, rfl, ht⟩) t_nil dX4_byteAt_29
  · replace hm := mt_neg c1 hm
    refine lv_iload_n hx hb dX4_byteAt_4 rfl (lv_at hl 1 rfl) ?_
    refine lv_aload_n hx hb dX4_byteAt_5 rfl (lv_at hl 0 rfl) ?_
    refine va_get (D := (dC, dI)) (ci := 4) (v := .int v_length) (C := RX4) (T := TX4) (N := 2) hx hb hts hiX4 hown hK hP 0 rfl rfl 1 (by decide) (hts (.fieldLink RX4 15 "ServiceDrawer$Text" "length" "I") (by decide +kernel)) (fun _ h9 => h9) rfl dX4_byteAt_6 ?_
    refine lv_icmp_ge (tgt := 28) hx hb dX4_byteAt_9 (by decide) (fun c2 => ?_) (fun c2 => ?_)
    · replace hm := mt_pos c2 hm
      refine lv_iconst (v := ((-1) : Int32)) hx hb dX4_byteAt_28 (by decide) ?_
      obtain rfl := Option.some.inj hm
      exact W.iret hx hb hr (fun t ht hW => ⟨_, rfl, rfl, ht⟩) t_nil dX4_byteAt_29
    · replace hm := mt_neg c2 hm
      refine lv_iload_n hx hb dX4_byteAt_12 rfl (lv_at hl 1 rfl) ?_
      refine lv_sipush (v := (600 : Int32)) hx hb dX4_byteAt_13 (by decide) ?_
      refine lv_icmp_ge (tgt := 28) hx hb dX4_byteAt_16 (by decide) (fun c3 => ?_) (fun c3 => ?_)
      · replace hm := mt_pos c3 hm
        refine lv_iconst (v := ((-1) : Int32)) hx hb dX4_byteAt_28 (by decide) ?_
        obtain rfl := Option.some.inj hm
        exact W.iret hx hb hr (fun t ht hW => ⟨_, rfl, rfl, ht⟩) t_nil dX4_byteAt_29
      · replace hm := mt_neg c3 hm
        refine lv_aload_n hx hb dX4_byteAt_19 rfl (lv_at hl 0 rfl) ?_
        refine va_get (D := (dC, dI)) (ci := 4) (v := .ref h0_bytes) (C := RX4) (T := TX4) (N := 2) hx hb hts hiX4 hown hK hP 0 rfl rfl 0 (by decide) (hts (.fieldLink RX4 9 "ServiceDrawer$Text" "bytes" "[I") (by decide +kernel)) (fun _ h9 => h9) rfl dX4_byteAt_20 ?_
        refine lv_iload_n hx hb dX4_byteAt_23 rfl (lv_at hl 1 rfl) ?_
        obtain ⟨g4, hm⟩ := mt_gd hm
        refine va_iald hx hb hK hP 1 1 rfl rfl g4 dX4_byteAt_24 ?_
        refine lv_goto (tgt := 29) hx hb dX4_byteAt_25 (by decide) ?_
        obtain rfl := Option.some.inj hm
        exact W.iret hx hb hr (fun t ht hW => ⟨_, rfl, rfl, ht⟩) t_nil dX4_byteAt_29
def m_X2_kindOfLetter (p0 : Int32) : Option (Int32) := if p0 = (99 : Int32) then some (2 : Int32) else if p0 = (115 : Int32) then some (0 : Int32) else if p0 = (117 : Int32) then some (1 : Int32) else some ((-1) : Int32)
set_option maxHeartbeats 4000000 in
set_option maxRecDepth 100000 in
theorem c_X2_kindOfLetter (l : Launch) (dC : Nat → ClassId) (dI : Nat → Nat → Nat) (cZ cI cL : ClassId) (p0 : Int32) (q : Int32) (hm : m_X2_kindOfLetter p0 = some q) : Met l yX2_kindOfLetter wsX2_kindOfLetter ({ frames := 0, cells := 0, slots := 0, locals := 0 }) (va_Pc [.int p0] (mt_R (dC, dI) cZ cI cL [])) (vp_Si (fun r => r = q)) 0 0 (fun _ => False) := by
  refine Met.ofW (cc := cX2_kindOfLetter) (maxL := 1) (ret := (some .int)) (by decide) rfl ?_
  intro p e s m args below meth c s₁ B hml hv
  obtain ⟨rfl, hP, hC⟩ := hv
  have hx := B.exec
  have hb := B.bytes
  have hr := B.returns
  have hts := atoms_spec (ws := wsX2_kindOfLetter) B.pre
  have hown : s.vm.findClass RX2 = some m.cls := findClass_of_methodNamed B.named
  have hlocks := B.notSynchronized
  have hK := hC.1
  have hl := lv_entry [.int p0] (n := 1) (Nat.le_of_ble_eq_true rfl)
  rw [lg_entry_eq]
  generalize (lg_sl [.int p0] ++ List.replicate (1 - (lg_sl [.int p0]).length) Slot.unset).toArray = ls at hl ⊢
  have hl : lv_has ls 1 [(0, .int p0)] := hl
  rw [m_X2_kindOfLetter] at hm
  refine lv_iload_n hx hb dX2_kindOfLetter_0 rfl (lv_at hl 0 rfl) ?_
  by_cases c1 : p0 = (99 : Int32)
  · replace hm := mt_pos c1 hm
    refine lv_lookup (tgt := 40) (off := 39) hx hb dX2_kindOfLetter_1 (by decide) (mt_lk1 c1 (by decide)) (by decide) ?_
    refine lv_iconst (v := (2 : Int32)) hx hb dX2_kindOfLetter_40 (by decide) ?_
    obtain rfl := Option.some.inj hm
    exact W.iret hx hb hr (fun t ht hW => ⟨_, rfl, rfl, ht⟩) t_nil dX2_kindOfLetter_41
  replace hm := mt_neg c1 hm
  by_cases c2 : p0 = (115 : Int32)
  · replace hm := mt_pos c2 hm
    refine lv_lookup (tgt := 36) (off := 35) hx hb dX2_kindOfLetter_1 (by decide) (mt_lk1 c2 (by decide)) (by decide) ?_
    refine lv_iconst (v := (0 : Int32)) hx hb dX2_kindOfLetter_36 (by decide) ?_
    obtain rfl := Option.some.inj hm
    exact W.iret hx hb hr (fun t ht hW => ⟨_, rfl, rfl, ht⟩) t_nil dX2_kindOfLetter_37
  replace hm := mt_neg c2 hm
  by_cases c3 : p0 = (117 : Int32)
  · replace hm := mt_pos c3 hm
    refine lv_lookup (tgt := 38) (off := 37) hx hb dX2_kindOfLetter_1 (by decide) (mt_lk1 c3 (by decide)) (by decide) ?_
    refine lv_iconst (v := (1 : Int32)) hx hb dX2_kindOfLetter_38 (by decide) ?_
    obtain rfl := Option.some.inj hm
    exact W.iret hx hb hr (fun t ht hW => ⟨_, rfl, rfl, ht⟩) t_nil dX2_kindOfLetter_39
  replace hm := mt_neg c3 hm
  refine lv_lookup (tgt := 42) (off := 41) hx hb dX2_kindOfLetter_1 (by decide) (by simp only [Op.lookupswitch.offset, if_neg (mt_tne c1 99 (by decide)), if_neg (mt_tne c2 115 (by decide)), if_neg (mt_tne c3 117 (by decide))]) (by decide) ?_
  refine lv_iconst (v := ((-1) : Int32)) hx hb dX2_kindOfLetter_42 (by decide) ?_
  obtain rfl := Option.some.inj hm
  exact W.iret hx hb hr (fun t ht hW => ⟨_, rfl, rfl, ht⟩) t_nil dX2_kindOfLetter_43
def m_X2_mostRowsOf (p0 : Int32) : Option (Int32) := if p0 = 0 then some (30 : Int32) else if p0 = (1 : Int32) then some (11 : Int32) else some (21 : Int32)
set_option maxHeartbeats 4000000 in
set_option maxRecDepth 100000 in
theorem c_X2_mostRowsOf (l : Launch) (dC : Nat → ClassId) (dI : Nat → Nat → Nat) (cZ cI cL : ClassId) (p0 : Int32) (q : Int32) (hm : m_X2_mostRowsOf p0 = some q) : Met l yX2_mostRowsOf wsX2_mostRowsOf ({ frames := 0, cells := 0, slots := 0, locals := 0 }) (va_Pc [.int p0] (mt_R (dC, dI) cZ cI cL [])) (vp_Si (fun r => r = q)) 0 0 (fun _ => False) := by
  refine Met.ofW (cc := cX2_mostRowsOf) (maxL := 1) (ret := (some .int)) (by decide) rfl ?_
  intro p e s m args below meth c s₁ B hml hv
  obtain ⟨rfl, hP, hC⟩ := hv
  have hx := B.exec
  have hb := B.bytes
  have hr := B.returns
  have hts := atoms_spec (ws := wsX2_mostRowsOf) B.pre
  have hown : s.vm.findClass RX2 = some m.cls := findClass_of_methodNamed B.named
  have hlocks := B.notSynchronized
  have hK := hC.1
  have hl := lv_entry [.int p0] (n := 1) (Nat.le_of_ble_eq_true rfl)
  rw [lg_entry_eq]
  generalize (lg_sl [.int p0] ++ List.replicate (1 - (lg_sl [.int p0]).length) Slot.unset).toArray = ls at hl ⊢
  have hl : lv_has ls 1 [(0, .int p0)] := hl
  rw [m_X2_mostRowsOf] at hm
  refine lv_iload_n hx hb dX2_mostRowsOf_0 rfl (lv_at hl 0 rfl) ?_
  refine lv_if_ne (tgt := 7) hx hb dX2_mostRowsOf_1 (by decide) (fun c1 => ?_) (fun c1 => ?_)
  · replace hm := mt_neg c1 hm
    refine lv_iload_n hx hb dX2_mostRowsOf_7 rfl (lv_at hl 0 rfl) ?_
    refine lv_iconst (v := (1 : Int32)) hx hb dX2_mostRowsOf_8 (by decide) ?_
    refine lv_icmp_ne (tgt := 17) hx hb dX2_mostRowsOf_9 (by decide) (fun c2 => ?_) (fun c2 => ?_)
    · replace hm := mt_neg c2 hm
      refine lv_bipush (v := (21 : Int32)) hx hb dX2_mostRowsOf_17 (by decide) ?_
      obtain rfl := Option.some.inj hm
      exact W.iret hx hb hr (fun t ht hW => ⟨_, rfl, rfl, ht⟩) t_nil dX2_mostRowsOf_19
    · replace hm := mt_pos c2 hm
      refine lv_bipush (v := (11 : Int32)) hx hb dX2_mostRowsOf_12 (by decide) ?_
      refine lv_goto (tgt := 19) hx hb dX2_mostRowsOf_14 (by decide) ?_
      obtain rfl := Option.some.inj hm
      exact W.iret hx hb hr (fun t ht hW => ⟨_, rfl, rfl, ht⟩) t_nil dX2_mostRowsOf_19
  · replace hm := mt_pos c1 hm
    refine lv_bipush (v := (30 : Int32)) hx hb dX2_mostRowsOf_4 (by decide) ?_
    obtain rfl := Option.some.inj hm
    exact W.iret hx hb hr (fun t ht hW => ⟨_, rfl, rfl, ht⟩) t_nil dX2_mostRowsOf_6
def m_X2_wrongAt (p1 : Int32) : Option (Int32 × Int32) := some ((0 : Int32), p1)
set_option maxHeartbeats 4000000 in
set_option maxRecDepth 100000 in
theorem c_X2_wrongAt (l : Launch) (dC : Nat → ClassId) (dI : Nat → Nat → Nat) (cZ cI cL : ClassId) (h0 h0_tape h0_tape_bytes h0_rowsOf : Nat) (sz : Nat) (p1 : Int32) (v_place : Int32) (v_latestKind : Int32) (v_latestNumber : Int32) (v_wrong : Int32) (v_tape_length : Int32) (v_tape_bytes : Nat → Int32) (v_rowsOf : Nat → Int32) (q : Int32 × Int32) (hm : m_X2_wrongAt p1 = some q) : Met l yX2_wrongAt wsX2_wrongAt ({ frames := 0, cells := 0, slots := 0, locals := 0 }) (va_Pc [.ref h0, .int p1] (mt_S (dC, dI) cZ cI cL sz [(h0, .inr (2, [.ref h0_tape, .ref h0_rowsOf, .int v_place, .int v_latestKind, .int v_latestNumber, .int v_wrong])), (h0_tape, .inr (4, [.ref h0_tape_bytes, .int v_tape_length])), (h0_tape_bytes, .inl (cI, 600, .inl v_tape_bytes)), (h0_rowsOf, .inl (cI, 3, .inl v_rowsOf))])) (va_Qi (fun (r : Int32) (_ : Unit) => r = q.1) (fun _ t => va_P (dC, dI) vwCl [(h0, .inr (2, [.ref h0_tape, .ref h0_rowsOf, .int v_place, .int v_latestKind, .int v_latestNumber, .int q.2])), (h0_tape, .inr (4, [.ref h0_tape_bytes, .int v_tape_length])), (h0_tape_bytes, .inl (cI, 600, .inl v_tape_bytes)), (h0_rowsOf, .inl (cI, 3, .inl v_rowsOf))] t.heap ∧ va_D (va_A [(h0, .inr (2, [.ref h0_tape, .ref h0_rowsOf, .int v_place, .int v_latestKind, .int v_latestNumber, .int v_wrong])), (h0_tape, .inr (4, [.ref h0_tape_bytes, .int v_tape_length])), (h0_tape_bytes, .inl (cI, 600, .inl v_tape_bytes)), (h0_rowsOf, .inl (cI, 3, .inl v_rowsOf))] sz) [(h0, .inr (2, [.ref h0_tape, .ref h0_rowsOf, .int v_place, .int v_latestKind, .int v_latestNumber, .int q.2])), (h0_tape, .inr (4, [.ref h0_tape_bytes, .int v_tape_length])), (h0_tape_bytes, .inl (cI, 600, .inl v_tape_bytes)), (h0_rowsOf, .inl (cI, 3, .inl v_rowsOf))]) (va_A [(h0, .inr (2, [.ref h0_tape, .ref h0_rowsOf, .int v_place, .int v_latestKind, .int v_latestNumber, .int v_wrong])), (h0_tape, .inr (4, [.ref h0_tape_bytes, .int v_tape_length])), (h0_tape_bytes, .inl (cI, 600, .inl v_tape_bytes)), (h0_rowsOf, .inl (cI, 3, .inl v_rowsOf))] sz)) 0 0 (va_A [(h0, .inr (2, [.ref h0_tape, .ref h0_rowsOf, .int v_place, .int v_latestKind, .int v_latestNumber, .int v_wrong])), (h0_tape, .inr (4, [.ref h0_tape_bytes, .int v_tape_length])), (h0_tape_bytes, .inl (cI, 600, .inl v_tape_bytes)), (h0_rowsOf, .inl (cI, 3, .inl v_rowsOf))] sz) := by
  refine Met.ofW (cc := cX2_wrongAt) (maxL := 2) (ret := (some .boolean)) (by decide) rfl ?_
  intro p e s m args below meth c s₁ B hml hv
  obtain ⟨rfl, hsz, hP, hC, hD0⟩ := hv
  have hx := B.exec
  have hb := B.bytes
  have hr := B.returns
  have hts := atoms_spec (ws := wsX2_wrongAt) B.pre
  have hown : s.vm.findClass RX2 = some m.cls := findClass_of_methodNamed B.named
  have hlocks := B.notSynchronized
  have hK := hC.1
  have hiX2 : ∀ w ∈ wsX20, w ∈ wsX2_wrongAt := by decide +kernel
  subst hsz
  have hD := hD0.self (sz := s.heap.size)
  generalize hAe : va_A [(h0, .inr (2, [.ref h0_tape, .ref h0_rowsOf, .int v_place, .int v_latestKind, .int v_latestNumber, .int v_wrong])), (h0_tape, .inr (4, [.ref h0_tape_bytes, .int v_tape_length])), (h0_tape_bytes, .inl (cI, 600, .inl v_tape_bytes)), (h0_rowsOf, .inl (cI, 3, .inl v_rowsOf))] s.heap.size = A at hD ⊢
  have hA : ∀ q : Nat, s.heap.size ≤ q → A q := fun q h => by rw [← hAe]; exact Or.inr h
  have hS : va_S A s.heap s.heap [] := va_S.rf
  have hl := lv_entry [.ref h0, .int p1] (n := 2) (Nat.le_of_ble_eq_true rfl)
  rw [lg_entry_eq]
  generalize (lg_sl [.ref h0, .int p1] ++ List.replicate (2 - (lg_sl [.ref h0, .int p1]).length) Slot.unset).toArray = ls at hl ⊢
  have hl : lv_has ls 2 [(0, .ref h0), (1, .int p1)] := hl
  rw [m_X2_wrongAt] at hm
  refine lv_aload_n hx hb dX2_wrongAt_0 rfl (lv_at hl 0 rfl) ?_
  refine lv_iload_n hx hb dX2_wrongAt_1 rfl (lv_at hl 1 rfl) ?_
  refine va_put (D := (dC, dI)) (ci := 2) (v := .int p1) (ty := .int) (C := RX2) (T := TX2) (N := 6) hx hb hts hiX2 tyX2 tyX2_ok nmX2 hown hK hP hD hS 0 rfl rfl 5 (by decide) (hts (.fieldLink RX2 29 "ServiceDrawer$Reader" "wrong" "I") (by decide +kernel)) (fun _ h9 => h9) rfl (by decide +kernel) rfl rfl (Nat.le_of_ble_eq_true rfl) dX2_wrongAt_2 (fun H locs hP hD hS => ?_)
  have hP : va_P (dC, dI) vwCl [(h0, .inr (2, [.ref h0_tape, .ref h0_rowsOf, .int v_place, .int v_latestKind, .int v_latestNumber, .int p1])), (h0_tape, .inr (4, [.ref h0_tape_bytes, .int v_tape_length])), (h0_tape_bytes, .inl (cI, 600, .inl v_tape_bytes)), (h0_rowsOf, .inl (cI, 3, .inl v_rowsOf))] H := hP
  have hD : va_D A [(h0, .inr (2, [.ref h0_tape, .ref h0_rowsOf, .int v_place, .int v_latestKind, .int v_latestNumber, .int p1])), (h0_tape, .inr (4, [.ref h0_tape_bytes, .int v_tape_length])), (h0_tape_bytes, .inl (cI, 600, .inl v_tape_bytes)), (h0_rowsOf, .inl (cI, 3, .inl v_rowsOf))] := hD
  refine lv_iconst (v := (0 : Int32)) hx hb dX2_wrongAt_5 (by decide) ?_
  obtain rfl := Option.some.inj hm
  exact W.zret hx hb hr mt_z0 (fun t ht hW => ⟨⟨_, (), rfl, rfl, by rw [ht]; exact hP, hD⟩, hS.F ht⟩) hS.2.2 dX2_wrongAt_6
def m_X2_isDigit (p0 : Int32) : Option (Int32) := if p0 < (48 : Int32) then some (0 : Int32) else if (57 : Int32) < p0 then some (0 : Int32) else some (1 : Int32)
set_option maxHeartbeats 4000000 in
set_option maxRecDepth 100000 in
theorem c_X2_isDigit (l : Launch) (dC : Nat → ClassId) (dI : Nat → Nat → Nat) (cZ cI cL : ClassId) (p0 : Int32) (q : Int32) (hm : m_X2_isDigit p0 = some q) : Met l yX2_isDigit wsX2_isDigit ({ frames := 0, cells := 0, slots := 0, locals := 0 }) (va_Pc [.int p0] (mt_R (dC, dI) cZ cI cL [])) (vp_Si (fun r => r = q)) 0 0 (fun _ => False) := by
  refine Met.ofW (cc := cX2_isDigit) (maxL := 1) (ret := (some .boolean)) (by decide) rfl ?_
  intro p e s m args below meth c s₁ B hml hv
  obtain ⟨rfl, hP, hC⟩ := hv
  have hx := B.exec
  have hb := B.bytes
  have hr := B.returns
  have hts := atoms_spec (ws := wsX2_isDigit) B.pre
  have hown : s.vm.findClass RX2 = some m.cls := findClass_of_methodNamed B.named
  have hlocks := B.notSynchronized
  have hK := hC.1
  have hl := lv_entry [.int p0] (n := 1) (Nat.le_of_ble_eq_true rfl)
  rw [lg_entry_eq]
  generalize (lg_sl [.int p0] ++ List.replicate (1 - (lg_sl [.int p0]).length) Slot.unset).toArray = ls at hl ⊢
  have hl : lv_has ls 1 [(0, .int p0)] := hl
  rw [m_X2_isDigit] at hm
  refine lv_iload_n hx hb dX2_isDigit_0 rfl (lv_at hl 0 rfl) ?_
  refine lv_bipush (v := (48 : Int32)) hx hb dX2_isDigit_1 (by decide) ?_
  refine lv_icmp_lt (tgt := 16) hx hb dX2_isDigit_3 (by decide) (fun c1 => ?_) (fun c1 => ?_)
  · replace hm := mt_pos c1 hm
    refine lv_iconst (v := (0 : Int32)) hx hb dX2_isDigit_16 (by decide) ?_
    obtain rfl := Option.some.inj hm
    exact W.zret hx hb hr mt_z0 (fun t ht hW => ⟨_, rfl, rfl, ht⟩) t_nil dX2_isDigit_17
  · replace hm := mt_neg c1 hm
    refine lv_iload_n hx hb dX2_isDigit_6 rfl (lv_at hl 0 rfl) ?_
    refine lv_bipush (v := (57 : Int32)) hx hb dX2_isDigit_7 (by decide) ?_
    refine lv_icmp_gt (tgt := 16) hx hb dX2_isDigit_9 (by decide) (fun c2 => ?_) (fun c2 => ?_)
    · replace hm := mt_pos c2 hm
      refine lv_iconst (v := (0 : Int32)) hx hb dX2_isDigit_16 (by decide) ?_
      obtain rfl := Option.some.inj hm
      exact W.zret hx hb hr mt_z0 (fun t ht hW => ⟨_, rfl, rfl, ht⟩) t_nil dX2_isDigit_17
    · replace hm := mt_neg c2 hm
      refine lv_iconst (v := (1 : Int32)) hx hb dX2_isDigit_12 (by decide) ?_
      refine lv_goto (tgt := 17) hx hb dX2_isDigit_13 (by decide) ?_
      obtain rfl := Option.some.inj hm
      exact W.zret hx hb hr mt_z1 (fun t ht hW => ⟨_, rfl, rfl, ht⟩) t_nil dX2_isDigit_17
def m_X2_readNumber_L8 (v_place : Int32) (v_tape_length : Int32) (v_tape_bytes : Nat → Int32) (K70 : Int32 → Int32 → Option (Int32 × Int32 × Int32 × Int32)) : Nat → Int32 → Int32 → Option (Int32 × Int32 × Int32 × Int32)
  | 0, _, _ => none
  | n8 + 1, x4_8, v_place_8 => if (4 : Int32) ≤ (v_place_8 - v_place) then K70 x4_8 v_place_8 else (m_X4_byteAt v_place_8 v_tape_length v_tape_bytes).bind fun q13 => (m_X2_isDigit q13).bind fun q14 => if q14 = 0 then K70 x4_8 v_place_8 else (m_X4_byteAt v_place_8 v_tape_length v_tape_bytes).bind fun q16 => m_X2_readNumber_L8 v_place v_tape_length v_tape_bytes K70 n8 ((((10 : Int32) * x4_8) + q16) - (48 : Int32)) (v_place_8 + (1 : Int32))
def m_X2_readNumber (fu : Nat) (p1 : Int32) (p2 : Int32) (v_place : Int32) (v_latestNumber : Int32) (v_wrong : Int32) (v_tape_length : Int32) (v_tape_bytes : Nat → Int32) : Option (Int32 × Int32 × Int32 × Int32) := mt_j (fun (x4_70 : Int32) (v_place_70 : Int32) => if v_place_70 = v_place then (m_X2_wrongAt v_place_70).bind fun q10 => if (q10.1 &&& 1 = q10.1) then some (q10.1, v_place_70, v_latestNumber, q10.2) else none else (m_X4_byteAt v_place v_tape_length v_tape_bytes).bind fun q2 => mt_j (fun (j0_115 : Int32) => mt_j (fun (u134 : Unit) => (m_X2_wrongAt (v_place_70 - (1 : Int32))).bind fun q3 => if (q3.1 &&& 1 = q3.1) then some (q3.1, v_place_70, v_latestNumber, q3.2) else none) fun K134 => if j0_115 = 0 then if x4_70 < p1 then K134 () else if x4_70 ≤ p2 then some ((1 : Int32), v_place_70, x4_70, v_wrong) else K134 () else K134 ()) fun K115 => mt_j (fun (u114 : Unit) => K115 (0 : Int32)) fun K114 => if q2 = (48 : Int32) then if (v_place_70 - v_place) ≤ (1 : Int32) then K114 () else K115 (1 : Int32) else K114 ()) fun K70 => m_X2_readNumber_L8 v_place v_tape_length v_tape_bytes K70 fu (0 : Int32) v_place
set_option maxHeartbeats 4000000 in
set_option maxRecDepth 100000 in
theorem c_X2_readNumber (l : Launch) (dC : Nat → ClassId) (dI : Nat → Nat → Nat) (cZ cI cL : ClassId) (h0 h0_tape h0_tape_bytes h0_rowsOf : Nat) (sz : Nat) (p1 : Int32) (p2 : Int32) (v_place : Int32) (v_latestKind : Int32) (v_latestNumber : Int32) (v_wrong : Int32) (v_tape_length : Int32) (v_tape_bytes : Nat → Int32) (v_rowsOf : Nat → Int32) (fu : Nat) (q : Int32 × Int32 × Int32 × Int32) (hm : m_X2_readNumber fu p1 p2 v_place v_latestNumber v_wrong v_tape_length v_tape_bytes = some q) : Met l yX2_readNumber wsX2_readNumber ({ frames := 1, cells := 0, slots := 0, locals := 21 }) (va_Pc [.ref h0, .int p1, .int p2] (mt_S (dC, dI) cZ cI cL sz [(h0, .inr (2, [.ref h0_tape, .ref h0_rowsOf, .int v_place, .int v_latestKind, .int v_latestNumber, .int v_wrong])), (h0_tape, .inr (4, [.ref h0_tape_bytes, .int v_tape_length])), (h0_tape_bytes, .inl (cI, 600, .inl v_tape_bytes)), (h0_rowsOf, .inl (cI, 3, .inl v_rowsOf))])) (va_Qi (fun (r : Int32) (_ : Unit) => r = q.1) (fun _ t => va_P (dC, dI) vwCl [(h0, .inr (2, [.ref h0_tape, .ref h0_rowsOf, .int q.2.1, .int v_latestKind, .int q.2.2.1, .int q.2.2.2])), (h0_tape, .inr (4, [.ref h0_tape_bytes, .int v_tape_length])), (h0_tape_bytes, .inl (cI, 600, .inl v_tape_bytes)), (h0_rowsOf, .inl (cI, 3, .inl v_rowsOf))] t.heap ∧ va_D (va_A [(h0, .inr (2, [.ref h0_tape, .ref h0_rowsOf, .int v_place, .int v_latestKind, .int v_latestNumber, .int v_wrong])), (h0_tape, .inr (4, [.ref h0_tape_bytes, .int v_tape_length])), (h0_tape_bytes, .inl (cI, 600, .inl v_tape_bytes)), (h0_rowsOf, .inl (cI, 3, .inl v_rowsOf))] sz) [(h0, .inr (2, [.ref h0_tape, .ref h0_rowsOf, .int q.2.1, .int v_latestKind, .int q.2.2.1, .int q.2.2.2])), (h0_tape, .inr (4, [.ref h0_tape_bytes, .int v_tape_length])), (h0_tape_bytes, .inl (cI, 600, .inl v_tape_bytes)), (h0_rowsOf, .inl (cI, 3, .inl v_rowsOf))]) (va_A [(h0, .inr (2, [.ref h0_tape, .ref h0_rowsOf, .int v_place, .int v_latestKind, .int v_latestNumber, .int v_wrong])), (h0_tape, .inr (4, [.ref h0_tape_bytes, .int v_tape_length])), (h0_tape_bytes, .inl (cI, 600, .inl v_tape_bytes)), (h0_rowsOf, .inl (cI, 3, .inl v_rowsOf))] sz)) 0 0 (va_A [(h0, .inr (2, [.ref h0_tape, .ref h0_rowsOf, .int v_place, .int v_latestKind, .int v_latestNumber, .int v_wrong])), (h0_tape, .inr (4, [.ref h0_tape_bytes, .int v_tape_length])), (h0_tape_bytes, .inl (cI, 600, .inl v_tape_bytes)), (h0_rowsOf, .inl (cI, 3, .inl v_rowsOf))] sz) := by
  refine Met.ofW (cc := cX2_readNumber) (maxL := 6) (ret := (some .boolean)) (by decide) rfl ?_
  intro p e s m args below meth c s₁ B hml hv
  obtain ⟨rfl, hsz, hP, hC, hD0⟩ := hv
  have hx := B.exec
  have hb := B.bytes
  have hr := B.returns
  have hts := atoms_spec (ws := wsX2_readNumber) B.pre
  have hown : s.vm.findClass RX2 = some m.cls := findClass_of_methodNamed B.named
  have hlocks := B.notSynchronized
  have hK := hC.1
  have hiX2 : ∀ w ∈ wsX20, w ∈ wsX2_readNumber := by decide +kernel
  subst hsz
  have hD := hD0.self (sz := s.heap.size)
  generalize hAe : va_A [(h0, .inr (2, [.ref h0_tape, .ref h0_rowsOf, .int v_place, .int v_latestKind, .int v_latestNumber, .int v_wrong])), (h0_tape, .inr (4, [.ref h0_tape_bytes, .int v_tape_length])), (h0_tape_bytes, .inl (cI, 600, .inl v_tape_bytes)), (h0_rowsOf, .inl (cI, 3, .inl v_rowsOf))] s.heap.size = A at hD ⊢
  have hA : ∀ q : Nat, s.heap.size ≤ q → A q := fun q h => by rw [← hAe]; exact Or.inr h
  have hS : va_S A s.heap s.heap [] := va_S.rf
  have hl := lv_entry [.ref h0, .int p1, .int p2] (n := 6) (Nat.le_of_ble_eq_true rfl)
  rw [lg_entry_eq]
  generalize (lg_sl [.ref h0, .int p1, .int p2] ++ List.replicate (6 - (lg_sl [.ref h0, .int p1, .int p2]).length) Slot.unset).toArray = ls at hl ⊢
  have hl : lv_has ls 6 [(0, .ref h0), (1, .int p1), (2, .int p2)] := hl
  rw [m_X2_readNumber] at hm
  refine lv_aload_n hx hb dX2_readNumber_0 rfl (lv_at hl 0 rfl) ?_
  refine va_get (D := (dC, dI)) (ci := 2) (v := .int v_place) (C := RX2) (T := TX2) (N := 6) hx hb hts hiX2 hown hK hP 0 rfl rfl 2 (by decide) (hts (.fieldLink RX2 22 "ServiceDrawer$Reader" "place" "I") (by decide +kernel)) (fun _ h9 => h9) rfl dX2_readNumber_1 ?_
  refine lv_istore_n (lv' := [(3, .int v_place), (0, .ref h0), (1, .int p1), (2, .int p2)]) hx hb dX2_readNumber_4 rfl hl (by decide) rfl (fun ls hl => ?_)
  refine lv_iconst (v := (0 : Int32)) hx hb dX2_readNumber_5 (by decide) ?_
  refine lv_istore (lv' := [(4, .int (0 : Int32)), (3, .int v_place), (0, .ref h0), (1, .int p1), (2, .int p2)]) hx hb dX2_readNumber_6 hl (by decide) rfl (fun ls hl => ?_)
  obtain ⟨K70, hK70, hm⟩ := mt_jx hm
  have J70 : ∀ (x4_70 : Int32) (v_place_70 : Int32), ∀ (H : Heap) (locs : List Loc) (ls : Array Slot), K70 x4_70 v_place_70 = some q → va_P (dC, dI) vwCl [(h0, .inr (2, [.ref h0_tape, .ref h0_rowsOf, .int v_place_70, .int v_latestKind, .int v_latestNumber, .int v_wrong])), (h0_tape, .inr (4, [.ref h0_tape_bytes, .int v_tape_length])), (h0_tape_bytes, .inl (cI, 600, .inl v_tape_bytes)), (h0_rowsOf, .inl (cI, 3, .inl v_rowsOf))] H → va_D A [(h0, .inr (2, [.ref h0_tape, .ref h0_rowsOf, .int v_place_70, .int v_latestKind, .int v_latestNumber, .int v_wrong])), (h0_tape, .inr (4, [.ref h0_tape_bytes, .int v_tape_length])), (h0_tape_bytes, .inl (cI, 600, .inl v_tape_bytes)), (h0_rowsOf, .inl (cI, 3, .inl v_rowsOf))] → va_S A s.heap H locs → lv_has ls 6 [(0, .ref h0), (1, .int p1), (2, .int p2), (3, .int v_place), (4, .int x4_70)] → W p l e (headSpec wsX2_readNumber ({ frames := 1, cells := 0, slots := 0, locals := 21 })).room s m [.ref h0, .int p1, .int p2].toArray below meth c H locs 0 0 (MQ below (va_Qi (fun (r : Int32) (_ : Unit) => r = q.1) (fun _ t => va_P (dC, dI) vwCl [(h0, .inr (2, [.ref h0_tape, .ref h0_rowsOf, .int q.2.1, .int v_latestKind, .int q.2.2.1, .int q.2.2.2])), (h0_tape, .inr (4, [.ref h0_tape_bytes, .int v_tape_length])), (h0_tape_bytes, .inl (cI, 600, .inl v_tape_bytes)), (h0_rowsOf, .inl (cI, 3, .inl v_rowsOf))] t.heap ∧ va_D A [(h0, .inr (2, [.ref h0_tape, .ref h0_rowsOf, .int q.2.1, .int v_latestKind, .int q.2.2.1, .int q.2.2.2])), (h0_tape, .inr (4, [.ref h0_tape_bytes, .int v_tape_length])), (h0_tape_bytes, .inl (cI, 600, .inl v_tape_bytes)), (h0_rowsOf, .inl (cI, 3, .inl v_rowsOf))]) A) [.ref h0, .int p1, .int p2].toArray s 0 0 A) (F0 m 70 ls []) := by
    intro x4_70 v_place_70 H locs ls hm hP hD hS hl
    replace hm := mt_app2 hK70 hm
    refine lv_aload_n hx hb dX2_readNumber_70 rfl (lv_at hl 0 rfl) ?_
    refine va_get (D := (dC, dI)) (ci := 2) (v := .int v_place_70) (C := RX2) (T := TX2) (N := 6) hx hb hts hiX2 hown hK hP 0 rfl rfl 2 (by decide) (hts (.fieldLink RX2 22 "ServiceDrawer$Reader" "place" "I") (by decide +kernel)) (fun _ h9 => h9) rfl dX2_readNumber_71 ?_
    refine lv_iload_n hx hb dX2_readNumber_74 rfl (lv_at hl 3 rfl) ?_
    refine lv_icmp_ne (tgt := 87) hx hb dX2_readNumber_75 (by decide) (fun c1 => ?_) (fun c1 => ?_)
    · replace hm := mt_neg c1 hm
      refine lv_aload_n hx hb dX2_readNumber_87 rfl (lv_at hl 0 rfl) ?_
      refine va_get (D := (dC, dI)) (ci := 2) (v := .ref h0_tape) (C := RX2) (T := TX2) (N := 6) hx hb hts hiX2 hown hK hP 0 rfl rfl 0 (by decide) (hts (.fieldLink RX2 12 "ServiceDrawer$Reader" "tape" "LServiceDrawer$Text;") (by decide +kernel)) (fun _ h9 => h9) rfl dX2_readNumber_88 ?_
      refine lv_iload_n hx hb dX2_readNumber_91 rfl (lv_at hl 3 rfl) ?_
      obtain ⟨q2, hq2, hm⟩ := mt_bind hm
      refine vp_callSi (va_Run.run (va_runV (As := [.int v_place]) (rest := []) ⟨hx, hb, hml, hown, hts⟩ (c_X4_byteAt l dC dI cZ cI cL h0_tape h0_tape_bytes v_place v_tape_length v_tape_bytes q2 hq2) (cwV 1 hts gX2_readNumber_X4_byteAt rfl rfl rfl (by decide +kernel) ⟨Nat.le_of_ble_eq_true rfl, Nat.le_of_ble_eq_true rfl⟩) (mt_vR (q := (RX4, TX4, 2)) 4 hC (hP.sub (ws' := [(h0_tape, .inr (4, [.ref h0_tape_bytes, .int v_tape_length])), (h0_tape_bytes, .inl (cI, 600, .inl v_tape_bytes))]) [1, 2] rfl) rfl rfl) rfl rfl hl.1 rfl (lv_room (Nat.le_of_ble_eq_true rfl)) dX2_readNumber_92 ⟨Nat.le_of_ble_eq_true rfl, Nat.le_of_ble_eq_true rfl⟩)) (fun r er => ?_)
      replace er := er.symm
      subst er
      refine lv_bipush (v := (48 : Int32)) hx hb dX2_readNumber_95 (by decide) ?_
      obtain ⟨K115, hK115, hm⟩ := mt_jx hm
      have J115 : ∀ (j0_115 : Int32), ∀ (H : Heap) (locs : List Loc) (ls : Array Slot), K115 j0_115 = some q → va_P (dC, dI) vwCl [(h0, .inr (2, [.ref h0_tape, .ref h0_rowsOf, .int v_place_70, .int v_latestKind, .int v_latestNumber, .int v_wrong])), (h0_tape, .inr (4, [.ref h0_tape_bytes, .int v_tape_length])), (h0_tape_bytes, .inl (cI, 600, .inl v_tape_bytes)), (h0_rowsOf, .inl (cI, 3, .inl v_rowsOf))] H → va_D A [(h0, .inr (2, [.ref h0_tape, .ref h0_rowsOf, .int v_place_70, .int v_latestKind, .int v_latestNumber, .int v_wrong])), (h0_tape, .inr (4, [.ref h0_tape_bytes, .int v_tape_length])), (h0_tape_bytes, .inl (cI, 600, .inl v_tape_bytes)), (h0_rowsOf, .inl (cI, 3, .inl v_rowsOf))] → va_S A s.heap H locs → lv_has ls 6 [(0, .ref h0), (1, .int p1), (2, .int p2), (3, .int v_place), (4, .int x4_70)] → W p l e (headSpec wsX2_readNumber ({ frames := 1, cells := 0, slots := 0, locals := 21 })).room s m [.ref h0, .int p1, .int p2].toArray below meth c H locs 0 0 (MQ below (va_Qi (fun (r : Int32) (_ : Unit) => r = q.1) (fun _ t => va_P (dC, dI) vwCl [(h0, .inr (2, [.ref h0_tape, .ref h0_rowsOf, .int q.2.1, .int v_latestKind, .int q.2.2.1, .int q.2.2.2])), (h0_tape, .inr (4, [.ref h0_tape_bytes, .int v_tape_length])), (h0_tape_bytes, .inl (cI, 600, .inl v_tape_bytes)), (h0_rowsOf, .inl (cI, 3, .inl v_rowsOf))] t.heap ∧ va_D A [(h0, .inr (2, [.ref h0_tape, .ref h0_rowsOf, .int q.2.1, .int v_latestKind, .int q.2.2.1, .int q.2.2.2])), (h0_tape, .inr (4, [.ref h0_tape_bytes, .int v_tape_length])), (h0_tape_bytes, .inl (cI, 600, .inl v_tape_bytes)), (h0_rowsOf, .inl (cI, 3, .inl v_rowsOf))]) A) [.ref h0, .int p1, .int p2].toArray s 0 0 A) (F0 m 115 ls [.int j0_115]) := by
        intro j0_115 H locs ls hm hP hD hS hl
        replace hm := mt_app1 hK115 hm
        refine lv_istore (lv' := [(5, .int j0_115), (0, .ref h0), (1, .int p1), (2, .int p2), (3, .int v_place), (4, .int x4_70)]) hx hb dX2_readNumber_115 hl (by decide) rfl (fun ls hl => ?_)
        refine lv_iload hx hb dX2_readNumber_117 (lv_at hl 0 rfl) ?_
        obtain ⟨K134, hK134, hm⟩ := mt_jx hm
        have J134 : ∀ (u134 : Unit), ∀ (H : Heap) (locs : List Loc) (ls : Array Slot), K134 u134 = some q → va_P (dC, dI) vwCl [(h0, .inr (2, [.ref h0_tape, .ref h0_rowsOf, .int v_place_70, .int v_latestKind, .int v_latestNumber, .int v_wrong])), (h0_tape, .inr (4, [.ref h0_tape_bytes, .int v_tape_length])), (h0_tape_bytes, .inl (cI, 600, .inl v_tape_bytes)), (h0_rowsOf, .inl (cI, 3, .inl v_rowsOf))] H → va_D A [(h0, .inr (2, [.ref h0_tape, .ref h0_rowsOf, .int v_place_70, .int v_latestKind, .int v_latestNumber, .int v_wrong])), (h0_tape, .inr (4, [.ref h0_tape_bytes, .int v_tape_length])), (h0_tape_bytes, .inl (cI, 600, .inl v_tape_bytes)), (h0_rowsOf, .inl (cI, 3, .inl v_rowsOf))] → va_S A s.heap H locs → lv_has ls 6 [(0, .ref h0), (1, .int p1), (2, .int p2), (3, .int v_place), (4, .int x4_70), (5, .int j0_115)] → W p l e (headSpec wsX2_readNumber ({ frames := 1, cells := 0, slots := 0, locals := 21 })).room s m [.ref h0, .int p1, .int p2].toArray below meth c H locs 0 0 (MQ below (va_Qi (fun (r : Int32) (_ : Unit) => r = q.1) (fun _ t => va_P (dC, dI) vwCl [(h0, .inr (2, [.ref h0_tape, .ref h0_rowsOf, .int q.2.1, .int v_latestKind, .int q.2.2.1, .int q.2.2.2])), (h0_tape, .inr (4, [.ref h0_tape_bytes, .int v_tape_length])), (h0_tape_bytes, .inl (cI, 600, .inl v_tape_bytes)), (h0_rowsOf, .inl (cI, 3, .inl v_rowsOf))] t.heap ∧ va_D A [(h0, .inr (2, [.ref h0_tape, .ref h0_rowsOf, .int q.2.1, .int v_latestKind, .int q.2.2.1, .int q.2.2.2])), (h0_tape, .inr (4, [.ref h0_tape_bytes, .int v_tape_length])), (h0_tape_bytes, .inl (cI, 600, .inl v_tape_bytes)), (h0_rowsOf, .inl (cI, 3, .inl v_rowsOf))]) A) [.ref h0, .int p1, .int p2].toArray s 0 0 A) (F0 m 134 ls []) := by
          intro u134 H locs ls hm hP hD hS hl
          replace hm := mt_app1 hK134 hm
          refine lv_aload_n hx hb dX2_readNumber_134 rfl (lv_at hl 0 rfl) ?_
          refine lv_aload_n hx hb dX2_readNumber_135 rfl (lv_at hl 0 rfl) ?_
          refine va_get (D := (dC, dI)) (ci := 2) (v := .int v_place_70) (C := RX2) (T := TX2) (N := 6) hx hb hts hiX2 hown hK hP 0 rfl rfl 2 (by decide) (hts (.fieldLink RX2 22 "ServiceDrawer$Reader" "place" "I") (by decide +kernel)) (fun _ h9 => h9) rfl dX2_readNumber_136 ?_
          refine lv_iconst (v := (1 : Int32)) hx hb dX2_readNumber_139 (by decide) ?_
          refine lv_isub hx hb dX2_readNumber_140 ?_
          obtain ⟨q3, hq3, hm⟩ := mt_bind hm
          refine mt_calli (wr := []) hP hD hS hA [0, 1, 2, 3] [] rfl rfl (by decide) (by decide) (va_runV (As := [.int (v_place_70 - (1 : Int32))]) (rest := []) ⟨hx, hb, hml, hown, hts⟩ (c_X2_wrongAt l dC dI cZ cI cL h0 h0_tape h0_tape_bytes h0_rowsOf H.size (v_place_70 - (1 : Int32)) v_place_70 v_latestKind v_latestNumber v_wrong v_tape_length v_tape_bytes v_rowsOf q3 hq3) (cwV 1 hts gX2_readNumber_X2_wrongAt rfl rfl rfl (by decide +kernel) ⟨Nat.le_of_ble_eq_true rfl, Nat.le_of_ble_eq_true rfl⟩) (mt_vS (q := (RX2, TX2, 6)) 2 hC hP hD rfl rfl) rfl rfl hl.1 rfl (lv_room (Nat.le_of_ble_eq_true rfl)) dX2_readNumber_141 ⟨Nat.le_of_ble_eq_true rfl, Nat.le_of_ble_eq_true rfl⟩) (fun H locs hP hD hS => ?_)
          have hP : va_P (dC, dI) vwCl [(h0, .inr (2, [.ref h0_tape, .ref h0_rowsOf, .int v_place_70, .int v_latestKind, .int v_latestNumber, .int q3.2])), (h0_tape, .inr (4, [.ref h0_tape_bytes, .int v_tape_length])), (h0_tape_bytes, .inl (cI, 600, .inl v_tape_bytes)), (h0_rowsOf, .inl (cI, 3, .inl v_rowsOf))] H := hP.sub [0, 1, 2, 3] rfl
          have hD : va_D A [(h0, .inr (2, [.ref h0_tape, .ref h0_rowsOf, .int v_place_70, .int v_latestKind, .int v_latestNumber, .int q3.2])), (h0_tape, .inr (4, [.ref h0_tape_bytes, .int v_tape_length])), (h0_tape_bytes, .inl (cI, 600, .inl v_tape_bytes)), (h0_rowsOf, .inl (cI, 3, .inl v_rowsOf))] := hD.sub [0, 1, 2, 3] (by decide) rfl
          obtain ⟨g4, hm⟩ := mt_gd hm
          obtain rfl := Option.some.inj hm
          exact W.zret hx hb hr (mt_zn g4) (fun t ht hW => ⟨⟨_, (), rfl, rfl, by rw [ht]; exact hP, hD⟩, hS.F ht⟩) hS.2.2 dX2_readNumber_144
        refine lv_if_ne (tgt := 134) hx hb dX2_readNumber_119 (by decide) (fun c5 => ?_) (fun c5 => ?_)
        · replace hm := mt_neg c5 hm
          exact J134 () _ _ _ hm hP hD hS (lv_sub hl [1, 2, 3, 4, 5, 0] rfl)
        · replace hm := mt_pos c5 hm
          refine lv_iload hx hb dX2_readNumber_122 (lv_at hl 5 rfl) ?_
          refine lv_iload_n hx hb dX2_readNumber_124 rfl (lv_at hl 2 rfl) ?_
          refine lv_icmp_lt (tgt := 134) hx hb dX2_readNumber_125 (by decide) (fun c6 => ?_) (fun c6 => ?_)
          · replace hm := mt_pos c6 hm
            exact J134 () _ _ _ hm hP hD hS (lv_sub hl [1, 2, 3, 4, 5, 0] rfl)
          · replace hm := mt_neg c6 hm
            refine lv_iload hx hb dX2_readNumber_128 (lv_at hl 5 rfl) ?_
            refine lv_iload_n hx hb dX2_readNumber_130 rfl (lv_at hl 3 rfl) ?_
            refine lv_icmp_le (tgt := 145) hx hb dX2_readNumber_131 (by decide) (fun c7 => ?_) (fun c7 => ?_)
            · replace hm := mt_pos c7 hm
              refine lv_aload_n hx hb dX2_readNumber_145 rfl (lv_at hl 1 rfl) ?_
              refine lv_iload hx hb dX2_readNumber_146 (lv_at hl 5 rfl) ?_
              refine va_put (D := (dC, dI)) (ci := 2) (v := .int x4_70) (ty := .int) (C := RX2) (T := TX2) (N := 6) hx hb hts hiX2 tyX2 tyX2_ok nmX2 hown hK hP hD hS 0 rfl rfl 4 (by decide) (hts (.fieldLink RX2 70 "ServiceDrawer$Reader" "latestNumber" "I") (by decide +kernel)) (fun _ h9 => h9) rfl (by decide +kernel) rfl rfl (Nat.le_of_ble_eq_true rfl) dX2_readNumber_148 (fun H locs hP hD hS => ?_)
              have hP : va_P (dC, dI) vwCl [(h0, .inr (2, [.ref h0_tape, .ref h0_rowsOf, .int v_place_70, .int v_latestKind, .int x4_70, .int v_wrong])), (h0_tape, .inr (4, [.ref h0_tape_bytes, .int v_tape_length])), (h0_tape_bytes, .inl (cI, 600, .inl v_tape_bytes)), (h0_rowsOf, .inl (cI, 3, .inl v_rowsOf))] H := hP
              have hD : va_D A [(h0, .inr (2, [.ref h0_tape, .ref h0_rowsOf, .int v_place_70, .int v_latestKind, .int x4_70, .int v_wrong])), (h0_tape, .inr (4, [.ref h0_tape_bytes, .int v_tape_length])), (h0_tape_bytes, .inl (cI, 600, .inl v_tape_bytes)), (h0_rowsOf, .inl (cI, 3, .inl v_rowsOf))] := hD
              refine lv_iconst (v := (1 : Int32)) hx hb dX2_readNumber_151 (by decide) ?_
              obtain rfl := Option.some.inj hm
              exact W.zret hx hb hr mt_z1 (fun t ht hW => ⟨⟨_, (), rfl, rfl, by rw [ht]; exact hP, hD⟩, hS.F ht⟩) hS.2.2 dX2_readNumber_152
            · replace hm := mt_neg c7 hm
              exact J134 () _ _ _ hm hP hD hS (lv_sub hl [1, 2, 3, 4, 5, 0] rfl)
      obtain ⟨K114, hK114, hm⟩ := mt_jx hm
      have J114 : ∀ (u114 : Unit), ∀ (H : Heap) (locs : List Loc) (ls : Array Slot), K114 u114 = some q → va_P (dC, dI) vwCl [(h0, .inr (2, [.ref h0_tape, .ref h0_rowsOf, .int v_place_70, .int v_latestKind, .int v_latestNumber, .int v_wrong])), (h0_tape, .inr (4, [.ref h0_tape_bytes, .int v_tape_length])), (h0_tape_bytes, .inl (cI, 600, .inl v_tape_bytes)), (h0_rowsOf, .inl (cI, 3, .inl v_rowsOf))] H → va_D A [(h0, .inr (2, [.ref h0_tape, .ref h0_rowsOf, .int v_place_70, .int v_latestKind, .int v_latestNumber, .int v_wrong])), (h0_tape, .inr (4, [.ref h0_tape_bytes, .int v_tape_length])), (h0_tape_bytes, .inl (cI, 600, .inl v_tape_bytes)), (h0_rowsOf, .inl (cI, 3, .inl v_rowsOf))] → va_S A s.heap H locs → lv_has ls 6 [(0, .ref h0), (1, .int p1), (2, .int p2), (3, .int v_place), (4, .int x4_70)] → W p l e (headSpec wsX2_readNumber ({ frames := 1, cells := 0, slots := 0, locals := 21 })).room s m [.ref h0, .int p1, .int p2].toArray below meth c H locs 0 0 (MQ below (va_Qi (fun (r : Int32) (_ : Unit) => r = q.1) (fun _ t => va_P (dC, dI) vwCl [(h0, .inr (2, [.ref h0_tape, .ref h0_rowsOf, .int q.2.1, .int v_latestKind, .int q.2.2.1, .int q.2.2.2])), (h0_tape, .inr (4, [.ref h0_tape_bytes, .int v_tape_length])), (h0_tape_bytes, .inl (cI, 600, .inl v_tape_bytes)), (h0_rowsOf, .inl (cI, 3, .inl v_rowsOf))] t.heap ∧ va_D A [(h0, .inr (2, [.ref h0_tape, .ref h0_rowsOf, .int q.2.1, .int v_latestKind, .int q.2.2.1, .int q.2.2.2])), (h0_tape, .inr (4, [.ref h0_tape_bytes, .int v_tape_length])), (h0_tape_bytes, .inl (cI, 600, .inl v_tape_bytes)), (h0_rowsOf, .inl (cI, 3, .inl v_rowsOf))]) A) [.ref h0, .int p1, .int p2].toArray s 0 0 A) (F0 m 114 ls []) := by
        intro u114 H locs ls hm hP hD hS hl
        replace hm := mt_app1 hK114 hm
        refine lv_iconst (v := (0 : Int32)) hx hb dX2_readNumber_114 (by decide) ?_
        exact J115 (0 : Int32) _ _ _ hm hP hD hS (lv_sub hl [0, 1, 2, 3, 4] rfl)
      refine lv_icmp_ne (tgt := 114) hx hb dX2_readNumber_97 (by decide) (fun c8 => ?_) (fun c8 => ?_)
      · replace hm := mt_neg c8 hm
        exact J114 () _ _ _ hm hP hD hS (lv_sub hl [0, 1, 2, 3, 4] rfl)
      · replace hm := mt_pos c8 hm
        refine lv_aload_n hx hb dX2_readNumber_100 rfl (lv_at hl 0 rfl) ?_
        refine va_get (D := (dC, dI)) (ci := 2) (v := .int v_place_70) (C := RX2) (T := TX2) (N := 6) hx hb hts hiX2 hown hK hP 0 rfl rfl 2 (by decide) (hts (.fieldLink RX2 22 "ServiceDrawer$Reader" "place" "I") (by decide +kernel)) (fun _ h9 => h9) rfl dX2_readNumber_101 ?_
        refine lv_iload_n hx hb dX2_readNumber_104 rfl (lv_at hl 3 rfl) ?_
        refine lv_isub hx hb dX2_readNumber_105 ?_
        refine lv_iconst (v := (1 : Int32)) hx hb dX2_readNumber_106 (by decide) ?_
        refine lv_icmp_le (tgt := 114) hx hb dX2_readNumber_107 (by decide) (fun c9 => ?_) (fun c9 => ?_)
        · replace hm := mt_pos c9 hm
          exact J114 () _ _ _ hm hP hD hS (lv_sub hl [0, 1, 2, 3, 4] rfl)
        · replace hm := mt_neg c9 hm
          refine lv_iconst (v := (1 : Int32)) hx hb dX2_readNumber_110 (by decide) ?_
          refine lv_goto (tgt := 115) hx hb dX2_readNumber_111 (by decide) ?_
          exact J115 (1 : Int32) _ _ _ hm hP hD hS (lv_sub hl [0, 1, 2, 3, 4] rfl)
    · replace hm := mt_pos c1 hm
      refine lv_aload_n hx hb dX2_readNumber_78 rfl (lv_at hl 0 rfl) ?_
      refine lv_aload_n hx hb dX2_readNumber_79 rfl (lv_at hl 0 rfl) ?_
      refine va_get (D := (dC, dI)) (ci := 2) (v := .int v_place_70) (C := RX2) (T := TX2) (N := 6) hx hb hts hiX2 hown hK hP 0 rfl rfl 2 (by decide) (hts (.fieldLink RX2 22 "ServiceDrawer$Reader" "place" "I") (by decide +kernel)) (fun _ h9 => h9) rfl dX2_readNumber_80 ?_
      obtain ⟨q10, hq10, hm⟩ := mt_bind hm
      refine mt_calli (wr := []) hP hD hS hA [0, 1, 2, 3] [] rfl rfl (by decide) (by decide) (va_runV (As := [.int v_place_70]) (rest := []) ⟨hx, hb, hml, hown, hts⟩ (c_X2_wrongAt l dC dI cZ cI cL h0 h0_tape h0_tape_bytes h0_rowsOf H.size v_place_70 v_place_70 v_latestKind v_latestNumber v_wrong v_tape_length v_tape_bytes v_rowsOf q10 hq10) (cwV 1 hts gX2_readNumber_X2_wrongAt rfl rfl rfl (by decide +kernel) ⟨Nat.le_of_ble_eq_true rfl, Nat.le_of_ble_eq_true rfl⟩) (mt_vS (q := (RX2, TX2, 6)) 2 hC hP hD rfl rfl) rfl rfl hl.1 rfl (lv_room (Nat.le_of_ble_eq_true rfl)) dX2_readNumber_83 ⟨Nat.le_of_ble_eq_true rfl, Nat.le_of_ble_eq_true rfl⟩) (fun H locs hP hD hS => ?_)
      have hP : va_P (dC, dI) vwCl [(h0, .inr (2, [.ref h0_tape, .ref h0_rowsOf, .int v_place_70, .int v_latestKind, .int v_latestNumber, .int q10.2])), (h0_tape, .inr (4, [.ref h0_tape_bytes, .int v_tape_length])), (h0_tape_bytes, .inl (cI, 600, .inl v_tape_bytes)), (h0_rowsOf, .inl (cI, 3, .inl v_rowsOf))] H := hP.sub [0, 1, 2, 3] rfl
      have hD : va_D A [(h0, .inr (2, [.ref h0_tape, .ref h0_rowsOf, .int v_place_70, .int v_latestKind, .int v_latestNumber, .int q10.2])), (h0_tape, .inr (4, [.ref h0_tape_bytes, .int v_tape_length])), (h0_tape_bytes, .inl (cI, 600, .inl v_tape_bytes)), (h0_rowsOf, .inl (cI, 3, .inl v_rowsOf))] := hD.sub [0, 1, 2, 3] (by decide) rfl
      obtain ⟨g11, hm⟩ := mt_gd hm
      obtain rfl := Option.some.inj hm
      exact W.zret hx hb hr (mt_zn g11) (fun t ht hW => ⟨⟨_, (), rfl, rfl, by rw [ht]; exact hP, hD⟩, hS.F ht⟩) hS.2.2 dX2_readNumber_86
  have L8 : ∀ n8 : Nat, ∀ (x4_8 : Int32) (v_place_8 : Int32), ∀ (H : Heap) (locs : List Loc) (ls : Array Slot), m_X2_readNumber_L8 v_place v_tape_length v_tape_bytes K70 n8 x4_8 v_place_8 = some q → va_P (dC, dI) vwCl [(h0, .inr (2, [.ref h0_tape, .ref h0_rowsOf, .int v_place_8, .int v_latestKind, .int v_latestNumber, .int v_wrong])), (h0_tape, .inr (4, [.ref h0_tape_bytes, .int v_tape_length])), (h0_tape_bytes, .inl (cI, 600, .inl v_tape_bytes)), (h0_rowsOf, .inl (cI, 3, .inl v_rowsOf))] H → va_D A [(h0, .inr (2, [.ref h0_tape, .ref h0_rowsOf, .int v_place_8, .int v_latestKind, .int v_latestNumber, .int v_wrong])), (h0_tape, .inr (4, [.ref h0_tape_bytes, .int v_tape_length])), (h0_tape_bytes, .inl (cI, 600, .inl v_tape_bytes)), (h0_rowsOf, .inl (cI, 3, .inl v_rowsOf))] → va_S A s.heap H locs → lv_has ls 6 [(0, .ref h0), (1, .int p1), (2, .int p2), (3, .int v_place), (4, .int x4_8)] → W p l e (headSpec wsX2_readNumber ({ frames := 1, cells := 0, slots := 0, locals := 21 })).room s m [.ref h0, .int p1, .int p2].toArray below meth c H locs 0 0 (MQ below (va_Qi (fun (r : Int32) (_ : Unit) => r = q.1) (fun _ t => va_P (dC, dI) vwCl [(h0, .inr (2, [.ref h0_tape, .ref h0_rowsOf, .int q.2.1, .int v_latestKind, .int q.2.2.1, .int q.2.2.2])), (h0_tape, .inr (4, [.ref h0_tape_bytes, .int v_tape_length])), (h0_tape_bytes, .inl (cI, 600, .inl v_tape_bytes)), (h0_rowsOf, .inl (cI, 3, .inl v_rowsOf))] t.heap ∧ va_D A [(h0, .inr (2, [.ref h0_tape, .ref h0_rowsOf, .int q.2.1, .int v_latestKind, .int q.2.2.1, .int q.2.2.2])), (h0_tape, .inr (4, [.ref h0_tape_bytes, .int v_tape_length])), (h0_tape_bytes, .inl (cI, 600, .inl v_tape_bytes)), (h0_rowsOf, .inl (cI, 3, .inl v_rowsOf))]) A) [.ref h0, .int p1, .int p2].toArray s 0 0 A) (F0 m 8 ls []) := by
    intro n8
    induction n8 with
    | zero =>
      intro x4_8 v_place_8 H locs ls hm hP hD hS hl
      exact absurd hm (fun h => nomatch h)
    | succ n8 ih8 =>
      intro x4_8 v_place_8 H locs ls hm hP hD hS hl
      rw [m_X2_readNumber_L8] at hm
      refine lv_aload_n hx hb dX2_readNumber_8 rfl (lv_at hl 0 rfl) ?_
      refine va_get (D := (dC, dI)) (ci := 2) (v := .int v_place_8) (C := RX2) (T := TX2) (N := 6) hx hb hts hiX2 hown hK hP 0 rfl rfl 2 (by decide) (hts (.fieldLink RX2 22 "ServiceDrawer$Reader" "place" "I") (by decide +kernel)) (fun _ h9 => h9) rfl dX2_readNumber_9 ?_
      refine lv_iload_n hx hb dX2_readNumber_12 rfl (lv_at hl 3 rfl) ?_
      refine lv_isub hx hb dX2_readNumber_13 ?_
      refine lv_iconst (v := (4 : Int32)) hx hb dX2_readNumber_14 (by decide) ?_
      refine lv_icmp_ge (tgt := 70) hx hb dX2_readNumber_15 (by decide) (fun c12 => ?_) (fun c12 => ?_)
      · replace hm := mt_pos c12 hm
        exact J70 x4_8 v_place_8 _ _ _ hm hP hD hS (lv_sub hl [0, 1, 2, 3, 4] rfl)
      · replace hm := mt_neg c12 hm
        refine lv_aload_n hx hb dX2_readNumber_18 rfl (lv_at hl 0 rfl) ?_
        refine va_get (D := (dC, dI)) (ci := 2) (v := .ref h0_tape) (C := RX2) (T := TX2) (N := 6) hx hb hts hiX2 hown hK hP 0 rfl rfl 0 (by decide) (hts (.fieldLink RX2 12 "ServiceDrawer$Reader" "tape" "LServiceDrawer$Text;") (by decide +kernel)) (fun _ h9 => h9) rfl dX2_readNumber_19 ?_
        refine lv_aload_n hx hb dX2_readNumber_22 rfl (lv_at hl 0 rfl) ?_
        refine va_get (D := (dC, dI)) (ci := 2) (v := .int v_place_8) (C := RX2) (T := TX2) (N := 6) hx hb hts hiX2 hown hK hP 0 rfl rfl 2 (by decide) (hts (.fieldLink RX2 22 "ServiceDrawer$Reader" "place" "I") (by decide +kernel)) (fun _ h9 => h9) rfl dX2_readNumber_23 ?_
        obtain ⟨q13, hq13, hm⟩ := mt_bind hm
        refine vp_callSi (va_Run.run (va_runV (As := [.int v_place_8]) (rest := []) ⟨hx, hb, hml, hown, hts⟩ (c_X4_byteAt l dC dI cZ cI cL h0_tape h0_tape_bytes v_place_8 v_tape_length v_tape_bytes q13 hq13) (cwV 1 hts gX2_readNumber_X4_byteAt rfl rfl rfl (by decide +kernel) ⟨Nat.le_of_ble_eq_true rfl, Nat.le_of_ble_eq_true rfl⟩) (mt_vR (q := (RX4, TX4, 2)) 4 hC (hP.sub (ws' := [(h0_tape, .inr (4, [.ref h0_tape_bytes, .int v_tape_length])), (h0_tape_bytes, .inl (cI, 600, .inl v_tape_bytes))]) [1, 2] rfl) rfl rfl) rfl rfl hl.1 rfl (lv_room (Nat.le_of_ble_eq_true rfl)) dX2_readNumber_26 ⟨Nat.le_of_ble_eq_true rfl, Nat.le_of_ble_eq_true rfl⟩)) (fun r er => ?_)
        replace er := er.symm
        subst er
        obtain ⟨q14, hq14, hm⟩ := mt_bind hm
        refine vp_callSi (va_Run.run (va_runS (As := [.int q13]) (rest := []) ⟨hx, hb, hml, hown, hts⟩ (c_X2_isDigit l dC dI cZ cI cL q13 q14 hq14) (va_cwS 1 hts gX2_readNumber_X2_isDigit rfl rfl rfl (by decide +kernel) ⟨Nat.le_of_ble_eq_true rfl, Nat.le_of_ble_eq_true rfl⟩) (mt_pR hC (hP.sub (ws' := []) [] rfl)) rfl rfl hl.1 rfl (lv_room (Nat.le_of_ble_eq_true rfl)) dX2_readNumber_29 ⟨Nat.le_of_ble_eq_true rfl, Nat.le_of_ble_eq_true rfl⟩)) (fun r er => ?_)
        replace er := er.symm
        subst er
        refine lv_if_eq (tgt := 70) hx hb dX2_readNumber_32 (by decide) (fun c15 => ?_) (fun c15 => ?_)
        · replace hm := mt_pos c15 hm
          exact J70 x4_8 v_place_8 _ _ _ hm hP hD hS (lv_sub hl [0, 1, 2, 3, 4] rfl)
        · replace hm := mt_neg c15 hm
          refine lv_bipush (v := (10 : Int32)) hx hb dX2_readNumber_35 (by decide) ?_
          refine lv_iload hx hb dX2_readNumber_37 (lv_at hl 4 rfl) ?_
          refine lv_imul hx hb dX2_readNumber_39 ?_
          refine lv_aload_n hx hb dX2_readNumber_40 rfl (lv_at hl 0 rfl) ?_
          refine va_get (D := (dC, dI)) (ci := 2) (v := .ref h0_tape) (C := RX2) (T := TX2) (N := 6) hx hb hts hiX2 hown hK hP 0 rfl rfl 0 (by decide) (hts (.fieldLink RX2 12 "ServiceDrawer$Reader" "tape" "LServiceDrawer$Text;") (by decide +kernel)) (fun _ h9 => h9) rfl dX2_readNumber_41 ?_
          refine lv_aload_n hx hb dX2_readNumber_44 rfl (lv_at hl 0 rfl) ?_
          refine va_get (D := (dC, dI)) (ci := 2) (v := .int v_place_8) (C := RX2) (T := TX2) (N := 6) hx hb hts hiX2 hown hK hP 0 rfl rfl 2 (by decide) (hts (.fieldLink RX2 22 "ServiceDrawer$Reader" "place" "I") (by decide +kernel)) (fun _ h9 => h9) rfl dX2_readNumber_45 ?_
          obtain ⟨q16, hq16, hm⟩ := mt_bind hm
          refine vp_callSi (va_Run.run (va_runV (As := [.int v_place_8]) (rest := [.int ((10 : Int32) * x4_8)]) ⟨hx, hb, hml, hown, hts⟩ (c_X4_byteAt l dC dI cZ cI cL h0_tape h0_tape_bytes v_place_8 v_tape_length v_tape_bytes q16 hq16) (cwV 1 hts gX2_readNumber_X4_byteAt rfl rfl rfl (by decide +kernel) ⟨Nat.le_of_ble_eq_true rfl, Nat.le_of_ble_eq_true rfl⟩) (mt_vR (q := (RX4, TX4, 2)) 4 hC (hP.sub (ws' := [(h0_tape, .inr (4, [.ref h0_tape_bytes, .int v_tape_length])), (h0_tape_bytes, .inl (cI, 600, .inl v_tape_bytes))]) [1, 2] rfl) rfl rfl) rfl rfl hl.1 rfl (lv_room (Nat.le_of_ble_eq_true rfl)) dX2_readNumber_48 ⟨Nat.le_of_ble_eq_true rfl, Nat.le_of_ble_eq_true rfl⟩)) (fun r er => ?_)
          replace er := er.symm
          subst er
          refine lv_iadd hx hb dX2_readNumber_51 ?_
          refine lv_bipush (v := (48 : Int32)) hx hb dX2_readNumber_52 (by decide) ?_
          refine lv_isub hx hb dX2_readNumber_54 ?_
          refine lv_istore (lv' := [(4, .int ((((10 : Int32) * x4_8) + q16) - (48 : Int32))), (0, .ref h0), (1, .int p1), (2, .int p2), (3, .int v_place)]) hx hb dX2_readNumber_55 hl (by decide) rfl (fun ls hl => ?_)
          refine lv_aload_n hx hb dX2_readNumber_57 rfl (lv_at hl 1 rfl) ?_
          refine lv_dup hx hb dX2_readNumber_58 rfl ?_
          refine va_get (D := (dC, dI)) (ci := 2) (v := .int v_place_8) (C := RX2) (T := TX2) (N := 6) hx hb hts hiX2 hown hK hP 0 rfl rfl 2 (by decide) (hts (.fieldLink RX2 22 "ServiceDrawer$Reader" "place" "I") (by decide +kernel)) (fun _ h9 => h9) rfl dX2_readNumber_59 ?_
          refine lv_iconst (v := (1 : Int32)) hx hb dX2_readNumber_62 (by decide) ?_
          refine lv_iadd hx hb dX2_readNumber_63 ?_
          refine va_put (D := (dC, dI)) (ci := 2) (v := .int (v_place_8 + (1 : Int32))) (ty := .int) (C := RX2) (T := TX2) (N := 6) hx hb hts hiX2 tyX2 tyX2_ok nmX2 hown hK hP hD hS 0 rfl rfl 2 (by decide) (hts (.fieldLink RX2 22 "ServiceDrawer$Reader" "place" "I") (by decide +kernel)) (fun _ h9 => h9) rfl (by decide +kernel) rfl rfl (Nat.le_of_ble_eq_true rfl) dX2_readNumber_64 (fun H locs hP hD hS => ?_)
          have hP : va_P (dC, dI) vwCl [(h0, .inr (2, [.ref h0_tape, .ref h0_rowsOf, .int (v_place_8 + (1 : Int32)), .int v_latestKind, .int v_latestNumber, .int v_wrong])), (h0_tape, .inr (4, [.ref h0_tape_bytes, .int v_tape_length])), (h0_tape_bytes, .inl (cI, 600, .inl v_tape_bytes)), (h0_rowsOf, .inl (cI, 3, .inl v_rowsOf))] H := hP
          have hD : va_D A [(h0, .inr (2, [.ref h0_tape, .ref h0_rowsOf, .int (v_place_8 + (1 : Int32)), .int v_latestKind, .int v_latestNumber, .int v_wrong])), (h0_tape, .inr (4, [.ref h0_tape_bytes, .int v_tape_length])), (h0_tape_bytes, .inl (cI, 600, .inl v_tape_bytes)), (h0_rowsOf, .inl (cI, 3, .inl v_rowsOf))] := hD
          refine lv_goto (tgt := 8) hx hb dX2_readNumber_67 (by decide) ?_
          exact ih8 ((((10 : Int32) * x4_8) + q16) - (48 : Int32)) (v_place_8 + (1 : Int32)) _ _ _ hm hP hD hS (lv_sub hl [1, 2, 3, 4, 0] rfl)
  exact L8 fu (0 : Int32) v_place _ _ _ hm hP hD hS (lv_sub hl [2, 3, 4, 1, 0] rfl)
def m_X2_readByte (p1 : Int32) (v_place : Int32) (v_wrong : Int32) (v_tape_length : Int32) (v_tape_bytes : Nat → Int32) : Option (Int32 × Int32 × Int32) := (m_X4_byteAt v_place v_tape_length v_tape_bytes).bind fun q1 => if q1 = p1 then some ((1 : Int32), (v_place + (1 : Int32)), v_wrong) else (m_X2_wrongAt v_place).bind fun q3 => if (q3.1 &&& 1 = q3.1) then some (q3.1, v_place, q3.2) else none
set_option maxHeartbeats 4000000 in
set_option maxRecDepth 100000 in
theorem c_X2_readByte (l : Launch) (dC : Nat → ClassId) (dI : Nat → Nat → Nat) (cZ cI cL : ClassId) (h0 h0_tape h0_tape_bytes h0_rowsOf : Nat) (sz : Nat) (p1 : Int32) (v_place : Int32) (v_latestKind : Int32) (v_latestNumber : Int32) (v_wrong : Int32) (v_tape_length : Int32) (v_tape_bytes : Nat → Int32) (v_rowsOf : Nat → Int32) (q : Int32 × Int32 × Int32) (hm : m_X2_readByte p1 v_place v_wrong v_tape_length v_tape_bytes = some q) : Met l yX2_readByte wsX2_readByte ({ frames := 1, cells := 0, slots := 0, locals := 21 }) (va_Pc [.ref h0, .int p1] (mt_S (dC, dI) cZ cI cL sz [(h0, .inr (2, [.ref h0_tape, .ref h0_rowsOf, .int v_place, .int v_latestKind, .int v_latestNumber, .int v_wrong])), (h0_tape, .inr (4, [.ref h0_tape_bytes, .int v_tape_length])), (h0_tape_bytes, .inl (cI, 600, .inl v_tape_bytes)), (h0_rowsOf, .inl (cI, 3, .inl v_rowsOf))])) (va_Qi (fun (r : Int32) (_ : Unit) => r = q.1) (fun _ t => va_P (dC, dI) vwCl [(h0, .inr (2, [.ref h0_tape, .ref h0_rowsOf, .int q.2.1, .int v_latestKind, .int v_latestNumber, .int q.2.2])), (h0_tape, .inr (4, [.ref h0_tape_bytes, .int v_tape_length])), (h0_tape_bytes, .inl (cI, 600, .inl v_tape_bytes)), (h0_rowsOf, .inl (cI, 3, .inl v_rowsOf))] t.heap ∧ va_D (va_A [(h0, .inr (2, [.ref h0_tape, .ref h0_rowsOf, .int v_place, .int v_latestKind, .int v_latestNumber, .int v_wrong])), (h0_tape, .inr (4, [.ref h0_tape_bytes, .int v_tape_length])), (h0_tape_bytes, .inl (cI, 600, .inl v_tape_bytes)), (h0_rowsOf, .inl (cI, 3, .inl v_rowsOf))] sz) [(h0, .inr (2, [.ref h0_tape, .ref h0_rowsOf, .int q.2.1, .int v_latestKind, .int v_latestNumber, .int q.2.2])), (h0_tape, .inr (4, [.ref h0_tape_bytes, .int v_tape_length])), (h0_tape_bytes, .inl (cI, 600, .inl v_tape_bytes)), (h0_rowsOf, .inl (cI, 3, .inl v_rowsOf))]) (va_A [(h0, .inr (2, [.ref h0_tape, .ref h0_rowsOf, .int v_place, .int v_latestKind, .int v_latestNumber, .int v_wrong])), (h0_tape, .inr (4, [.ref h0_tape_bytes, .int v_tape_length])), (h0_tape_bytes, .inl (cI, 600, .inl v_tape_bytes)), (h0_rowsOf, .inl (cI, 3, .inl v_rowsOf))] sz)) 0 0 (va_A [(h0, .inr (2, [.ref h0_tape, .ref h0_rowsOf, .int v_place, .int v_latestKind, .int v_latestNumber, .int v_wrong])), (h0_tape, .inr (4, [.ref h0_tape_bytes, .int v_tape_length])), (h0_tape_bytes, .inl (cI, 600, .inl v_tape_bytes)), (h0_rowsOf, .inl (cI, 3, .inl v_rowsOf))] sz) := by
  refine Met.ofW (cc := cX2_readByte) (maxL := 2) (ret := (some .boolean)) (by decide) rfl ?_
  intro p e s m args below meth c s₁ B hml hv
  obtain ⟨rfl, hsz, hP, hC, hD0⟩ := hv
  have hx := B.exec
  have hb := B.bytes
  have hr := B.returns
  have hts := atoms_spec (ws := wsX2_readByte) B.pre
  have hown : s.vm.findClass RX2 = some m.cls := findClass_of_methodNamed B.named
  have hlocks := B.notSynchronized
  have hK := hC.1
  have hiX2 : ∀ w ∈ wsX20, w ∈ wsX2_readByte := by decide +kernel
  subst hsz
  have hD := hD0.self (sz := s.heap.size)
  generalize hAe : va_A [(h0, .inr (2, [.ref h0_tape, .ref h0_rowsOf, .int v_place, .int v_latestKind, .int v_latestNumber, .int v_wrong])), (h0_tape, .inr (4, [.ref h0_tape_bytes, .int v_tape_length])), (h0_tape_bytes, .inl (cI, 600, .inl v_tape_bytes)), (h0_rowsOf, .inl (cI, 3, .inl v_rowsOf))] s.heap.size = A at hD ⊢
  have hA : ∀ q : Nat, s.heap.size ≤ q → A q := fun q h => by rw [← hAe]; exact Or.inr h
  have hS : va_S A s.heap s.heap [] := va_S.rf
  have hl := lv_entry [.ref h0, .int p1] (n := 2) (Nat.le_of_ble_eq_true rfl)
  rw [lg_entry_eq]
  generalize (lg_sl [.ref h0, .int p1] ++ List.replicate (2 - (lg_sl [.ref h0, .int p1]).length) Slot.unset).toArray = ls at hl ⊢
  have hl : lv_has ls 2 [(0, .ref h0), (1, .int p1)] := hl
  rw [m_X2_readByte] at hm
  refine lv_aload_n hx hb dX2_readByte_0 rfl (lv_at hl 0 rfl) ?_
  refine va_get (D := (dC, dI)) (ci := 2) (v := .ref h0_tape) (C := RX2) (T := TX2) (N := 6) hx hb hts hiX2 hown hK hP 0 rfl rfl 0 (by decide) (hts (.fieldLink RX2 12 "ServiceDrawer$Reader" "tape" "LServiceDrawer$Text;") (by decide +kernel)) (fun _ h9 => h9) rfl dX2_readByte_1 ?_
  refine lv_aload_n hx hb dX2_readByte_4 rfl (lv_at hl 0 rfl) ?_
  refine va_get (D := (dC, dI)) (ci := 2) (v := .int v_place) (C := RX2) (T := TX2) (N := 6) hx hb hts hiX2 hown hK hP 0 rfl rfl 2 (by decide) (hts (.fieldLink RX2 22 "ServiceDrawer$Reader" "place" "I") (by decide +kernel)) (fun _ h9 => h9) rfl dX2_readByte_5 ?_
  obtain ⟨q1, hq1, hm⟩ := mt_bind hm
  refine vp_callSi (va_Run.run (va_runV (As := [.int v_place]) (rest := []) ⟨hx, hb, hml, hown, hts⟩ (c_X4_byteAt l dC dI cZ cI cL h0_tape h0_tape_bytes v_place v_tape_length v_tape_bytes q1 hq1) (cwV 1 hts gX2_readByte_X4_byteAt rfl rfl rfl (by decide +kernel) ⟨Nat.le_of_ble_eq_true rfl, Nat.le_of_ble_eq_true rfl⟩) (mt_vR (q := (RX4, TX4, 2)) 4 hC (hP.sub (ws' := [(h0_tape, .inr (4, [.ref h0_tape_bytes, .int v_tape_length])), (h0_tape_bytes, .inl (cI, 600, .inl v_tape_bytes))]) [1, 2] rfl) rfl rfl) rfl rfl hl.1 rfl (lv_room (Nat.le_of_ble_eq_true rfl)) dX2_readByte_8 ⟨Nat.le_of_ble_eq_true rfl, Nat.le_of_ble_eq_true rfl⟩)) (fun r er => ?_)
  replace er := er.symm
  subst er
  refine lv_iload_n hx hb dX2_readByte_11 rfl (lv_at hl 1 rfl) ?_
  refine lv_icmp_eq (tgt := 24) hx hb dX2_readByte_12 (by decide) (fun c2 => ?_) (fun c2 => ?_)
  · replace hm := mt_pos c2 hm
    refine lv_aload_n hx hb dX2_readByte_24 rfl (lv_at hl 0 rfl) ?_
    refine lv_dup hx hb dX2_readByte_25 rfl ?_
    refine va_get (D := (dC, dI)) (ci := 2) (v := .int v_place) (C := RX2) (T := TX2) (N := 6) hx hb hts hiX2 hown hK hP 0 rfl rfl 2 (by decide) (hts (.fieldLink RX2 22 "ServiceDrawer$Reader" "place" "I") (by decide +kernel)) (fun _ h9 => h9) rfl dX2_readByte_26 ?_
    refine lv_iconst (v := (1 : Int32)) hx hb dX2_readByte_29 (by decide) ?_
    refine lv_iadd hx hb dX2_readByte_30 ?_
    refine va_put (D := (dC, dI)) (ci := 2) (v := .int (v_place + (1 : Int32))) (ty := .int) (C := RX2) (T := TX2) (N := 6) hx hb hts hiX2 tyX2 tyX2_ok nmX2 hown hK hP hD hS 0 rfl rfl 2 (by decide) (hts (.fieldLink RX2 22 "ServiceDrawer$Reader" "place" "I") (by decide +kernel)) (fun _ h9 => h9) rfl (by decide +kernel) rfl rfl (Nat.le_of_ble_eq_true rfl) dX2_readByte_31 (fun H locs hP hD hS => ?_)
    have hP : va_P (dC, dI) vwCl [(h0, .inr (2, [.ref h0_tape, .ref h0_rowsOf, .int (v_place + (1 : Int32)), .int v_latestKind, .int v_latestNumber, .int v_wrong])), (h0_tape, .inr (4, [.ref h0_tape_bytes, .int v_tape_length])), (h0_tape_bytes, .inl (cI, 600, .inl v_tape_bytes)), (h0_rowsOf, .inl (cI, 3, .inl v_rowsOf))] H := hP
    have hD : va_D A [(h0, .inr (2, [.ref h0_tape, .ref h0_rowsOf, .int (v_place + (1 : Int32)), .int v_latestKind, .int v_latestNumber, .int v_wrong])), (h0_tape, .inr (4, [.ref h0_tape_bytes, .int v_tape_length])), (h0_tape_bytes, .inl (cI, 600, .inl v_tape_bytes)), (h0_rowsOf, .inl (cI, 3, .inl v_rowsOf))] := hD
    refine lv_iconst (v := (1 : Int32)) hx hb dX2_readByte_34 (by decide) ?_
    obtain rfl := Option.some.inj hm
    exact W.zret hx hb hr mt_z1 (fun t ht hW => ⟨⟨_, (), rfl, rfl, by rw [ht]; exact hP, hD⟩, hS.F ht⟩) hS.2.2 dX2_readByte_35
  · replace hm := mt_neg c2 hm
    refine lv_aload_n hx hb dX2_readByte_15 rfl (lv_at hl 0 rfl) ?_
    refine lv_aload_n hx hb dX2_readByte_16 rfl (lv_at hl 0 rfl) ?_
    refine va_get (D := (dC, dI)) (ci := 2) (v := .int v_place) (C := RX2) (T := TX2) (N := 6) hx hb hts hiX2 hown hK hP 0 rfl rfl 2 (by decide) (hts (.fieldLink RX2 22 "ServiceDrawer$Reader" "place" "I") (by decide +kernel)) (fun _ h9 => h9) rfl dX2_readByte_17 ?_
    obtain ⟨q3, hq3, hm⟩ := mt_bind hm
    refine mt_calli (wr := []) hP hD hS hA [0, 1, 2, 3] [] rfl rfl (by decide) (by decide) (va_runV (As := [.int v_place]) (rest := []) ⟨hx, hb, hml, hown, hts⟩ (c_X2_wrongAt l dC dI cZ cI cL h0 h0_tape h0_tape_bytes h0_rowsOf s.heap.size v_place v_place v_latestKind v_latestNumber v_wrong v_tape_length v_tape_bytes v_rowsOf q3 hq3) (cwV 1 hts gX2_readByte_X2_wrongAt rfl rfl rfl (by decide +kernel) ⟨Nat.le_of_ble_eq_true rfl, Nat.le_of_ble_eq_true rfl⟩) (mt_vS (q := (RX2, TX2, 6)) 2 hC hP hD rfl rfl) rfl rfl hl.1 rfl (lv_room (Nat.le_of_ble_eq_true rfl)) dX2_readByte_20 ⟨Nat.le_of_ble_eq_true rfl, Nat.le_of_ble_eq_true rfl⟩) (fun H locs hP hD hS => ?_)
    have hP : va_P (dC, dI) vwCl [(h0, .inr (2, [.ref h0_tape, .ref h0_rowsOf, .int v_place, .int v_latestKind, .int v_latestNumber, .int q3.2])), (h0_tape, .inr (4, [.ref h0_tape_bytes, .int v_tape_length])), (h0_tape_bytes, .inl (cI, 600, .inl v_tape_bytes)), (h0_rowsOf, .inl (cI, 3, .inl v_rowsOf))] H := hP.sub [0, 1, 2, 3] rfl
    have hD : va_D A [(h0, .inr (2, [.ref h0_tape, .ref h0_rowsOf, .int v_place, .int v_latestKind, .int v_latestNumber, .int q3.2])), (h0_tape, .inr (4, [.ref h0_tape_bytes, .int v_tape_length])), (h0_tape_bytes, .inl (cI, 600, .inl v_tape_bytes)), (h0_rowsOf, .inl (cI, 3, .inl v_rowsOf))] := hD.sub [0, 1, 2, 3] (by decide) rfl
    obtain ⟨g4, hm⟩ := mt_gd hm
    obtain rfl := Option.some.inj hm
    exact W.zret hx hb hr (mt_zn g4) (fun t ht hW => ⟨⟨_, (), rfl, rfl, by rw [ht]; exact hP, hD⟩, hS.F ht⟩) hS.2.2 dX2_readByte_23
def m_X2_readStreet (fu : Nat) (v_place : Int32) (v_latestNumber : Int32) (v_wrong : Int32) (v_tape_length : Int32) (v_tape_bytes : Nat → Int32) : Option (Int32 × Int32 × Int32 × Int32) := (m_X2_readNumber fu (0 : Int32) (20 : Int32) v_place v_latestNumber v_wrong v_tape_length v_tape_bytes).bind fun q1 => if q1.1 = 0 then some ((0 : Int32), q1.2.1, q1.2.2.1, q1.2.2.2) else (m_X2_readByte (45 : Int32) q1.2.1 q1.2.2.2 v_tape_length v_tape_bytes).bind fun q3 => if q3.1 = 0 then some ((0 : Int32), q3.2.1, q1.2.2.1, q3.2.2) else (m_X2_readNumber fu (q1.2.2.1 + (1 : Int32)) (20 : Int32) q3.2.1 q1.2.2.1 q3.2.2 v_tape_length v_tape_bytes).bind fun q5 => if q5.1 = 0 then some ((0 : Int32), q5.2.1, q5.2.2.1, q5.2.2.2) else (m_X2_readByte (58 : Int32) q5.2.1 q5.2.2.2 v_tape_length v_tape_bytes).bind fun q7 => if q7.1 = 0 then some ((0 : Int32), q7.2.1, q5.2.2.1, q7.2.2) else (m_X2_readNumber fu (1 : Int32) (99 : Int32) q7.2.1 q5.2.2.1 q7.2.2 v_tape_length v_tape_bytes).bind fun q9 => if q9.1 = 0 then some ((0 : Int32), q9.2.1, q9.2.2.1, q9.2.2.2) else some ((1 : Int32), q9.2.1, q9.2.2.1, q9.2.2.2)
set_option maxHeartbeats 4000000 in
set_option maxRecDepth 100000 in
theorem c_X2_readStreet (l : Launch) (dC : Nat → ClassId) (dI : Nat → Nat → Nat) (cZ cI cL : ClassId) (h0 h0_tape h0_tape_bytes h0_rowsOf : Nat) (sz : Nat) (v_place : Int32) (v_latestKind : Int32) (v_latestNumber : Int32) (v_wrong : Int32) (v_tape_length : Int32) (v_tape_bytes : Nat → Int32) (v_rowsOf : Nat → Int32) (fu : Nat) (q : Int32 × Int32 × Int32 × Int32) (hm : m_X2_readStreet fu v_place v_latestNumber v_wrong v_tape_length v_tape_bytes = some q) : Met l yX2_readStreet wsX2_readStreet ({ frames := 2, cells := 0, slots := 0, locals := 46 }) (va_Pc [.ref h0] (mt_S (dC, dI) cZ cI cL sz [(h0, .inr (2, [.ref h0_tape, .ref h0_rowsOf, .int v_place, .int v_latestKind, .int v_latestNumber, .int v_wrong])), (h0_tape, .inr (4, [.ref h0_tape_bytes, .int v_tape_length])), (h0_tape_bytes, .inl (cI, 600, .inl v_tape_bytes)), (h0_rowsOf, .inl (cI, 3, .inl v_rowsOf))])) (va_Qi (fun (r : Int32) (_ : Unit) => r = q.1) (fun _ t => va_P (dC, dI) vwCl [(h0, .inr (2, [.ref h0_tape, .ref h0_rowsOf, .int q.2.1, .int v_latestKind, .int q.2.2.1, .int q.2.2.2])), (h0_tape, .inr (4, [.ref h0_tape_bytes, .int v_tape_length])), (h0_tape_bytes, .inl (cI, 600, .inl v_tape_bytes)), (h0_rowsOf, .inl (cI, 3, .inl v_rowsOf))] t.heap ∧ va_D (va_A [(h0, .inr (2, [.ref h0_tape, .ref h0_rowsOf, .int v_place, .int v_latestKind, .int v_latestNumber, .int v_wrong])), (h0_tape, .inr (4, [.ref h0_tape_bytes, .int v_tape_length])), (h0_tape_bytes, .inl (cI, 600, .inl v_tape_bytes)), (h0_rowsOf, .inl (cI, 3, .inl v_rowsOf))] sz) [(h0, .inr (2, [.ref h0_tape, .ref h0_rowsOf, .int q.2.1, .int v_latestKind, .int q.2.2.1, .int q.2.2.2])), (h0_tape, .inr (4, [.ref h0_tape_bytes, .int v_tape_length])), (h0_tape_bytes, .inl (cI, 600, .inl v_tape_bytes)), (h0_rowsOf, .inl (cI, 3, .inl v_rowsOf))]) (va_A [(h0, .inr (2, [.ref h0_tape, .ref h0_rowsOf, .int v_place, .int v_latestKind, .int v_latestNumber, .int v_wrong])), (h0_tape, .inr (4, [.ref h0_tape_bytes, .int v_tape_length])), (h0_tape_bytes, .inl (cI, 600, .inl v_tape_bytes)), (h0_rowsOf, .inl (cI, 3, .inl v_rowsOf))] sz)) 0 0 (va_A [(h0, .inr (2, [.ref h0_tape, .ref h0_rowsOf, .int v_place, .int v_latestKind, .int v_latestNumber, .int v_wrong])), (h0_tape, .inr (4, [.ref h0_tape_bytes, .int v_tape_length])), (h0_tape_bytes, .inl (cI, 600, .inl v_tape_bytes)), (h0_rowsOf, .inl (cI, 3, .inl v_rowsOf))] sz) := by
  refine Met.ofW (cc := cX2_readStreet) (maxL := 1) (ret := (some .boolean)) (by decide) rfl ?_
  intro p e s m args below meth c s₁ B hml hv
  obtain ⟨rfl, hsz, hP, hC, hD0⟩ := hv
  have hx := B.exec
  have hb := B.bytes
  have hr := B.returns
  have hts := atoms_spec (ws := wsX2_readStreet) B.pre
  have hown : s.vm.findClass RX2 = some m.cls := findClass_of_methodNamed B.named
  have hlocks := B.notSynchronized
  have hK := hC.1
  have hiX2 : ∀ w ∈ wsX20, w ∈ wsX2_readStreet := by decide +kernel
  subst hsz
  have hD := hD0.self (sz := s.heap.size)
  generalize hAe : va_A [(h0, .inr (2, [.ref h0_tape, .ref h0_rowsOf, .int v_place, .int v_latestKind, .int v_latestNumber, .int v_wrong])), (h0_tape, .inr (4, [.ref h0_tape_bytes, .int v_tape_length])), (h0_tape_bytes, .inl (cI, 600, .inl v_tape_bytes)), (h0_rowsOf, .inl (cI, 3, .inl v_rowsOf))] s.heap.size = A at hD ⊢
  have hA : ∀ q : Nat, s.heap.size ≤ q → A q := fun q h => by rw [← hAe]; exact Or.inr h
  have hS : va_S A s.heap s.heap [] := va_S.rf
  have hl := lv_entry [.ref h0] (n := 1) (Nat.le_of_ble_eq_true rfl)
  rw [lg_entry_eq]
  generalize (lg_sl [.ref h0] ++ List.replicate (1 - (lg_sl [.ref h0]).length) Slot.unset).toArray = ls at hl ⊢
  have hl : lv_has ls 1 [(0, .ref h0)] := hl
  rw [m_X2_readStreet] at hm
  refine lv_aload_n hx hb dX2_readStreet_0 rfl (lv_at hl 0 rfl) ?_
  refine lv_iconst (v := (0 : Int32)) hx hb dX2_readStreet_1 (by decide) ?_
  refine lv_bipush (v := (20 : Int32)) hx hb dX2_readStreet_2 (by decide) ?_
  obtain ⟨q1, hq1, hm⟩ := mt_bind hm
  refine mt_calli (wr := []) hP hD hS hA [0, 1, 2, 3] [] rfl rfl (by decide) (by decide) (va_runV (As := [.int (0 : Int32), .int (20 : Int32)]) (rest := []) ⟨hx, hb, hml, hown, hts⟩ (c_X2_readNumber l dC dI cZ cI cL h0 h0_tape h0_tape_bytes h0_rowsOf s.heap.size (0 : Int32) (20 : Int32) v_place v_latestKind v_latestNumber v_wrong v_tape_length v_tape_bytes v_rowsOf fu q1 hq1) (cwV 2 hts gX2_readStreet_X2_readNumber rfl rfl rfl (by decide +kernel) ⟨Nat.le_of_ble_eq_true rfl, Nat.le_of_ble_eq_true rfl⟩) (mt_vS (q := (RX2, TX2, 6)) 2 hC hP hD rfl rfl) rfl rfl hl.1 rfl (lv_room (Nat.le_of_ble_eq_true rfl)) dX2_readStreet_4 ⟨Nat.le_of_ble_eq_true rfl, Nat.le_of_ble_eq_true rfl⟩) (fun H locs hP hD hS => ?_)
  have hP : va_P (dC, dI) vwCl [(h0, .inr (2, [.ref h0_tape, .ref h0_rowsOf, .int q1.2.1, .int v_latestKind, .int q1.2.2.1, .int q1.2.2.2])), (h0_tape, .inr (4, [.ref h0_tape_bytes, .int v_tape_length])), (h0_tape_bytes, .inl (cI, 600, .inl v_tape_bytes)), (h0_rowsOf, .inl (cI, 3, .inl v_rowsOf))] H := hP.sub [0, 1, 2, 3] rfl
  have hD : va_D A [(h0, .inr (2, [.ref h0_tape, .ref h0_rowsOf, .int q1.2.1, .int v_latestKind, .int q1.2.2.1, .int q1.2.2.2])), (h0_tape, .inr (4, [.ref h0_tape_bytes, .int v_tape_length])), (h0_tape_bytes, .inl (cI, 600, .inl v_tape_bytes)), (h0_rowsOf, .inl (cI, 3, .inl v_rowsOf))] := hD.sub [0, 1, 2, 3] (by decide) rfl
  refine lv_if_eq (tgt := 57) hx hb dX2_readStreet_7 (by decide) (fun c2 => ?_) (fun c2 => ?_)
  · replace hm := mt_pos c2 hm
    refine lv_iconst (v := (0 : Int32)) hx hb dX2_readStreet_57 (by decide) ?_
    obtain rfl := Option.some.inj hm
    exact W.zret hx hb hr mt_z0 (fun t ht hW => ⟨⟨_, (), rfl, rfl, by rw [ht]; exact hP, hD⟩, hS.F ht⟩) hS.2.2 dX2_readStreet_58
  · replace hm := mt_neg c2 hm
    refine lv_aload_n hx hb dX2_readStreet_10 rfl (lv_at hl 0 rfl) ?_
    refine lv_bipush (v := (45 : Int32)) hx hb dX2_readStreet_11 (by decide) ?_
    obtain ⟨q3, hq3, hm⟩ := mt_bind hm
    refine mt_calli (wr := []) hP hD hS hA [0, 1, 2, 3] [] rfl rfl (by decide) (by decide) (va_runV (As := [.int (45 : Int32)]) (rest := []) ⟨hx, hb, hml, hown, hts⟩ (c_X2_readByte l dC dI cZ cI cL h0 h0_tape h0_tape_bytes h0_rowsOf H.size (45 : Int32) q1.2.1 v_latestKind q1.2.2.1 q1.2.2.2 v_tape_length v_tape_bytes v_rowsOf q3 hq3) (cwV 1 hts gX2_readStreet_X2_readByte rfl rfl rfl (by decide +kernel) ⟨Nat.le_of_ble_eq_true rfl, Nat.le_of_ble_eq_true rfl⟩) (mt_vS (q := (RX2, TX2, 6)) 2 hC hP hD rfl rfl) rfl rfl hl.1 rfl (lv_room (Nat.le_of_ble_eq_true rfl)) dX2_readStreet_13 ⟨Nat.le_of_ble_eq_true rfl, Nat.le_of_ble_eq_true rfl⟩) (fun H locs hP hD hS => ?_)
    have hP : va_P (dC, dI) vwCl [(h0, .inr (2, [.ref h0_tape, .ref h0_rowsOf, .int q3.2.1, .int v_latestKind, .int q1.2.2.1, .int q3.2.2])), (h0_tape, .inr (4, [.ref h0_tape_bytes, .int v_tape_length])), (h0_tape_bytes, .inl (cI, 600, .inl v_tape_bytes)), (h0_rowsOf, .inl (cI, 3, .inl v_rowsOf))] H := hP.sub [0, 1, 2, 3] rfl
    have hD : va_D A [(h0, .inr (2, [.ref h0_tape, .ref h0_rowsOf, .int q3.2.1, .int v_latestKind, .int q1.2.2.1, .int q3.2.2])), (h0_tape, .inr (4, [.ref h0_tape_bytes, .int v_tape_length])), (h0_tape_bytes, .inl (cI, 600, .inl v_tape_bytes)), (h0_rowsOf, .inl (cI, 3, .inl v_rowsOf))] := hD.sub [0, 1, 2, 3] (by decide) rfl
    refine lv_if_eq (tgt := 57) hx hb dX2_readStreet_16 (by decide) (fun c4 => ?_) (fun c4 => ?_)
    · replace hm := mt_pos c4 hm
      refine lv_iconst (v := (0 : Int32)) hx hb dX2_readStreet_57 (by decide) ?_
      obtain rfl := Option.some.inj hm
      exact W.zret hx hb hr mt_z0 (fun t ht hW => ⟨⟨_, (), rfl, rfl, by rw [ht]; exact hP, hD⟩, hS.F ht⟩) hS.2.2 dX2_readStreet_58
    · replace hm := mt_neg c4 hm
      refine lv_aload_n hx hb dX2_readStreet_19 rfl (lv_at hl 0 rfl) ?_
      refine lv_aload_n hx hb dX2_readStreet_20 rfl (lv_at hl 0 rfl) ?_
      refine va_get (D := (dC, dI)) (ci := 2) (v := .int q1.2.2.1) (C := RX2) (T := TX2) (N := 6) hx hb hts hiX2 hown hK hP 0 rfl rfl 4 (by decide) (hts (.fieldLink RX2 70 "ServiceDrawer$Reader" "latestNumber" "I") (by decide +kernel)) (fun _ h9 => h9) rfl dX2_readStreet_21 ?_
      refine lv_iconst (v := (1 : Int32)) hx hb dX2_readStreet_24 (by decide) ?_
      refine lv_iadd hx hb dX2_readStreet_25 ?_
      refine lv_bipush (v := (20 : Int32)) hx hb dX2_readStreet_26 (by decide) ?_
      obtain ⟨q5, hq5, hm⟩ := mt_bind hm
      refine mt_calli (wr := []) hP hD hS hA [0, 1, 2, 3] [] rfl rfl (by decide) (by decide) (va_runV (As := [.int (q1.2.2.1 + (1 : Int32)), .int (20 : Int32)]) (rest := []) ⟨hx, hb, hml, hown, hts⟩ (c_X2_readNumber l dC dI cZ cI cL h0 h0_tape h0_tape_bytes h0_rowsOf H.size (q1.2.2.1 + (1 : Int32)) (20 : Int32) q3.2.1 v_latestKind q1.2.2.1 q3.2.2 v_tape_length v_tape_bytes v_rowsOf fu q5 hq5) (cwV 2 hts gX2_readStreet_X2_readNumber rfl rfl rfl (by decide +kernel) ⟨Nat.le_of_ble_eq_true rfl, Nat.le_of_ble_eq_true rfl⟩) (mt_vS (q := (RX2, TX2, 6)) 2 hC hP hD rfl rfl) rfl rfl hl.1 rfl (lv_room (Nat.le_of_ble_eq_true rfl)) dX2_readStreet_28 ⟨Nat.le_of_ble_eq_true rfl, Nat.le_of_ble_eq_true rfl⟩) (fun H locs hP hD hS => ?_)
      have hP : va_P (dC, dI) vwCl [(h0, .inr (2, [.ref h0_tape, .ref h0_rowsOf, .int q5.2.1, .int v_latestKind, .int q5.2.2.1, .int q5.2.2.2])), (h0_tape, .inr (4, [.ref h0_tape_bytes, .int v_tape_length])), (h0_tape_bytes, .inl (cI, 600, .inl v_tape_bytes)), (h0_rowsOf, .inl (cI, 3, .inl v_rowsOf))] H := hP.sub [0, 1, 2, 3] rfl
      have hD : va_D A [(h0, .inr (2, [.ref h0_tape, .ref h0_rowsOf, .int q5.2.1, .int v_latestKind, .int q5.2.2.1, .int q5.2.2.2])), (h0_tape, .inr (4, [.ref h0_tape_bytes, .int v_tape_length])), (h0_tape_bytes, .inl (cI, 600, .inl v_tape_bytes)), (h0_rowsOf, .inl (cI, 3, .inl v_rowsOf))] := hD.sub [0, 1, 2, 3] (by decide) rfl
      refine lv_if_eq (tgt := 57) hx hb dX2_readStreet_31 (by decide) (fun c6 => ?_) (fun c6 => ?_)
      · replace hm := mt_pos c6 hm
        refine lv_iconst (v := (0 : Int32)) hx hb dX2_readStreet_57 (by decide) ?_
        obtain rfl := Option.some.inj hm
        exact W.zret hx hb hr mt_z0 (fun t ht hW => ⟨⟨_, (), rfl, rfl, by rw [ht]; exact hP, hD⟩, hS.F ht⟩) hS.2.2 dX2_readStreet_58
      · replace hm := mt_neg c6 hm
        refine lv_aload_n hx hb dX2_readStreet_34 rfl (lv_at hl 0 rfl) ?_
        refine lv_bipush (v := (58 : Int32)) hx hb dX2_readStreet_35 (by decide) ?_
        obtain ⟨q7, hq7, hm⟩ := mt_bind hm
        refine mt_calli (wr := []) hP hD hS hA [0, 1, 2, 3] [] rfl rfl (by decide) (by decide) (va_runV (As := [.int (58 : Int32)]) (rest := []) ⟨hx, hb, hml, hown, hts⟩ (c_X2_readByte l dC dI cZ cI cL h0 h0_tape h0_tape_bytes h0_rowsOf H.size (58 : Int32) q5.2.1 v_latestKind q5.2.2.1 q5.2.2.2 v_tape_length v_tape_bytes v_rowsOf q7 hq7) (cwV 1 hts gX2_readStreet_X2_readByte rfl rfl rfl (by decide +kernel) ⟨Nat.le_of_ble_eq_true rfl, Nat.le_of_ble_eq_true rfl⟩) (mt_vS (q := (RX2, TX2, 6)) 2 hC hP hD rfl rfl) rfl rfl hl.1 rfl (lv_room (Nat.le_of_ble_eq_true rfl)) dX2_readStreet_37 ⟨Nat.le_of_ble_eq_true rfl, Nat.le_of_ble_eq_true rfl⟩) (fun H locs hP hD hS => ?_)
        have hP : va_P (dC, dI) vwCl [(h0, .inr (2, [.ref h0_tape, .ref h0_rowsOf, .int q7.2.1, .int v_latestKind, .int q5.2.2.1, .int q7.2.2])), (h0_tape, .inr (4, [.ref h0_tape_bytes, .int v_tape_length])), (h0_tape_bytes, .inl (cI, 600, .inl v_tape_bytes)), (h0_rowsOf, .inl (cI, 3, .inl v_rowsOf))] H := hP.sub [0, 1, 2, 3] rfl
        have hD : va_D A [(h0, .inr (2, [.ref h0_tape, .ref h0_rowsOf, .int q7.2.1, .int v_latestKind, .int q5.2.2.1, .int q7.2.2])), (h0_tape, .inr (4, [.ref h0_tape_bytes, .int v_tape_length])), (h0_tape_bytes, .inl (cI, 600, .inl v_tape_bytes)), (h0_rowsOf, .inl (cI, 3, .inl v_rowsOf))] := hD.sub [0, 1, 2, 3] (by decide) rfl
        refine lv_if_eq (tgt := 57) hx hb dX2_readStreet_40 (by decide) (fun c8 => ?_) (fun c8 => ?_)
        · replace hm := mt_pos c8 hm
          refine lv_iconst (v := (0 : Int32)) hx hb dX2_readStreet_57 (by decide) ?_
          obtain rfl := Option.some.inj hm
          exact W.zret hx hb hr mt_z0 (fun t ht hW => ⟨⟨_, (), rfl, rfl, by rw [ht]; exact hP, hD⟩, hS.F ht⟩) hS.2.2 dX2_readStreet_58
        · replace hm := mt_neg c8 hm
          refine lv_aload_n hx hb dX2_readStreet_43 rfl (lv_at hl 0 rfl) ?_
          refine lv_iconst (v := (1 : Int32)) hx hb dX2_readStreet_44 (by decide) ?_
          refine lv_bipush (v := (99 : Int32)) hx hb dX2_readStreet_45 (by decide) ?_
          obtain ⟨q9, hq9, hm⟩ := mt_bind hm
          refine mt_calli (wr := []) hP hD hS hA [0, 1, 2, 3] [] rfl rfl (by decide) (by decide) (va_runV (As := [.int (1 : Int32), .int (99 : Int32)]) (rest := []) ⟨hx, hb, hml, hown, hts⟩ (c_X2_readNumber l dC dI cZ cI cL h0 h0_tape h0_tape_bytes h0_rowsOf H.size (1 : Int32) (99 : Int32) q7.2.1 v_latestKind q5.2.2.1 q7.2.2 v_tape_length v_tape_bytes v_rowsOf fu q9 hq9) (cwV 2 hts gX2_readStreet_X2_readNumber rfl rfl rfl (by decide +kernel) ⟨Nat.le_of_ble_eq_true rfl, Nat.le_of_ble_eq_true rfl⟩) (mt_vS (q := (RX2, TX2, 6)) 2 hC hP hD rfl rfl) rfl rfl hl.1 rfl (lv_room (Nat.le_of_ble_eq_true rfl)) dX2_readStreet_47 ⟨Nat.le_of_ble_eq_true rfl, Nat.le_of_ble_eq_true rfl⟩) (fun H locs hP hD hS => ?_)
          have hP : va_P (dC, dI) vwCl [(h0, .inr (2, [.ref h0_tape, .ref h0_rowsOf, .int q9.2.1, .int v_latestKind, .int q9.2.2.1, .int q9.2.2.2])), (h0_tape, .inr (4, [.ref h0_tape_bytes, .int v_tape_length])), (h0_tape_bytes, .inl (cI, 600, .inl v_tape_bytes)), (h0_rowsOf, .inl (cI, 3, .inl v_rowsOf))] H := hP.sub [0, 1, 2, 3] rfl
          have hD : va_D A [(h0, .inr (2, [.ref h0_tape, .ref h0_rowsOf, .int q9.2.1, .int v_latestKind, .int q9.2.2.1, .int q9.2.2.2])), (h0_tape, .inr (4, [.ref h0_tape_bytes, .int v_tape_length])), (h0_tape_bytes, .inl (cI, 600, .inl v_tape_bytes)), (h0_rowsOf, .inl (cI, 3, .inl v_rowsOf))] := hD.sub [0, 1, 2, 3] (by decide) rfl
          refine lv_if_eq (tgt := 57) hx hb dX2_readStreet_50 (by decide) (fun c10 => ?_) (fun c10 => ?_)
          · replace hm := mt_pos c10 hm
            refine lv_iconst (v := (0 : Int32)) hx hb dX2_readStreet_57 (by decide) ?_
            obtain rfl := Option.some.inj hm
            exact W.zret hx hb hr mt_z0 (fun t ht hW => ⟨⟨_, (), rfl, rfl, by rw [ht]; exact hP, hD⟩, hS.F ht⟩) hS.2.2 dX2_readStreet_58
          · replace hm := mt_neg c10 hm
            refine lv_iconst (v := (1 : Int32)) hx hb dX2_readStreet_53 (by decide) ?_
            refine lv_goto (tgt := 58) hx hb dX2_readStreet_54 (by decide) ?_
            obtain rfl := Option.some.inj hm
            exact W.zret hx hb hr mt_z1 (fun t ht hW => ⟨⟨_, (), rfl, rfl, by rw [ht]; exact hP, hD⟩, hS.F ht⟩) hS.2.2 dX2_readStreet_58
