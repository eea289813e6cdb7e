/-! Own words: mirrors are functions into Option (none: out of fuel, or an index or a divisor that the machine would refuse); these rows take a mirror's run apart, a step at a time. -/
theorem mt_pos {α : Type} {c : Prop} [Decidable c] {a b q : Option α} (h : c) (hm : (if c then a else b) = q) : a = q := (if_pos h).symm.trans hm
theorem mt_neg {α : Type} {c : Prop} [Decidable c] {a b q : Option α} (h : ¬ c) (hm : (if c then a else b) = q) : b = q := (if_neg h).symm.trans hm
theorem mt_gd {α : Type} {c : Prop} [Decidable c] {a : Option α} {q : α} (hm : (if c then a else none) = some q) : c ∧ a = some q := by
  by_cases h : c
  · exact ⟨h, mt_pos h hm⟩
  · exact absurd (mt_neg h hm) (fun z => nomatch z)
theorem mt_bind {α β : Type} {x : Option β} {f : β → Option α} {q : α} (hm : x.bind f = some q) : ∃ b, x = some b ∧ f b = some q := by
  cases x with
  | none => exact nomatch hm
  | some b => exact ⟨b, rfl, hm⟩
def mt_j {α β : Type} (k : α) (f : α → Option β) : Option β := f k
theorem mt_jx {α β : Type} {k : α} {f : α → Option β} {q : β} (hm : mt_j k f = some q) : ∃ K, K = k ∧ f K = some q := ⟨k, rfl, hm⟩
theorem mt_app1 {T0 β : Type} {f K : T0 → β} {q : β} {x0 : T0} (h : K = f) (hm : K x0 = q) : f x0 = q := h ▸ hm
theorem mt_app2 {T0 T1 β : Type} {f K : T0 → T1 → β} {q : β} {x0 : T0} {x1 : T1} (h : K = f) (hm : K x0 x1 = q) : f x0 x1 = q := h ▸ hm
theorem mt_app3 {T0 T1 T2 β : Type} {f K : T0 → T1 → T2 → β} {q : β} {x0 : T0} {x1 : T1} {x2 : T2} (h : K = f) (hm : K x0 x1 x2 = q) : f x0 x1 x2 = q := h ▸ hm
theorem mt_app4 {T0 T1 T2 T3 β : Type} {f K : T0 → T1 → T2 → T3 → β} {q : β} {x0 : T0} {x1 : T1} {x2 : T2} {x3 : T3} (h : K = f) (hm : K x0 x1 x2 x3 = q) : f x0 x1 x2 x3 = q := h ▸ hm
theorem mt_app5 {T0 T1 T2 T3 T4 β : Type} {f K : T0 → T1 → T2 → T3 → T4 → β} {q : β} {x0 : T0} {x1 : T1} {x2 : T2} {x3 : T3} {x4 : T4} (h : K = f) (hm : K x0 x1 x2 x3 x4 = q) : f x0 x1 x2 x3 x4 = q := h ▸ hm
theorem mt_app6 {T0 T1 T2 T3 T4 T5 β : Type} {f K : T0 → T1 → T2 → T3 → T4 → T5 → β} {q : β} {x0 : T0} {x1 : T1} {x2 : T2} {x3 : T3} {x4 : T4} {x5 : T5} (h : K = f) (hm : K x0 x1 x2 x3 x4 x5 = q) : f x0 x1 x2 x3 x4 x5 = q := h ▸ hm
theorem mt_app7 {T0 T1 T2 T3 T4 T5 T6 β : Type} {f K : T0 → T1 → T2 → T3 → T4 → T5 → T6 → β} {q : β} {x0 : T0} {x1 : T1} {x2 : T2} {x3 : T3} {x4 : T4} {x5 : T5} {x6 : T6} (h : K = f) (hm : K x0 x1 x2 x3 x4 x5 x6 = q) : f x0 x1 x2 x3 x4 x5 x6 = q := h ▸ hm
theorem mt_app8 {T0 T1 T2 T3 T4 T5 T6 T7 β : Type} {f K : T0 → T1 → T2 → T3 → T4 → T5 → T6 → T7 → β} {q : β} {x0 : T0} {x1 : T1} {x2 : T2} {x3 : T3} {x4 : T4} {x5 : T5} {x6 : T6} {x7 : T7} (h : K = f) (hm : K x0 x1 x2 x3 x4 x5 x6 x7 = q) : f x0 x1 x2 x3 x4 x5 x6 x7 = q := h ▸ hm
theorem mt_app9 {T0 T1 T2 T3 T4 T5 T6 T7 T8 β : Type} {f K : T0 → T1 → T2 → T3 → T4 → T5 → T6 → T7 → T8 → β} {q : β} {x0 : T0} {x1 : T1} {x2 : T2} {x3 : T3} {x4 : T4} {x5 : T5} {x6 : T6} {x7 : T7} {x8 : T8} (h : K = f) (hm : K x0 x1 x2 x3 x4 x5 x6 x7 x8 = q) : f x0 x1 x2 x3 x4 x5 x6 x7 x8 = q := h ▸ hm
theorem mt_app10 {T0 T1 T2 T3 T4 T5 T6 T7 T8 T9 β : Type} {f K : T0 → T1 → T2 → T3 → T4 → T5 → T6 → T7 → T8 → T9 → β} {q : β} {x0 : T0} {x1 : T1} {x2 : T2} {x3 : T3} {x4 : T4} {x5 : T5} {x6 : T6} {x7 : T7} {x8 : T8} {x9 : T9} (h : K = f) (hm : K x0 x1 x2 x3 x4 x5 x6 x7 x8 x9 = q) : f x0 x1 x2 x3 x4 x5 x6 x7 x8 x9 = q := h ▸ hm
theorem mt_app11 {T0 T1 T2 T3 T4 T5 T6 T7 T8 T9 T10 β : Type} {f K : T0 → T1 → T2 → T3 → T4 → T5 → T6 → T7 → T8 → T9 → T10 → β} {q : β} {x0 : T0} {x1 : T1} {x2 : T2} {x3 : T3} {x4 : T4} {x5 : T5} {x6 : T6} {x7 : T7} {x8 : T8} {x9 : T9} {x10 : T10} (h : K = f) (hm : K x0 x1 x2 x3 x4 x5 x6 x7 x8 x9 x10 = q) : f x0 x1 x2 x3 x4 x5 x6 x7 x8 x9 x10 = q := h ▸ hm
theorem mt_app12 {T0 T1 T2 T3 T4 T5 T6 T7 T8 T9 T10 T11 β : Type} {f K : T0 → T1 → T2 → T3 → T4 → T5 → T6 → T7 → T8 → T9 → T10 → T11 → β} {q : β} {x0 : T0} {x1 : T1} {x2 : T2} {x3 : T3} {x4 : T4} {x5 : T5} {x6 : T6} {x7 : T7} {x8 : T8} {x9 : T9} {x10 : T10} {x11 : T11} (h : K = f) (hm : K x0 x1 x2 x3 x4 x5 x6 x7 x8 x9 x10 x11 = q) : f x0 x1 x2 x3 x4 x5 x6 x7 x8 x9 x10 x11 = q := h ▸ hm
theorem mt_app13 {T0 T1 T2 T3 T4 T5 T6 T7 T8 T9 T10 T11 T12 β : Type} {f K : T0 → T1 → T2 → T3 → T4 → T5 → T6 → T7 → T8 → T9 → T10 → T11 → T12 → β} {q : β} {x0 : T0} {x1 : T1} {x2 : T2} {x3 : T3} {x4 : T4} {x5 : T5} {x6 : T6} {x7 : T7} {x8 : T8} {x9 : T9} {x10 : T10} {x11 : T11} {x12 : T12} (h : K = f) (hm : K x0 x1 x2 x3 x4 x5 x6 x7 x8 x9 x10 x11 x12 = q) : f x0 x1 x2 x3 x4 x5 x6 x7 x8 x9 x10 x11 x12 = q := h ▸ hm
theorem mt_app14 {T0 T1 T2 T3 T4 T5 T6 T7 T8 T9 T10 T11 T12 T13 β : Type} {f K : T0 → T1 → T2 → T3 → T4 → T5 → T6 → T7 → T8 → T9 → T10 → T11 → T12 → T13 → β} {q : β} {x0 : T0} {x1 : T1} {x2 : T2} {x3 : T3} {x4 : T4} {x5 : T5} {x6 : T6} {x7 : T7} {x8 : T8} {x9 : T9} {x10 : T10} {x11 : T11} {x12 : T12} {x13 : T13} (h : K = f) (hm : K x0 x1 x2 x3 x4 x5 x6 x7 x8 x9 x10 x11 x12 x13 = q) : f x0 x1 x2 x3 x4 x5 x6 x7 x8 x9 x10 x11 x12 x13 = q := h ▸ hm
theorem mt_app15 {T0 T1 T2 T3 T4 T5 T6 T7 T8 T9 T10 T11 T12 T13 T14 β : Type} {f K : T0 → T1 → T2 → T3 → T4 → T5 → T6 → T7 → T8 → T9 → T10 → T11 → T12 → T13 → T14 → β} {q : β} {x0 : T0} {x1 : T1} {x2 : T2} {x3 : T3} {x4 : T4} {x5 : T5} {x6 : T6} {x7 : T7} {x8 : T8} {x9 : T9} {x10 : T10} {x11 : T11} {x12 : T12} {x13 : T13} {x14 : T14} (h : K = f) (hm : K x0 x1 x2 x3 x4 x5 x6 x7 x8 x9 x10 x11 x12 x13 x14 = q) : f x0 x1 x2 x3 x4 x5 x6 x7 x8 x9 x10 x11 x12 x13 x14 = q := h ▸ hm
theorem mt_app16 {T0 T1 T2 T3 T4 T5 T6 T7 T8 T9 T10 T11 T12 T13 T14 T15 β : Type} {f K : T0 → T1 → T2 → T3 → T4 → T5 → T6 → T7 → T8 → T9 → T10 → T11 → T12 → T13 → T14 → T15 → β} {q : β} {x0 : T0} {x1 : T1} {x2 : T2} {x3 : T3} {x4 : T4} {x5 : T5} {x6 : T6} {x7 : T7} {x8 : T8} {x9 : T9} {x10 : T10} {x11 : T11} {x12 : T12} {x13 : T13} {x14 : T14} {x15 : T15} (h : K = f) (hm : K x0 x1 x2 x3 x4 x5 x6 x7 x8 x9 x10 x11 x12 x13 x14 x15 = q) : f x0 x1 x2 x3 x4 x5 x6 x7 x8 x9 x10 x11 x12 x13 x14 x15 = q := h ▸ hm
def mt_nF : List (String × Nat × String × String × String × String) := [("ServiceDrawer", 132, "ServiceDrawer$Printer", "text", "LServiceDrawer$Text;", "ServiceDrawer"), ("ServiceDrawer", 148, "ServiceDrawer$Reader", "tape", "LServiceDrawer$Text;", "ServiceDrawer")]
def mt_nM : List (String × Nat × MethodName × String) := [("ServiceDrawer$Printer", 35, ⟨"ServiceDrawer", "kindOf", "(I)I"⟩, "ServiceDrawer"), ("ServiceDrawer$Roads", 39, ⟨"ServiceDrawer", "isCorner", "(I)Z"⟩, "ServiceDrawer"), ("ServiceDrawer$Town", 83, ⟨"ServiceDrawer", "isPart", "(I)Z"⟩, "ServiceDrawer")]
theorem mt_tne {x k : Int32} (h : ¬ x = k) (v : Int) (hv : k.toInt = v) : ¬ v = x.toInt := fun z => h (Int32.toInt_inj.mp (z.symm.trans hv.symm))
theorem mt_lk1 {x k : Int32} {ps : List (Int × Int)} {d off : Int} (h : x = k) (ho : Op.lookupswitch.offset ps d k.toInt = off) : Op.lookupswitch.offset ps d x.toInt = off := by rw [h]; exact ho
def mt_ushr (x y : Int32) : Int32 := (x.toUInt32 >>> (y.toUInt32 &&& Int32.toUInt32 31)).toInt32
def mt_lushr (x : Int64) (y : Int32) : Int64 := (x.toUInt64 >>> (y.toInt64.toUInt64 &&& Int64.toUInt64 63)).toInt64
def mt_lshr (x : Int64) (y : Int32) : Int64 := x >>> (y.toInt64 &&& 63)
def mt_min (x y : Int32) : Int32 := if y < x then y else x
def mt_max (x y : Int32) : Int32 := if x < y then y else x
def mt_lshl (x : Int64) (y : Int32) : Int64 := x <<< (y.toInt64 &&& 63)
theorem mt_zn {v : Int32} (h : v &&& 1 = v) : narrow .boolean (.int v) = .int v := congrArg Value.int h
theorem mt_z0 : narrow .boolean (.int (0 : Int32)) = .int 0 := mt_zn (by decide)
theorem mt_z1 : narrow .boolean (.int (1 : Int32)) = .int 1 := mt_zn (by decide)
/-- what every contract here takes of the tables: the classes, the array classes, the links among nest mates -/
def mt_NW (U : State) : Prop := (∀ q ∈ mt_nF, va_Nw (.fieldLinkNest q.1 q.2.1 q.2.2.1 q.2.2.2.1 q.2.2.2.2.1 q.2.2.2.2.2) U) ∧ ∀ q ∈ mt_nM, va_Nw (.methodLinkNest q.1 q.2.1 q.2.2.1 q.2.2.2) U
theorem mt_NW.warm {s U : State} (hW : s.WarmedH U.vm) (h : mt_NW s) : mt_NW U := ⟨fun q hq => va_Nw.warmF hW (h.1 q hq), fun q hq => va_Nw.warmM hW (h.2 q hq)⟩
theorem mt_NW.same {s U : State} (hv : s.vm = U.vm) (h : mt_NW s) : mt_NW U := ⟨fun q hq => va_Nw.same rfl hv (h.1 q hq), fun q hq => va_Nw.same rfl hv (h.2 q hq)⟩
theorem mt_NW.f {U : State} (h : mt_NW U) (a : String) (i : Nat) (b n d o : String) (hq : (a, i, b, n, d, o) ∈ mt_nF) : va_Nw (.fieldLinkNest a i b n d o) U := h.1 _ hq
theorem mt_NW.m {U : State} (h : mt_NW U) (a : String) (i : Nat) (y : MethodName) (o : String) (hq : (a, i, y, o) ∈ mt_nM) : va_Nw (.methodLinkNest a i y o) U := h.2 _ hq
abbrev mt_ty (cZ cI cL : ClassId) : List (ClassId × FieldType) := [(cZ, .boolean), (cI, .int), (cL, .long)]
def mt_C (D : va_G) (cZ cI cL : ClassId) (U : State) : Prop := va_K D vwCl (mt_ty cZ cI cL) U ∧ mt_NW U
theorem mt_C.warm {D : va_G} {cZ cI cL : ClassId} {s U : State} (hW : s.WarmedH U.vm) (h : mt_C D cZ cI cL s) : mt_C D cZ cI cL U := ⟨va_K.moved hW.alike h.1, h.2.warm hW⟩
theorem mt_C.call {D : va_G} {cZ cI cL : ClassId} {U : State} (g : JFrame) (mk : MethodId) (a : Array Value) (h : mt_C D cZ cI cL U) : mt_C D cZ cI cL (U.calling g mk a) := ⟨va_K.moved (u := U) (U := U.calling g mk a) (Vm.Alike.refl U.vm) h.1, h.2.same rfl⟩
/-- the start of a method that only reads, and of one that writes -/
def mt_R (D : va_G) (cZ cI cL : ClassId) (ws : va_W) (U : State) : Prop := va_P D vwCl ws U.heap ∧ mt_C D cZ cI cL U
def mt_S (D : va_G) (cZ cI cL : ClassId) (sz : Nat) (ws : va_W) (U : State) : Prop := U.heap.size = sz ∧ va_P D vwCl ws U.heap ∧ mt_C D cZ cI cL U ∧ va_D (fun _ => True) ws
theorem mt_blR {D : va_G} {cZ cI cL : ClassId} {ws : va_W} {av : List Value} : FrameBlind (va_Pc av (mt_R D cZ cI cL ws)) := fun a _ g mk z => ⟨z.1, z.2.1, z.2.2.call g mk a⟩
theorem mt_blS {D : va_G} {cZ cI cL : ClassId} {sz : Nat} {ws : va_W} {av : List Value} : FrameBlind (va_Pc av (mt_S D cZ cI cL sz ws)) := fun a _ g mk z => ⟨z.1, z.2.1, z.2.2.1, z.2.2.2.1.call g mk a, z.2.2.2.2⟩
theorem mt_pR {s : State} {H : Heap} {D : va_G} {cZ cI cL : ClassId} {wc : va_W} {As : List Value} (hC : mt_C D cZ cI cL s) (hP : va_P D vwCl wc H) : PreS s H (va_Pc As (mt_R D cZ cI cL wc)) As := ⟨mt_blR, fun _ hU hW => ⟨rfl, by rw [hU]; exact hP, hC.warm hW⟩⟩
theorem mt_pS {s : State} {H : Heap} {D : va_G} {cZ cI cL : ClassId} {wc : va_W} {As : List Value} (hC : mt_C D cZ cI cL s) (hP : va_P D vwCl wc H) {A : Nat → Prop} (hD : va_D A wc) : PreS s H (va_Pc As (mt_S D cZ cI cL H.size wc)) As := ⟨mt_blS, fun _ hU hW => ⟨rfl, by rw [hU], by rw [hU]; exact hP, hC.warm hW, hD.weaken (fun _ _ _ _ => trivial)⟩⟩
theorem mt_vR {s : State} {H : Heap} {D : va_G} {cZ cI cL : ClassId} {wc : va_W} {As : List Value} {b : Nat} (ci : Nat) {q : vw_C} {fs : List Value} (hC : mt_C D cZ cI cL s) (hP : va_P D vwCl wc H) (hc : vwCl[ci]? = some q) (he : wc[0]? = some (b, .inr (ci, fs))) : PreV s H q.1 b (va_Pc (.ref b :: As) (mt_R D cZ cI cL wc)) As := ⟨mt_blR, va_recv hC.1 hP hc he, fun _ hU hW => ⟨rfl, by rw [hU]; exact hP, hC.warm hW⟩⟩
theorem mt_vS {s : State} {H : Heap} {D : va_G} {cZ cI cL : ClassId} {wc : va_W} {As : List Value} {b : Nat} (ci : Nat) {q : vw_C} {fs : List Value} (hC : mt_C D cZ cI cL s) (hP : va_P D vwCl wc H) {A : Nat → Prop} (hD : va_D A wc) (hc : vwCl[ci]? = some q) (he : wc[0]? = some (b, .inr (ci, fs))) : PreV s H q.1 b (va_Pc (.ref b :: As) (mt_S D cZ cI cL H.size wc)) As := ⟨mt_blS, va_recv hC.1 hP hc he, fun _ hU hW => ⟨rfl, by rw [hU], by rw [hU]; exact hP, hC.warm hW, hD.weaken (fun _ _ _ _ => trivial)⟩⟩
section MTC
variable {p : Program} {l : Launch} {e : Env} {R : Room} {s : State} {m : MethodId} {args : Array Value} {below : List Frame} {meth : Method} {c : Code} {H H0 : Heap} {locs : List Loc} {cells slots mc ms pc : Nat} {Q : State → Prop} {ls : Array Slot} {st0 rest : List Value} {a : Array Value} {D : va_G} {A : Nat → Prop} {ws wc wr w1 : va_W}
/-- a call that answers an int and changes its own cells: behind it the caller's other cells, and the callee's new ones -/
theorem mt_calli {r0 : Int32} (hP : va_P D vwCl ws H) (hD : va_D A ws) (hS : va_S A H0 H locs) (hA : ∀ q, H0.size ≤ q → A q) (isC isR : List Nat) (hC : isC.map (fun i => ws[i]?) = wc.map some) (hR : isR.map (fun i => ws[i]?) = wr.map some) (hn : va_nd isR = true) (hdis : ∀ i ∈ isR, i ∉ isC)
    (hr : va_Run p l e R s m args below meth c H locs cells slots mc ms (F0 m pc ls st0) rest (va_Qi (fun (r : Int32) (_ : Unit) => r = r0) (fun _ t => va_P D vwCl w1 t.heap ∧ va_D (va_A wc H.size) w1) (va_A wc H.size) a) (va_A wc H.size))
    (kk : ∀ (H1 : Heap) (locs1 : List Loc), va_P D vwCl (wr ++ w1) H1 → va_D A (wr ++ w1) → va_S A H0 H1 locs1 → W p l e R s m args below meth c H1 locs1 (cells + mc) (slots + ms) Q (F0 m (pc + 3) ls (.int r0 :: rest))) : W p l e R s m args below meth c H locs cells slots Q (F0 m pc ls st0) := by
  have hF := va_free (wc := wc) hD hS hA isC hC
  refine va_calli hr hS (fun q _ h => hF q h) hF (fun r u t H1 locs1 ht hvm hp hB hz hk hS1 => ?_)
  subst hp
  obtain ⟨hP1, hD1⟩ := hB
  rw [ht] at hP1
  obtain ⟨hP2, hD2⟩ := va_join (wr := wr) (w1 := w1) hP hD isC isR hC hR hn hdis hk hF hP1 hD1
  exact kk H1 locs1 hP2 hD2 hS1
theorem mt_callv (hP : va_P D vwCl ws H) (hD : va_D A ws) (hS : va_S A H0 H locs) (hA : ∀ q, H0.size ≤ q → A q) (isC isR : List Nat) (hC : isC.map (fun i => ws[i]?) = wc.map some) (hR : isR.map (fun i => ws[i]?) = wr.map some) (hn : va_nd isR = true) (hdis : ∀ i ∈ isR, i ∉ isC)
    (hr : va_Run p l e R s m args below meth c H locs cells slots mc ms (F0 m pc ls st0) rest (va_Qv (fun (_ : Unit) => True) (fun _ t => va_P D vwCl w1 t.heap ∧ va_D (va_A wc H.size) w1) (va_A wc H.size) a) (va_A wc H.size))
    (kk : ∀ (H1 : Heap) (locs1 : List Loc), va_P D vwCl (wr ++ w1) H1 → va_D A (wr ++ w1) → va_S A H0 H1 locs1 → W p l e R s m args below meth c H1 locs1 (cells + mc) (slots + ms) Q (F0 m (pc + 3) ls rest)) : W p l e R s m args below meth c H locs cells slots Q (F0 m pc ls st0) := by
  have hF := va_free (wc := wc) hD hS hA isC hC
  refine va_callv hr hS (fun q _ h => hF q h) hF (fun u t H1 locs1 ht hvm hp hB hz hk hS1 => ?_)
  obtain ⟨hP1, hD1⟩ := hB
  rw [ht] at hP1
  obtain ⟨hP2, hD2⟩ := va_join (wr := wr) (w1 := w1) hP hD isC isR hC hR hn hdis hk hF hP1 hD1
  exact kk H1 locs1 hP2 hD2 hS1
end MTC
