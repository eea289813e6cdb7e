/-! A throw that comes out of a callee, caught by a row of this method's own table: own rows (the printed law of it rests on a shelf of the library that rounds don't have). -/
/-- the search of a table's rows gives the handler at hp and leaves the tables vm' -/
def mt_Finds (e : Env) (S : State) (f : JFrame) (a : Addr) (t : List ExceptionTableEntry) (hp : Nat) (vm' : Vm) : Prop :=
  ∀ (Q : Handler → Pre) (E : CtlPost) (d : Bool) (acts : List Action), wp (findHandler.go f a t) Q E e d acts S ↔ Q (.found hp) d acts (S.setVm vm')
theorem mt_go {x : ExceptionTableEntry} {t : List ExceptionTableEntry} {cT : ClassId} {cell : Cell} {e : Env} {S : State} {f : JFrame} {a : Addr} (hx : covers x f.pc = true) (h0 : x.catchType ≠ 0)
    (hl : S.vm.ClassLinks e.platform f.method.cls x.catchType cT) (hcell : S.heap[a]? = some cell) (hobj : ∀ k, cell.vm ≠ .statics k)
    (hk : ∃ k, S.vm.classes[cell.cls]? = some k) (hc : ∃ k, S.vm.classes[cT]? = some k) :
    (S.vm.assignable cell.cls cT = true → mt_Finds e S f a (x :: t) x.handlerPc (S.vm.noted f.method.cls x.catchType (.cls cT))) ∧
    (S.vm.assignable cell.cls cT = false → ∀ (Q : Handler → Pre) (E : CtlPost) (d : Bool) (acts : List Action), wp (findHandler.go f a (x :: t)) Q E e d acts S ↔ wp (findHandler.go f a t) Q E e d acts (S.setVm (S.vm.noted f.method.cls x.catchType (.cls cT)))) := by
  simp only [covers] at hx
  obtain ⟨ha, ht⟩ := (resolveClass_links e.toSetting hl).op (op := VmOp.resolveClass f.method.cls x.catchType) rfl
  have hal : S.vm.Alike (S.vm.noted f.method.cls x.catchType (.cls cT)) := (Vm.Alike.refl S.vm).noted _ _ _
  obtain ⟨k1, hk1⟩ := hk
  obtain ⟨k2, hk2⟩ := hc
  obtain ⟨k1', hk1', -⟩ := hal.2.2 _ _ hk1
  obtain ⟨k2', hk2', -⟩ := hal.2.2 _ _ hk2
  refine ⟨fun hf Q E d acts => ?_, fun hf Q E d acts => ?_⟩
  · have hf' : (S.vm.noted f.method.cls x.catchType (.cls cT)).assignable cell.cls cT = true := by rw [hal.assignable]; exact hf
    simp [findHandler.go, hx, h0, ha, ht, hcell, hobj, hk1', hk2', hf', VmOp.dirties, VmOp.acts]
  · have hf' : (S.vm.noted f.method.cls x.catchType (.cls cT)).assignable cell.cls cT = false := by rw [hal.assignable]; exact hf
    simp [findHandler.go, hx, h0, ha, ht, hcell, hobj, hk1', hk2', hf', VmOp.dirties, VmOp.acts]
theorem mt_search {e : Env} {s₀ : State} {f : JFrame} {a : Addr} {cell : Cell} (hobj : ∀ k, cell.vm ≠ .statics k) (hk0 : ∃ k, s₀.vm.classes[cell.cls]? = some k)
    (x : ExceptionTableEntry) (suf : List ExceptionTableEntry) (hx : covers x f.pc = true) (h0 : x.catchType ≠ 0) {cT : ClassId} (hl : s₀.vm.ClassLinks e.platform f.method.cls x.catchType cT) (hfit : s₀.vm.assignable cell.cls cT = true) :
    ∀ (pre : List ExceptionTableEntry) (S : State), s₀.WarmedH S.vm → S.heap[a]? = some cell → (∀ z ∈ pre, covers z f.pc = false ∨ (z.catchType ≠ 0 ∧ ∃ c', s₀.vm.ClassLinks e.platform f.method.cls z.catchType c' ∧ s₀.vm.assignable cell.cls c' = false)) →
      ∃ vm', s₀.WarmedH vm' ∧ mt_Finds e S f a (pre ++ x :: suf) x.handlerPc vm' := by
  obtain ⟨k0, hk0⟩ := hk0
  intro pre
  induction pre with
  | nil =>
    intro S hW hcell _
    obtain ⟨k0', hk0', -⟩ := hW.alike.2.2 _ _ hk0
    obtain ⟨dk, _, _, kt, hd, _, _, _, _, hkt, _, hopen⟩ := hl.here
    obtain ⟨kt', hkt', -⟩ := hW.alike.2.2 _ _ hkt
    exact ⟨_, hW.noted hd hopen (State.rightAt_cls hl), (mt_go hx h0 (hW.classLinks hl) hcell hobj ⟨k0', hk0'⟩ ⟨kt', hkt'⟩).1 (by rw [hW.alike.assignable]; exact hfit)⟩
  | cons z zs ih =>
    intro S hW hcell hpass
    obtain ⟨k0', hk0', -⟩ := hW.alike.2.2 _ _ hk0
    have hrest := fun w hw => hpass w (List.mem_cons_of_mem _ hw)
    by_cases hcov : covers z f.pc = true
    · rcases hpass z (List.mem_cons_self ..) with h | ⟨hz, c', hl', hno⟩
      · rw [h] at hcov; cases hcov
      · obtain ⟨dk, _, _, kt, hd, _, _, _, _, hkt, _, hopen⟩ := hl'.here
        obtain ⟨kt', hkt', -⟩ := hW.alike.2.2 _ _ hkt
        obtain ⟨vm', hW', hq⟩ := ih (S.setVm (S.vm.noted f.method.cls z.catchType (.cls c'))) (hW.noted hd hopen (State.rightAt_cls hl')) hcell hrest
        refine ⟨vm', hW', fun Q E d acts => ?_⟩
        rw [List.cons_append, (mt_go hcov hz (hW.classLinks hl') hcell hobj ⟨k0', hk0'⟩ ⟨kt', hkt'⟩).2 (by rw [hW.alike.assignable]; exact hno)]
        exact hq Q E d acts
    · obtain ⟨vm', hW', hq⟩ := ih S hW hcell hrest
      refine ⟨vm', hW', fun Q E d acts => ?_⟩
      rw [List.cons_append, W.findHandler_go_skip (by simpa using hcov)]
      exact hq Q E d acts
theorem mt_lands {e : Env} {S : State} {a : Addr} {f : JFrame} {r : List Frame} {hp : Nat} {vm' : Vm} {meth : Method} {code : Code} (hm : S.vm.method? f.method = some meth) (hc : meth.code = some code) (hf : mt_Finds e S f a code.exceptionTable.toList hp vm') :
    (stepThrowing e S a (.java f :: r)).Is ((S.setVm vm').setFrames (.java { f with pc := hp, stack := [.ref a] } :: r)) [] := by
  have hf' : ∀ (Q : Handler → Pre) (E : CtlPost) (d : Bool) (acts : List Action), wp (findHandler f a) Q E e d acts S ↔ Q (.found hp) d acts (S.setVm vm') := fun Q E d acts => by
    rw [W.findHandler_eq hm hc]; exact hf Q E d acts
  simp only [stepThrowing, searchFrame, vmDo]
  generalize hr : Sem.go _ e false [] S = res
  obtain ⟨as, rfl, ha⟩ := Sem.eq_ok_of hr (a := Handler.found hp) (s' := S.setVm vm') (acts' := []) (by simp [hf' _ _ _ _])
  exact ⟨rfl, ha⟩
section MTX
variable {p : Program} {l : Launch} {e : Env} {R : Room} {s : State} {m : MethodId} {args : Array Value} {below : List Frame} {meth : Method} {c : Code} {H : Heap} {locs : List Loc} {cells slots pc : Nat} {Q : State → Prop} {ls : Array Slot} {rest : List Value}
theorem mt_catch {own name E : String} {ce : Cell} {q : Addr} (hown : s.vm.findClass own = some m.cls) (pre : List ExceptionTableEntry) (x : ExceptionTableEntry) (suf : List ExceptionTableEntry) (hsplit : c.exceptionTable.toList = pre ++ x :: suf)
    (hpass : ∀ z ∈ pre, covers z pc = false ∨ (z.catchType ≠ 0 ∧ ∃ nm : String, (Cond.classLink own z.catchType nm).before args s = true ∧ va_Nc E nm s)) (hx : covers x pc = true) (h0 : x.catchType ≠ 0)
    (hlink : (Cond.classLink own x.catchType name).before args s = true) (hcast : (Cond.castable E name).before args s = true) (hcell : H[q]? = some ce) (hv : ce.vm = .none) (hcl : s.vm.findClass E = some ce.cls)
    (kk : W p l e R s m args below meth c H locs cells slots Q (F0 m x.handlerPc ls [.ref q])) : vx_W p l e R s m args below meth c H locs cells slots Q (F0 m pc ls rest) q := by
  intro T hT X
  have hpl : e.platform.magicAccessors = ({} : Platform).magicAccessors := by rw [X.admits.platform]
  obtain ⟨c3, c4, hc3, hc4, hasg⟩ := Cond.castable_spec hcast
  cases hcl.symm.trans hc3
  obtain ⟨c5, hc5, hl5⟩ := Cond.classLink_spec hown hlink e.platform hpl
  cases hc4.symm.trans hc5
  have hk0 : ∃ k, s.vm.classes[ce.cls]? = some k := by obtain ⟨k9, h9, -⟩ := Vm.findClass_spec hcl; exact ⟨k9, h9⟩
  have hobj : ∀ k, ce.vm ≠ .statics k := fun k h => by rw [hv] at h; cases h
  have hcellT : ((T.setTop (F0 m pc ls rest)).pushFrame (.throwing q)).heap[q]? = some ce := by
    show T.heap[q]? = some ce
    rw [hT]; exact hcell
  obtain ⟨vm', hW', hf⟩ := mt_search (e := e) (s₀ := s) (f := F0 m pc ls rest) (a := q) (cell := ce) hobj hk0 x suf hx h0 hl5 hasg pre ((T.setTop (F0 m pc ls rest)).pushFrame (.throwing q)) X.warmed hcellT (fun z hz => by
    rcases hpass z hz with h | ⟨hz0, nm, hn1, hn2⟩
    · exact Or.inl h
    · obtain ⟨c6, hc6, hl6⟩ := Cond.classLink_spec hown hn1 e.platform hpl
      obtain ⟨a8, b8, h1, h2, h3⟩ := hn2
      cases Option.some.inj (h1.symm.trans hcl)
      cases Option.some.inj (h2.symm.trans hc6)
      exact Or.inr ⟨hz0, _, hl6, h3⟩)
  rw [← hsplit] at hf
  have X' := X.noted hW'
  obtain ⟨t, a1, b1⟩ := kk (T.setVm vm') hT X'
  refine ⟨t, ?_, b1⟩
  obtain ⟨hgo, hw⟩ := X.here.throwing (g := F0 m pc ls rest) q
  refine Steps.head hgo hw ?_
  have hmeth' : ((T.setTop (F0 m pc ls rest)).pushFrame (.throwing q)).vm.method? (F0 m pc ls rest).method = some meth := X.method'
  rw [stepThread_throwing (frames_entered X.here.top _), (mt_lands (S := (T.setTop (F0 m pc ls rest)).pushFrame (.throwing q)) hmeth' X.code hf).1]
  obtain ⟨g₀, hg⟩ := Option.isSome_iff_exists.mp X.here.top
  obtain ⟨r, hr⟩ := State.topJava?_eq_some.mp hg
  have hr' : (T.setVm vm').frames = .java g₀ :: r := hr
  rw [State.setTop_of_frames _ hr'] at a1
  have hset : ∀ (u : State) (v : Vm) (F G : List Frame), ((u.setFrames F).setVm v).setFrames G = (u.setVm v).setFrames G := fun u v F G => by
    have h1 : (u.setFrames F).setVm v = (u.setVm v).setFrames F := rfl
    rw [h1, State.setFrames_setFrames]
  rw [hr, List.tail_cons, State.pushFrame, hset, State.setTop_of_frames _ hr, hset]
  exact a1
end MTX
def mt_prs : List (String × String) := [("java/lang/IllegalStateException", "java/lang/IllegalArgumentException"), ("java/lang/IndexOutOfBoundsException", "java/lang/IllegalArgumentException"), ("java/lang/UnsupportedOperationException", "java/lang/IndexOutOfBoundsException")]
/-- a contract that throws nothing is a plain one -/
theorem mt_ofX {l : Launch} {y : MethodName} {ws : List Cond} {rm : Room} {Pc : Array Value → State → Prop} {Qc : Array Value → State → Outcome → State → Prop} {mc ms : Nat} {free : Addr → Prop} (h : vx_Met l y ws rm Pc Qc (fun _ _ _ => False) mc ms free) : Met l y ws rm Pc Qc mc ms free := by
  intro p e ha hc hk s m args below hf happ hP hK
  obtain ⟨k, o, h1, h2, h3, hQ⟩ := h p e ha hc hk s m args below hf happ hP hK
  refine ⟨k, o, h1, h2, h3, ?_⟩
  rcases hQ with hQ | ⟨q, -, E, ce, L, hx, -⟩
  · exact hQ
  · exact hx.elim
/-- beside what a throw takes: which classes' objects a catch of another doesn't take -/
def mt_H (A : Nat → Prop) (U : State) : Prop := mt_T A U ∧ ∀ q ∈ mt_prs, va_Nc q.1 q.2 U
theorem mt_H.call {A : Nat → Prop} {U : State} (g : JFrame) (mk : MethodId) (a : Array Value) (h : mt_H A U) : mt_H A (U.calling g mk a) := ⟨h.1.call g mk a, fun q hq => va_Nc.moved (u := U) (U := U.calling g mk a) (Vm.Alike.refl U.vm) (h.2 q hq)⟩
theorem mt_H.to {A A' : Nat → Prop} {s U : State} {H : Heap} {locs : List Loc} (h : mt_H A s) (hS : va_S A s.heap H locs) (hU : U.heap = H) (hW : s.WarmedH U.vm) (hs : ∀ q, A' q → A q) : mt_H A' U := ⟨h.1.to hS hU hW hs, fun q hq => va_Nc.moved hW.alike (h.2 q hq)⟩
def mt_Y (D : va_G) (cZ cI cL : ClassId) (sz : Nat) (ws : va_W) (U : State) : Prop := mt_S D cZ cI cL sz ws U ∧ mt_H (va_A ws sz) U
theorem mt_blY {D : va_G} {cZ cI cL : ClassId} {sz : Nat} {ws : va_W} {av : List Value} : FrameBlind (va_Pc av (mt_Y D cZ cI cL sz ws)) := fun a _ g mk z => ⟨z.1, ⟨z.2.1.1, z.2.1.2.1, z.2.1.2.2.1.call g mk a, z.2.1.2.2.2⟩, z.2.2.call g mk a⟩
theorem mt_vZ {s : State} {H : Heap} {locs : List Loc} {D : va_G} {cZ cI cL : ClassId} {wc : va_W} {As : List Value} {b : Nat} (ci : Nat) {q : vw_C} {fs : List Value} {A : Nat → Prop} (hC : mt_C D cZ cI cL s) (hP : va_P D vwCl wc H) (hD : va_D A wc) (hT : mt_T A s) (hS : va_S A s.heap H locs) (hF : ∀ q, va_A wc H.size q → A q) (hc : vwCl[ci]? = some q) (he : wc[0]? = some (b, .inr (ci, fs))) : PreV s H q.1 b (va_Pc (.ref b :: As) (mt_Z D cZ cI cL H.size wc)) As :=
  ⟨mt_blZ, va_recv hC.1 hP hc he, fun _ hU hW => ⟨rfl, ⟨by rw [hU], by rw [hU]; exact hP, hC.warm hW, hD.weaken (fun _ _ _ _ => trivial)⟩, hT.to hS hU hW hF⟩⟩
theorem mt_pY {s : State} {H : Heap} {locs : List Loc} {D : va_G} {cZ cI cL : ClassId} {wc : va_W} {As : List Value} {A : Nat → Prop} (hC : mt_C D cZ cI cL s) (hP : va_P D vwCl wc H) (hD : va_D A wc) (hT : mt_H A s) (hS : va_S A s.heap H locs) (hF : ∀ q, va_A wc H.size q → A q) : PreS s H (va_Pc As (mt_Y D cZ cI cL H.size wc)) As :=
  ⟨mt_blY, fun _ hU hW => ⟨rfl, ⟨by rw [hU], by rw [hU]; exact hP, hC.warm hW, hD.weaken (fun _ _ _ _ => trivial)⟩, hT.to hS hU hW hF⟩⟩
section MTH
variable {p : Program} {l : Launch} {e : Env} {R : Room} {s : State} {m : MethodId} {args : Array Value} {below : List Frame} {meth : Method} {c : Code} {H H0 : Heap} {locs : List Loc} {cells slots mc ms pc : Nat} {Q : State → Prop} {ls : Array Slot} {st0 rest : List Value} {a : Array Value} {D : va_G} {A : Nat → Prop} {ws wc wr w1 : va_W}
/-- a call of a method that may throw: e0 is the thrown class's name, or "" -/
theorem mt_callXi {r0 : Int32} {e0 : String} (hP : va_P D vwCl ws H) (hD : va_D A ws) (hS : va_S A H0 H locs) (hA : ∀ q, H0.size ≤ q → A q) (isC isR : List Nat) (hC : isC.map (fun i => ws[i]?) = wc.map some) (hR : isR.map (fun i => ws[i]?) = wr.map some) (hn : va_nd isR = true) (hdis : ∀ i ∈ isR, i ∉ isC)
    (hr : vx_Run p l e R s m args below meth c H locs cells slots mc ms (F0 m pc ls st0) rest (va_Qi (fun (r : Int32) (_ : Unit) => e0 = "" ∧ r = r0) (fun _ t => va_P D vwCl w1 t.heap ∧ va_D (va_A wc H.size) w1) (va_A wc H.size) a) (vx_X (fun (_ : Unit) => True) (fun E _ t => e0 = E ∧ E ≠ "" ∧ va_P D vwCl w1 t.heap ∧ va_D (va_A wc H.size) w1) (va_A wc H.size)) (va_A wc H.size))
    (kx : ∀ (ce : Cell) (q9 : Addr), ¬ e0 = "" → ∀ (H1 : Heap) (locs1 : List Loc), va_P D vwCl (wr ++ w1) H1 → va_D A (wr ++ w1) → va_S A H0 H1 locs1 → H1[q9]? = some ce → ce.vm = .none → s.vm.findClass e0 = some ce.cls → vx_W p l e R s m args below meth c H1 locs1 (cells + mc) (slots + ms) Q (F0 m pc ls rest) q9)
    (kk : e0 = "" → ∀ (H1 : Heap) (locs1 : List Loc), va_P D vwCl (wr ++ w1) H1 → va_D A (wr ++ w1) → va_S A H0 H1 locs1 → W p l e R s m args below meth c H1 locs1 (cells + mc) (slots + ms) Q (F0 m (pc + 3) ls (.int r0 :: rest))) : W p l e R s m args below meth c H locs cells slots Q (F0 m pc ls st0) := by
  have hF := va_free (wc := wc) hD hS hA isC hC
  refine vx_calli hr hS (fun q _ h => hF q h) hF (fun q _ h => hF q h) (fun E ce q9 u t H1 locs1 ht hvm hp hB hz hk hS1 hce hcv hcl => ?_) (fun r u t H1 locs1 ht hvm hp hB hz hk hS1 => ?_)
  · obtain ⟨hE, hne, hP1, hD1⟩ := hB
    subst hE
    rw [ht] at hP1
    obtain ⟨hP2, hD2⟩ := va_join (wr := wr) (w1 := w1) hP hD isC isR hC hR hn hdis hk hF hP1 hD1
    exact kx ce q9 hne H1 locs1 hP2 hD2 hS1 hce hcv hcl
  · obtain ⟨he, hr0⟩ := hp
    subst hr0
    obtain ⟨hP1, hD1⟩ := hB
    rw [ht] at hP1
    obtain ⟨hP2, hD2⟩ := va_join (wr := wr) (w1 := w1) hP hD isC isR hC hR hn hdis hk hF hP1 hD1
    exact kk he H1 locs1 hP2 hD2 hS1
theorem mt_callXv {e0 : String} (hP : va_P D vwCl ws H) (hD : va_D A ws) (hS : va_S A H0 H locs) (hA : ∀ q, H0.size ≤ q → A q) (isC isR : List Nat) (hC : isC.map (fun i => ws[i]?) = wc.map some) (hR : isR.map (fun i => ws[i]?) = wr.map some) (hn : va_nd isR = true) (hdis : ∀ i ∈ isR, i ∉ isC)
    (hr : vx_Run p l e R s m args below meth c H locs cells slots mc ms (F0 m pc ls st0) rest (va_Qv (fun (_ : Unit) => e0 = "") (fun _ t => va_P D vwCl w1 t.heap ∧ va_D (va_A wc H.size) w1) (va_A wc H.size) a) (vx_X (fun (_ : Unit) => True) (fun E _ t => e0 = E ∧ E ≠ "" ∧ va_P D vwCl w1 t.heap ∧ va_D (va_A wc H.size) w1) (va_A wc H.size)) (va_A wc H.size))
    (kx : ∀ (ce : Cell) (q9 : Addr), ¬ e0 = "" → ∀ (H1 : Heap) (locs1 : List Loc), va_P D vwCl (wr ++ w1) H1 → va_D A (wr ++ w1) → va_S A H0 H1 locs1 → H1[q9]? = some ce → ce.vm = .none → s.vm.findClass e0 = some ce.cls → vx_W p l e R s m args below meth c H1 locs1 (cells + mc) (slots + ms) Q (F0 m pc ls rest) q9)
    (kk : e0 = "" → ∀ (H1 : Heap) (locs1 : List Loc), va_P D vwCl (wr ++ w1) H1 → va_D A (wr ++ w1) → va_S A H0 H1 locs1 → W p l e R s m args below meth c H1 locs1 (cells + mc) (slots + ms) Q (F0 m (pc + 3) ls rest)) : W p l e R s m args below meth c H locs cells slots Q (F0 m pc ls st0) := by
  have hF := va_free (wc := wc) hD hS hA isC hC
  refine vx_callv hr hS (fun q _ h => hF q h) hF (fun q _ h => hF q h) (fun E ce q9 u t H1 locs1 ht hvm hp hB hz hk hS1 hce hcv hcl => ?_) (fun u t H1 locs1 ht hvm hp hB hz hk hS1 => ?_)
  · obtain ⟨hE, hne, hP1, hD1⟩ := hB
    subst hE
    rw [ht] at hP1
    obtain ⟨hP2, hD2⟩ := va_join (wr := wr) (w1 := w1) hP hD isC isR hC hR hn hdis hk hF hP1 hD1
    exact kx ce q9 hne H1 locs1 hP2 hD2 hS1 hce hcv hcl
  · obtain ⟨hP1, hD1⟩ := hB
    rw [ht] at hP1
    obtain ⟨hP2, hD2⟩ := va_join (wr := wr) (w1 := w1) hP hD isC isR hC hR hn hdis hk hF hP1 hD1
    exact kk hp H1 locs1 hP2 hD2 hS1
end MTH
