/-! a call of the throwing row out of the law's row, and the catch there -/
theorem xr_kept {s U : State} {k n : Nat} (h : s.sameButNew U [] k n) : s.heap.size ≤ U.heap.size ∧ ∀ q : Nat, q < s.heap.size → U.heap[q]? = s.heap[q]? := by
  obtain ⟨-, h2, -, -, -, h6⟩ := h
  refine ⟨h2, fun q hq => ?_⟩
  obtain ⟨c9, e1, e2, -, e4⟩ := h6 q _ (Array.getElem?_eq_getElem hq)
  have hs : c9.slots = (s.heap[q]).slots := Array.ext_getElem? fun i => e4 i (fun z => nomatch z)
  rw [hs] at e2
  rw [e1, e2, Array.getElem?_eq_getElem hq]
section XRC
variable {p : Program} {l : Launch} {e : Env} {R : Room} {s : State} {m : MethodId} {args : Array Value} {below : List Frame} {meth : Method} {c : Code} {T : State} {locs : List Loc} {cells slots : Nat}
set_option maxHeartbeats 4000000 in
theorem xr_call (X : Stand p l e R s m args below meth c T locs cells slots) (hx : p.tables.exec = Jvm.exec) {sa h : Nat} {v0 v1 : Int32} (hM : MetFree l yX2_row (headSpec wsX2_row xr_rm) (xr_P sa [.ref h, .int v0, .int v1]) (fun _ _ _ _ _ => True) xr_Q)
    (hown : s.vm.findClass RL = some m.cls) (hts : ∀ w ∈ wsL_row, w.before args s = true) (hXS : XS sa s) (hHs : ∀ q : Nat, q < s.heap.size → T.heap[q]? = s.heap[q]?) {cB : Cell} (hcell : T.heap[h]? = some cB) (hobj : cB.vm.isStatics = false) (hcls : s.vm.findClass RX2 = some cB.cls)
    {g : JFrame} (hg : g.method = m) (hsize : g.locals.size = c.maxLocals) {rest : List Value} (hstack : g.stack = [.int v1, .int v0] ++ .ref h :: rest) (hroom : 2 * g.monitorRoom + (rest.map fun v => v.category).sum ≤ 8) (hdg : decode c.code g.pc = .ok (.invokevirtual 7, 3))
    (hfr : 8 ≤ R.frames) (hlo : 117 ≤ R.locals) (hce : cells + 1 ≤ R.cells) (hsl : slots + 6 ≤ R.slots) :
    ∃ (q : Addr) (T' : State) (ce : Cell), Stand p l e R s m args below meth c T' locs (cells + 1) (slots + 6) ∧ T'.heap[q]? = some ce ∧ ce.vm = .none ∧ s.vm.findClass RJx00060 = some ce.cls ∧ T.heap.size ≤ T'.heap.size ∧ (∀ z : Nat, z < T.heap.size → T'.heap[z]? = T.heap[z]?) ∧
      Steps p.tables e below (T.setTop g) ((T'.setTop { g with stack := rest }).pushFrame (.throwing q)) := by
  have hcode := hts (.code yX2_row cX2_row 3 (some .int)) (by decide +kernel)
  obtain ⟨mk, methM, hnamed, hmethM, hstM, habM⟩ := Cond.instanceMethod_spec (hts (.instanceMethod yX2_row) (by decide +kernel))
  obtain ⟨methM', cM, hmM', hcM, -, hmlM, -, -, -, hsigM⟩ := Cond.code_spec hnamed hcode
  cases Option.some.inj (hmethM.symm.trans hmM')
  obtain ⟨c2, r2, m2, q1, q2, q3, q4, kP, hkP, hkPi⟩ := Cond.selects_spec (hts (.selects RX2 yX2_row yX2_row) (by decide +kernel))
  have hy : yX2_row.cls ≠ "java/lang/invoke/MethodHandle" ∧ yX2_row.cls ≠ "java/lang/invoke/VarHandle" := by decide
  cases hcls.symm.trans q1
  cases (State.methodFound?_of_named hnamed hy).symm.trans q2
  cases hnamed.symm.trans q3
  have hsel : selectMethod e.platform s.vm cB.cls mk = .method mk := by rw [Launch.admits_selectMethod X.admits]; exact q4
  have hpar : methM.sig.parameters.length = 2 := by
    have h9 : (parseMethodDescriptor yX2_row.desc).map (fun d => d.parameters.length) = some 2 := by decide +kernel
    rw [hsigM] at h9
    exact Option.some.inj h9
  obtain ⟨vm₁, X₁, step₁⟩ := X.invokevirtual hx hown (hts (.methodLink RL 7 yX2_row) (by decide +kernel)) hnamed hmethM hstM hkP hkPi hy (a := h) (cell := cB) hcell (fun z hz => by rw [hz] at hobj; cases hobj) hsel hmethM habM hkP hkPi (g := g) hg (argsL := [.int v0, .int v1]) (rest := rest) hpar.symm hstack hdg
  have hin : GoodIn wsL_row wsX2_row := ggL_row_X2_row
  have hpay := pay_in hts hin
  have hini : (Cond.initialized RX2).before args s = true := hts _ (by decide +kernel)
  have hn1 : (T.setVm vm₁).methodNamed? yX2_row = some mk := X₁.named hnamed
  obtain ⟨kY, hkY, -⟩ := className_of_methodNamed hn1
  have hini1 : (Cond.initialized yX2_row.cls).before args (T.setVm vm₁) = true := word_at X₁.warmed (Or.inl rfl) hini
  have hiY : kY.init = .initialized := Cond.initialized_spec (findClass_of_methodNamed hn1) hkY hini1
  have hmT : (T.setVm vm₁).vm.method? mk = some methM := by
    have h9 := X₁.warmed.alike.method? mk
    rw [h9]; exact hmethM
  have hAt : At (T.setVm vm₁) g.method c below := by rw [hg]; exact X₁.here
  have hpre1 : (headSpec wsX2_row xr_rm).pre.before (Value.ref h :: [.int v0, .int v1]).toArray (T.setVm vm₁) = true := atoms_intro fun w hw => hpay w hw _ _ X₁.warmed
  have happ : (headSpec wsX2_row xr_rm).appliesLoose yX2_row e.platform ((T.setVm vm₁).calling { g with stack := rest } mk (Value.ref h :: [.int v0, .int v1]).toArray) = true :=
    Spec.appliesLoose_calling (g := { g with stack := rest }) hAt hdg hn1 hkY hiY
      (X₁.room_calling (g := { g with stack := rest }) (R' := xr_rm) hsize hmT hcM hfr (by
        have h8 : 2 * ({ g with stack := rest } : JFrame).monitorRoom + (rest.map fun v => v.category).sum ≤ 8 := hroom
        rw [hmlM]
        show 2 * ({ g with stack := rest } : JFrame).monitorRoom + (rest.map fun v => v.category).sum + (3 + 11) + 95 ≤ R.locals
        omega) hce hsl) hpre1
  have hXS1 : XS sa ((T.setVm vm₁).calling { g with stack := rest } mk (Value.ref h :: [.int v0, .int v1]).toArray) := by
    exact XS_move (XS_move hXS (U := T.setVm vm₁) X₁.warmed hHs) (State.WarmedH.refl _) (fun _ _ => rfl)
  obtain ⟨mid, hmid⟩ := hAt.above
  have hfrm : ((T.setVm vm₁).setTop { g with stack := rest }).frames = (.java { g with stack := rest } :: mid) ++ below := by rw [State.frames_setTop' _ hAt.top, hmid]; rfl
  obtain ⟨o, s₂, hsteps, -, hend, q, ce, rfl, hcq, hvq, hfq, hWq, hsq⟩ := Steps.callFree hM p X.admits X.cas X.clock (acts := []) hfrm happ ⟨rfl, hXS1⟩ trivial
  generalize hUU : T.setVm vm₁ = U at X₁ hAt hfrm hsteps hend hWq hsq hfq
  have hheap : U.heap = T.heap := by rw [← hUU]; rfl
  have hWq' : U.WarmedH s₂.vm := hWq
  rw [State.frames_setTop' _ hAt.top] at hend
  obtain ⟨g₀, hg0⟩ := Option.isSome_iff_exists.mp hAt.top
  obtain ⟨r, hr⟩ := State.topJava?_eq_some.mp hg0
  obtain ⟨T', hT'⟩ : ∃ z : State, z = ({ U with heap := s₂.heap, slotsUsed := s₂.slotsUsed } : State).setVm s₂.vm := ⟨_, rfl⟩
  have hr' : T'.frames = .java g₀ :: r := by rw [hT']; exact hr
  have hkU : U.sameButNew ({ U with heap := s₂.heap, slotsUsed := s₂.slotsUsed } : State) [] 1 6 := by
    obtain ⟨-, q2, q3, q4, q5, q6⟩ := id hsq
    refine ⟨?_, q2, q3, q4, q5, q6⟩
    obtain ⟨t, ht, -⟩ := State.frames_cons hr
    show ({ U with heap := s₂.heap, slotsUsed := s₂.slotsUsed } : State) = { U.setFrames U.frames with heap := s₂.heap, slotsUsed := s₂.slotsUsed }
    rw [State.setFrames_self ht]
  have hs₂ : s₂ = (T'.setTop { g with stack := rest }).pushFrame (.throwing q) := by
    have e3 : s₂ = ({ (U.calling { g with stack := rest } mk (Value.ref h :: [.int v0, .int v1]).toArray).setFrames s₂.frames with heap := s₂.heap, slotsUsed := s₂.slotsUsed } : State).setVm s₂.vm := by
      have e4 : s₂ = ({ s₂ with vm := (U.calling { g with stack := rest } mk (Value.ref h :: [.int v0, .int v1]).toArray).vm } : State).setVm s₂.vm := rfl
      have e5 := hsq.1
      have e6 : ({ s₂ with vm := (U.calling { g with stack := rest } mk (Value.ref h :: [.int v0, .int v1]).toArray).vm } : State) = { (U.calling { g with stack := rest } mk (Value.ref h :: [.int v0, .int v1]).toArray).setFrames s₂.frames with heap := s₂.heap, slotsUsed := s₂.slotsUsed } := e5
      rw [e6] at e4
      exact e4
    have hf₂ : s₂.frames = .throwing q :: .java { g with stack := rest } :: U.frames.tail := hend
    refine e3.trans ?_
    rw [hf₂, State.calling_eq hAt.top, State.setFrames_setFrames, State.pushFrame, State.frames_setTop _ hr', State.setTop_of_frames _ hr', State.setFrames_setFrames, hr, hT']
    rfl
  have X₂ : Stand p l e R s m args below meth c T' (locs ++ []) (cells + 1) (slots + 6) := by
    refine X₁.moved ?_ ?_ ?_ ?_ ?_ ?_
    · rw [hT']; exact (X₁.here.setHeapUsed s₂.heap s₂.slotsUsed).setVm hWq'.alike
    · rw [hT']; exact X₁.tail
    · rw [hT']; rfl
    · rw [hT']; rfl
    · rw [hT']; exact hWq'
    · rw [hT']; exact hkU
  rw [List.append_nil] at X₂
  obtain ⟨k1, k2⟩ := xr_kept hkU
  refine ⟨q, T', ce, X₂, by rw [hT']; exact hcq, hvq, ?_, ?_, ?_, ?_⟩
  · have h9 : U.vm.findClass RJx00060 = some ce.cls := hfq
    rw [X₁.warmed.alike.findClass] at h9
    exact h9
  · rw [hT', ← hheap]; exact k1
  · intro z hz
    rw [hT', ← hheap]; exact k2 z (by rw [hheap]; exact hz)
  · refine step₁ _ (fun acts => ?_)
    rw [hUU, doInvoke_state, ← hs₂]
    exact hsteps
set_option maxHeartbeats 4000000 in
/-- the exception is caught by the one row of the law's own table -/
theorem xr_caught (X : Stand p l e R s m args below meth c T locs cells slots) {q : Addr} {ce : Cell} (hcell : T.heap[q]? = some ce) (hvm : ce.vm = .none) (hown : s.vm.findClass RL = some m.cls) (hcl : s.vm.findClass RJx00060 = some ce.cls)
    (hlink : (Cond.classLink RL 13 RJx00060).before args s = true) (hcast : (Cond.castable RJx00060 RJx00060).before args s = true) (htab : c.exceptionTable.toList = [⟨0, 10, 13, 13⟩]) {g : JFrame} (hg : g.method = m) (hpc : g.pc = 5) :
    ∃ vm', Stand p l e R s m args below meth c (T.setVm vm') locs cells slots ∧ ∀ target, Steps p.tables e below ((T.setVm vm').setTop { g with pc := 13, stack := [.ref q] }) target → Steps p.tables e below ((T.setTop g).pushFrame (.throwing q)) target := by
  subst hg
  have hpl : e.platform.magicAccessors = ({} : Platform).magicAccessors := by rw [X.admits.platform]
  obtain ⟨c3, c4, hc3, hc4, hasg⟩ := Cond.castable_spec hcast
  cases Option.some.inj (hc3.symm.trans hcl)
  cases Option.some.inj (hc4.symm.trans hcl)
  obtain ⟨c5, hc5, hL⟩ := Cond.classLink_spec hown hlink e.platform hpl
  cases Option.some.inj (hc5.symm.trans hcl)
  obtain ⟨dk, _, _, kt, hd, _, _, _, _, hkt, _, hopen⟩ := hL.here
  have hW' : s.WarmedH (T.vm.noted g.method.cls 13 (.cls ce.cls)) := X.warmed.noted hd hopen (State.rightAt_cls hL)
  refine ⟨T.vm.noted g.method.cls 13 (.cls ce.cls), X.noted hW', fun target hrest => ?_⟩
  have hLT : ((T.setTop g).pushFrame (.throwing q)).vm.ClassLinks e.platform g.method.cls 13 ce.cls := by rw [Stand.throwing_vm]; exact X.warmed.classLinks hL
  have hcq : ((T.setTop g).pushFrame (.throwing q)).heap[q]? = some ce := by rw [Stand.throwing_heap]; exact hcell
  have hmq : ((T.setTop g).pushFrame (.throwing q)).vm.method? g.method = some meth := by rw [Stand.throwing_vm]; exact X.method'
  obtain ⟨kt1, hkt1, -⟩ := X.warmed.alike.2.2 _ _ hkt
  have hvq : ((T.setTop g).pushFrame (.throwing q)).vm = T.vm := Stand.throwing_vm T g q
  have has1 : T.vm.assignable ce.cls ce.cls = true := by rw [X.warmed.alike.assignable]; exact hasg
  generalize hS : (T.setTop g).pushFrame (.throwing q) = S at hLT hcq hmq hvq ⊢
  have hfind : ∀ (Q : Handler → Pre) (E : CtlPost) (d : Bool) (acts : List Action), wp (findHandler g q) Q E e d acts S ↔ Q (.found 13) d acts (S.setVm (S.vm.noted g.method.cls 13 (.cls ce.cls))) := by
    intro Q E d acts
    rw [W.findHandler_eq hmq X.code, htab]
    obtain ⟨ha, ht⟩ := (resolveClass_links e.toSetting hLT).op (op := VmOp.resolveClass g.method.cls 13) rfl
    have hal : S.vm.Alike (S.vm.noted g.method.cls 13 (.cls ce.cls)) := (Vm.Alike.refl S.vm).noted _ _ _
    rw [hvq] at hal ha ht ⊢
    obtain ⟨k1, hk1, -⟩ := hal.2.2 _ _ hkt1
    have has2 : (T.vm.noted g.method.cls 13 (.cls ce.cls)).assignable ce.cls ce.cls = true := by rw [hal.assignable]; exact has1
    simp [findHandler.go, hpc, ha, ht, hvq, hcq, hvm, hk1, has2, VmOp.dirties, VmOp.acts]
  have hstep : (stepThrowing e S q (.java g :: T.frames.tail)).Is ((S.setVm (S.vm.noted g.method.cls 13 (.cls ce.cls))).setFrames (.java { g with pc := 13, stack := [.ref q] } :: T.frames.tail)) [] := by
    simp only [stepThrowing, searchFrame, vmDo]
    generalize hr : Sem.go _ e false [] S = res
    obtain ⟨as, rfl, ha⟩ := Sem.eq_ok_of hr (a := Handler.found 13) (s' := S.setVm (S.vm.noted g.method.cls 13 (.cls ce.cls))) (acts' := []) (by simp [hfind _ _ _ _])
    exact ⟨rfl, ha⟩
  obtain ⟨hgo, hwi⟩ := X.here.throwing q (g := g)
  rw [← hS]
  refine Steps.head hgo hwi ?_
  rw [stepThread_throwing (frames_entered X.here.top _)]
  rw [hS, hstep.1, hvq]
  obtain ⟨g₀, hg0⟩ := Option.isSome_iff_exists.mp X.here.top
  obtain ⟨r, hr⟩ := State.topJava?_eq_some.mp hg0
  have hr' : (T.setVm (T.vm.noted g.method.cls 13 (.cls ce.cls))).frames = .java g₀ :: r := hr
  rw [State.setTop_of_frames _ hr'] at hrest
  rw [← hS, hr, List.tail_cons, State.pushFrame, State.setTop_of_frames _ hr, State.setFrames_setFrames]
  have e1 : ∀ (F G : List Frame) (v : Vm), ((T.setFrames F).setVm v).setFrames G = (T.setVm v).setFrames G := fun F G v => by
    rw [show (T.setFrames F).setVm v = (T.setVm v).setFrames F from rfl, State.setFrames_setFrames]
  rw [e1]
  exact hrest
end XRC
