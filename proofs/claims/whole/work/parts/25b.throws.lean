/-! my own rows for a throw: its words, the throwing row of the class, a call of it, the catch -/
def xnames : List String := ["java/lang/IndexOutOfBoundsException", "java/lang/RuntimeException", "java/lang/Exception"]
def xown : List Cond := Bundle.ownAtoms RX2 117 RJx00060 xnames
def xfour : List Cond := [.isRef (.static Bundle.tN "UNASSIGNED_STACK" Bundle.steD), .isRef (.static Bundle.tN "SUPPRESSED_SENTINEL" Bundle.listD), .laysStatic Bundle.tN "UNASSIGNED_STACK" Bundle.steD, .laysStatic Bundle.tN "SUPPRESSED_SENTINEL" Bundle.listD]
def xws : List Cond := .classLink RL 13 RJx00060 :: xown
def xtx : String := "a set's places are 0 to 93"
theorem xws_all : xws.all (fun w => (w.onTables && w.keepsFace) || decide (w ∈ xfour)) = true := by decide +kernel
theorem xws_split {w : Cond} (hw : w ∈ xws) : (w.onTables = true ∧ w.keepsFace = true) ∨ w ∈ xfour := by
  have h := List.all_eq_true.mp xws_all w hw
  simpa only [Bool.or_eq_true, Bool.and_eq_true, decide_eq_true_eq] using h
theorem xs_lays {n d : String} {a a' : Array Value} {s U : State} (hv : s.vm.Alike U.vm) (hH : ∀ q : Nat, q < s.heap.size → U.heap[q]? = s.heap[q]?) (h : (Cond.laysStatic Bundle.tN n d).before a s = true) : (Cond.laysStatic Bundle.tN n d).before a' U = true := by
  obtain ⟨c, k, i, f, q, cell, h1, h2, h3, h4, h5, h6, h7, h8, h9⟩ := Cond.laysStatic_spec h
  obtain ⟨k', hi', he⟩ := State.fieldFound?_setVm hv h2
  have h5' : U.heap[q]? = some cell := by rw [hH q (Array.getElem?_eq_some_iff.mp h5).1]; exact h5
  show (Cond.laysStatic Bundle.tN n d).holds a' U none U [] = true
  exact Cond.laysStatic_of (by rw [hv.findClass]; exact h1) hi' h3 (by rw [he]; exact h4) h5' h6 h7 h8 (by rw [he]; exact h9)
theorem xs_ref {n d : String} {a a' : Array Value} {s U : State} (hv : s.vm.Alike U.vm) (hH : ∀ q : Nat, q < s.heap.size → U.heap[q]? = s.heap[q]?) (hl : (Cond.laysStatic Bundle.tN n d).before a s = true) (hi : (Cond.initialized Bundle.tN).before a s = true) (h : (Cond.isRef (.static Bundle.tN n d)).before a s = true) : (Cond.isRef (.static Bundle.tN n d)).before a' U = true := by
  have h0 : va_Zq Bundle.tN n d (fun _ => False) s s.heap := va_Zqof hl hi h (fun _ _ q => q)
  have h1 : va_Zq Bundle.tN n d (fun _ => False) U U.heap := va_Zq.kept (va_Zq.moved hv h0) (fun q hq _ => hH q hq)
  have key : ∀ v : Value, v.isRef = true → va_Z Bundle.tN n d v (fun _ => False) U U.heap → (Cond.isRef (.static Bundle.tN n d)).before a' U = true := by
    intro v hv9 hz
    obtain ⟨cf, kf, fi, f, q, cell, e1, e2, e3, e4, e5, e6, e7, -⟩ := hz
    have he : (Term.static Bundle.tN n d).eval a' U none [] U = some v := by
      simp [Term.eval, State.fieldNamed?, e1, e2, e4, e5, e6, e7]
    simp only [Cond.before, Cond.holds, Cond.value, he]
    cases v <;> simp_all [Value.isRef]
  rcases h1 with q | ⟨t, q⟩
  · exact key _ rfl q
  · exact key _ rfl q
/-- what a throw stands on: its words, and where the message's constant lies -/
def XS (sa : Nat) (U : State) : Prop := (∀ w ∈ xws, w.before #[] U = true) ∧ vk_R RX2 115 xtx sa U
theorem XS_words {sa : Nat} {s U : State} (h : XS sa s) (hW : s.WarmedH U.vm) (hH : ∀ q : Nat, q < s.heap.size → U.heap[q]? = s.heap[q]?) (a' : Array Value) : ∀ w ∈ xws, w.before a' U = true := by
  intro w hw
  rcases xws_split hw with hg | hf
  · have h1 : w.before #[] (s.setVm U.vm) = true := Cond.before_shiftedFace (State.Shifted.of_warmed hW) w hg.2 (h.1 w hw)
    exact va_tabs hg.1 (show (s.setVm U.vm).vm = U.vm from rfl) h1
  · have hi := h.1 (.initialized Bundle.tN) (by decide +kernel)
    have l1 := h.1 (.laysStatic Bundle.tN "UNASSIGNED_STACK" Bundle.steD) (by decide +kernel)
    have l2 := h.1 (.laysStatic Bundle.tN "SUPPRESSED_SENTINEL" Bundle.listD) (by decide +kernel)
    have h0 := h.1 w hw
    simp only [xfour, List.mem_cons, List.not_mem_nil, or_false] at hf
    rcases hf with rfl | rfl | rfl | rfl
    · exact xs_ref hW.alike hH l1 hi h0
    · exact xs_ref hW.alike hH l2 hi h0
    · exact xs_lays hW.alike hH h0
    · exact xs_lays hW.alike hH h0
theorem XS_move {sa : Nat} {s U : State} (h : XS sa s) (hW : s.WarmedH U.vm) (hH : ∀ q : Nat, q < s.heap.size → U.heap[q]? = s.heap[q]?) : XS sa U := ⟨XS_words h hW hH #[], vk_R.warm hW h.2⟩
/-- how the throwing row ends: one new cell, of the exception's class -/
def xr_Q (_ : Array Value) (st : State) (o : Outcome) (t : State) : Prop := ∃ (q : Addr) (ce : Cell), o = .threw q ∧ t.heap[q]? = some ce ∧ ce.vm = .none ∧ st.vm.findClass RJx00060 = some ce.cls ∧ st.WarmedH t.vm ∧ st.sameButNew ({ t with vm := st.vm } : State) [] 1 6
def xr_P (sa : Nat) (av : List Value) (a : Array Value) (U : State) : Prop := a = av.toArray ∧ XS sa U
abbrev xr_rm : Room := { frames := 7, cells := 1, slots := 6, locals := 95 }
def xr_E (below : List Frame) (a : Array Value) (s : State) : State → Prop := fun t => ∃ o, t.status = .running ∧ Ended t below o ∧ xr_Q a s o t
set_option maxHeartbeats 4000000 in
/-- new; dup; ldc; invokespecial; athrow -/
theorem xr_throw {p : Program} {l : Launch} {e : Env} {s : State} {m : MethodId} {args : Array Value} {below : List Frame} {meth : Method} {c : Code} {sa : Nat} (hx : p.tables.exec = Jvm.exec) (hb : c.code = cX2_row) (hl : l.stackTraces = false)
    (hown : s.vm.findClass RX2 = some m.cls) (hts : ∀ w ∈ wsX2_row, w.before args s = true) (hXS : XS sa s) (hlocks : meth.locks = false) (htab : c.exceptionTable.toList = []) {ls : Array Slot} (hls : ls.size = c.maxLocals) :
    W p l e xr_rm s m args below meth c s.heap [] 0 0 (xr_E below args s) (F0 m 21 ls []) := by
  intro T hT X
  have htr : e.platform.stackTraces = false := by rw [X.admits.platform]; exact hl
  have hat : ∀ w ∈ xown, w.before args s = true := fun w hw => XS_words hXS (State.WarmedH.refl s) (fun _ _ => rfl) args w (List.mem_cons_of_mem _ hw)
  have hk := hts (.classLink RX2 113 RJx00060) (by decide +kernel)
  have hins := hts (.instantiable RJx00060 6) (by decide +kernel)
  have hini := hts (.initialized RJx00060) (by decide +kernel)
  obtain ⟨vm₁, cX, kX, hfX, hkX, -, -, X₁, st1⟩ := X.newCold hx hown hk hins hini (g := F0 m 21 ls []) rfl (by rw [hb]; exact dX2_row_21) (by decide) (by decide)
  generalize hT1 : (T.setVm vm₁).pushCell { cls := cX, slots := kX.instanceTypes.map defaultValue, vm := .none } = T1 at X₁ st1
  have hcA : T1.heap[T.heap.size]? = some (freshCell cX kX) := by rw [← hT1]; exact State.heap_pushCell_size _ _
  have d24 : decode c.code 24 = .ok (.dup, 1) := by rw [hb]; exact dX2_row_24
  obtain ⟨U, hgo, hrun, hend, hW, hsame, ce, hce, hO⟩ := X₁.ctorThrowS hx htr (own := RX2) (cls := RJx00060) (names := xnames) (ic := 117) hown (by decide +kernel) (by decide +kernel) hat (fun z hz => nomatch hz) hfX hkX hcA (by rw [hT]; exact Nat.le_refl _) (msg := .ref sa) rfl
    (g := { method := m, pc := 27, locals := ls, stack := [.ref sa, .ref T.heap.size, .ref T.heap.size], locked := none }) rfl hls rfl rfl (rest := []) rfl (by rw [hb]; exact dX2_row_27) (by rw [hb]; exact dX2_row_30) (by rw [htab]; exact fun z hz => nomatch hz) (by decide) (Nat.le_of_ble_eq_true rfl) hlocks
  refine ⟨U, ?_, .threw T.heap.size, hrun, hend, T.heap.size, ce, rfl, hce, hO.vm, hO.cls, hW, hsame⟩
  refine st1 _ ?_
  show Steps p.tables e below (T1.setTop { method := m, pc := 24, locals := ls, stack := [.ref T.heap.size], locked := none }) _
  jvm_step X₁.here [X₁.here.top, hx, d24, Value.category]
  exact X₁.ldcString hx (own := RX2) (text := xtx) (index := 115) (a := sa) hown hXS.2.1 hXS.2.2 (g := { method := m, pc := 25, locals := ls, stack := [.ref T.heap.size, .ref T.heap.size], locked := none }) rfl (by rw [hb]; exact dX2_row_25) _ hgo
set_option maxHeartbeats 4000000 in
theorem KX2_rowX (l : Launch) (hl : l.stackTraces = false) (sa h : Nat) (v0 v1 : Int32) (h1 : ¬ v0 < 0) (h2 : v0 < 3) (h3 : v1 < 0 ∨ ¬ v1 < 94) : MetFree l yX2_row (headSpec wsX2_row xr_rm) (xr_P sa [.ref h, .int v0, .int v1]) (fun _ _ _ _ _ => True) xr_Q := by
  refine MetFree.of_bodyS (code := cX2_row) (maxLocals := 3) (ret := some .int) (by decide) ?_ ?_
  · intro args s m hp hn
    obtain ⟨meth, c, e1, e2, e3, e4, e5, e6, -, -⟩ := Cond.code_spec hn (atoms_spec (ws := wsX2_row) hp _ List.mem_cons_self)
    exact ⟨meth, c, e1, e2, e3, e4, e5, e6⟩
  · intro p e s m args below meth c s₁ B hml hP _
    obtain ⟨rfl, hXS⟩ := hP
    have hx := B.exec
    have hb := B.bytes
    have hown : s.vm.findClass RX2 = some m.cls := findClass_of_methodNamed B.named
    have hts := atoms_spec (ws := wsX2_row) B.pre
    have X₀ : Stand p l e xr_rm s m ([.ref h, .int v0, .int v1] : List Value).toArray below meth c s₁ [] 0 0 := Stand.of_body B
    have hh0 : s₁.heap = s.heap := by rw [B.state]; rfl
    have htab : c.exceptionTable.toList = [] := by
      obtain ⟨meth', c', m1, m2, -, -, -, -, hem, -⟩ := Cond.code_spec B.named (hts _ List.mem_cons_self)
      cases Option.some.inj (m1.symm.trans B.method)
      cases Option.some.inj (m2.symm.trans X₀.code)
      simpa using hem
    have K : W p l e xr_rm s m ([.ref h, .int v0, .int v1] : List Value).toArray below meth c s.heap [] 0 0 (xr_E below ([.ref h, .int v0, .int v1] : List Value).toArray s) (entryFrame m ([.ref h, .int v0, .int v1] : List Value).toArray 3) := by
      have hl0 := lv_entry ([.ref h, .int v0, .int v1] : List Value) (n := 3) (Nat.le_of_ble_eq_true rfl)
      rw [lg_entry_eq]
      generalize (lg_sl ([.ref h, .int v0, .int v1] : List Value) ++ List.replicate (3 - (lg_sl ([.ref h, .int v0, .int v1] : List Value)).length) Slot.unset).toArray = ls at hl0 ⊢
      have hl : lv_has ls 3 [(0, .ref h), (1, .int v0), (2, .int v1)] := hl0
      have thr := xr_throw (p := p) (e := e) (below := below) (m := m) hx hb ‹l.stackTraces = false› hown hts hXS B.notSynchronized htab (ls := ls) (hl.1.trans hml.symm)
      refine lv_iload_n hx hb dX2_row_0 rfl (lv_at hl 1 rfl) ?_
      refine lv_if_lt (tgt := 9) hx hb dX2_row_1 (by decide) (fun c1 => absurd c1 h1) (fun c1 => ?_)
      refine lv_iload_n hx hb dX2_row_4 rfl (lv_at hl 1 rfl) ?_
      refine lv_iconst (v := 3) hx hb dX2_row_5 (by decide) ?_
      refine lv_icmp_lt (tgt := 11) hx hb dX2_row_6 (by decide) (fun c2 => ?_) (fun c2 => absurd h2 c2)
      refine lv_iload_n hx hb dX2_row_11 rfl (lv_at hl 2 rfl) ?_
      refine lv_if_lt (tgt := 21) hx hb dX2_row_12 (by decide) (fun c3 => thr) (fun c3 => ?_)
      refine lv_iload_n hx hb dX2_row_15 rfl (lv_at hl 2 rfl) ?_
      refine lv_bipush (v := 94) hx hb dX2_row_16 (by decide) ?_
      refine lv_icmp_lt (tgt := 31) hx hb dX2_row_18 (by decide) (fun c4 => absurd (h3.resolve_left c3) (fun q => q c4)) (fun c4 => thr)
    obtain ⟨t, a1, o, b1, b2, b3⟩ := K s₁ hh0 X₀
    exact ⟨t, o, a1, b1, b2, b3⟩
