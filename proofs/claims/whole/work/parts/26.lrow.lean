/-! the class's row where it returns, and the law's own row -/
def crow (a b : Int32) : Int32 := if a < 0 then -1 else if a < 3 then fX2_codeInSet a b else -1
def thr (a b : Int32) : Prop := ¬ a < 0 ∧ a < 3 ∧ (b < 0 ∨ ¬ b < 94)
theorem i32_lt3 {a : Int32} : a < 3 ↔ a ≤ 2 := by rw [Int32.lt_iff_toInt_lt, Int32.le_iff_toInt_le]; show a.toInt < 3 ↔ a.toInt ≤ 2; omega
theorem i32_lt94 {a : Int32} : a < 94 ↔ a ≤ 93 := by rw [Int32.lt_iff_toInt_lt, Int32.le_iff_toInt_le]; show a.toInt < 94 ↔ a.toInt ≤ 93; omega
theorem row_tab : ∀ j : Fin 3, ∀ k : Fin 94, fX2_codeInSet (Int32.ofNat j) (Int32.ofNat k) = fX3_placed (Int32.ofNat j) (Int32.ofNat k) := by decide +kernel
theorem i32_small {a : Int32} {n : Nat} (hn : n < 2147483648) (h0 : ¬ a < 0) (h1 : a < Int32.ofNat n) : ∃ k : Fin n, a = Int32.ofNat k := by
  rw [Int32.lt_iff_toInt_lt] at h0 h1
  have h2 : (Int32.ofNat n).toInt = n := Int32.toInt_ofNat_of_lt (by omega)
  rw [h2] at h1
  have h3 : (0 : Int32).toInt = 0 := rfl
  rw [h3] at h0
  refine ⟨⟨a.toInt.toNat, by omega⟩, ?_⟩
  apply Int32.toInt_inj.mp
  rw [Int32.toInt_ofNat_of_lt (by show a.toInt.toNat < _; omega)]
  show a.toInt = (a.toInt.toNat : Int)
  omega
theorem row_eq {a b : Int32} (h1 : ¬ a < 0) (h2 : a < 3) (h3 : ¬ b < 0) (h4 : b < 94) : fX2_codeInSet a b = fX3_placed a b := by
  obtain ⟨j, rfl⟩ := i32_small (n := 3) (by decide) h1 h2
  obtain ⟨k, rfl⟩ := i32_small (n := 94) (by decide) h3 h4
  exact row_tab j k
theorem mrS_thr {a b : Int32} (h : thr a b) : mrS a b = (0, 1) := by
  obtain ⟨h1, h2, h3⟩ := h
  rw [mrS, if_neg h1, if_pos (i32_lt3.mp h2)]
  rcases h3 with q | q
  · rw [if_pos q]
  · by_cases q0 : b < 0
    · rw [if_pos q0]
    · rw [if_neg q0, if_neg (fun z => q (i32_lt94.mpr z))]
theorem mrS_ret {a b : Int32} (h : ¬ thr a b) : mrS a b = (crow a b, 0) := by
  by_cases h1 : a < 0
  · rw [mrS, crow, if_pos h1, if_pos h1]
  · rw [mrS, crow, if_neg h1, if_neg h1]
    by_cases h2 : a < 3
    · rw [if_pos h2, if_pos (i32_lt3.mp h2)]
      by_cases h3 : b < 0
      · exact absurd ⟨h1, h2, Or.inl h3⟩ h
      · by_cases h4 : b < 94
        · rw [if_neg h3, if_pos (i32_lt94.mp h4), row_eq h1 h2 h3 h4]
        · exact absurd ⟨h1, h2, Or.inr h4⟩ h
    · rw [if_neg h2, if_neg (fun z => h2 (i32_lt3.mpr z))]
set_option maxHeartbeats 4000000 in
set_option maxRecDepth 100000 in
theorem KX2_row (l : Launch) (D : va_G) (h t0 t1 t2 t3 t4 t5 t6 t7 t8 t9 : Nat) (si : Int32) (v0 v1 : Int32) (hno : ¬ thr v0 v1) : Met l yX2_row wsX2_row ({ frames := 2, cells := 0, slots := 0, locals := 44 }) (pcR D [(h, .inr (3, [.ref t0, .ref t1, .ref t2, .ref t3, .ref t4, .ref t5, .ref t6, .ref t7, .ref t8, .ref t9, .int si]))] [] [.ref h, .int v0, .int v1]) (vp_Si (fun r => r = crow v0 v1)) 0 0 (fun _ => False) := by
  refine ofR (cc := cX2_row) (maxL := 3) (ret := (some .int)) (by decide) rfl (Nat.le_of_ble_eq_true rfl) ?_
  intro p e s m below meth c ls hx hb hr hml hown hts hlocks hP hK hN hl
  have hl : lv_has ls 3 [(0, .ref h), (1, .int v0), (2, .int v1)] := hl
  refine lv_iload_n hx hb dX2_row_0 rfl (lv_at hl 1 rfl) ?_
  refine lv_if_lt (tgt := 9) hx hb dX2_row_1 (by decide) (fun c1_1 => ?_) (fun c1_1 => ?_)
  · skip
    refine lv_iconst (v := (-1)) hx hb dX2_row_9 (by decide) ?_
    exact rtR hx hb hr hlocks dX2_row_10 (by rw [crow, if_pos c1_1])
  · skip
    refine lv_iload_n hx hb dX2_row_4 rfl (lv_at hl 1 rfl) ?_
    refine lv_iconst (v := 3) hx hb dX2_row_5 (by decide) ?_
    refine lv_icmp_lt (tgt := 11) hx hb dX2_row_6 (by decide) (fun c6_1 => ?_) (fun c6_1 => ?_)
    · skip
      refine lv_iload_n hx hb dX2_row_11 rfl (lv_at hl 2 rfl) ?_
      refine lv_if_lt (tgt := 21) hx hb dX2_row_12 (by decide) (fun c12_1 => ?_) (fun c12_1 => ?_)
      · skip
        exact absurd ⟨c1_1, c6_1, Or.inl c12_1⟩ hno
      · skip
        refine lv_iload_n hx hb dX2_row_15 rfl (lv_at hl 2 rfl) ?_
        refine lv_bipush (v := 94) hx hb dX2_row_16 (by decide) ?_
        refine lv_icmp_lt (tgt := 31) hx hb dX2_row_18 (by decide) (fun c18_1 => ?_) (fun c18_1 => ?_)
        · skip
          refine lv_iload_n hx hb dX2_row_31 rfl (lv_at hl 1 rfl) ?_
          refine lv_iload_n hx hb dX2_row_32 rfl (lv_at hl 2 rfl) ?_
          refine vp_callSi (W.runS ⟨hx, hb, hml, hown, hts⟩ (KX2_codeInSet l v0 v1) (va_cwS 2 hts gX2_row_X2_codeInSet rfl rfl rfl (by decide +kernel) ⟨Nat.le_of_ble_eq_true rfl, Nat.le_of_ble_eq_true rfl⟩) pcS_S rfl rfl hl.1 rfl (lv_room (Nat.le_of_ble_eq_true rfl)) dX2_row_33 ⟨Nat.zero_le _, Nat.zero_le _⟩) (fun r9 hr9 => ?_)
          subst r9
          exact rtR hx hb hr hlocks dX2_row_36 (by rw [crow, if_neg c1_1, if_pos c6_1])
        · skip
          exact absurd ⟨c1_1, c6_1, Or.inr c18_1⟩ hno
    · skip
      refine lv_iconst (v := (-1)) hx hb dX2_row_9 (by decide) ?_
      exact rtR hx hb hr hlocks dX2_row_10 (by rw [crow, if_neg c1_1, if_neg c6_1])
/-- a start that may write, of a method with a table of handlers, where a throw's words are known -/
def pcX (sa : Nat) (D : va_G) (sz : Nat) (ws : va_W) (tys : List (ClassId × FieldType)) (av : List Value) : Array Value → State → Prop := fun a U => pcM D sz ws tys av a U ∧ XS sa U
theorem pcX_blind {sa : Nat} {D : va_G} {sz : Nat} {ws : va_W} {tys : List (ClassId × FieldType)} {av : List Value} : FrameBlind (pcX sa D sz ws tys av) := fun a U g mk q => ⟨pcM_blind a U g mk q.1, XS_move q.2 (State.WarmedH.refl _) (fun _ _ => rfl)⟩
theorem ofX {l : Launch} {y : MethodName} {ws ws' : List Cond} {rm : Room} {cc : ByteArray} {maxL : Nat} {ret : Option FieldType} {hh : List (Nat × Nat × Nat × Nat)} {D : va_G} {wd : va_W} {tys : List (ClassId × FieldType)} {av : List Value} {Qc : (Nat → Prop) → Array Value → State → Outcome → State → Prop} {mc ms sz sa : Nat} (hy : plainName y.cls = true) (hw : ws = Cond.codeWith y cc maxL ret hh :: ws') (hlen : (lg_sl av).length ≤ maxL)
    (body : ∀ (p : Program) (e : Env) (s : State) (m : MethodId) (below : List Frame) (meth : Method) (c : Code) (ls : Array Slot) (A : Nat → Prop), p.tables.exec = Jvm.exec → c.code = cc → meth.sig.returnType = ret → c.maxLocals = maxL → s.vm.findClass y.cls = some m.cls → (∀ w ∈ ws, w.before av.toArray s = true) → meth.locks = false → c.exceptionTable.toList = tableOf hh → va_P D vwCl wd s.heap → va_K D vwCl tys s → nst s → va_D A wd → (∀ q : Nat, s.heap.size ≤ q → A q) → va_S A s.heap s.heap [] → lv_has ls maxL (lv_args 0 av) → XS sa s →
      W p l e rm s m av.toArray below meth c s.heap [] 0 0 (MQ below (Qc A) av.toArray s mc ms A) (F0 m 0 ls [])) : Met l y ws rm (pcX sa D sz wd tys av) (Qc (va_A wd sz)) mc ms (va_A wd sz) := by
  refine va_MetW (cc := cc) (maxL := maxL) (ret := ret) hy hw ?_
  intro p e s m args below meth c s₁ B hml hv
  obtain ⟨⟨rfl, hsz, hP, hK, hD0, hN⟩, hXS⟩ := hv
  subst hsz
  have hts := atoms_spec (ws := ws) B.pre
  have X₀ : Stand p l e rm s m av.toArray below meth c s₁ [] 0 0 := Stand.of_body B
  have htab : c.exceptionTable.toList = tableOf hh := by
    obtain ⟨m9, meth9, c9, n1, n2, n3, -, -, n4, -⟩ := Cond.codeWith_spec (hts _ (by rw [hw]; exact List.mem_cons_self))
    cases Option.some.inj (n1.symm.trans B.named)
    cases Option.some.inj (n2.symm.trans B.method)
    cases Option.some.inj (n3.symm.trans X₀.code)
    rw [← n4, table_eq]
  have hl := lv_entry av (n := maxL) hlen
  rw [lg_entry_eq]
  generalize (lg_sl av ++ List.replicate (maxL - (lg_sl av).length) Slot.unset).toArray = ls at hl ⊢
  exact body p e s m below meth c ls (va_A wd s.heap.size) B.exec B.bytes B.returns hml (findClass_of_methodNamed B.named) hts B.notSynchronized htab hP hK hN (hD0.self (sz := s.heap.size)) (fun q h => Or.inr h) va_S.rf hl hXS
theorem va_lt {D : va_G} {cl : List vw_C} {ws : va_W} {H : Heap} {k : Nat} {q : Nat × va_E} (hP : va_P D cl ws H) (hq : ws[k]? = some q) : q.1 < H.size := by
  have h := hP k q hq
  obtain ⟨a, e⟩ := q
  cases e with
  | inl x => exact (Array.getElem?_eq_some_iff.mp (show H[a]? = some _ from h)).1
  | inr x =>
    obtain ⟨r, -, cell, g1, -⟩ := h
    exact (Array.getElem?_eq_some_iff.mp g1).1
set_option maxHeartbeats 4000000 in
set_option maxRecDepth 100000 in
theorem KL_row (l : Launch) (hst : l.stackTraces = false) (sa : Nat) (D : va_G) (h t0 t1 t2 t3 t4 t5 t6 t7 t8 t9 : Nat) (si : Int32) (ao : Nat) (co : ClassId) (fo : Nat → Int64) (v0 v1 : Int32) (sz : Nat) : Met l yL_row wsL_row ({ frames := 8, cells := 1, slots := 6, locals := 117 }) (pcX sa D sz [(h, .inr (3, [.ref t0, .ref t1, .ref t2, .ref t3, .ref t4, .ref t5, .ref t6, .ref t7, .ref t8, .ref t9, .int si])), (ao, .inl (co, 1, .inr (.inl fo)))] [(co, .long)] [.ref h, .int v0, .int v1, .ref ao]) (qcI (S := Nat → Int64) D (fun r u => r = (mrS v0 v1).2 ∧ (r = 0 → u 0 = (mrS v0 v1).1.toInt64)) (fun u => [(h, .inr (3, [.ref t0, .ref t1, .ref t2, .ref t3, .ref t4, .ref t5, .ref t6, .ref t7, .ref t8, .ref t9, .int si])), (ao, .inl (co, 1, .inr (.inl u)))]) (va_A [(h, .inr (3, [.ref t0, .ref t1, .ref t2, .ref t3, .ref t4, .ref t5, .ref t6, .ref t7, .ref t8, .ref t9, .int si])), (ao, .inl (co, 1, .inr (.inl fo)))] sz)) 1 6 (va_A [(h, .inr (3, [.ref t0, .ref t1, .ref t2, .ref t3, .ref t4, .ref t5, .ref t6, .ref t7, .ref t8, .ref t9, .int si])), (ao, .inl (co, 1, .inr (.inl fo)))] sz) := by
  refine ofX (Qc := fun A => qcI (S := Nat → Int64) D (fun r u => r = (mrS v0 v1).2 ∧ (r = 0 → u 0 = (mrS v0 v1).1.toInt64)) (fun u => [(h, .inr (3, [.ref t0, .ref t1, .ref t2, .ref t3, .ref t4, .ref t5, .ref t6, .ref t7, .ref t8, .ref t9, .int si])), (ao, .inl (co, 1, .inr (.inl u)))]) A) (cc := cL_row) (maxL := 5) (ret := (some .int)) (hh := [(0, 10, 13, 13)]) (by decide) rfl (Nat.le_of_ble_eq_true rfl) ?_
  intro p e s m below meth c ls A hx hb hr hml hown hts hlocks htab hP hK hN hD hA hS hl hXS
  have hl : lv_has ls 5 [(0, .ref h), (1, .int v0), (2, .int v1), (3, .ref ao)] := hl
  refine lv_aload_n hx hb dL_row_0 rfl (lv_at hl 3 rfl) ?_
  refine lv_iconst (v := 0) hx hb dL_row_1 (by decide) ?_
  refine lv_aload_n hx hb dL_row_2 rfl (lv_at hl 0 rfl) ?_
  refine lv_iload_n hx hb dL_row_3 rfl (lv_at hl 1 rfl) ?_
  refine lv_iload_n hx hb dL_row_4 rfl (lv_at hl 2 rfl) ?_
  by_cases hthr : thr v0 v1
  · skip
    intro T hT X
    obtain ⟨cB, hcB, hoB, hclB⟩ := va_recv (q := (RX2, TX2, 11)) hK hP rfl (show ([(h, .inr (3, [.ref t0, .ref t1, .ref t2, .ref t3, .ref t4, .ref t5, .ref t6, .ref t7, .ref t8, .ref t9, .int si])), (ao, .inl (co, 1, .inr (.inl fo)))] : va_W)[0]? = some (h, .inr (3, _)) from rfl)
    obtain ⟨q9, T9, ce, X2, hc9, hv9, hf9, hz9, hk9, st9⟩ := xr_call X hx (KX2_rowX l hst sa h v0 v1 hthr.1 hthr.2.1 hthr.2.2) hown hts hXS (fun q _ => by rw [hT]) (cB := cB) (by rw [hT]; exact hcB) hoB hclB (g := F0 m 5 ls [.int v1, .int v0, .ref h, .int 0, .ref ao]) rfl (hl.1.trans hml.symm) (rest := [.int 0, .ref ao]) rfl (lv_room (Nat.le_of_ble_eq_true rfl)) (by rw [hb]; exact dL_row_5) (by decide) (by decide) (by decide) (by decide)
    have hXw := XS_words hXS (State.WarmedH.refl s) (fun _ _ => rfl) ([.ref h, .int v0, .int v1, .ref ao] : List Value).toArray
    obtain ⟨vm9, X3, st3⟩ := xr_caught X2 hc9 hv9 hown hf9 (hXw _ (by decide +kernel)) (hXw _ (by decide +kernel)) htab (g := F0 m 5 ls [.int 0, .ref ao]) rfl rfl
    rw [hT] at hz9 hk9
    have hP9 : va_P D vwCl [(h, .inr (3, [.ref t0, .ref t1, .ref t2, .ref t3, .ref t4, .ref t5, .ref t6, .ref t7, .ref t8, .ref t9, .int si])), (ao, .inl (co, 1, .inr (.inl fo)))] T9.heap := hP.kept (fun k q hq => hk9 _ (va_lt hP hq))
    have hS9 : va_S A s.heap T9.heap [] := ⟨hz9, fun q h1 _ => hk9 q h1, fun _ z => nomatch z⟩
    have K : W p l e ({ frames := 8, cells := 1, slots := 6, locals := 117 }) s m ([.ref h, .int v0, .int v1, .ref ao] : List Value).toArray below meth c T9.heap [] 1 6 (MQ below (qcI (S := Nat → Int64) D (fun r u => r = (mrS v0 v1).2 ∧ (r = 0 → u 0 = (mrS v0 v1).1.toInt64)) (fun u => [(h, .inr (3, [.ref t0, .ref t1, .ref t2, .ref t3, .ref t4, .ref t5, .ref t6, .ref t7, .ref t8, .ref t9, .int si])), (ao, .inl (co, 1, .inr (.inl u)))]) A) ([.ref h, .int v0, .int v1, .ref ao] : List Value).toArray s 1 6 A) (F0 m 13 ls [.ref q9]) := by
      refine lv_astore (lv' := [(4, .ref q9), (0, .ref h)]) hx hb dL_row_13 (lv_sub hl [0] rfl) (by decide) rfl (fun ls hl => ?_)
      refine lv_iconst (v := 1) hx hb dL_row_15 (by decide) ?_
      exact rtI hx hb hr hlocks dL_row_16 fo (by rw [mrS_thr hthr]; exact ⟨rfl, fun z => absurd z (by decide)⟩) hP9 hD hS9
    obtain ⟨t, a1, b1⟩ := K (T9.setVm vm9) rfl X3
    exact ⟨t, st9.trans (st3 t a1), b1⟩
  refine vp_callSi (W.runV ⟨hx, hb, hml, hown, hts⟩ (KX2_row l D h t0 t1 t2 t3 t4 t5 t6 t7 t8 t9 si v0 v1 hthr) (cwV 2 hts gL_row_X2_row rfl rfl rfl (by decide +kernel) ⟨Nat.le_of_ble_eq_true rfl, Nat.le_of_ble_eq_true rfl⟩) (pcR_V (hP.sub (ws' := [(h, .inr (3, [.ref t0, .ref t1, .ref t2, .ref t3, .ref t4, .ref t5, .ref t6, .ref t7, .ref t8, .ref t9, .int si]))]) [0] rfl) (hK.sub (tys' := []) [] rfl) hN 0 rfl rfl) rfl rfl hl.1 rfl (lv_room (Nat.le_of_ble_eq_true rfl)) dL_row_5 ⟨Nat.zero_le _, Nat.zero_le _⟩) (fun r9 hr9 => ?_)
  subst r9
  refine lv_i2l hx hb dL_row_8 rfl ?_
  refine va_last hx hb hK hP hD hS 1 0 rfl rfl (by unfold vp_in; decide) dL_row_9 (fun H locs hP hD hS => ?_)
  have hP : va_P D vwCl [(h, .inr (3, [.ref t0, .ref t1, .ref t2, .ref t3, .ref t4, .ref t5, .ref t6, .ref t7, .ref t8, .ref t9, .int si])), (ao, .inl (co, 1, .inr (.inl (vp_updL fo (0 : Int32).toNatClampNeg ((crow v0 v1).toInt64)))))] H := hP
  have hD : va_D A [(h, .inr (3, [.ref t0, .ref t1, .ref t2, .ref t3, .ref t4, .ref t5, .ref t6, .ref t7, .ref t8, .ref t9, .int si])), (ao, .inl (co, 1, .inr (.inl (vp_updL fo (0 : Int32).toNatClampNeg ((crow v0 v1).toInt64)))))] := hD
  refine lv_goto (tgt := 17) hx hb dL_row_10 (by decide) ?_
  refine lv_iconst (v := 0) hx hb dL_row_17 (by decide) ?_
  refine W.widen (k := 1) (n := 6) (Nat.le_of_ble_eq_true rfl) (Nat.le_of_ble_eq_true rfl) ?_
  exact rtI hx hb hr hlocks dL_row_18 (vp_updL fo (0 : Int32).toNatClampNeg ((crow v0 v1).toInt64)) (by rw [mrS_ret hthr]; exact ⟨rfl, fun _ => rfl⟩) hP hD hS
/-- the law's call of its row -/
theorem xr_runS {p : Program} {l : Launch} {e : Env} {R : Room} {s : State} {m : MethodId} {args : Array Value} {below : List Frame} {meth : Method} {c : Code} {H : Heap} {locs : List Loc} {cells slots : Nat} {cc : ByteArray} {nL : Nat} {Ts : List Cond} {rm : Room} {Pc : Array Value → State → Prop} {Qc : Array Value → State → Outcome → State → Prop} {mc ms : Nat} {free : Addr → Prop} {As rest : List Value} {g : JFrame}
    (S : CallFix p m c cc nL s args Ts RL) (hG : GoodIn Ts wsL_row) (hlink : (Cond.methodLink RL 62 yL_row).before args s = true) (hstat : (Cond.static yL_row).before args s = true) (hini : (Cond.initialized RL).before args s = true) (hM : Met l yL_row wsL_row rm Pc Qc mc ms free) (hrc : rm.cells = mc) (hrs : rm.slots = ms) (hfr : rm.frames + 1 ≤ R.frames) (hlo : 8 + (5 + 11) + rm.locals ≤ R.locals) (hp : PreS s H Pc As)
    (hg : g.method = m) (hn : As.length = 4) (hsize : g.locals.size = nL) (hstack : g.stack = As.reverse ++ rest) (hW : 2 * g.monitorRoom + (rest.map fun v => v.category).sum ≤ 8) (hdg : decode cc g.pc = .ok (.invokestatic 62, 3)) (hf : cells + mc ≤ R.cells ∧ slots + ms ≤ R.slots) :
    va_Run p l e R s m args below meth c H locs cells slots mc ms g rest (Qc As.toArray) free := by
  obtain ⟨hx, hb, hml, ho, hts⟩ := S
  have hcm : Cond.codeWith yL_row cL_row 5 (some .int) [(0, 10, 13, 13)] ∈ wsL_row := List.mem_cons_self
  have hcode := hts _ (hG _ hcm).1
  have hK : Back l R p e below s args yL_row 3 8 (PreOf R mc ms Pc) (PostOf Qc mc ms free) := va_backW (hh := [(0, 10, 13, 13)]) (bytes := cL_row) (maxL := 5) (ret := some .int) hM hp.1 hrc hrs hfr hlo (pay_in hts hG) hcm (fun a' U hW => word_at hW (Or.inl rfl) hini)
  intro T hT X
  obtain ⟨mk, methM, cM, hnamed, hmethM, -, -, -, -, -, -, hsigM⟩ := Cond.codeWith_spec hcode
  have hstatic : methM.isStatic = true := Cond.static_spec hnamed hmethM hstat
  obtain ⟨kP, hkP, -⟩ := className_of_methodNamed hnamed
  have hinitP : kP.init = .initialized := Cond.initialized_spec (findClass_of_methodNamed hnamed) hkP hini
  have hpar : As.length = methM.sig.parameters.length := by
    have h9 : (parseMethodDescriptor yL_row.desc).map (fun d => d.parameters.length) = some 4 := by decide +kernel
    rw [hsigM] at h9
    exact hn.trans (Option.some.inj h9).symm
  obtain ⟨vm₁, X₁, step₁⟩ := X.invokestatic hx ho hlink hnamed hmethM hstatic hkP hinitP (by decide) (g := g) hg (argsL := As) (rest := rest) hpar hstack (by rw [hb]; exact hdg)
  obtain ⟨v, ⟨U', l2, c2, s2⟩, X', ⟨g', mk', t, L, e1, e2, hq, h1, hL, h2, h3⟩, st⟩ := hK m meth c ⟨T.setVm vm₁, locs, cells, slots⟩ { g with stack := rest } (.invokestatic 62) mk As.toArray X₁ hg (hsize.trans hml.symm) (by rw [hb]; exact hdg) hW (X₁.named hnamed) ⟨hf.1, hf.2, hp.2 (T.setVm vm₁) hT X₁.warmed⟩
  dsimp only [Pt.U, Pt.locs, Pt.cells, Pt.slots] at X' e1 e2 h1 h2 h3 st
  subst h1; subst h2; subst h3
  exact ⟨v, (T.setVm vm₁).calling g' mk' As.toArray, t, U', L, hT, X', hL, e1, e2, hq, fun target h => step₁ _ fun acts => by rw [doInvoke_state]; exact st.trans h⟩
