/-! ends and calls of methods that make arrays: the new array classes come with the world -/
def my_BK {S : Type} (D : va_G) (A : Nat → Prop) (w : S → va_W) (ty : S → List (ClassId × FieldType)) (u : S) (t : State) : Prop := va_P D vwCl (w u) t.heap ∧ va_D A (w u) ∧ va_K D vwCl (ty u) t
def qcK {S : Type} (D : va_G) (post : S → Prop) (w : S → va_W) (ty : S → List (ClassId × FieldType)) (A : Nat → Prop) : Array Value → State → Outcome → State → Prop := va_Qv post (my_BK D A w ty) A
section ENDK
variable {p : Program} {l : Launch} {e : Env} {R : Room} {s : State} {m : MethodId} {args : Array Value} {below : List Frame} {meth : Method} {c : Code} {H : Heap} {locs : List Loc} {cells slots : Nat} {Q : State → Prop}
variable {cc : ByteArray} {pc : Nat} {ls : Array Slot} {A : Nat → Prop} {D : va_G}
theorem rtK {S : Type} {post : S → Prop} {w : S → va_W} {ty : S → List (ClassId × FieldType)} (hx : p.tables.exec = Jvm.exec) (hb : c.code = cc) (hr : meth.sig.returnType = none) (hlocks : meth.locks = false) (hd : decode cc pc = .ok (.return_, 1)) (u : S) (hp : post u) (hP : va_P D vwCl (w u) H) (hD : va_D A (w u)) (hS : va_S A s.heap H locs) (hK : va_K D vwCl (ty u) s) : W p l e R s m args below meth c H locs cells slots (MQ below (qcK D post w ty A) args s cells slots A) (F0 m pc ls []) :=
  W.vret hx hb hr (fun t ht hW => ⟨⟨u, rfl, hp, by rw [ht]; exact hP, hD, va_K.moved hW.alike hK⟩, hS.F ht⟩) hS.2.2 hd hlocks
variable {rest st0 : List Value} {a : Array Value} {A0 : Nat → Prop} {H0 : Heap} {mc ms : Nat}
theorem clK {S : Type} {post : S → Prop} {w : S → va_W} {ty : S → List (ClassId × FieldType)} {tys : List (ClassId × FieldType)} {ws wc wr : va_W} (hr : va_Run p l e R s m args below meth c H locs cells slots mc ms (F0 m pc ls st0) rest (qcK D post w ty (va_A wc H.size) a) (va_A wc H.size))
    (hP : va_P D vwCl ws H) (hD : va_D A0 ws) (hS : va_S A0 H0 H locs) (hA : ∀ q, H0.size ≤ q → A0 q) (hK : va_K D vwCl tys s) (isC isR : List Nat) (hC : isC.map (fun i => ws[i]?) = wc.map some) (hR : isR.map (fun i => ws[i]?) = wr.map some) (hn : va_nd isR = true) (hdis : ∀ i ∈ isR, i ∉ isC)
    (kk : ∀ (u : S) (H1 : Heap) (locs1 : List Loc), post u → va_P D vwCl (wr ++ w u) H1 → va_D A0 (wr ++ w u) → va_S A0 H0 H1 locs1 → va_K D vwCl (tys ++ ty u) s → W p l e R s m args below meth c H1 locs1 (cells + mc) (slots + ms) Q (F0 m (pc + 3) ls rest)) : W p l e R s m args below meth c H locs cells slots Q (F0 m pc ls st0) := by
  have hFc := va_free (wc := wc) hD hS hA isC hC
  refine va_callv hr hS (fun q _ h => hFc q h) hFc (fun u t H1 locs1 ht hvm hw hB hz1 hk1 hS1 => ?_)
  obtain ⟨hP1, hD1, hK1⟩ := hB
  rw [ht] at hP1
  have hK1 := va_K.moved hvm.symm hK1
  obtain ⟨hP2, hD2⟩ := va_join (wr := wr) (w1 := w u) hP hD isC isR hC hR hn hdis hk1 hFc hP1 hD1
  exact kk u H1 locs1 hw hP2 hD2 hS1 (hK.app hK1)
end ENDK
/-- a CharacterRows as the law holds it: addresses, array classes, contents, lists, stand-in. Rows: 0 collected, 1 written, 2 text, 3 other, 4 fresh, 5 apart, 6 otherApart, 7 waitingMarks, 8 toldCodes, 9 toldPlaces -/
abbrev CRS : Type := (Nat → Nat) × (Nat → ClassId) × (Nat → Nat → Int32) × (Nat → List Int32) × Int32
