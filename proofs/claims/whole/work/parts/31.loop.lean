/-! the law's loop, and its start -/
theorem bv15 (x : BitVec 32) : x &&& 15#32 = (x.setWidth 4).setWidth 32 := by
  have h : ∀ i : Fin 32, (15#32).getLsbD i = decide (i.val < 4) := by decide
  apply BitVec.eq_of_getLsbD_eq
  intro i hi
  rw [BitVec.getLsbD_and, h ⟨i, hi⟩]
  simp only [BitVec.getLsbD_setWidth]
  by_cases h8 : i < 4 <;> simp [h8, hi]
theorem and15 (b : Int32) : ∃ k, k < 16 ∧ b &&& 15 = nI k := by
  refine ⟨(b.toBitVec.setWidth 4).toNat, (b.toBitVec.setWidth 4).isLt, ?_⟩
  apply Int32.toBitVec_inj.mp
  rw [Int32.toBitVec_and]
  show b.toBitVec &&& 15#32 = BitVec.ofNat 32 (b.toBitVec.setWidth 4).toNat
  rw [bv15]
  apply BitVec.eq_of_toNat_eq
  simp
theorem sc_go {L j : Nat} (hL : L ≤ 1536) (hj : j ≤ 512) (h : ¬ (Int32.ofNat L - 3 < nI (3 * j))) : 3 * j + 3 ≤ L := by
  rcases Nat.lt_or_ge L 3 with q | q
  · exfalso
    apply h
    have h0 : ∀ L, L < 3 → (Int32.ofNat L - 3 < (0 : Int32)) := by decide
    have h1 := h0 L q
    rw [Int32.lt_iff_toInt_lt] at h1 ⊢
    rw [nI_toInt (by omega)]
    have h2 : (0 : Int32).toInt = 0 := rfl
    omega
  · have e : Int32.ofNat L - 3 = nI (L - 3) := pk_sub q
    rw [e, nI_ltI (by omega) (by omega)] at h
    omega
set_option maxHeartbeats 4000000 in
set_option maxRecDepth 100000 in
theorem LC_tail {p : Program} {l : Launch} {e : Env} {s : State} {m : MethodId} {below : List Frame} {meth : Method} {c : Code} {b L : Nat} {xs : Nat → Int32} {D : va_G} {A : Nat → Prop} {sa : Nat} (C : LC p l s m meth c b L xs A sa) {j : Nat} (hj : j < 512) (ih : LH p l e s m below meth c b D A (j + 1)) (h t0 t1 t2 t3 t4 t5 t6 t7 t8 t9 : Nat) (si : Int32) (b0 b1 b2 b3 b4 b5 b6 b7 b8 b9 : Nat) (c0 c1 c2 c3 c4 c5 c6 c7 c8 c9 : ClassId) (f0 f1 f2 f3 f4 f5 f6 f7 f8 f9 : Nat → Int32) (x0 x1 x2 x3 x4 x5 x6 x7 x8 x9 : List Int32) (g a1 a3 a5 a7 a8 a9 aB : Nat) (th wg : Int32) (k1 k3 k5 k7 k8 k9 kB : ClassId) (g1 g3 g5 g7 g8 g9 gB : Nat → Int32) (ao : Nat) (co : ClassId) (fo : Nat → Int64) (H : Heap) (locs : List Loc) (ls : Array Slot) (hI : LI f0 f1 f2 f3 f4 f5 f6 f7 f8 f9 x0 x1 x2 x3 x4 x5 x6 x7 x8 x9 g1 g3 g5 g9 gB) (hP : va_P D vwCl [(h, .inr (3, [.ref t0, .ref t1, .ref t2, .ref t3, .ref t4, .ref t5, .ref t6, .ref t7, .ref t8, .ref t9, .int si])), (t0, .inr (2, [.ref b0, .int (nI x0.length)])), (b0, .inl (c0, 200, .inl f0)), (t1, .inr (2, [.ref b1, .int (nI x1.length)])), (b1, .inl (c1, 400, .inl f1)), (t2, .inr (1, [.ref b2, .int (nI x2.length)])), (b2, .inl (c2, 200, .inl f2)), (t3, .inr (1, [.ref b3, .int (nI x3.length)])), (b3, .inl (c3, 200, .inl f3)), (t4, .inr (1, [.ref b4, .int (nI x4.length)])), (b4, .inl (c4, 200, .inl f4)), (t5, .inr (1, [.ref b5, .int (nI x5.length)])), (b5, .inl (c5, 200, .inl f5)), (t6, .inr (1, [.ref b6, .int (nI x6.length)])), (b6, .inl (c6, 200, .inl f6)), (t7, .inr (1, [.ref b7, .int (nI x7.length)])), (b7, .inl (c7, 200, .inl f7)), (t8, .inr (1, [.ref b8, .int (nI x8.length)])), (b8, .inl (c8, 200, .inl f8)), (t9, .inr (1, [.ref b9, .int (nI x9.length)])), (b9, .inl (c9, 200, .inl f9)), (g, .inr (4, [.int th, .ref a1, .int (nI (ox_u x0).length), .ref a3, .int (nI x2.length), .ref a5, .int (nI x3.length), .ref a7, .ref a8, .ref a9, .int (nI x1.length), .ref aB, .int (nI x8.length), .int si, .int wg])), (a1, .inl (k1, 200, .inl g1)), (a3, .inl (k3, 100, .inl g3)), (a5, .inl (k5, 100, .inl g5)), (a7, .inl (k7, 400, .inl g7)), (a8, .inl (k8, 400, .inl g8)), (a9, .inl (k9, 1200, .inl g9)), (aB, .inl (kB, 200, .inl gB)), (ao, .inl (co, 1, .inr (.inl fo)))] H) (hD : va_D A [(h, .inr (3, [.ref t0, .ref t1, .ref t2, .ref t3, .ref t4, .ref t5, .ref t6, .ref t7, .ref t8, .ref t9, .int si])), (t0, .inr (2, [.ref b0, .int (nI x0.length)])), (b0, .inl (c0, 200, .inl f0)), (t1, .inr (2, [.ref b1, .int (nI x1.length)])), (b1, .inl (c1, 400, .inl f1)), (t2, .inr (1, [.ref b2, .int (nI x2.length)])), (b2, .inl (c2, 200, .inl f2)), (t3, .inr (1, [.ref b3, .int (nI x3.length)])), (b3, .inl (c3, 200, .inl f3)), (t4, .inr (1, [.ref b4, .int (nI x4.length)])), (b4, .inl (c4, 200, .inl f4)), (t5, .inr (1, [.ref b5, .int (nI x5.length)])), (b5, .inl (c5, 200, .inl f5)), (t6, .inr (1, [.ref b6, .int (nI x6.length)])), (b6, .inl (c6, 200, .inl f6)), (t7, .inr (1, [.ref b7, .int (nI x7.length)])), (b7, .inl (c7, 200, .inl f7)), (t8, .inr (1, [.ref b8, .int (nI x8.length)])), (b8, .inl (c8, 200, .inl f8)), (t9, .inr (1, [.ref b9, .int (nI x9.length)])), (b9, .inl (c9, 200, .inl f9)), (g, .inr (4, [.int th, .ref a1, .int (nI (ox_u x0).length), .ref a3, .int (nI x2.length), .ref a5, .int (nI x3.length), .ref a7, .ref a8, .ref a9, .int (nI x1.length), .ref aB, .int (nI x8.length), .int si, .int wg])), (a1, .inl (k1, 200, .inl g1)), (a3, .inl (k3, 100, .inl g3)), (a5, .inl (k5, 100, .inl g5)), (a7, .inl (k7, 400, .inl g7)), (a8, .inl (k8, 400, .inl g8)), (a9, .inl (k9, 1200, .inl g9)), (aB, .inl (kB, 200, .inl gB)), (ao, .inl (co, 1, .inr (.inl fo)))]) (hK : va_K D vwCl [(c0, .byte), (c1, .byte), (c2, .int), (c3, .int), (c4, .int), (c5, .int), (c6, .int), (c7, .int), (c8, .int), (c9, .int), (k1, .int), (k3, .int), (k5, .int), (k7, .int), (k8, .int), (k9, .byte), (kB, .int), (co, .long)] s) (hS : va_S A s.heap H locs) (hl : lv_has ls 7 [(0, .ref b), (1, .ref h), (2, .ref g), (3, .ref ao), (4, .int (nI (3 * j)))]) : W p l e room_1 s m #[Value.ref b] below meth c H locs (30 + j) (4847 + 6 * j) (lw_Z below #[Value.ref b] s) (F0 m 467 ls []) := by
  obtain ⟨hx, hb, hr, hml, hown, hts, hN, hX, hbl, hbA, hA, hA2, hXS, hst, hlocks, hL⟩ := C
  obtain ⟨o0, o1, o2, o3, o4, o5, o6, o7, o8, o9, p1, p3, p5, p9, pB, hlen, hbys⟩ := hI
  refine W.widen (k := 30 + (j + 1)) (n := 4847 + 6 * (j + 1)) (by omega) (by omega) ?_
  refine lv_iinc (v := (nI (3 * j) + 3)) (lv' := [(4, .int (nI (3 * j) + 3)), (0, .ref b), (1, .ref h), (2, .ref g), (3, .ref ao)]) hx hb dL_law_467 hl (k := 4) rfl rfl (by decide) rfl (fun ls hl => ?_)
  refine lv_goto (tgt := 23) hx hb dL_law_470 (by decide) ?_
  have hl : lv_has ls 7 [(0, .ref b), (1, .ref h), (2, .ref g), (3, .ref ao), (4, .int (nI (3 * j) + 3))] := (lv_sub hl [1, 2, 3, 4, 0] rfl)
  rw [show nI (3 * j) + 3 = nI (3 * (j + 1)) from nI_add _ 3] at hl
  exact ih h t0 t1 t2 t3 t4 t5 t6 t7 t8 t9 si b0 b1 b2 b3 b4 b5 b6 b7 b8 b9 c0 c1 c2 c3 c4 c5 c6 c7 c8 c9 f0 f1 f2 f3 f4 f5 f6 f7 f8 f9 x0 x1 x2 x3 x4 x5 x6 x7 x8 x9 g a1 a3 a5 a7 a8 a9 aB th wg k1 k3 k5 k7 k8 k9 kB g1 g3 g5 g7 g8 g9 gB ao co fo H locs ls ⟨o0, o1, o2, o3, o4, o5, o6, o7, o8, o9, p1, p3, p5, p9, pB, hlen, hbys⟩ hP hD hK hS hl
set_option maxHeartbeats 4000000 in
set_option maxRecDepth 100000 in
theorem law_head {p : Program} {l : Launch} {e : Env} {s : State} {m : MethodId} {below : List Frame} {meth : Method} {c : Code} {b L : Nat} {xs : Nat → Int32} {D : va_G} {A : Nat → Prop} {sa : Nat} (C : LC p l s m meth c b L xs A sa) {j : Nat} (hj0 : j ≤ 512) (ih : j < 512 → LH p l e s m below meth c b D A (j + 1)) : LH p l e s m below meth c b D A j := by
  intro h t0 t1 t2 t3 t4 t5 t6 t7 t8 t9 si b0 b1 b2 b3 b4 b5 b6 b7 b8 b9 c0 c1 c2 c3 c4 c5 c6 c7 c8 c9 f0 f1 f2 f3 f4 f5 f6 f7 f8 f9 x0 x1 x2 x3 x4 x5 x6 x7 x8 x9 g a1 a3 a5 a7 a8 a9 aB th wg k1 k3 k5 k7 k8 k9 kB g1 g3 g5 g7 g8 g9 gB ao co fo H locs ls hI hP hD hK hS hl
  obtain ⟨hx, hb, hr, hml, hown, hts, hN, hX, hbl, hbA, hA, hA2, hXS, hst, hlocks, hL⟩ := id C
  refine lv_iload hx hb dL_law_23 (lv_at hl 4 rfl) ?_
  refine lv_aload_n hx hb dL_law_25 rfl (lv_at hl 0 rfl) ?_
  refine va_slen hx hb hX hbl hbA hS dL_law_26 ?_
  refine lv_iconst (v := 3) hx hb dL_law_27 (by decide) ?_
  refine lv_isub hx hb dL_law_28 ?_
  refine lv_icmp_gt (tgt := 473) hx hb dL_law_29 (by decide) (fun c29 => ?_) (fun c29 => ?_)
  · refine lv_iconst (v := 1) hx hb dL_law_473 (by decide) ?_
    refine va_forget (fun q hq => hA2 _ (hS.2.2 q hq)) ?_
    refine W.widen (k := 1055) (n := 13045) (by omega) (by omega) ?_
    exact lw_ret hx hb hr hlocks dL_law_474
  have h3 : 3 * j + 3 ≤ L := sc_go hL hj0 c29
  have hj : j < 512 := by omega
  replace ih := ih hj
  refine lv_aload_n hx hb dL_law_32 rfl (lv_at hl 0 rfl) ?_
  refine lv_iload hx hb dL_law_33 (lv_at hl 4 rfl) ?_
  refine va_sld hx hb hX hbl hbA hS (vp_in_nI (by omega) (by omega)) dL_law_35 ?_
  refine lv_bipush (v := 15) hx hb dL_law_36 (by decide) ?_
  refine lv_iand hx hb dL_law_38 ?_
  obtain ⟨k, hk, ek⟩ := and15 (xs (nI (3 * j)).toNatClampNeg)
  refine lv_topi (fun r9 hr9 => ?_)
  replace hr9 : r9 = nI k := hr9.trans ek
  subst r9
  rcases (show k = 0 ∨ k = 1 ∨ k = 2 ∨ k = 3 ∨ k = 4 ∨ k = 5 ∨ k = 6 ∨ k = 7 ∨ k = 8 ∨ k = 9 ∨ k = 10 ∨ k = 11 ∨ k = 12 ∨ k = 13 ∨ k = 14 ∨ k = 15 by omega) with rfl | rfl | rfl | rfl | rfl | rfl | rfl | rfl | rfl | rfl | rfl | rfl | rfl | rfl | rfl | rfl
  · refine lv_tableIn (x := nI 0) (off := 61) (tgt := 100) hx hb dL_law_39 (by decide) (by decide) (by decide +kernel) (by decide) ?_
    exact LC_octet C hj h3 ih h t0 t1 t2 t3 t4 t5 t6 t7 t8 t9 si b0 b1 b2 b3 b4 b5 b6 b7 b8 b9 c0 c1 c2 c3 c4 c5 c6 c7 c8 c9 f0 f1 f2 f3 f4 f5 f6 f7 f8 f9 x0 x1 x2 x3 x4 x5 x6 x7 x8 x9 g a1 a3 a5 a7 a8 a9 aB th wg k1 k3 k5 k7 k8 k9 kB g1 g3 g5 g7 g8 g9 gB ao co fo H locs ls hI hP hD hK hS hl _ _ rfl rfl
  · refine lv_tableIn (x := nI 1) (off := 86) (tgt := 125) hx hb dL_law_39 (by decide) (by decide) (by decide +kernel) (by decide) ?_
    exact LC_read C hj h3 ih h t0 t1 t2 t3 t4 t5 t6 t7 t8 t9 si b0 b1 b2 b3 b4 b5 b6 b7 b8 b9 c0 c1 c2 c3 c4 c5 c6 c7 c8 c9 f0 f1 f2 f3 f4 f5 f6 f7 f8 f9 x0 x1 x2 x3 x4 x5 x6 x7 x8 x9 g a1 a3 a5 a7 a8 a9 aB th wg k1 k3 k5 k7 k8 k9 kB g1 g3 g5 g7 g8 g9 gB ao co fo H locs ls hI hP hD hK hS hl _ _ rfl rfl
  · refine lv_tableIn (x := nI 2) (off := 111) (tgt := 150) hx hb dL_law_39 (by decide) (by decide) (by decide +kernel) (by decide) ?_
    exact LC_character C hj h3 ih h t0 t1 t2 t3 t4 t5 t6 t7 t8 t9 si b0 b1 b2 b3 b4 b5 b6 b7 b8 b9 c0 c1 c2 c3 c4 c5 c6 c7 c8 c9 f0 f1 f2 f3 f4 f5 f6 f7 f8 f9 x0 x1 x2 x3 x4 x5 x6 x7 x8 x9 g a1 a3 a5 a7 a8 a9 aB th wg k1 k3 k5 k7 k8 k9 kB g1 g3 g5 g7 g8 g9 gB ao co fo H locs ls hI hP hD hK hS hl _ _ rfl rfl
  · refine lv_tableIn (x := nI 3) (off := 136) (tgt := 175) hx hb dL_law_39 (by decide) (by decide) (by decide +kernel) (by decide) ?_
    exact LC_write C hj h3 ih h t0 t1 t2 t3 t4 t5 t6 t7 t8 t9 si b0 b1 b2 b3 b4 b5 b6 b7 b8 b9 c0 c1 c2 c3 c4 c5 c6 c7 c8 c9 f0 f1 f2 f3 f4 f5 f6 f7 f8 f9 x0 x1 x2 x3 x4 x5 x6 x7 x8 x9 g a1 a3 a5 a7 a8 a9 aB th wg k1 k3 k5 k7 k8 k9 kB g1 g3 g5 g7 g8 g9 gB ao co fo H locs ls hI hP hD hK hS hl _ _ rfl rfl
  · refine lv_tableIn (x := nI 4) (off := 161) (tgt := 200) hx hb dL_law_39 (by decide) (by decide) (by decide +kernel) (by decide) ?_
    exact LC_octet2 C hj h3 ih h t0 t1 t2 t3 t4 t5 t6 t7 t8 t9 si b0 b1 b2 b3 b4 b5 b6 b7 b8 b9 c0 c1 c2 c3 c4 c5 c6 c7 c8 c9 f0 f1 f2 f3 f4 f5 f6 f7 f8 f9 x0 x1 x2 x3 x4 x5 x6 x7 x8 x9 g a1 a3 a5 a7 a8 a9 aB th wg k1 k3 k5 k7 k8 k9 kB g1 g3 g5 g7 g8 g9 gB ao co fo H locs ls hI hP hD hK hS hl _ _ rfl rfl
  · refine lv_tableIn (x := nI 5) (off := 186) (tgt := 225) hx hb dL_law_39 (by decide) (by decide) (by decide +kernel) (by decide) ?_
    exact LC_compose C hj h3 ih h t0 t1 t2 t3 t4 t5 t6 t7 t8 t9 si b0 b1 b2 b3 b4 b5 b6 b7 b8 b9 c0 c1 c2 c3 c4 c5 c6 c7 c8 c9 f0 f1 f2 f3 f4 f5 f6 f7 f8 f9 x0 x1 x2 x3 x4 x5 x6 x7 x8 x9 g a1 a3 a5 a7 a8 a9 aB th wg k1 k3 k5 k7 k8 k9 kB g1 g3 g5 g7 g8 g9 gB ao co fo H locs ls hI hP hD hK hS hl _ _ rfl rfl
  · refine lv_tableIn (x := nI 6) (off := 211) (tgt := 250) hx hb dL_law_39 (by decide) (by decide) (by decide +kernel) (by decide) ?_
    exact LC_told C hj h3 ih h t0 t1 t2 t3 t4 t5 t6 t7 t8 t9 si b0 b1 b2 b3 b4 b5 b6 b7 b8 b9 c0 c1 c2 c3 c4 c5 c6 c7 c8 c9 f0 f1 f2 f3 f4 f5 f6 f7 f8 f9 x0 x1 x2 x3 x4 x5 x6 x7 x8 x9 g a1 a3 a5 a7 a8 a9 aB th wg k1 k3 k5 k7 k8 k9 kB g1 g3 g5 g7 g8 g9 gB ao co fo H locs ls hI hP hD hK hS hl _ _ rfl rfl
  · refine lv_tableIn (x := nI 7) (off := 248) (tgt := 287) hx hb dL_law_39 (by decide) (by decide) (by decide +kernel) (by decide) ?_
    exact LC_stand C hj h3 ih h t0 t1 t2 t3 t4 t5 t6 t7 t8 t9 si b0 b1 b2 b3 b4 b5 b6 b7 b8 b9 c0 c1 c2 c3 c4 c5 c6 c7 c8 c9 f0 f1 f2 f3 f4 f5 f6 f7 f8 f9 x0 x1 x2 x3 x4 x5 x6 x7 x8 x9 g a1 a3 a5 a7 a8 a9 aB th wg k1 k3 k5 k7 k8 k9 kB g1 g3 g5 g7 g8 g9 gB ao co fo H locs ls hI hP hD hK hS hl _ _ rfl rfl
  · refine lv_tableIn (x := nI 8) (off := 273) (tgt := 312) hx hb dL_law_39 (by decide) (by decide) (by decide +kernel) (by decide) ?_
    exact LC_nonfiling C hj h3 ih h t0 t1 t2 t3 t4 t5 t6 t7 t8 t9 si b0 b1 b2 b3 b4 b5 b6 b7 b8 b9 c0 c1 c2 c3 c4 c5 c6 c7 c8 c9 f0 f1 f2 f3 f4 f5 f6 f7 f8 f9 x0 x1 x2 x3 x4 x5 x6 x7 x8 x9 g a1 a3 a5 a7 a8 a9 aB th wg k1 k3 k5 k7 k8 k9 kB g1 g3 g5 g7 g8 g9 gB ao co fo H locs ls hI hP hD hK hS hl _ _ rfl rfl
  · refine lv_tableIn (x := nI 9) (off := 310) (tgt := 349) hx hb dL_law_39 (by decide) (by decide) (by decide +kernel) (by decide) ?_
    exact LC_mark C hj h3 ih h t0 t1 t2 t3 t4 t5 t6 t7 t8 t9 si b0 b1 b2 b3 b4 b5 b6 b7 b8 b9 c0 c1 c2 c3 c4 c5 c6 c7 c8 c9 f0 f1 f2 f3 f4 f5 f6 f7 f8 f9 x0 x1 x2 x3 x4 x5 x6 x7 x8 x9 g a1 a3 a5 a7 a8 a9 aB th wg k1 k3 k5 k7 k8 k9 kB g1 g3 g5 g7 g8 g9 gB ao co fo H locs ls hI hP hD hK hS hl _ _ rfl rfl
  · refine lv_tableIn (x := nI 10) (off := 335) (tgt := 374) hx hb dL_law_39 (by decide) (by decide) (by decide +kernel) (by decide) ?_
    exact LC_row C hj h3 ih h t0 t1 t2 t3 t4 t5 t6 t7 t8 t9 si b0 b1 b2 b3 b4 b5 b6 b7 b8 b9 c0 c1 c2 c3 c4 c5 c6 c7 c8 c9 f0 f1 f2 f3 f4 f5 f6 f7 f8 f9 x0 x1 x2 x3 x4 x5 x6 x7 x8 x9 g a1 a3 a5 a7 a8 a9 aB th wg k1 k3 k5 k7 k8 k9 kB g1 g3 g5 g7 g8 g9 gB ao co fo H locs ls hI hP hD hK hS hl _ _ rfl rfl
  · refine lv_tableIn (x := nI 11) (off := 403) (tgt := 442) hx hb dL_law_39 (by decide) (by decide) (by decide +kernel) (by decide) ?_
    exact LC_same C hj h3 ih h t0 t1 t2 t3 t4 t5 t6 t7 t8 t9 si b0 b1 b2 b3 b4 b5 b6 b7 b8 b9 c0 c1 c2 c3 c4 c5 c6 c7 c8 c9 f0 f1 f2 f3 f4 f5 f6 f7 f8 f9 x0 x1 x2 x3 x4 x5 x6 x7 x8 x9 g a1 a3 a5 a7 a8 a9 aB th wg k1 k3 k5 k7 k8 k9 kB g1 g3 g5 g7 g8 g9 gB ao co fo H locs ls hI hP hD hK hS hl _ _ rfl rfl
  · refine lv_tableOut (x := nI 12) (tgt := 467) hx hb dL_law_39 (by decide) (by decide) ?_
    exact LC_tail C hj ih h t0 t1 t2 t3 t4 t5 t6 t7 t8 t9 si b0 b1 b2 b3 b4 b5 b6 b7 b8 b9 c0 c1 c2 c3 c4 c5 c6 c7 c8 c9 f0 f1 f2 f3 f4 f5 f6 f7 f8 f9 x0 x1 x2 x3 x4 x5 x6 x7 x8 x9 g a1 a3 a5 a7 a8 a9 aB th wg k1 k3 k5 k7 k8 k9 kB g1 g3 g5 g7 g8 g9 gB ao co fo H locs ls hI hP hD hK hS hl
  · refine lv_tableOut (x := nI 13) (tgt := 467) hx hb dL_law_39 (by decide) (by decide) ?_
    exact LC_tail C hj ih h t0 t1 t2 t3 t4 t5 t6 t7 t8 t9 si b0 b1 b2 b3 b4 b5 b6 b7 b8 b9 c0 c1 c2 c3 c4 c5 c6 c7 c8 c9 f0 f1 f2 f3 f4 f5 f6 f7 f8 f9 x0 x1 x2 x3 x4 x5 x6 x7 x8 x9 g a1 a3 a5 a7 a8 a9 aB th wg k1 k3 k5 k7 k8 k9 kB g1 g3 g5 g7 g8 g9 gB ao co fo H locs ls hI hP hD hK hS hl
  · refine lv_tableOut (x := nI 14) (tgt := 467) hx hb dL_law_39 (by decide) (by decide) ?_
    exact LC_tail C hj ih h t0 t1 t2 t3 t4 t5 t6 t7 t8 t9 si b0 b1 b2 b3 b4 b5 b6 b7 b8 b9 c0 c1 c2 c3 c4 c5 c6 c7 c8 c9 f0 f1 f2 f3 f4 f5 f6 f7 f8 f9 x0 x1 x2 x3 x4 x5 x6 x7 x8 x9 g a1 a3 a5 a7 a8 a9 aB th wg k1 k3 k5 k7 k8 k9 kB g1 g3 g5 g7 g8 g9 gB ao co fo H locs ls hI hP hD hK hS hl
  · refine lv_tableOut (x := nI 15) (tgt := 467) hx hb dL_law_39 (by decide) (by decide) ?_
    exact LC_tail C hj ih h t0 t1 t2 t3 t4 t5 t6 t7 t8 t9 si b0 b1 b2 b3 b4 b5 b6 b7 b8 b9 c0 c1 c2 c3 c4 c5 c6 c7 c8 c9 f0 f1 f2 f3 f4 f5 f6 f7 f8 f9 x0 x1 x2 x3 x4 x5 x6 x7 x8 x9 g a1 a3 a5 a7 a8 a9 aB th wg k1 k3 k5 k7 k8 k9 kB g1 g3 g5 g7 g8 g9 gB ao co fo H locs ls hI hP hD hK hS hl
theorem law_all {p : Program} {l : Launch} {e : Env} {s : State} {m : MethodId} {below : List Frame} {meth : Method} {c : Code} {b L : Nat} {xs : Nat → Int32} {D : va_G} {A : Nat → Prop} {sa : Nat} (C : LC p l s m meth c b L xs A sa) : ∀ n j : Nat, n + j = 512 → LH p l e s m below meth c b D A j := by
  intro n
  induction n with
  | zero => exact fun j hj => law_head C (by omega) (fun q => by omega)
  | succ n ih => exact fun j hj => law_head C (by omega) (fun q => ih (j + 1) (by omega))
