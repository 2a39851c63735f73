/-! the reference: its small methods -/
set_option maxHeartbeats 4000000 in
set_option maxRecDepth 100000 in
theorem KX3_bad (l : Launch) (D : va_G) (g a1 a3 a5 a7 a8 a9 aB : Nat) (th sn ct oc wn tn si wg : Int32) (v0 : Int32) (sz : Nat) : Met l yX3_bad wsX3_bad ({ frames := 0, cells := 0, slots := 0, locals := 0 }) (pcM D sz [(g, .inr (4, [.int th, .ref a1, .int sn, .ref a3, .int ct, .ref a5, .int oc, .ref a7, .ref a8, .ref a9, .int wn, .ref aB, .int tn, .int si, .int wg]))] [] [.ref g, .int v0]) (qcI (S := Unit) D (fun r _ => r = -1) (fun _ => [(g, .inr (4, [.int th, .ref a1, .int sn, .ref a3, .int ct, .ref a5, .int oc, .ref a7, .ref a8, .ref a9, .int wn, .ref aB, .int tn, .int si, .int v0]))]) (va_A [(g, .inr (4, [.int th, .ref a1, .int sn, .ref a3, .int ct, .ref a5, .int oc, .ref a7, .ref a8, .ref a9, .int wn, .ref aB, .int tn, .int si, .int wg]))] sz)) 0 0 (va_A [(g, .inr (4, [.int th, .ref a1, .int sn, .ref a3, .int ct, .ref a5, .int oc, .ref a7, .ref a8, .ref a9, .int wn, .ref aB, .int tn, .int si, .int wg]))] sz) := by
  refine ofM (Qc := fun A => qcI (S := Unit) D (fun r _ => r = -1) (fun _ => [(g, .inr (4, [.int th, .ref a1, .int sn, .ref a3, .int ct, .ref a5, .int oc, .ref a7, .ref a8, .ref a9, .int wn, .ref aB, .int tn, .int si, .int v0]))]) A) (cc := cX3_bad) (maxL := 2) (ret := (some .int)) (by decide) rfl (Nat.le_of_ble_eq_true rfl) ?_
  intro p e s m below meth c ls A hx hb hr hml hown hts hlocks hnm hP hK hN hD hA hS hl
  have hl : lv_has ls 2 [(0, .ref g), (1, .int v0)] := hl
  refine lv_aload_n hx hb dX3_bad_0 rfl (lv_at hl 0 rfl) ?_
  refine lv_iload_n hx hb dX3_bad_1 rfl (lv_at hl 1 rfl) ?_
  refine va_put (D := D) (ci := 4) (v := .int v0) (ty := .int) (C := RX3) (T := TX3) (N := 15) hx hb hts (by decide +kernel) tyX3 tyX3_ok nmX3 hown hK hP hD hS 0 rfl rfl 14 (by decide) (hts (.fieldLink RX3 55 "CharacterRowsModel" "wrong" "I") (by decide +kernel)) (fun _ h9 => h9) rfl (by decide +kernel) rfl rfl (Nat.le_of_ble_eq_true rfl) dX3_bad_2 (fun H locs hP hD hS => ?_)
  have hP : va_P D vwCl [(g, .inr (4, [.int th, .ref a1, .int sn, .ref a3, .int ct, .ref a5, .int oc, .ref a7, .ref a8, .ref a9, .int wn, .ref aB, .int tn, .int si, .int v0]))] H := hP
  have hD : va_D A [(g, .inr (4, [.int th, .ref a1, .int sn, .ref a3, .int ct, .ref a5, .int oc, .ref a7, .ref a8, .ref a9, .int wn, .ref aB, .int tn, .int si, .int v0]))] := hD
  refine lv_iconst (v := (-1)) hx hb dX3_bad_5 (by decide) ?_
  exact rtI hx hb hr hlocks dX3_bad_6 () rfl hP hD hS
set_option maxHeartbeats 4000000 in
set_option maxRecDepth 100000 in
theorem KX3_goesOn (l : Launch) (D : va_G) (g a1 a3 a5 a7 a8 a9 aB : Nat) (th ct oc wn tn si wg : Int32) (k1 : ClassId) (g1 : Nat → Int32) (y1 : List Int32) (p1 : rw_ok g1 200 y1) (i v : Int32) (h0 : ¬ i < 0) (ev : rw_at y1 i = v) : Met l yX3_goesOn wsX3_goesOn ({ frames := 0, cells := 0, slots := 0, locals := 0 }) (pcR D [(g, .inr (4, [.int th, .ref a1, .int (nI y1.length), .ref a3, .int ct, .ref a5, .int oc, .ref a7, .ref a8, .ref a9, .int wn, .ref aB, .int tn, .int si, .int wg])), (a1, .inl (k1, 200, .inl g1))] [(k1, .int)] [.ref g, .int i]) (vp_Si (fun r => r = goN v)) 0 0 (fun _ => False) := by
  refine ofR (cc := cX3_goesOn) (maxL := 2) (ret := (some .boolean)) (by decide) rfl (Nat.le_of_ble_eq_true rfl) ?_
  intro p e s m below meth c ls hx hb hr hml hown hts hlocks hP hK hN hl
  have hl : lv_has ls 2 [(0, .ref g), (1, .int i)] := hl
  refine lv_iload_n hx hb dX3_goesOn_0 rfl (lv_at hl 1 rfl) ?_
  refine lv_aload_n hx hb dX3_goesOn_1 rfl (lv_at hl 0 rfl) ?_
  refine va_get (D := D) (ci := 4) (v := .int (nI y1.length)) (C := RX3) (T := TX3) (N := 15) hx hb hts (by decide +kernel) hown hK hP 0 rfl rfl 2 (by decide) (hts (.fieldLink RX3 39 "CharacterRowsModel" "size" "I") (by decide +kernel)) (fun _ h9 => h9) rfl dX3_goesOn_2 ?_
  refine lv_icmp_ge (tgt := 36) hx hb dX3_goesOn_5 (by decide) (fun c5_1 => ?_) (fun c5_1 => ?_)
  · skip
    refine lv_iconst (v := 0) hx hb dX3_goesOn_36 (by decide) ?_
    exact rtRz hx hb hr (by decide) hlocks dX3_goesOn_37 (by rw [show v = -1 from ev.symm.trans (rw_at_hi p1 (by decide) h0 c5_1).symm]; decide)
  · skip
    refine lv_aload_n hx hb dX3_goesOn_8 rfl (lv_at hl 0 rfl) ?_
    refine va_get (D := D) (ci := 4) (v := .ref a1) (C := RX3) (T := TX3) (N := 15) hx hb hts (by decide +kernel) hown hK hP 0 rfl rfl 1 (by decide) (hts (.fieldLink RX3 7 "CharacterRowsModel" "collected" "[I") (by decide +kernel)) (fun _ h9 => h9) rfl dX3_goesOn_9 ?_
    refine lv_iload_n hx hb dX3_goesOn_12 rfl (lv_at hl 1 rfl) ?_
    refine va_iald hx hb hK hP 1 0 rfl rfl (rw_vin p1 (by decide) h0 c5_1) dX3_goesOn_13 ?_
    refine lv_topi (fun r9 hr9 => ?_)
    replace hr9 : r9 = v := hr9.trans ((rw_at_in p1 (by decide) h0 c5_1).trans ev)
    subst r9
    refine lv_sipush (v := 128) hx hb dX3_goesOn_14 (by decide) ?_
    refine lv_icmp_lt (tgt := 36) hx hb dX3_goesOn_17 (by decide) (fun c17_1 => ?_) (fun c17_1 => ?_)
    · skip
      refine lv_iconst (v := 0) hx hb dX3_goesOn_36 (by decide) ?_
      exact rtRz hx hb hr (by decide) hlocks dX3_goesOn_37 (by unfold goN; rw [if_pos c17_1])
    · skip
      refine lv_aload_n hx hb dX3_goesOn_20 rfl (lv_at hl 0 rfl) ?_
      refine va_get (D := D) (ci := 4) (v := .ref a1) (C := RX3) (T := TX3) (N := 15) hx hb hts (by decide +kernel) hown hK hP 0 rfl rfl 1 (by decide) (hts (.fieldLink RX3 7 "CharacterRowsModel" "collected" "[I") (by decide +kernel)) (fun _ h9 => h9) rfl dX3_goesOn_21 ?_
      refine lv_iload_n hx hb dX3_goesOn_24 rfl (lv_at hl 1 rfl) ?_
      refine va_iald hx hb hK hP 1 0 rfl rfl (rw_vin p1 (by decide) h0 c5_1) dX3_goesOn_25 ?_
      refine lv_topi (fun r9 hr9 => ?_)
      replace hr9 : r9 = v := hr9.trans ((rw_at_in p1 (by decide) h0 c5_1).trans ev)
      subst r9
      refine lv_sipush (v := 192) hx hb dX3_goesOn_26 (by decide) ?_
      refine lv_icmp_ge (tgt := 36) hx hb dX3_goesOn_29 (by decide) (fun c29_1 => ?_) (fun c29_1 => ?_)
      · skip
        refine lv_iconst (v := 0) hx hb dX3_goesOn_36 (by decide) ?_
        exact rtRz hx hb hr (by decide) hlocks dX3_goesOn_37 (by unfold goN; rw [if_neg c17_1, if_pos c29_1])
      · skip
        refine lv_iconst (v := 1) hx hb dX3_goesOn_32 (by decide) ?_
        refine lv_goto (tgt := 37) hx hb dX3_goesOn_33 (by decide) ?_
        exact rtRz hx hb hr (by decide) hlocks dX3_goesOn_37 (by unfold goN; rw [if_neg c17_1, if_neg c29_1])
set_option maxHeartbeats 4000000 in
set_option maxRecDepth 100000 in
theorem KX3_put (l : Launch) (D : va_G) (g a1 a3 a5 a7 a8 a9 aB : Nat) (th sn ct oc tn si wg : Int32) (k9 : ClassId) (g9 : Nat → Int32) (y9 : List Int32) (p9 : rw_ok g9 1200 y9) (h9 : y9.length < 1200) (v0 : Int32) (sz : Nat) : Met l yX3_put wsX3_put ({ frames := 0, cells := 0, slots := 0, locals := 0 }) (pcM D sz [(g, .inr (4, [.int th, .ref a1, .int sn, .ref a3, .int ct, .ref a5, .int oc, .ref a7, .ref a8, .ref a9, .int (nI y9.length), .ref aB, .int tn, .int si, .int wg])), (a9, .inl (k9, 1200, .inl g9))] [(k9, .byte)] [.ref g, .int v0]) (qcV (S := Nat → Int32) D (fun u => rw_ok u 1200 (y9 ++ [v0.toInt8.toInt32])) (fun u => [(g, .inr (4, [.int th, .ref a1, .int sn, .ref a3, .int ct, .ref a5, .int oc, .ref a7, .ref a8, .ref a9, .int (nI (y9 ++ [v0.toInt8.toInt32]).length), .ref aB, .int tn, .int si, .int wg])), (a9, .inl (k9, 1200, .inl u))]) (va_A [(g, .inr (4, [.int th, .ref a1, .int sn, .ref a3, .int ct, .ref a5, .int oc, .ref a7, .ref a8, .ref a9, .int (nI y9.length), .ref aB, .int tn, .int si, .int wg])), (a9, .inl (k9, 1200, .inl g9))] sz)) 0 0 (va_A [(g, .inr (4, [.int th, .ref a1, .int sn, .ref a3, .int ct, .ref a5, .int oc, .ref a7, .ref a8, .ref a9, .int (nI y9.length), .ref aB, .int tn, .int si, .int wg])), (a9, .inl (k9, 1200, .inl g9))] sz) := by
  refine ofM (Qc := fun A => qcV (S := Nat → Int32) D (fun u => rw_ok u 1200 (y9 ++ [v0.toInt8.toInt32])) (fun u => [(g, .inr (4, [.int th, .ref a1, .int sn, .ref a3, .int ct, .ref a5, .int oc, .ref a7, .ref a8, .ref a9, .int (nI (y9 ++ [v0.toInt8.toInt32]).length), .ref aB, .int tn, .int si, .int wg])), (a9, .inl (k9, 1200, .inl u))]) A) (cc := cX3_put) (maxL := 2) (ret := none) (by decide) rfl (Nat.le_of_ble_eq_true rfl) ?_
  intro p e s m below meth c ls A hx hb hr hml hown hts hlocks hnm hP hK hN hD hA hS hl
  have hl : lv_has ls 2 [(0, .ref g), (1, .int v0)] := hl
  refine lv_aload_n hx hb dX3_put_0 rfl (lv_at hl 0 rfl) ?_
  refine va_get (D := D) (ci := 4) (v := .ref a9) (C := RX3) (T := TX3) (N := 15) hx hb hts (by decide +kernel) hown hK hP 0 rfl rfl 9 (by decide) (hts (.fieldLink RX3 25 "CharacterRowsModel" "out" "[B") (by decide +kernel)) (fun _ h9 => h9) rfl dX3_put_1 ?_
  refine lv_aload_n hx hb dX3_put_4 rfl (lv_at hl 0 rfl) ?_
  refine va_get (D := D) (ci := 4) (v := .int (nI y9.length)) (C := RX3) (T := TX3) (N := 15) hx hb hts (by decide +kernel) hown hK hP 0 rfl rfl 10 (by decide) (hts (.fieldLink RX3 91 "CharacterRowsModel" "written" "I") (by decide +kernel)) (fun _ h9 => h9) rfl dX3_put_5 ?_
  refine lv_iload_n hx hb dX3_put_8 rfl (lv_at hl 1 rfl) ?_
  refine lv_i2b hx hb dX3_put_9 rfl ?_
  refine va_bast hx hb hK hP hD hS 1 0 rfl rfl (rwf_sin p9 (by decide) rfl h9) dX3_put_10 (fun H locs hP hD hS => ?_)
  have hP : va_P D vwCl [(g, .inr (4, [.int th, .ref a1, .int sn, .ref a3, .int ct, .ref a5, .int oc, .ref a7, .ref a8, .ref a9, .int (nI y9.length), .ref aB, .int tn, .int si, .int wg])), (a9, .inl (k9, 1200, .inl (upd g9 (nI y9.length).toNatClampNeg (vp_nar .byte v0.toInt8.toInt32))))] H := hP
  have hD : va_D A [(g, .inr (4, [.int th, .ref a1, .int sn, .ref a3, .int ct, .ref a5, .int oc, .ref a7, .ref a8, .ref a9, .int (nI y9.length), .ref aB, .int tn, .int si, .int wg])), (a9, .inl (k9, 1200, .inl (upd g9 (nI y9.length).toNatClampNeg (vp_nar .byte v0.toInt8.toInt32))))] := hD
  refine lv_aload_n hx hb dX3_put_11 rfl (lv_at hl 0 rfl) ?_
  refine lv_dup hx hb dX3_put_12 rfl ?_
  refine va_get (D := D) (ci := 4) (v := .int (nI y9.length)) (C := RX3) (T := TX3) (N := 15) hx hb hts (by decide +kernel) hown hK hP 0 rfl rfl 10 (by decide) (hts (.fieldLink RX3 91 "CharacterRowsModel" "written" "I") (by decide +kernel)) (fun _ h9 => h9) rfl dX3_put_13 ?_
  refine lv_iconst (v := 1) hx hb dX3_put_16 (by decide) ?_
  refine lv_iadd hx hb dX3_put_17 ?_
  refine va_put (D := D) (ci := 4) (v := .int (nI y9.length + 1)) (ty := .int) (C := RX3) (T := TX3) (N := 15) hx hb hts (by decide +kernel) tyX3 tyX3_ok nmX3 hown hK hP hD hS 0 rfl rfl 10 (by decide) (hts (.fieldLink RX3 91 "CharacterRowsModel" "written" "I") (by decide +kernel)) (fun _ h9 => h9) rfl (by decide +kernel) rfl rfl (Nat.le_of_ble_eq_true rfl) dX3_put_18 (fun H locs hP hD hS => ?_)
  have hP : va_P D vwCl [(g, .inr (4, [.int th, .ref a1, .int sn, .ref a3, .int ct, .ref a5, .int oc, .ref a7, .ref a8, .ref a9, .int (nI y9.length + 1), .ref aB, .int tn, .int si, .int wg])), (a9, .inl (k9, 1200, .inl (upd g9 (nI y9.length).toNatClampNeg (vp_nar .byte v0.toInt8.toInt32))))] H := hP
  have hD : va_D A [(g, .inr (4, [.int th, .ref a1, .int sn, .ref a3, .int ct, .ref a5, .int oc, .ref a7, .ref a8, .ref a9, .int (nI y9.length + 1), .ref aB, .int tn, .int si, .int wg])), (a9, .inl (k9, 1200, .inl (upd g9 (nI y9.length).toNatClampNeg (vp_nar .byte v0.toInt8.toInt32))))] := hD
  rw [pk_vb] at hP hD
  have q8 := rwf_snoc (c := v0.toInt8.toInt32) p9 (by decide) rfl h9
  rw [nI_1, show y9.length + 1 = (y9 ++ [v0.toInt8.toInt32]).length by simp] at hP hD
  exact rtV hx hb hr hlocks dX3_put_21 _ q8 hP hD hS
set_option maxHeartbeats 4000000 in
set_option maxRecDepth 100000 in
theorem KX3_putSet (l : Launch) (D : va_G) (g a1 a3 a5 a7 a8 a9 aB : Nat) (th sn ct oc tn si wg : Int32) (k9 : ClassId) (g9 : Nat → Int32) (y9 : List Int32) (p9 : rw_ok g9 1200 y9) (h9 : y9.length + 4 ≤ 1200) (v0 v1 : Int32) (sz : Nat) : Met l yX3_putSet wsX3_putSet ({ frames := 1, cells := 0, slots := 0, locals := 21 }) (pcM D sz [(g, .inr (4, [.int th, .ref a1, .int sn, .ref a3, .int ct, .ref a5, .int oc, .ref a7, .ref a8, .ref a9, .int (nI y9.length), .ref aB, .int tn, .int si, .int wg])), (a9, .inl (k9, 1200, .inl g9))] [(k9, .byte)] [.ref g, .int v0, .int v1]) (qcI (S := Nat → Int32) D (fun r u => r = v0 / 100 ∧ rw_ok u 1200 (y9 ++ ob (psb v0 v1))) (fun u => [(g, .inr (4, [.int th, .ref a1, .int sn, .ref a3, .int ct, .ref a5, .int oc, .ref a7, .ref a8, .ref a9, .int (nI (y9 ++ ob (psb v0 v1)).length), .ref aB, .int tn, .int si, .int wg])), (a9, .inl (k9, 1200, .inl u))]) (va_A [(g, .inr (4, [.int th, .ref a1, .int sn, .ref a3, .int ct, .ref a5, .int oc, .ref a7, .ref a8, .ref a9, .int (nI y9.length), .ref aB, .int tn, .int si, .int wg])), (a9, .inl (k9, 1200, .inl g9))] sz)) 0 0 (va_A [(g, .inr (4, [.int th, .ref a1, .int sn, .ref a3, .int ct, .ref a5, .int oc, .ref a7, .ref a8, .ref a9, .int (nI y9.length), .ref aB, .int tn, .int si, .int wg])), (a9, .inl (k9, 1200, .inl g9))] sz) := by
  refine ofM (Qc := fun A => qcI (S := Nat → Int32) D (fun r u => r = v0 / 100 ∧ rw_ok u 1200 (y9 ++ ob (psb v0 v1))) (fun u => [(g, .inr (4, [.int th, .ref a1, .int sn, .ref a3, .int ct, .ref a5, .int oc, .ref a7, .ref a8, .ref a9, .int (nI (y9 ++ ob (psb v0 v1)).length), .ref aB, .int tn, .int si, .int wg])), (a9, .inl (k9, 1200, .inl u))]) A) (cc := cX3_putSet) (maxL := 4) (ret := (some .int)) (by decide) rfl (Nat.le_of_ble_eq_true rfl) ?_
  intro p e s m below meth c ls A hx hb hr hml hown hts hlocks hnm hP hK hN hD hA hS hl
  have hl : lv_has ls 4 [(0, .ref g), (1, .int v0), (2, .int v1)] := hl
  refine lv_iload_n hx hb dX3_putSet_0 rfl (lv_at hl 1 rfl) ?_
  refine lv_bipush (v := 100) hx hb dX3_putSet_1 (by decide) ?_
  refine lv_idiv hx hb dX3_putSet_3 (by decide) ?_
  refine lv_istore_n (lv' := [(3, .int (v0 / 100)), (0, .ref g), (1, .int v0), (2, .int v1)]) hx hb dX3_putSet_4 rfl hl (by decide) rfl (fun ls hl => ?_)
  refine lv_iload_n hx hb dX3_putSet_5 rfl (lv_at hl 0 rfl) ?_
  refine lv_iload_n hx hb dX3_putSet_6 rfl (lv_at hl 3 rfl) ?_
  refine lv_icmp_eq (tgt := 30) hx hb dX3_putSet_7 (by decide) (fun c7_1 => ?_) (fun c7_1 => ?_)
  · skip
    refine lv_aload_n hx hb dX3_putSet_30 rfl (lv_at hl 1 rfl) ?_
    refine lv_sipush (v := 161) hx hb dX3_putSet_31 (by decide) ?_
    refine lv_iload_n hx hb dX3_putSet_34 rfl (lv_at hl 2 rfl) ?_
    refine lv_bipush (v := 100) hx hb dX3_putSet_35 (by decide) ?_
    refine lv_irem hx hb dX3_putSet_37 (by decide) ?_
    refine lv_iadd hx hb dX3_putSet_38 ?_
    refine clV (wr := []) (va_runV ⟨hx, hb, hml, hown, hts⟩ (KX3_put l D g a1 a3 a5 a7 a8 a9 aB th sn ct oc tn si wg k9 g9 y9 p9 (by omega) (161 + (v0 - v0 / 100 * 100)) _) (cwV 1 hts gX3_putSet_X3_put rfl rfl rfl (by decide +kernel) ⟨Nat.le_of_ble_eq_true rfl, Nat.le_of_ble_eq_true rfl⟩) (pcM_V (hP.sub (ws' := [(g, .inr (4, [.int th, .ref a1, .int sn, .ref a3, .int ct, .ref a5, .int oc, .ref a7, .ref a8, .ref a9, .int (nI y9.length), .ref aB, .int tn, .int si, .int wg])), (a9, .inl (k9, 1200, .inl g9))]) [0, 1] rfl) (hD.sub (ws' := [(g, .inr (4, [.int th, .ref a1, .int sn, .ref a3, .int ct, .ref a5, .int oc, .ref a7, .ref a8, .ref a9, .int (nI y9.length), .ref aB, .int tn, .int si, .int wg])), (a9, .inl (k9, 1200, .inl g9))]) [0, 1] (by decide) rfl) (hK.sub (tys' := [(k9, .byte)]) [0] rfl) hN 0 rfl rfl) rfl rfl hl.1 rfl (lv_room (Nat.le_of_ble_eq_true rfl)) dX3_putSet_39 ⟨Nat.zero_le _, Nat.zero_le _⟩) hP hD hS hA [0, 1] [] rfl rfl (by decide) (by decide) (fun u_1 H locs hw_1 hP hD hS => ?_)
    have hP : va_P D vwCl [(g, .inr (4, [.int th, .ref a1, .int sn, .ref a3, .int ct, .ref a5, .int oc, .ref a7, .ref a8, .ref a9, .int (nI (y9 ++ [((161 + (v0 - v0 / 100 * 100)) : Int32).toInt8.toInt32]).length), .ref aB, .int tn, .int si, .int wg])), (a9, .inl (k9, 1200, .inl u_1))] H := hP.sub [0, 1] rfl
    have hD : va_D A [(g, .inr (4, [.int th, .ref a1, .int sn, .ref a3, .int ct, .ref a5, .int oc, .ref a7, .ref a8, .ref a9, .int (nI (y9 ++ [((161 + (v0 - v0 / 100 * 100)) : Int32).toInt8.toInt32]).length), .ref aB, .int tn, .int si, .int wg])), (a9, .inl (k9, 1200, .inl u_1))] := hD.sub [0, 1] (by decide) rfl
    refine lv_iload_n hx hb dX3_putSet_42 rfl (lv_at hl 0 rfl) ?_
    have e8 : (y9 ++ [((161 + (v0 - v0 / 100 * 100)) : Int32).toInt8.toInt32]) = (y9 ++ ob (psb v0 v1)) := by simp [psb, ob, c7_1]
    rw [e8] at hw_1 hP hD
    exact rtI hx hb hr hlocks dX3_putSet_43 u_1 ⟨rfl, hw_1⟩ hP hD hS
  · skip
    refine lv_aload_n hx hb dX3_putSet_10 rfl (lv_at hl 1 rfl) ?_
    refine lv_bipush (v := 27) hx hb dX3_putSet_11 (by decide) ?_
    refine clV (wr := []) (va_runV ⟨hx, hb, hml, hown, hts⟩ (KX3_put l D g a1 a3 a5 a7 a8 a9 aB th sn ct oc tn si wg k9 g9 y9 p9 (by omega) 27 _) (cwV 1 hts gX3_putSet_X3_put rfl rfl rfl (by decide +kernel) ⟨Nat.le_of_ble_eq_true rfl, Nat.le_of_ble_eq_true rfl⟩) (pcM_V (hP.sub (ws' := [(g, .inr (4, [.int th, .ref a1, .int sn, .ref a3, .int ct, .ref a5, .int oc, .ref a7, .ref a8, .ref a9, .int (nI y9.length), .ref aB, .int tn, .int si, .int wg])), (a9, .inl (k9, 1200, .inl g9))]) [0, 1] rfl) (hD.sub (ws' := [(g, .inr (4, [.int th, .ref a1, .int sn, .ref a3, .int ct, .ref a5, .int oc, .ref a7, .ref a8, .ref a9, .int (nI y9.length), .ref aB, .int tn, .int si, .int wg])), (a9, .inl (k9, 1200, .inl g9))]) [0, 1] (by decide) rfl) (hK.sub (tys' := [(k9, .byte)]) [0] rfl) hN 0 rfl rfl) rfl rfl hl.1 rfl (lv_room (Nat.le_of_ble_eq_true rfl)) dX3_putSet_13 ⟨Nat.zero_le _, Nat.zero_le _⟩) hP hD hS hA [0, 1] [] rfl rfl (by decide) (by decide) (fun u_2 H locs hw_2 hP hD hS => ?_)
    have hP : va_P D vwCl [(g, .inr (4, [.int th, .ref a1, .int sn, .ref a3, .int ct, .ref a5, .int oc, .ref a7, .ref a8, .ref a9, .int (nI (y9 ++ [(27 : Int32).toInt8.toInt32]).length), .ref aB, .int tn, .int si, .int wg])), (a9, .inl (k9, 1200, .inl u_2))] H := hP.sub [0, 1] rfl
    have hD : va_D A [(g, .inr (4, [.int th, .ref a1, .int sn, .ref a3, .int ct, .ref a5, .int oc, .ref a7, .ref a8, .ref a9, .int (nI (y9 ++ [(27 : Int32).toInt8.toInt32]).length), .ref aB, .int tn, .int si, .int wg])), (a9, .inl (k9, 1200, .inl u_2))] := hD.sub [0, 1] (by decide) rfl
    refine lv_aload_n hx hb dX3_putSet_16 rfl (lv_at hl 1 rfl) ?_
    refine lv_bipush (v := 103) hx hb dX3_putSet_17 (by decide) ?_
    refine clV (wr := []) (va_runV ⟨hx, hb, hml, hown, hts⟩ (KX3_put l D g a1 a3 a5 a7 a8 a9 aB th sn ct oc tn si wg k9 u_2 (y9 ++ [(27 : Int32).toInt8.toInt32]) hw_2 (by simp only [List.length_append, List.length_cons, List.length_nil]; omega) 103 _) (cwV 1 hts gX3_putSet_X3_put rfl rfl rfl (by decide +kernel) ⟨Nat.le_of_ble_eq_true rfl, Nat.le_of_ble_eq_true rfl⟩) (pcM_V (hP.sub (ws' := [(g, .inr (4, [.int th, .ref a1, .int sn, .ref a3, .int ct, .ref a5, .int oc, .ref a7, .ref a8, .ref a9, .int (nI (y9 ++ [(27 : Int32).toInt8.toInt32]).length), .ref aB, .int tn, .int si, .int wg])), (a9, .inl (k9, 1200, .inl u_2))]) [0, 1] rfl) (hD.sub (ws' := [(g, .inr (4, [.int th, .ref a1, .int sn, .ref a3, .int ct, .ref a5, .int oc, .ref a7, .ref a8, .ref a9, .int (nI (y9 ++ [(27 : Int32).toInt8.toInt32]).length), .ref aB, .int tn, .int si, .int wg])), (a9, .inl (k9, 1200, .inl u_2))]) [0, 1] (by decide) rfl) (hK.sub (tys' := [(k9, .byte)]) [0] rfl) hN 0 rfl rfl) rfl rfl hl.1 rfl (lv_room (Nat.le_of_ble_eq_true rfl)) dX3_putSet_19 ⟨Nat.zero_le _, Nat.zero_le _⟩) hP hD hS hA [0, 1] [] rfl rfl (by decide) (by decide) (fun u_3 H locs hw_3 hP hD hS => ?_)
    have hP : va_P D vwCl [(g, .inr (4, [.int th, .ref a1, .int sn, .ref a3, .int ct, .ref a5, .int oc, .ref a7, .ref a8, .ref a9, .int (nI ((y9 ++ [(27 : Int32).toInt8.toInt32]) ++ [(103 : Int32).toInt8.toInt32]).length), .ref aB, .int tn, .int si, .int wg])), (a9, .inl (k9, 1200, .inl u_3))] H := hP.sub [0, 1] rfl
    have hD : va_D A [(g, .inr (4, [.int th, .ref a1, .int sn, .ref a3, .int ct, .ref a5, .int oc, .ref a7, .ref a8, .ref a9, .int (nI ((y9 ++ [(27 : Int32).toInt8.toInt32]) ++ [(103 : Int32).toInt8.toInt32]).length), .ref aB, .int tn, .int si, .int wg])), (a9, .inl (k9, 1200, .inl u_3))] := hD.sub [0, 1] (by decide) rfl
    refine lv_aload_n hx hb dX3_putSet_22 rfl (lv_at hl 1 rfl) ?_
    refine lv_bipush (v := 48) hx hb dX3_putSet_23 (by decide) ?_
    refine lv_iload_n hx hb dX3_putSet_25 rfl (lv_at hl 0 rfl) ?_
    refine lv_iadd hx hb dX3_putSet_26 ?_
    refine clV (wr := []) (va_runV ⟨hx, hb, hml, hown, hts⟩ (KX3_put l D g a1 a3 a5 a7 a8 a9 aB th sn ct oc tn si wg k9 u_3 ((y9 ++ [(27 : Int32).toInt8.toInt32]) ++ [(103 : Int32).toInt8.toInt32]) hw_3 (by simp only [List.length_append, List.length_cons, List.length_nil]; omega) (48 + (v0 / 100)) _) (cwV 1 hts gX3_putSet_X3_put rfl rfl rfl (by decide +kernel) ⟨Nat.le_of_ble_eq_true rfl, Nat.le_of_ble_eq_true rfl⟩) (pcM_V (hP.sub (ws' := [(g, .inr (4, [.int th, .ref a1, .int sn, .ref a3, .int ct, .ref a5, .int oc, .ref a7, .ref a8, .ref a9, .int (nI ((y9 ++ [(27 : Int32).toInt8.toInt32]) ++ [(103 : Int32).toInt8.toInt32]).length), .ref aB, .int tn, .int si, .int wg])), (a9, .inl (k9, 1200, .inl u_3))]) [0, 1] rfl) (hD.sub (ws' := [(g, .inr (4, [.int th, .ref a1, .int sn, .ref a3, .int ct, .ref a5, .int oc, .ref a7, .ref a8, .ref a9, .int (nI ((y9 ++ [(27 : Int32).toInt8.toInt32]) ++ [(103 : Int32).toInt8.toInt32]).length), .ref aB, .int tn, .int si, .int wg])), (a9, .inl (k9, 1200, .inl u_3))]) [0, 1] (by decide) rfl) (hK.sub (tys' := [(k9, .byte)]) [0] rfl) hN 0 rfl rfl) rfl rfl hl.1 rfl (lv_room (Nat.le_of_ble_eq_true rfl)) dX3_putSet_27 ⟨Nat.zero_le _, Nat.zero_le _⟩) hP hD hS hA [0, 1] [] rfl rfl (by decide) (by decide) (fun u_4 H locs hw_4 hP hD hS => ?_)
    have hP : va_P D vwCl [(g, .inr (4, [.int th, .ref a1, .int sn, .ref a3, .int ct, .ref a5, .int oc, .ref a7, .ref a8, .ref a9, .int (nI (((y9 ++ [(27 : Int32).toInt8.toInt32]) ++ [(103 : Int32).toInt8.toInt32]) ++ [((48 + (v0 / 100)) : Int32).toInt8.toInt32]).length), .ref aB, .int tn, .int si, .int wg])), (a9, .inl (k9, 1200, .inl u_4))] H := hP.sub [0, 1] rfl
    have hD : va_D A [(g, .inr (4, [.int th, .ref a1, .int sn, .ref a3, .int ct, .ref a5, .int oc, .ref a7, .ref a8, .ref a9, .int (nI (((y9 ++ [(27 : Int32).toInt8.toInt32]) ++ [(103 : Int32).toInt8.toInt32]) ++ [((48 + (v0 / 100)) : Int32).toInt8.toInt32]).length), .ref aB, .int tn, .int si, .int wg])), (a9, .inl (k9, 1200, .inl u_4))] := hD.sub [0, 1] (by decide) rfl
    refine lv_aload_n hx hb dX3_putSet_30 rfl (lv_at hl 1 rfl) ?_
    refine lv_sipush (v := 161) hx hb dX3_putSet_31 (by decide) ?_
    refine lv_iload_n hx hb dX3_putSet_34 rfl (lv_at hl 2 rfl) ?_
    refine lv_bipush (v := 100) hx hb dX3_putSet_35 (by decide) ?_
    refine lv_irem hx hb dX3_putSet_37 (by decide) ?_
    refine lv_iadd hx hb dX3_putSet_38 ?_
    refine clV (wr := []) (va_runV ⟨hx, hb, hml, hown, hts⟩ (KX3_put l D g a1 a3 a5 a7 a8 a9 aB th sn ct oc tn si wg k9 u_4 (((y9 ++ [(27 : Int32).toInt8.toInt32]) ++ [(103 : Int32).toInt8.toInt32]) ++ [((48 + (v0 / 100)) : Int32).toInt8.toInt32]) hw_4 (by simp only [List.length_append, List.length_cons, List.length_nil]; omega) (161 + (v0 - v0 / 100 * 100)) _) (cwV 1 hts gX3_putSet_X3_put rfl rfl rfl (by decide +kernel) ⟨Nat.le_of_ble_eq_true rfl, Nat.le_of_ble_eq_true rfl⟩) (pcM_V (hP.sub (ws' := [(g, .inr (4, [.int th, .ref a1, .int sn, .ref a3, .int ct, .ref a5, .int oc, .ref a7, .ref a8, .ref a9, .int (nI (((y9 ++ [(27 : Int32).toInt8.toInt32]) ++ [(103 : Int32).toInt8.toInt32]) ++ [((48 + (v0 / 100)) : Int32).toInt8.toInt32]).length), .ref aB, .int tn, .int si, .int wg])), (a9, .inl (k9, 1200, .inl u_4))]) [0, 1] rfl) (hD.sub (ws' := [(g, .inr (4, [.int th, .ref a1, .int sn, .ref a3, .int ct, .ref a5, .int oc, .ref a7, .ref a8, .ref a9, .int (nI (((y9 ++ [(27 : Int32).toInt8.toInt32]) ++ [(103 : Int32).toInt8.toInt32]) ++ [((48 + (v0 / 100)) : Int32).toInt8.toInt32]).length), .ref aB, .int tn, .int si, .int wg])), (a9, .inl (k9, 1200, .inl u_4))]) [0, 1] (by decide) rfl) (hK.sub (tys' := [(k9, .byte)]) [0] rfl) hN 0 rfl rfl) rfl rfl hl.1 rfl (lv_room (Nat.le_of_ble_eq_true rfl)) dX3_putSet_39 ⟨Nat.zero_le _, Nat.zero_le _⟩) hP hD hS hA [0, 1] [] rfl rfl (by decide) (by decide) (fun u_5 H locs hw_5 hP hD hS => ?_)
    have hP : va_P D vwCl [(g, .inr (4, [.int th, .ref a1, .int sn, .ref a3, .int ct, .ref a5, .int oc, .ref a7, .ref a8, .ref a9, .int (nI ((((y9 ++ [(27 : Int32).toInt8.toInt32]) ++ [(103 : Int32).toInt8.toInt32]) ++ [((48 + (v0 / 100)) : Int32).toInt8.toInt32]) ++ [((161 + (v0 - v0 / 100 * 100)) : Int32).toInt8.toInt32]).length), .ref aB, .int tn, .int si, .int wg])), (a9, .inl (k9, 1200, .inl u_5))] H := hP.sub [0, 1] rfl
    have hD : va_D A [(g, .inr (4, [.int th, .ref a1, .int sn, .ref a3, .int ct, .ref a5, .int oc, .ref a7, .ref a8, .ref a9, .int (nI ((((y9 ++ [(27 : Int32).toInt8.toInt32]) ++ [(103 : Int32).toInt8.toInt32]) ++ [((48 + (v0 / 100)) : Int32).toInt8.toInt32]) ++ [((161 + (v0 - v0 / 100 * 100)) : Int32).toInt8.toInt32]).length), .ref aB, .int tn, .int si, .int wg])), (a9, .inl (k9, 1200, .inl u_5))] := hD.sub [0, 1] (by decide) rfl
    refine lv_iload_n hx hb dX3_putSet_42 rfl (lv_at hl 0 rfl) ?_
    have e8 : ((((y9 ++ [(27 : Int32).toInt8.toInt32]) ++ [(103 : Int32).toInt8.toInt32]) ++ [((48 + (v0 / 100)) : Int32).toInt8.toInt32]) ++ [((161 + (v0 - v0 / 100 * 100)) : Int32).toInt8.toInt32]) = (y9 ++ ob (psb v0 v1)) := by simp [psb, ob, c7_1]
    rw [e8] at hw_5 hP hD
    exact rtI hx hb hr hlocks dX3_putSet_43 u_5 ⟨rfl, hw_5⟩ hP hD hS
set_option maxHeartbeats 4000000 in
set_option maxRecDepth 100000 in
theorem KX3_tell (l : Launch) (D : va_G) (g a1 a3 a5 a7 a8 a9 aB : Nat) (th sn ct oc wn si wg : Int32) (k3 : ClassId) (g3 : Nat → Int32) (y3 : List Int32) (p3 : rw_ok g3 100 y3) (kB : ClassId) (gB : Nat → Int32) (yB : List Int32) (pB : rw_ok gB 200 yB) (k : Nat) (hk : yB.length = 2 * k) (hk2 : k < 100) (l3 r3 : List Int32) (d : Int32) (h3 : y3 = l3 ++ d :: r3) (sz : Nat) : Met l yX3_tell wsX3_tell ({ frames := 0, cells := 0, slots := 0, locals := 0 }) (pcM D sz [(g, .inr (4, [.int th, .ref a1, .int sn, .ref a3, .int ct, .ref a5, .int oc, .ref a7, .ref a8, .ref a9, .int wn, .ref aB, .int (nI k), .int si, .int wg])), (a3, .inl (k3, 100, .inl g3)), (aB, .inl (kB, 200, .inl gB))] [(k3, .int), (kB, .int)] [.ref g, .int (nI l3.length)]) (qcV (S := Nat → Int32) D (fun u => rw_ok u 200 (yB ++ [d, nI l3.length])) (fun u => [(g, .inr (4, [.int th, .ref a1, .int sn, .ref a3, .int ct, .ref a5, .int oc, .ref a7, .ref a8, .ref a9, .int wn, .ref aB, .int (nI (k + 1)), .int si, .int wg])), (a3, .inl (k3, 100, .inl g3)), (aB, .inl (kB, 200, .inl u))]) (va_A [(g, .inr (4, [.int th, .ref a1, .int sn, .ref a3, .int ct, .ref a5, .int oc, .ref a7, .ref a8, .ref a9, .int wn, .ref aB, .int (nI k), .int si, .int wg])), (a3, .inl (k3, 100, .inl g3)), (aB, .inl (kB, 200, .inl gB))] sz)) 0 0 (va_A [(g, .inr (4, [.int th, .ref a1, .int sn, .ref a3, .int ct, .ref a5, .int oc, .ref a7, .ref a8, .ref a9, .int wn, .ref aB, .int (nI k), .int si, .int wg])), (a3, .inl (k3, 100, .inl g3)), (aB, .inl (kB, 200, .inl gB))] sz) := by
  refine ofM (Qc := fun A => qcV (S := Nat → Int32) D (fun u => rw_ok u 200 (yB ++ [d, nI l3.length])) (fun u => [(g, .inr (4, [.int th, .ref a1, .int sn, .ref a3, .int ct, .ref a5, .int oc, .ref a7, .ref a8, .ref a9, .int wn, .ref aB, .int (nI (k + 1)), .int si, .int wg])), (a3, .inl (k3, 100, .inl g3)), (aB, .inl (kB, 200, .inl u))]) A) (cc := cX3_tell) (maxL := 2) (ret := none) (by decide) rfl (Nat.le_of_ble_eq_true rfl) ?_
  intro p e s m below meth c ls A hx hb hr hml hown hts hlocks hnm hP hK hN hD hA hS hl
  have hl : lv_has ls 2 [(0, .ref g), (1, .int (nI l3.length))] := hl
  have e2 : (2 * nI k : Int32) = nI yB.length := by rw [show (2 : Int32) = nI 2 from rfl, pk_mul, hk]
  have e3 : (2 * nI k + 1 : Int32) = nI (yB ++ [d]).length := by rw [e2, nI_1]; simp
  refine lv_aload_n hx hb dX3_tell_0 rfl (lv_at hl 0 rfl) ?_
  refine va_get (D := D) (ci := 4) (v := .ref aB) (C := RX3) (T := TX3) (N := 15) hx hb hts (by decide +kernel) hown hK hP 0 rfl rfl 11 (by decide) (hts (.fieldLink RX3 29 "CharacterRowsModel" "told" "[I") (by decide +kernel)) (fun _ h9 => h9) rfl dX3_tell_1 ?_
  refine lv_iconst (v := 2) hx hb dX3_tell_4 (by decide) ?_
  refine lv_aload_n hx hb dX3_tell_5 rfl (lv_at hl 0 rfl) ?_
  refine va_get (D := D) (ci := 4) (v := .int (nI k)) (C := RX3) (T := TX3) (N := 15) hx hb hts (by decide +kernel) hown hK hP 0 rfl rfl 12 (by decide) (hts (.fieldLink RX3 94 "CharacterRowsModel" "tellings" "I") (by decide +kernel)) (fun _ h9 => h9) rfl dX3_tell_6 ?_
  refine lv_imul hx hb dX3_tell_9 ?_
  refine lv_aload_n hx hb dX3_tell_10 rfl (lv_at hl 0 rfl) ?_
  refine va_get (D := D) (ci := 4) (v := .ref a3) (C := RX3) (T := TX3) (N := 15) hx hb hts (by decide +kernel) hown hK hP 0 rfl rfl 3 (by decide) (hts (.fieldLink RX3 13 "CharacterRowsModel" "text" "[I") (by decide +kernel)) (fun _ h9 => h9) rfl dX3_tell_11 ?_
  refine lv_iload_n hx hb dX3_tell_14 rfl (lv_at hl 1 rfl) ?_
  refine va_iald hx hb hK hP 1 0 rfl rfl (rwf_in (j := 0) p3 (by decide) h3 rfl rfl (by simp)) dX3_tell_15 ?_
  refine lv_topi (fun r9 hr9 => ?_)
  replace hr9 : r9 = d := hr9.trans (rwf_v (j := 0) p3 (by decide) h3 rfl rfl (by simp))
  subst r9
  refine va_iast hx hb hK hP hD hS 2 1 rfl rfl (rwf_sin pB (by decide) e2 (by omega)) dX3_tell_16 (fun H locs hP hD hS => ?_)
  have hP : va_P D vwCl [(g, .inr (4, [.int th, .ref a1, .int sn, .ref a3, .int ct, .ref a5, .int oc, .ref a7, .ref a8, .ref a9, .int wn, .ref aB, .int (nI k), .int si, .int wg])), (a3, .inl (k3, 100, .inl g3)), (aB, .inl (kB, 200, .inl (upd gB (2 * nI k).toNatClampNeg d)))] H := hP
  have hD : va_D A [(g, .inr (4, [.int th, .ref a1, .int sn, .ref a3, .int ct, .ref a5, .int oc, .ref a7, .ref a8, .ref a9, .int wn, .ref aB, .int (nI k), .int si, .int wg])), (a3, .inl (k3, 100, .inl g3)), (aB, .inl (kB, 200, .inl (upd gB (2 * nI k).toNatClampNeg d)))] := hD
  refine lv_aload_n hx hb dX3_tell_17 rfl (lv_at hl 0 rfl) ?_
  refine va_get (D := D) (ci := 4) (v := .ref aB) (C := RX3) (T := TX3) (N := 15) hx hb hts (by decide +kernel) hown hK hP 0 rfl rfl 11 (by decide) (hts (.fieldLink RX3 29 "CharacterRowsModel" "told" "[I") (by decide +kernel)) (fun _ h9 => h9) rfl dX3_tell_18 ?_
  refine lv_iconst (v := 2) hx hb dX3_tell_21 (by decide) ?_
  refine lv_aload_n hx hb dX3_tell_22 rfl (lv_at hl 0 rfl) ?_
  refine va_get (D := D) (ci := 4) (v := .int (nI k)) (C := RX3) (T := TX3) (N := 15) hx hb hts (by decide +kernel) hown hK hP 0 rfl rfl 12 (by decide) (hts (.fieldLink RX3 94 "CharacterRowsModel" "tellings" "I") (by decide +kernel)) (fun _ h9 => h9) rfl dX3_tell_23 ?_
  refine lv_imul hx hb dX3_tell_26 ?_
  refine lv_iconst (v := 1) hx hb dX3_tell_27 (by decide) ?_
  refine lv_iadd hx hb dX3_tell_28 ?_
  refine lv_iload_n hx hb dX3_tell_29 rfl (lv_at hl 1 rfl) ?_
  refine va_iast hx hb hK hP hD hS 2 1 rfl rfl (rwf_sin (rwf_snoc (c := d) pB (by decide) e2 (by omega)) (by decide) e3 (by simp; omega)) dX3_tell_30 (fun H locs hP hD hS => ?_)
  have hP : va_P D vwCl [(g, .inr (4, [.int th, .ref a1, .int sn, .ref a3, .int ct, .ref a5, .int oc, .ref a7, .ref a8, .ref a9, .int wn, .ref aB, .int (nI k), .int si, .int wg])), (a3, .inl (k3, 100, .inl g3)), (aB, .inl (kB, 200, .inl (upd (upd gB (2 * nI k).toNatClampNeg d) ((2 * nI k) + 1).toNatClampNeg (nI l3.length))))] H := hP
  have hD : va_D A [(g, .inr (4, [.int th, .ref a1, .int sn, .ref a3, .int ct, .ref a5, .int oc, .ref a7, .ref a8, .ref a9, .int wn, .ref aB, .int (nI k), .int si, .int wg])), (a3, .inl (k3, 100, .inl g3)), (aB, .inl (kB, 200, .inl (upd (upd gB (2 * nI k).toNatClampNeg d) ((2 * nI k) + 1).toNatClampNeg (nI l3.length))))] := hD
  refine lv_aload_n hx hb dX3_tell_31 rfl (lv_at hl 0 rfl) ?_
  refine lv_dup hx hb dX3_tell_32 rfl ?_
  refine va_get (D := D) (ci := 4) (v := .int (nI k)) (C := RX3) (T := TX3) (N := 15) hx hb hts (by decide +kernel) hown hK hP 0 rfl rfl 12 (by decide) (hts (.fieldLink RX3 94 "CharacterRowsModel" "tellings" "I") (by decide +kernel)) (fun _ h9 => h9) rfl dX3_tell_33 ?_
  refine lv_iconst (v := 1) hx hb dX3_tell_36 (by decide) ?_
  refine lv_iadd hx hb dX3_tell_37 ?_
  refine va_put (D := D) (ci := 4) (v := .int (nI k + 1)) (ty := .int) (C := RX3) (T := TX3) (N := 15) hx hb hts (by decide +kernel) tyX3 tyX3_ok nmX3 hown hK hP hD hS 0 rfl rfl 12 (by decide) (hts (.fieldLink RX3 94 "CharacterRowsModel" "tellings" "I") (by decide +kernel)) (fun _ h9 => h9) rfl (by decide +kernel) rfl rfl (Nat.le_of_ble_eq_true rfl) dX3_tell_38 (fun H locs hP hD hS => ?_)
  have hP : va_P D vwCl [(g, .inr (4, [.int th, .ref a1, .int sn, .ref a3, .int ct, .ref a5, .int oc, .ref a7, .ref a8, .ref a9, .int wn, .ref aB, .int (nI k + 1), .int si, .int wg])), (a3, .inl (k3, 100, .inl g3)), (aB, .inl (kB, 200, .inl (upd (upd gB (2 * nI k).toNatClampNeg d) ((2 * nI k) + 1).toNatClampNeg (nI l3.length))))] H := hP
  have hD : va_D A [(g, .inr (4, [.int th, .ref a1, .int sn, .ref a3, .int ct, .ref a5, .int oc, .ref a7, .ref a8, .ref a9, .int wn, .ref aB, .int (nI k + 1), .int si, .int wg])), (a3, .inl (k3, 100, .inl g3)), (aB, .inl (kB, 200, .inl (upd (upd gB (2 * nI k).toNatClampNeg d) ((2 * nI k) + 1).toNatClampNeg (nI l3.length))))] := hD
  have q1 := rwf_snoc (c := d) pB (by decide) e2 (by omega)
  have q2 := rwf_snoc (c := nI l3.length) q1 (by decide) e3 (by simp; omega)
  rw [nI_1] at hP hD
  rw [List.append_assoc] at q2
  exact rtV hx hb hr hlocks dX3_tell_41 _ q2 hP hD hS
set_option maxHeartbeats 4000000 in
set_option maxRecDepth 100000 in
theorem KX3_base (l : Launch) (D : va_G) (g a1 a3 a5 a7 a8 a9 aB : Nat) (th sn oc wn tn si wg : Int32) (k3 : ClassId) (g3 : Nat → Int32) (y3 : List Int32) (p3 : rw_ok g3 100 y3) (i : Int32) : Met l yX3_base wsX3_base ({ frames := 1, cells := 0, slots := 0, locals := 20 }) (pcR D [(g, .inr (4, [.int th, .ref a1, .int sn, .ref a3, .int (nI y3.length), .ref a5, .int oc, .ref a7, .ref a8, .ref a9, .int wn, .ref aB, .int tn, .int si, .int wg])), (a3, .inl (k3, 100, .inl g3))] [(k3, .int)] [.ref g, .int i]) (vp_Si (fun r => r = bsS y3 0 0 i)) 0 0 (fun _ => False) := by
  refine ofR (cc := cX3_base) (maxL := 4) (ret := (some .int)) (by decide) rfl (Nat.le_of_ble_eq_true rfl) ?_
  intro p e s m below meth c ls hx hb hr hml hown hts hlocks hP hK hN hl
  have hl : lv_has ls 4 [(0, .ref g), (1, .int i)] := hl
  refine lv_iconst (v := 0) hx hb dX3_base_0 (by decide) ?_
  refine lv_istore_n (lv' := [(2, .int 0), (0, .ref g), (1, .int i)]) hx hb dX3_base_1 rfl hl (by decide) rfl (fun ls hl => ?_)
  refine lv_iconst (v := 0) hx hb dX3_base_2 (by decide) ?_
  refine lv_istore_n (lv' := [(3, .int 0), (2, .int 0), (0, .ref g), (1, .int i)]) hx hb dX3_base_3 rfl hl (by decide) rfl (fun ls hl => ?_)
  have loop : ∀ (rest : List Int32) (done : List Int32) (x2 x3 : Int32) (ls : Array Slot), (y3 = done ++ rest) → (x3 = nI done.length) → (bsS rest done.length x2 i = bsS y3 0 0 i) → lv_has ls 4 [(3, .int x3), (2, .int x2), (0, .ref g), (1, .int i)] → W p l e ({ frames := 1, cells := 0, slots := 0, locals := 20 }) s m ([.ref g, .int i] : List Value).toArray below meth c s.heap [] 0 0 (MQ below (vp_Si (fun r => r = bsS y3 0 0 i)) ([.ref g, .int i] : List Value).toArray s 0 0 (fun _ => False)) (F0 m 4 ls [])  := by
    intro rest
    induction rest with
    | nil =>
      intro done x2 x3 ls hxs e3 hp hl
      have hln : y3.length = done.length := by rw [hxs]; simp
      refine lv_iload_n hx hb dX3_base_4 rfl (lv_at hl 0 rfl) ?_
      refine lv_aload_n hx hb dX3_base_5 rfl (lv_at hl 2 rfl) ?_
      refine va_get (D := D) (ci := 4) (v := .int (nI y3.length)) (C := RX3) (T := TX3) (N := 15) hx hb hts (by decide +kernel) hown hK hP 0 rfl rfl 4 (by decide) (hts (.fieldLink RX3 85 "CharacterRowsModel" "count" "I") (by decide +kernel)) (fun _ h9 => h9) rfl dX3_base_6 ?_
      refine lv_icmp_ge (tgt := 40) hx hb dX3_base_9 (by decide) (fun c9_1 => ?_) (fun c9_1 => ?_)
      · skip
        refine lv_iconst (v := (-1)) hx hb dX3_base_40 (by decide) ?_
        exact rtR hx hb hr hlocks dX3_base_41 (by rw [← hp]; rfl)
      · skip
        exact absurd (by rw [e3, hln]; exact Int32.le_refl _) c9_1
    | cons d t ih =>
      intro done x2 x3 ls hxs e3 hp hl
      have hln : y3.length = done.length + (t.length + 1) := by rw [hxs]; simp
      have h100 := p3.1
      refine lv_iload_n hx hb dX3_base_4 rfl (lv_at hl 0 rfl) ?_
      refine lv_aload_n hx hb dX3_base_5 rfl (lv_at hl 2 rfl) ?_
      refine va_get (D := D) (ci := 4) (v := .int (nI y3.length)) (C := RX3) (T := TX3) (N := 15) hx hb hts (by decide +kernel) hown hK hP 0 rfl rfl 4 (by decide) (hts (.fieldLink RX3 85 "CharacterRowsModel" "count" "I") (by decide +kernel)) (fun _ h9 => h9) rfl dX3_base_6 ?_
      refine lv_icmp_ge (tgt := 40) hx hb dX3_base_9 (by decide) (fun c9_2 => ?_) (fun c9_2 => ?_)
      · skip
        exact absurd c9_2 (by rw [e3, hln]; exact nI_ge (by omega) (by omega))
      · skip
        refine lv_aload_n hx hb dX3_base_12 rfl (lv_at hl 2 rfl) ?_
        refine va_get (D := D) (ci := 4) (v := .ref a3) (C := RX3) (T := TX3) (N := 15) hx hb hts (by decide +kernel) hown hK hP 0 rfl rfl 3 (by decide) (hts (.fieldLink RX3 13 "CharacterRowsModel" "text" "[I") (by decide +kernel)) (fun _ h9 => h9) rfl dX3_base_13 ?_
        refine lv_iload_n hx hb dX3_base_16 rfl (lv_at hl 0 rfl) ?_
        refine va_iald hx hb hK hP 1 0 rfl rfl (rwf_in (j := 0) p3 (by decide) hxs e3 rfl (by simp)) dX3_base_17 ?_
        refine lv_topi (fun r9 hr9 => ?_)
        replace hr9 : r9 = d := hr9.trans (rwf_v (j := 0) p3 (by decide) hxs e3 rfl (by simp))
        subst r9
        refine vp_callSi (W.runS ⟨hx, hb, hml, hown, hts⟩ (KX3_isMark l d) (va_cwS 1 hts gX3_base_X3_isMark rfl rfl rfl (by decide +kernel) ⟨Nat.le_of_ble_eq_true rfl, Nat.le_of_ble_eq_true rfl⟩) pcS_S rfl rfl hl.1 rfl (lv_room (Nat.le_of_ble_eq_true rfl)) dX3_base_18 ⟨Nat.zero_le _, Nat.zero_le _⟩) (fun r9 hr9 => ?_)
        replace hr9 : r9 = fX2_isMark d := hr9.trans (x3_isMark _)
        subst r9
        refine lv_if_ne (tgt := 34) hx hb dX3_base_21 (by decide) (fun c21_1 => ?_) (fun c21_1 => ?_)
        · skip
          refine lv_iinc (v := (x3 + 1)) (lv' := [(3, .int (x3 + 1)), (2, .int x2), (0, .ref g), (1, .int i)]) hx hb dX3_base_34 hl (k := 0) rfl rfl (by decide) rfl (fun ls hl => ?_)
          refine lv_goto (tgt := 4) hx hb dX3_base_37 (by decide) ?_
          exact ih (done ++ [d]) _ _ ls (by rw [hxs]; simp) (by rw [e3, List.length_append]; exact nI_1 _) (by rw [← hp]; simp [bsS, c21_1]) (lv_sub hl [0, 1, 2, 3] rfl)
        · skip
          refine lv_iload_n hx hb dX3_base_24 rfl (lv_at hl 1 rfl) ?_
          refine lv_iload_n hx hb dX3_base_25 rfl (lv_at hl 3 rfl) ?_
          refine lv_icmp_ne (tgt := 31) hx hb dX3_base_26 (by decide) (fun c26_1 => ?_) (fun c26_1 => ?_)
          · skip
            refine lv_iinc (v := (x2 + 1)) (lv' := [(2, .int (x2 + 1)), (3, .int x3), (0, .ref g), (1, .int i)]) hx hb dX3_base_31 hl (k := 1) rfl rfl (by decide) rfl (fun ls hl => ?_)
            refine lv_iinc (v := (x3 + 1)) (lv' := [(3, .int (x3 + 1)), (2, .int (x2 + 1)), (0, .ref g), (1, .int i)]) hx hb dX3_base_34 hl (k := 1) rfl rfl (by decide) rfl (fun ls hl => ?_)
            refine lv_goto (tgt := 4) hx hb dX3_base_37 (by decide) ?_
            exact ih (done ++ [d]) _ _ ls (by rw [hxs]; simp) (by rw [e3, List.length_append]; exact nI_1 _) (by rw [← hp]; simp [bsS, c21_1, c26_1]) (lv_sub hl [0, 1, 2, 3] rfl)
          · skip
            refine lv_iload_n hx hb dX3_base_29 rfl (lv_at hl 0 rfl) ?_
            exact rtR hx hb hr hlocks dX3_base_30 (by rw [← hp, e3]; simp [bsS, c21_1, c26_1])
  exact loop y3 [] _ _ ls rfl rfl rfl (lv_sub hl [0, 1, 2, 3] rfl)
