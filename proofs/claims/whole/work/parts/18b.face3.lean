/-! the reference: its face, the short ones; apart -/
set_option maxHeartbeats 4000000 in
set_option maxRecDepth 100000 in
theorem KX3_octet (l : Launch) (D : va_G) (g a1 a3 a5 a7 a8 a9 aB : Nat) (th ct oc wn tn si wg : Int32) (k1 : ClassId) (g1 : Nat → Int32) (y1 : List Int32) (p1 : rw_ok g1 200 y1) (v0 : Int32) (sz : Nat) : Met l yX3_octet wsX3_octet ({ frames := 0, cells := 0, slots := 0, locals := 0 }) (pcM D sz [(g, .inr (4, [.int th, .ref a1, .int (nI y1.length), .ref a3, .int ct, .ref a5, .int oc, .ref a7, .ref a8, .ref a9, .int wn, .ref aB, .int tn, .int si, .int wg])), (a1, .inl (k1, 200, .inl g1))] [(k1, .int)] [.ref g, .int v0]) (qcV (S := Nat → Int32) D (fun u => rw_ok u 200 (rw_add 200 y1 (v0 &&& 255))) (fun u => [(g, .inr (4, [.int 0, .ref a1, .int (nI (rw_add 200 y1 (v0 &&& 255)).length), .ref a3, .int ct, .ref a5, .int oc, .ref a7, .ref a8, .ref a9, .int wn, .ref aB, .int tn, .int si, .int wg])), (a1, .inl (k1, 200, .inl u))]) (va_A [(g, .inr (4, [.int th, .ref a1, .int (nI y1.length), .ref a3, .int ct, .ref a5, .int oc, .ref a7, .ref a8, .ref a9, .int wn, .ref aB, .int tn, .int si, .int wg])), (a1, .inl (k1, 200, .inl g1))] sz)) 0 0 (va_A [(g, .inr (4, [.int th, .ref a1, .int (nI y1.length), .ref a3, .int ct, .ref a5, .int oc, .ref a7, .ref a8, .ref a9, .int wn, .ref aB, .int tn, .int si, .int wg])), (a1, .inl (k1, 200, .inl g1))] sz) := by
  refine ofM (Qc := fun A => qcV (S := Nat → Int32) D (fun u => rw_ok u 200 (rw_add 200 y1 (v0 &&& 255))) (fun u => [(g, .inr (4, [.int 0, .ref a1, .int (nI (rw_add 200 y1 (v0 &&& 255)).length), .ref a3, .int ct, .ref a5, .int oc, .ref a7, .ref a8, .ref a9, .int wn, .ref aB, .int tn, .int si, .int wg])), (a1, .inl (k1, 200, .inl u))]) A) (cc := cX3_octet) (maxL := 2) (ret := none) (by decide) rfl (Nat.le_of_ble_eq_true rfl) ?_
  intro p e s m below meth c ls A hx hb hr hml hown hts hlocks hnm hP hK hN hD hA hS hl
  have hl : lv_has ls 2 [(0, .ref g), (1, .int v0)] := hl
  refine lv_aload_n hx hb dX3_octet_0 rfl (lv_at hl 0 rfl) ?_
  refine lv_iconst (v := 0) hx hb dX3_octet_1 (by decide) ?_
  refine va_put (D := D) (ci := 4) (v := .int 0) (ty := .int) (C := RX3) (T := TX3) (N := 15) hx hb hts (by decide +kernel) tyX3 tyX3_ok nmX3 hown hK hP hD hS 0 rfl rfl 0 (by decide) (hts (.fieldLink RX3 36 "CharacterRowsModel" "thrown" "I") (by decide +kernel)) (fun _ h9 => h9) rfl (by decide +kernel) rfl rfl (Nat.le_of_ble_eq_true rfl) dX3_octet_2 (fun H locs hP hD hS => ?_)
  have hP : va_P D vwCl [(g, .inr (4, [.int 0, .ref a1, .int (nI y1.length), .ref a3, .int ct, .ref a5, .int oc, .ref a7, .ref a8, .ref a9, .int wn, .ref aB, .int tn, .int si, .int wg])), (a1, .inl (k1, 200, .inl g1))] H := hP
  have hD : va_D A [(g, .inr (4, [.int 0, .ref a1, .int (nI y1.length), .ref a3, .int ct, .ref a5, .int oc, .ref a7, .ref a8, .ref a9, .int wn, .ref aB, .int tn, .int si, .int wg])), (a1, .inl (k1, 200, .inl g1))] := hD
  refine lv_aload_n hx hb dX3_octet_5 rfl (lv_at hl 0 rfl) ?_
  refine va_get (D := D) (ci := 4) (v := .int (nI y1.length)) (C := RX3) (T := TX3) (N := 15) hx hb hts (by decide +kernel) hown hK hP 0 rfl rfl 2 (by decide) (hts (.fieldLink RX3 39 "CharacterRowsModel" "size" "I") (by decide +kernel)) (fun _ h9 => h9) rfl dX3_octet_6 ?_
  refine lv_sipush (v := 200) hx hb dX3_octet_9 (by decide) ?_
  refine lv_icmp_ge (tgt := 39) hx hb dX3_octet_12 (by decide) (fun c12_1 => ?_) (fun c12_1 => ?_)
  · skip
    have e9 := rw_add_no (c := v0 &&& 255) p1 (by decide) c12_1
    exact rtV hx hb hr hlocks dX3_octet_39 g1 (by rw [e9]; exact p1) (by rw [e9]; exact hP) (by rw [e9]; exact hD) hS
  · skip
    obtain ⟨e1, e2, e3, e4⟩ := rw_add_yes (c := v0 &&& 255) p1 (by decide) c12_1
    refine lv_aload_n hx hb dX3_octet_15 rfl (lv_at hl 0 rfl) ?_
    refine va_get (D := D) (ci := 4) (v := .ref a1) (C := RX3) (T := TX3) (N := 15) hx hb hts (by decide +kernel) hown hK hP 0 rfl rfl 1 (by decide) (hts (.fieldLink RX3 7 "CharacterRowsModel" "collected" "[I") (by decide +kernel)) (fun _ h9 => h9) rfl dX3_octet_16 ?_
    refine lv_aload_n hx hb dX3_octet_19 rfl (lv_at hl 0 rfl) ?_
    refine va_get (D := D) (ci := 4) (v := .int (nI y1.length)) (C := RX3) (T := TX3) (N := 15) hx hb hts (by decide +kernel) hown hK hP 0 rfl rfl 2 (by decide) (hts (.fieldLink RX3 39 "CharacterRowsModel" "size" "I") (by decide +kernel)) (fun _ h9 => h9) rfl dX3_octet_20 ?_
    refine lv_iload_n hx hb dX3_octet_23 rfl (lv_at hl 1 rfl) ?_
    refine lv_sipush (v := 255) hx hb dX3_octet_24 (by decide) ?_
    refine lv_iand hx hb dX3_octet_27 ?_
    refine va_iast hx hb hK hP hD hS 1 0 rfl rfl (vp_in_nI e1 (by decide)) dX3_octet_28 (fun H locs hP hD hS => ?_)
    have hP : va_P D vwCl [(g, .inr (4, [.int 0, .ref a1, .int (nI y1.length), .ref a3, .int ct, .ref a5, .int oc, .ref a7, .ref a8, .ref a9, .int wn, .ref aB, .int tn, .int si, .int wg])), (a1, .inl (k1, 200, .inl (upd g1 (nI y1.length).toNatClampNeg (v0 &&& 255))))] H := hP
    have hD : va_D A [(g, .inr (4, [.int 0, .ref a1, .int (nI y1.length), .ref a3, .int ct, .ref a5, .int oc, .ref a7, .ref a8, .ref a9, .int wn, .ref aB, .int tn, .int si, .int wg])), (a1, .inl (k1, 200, .inl (upd g1 (nI y1.length).toNatClampNeg (v0 &&& 255))))] := hD
    refine lv_aload_n hx hb dX3_octet_29 rfl (lv_at hl 0 rfl) ?_
    refine lv_dup hx hb dX3_octet_30 rfl ?_
    refine va_get (D := D) (ci := 4) (v := .int (nI y1.length)) (C := RX3) (T := TX3) (N := 15) hx hb hts (by decide +kernel) hown hK hP 0 rfl rfl 2 (by decide) (hts (.fieldLink RX3 39 "CharacterRowsModel" "size" "I") (by decide +kernel)) (fun _ h9 => h9) rfl dX3_octet_31 ?_
    refine lv_iconst (v := 1) hx hb dX3_octet_34 (by decide) ?_
    refine lv_iadd hx hb dX3_octet_35 ?_
    refine va_put (D := D) (ci := 4) (v := .int (nI y1.length + 1)) (ty := .int) (C := RX3) (T := TX3) (N := 15) hx hb hts (by decide +kernel) tyX3 tyX3_ok nmX3 hown hK hP hD hS 0 rfl rfl 2 (by decide) (hts (.fieldLink RX3 39 "CharacterRowsModel" "size" "I") (by decide +kernel)) (fun _ h9 => h9) rfl (by decide +kernel) rfl rfl (Nat.le_of_ble_eq_true rfl) dX3_octet_36 (fun H locs hP hD hS => ?_)
    have hP : va_P D vwCl [(g, .inr (4, [.int 0, .ref a1, .int (nI y1.length + 1), .ref a3, .int ct, .ref a5, .int oc, .ref a7, .ref a8, .ref a9, .int wn, .ref aB, .int tn, .int si, .int wg])), (a1, .inl (k1, 200, .inl (upd g1 (nI y1.length).toNatClampNeg (v0 &&& 255))))] H := hP
    have hD : va_D A [(g, .inr (4, [.int 0, .ref a1, .int (nI y1.length + 1), .ref a3, .int ct, .ref a5, .int oc, .ref a7, .ref a8, .ref a9, .int wn, .ref aB, .int tn, .int si, .int wg])), (a1, .inl (k1, 200, .inl (upd g1 (nI y1.length).toNatClampNeg (v0 &&& 255))))] := hD
    exact rtV hx hb hr hlocks dX3_octet_39 (upd g1 (nI y1.length).toNatClampNeg (v0 &&& 255)) e4 (by rw [← e3]; exact hP) (by rw [← e3]; exact hD) hS
set_option maxHeartbeats 4000000 in
set_option maxRecDepth 100000 in
theorem KX3_character (l : Launch) (D : va_G) (g a1 a3 a5 a7 a8 a9 aB : Nat) (th sn oc wn tn si wg : Int32) (k3 : ClassId) (g3 : Nat → Int32) (y3 : List Int32) (p3 : rw_ok g3 100 y3) (i : Int32) (sz : Nat) : Met l yX3_character wsX3_character ({ frames := 0, cells := 0, slots := 0, locals := 0 }) (pcM D sz [(g, .inr (4, [.int th, .ref a1, .int sn, .ref a3, .int (nI y3.length), .ref a5, .int oc, .ref a7, .ref a8, .ref a9, .int wn, .ref aB, .int tn, .int si, .int wg])), (a3, .inl (k3, 100, .inl g3))] [(k3, .int)] [.ref g, .int i]) (qcI (S := Unit) D (fun r _ => r = rw_at y3 i) (fun _ => [(g, .inr (4, [.int 0, .ref a1, .int sn, .ref a3, .int (nI y3.length), .ref a5, .int oc, .ref a7, .ref a8, .ref a9, .int wn, .ref aB, .int tn, .int si, .int wg])), (a3, .inl (k3, 100, .inl g3))]) (va_A [(g, .inr (4, [.int th, .ref a1, .int sn, .ref a3, .int (nI y3.length), .ref a5, .int oc, .ref a7, .ref a8, .ref a9, .int wn, .ref aB, .int tn, .int si, .int wg])), (a3, .inl (k3, 100, .inl g3))] sz)) 0 0 (va_A [(g, .inr (4, [.int th, .ref a1, .int sn, .ref a3, .int (nI y3.length), .ref a5, .int oc, .ref a7, .ref a8, .ref a9, .int wn, .ref aB, .int tn, .int si, .int wg])), (a3, .inl (k3, 100, .inl g3))] sz) := by
  refine ofM (Qc := fun A => qcI (S := Unit) D (fun r _ => r = rw_at y3 i) (fun _ => [(g, .inr (4, [.int 0, .ref a1, .int sn, .ref a3, .int (nI y3.length), .ref a5, .int oc, .ref a7, .ref a8, .ref a9, .int wn, .ref aB, .int tn, .int si, .int wg])), (a3, .inl (k3, 100, .inl g3))]) A) (cc := cX3_character) (maxL := 2) (ret := (some .int)) (by decide) rfl (Nat.le_of_ble_eq_true rfl) ?_
  intro p e s m below meth c ls A hx hb hr hml hown hts hlocks hnm hP hK hN hD hA hS hl
  have hl : lv_has ls 2 [(0, .ref g), (1, .int i)] := hl
  refine lv_aload_n hx hb dX3_character_0 rfl (lv_at hl 0 rfl) ?_
  refine lv_iconst (v := 0) hx hb dX3_character_1 (by decide) ?_
  refine va_put (D := D) (ci := 4) (v := .int 0) (ty := .int) (C := RX3) (T := TX3) (N := 15) hx hb hts (by decide +kernel) tyX3 tyX3_ok nmX3 hown hK hP hD hS 0 rfl rfl 0 (by decide) (hts (.fieldLink RX3 36 "CharacterRowsModel" "thrown" "I") (by decide +kernel)) (fun _ h9 => h9) rfl (by decide +kernel) rfl rfl (Nat.le_of_ble_eq_true rfl) dX3_character_2 (fun H locs hP hD hS => ?_)
  have hP : va_P D vwCl [(g, .inr (4, [.int 0, .ref a1, .int sn, .ref a3, .int (nI y3.length), .ref a5, .int oc, .ref a7, .ref a8, .ref a9, .int wn, .ref aB, .int tn, .int si, .int wg])), (a3, .inl (k3, 100, .inl g3))] H := hP
  have hD : va_D A [(g, .inr (4, [.int 0, .ref a1, .int sn, .ref a3, .int (nI y3.length), .ref a5, .int oc, .ref a7, .ref a8, .ref a9, .int wn, .ref aB, .int tn, .int si, .int wg])), (a3, .inl (k3, 100, .inl g3))] := hD
  refine lv_iload_n hx hb dX3_character_5 rfl (lv_at hl 1 rfl) ?_
  refine lv_if_lt (tgt := 17) hx hb dX3_character_6 (by decide) (fun c6_1 => ?_) (fun c6_1 => ?_)
  · skip
    refine lv_iconst (v := (-1)) hx hb dX3_character_17 (by decide) ?_
    refine lv_goto (tgt := 27) hx hb dX3_character_18 (by decide) ?_
    exact rtI hx hb hr hlocks dX3_character_27 () (rw_at_lo c6_1) hP hD hS
  · skip
    refine lv_iload_n hx hb dX3_character_9 rfl (lv_at hl 1 rfl) ?_
    refine lv_aload_n hx hb dX3_character_10 rfl (lv_at hl 0 rfl) ?_
    refine va_get (D := D) (ci := 4) (v := .int (nI y3.length)) (C := RX3) (T := TX3) (N := 15) hx hb hts (by decide +kernel) hown hK hP 0 rfl rfl 4 (by decide) (hts (.fieldLink RX3 85 "CharacterRowsModel" "count" "I") (by decide +kernel)) (fun _ h9 => h9) rfl dX3_character_11 ?_
    refine lv_icmp_lt (tgt := 21) hx hb dX3_character_14 (by decide) (fun c14_1 => ?_) (fun c14_1 => ?_)
    · skip
      refine lv_aload_n hx hb dX3_character_21 rfl (lv_at hl 0 rfl) ?_
      refine va_get (D := D) (ci := 4) (v := .ref a3) (C := RX3) (T := TX3) (N := 15) hx hb hts (by decide +kernel) hown hK hP 0 rfl rfl 3 (by decide) (hts (.fieldLink RX3 13 "CharacterRowsModel" "text" "[I") (by decide +kernel)) (fun _ h9 => h9) rfl dX3_character_22 ?_
      refine lv_iload_n hx hb dX3_character_25 rfl (lv_at hl 1 rfl) ?_
      refine va_iald hx hb hK hP 1 0 rfl rfl (at_lt p3 (by decide) c6_1 c14_1).2 dX3_character_26 ?_
      refine lv_topi (fun r9 hr9 => ?_)
      replace hr9 : r9 = (rw_at y3 i) := hr9.trans (at_lt p3 (by decide) c6_1 c14_1).1
      subst r9
      exact rtI hx hb hr hlocks dX3_character_27 () (rfl) hP hD hS
    · skip
      refine lv_iconst (v := (-1)) hx hb dX3_character_17 (by decide) ?_
      refine lv_goto (tgt := 27) hx hb dX3_character_18 (by decide) ?_
      exact rtI hx hb hr hlocks dX3_character_27 () (at_ge p3 (by decide) c6_1 c14_1) hP hD hS
set_option maxHeartbeats 4000000 in
set_option maxRecDepth 100000 in
theorem KX3_octet2 (l : Launch) (D : va_G) (g a1 a3 a5 a7 a8 a9 aB : Nat) (th sn ct oc tn si wg : Int32) (k9 : ClassId) (g9 : Nat → Int32) (y9 : List Int32) (p9 : rw_ok g9 1200 y9) (hbys : bys y9) (i : Int32) (sz : Nat) : Met l yX3_octet2 wsX3_octet2 ({ frames := 0, cells := 0, slots := 0, locals := 0 }) (pcM D sz [(g, .inr (4, [.int th, .ref a1, .int sn, .ref a3, .int ct, .ref a5, .int oc, .ref a7, .ref a8, .ref a9, .int (nI y9.length), .ref aB, .int tn, .int si, .int wg])), (a9, .inl (k9, 1200, .inl g9))] [(k9, .byte)] [.ref g, .int i]) (qcI (S := Unit) D (fun r _ => r = o2S y9 i) (fun _ => [(g, .inr (4, [.int 0, .ref a1, .int sn, .ref a3, .int ct, .ref a5, .int oc, .ref a7, .ref a8, .ref a9, .int (nI y9.length), .ref aB, .int tn, .int si, .int wg])), (a9, .inl (k9, 1200, .inl g9))]) (va_A [(g, .inr (4, [.int th, .ref a1, .int sn, .ref a3, .int ct, .ref a5, .int oc, .ref a7, .ref a8, .ref a9, .int (nI y9.length), .ref aB, .int tn, .int si, .int wg])), (a9, .inl (k9, 1200, .inl g9))] sz)) 0 0 (va_A [(g, .inr (4, [.int th, .ref a1, .int sn, .ref a3, .int ct, .ref a5, .int oc, .ref a7, .ref a8, .ref a9, .int (nI y9.length), .ref aB, .int tn, .int si, .int wg])), (a9, .inl (k9, 1200, .inl g9))] sz) := by
  refine ofM (Qc := fun A => qcI (S := Unit) D (fun r _ => r = o2S y9 i) (fun _ => [(g, .inr (4, [.int 0, .ref a1, .int sn, .ref a3, .int ct, .ref a5, .int oc, .ref a7, .ref a8, .ref a9, .int (nI y9.length), .ref aB, .int tn, .int si, .int wg])), (a9, .inl (k9, 1200, .inl g9))]) A) (cc := cX3_octet2) (maxL := 2) (ret := (some .byte)) (by decide) rfl (Nat.le_of_ble_eq_true rfl) ?_
  intro p e s m below meth c ls A hx hb hr hml hown hts hlocks hnm hP hK hN hD hA hS hl
  have hl : lv_has ls 2 [(0, .ref g), (1, .int i)] := hl
  refine lv_aload_n hx hb dX3_octet2_0 rfl (lv_at hl 0 rfl) ?_
  refine lv_iconst (v := 0) hx hb dX3_octet2_1 (by decide) ?_
  refine va_put (D := D) (ci := 4) (v := .int 0) (ty := .int) (C := RX3) (T := TX3) (N := 15) hx hb hts (by decide +kernel) tyX3 tyX3_ok nmX3 hown hK hP hD hS 0 rfl rfl 0 (by decide) (hts (.fieldLink RX3 36 "CharacterRowsModel" "thrown" "I") (by decide +kernel)) (fun _ h9 => h9) rfl (by decide +kernel) rfl rfl (Nat.le_of_ble_eq_true rfl) dX3_octet2_2 (fun H locs hP hD hS => ?_)
  have hP : va_P D vwCl [(g, .inr (4, [.int 0, .ref a1, .int sn, .ref a3, .int ct, .ref a5, .int oc, .ref a7, .ref a8, .ref a9, .int (nI y9.length), .ref aB, .int tn, .int si, .int wg])), (a9, .inl (k9, 1200, .inl g9))] H := hP
  have hD : va_D A [(g, .inr (4, [.int 0, .ref a1, .int sn, .ref a3, .int ct, .ref a5, .int oc, .ref a7, .ref a8, .ref a9, .int (nI y9.length), .ref aB, .int tn, .int si, .int wg])), (a9, .inl (k9, 1200, .inl g9))] := hD
  refine lv_iload_n hx hb dX3_octet2_5 rfl (lv_at hl 1 rfl) ?_
  refine lv_if_lt (tgt := 17) hx hb dX3_octet2_6 (by decide) (fun c6_1 => ?_) (fun c6_1 => ?_)
  · skip
    refine lv_iconst (v := 0) hx hb dX3_octet2_17 (by decide) ?_
    refine lv_goto (tgt := 27) hx hb dX3_octet2_18 (by decide) ?_
    exact rtIz hx hb hr (by decide) hlocks dX3_octet2_27 () (by rw [o2S, if_pos c6_1]) hP hD hS
  · skip
    refine lv_iload_n hx hb dX3_octet2_9 rfl (lv_at hl 1 rfl) ?_
    refine lv_aload_n hx hb dX3_octet2_10 rfl (lv_at hl 0 rfl) ?_
    refine va_get (D := D) (ci := 4) (v := .int (nI y9.length)) (C := RX3) (T := TX3) (N := 15) hx hb hts (by decide +kernel) hown hK hP 0 rfl rfl 10 (by decide) (hts (.fieldLink RX3 91 "CharacterRowsModel" "written" "I") (by decide +kernel)) (fun _ h9 => h9) rfl dX3_octet2_11 ?_
    refine lv_icmp_lt (tgt := 21) hx hb dX3_octet2_14 (by decide) (fun c14_1 => ?_) (fun c14_1 => ?_)
    · skip
      refine lv_aload_n hx hb dX3_octet2_21 rfl (lv_at hl 0 rfl) ?_
      refine va_get (D := D) (ci := 4) (v := .ref a9) (C := RX3) (T := TX3) (N := 15) hx hb hts (by decide +kernel) hown hK hP 0 rfl rfl 9 (by decide) (hts (.fieldLink RX3 25 "CharacterRowsModel" "out" "[B") (by decide +kernel)) (fun _ h9 => h9) rfl dX3_octet2_22 ?_
      refine lv_iload_n hx hb dX3_octet2_25 rfl (lv_at hl 1 rfl) ?_
      refine va_bald hx hb hK hP 1 0 rfl rfl (o2_in p9 (by decide) c6_1 c14_1).2 dX3_octet2_26 ?_
      refine lv_topi (fun r9 hr9 => ?_)
      replace hr9 : r9 = (o2S y9 i) := hr9.trans (o2_in p9 (by decide) c6_1 c14_1).1
      subst r9
      exact rtIz hx hb hr (o2_nar hbys) hlocks dX3_octet2_27 () rfl hP hD hS
    · skip
      refine lv_iconst (v := 0) hx hb dX3_octet2_17 (by decide) ?_
      refine lv_goto (tgt := 27) hx hb dX3_octet2_18 (by decide) ?_
      exact rtIz hx hb hr (by decide) hlocks dX3_octet2_27 () (o2_hi p9 (by decide) c6_1 c14_1) hP hD hS
set_option maxHeartbeats 4000000 in
set_option maxRecDepth 100000 in
theorem KX3_told (l : Launch) (D : va_G) (g a1 a3 a5 a7 a8 a9 aB : Nat) (th sn ct oc wn si wg : Int32) (kB : ClassId) (gB : Nat → Int32) (yB : List Int32) (pB : rw_ok gB 200 yB) (k : Nat) (hk : yB.length = 2 * k) (i j : Int32) (sz : Nat) : Met l yX3_told wsX3_told ({ frames := 0, cells := 0, slots := 0, locals := 0 }) (pcM D sz [(g, .inr (4, [.int th, .ref a1, .int sn, .ref a3, .int ct, .ref a5, .int oc, .ref a7, .ref a8, .ref a9, .int wn, .ref aB, .int (nI k), .int si, .int wg])), (aB, .inl (kB, 200, .inl gB))] [(kB, .int)] [.ref g, .int i, .int j]) (qcI (S := Unit) D (fun r _ => r = tlS yB i j (nI k)) (fun _ => [(g, .inr (4, [.int 0, .ref a1, .int sn, .ref a3, .int ct, .ref a5, .int oc, .ref a7, .ref a8, .ref a9, .int wn, .ref aB, .int (nI k), .int si, .int wg])), (aB, .inl (kB, 200, .inl gB))]) (va_A [(g, .inr (4, [.int th, .ref a1, .int sn, .ref a3, .int ct, .ref a5, .int oc, .ref a7, .ref a8, .ref a9, .int wn, .ref aB, .int (nI k), .int si, .int wg])), (aB, .inl (kB, 200, .inl gB))] sz)) 0 0 (va_A [(g, .inr (4, [.int th, .ref a1, .int sn, .ref a3, .int ct, .ref a5, .int oc, .ref a7, .ref a8, .ref a9, .int wn, .ref aB, .int (nI k), .int si, .int wg])), (aB, .inl (kB, 200, .inl gB))] sz) := by
  refine ofM (Qc := fun A => qcI (S := Unit) D (fun r _ => r = tlS yB i j (nI k)) (fun _ => [(g, .inr (4, [.int 0, .ref a1, .int sn, .ref a3, .int ct, .ref a5, .int oc, .ref a7, .ref a8, .ref a9, .int wn, .ref aB, .int (nI k), .int si, .int wg])), (aB, .inl (kB, 200, .inl gB))]) A) (cc := cX3_told) (maxL := 3) (ret := (some .int)) (by decide) rfl (Nat.le_of_ble_eq_true rfl) ?_
  intro p e s m below meth c ls A hx hb hr hml hown hts hlocks hnm hP hK hN hD hA hS hl
  have hl : lv_has ls 3 [(0, .ref g), (1, .int i), (2, .int j)] := hl
  refine lv_aload_n hx hb dX3_told_0 rfl (lv_at hl 0 rfl) ?_
  refine lv_iconst (v := 0) hx hb dX3_told_1 (by decide) ?_
  refine va_put (D := D) (ci := 4) (v := .int 0) (ty := .int) (C := RX3) (T := TX3) (N := 15) hx hb hts (by decide +kernel) tyX3 tyX3_ok nmX3 hown hK hP hD hS 0 rfl rfl 0 (by decide) (hts (.fieldLink RX3 36 "CharacterRowsModel" "thrown" "I") (by decide +kernel)) (fun _ h9 => h9) rfl (by decide +kernel) rfl rfl (Nat.le_of_ble_eq_true rfl) dX3_told_2 (fun H locs hP hD hS => ?_)
  have hP : va_P D vwCl [(g, .inr (4, [.int 0, .ref a1, .int sn, .ref a3, .int ct, .ref a5, .int oc, .ref a7, .ref a8, .ref a9, .int wn, .ref aB, .int (nI k), .int si, .int wg])), (aB, .inl (kB, 200, .inl gB))] H := hP
  have hD : va_D A [(g, .inr (4, [.int 0, .ref a1, .int sn, .ref a3, .int ct, .ref a5, .int oc, .ref a7, .ref a8, .ref a9, .int wn, .ref aB, .int (nI k), .int si, .int wg])), (aB, .inl (kB, 200, .inl gB))] := hD
  refine lv_iload_n hx hb dX3_told_5 rfl (lv_at hl 1 rfl) ?_
  refine lv_if_lt (tgt := 26) hx hb dX3_told_6 (by decide) (fun c6_1 => ?_) (fun c6_1 => ?_)
  · skip
    refine lv_iconst (v := (-1)) hx hb dX3_told_26 (by decide) ?_
    refine lv_goto (tgt := 40) hx hb dX3_told_27 (by decide) ?_
    exact rtI hx hb hr hlocks dX3_told_40 () (by rw [tlS, if_pos c6_1]) hP hD hS
  · skip
    refine lv_iload_n hx hb dX3_told_9 rfl (lv_at hl 1 rfl) ?_
    refine lv_aload_n hx hb dX3_told_10 rfl (lv_at hl 0 rfl) ?_
    refine va_get (D := D) (ci := 4) (v := .int (nI k)) (C := RX3) (T := TX3) (N := 15) hx hb hts (by decide +kernel) hown hK hP 0 rfl rfl 12 (by decide) (hts (.fieldLink RX3 94 "CharacterRowsModel" "tellings" "I") (by decide +kernel)) (fun _ h9 => h9) rfl dX3_told_11 ?_
    refine lv_icmp_ge (tgt := 26) hx hb dX3_told_14 (by decide) (fun c14_1 => ?_) (fun c14_1 => ?_)
    · skip
      refine lv_iconst (v := (-1)) hx hb dX3_told_26 (by decide) ?_
      refine lv_goto (tgt := 40) hx hb dX3_told_27 (by decide) ?_
      exact rtI hx hb hr hlocks dX3_told_40 () (by rw [tlS, if_neg c6_1, if_pos c14_1]) hP hD hS
    · skip
      refine lv_iload_n hx hb dX3_told_17 rfl (lv_at hl 2 rfl) ?_
      refine lv_if_lt (tgt := 26) hx hb dX3_told_18 (by decide) (fun c18_1 => ?_) (fun c18_1 => ?_)
      · skip
        refine lv_iconst (v := (-1)) hx hb dX3_told_26 (by decide) ?_
        refine lv_goto (tgt := 40) hx hb dX3_told_27 (by decide) ?_
        exact rtI hx hb hr hlocks dX3_told_40 () (by rw [tlS, if_neg c6_1, if_neg c14_1, if_pos c18_1]) hP hD hS
      · skip
        refine lv_iload_n hx hb dX3_told_21 rfl (lv_at hl 2 rfl) ?_
        refine lv_iconst (v := 1) hx hb dX3_told_22 (by decide) ?_
        refine lv_icmp_le (tgt := 30) hx hb dX3_told_23 (by decide) (fun c23_1 => ?_) (fun c23_1 => ?_)
        · skip
          refine lv_aload_n hx hb dX3_told_30 rfl (lv_at hl 0 rfl) ?_
          refine va_get (D := D) (ci := 4) (v := .ref aB) (C := RX3) (T := TX3) (N := 15) hx hb hts (by decide +kernel) hown hK hP 0 rfl rfl 11 (by decide) (hts (.fieldLink RX3 29 "CharacterRowsModel" "told" "[I") (by decide +kernel)) (fun _ h9 => h9) rfl dX3_told_31 ?_
          refine lv_iconst (v := 2) hx hb dX3_told_34 (by decide) ?_
          refine lv_iload_n hx hb dX3_told_35 rfl (lv_at hl 1 rfl) ?_
          refine lv_imul hx hb dX3_told_36 ?_
          refine lv_iload_n hx hb dX3_told_37 rfl (lv_at hl 2 rfl) ?_
          refine lv_iadd hx hb dX3_told_38 ?_
          refine va_iald hx hb hK hP 1 0 rfl rfl (tl_in pB hk c6_1 c14_1 c18_1 c23_1).1 dX3_told_39 ?_
          refine lv_topi (fun r9 hr9 => ?_)
          replace hr9 : r9 = (yB.getD (2 * i + j).toNatClampNeg 0) := hr9.trans (tl_in pB hk c6_1 c14_1 c18_1 c23_1).2
          subst r9
          exact rtI hx hb hr hlocks dX3_told_40 () (by rw [tlS, if_neg c6_1, if_neg c14_1, if_neg c18_1, if_neg (fun q => i32_nle.mpr q c23_1)]) hP hD hS
        · skip
          refine lv_iconst (v := (-1)) hx hb dX3_told_26 (by decide) ?_
          refine lv_goto (tgt := 40) hx hb dX3_told_27 (by decide) ?_
          exact rtI hx hb hr hlocks dX3_told_40 () (by rw [tlS, if_neg c6_1, if_neg c14_1, if_neg c18_1, if_pos (i32_nle.mp c23_1)]) hP hD hS
set_option maxHeartbeats 4000000 in
set_option maxRecDepth 100000 in
theorem KX3_stand (l : Launch) (D : va_G) (g a1 a3 a5 a7 a8 a9 aB : Nat) (th sn ct oc wn tn si wg : Int32) (v0 : Int32) (sz : Nat) : Met l yX3_stand wsX3_stand ({ frames := 1, cells := 0, slots := 0, locals := 20 }) (pcM D sz [(g, .inr (4, [.int th, .ref a1, .int sn, .ref a3, .int ct, .ref a5, .int oc, .ref a7, .ref a8, .ref a9, .int wn, .ref aB, .int tn, .int si, .int wg]))] [] [.ref g, .int v0]) (qcI (S := Int32) D (fun r u => r = (if fX2_isPlain v0 = 0 then -1 else si) ∧ u = (if fX2_isPlain v0 = 0 then si else v0)) (fun u => [(g, .inr (4, [.int 0, .ref a1, .int sn, .ref a3, .int ct, .ref a5, .int oc, .ref a7, .ref a8, .ref a9, .int wn, .ref aB, .int tn, .int u, .int wg]))]) (va_A [(g, .inr (4, [.int th, .ref a1, .int sn, .ref a3, .int ct, .ref a5, .int oc, .ref a7, .ref a8, .ref a9, .int wn, .ref aB, .int tn, .int si, .int wg]))] sz)) 0 0 (va_A [(g, .inr (4, [.int th, .ref a1, .int sn, .ref a3, .int ct, .ref a5, .int oc, .ref a7, .ref a8, .ref a9, .int wn, .ref aB, .int tn, .int si, .int wg]))] sz) := by
  refine ofM (Qc := fun A => qcI (S := Int32) D (fun r u => r = (if fX2_isPlain v0 = 0 then -1 else si) ∧ u = (if fX2_isPlain v0 = 0 then si else v0)) (fun u => [(g, .inr (4, [.int 0, .ref a1, .int sn, .ref a3, .int ct, .ref a5, .int oc, .ref a7, .ref a8, .ref a9, .int wn, .ref aB, .int tn, .int u, .int wg]))]) A) (cc := cX3_stand) (maxL := 3) (ret := (some .int)) (by decide) rfl (Nat.le_of_ble_eq_true rfl) ?_
  intro p e s m below meth c ls A hx hb hr hml hown hts hlocks hnm hP hK hN hD hA hS hl
  have hl : lv_has ls 3 [(0, .ref g), (1, .int v0)] := hl
  refine lv_aload_n hx hb dX3_stand_0 rfl (lv_at hl 0 rfl) ?_
  refine lv_iconst (v := 0) hx hb dX3_stand_1 (by decide) ?_
  refine va_put (D := D) (ci := 4) (v := .int 0) (ty := .int) (C := RX3) (T := TX3) (N := 15) hx hb hts (by decide +kernel) tyX3 tyX3_ok nmX3 hown hK hP hD hS 0 rfl rfl 0 (by decide) (hts (.fieldLink RX3 36 "CharacterRowsModel" "thrown" "I") (by decide +kernel)) (fun _ h9 => h9) rfl (by decide +kernel) rfl rfl (Nat.le_of_ble_eq_true rfl) dX3_stand_2 (fun H locs hP hD hS => ?_)
  have hP : va_P D vwCl [(g, .inr (4, [.int 0, .ref a1, .int sn, .ref a3, .int ct, .ref a5, .int oc, .ref a7, .ref a8, .ref a9, .int wn, .ref aB, .int tn, .int si, .int wg]))] H := hP
  have hD : va_D A [(g, .inr (4, [.int 0, .ref a1, .int sn, .ref a3, .int ct, .ref a5, .int oc, .ref a7, .ref a8, .ref a9, .int wn, .ref aB, .int tn, .int si, .int wg]))] := hD
  refine lv_iload_n hx hb dX3_stand_5 rfl (lv_at hl 1 rfl) ?_
  refine vp_callSi (W.runS ⟨hx, hb, hml, hown, hts⟩ (KX3_isPlain l v0) (va_cwS 1 hts gX3_stand_X3_isPlain rfl rfl rfl (by decide +kernel) ⟨Nat.le_of_ble_eq_true rfl, Nat.le_of_ble_eq_true rfl⟩) pcS_S rfl rfl hl.1 rfl (lv_room (Nat.le_of_ble_eq_true rfl)) dX3_stand_6 ⟨Nat.zero_le _, Nat.zero_le _⟩) (fun r9 hr9 => ?_)
  replace hr9 : r9 = fX2_isPlain v0 := hr9.trans (x3_isPlain _)
  subst r9
  refine lv_if_ne (tgt := 14) hx hb dX3_stand_9 (by decide) (fun c9_1 => ?_) (fun c9_1 => ?_)
  · skip
    refine lv_aload_n hx hb dX3_stand_14 rfl (lv_at hl 0 rfl) ?_
    refine va_get (D := D) (ci := 4) (v := .int si) (C := RX3) (T := TX3) (N := 15) hx hb hts (by decide +kernel) hown hK hP 0 rfl rfl 13 (by decide) (hts (.fieldLink RX3 32 "CharacterRowsModel" "standIn" "I") (by decide +kernel)) (fun _ h9 => h9) rfl dX3_stand_15 ?_
    refine lv_istore_n (lv' := [(2, .int si), (0, .ref g), (1, .int v0)]) hx hb dX3_stand_18 rfl hl (by decide) rfl (fun ls hl => ?_)
    refine lv_aload_n hx hb dX3_stand_19 rfl (lv_at hl 1 rfl) ?_
    refine lv_iload_n hx hb dX3_stand_20 rfl (lv_at hl 2 rfl) ?_
    refine va_put (D := D) (ci := 4) (v := .int v0) (ty := .int) (C := RX3) (T := TX3) (N := 15) hx hb hts (by decide +kernel) tyX3 tyX3_ok nmX3 hown hK hP hD hS 0 rfl rfl 13 (by decide) (hts (.fieldLink RX3 32 "CharacterRowsModel" "standIn" "I") (by decide +kernel)) (fun _ h9 => h9) rfl (by decide +kernel) rfl rfl (Nat.le_of_ble_eq_true rfl) dX3_stand_21 (fun H locs hP hD hS => ?_)
    have hP : va_P D vwCl [(g, .inr (4, [.int 0, .ref a1, .int sn, .ref a3, .int ct, .ref a5, .int oc, .ref a7, .ref a8, .ref a9, .int wn, .ref aB, .int tn, .int v0, .int wg]))] H := hP
    have hD : va_D A [(g, .inr (4, [.int 0, .ref a1, .int sn, .ref a3, .int ct, .ref a5, .int oc, .ref a7, .ref a8, .ref a9, .int wn, .ref aB, .int tn, .int v0, .int wg]))] := hD
    refine lv_iload_n hx hb dX3_stand_24 rfl (lv_at hl 0 rfl) ?_
    exact rtI hx hb hr hlocks dX3_stand_25 v0 ⟨by rw [if_neg c9_1], by rw [if_neg c9_1]⟩ hP hD hS
  · skip
    refine lv_iconst (v := (-1)) hx hb dX3_stand_12 (by decide) ?_
    exact rtI hx hb hr hlocks dX3_stand_13 si ⟨by rw [if_pos c9_1], by rw [if_pos c9_1]⟩ hP hD hS
set_option maxHeartbeats 4000000 in
set_option maxRecDepth 100000 in
theorem KX3_thrown (l : Launch) (D : va_G) (g a1 a3 a5 a7 a8 a9 aB : Nat) (th sn ct oc wn tn si wg : Int32) : Met l yX3_thrown wsX3_thrown ({ frames := 0, cells := 0, slots := 0, locals := 0 }) (pcR D [(g, .inr (4, [.int th, .ref a1, .int sn, .ref a3, .int ct, .ref a5, .int oc, .ref a7, .ref a8, .ref a9, .int wn, .ref aB, .int tn, .int si, .int wg]))] [] [.ref g]) (vp_Si (fun r => r = th)) 0 0 (fun _ => False) := by
  refine ofR (cc := cX3_thrown) (maxL := 1) (ret := (some .int)) (by decide) rfl (Nat.le_of_ble_eq_true rfl) ?_
  intro p e s m below meth c ls hx hb hr hml hown hts hlocks hP hK hN hl
  have hl : lv_has ls 1 [(0, .ref g)] := hl
  refine lv_aload_n hx hb dX3_thrown_0 rfl (lv_at hl 0 rfl) ?_
  refine va_get (D := D) (ci := 4) (v := .int th) (C := RX3) (T := TX3) (N := 15) hx hb hts (by decide +kernel) hown hK hP 0 rfl rfl 0 (by decide) (hts (.fieldLink RX3 36 "CharacterRowsModel" "thrown" "I") (by decide +kernel)) (fun _ h9 => h9) rfl dX3_thrown_1 ?_
  exact rtR hx hb hr hlocks dX3_thrown_4 rfl
set_option maxHeartbeats 4000000 in
set_option maxRecDepth 100000 in
theorem KX3_row (l : Launch) (D : va_G) (g a1 a3 a5 a7 a8 a9 aB : Nat) (th sn ct oc wn tn si wg : Int32) (v0 v1 : Int32) (sz : Nat) : Met l yX3_row wsX3_row ({ frames := 1, cells := 0, slots := 0, locals := 21 }) (pcM D sz [(g, .inr (4, [.int th, .ref a1, .int sn, .ref a3, .int ct, .ref a5, .int oc, .ref a7, .ref a8, .ref a9, .int wn, .ref aB, .int tn, .int si, .int wg]))] [] [.ref g, .int v0, .int v1]) (qcI (S := Int32) D (fun r u => (r, u) = mrS v0 v1) (fun u => [(g, .inr (4, [.int u, .ref a1, .int sn, .ref a3, .int ct, .ref a5, .int oc, .ref a7, .ref a8, .ref a9, .int wn, .ref aB, .int tn, .int si, .int wg]))]) (va_A [(g, .inr (4, [.int th, .ref a1, .int sn, .ref a3, .int ct, .ref a5, .int oc, .ref a7, .ref a8, .ref a9, .int wn, .ref aB, .int tn, .int si, .int wg]))] sz)) 0 0 (va_A [(g, .inr (4, [.int th, .ref a1, .int sn, .ref a3, .int ct, .ref a5, .int oc, .ref a7, .ref a8, .ref a9, .int wn, .ref aB, .int tn, .int si, .int wg]))] sz) := by
  refine ofM (Qc := fun A => qcI (S := Int32) D (fun r u => (r, u) = mrS v0 v1) (fun u => [(g, .inr (4, [.int u, .ref a1, .int sn, .ref a3, .int ct, .ref a5, .int oc, .ref a7, .ref a8, .ref a9, .int wn, .ref aB, .int tn, .int si, .int wg]))]) A) (cc := cX3_row) (maxL := 3) (ret := (some .int)) (by decide) rfl (Nat.le_of_ble_eq_true rfl) ?_
  intro p e s m below meth c ls A hx hb hr hml hown hts hlocks hnm hP hK hN hD hA hS hl
  have hl : lv_has ls 3 [(0, .ref g), (1, .int v0), (2, .int v1)] := hl
  refine lv_aload_n hx hb dX3_row_0 rfl (lv_at hl 0 rfl) ?_
  refine lv_iconst (v := 0) hx hb dX3_row_1 (by decide) ?_
  refine va_put (D := D) (ci := 4) (v := .int 0) (ty := .int) (C := RX3) (T := TX3) (N := 15) hx hb hts (by decide +kernel) tyX3 tyX3_ok nmX3 hown hK hP hD hS 0 rfl rfl 0 (by decide) (hts (.fieldLink RX3 36 "CharacterRowsModel" "thrown" "I") (by decide +kernel)) (fun _ h9 => h9) rfl (by decide +kernel) rfl rfl (Nat.le_of_ble_eq_true rfl) dX3_row_2 (fun H locs hP hD hS => ?_)
  have hP : va_P D vwCl [(g, .inr (4, [.int 0, .ref a1, .int sn, .ref a3, .int ct, .ref a5, .int oc, .ref a7, .ref a8, .ref a9, .int wn, .ref aB, .int tn, .int si, .int wg]))] H := hP
  have hD : va_D A [(g, .inr (4, [.int 0, .ref a1, .int sn, .ref a3, .int ct, .ref a5, .int oc, .ref a7, .ref a8, .ref a9, .int wn, .ref aB, .int tn, .int si, .int wg]))] := hD
  refine lv_iload_n hx hb dX3_row_5 rfl (lv_at hl 1 rfl) ?_
  refine lv_if_lt (tgt := 14) hx hb dX3_row_6 (by decide) (fun c6_1 => ?_) (fun c6_1 => ?_)
  · skip
    refine lv_iconst (v := (-1)) hx hb dX3_row_14 (by decide) ?_
    exact rtI hx hb hr hlocks dX3_row_15 0 (by rw [mrS, if_pos c6_1]) hP hD hS
  · skip
    refine lv_iload_n hx hb dX3_row_9 rfl (lv_at hl 1 rfl) ?_
    refine lv_iconst (v := 2) hx hb dX3_row_10 (by decide) ?_
    refine lv_icmp_le (tgt := 16) hx hb dX3_row_11 (by decide) (fun c11_1 => ?_) (fun c11_1 => ?_)
    · skip
      refine lv_iload_n hx hb dX3_row_16 rfl (lv_at hl 2 rfl) ?_
      refine lv_if_lt (tgt := 26) hx hb dX3_row_17 (by decide) (fun c17_1 => ?_) (fun c17_1 => ?_)
      · skip
        refine lv_aload_n hx hb dX3_row_26 rfl (lv_at hl 0 rfl) ?_
        refine lv_iconst (v := 1) hx hb dX3_row_27 (by decide) ?_
        refine va_put (D := D) (ci := 4) (v := .int 1) (ty := .int) (C := RX3) (T := TX3) (N := 15) hx hb hts (by decide +kernel) tyX3 tyX3_ok nmX3 hown hK hP hD hS 0 rfl rfl 0 (by decide) (hts (.fieldLink RX3 36 "CharacterRowsModel" "thrown" "I") (by decide +kernel)) (fun _ h9 => h9) rfl (by decide +kernel) rfl rfl (Nat.le_of_ble_eq_true rfl) dX3_row_28 (fun H locs hP hD hS => ?_)
        have hP : va_P D vwCl [(g, .inr (4, [.int 1, .ref a1, .int sn, .ref a3, .int ct, .ref a5, .int oc, .ref a7, .ref a8, .ref a9, .int wn, .ref aB, .int tn, .int si, .int wg]))] H := hP
        have hD : va_D A [(g, .inr (4, [.int 1, .ref a1, .int sn, .ref a3, .int ct, .ref a5, .int oc, .ref a7, .ref a8, .ref a9, .int wn, .ref aB, .int tn, .int si, .int wg]))] := hD
        refine lv_iconst (v := 0) hx hb dX3_row_31 (by decide) ?_
        exact rtI hx hb hr hlocks dX3_row_32 1 (by rw [mrS, if_neg c6_1, if_pos c11_1, if_pos c17_1]) hP hD hS
      · skip
        refine lv_iload_n hx hb dX3_row_20 rfl (lv_at hl 2 rfl) ?_
        refine lv_bipush (v := 93) hx hb dX3_row_21 (by decide) ?_
        refine lv_icmp_le (tgt := 33) hx hb dX3_row_23 (by decide) (fun c23_1 => ?_) (fun c23_1 => ?_)
        · skip
          refine lv_iload_n hx hb dX3_row_33 rfl (lv_at hl 1 rfl) ?_
          refine lv_iload_n hx hb dX3_row_34 rfl (lv_at hl 2 rfl) ?_
          refine vp_callSi (W.runS ⟨hx, hb, hml, hown, hts⟩ (KX3_placed l v0 v1) (va_cwS 2 hts gX3_row_X3_placed rfl rfl rfl (by decide +kernel) ⟨Nat.le_of_ble_eq_true rfl, Nat.le_of_ble_eq_true rfl⟩) pcS_S rfl rfl hl.1 rfl (lv_room (Nat.le_of_ble_eq_true rfl)) dX3_row_35 ⟨Nat.zero_le _, Nat.zero_le _⟩) (fun r9 hr9 => ?_)
          subst r9
          exact rtI hx hb hr hlocks dX3_row_38 0 (by rw [mrS, if_neg c6_1, if_pos c11_1, if_neg c17_1, if_pos c23_1]) hP hD hS
        · skip
          refine lv_aload_n hx hb dX3_row_26 rfl (lv_at hl 0 rfl) ?_
          refine lv_iconst (v := 1) hx hb dX3_row_27 (by decide) ?_
          refine va_put (D := D) (ci := 4) (v := .int 1) (ty := .int) (C := RX3) (T := TX3) (N := 15) hx hb hts (by decide +kernel) tyX3 tyX3_ok nmX3 hown hK hP hD hS 0 rfl rfl 0 (by decide) (hts (.fieldLink RX3 36 "CharacterRowsModel" "thrown" "I") (by decide +kernel)) (fun _ h9 => h9) rfl (by decide +kernel) rfl rfl (Nat.le_of_ble_eq_true rfl) dX3_row_28 (fun H locs hP hD hS => ?_)
          have hP : va_P D vwCl [(g, .inr (4, [.int 1, .ref a1, .int sn, .ref a3, .int ct, .ref a5, .int oc, .ref a7, .ref a8, .ref a9, .int wn, .ref aB, .int tn, .int si, .int wg]))] H := hP
          have hD : va_D A [(g, .inr (4, [.int 1, .ref a1, .int sn, .ref a3, .int ct, .ref a5, .int oc, .ref a7, .ref a8, .ref a9, .int wn, .ref aB, .int tn, .int si, .int wg]))] := hD
          refine lv_iconst (v := 0) hx hb dX3_row_31 (by decide) ?_
          exact rtI hx hb hr hlocks dX3_row_32 1 (by rw [mrS, if_neg c6_1, if_pos c11_1, if_neg c17_1, if_neg c23_1]) hP hD hS
    · skip
      refine lv_iconst (v := (-1)) hx hb dX3_row_14 (by decide) ?_
      exact rtI hx hb hr hlocks dX3_row_15 0 (by rw [mrS, if_neg c6_1, if_neg c11_1]) hP hD hS
set_option maxHeartbeats 4000000 in
set_option maxRecDepth 100000 in
theorem KX3_nonfiling (l : Launch) (D : va_G) (g a1 a3 a5 a7 a8 a9 aB : Nat) (th sn oc wn tn si wg : Int32) (k3 : ClassId) (g3 : Nat → Int32) (y3 : List Int32) (p3 : rw_ok g3 100 y3) (i j : Int32) (sz : Nat) : Met l yX3_nonfiling wsX3_nonfiling ({ frames := 2, cells := 0, slots := 0, locals := 43 }) (pcM D sz [(g, .inr (4, [.int th, .ref a1, .int sn, .ref a3, .int (nI y3.length), .ref a5, .int oc, .ref a7, .ref a8, .ref a9, .int wn, .ref aB, .int tn, .int si, .int wg])), (a3, .inl (k3, 100, .inl g3))] [(k3, .int)] [.ref g, .int i, .int j]) (qcI (S := Unit) D (fun r _ => r = nfS y3 i j) (fun _ => [(g, .inr (4, [.int 0, .ref a1, .int sn, .ref a3, .int (nI y3.length), .ref a5, .int oc, .ref a7, .ref a8, .ref a9, .int wn, .ref aB, .int tn, .int si, .int wg])), (a3, .inl (k3, 100, .inl g3))]) (va_A [(g, .inr (4, [.int th, .ref a1, .int sn, .ref a3, .int (nI y3.length), .ref a5, .int oc, .ref a7, .ref a8, .ref a9, .int wn, .ref aB, .int tn, .int si, .int wg])), (a3, .inl (k3, 100, .inl g3))] sz)) 0 0 (va_A [(g, .inr (4, [.int th, .ref a1, .int sn, .ref a3, .int (nI y3.length), .ref a5, .int oc, .ref a7, .ref a8, .ref a9, .int wn, .ref aB, .int tn, .int si, .int wg])), (a3, .inl (k3, 100, .inl g3))] sz) := by
  refine ofM (Qc := fun A => qcI (S := Unit) D (fun r _ => r = nfS y3 i j) (fun _ => [(g, .inr (4, [.int 0, .ref a1, .int sn, .ref a3, .int (nI y3.length), .ref a5, .int oc, .ref a7, .ref a8, .ref a9, .int wn, .ref aB, .int tn, .int si, .int wg])), (a3, .inl (k3, 100, .inl g3))]) A) (cc := cX3_nonfiling) (maxL := 5) (ret := (some .int)) (by decide) rfl (Nat.le_of_ble_eq_true rfl) ?_
  intro p e s m below meth c ls A hx hb hr hml hown hts hlocks hnm hP hK hN hD hA hS hl
  have hl : lv_has ls 5 [(0, .ref g), (1, .int i), (2, .int j)] := hl
  refine lv_aload_n hx hb dX3_nonfiling_0 rfl (lv_at hl 0 rfl) ?_
  refine lv_iconst (v := 0) hx hb dX3_nonfiling_1 (by decide) ?_
  refine va_put (D := D) (ci := 4) (v := .int 0) (ty := .int) (C := RX3) (T := TX3) (N := 15) hx hb hts (by decide +kernel) tyX3 tyX3_ok nmX3 hown hK hP hD hS 0 rfl rfl 0 (by decide) (hts (.fieldLink RX3 36 "CharacterRowsModel" "thrown" "I") (by decide +kernel)) (fun _ h9 => h9) rfl (by decide +kernel) rfl rfl (Nat.le_of_ble_eq_true rfl) dX3_nonfiling_2 (fun H locs hP hD hS => ?_)
  have hP : va_P D vwCl [(g, .inr (4, [.int 0, .ref a1, .int sn, .ref a3, .int (nI y3.length), .ref a5, .int oc, .ref a7, .ref a8, .ref a9, .int wn, .ref aB, .int tn, .int si, .int wg])), (a3, .inl (k3, 100, .inl g3))] H := hP
  have hD : va_D A [(g, .inr (4, [.int 0, .ref a1, .int sn, .ref a3, .int (nI y3.length), .ref a5, .int oc, .ref a7, .ref a8, .ref a9, .int wn, .ref aB, .int tn, .int si, .int wg])), (a3, .inl (k3, 100, .inl g3))] := hD
  refine lv_iload_n hx hb dX3_nonfiling_5 rfl (lv_at hl 1 rfl) ?_
  refine lv_if_lt (tgt := 28) hx hb dX3_nonfiling_6 (by decide) (fun c6_1 => ?_) (fun c6_1 => ?_)
  · skip
    refine lv_iconst (v := (-1)) hx hb dX3_nonfiling_28 (by decide) ?_
    exact rtI hx hb hr hlocks dX3_nonfiling_29 () (by simp [nfS, kyS, c6_1]) hP hD hS
  · skip
    refine lv_iload_n hx hb dX3_nonfiling_9 rfl (lv_at hl 2 rfl) ?_
    refine lv_if_lt (tgt := 28) hx hb dX3_nonfiling_10 (by decide) (fun c10_1 => ?_) (fun c10_1 => ?_)
    · skip
      refine lv_iconst (v := (-1)) hx hb dX3_nonfiling_28 (by decide) ?_
      exact rtI hx hb hr hlocks dX3_nonfiling_29 () (by simp [nfS, kyS, c6_1, c10_1]) hP hD hS
    · skip
      refine lv_iload_n hx hb dX3_nonfiling_13 rfl (lv_at hl 1 rfl) ?_
      refine lv_if_le (tgt := 30) hx hb dX3_nonfiling_14 (by decide) (fun c14_1 => ?_) (fun c14_1 => ?_)
      · skip
        refine lv_iload_n hx hb dX3_nonfiling_30 rfl (lv_at hl 1 rfl) ?_
        refine lv_bipush (v := 100) hx hb dX3_nonfiling_31 (by decide) ?_
        refine lv_icmp_gt (tgt := 42) hx hb dX3_nonfiling_33 (by decide) (fun c33_1 => ?_) (fun c33_1 => ?_)
        · skip
          refine lv_iconst (v := (-1)) hx hb dX3_nonfiling_42 (by decide) ?_
          refine lv_goto (tgt := 53) hx hb dX3_nonfiling_43 (by decide) ?_
          refine lv_istore_n (lv' := [(3, .int (-1)), (0, .ref g), (1, .int i), (2, .int j)]) hx hb dX3_nonfiling_53 rfl hl (by decide) rfl (fun ls hl => ?_)
          refine lv_iload_n hx hb dX3_nonfiling_54 rfl (lv_at hl 0 rfl) ?_
          refine lv_iconst (v := (-1)) hx hb dX3_nonfiling_55 (by decide) ?_
          refine lv_icmp_ne (tgt := 61) hx hb dX3_nonfiling_56 (by decide) (fun c56_1 => ?_) (fun c56_1 => ?_)
          · exact absurd c56_1 (by decide)
          · skip
            refine lv_iconst (v := 0) hx hb dX3_nonfiling_59 (by decide) ?_
            have z2 : ¬ 0 < i := fun q => i32_nle.mpr q c14_1
            exact rtI hx hb hr hlocks dX3_nonfiling_60 () (by simp [nfS, kyS, c6_1, c10_1, z2, c33_1]) hP hD hS
        · skip
          refine lv_iload_n hx hb dX3_nonfiling_36 rfl (lv_at hl 2 rfl) ?_
          refine lv_bipush (v := 100) hx hb dX3_nonfiling_37 (by decide) ?_
          refine lv_icmp_le (tgt := 46) hx hb dX3_nonfiling_39 (by decide) (fun c39_1 => ?_) (fun c39_1 => ?_)
          · skip
            refine lv_aload_n hx hb dX3_nonfiling_46 rfl (lv_at hl 0 rfl) ?_
            refine lv_iload_n hx hb dX3_nonfiling_47 rfl (lv_at hl 1 rfl) ?_
            refine lv_iload_n hx hb dX3_nonfiling_48 rfl (lv_at hl 2 rfl) ?_
            refine lv_iadd hx hb dX3_nonfiling_49 ?_
            refine vp_callSi (W.runV ⟨hx, hb, hml, hown, hts⟩ (KX3_base l D g a1 a3 a5 a7 a8 a9 aB 0 sn oc wn tn si wg k3 g3 y3 p3 (i + j)) (cwV 1 hts gX3_nonfiling_X3_base rfl rfl rfl (by decide +kernel) ⟨Nat.le_of_ble_eq_true rfl, Nat.le_of_ble_eq_true rfl⟩) (pcR_V (hP.sub (ws' := [(g, .inr (4, [.int 0, .ref a1, .int sn, .ref a3, .int (nI y3.length), .ref a5, .int oc, .ref a7, .ref a8, .ref a9, .int wn, .ref aB, .int tn, .int si, .int wg])), (a3, .inl (k3, 100, .inl g3))]) [0, 1] rfl) (hK.sub (tys' := [(k3, .int)]) [0] rfl) hN 0 rfl rfl) rfl rfl hl.1 rfl (lv_room (Nat.le_of_ble_eq_true rfl)) dX3_nonfiling_50 ⟨Nat.zero_le _, Nat.zero_le _⟩) (fun r9 hr9 => ?_)
            subst r9
            refine lv_istore_n (lv' := [(3, .int (bsS y3 0 0 (i + j))), (0, .ref g), (1, .int i), (2, .int j)]) hx hb dX3_nonfiling_53 rfl hl (by decide) rfl (fun ls hl => ?_)
            refine lv_iload_n hx hb dX3_nonfiling_54 rfl (lv_at hl 0 rfl) ?_
            refine lv_iconst (v := (-1)) hx hb dX3_nonfiling_55 (by decide) ?_
            refine lv_icmp_ne (tgt := 61) hx hb dX3_nonfiling_56 (by decide) (fun c56_2 => ?_) (fun c56_2 => ?_)
            · skip
              refine lv_aload_n hx hb dX3_nonfiling_61 rfl (lv_at hl 1 rfl) ?_
              refine va_get (D := D) (ci := 4) (v := .ref a3) (C := RX3) (T := TX3) (N := 15) hx hb hts (by decide +kernel) hown hK hP 0 rfl rfl 3 (by decide) (hts (.fieldLink RX3 13 "CharacterRowsModel" "text" "[I") (by decide +kernel)) (fun _ h9 => h9) rfl dX3_nonfiling_62 ?_
              refine lv_iload_n hx hb dX3_nonfiling_65 rfl (lv_at hl 0 rfl) ?_
              refine va_iald hx hb hK hP 1 0 rfl rfl (bsS_at p3 (by decide) c56_2).1 dX3_nonfiling_66 ?_
              refine lv_topi (fun r9 hr9 => ?_)
              replace hr9 : r9 = (rw_at y3 (bsS y3 0 0 (i + j))) := hr9.trans (bsS_at p3 (by decide) c56_2).2
              subst r9
              refine vp_callSi (W.runS ⟨hx, hb, hml, hown, hts⟩ (KX3_isComposed l (rw_at y3 (bsS y3 0 0 (i + j)))) (va_cwS 1 hts gX3_nonfiling_X3_isComposed rfl rfl rfl (by decide +kernel) ⟨Nat.le_of_ble_eq_true rfl, Nat.le_of_ble_eq_true rfl⟩) pcS_S rfl rfl hl.1 rfl (lv_room (Nat.le_of_ble_eq_true rfl)) dX3_nonfiling_67 ⟨Nat.zero_le _, Nat.zero_le _⟩) (fun r9 hr9 => ?_)
              replace hr9 : r9 = fX2_isComposed (rw_at y3 (bsS y3 0 0 (i + j))) := hr9.trans (x3_isComposed _)
              subst r9
              refine lv_if_eq (tgt := 85) hx hb dX3_nonfiling_70 (by decide) (fun c70_1 => ?_) (fun c70_1 => ?_)
              · skip
                refine lv_aload_n hx hb dX3_nonfiling_85 rfl (lv_at hl 1 rfl) ?_
                refine va_get (D := D) (ci := 4) (v := .ref a3) (C := RX3) (T := TX3) (N := 15) hx hb hts (by decide +kernel) hown hK hP 0 rfl rfl 3 (by decide) (hts (.fieldLink RX3 13 "CharacterRowsModel" "text" "[I") (by decide +kernel)) (fun _ h9 => h9) rfl dX3_nonfiling_86 ?_
                refine lv_iload_n hx hb dX3_nonfiling_89 rfl (lv_at hl 0 rfl) ?_
                refine va_iald hx hb hK hP 1 0 rfl rfl (bsS_at p3 (by decide) c56_2).1 dX3_nonfiling_90 ?_
                refine lv_topi (fun r9 hr9 => ?_)
                replace hr9 : r9 = (rw_at y3 (bsS y3 0 0 (i + j))) := hr9.trans (bsS_at p3 (by decide) c56_2).2
                subst r9
                refine lv_istore (lv' := [(4, .int (rw_at y3 (bsS y3 0 0 (i + j)))), (3, .int (bsS y3 0 0 (i + j))), (0, .ref g), (1, .int i), (2, .int j)]) hx hb dX3_nonfiling_91 hl (by decide) rfl (fun ls hl => ?_)
                refine lv_iload hx hb dX3_nonfiling_93 (lv_at hl 0 rfl) ?_
                refine lv_bipush (v := 65) hx hb dX3_nonfiling_95 (by decide) ?_
                refine lv_icmp_lt (tgt := 115) hx hb dX3_nonfiling_97 (by decide) (fun c97_1 => ?_) (fun c97_1 => ?_)
                · skip
                  refine lv_iload hx hb dX3_nonfiling_115 (lv_at hl 0 rfl) ?_
                  have z2 : ¬ 0 < i := fun q => i32_nle.mpr q c14_1
                  have z4 : ¬ 100 < j := fun q => i32_nle.mpr q c39_1
                  exact rtI hx hb hr hlocks dX3_nonfiling_117 () (by simp [nfS, kyS, c6_1, c10_1, z2, c33_1, z4, c56_2, c70_1, c97_1]) hP hD hS
                · skip
                  refine lv_iload hx hb dX3_nonfiling_100 (lv_at hl 0 rfl) ?_
                  refine lv_bipush (v := 90) hx hb dX3_nonfiling_102 (by decide) ?_
                  refine lv_icmp_gt (tgt := 115) hx hb dX3_nonfiling_104 (by decide) (fun c104_1 => ?_) (fun c104_1 => ?_)
                  · skip
                    refine lv_iload hx hb dX3_nonfiling_115 (lv_at hl 0 rfl) ?_
                    have z2 : ¬ 0 < i := fun q => i32_nle.mpr q c14_1
                    have z4 : ¬ 100 < j := fun q => i32_nle.mpr q c39_1
                    exact rtI hx hb hr hlocks dX3_nonfiling_117 () (by simp [nfS, kyS, c6_1, c10_1, z2, c33_1, z4, c56_2, c70_1, c97_1, c104_1]) hP hD hS
                  · skip
                    refine lv_iload hx hb dX3_nonfiling_107 (lv_at hl 0 rfl) ?_
                    refine lv_bipush (v := 32) hx hb dX3_nonfiling_109 (by decide) ?_
                    refine lv_iadd hx hb dX3_nonfiling_111 ?_
                    refine lv_goto (tgt := 117) hx hb dX3_nonfiling_112 (by decide) ?_
                    have z2 : ¬ 0 < i := fun q => i32_nle.mpr q c14_1
                    have z4 : ¬ 100 < j := fun q => i32_nle.mpr q c39_1
                    exact rtI hx hb hr hlocks dX3_nonfiling_117 () (by simp [nfS, kyS, c6_1, c10_1, z2, c33_1, z4, c56_2, c70_1, c97_1, c104_1]) hP hD hS
              · skip
                refine lv_aload_n hx hb dX3_nonfiling_73 rfl (lv_at hl 1 rfl) ?_
                refine va_get (D := D) (ci := 4) (v := .ref a3) (C := RX3) (T := TX3) (N := 15) hx hb hts (by decide +kernel) hown hK hP 0 rfl rfl 3 (by decide) (hts (.fieldLink RX3 13 "CharacterRowsModel" "text" "[I") (by decide +kernel)) (fun _ h9 => h9) rfl dX3_nonfiling_74 ?_
                refine lv_iload_n hx hb dX3_nonfiling_77 rfl (lv_at hl 0 rfl) ?_
                refine va_iald hx hb hK hP 1 0 rfl rfl (bsS_at p3 (by decide) c56_2).1 dX3_nonfiling_78 ?_
                refine lv_topi (fun r9 hr9 => ?_)
                replace hr9 : r9 = (rw_at y3 (bsS y3 0 0 (i + j))) := hr9.trans (bsS_at p3 (by decide) c56_2).2
                subst r9
                refine vp_callSi (W.runS ⟨hx, hb, hml, hown, hts⟩ (KX3_letterOf l (rw_at y3 (bsS y3 0 0 (i + j)))) (va_cwS 1 hts gX3_nonfiling_X3_letterOf rfl rfl rfl (by decide +kernel) ⟨Nat.le_of_ble_eq_true rfl, Nat.le_of_ble_eq_true rfl⟩) pcS_S rfl rfl hl.1 rfl (lv_room (Nat.le_of_ble_eq_true rfl)) dX3_nonfiling_79 ⟨Nat.zero_le _, Nat.zero_le _⟩) (fun r9 hr9 => ?_)
                replace hr9 : r9 = fX2_letterOf (rw_at y3 (bsS y3 0 0 (i + j))) := hr9.trans (x3_letterOf _)
                subst r9
                refine lv_goto (tgt := 91) hx hb dX3_nonfiling_82 (by decide) ?_
                refine lv_istore (lv' := [(4, .int (fX2_letterOf (rw_at y3 (bsS y3 0 0 (i + j))))), (3, .int (bsS y3 0 0 (i + j))), (0, .ref g), (1, .int i), (2, .int j)]) hx hb dX3_nonfiling_91 hl (by decide) rfl (fun ls hl => ?_)
                refine lv_iload hx hb dX3_nonfiling_93 (lv_at hl 0 rfl) ?_
                refine lv_bipush (v := 65) hx hb dX3_nonfiling_95 (by decide) ?_
                refine lv_icmp_lt (tgt := 115) hx hb dX3_nonfiling_97 (by decide) (fun c97_2 => ?_) (fun c97_2 => ?_)
                · skip
                  refine lv_iload hx hb dX3_nonfiling_115 (lv_at hl 0 rfl) ?_
                  have z2 : ¬ 0 < i := fun q => i32_nle.mpr q c14_1
                  have z4 : ¬ 100 < j := fun q => i32_nle.mpr q c39_1
                  exact rtI hx hb hr hlocks dX3_nonfiling_117 () (by simp [nfS, kyS, c6_1, c10_1, z2, c33_1, z4, c56_2, c70_1, c97_2]) hP hD hS
                · skip
                  refine lv_iload hx hb dX3_nonfiling_100 (lv_at hl 0 rfl) ?_
                  refine lv_bipush (v := 90) hx hb dX3_nonfiling_102 (by decide) ?_
                  refine lv_icmp_gt (tgt := 115) hx hb dX3_nonfiling_104 (by decide) (fun c104_2 => ?_) (fun c104_2 => ?_)
                  · skip
                    refine lv_iload hx hb dX3_nonfiling_115 (lv_at hl 0 rfl) ?_
                    have z2 : ¬ 0 < i := fun q => i32_nle.mpr q c14_1
                    have z4 : ¬ 100 < j := fun q => i32_nle.mpr q c39_1
                    exact rtI hx hb hr hlocks dX3_nonfiling_117 () (by simp [nfS, kyS, c6_1, c10_1, z2, c33_1, z4, c56_2, c70_1, c97_2, c104_2]) hP hD hS
                  · skip
                    refine lv_iload hx hb dX3_nonfiling_107 (lv_at hl 0 rfl) ?_
                    refine lv_bipush (v := 32) hx hb dX3_nonfiling_109 (by decide) ?_
                    refine lv_iadd hx hb dX3_nonfiling_111 ?_
                    refine lv_goto (tgt := 117) hx hb dX3_nonfiling_112 (by decide) ?_
                    have z2 : ¬ 0 < i := fun q => i32_nle.mpr q c14_1
                    have z4 : ¬ 100 < j := fun q => i32_nle.mpr q c39_1
                    exact rtI hx hb hr hlocks dX3_nonfiling_117 () (by simp [nfS, kyS, c6_1, c10_1, z2, c33_1, z4, c56_2, c70_1, c97_2, c104_2]) hP hD hS
            · skip
              refine lv_iconst (v := 0) hx hb dX3_nonfiling_59 (by decide) ?_
              have z2 : ¬ 0 < i := fun q => i32_nle.mpr q c14_1
              have z4 : ¬ 100 < j := fun q => i32_nle.mpr q c39_1
              exact rtI hx hb hr hlocks dX3_nonfiling_60 () (by simp [nfS, kyS, c6_1, c10_1, z2, c33_1, z4, c56_2]) hP hD hS
          · skip
            refine lv_iconst (v := (-1)) hx hb dX3_nonfiling_42 (by decide) ?_
            refine lv_goto (tgt := 53) hx hb dX3_nonfiling_43 (by decide) ?_
            refine lv_istore_n (lv' := [(3, .int (-1)), (0, .ref g), (1, .int i), (2, .int j)]) hx hb dX3_nonfiling_53 rfl hl (by decide) rfl (fun ls hl => ?_)
            refine lv_iload_n hx hb dX3_nonfiling_54 rfl (lv_at hl 0 rfl) ?_
            refine lv_iconst (v := (-1)) hx hb dX3_nonfiling_55 (by decide) ?_
            refine lv_icmp_ne (tgt := 61) hx hb dX3_nonfiling_56 (by decide) (fun c56_3 => ?_) (fun c56_3 => ?_)
            · exact absurd c56_3 (by decide)
            · skip
              refine lv_iconst (v := 0) hx hb dX3_nonfiling_59 (by decide) ?_
              have z2 : ¬ 0 < i := fun q => i32_nle.mpr q c14_1
              have z4 : 100 < j := i32_nle.mp c39_1
              exact rtI hx hb hr hlocks dX3_nonfiling_60 () (by simp [nfS, kyS, c6_1, c10_1, z2, c33_1, z4]) hP hD hS
      · skip
        refine lv_aload_n hx hb dX3_nonfiling_17 rfl (lv_at hl 0 rfl) ?_
        refine lv_iload_n hx hb dX3_nonfiling_18 rfl (lv_at hl 1 rfl) ?_
        refine lv_iconst (v := 1) hx hb dX3_nonfiling_19 (by decide) ?_
        refine lv_isub hx hb dX3_nonfiling_20 ?_
        refine vp_callSi (W.runV ⟨hx, hb, hml, hown, hts⟩ (KX3_base l D g a1 a3 a5 a7 a8 a9 aB 0 sn oc wn tn si wg k3 g3 y3 p3 (i - 1)) (cwV 1 hts gX3_nonfiling_X3_base rfl rfl rfl (by decide +kernel) ⟨Nat.le_of_ble_eq_true rfl, Nat.le_of_ble_eq_true rfl⟩) (pcR_V (hP.sub (ws' := [(g, .inr (4, [.int 0, .ref a1, .int sn, .ref a3, .int (nI y3.length), .ref a5, .int oc, .ref a7, .ref a8, .ref a9, .int wn, .ref aB, .int tn, .int si, .int wg])), (a3, .inl (k3, 100, .inl g3))]) [0, 1] rfl) (hK.sub (tys' := [(k3, .int)]) [0] rfl) hN 0 rfl rfl) rfl rfl hl.1 rfl (lv_room (Nat.le_of_ble_eq_true rfl)) dX3_nonfiling_21 ⟨Nat.zero_le _, Nat.zero_le _⟩) (fun r9 hr9 => ?_)
        subst r9
        refine lv_iconst (v := (-1)) hx hb dX3_nonfiling_24 (by decide) ?_
        refine lv_icmp_ne (tgt := 30) hx hb dX3_nonfiling_25 (by decide) (fun c25_1 => ?_) (fun c25_1 => ?_)
        · skip
          refine lv_iload_n hx hb dX3_nonfiling_30 rfl (lv_at hl 1 rfl) ?_
          refine lv_bipush (v := 100) hx hb dX3_nonfiling_31 (by decide) ?_
          refine lv_icmp_gt (tgt := 42) hx hb dX3_nonfiling_33 (by decide) (fun c33_2 => ?_) (fun c33_2 => ?_)
          · skip
            refine lv_iconst (v := (-1)) hx hb dX3_nonfiling_42 (by decide) ?_
            refine lv_goto (tgt := 53) hx hb dX3_nonfiling_43 (by decide) ?_
            refine lv_istore_n (lv' := [(3, .int (-1)), (0, .ref g), (1, .int i), (2, .int j)]) hx hb dX3_nonfiling_53 rfl hl (by decide) rfl (fun ls hl => ?_)
            refine lv_iload_n hx hb dX3_nonfiling_54 rfl (lv_at hl 0 rfl) ?_
            refine lv_iconst (v := (-1)) hx hb dX3_nonfiling_55 (by decide) ?_
            refine lv_icmp_ne (tgt := 61) hx hb dX3_nonfiling_56 (by decide) (fun c56_4 => ?_) (fun c56_4 => ?_)
            · exact absurd c56_4 (by decide)
            · skip
              refine lv_iconst (v := 0) hx hb dX3_nonfiling_59 (by decide) ?_
              have z2 : 0 < i := i32_nle.mp c14_1
              exact rtI hx hb hr hlocks dX3_nonfiling_60 () (by simp [nfS, kyS, c6_1, c10_1, z2, c25_1, c33_2]) hP hD hS
          · skip
            refine lv_iload_n hx hb dX3_nonfiling_36 rfl (lv_at hl 2 rfl) ?_
            refine lv_bipush (v := 100) hx hb dX3_nonfiling_37 (by decide) ?_
            refine lv_icmp_le (tgt := 46) hx hb dX3_nonfiling_39 (by decide) (fun c39_2 => ?_) (fun c39_2 => ?_)
            · skip
              refine lv_aload_n hx hb dX3_nonfiling_46 rfl (lv_at hl 0 rfl) ?_
              refine lv_iload_n hx hb dX3_nonfiling_47 rfl (lv_at hl 1 rfl) ?_
              refine lv_iload_n hx hb dX3_nonfiling_48 rfl (lv_at hl 2 rfl) ?_
              refine lv_iadd hx hb dX3_nonfiling_49 ?_
              refine vp_callSi (W.runV ⟨hx, hb, hml, hown, hts⟩ (KX3_base l D g a1 a3 a5 a7 a8 a9 aB 0 sn oc wn tn si wg k3 g3 y3 p3 (i + j)) (cwV 1 hts gX3_nonfiling_X3_base rfl rfl rfl (by decide +kernel) ⟨Nat.le_of_ble_eq_true rfl, Nat.le_of_ble_eq_true rfl⟩) (pcR_V (hP.sub (ws' := [(g, .inr (4, [.int 0, .ref a1, .int sn, .ref a3, .int (nI y3.length), .ref a5, .int oc, .ref a7, .ref a8, .ref a9, .int wn, .ref aB, .int tn, .int si, .int wg])), (a3, .inl (k3, 100, .inl g3))]) [0, 1] rfl) (hK.sub (tys' := [(k3, .int)]) [0] rfl) hN 0 rfl rfl) rfl rfl hl.1 rfl (lv_room (Nat.le_of_ble_eq_true rfl)) dX3_nonfiling_50 ⟨Nat.zero_le _, Nat.zero_le _⟩) (fun r9 hr9 => ?_)
              subst r9
              refine lv_istore_n (lv' := [(3, .int (bsS y3 0 0 (i + j))), (0, .ref g), (1, .int i), (2, .int j)]) hx hb dX3_nonfiling_53 rfl hl (by decide) rfl (fun ls hl => ?_)
              refine lv_iload_n hx hb dX3_nonfiling_54 rfl (lv_at hl 0 rfl) ?_
              refine lv_iconst (v := (-1)) hx hb dX3_nonfiling_55 (by decide) ?_
              refine lv_icmp_ne (tgt := 61) hx hb dX3_nonfiling_56 (by decide) (fun c56_5 => ?_) (fun c56_5 => ?_)
              · skip
                refine lv_aload_n hx hb dX3_nonfiling_61 rfl (lv_at hl 1 rfl) ?_
                refine va_get (D := D) (ci := 4) (v := .ref a3) (C := RX3) (T := TX3) (N := 15) hx hb hts (by decide +kernel) hown hK hP 0 rfl rfl 3 (by decide) (hts (.fieldLink RX3 13 "CharacterRowsModel" "text" "[I") (by decide +kernel)) (fun _ h9 => h9) rfl dX3_nonfiling_62 ?_
                refine lv_iload_n hx hb dX3_nonfiling_65 rfl (lv_at hl 0 rfl) ?_
                refine va_iald hx hb hK hP 1 0 rfl rfl (bsS_at p3 (by decide) c56_5).1 dX3_nonfiling_66 ?_
                refine lv_topi (fun r9 hr9 => ?_)
                replace hr9 : r9 = (rw_at y3 (bsS y3 0 0 (i + j))) := hr9.trans (bsS_at p3 (by decide) c56_5).2
                subst r9
                refine vp_callSi (W.runS ⟨hx, hb, hml, hown, hts⟩ (KX3_isComposed l (rw_at y3 (bsS y3 0 0 (i + j)))) (va_cwS 1 hts gX3_nonfiling_X3_isComposed rfl rfl rfl (by decide +kernel) ⟨Nat.le_of_ble_eq_true rfl, Nat.le_of_ble_eq_true rfl⟩) pcS_S rfl rfl hl.1 rfl (lv_room (Nat.le_of_ble_eq_true rfl)) dX3_nonfiling_67 ⟨Nat.zero_le _, Nat.zero_le _⟩) (fun r9 hr9 => ?_)
                replace hr9 : r9 = fX2_isComposed (rw_at y3 (bsS y3 0 0 (i + j))) := hr9.trans (x3_isComposed _)
                subst r9
                refine lv_if_eq (tgt := 85) hx hb dX3_nonfiling_70 (by decide) (fun c70_2 => ?_) (fun c70_2 => ?_)
                · skip
                  refine lv_aload_n hx hb dX3_nonfiling_85 rfl (lv_at hl 1 rfl) ?_
                  refine va_get (D := D) (ci := 4) (v := .ref a3) (C := RX3) (T := TX3) (N := 15) hx hb hts (by decide +kernel) hown hK hP 0 rfl rfl 3 (by decide) (hts (.fieldLink RX3 13 "CharacterRowsModel" "text" "[I") (by decide +kernel)) (fun _ h9 => h9) rfl dX3_nonfiling_86 ?_
                  refine lv_iload_n hx hb dX3_nonfiling_89 rfl (lv_at hl 0 rfl) ?_
                  refine va_iald hx hb hK hP 1 0 rfl rfl (bsS_at p3 (by decide) c56_5).1 dX3_nonfiling_90 ?_
                  refine lv_topi (fun r9 hr9 => ?_)
                  replace hr9 : r9 = (rw_at y3 (bsS y3 0 0 (i + j))) := hr9.trans (bsS_at p3 (by decide) c56_5).2
                  subst r9
                  refine lv_istore (lv' := [(4, .int (rw_at y3 (bsS y3 0 0 (i + j)))), (3, .int (bsS y3 0 0 (i + j))), (0, .ref g), (1, .int i), (2, .int j)]) hx hb dX3_nonfiling_91 hl (by decide) rfl (fun ls hl => ?_)
                  refine lv_iload hx hb dX3_nonfiling_93 (lv_at hl 0 rfl) ?_
                  refine lv_bipush (v := 65) hx hb dX3_nonfiling_95 (by decide) ?_
                  refine lv_icmp_lt (tgt := 115) hx hb dX3_nonfiling_97 (by decide) (fun c97_3 => ?_) (fun c97_3 => ?_)
                  · skip
                    refine lv_iload hx hb dX3_nonfiling_115 (lv_at hl 0 rfl) ?_
                    have z2 : 0 < i := i32_nle.mp c14_1
                    have z5 : ¬ 100 < j := fun q => i32_nle.mpr q c39_2
                    exact rtI hx hb hr hlocks dX3_nonfiling_117 () (by simp [nfS, kyS, c6_1, c10_1, z2, c25_1, c33_2, z5, c56_5, c70_2, c97_3]) hP hD hS
                  · skip
                    refine lv_iload hx hb dX3_nonfiling_100 (lv_at hl 0 rfl) ?_
                    refine lv_bipush (v := 90) hx hb dX3_nonfiling_102 (by decide) ?_
                    refine lv_icmp_gt (tgt := 115) hx hb dX3_nonfiling_104 (by decide) (fun c104_3 => ?_) (fun c104_3 => ?_)
                    · skip
                      refine lv_iload hx hb dX3_nonfiling_115 (lv_at hl 0 rfl) ?_
                      have z2 : 0 < i := i32_nle.mp c14_1
                      have z5 : ¬ 100 < j := fun q => i32_nle.mpr q c39_2
                      exact rtI hx hb hr hlocks dX3_nonfiling_117 () (by simp [nfS, kyS, c6_1, c10_1, z2, c25_1, c33_2, z5, c56_5, c70_2, c97_3, c104_3]) hP hD hS
                    · skip
                      refine lv_iload hx hb dX3_nonfiling_107 (lv_at hl 0 rfl) ?_
                      refine lv_bipush (v := 32) hx hb dX3_nonfiling_109 (by decide) ?_
                      refine lv_iadd hx hb dX3_nonfiling_111 ?_
                      refine lv_goto (tgt := 117) hx hb dX3_nonfiling_112 (by decide) ?_
                      have z2 : 0 < i := i32_nle.mp c14_1
                      have z5 : ¬ 100 < j := fun q => i32_nle.mpr q c39_2
                      exact rtI hx hb hr hlocks dX3_nonfiling_117 () (by simp [nfS, kyS, c6_1, c10_1, z2, c25_1, c33_2, z5, c56_5, c70_2, c97_3, c104_3]) hP hD hS
                · skip
                  refine lv_aload_n hx hb dX3_nonfiling_73 rfl (lv_at hl 1 rfl) ?_
                  refine va_get (D := D) (ci := 4) (v := .ref a3) (C := RX3) (T := TX3) (N := 15) hx hb hts (by decide +kernel) hown hK hP 0 rfl rfl 3 (by decide) (hts (.fieldLink RX3 13 "CharacterRowsModel" "text" "[I") (by decide +kernel)) (fun _ h9 => h9) rfl dX3_nonfiling_74 ?_
                  refine lv_iload_n hx hb dX3_nonfiling_77 rfl (lv_at hl 0 rfl) ?_
                  refine va_iald hx hb hK hP 1 0 rfl rfl (bsS_at p3 (by decide) c56_5).1 dX3_nonfiling_78 ?_
                  refine lv_topi (fun r9 hr9 => ?_)
                  replace hr9 : r9 = (rw_at y3 (bsS y3 0 0 (i + j))) := hr9.trans (bsS_at p3 (by decide) c56_5).2
                  subst r9
                  refine vp_callSi (W.runS ⟨hx, hb, hml, hown, hts⟩ (KX3_letterOf l (rw_at y3 (bsS y3 0 0 (i + j)))) (va_cwS 1 hts gX3_nonfiling_X3_letterOf rfl rfl rfl (by decide +kernel) ⟨Nat.le_of_ble_eq_true rfl, Nat.le_of_ble_eq_true rfl⟩) pcS_S rfl rfl hl.1 rfl (lv_room (Nat.le_of_ble_eq_true rfl)) dX3_nonfiling_79 ⟨Nat.zero_le _, Nat.zero_le _⟩) (fun r9 hr9 => ?_)
                  replace hr9 : r9 = fX2_letterOf (rw_at y3 (bsS y3 0 0 (i + j))) := hr9.trans (x3_letterOf _)
                  subst r9
                  refine lv_goto (tgt := 91) hx hb dX3_nonfiling_82 (by decide) ?_
                  refine lv_istore (lv' := [(4, .int (fX2_letterOf (rw_at y3 (bsS y3 0 0 (i + j))))), (3, .int (bsS y3 0 0 (i + j))), (0, .ref g), (1, .int i), (2, .int j)]) hx hb dX3_nonfiling_91 hl (by decide) rfl (fun ls hl => ?_)
                  refine lv_iload hx hb dX3_nonfiling_93 (lv_at hl 0 rfl) ?_
                  refine lv_bipush (v := 65) hx hb dX3_nonfiling_95 (by decide) ?_
                  refine lv_icmp_lt (tgt := 115) hx hb dX3_nonfiling_97 (by decide) (fun c97_4 => ?_) (fun c97_4 => ?_)
                  · skip
                    refine lv_iload hx hb dX3_nonfiling_115 (lv_at hl 0 rfl) ?_
                    have z2 : 0 < i := i32_nle.mp c14_1
                    have z5 : ¬ 100 < j := fun q => i32_nle.mpr q c39_2
                    exact rtI hx hb hr hlocks dX3_nonfiling_117 () (by simp [nfS, kyS, c6_1, c10_1, z2, c25_1, c33_2, z5, c56_5, c70_2, c97_4]) hP hD hS
                  · skip
                    refine lv_iload hx hb dX3_nonfiling_100 (lv_at hl 0 rfl) ?_
                    refine lv_bipush (v := 90) hx hb dX3_nonfiling_102 (by decide) ?_
                    refine lv_icmp_gt (tgt := 115) hx hb dX3_nonfiling_104 (by decide) (fun c104_4 => ?_) (fun c104_4 => ?_)
                    · skip
                      refine lv_iload hx hb dX3_nonfiling_115 (lv_at hl 0 rfl) ?_
                      have z2 : 0 < i := i32_nle.mp c14_1
                      have z5 : ¬ 100 < j := fun q => i32_nle.mpr q c39_2
                      exact rtI hx hb hr hlocks dX3_nonfiling_117 () (by simp [nfS, kyS, c6_1, c10_1, z2, c25_1, c33_2, z5, c56_5, c70_2, c97_4, c104_4]) hP hD hS
                    · skip
                      refine lv_iload hx hb dX3_nonfiling_107 (lv_at hl 0 rfl) ?_
                      refine lv_bipush (v := 32) hx hb dX3_nonfiling_109 (by decide) ?_
                      refine lv_iadd hx hb dX3_nonfiling_111 ?_
                      refine lv_goto (tgt := 117) hx hb dX3_nonfiling_112 (by decide) ?_
                      have z2 : 0 < i := i32_nle.mp c14_1
                      have z5 : ¬ 100 < j := fun q => i32_nle.mpr q c39_2
                      exact rtI hx hb hr hlocks dX3_nonfiling_117 () (by simp [nfS, kyS, c6_1, c10_1, z2, c25_1, c33_2, z5, c56_5, c70_2, c97_4, c104_4]) hP hD hS
              · skip
                refine lv_iconst (v := 0) hx hb dX3_nonfiling_59 (by decide) ?_
                have z2 : 0 < i := i32_nle.mp c14_1
                have z5 : ¬ 100 < j := fun q => i32_nle.mpr q c39_2
                exact rtI hx hb hr hlocks dX3_nonfiling_60 () (by simp [nfS, kyS, c6_1, c10_1, z2, c25_1, c33_2, z5, c56_5]) hP hD hS
            · skip
              refine lv_iconst (v := (-1)) hx hb dX3_nonfiling_42 (by decide) ?_
              refine lv_goto (tgt := 53) hx hb dX3_nonfiling_43 (by decide) ?_
              refine lv_istore_n (lv' := [(3, .int (-1)), (0, .ref g), (1, .int i), (2, .int j)]) hx hb dX3_nonfiling_53 rfl hl (by decide) rfl (fun ls hl => ?_)
              refine lv_iload_n hx hb dX3_nonfiling_54 rfl (lv_at hl 0 rfl) ?_
              refine lv_iconst (v := (-1)) hx hb dX3_nonfiling_55 (by decide) ?_
              refine lv_icmp_ne (tgt := 61) hx hb dX3_nonfiling_56 (by decide) (fun c56_6 => ?_) (fun c56_6 => ?_)
              · exact absurd c56_6 (by decide)
              · skip
                refine lv_iconst (v := 0) hx hb dX3_nonfiling_59 (by decide) ?_
                have z2 : 0 < i := i32_nle.mp c14_1
                have z5 : 100 < j := i32_nle.mp c39_2
                exact rtI hx hb hr hlocks dX3_nonfiling_60 () (by simp [nfS, kyS, c6_1, c10_1, z2, c25_1, c33_2, z5]) hP hD hS
        · skip
          refine lv_iconst (v := (-1)) hx hb dX3_nonfiling_28 (by decide) ?_
          have z2 : 0 < i := i32_nle.mp c14_1
          exact rtI hx hb hr hlocks dX3_nonfiling_29 () (by simp [nfS, kyS, c6_1, c10_1, z2, c25_1]) hP hD hS
set_option maxHeartbeats 4000000 in
set_option maxRecDepth 100000 in
theorem KX3_mark (l : Launch) (D : va_G) (g a1 a3 a5 a7 a8 a9 aB : Nat) (th sn oc wn tn si wg : Int32) (k3 : ClassId) (g3 : Nat → Int32) (y3 : List Int32) (p3 : rw_ok g3 100 y3) (i : Int32) (sz : Nat) : Met l yX3_mark wsX3_mark ({ frames := 2, cells := 0, slots := 0, locals := 43 }) (pcM D sz [(g, .inr (4, [.int th, .ref a1, .int sn, .ref a3, .int (nI y3.length), .ref a5, .int oc, .ref a7, .ref a8, .ref a9, .int wn, .ref aB, .int tn, .int si, .int wg])), (a3, .inl (k3, 100, .inl g3))] [(k3, .int)] [.ref g, .int i]) (qcI (S := Unit) D (fun r _ => r = mmS y3 i) (fun _ => [(g, .inr (4, [.int 0, .ref a1, .int sn, .ref a3, .int (nI y3.length), .ref a5, .int oc, .ref a7, .ref a8, .ref a9, .int wn, .ref aB, .int tn, .int si, .int wg])), (a3, .inl (k3, 100, .inl g3))]) (va_A [(g, .inr (4, [.int th, .ref a1, .int sn, .ref a3, .int (nI y3.length), .ref a5, .int oc, .ref a7, .ref a8, .ref a9, .int wn, .ref aB, .int tn, .int si, .int wg])), (a3, .inl (k3, 100, .inl g3))] sz)) 0 0 (va_A [(g, .inr (4, [.int th, .ref a1, .int sn, .ref a3, .int (nI y3.length), .ref a5, .int oc, .ref a7, .ref a8, .ref a9, .int wn, .ref aB, .int tn, .int si, .int wg])), (a3, .inl (k3, 100, .inl g3))] sz) := by
  refine ofM (Qc := fun A => qcI (S := Unit) D (fun r _ => r = mmS y3 i) (fun _ => [(g, .inr (4, [.int 0, .ref a1, .int sn, .ref a3, .int (nI y3.length), .ref a5, .int oc, .ref a7, .ref a8, .ref a9, .int wn, .ref aB, .int tn, .int si, .int wg])), (a3, .inl (k3, 100, .inl g3))]) A) (cc := cX3_mark) (maxL := 5) (ret := (some .int)) (by decide) rfl (Nat.le_of_ble_eq_true rfl) ?_
  intro p e s m below meth c ls A hx hb hr hml hown hts hlocks hnm hP hK hN hD hA hS hl
  have hl : lv_has ls 5 [(0, .ref g), (1, .int i)] := hl
  refine lv_aload_n hx hb dX3_mark_0 rfl (lv_at hl 0 rfl) ?_
  refine lv_iconst (v := 0) hx hb dX3_mark_1 (by decide) ?_
  refine va_put (D := D) (ci := 4) (v := .int 0) (ty := .int) (C := RX3) (T := TX3) (N := 15) hx hb hts (by decide +kernel) tyX3 tyX3_ok nmX3 hown hK hP hD hS 0 rfl rfl 0 (by decide) (hts (.fieldLink RX3 36 "CharacterRowsModel" "thrown" "I") (by decide +kernel)) (fun _ h9 => h9) rfl (by decide +kernel) rfl rfl (Nat.le_of_ble_eq_true rfl) dX3_mark_2 (fun H locs hP hD hS => ?_)
  have hP : va_P D vwCl [(g, .inr (4, [.int 0, .ref a1, .int sn, .ref a3, .int (nI y3.length), .ref a5, .int oc, .ref a7, .ref a8, .ref a9, .int wn, .ref aB, .int tn, .int si, .int wg])), (a3, .inl (k3, 100, .inl g3))] H := hP
  have hD : va_D A [(g, .inr (4, [.int 0, .ref a1, .int sn, .ref a3, .int (nI y3.length), .ref a5, .int oc, .ref a7, .ref a8, .ref a9, .int wn, .ref aB, .int tn, .int si, .int wg])), (a3, .inl (k3, 100, .inl g3))] := hD
  refine lv_iload_n hx hb dX3_mark_5 rfl (lv_at hl 1 rfl) ?_
  refine lv_if_ge (tgt := 13) hx hb dX3_mark_6 (by decide) (fun c6_1 => ?_) (fun c6_1 => ?_)
  · skip
    refine lv_aload_n hx hb dX3_mark_13 rfl (lv_at hl 0 rfl) ?_
    refine lv_iload_n hx hb dX3_mark_14 rfl (lv_at hl 1 rfl) ?_
    refine vp_callSi (W.runV ⟨hx, hb, hml, hown, hts⟩ (KX3_base l D g a1 a3 a5 a7 a8 a9 aB 0 sn oc wn tn si wg k3 g3 y3 p3 i) (cwV 1 hts gX3_mark_X3_base rfl rfl rfl (by decide +kernel) ⟨Nat.le_of_ble_eq_true rfl, Nat.le_of_ble_eq_true rfl⟩) (pcR_V (hP.sub (ws' := [(g, .inr (4, [.int 0, .ref a1, .int sn, .ref a3, .int (nI y3.length), .ref a5, .int oc, .ref a7, .ref a8, .ref a9, .int wn, .ref aB, .int tn, .int si, .int wg])), (a3, .inl (k3, 100, .inl g3))]) [0, 1] rfl) (hK.sub (tys' := [(k3, .int)]) [0] rfl) hN 0 rfl rfl) rfl rfl hl.1 rfl (lv_room (Nat.le_of_ble_eq_true rfl)) dX3_mark_15 ⟨Nat.zero_le _, Nat.zero_le _⟩) (fun r9 hr9 => ?_)
    subst r9
    refine lv_istore_n (lv' := [(2, .int (bsS y3 0 0 i)), (0, .ref g), (1, .int i)]) hx hb dX3_mark_18 rfl hl (by decide) rfl (fun ls hl => ?_)
    refine lv_iload_n hx hb dX3_mark_19 rfl (lv_at hl 0 rfl) ?_
    refine lv_iconst (v := (-1)) hx hb dX3_mark_20 (by decide) ?_
    refine lv_icmp_ne (tgt := 26) hx hb dX3_mark_21 (by decide) (fun c21_1 => ?_) (fun c21_1 => ?_)
    · skip
      obtain ⟨j9, hj9, ej9⟩ := (bsS_in y3 0 0 i).resolve_left c21_1
      rw [Nat.zero_add] at ej9
      have h100 := p3.1
      refine lv_aload_n hx hb dX3_mark_26 rfl (lv_at hl 1 rfl) ?_
      refine va_get (D := D) (ci := 4) (v := .ref a3) (C := RX3) (T := TX3) (N := 15) hx hb hts (by decide +kernel) hown hK hP 0 rfl rfl 3 (by decide) (hts (.fieldLink RX3 13 "CharacterRowsModel" "text" "[I") (by decide +kernel)) (fun _ h9 => h9) rfl dX3_mark_27 ?_
      refine lv_iload_n hx hb dX3_mark_30 rfl (lv_at hl 0 rfl) ?_
      refine va_iald hx hb hK hP 1 0 rfl rfl (bsS_at p3 (by decide) c21_1).1 dX3_mark_31 ?_
      refine lv_topi (fun r9 hr9 => ?_)
      replace hr9 : r9 = (rw_at y3 (bsS y3 0 0 i)) := hr9.trans (bsS_at p3 (by decide) c21_1).2
      subst r9
      refine vp_callSi (W.runS ⟨hx, hb, hml, hown, hts⟩ (KX3_isComposed l (rw_at y3 (bsS y3 0 0 i))) (va_cwS 1 hts gX3_mark_X3_isComposed rfl rfl rfl (by decide +kernel) ⟨Nat.le_of_ble_eq_true rfl, Nat.le_of_ble_eq_true rfl⟩) pcS_S rfl rfl hl.1 rfl (lv_room (Nat.le_of_ble_eq_true rfl)) dX3_mark_32 ⟨Nat.zero_le _, Nat.zero_le _⟩) (fun r9 hr9 => ?_)
      replace hr9 : r9 = fX2_isComposed (rw_at y3 (bsS y3 0 0 i)) := hr9.trans (x3_isComposed _)
      subst r9
      refine lv_if_eq (tgt := 42) hx hb dX3_mark_35 (by decide) (fun c35_1 => ?_) (fun c35_1 => ?_)
      · skip
        refine lv_iconst (v := 0) hx hb dX3_mark_42 (by decide) ?_
        refine lv_istore_n (lv' := [(3, .int 0), (2, .int (bsS y3 0 0 i)), (0, .ref g), (1, .int i)]) hx hb dX3_mark_43 rfl hl (by decide) rfl (fun ls hl => ?_)
        refine lv_iload_n hx hb dX3_mark_44 rfl (lv_at hl 1 rfl) ?_
        refine lv_iconst (v := 1) hx hb dX3_mark_45 (by decide) ?_
        refine lv_iadd hx hb dX3_mark_46 ?_
        refine lv_istore (lv' := [(4, .int ((bsS y3 0 0 i) + 1)), (3, .int 0), (2, .int (bsS y3 0 0 i)), (0, .ref g), (1, .int i)]) hx hb dX3_mark_47 hl (by decide) rfl (fun ls hl => ?_)
        have loop : ∀ (rs done : List Int32) (k : Nat) (x3 x4 : Int32) (ls : Array Slot), y3 = done ++ rs → x4 = nI done.length → k + lmk rs = lmk (y3.drop (j9 + 1)) → x3 = 0 + nI k → lv_has ls 5 [(4, .int x4), (3, .int x3), (2, .int (bsS y3 0 0 i)), (0, .ref g), (1, .int i)] → W p l e ({ frames := 2, cells := 0, slots := 0, locals := 43 }) s m ([.ref g, .int i] : List Value).toArray below meth c H locs 0 0 (MQ below (qcI (S := Unit) D (fun r _ => r = mmS y3 i) (fun _ => [(g, .inr (4, [.int 0, .ref a1, .int sn, .ref a3, .int (nI y3.length), .ref a5, .int oc, .ref a7, .ref a8, .ref a9, .int wn, .ref aB, .int tn, .int si, .int wg])), (a3, .inl (k3, 100, .inl g3))]) A) ([.ref g, .int i] : List Value).toArray s 0 0 A) (F0 m 49 ls []) := by
          intro rs
          induction rs with
          | nil =>
            intro done k x3 x4 ls hxs2 e4 hp e3 hl
            have hln : y3.length = done.length := by rw [hxs2]; simp
            refine lv_iload hx hb dX3_mark_49 (lv_at hl 0 rfl) ?_
            refine lv_aload_n hx hb dX3_mark_51 rfl (lv_at hl 3 rfl) ?_
            refine va_get (D := D) (ci := 4) (v := .int (nI y3.length)) (C := RX3) (T := TX3) (N := 15) hx hb hts (by decide +kernel) hown hK hP 0 rfl rfl 4 (by decide) (hts (.fieldLink RX3 85 "CharacterRowsModel" "count" "I") (by decide +kernel)) (fun _ h9 => h9) rfl dX3_mark_52 ?_
            refine lv_icmp_ge (tgt := 80) hx hb dX3_mark_55 (by decide) (fun c55_1 => ?_) (fun c55_1 => ?_)
            · skip
              refine lv_iload_n hx hb dX3_mark_80 rfl (lv_at hl 1 rfl) ?_
              have hk9 : nI k = nI (lmk (y3.drop (j9 + 1))) := by rw [← hp]; simp [lmk]
              exact rtI hx hb hr hlocks dX3_mark_81 () (by rw [mmS, if_neg (fun q => i32_nle.mpr q c6_1), if_neg c21_1, if_pos c35_1, ej9, nI_clamp (by omega), e3, hk9]) hP hD hS
            · skip
              exact absurd (by rw [e4, hln]; exact Int32.le_refl _) c55_1
          | cons d t ih =>
            intro done k x3 x4 ls hxs2 e4 hp e3 hl
            have hln : y3.length = done.length + (t.length + 1) := by rw [hxs2]; simp
            refine lv_iload hx hb dX3_mark_49 (lv_at hl 0 rfl) ?_
            refine lv_aload_n hx hb dX3_mark_51 rfl (lv_at hl 3 rfl) ?_
            refine va_get (D := D) (ci := 4) (v := .int (nI y3.length)) (C := RX3) (T := TX3) (N := 15) hx hb hts (by decide +kernel) hown hK hP 0 rfl rfl 4 (by decide) (hts (.fieldLink RX3 85 "CharacterRowsModel" "count" "I") (by decide +kernel)) (fun _ h9 => h9) rfl dX3_mark_52 ?_
            refine lv_icmp_ge (tgt := 80) hx hb dX3_mark_55 (by decide) (fun c55_2 => ?_) (fun c55_2 => ?_)
            · skip
              exact absurd c55_2 (by rw [e4, hln]; exact nI_ge (by omega) (by omega))
            · skip
              refine lv_aload_n hx hb dX3_mark_58 rfl (lv_at hl 3 rfl) ?_
              refine va_get (D := D) (ci := 4) (v := .ref a3) (C := RX3) (T := TX3) (N := 15) hx hb hts (by decide +kernel) hown hK hP 0 rfl rfl 3 (by decide) (hts (.fieldLink RX3 13 "CharacterRowsModel" "text" "[I") (by decide +kernel)) (fun _ h9 => h9) rfl dX3_mark_59 ?_
              refine lv_iload hx hb dX3_mark_62 (lv_at hl 0 rfl) ?_
              refine va_iald hx hb hK hP 1 0 rfl rfl (rwf_in (j := 0) p3 (by decide) hxs2 e4 rfl (by simp)) dX3_mark_64 ?_
              refine lv_topi (fun r9 hr9 => ?_)
              replace hr9 : r9 = d := hr9.trans (rwf_v (j := 0) p3 (by decide) hxs2 e4 rfl (by simp))
              subst r9
              refine vp_callSi (W.runS ⟨hx, hb, hml, hown, hts⟩ (KX3_isMark l d) (va_cwS 1 hts gX3_mark_X3_isMark rfl rfl rfl (by decide +kernel) ⟨Nat.le_of_ble_eq_true rfl, Nat.le_of_ble_eq_true rfl⟩) pcS_S rfl rfl hl.1 rfl (lv_room (Nat.le_of_ble_eq_true rfl)) dX3_mark_65 ⟨Nat.zero_le _, Nat.zero_le _⟩) (fun r9 hr9 => ?_)
              replace hr9 : r9 = fX2_isMark d := hr9.trans (x3_isMark _)
              subst r9
              refine lv_if_eq (tgt := 80) hx hb dX3_mark_68 (by decide) (fun c68_1 => ?_) (fun c68_1 => ?_)
              · skip
                refine lv_iload_n hx hb dX3_mark_80 rfl (lv_at hl 1 rfl) ?_
                have hk9 : nI k = nI (lmk (y3.drop (j9 + 1))) := by rw [← hp]; simp [lmk, c68_1]
                exact rtI hx hb hr hlocks dX3_mark_81 () (by rw [mmS, if_neg (fun q => i32_nle.mpr q c6_1), if_neg c21_1, if_pos c35_1, ej9, nI_clamp (by omega), e3, hk9]) hP hD hS
              · skip
                refine lv_iinc (v := (x3 + 1)) (lv' := [(3, .int (x3 + 1)), (4, .int x4), (2, .int (bsS y3 0 0 i)), (0, .ref g), (1, .int i)]) hx hb dX3_mark_71 hl (k := 1) rfl rfl (by decide) rfl (fun ls hl => ?_)
                refine lv_iinc (v := (x4 + 1)) (lv' := [(4, .int (x4 + 1)), (3, .int (x3 + 1)), (2, .int (bsS y3 0 0 i)), (0, .ref g), (1, .int i)]) hx hb dX3_mark_74 hl (k := 1) rfl rfl (by decide) rfl (fun ls hl => ?_)
                refine lv_goto (tgt := 49) hx hb dX3_mark_77 (by decide) ?_
                exact ih (done ++ [d]) (k + 1) _ _ ls (by rw [hxs2]; simp) (by rw [e4, List.length_append]; exact nI_1 _) (by rw [← hp]; simp [lmk, c68_1]; omega) (by rw [e3, Int32.add_assoc, nI_1]) (lv_sub hl [0, 1, 2, 3, 4] rfl)
        exact loop (y3.drop (j9 + 1)) (y3.take (j9 + 1)) 0 _ _ ls (List.take_append_drop _ _).symm (by rw [ej9, nI_1, List.length_take, Nat.min_eq_left (by omega)]) (Nat.zero_add _) (by exact (Int32.add_zero _).symm) (lv_sub hl [0, 1, 2, 3, 4] rfl)
      · skip
        refine lv_iconst (v := 1) hx hb dX3_mark_38 (by decide) ?_
        refine lv_goto (tgt := 43) hx hb dX3_mark_39 (by decide) ?_
        refine lv_istore_n (lv' := [(3, .int 1), (2, .int (bsS y3 0 0 i)), (0, .ref g), (1, .int i)]) hx hb dX3_mark_43 rfl hl (by decide) rfl (fun ls hl => ?_)
        refine lv_iload_n hx hb dX3_mark_44 rfl (lv_at hl 1 rfl) ?_
        refine lv_iconst (v := 1) hx hb dX3_mark_45 (by decide) ?_
        refine lv_iadd hx hb dX3_mark_46 ?_
        refine lv_istore (lv' := [(4, .int ((bsS y3 0 0 i) + 1)), (3, .int 1), (2, .int (bsS y3 0 0 i)), (0, .ref g), (1, .int i)]) hx hb dX3_mark_47 hl (by decide) rfl (fun ls hl => ?_)
        have loop : ∀ (rs done : List Int32) (k : Nat) (x3 x4 : Int32) (ls : Array Slot), y3 = done ++ rs → x4 = nI done.length → k + lmk rs = lmk (y3.drop (j9 + 1)) → x3 = 1 + nI k → lv_has ls 5 [(4, .int x4), (3, .int x3), (2, .int (bsS y3 0 0 i)), (0, .ref g), (1, .int i)] → W p l e ({ frames := 2, cells := 0, slots := 0, locals := 43 }) s m ([.ref g, .int i] : List Value).toArray below meth c H locs 0 0 (MQ below (qcI (S := Unit) D (fun r _ => r = mmS y3 i) (fun _ => [(g, .inr (4, [.int 0, .ref a1, .int sn, .ref a3, .int (nI y3.length), .ref a5, .int oc, .ref a7, .ref a8, .ref a9, .int wn, .ref aB, .int tn, .int si, .int wg])), (a3, .inl (k3, 100, .inl g3))]) A) ([.ref g, .int i] : List Value).toArray s 0 0 A) (F0 m 49 ls []) := by
          intro rs
          induction rs with
          | nil =>
            intro done k x3 x4 ls hxs2 e4 hp e3 hl
            have hln : y3.length = done.length := by rw [hxs2]; simp
            refine lv_iload hx hb dX3_mark_49 (lv_at hl 0 rfl) ?_
            refine lv_aload_n hx hb dX3_mark_51 rfl (lv_at hl 3 rfl) ?_
            refine va_get (D := D) (ci := 4) (v := .int (nI y3.length)) (C := RX3) (T := TX3) (N := 15) hx hb hts (by decide +kernel) hown hK hP 0 rfl rfl 4 (by decide) (hts (.fieldLink RX3 85 "CharacterRowsModel" "count" "I") (by decide +kernel)) (fun _ h9 => h9) rfl dX3_mark_52 ?_
            refine lv_icmp_ge (tgt := 80) hx hb dX3_mark_55 (by decide) (fun c55_3 => ?_) (fun c55_3 => ?_)
            · skip
              refine lv_iload_n hx hb dX3_mark_80 rfl (lv_at hl 1 rfl) ?_
              have hk9 : nI k = nI (lmk (y3.drop (j9 + 1))) := by rw [← hp]; simp [lmk]
              exact rtI hx hb hr hlocks dX3_mark_81 () (by rw [mmS, if_neg (fun q => i32_nle.mpr q c6_1), if_neg c21_1, if_neg c35_1, ej9, nI_clamp (by omega), e3, hk9]) hP hD hS
            · skip
              exact absurd (by rw [e4, hln]; exact Int32.le_refl _) c55_3
          | cons d t ih =>
            intro done k x3 x4 ls hxs2 e4 hp e3 hl
            have hln : y3.length = done.length + (t.length + 1) := by rw [hxs2]; simp
            refine lv_iload hx hb dX3_mark_49 (lv_at hl 0 rfl) ?_
            refine lv_aload_n hx hb dX3_mark_51 rfl (lv_at hl 3 rfl) ?_
            refine va_get (D := D) (ci := 4) (v := .int (nI y3.length)) (C := RX3) (T := TX3) (N := 15) hx hb hts (by decide +kernel) hown hK hP 0 rfl rfl 4 (by decide) (hts (.fieldLink RX3 85 "CharacterRowsModel" "count" "I") (by decide +kernel)) (fun _ h9 => h9) rfl dX3_mark_52 ?_
            refine lv_icmp_ge (tgt := 80) hx hb dX3_mark_55 (by decide) (fun c55_4 => ?_) (fun c55_4 => ?_)
            · skip
              exact absurd c55_4 (by rw [e4, hln]; exact nI_ge (by omega) (by omega))
            · skip
              refine lv_aload_n hx hb dX3_mark_58 rfl (lv_at hl 3 rfl) ?_
              refine va_get (D := D) (ci := 4) (v := .ref a3) (C := RX3) (T := TX3) (N := 15) hx hb hts (by decide +kernel) hown hK hP 0 rfl rfl 3 (by decide) (hts (.fieldLink RX3 13 "CharacterRowsModel" "text" "[I") (by decide +kernel)) (fun _ h9 => h9) rfl dX3_mark_59 ?_
              refine lv_iload hx hb dX3_mark_62 (lv_at hl 0 rfl) ?_
              refine va_iald hx hb hK hP 1 0 rfl rfl (rwf_in (j := 0) p3 (by decide) hxs2 e4 rfl (by simp)) dX3_mark_64 ?_
              refine lv_topi (fun r9 hr9 => ?_)
              replace hr9 : r9 = d := hr9.trans (rwf_v (j := 0) p3 (by decide) hxs2 e4 rfl (by simp))
              subst r9
              refine vp_callSi (W.runS ⟨hx, hb, hml, hown, hts⟩ (KX3_isMark l d) (va_cwS 1 hts gX3_mark_X3_isMark rfl rfl rfl (by decide +kernel) ⟨Nat.le_of_ble_eq_true rfl, Nat.le_of_ble_eq_true rfl⟩) pcS_S rfl rfl hl.1 rfl (lv_room (Nat.le_of_ble_eq_true rfl)) dX3_mark_65 ⟨Nat.zero_le _, Nat.zero_le _⟩) (fun r9 hr9 => ?_)
              replace hr9 : r9 = fX2_isMark d := hr9.trans (x3_isMark _)
              subst r9
              refine lv_if_eq (tgt := 80) hx hb dX3_mark_68 (by decide) (fun c68_2 => ?_) (fun c68_2 => ?_)
              · skip
                refine lv_iload_n hx hb dX3_mark_80 rfl (lv_at hl 1 rfl) ?_
                have hk9 : nI k = nI (lmk (y3.drop (j9 + 1))) := by rw [← hp]; simp [lmk, c68_2]
                exact rtI hx hb hr hlocks dX3_mark_81 () (by rw [mmS, if_neg (fun q => i32_nle.mpr q c6_1), if_neg c21_1, if_neg c35_1, ej9, nI_clamp (by omega), e3, hk9]) hP hD hS
              · skip
                refine lv_iinc (v := (x3 + 1)) (lv' := [(3, .int (x3 + 1)), (4, .int x4), (2, .int (bsS y3 0 0 i)), (0, .ref g), (1, .int i)]) hx hb dX3_mark_71 hl (k := 1) rfl rfl (by decide) rfl (fun ls hl => ?_)
                refine lv_iinc (v := (x4 + 1)) (lv' := [(4, .int (x4 + 1)), (3, .int (x3 + 1)), (2, .int (bsS y3 0 0 i)), (0, .ref g), (1, .int i)]) hx hb dX3_mark_74 hl (k := 1) rfl rfl (by decide) rfl (fun ls hl => ?_)
                refine lv_goto (tgt := 49) hx hb dX3_mark_77 (by decide) ?_
                exact ih (done ++ [d]) (k + 1) _ _ ls (by rw [hxs2]; simp) (by rw [e4, List.length_append]; exact nI_1 _) (by rw [← hp]; simp [lmk, c68_2]; omega) (by rw [e3, Int32.add_assoc, nI_1]) (lv_sub hl [0, 1, 2, 3, 4] rfl)
        exact loop (y3.drop (j9 + 1)) (y3.take (j9 + 1)) 0 _ _ ls (List.take_append_drop _ _).symm (by rw [ej9, nI_1, List.length_take, Nat.min_eq_left (by omega)]) (Nat.zero_add _) (by exact (Int32.add_zero _).symm) (lv_sub hl [0, 1, 2, 3, 4] rfl)
    · skip
      refine lv_iconst (v := (-1)) hx hb dX3_mark_24 (by decide) ?_
      exact rtI hx hb hr hlocks dX3_mark_25 () (by rw [mmS, if_neg (fun q => i32_nle.mpr q c6_1), if_pos c21_1]) hP hD hS
  · skip
    refine lv_iconst (v := (-1)) hx hb dX3_mark_9 (by decide) ?_
    refine lv_goto (tgt := 18) hx hb dX3_mark_10 (by decide) ?_
    refine lv_istore_n (lv' := [(2, .int (-1)), (0, .ref g), (1, .int i)]) hx hb dX3_mark_18 rfl hl (by decide) rfl (fun ls hl => ?_)
    refine lv_iload_n hx hb dX3_mark_19 rfl (lv_at hl 0 rfl) ?_
    refine lv_iconst (v := (-1)) hx hb dX3_mark_20 (by decide) ?_
    refine lv_icmp_ne (tgt := 26) hx hb dX3_mark_21 (by decide) (fun c21_2 => ?_) (fun c21_2 => ?_)
    · exact absurd c21_2 (by decide)
    · skip
      refine lv_iconst (v := (-1)) hx hb dX3_mark_24 (by decide) ?_
      exact rtI hx hb hr hlocks dX3_mark_25 () (by rw [mmS, if_pos (i32_nle.mp c6_1)]) hP hD hS
