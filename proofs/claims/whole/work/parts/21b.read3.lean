/-! the reference: read, compose, same -/
set_option maxHeartbeats 4000000 in
set_option maxRecDepth 100000 in
theorem KX3_read (l : Launch) (D : va_G) (g a1 a3 a5 a7 a8 a9 aB : Nat) (th wn tn si wg : Int32) (k1 : ClassId) (g1 : Nat → Int32) (y1 : List Int32) (p1 : rw_ok g1 200 y1) (hby : ∀ c ∈ y1, byt c) (k3 : ClassId) (g3 : Nat → Int32) (y3 : List Int32) (p3 : rw_ok g3 100 y3) (k5 : ClassId) (g5 : Nat → Int32) (y5 : List Int32) (p5 : rw_ok g5 100 y5) (k7 : ClassId) (g7 : Nat → Int32) (k8 : ClassId) (g8 : Nat → Int32) (v0 : Int32) (sz : Nat) : Met l yX3_read wsX3_read ({ frames := 3, cells := 0, slots := 0, locals := 69 }) (pcM D sz [(g, .inr (4, [.int th, .ref a1, .int (nI y1.length), .ref a3, .int (nI y3.length), .ref a5, .int (nI y5.length), .ref a7, .ref a8, .ref a9, .int wn, .ref aB, .int tn, .int si, .int wg])), (a1, .inl (k1, 200, .inl g1)), (a3, .inl (k3, 100, .inl g3)), (a5, .inl (k5, 100, .inl g5)), (a7, .inl (k7, 400, .inl g7)), (a8, .inl (k8, 400, .inl g8))] [(k1, .int), (k3, .int), (k5, .int), (k7, .int), (k8, .int)] [.ref g, .int v0]) (qcI (S := AWT × AWT × (Nat → Int32) × (Nat → Int32) × Int32) D (fun r u => r = rmA y1 v0 ∧ u.1.2.2.2 = (if (rdM y1 v0).1 = -1 then ordr (rdM y1 v0).2 else y3) ∧ u.2.1.2.2.2 = (if (rdM y1 v0).1 = -1 then y3 else y5) ∧ rw_ok u.1.2.2.1 100 u.1.2.2.2 ∧ rw_ok u.2.1.2.2.1 100 u.2.1.2.2.2) (fun u => [(g, .inr (4, [.int 0, .ref a1, .int (nI ([] : List Int32).length), .ref u.1.1, .int (nI u.1.2.2.2.length), .ref u.2.1.1, .int (nI u.2.1.2.2.2.length), .ref a7, .ref a8, .ref a9, .int wn, .ref aB, .int tn, .int si, .int u.2.2.2.2])), (a1, .inl (k1, 200, .inl g1)), (u.1.1, .inl (u.1.2.1, 100, .inl u.1.2.2.1)), (u.2.1.1, .inl (u.2.1.2.1, 100, .inl u.2.1.2.2.1)), (a7, .inl (k7, 400, .inl u.2.2.1)), (a8, .inl (k8, 400, .inl u.2.2.2.1))]) (va_A [(g, .inr (4, [.int th, .ref a1, .int (nI y1.length), .ref a3, .int (nI y3.length), .ref a5, .int (nI y5.length), .ref a7, .ref a8, .ref a9, .int wn, .ref aB, .int tn, .int si, .int wg])), (a1, .inl (k1, 200, .inl g1)), (a3, .inl (k3, 100, .inl g3)), (a5, .inl (k5, 100, .inl g5)), (a7, .inl (k7, 400, .inl g7)), (a8, .inl (k8, 400, .inl g8))] sz)) 0 0 (va_A [(g, .inr (4, [.int th, .ref a1, .int (nI y1.length), .ref a3, .int (nI y3.length), .ref a5, .int (nI y5.length), .ref a7, .ref a8, .ref a9, .int wn, .ref aB, .int tn, .int si, .int wg])), (a1, .inl (k1, 200, .inl g1)), (a3, .inl (k3, 100, .inl g3)), (a5, .inl (k5, 100, .inl g5)), (a7, .inl (k7, 400, .inl g7)), (a8, .inl (k8, 400, .inl g8))] sz) := by
  refine ofM (Qc := fun A => qcI (S := AWT × AWT × (Nat → Int32) × (Nat → Int32) × Int32) D (fun r u => r = rmA y1 v0 ∧ u.1.2.2.2 = (if (rdM y1 v0).1 = -1 then ordr (rdM y1 v0).2 else y3) ∧ u.2.1.2.2.2 = (if (rdM y1 v0).1 = -1 then y3 else y5) ∧ rw_ok u.1.2.2.1 100 u.1.2.2.2 ∧ rw_ok u.2.1.2.2.1 100 u.2.1.2.2.2) (fun u => [(g, .inr (4, [.int 0, .ref a1, .int (nI ([] : List Int32).length), .ref u.1.1, .int (nI u.1.2.2.2.length), .ref u.2.1.1, .int (nI u.2.1.2.2.2.length), .ref a7, .ref a8, .ref a9, .int wn, .ref aB, .int tn, .int si, .int u.2.2.2.2])), (a1, .inl (k1, 200, .inl g1)), (u.1.1, .inl (u.1.2.1, 100, .inl u.1.2.2.1)), (u.2.1.1, .inl (u.2.1.2.1, 100, .inl u.2.1.2.2.1)), (a7, .inl (k7, 400, .inl u.2.2.1)), (a8, .inl (k8, 400, .inl u.2.2.2.1))]) A) (cc := cX3_read) (maxL := 5) (ret := (some .int)) (by decide) rfl (Nat.le_of_ble_eq_true rfl) ?_
  intro p e s m below meth c ls A hx hb hr hml hown hts hlocks hnm hP hK hN hD hA hS hl
  have hl : lv_has ls 5 [(0, .ref g), (1, .int v0)] := hl
  refine lv_aload_n hx hb dX3_read_0 rfl (lv_at hl 0 rfl) ?_
  refine lv_iconst (v := 0) hx hb dX3_read_1 (by decide) ?_
  refine va_put (D := D) (ci := 4) (v := .int 0) (ty := .int) (C := RX3) (T := TX3) (N := 15) hx hb hts (by decide +kernel) tyX3 tyX3_ok nmX3 hown hK hP hD hS 0 rfl rfl 0 (by decide) (hts (.fieldLink RX3 36 "CharacterRowsModel" "thrown" "I") (by decide +kernel)) (fun _ h9 => h9) rfl (by decide +kernel) rfl rfl (Nat.le_of_ble_eq_true rfl) dX3_read_2 (fun H locs hP hD hS => ?_)
  have hP : va_P D vwCl [(g, .inr (4, [.int 0, .ref a1, .int (nI y1.length), .ref a3, .int (nI y3.length), .ref a5, .int (nI y5.length), .ref a7, .ref a8, .ref a9, .int wn, .ref aB, .int tn, .int si, .int wg])), (a1, .inl (k1, 200, .inl g1)), (a3, .inl (k3, 100, .inl g3)), (a5, .inl (k5, 100, .inl g5)), (a7, .inl (k7, 400, .inl g7)), (a8, .inl (k8, 400, .inl g8))] H := hP
  have hD : va_D A [(g, .inr (4, [.int 0, .ref a1, .int (nI y1.length), .ref a3, .int (nI y3.length), .ref a5, .int (nI y5.length), .ref a7, .ref a8, .ref a9, .int wn, .ref aB, .int tn, .int si, .int wg])), (a1, .inl (k1, 200, .inl g1)), (a3, .inl (k3, 100, .inl g3)), (a5, .inl (k5, 100, .inl g5)), (a7, .inl (k7, 400, .inl g7)), (a8, .inl (k8, 400, .inl g8))] := hD
  refine lv_iload_n hx hb dX3_read_5 rfl (lv_at hl 1 rfl) ?_
  refine lv_if_ne (tgt := 16) hx hb dX3_read_6 (by decide) (fun c6_1 => ?_) (fun c6_1 => ?_)
  · skip
    refine lv_aload_n hx hb dX3_read_16 rfl (lv_at hl 0 rfl) ?_
    refine clI (wr := [(a3, .inl (k3, 100, .inl g3)), (a5, .inl (k5, 100, .inl g5)), (a8, .inl (k8, 400, .inl g8))]) (va_runV ⟨hx, hb, hml, hown, hts⟩ (KX3_readNew l D g a1 a3 a5 a7 a8 a9 aB 0 (nI y3.length) (nI y5.length) wn tn si wg k1 g1 y1 p1 hby k7 g7 (rnS (y1.length + 1) y1 0 []) rfl _) (cwV 0 hts gX3_read_X3_readNew rfl rfl rfl (by decide +kernel) ⟨Nat.le_of_ble_eq_true rfl, Nat.le_of_ble_eq_true rfl⟩) (pcM_V (hP.sub (ws' := [(g, .inr (4, [.int 0, .ref a1, .int (nI y1.length), .ref a3, .int (nI y3.length), .ref a5, .int (nI y5.length), .ref a7, .ref a8, .ref a9, .int wn, .ref aB, .int tn, .int si, .int wg])), (a1, .inl (k1, 200, .inl g1)), (a7, .inl (k7, 400, .inl g7))]) [0, 1, 4] rfl) (hD.sub (ws' := [(g, .inr (4, [.int 0, .ref a1, .int (nI y1.length), .ref a3, .int (nI y3.length), .ref a5, .int (nI y5.length), .ref a7, .ref a8, .ref a9, .int wn, .ref aB, .int tn, .int si, .int wg])), (a1, .inl (k1, 200, .inl g1)), (a7, .inl (k7, 400, .inl g7))]) [0, 1, 4] (by decide) rfl) (hK.sub (tys' := [(k1, .int), (k7, .int)]) [0, 3] rfl) hN 0 rfl rfl) rfl rfl hl.1 rfl (lv_room (Nat.le_of_ble_eq_true rfl)) dX3_read_17 ⟨Nat.zero_le _, Nat.zero_le _⟩) hP hD hS hA [0, 1, 4] [2, 3, 5] rfl rfl (by decide) (by decide) (fun r_1 u_1 H locs hw_1 hP hD hS => ?_)
    obtain ⟨u_1a, u_1c⟩ := u_1
    have hP : va_P D vwCl [(g, .inr (4, [.int 0, .ref a1, .int (nI y1.length), .ref a3, .int (nI y3.length), .ref a5, .int (nI y5.length), .ref a7, .ref a8, .ref a9, .int wn, .ref aB, .int tn, .int si, .int u_1c])), (a1, .inl (k1, 200, .inl g1)), (a3, .inl (k3, 100, .inl g3)), (a5, .inl (k5, 100, .inl g5)), (a7, .inl (k7, 400, .inl u_1a)), (a8, .inl (k8, 400, .inl g8))] H := hP.sub [3, 4, 0, 1, 5, 2] rfl
    have hD : va_D A [(g, .inr (4, [.int 0, .ref a1, .int (nI y1.length), .ref a3, .int (nI y3.length), .ref a5, .int (nI y5.length), .ref a7, .ref a8, .ref a9, .int wn, .ref aB, .int tn, .int si, .int u_1c])), (a1, .inl (k1, 200, .inl g1)), (a3, .inl (k3, 100, .inl g3)), (a5, .inl (k5, 100, .inl g5)), (a7, .inl (k7, 400, .inl u_1a)), (a8, .inl (k8, 400, .inl g8))] := hD.sub [3, 4, 0, 1, 5, 2] (by decide) rfl
    refine lv_istore_n (lv' := [(2, .int r_1), (0, .ref g), (1, .int v0)]) hx hb dX3_read_20 rfl hl (by decide) rfl (fun ls hl => ?_)
    refine lv_aload_n hx hb dX3_read_21 rfl (lv_at hl 1 rfl) ?_
    refine lv_iconst (v := 0) hx hb dX3_read_22 (by decide) ?_
    refine va_put (D := D) (ci := 4) (v := .int 0) (ty := .int) (C := RX3) (T := TX3) (N := 15) hx hb hts (by decide +kernel) tyX3 tyX3_ok nmX3 hown hK hP hD hS 0 rfl rfl 2 (by decide) (hts (.fieldLink RX3 39 "CharacterRowsModel" "size" "I") (by decide +kernel)) (fun _ h9 => h9) rfl (by decide +kernel) rfl rfl (Nat.le_of_ble_eq_true rfl) dX3_read_23 (fun H locs hP hD hS => ?_)
    have hP : va_P D vwCl [(g, .inr (4, [.int 0, .ref a1, .int 0, .ref a3, .int (nI y3.length), .ref a5, .int (nI y5.length), .ref a7, .ref a8, .ref a9, .int wn, .ref aB, .int tn, .int si, .int u_1c])), (a1, .inl (k1, 200, .inl g1)), (a3, .inl (k3, 100, .inl g3)), (a5, .inl (k5, 100, .inl g5)), (a7, .inl (k7, 400, .inl u_1a)), (a8, .inl (k8, 400, .inl g8))] H := hP
    have hD : va_D A [(g, .inr (4, [.int 0, .ref a1, .int 0, .ref a3, .int (nI y3.length), .ref a5, .int (nI y5.length), .ref a7, .ref a8, .ref a9, .int wn, .ref aB, .int tn, .int si, .int u_1c])), (a1, .inl (k1, 200, .inl g1)), (a3, .inl (k3, 100, .inl g3)), (a5, .inl (k5, 100, .inl g5)), (a7, .inl (k7, 400, .inl u_1a)), (a8, .inl (k8, 400, .inl g8))] := hD
    refine lv_iload_n hx hb dX3_read_26 rfl (lv_at hl 0 rfl) ?_
    refine lv_iconst (v := (-1)) hx hb dX3_read_27 (by decide) ?_
    refine lv_icmp_ne (tgt := 38) hx hb dX3_read_28 (by decide) (fun c28_1 => ?_) (fun c28_1 => ?_)
    · skip
      have hT1 : (rnS (y1.length + 1) y1 0 []).1 = -1 := by rcases Decidable.em ((rnS (y1.length + 1) y1 0 []).1 = -1) with q | q; exact q; exact absurd (hw_1.2 q).1 c28_1
      obtain ⟨hrr, p7⟩ := hw_1.1 hT1
      have hl100 : (rnS (y1.length + 1) y1 0 []).2.length ≤ 100 := rnS_len _ _ _ _ (Nat.zero_le _)
      subst hrr
      refine lv_aload_n hx hb dX3_read_38 rfl (lv_at hl 1 rfl) ?_
      refine va_get (D := D) (ci := 4) (v := .ref a7) (C := RX3) (T := TX3) (N := 15) hx hb hts (by decide +kernel) hown hK hP 0 rfl rfl 7 (by decide) (hts (.fieldLink RX3 19 "CharacterRowsModel" "work" "[I") (by decide +kernel)) (fun _ h9 => h9) rfl dX3_read_39 ?_
      refine lv_iload_n hx hb dX3_read_42 rfl (lv_at hl 0 rfl) ?_
      refine clV (wr := [(g, .inr (4, [.int 0, .ref a1, .int 0, .ref a3, .int (nI y3.length), .ref a5, .int (nI y5.length), .ref a7, .ref a8, .ref a9, .int wn, .ref aB, .int tn, .int si, .int u_1c])), (a1, .inl (k1, 200, .inl g1)), (a3, .inl (k3, 100, .inl g3)), (a5, .inl (k5, 100, .inl g5)), (a8, .inl (k8, 400, .inl g8))]) (va_runS ⟨hx, hb, hml, hown, hts⟩ (KX3_order l D a7 k7 400 (by decide) u_1a ((rnS (y1.length + 1) y1 0 []).2) p7 _) (va_cwS 2 hts gX3_read_X3_order rfl rfl rfl (by decide +kernel) ⟨Nat.le_of_ble_eq_true rfl, Nat.le_of_ble_eq_true rfl⟩) (pcM_S (hP.sub (ws' := [(a7, .inl (k7, 400, .inl u_1a))]) [4] rfl) (hD.sub (ws' := [(a7, .inl (k7, 400, .inl u_1a))]) [4] (by decide) rfl) (hK.sub (tys' := [(k7, .int)]) [3] rfl) hN) rfl rfl hl.1 rfl (lv_room (Nat.le_of_ble_eq_true rfl)) dX3_read_43 ⟨Nat.zero_le _, Nat.zero_le _⟩) hP hD hS hA [4] [0, 1, 2, 3, 5] rfl rfl (by decide) (by decide) (fun u_2 H locs hw_2 hP hD hS => ?_)
      have hP : va_P D vwCl [(g, .inr (4, [.int 0, .ref a1, .int 0, .ref a3, .int (nI y3.length), .ref a5, .int (nI y5.length), .ref a7, .ref a8, .ref a9, .int wn, .ref aB, .int tn, .int si, .int u_1c])), (a1, .inl (k1, 200, .inl g1)), (a3, .inl (k3, 100, .inl g3)), (a5, .inl (k5, 100, .inl g5)), (a7, .inl (k7, 400, .inl u_2)), (a8, .inl (k8, 400, .inl g8))] H := hP.sub [0, 1, 2, 3, 5, 4] rfl
      have hD : va_D A [(g, .inr (4, [.int 0, .ref a1, .int 0, .ref a3, .int (nI y3.length), .ref a5, .int (nI y5.length), .ref a7, .ref a8, .ref a9, .int wn, .ref aB, .int tn, .int si, .int u_1c])), (a1, .inl (k1, 200, .inl g1)), (a3, .inl (k3, 100, .inl g3)), (a5, .inl (k5, 100, .inl g5)), (a7, .inl (k7, 400, .inl u_2)), (a8, .inl (k8, 400, .inl g8))] := hD.sub [0, 1, 2, 3, 5, 4] (by decide) rfl
      refine lv_aload_n hx hb dX3_read_46 rfl (lv_at hl 1 rfl) ?_
      refine va_get (D := D) (ci := 4) (v := .ref a5) (C := RX3) (T := TX3) (N := 15) hx hb hts (by decide +kernel) hown hK hP 0 rfl rfl 5 (by decide) (hts (.fieldLink RX3 16 "CharacterRowsModel" "other" "[I") (by decide +kernel)) (fun _ h9 => h9) rfl dX3_read_47 ?_
      refine lv_astore_n (lv' := [(3, .ref a5), (2, .int (nI (rnS (y1.length + 1) y1 0 []).2.length)), (0, .ref g), (1, .int v0)]) hx hb dX3_read_50 rfl hl (by decide) rfl (fun ls hl => ?_)
      refine lv_aload_n hx hb dX3_read_51 rfl (lv_at hl 2 rfl) ?_
      refine lv_aload_n hx hb dX3_read_52 rfl (lv_at hl 2 rfl) ?_
      refine va_get (D := D) (ci := 4) (v := .ref a3) (C := RX3) (T := TX3) (N := 15) hx hb hts (by decide +kernel) hown hK hP 0 rfl rfl 3 (by decide) (hts (.fieldLink RX3 13 "CharacterRowsModel" "text" "[I") (by decide +kernel)) (fun _ h9 => h9) rfl dX3_read_53 ?_
      refine va_put (D := D) (ci := 4) (v := .ref a3) (ty := .array .int) (C := RX3) (T := TX3) (N := 15) hx hb hts (by decide +kernel) tyX3 tyX3_ok nmX3 hown hK hP hD hS 0 rfl rfl 5 (by decide) (hts (.fieldLink RX3 16 "CharacterRowsModel" "other" "[I") (by decide +kernel)) (fun _ h9 => h9) rfl (by decide +kernel) rfl rfl (Nat.le_of_ble_eq_true rfl) dX3_read_56 (fun H locs hP hD hS => ?_)
      have hP : va_P D vwCl [(g, .inr (4, [.int 0, .ref a1, .int 0, .ref a3, .int (nI y3.length), .ref a3, .int (nI y5.length), .ref a7, .ref a8, .ref a9, .int wn, .ref aB, .int tn, .int si, .int u_1c])), (a1, .inl (k1, 200, .inl g1)), (a3, .inl (k3, 100, .inl g3)), (a5, .inl (k5, 100, .inl g5)), (a7, .inl (k7, 400, .inl u_2)), (a8, .inl (k8, 400, .inl g8))] H := hP
      have hD : va_D A [(g, .inr (4, [.int 0, .ref a1, .int 0, .ref a3, .int (nI y3.length), .ref a3, .int (nI y5.length), .ref a7, .ref a8, .ref a9, .int wn, .ref aB, .int tn, .int si, .int u_1c])), (a1, .inl (k1, 200, .inl g1)), (a3, .inl (k3, 100, .inl g3)), (a5, .inl (k5, 100, .inl g5)), (a7, .inl (k7, 400, .inl u_2)), (a8, .inl (k8, 400, .inl g8))] := hD
      refine lv_aload_n hx hb dX3_read_59 rfl (lv_at hl 2 rfl) ?_
      refine lv_aload_n hx hb dX3_read_60 rfl (lv_at hl 2 rfl) ?_
      refine va_get (D := D) (ci := 4) (v := .int (nI y3.length)) (C := RX3) (T := TX3) (N := 15) hx hb hts (by decide +kernel) hown hK hP 0 rfl rfl 4 (by decide) (hts (.fieldLink RX3 85 "CharacterRowsModel" "count" "I") (by decide +kernel)) (fun _ h9 => h9) rfl dX3_read_61 ?_
      refine va_put (D := D) (ci := 4) (v := .int (nI y3.length)) (ty := .int) (C := RX3) (T := TX3) (N := 15) hx hb hts (by decide +kernel) tyX3 tyX3_ok nmX3 hown hK hP hD hS 0 rfl rfl 6 (by decide) (hts (.fieldLink RX3 88 "CharacterRowsModel" "otherCount" "I") (by decide +kernel)) (fun _ h9 => h9) rfl (by decide +kernel) rfl rfl (Nat.le_of_ble_eq_true rfl) dX3_read_64 (fun H locs hP hD hS => ?_)
      have hP : va_P D vwCl [(g, .inr (4, [.int 0, .ref a1, .int 0, .ref a3, .int (nI y3.length), .ref a3, .int (nI y3.length), .ref a7, .ref a8, .ref a9, .int wn, .ref aB, .int tn, .int si, .int u_1c])), (a1, .inl (k1, 200, .inl g1)), (a3, .inl (k3, 100, .inl g3)), (a5, .inl (k5, 100, .inl g5)), (a7, .inl (k7, 400, .inl u_2)), (a8, .inl (k8, 400, .inl g8))] H := hP
      have hD : va_D A [(g, .inr (4, [.int 0, .ref a1, .int 0, .ref a3, .int (nI y3.length), .ref a3, .int (nI y3.length), .ref a7, .ref a8, .ref a9, .int wn, .ref aB, .int tn, .int si, .int u_1c])), (a1, .inl (k1, 200, .inl g1)), (a3, .inl (k3, 100, .inl g3)), (a5, .inl (k5, 100, .inl g5)), (a7, .inl (k7, 400, .inl u_2)), (a8, .inl (k8, 400, .inl g8))] := hD
      refine lv_aload_n hx hb dX3_read_67 rfl (lv_at hl 2 rfl) ?_
      refine lv_aload_n hx hb dX3_read_68 rfl (lv_at hl 0 rfl) ?_
      refine va_put (D := D) (ci := 4) (v := .ref a5) (ty := .array .int) (C := RX3) (T := TX3) (N := 15) hx hb hts (by decide +kernel) tyX3 tyX3_ok nmX3 hown hK hP hD hS 0 rfl rfl 3 (by decide) (hts (.fieldLink RX3 13 "CharacterRowsModel" "text" "[I") (by decide +kernel)) (fun _ h9 => h9) rfl (by decide +kernel) rfl rfl (Nat.le_of_ble_eq_true rfl) dX3_read_69 (fun H locs hP hD hS => ?_)
      have hP : va_P D vwCl [(g, .inr (4, [.int 0, .ref a1, .int 0, .ref a5, .int (nI y3.length), .ref a3, .int (nI y3.length), .ref a7, .ref a8, .ref a9, .int wn, .ref aB, .int tn, .int si, .int u_1c])), (a1, .inl (k1, 200, .inl g1)), (a3, .inl (k3, 100, .inl g3)), (a5, .inl (k5, 100, .inl g5)), (a7, .inl (k7, 400, .inl u_2)), (a8, .inl (k8, 400, .inl g8))] H := hP
      have hD : va_D A [(g, .inr (4, [.int 0, .ref a1, .int 0, .ref a5, .int (nI y3.length), .ref a3, .int (nI y3.length), .ref a7, .ref a8, .ref a9, .int wn, .ref aB, .int tn, .int si, .int u_1c])), (a1, .inl (k1, 200, .inl g1)), (a3, .inl (k3, 100, .inl g3)), (a5, .inl (k5, 100, .inl g5)), (a7, .inl (k7, 400, .inl u_2)), (a8, .inl (k8, 400, .inl g8))] := hD
      refine lv_aload_n hx hb dX3_read_72 rfl (lv_at hl 2 rfl) ?_
      refine lv_iload_n hx hb dX3_read_73 rfl (lv_at hl 1 rfl) ?_
      refine va_put (D := D) (ci := 4) (v := .int (nI (rnS (y1.length + 1) y1 0 []).2.length)) (ty := .int) (C := RX3) (T := TX3) (N := 15) hx hb hts (by decide +kernel) tyX3 tyX3_ok nmX3 hown hK hP hD hS 0 rfl rfl 4 (by decide) (hts (.fieldLink RX3 85 "CharacterRowsModel" "count" "I") (by decide +kernel)) (fun _ h9 => h9) rfl (by decide +kernel) rfl rfl (Nat.le_of_ble_eq_true rfl) dX3_read_74 (fun H locs hP hD hS => ?_)
      have hP : va_P D vwCl [(g, .inr (4, [.int 0, .ref a1, .int 0, .ref a5, .int (nI (rnS (y1.length + 1) y1 0 []).2.length), .ref a3, .int (nI y3.length), .ref a7, .ref a8, .ref a9, .int wn, .ref aB, .int tn, .int si, .int u_1c])), (a1, .inl (k1, 200, .inl g1)), (a3, .inl (k3, 100, .inl g3)), (a5, .inl (k5, 100, .inl g5)), (a7, .inl (k7, 400, .inl u_2)), (a8, .inl (k8, 400, .inl g8))] H := hP
      have hD : va_D A [(g, .inr (4, [.int 0, .ref a1, .int 0, .ref a5, .int (nI (rnS (y1.length + 1) y1 0 []).2.length), .ref a3, .int (nI y3.length), .ref a7, .ref a8, .ref a9, .int wn, .ref aB, .int tn, .int si, .int u_1c])), (a1, .inl (k1, 200, .inl g1)), (a3, .inl (k3, 100, .inl g3)), (a5, .inl (k5, 100, .inl g5)), (a7, .inl (k7, 400, .inl u_2)), (a8, .inl (k8, 400, .inl g8))] := hD
      refine lv_iconst (v := 0) hx hb dX3_read_77 (by decide) ?_
      refine lv_istore (lv' := [(4, .int 0), (3, .ref a5), (2, .int (nI (rnS (y1.length + 1) y1 0 []).2.length)), (0, .ref g), (1, .int v0)]) hx hb dX3_read_78 hl (by decide) rfl (fun ls hl => ?_)
      have hYl : (ordr (rnS (y1.length + 1) y1 0 []).2).length = (rnS (y1.length + 1) y1 0 []).2.length := ordr_len _
      rw [← hYl] at hl hP hD
      have hl100b : (ordr (rnS (y1.length + 1) y1 0 []).2).length ≤ 100 := by omega
      have p7y := hw_2
      have loop : ∀ (rest : List Int32) (done : List Int32) (fd : Nat → Int32) (xk : Int32) (H : Heap) (locs : List Loc) (ls : Array Slot), ((ordr (rnS (y1.length + 1) y1 0 []).2) = done ++ rest) → (xk = nI done.length) → (rw_ok fd 100 done) → va_P D vwCl [(g, .inr (4, [.int 0, .ref a1, .int 0, .ref a5, .int (nI (ordr (rnS (y1.length + 1) y1 0 []).2).length), .ref a3, .int (nI y3.length), .ref a7, .ref a8, .ref a9, .int wn, .ref aB, .int tn, .int si, .int u_1c])), (a1, .inl (k1, 200, .inl g1)), (a3, .inl (k3, 100, .inl g3)), (a5, .inl (k5, 100, .inl fd)), (a7, .inl (k7, 400, .inl u_2)), (a8, .inl (k8, 400, .inl g8))] H → va_D A [(g, .inr (4, [.int 0, .ref a1, .int 0, .ref a5, .int (nI (ordr (rnS (y1.length + 1) y1 0 []).2).length), .ref a3, .int (nI y3.length), .ref a7, .ref a8, .ref a9, .int wn, .ref aB, .int tn, .int si, .int u_1c])), (a1, .inl (k1, 200, .inl g1)), (a3, .inl (k3, 100, .inl g3)), (a5, .inl (k5, 100, .inl fd)), (a7, .inl (k7, 400, .inl u_2)), (a8, .inl (k8, 400, .inl g8))] → va_S A s.heap H locs → lv_has ls 5 [(4, .int xk), (3, .ref a5), (2, .int (nI (ordr (rnS (y1.length + 1) y1 0 []).2).length)), (0, .ref g), (1, .int v0)] → W p l e ({ frames := 3, cells := 0, slots := 0, locals := 69 }) s m ([.ref g, .int v0] : List Value).toArray below meth c H locs 0 0 (MQ below (qcI (S := AWT × AWT × (Nat → Int32) × (Nat → Int32) × Int32) D (fun r u => r = rmA y1 v0 ∧ u.1.2.2.2 = (if (rdM y1 v0).1 = -1 then ordr (rdM y1 v0).2 else y3) ∧ u.2.1.2.2.2 = (if (rdM y1 v0).1 = -1 then y3 else y5) ∧ rw_ok u.1.2.2.1 100 u.1.2.2.2 ∧ rw_ok u.2.1.2.2.1 100 u.2.1.2.2.2) (fun u => [(g, .inr (4, [.int 0, .ref a1, .int (nI ([] : List Int32).length), .ref u.1.1, .int (nI u.1.2.2.2.length), .ref u.2.1.1, .int (nI u.2.1.2.2.2.length), .ref a7, .ref a8, .ref a9, .int wn, .ref aB, .int tn, .int si, .int u.2.2.2.2])), (a1, .inl (k1, 200, .inl g1)), (u.1.1, .inl (u.1.2.1, 100, .inl u.1.2.2.1)), (u.2.1.1, .inl (u.2.1.2.1, 100, .inl u.2.1.2.2.1)), (a7, .inl (k7, 400, .inl u.2.2.1)), (a8, .inl (k8, 400, .inl u.2.2.2.1))]) A) ([.ref g, .int v0] : List Value).toArray s 0 0 A) (F0 m 80 ls [])  := by
        intro rest
        induction rest with
        | nil =>
          intro done fd xk H locs ls hY ek pd hP hD hS hl
          have hln : (ordr (rnS (y1.length + 1) y1 0 []).2).length = done.length := by rw [hY]; simp
          refine lv_iload hx hb dX3_read_80 (lv_at hl 0 rfl) ?_
          refine lv_iload_n hx hb dX3_read_82 rfl (lv_at hl 2 rfl) ?_
          refine lv_icmp_ge (tgt := 106) hx hb dX3_read_83 (by decide) (fun c83_1 => ?_) (fun c83_1 => ?_)
          · skip
            refine lv_iload_n hx hb dX3_read_106 rfl (lv_at hl 2 rfl) ?_
            have e7 : rdM y1 v0 = (rnS (y1.length + 1) y1 0 []) := by rw [rdM, if_neg c6_1]
            have hYd : done = (ordr (rnS (y1.length + 1) y1 0 []).2) := by rw [hY]; simp
            rw [hYd] at pd
            have e6 : (rdM y1 v0).1 = -1 := by rw [e7]; exact hT1
            have hP8 := hP.sub (ws' := [(g, .inr (4, [.int 0, .ref a1, .int 0, .ref a5, .int (nI (ordr (rnS (y1.length + 1) y1 0 []).2).length), .ref a3, .int (nI y3.length), .ref a7, .ref a8, .ref a9, .int wn, .ref aB, .int tn, .int si, .int u_1c])), (a1, .inl (k1, 200, .inl g1)), (a5, .inl (k5, 100, .inl fd)), (a3, .inl (k3, 100, .inl g3)), (a7, .inl (k7, 400, .inl u_2)), (a8, .inl (k8, 400, .inl g8))]) [0, 1, 3, 2, 4, 5] rfl
            have hD8 := hD.sub (ws' := [(g, .inr (4, [.int 0, .ref a1, .int 0, .ref a5, .int (nI (ordr (rnS (y1.length + 1) y1 0 []).2).length), .ref a3, .int (nI y3.length), .ref a7, .ref a8, .ref a9, .int wn, .ref aB, .int tn, .int si, .int u_1c])), (a1, .inl (k1, 200, .inl g1)), (a5, .inl (k5, 100, .inl fd)), (a3, .inl (k3, 100, .inl g3)), (a7, .inl (k7, 400, .inl u_2)), (a8, .inl (k8, 400, .inl g8))]) [0, 1, 3, 2, 4, 5] (by decide) rfl
            exact rtI hx hb hr hlocks dX3_read_107 ((a5, k5, fd, (ordr (rnS (y1.length + 1) y1 0 []).2)), (a3, k3, g3, y3), u_2, g8, u_1c) ⟨by rw [rmA, if_pos e6, e7], by rw [if_pos e6, e7], by rw [if_pos e6], pd, p3⟩ hP8 hD8 hS
          · skip
            exact absurd (by rw [ek, hln]; exact Int32.le_refl _) c83_1
        | cons d t ih =>
          intro done fd xk H locs ls hY ek pd hP hD hS hl
          have hln : (ordr (rnS (y1.length + 1) y1 0 []).2).length = done.length + (t.length + 1) := by rw [hY]; simp
          have hsl := p7y.1
          refine lv_iload hx hb dX3_read_80 (lv_at hl 0 rfl) ?_
          refine lv_iload_n hx hb dX3_read_82 rfl (lv_at hl 2 rfl) ?_
          refine lv_icmp_ge (tgt := 106) hx hb dX3_read_83 (by decide) (fun c83_2 => ?_) (fun c83_2 => ?_)
          · skip
            exact absurd c83_2 (by rw [ek, hln]; exact nI_ge (by omega) (by omega))
          · skip
            refine lv_aload_n hx hb dX3_read_86 rfl (lv_at hl 3 rfl) ?_
            refine va_get (D := D) (ci := 4) (v := .ref a5) (C := RX3) (T := TX3) (N := 15) hx hb hts (by decide +kernel) hown hK hP 0 rfl rfl 3 (by decide) (hts (.fieldLink RX3 13 "CharacterRowsModel" "text" "[I") (by decide +kernel)) (fun _ h9 => h9) rfl dX3_read_87 ?_
            refine lv_iload hx hb dX3_read_90 (lv_at hl 0 rfl) ?_
            refine lv_aload_n hx hb dX3_read_92 rfl (lv_at hl 3 rfl) ?_
            refine va_get (D := D) (ci := 4) (v := .ref a7) (C := RX3) (T := TX3) (N := 15) hx hb hts (by decide +kernel) hown hK hP 0 rfl rfl 7 (by decide) (hts (.fieldLink RX3 19 "CharacterRowsModel" "work" "[I") (by decide +kernel)) (fun _ h9 => h9) rfl dX3_read_93 ?_
            refine lv_iload hx hb dX3_read_96 (lv_at hl 0 rfl) ?_
            refine va_iald hx hb hK hP 4 3 rfl rfl (rwf_in (j := 0) p7y (by decide) hY ek rfl (by simp)) dX3_read_98 ?_
            refine lv_topi (fun r9 hr9 => ?_)
            replace hr9 : r9 = d := hr9.trans (rwf_v (j := 0) p7y (by decide) hY ek rfl (by simp))
            subst r9
            refine va_iast hx hb hK hP hD hS 3 2 rfl rfl (rwf_sin pd (by decide) ek (by omega)) dX3_read_99 (fun H locs hP hD hS => ?_)
            have hP : va_P D vwCl [(g, .inr (4, [.int 0, .ref a1, .int 0, .ref a5, .int (nI (ordr (rnS (y1.length + 1) y1 0 []).2).length), .ref a3, .int (nI y3.length), .ref a7, .ref a8, .ref a9, .int wn, .ref aB, .int tn, .int si, .int u_1c])), (a1, .inl (k1, 200, .inl g1)), (a3, .inl (k3, 100, .inl g3)), (a5, .inl (k5, 100, .inl (upd fd xk.toNatClampNeg d))), (a7, .inl (k7, 400, .inl u_2)), (a8, .inl (k8, 400, .inl g8))] H := hP
            have hD : va_D A [(g, .inr (4, [.int 0, .ref a1, .int 0, .ref a5, .int (nI (ordr (rnS (y1.length + 1) y1 0 []).2).length), .ref a3, .int (nI y3.length), .ref a7, .ref a8, .ref a9, .int wn, .ref aB, .int tn, .int si, .int u_1c])), (a1, .inl (k1, 200, .inl g1)), (a3, .inl (k3, 100, .inl g3)), (a5, .inl (k5, 100, .inl (upd fd xk.toNatClampNeg d))), (a7, .inl (k7, 400, .inl u_2)), (a8, .inl (k8, 400, .inl g8))] := hD
            refine lv_iinc (v := (xk + 1)) (lv' := [(4, .int (xk + 1)), (3, .ref a5), (2, .int (nI (ordr (rnS (y1.length + 1) y1 0 []).2).length)), (0, .ref g), (1, .int v0)]) hx hb dX3_read_100 hl (k := 0) rfl rfl (by decide) rfl (fun ls hl => ?_)
            refine lv_goto (tgt := 80) hx hb dX3_read_103 (by decide) ?_
            exact ih (done ++ [d]) (upd fd xk.toNatClampNeg d) _ H locs ls (by rw [hY]; simp) (by rw [ek, List.length_append]; exact nI_1 _) (rwf_snoc pd (by decide) ek (by omega)) hP hD hS (lv_sub hl [0, 1, 2, 3, 4] rfl)
      exact loop (ordr (rnS (y1.length + 1) y1 0 []).2) [] g5 _ H locs ls rfl rfl rw_nil hP hD hS (lv_sub hl [0, 1, 2, 3, 4] rfl)
    · skip
      refine lv_iconst (v := (-1)) hx hb dX3_read_31 (by decide) ?_
      refine lv_aload_n hx hb dX3_read_32 rfl (lv_at hl 1 rfl) ?_
      refine va_get (D := D) (ci := 4) (v := .int u_1c) (C := RX3) (T := TX3) (N := 15) hx hb hts (by decide +kernel) hown hK hP 0 rfl rfl 14 (by decide) (hts (.fieldLink RX3 55 "CharacterRowsModel" "wrong" "I") (by decide +kernel)) (fun _ h9 => h9) rfl dX3_read_33 ?_
      refine lv_isub hx hb dX3_read_36 ?_
      have e7 : rdM y1 v0 = (rnS (y1.length + 1) y1 0 []) := by rw [rdM, if_neg c6_1]
      have hT1 : ¬ (rnS (y1.length + 1) y1 0 []).1 = -1 := fun q => by have := (hw_1.1 q).1; rw [c28_1] at this; exact nI_ne1 (Nat.lt_of_le_of_lt (rnS_len _ _ _ _ (Nat.zero_le _)) (by decide)) this.symm
      have hwg := (hw_1.2 hT1).2
      have e6 : ¬ (rdM y1 v0).1 = -1 := by rw [e7]; exact hT1
      exact rtI hx hb hr hlocks dX3_read_37 ((a3, k3, g3, y3), (a5, k5, g5, y5), u_1a, g8, u_1c) ⟨by rw [rmA, if_neg e6, e7, ← hwg], by rw [if_neg e6], by rw [if_neg e6], p3, p5⟩ hP hD hS
  · skip
    refine lv_aload_n hx hb dX3_read_9 rfl (lv_at hl 0 rfl) ?_
    refine clI (wr := [(a3, .inl (k3, 100, .inl g3)), (a5, .inl (k5, 100, .inl g5))]) (va_runV ⟨hx, hb, hml, hown, hts⟩ (KX3_readOld l D g a1 a3 a5 a7 a8 a9 aB 0 (nI y3.length) (nI y5.length) wn tn si wg k1 g1 y1 p1 hby k7 g7 k8 g8 (roS (y1.length + 1) y1 0 0 [] 0 []) rfl _) (cwV 0 hts gX3_read_X3_readOld rfl rfl rfl (by decide +kernel) ⟨Nat.le_of_ble_eq_true rfl, Nat.le_of_ble_eq_true rfl⟩) (pcM_V (hP.sub (ws' := [(g, .inr (4, [.int 0, .ref a1, .int (nI y1.length), .ref a3, .int (nI y3.length), .ref a5, .int (nI y5.length), .ref a7, .ref a8, .ref a9, .int wn, .ref aB, .int tn, .int si, .int wg])), (a1, .inl (k1, 200, .inl g1)), (a7, .inl (k7, 400, .inl g7)), (a8, .inl (k8, 400, .inl g8))]) [0, 1, 4, 5] rfl) (hD.sub (ws' := [(g, .inr (4, [.int 0, .ref a1, .int (nI y1.length), .ref a3, .int (nI y3.length), .ref a5, .int (nI y5.length), .ref a7, .ref a8, .ref a9, .int wn, .ref aB, .int tn, .int si, .int wg])), (a1, .inl (k1, 200, .inl g1)), (a7, .inl (k7, 400, .inl g7)), (a8, .inl (k8, 400, .inl g8))]) [0, 1, 4, 5] (by decide) rfl) (hK.sub (tys' := [(k1, .int), (k7, .int), (k8, .int)]) [0, 3, 4] rfl) hN 0 rfl rfl) rfl rfl hl.1 rfl (lv_room (Nat.le_of_ble_eq_true rfl)) dX3_read_10 ⟨Nat.zero_le _, Nat.zero_le _⟩) hP hD hS hA [0, 1, 4, 5] [2, 3] rfl rfl (by decide) (by decide) (fun r_2 u_3 H locs hw_3 hP hD hS => ?_)
    obtain ⟨u_3a, u_3b, u_3c⟩ := u_3
    have hP : va_P D vwCl [(g, .inr (4, [.int 0, .ref a1, .int (nI y1.length), .ref a3, .int (nI y3.length), .ref a5, .int (nI y5.length), .ref a7, .ref a8, .ref a9, .int wn, .ref aB, .int tn, .int si, .int u_3c])), (a1, .inl (k1, 200, .inl g1)), (a3, .inl (k3, 100, .inl g3)), (a5, .inl (k5, 100, .inl g5)), (a7, .inl (k7, 400, .inl u_3a)), (a8, .inl (k8, 400, .inl u_3b))] H := hP.sub [2, 3, 0, 1, 4, 5] rfl
    have hD : va_D A [(g, .inr (4, [.int 0, .ref a1, .int (nI y1.length), .ref a3, .int (nI y3.length), .ref a5, .int (nI y5.length), .ref a7, .ref a8, .ref a9, .int wn, .ref aB, .int tn, .int si, .int u_3c])), (a1, .inl (k1, 200, .inl g1)), (a3, .inl (k3, 100, .inl g3)), (a5, .inl (k5, 100, .inl g5)), (a7, .inl (k7, 400, .inl u_3a)), (a8, .inl (k8, 400, .inl u_3b))] := hD.sub [2, 3, 0, 1, 4, 5] (by decide) rfl
    refine lv_goto (tgt := 20) hx hb dX3_read_13 (by decide) ?_
    refine lv_istore_n (lv' := [(2, .int r_2), (0, .ref g), (1, .int v0)]) hx hb dX3_read_20 rfl hl (by decide) rfl (fun ls hl => ?_)
    refine lv_aload_n hx hb dX3_read_21 rfl (lv_at hl 1 rfl) ?_
    refine lv_iconst (v := 0) hx hb dX3_read_22 (by decide) ?_
    refine va_put (D := D) (ci := 4) (v := .int 0) (ty := .int) (C := RX3) (T := TX3) (N := 15) hx hb hts (by decide +kernel) tyX3 tyX3_ok nmX3 hown hK hP hD hS 0 rfl rfl 2 (by decide) (hts (.fieldLink RX3 39 "CharacterRowsModel" "size" "I") (by decide +kernel)) (fun _ h9 => h9) rfl (by decide +kernel) rfl rfl (Nat.le_of_ble_eq_true rfl) dX3_read_23 (fun H locs hP hD hS => ?_)
    have hP : va_P D vwCl [(g, .inr (4, [.int 0, .ref a1, .int 0, .ref a3, .int (nI y3.length), .ref a5, .int (nI y5.length), .ref a7, .ref a8, .ref a9, .int wn, .ref aB, .int tn, .int si, .int u_3c])), (a1, .inl (k1, 200, .inl g1)), (a3, .inl (k3, 100, .inl g3)), (a5, .inl (k5, 100, .inl g5)), (a7, .inl (k7, 400, .inl u_3a)), (a8, .inl (k8, 400, .inl u_3b))] H := hP
    have hD : va_D A [(g, .inr (4, [.int 0, .ref a1, .int 0, .ref a3, .int (nI y3.length), .ref a5, .int (nI y5.length), .ref a7, .ref a8, .ref a9, .int wn, .ref aB, .int tn, .int si, .int u_3c])), (a1, .inl (k1, 200, .inl g1)), (a3, .inl (k3, 100, .inl g3)), (a5, .inl (k5, 100, .inl g5)), (a7, .inl (k7, 400, .inl u_3a)), (a8, .inl (k8, 400, .inl u_3b))] := hD
    refine lv_iload_n hx hb dX3_read_26 rfl (lv_at hl 0 rfl) ?_
    refine lv_iconst (v := (-1)) hx hb dX3_read_27 (by decide) ?_
    refine lv_icmp_ne (tgt := 38) hx hb dX3_read_28 (by decide) (fun c28_2 => ?_) (fun c28_2 => ?_)
    · skip
      have hT1 : (roS (y1.length + 1) y1 0 0 [] 0 []).1 = -1 := by rcases Decidable.em ((roS (y1.length + 1) y1 0 0 [] 0 []).1 = -1) with q | q; exact q; exact absurd (hw_3.2 q).1 c28_2
      obtain ⟨hrr, p7⟩ := hw_3.1 hT1
      have hl100 : (roS (y1.length + 1) y1 0 0 [] 0 []).2.length ≤ 100 := roS_len _ _ _ _ _ _ _ (Nat.zero_le _)
      subst hrr
      refine lv_aload_n hx hb dX3_read_38 rfl (lv_at hl 1 rfl) ?_
      refine va_get (D := D) (ci := 4) (v := .ref a7) (C := RX3) (T := TX3) (N := 15) hx hb hts (by decide +kernel) hown hK hP 0 rfl rfl 7 (by decide) (hts (.fieldLink RX3 19 "CharacterRowsModel" "work" "[I") (by decide +kernel)) (fun _ h9 => h9) rfl dX3_read_39 ?_
      refine lv_iload_n hx hb dX3_read_42 rfl (lv_at hl 0 rfl) ?_
      refine clV (wr := [(g, .inr (4, [.int 0, .ref a1, .int 0, .ref a3, .int (nI y3.length), .ref a5, .int (nI y5.length), .ref a7, .ref a8, .ref a9, .int wn, .ref aB, .int tn, .int si, .int u_3c])), (a1, .inl (k1, 200, .inl g1)), (a3, .inl (k3, 100, .inl g3)), (a5, .inl (k5, 100, .inl g5)), (a8, .inl (k8, 400, .inl u_3b))]) (va_runS ⟨hx, hb, hml, hown, hts⟩ (KX3_order l D a7 k7 400 (by decide) u_3a ((roS (y1.length + 1) y1 0 0 [] 0 []).2) p7 _) (va_cwS 2 hts gX3_read_X3_order rfl rfl rfl (by decide +kernel) ⟨Nat.le_of_ble_eq_true rfl, Nat.le_of_ble_eq_true rfl⟩) (pcM_S (hP.sub (ws' := [(a7, .inl (k7, 400, .inl u_3a))]) [4] rfl) (hD.sub (ws' := [(a7, .inl (k7, 400, .inl u_3a))]) [4] (by decide) rfl) (hK.sub (tys' := [(k7, .int)]) [3] rfl) hN) rfl rfl hl.1 rfl (lv_room (Nat.le_of_ble_eq_true rfl)) dX3_read_43 ⟨Nat.zero_le _, Nat.zero_le _⟩) hP hD hS hA [4] [0, 1, 2, 3, 5] rfl rfl (by decide) (by decide) (fun u_4 H locs hw_4 hP hD hS => ?_)
      have hP : va_P D vwCl [(g, .inr (4, [.int 0, .ref a1, .int 0, .ref a3, .int (nI y3.length), .ref a5, .int (nI y5.length), .ref a7, .ref a8, .ref a9, .int wn, .ref aB, .int tn, .int si, .int u_3c])), (a1, .inl (k1, 200, .inl g1)), (a3, .inl (k3, 100, .inl g3)), (a5, .inl (k5, 100, .inl g5)), (a7, .inl (k7, 400, .inl u_4)), (a8, .inl (k8, 400, .inl u_3b))] H := hP.sub [0, 1, 2, 3, 5, 4] rfl
      have hD : va_D A [(g, .inr (4, [.int 0, .ref a1, .int 0, .ref a3, .int (nI y3.length), .ref a5, .int (nI y5.length), .ref a7, .ref a8, .ref a9, .int wn, .ref aB, .int tn, .int si, .int u_3c])), (a1, .inl (k1, 200, .inl g1)), (a3, .inl (k3, 100, .inl g3)), (a5, .inl (k5, 100, .inl g5)), (a7, .inl (k7, 400, .inl u_4)), (a8, .inl (k8, 400, .inl u_3b))] := hD.sub [0, 1, 2, 3, 5, 4] (by decide) rfl
      refine lv_aload_n hx hb dX3_read_46 rfl (lv_at hl 1 rfl) ?_
      refine va_get (D := D) (ci := 4) (v := .ref a5) (C := RX3) (T := TX3) (N := 15) hx hb hts (by decide +kernel) hown hK hP 0 rfl rfl 5 (by decide) (hts (.fieldLink RX3 16 "CharacterRowsModel" "other" "[I") (by decide +kernel)) (fun _ h9 => h9) rfl dX3_read_47 ?_
      refine lv_astore_n (lv' := [(3, .ref a5), (2, .int (nI (roS (y1.length + 1) y1 0 0 [] 0 []).2.length)), (0, .ref g), (1, .int v0)]) hx hb dX3_read_50 rfl hl (by decide) rfl (fun ls hl => ?_)
      refine lv_aload_n hx hb dX3_read_51 rfl (lv_at hl 2 rfl) ?_
      refine lv_aload_n hx hb dX3_read_52 rfl (lv_at hl 2 rfl) ?_
      refine va_get (D := D) (ci := 4) (v := .ref a3) (C := RX3) (T := TX3) (N := 15) hx hb hts (by decide +kernel) hown hK hP 0 rfl rfl 3 (by decide) (hts (.fieldLink RX3 13 "CharacterRowsModel" "text" "[I") (by decide +kernel)) (fun _ h9 => h9) rfl dX3_read_53 ?_
      refine va_put (D := D) (ci := 4) (v := .ref a3) (ty := .array .int) (C := RX3) (T := TX3) (N := 15) hx hb hts (by decide +kernel) tyX3 tyX3_ok nmX3 hown hK hP hD hS 0 rfl rfl 5 (by decide) (hts (.fieldLink RX3 16 "CharacterRowsModel" "other" "[I") (by decide +kernel)) (fun _ h9 => h9) rfl (by decide +kernel) rfl rfl (Nat.le_of_ble_eq_true rfl) dX3_read_56 (fun H locs hP hD hS => ?_)
      have hP : va_P D vwCl [(g, .inr (4, [.int 0, .ref a1, .int 0, .ref a3, .int (nI y3.length), .ref a3, .int (nI y5.length), .ref a7, .ref a8, .ref a9, .int wn, .ref aB, .int tn, .int si, .int u_3c])), (a1, .inl (k1, 200, .inl g1)), (a3, .inl (k3, 100, .inl g3)), (a5, .inl (k5, 100, .inl g5)), (a7, .inl (k7, 400, .inl u_4)), (a8, .inl (k8, 400, .inl u_3b))] H := hP
      have hD : va_D A [(g, .inr (4, [.int 0, .ref a1, .int 0, .ref a3, .int (nI y3.length), .ref a3, .int (nI y5.length), .ref a7, .ref a8, .ref a9, .int wn, .ref aB, .int tn, .int si, .int u_3c])), (a1, .inl (k1, 200, .inl g1)), (a3, .inl (k3, 100, .inl g3)), (a5, .inl (k5, 100, .inl g5)), (a7, .inl (k7, 400, .inl u_4)), (a8, .inl (k8, 400, .inl u_3b))] := hD
      refine lv_aload_n hx hb dX3_read_59 rfl (lv_at hl 2 rfl) ?_
      refine lv_aload_n hx hb dX3_read_60 rfl (lv_at hl 2 rfl) ?_
      refine va_get (D := D) (ci := 4) (v := .int (nI y3.length)) (C := RX3) (T := TX3) (N := 15) hx hb hts (by decide +kernel) hown hK hP 0 rfl rfl 4 (by decide) (hts (.fieldLink RX3 85 "CharacterRowsModel" "count" "I") (by decide +kernel)) (fun _ h9 => h9) rfl dX3_read_61 ?_
      refine va_put (D := D) (ci := 4) (v := .int (nI y3.length)) (ty := .int) (C := RX3) (T := TX3) (N := 15) hx hb hts (by decide +kernel) tyX3 tyX3_ok nmX3 hown hK hP hD hS 0 rfl rfl 6 (by decide) (hts (.fieldLink RX3 88 "CharacterRowsModel" "otherCount" "I") (by decide +kernel)) (fun _ h9 => h9) rfl (by decide +kernel) rfl rfl (Nat.le_of_ble_eq_true rfl) dX3_read_64 (fun H locs hP hD hS => ?_)
      have hP : va_P D vwCl [(g, .inr (4, [.int 0, .ref a1, .int 0, .ref a3, .int (nI y3.length), .ref a3, .int (nI y3.length), .ref a7, .ref a8, .ref a9, .int wn, .ref aB, .int tn, .int si, .int u_3c])), (a1, .inl (k1, 200, .inl g1)), (a3, .inl (k3, 100, .inl g3)), (a5, .inl (k5, 100, .inl g5)), (a7, .inl (k7, 400, .inl u_4)), (a8, .inl (k8, 400, .inl u_3b))] H := hP
      have hD : va_D A [(g, .inr (4, [.int 0, .ref a1, .int 0, .ref a3, .int (nI y3.length), .ref a3, .int (nI y3.length), .ref a7, .ref a8, .ref a9, .int wn, .ref aB, .int tn, .int si, .int u_3c])), (a1, .inl (k1, 200, .inl g1)), (a3, .inl (k3, 100, .inl g3)), (a5, .inl (k5, 100, .inl g5)), (a7, .inl (k7, 400, .inl u_4)), (a8, .inl (k8, 400, .inl u_3b))] := hD
      refine lv_aload_n hx hb dX3_read_67 rfl (lv_at hl 2 rfl) ?_
      refine lv_aload_n hx hb dX3_read_68 rfl (lv_at hl 0 rfl) ?_
      refine va_put (D := D) (ci := 4) (v := .ref a5) (ty := .array .int) (C := RX3) (T := TX3) (N := 15) hx hb hts (by decide +kernel) tyX3 tyX3_ok nmX3 hown hK hP hD hS 0 rfl rfl 3 (by decide) (hts (.fieldLink RX3 13 "CharacterRowsModel" "text" "[I") (by decide +kernel)) (fun _ h9 => h9) rfl (by decide +kernel) rfl rfl (Nat.le_of_ble_eq_true rfl) dX3_read_69 (fun H locs hP hD hS => ?_)
      have hP : va_P D vwCl [(g, .inr (4, [.int 0, .ref a1, .int 0, .ref a5, .int (nI y3.length), .ref a3, .int (nI y3.length), .ref a7, .ref a8, .ref a9, .int wn, .ref aB, .int tn, .int si, .int u_3c])), (a1, .inl (k1, 200, .inl g1)), (a3, .inl (k3, 100, .inl g3)), (a5, .inl (k5, 100, .inl g5)), (a7, .inl (k7, 400, .inl u_4)), (a8, .inl (k8, 400, .inl u_3b))] H := hP
      have hD : va_D A [(g, .inr (4, [.int 0, .ref a1, .int 0, .ref a5, .int (nI y3.length), .ref a3, .int (nI y3.length), .ref a7, .ref a8, .ref a9, .int wn, .ref aB, .int tn, .int si, .int u_3c])), (a1, .inl (k1, 200, .inl g1)), (a3, .inl (k3, 100, .inl g3)), (a5, .inl (k5, 100, .inl g5)), (a7, .inl (k7, 400, .inl u_4)), (a8, .inl (k8, 400, .inl u_3b))] := hD
      refine lv_aload_n hx hb dX3_read_72 rfl (lv_at hl 2 rfl) ?_
      refine lv_iload_n hx hb dX3_read_73 rfl (lv_at hl 1 rfl) ?_
      refine va_put (D := D) (ci := 4) (v := .int (nI (roS (y1.length + 1) y1 0 0 [] 0 []).2.length)) (ty := .int) (C := RX3) (T := TX3) (N := 15) hx hb hts (by decide +kernel) tyX3 tyX3_ok nmX3 hown hK hP hD hS 0 rfl rfl 4 (by decide) (hts (.fieldLink RX3 85 "CharacterRowsModel" "count" "I") (by decide +kernel)) (fun _ h9 => h9) rfl (by decide +kernel) rfl rfl (Nat.le_of_ble_eq_true rfl) dX3_read_74 (fun H locs hP hD hS => ?_)
      have hP : va_P D vwCl [(g, .inr (4, [.int 0, .ref a1, .int 0, .ref a5, .int (nI (roS (y1.length + 1) y1 0 0 [] 0 []).2.length), .ref a3, .int (nI y3.length), .ref a7, .ref a8, .ref a9, .int wn, .ref aB, .int tn, .int si, .int u_3c])), (a1, .inl (k1, 200, .inl g1)), (a3, .inl (k3, 100, .inl g3)), (a5, .inl (k5, 100, .inl g5)), (a7, .inl (k7, 400, .inl u_4)), (a8, .inl (k8, 400, .inl u_3b))] H := hP
      have hD : va_D A [(g, .inr (4, [.int 0, .ref a1, .int 0, .ref a5, .int (nI (roS (y1.length + 1) y1 0 0 [] 0 []).2.length), .ref a3, .int (nI y3.length), .ref a7, .ref a8, .ref a9, .int wn, .ref aB, .int tn, .int si, .int u_3c])), (a1, .inl (k1, 200, .inl g1)), (a3, .inl (k3, 100, .inl g3)), (a5, .inl (k5, 100, .inl g5)), (a7, .inl (k7, 400, .inl u_4)), (a8, .inl (k8, 400, .inl u_3b))] := hD
      refine lv_iconst (v := 0) hx hb dX3_read_77 (by decide) ?_
      refine lv_istore (lv' := [(4, .int 0), (3, .ref a5), (2, .int (nI (roS (y1.length + 1) y1 0 0 [] 0 []).2.length)), (0, .ref g), (1, .int v0)]) hx hb dX3_read_78 hl (by decide) rfl (fun ls hl => ?_)
      have hYl : (ordr (roS (y1.length + 1) y1 0 0 [] 0 []).2).length = (roS (y1.length + 1) y1 0 0 [] 0 []).2.length := ordr_len _
      rw [← hYl] at hl hP hD
      have hl100b : (ordr (roS (y1.length + 1) y1 0 0 [] 0 []).2).length ≤ 100 := by omega
      have p7y := hw_4
      have loop : ∀ (rest : List Int32) (done : List Int32) (fd : Nat → Int32) (xk : Int32) (H : Heap) (locs : List Loc) (ls : Array Slot), ((ordr (roS (y1.length + 1) y1 0 0 [] 0 []).2) = done ++ rest) → (xk = nI done.length) → (rw_ok fd 100 done) → va_P D vwCl [(g, .inr (4, [.int 0, .ref a1, .int 0, .ref a5, .int (nI (ordr (roS (y1.length + 1) y1 0 0 [] 0 []).2).length), .ref a3, .int (nI y3.length), .ref a7, .ref a8, .ref a9, .int wn, .ref aB, .int tn, .int si, .int u_3c])), (a1, .inl (k1, 200, .inl g1)), (a3, .inl (k3, 100, .inl g3)), (a5, .inl (k5, 100, .inl fd)), (a7, .inl (k7, 400, .inl u_4)), (a8, .inl (k8, 400, .inl u_3b))] H → va_D A [(g, .inr (4, [.int 0, .ref a1, .int 0, .ref a5, .int (nI (ordr (roS (y1.length + 1) y1 0 0 [] 0 []).2).length), .ref a3, .int (nI y3.length), .ref a7, .ref a8, .ref a9, .int wn, .ref aB, .int tn, .int si, .int u_3c])), (a1, .inl (k1, 200, .inl g1)), (a3, .inl (k3, 100, .inl g3)), (a5, .inl (k5, 100, .inl fd)), (a7, .inl (k7, 400, .inl u_4)), (a8, .inl (k8, 400, .inl u_3b))] → va_S A s.heap H locs → lv_has ls 5 [(4, .int xk), (3, .ref a5), (2, .int (nI (ordr (roS (y1.length + 1) y1 0 0 [] 0 []).2).length)), (0, .ref g), (1, .int v0)] → W p l e ({ frames := 3, cells := 0, slots := 0, locals := 69 }) s m ([.ref g, .int v0] : List Value).toArray below meth c H locs 0 0 (MQ below (qcI (S := AWT × AWT × (Nat → Int32) × (Nat → Int32) × Int32) D (fun r u => r = rmA y1 v0 ∧ u.1.2.2.2 = (if (rdM y1 v0).1 = -1 then ordr (rdM y1 v0).2 else y3) ∧ u.2.1.2.2.2 = (if (rdM y1 v0).1 = -1 then y3 else y5) ∧ rw_ok u.1.2.2.1 100 u.1.2.2.2 ∧ rw_ok u.2.1.2.2.1 100 u.2.1.2.2.2) (fun u => [(g, .inr (4, [.int 0, .ref a1, .int (nI ([] : List Int32).length), .ref u.1.1, .int (nI u.1.2.2.2.length), .ref u.2.1.1, .int (nI u.2.1.2.2.2.length), .ref a7, .ref a8, .ref a9, .int wn, .ref aB, .int tn, .int si, .int u.2.2.2.2])), (a1, .inl (k1, 200, .inl g1)), (u.1.1, .inl (u.1.2.1, 100, .inl u.1.2.2.1)), (u.2.1.1, .inl (u.2.1.2.1, 100, .inl u.2.1.2.2.1)), (a7, .inl (k7, 400, .inl u.2.2.1)), (a8, .inl (k8, 400, .inl u.2.2.2.1))]) A) ([.ref g, .int v0] : List Value).toArray s 0 0 A) (F0 m 80 ls [])  := by
        intro rest
        induction rest with
        | nil =>
          intro done fd xk H locs ls hY ek pd hP hD hS hl
          have hln : (ordr (roS (y1.length + 1) y1 0 0 [] 0 []).2).length = done.length := by rw [hY]; simp
          refine lv_iload hx hb dX3_read_80 (lv_at hl 0 rfl) ?_
          refine lv_iload_n hx hb dX3_read_82 rfl (lv_at hl 2 rfl) ?_
          refine lv_icmp_ge (tgt := 106) hx hb dX3_read_83 (by decide) (fun c83_3 => ?_) (fun c83_3 => ?_)
          · skip
            refine lv_iload_n hx hb dX3_read_106 rfl (lv_at hl 2 rfl) ?_
            have e7 : rdM y1 v0 = (roS (y1.length + 1) y1 0 0 [] 0 []) := by rw [rdM, if_pos c6_1]
            have hYd : done = (ordr (roS (y1.length + 1) y1 0 0 [] 0 []).2) := by rw [hY]; simp
            rw [hYd] at pd
            have e6 : (rdM y1 v0).1 = -1 := by rw [e7]; exact hT1
            have hP8 := hP.sub (ws' := [(g, .inr (4, [.int 0, .ref a1, .int 0, .ref a5, .int (nI (ordr (roS (y1.length + 1) y1 0 0 [] 0 []).2).length), .ref a3, .int (nI y3.length), .ref a7, .ref a8, .ref a9, .int wn, .ref aB, .int tn, .int si, .int u_3c])), (a1, .inl (k1, 200, .inl g1)), (a5, .inl (k5, 100, .inl fd)), (a3, .inl (k3, 100, .inl g3)), (a7, .inl (k7, 400, .inl u_4)), (a8, .inl (k8, 400, .inl u_3b))]) [0, 1, 3, 2, 4, 5] rfl
            have hD8 := hD.sub (ws' := [(g, .inr (4, [.int 0, .ref a1, .int 0, .ref a5, .int (nI (ordr (roS (y1.length + 1) y1 0 0 [] 0 []).2).length), .ref a3, .int (nI y3.length), .ref a7, .ref a8, .ref a9, .int wn, .ref aB, .int tn, .int si, .int u_3c])), (a1, .inl (k1, 200, .inl g1)), (a5, .inl (k5, 100, .inl fd)), (a3, .inl (k3, 100, .inl g3)), (a7, .inl (k7, 400, .inl u_4)), (a8, .inl (k8, 400, .inl u_3b))]) [0, 1, 3, 2, 4, 5] (by decide) rfl
            exact rtI hx hb hr hlocks dX3_read_107 ((a5, k5, fd, (ordr (roS (y1.length + 1) y1 0 0 [] 0 []).2)), (a3, k3, g3, y3), u_4, u_3b, u_3c) ⟨by rw [rmA, if_pos e6, e7], by rw [if_pos e6, e7], by rw [if_pos e6], pd, p3⟩ hP8 hD8 hS
          · skip
            exact absurd (by rw [ek, hln]; exact Int32.le_refl _) c83_3
        | cons d t ih =>
          intro done fd xk H locs ls hY ek pd hP hD hS hl
          have hln : (ordr (roS (y1.length + 1) y1 0 0 [] 0 []).2).length = done.length + (t.length + 1) := by rw [hY]; simp
          have hsl := p7y.1
          refine lv_iload hx hb dX3_read_80 (lv_at hl 0 rfl) ?_
          refine lv_iload_n hx hb dX3_read_82 rfl (lv_at hl 2 rfl) ?_
          refine lv_icmp_ge (tgt := 106) hx hb dX3_read_83 (by decide) (fun c83_4 => ?_) (fun c83_4 => ?_)
          · skip
            exact absurd c83_4 (by rw [ek, hln]; exact nI_ge (by omega) (by omega))
          · skip
            refine lv_aload_n hx hb dX3_read_86 rfl (lv_at hl 3 rfl) ?_
            refine va_get (D := D) (ci := 4) (v := .ref a5) (C := RX3) (T := TX3) (N := 15) hx hb hts (by decide +kernel) hown hK hP 0 rfl rfl 3 (by decide) (hts (.fieldLink RX3 13 "CharacterRowsModel" "text" "[I") (by decide +kernel)) (fun _ h9 => h9) rfl dX3_read_87 ?_
            refine lv_iload hx hb dX3_read_90 (lv_at hl 0 rfl) ?_
            refine lv_aload_n hx hb dX3_read_92 rfl (lv_at hl 3 rfl) ?_
            refine va_get (D := D) (ci := 4) (v := .ref a7) (C := RX3) (T := TX3) (N := 15) hx hb hts (by decide +kernel) hown hK hP 0 rfl rfl 7 (by decide) (hts (.fieldLink RX3 19 "CharacterRowsModel" "work" "[I") (by decide +kernel)) (fun _ h9 => h9) rfl dX3_read_93 ?_
            refine lv_iload hx hb dX3_read_96 (lv_at hl 0 rfl) ?_
            refine va_iald hx hb hK hP 4 3 rfl rfl (rwf_in (j := 0) p7y (by decide) hY ek rfl (by simp)) dX3_read_98 ?_
            refine lv_topi (fun r9 hr9 => ?_)
            replace hr9 : r9 = d := hr9.trans (rwf_v (j := 0) p7y (by decide) hY ek rfl (by simp))
            subst r9
            refine va_iast hx hb hK hP hD hS 3 2 rfl rfl (rwf_sin pd (by decide) ek (by omega)) dX3_read_99 (fun H locs hP hD hS => ?_)
            have hP : va_P D vwCl [(g, .inr (4, [.int 0, .ref a1, .int 0, .ref a5, .int (nI (ordr (roS (y1.length + 1) y1 0 0 [] 0 []).2).length), .ref a3, .int (nI y3.length), .ref a7, .ref a8, .ref a9, .int wn, .ref aB, .int tn, .int si, .int u_3c])), (a1, .inl (k1, 200, .inl g1)), (a3, .inl (k3, 100, .inl g3)), (a5, .inl (k5, 100, .inl (upd fd xk.toNatClampNeg d))), (a7, .inl (k7, 400, .inl u_4)), (a8, .inl (k8, 400, .inl u_3b))] H := hP
            have hD : va_D A [(g, .inr (4, [.int 0, .ref a1, .int 0, .ref a5, .int (nI (ordr (roS (y1.length + 1) y1 0 0 [] 0 []).2).length), .ref a3, .int (nI y3.length), .ref a7, .ref a8, .ref a9, .int wn, .ref aB, .int tn, .int si, .int u_3c])), (a1, .inl (k1, 200, .inl g1)), (a3, .inl (k3, 100, .inl g3)), (a5, .inl (k5, 100, .inl (upd fd xk.toNatClampNeg d))), (a7, .inl (k7, 400, .inl u_4)), (a8, .inl (k8, 400, .inl u_3b))] := hD
            refine lv_iinc (v := (xk + 1)) (lv' := [(4, .int (xk + 1)), (3, .ref a5), (2, .int (nI (ordr (roS (y1.length + 1) y1 0 0 [] 0 []).2).length)), (0, .ref g), (1, .int v0)]) hx hb dX3_read_100 hl (k := 0) rfl rfl (by decide) rfl (fun ls hl => ?_)
            refine lv_goto (tgt := 80) hx hb dX3_read_103 (by decide) ?_
            exact ih (done ++ [d]) (upd fd xk.toNatClampNeg d) _ H locs ls (by rw [hY]; simp) (by rw [ek, List.length_append]; exact nI_1 _) (rwf_snoc pd (by decide) ek (by omega)) hP hD hS (lv_sub hl [0, 1, 2, 3, 4] rfl)
      exact loop (ordr (roS (y1.length + 1) y1 0 0 [] 0 []).2) [] g5 _ H locs ls rfl rfl rw_nil hP hD hS (lv_sub hl [0, 1, 2, 3, 4] rfl)
    · skip
      refine lv_iconst (v := (-1)) hx hb dX3_read_31 (by decide) ?_
      refine lv_aload_n hx hb dX3_read_32 rfl (lv_at hl 1 rfl) ?_
      refine va_get (D := D) (ci := 4) (v := .int u_3c) (C := RX3) (T := TX3) (N := 15) hx hb hts (by decide +kernel) hown hK hP 0 rfl rfl 14 (by decide) (hts (.fieldLink RX3 55 "CharacterRowsModel" "wrong" "I") (by decide +kernel)) (fun _ h9 => h9) rfl dX3_read_33 ?_
      refine lv_isub hx hb dX3_read_36 ?_
      have e7 : rdM y1 v0 = (roS (y1.length + 1) y1 0 0 [] 0 []) := by rw [rdM, if_pos c6_1]
      have hT1 : ¬ (roS (y1.length + 1) y1 0 0 [] 0 []).1 = -1 := fun q => by have := (hw_3.1 q).1; rw [c28_2] at this; exact nI_ne1 (Nat.lt_of_le_of_lt (roS_len _ _ _ _ _ _ _ (Nat.zero_le _)) (by decide)) this.symm
      have hwg := (hw_3.2 hT1).2
      have e6 : ¬ (rdM y1 v0).1 = -1 := by rw [e7]; exact hT1
      exact rtI hx hb hr hlocks dX3_read_37 ((a3, k3, g3, y3), (a5, k5, g5, y5), u_3a, u_3b, u_3c) ⟨by rw [rmA, if_neg e6, e7, ← hwg], by rw [if_neg e6], by rw [if_neg e6], p3, p5⟩ hP hD hS
