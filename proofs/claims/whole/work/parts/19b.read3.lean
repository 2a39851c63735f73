/-! the reference: apart; the reader of the old kind -/
set_option maxHeartbeats 4000000 in
set_option maxRecDepth 100000 in
theorem KX3_apart (l : Launch) (D : va_G) (a b : Nat) (ka kb : ClassId) (cf : Nat) (hcf : cf < 2 ^ 30) (f fb : Nat → Int32) (ys : List Int32) (pa : rw_ok f cf ys) (h100 : ys.length ≤ 100) (sz : Nat) : Met l yX3_apart wsX3_apart ({ frames := 2, cells := 0, slots := 0, locals := 44 }) (pcM D sz [(a, .inl (ka, cf, .inl f)), (b, .inl (kb, 400, .inl fb))] [(ka, .int), (kb, .int)] [.ref a, .int (nI ys.length), .ref b]) (qcI (S := Nat → Int32) D (fun r u => r = nI (apo ys).length ∧ rw_ok u 400 (apo ys)) (fun u => [(a, .inl (ka, cf, .inl f)), (b, .inl (kb, 400, .inl u))]) (va_A [(a, .inl (ka, cf, .inl f)), (b, .inl (kb, 400, .inl fb))] sz)) 0 0 (va_A [(a, .inl (ka, cf, .inl f)), (b, .inl (kb, 400, .inl fb))] sz) := by
  refine ofM (Qc := fun A => qcI (S := Nat → Int32) D (fun r u => r = nI (apo ys).length ∧ rw_ok u 400 (apo ys)) (fun u => [(a, .inl (ka, cf, .inl f)), (b, .inl (kb, 400, .inl u))]) A) (cc := cX3_apart) (maxL := 6) (ret := (some .int)) (by decide) rfl (Nat.le_of_ble_eq_true rfl) ?_
  intro p e s m below meth c ls A hx hb hr hml hown hts hlocks hnm hP hK hN hD hA hS hl
  have hl : lv_has ls 6 [(0, .ref a), (1, .int (nI ys.length)), (2, .ref b)] := hl
  have hcf1 : cf < 2 ^ 31 := by omega
  refine lv_iconst (v := 0) hx hb dX3_apart_0 (by decide) ?_
  refine lv_istore_n (lv' := [(3, .int 0), (0, .ref a), (1, .int (nI ys.length)), (2, .ref b)]) hx hb dX3_apart_1 rfl hl (by decide) rfl (fun ls hl => ?_)
  refine lv_iconst (v := 0) hx hb dX3_apart_2 (by decide) ?_
  refine lv_istore (lv' := [(4, .int 0), (3, .int 0), (0, .ref a), (1, .int (nI ys.length)), (2, .ref b)]) hx hb dX3_apart_3 hl (by decide) rfl (fun ls hl => ?_)
  have loop : ∀ (rest : List Int32) (done : List Int32) (fb : Nat → Int32) (x3 x4 : Int32) (H : Heap) (locs : List Loc) (ls : Array Slot), (ys = done ++ rest) → (x4 = nI done.length) → (x3 = nI (apt done).length) → (rw_ok fb 400 (apt done)) → va_P D vwCl [(a, .inl (ka, cf, .inl f)), (b, .inl (kb, 400, .inl fb))] H → va_D A [(a, .inl (ka, cf, .inl f)), (b, .inl (kb, 400, .inl fb))] → va_S A s.heap H locs → lv_has ls 6 [(4, .int x4), (3, .int x3), (0, .ref a), (1, .int (nI ys.length)), (2, .ref b)] → W p l e ({ frames := 2, cells := 0, slots := 0, locals := 44 }) s m ([.ref a, .int (nI ys.length), .ref b] : List Value).toArray below meth c H locs 0 0 (MQ below (qcI (S := Nat → Int32) D (fun r u => r = nI (apo ys).length ∧ rw_ok u 400 (apo ys)) (fun u => [(a, .inl (ka, cf, .inl f)), (b, .inl (kb, 400, .inl u))]) A) ([.ref a, .int (nI ys.length), .ref b] : List Value).toArray s 0 0 A) (F0 m 5 ls [])  := by
    intro rest
    induction rest with
    | nil =>
      intro done fb x3 x4 H locs ls hys e4 e3 pb hP hD hS hl
      have hln : ys.length = done.length := by rw [hys]; simp
      have hdn : ys = done := by rw [hys]; simp
      refine lv_iload hx hb dX3_apart_5 (lv_at hl 0 rfl) ?_
      refine lv_iload_n hx hb dX3_apart_7 rfl (lv_at hl 3 rfl) ?_
      refine lv_icmp_ge (tgt := 69) hx hb dX3_apart_8 (by decide) (fun c8_1 => ?_) (fun c8_1 => ?_)
      · skip
        subst hdn
        subst e3
        refine lv_aload_n hx hb dX3_apart_69 rfl (lv_at hl 4 rfl) ?_
        refine lv_iload_n hx hb dX3_apart_70 rfl (lv_at hl 1 rfl) ?_
        refine clV (wr := [(a, .inl (ka, cf, .inl f))]) (va_runS ⟨hx, hb, hml, hown, hts⟩ (KX3_order l D b kb 400 (by decide) fb (apt ys) pb _) (va_cwS 2 hts gX3_apart_X3_order rfl rfl rfl (by decide +kernel) ⟨Nat.le_of_ble_eq_true rfl, Nat.le_of_ble_eq_true rfl⟩) (pcM_S (hP.sub (ws' := [(b, .inl (kb, 400, .inl fb))]) [1] rfl) (hD.sub (ws' := [(b, .inl (kb, 400, .inl fb))]) [1] (by decide) rfl) (hK.sub (tys' := [(kb, .int)]) [1] rfl) hN) rfl rfl hl.1 rfl (lv_room (Nat.le_of_ble_eq_true rfl)) dX3_apart_71 ⟨Nat.zero_le _, Nat.zero_le _⟩) hP hD hS hA [1] [0] rfl rfl (by decide) (by decide) (fun u_1 H locs hw_1 hP hD hS => ?_)
        have hP : va_P D vwCl [(a, .inl (ka, cf, .inl f)), (b, .inl (kb, 400, .inl u_1))] H := hP.sub [0, 1] rfl
        have hD : va_D A [(a, .inl (ka, cf, .inl f)), (b, .inl (kb, 400, .inl u_1))] := hD.sub [0, 1] (by decide) rfl
        refine lv_iload_n hx hb dX3_apart_74 rfl (lv_at hl 1 rfl) ?_
        exact rtI hx hb hr hlocks dX3_apart_75 u_1 ⟨by rw [apo, ordr_len], hw_1⟩ hP hD hS
      · skip
        exact absurd (by rw [e4, hln]; exact Int32.le_refl _) c8_1
    | cons d t ih =>
      intro done fb x3 x4 H locs ls hys e4 e3 pb hP hD hS hl
      have hln : ys.length = done.length + (t.length + 1) := by rw [hys]; simp
      have hap := apt_len done
      refine lv_iload hx hb dX3_apart_5 (lv_at hl 0 rfl) ?_
      refine lv_iload_n hx hb dX3_apart_7 rfl (lv_at hl 3 rfl) ?_
      refine lv_icmp_ge (tgt := 69) hx hb dX3_apart_8 (by decide) (fun c8_2 => ?_) (fun c8_2 => ?_)
      · skip
        exact absurd c8_2 (by rw [e4, hln]; exact nI_ge (by omega) (by omega))
      · skip
        refine lv_aload_n hx hb dX3_apart_11 rfl (lv_at hl 2 rfl) ?_
        refine lv_iload hx hb dX3_apart_12 (lv_at hl 0 rfl) ?_
        refine va_iald hx hb hK hP 0 0 rfl rfl (rwf_in (j := 0) pa hcf1 hys e4 rfl (by simp)) dX3_apart_14 ?_
        refine lv_topi (fun r9 hr9 => ?_)
        replace hr9 : r9 = d := hr9.trans (rwf_v (j := 0) pa hcf1 hys e4 rfl (by simp))
        subst r9
        refine vp_callSi (W.runS ⟨hx, hb, hml, hown, hts⟩ (KX3_isComposed l d) (va_cwS 1 hts gX3_apart_X3_isComposed rfl rfl rfl (by decide +kernel) ⟨Nat.le_of_ble_eq_true rfl, Nat.le_of_ble_eq_true rfl⟩) pcS_S rfl rfl hl.1 rfl (lv_room (Nat.le_of_ble_eq_true rfl)) dX3_apart_15 ⟨Nat.zero_le _, Nat.zero_le _⟩) (fun r9 hr9 => ?_)
        replace hr9 : r9 = fX2_isComposed d := hr9.trans (x3_isComposed _)
        subst r9
        refine lv_istore (lv' := [(5, .int (fX2_isComposed d)), (4, .int x4), (3, .int x3), (0, .ref a), (1, .int (nI ys.length)), (2, .ref b)]) hx hb dX3_apart_18 hl (by decide) rfl (fun ls hl => ?_)
        refine lv_aload_n hx hb dX3_apart_20 rfl (lv_at hl 5 rfl) ?_
        refine lv_iload_n hx hb dX3_apart_21 rfl (lv_at hl 2 rfl) ?_
        refine lv_iload hx hb dX3_apart_22 (lv_at hl 0 rfl) ?_
        refine lv_if_eq (tgt := 37) hx hb dX3_apart_24 (by decide) (fun c24_1 => ?_) (fun c24_1 => ?_)
        · skip
          refine lv_aload_n hx hb dX3_apart_37 rfl (lv_at hl 3 rfl) ?_
          refine lv_iload hx hb dX3_apart_38 (lv_at hl 1 rfl) ?_
          refine va_iald hx hb hK hP 0 0 rfl rfl (rwf_in (j := 0) pa hcf1 hys e4 rfl (by simp)) dX3_apart_40 ?_
          refine lv_topi (fun r9 hr9 => ?_)
          replace hr9 : r9 = d := hr9.trans (rwf_v (j := 0) pa hcf1 hys e4 rfl (by simp))
          subst r9
          refine va_iast hx hb hK hP hD hS 1 1 rfl rfl (rwf_sin pb (by decide) e3 (by omega)) dX3_apart_41 (fun H locs hP hD hS => ?_)
          have hP : va_P D vwCl [(a, .inl (ka, cf, .inl f)), (b, .inl (kb, 400, .inl (upd fb x3.toNatClampNeg d)))] H := hP
          have hD : va_D A [(a, .inl (ka, cf, .inl f)), (b, .inl (kb, 400, .inl (upd fb x3.toNatClampNeg d)))] := hD
          refine lv_iinc (v := (x3 + 1)) (lv' := [(3, .int (x3 + 1)), (5, .int (fX2_isComposed d)), (4, .int x4), (0, .ref a), (1, .int (nI ys.length)), (2, .ref b)]) hx hb dX3_apart_42 hl (k := 2) rfl rfl (by decide) rfl (fun ls hl => ?_)
          refine lv_iload hx hb dX3_apart_45 (lv_at hl 1 rfl) ?_
          refine lv_if_eq (tgt := 63) hx hb dX3_apart_47 (by decide) (fun c47_1 => ?_) (fun c47_1 => ?_)
          · skip
            refine lv_iinc (v := (x4 + 1)) (lv' := [(4, .int (x4 + 1)), (3, .int (x3 + 1)), (5, .int (fX2_isComposed d)), (0, .ref a), (1, .int (nI ys.length)), (2, .ref b)]) hx hb dX3_apart_63 hl (k := 2) rfl rfl (by decide) rfl (fun ls hl => ?_)
            refine lv_goto (tgt := 5) hx hb dX3_apart_66 (by decide) ?_
            have q1 := rwf_snoc (c := d) pb (by decide) e3 (by omega)
            have e7 : apt done ++ [d] = apt (done ++ [d]) := by simp [apt, ap1, c24_1]
            rw [e7] at q1
            exact ih (done ++ [d]) (upd fb x3.toNatClampNeg d) _ _ H locs ls (by rw [hys]; simp) (by rw [e4, List.length_append]; exact nI_1 _) (by rw [e3, nI_1]; congr 1; rw [← e7]; simp) q1 hP hD hS (lv_sub hl [0, 1, 3, 4, 5] rfl)
          · skip
            exact absurd c24_1 c47_1
        · skip
          refine lv_aload_n hx hb dX3_apart_27 rfl (lv_at hl 3 rfl) ?_
          refine lv_iload hx hb dX3_apart_28 (lv_at hl 1 rfl) ?_
          refine va_iald hx hb hK hP 0 0 rfl rfl (rwf_in (j := 0) pa hcf1 hys e4 rfl (by simp)) dX3_apart_30 ?_
          refine lv_topi (fun r9 hr9 => ?_)
          replace hr9 : r9 = d := hr9.trans (rwf_v (j := 0) pa hcf1 hys e4 rfl (by simp))
          subst r9
          refine vp_callSi (W.runS ⟨hx, hb, hml, hown, hts⟩ (KX3_letterOf l d) (va_cwS 1 hts gX3_apart_X3_letterOf rfl rfl rfl (by decide +kernel) ⟨Nat.le_of_ble_eq_true rfl, Nat.le_of_ble_eq_true rfl⟩) pcS_S rfl rfl hl.1 rfl (lv_room (Nat.le_of_ble_eq_true rfl)) dX3_apart_31 ⟨Nat.zero_le _, Nat.zero_le _⟩) (fun r9 hr9 => ?_)
          replace hr9 : r9 = fX2_letterOf d := hr9.trans (x3_letterOf _)
          subst r9
          refine lv_goto (tgt := 41) hx hb dX3_apart_34 (by decide) ?_
          refine va_iast hx hb hK hP hD hS 1 1 rfl rfl (rwf_sin pb (by decide) e3 (by omega)) dX3_apart_41 (fun H locs hP hD hS => ?_)
          have hP : va_P D vwCl [(a, .inl (ka, cf, .inl f)), (b, .inl (kb, 400, .inl (upd fb x3.toNatClampNeg (fX2_letterOf d))))] H := hP
          have hD : va_D A [(a, .inl (ka, cf, .inl f)), (b, .inl (kb, 400, .inl (upd fb x3.toNatClampNeg (fX2_letterOf d))))] := hD
          refine lv_iinc (v := (x3 + 1)) (lv' := [(3, .int (x3 + 1)), (5, .int (fX2_isComposed d)), (4, .int x4), (0, .ref a), (1, .int (nI ys.length)), (2, .ref b)]) hx hb dX3_apart_42 hl (k := 2) rfl rfl (by decide) rfl (fun ls hl => ?_)
          refine lv_iload hx hb dX3_apart_45 (lv_at hl 1 rfl) ?_
          refine lv_if_eq (tgt := 63) hx hb dX3_apart_47 (by decide) (fun c47_2 => ?_) (fun c47_2 => ?_)
          · skip
            exact absurd c47_2 c24_1
          · skip
            refine lv_aload_n hx hb dX3_apart_50 rfl (lv_at hl 5 rfl) ?_
            refine lv_iload_n hx hb dX3_apart_51 rfl (lv_at hl 0 rfl) ?_
            refine lv_aload_n hx hb dX3_apart_52 rfl (lv_at hl 3 rfl) ?_
            refine lv_iload hx hb dX3_apart_53 (lv_at hl 2 rfl) ?_
            refine va_iald hx hb hK hP 0 0 rfl rfl (rwf_in (j := 0) pa hcf1 hys e4 rfl (by simp)) dX3_apart_55 ?_
            refine lv_topi (fun r9 hr9 => ?_)
            replace hr9 : r9 = d := hr9.trans (rwf_v (j := 0) pa hcf1 hys e4 rfl (by simp))
            subst r9
            refine vp_callSi (W.runS ⟨hx, hb, hml, hown, hts⟩ (KX3_markOf l d) (va_cwS 1 hts gX3_apart_X3_markOf rfl rfl rfl (by decide +kernel) ⟨Nat.le_of_ble_eq_true rfl, Nat.le_of_ble_eq_true rfl⟩) pcS_S rfl rfl hl.1 rfl (lv_room (Nat.le_of_ble_eq_true rfl)) dX3_apart_56 ⟨Nat.zero_le _, Nat.zero_le _⟩) (fun r9 hr9 => ?_)
            replace hr9 : r9 = fX2_markOf d := hr9.trans (x3_markOf _)
            subst r9
            refine va_iast hx hb hK hP hD hS 1 1 rfl rfl (rwf_sin (rwf_snoc (c := fX2_letterOf d) pb (by decide) e3 (by omega)) (by decide) (x := x3 + 1) (by rw [e3, nI_1]; simp) (by simp; omega)) dX3_apart_59 (fun H locs hP hD hS => ?_)
            have hP : va_P D vwCl [(a, .inl (ka, cf, .inl f)), (b, .inl (kb, 400, .inl (upd (upd fb x3.toNatClampNeg (fX2_letterOf d)) (x3 + 1).toNatClampNeg (fX2_markOf d))))] H := hP
            have hD : va_D A [(a, .inl (ka, cf, .inl f)), (b, .inl (kb, 400, .inl (upd (upd fb x3.toNatClampNeg (fX2_letterOf d)) (x3 + 1).toNatClampNeg (fX2_markOf d))))] := hD
            refine lv_iinc (v := ((x3 + 1) + 1)) (lv' := [(3, .int ((x3 + 1) + 1)), (5, .int (fX2_isComposed d)), (4, .int x4), (0, .ref a), (1, .int (nI ys.length)), (2, .ref b)]) hx hb dX3_apart_60 hl (k := 0) rfl rfl (by decide) rfl (fun ls hl => ?_)
            refine lv_iinc (v := (x4 + 1)) (lv' := [(4, .int (x4 + 1)), (3, .int ((x3 + 1) + 1)), (5, .int (fX2_isComposed d)), (0, .ref a), (1, .int (nI ys.length)), (2, .ref b)]) hx hb dX3_apart_63 hl (k := 2) rfl rfl (by decide) rfl (fun ls hl => ?_)
            refine lv_goto (tgt := 5) hx hb dX3_apart_66 (by decide) ?_
            have q1 := rwf_snoc (c := fX2_letterOf d) pb (by decide) e3 (by omega)
            have q2 := rwf_snoc (c := fX2_markOf d) q1 (by decide) (x := x3 + 1) (by rw [e3, nI_1]; simp) (by simp; omega)
            have e7 : apt done ++ [fX2_letterOf d] ++ [fX2_markOf d] = apt (done ++ [d]) := by simp [apt, ap1, c24_1]
            rw [e7] at q2
            exact ih (done ++ [d]) (upd (upd fb x3.toNatClampNeg (fX2_letterOf d)) (x3 + 1).toNatClampNeg (fX2_markOf d)) _ _ H locs ls (by rw [hys]; simp) (by rw [e4, List.length_append]; exact nI_1 _) (by rw [e3, nI_1, nI_1]; congr 1; rw [← e7]; simp) q2 hP hD hS (lv_sub hl [0, 1, 3, 4, 5] rfl)
  exact loop ys [] fb _ _ _ _ ls rfl rfl rfl rw_nil hP hD hS (lv_sub hl [0, 1, 2, 3, 4] rfl)
set_option maxHeartbeats 4000000 in
set_option maxRecDepth 100000 in
theorem KX3_readOld (l : Launch) (D : va_G) (g a1 a3 a5 a7 a8 a9 aB : Nat) (th ct oc wn tn si wg : Int32) (k1 : ClassId) (g1 : Nat → Int32) (y1 : List Int32) (p1 : rw_ok g1 200 y1) (hby : ∀ c ∈ y1, byt c) (k7 : ClassId) (g7 : Nat → Int32) (k8 : ClassId) (g8 : Nat → Int32) (T : Int32 × List Int32) (hT : roS (y1.length + 1) y1 0 0 [] 0 [] = T) (sz : Nat) : Met l yX3_readOld wsX3_readOld ({ frames := 1, cells := 0, slots := 0, locals := 21 }) (pcM D sz [(g, .inr (4, [.int th, .ref a1, .int (nI y1.length), .ref a3, .int ct, .ref a5, .int oc, .ref a7, .ref a8, .ref a9, .int wn, .ref aB, .int tn, .int si, .int wg])), (a1, .inl (k1, 200, .inl g1)), (a7, .inl (k7, 400, .inl g7)), (a8, .inl (k8, 400, .inl g8))] [(k1, .int), (k7, .int), (k8, .int)] [.ref g]) (qcI (S := (Nat → Int32) × (Nat → Int32) × Int32) D (fun r u => (T.1 = -1 → r = nI T.2.length ∧ rw_ok u.1 400 T.2) ∧ (¬ T.1 = -1 → r = -1 ∧ u.2.2 = T.1)) (fun u => [(g, .inr (4, [.int th, .ref a1, .int (nI y1.length), .ref a3, .int ct, .ref a5, .int oc, .ref a7, .ref a8, .ref a9, .int wn, .ref aB, .int tn, .int si, .int u.2.2])), (a1, .inl (k1, 200, .inl g1)), (a7, .inl (k7, 400, .inl u.1)), (a8, .inl (k8, 400, .inl u.2.1))]) (va_A [(g, .inr (4, [.int th, .ref a1, .int (nI y1.length), .ref a3, .int ct, .ref a5, .int oc, .ref a7, .ref a8, .ref a9, .int wn, .ref aB, .int tn, .int si, .int wg])), (a1, .inl (k1, 200, .inl g1)), (a7, .inl (k7, 400, .inl g7)), (a8, .inl (k8, 400, .inl g8))] sz)) 0 0 (va_A [(g, .inr (4, [.int th, .ref a1, .int (nI y1.length), .ref a3, .int ct, .ref a5, .int oc, .ref a7, .ref a8, .ref a9, .int wn, .ref aB, .int tn, .int si, .int wg])), (a1, .inl (k1, 200, .inl g1)), (a7, .inl (k7, 400, .inl g7)), (a8, .inl (k8, 400, .inl g8))] sz) := by
  refine ofM (Qc := fun A => qcI (S := (Nat → Int32) × (Nat → Int32) × Int32) D (fun r u => (T.1 = -1 → r = nI T.2.length ∧ rw_ok u.1 400 T.2) ∧ (¬ T.1 = -1 → r = -1 ∧ u.2.2 = T.1)) (fun u => [(g, .inr (4, [.int th, .ref a1, .int (nI y1.length), .ref a3, .int ct, .ref a5, .int oc, .ref a7, .ref a8, .ref a9, .int wn, .ref aB, .int tn, .int si, .int u.2.2])), (a1, .inl (k1, 200, .inl g1)), (a7, .inl (k7, 400, .inl u.1)), (a8, .inl (k8, 400, .inl u.2.1))]) A) (cc := cX3_readOld) (maxL := 9) (ret := (some .int)) (by decide) rfl (Nat.le_of_ble_eq_true rfl) ?_
  intro p e s m below meth c ls A hx hb hr hml hown hts hlocks hnm hP hK hN hD hA hS hl
  have hl : lv_has ls 9 [(0, .ref g)] := hl
  refine lv_iconst (v := 0) hx hb dX3_readOld_0 (by decide) ?_
  refine lv_istore_n (lv' := [(1, .int 0), (0, .ref g)]) hx hb dX3_readOld_1 rfl hl (by decide) rfl (fun ls hl => ?_)
  refine lv_iconst (v := 0) hx hb dX3_readOld_2 (by decide) ?_
  refine lv_istore_n (lv' := [(2, .int 0), (1, .int 0), (0, .ref g)]) hx hb dX3_readOld_3 rfl hl (by decide) rfl (fun ls hl => ?_)
  refine lv_iconst (v := 0) hx hb dX3_readOld_4 (by decide) ?_
  refine lv_istore_n (lv' := [(3, .int 0), (2, .int 0), (1, .int 0), (0, .ref g)]) hx hb dX3_readOld_5 rfl hl (by decide) rfl (fun ls hl => ?_)
  refine lv_iconst (v := 0) hx hb dX3_readOld_6 (by decide) ?_
  refine lv_istore (lv' := [(4, .int 0), (3, .int 0), (2, .int 0), (1, .int 0), (0, .ref g)]) hx hb dX3_readOld_7 hl (by decide) rfl (fun ls hl => ?_)
  refine lv_iconst (v := 0) hx hb dX3_readOld_9 (by decide) ?_
  refine lv_istore (lv' := [(5, .int 0), (4, .int 0), (3, .int 0), (2, .int 0), (1, .int 0), (0, .ref g)]) hx hb dX3_readOld_10 hl (by decide) rfl (fun ls hl => ?_)
  have loop : ∀ (n : Nat) (rest done wm fr : List Int32) (g7 g8 : Nat → Int32) (x1 x2 x3 x4 x5 : Int32) (H : Heap) (locs : List Loc) (ls : Array Slot), (rest.length < n) → (y1 = done ++ rest) → (roS n rest done.length x1 wm x4 fr = T) → (x5 = nI done.length) → (x3 = nI wm.length) → (x2 = nI fr.length) → (st3 x1) → (rw_ok g7 400 fr) → (rw_ok g8 400 wm) → (wm.length ≤ done.length) → (fr.length ≤ 100) → (¬ wm = [] → ∃ j9, j9 < 2 ^ 31 ∧ x4 = nI j9) → va_P D vwCl [(g, .inr (4, [.int th, .ref a1, .int (nI y1.length), .ref a3, .int ct, .ref a5, .int oc, .ref a7, .ref a8, .ref a9, .int wn, .ref aB, .int tn, .int si, .int wg])), (a1, .inl (k1, 200, .inl g1)), (a7, .inl (k7, 400, .inl g7)), (a8, .inl (k8, 400, .inl g8))] H → va_D A [(g, .inr (4, [.int th, .ref a1, .int (nI y1.length), .ref a3, .int ct, .ref a5, .int oc, .ref a7, .ref a8, .ref a9, .int wn, .ref aB, .int tn, .int si, .int wg])), (a1, .inl (k1, 200, .inl g1)), (a7, .inl (k7, 400, .inl g7)), (a8, .inl (k8, 400, .inl g8))] → va_S A s.heap H locs → lv_has ls 9 [(5, .int x5), (4, .int x4), (3, .int x3), (2, .int x2), (1, .int x1), (0, .ref g)] → W p l e ({ frames := 1, cells := 0, slots := 0, locals := 21 }) s m ([.ref g] : List Value).toArray below meth c H locs 0 0 (MQ below (qcI (S := (Nat → Int32) × (Nat → Int32) × Int32) D (fun r u => (T.1 = -1 → r = nI T.2.length ∧ rw_ok u.1 400 T.2) ∧ (¬ T.1 = -1 → r = -1 ∧ u.2.2 = T.1)) (fun u => [(g, .inr (4, [.int th, .ref a1, .int (nI y1.length), .ref a3, .int ct, .ref a5, .int oc, .ref a7, .ref a8, .ref a9, .int wn, .ref aB, .int tn, .int si, .int u.2.2])), (a1, .inl (k1, 200, .inl g1)), (a7, .inl (k7, 400, .inl u.1)), (a8, .inl (k8, 400, .inl u.2.1))]) A) ([.ref g] : List Value).toArray s 0 0 A) (F0 m 12 ls [])  := by
    intro n
    induction n with
    | zero =>
      intro rest done wm fr g7 g8 x1 x2 x3 x4 x5 H locs ls hn hy hT e5 e3 e2 hs9 p7 p8 hwm hfr hfm hP hD hS hl
      exact absurd hn (Nat.not_lt_zero _)
    | succ n ih =>
      intro rest done wm fr g7 g8 x1 x2 x3 x4 x5 H locs ls hn hy hT e5 e3 e2 hs9 p7 p8 hwm hfr hfm hP hD hS hl
      have hlx : y1.length = done.length + rest.length := by rw [hy]; simp
      have h200 := p1.1
      rcases rest with _ | ⟨b, t⟩
      · skip
        simp at hlx
        refine lv_iload hx hb dX3_readOld_12 (lv_at hl 0 rfl) ?_
        refine lv_aload_n hx hb dX3_readOld_14 rfl (lv_at hl 5 rfl) ?_
        refine va_get (D := D) (ci := 4) (v := .int (nI y1.length)) (C := RX3) (T := TX3) (N := 15) hx hb hts (by decide +kernel) hown hK hP 0 rfl rfl 2 (by decide) (hts (.fieldLink RX3 39 "CharacterRowsModel" "size" "I") (by decide +kernel)) (fun _ h9 => h9) rfl dX3_readOld_15 ?_
        refine lv_icmp_ge (tgt := 290) hx hb dX3_readOld_18 (by decide) (fun c18_1 => ?_) (fun c18_1 => ?_)
        · skip
          refine lv_iload_n hx hb dX3_readOld_290 rfl (lv_at hl 2 rfl) ?_
          refine lv_if_le (tgt := 303) hx hb dX3_readOld_291 (by decide) (fun c291_1 => ?_) (fun c291_1 => ?_)
          · skip
            refine lv_iload_n hx hb dX3_readOld_303 rfl (lv_at hl 3 rfl) ?_
            rw [e3] at c291_1
            have hw0 : wm.length = 0 := by rcases Nat.eq_zero_or_pos wm.length with q | q; exact q; exact absurd c291_1 (nI_nle q (by omega))
            have e8 : ((-1 : Int32), fr) = T := by rw [← hT]; simp [roS, hw0]
            exact rtI hx hb hr hlocks dX3_readOld_304 (g7, g8, wg) ⟨fun _ => ⟨by rw [← e8]; exact e2, by rw [← e8]; exact p7⟩, fun q => absurd (by rw [← e8]) q⟩ hP hD hS
          · skip
            refine lv_aload_n hx hb dX3_readOld_294 rfl (lv_at hl 5 rfl) ?_
            refine lv_iload hx hb dX3_readOld_295 (lv_at hl 1 rfl) ?_
            refine clI (wr := [(a1, .inl (k1, 200, .inl g1)), (a7, .inl (k7, 400, .inl g7)), (a8, .inl (k8, 400, .inl g8))]) (va_runV ⟨hx, hb, hml, hown, hts⟩ (KX3_bad l D g a1 a3 a5 a7 a8 a9 aB th (nI y1.length) ct oc wn tn si wg x4 _) (cwV 1 hts gX3_readOld_X3_bad rfl rfl rfl (by decide +kernel) ⟨Nat.le_of_ble_eq_true rfl, Nat.le_of_ble_eq_true rfl⟩) (pcM_V (hP.sub (ws' := [(g, .inr (4, [.int th, .ref a1, .int (nI y1.length), .ref a3, .int ct, .ref a5, .int oc, .ref a7, .ref a8, .ref a9, .int wn, .ref aB, .int tn, .int si, .int wg]))]) [0] rfl) (hD.sub (ws' := [(g, .inr (4, [.int th, .ref a1, .int (nI y1.length), .ref a3, .int ct, .ref a5, .int oc, .ref a7, .ref a8, .ref a9, .int wn, .ref aB, .int tn, .int si, .int wg]))]) [0] (by decide) rfl) (hK.sub (tys' := []) [] rfl) hN 0 rfl rfl) rfl rfl hl.1 rfl (lv_room (Nat.le_of_ble_eq_true rfl)) dX3_readOld_297 ⟨Nat.zero_le _, Nat.zero_le _⟩) hP hD hS hA [0] [1, 2, 3] rfl rfl (by decide) (by decide) (fun r_1 u_1 H locs hw_1 hP hD hS => ?_)
            subst hw_1
            have hP : va_P D vwCl [(g, .inr (4, [.int th, .ref a1, .int (nI y1.length), .ref a3, .int ct, .ref a5, .int oc, .ref a7, .ref a8, .ref a9, .int wn, .ref aB, .int tn, .int si, .int x4])), (a1, .inl (k1, 200, .inl g1)), (a7, .inl (k7, 400, .inl g7)), (a8, .inl (k8, 400, .inl g8))] H := hP.sub [3, 0, 1, 2] rfl
            have hD : va_D A [(g, .inr (4, [.int th, .ref a1, .int (nI y1.length), .ref a3, .int ct, .ref a5, .int oc, .ref a7, .ref a8, .ref a9, .int wn, .ref aB, .int tn, .int si, .int x4])), (a1, .inl (k1, 200, .inl g1)), (a7, .inl (k7, 400, .inl g7)), (a8, .inl (k8, 400, .inl g8))] := hD.sub [3, 0, 1, 2] (by decide) rfl
            refine lv_goto (tgt := 304) hx hb dX3_readOld_300 (by decide) ?_
            rw [e3] at c291_1
            have hw0 : ¬ wm.length = 0 := fun q => c291_1 (by rw [q]; decide)
            obtain ⟨j9, hj9, ej9⟩ := hfm (fun q => hw0 (by rw [q]; rfl))
            have e8 : (x4, fr) = T := by rw [← hT]; simp [roS, hw0]
            have hne : ¬ T.1 = -1 := by rw [← e8]; show ¬ x4 = -1; rw [ej9]; exact nI_ne1 hj9
            exact rtI hx hb hr hlocks dX3_readOld_304 (g7, g8, x4) ⟨fun q => absurd q hne, fun _ => ⟨rfl, by rw [← e8]⟩⟩ hP hD hS
        · skip
          exact absurd (by rw [e5, hlx]; simp) c18_1
      · skip
        simp at hlx
        have hle0 : done.length + t.length + 1 ≤ 200 := by omega
        have hb9 : byt b := hby b (by rw [hy]; simp)
        refine lv_iload hx hb dX3_readOld_12 (lv_at hl 0 rfl) ?_
        refine lv_aload_n hx hb dX3_readOld_14 rfl (lv_at hl 5 rfl) ?_
        refine va_get (D := D) (ci := 4) (v := .int (nI y1.length)) (C := RX3) (T := TX3) (N := 15) hx hb hts (by decide +kernel) hown hK hP 0 rfl rfl 2 (by decide) (hts (.fieldLink RX3 39 "CharacterRowsModel" "size" "I") (by decide +kernel)) (fun _ h9 => h9) rfl dX3_readOld_15 ?_
        refine lv_icmp_ge (tgt := 290) hx hb dX3_readOld_18 (by decide) (fun c18_2 => ?_) (fun c18_2 => ?_)
        · skip
          exact absurd c18_2 (by rw [e5, hlx]; exact nI_ge (by simp) (by simp at hlx ⊢; omega))
        · skip
          refine lv_aload_n hx hb dX3_readOld_21 rfl (lv_at hl 5 rfl) ?_
          refine va_get (D := D) (ci := 4) (v := .ref a1) (C := RX3) (T := TX3) (N := 15) hx hb hts (by decide +kernel) hown hK hP 0 rfl rfl 1 (by decide) (hts (.fieldLink RX3 7 "CharacterRowsModel" "collected" "[I") (by decide +kernel)) (fun _ h9 => h9) rfl dX3_readOld_22 ?_
          refine lv_iload hx hb dX3_readOld_25 (lv_at hl 0 rfl) ?_
          refine va_iald hx hb hK hP 1 0 rfl rfl (rwf_in (l := done) (r := b :: t) (j := 0) p1 (by decide) hy e5 rfl (by simp)) dX3_readOld_27 ?_
          refine lv_topi (fun r9 hr9 => ?_)
          replace hr9 : r9 = b := hr9.trans (rwf_v (l := done) (r := b :: t) (j := 0) p1 (by decide) hy e5 rfl (by simp))
          subst r9
          refine lv_istore (lv' := [(6, .int b), (5, .int x5), (4, .int x4), (3, .int x3), (2, .int x2), (1, .int x1), (0, .ref g)]) hx hb dX3_readOld_28 hl (by decide) rfl (fun ls hl => ?_)
          refine lv_iload hx hb dX3_readOld_30 (lv_at hl 0 rfl) ?_
          refine lv_bipush (v := 27) hx hb dX3_readOld_32 (by decide) ?_
          refine lv_icmp_ne (tgt := 116) hx hb dX3_readOld_34 (by decide) (fun c34_1 => ?_) (fun c34_1 => ?_)
          · skip
            refine lv_iload hx hb dX3_readOld_116 (lv_at hl 0 rfl) ?_
            refine lv_bipush (v := 32) hx hb dX3_readOld_118 (by decide) ?_
            refine lv_icmp_lt (tgt := 135) hx hb dX3_readOld_120 (by decide) (fun c120_1 => ?_) (fun c120_1 => ?_)
            · skip
              refine lv_iload hx hb dX3_readOld_135 (lv_at hl 0 rfl) ?_
              refine lv_sipush (v := 161) hx hb dX3_readOld_137 (by decide) ?_
              refine lv_icmp_lt (tgt := 164) hx hb dX3_readOld_140 (by decide) (fun c140_1 => ?_) (fun c140_1 => ?_)
              · skip
                refine lv_iconst (v := 0) hx hb dX3_readOld_164 (by decide) ?_
                refine lv_topi (fun r9 hr9 => ?_)
                replace hr9 : r9 = fX2_codeOfOldByte b x1 := hr9.trans (by rw [← oc_eq hb9 hs9]; simp [ocS, c120_1, c140_1])
                subst r9
                refine lv_istore (lv' := [(7, .int (fX2_codeOfOldByte b x1)), (6, .int b), (5, .int x5), (4, .int x4), (3, .int x3), (2, .int x2), (1, .int x1), (0, .ref g)]) hx hb dX3_readOld_165 hl (by decide) rfl (fun ls hl => ?_)
                refine lv_iload hx hb dX3_readOld_167 (lv_at hl 0 rfl) ?_
                refine lv_if_ne (tgt := 179) hx hb dX3_readOld_169 (by decide) (fun c169_1 => ?_) (fun c169_1 => ?_)
                · skip
                  refine lv_iload hx hb dX3_readOld_179 (lv_at hl 0 rfl) ?_
                  refine vp_callSi (W.runS ⟨hx, hb, hml, hown, hts⟩ (KX3_isMark l (fX2_codeOfOldByte b x1)) (va_cwS 1 hts gX3_readOld_X3_isMark rfl rfl rfl (by decide +kernel) ⟨Nat.le_of_ble_eq_true rfl, Nat.le_of_ble_eq_true rfl⟩) pcS_S rfl rfl hl.1 rfl (lv_room (Nat.le_of_ble_eq_true rfl)) dX3_readOld_181 ⟨Nat.zero_le _, Nat.zero_le _⟩) (fun r9 hr9 => ?_)
                  replace hr9 : r9 = fX2_isMark (fX2_codeOfOldByte b x1) := hr9.trans (x3_isMark _)
                  subst r9
                  refine lv_if_eq (tgt := 214) hx hb dX3_readOld_184 (by decide) (fun c184_1 => ?_) (fun c184_1 => ?_)
                  · skip
                    have q221 : x2 + 1 + x3 = nI (fr.length + 1 + wm.length) := by rw [e2, e3, nI_1, nI_add]
                    refine lv_iload_n hx hb dX3_readOld_214 rfl (lv_at hl 5 rfl) ?_
                    refine lv_iconst (v := 1) hx hb dX3_readOld_215 (by decide) ?_
                    refine lv_iadd hx hb dX3_readOld_216 ?_
                    refine lv_iload_n hx hb dX3_readOld_217 rfl (lv_at hl 4 rfl) ?_
                    refine lv_iadd hx hb dX3_readOld_218 ?_
                    refine lv_bipush (v := 100) hx hb dX3_readOld_219 (by decide) ?_
                    refine lv_icmp_le (tgt := 240) hx hb dX3_readOld_221 (by decide) (fun c221_1 => ?_) (fun c221_1 => ?_)
                    · skip
                      rw [q221] at c221_1
                      have hle : fr.length + 1 + wm.length ≤ 100 := (nI_100 (by omega)).mp c221_1
                      refine lv_aload_n hx hb dX3_readOld_240 rfl (lv_at hl 7 rfl) ?_
                      refine va_get (D := D) (ci := 4) (v := .ref a7) (C := RX3) (T := TX3) (N := 15) hx hb hts (by decide +kernel) hown hK hP 0 rfl rfl 7 (by decide) (hts (.fieldLink RX3 19 "CharacterRowsModel" "work" "[I") (by decide +kernel)) (fun _ h9 => h9) rfl dX3_readOld_241 ?_
                      refine lv_iload_n hx hb dX3_readOld_244 rfl (lv_at hl 5 rfl) ?_
                      refine lv_iload hx hb dX3_readOld_245 (lv_at hl 0 rfl) ?_
                      refine va_iast hx hb hK hP hD hS 2 1 rfl rfl (rwf_sin p7 (by decide) e2 (by omega)) dX3_readOld_247 (fun H locs hP hD hS => ?_)
                      have hP : va_P D vwCl [(g, .inr (4, [.int th, .ref a1, .int (nI y1.length), .ref a3, .int ct, .ref a5, .int oc, .ref a7, .ref a8, .ref a9, .int wn, .ref aB, .int tn, .int si, .int wg])), (a1, .inl (k1, 200, .inl g1)), (a7, .inl (k7, 400, .inl (upd g7 x2.toNatClampNeg (fX2_codeOfOldByte b x1)))), (a8, .inl (k8, 400, .inl g8))] H := hP
                      have hD : va_D A [(g, .inr (4, [.int th, .ref a1, .int (nI y1.length), .ref a3, .int ct, .ref a5, .int oc, .ref a7, .ref a8, .ref a9, .int wn, .ref aB, .int tn, .int si, .int wg])), (a1, .inl (k1, 200, .inl g1)), (a7, .inl (k7, 400, .inl (upd g7 x2.toNatClampNeg (fX2_codeOfOldByte b x1)))), (a8, .inl (k8, 400, .inl g8))] := hD
                      refine lv_iinc (v := (x2 + 1)) (lv' := [(2, .int (x2 + 1)), (7, .int (fX2_codeOfOldByte b x1)), (6, .int b), (5, .int x5), (4, .int x4), (3, .int x3), (1, .int x1), (0, .ref g)]) hx hb dX3_readOld_248 hl (k := 5) rfl rfl (by decide) rfl (fun ls hl => ?_)
                      refine lv_iconst (v := 0) hx hb dX3_readOld_251 (by decide) ?_
                      refine lv_istore (lv' := [(8, .int 0), (2, .int (x2 + 1)), (7, .int (fX2_codeOfOldByte b x1)), (6, .int b), (5, .int x5), (4, .int x4), (3, .int x3), (1, .int x1), (0, .ref g)]) hx hb dX3_readOld_252 hl (by decide) rfl (fun ls hl => ?_)
                      have q7 := rwf_snoc (c := fX2_codeOfOldByte b x1) p7 (by decide) e2 (by omega)
                      have loop2 : ∀ (ms : List Int32) (md : List Int32) (f7 : Nat → Int32) (x2b x8 : Int32) (H : Heap) (locs : List Loc) (ls : Array Slot), (wm = md ++ ms) → (x8 = nI md.length) → (x2b = nI (fr ++ fX2_codeOfOldByte b x1 :: md).length) → (rw_ok f7 400 (fr ++ fX2_codeOfOldByte b x1 :: md)) → va_P D vwCl [(g, .inr (4, [.int th, .ref a1, .int (nI y1.length), .ref a3, .int ct, .ref a5, .int oc, .ref a7, .ref a8, .ref a9, .int wn, .ref aB, .int tn, .int si, .int wg])), (a1, .inl (k1, 200, .inl g1)), (a7, .inl (k7, 400, .inl f7)), (a8, .inl (k8, 400, .inl g8))] H → va_D A [(g, .inr (4, [.int th, .ref a1, .int (nI y1.length), .ref a3, .int ct, .ref a5, .int oc, .ref a7, .ref a8, .ref a9, .int wn, .ref aB, .int tn, .int si, .int wg])), (a1, .inl (k1, 200, .inl g1)), (a7, .inl (k7, 400, .inl f7)), (a8, .inl (k8, 400, .inl g8))] → va_S A s.heap H locs → lv_has ls 9 [(8, .int x8), (2, .int x2b), (7, .int (fX2_codeOfOldByte b x1)), (6, .int b), (5, .int x5), (4, .int x4), (3, .int x3), (1, .int x1), (0, .ref g)] → W p l e ({ frames := 1, cells := 0, slots := 0, locals := 21 }) s m ([.ref g] : List Value).toArray below meth c H locs 0 0 (MQ below (qcI (S := (Nat → Int32) × (Nat → Int32) × Int32) D (fun r u => (T.1 = -1 → r = nI T.2.length ∧ rw_ok u.1 400 T.2) ∧ (¬ T.1 = -1 → r = -1 ∧ u.2.2 = T.1)) (fun u => [(g, .inr (4, [.int th, .ref a1, .int (nI y1.length), .ref a3, .int ct, .ref a5, .int oc, .ref a7, .ref a8, .ref a9, .int wn, .ref aB, .int tn, .int si, .int u.2.2])), (a1, .inl (k1, 200, .inl g1)), (a7, .inl (k7, 400, .inl u.1)), (a8, .inl (k8, 400, .inl u.2.1))]) A) ([.ref g] : List Value).toArray s 0 0 A) (F0 m 254 ls [])  := by
                        intro ms
                        induction ms with
                        | nil =>
                          intro md f7 x2b x8 H locs ls hmd e8 e2b p7b hP hD hS hl
                          have hmdl : wm.length = md.length := by rw [hmd]; simp
                          refine lv_iload hx hb dX3_readOld_254 (lv_at hl 0 rfl) ?_
                          refine lv_iload_n hx hb dX3_readOld_256 rfl (lv_at hl 6 rfl) ?_
                          refine lv_icmp_ge (tgt := 282) hx hb dX3_readOld_257 (by decide) (fun c257_1 => ?_) (fun c257_1 => ?_)
                          · skip
                            refine lv_iconst (v := 0) hx hb dX3_readOld_282 (by decide) ?_
                            refine lv_istore_n (lv' := [(3, .int 0), (8, .int x8), (2, .int x2b), (7, .int (fX2_codeOfOldByte b x1)), (6, .int b), (5, .int x5), (4, .int x4), (1, .int x1), (0, .ref g)]) hx hb dX3_readOld_283 rfl hl (by decide) rfl (fun ls hl => ?_)
                            refine lv_iinc (v := (x5 + 1)) (lv' := [(5, .int (x5 + 1)), (3, .int 0), (8, .int x8), (2, .int x2b), (7, .int (fX2_codeOfOldByte b x1)), (6, .int b), (4, .int x4), (1, .int x1), (0, .ref g)]) hx hb dX3_readOld_284 hl (k := 5) rfl rfl (by decide) rfl (fun ls hl => ?_)
                            refine lv_goto (tgt := 12) hx hb dX3_readOld_287 (by decide) ?_
                            obtain rfl : wm = md := by rw [hmd]; simp
                            exact ih t (done ++ [b]) [] (fr ++ fX2_codeOfOldByte b x1 :: wm) f7 g8 _ _ _ _ _ H locs ls (by simp at hn ⊢; omega) (by rw [hy]; simp) (by rw [← hT]; simp [roS, c34_1, c169_1, c184_1, hle]) (by rw [e5, List.length_append]; exact nI_1 _) rfl e2b hs9 p7b rw_nil (by simp) (by simp <;> omega) (fun q => absurd rfl q) hP hD hS (lv_sub hl [0, 6, 1, 3, 7, 8] rfl)
                          · skip
                            exact absurd (by rw [e3, e8, hmdl]; exact Int32.le_refl _) c257_1
                        | cons d ms ih2 =>
                          intro md f7 x2b x8 H locs ls hmd e8 e2b p7b hP hD hS hl
                          have hmdl : wm.length = md.length + (ms.length + 1) := by rw [hmd]; simp
                          refine lv_iload hx hb dX3_readOld_254 (lv_at hl 0 rfl) ?_
                          refine lv_iload_n hx hb dX3_readOld_256 rfl (lv_at hl 6 rfl) ?_
                          refine lv_icmp_ge (tgt := 282) hx hb dX3_readOld_257 (by decide) (fun c257_2 => ?_) (fun c257_2 => ?_)
                          · skip
                            exact absurd c257_2 (by rw [e3, e8, hmdl]; exact nI_ge (by omega) (by omega))
                          · skip
                            refine lv_aload_n hx hb dX3_readOld_260 rfl (lv_at hl 8 rfl) ?_
                            refine va_get (D := D) (ci := 4) (v := .ref a7) (C := RX3) (T := TX3) (N := 15) hx hb hts (by decide +kernel) hown hK hP 0 rfl rfl 7 (by decide) (hts (.fieldLink RX3 19 "CharacterRowsModel" "work" "[I") (by decide +kernel)) (fun _ h9 => h9) rfl dX3_readOld_261 ?_
                            refine lv_iload_n hx hb dX3_readOld_264 rfl (lv_at hl 1 rfl) ?_
                            refine lv_aload_n hx hb dX3_readOld_265 rfl (lv_at hl 8 rfl) ?_
                            refine va_get (D := D) (ci := 4) (v := .ref a8) (C := RX3) (T := TX3) (N := 15) hx hb hts (by decide +kernel) hown hK hP 0 rfl rfl 8 (by decide) (hts (.fieldLink RX3 22 "CharacterRowsModel" "second" "[I") (by decide +kernel)) (fun _ h9 => h9) rfl dX3_readOld_266 ?_
                            refine lv_iload hx hb dX3_readOld_269 (lv_at hl 0 rfl) ?_
                            refine va_iald hx hb hK hP 3 2 rfl rfl (rwf_in (j := 0) p8 (by decide) hmd e8 rfl (by simp)) dX3_readOld_271 ?_
                            refine lv_topi (fun r9 hr9 => ?_)
                            replace hr9 : r9 = d := hr9.trans (rwf_v (j := 0) p8 (by decide) hmd e8 rfl (by simp))
                            subst r9
                            refine va_iast hx hb hK hP hD hS 2 1 rfl rfl (rwf_sin p7b (by decide) e2b (by simp; omega)) dX3_readOld_272 (fun H locs hP hD hS => ?_)
                            have hP : va_P D vwCl [(g, .inr (4, [.int th, .ref a1, .int (nI y1.length), .ref a3, .int ct, .ref a5, .int oc, .ref a7, .ref a8, .ref a9, .int wn, .ref aB, .int tn, .int si, .int wg])), (a1, .inl (k1, 200, .inl g1)), (a7, .inl (k7, 400, .inl (upd f7 x2b.toNatClampNeg d))), (a8, .inl (k8, 400, .inl g8))] H := hP
                            have hD : va_D A [(g, .inr (4, [.int th, .ref a1, .int (nI y1.length), .ref a3, .int ct, .ref a5, .int oc, .ref a7, .ref a8, .ref a9, .int wn, .ref aB, .int tn, .int si, .int wg])), (a1, .inl (k1, 200, .inl g1)), (a7, .inl (k7, 400, .inl (upd f7 x2b.toNatClampNeg d))), (a8, .inl (k8, 400, .inl g8))] := hD
                            refine lv_iinc (v := (x2b + 1)) (lv' := [(2, .int (x2b + 1)), (8, .int x8), (7, .int (fX2_codeOfOldByte b x1)), (6, .int b), (5, .int x5), (4, .int x4), (3, .int x3), (1, .int x1), (0, .ref g)]) hx hb dX3_readOld_273 hl (k := 1) rfl rfl (by decide) rfl (fun ls hl => ?_)
                            refine lv_iinc (v := (x8 + 1)) (lv' := [(8, .int (x8 + 1)), (2, .int (x2b + 1)), (7, .int (fX2_codeOfOldByte b x1)), (6, .int b), (5, .int x5), (4, .int x4), (3, .int x3), (1, .int x1), (0, .ref g)]) hx hb dX3_readOld_276 hl (k := 1) rfl rfl (by decide) rfl (fun ls hl => ?_)
                            refine lv_goto (tgt := 254) hx hb dX3_readOld_279 (by decide) ?_
                            have q9 := rwf_snoc (c := d) p7b (by decide) e2b (by simp; omega)
                            exact ih2 (md ++ [d]) (upd f7 x2b.toNatClampNeg d) _ _ H locs ls (by rw [hmd]; simp) (by rw [e8, List.length_append]; exact nI_1 _) (by rw [e2b, nI_1]; congr 1; simp <;> omega) (by have e7 : fr ++ fX2_codeOfOldByte b x1 :: md ++ [d] = fr ++ fX2_codeOfOldByte b x1 :: (md ++ [d]) := (by simp); rw [e7] at q9; exact q9) hP hD hS (lv_sub hl [0, 1, 2, 3, 4, 5, 6, 7, 8] rfl)
                      exact loop2 wm [] (upd g7 x2.toNatClampNeg (fX2_codeOfOldByte b x1)) _ _ H locs ls rfl rfl (by rw [e2, nI_1]; simp) q7 hP hD hS (lv_sub hl [0, 1, 2, 3, 4, 5, 6, 7, 8] rfl)
                    · skip
                      rw [q221] at c221_1
                      have hgt : ¬ fr.length + 1 + wm.length ≤ 100 := fun q => c221_1 ((nI_100 (by omega)).mpr q)
                      refine lv_aload_n hx hb dX3_readOld_224 rfl (lv_at hl 7 rfl) ?_
                      refine lv_iload_n hx hb dX3_readOld_225 rfl (lv_at hl 4 rfl) ?_
                      refine lv_if_le (tgt := 234) hx hb dX3_readOld_226 (by decide) (fun c226_1 => ?_) (fun c226_1 => ?_)
                      · skip
                        refine lv_iload hx hb dX3_readOld_234 (lv_at hl 2 rfl) ?_
                        refine clI (wr := [(a1, .inl (k1, 200, .inl g1)), (a7, .inl (k7, 400, .inl g7)), (a8, .inl (k8, 400, .inl g8))]) (va_runV ⟨hx, hb, hml, hown, hts⟩ (KX3_bad l D g a1 a3 a5 a7 a8 a9 aB th (nI y1.length) ct oc wn tn si wg x5 _) (cwV 1 hts gX3_readOld_X3_bad rfl rfl rfl (by decide +kernel) ⟨Nat.le_of_ble_eq_true rfl, Nat.le_of_ble_eq_true rfl⟩) (pcM_V (hP.sub (ws' := [(g, .inr (4, [.int th, .ref a1, .int (nI y1.length), .ref a3, .int ct, .ref a5, .int oc, .ref a7, .ref a8, .ref a9, .int wn, .ref aB, .int tn, .int si, .int wg]))]) [0] rfl) (hD.sub (ws' := [(g, .inr (4, [.int th, .ref a1, .int (nI y1.length), .ref a3, .int ct, .ref a5, .int oc, .ref a7, .ref a8, .ref a9, .int wn, .ref aB, .int tn, .int si, .int wg]))]) [0] (by decide) rfl) (hK.sub (tys' := []) [] rfl) hN 0 rfl rfl) rfl rfl hl.1 rfl (lv_room (Nat.le_of_ble_eq_true rfl)) dX3_readOld_236 ⟨Nat.zero_le _, Nat.zero_le _⟩) hP hD hS hA [0] [1, 2, 3] rfl rfl (by decide) (by decide) (fun r_2 u_2 H locs hw_2 hP hD hS => ?_)
                        subst hw_2
                        have hP : va_P D vwCl [(g, .inr (4, [.int th, .ref a1, .int (nI y1.length), .ref a3, .int ct, .ref a5, .int oc, .ref a7, .ref a8, .ref a9, .int wn, .ref aB, .int tn, .int si, .int x5])), (a1, .inl (k1, 200, .inl g1)), (a7, .inl (k7, 400, .inl g7)), (a8, .inl (k8, 400, .inl g8))] H := hP.sub [3, 0, 1, 2] rfl
                        have hD : va_D A [(g, .inr (4, [.int th, .ref a1, .int (nI y1.length), .ref a3, .int ct, .ref a5, .int oc, .ref a7, .ref a8, .ref a9, .int wn, .ref aB, .int tn, .int si, .int x5])), (a1, .inl (k1, 200, .inl g1)), (a7, .inl (k7, 400, .inl g7)), (a8, .inl (k8, 400, .inl g8))] := hD.sub [3, 0, 1, 2] (by decide) rfl
                        rw [e3] at c226_1
                        have hw0 : wm.length = 0 := by rcases Nat.eq_zero_or_pos wm.length with q | q; exact q; exact absurd c226_1 (nI_nle q (by omega))
                        have e8 : (x5, fr) = T := by rw [← hT, e5]; simp only [roS]; rw [if_neg c34_1, if_neg c169_1, if_pos c184_1, if_neg hgt, if_pos hw0]
                        have hne : ¬ T.1 = -1 := by rw [← e8]; show ¬ x5 = -1; rw [e5]; exact nI_ne1 (by omega)
                        exact rtI hx hb hr hlocks dX3_readOld_239 (g7, g8, x5) ⟨fun q => absurd q hne, fun _ => ⟨rfl, by rw [← e8]⟩⟩ hP hD hS
                      · skip
                        refine lv_iload hx hb dX3_readOld_229 (lv_at hl 3 rfl) ?_
                        refine lv_goto (tgt := 236) hx hb dX3_readOld_231 (by decide) ?_
                        refine clI (wr := [(a1, .inl (k1, 200, .inl g1)), (a7, .inl (k7, 400, .inl g7)), (a8, .inl (k8, 400, .inl g8))]) (va_runV ⟨hx, hb, hml, hown, hts⟩ (KX3_bad l D g a1 a3 a5 a7 a8 a9 aB th (nI y1.length) ct oc wn tn si wg x4 _) (cwV 1 hts gX3_readOld_X3_bad rfl rfl rfl (by decide +kernel) ⟨Nat.le_of_ble_eq_true rfl, Nat.le_of_ble_eq_true rfl⟩) (pcM_V (hP.sub (ws' := [(g, .inr (4, [.int th, .ref a1, .int (nI y1.length), .ref a3, .int ct, .ref a5, .int oc, .ref a7, .ref a8, .ref a9, .int wn, .ref aB, .int tn, .int si, .int wg]))]) [0] rfl) (hD.sub (ws' := [(g, .inr (4, [.int th, .ref a1, .int (nI y1.length), .ref a3, .int ct, .ref a5, .int oc, .ref a7, .ref a8, .ref a9, .int wn, .ref aB, .int tn, .int si, .int wg]))]) [0] (by decide) rfl) (hK.sub (tys' := []) [] rfl) hN 0 rfl rfl) rfl rfl hl.1 rfl (lv_room (Nat.le_of_ble_eq_true rfl)) dX3_readOld_236 ⟨Nat.zero_le _, Nat.zero_le _⟩) hP hD hS hA [0] [1, 2, 3] rfl rfl (by decide) (by decide) (fun r_3 u_3 H locs hw_3 hP hD hS => ?_)
                        subst hw_3
                        have hP : va_P D vwCl [(g, .inr (4, [.int th, .ref a1, .int (nI y1.length), .ref a3, .int ct, .ref a5, .int oc, .ref a7, .ref a8, .ref a9, .int wn, .ref aB, .int tn, .int si, .int x4])), (a1, .inl (k1, 200, .inl g1)), (a7, .inl (k7, 400, .inl g7)), (a8, .inl (k8, 400, .inl g8))] H := hP.sub [3, 0, 1, 2] rfl
                        have hD : va_D A [(g, .inr (4, [.int th, .ref a1, .int (nI y1.length), .ref a3, .int ct, .ref a5, .int oc, .ref a7, .ref a8, .ref a9, .int wn, .ref aB, .int tn, .int si, .int x4])), (a1, .inl (k1, 200, .inl g1)), (a7, .inl (k7, 400, .inl g7)), (a8, .inl (k8, 400, .inl g8))] := hD.sub [3, 0, 1, 2] (by decide) rfl
                        rw [e3] at c226_1
                        have hw0 : ¬ wm.length = 0 := fun q => c226_1 (by rw [q]; decide)
                        obtain ⟨j9, hj9, ej9⟩ := hfm (fun q => hw0 (by rw [q]; rfl))
                        have e8 : (x4, fr) = T := by rw [← hT]; simp only [roS]; rw [if_neg c34_1, if_neg c169_1, if_pos c184_1, if_neg hgt, if_neg hw0]
                        have hne : ¬ T.1 = -1 := by rw [← e8]; show ¬ x4 = -1; rw [ej9]; exact nI_ne1 hj9
                        exact rtI hx hb hr hlocks dX3_readOld_239 (g7, g8, x4) ⟨fun q => absurd q hne, fun _ => ⟨rfl, by rw [← e8]⟩⟩ hP hD hS
                  · skip
                    refine lv_iload_n hx hb dX3_readOld_187 rfl (lv_at hl 4 rfl) ?_
                    refine lv_if_ne (tgt := 196) hx hb dX3_readOld_188 (by decide) (fun c188_1 => ?_) (fun c188_1 => ?_)
                    · skip
                      refine lv_iload hx hb dX3_readOld_196 (lv_at hl 3 rfl) ?_
                      refine lv_istore (lv' := [(4, .int x4), (7, .int (fX2_codeOfOldByte b x1)), (6, .int b), (5, .int x5), (3, .int x3), (2, .int x2), (1, .int x1), (0, .ref g)]) hx hb dX3_readOld_198 hl (by decide) rfl (fun ls hl => ?_)
                      refine lv_aload_n hx hb dX3_readOld_200 rfl (lv_at hl 7 rfl) ?_
                      refine va_get (D := D) (ci := 4) (v := .ref a8) (C := RX3) (T := TX3) (N := 15) hx hb hts (by decide +kernel) hown hK hP 0 rfl rfl 8 (by decide) (hts (.fieldLink RX3 22 "CharacterRowsModel" "second" "[I") (by decide +kernel)) (fun _ h9 => h9) rfl dX3_readOld_201 ?_
                      refine lv_iload_n hx hb dX3_readOld_204 rfl (lv_at hl 4 rfl) ?_
                      refine lv_iload hx hb dX3_readOld_205 (lv_at hl 1 rfl) ?_
                      refine va_iast hx hb hK hP hD hS 3 2 rfl rfl (rwf_sin p8 (by decide) e3 (by omega)) dX3_readOld_207 (fun H locs hP hD hS => ?_)
                      have hP : va_P D vwCl [(g, .inr (4, [.int th, .ref a1, .int (nI y1.length), .ref a3, .int ct, .ref a5, .int oc, .ref a7, .ref a8, .ref a9, .int wn, .ref aB, .int tn, .int si, .int wg])), (a1, .inl (k1, 200, .inl g1)), (a7, .inl (k7, 400, .inl g7)), (a8, .inl (k8, 400, .inl (upd g8 x3.toNatClampNeg (fX2_codeOfOldByte b x1))))] H := hP
                      have hD : va_D A [(g, .inr (4, [.int th, .ref a1, .int (nI y1.length), .ref a3, .int ct, .ref a5, .int oc, .ref a7, .ref a8, .ref a9, .int wn, .ref aB, .int tn, .int si, .int wg])), (a1, .inl (k1, 200, .inl g1)), (a7, .inl (k7, 400, .inl g7)), (a8, .inl (k8, 400, .inl (upd g8 x3.toNatClampNeg (fX2_codeOfOldByte b x1))))] := hD
                      refine lv_iinc (v := (x3 + 1)) (lv' := [(3, .int (x3 + 1)), (4, .int x4), (7, .int (fX2_codeOfOldByte b x1)), (6, .int b), (5, .int x5), (2, .int x2), (1, .int x1), (0, .ref g)]) hx hb dX3_readOld_208 hl (k := 4) rfl rfl (by decide) rfl (fun ls hl => ?_)
                      refine lv_goto (tgt := 284) hx hb dX3_readOld_211 (by decide) ?_
                      refine lv_iinc (v := (x5 + 1)) (lv' := [(5, .int (x5 + 1)), (3, .int (x3 + 1)), (4, .int x4), (7, .int (fX2_codeOfOldByte b x1)), (6, .int b), (2, .int x2), (1, .int x1), (0, .ref g)]) hx hb dX3_readOld_284 hl (k := 4) rfl rfl (by decide) rfl (fun ls hl => ?_)
                      refine lv_goto (tgt := 12) hx hb dX3_readOld_287 (by decide) ?_
                      have q8 := rwf_snoc (c := fX2_codeOfOldByte b x1) p8 (by decide) e3 (by omega)
                      have q88 := nI_0iff (n := wm.length) (by omega)
                      rw [e3] at c188_1
                      exact ih t (done ++ [b]) _ fr g7 (upd g8 x3.toNatClampNeg (fX2_codeOfOldByte b x1)) _ _ _ _ _ H locs ls (by simp at hn ⊢; omega) (by rw [hy]; simp) (by rw [← hT]; simp [roS, c34_1, c169_1, c184_1, ← q88, c188_1, e5]) (by rw [e5, List.length_append]; exact nI_1 _) (by rw [e3, nI_1]; simp) e2 hs9 p7 q8 (by simp <;> omega) hfr (fun _ => hfm (by intro q; rw [q] at c188_1; exact c188_1 rfl)) hP hD hS (lv_sub hl [0, 2, 1, 5, 6, 7] rfl)
                    · skip
                      refine lv_iload hx hb dX3_readOld_191 (lv_at hl 2 rfl) ?_
                      refine lv_goto (tgt := 198) hx hb dX3_readOld_193 (by decide) ?_
                      refine lv_istore (lv' := [(4, .int x5), (7, .int (fX2_codeOfOldByte b x1)), (6, .int b), (5, .int x5), (3, .int x3), (2, .int x2), (1, .int x1), (0, .ref g)]) hx hb dX3_readOld_198 hl (by decide) rfl (fun ls hl => ?_)
                      refine lv_aload_n hx hb dX3_readOld_200 rfl (lv_at hl 7 rfl) ?_
                      refine va_get (D := D) (ci := 4) (v := .ref a8) (C := RX3) (T := TX3) (N := 15) hx hb hts (by decide +kernel) hown hK hP 0 rfl rfl 8 (by decide) (hts (.fieldLink RX3 22 "CharacterRowsModel" "second" "[I") (by decide +kernel)) (fun _ h9 => h9) rfl dX3_readOld_201 ?_
                      refine lv_iload_n hx hb dX3_readOld_204 rfl (lv_at hl 4 rfl) ?_
                      refine lv_iload hx hb dX3_readOld_205 (lv_at hl 1 rfl) ?_
                      refine va_iast hx hb hK hP hD hS 3 2 rfl rfl (rwf_sin p8 (by decide) e3 (by omega)) dX3_readOld_207 (fun H locs hP hD hS => ?_)
                      have hP : va_P D vwCl [(g, .inr (4, [.int th, .ref a1, .int (nI y1.length), .ref a3, .int ct, .ref a5, .int oc, .ref a7, .ref a8, .ref a9, .int wn, .ref aB, .int tn, .int si, .int wg])), (a1, .inl (k1, 200, .inl g1)), (a7, .inl (k7, 400, .inl g7)), (a8, .inl (k8, 400, .inl (upd g8 x3.toNatClampNeg (fX2_codeOfOldByte b x1))))] H := hP
                      have hD : va_D A [(g, .inr (4, [.int th, .ref a1, .int (nI y1.length), .ref a3, .int ct, .ref a5, .int oc, .ref a7, .ref a8, .ref a9, .int wn, .ref aB, .int tn, .int si, .int wg])), (a1, .inl (k1, 200, .inl g1)), (a7, .inl (k7, 400, .inl g7)), (a8, .inl (k8, 400, .inl (upd g8 x3.toNatClampNeg (fX2_codeOfOldByte b x1))))] := hD
                      refine lv_iinc (v := (x3 + 1)) (lv' := [(3, .int (x3 + 1)), (4, .int x5), (7, .int (fX2_codeOfOldByte b x1)), (6, .int b), (5, .int x5), (2, .int x2), (1, .int x1), (0, .ref g)]) hx hb dX3_readOld_208 hl (k := 4) rfl rfl (by decide) rfl (fun ls hl => ?_)
                      refine lv_goto (tgt := 284) hx hb dX3_readOld_211 (by decide) ?_
                      refine lv_iinc (v := (x5 + 1)) (lv' := [(5, .int (x5 + 1)), (3, .int (x3 + 1)), (4, .int x5), (7, .int (fX2_codeOfOldByte b x1)), (6, .int b), (2, .int x2), (1, .int x1), (0, .ref g)]) hx hb dX3_readOld_284 hl (k := 4) rfl rfl (by decide) rfl (fun ls hl => ?_)
                      refine lv_goto (tgt := 12) hx hb dX3_readOld_287 (by decide) ?_
                      have q8 := rwf_snoc (c := fX2_codeOfOldByte b x1) p8 (by decide) e3 (by omega)
                      have q88 := nI_0iff (n := wm.length) (by omega)
                      rw [e3] at c188_1
                      exact ih t (done ++ [b]) _ fr g7 (upd g8 x3.toNatClampNeg (fX2_codeOfOldByte b x1)) _ _ _ _ _ H locs ls (by simp at hn ⊢; omega) (by rw [hy]; simp) (by rw [← hT]; simp [roS, c34_1, c169_1, c184_1, ← q88, c188_1, e5]) (by rw [e5, List.length_append]; exact nI_1 _) (by rw [e3, nI_1]; simp) e2 hs9 p7 q8 (by simp <;> omega) hfr (fun _ => ⟨_, by omega, e5⟩) hP hD hS (lv_sub hl [0, 2, 1, 5, 6, 7] rfl)
                · skip
                  refine lv_aload_n hx hb dX3_readOld_172 rfl (lv_at hl 7 rfl) ?_
                  refine lv_iload hx hb dX3_readOld_173 (lv_at hl 2 rfl) ?_
                  refine clI (wr := [(a1, .inl (k1, 200, .inl g1)), (a7, .inl (k7, 400, .inl g7)), (a8, .inl (k8, 400, .inl g8))]) (va_runV ⟨hx, hb, hml, hown, hts⟩ (KX3_bad l D g a1 a3 a5 a7 a8 a9 aB th (nI y1.length) ct oc wn tn si wg x5 _) (cwV 1 hts gX3_readOld_X3_bad rfl rfl rfl (by decide +kernel) ⟨Nat.le_of_ble_eq_true rfl, Nat.le_of_ble_eq_true rfl⟩) (pcM_V (hP.sub (ws' := [(g, .inr (4, [.int th, .ref a1, .int (nI y1.length), .ref a3, .int ct, .ref a5, .int oc, .ref a7, .ref a8, .ref a9, .int wn, .ref aB, .int tn, .int si, .int wg]))]) [0] rfl) (hD.sub (ws' := [(g, .inr (4, [.int th, .ref a1, .int (nI y1.length), .ref a3, .int ct, .ref a5, .int oc, .ref a7, .ref a8, .ref a9, .int wn, .ref aB, .int tn, .int si, .int wg]))]) [0] (by decide) rfl) (hK.sub (tys' := []) [] rfl) hN 0 rfl rfl) rfl rfl hl.1 rfl (lv_room (Nat.le_of_ble_eq_true rfl)) dX3_readOld_175 ⟨Nat.zero_le _, Nat.zero_le _⟩) hP hD hS hA [0] [1, 2, 3] rfl rfl (by decide) (by decide) (fun r_4 u_4 H locs hw_4 hP hD hS => ?_)
                  subst hw_4
                  have hP : va_P D vwCl [(g, .inr (4, [.int th, .ref a1, .int (nI y1.length), .ref a3, .int ct, .ref a5, .int oc, .ref a7, .ref a8, .ref a9, .int wn, .ref aB, .int tn, .int si, .int x5])), (a1, .inl (k1, 200, .inl g1)), (a7, .inl (k7, 400, .inl g7)), (a8, .inl (k8, 400, .inl g8))] H := hP.sub [3, 0, 1, 2] rfl
                  have hD : va_D A [(g, .inr (4, [.int th, .ref a1, .int (nI y1.length), .ref a3, .int ct, .ref a5, .int oc, .ref a7, .ref a8, .ref a9, .int wn, .ref aB, .int tn, .int si, .int x5])), (a1, .inl (k1, 200, .inl g1)), (a7, .inl (k7, 400, .inl g7)), (a8, .inl (k8, 400, .inl g8))] := hD.sub [3, 0, 1, 2] (by decide) rfl
                  have e8 : (x5, fr) = T := by rw [← hT, e5]; simp [roS, c34_1, c169_1]
                  have hne : ¬ T.1 = -1 := by rw [← e8]; show ¬ x5 = -1; rw [e5]; exact nI_ne1 (by omega)
                  exact rtI hx hb hr hlocks dX3_readOld_178 (g7, g8, x5) ⟨fun q => absurd q hne, fun _ => ⟨rfl, by rw [← e8]⟩⟩ hP hD hS
              · skip
                refine lv_iload hx hb dX3_readOld_143 (lv_at hl 0 rfl) ?_
                refine lv_sipush (v := 254) hx hb dX3_readOld_145 (by decide) ?_
                refine lv_icmp_gt (tgt := 164) hx hb dX3_readOld_148 (by decide) (fun c148_1 => ?_) (fun c148_1 => ?_)
                · skip
                  refine lv_iconst (v := 0) hx hb dX3_readOld_164 (by decide) ?_
                  refine lv_topi (fun r9 hr9 => ?_)
                  replace hr9 : r9 = fX2_codeOfOldByte b x1 := hr9.trans (by rw [← oc_eq hb9 hs9]; simp [ocS, c120_1, c140_1, c148_1])
                  subst r9
                  refine lv_istore (lv' := [(7, .int (fX2_codeOfOldByte b x1)), (6, .int b), (5, .int x5), (4, .int x4), (3, .int x3), (2, .int x2), (1, .int x1), (0, .ref g)]) hx hb dX3_readOld_165 hl (by decide) rfl (fun ls hl => ?_)
                  refine lv_iload hx hb dX3_readOld_167 (lv_at hl 0 rfl) ?_
                  refine lv_if_ne (tgt := 179) hx hb dX3_readOld_169 (by decide) (fun c169_2 => ?_) (fun c169_2 => ?_)
                  · skip
                    refine lv_iload hx hb dX3_readOld_179 (lv_at hl 0 rfl) ?_
                    refine vp_callSi (W.runS ⟨hx, hb, hml, hown, hts⟩ (KX3_isMark l (fX2_codeOfOldByte b x1)) (va_cwS 1 hts gX3_readOld_X3_isMark rfl rfl rfl (by decide +kernel) ⟨Nat.le_of_ble_eq_true rfl, Nat.le_of_ble_eq_true rfl⟩) pcS_S rfl rfl hl.1 rfl (lv_room (Nat.le_of_ble_eq_true rfl)) dX3_readOld_181 ⟨Nat.zero_le _, Nat.zero_le _⟩) (fun r9 hr9 => ?_)
                    replace hr9 : r9 = fX2_isMark (fX2_codeOfOldByte b x1) := hr9.trans (x3_isMark _)
                    subst r9
                    refine lv_if_eq (tgt := 214) hx hb dX3_readOld_184 (by decide) (fun c184_2 => ?_) (fun c184_2 => ?_)
                    · skip
                      have q221 : x2 + 1 + x3 = nI (fr.length + 1 + wm.length) := by rw [e2, e3, nI_1, nI_add]
                      refine lv_iload_n hx hb dX3_readOld_214 rfl (lv_at hl 5 rfl) ?_
                      refine lv_iconst (v := 1) hx hb dX3_readOld_215 (by decide) ?_
                      refine lv_iadd hx hb dX3_readOld_216 ?_
                      refine lv_iload_n hx hb dX3_readOld_217 rfl (lv_at hl 4 rfl) ?_
                      refine lv_iadd hx hb dX3_readOld_218 ?_
                      refine lv_bipush (v := 100) hx hb dX3_readOld_219 (by decide) ?_
                      refine lv_icmp_le (tgt := 240) hx hb dX3_readOld_221 (by decide) (fun c221_2 => ?_) (fun c221_2 => ?_)
                      · skip
                        rw [q221] at c221_2
                        have hle : fr.length + 1 + wm.length ≤ 100 := (nI_100 (by omega)).mp c221_2
                        refine lv_aload_n hx hb dX3_readOld_240 rfl (lv_at hl 7 rfl) ?_
                        refine va_get (D := D) (ci := 4) (v := .ref a7) (C := RX3) (T := TX3) (N := 15) hx hb hts (by decide +kernel) hown hK hP 0 rfl rfl 7 (by decide) (hts (.fieldLink RX3 19 "CharacterRowsModel" "work" "[I") (by decide +kernel)) (fun _ h9 => h9) rfl dX3_readOld_241 ?_
                        refine lv_iload_n hx hb dX3_readOld_244 rfl (lv_at hl 5 rfl) ?_
                        refine lv_iload hx hb dX3_readOld_245 (lv_at hl 0 rfl) ?_
                        refine va_iast hx hb hK hP hD hS 2 1 rfl rfl (rwf_sin p7 (by decide) e2 (by omega)) dX3_readOld_247 (fun H locs hP hD hS => ?_)
                        have hP : va_P D vwCl [(g, .inr (4, [.int th, .ref a1, .int (nI y1.length), .ref a3, .int ct, .ref a5, .int oc, .ref a7, .ref a8, .ref a9, .int wn, .ref aB, .int tn, .int si, .int wg])), (a1, .inl (k1, 200, .inl g1)), (a7, .inl (k7, 400, .inl (upd g7 x2.toNatClampNeg (fX2_codeOfOldByte b x1)))), (a8, .inl (k8, 400, .inl g8))] H := hP
                        have hD : va_D A [(g, .inr (4, [.int th, .ref a1, .int (nI y1.length), .ref a3, .int ct, .ref a5, .int oc, .ref a7, .ref a8, .ref a9, .int wn, .ref aB, .int tn, .int si, .int wg])), (a1, .inl (k1, 200, .inl g1)), (a7, .inl (k7, 400, .inl (upd g7 x2.toNatClampNeg (fX2_codeOfOldByte b x1)))), (a8, .inl (k8, 400, .inl g8))] := hD
                        refine lv_iinc (v := (x2 + 1)) (lv' := [(2, .int (x2 + 1)), (7, .int (fX2_codeOfOldByte b x1)), (6, .int b), (5, .int x5), (4, .int x4), (3, .int x3), (1, .int x1), (0, .ref g)]) hx hb dX3_readOld_248 hl (k := 5) rfl rfl (by decide) rfl (fun ls hl => ?_)
                        refine lv_iconst (v := 0) hx hb dX3_readOld_251 (by decide) ?_
                        refine lv_istore (lv' := [(8, .int 0), (2, .int (x2 + 1)), (7, .int (fX2_codeOfOldByte b x1)), (6, .int b), (5, .int x5), (4, .int x4), (3, .int x3), (1, .int x1), (0, .ref g)]) hx hb dX3_readOld_252 hl (by decide) rfl (fun ls hl => ?_)
                        have q7 := rwf_snoc (c := fX2_codeOfOldByte b x1) p7 (by decide) e2 (by omega)
                        have loop2 : ∀ (ms : List Int32) (md : List Int32) (f7 : Nat → Int32) (x2b x8 : Int32) (H : Heap) (locs : List Loc) (ls : Array Slot), (wm = md ++ ms) → (x8 = nI md.length) → (x2b = nI (fr ++ fX2_codeOfOldByte b x1 :: md).length) → (rw_ok f7 400 (fr ++ fX2_codeOfOldByte b x1 :: md)) → va_P D vwCl [(g, .inr (4, [.int th, .ref a1, .int (nI y1.length), .ref a3, .int ct, .ref a5, .int oc, .ref a7, .ref a8, .ref a9, .int wn, .ref aB, .int tn, .int si, .int wg])), (a1, .inl (k1, 200, .inl g1)), (a7, .inl (k7, 400, .inl f7)), (a8, .inl (k8, 400, .inl g8))] H → va_D A [(g, .inr (4, [.int th, .ref a1, .int (nI y1.length), .ref a3, .int ct, .ref a5, .int oc, .ref a7, .ref a8, .ref a9, .int wn, .ref aB, .int tn, .int si, .int wg])), (a1, .inl (k1, 200, .inl g1)), (a7, .inl (k7, 400, .inl f7)), (a8, .inl (k8, 400, .inl g8))] → va_S A s.heap H locs → lv_has ls 9 [(8, .int x8), (2, .int x2b), (7, .int (fX2_codeOfOldByte b x1)), (6, .int b), (5, .int x5), (4, .int x4), (3, .int x3), (1, .int x1), (0, .ref g)] → W p l e ({ frames := 1, cells := 0, slots := 0, locals := 21 }) s m ([.ref g] : List Value).toArray below meth c H locs 0 0 (MQ below (qcI (S := (Nat → Int32) × (Nat → Int32) × Int32) D (fun r u => (T.1 = -1 → r = nI T.2.length ∧ rw_ok u.1 400 T.2) ∧ (¬ T.1 = -1 → r = -1 ∧ u.2.2 = T.1)) (fun u => [(g, .inr (4, [.int th, .ref a1, .int (nI y1.length), .ref a3, .int ct, .ref a5, .int oc, .ref a7, .ref a8, .ref a9, .int wn, .ref aB, .int tn, .int si, .int u.2.2])), (a1, .inl (k1, 200, .inl g1)), (a7, .inl (k7, 400, .inl u.1)), (a8, .inl (k8, 400, .inl u.2.1))]) A) ([.ref g] : List Value).toArray s 0 0 A) (F0 m 254 ls [])  := by
                          intro ms
                          induction ms with
                          | nil =>
                            intro md f7 x2b x8 H locs ls hmd e8 e2b p7b hP hD hS hl
                            have hmdl : wm.length = md.length := by rw [hmd]; simp
                            refine lv_iload hx hb dX3_readOld_254 (lv_at hl 0 rfl) ?_
                            refine lv_iload_n hx hb dX3_readOld_256 rfl (lv_at hl 6 rfl) ?_
                            refine lv_icmp_ge (tgt := 282) hx hb dX3_readOld_257 (by decide) (fun c257_3 => ?_) (fun c257_3 => ?_)
                            · skip
                              refine lv_iconst (v := 0) hx hb dX3_readOld_282 (by decide) ?_
                              refine lv_istore_n (lv' := [(3, .int 0), (8, .int x8), (2, .int x2b), (7, .int (fX2_codeOfOldByte b x1)), (6, .int b), (5, .int x5), (4, .int x4), (1, .int x1), (0, .ref g)]) hx hb dX3_readOld_283 rfl hl (by decide) rfl (fun ls hl => ?_)
                              refine lv_iinc (v := (x5 + 1)) (lv' := [(5, .int (x5 + 1)), (3, .int 0), (8, .int x8), (2, .int x2b), (7, .int (fX2_codeOfOldByte b x1)), (6, .int b), (4, .int x4), (1, .int x1), (0, .ref g)]) hx hb dX3_readOld_284 hl (k := 5) rfl rfl (by decide) rfl (fun ls hl => ?_)
                              refine lv_goto (tgt := 12) hx hb dX3_readOld_287 (by decide) ?_
                              obtain rfl : wm = md := by rw [hmd]; simp
                              exact ih t (done ++ [b]) [] (fr ++ fX2_codeOfOldByte b x1 :: wm) f7 g8 _ _ _ _ _ H locs ls (by simp at hn ⊢; omega) (by rw [hy]; simp) (by rw [← hT]; simp [roS, c34_1, c169_2, c184_2, hle]) (by rw [e5, List.length_append]; exact nI_1 _) rfl e2b hs9 p7b rw_nil (by simp) (by simp <;> omega) (fun q => absurd rfl q) hP hD hS (lv_sub hl [0, 6, 1, 3, 7, 8] rfl)
                            · skip
                              exact absurd (by rw [e3, e8, hmdl]; exact Int32.le_refl _) c257_3
                          | cons d ms ih2 =>
                            intro md f7 x2b x8 H locs ls hmd e8 e2b p7b hP hD hS hl
                            have hmdl : wm.length = md.length + (ms.length + 1) := by rw [hmd]; simp
                            refine lv_iload hx hb dX3_readOld_254 (lv_at hl 0 rfl) ?_
                            refine lv_iload_n hx hb dX3_readOld_256 rfl (lv_at hl 6 rfl) ?_
                            refine lv_icmp_ge (tgt := 282) hx hb dX3_readOld_257 (by decide) (fun c257_4 => ?_) (fun c257_4 => ?_)
                            · skip
                              exact absurd c257_4 (by rw [e3, e8, hmdl]; exact nI_ge (by omega) (by omega))
                            · skip
                              refine lv_aload_n hx hb dX3_readOld_260 rfl (lv_at hl 8 rfl) ?_
                              refine va_get (D := D) (ci := 4) (v := .ref a7) (C := RX3) (T := TX3) (N := 15) hx hb hts (by decide +kernel) hown hK hP 0 rfl rfl 7 (by decide) (hts (.fieldLink RX3 19 "CharacterRowsModel" "work" "[I") (by decide +kernel)) (fun _ h9 => h9) rfl dX3_readOld_261 ?_
                              refine lv_iload_n hx hb dX3_readOld_264 rfl (lv_at hl 1 rfl) ?_
                              refine lv_aload_n hx hb dX3_readOld_265 rfl (lv_at hl 8 rfl) ?_
                              refine va_get (D := D) (ci := 4) (v := .ref a8) (C := RX3) (T := TX3) (N := 15) hx hb hts (by decide +kernel) hown hK hP 0 rfl rfl 8 (by decide) (hts (.fieldLink RX3 22 "CharacterRowsModel" "second" "[I") (by decide +kernel)) (fun _ h9 => h9) rfl dX3_readOld_266 ?_
                              refine lv_iload hx hb dX3_readOld_269 (lv_at hl 0 rfl) ?_
                              refine va_iald hx hb hK hP 3 2 rfl rfl (rwf_in (j := 0) p8 (by decide) hmd e8 rfl (by simp)) dX3_readOld_271 ?_
                              refine lv_topi (fun r9 hr9 => ?_)
                              replace hr9 : r9 = d := hr9.trans (rwf_v (j := 0) p8 (by decide) hmd e8 rfl (by simp))
                              subst r9
                              refine va_iast hx hb hK hP hD hS 2 1 rfl rfl (rwf_sin p7b (by decide) e2b (by simp; omega)) dX3_readOld_272 (fun H locs hP hD hS => ?_)
                              have hP : va_P D vwCl [(g, .inr (4, [.int th, .ref a1, .int (nI y1.length), .ref a3, .int ct, .ref a5, .int oc, .ref a7, .ref a8, .ref a9, .int wn, .ref aB, .int tn, .int si, .int wg])), (a1, .inl (k1, 200, .inl g1)), (a7, .inl (k7, 400, .inl (upd f7 x2b.toNatClampNeg d))), (a8, .inl (k8, 400, .inl g8))] H := hP
                              have hD : va_D A [(g, .inr (4, [.int th, .ref a1, .int (nI y1.length), .ref a3, .int ct, .ref a5, .int oc, .ref a7, .ref a8, .ref a9, .int wn, .ref aB, .int tn, .int si, .int wg])), (a1, .inl (k1, 200, .inl g1)), (a7, .inl (k7, 400, .inl (upd f7 x2b.toNatClampNeg d))), (a8, .inl (k8, 400, .inl g8))] := hD
                              refine lv_iinc (v := (x2b + 1)) (lv' := [(2, .int (x2b + 1)), (8, .int x8), (7, .int (fX2_codeOfOldByte b x1)), (6, .int b), (5, .int x5), (4, .int x4), (3, .int x3), (1, .int x1), (0, .ref g)]) hx hb dX3_readOld_273 hl (k := 1) rfl rfl (by decide) rfl (fun ls hl => ?_)
                              refine lv_iinc (v := (x8 + 1)) (lv' := [(8, .int (x8 + 1)), (2, .int (x2b + 1)), (7, .int (fX2_codeOfOldByte b x1)), (6, .int b), (5, .int x5), (4, .int x4), (3, .int x3), (1, .int x1), (0, .ref g)]) hx hb dX3_readOld_276 hl (k := 1) rfl rfl (by decide) rfl (fun ls hl => ?_)
                              refine lv_goto (tgt := 254) hx hb dX3_readOld_279 (by decide) ?_
                              have q9 := rwf_snoc (c := d) p7b (by decide) e2b (by simp; omega)
                              exact ih2 (md ++ [d]) (upd f7 x2b.toNatClampNeg d) _ _ H locs ls (by rw [hmd]; simp) (by rw [e8, List.length_append]; exact nI_1 _) (by rw [e2b, nI_1]; congr 1; simp <;> omega) (by have e7 : fr ++ fX2_codeOfOldByte b x1 :: md ++ [d] = fr ++ fX2_codeOfOldByte b x1 :: (md ++ [d]) := (by simp); rw [e7] at q9; exact q9) hP hD hS (lv_sub hl [0, 1, 2, 3, 4, 5, 6, 7, 8] rfl)
                        exact loop2 wm [] (upd g7 x2.toNatClampNeg (fX2_codeOfOldByte b x1)) _ _ H locs ls rfl rfl (by rw [e2, nI_1]; simp) q7 hP hD hS (lv_sub hl [0, 1, 2, 3, 4, 5, 6, 7, 8] rfl)
                      · skip
                        rw [q221] at c221_2
                        have hgt : ¬ fr.length + 1 + wm.length ≤ 100 := fun q => c221_2 ((nI_100 (by omega)).mpr q)
                        refine lv_aload_n hx hb dX3_readOld_224 rfl (lv_at hl 7 rfl) ?_
                        refine lv_iload_n hx hb dX3_readOld_225 rfl (lv_at hl 4 rfl) ?_
                        refine lv_if_le (tgt := 234) hx hb dX3_readOld_226 (by decide) (fun c226_2 => ?_) (fun c226_2 => ?_)
                        · skip
                          refine lv_iload hx hb dX3_readOld_234 (lv_at hl 2 rfl) ?_
                          refine clI (wr := [(a1, .inl (k1, 200, .inl g1)), (a7, .inl (k7, 400, .inl g7)), (a8, .inl (k8, 400, .inl g8))]) (va_runV ⟨hx, hb, hml, hown, hts⟩ (KX3_bad l D g a1 a3 a5 a7 a8 a9 aB th (nI y1.length) ct oc wn tn si wg x5 _) (cwV 1 hts gX3_readOld_X3_bad rfl rfl rfl (by decide +kernel) ⟨Nat.le_of_ble_eq_true rfl, Nat.le_of_ble_eq_true rfl⟩) (pcM_V (hP.sub (ws' := [(g, .inr (4, [.int th, .ref a1, .int (nI y1.length), .ref a3, .int ct, .ref a5, .int oc, .ref a7, .ref a8, .ref a9, .int wn, .ref aB, .int tn, .int si, .int wg]))]) [0] rfl) (hD.sub (ws' := [(g, .inr (4, [.int th, .ref a1, .int (nI y1.length), .ref a3, .int ct, .ref a5, .int oc, .ref a7, .ref a8, .ref a9, .int wn, .ref aB, .int tn, .int si, .int wg]))]) [0] (by decide) rfl) (hK.sub (tys' := []) [] rfl) hN 0 rfl rfl) rfl rfl hl.1 rfl (lv_room (Nat.le_of_ble_eq_true rfl)) dX3_readOld_236 ⟨Nat.zero_le _, Nat.zero_le _⟩) hP hD hS hA [0] [1, 2, 3] rfl rfl (by decide) (by decide) (fun r_5 u_5 H locs hw_5 hP hD hS => ?_)
                          subst hw_5
                          have hP : va_P D vwCl [(g, .inr (4, [.int th, .ref a1, .int (nI y1.length), .ref a3, .int ct, .ref a5, .int oc, .ref a7, .ref a8, .ref a9, .int wn, .ref aB, .int tn, .int si, .int x5])), (a1, .inl (k1, 200, .inl g1)), (a7, .inl (k7, 400, .inl g7)), (a8, .inl (k8, 400, .inl g8))] H := hP.sub [3, 0, 1, 2] rfl
                          have hD : va_D A [(g, .inr (4, [.int th, .ref a1, .int (nI y1.length), .ref a3, .int ct, .ref a5, .int oc, .ref a7, .ref a8, .ref a9, .int wn, .ref aB, .int tn, .int si, .int x5])), (a1, .inl (k1, 200, .inl g1)), (a7, .inl (k7, 400, .inl g7)), (a8, .inl (k8, 400, .inl g8))] := hD.sub [3, 0, 1, 2] (by decide) rfl
                          rw [e3] at c226_2
                          have hw0 : wm.length = 0 := by rcases Nat.eq_zero_or_pos wm.length with q | q; exact q; exact absurd c226_2 (nI_nle q (by omega))
                          have e8 : (x5, fr) = T := by rw [← hT, e5]; simp only [roS]; rw [if_neg c34_1, if_neg c169_2, if_pos c184_2, if_neg hgt, if_pos hw0]
                          have hne : ¬ T.1 = -1 := by rw [← e8]; show ¬ x5 = -1; rw [e5]; exact nI_ne1 (by omega)
                          exact rtI hx hb hr hlocks dX3_readOld_239 (g7, g8, x5) ⟨fun q => absurd q hne, fun _ => ⟨rfl, by rw [← e8]⟩⟩ hP hD hS
                        · skip
                          refine lv_iload hx hb dX3_readOld_229 (lv_at hl 3 rfl) ?_
                          refine lv_goto (tgt := 236) hx hb dX3_readOld_231 (by decide) ?_
                          refine clI (wr := [(a1, .inl (k1, 200, .inl g1)), (a7, .inl (k7, 400, .inl g7)), (a8, .inl (k8, 400, .inl g8))]) (va_runV ⟨hx, hb, hml, hown, hts⟩ (KX3_bad l D g a1 a3 a5 a7 a8 a9 aB th (nI y1.length) ct oc wn tn si wg x4 _) (cwV 1 hts gX3_readOld_X3_bad rfl rfl rfl (by decide +kernel) ⟨Nat.le_of_ble_eq_true rfl, Nat.le_of_ble_eq_true rfl⟩) (pcM_V (hP.sub (ws' := [(g, .inr (4, [.int th, .ref a1, .int (nI y1.length), .ref a3, .int ct, .ref a5, .int oc, .ref a7, .ref a8, .ref a9, .int wn, .ref aB, .int tn, .int si, .int wg]))]) [0] rfl) (hD.sub (ws' := [(g, .inr (4, [.int th, .ref a1, .int (nI y1.length), .ref a3, .int ct, .ref a5, .int oc, .ref a7, .ref a8, .ref a9, .int wn, .ref aB, .int tn, .int si, .int wg]))]) [0] (by decide) rfl) (hK.sub (tys' := []) [] rfl) hN 0 rfl rfl) rfl rfl hl.1 rfl (lv_room (Nat.le_of_ble_eq_true rfl)) dX3_readOld_236 ⟨Nat.zero_le _, Nat.zero_le _⟩) hP hD hS hA [0] [1, 2, 3] rfl rfl (by decide) (by decide) (fun r_6 u_6 H locs hw_6 hP hD hS => ?_)
                          subst hw_6
                          have hP : va_P D vwCl [(g, .inr (4, [.int th, .ref a1, .int (nI y1.length), .ref a3, .int ct, .ref a5, .int oc, .ref a7, .ref a8, .ref a9, .int wn, .ref aB, .int tn, .int si, .int x4])), (a1, .inl (k1, 200, .inl g1)), (a7, .inl (k7, 400, .inl g7)), (a8, .inl (k8, 400, .inl g8))] H := hP.sub [3, 0, 1, 2] rfl
                          have hD : va_D A [(g, .inr (4, [.int th, .ref a1, .int (nI y1.length), .ref a3, .int ct, .ref a5, .int oc, .ref a7, .ref a8, .ref a9, .int wn, .ref aB, .int tn, .int si, .int x4])), (a1, .inl (k1, 200, .inl g1)), (a7, .inl (k7, 400, .inl g7)), (a8, .inl (k8, 400, .inl g8))] := hD.sub [3, 0, 1, 2] (by decide) rfl
                          rw [e3] at c226_2
                          have hw0 : ¬ wm.length = 0 := fun q => c226_2 (by rw [q]; decide)
                          obtain ⟨j9, hj9, ej9⟩ := hfm (fun q => hw0 (by rw [q]; rfl))
                          have e8 : (x4, fr) = T := by rw [← hT]; simp only [roS]; rw [if_neg c34_1, if_neg c169_2, if_pos c184_2, if_neg hgt, if_neg hw0]
                          have hne : ¬ T.1 = -1 := by rw [← e8]; show ¬ x4 = -1; rw [ej9]; exact nI_ne1 hj9
                          exact rtI hx hb hr hlocks dX3_readOld_239 (g7, g8, x4) ⟨fun q => absurd q hne, fun _ => ⟨rfl, by rw [← e8]⟩⟩ hP hD hS
                    · skip
                      refine lv_iload_n hx hb dX3_readOld_187 rfl (lv_at hl 4 rfl) ?_
                      refine lv_if_ne (tgt := 196) hx hb dX3_readOld_188 (by decide) (fun c188_2 => ?_) (fun c188_2 => ?_)
                      · skip
                        refine lv_iload hx hb dX3_readOld_196 (lv_at hl 3 rfl) ?_
                        refine lv_istore (lv' := [(4, .int x4), (7, .int (fX2_codeOfOldByte b x1)), (6, .int b), (5, .int x5), (3, .int x3), (2, .int x2), (1, .int x1), (0, .ref g)]) hx hb dX3_readOld_198 hl (by decide) rfl (fun ls hl => ?_)
                        refine lv_aload_n hx hb dX3_readOld_200 rfl (lv_at hl 7 rfl) ?_
                        refine va_get (D := D) (ci := 4) (v := .ref a8) (C := RX3) (T := TX3) (N := 15) hx hb hts (by decide +kernel) hown hK hP 0 rfl rfl 8 (by decide) (hts (.fieldLink RX3 22 "CharacterRowsModel" "second" "[I") (by decide +kernel)) (fun _ h9 => h9) rfl dX3_readOld_201 ?_
                        refine lv_iload_n hx hb dX3_readOld_204 rfl (lv_at hl 4 rfl) ?_
                        refine lv_iload hx hb dX3_readOld_205 (lv_at hl 1 rfl) ?_
                        refine va_iast hx hb hK hP hD hS 3 2 rfl rfl (rwf_sin p8 (by decide) e3 (by omega)) dX3_readOld_207 (fun H locs hP hD hS => ?_)
                        have hP : va_P D vwCl [(g, .inr (4, [.int th, .ref a1, .int (nI y1.length), .ref a3, .int ct, .ref a5, .int oc, .ref a7, .ref a8, .ref a9, .int wn, .ref aB, .int tn, .int si, .int wg])), (a1, .inl (k1, 200, .inl g1)), (a7, .inl (k7, 400, .inl g7)), (a8, .inl (k8, 400, .inl (upd g8 x3.toNatClampNeg (fX2_codeOfOldByte b x1))))] H := hP
                        have hD : va_D A [(g, .inr (4, [.int th, .ref a1, .int (nI y1.length), .ref a3, .int ct, .ref a5, .int oc, .ref a7, .ref a8, .ref a9, .int wn, .ref aB, .int tn, .int si, .int wg])), (a1, .inl (k1, 200, .inl g1)), (a7, .inl (k7, 400, .inl g7)), (a8, .inl (k8, 400, .inl (upd g8 x3.toNatClampNeg (fX2_codeOfOldByte b x1))))] := hD
                        refine lv_iinc (v := (x3 + 1)) (lv' := [(3, .int (x3 + 1)), (4, .int x4), (7, .int (fX2_codeOfOldByte b x1)), (6, .int b), (5, .int x5), (2, .int x2), (1, .int x1), (0, .ref g)]) hx hb dX3_readOld_208 hl (k := 4) rfl rfl (by decide) rfl (fun ls hl => ?_)
                        refine lv_goto (tgt := 284) hx hb dX3_readOld_211 (by decide) ?_
                        refine lv_iinc (v := (x5 + 1)) (lv' := [(5, .int (x5 + 1)), (3, .int (x3 + 1)), (4, .int x4), (7, .int (fX2_codeOfOldByte b x1)), (6, .int b), (2, .int x2), (1, .int x1), (0, .ref g)]) hx hb dX3_readOld_284 hl (k := 4) rfl rfl (by decide) rfl (fun ls hl => ?_)
                        refine lv_goto (tgt := 12) hx hb dX3_readOld_287 (by decide) ?_
                        have q8 := rwf_snoc (c := fX2_codeOfOldByte b x1) p8 (by decide) e3 (by omega)
                        have q88 := nI_0iff (n := wm.length) (by omega)
                        rw [e3] at c188_2
                        exact ih t (done ++ [b]) _ fr g7 (upd g8 x3.toNatClampNeg (fX2_codeOfOldByte b x1)) _ _ _ _ _ H locs ls (by simp at hn ⊢; omega) (by rw [hy]; simp) (by rw [← hT]; simp [roS, c34_1, c169_2, c184_2, ← q88, c188_2, e5]) (by rw [e5, List.length_append]; exact nI_1 _) (by rw [e3, nI_1]; simp) e2 hs9 p7 q8 (by simp <;> omega) hfr (fun _ => hfm (by intro q; rw [q] at c188_2; exact c188_2 rfl)) hP hD hS (lv_sub hl [0, 2, 1, 5, 6, 7] rfl)
                      · skip
                        refine lv_iload hx hb dX3_readOld_191 (lv_at hl 2 rfl) ?_
                        refine lv_goto (tgt := 198) hx hb dX3_readOld_193 (by decide) ?_
                        refine lv_istore (lv' := [(4, .int x5), (7, .int (fX2_codeOfOldByte b x1)), (6, .int b), (5, .int x5), (3, .int x3), (2, .int x2), (1, .int x1), (0, .ref g)]) hx hb dX3_readOld_198 hl (by decide) rfl (fun ls hl => ?_)
                        refine lv_aload_n hx hb dX3_readOld_200 rfl (lv_at hl 7 rfl) ?_
                        refine va_get (D := D) (ci := 4) (v := .ref a8) (C := RX3) (T := TX3) (N := 15) hx hb hts (by decide +kernel) hown hK hP 0 rfl rfl 8 (by decide) (hts (.fieldLink RX3 22 "CharacterRowsModel" "second" "[I") (by decide +kernel)) (fun _ h9 => h9) rfl dX3_readOld_201 ?_
                        refine lv_iload_n hx hb dX3_readOld_204 rfl (lv_at hl 4 rfl) ?_
                        refine lv_iload hx hb dX3_readOld_205 (lv_at hl 1 rfl) ?_
                        refine va_iast hx hb hK hP hD hS 3 2 rfl rfl (rwf_sin p8 (by decide) e3 (by omega)) dX3_readOld_207 (fun H locs hP hD hS => ?_)
                        have hP : va_P D vwCl [(g, .inr (4, [.int th, .ref a1, .int (nI y1.length), .ref a3, .int ct, .ref a5, .int oc, .ref a7, .ref a8, .ref a9, .int wn, .ref aB, .int tn, .int si, .int wg])), (a1, .inl (k1, 200, .inl g1)), (a7, .inl (k7, 400, .inl g7)), (a8, .inl (k8, 400, .inl (upd g8 x3.toNatClampNeg (fX2_codeOfOldByte b x1))))] H := hP
                        have hD : va_D A [(g, .inr (4, [.int th, .ref a1, .int (nI y1.length), .ref a3, .int ct, .ref a5, .int oc, .ref a7, .ref a8, .ref a9, .int wn, .ref aB, .int tn, .int si, .int wg])), (a1, .inl (k1, 200, .inl g1)), (a7, .inl (k7, 400, .inl g7)), (a8, .inl (k8, 400, .inl (upd g8 x3.toNatClampNeg (fX2_codeOfOldByte b x1))))] := hD
                        refine lv_iinc (v := (x3 + 1)) (lv' := [(3, .int (x3 + 1)), (4, .int x5), (7, .int (fX2_codeOfOldByte b x1)), (6, .int b), (5, .int x5), (2, .int x2), (1, .int x1), (0, .ref g)]) hx hb dX3_readOld_208 hl (k := 4) rfl rfl (by decide) rfl (fun ls hl => ?_)
                        refine lv_goto (tgt := 284) hx hb dX3_readOld_211 (by decide) ?_
                        refine lv_iinc (v := (x5 + 1)) (lv' := [(5, .int (x5 + 1)), (3, .int (x3 + 1)), (4, .int x5), (7, .int (fX2_codeOfOldByte b x1)), (6, .int b), (2, .int x2), (1, .int x1), (0, .ref g)]) hx hb dX3_readOld_284 hl (k := 4) rfl rfl (by decide) rfl (fun ls hl => ?_)
                        refine lv_goto (tgt := 12) hx hb dX3_readOld_287 (by decide) ?_
                        have q8 := rwf_snoc (c := fX2_codeOfOldByte b x1) p8 (by decide) e3 (by omega)
                        have q88 := nI_0iff (n := wm.length) (by omega)
                        rw [e3] at c188_2
                        exact ih t (done ++ [b]) _ fr g7 (upd g8 x3.toNatClampNeg (fX2_codeOfOldByte b x1)) _ _ _ _ _ H locs ls (by simp at hn ⊢; omega) (by rw [hy]; simp) (by rw [← hT]; simp [roS, c34_1, c169_2, c184_2, ← q88, c188_2, e5]) (by rw [e5, List.length_append]; exact nI_1 _) (by rw [e3, nI_1]; simp) e2 hs9 p7 q8 (by simp <;> omega) hfr (fun _ => ⟨_, by omega, e5⟩) hP hD hS (lv_sub hl [0, 2, 1, 5, 6, 7] rfl)
                  · skip
                    refine lv_aload_n hx hb dX3_readOld_172 rfl (lv_at hl 7 rfl) ?_
                    refine lv_iload hx hb dX3_readOld_173 (lv_at hl 2 rfl) ?_
                    refine clI (wr := [(a1, .inl (k1, 200, .inl g1)), (a7, .inl (k7, 400, .inl g7)), (a8, .inl (k8, 400, .inl g8))]) (va_runV ⟨hx, hb, hml, hown, hts⟩ (KX3_bad l D g a1 a3 a5 a7 a8 a9 aB th (nI y1.length) ct oc wn tn si wg x5 _) (cwV 1 hts gX3_readOld_X3_bad rfl rfl rfl (by decide +kernel) ⟨Nat.le_of_ble_eq_true rfl, Nat.le_of_ble_eq_true rfl⟩) (pcM_V (hP.sub (ws' := [(g, .inr (4, [.int th, .ref a1, .int (nI y1.length), .ref a3, .int ct, .ref a5, .int oc, .ref a7, .ref a8, .ref a9, .int wn, .ref aB, .int tn, .int si, .int wg]))]) [0] rfl) (hD.sub (ws' := [(g, .inr (4, [.int th, .ref a1, .int (nI y1.length), .ref a3, .int ct, .ref a5, .int oc, .ref a7, .ref a8, .ref a9, .int wn, .ref aB, .int tn, .int si, .int wg]))]) [0] (by decide) rfl) (hK.sub (tys' := []) [] rfl) hN 0 rfl rfl) rfl rfl hl.1 rfl (lv_room (Nat.le_of_ble_eq_true rfl)) dX3_readOld_175 ⟨Nat.zero_le _, Nat.zero_le _⟩) hP hD hS hA [0] [1, 2, 3] rfl rfl (by decide) (by decide) (fun r_7 u_7 H locs hw_7 hP hD hS => ?_)
                    subst hw_7
                    have hP : va_P D vwCl [(g, .inr (4, [.int th, .ref a1, .int (nI y1.length), .ref a3, .int ct, .ref a5, .int oc, .ref a7, .ref a8, .ref a9, .int wn, .ref aB, .int tn, .int si, .int x5])), (a1, .inl (k1, 200, .inl g1)), (a7, .inl (k7, 400, .inl g7)), (a8, .inl (k8, 400, .inl g8))] H := hP.sub [3, 0, 1, 2] rfl
                    have hD : va_D A [(g, .inr (4, [.int th, .ref a1, .int (nI y1.length), .ref a3, .int ct, .ref a5, .int oc, .ref a7, .ref a8, .ref a9, .int wn, .ref aB, .int tn, .int si, .int x5])), (a1, .inl (k1, 200, .inl g1)), (a7, .inl (k7, 400, .inl g7)), (a8, .inl (k8, 400, .inl g8))] := hD.sub [3, 0, 1, 2] (by decide) rfl
                    have e8 : (x5, fr) = T := by rw [← hT, e5]; simp [roS, c34_1, c169_2]
                    have hne : ¬ T.1 = -1 := by rw [← e8]; show ¬ x5 = -1; rw [e5]; exact nI_ne1 (by omega)
                    exact rtI hx hb hr hlocks dX3_readOld_178 (g7, g8, x5) ⟨fun q => absurd q hne, fun _ => ⟨rfl, by rw [← e8]⟩⟩ hP hD hS
                · skip
                  refine lv_iload_n hx hb dX3_readOld_151 rfl (lv_at hl 5 rfl) ?_
                  refine lv_iload hx hb dX3_readOld_152 (lv_at hl 0 rfl) ?_
                  refine lv_sipush (v := 161) hx hb dX3_readOld_154 (by decide) ?_
                  refine lv_isub hx hb dX3_readOld_157 ?_
                  refine vp_callSi (W.runS ⟨hx, hb, hml, hown, hts⟩ (KX3_placed l x1 (b - 161)) (va_cwS 2 hts gX3_readOld_X3_placed rfl rfl rfl (by decide +kernel) ⟨Nat.le_of_ble_eq_true rfl, Nat.le_of_ble_eq_true rfl⟩) pcS_S rfl rfl hl.1 rfl (lv_room (Nat.le_of_ble_eq_true rfl)) dX3_readOld_158 ⟨Nat.zero_le _, Nat.zero_le _⟩) (fun r9 hr9 => ?_)
                  subst r9
                  refine lv_goto (tgt := 165) hx hb dX3_readOld_161 (by decide) ?_
                  refine lv_topi (fun r9 hr9 => ?_)
                  replace hr9 : r9 = fX2_codeOfOldByte b x1 := hr9.trans (by rw [← oc_eq hb9 hs9]; simp [ocS, c120_1, c140_1, c148_1])
                  subst r9
                  refine lv_istore (lv' := [(7, .int (fX2_codeOfOldByte b x1)), (6, .int b), (5, .int x5), (4, .int x4), (3, .int x3), (2, .int x2), (1, .int x1), (0, .ref g)]) hx hb dX3_readOld_165 hl (by decide) rfl (fun ls hl => ?_)
                  refine lv_iload hx hb dX3_readOld_167 (lv_at hl 0 rfl) ?_
                  refine lv_if_ne (tgt := 179) hx hb dX3_readOld_169 (by decide) (fun c169_3 => ?_) (fun c169_3 => ?_)
                  · skip
                    refine lv_iload hx hb dX3_readOld_179 (lv_at hl 0 rfl) ?_
                    refine vp_callSi (W.runS ⟨hx, hb, hml, hown, hts⟩ (KX3_isMark l (fX2_codeOfOldByte b x1)) (va_cwS 1 hts gX3_readOld_X3_isMark rfl rfl rfl (by decide +kernel) ⟨Nat.le_of_ble_eq_true rfl, Nat.le_of_ble_eq_true rfl⟩) pcS_S rfl rfl hl.1 rfl (lv_room (Nat.le_of_ble_eq_true rfl)) dX3_readOld_181 ⟨Nat.zero_le _, Nat.zero_le _⟩) (fun r9 hr9 => ?_)
                    replace hr9 : r9 = fX2_isMark (fX2_codeOfOldByte b x1) := hr9.trans (x3_isMark _)
                    subst r9
                    refine lv_if_eq (tgt := 214) hx hb dX3_readOld_184 (by decide) (fun c184_3 => ?_) (fun c184_3 => ?_)
                    · skip
                      have q221 : x2 + 1 + x3 = nI (fr.length + 1 + wm.length) := by rw [e2, e3, nI_1, nI_add]
                      refine lv_iload_n hx hb dX3_readOld_214 rfl (lv_at hl 5 rfl) ?_
                      refine lv_iconst (v := 1) hx hb dX3_readOld_215 (by decide) ?_
                      refine lv_iadd hx hb dX3_readOld_216 ?_
                      refine lv_iload_n hx hb dX3_readOld_217 rfl (lv_at hl 4 rfl) ?_
                      refine lv_iadd hx hb dX3_readOld_218 ?_
                      refine lv_bipush (v := 100) hx hb dX3_readOld_219 (by decide) ?_
                      refine lv_icmp_le (tgt := 240) hx hb dX3_readOld_221 (by decide) (fun c221_3 => ?_) (fun c221_3 => ?_)
                      · skip
                        rw [q221] at c221_3
                        have hle : fr.length + 1 + wm.length ≤ 100 := (nI_100 (by omega)).mp c221_3
                        refine lv_aload_n hx hb dX3_readOld_240 rfl (lv_at hl 7 rfl) ?_
                        refine va_get (D := D) (ci := 4) (v := .ref a7) (C := RX3) (T := TX3) (N := 15) hx hb hts (by decide +kernel) hown hK hP 0 rfl rfl 7 (by decide) (hts (.fieldLink RX3 19 "CharacterRowsModel" "work" "[I") (by decide +kernel)) (fun _ h9 => h9) rfl dX3_readOld_241 ?_
                        refine lv_iload_n hx hb dX3_readOld_244 rfl (lv_at hl 5 rfl) ?_
                        refine lv_iload hx hb dX3_readOld_245 (lv_at hl 0 rfl) ?_
                        refine va_iast hx hb hK hP hD hS 2 1 rfl rfl (rwf_sin p7 (by decide) e2 (by omega)) dX3_readOld_247 (fun H locs hP hD hS => ?_)
                        have hP : va_P D vwCl [(g, .inr (4, [.int th, .ref a1, .int (nI y1.length), .ref a3, .int ct, .ref a5, .int oc, .ref a7, .ref a8, .ref a9, .int wn, .ref aB, .int tn, .int si, .int wg])), (a1, .inl (k1, 200, .inl g1)), (a7, .inl (k7, 400, .inl (upd g7 x2.toNatClampNeg (fX2_codeOfOldByte b x1)))), (a8, .inl (k8, 400, .inl g8))] H := hP
                        have hD : va_D A [(g, .inr (4, [.int th, .ref a1, .int (nI y1.length), .ref a3, .int ct, .ref a5, .int oc, .ref a7, .ref a8, .ref a9, .int wn, .ref aB, .int tn, .int si, .int wg])), (a1, .inl (k1, 200, .inl g1)), (a7, .inl (k7, 400, .inl (upd g7 x2.toNatClampNeg (fX2_codeOfOldByte b x1)))), (a8, .inl (k8, 400, .inl g8))] := hD
                        refine lv_iinc (v := (x2 + 1)) (lv' := [(2, .int (x2 + 1)), (7, .int (fX2_codeOfOldByte b x1)), (6, .int b), (5, .int x5), (4, .int x4), (3, .int x3), (1, .int x1), (0, .ref g)]) hx hb dX3_readOld_248 hl (k := 5) rfl rfl (by decide) rfl (fun ls hl => ?_)
                        refine lv_iconst (v := 0) hx hb dX3_readOld_251 (by decide) ?_
                        refine lv_istore (lv' := [(8, .int 0), (2, .int (x2 + 1)), (7, .int (fX2_codeOfOldByte b x1)), (6, .int b), (5, .int x5), (4, .int x4), (3, .int x3), (1, .int x1), (0, .ref g)]) hx hb dX3_readOld_252 hl (by decide) rfl (fun ls hl => ?_)
                        have q7 := rwf_snoc (c := fX2_codeOfOldByte b x1) p7 (by decide) e2 (by omega)
                        have loop2 : ∀ (ms : List Int32) (md : List Int32) (f7 : Nat → Int32) (x2b x8 : Int32) (H : Heap) (locs : List Loc) (ls : Array Slot), (wm = md ++ ms) → (x8 = nI md.length) → (x2b = nI (fr ++ fX2_codeOfOldByte b x1 :: md).length) → (rw_ok f7 400 (fr ++ fX2_codeOfOldByte b x1 :: md)) → va_P D vwCl [(g, .inr (4, [.int th, .ref a1, .int (nI y1.length), .ref a3, .int ct, .ref a5, .int oc, .ref a7, .ref a8, .ref a9, .int wn, .ref aB, .int tn, .int si, .int wg])), (a1, .inl (k1, 200, .inl g1)), (a7, .inl (k7, 400, .inl f7)), (a8, .inl (k8, 400, .inl g8))] H → va_D A [(g, .inr (4, [.int th, .ref a1, .int (nI y1.length), .ref a3, .int ct, .ref a5, .int oc, .ref a7, .ref a8, .ref a9, .int wn, .ref aB, .int tn, .int si, .int wg])), (a1, .inl (k1, 200, .inl g1)), (a7, .inl (k7, 400, .inl f7)), (a8, .inl (k8, 400, .inl g8))] → va_S A s.heap H locs → lv_has ls 9 [(8, .int x8), (2, .int x2b), (7, .int (fX2_codeOfOldByte b x1)), (6, .int b), (5, .int x5), (4, .int x4), (3, .int x3), (1, .int x1), (0, .ref g)] → W p l e ({ frames := 1, cells := 0, slots := 0, locals := 21 }) s m ([.ref g] : List Value).toArray below meth c H locs 0 0 (MQ below (qcI (S := (Nat → Int32) × (Nat → Int32) × Int32) D (fun r u => (T.1 = -1 → r = nI T.2.length ∧ rw_ok u.1 400 T.2) ∧ (¬ T.1 = -1 → r = -1 ∧ u.2.2 = T.1)) (fun u => [(g, .inr (4, [.int th, .ref a1, .int (nI y1.length), .ref a3, .int ct, .ref a5, .int oc, .ref a7, .ref a8, .ref a9, .int wn, .ref aB, .int tn, .int si, .int u.2.2])), (a1, .inl (k1, 200, .inl g1)), (a7, .inl (k7, 400, .inl u.1)), (a8, .inl (k8, 400, .inl u.2.1))]) A) ([.ref g] : List Value).toArray s 0 0 A) (F0 m 254 ls [])  := by
                          intro ms
                          induction ms with
                          | nil =>
                            intro md f7 x2b x8 H locs ls hmd e8 e2b p7b hP hD hS hl
                            have hmdl : wm.length = md.length := by rw [hmd]; simp
                            refine lv_iload hx hb dX3_readOld_254 (lv_at hl 0 rfl) ?_
                            refine lv_iload_n hx hb dX3_readOld_256 rfl (lv_at hl 6 rfl) ?_
                            refine lv_icmp_ge (tgt := 282) hx hb dX3_readOld_257 (by decide) (fun c257_5 => ?_) (fun c257_5 => ?_)
                            · skip
                              refine lv_iconst (v := 0) hx hb dX3_readOld_282 (by decide) ?_
                              refine lv_istore_n (lv' := [(3, .int 0), (8, .int x8), (2, .int x2b), (7, .int (fX2_codeOfOldByte b x1)), (6, .int b), (5, .int x5), (4, .int x4), (1, .int x1), (0, .ref g)]) hx hb dX3_readOld_283 rfl hl (by decide) rfl (fun ls hl => ?_)
                              refine lv_iinc (v := (x5 + 1)) (lv' := [(5, .int (x5 + 1)), (3, .int 0), (8, .int x8), (2, .int x2b), (7, .int (fX2_codeOfOldByte b x1)), (6, .int b), (4, .int x4), (1, .int x1), (0, .ref g)]) hx hb dX3_readOld_284 hl (k := 5) rfl rfl (by decide) rfl (fun ls hl => ?_)
                              refine lv_goto (tgt := 12) hx hb dX3_readOld_287 (by decide) ?_
                              obtain rfl : wm = md := by rw [hmd]; simp
                              exact ih t (done ++ [b]) [] (fr ++ fX2_codeOfOldByte b x1 :: wm) f7 g8 _ _ _ _ _ H locs ls (by simp at hn ⊢; omega) (by rw [hy]; simp) (by rw [← hT]; simp [roS, c34_1, c169_3, c184_3, hle]) (by rw [e5, List.length_append]; exact nI_1 _) rfl e2b hs9 p7b rw_nil (by simp) (by simp <;> omega) (fun q => absurd rfl q) hP hD hS (lv_sub hl [0, 6, 1, 3, 7, 8] rfl)
                            · skip
                              exact absurd (by rw [e3, e8, hmdl]; exact Int32.le_refl _) c257_5
                          | cons d ms ih2 =>
                            intro md f7 x2b x8 H locs ls hmd e8 e2b p7b hP hD hS hl
                            have hmdl : wm.length = md.length + (ms.length + 1) := by rw [hmd]; simp
                            refine lv_iload hx hb dX3_readOld_254 (lv_at hl 0 rfl) ?_
                            refine lv_iload_n hx hb dX3_readOld_256 rfl (lv_at hl 6 rfl) ?_
                            refine lv_icmp_ge (tgt := 282) hx hb dX3_readOld_257 (by decide) (fun c257_6 => ?_) (fun c257_6 => ?_)
                            · skip
                              exact absurd c257_6 (by rw [e3, e8, hmdl]; exact nI_ge (by omega) (by omega))
                            · skip
                              refine lv_aload_n hx hb dX3_readOld_260 rfl (lv_at hl 8 rfl) ?_
                              refine va_get (D := D) (ci := 4) (v := .ref a7) (C := RX3) (T := TX3) (N := 15) hx hb hts (by decide +kernel) hown hK hP 0 rfl rfl 7 (by decide) (hts (.fieldLink RX3 19 "CharacterRowsModel" "work" "[I") (by decide +kernel)) (fun _ h9 => h9) rfl dX3_readOld_261 ?_
                              refine lv_iload_n hx hb dX3_readOld_264 rfl (lv_at hl 1 rfl) ?_
                              refine lv_aload_n hx hb dX3_readOld_265 rfl (lv_at hl 8 rfl) ?_
                              refine va_get (D := D) (ci := 4) (v := .ref a8) (C := RX3) (T := TX3) (N := 15) hx hb hts (by decide +kernel) hown hK hP 0 rfl rfl 8 (by decide) (hts (.fieldLink RX3 22 "CharacterRowsModel" "second" "[I") (by decide +kernel)) (fun _ h9 => h9) rfl dX3_readOld_266 ?_
                              refine lv_iload hx hb dX3_readOld_269 (lv_at hl 0 rfl) ?_
                              refine va_iald hx hb hK hP 3 2 rfl rfl (rwf_in (j := 0) p8 (by decide) hmd e8 rfl (by simp)) dX3_readOld_271 ?_
                              refine lv_topi (fun r9 hr9 => ?_)
                              replace hr9 : r9 = d := hr9.trans (rwf_v (j := 0) p8 (by decide) hmd e8 rfl (by simp))
                              subst r9
                              refine va_iast hx hb hK hP hD hS 2 1 rfl rfl (rwf_sin p7b (by decide) e2b (by simp; omega)) dX3_readOld_272 (fun H locs hP hD hS => ?_)
                              have hP : va_P D vwCl [(g, .inr (4, [.int th, .ref a1, .int (nI y1.length), .ref a3, .int ct, .ref a5, .int oc, .ref a7, .ref a8, .ref a9, .int wn, .ref aB, .int tn, .int si, .int wg])), (a1, .inl (k1, 200, .inl g1)), (a7, .inl (k7, 400, .inl (upd f7 x2b.toNatClampNeg d))), (a8, .inl (k8, 400, .inl g8))] H := hP
                              have hD : va_D A [(g, .inr (4, [.int th, .ref a1, .int (nI y1.length), .ref a3, .int ct, .ref a5, .int oc, .ref a7, .ref a8, .ref a9, .int wn, .ref aB, .int tn, .int si, .int wg])), (a1, .inl (k1, 200, .inl g1)), (a7, .inl (k7, 400, .inl (upd f7 x2b.toNatClampNeg d))), (a8, .inl (k8, 400, .inl g8))] := hD
                              refine lv_iinc (v := (x2b + 1)) (lv' := [(2, .int (x2b + 1)), (8, .int x8), (7, .int (fX2_codeOfOldByte b x1)), (6, .int b), (5, .int x5), (4, .int x4), (3, .int x3), (1, .int x1), (0, .ref g)]) hx hb dX3_readOld_273 hl (k := 1) rfl rfl (by decide) rfl (fun ls hl => ?_)
                              refine lv_iinc (v := (x8 + 1)) (lv' := [(8, .int (x8 + 1)), (2, .int (x2b + 1)), (7, .int (fX2_codeOfOldByte b x1)), (6, .int b), (5, .int x5), (4, .int x4), (3, .int x3), (1, .int x1), (0, .ref g)]) hx hb dX3_readOld_276 hl (k := 1) rfl rfl (by decide) rfl (fun ls hl => ?_)
                              refine lv_goto (tgt := 254) hx hb dX3_readOld_279 (by decide) ?_
                              have q9 := rwf_snoc (c := d) p7b (by decide) e2b (by simp; omega)
                              exact ih2 (md ++ [d]) (upd f7 x2b.toNatClampNeg d) _ _ H locs ls (by rw [hmd]; simp) (by rw [e8, List.length_append]; exact nI_1 _) (by rw [e2b, nI_1]; congr 1; simp <;> omega) (by have e7 : fr ++ fX2_codeOfOldByte b x1 :: md ++ [d] = fr ++ fX2_codeOfOldByte b x1 :: (md ++ [d]) := (by simp); rw [e7] at q9; exact q9) hP hD hS (lv_sub hl [0, 1, 2, 3, 4, 5, 6, 7, 8] rfl)
                        exact loop2 wm [] (upd g7 x2.toNatClampNeg (fX2_codeOfOldByte b x1)) _ _ H locs ls rfl rfl (by rw [e2, nI_1]; simp) q7 hP hD hS (lv_sub hl [0, 1, 2, 3, 4, 5, 6, 7, 8] rfl)
                      · skip
                        rw [q221] at c221_3
                        have hgt : ¬ fr.length + 1 + wm.length ≤ 100 := fun q => c221_3 ((nI_100 (by omega)).mpr q)
                        refine lv_aload_n hx hb dX3_readOld_224 rfl (lv_at hl 7 rfl) ?_
                        refine lv_iload_n hx hb dX3_readOld_225 rfl (lv_at hl 4 rfl) ?_
                        refine lv_if_le (tgt := 234) hx hb dX3_readOld_226 (by decide) (fun c226_3 => ?_) (fun c226_3 => ?_)
                        · skip
                          refine lv_iload hx hb dX3_readOld_234 (lv_at hl 2 rfl) ?_
                          refine clI (wr := [(a1, .inl (k1, 200, .inl g1)), (a7, .inl (k7, 400, .inl g7)), (a8, .inl (k8, 400, .inl g8))]) (va_runV ⟨hx, hb, hml, hown, hts⟩ (KX3_bad l D g a1 a3 a5 a7 a8 a9 aB th (nI y1.length) ct oc wn tn si wg x5 _) (cwV 1 hts gX3_readOld_X3_bad rfl rfl rfl (by decide +kernel) ⟨Nat.le_of_ble_eq_true rfl, Nat.le_of_ble_eq_true rfl⟩) (pcM_V (hP.sub (ws' := [(g, .inr (4, [.int th, .ref a1, .int (nI y1.length), .ref a3, .int ct, .ref a5, .int oc, .ref a7, .ref a8, .ref a9, .int wn, .ref aB, .int tn, .int si, .int wg]))]) [0] rfl) (hD.sub (ws' := [(g, .inr (4, [.int th, .ref a1, .int (nI y1.length), .ref a3, .int ct, .ref a5, .int oc, .ref a7, .ref a8, .ref a9, .int wn, .ref aB, .int tn, .int si, .int wg]))]) [0] (by decide) rfl) (hK.sub (tys' := []) [] rfl) hN 0 rfl rfl) rfl rfl hl.1 rfl (lv_room (Nat.le_of_ble_eq_true rfl)) dX3_readOld_236 ⟨Nat.zero_le _, Nat.zero_le _⟩) hP hD hS hA [0] [1, 2, 3] rfl rfl (by decide) (by decide) (fun r_8 u_8 H locs hw_8 hP hD hS => ?_)
                          subst hw_8
                          have hP : va_P D vwCl [(g, .inr (4, [.int th, .ref a1, .int (nI y1.length), .ref a3, .int ct, .ref a5, .int oc, .ref a7, .ref a8, .ref a9, .int wn, .ref aB, .int tn, .int si, .int x5])), (a1, .inl (k1, 200, .inl g1)), (a7, .inl (k7, 400, .inl g7)), (a8, .inl (k8, 400, .inl g8))] H := hP.sub [3, 0, 1, 2] rfl
                          have hD : va_D A [(g, .inr (4, [.int th, .ref a1, .int (nI y1.length), .ref a3, .int ct, .ref a5, .int oc, .ref a7, .ref a8, .ref a9, .int wn, .ref aB, .int tn, .int si, .int x5])), (a1, .inl (k1, 200, .inl g1)), (a7, .inl (k7, 400, .inl g7)), (a8, .inl (k8, 400, .inl g8))] := hD.sub [3, 0, 1, 2] (by decide) rfl
                          rw [e3] at c226_3
                          have hw0 : wm.length = 0 := by rcases Nat.eq_zero_or_pos wm.length with q | q; exact q; exact absurd c226_3 (nI_nle q (by omega))
                          have e8 : (x5, fr) = T := by rw [← hT, e5]; simp only [roS]; rw [if_neg c34_1, if_neg c169_3, if_pos c184_3, if_neg hgt, if_pos hw0]
                          have hne : ¬ T.1 = -1 := by rw [← e8]; show ¬ x5 = -1; rw [e5]; exact nI_ne1 (by omega)
                          exact rtI hx hb hr hlocks dX3_readOld_239 (g7, g8, x5) ⟨fun q => absurd q hne, fun _ => ⟨rfl, by rw [← e8]⟩⟩ hP hD hS
                        · skip
                          refine lv_iload hx hb dX3_readOld_229 (lv_at hl 3 rfl) ?_
                          refine lv_goto (tgt := 236) hx hb dX3_readOld_231 (by decide) ?_
                          refine clI (wr := [(a1, .inl (k1, 200, .inl g1)), (a7, .inl (k7, 400, .inl g7)), (a8, .inl (k8, 400, .inl g8))]) (va_runV ⟨hx, hb, hml, hown, hts⟩ (KX3_bad l D g a1 a3 a5 a7 a8 a9 aB th (nI y1.length) ct oc wn tn si wg x4 _) (cwV 1 hts gX3_readOld_X3_bad rfl rfl rfl (by decide +kernel) ⟨Nat.le_of_ble_eq_true rfl, Nat.le_of_ble_eq_true rfl⟩) (pcM_V (hP.sub (ws' := [(g, .inr (4, [.int th, .ref a1, .int (nI y1.length), .ref a3, .int ct, .ref a5, .int oc, .ref a7, .ref a8, .ref a9, .int wn, .ref aB, .int tn, .int si, .int wg]))]) [0] rfl) (hD.sub (ws' := [(g, .inr (4, [.int th, .ref a1, .int (nI y1.length), .ref a3, .int ct, .ref a5, .int oc, .ref a7, .ref a8, .ref a9, .int wn, .ref aB, .int tn, .int si, .int wg]))]) [0] (by decide) rfl) (hK.sub (tys' := []) [] rfl) hN 0 rfl rfl) rfl rfl hl.1 rfl (lv_room (Nat.le_of_ble_eq_true rfl)) dX3_readOld_236 ⟨Nat.zero_le _, Nat.zero_le _⟩) hP hD hS hA [0] [1, 2, 3] rfl rfl (by decide) (by decide) (fun r_9 u_9 H locs hw_9 hP hD hS => ?_)
                          subst hw_9
                          have hP : va_P D vwCl [(g, .inr (4, [.int th, .ref a1, .int (nI y1.length), .ref a3, .int ct, .ref a5, .int oc, .ref a7, .ref a8, .ref a9, .int wn, .ref aB, .int tn, .int si, .int x4])), (a1, .inl (k1, 200, .inl g1)), (a7, .inl (k7, 400, .inl g7)), (a8, .inl (k8, 400, .inl g8))] H := hP.sub [3, 0, 1, 2] rfl
                          have hD : va_D A [(g, .inr (4, [.int th, .ref a1, .int (nI y1.length), .ref a3, .int ct, .ref a5, .int oc, .ref a7, .ref a8, .ref a9, .int wn, .ref aB, .int tn, .int si, .int x4])), (a1, .inl (k1, 200, .inl g1)), (a7, .inl (k7, 400, .inl g7)), (a8, .inl (k8, 400, .inl g8))] := hD.sub [3, 0, 1, 2] (by decide) rfl
                          rw [e3] at c226_3
                          have hw0 : ¬ wm.length = 0 := fun q => c226_3 (by rw [q]; decide)
                          obtain ⟨j9, hj9, ej9⟩ := hfm (fun q => hw0 (by rw [q]; rfl))
                          have e8 : (x4, fr) = T := by rw [← hT]; simp only [roS]; rw [if_neg c34_1, if_neg c169_3, if_pos c184_3, if_neg hgt, if_neg hw0]
                          have hne : ¬ T.1 = -1 := by rw [← e8]; show ¬ x4 = -1; rw [ej9]; exact nI_ne1 hj9
                          exact rtI hx hb hr hlocks dX3_readOld_239 (g7, g8, x4) ⟨fun q => absurd q hne, fun _ => ⟨rfl, by rw [← e8]⟩⟩ hP hD hS
                    · skip
                      refine lv_iload_n hx hb dX3_readOld_187 rfl (lv_at hl 4 rfl) ?_
                      refine lv_if_ne (tgt := 196) hx hb dX3_readOld_188 (by decide) (fun c188_3 => ?_) (fun c188_3 => ?_)
                      · skip
                        refine lv_iload hx hb dX3_readOld_196 (lv_at hl 3 rfl) ?_
                        refine lv_istore (lv' := [(4, .int x4), (7, .int (fX2_codeOfOldByte b x1)), (6, .int b), (5, .int x5), (3, .int x3), (2, .int x2), (1, .int x1), (0, .ref g)]) hx hb dX3_readOld_198 hl (by decide) rfl (fun ls hl => ?_)
                        refine lv_aload_n hx hb dX3_readOld_200 rfl (lv_at hl 7 rfl) ?_
                        refine va_get (D := D) (ci := 4) (v := .ref a8) (C := RX3) (T := TX3) (N := 15) hx hb hts (by decide +kernel) hown hK hP 0 rfl rfl 8 (by decide) (hts (.fieldLink RX3 22 "CharacterRowsModel" "second" "[I") (by decide +kernel)) (fun _ h9 => h9) rfl dX3_readOld_201 ?_
                        refine lv_iload_n hx hb dX3_readOld_204 rfl (lv_at hl 4 rfl) ?_
                        refine lv_iload hx hb dX3_readOld_205 (lv_at hl 1 rfl) ?_
                        refine va_iast hx hb hK hP hD hS 3 2 rfl rfl (rwf_sin p8 (by decide) e3 (by omega)) dX3_readOld_207 (fun H locs hP hD hS => ?_)
                        have hP : va_P D vwCl [(g, .inr (4, [.int th, .ref a1, .int (nI y1.length), .ref a3, .int ct, .ref a5, .int oc, .ref a7, .ref a8, .ref a9, .int wn, .ref aB, .int tn, .int si, .int wg])), (a1, .inl (k1, 200, .inl g1)), (a7, .inl (k7, 400, .inl g7)), (a8, .inl (k8, 400, .inl (upd g8 x3.toNatClampNeg (fX2_codeOfOldByte b x1))))] H := hP
                        have hD : va_D A [(g, .inr (4, [.int th, .ref a1, .int (nI y1.length), .ref a3, .int ct, .ref a5, .int oc, .ref a7, .ref a8, .ref a9, .int wn, .ref aB, .int tn, .int si, .int wg])), (a1, .inl (k1, 200, .inl g1)), (a7, .inl (k7, 400, .inl g7)), (a8, .inl (k8, 400, .inl (upd g8 x3.toNatClampNeg (fX2_codeOfOldByte b x1))))] := hD
                        refine lv_iinc (v := (x3 + 1)) (lv' := [(3, .int (x3 + 1)), (4, .int x4), (7, .int (fX2_codeOfOldByte b x1)), (6, .int b), (5, .int x5), (2, .int x2), (1, .int x1), (0, .ref g)]) hx hb dX3_readOld_208 hl (k := 4) rfl rfl (by decide) rfl (fun ls hl => ?_)
                        refine lv_goto (tgt := 284) hx hb dX3_readOld_211 (by decide) ?_
                        refine lv_iinc (v := (x5 + 1)) (lv' := [(5, .int (x5 + 1)), (3, .int (x3 + 1)), (4, .int x4), (7, .int (fX2_codeOfOldByte b x1)), (6, .int b), (2, .int x2), (1, .int x1), (0, .ref g)]) hx hb dX3_readOld_284 hl (k := 4) rfl rfl (by decide) rfl (fun ls hl => ?_)
                        refine lv_goto (tgt := 12) hx hb dX3_readOld_287 (by decide) ?_
                        have q8 := rwf_snoc (c := fX2_codeOfOldByte b x1) p8 (by decide) e3 (by omega)
                        have q88 := nI_0iff (n := wm.length) (by omega)
                        rw [e3] at c188_3
                        exact ih t (done ++ [b]) _ fr g7 (upd g8 x3.toNatClampNeg (fX2_codeOfOldByte b x1)) _ _ _ _ _ H locs ls (by simp at hn ⊢; omega) (by rw [hy]; simp) (by rw [← hT]; simp [roS, c34_1, c169_3, c184_3, ← q88, c188_3, e5]) (by rw [e5, List.length_append]; exact nI_1 _) (by rw [e3, nI_1]; simp) e2 hs9 p7 q8 (by simp <;> omega) hfr (fun _ => hfm (by intro q; rw [q] at c188_3; exact c188_3 rfl)) hP hD hS (lv_sub hl [0, 2, 1, 5, 6, 7] rfl)
                      · skip
                        refine lv_iload hx hb dX3_readOld_191 (lv_at hl 2 rfl) ?_
                        refine lv_goto (tgt := 198) hx hb dX3_readOld_193 (by decide) ?_
                        refine lv_istore (lv' := [(4, .int x5), (7, .int (fX2_codeOfOldByte b x1)), (6, .int b), (5, .int x5), (3, .int x3), (2, .int x2), (1, .int x1), (0, .ref g)]) hx hb dX3_readOld_198 hl (by decide) rfl (fun ls hl => ?_)
                        refine lv_aload_n hx hb dX3_readOld_200 rfl (lv_at hl 7 rfl) ?_
                        refine va_get (D := D) (ci := 4) (v := .ref a8) (C := RX3) (T := TX3) (N := 15) hx hb hts (by decide +kernel) hown hK hP 0 rfl rfl 8 (by decide) (hts (.fieldLink RX3 22 "CharacterRowsModel" "second" "[I") (by decide +kernel)) (fun _ h9 => h9) rfl dX3_readOld_201 ?_
                        refine lv_iload_n hx hb dX3_readOld_204 rfl (lv_at hl 4 rfl) ?_
                        refine lv_iload hx hb dX3_readOld_205 (lv_at hl 1 rfl) ?_
                        refine va_iast hx hb hK hP hD hS 3 2 rfl rfl (rwf_sin p8 (by decide) e3 (by omega)) dX3_readOld_207 (fun H locs hP hD hS => ?_)
                        have hP : va_P D vwCl [(g, .inr (4, [.int th, .ref a1, .int (nI y1.length), .ref a3, .int ct, .ref a5, .int oc, .ref a7, .ref a8, .ref a9, .int wn, .ref aB, .int tn, .int si, .int wg])), (a1, .inl (k1, 200, .inl g1)), (a7, .inl (k7, 400, .inl g7)), (a8, .inl (k8, 400, .inl (upd g8 x3.toNatClampNeg (fX2_codeOfOldByte b x1))))] H := hP
                        have hD : va_D A [(g, .inr (4, [.int th, .ref a1, .int (nI y1.length), .ref a3, .int ct, .ref a5, .int oc, .ref a7, .ref a8, .ref a9, .int wn, .ref aB, .int tn, .int si, .int wg])), (a1, .inl (k1, 200, .inl g1)), (a7, .inl (k7, 400, .inl g7)), (a8, .inl (k8, 400, .inl (upd g8 x3.toNatClampNeg (fX2_codeOfOldByte b x1))))] := hD
                        refine lv_iinc (v := (x3 + 1)) (lv' := [(3, .int (x3 + 1)), (4, .int x5), (7, .int (fX2_codeOfOldByte b x1)), (6, .int b), (5, .int x5), (2, .int x2), (1, .int x1), (0, .ref g)]) hx hb dX3_readOld_208 hl (k := 4) rfl rfl (by decide) rfl (fun ls hl => ?_)
                        refine lv_goto (tgt := 284) hx hb dX3_readOld_211 (by decide) ?_
                        refine lv_iinc (v := (x5 + 1)) (lv' := [(5, .int (x5 + 1)), (3, .int (x3 + 1)), (4, .int x5), (7, .int (fX2_codeOfOldByte b x1)), (6, .int b), (2, .int x2), (1, .int x1), (0, .ref g)]) hx hb dX3_readOld_284 hl (k := 4) rfl rfl (by decide) rfl (fun ls hl => ?_)
                        refine lv_goto (tgt := 12) hx hb dX3_readOld_287 (by decide) ?_
                        have q8 := rwf_snoc (c := fX2_codeOfOldByte b x1) p8 (by decide) e3 (by omega)
                        have q88 := nI_0iff (n := wm.length) (by omega)
                        rw [e3] at c188_3
                        exact ih t (done ++ [b]) _ fr g7 (upd g8 x3.toNatClampNeg (fX2_codeOfOldByte b x1)) _ _ _ _ _ H locs ls (by simp at hn ⊢; omega) (by rw [hy]; simp) (by rw [← hT]; simp [roS, c34_1, c169_3, c184_3, ← q88, c188_3, e5]) (by rw [e5, List.length_append]; exact nI_1 _) (by rw [e3, nI_1]; simp) e2 hs9 p7 q8 (by simp <;> omega) hfr (fun _ => ⟨_, by omega, e5⟩) hP hD hS (lv_sub hl [0, 2, 1, 5, 6, 7] rfl)
                  · skip
                    refine lv_aload_n hx hb dX3_readOld_172 rfl (lv_at hl 7 rfl) ?_
                    refine lv_iload hx hb dX3_readOld_173 (lv_at hl 2 rfl) ?_
                    refine clI (wr := [(a1, .inl (k1, 200, .inl g1)), (a7, .inl (k7, 400, .inl g7)), (a8, .inl (k8, 400, .inl g8))]) (va_runV ⟨hx, hb, hml, hown, hts⟩ (KX3_bad l D g a1 a3 a5 a7 a8 a9 aB th (nI y1.length) ct oc wn tn si wg x5 _) (cwV 1 hts gX3_readOld_X3_bad rfl rfl rfl (by decide +kernel) ⟨Nat.le_of_ble_eq_true rfl, Nat.le_of_ble_eq_true rfl⟩) (pcM_V (hP.sub (ws' := [(g, .inr (4, [.int th, .ref a1, .int (nI y1.length), .ref a3, .int ct, .ref a5, .int oc, .ref a7, .ref a8, .ref a9, .int wn, .ref aB, .int tn, .int si, .int wg]))]) [0] rfl) (hD.sub (ws' := [(g, .inr (4, [.int th, .ref a1, .int (nI y1.length), .ref a3, .int ct, .ref a5, .int oc, .ref a7, .ref a8, .ref a9, .int wn, .ref aB, .int tn, .int si, .int wg]))]) [0] (by decide) rfl) (hK.sub (tys' := []) [] rfl) hN 0 rfl rfl) rfl rfl hl.1 rfl (lv_room (Nat.le_of_ble_eq_true rfl)) dX3_readOld_175 ⟨Nat.zero_le _, Nat.zero_le _⟩) hP hD hS hA [0] [1, 2, 3] rfl rfl (by decide) (by decide) (fun r_10 u_10 H locs hw_10 hP hD hS => ?_)
                    subst hw_10
                    have hP : va_P D vwCl [(g, .inr (4, [.int th, .ref a1, .int (nI y1.length), .ref a3, .int ct, .ref a5, .int oc, .ref a7, .ref a8, .ref a9, .int wn, .ref aB, .int tn, .int si, .int x5])), (a1, .inl (k1, 200, .inl g1)), (a7, .inl (k7, 400, .inl g7)), (a8, .inl (k8, 400, .inl g8))] H := hP.sub [3, 0, 1, 2] rfl
                    have hD : va_D A [(g, .inr (4, [.int th, .ref a1, .int (nI y1.length), .ref a3, .int ct, .ref a5, .int oc, .ref a7, .ref a8, .ref a9, .int wn, .ref aB, .int tn, .int si, .int x5])), (a1, .inl (k1, 200, .inl g1)), (a7, .inl (k7, 400, .inl g7)), (a8, .inl (k8, 400, .inl g8))] := hD.sub [3, 0, 1, 2] (by decide) rfl
                    have e8 : (x5, fr) = T := by rw [← hT, e5]; simp [roS, c34_1, c169_3]
                    have hne : ¬ T.1 = -1 := by rw [← e8]; show ¬ x5 = -1; rw [e5]; exact nI_ne1 (by omega)
                    exact rtI hx hb hr hlocks dX3_readOld_178 (g7, g8, x5) ⟨fun q => absurd q hne, fun _ => ⟨rfl, by rw [← e8]⟩⟩ hP hD hS
            · skip
              refine lv_iload hx hb dX3_readOld_123 (lv_at hl 0 rfl) ?_
              refine lv_bipush (v := 126) hx hb dX3_readOld_125 (by decide) ?_
              refine lv_icmp_gt (tgt := 135) hx hb dX3_readOld_127 (by decide) (fun c127_1 => ?_) (fun c127_1 => ?_)
              · skip
                refine lv_iload hx hb dX3_readOld_135 (lv_at hl 0 rfl) ?_
                refine lv_sipush (v := 161) hx hb dX3_readOld_137 (by decide) ?_
                refine lv_icmp_lt (tgt := 164) hx hb dX3_readOld_140 (by decide) (fun c140_2 => ?_) (fun c140_2 => ?_)
                · skip
                  refine lv_iconst (v := 0) hx hb dX3_readOld_164 (by decide) ?_
                  refine lv_topi (fun r9 hr9 => ?_)
                  replace hr9 : r9 = fX2_codeOfOldByte b x1 := hr9.trans (by rw [← oc_eq hb9 hs9]; simp [ocS, c120_1, c127_1, c140_2])
                  subst r9
                  refine lv_istore (lv' := [(7, .int (fX2_codeOfOldByte b x1)), (6, .int b), (5, .int x5), (4, .int x4), (3, .int x3), (2, .int x2), (1, .int x1), (0, .ref g)]) hx hb dX3_readOld_165 hl (by decide) rfl (fun ls hl => ?_)
                  refine lv_iload hx hb dX3_readOld_167 (lv_at hl 0 rfl) ?_
                  refine lv_if_ne (tgt := 179) hx hb dX3_readOld_169 (by decide) (fun c169_4 => ?_) (fun c169_4 => ?_)
                  · skip
                    refine lv_iload hx hb dX3_readOld_179 (lv_at hl 0 rfl) ?_
                    refine vp_callSi (W.runS ⟨hx, hb, hml, hown, hts⟩ (KX3_isMark l (fX2_codeOfOldByte b x1)) (va_cwS 1 hts gX3_readOld_X3_isMark rfl rfl rfl (by decide +kernel) ⟨Nat.le_of_ble_eq_true rfl, Nat.le_of_ble_eq_true rfl⟩) pcS_S rfl rfl hl.1 rfl (lv_room (Nat.le_of_ble_eq_true rfl)) dX3_readOld_181 ⟨Nat.zero_le _, Nat.zero_le _⟩) (fun r9 hr9 => ?_)
                    replace hr9 : r9 = fX2_isMark (fX2_codeOfOldByte b x1) := hr9.trans (x3_isMark _)
                    subst r9
                    refine lv_if_eq (tgt := 214) hx hb dX3_readOld_184 (by decide) (fun c184_4 => ?_) (fun c184_4 => ?_)
                    · skip
                      have q221 : x2 + 1 + x3 = nI (fr.length + 1 + wm.length) := by rw [e2, e3, nI_1, nI_add]
                      refine lv_iload_n hx hb dX3_readOld_214 rfl (lv_at hl 5 rfl) ?_
                      refine lv_iconst (v := 1) hx hb dX3_readOld_215 (by decide) ?_
                      refine lv_iadd hx hb dX3_readOld_216 ?_
                      refine lv_iload_n hx hb dX3_readOld_217 rfl (lv_at hl 4 rfl) ?_
                      refine lv_iadd hx hb dX3_readOld_218 ?_
                      refine lv_bipush (v := 100) hx hb dX3_readOld_219 (by decide) ?_
                      refine lv_icmp_le (tgt := 240) hx hb dX3_readOld_221 (by decide) (fun c221_4 => ?_) (fun c221_4 => ?_)
                      · skip
                        rw [q221] at c221_4
                        have hle : fr.length + 1 + wm.length ≤ 100 := (nI_100 (by omega)).mp c221_4
                        refine lv_aload_n hx hb dX3_readOld_240 rfl (lv_at hl 7 rfl) ?_
                        refine va_get (D := D) (ci := 4) (v := .ref a7) (C := RX3) (T := TX3) (N := 15) hx hb hts (by decide +kernel) hown hK hP 0 rfl rfl 7 (by decide) (hts (.fieldLink RX3 19 "CharacterRowsModel" "work" "[I") (by decide +kernel)) (fun _ h9 => h9) rfl dX3_readOld_241 ?_
                        refine lv_iload_n hx hb dX3_readOld_244 rfl (lv_at hl 5 rfl) ?_
                        refine lv_iload hx hb dX3_readOld_245 (lv_at hl 0 rfl) ?_
                        refine va_iast hx hb hK hP hD hS 2 1 rfl rfl (rwf_sin p7 (by decide) e2 (by omega)) dX3_readOld_247 (fun H locs hP hD hS => ?_)
                        have hP : va_P D vwCl [(g, .inr (4, [.int th, .ref a1, .int (nI y1.length), .ref a3, .int ct, .ref a5, .int oc, .ref a7, .ref a8, .ref a9, .int wn, .ref aB, .int tn, .int si, .int wg])), (a1, .inl (k1, 200, .inl g1)), (a7, .inl (k7, 400, .inl (upd g7 x2.toNatClampNeg (fX2_codeOfOldByte b x1)))), (a8, .inl (k8, 400, .inl g8))] H := hP
                        have hD : va_D A [(g, .inr (4, [.int th, .ref a1, .int (nI y1.length), .ref a3, .int ct, .ref a5, .int oc, .ref a7, .ref a8, .ref a9, .int wn, .ref aB, .int tn, .int si, .int wg])), (a1, .inl (k1, 200, .inl g1)), (a7, .inl (k7, 400, .inl (upd g7 x2.toNatClampNeg (fX2_codeOfOldByte b x1)))), (a8, .inl (k8, 400, .inl g8))] := hD
                        refine lv_iinc (v := (x2 + 1)) (lv' := [(2, .int (x2 + 1)), (7, .int (fX2_codeOfOldByte b x1)), (6, .int b), (5, .int x5), (4, .int x4), (3, .int x3), (1, .int x1), (0, .ref g)]) hx hb dX3_readOld_248 hl (k := 5) rfl rfl (by decide) rfl (fun ls hl => ?_)
                        refine lv_iconst (v := 0) hx hb dX3_readOld_251 (by decide) ?_
                        refine lv_istore (lv' := [(8, .int 0), (2, .int (x2 + 1)), (7, .int (fX2_codeOfOldByte b x1)), (6, .int b), (5, .int x5), (4, .int x4), (3, .int x3), (1, .int x1), (0, .ref g)]) hx hb dX3_readOld_252 hl (by decide) rfl (fun ls hl => ?_)
                        have q7 := rwf_snoc (c := fX2_codeOfOldByte b x1) p7 (by decide) e2 (by omega)
                        have loop2 : ∀ (ms : List Int32) (md : List Int32) (f7 : Nat → Int32) (x2b x8 : Int32) (H : Heap) (locs : List Loc) (ls : Array Slot), (wm = md ++ ms) → (x8 = nI md.length) → (x2b = nI (fr ++ fX2_codeOfOldByte b x1 :: md).length) → (rw_ok f7 400 (fr ++ fX2_codeOfOldByte b x1 :: md)) → va_P D vwCl [(g, .inr (4, [.int th, .ref a1, .int (nI y1.length), .ref a3, .int ct, .ref a5, .int oc, .ref a7, .ref a8, .ref a9, .int wn, .ref aB, .int tn, .int si, .int wg])), (a1, .inl (k1, 200, .inl g1)), (a7, .inl (k7, 400, .inl f7)), (a8, .inl (k8, 400, .inl g8))] H → va_D A [(g, .inr (4, [.int th, .ref a1, .int (nI y1.length), .ref a3, .int ct, .ref a5, .int oc, .ref a7, .ref a8, .ref a9, .int wn, .ref aB, .int tn, .int si, .int wg])), (a1, .inl (k1, 200, .inl g1)), (a7, .inl (k7, 400, .inl f7)), (a8, .inl (k8, 400, .inl g8))] → va_S A s.heap H locs → lv_has ls 9 [(8, .int x8), (2, .int x2b), (7, .int (fX2_codeOfOldByte b x1)), (6, .int b), (5, .int x5), (4, .int x4), (3, .int x3), (1, .int x1), (0, .ref g)] → W p l e ({ frames := 1, cells := 0, slots := 0, locals := 21 }) s m ([.ref g] : List Value).toArray below meth c H locs 0 0 (MQ below (qcI (S := (Nat → Int32) × (Nat → Int32) × Int32) D (fun r u => (T.1 = -1 → r = nI T.2.length ∧ rw_ok u.1 400 T.2) ∧ (¬ T.1 = -1 → r = -1 ∧ u.2.2 = T.1)) (fun u => [(g, .inr (4, [.int th, .ref a1, .int (nI y1.length), .ref a3, .int ct, .ref a5, .int oc, .ref a7, .ref a8, .ref a9, .int wn, .ref aB, .int tn, .int si, .int u.2.2])), (a1, .inl (k1, 200, .inl g1)), (a7, .inl (k7, 400, .inl u.1)), (a8, .inl (k8, 400, .inl u.2.1))]) A) ([.ref g] : List Value).toArray s 0 0 A) (F0 m 254 ls [])  := by
                          intro ms
                          induction ms with
                          | nil =>
                            intro md f7 x2b x8 H locs ls hmd e8 e2b p7b hP hD hS hl
                            have hmdl : wm.length = md.length := by rw [hmd]; simp
                            refine lv_iload hx hb dX3_readOld_254 (lv_at hl 0 rfl) ?_
                            refine lv_iload_n hx hb dX3_readOld_256 rfl (lv_at hl 6 rfl) ?_
                            refine lv_icmp_ge (tgt := 282) hx hb dX3_readOld_257 (by decide) (fun c257_7 => ?_) (fun c257_7 => ?_)
                            · skip
                              refine lv_iconst (v := 0) hx hb dX3_readOld_282 (by decide) ?_
                              refine lv_istore_n (lv' := [(3, .int 0), (8, .int x8), (2, .int x2b), (7, .int (fX2_codeOfOldByte b x1)), (6, .int b), (5, .int x5), (4, .int x4), (1, .int x1), (0, .ref g)]) hx hb dX3_readOld_283 rfl hl (by decide) rfl (fun ls hl => ?_)
                              refine lv_iinc (v := (x5 + 1)) (lv' := [(5, .int (x5 + 1)), (3, .int 0), (8, .int x8), (2, .int x2b), (7, .int (fX2_codeOfOldByte b x1)), (6, .int b), (4, .int x4), (1, .int x1), (0, .ref g)]) hx hb dX3_readOld_284 hl (k := 5) rfl rfl (by decide) rfl (fun ls hl => ?_)
                              refine lv_goto (tgt := 12) hx hb dX3_readOld_287 (by decide) ?_
                              obtain rfl : wm = md := by rw [hmd]; simp
                              exact ih t (done ++ [b]) [] (fr ++ fX2_codeOfOldByte b x1 :: wm) f7 g8 _ _ _ _ _ H locs ls (by simp at hn ⊢; omega) (by rw [hy]; simp) (by rw [← hT]; simp [roS, c34_1, c169_4, c184_4, hle]) (by rw [e5, List.length_append]; exact nI_1 _) rfl e2b hs9 p7b rw_nil (by simp) (by simp <;> omega) (fun q => absurd rfl q) hP hD hS (lv_sub hl [0, 6, 1, 3, 7, 8] rfl)
                            · skip
                              exact absurd (by rw [e3, e8, hmdl]; exact Int32.le_refl _) c257_7
                          | cons d ms ih2 =>
                            intro md f7 x2b x8 H locs ls hmd e8 e2b p7b hP hD hS hl
                            have hmdl : wm.length = md.length + (ms.length + 1) := by rw [hmd]; simp
                            refine lv_iload hx hb dX3_readOld_254 (lv_at hl 0 rfl) ?_
                            refine lv_iload_n hx hb dX3_readOld_256 rfl (lv_at hl 6 rfl) ?_
                            refine lv_icmp_ge (tgt := 282) hx hb dX3_readOld_257 (by decide) (fun c257_8 => ?_) (fun c257_8 => ?_)
                            · skip
                              exact absurd c257_8 (by rw [e3, e8, hmdl]; exact nI_ge (by omega) (by omega))
                            · skip
                              refine lv_aload_n hx hb dX3_readOld_260 rfl (lv_at hl 8 rfl) ?_
                              refine va_get (D := D) (ci := 4) (v := .ref a7) (C := RX3) (T := TX3) (N := 15) hx hb hts (by decide +kernel) hown hK hP 0 rfl rfl 7 (by decide) (hts (.fieldLink RX3 19 "CharacterRowsModel" "work" "[I") (by decide +kernel)) (fun _ h9 => h9) rfl dX3_readOld_261 ?_
                              refine lv_iload_n hx hb dX3_readOld_264 rfl (lv_at hl 1 rfl) ?_
                              refine lv_aload_n hx hb dX3_readOld_265 rfl (lv_at hl 8 rfl) ?_
                              refine va_get (D := D) (ci := 4) (v := .ref a8) (C := RX3) (T := TX3) (N := 15) hx hb hts (by decide +kernel) hown hK hP 0 rfl rfl 8 (by decide) (hts (.fieldLink RX3 22 "CharacterRowsModel" "second" "[I") (by decide +kernel)) (fun _ h9 => h9) rfl dX3_readOld_266 ?_
                              refine lv_iload hx hb dX3_readOld_269 (lv_at hl 0 rfl) ?_
                              refine va_iald hx hb hK hP 3 2 rfl rfl (rwf_in (j := 0) p8 (by decide) hmd e8 rfl (by simp)) dX3_readOld_271 ?_
                              refine lv_topi (fun r9 hr9 => ?_)
                              replace hr9 : r9 = d := hr9.trans (rwf_v (j := 0) p8 (by decide) hmd e8 rfl (by simp))
                              subst r9
                              refine va_iast hx hb hK hP hD hS 2 1 rfl rfl (rwf_sin p7b (by decide) e2b (by simp; omega)) dX3_readOld_272 (fun H locs hP hD hS => ?_)
                              have hP : va_P D vwCl [(g, .inr (4, [.int th, .ref a1, .int (nI y1.length), .ref a3, .int ct, .ref a5, .int oc, .ref a7, .ref a8, .ref a9, .int wn, .ref aB, .int tn, .int si, .int wg])), (a1, .inl (k1, 200, .inl g1)), (a7, .inl (k7, 400, .inl (upd f7 x2b.toNatClampNeg d))), (a8, .inl (k8, 400, .inl g8))] H := hP
                              have hD : va_D A [(g, .inr (4, [.int th, .ref a1, .int (nI y1.length), .ref a3, .int ct, .ref a5, .int oc, .ref a7, .ref a8, .ref a9, .int wn, .ref aB, .int tn, .int si, .int wg])), (a1, .inl (k1, 200, .inl g1)), (a7, .inl (k7, 400, .inl (upd f7 x2b.toNatClampNeg d))), (a8, .inl (k8, 400, .inl g8))] := hD
                              refine lv_iinc (v := (x2b + 1)) (lv' := [(2, .int (x2b + 1)), (8, .int x8), (7, .int (fX2_codeOfOldByte b x1)), (6, .int b), (5, .int x5), (4, .int x4), (3, .int x3), (1, .int x1), (0, .ref g)]) hx hb dX3_readOld_273 hl (k := 1) rfl rfl (by decide) rfl (fun ls hl => ?_)
                              refine lv_iinc (v := (x8 + 1)) (lv' := [(8, .int (x8 + 1)), (2, .int (x2b + 1)), (7, .int (fX2_codeOfOldByte b x1)), (6, .int b), (5, .int x5), (4, .int x4), (3, .int x3), (1, .int x1), (0, .ref g)]) hx hb dX3_readOld_276 hl (k := 1) rfl rfl (by decide) rfl (fun ls hl => ?_)
                              refine lv_goto (tgt := 254) hx hb dX3_readOld_279 (by decide) ?_
                              have q9 := rwf_snoc (c := d) p7b (by decide) e2b (by simp; omega)
                              exact ih2 (md ++ [d]) (upd f7 x2b.toNatClampNeg d) _ _ H locs ls (by rw [hmd]; simp) (by rw [e8, List.length_append]; exact nI_1 _) (by rw [e2b, nI_1]; congr 1; simp <;> omega) (by have e7 : fr ++ fX2_codeOfOldByte b x1 :: md ++ [d] = fr ++ fX2_codeOfOldByte b x1 :: (md ++ [d]) := (by simp); rw [e7] at q9; exact q9) hP hD hS (lv_sub hl [0, 1, 2, 3, 4, 5, 6, 7, 8] rfl)
                        exact loop2 wm [] (upd g7 x2.toNatClampNeg (fX2_codeOfOldByte b x1)) _ _ H locs ls rfl rfl (by rw [e2, nI_1]; simp) q7 hP hD hS (lv_sub hl [0, 1, 2, 3, 4, 5, 6, 7, 8] rfl)
                      · skip
                        rw [q221] at c221_4
                        have hgt : ¬ fr.length + 1 + wm.length ≤ 100 := fun q => c221_4 ((nI_100 (by omega)).mpr q)
                        refine lv_aload_n hx hb dX3_readOld_224 rfl (lv_at hl 7 rfl) ?_
                        refine lv_iload_n hx hb dX3_readOld_225 rfl (lv_at hl 4 rfl) ?_
                        refine lv_if_le (tgt := 234) hx hb dX3_readOld_226 (by decide) (fun c226_4 => ?_) (fun c226_4 => ?_)
                        · skip
                          refine lv_iload hx hb dX3_readOld_234 (lv_at hl 2 rfl) ?_
                          refine clI (wr := [(a1, .inl (k1, 200, .inl g1)), (a7, .inl (k7, 400, .inl g7)), (a8, .inl (k8, 400, .inl g8))]) (va_runV ⟨hx, hb, hml, hown, hts⟩ (KX3_bad l D g a1 a3 a5 a7 a8 a9 aB th (nI y1.length) ct oc wn tn si wg x5 _) (cwV 1 hts gX3_readOld_X3_bad rfl rfl rfl (by decide +kernel) ⟨Nat.le_of_ble_eq_true rfl, Nat.le_of_ble_eq_true rfl⟩) (pcM_V (hP.sub (ws' := [(g, .inr (4, [.int th, .ref a1, .int (nI y1.length), .ref a3, .int ct, .ref a5, .int oc, .ref a7, .ref a8, .ref a9, .int wn, .ref aB, .int tn, .int si, .int wg]))]) [0] rfl) (hD.sub (ws' := [(g, .inr (4, [.int th, .ref a1, .int (nI y1.length), .ref a3, .int ct, .ref a5, .int oc, .ref a7, .ref a8, .ref a9, .int wn, .ref aB, .int tn, .int si, .int wg]))]) [0] (by decide) rfl) (hK.sub (tys' := []) [] rfl) hN 0 rfl rfl) rfl rfl hl.1 rfl (lv_room (Nat.le_of_ble_eq_true rfl)) dX3_readOld_236 ⟨Nat.zero_le _, Nat.zero_le _⟩) hP hD hS hA [0] [1, 2, 3] rfl rfl (by decide) (by decide) (fun r_11 u_11 H locs hw_11 hP hD hS => ?_)
                          subst hw_11
                          have hP : va_P D vwCl [(g, .inr (4, [.int th, .ref a1, .int (nI y1.length), .ref a3, .int ct, .ref a5, .int oc, .ref a7, .ref a8, .ref a9, .int wn, .ref aB, .int tn, .int si, .int x5])), (a1, .inl (k1, 200, .inl g1)), (a7, .inl (k7, 400, .inl g7)), (a8, .inl (k8, 400, .inl g8))] H := hP.sub [3, 0, 1, 2] rfl
                          have hD : va_D A [(g, .inr (4, [.int th, .ref a1, .int (nI y1.length), .ref a3, .int ct, .ref a5, .int oc, .ref a7, .ref a8, .ref a9, .int wn, .ref aB, .int tn, .int si, .int x5])), (a1, .inl (k1, 200, .inl g1)), (a7, .inl (k7, 400, .inl g7)), (a8, .inl (k8, 400, .inl g8))] := hD.sub [3, 0, 1, 2] (by decide) rfl
                          rw [e3] at c226_4
                          have hw0 : wm.length = 0 := by rcases Nat.eq_zero_or_pos wm.length with q | q; exact q; exact absurd c226_4 (nI_nle q (by omega))
                          have e8 : (x5, fr) = T := by rw [← hT, e5]; simp only [roS]; rw [if_neg c34_1, if_neg c169_4, if_pos c184_4, if_neg hgt, if_pos hw0]
                          have hne : ¬ T.1 = -1 := by rw [← e8]; show ¬ x5 = -1; rw [e5]; exact nI_ne1 (by omega)
                          exact rtI hx hb hr hlocks dX3_readOld_239 (g7, g8, x5) ⟨fun q => absurd q hne, fun _ => ⟨rfl, by rw [← e8]⟩⟩ hP hD hS
                        · skip
                          refine lv_iload hx hb dX3_readOld_229 (lv_at hl 3 rfl) ?_
                          refine lv_goto (tgt := 236) hx hb dX3_readOld_231 (by decide) ?_
                          refine clI (wr := [(a1, .inl (k1, 200, .inl g1)), (a7, .inl (k7, 400, .inl g7)), (a8, .inl (k8, 400, .inl g8))]) (va_runV ⟨hx, hb, hml, hown, hts⟩ (KX3_bad l D g a1 a3 a5 a7 a8 a9 aB th (nI y1.length) ct oc wn tn si wg x4 _) (cwV 1 hts gX3_readOld_X3_bad rfl rfl rfl (by decide +kernel) ⟨Nat.le_of_ble_eq_true rfl, Nat.le_of_ble_eq_true rfl⟩) (pcM_V (hP.sub (ws' := [(g, .inr (4, [.int th, .ref a1, .int (nI y1.length), .ref a3, .int ct, .ref a5, .int oc, .ref a7, .ref a8, .ref a9, .int wn, .ref aB, .int tn, .int si, .int wg]))]) [0] rfl) (hD.sub (ws' := [(g, .inr (4, [.int th, .ref a1, .int (nI y1.length), .ref a3, .int ct, .ref a5, .int oc, .ref a7, .ref a8, .ref a9, .int wn, .ref aB, .int tn, .int si, .int wg]))]) [0] (by decide) rfl) (hK.sub (tys' := []) [] rfl) hN 0 rfl rfl) rfl rfl hl.1 rfl (lv_room (Nat.le_of_ble_eq_true rfl)) dX3_readOld_236 ⟨Nat.zero_le _, Nat.zero_le _⟩) hP hD hS hA [0] [1, 2, 3] rfl rfl (by decide) (by decide) (fun r_12 u_12 H locs hw_12 hP hD hS => ?_)
                          subst hw_12
                          have hP : va_P D vwCl [(g, .inr (4, [.int th, .ref a1, .int (nI y1.length), .ref a3, .int ct, .ref a5, .int oc, .ref a7, .ref a8, .ref a9, .int wn, .ref aB, .int tn, .int si, .int x4])), (a1, .inl (k1, 200, .inl g1)), (a7, .inl (k7, 400, .inl g7)), (a8, .inl (k8, 400, .inl g8))] H := hP.sub [3, 0, 1, 2] rfl
                          have hD : va_D A [(g, .inr (4, [.int th, .ref a1, .int (nI y1.length), .ref a3, .int ct, .ref a5, .int oc, .ref a7, .ref a8, .ref a9, .int wn, .ref aB, .int tn, .int si, .int x4])), (a1, .inl (k1, 200, .inl g1)), (a7, .inl (k7, 400, .inl g7)), (a8, .inl (k8, 400, .inl g8))] := hD.sub [3, 0, 1, 2] (by decide) rfl
                          rw [e3] at c226_4
                          have hw0 : ¬ wm.length = 0 := fun q => c226_4 (by rw [q]; decide)
                          obtain ⟨j9, hj9, ej9⟩ := hfm (fun q => hw0 (by rw [q]; rfl))
                          have e8 : (x4, fr) = T := by rw [← hT]; simp only [roS]; rw [if_neg c34_1, if_neg c169_4, if_pos c184_4, if_neg hgt, if_neg hw0]
                          have hne : ¬ T.1 = -1 := by rw [← e8]; show ¬ x4 = -1; rw [ej9]; exact nI_ne1 hj9
                          exact rtI hx hb hr hlocks dX3_readOld_239 (g7, g8, x4) ⟨fun q => absurd q hne, fun _ => ⟨rfl, by rw [← e8]⟩⟩ hP hD hS
                    · skip
                      refine lv_iload_n hx hb dX3_readOld_187 rfl (lv_at hl 4 rfl) ?_
                      refine lv_if_ne (tgt := 196) hx hb dX3_readOld_188 (by decide) (fun c188_4 => ?_) (fun c188_4 => ?_)
                      · skip
                        refine lv_iload hx hb dX3_readOld_196 (lv_at hl 3 rfl) ?_
                        refine lv_istore (lv' := [(4, .int x4), (7, .int (fX2_codeOfOldByte b x1)), (6, .int b), (5, .int x5), (3, .int x3), (2, .int x2), (1, .int x1), (0, .ref g)]) hx hb dX3_readOld_198 hl (by decide) rfl (fun ls hl => ?_)
                        refine lv_aload_n hx hb dX3_readOld_200 rfl (lv_at hl 7 rfl) ?_
                        refine va_get (D := D) (ci := 4) (v := .ref a8) (C := RX3) (T := TX3) (N := 15) hx hb hts (by decide +kernel) hown hK hP 0 rfl rfl 8 (by decide) (hts (.fieldLink RX3 22 "CharacterRowsModel" "second" "[I") (by decide +kernel)) (fun _ h9 => h9) rfl dX3_readOld_201 ?_
                        refine lv_iload_n hx hb dX3_readOld_204 rfl (lv_at hl 4 rfl) ?_
                        refine lv_iload hx hb dX3_readOld_205 (lv_at hl 1 rfl) ?_
                        refine va_iast hx hb hK hP hD hS 3 2 rfl rfl (rwf_sin p8 (by decide) e3 (by omega)) dX3_readOld_207 (fun H locs hP hD hS => ?_)
                        have hP : va_P D vwCl [(g, .inr (4, [.int th, .ref a1, .int (nI y1.length), .ref a3, .int ct, .ref a5, .int oc, .ref a7, .ref a8, .ref a9, .int wn, .ref aB, .int tn, .int si, .int wg])), (a1, .inl (k1, 200, .inl g1)), (a7, .inl (k7, 400, .inl g7)), (a8, .inl (k8, 400, .inl (upd g8 x3.toNatClampNeg (fX2_codeOfOldByte b x1))))] H := hP
                        have hD : va_D A [(g, .inr (4, [.int th, .ref a1, .int (nI y1.length), .ref a3, .int ct, .ref a5, .int oc, .ref a7, .ref a8, .ref a9, .int wn, .ref aB, .int tn, .int si, .int wg])), (a1, .inl (k1, 200, .inl g1)), (a7, .inl (k7, 400, .inl g7)), (a8, .inl (k8, 400, .inl (upd g8 x3.toNatClampNeg (fX2_codeOfOldByte b x1))))] := hD
                        refine lv_iinc (v := (x3 + 1)) (lv' := [(3, .int (x3 + 1)), (4, .int x4), (7, .int (fX2_codeOfOldByte b x1)), (6, .int b), (5, .int x5), (2, .int x2), (1, .int x1), (0, .ref g)]) hx hb dX3_readOld_208 hl (k := 4) rfl rfl (by decide) rfl (fun ls hl => ?_)
                        refine lv_goto (tgt := 284) hx hb dX3_readOld_211 (by decide) ?_
                        refine lv_iinc (v := (x5 + 1)) (lv' := [(5, .int (x5 + 1)), (3, .int (x3 + 1)), (4, .int x4), (7, .int (fX2_codeOfOldByte b x1)), (6, .int b), (2, .int x2), (1, .int x1), (0, .ref g)]) hx hb dX3_readOld_284 hl (k := 4) rfl rfl (by decide) rfl (fun ls hl => ?_)
                        refine lv_goto (tgt := 12) hx hb dX3_readOld_287 (by decide) ?_
                        have q8 := rwf_snoc (c := fX2_codeOfOldByte b x1) p8 (by decide) e3 (by omega)
                        have q88 := nI_0iff (n := wm.length) (by omega)
                        rw [e3] at c188_4
                        exact ih t (done ++ [b]) _ fr g7 (upd g8 x3.toNatClampNeg (fX2_codeOfOldByte b x1)) _ _ _ _ _ H locs ls (by simp at hn ⊢; omega) (by rw [hy]; simp) (by rw [← hT]; simp [roS, c34_1, c169_4, c184_4, ← q88, c188_4, e5]) (by rw [e5, List.length_append]; exact nI_1 _) (by rw [e3, nI_1]; simp) e2 hs9 p7 q8 (by simp <;> omega) hfr (fun _ => hfm (by intro q; rw [q] at c188_4; exact c188_4 rfl)) hP hD hS (lv_sub hl [0, 2, 1, 5, 6, 7] rfl)
                      · skip
                        refine lv_iload hx hb dX3_readOld_191 (lv_at hl 2 rfl) ?_
                        refine lv_goto (tgt := 198) hx hb dX3_readOld_193 (by decide) ?_
                        refine lv_istore (lv' := [(4, .int x5), (7, .int (fX2_codeOfOldByte b x1)), (6, .int b), (5, .int x5), (3, .int x3), (2, .int x2), (1, .int x1), (0, .ref g)]) hx hb dX3_readOld_198 hl (by decide) rfl (fun ls hl => ?_)
                        refine lv_aload_n hx hb dX3_readOld_200 rfl (lv_at hl 7 rfl) ?_
                        refine va_get (D := D) (ci := 4) (v := .ref a8) (C := RX3) (T := TX3) (N := 15) hx hb hts (by decide +kernel) hown hK hP 0 rfl rfl 8 (by decide) (hts (.fieldLink RX3 22 "CharacterRowsModel" "second" "[I") (by decide +kernel)) (fun _ h9 => h9) rfl dX3_readOld_201 ?_
                        refine lv_iload_n hx hb dX3_readOld_204 rfl (lv_at hl 4 rfl) ?_
                        refine lv_iload hx hb dX3_readOld_205 (lv_at hl 1 rfl) ?_
                        refine va_iast hx hb hK hP hD hS 3 2 rfl rfl (rwf_sin p8 (by decide) e3 (by omega)) dX3_readOld_207 (fun H locs hP hD hS => ?_)
                        have hP : va_P D vwCl [(g, .inr (4, [.int th, .ref a1, .int (nI y1.length), .ref a3, .int ct, .ref a5, .int oc, .ref a7, .ref a8, .ref a9, .int wn, .ref aB, .int tn, .int si, .int wg])), (a1, .inl (k1, 200, .inl g1)), (a7, .inl (k7, 400, .inl g7)), (a8, .inl (k8, 400, .inl (upd g8 x3.toNatClampNeg (fX2_codeOfOldByte b x1))))] H := hP
                        have hD : va_D A [(g, .inr (4, [.int th, .ref a1, .int (nI y1.length), .ref a3, .int ct, .ref a5, .int oc, .ref a7, .ref a8, .ref a9, .int wn, .ref aB, .int tn, .int si, .int wg])), (a1, .inl (k1, 200, .inl g1)), (a7, .inl (k7, 400, .inl g7)), (a8, .inl (k8, 400, .inl (upd g8 x3.toNatClampNeg (fX2_codeOfOldByte b x1))))] := hD
                        refine lv_iinc (v := (x3 + 1)) (lv' := [(3, .int (x3 + 1)), (4, .int x5), (7, .int (fX2_codeOfOldByte b x1)), (6, .int b), (5, .int x5), (2, .int x2), (1, .int x1), (0, .ref g)]) hx hb dX3_readOld_208 hl (k := 4) rfl rfl (by decide) rfl (fun ls hl => ?_)
                        refine lv_goto (tgt := 284) hx hb dX3_readOld_211 (by decide) ?_
                        refine lv_iinc (v := (x5 + 1)) (lv' := [(5, .int (x5 + 1)), (3, .int (x3 + 1)), (4, .int x5), (7, .int (fX2_codeOfOldByte b x1)), (6, .int b), (2, .int x2), (1, .int x1), (0, .ref g)]) hx hb dX3_readOld_284 hl (k := 4) rfl rfl (by decide) rfl (fun ls hl => ?_)
                        refine lv_goto (tgt := 12) hx hb dX3_readOld_287 (by decide) ?_
                        have q8 := rwf_snoc (c := fX2_codeOfOldByte b x1) p8 (by decide) e3 (by omega)
                        have q88 := nI_0iff (n := wm.length) (by omega)
                        rw [e3] at c188_4
                        exact ih t (done ++ [b]) _ fr g7 (upd g8 x3.toNatClampNeg (fX2_codeOfOldByte b x1)) _ _ _ _ _ H locs ls (by simp at hn ⊢; omega) (by rw [hy]; simp) (by rw [← hT]; simp [roS, c34_1, c169_4, c184_4, ← q88, c188_4, e5]) (by rw [e5, List.length_append]; exact nI_1 _) (by rw [e3, nI_1]; simp) e2 hs9 p7 q8 (by simp <;> omega) hfr (fun _ => ⟨_, by omega, e5⟩) hP hD hS (lv_sub hl [0, 2, 1, 5, 6, 7] rfl)
                  · skip
                    refine lv_aload_n hx hb dX3_readOld_172 rfl (lv_at hl 7 rfl) ?_
                    refine lv_iload hx hb dX3_readOld_173 (lv_at hl 2 rfl) ?_
                    refine clI (wr := [(a1, .inl (k1, 200, .inl g1)), (a7, .inl (k7, 400, .inl g7)), (a8, .inl (k8, 400, .inl g8))]) (va_runV ⟨hx, hb, hml, hown, hts⟩ (KX3_bad l D g a1 a3 a5 a7 a8 a9 aB th (nI y1.length) ct oc wn tn si wg x5 _) (cwV 1 hts gX3_readOld_X3_bad rfl rfl rfl (by decide +kernel) ⟨Nat.le_of_ble_eq_true rfl, Nat.le_of_ble_eq_true rfl⟩) (pcM_V (hP.sub (ws' := [(g, .inr (4, [.int th, .ref a1, .int (nI y1.length), .ref a3, .int ct, .ref a5, .int oc, .ref a7, .ref a8, .ref a9, .int wn, .ref aB, .int tn, .int si, .int wg]))]) [0] rfl) (hD.sub (ws' := [(g, .inr (4, [.int th, .ref a1, .int (nI y1.length), .ref a3, .int ct, .ref a5, .int oc, .ref a7, .ref a8, .ref a9, .int wn, .ref aB, .int tn, .int si, .int wg]))]) [0] (by decide) rfl) (hK.sub (tys' := []) [] rfl) hN 0 rfl rfl) rfl rfl hl.1 rfl (lv_room (Nat.le_of_ble_eq_true rfl)) dX3_readOld_175 ⟨Nat.zero_le _, Nat.zero_le _⟩) hP hD hS hA [0] [1, 2, 3] rfl rfl (by decide) (by decide) (fun r_13 u_13 H locs hw_13 hP hD hS => ?_)
                    subst hw_13
                    have hP : va_P D vwCl [(g, .inr (4, [.int th, .ref a1, .int (nI y1.length), .ref a3, .int ct, .ref a5, .int oc, .ref a7, .ref a8, .ref a9, .int wn, .ref aB, .int tn, .int si, .int x5])), (a1, .inl (k1, 200, .inl g1)), (a7, .inl (k7, 400, .inl g7)), (a8, .inl (k8, 400, .inl g8))] H := hP.sub [3, 0, 1, 2] rfl
                    have hD : va_D A [(g, .inr (4, [.int th, .ref a1, .int (nI y1.length), .ref a3, .int ct, .ref a5, .int oc, .ref a7, .ref a8, .ref a9, .int wn, .ref aB, .int tn, .int si, .int x5])), (a1, .inl (k1, 200, .inl g1)), (a7, .inl (k7, 400, .inl g7)), (a8, .inl (k8, 400, .inl g8))] := hD.sub [3, 0, 1, 2] (by decide) rfl
                    have e8 : (x5, fr) = T := by rw [← hT, e5]; simp [roS, c34_1, c169_4]
                    have hne : ¬ T.1 = -1 := by rw [← e8]; show ¬ x5 = -1; rw [e5]; exact nI_ne1 (by omega)
                    exact rtI hx hb hr hlocks dX3_readOld_178 (g7, g8, x5) ⟨fun q => absurd q hne, fun _ => ⟨rfl, by rw [← e8]⟩⟩ hP hD hS
                · skip
                  refine lv_iload hx hb dX3_readOld_143 (lv_at hl 0 rfl) ?_
                  refine lv_sipush (v := 254) hx hb dX3_readOld_145 (by decide) ?_
                  refine lv_icmp_gt (tgt := 164) hx hb dX3_readOld_148 (by decide) (fun c148_2 => ?_) (fun c148_2 => ?_)
                  · skip
                    refine lv_iconst (v := 0) hx hb dX3_readOld_164 (by decide) ?_
                    refine lv_topi (fun r9 hr9 => ?_)
                    replace hr9 : r9 = fX2_codeOfOldByte b x1 := hr9.trans (by rw [← oc_eq hb9 hs9]; simp [ocS, c120_1, c127_1, c140_2, c148_2])
                    subst r9
                    refine lv_istore (lv' := [(7, .int (fX2_codeOfOldByte b x1)), (6, .int b), (5, .int x5), (4, .int x4), (3, .int x3), (2, .int x2), (1, .int x1), (0, .ref g)]) hx hb dX3_readOld_165 hl (by decide) rfl (fun ls hl => ?_)
                    refine lv_iload hx hb dX3_readOld_167 (lv_at hl 0 rfl) ?_
                    refine lv_if_ne (tgt := 179) hx hb dX3_readOld_169 (by decide) (fun c169_5 => ?_) (fun c169_5 => ?_)
                    · skip
                      refine lv_iload hx hb dX3_readOld_179 (lv_at hl 0 rfl) ?_
                      refine vp_callSi (W.runS ⟨hx, hb, hml, hown, hts⟩ (KX3_isMark l (fX2_codeOfOldByte b x1)) (va_cwS 1 hts gX3_readOld_X3_isMark rfl rfl rfl (by decide +kernel) ⟨Nat.le_of_ble_eq_true rfl, Nat.le_of_ble_eq_true rfl⟩) pcS_S rfl rfl hl.1 rfl (lv_room (Nat.le_of_ble_eq_true rfl)) dX3_readOld_181 ⟨Nat.zero_le _, Nat.zero_le _⟩) (fun r9 hr9 => ?_)
                      replace hr9 : r9 = fX2_isMark (fX2_codeOfOldByte b x1) := hr9.trans (x3_isMark _)
                      subst r9
                      refine lv_if_eq (tgt := 214) hx hb dX3_readOld_184 (by decide) (fun c184_5 => ?_) (fun c184_5 => ?_)
                      · skip
                        have q221 : x2 + 1 + x3 = nI (fr.length + 1 + wm.length) := by rw [e2, e3, nI_1, nI_add]
                        refine lv_iload_n hx hb dX3_readOld_214 rfl (lv_at hl 5 rfl) ?_
                        refine lv_iconst (v := 1) hx hb dX3_readOld_215 (by decide) ?_
                        refine lv_iadd hx hb dX3_readOld_216 ?_
                        refine lv_iload_n hx hb dX3_readOld_217 rfl (lv_at hl 4 rfl) ?_
                        refine lv_iadd hx hb dX3_readOld_218 ?_
                        refine lv_bipush (v := 100) hx hb dX3_readOld_219 (by decide) ?_
                        refine lv_icmp_le (tgt := 240) hx hb dX3_readOld_221 (by decide) (fun c221_5 => ?_) (fun c221_5 => ?_)
                        · skip
                          rw [q221] at c221_5
                          have hle : fr.length + 1 + wm.length ≤ 100 := (nI_100 (by omega)).mp c221_5
                          refine lv_aload_n hx hb dX3_readOld_240 rfl (lv_at hl 7 rfl) ?_
                          refine va_get (D := D) (ci := 4) (v := .ref a7) (C := RX3) (T := TX3) (N := 15) hx hb hts (by decide +kernel) hown hK hP 0 rfl rfl 7 (by decide) (hts (.fieldLink RX3 19 "CharacterRowsModel" "work" "[I") (by decide +kernel)) (fun _ h9 => h9) rfl dX3_readOld_241 ?_
                          refine lv_iload_n hx hb dX3_readOld_244 rfl (lv_at hl 5 rfl) ?_
                          refine lv_iload hx hb dX3_readOld_245 (lv_at hl 0 rfl) ?_
                          refine va_iast hx hb hK hP hD hS 2 1 rfl rfl (rwf_sin p7 (by decide) e2 (by omega)) dX3_readOld_247 (fun H locs hP hD hS => ?_)
                          have hP : va_P D vwCl [(g, .inr (4, [.int th, .ref a1, .int (nI y1.length), .ref a3, .int ct, .ref a5, .int oc, .ref a7, .ref a8, .ref a9, .int wn, .ref aB, .int tn, .int si, .int wg])), (a1, .inl (k1, 200, .inl g1)), (a7, .inl (k7, 400, .inl (upd g7 x2.toNatClampNeg (fX2_codeOfOldByte b x1)))), (a8, .inl (k8, 400, .inl g8))] H := hP
                          have hD : va_D A [(g, .inr (4, [.int th, .ref a1, .int (nI y1.length), .ref a3, .int ct, .ref a5, .int oc, .ref a7, .ref a8, .ref a9, .int wn, .ref aB, .int tn, .int si, .int wg])), (a1, .inl (k1, 200, .inl g1)), (a7, .inl (k7, 400, .inl (upd g7 x2.toNatClampNeg (fX2_codeOfOldByte b x1)))), (a8, .inl (k8, 400, .inl g8))] := hD
                          refine lv_iinc (v := (x2 + 1)) (lv' := [(2, .int (x2 + 1)), (7, .int (fX2_codeOfOldByte b x1)), (6, .int b), (5, .int x5), (4, .int x4), (3, .int x3), (1, .int x1), (0, .ref g)]) hx hb dX3_readOld_248 hl (k := 5) rfl rfl (by decide) rfl (fun ls hl => ?_)
                          refine lv_iconst (v := 0) hx hb dX3_readOld_251 (by decide) ?_
                          refine lv_istore (lv' := [(8, .int 0), (2, .int (x2 + 1)), (7, .int (fX2_codeOfOldByte b x1)), (6, .int b), (5, .int x5), (4, .int x4), (3, .int x3), (1, .int x1), (0, .ref g)]) hx hb dX3_readOld_252 hl (by decide) rfl (fun ls hl => ?_)
                          have q7 := rwf_snoc (c := fX2_codeOfOldByte b x1) p7 (by decide) e2 (by omega)
                          have loop2 : ∀ (ms : List Int32) (md : List Int32) (f7 : Nat → Int32) (x2b x8 : Int32) (H : Heap) (locs : List Loc) (ls : Array Slot), (wm = md ++ ms) → (x8 = nI md.length) → (x2b = nI (fr ++ fX2_codeOfOldByte b x1 :: md).length) → (rw_ok f7 400 (fr ++ fX2_codeOfOldByte b x1 :: md)) → va_P D vwCl [(g, .inr (4, [.int th, .ref a1, .int (nI y1.length), .ref a3, .int ct, .ref a5, .int oc, .ref a7, .ref a8, .ref a9, .int wn, .ref aB, .int tn, .int si, .int wg])), (a1, .inl (k1, 200, .inl g1)), (a7, .inl (k7, 400, .inl f7)), (a8, .inl (k8, 400, .inl g8))] H → va_D A [(g, .inr (4, [.int th, .ref a1, .int (nI y1.length), .ref a3, .int ct, .ref a5, .int oc, .ref a7, .ref a8, .ref a9, .int wn, .ref aB, .int tn, .int si, .int wg])), (a1, .inl (k1, 200, .inl g1)), (a7, .inl (k7, 400, .inl f7)), (a8, .inl (k8, 400, .inl g8))] → va_S A s.heap H locs → lv_has ls 9 [(8, .int x8), (2, .int x2b), (7, .int (fX2_codeOfOldByte b x1)), (6, .int b), (5, .int x5), (4, .int x4), (3, .int x3), (1, .int x1), (0, .ref g)] → W p l e ({ frames := 1, cells := 0, slots := 0, locals := 21 }) s m ([.ref g] : List Value).toArray below meth c H locs 0 0 (MQ below (qcI (S := (Nat → Int32) × (Nat → Int32) × Int32) D (fun r u => (T.1 = -1 → r = nI T.2.length ∧ rw_ok u.1 400 T.2) ∧ (¬ T.1 = -1 → r = -1 ∧ u.2.2 = T.1)) (fun u => [(g, .inr (4, [.int th, .ref a1, .int (nI y1.length), .ref a3, .int ct, .ref a5, .int oc, .ref a7, .ref a8, .ref a9, .int wn, .ref aB, .int tn, .int si, .int u.2.2])), (a1, .inl (k1, 200, .inl g1)), (a7, .inl (k7, 400, .inl u.1)), (a8, .inl (k8, 400, .inl u.2.1))]) A) ([.ref g] : List Value).toArray s 0 0 A) (F0 m 254 ls [])  := by
                            intro ms
                            induction ms with
                            | nil =>
                              intro md f7 x2b x8 H locs ls hmd e8 e2b p7b hP hD hS hl
                              have hmdl : wm.length = md.length := by rw [hmd]; simp
                              refine lv_iload hx hb dX3_readOld_254 (lv_at hl 0 rfl) ?_
                              refine lv_iload_n hx hb dX3_readOld_256 rfl (lv_at hl 6 rfl) ?_
                              refine lv_icmp_ge (tgt := 282) hx hb dX3_readOld_257 (by decide) (fun c257_9 => ?_) (fun c257_9 => ?_)
                              · skip
                                refine lv_iconst (v := 0) hx hb dX3_readOld_282 (by decide) ?_
                                refine lv_istore_n (lv' := [(3, .int 0), (8, .int x8), (2, .int x2b), (7, .int (fX2_codeOfOldByte b x1)), (6, .int b), (5, .int x5), (4, .int x4), (1, .int x1), (0, .ref g)]) hx hb dX3_readOld_283 rfl hl (by decide) rfl (fun ls hl => ?_)
                                refine lv_iinc (v := (x5 + 1)) (lv' := [(5, .int (x5 + 1)), (3, .int 0), (8, .int x8), (2, .int x2b), (7, .int (fX2_codeOfOldByte b x1)), (6, .int b), (4, .int x4), (1, .int x1), (0, .ref g)]) hx hb dX3_readOld_284 hl (k := 5) rfl rfl (by decide) rfl (fun ls hl => ?_)
                                refine lv_goto (tgt := 12) hx hb dX3_readOld_287 (by decide) ?_
                                obtain rfl : wm = md := by rw [hmd]; simp
                                exact ih t (done ++ [b]) [] (fr ++ fX2_codeOfOldByte b x1 :: wm) f7 g8 _ _ _ _ _ H locs ls (by simp at hn ⊢; omega) (by rw [hy]; simp) (by rw [← hT]; simp [roS, c34_1, c169_5, c184_5, hle]) (by rw [e5, List.length_append]; exact nI_1 _) rfl e2b hs9 p7b rw_nil (by simp) (by simp <;> omega) (fun q => absurd rfl q) hP hD hS (lv_sub hl [0, 6, 1, 3, 7, 8] rfl)
                              · skip
                                exact absurd (by rw [e3, e8, hmdl]; exact Int32.le_refl _) c257_9
                            | cons d ms ih2 =>
                              intro md f7 x2b x8 H locs ls hmd e8 e2b p7b hP hD hS hl
                              have hmdl : wm.length = md.length + (ms.length + 1) := by rw [hmd]; simp
                              refine lv_iload hx hb dX3_readOld_254 (lv_at hl 0 rfl) ?_
                              refine lv_iload_n hx hb dX3_readOld_256 rfl (lv_at hl 6 rfl) ?_
                              refine lv_icmp_ge (tgt := 282) hx hb dX3_readOld_257 (by decide) (fun c257_10 => ?_) (fun c257_10 => ?_)
                              · skip
                                exact absurd c257_10 (by rw [e3, e8, hmdl]; exact nI_ge (by omega) (by omega))
                              · skip
                                refine lv_aload_n hx hb dX3_readOld_260 rfl (lv_at hl 8 rfl) ?_
                                refine va_get (D := D) (ci := 4) (v := .ref a7) (C := RX3) (T := TX3) (N := 15) hx hb hts (by decide +kernel) hown hK hP 0 rfl rfl 7 (by decide) (hts (.fieldLink RX3 19 "CharacterRowsModel" "work" "[I") (by decide +kernel)) (fun _ h9 => h9) rfl dX3_readOld_261 ?_
                                refine lv_iload_n hx hb dX3_readOld_264 rfl (lv_at hl 1 rfl) ?_
                                refine lv_aload_n hx hb dX3_readOld_265 rfl (lv_at hl 8 rfl) ?_
                                refine va_get (D := D) (ci := 4) (v := .ref a8) (C := RX3) (T := TX3) (N := 15) hx hb hts (by decide +kernel) hown hK hP 0 rfl rfl 8 (by decide) (hts (.fieldLink RX3 22 "CharacterRowsModel" "second" "[I") (by decide +kernel)) (fun _ h9 => h9) rfl dX3_readOld_266 ?_
                                refine lv_iload hx hb dX3_readOld_269 (lv_at hl 0 rfl) ?_
                                refine va_iald hx hb hK hP 3 2 rfl rfl (rwf_in (j := 0) p8 (by decide) hmd e8 rfl (by simp)) dX3_readOld_271 ?_
                                refine lv_topi (fun r9 hr9 => ?_)
                                replace hr9 : r9 = d := hr9.trans (rwf_v (j := 0) p8 (by decide) hmd e8 rfl (by simp))
                                subst r9
                                refine va_iast hx hb hK hP hD hS 2 1 rfl rfl (rwf_sin p7b (by decide) e2b (by simp; omega)) dX3_readOld_272 (fun H locs hP hD hS => ?_)
                                have hP : va_P D vwCl [(g, .inr (4, [.int th, .ref a1, .int (nI y1.length), .ref a3, .int ct, .ref a5, .int oc, .ref a7, .ref a8, .ref a9, .int wn, .ref aB, .int tn, .int si, .int wg])), (a1, .inl (k1, 200, .inl g1)), (a7, .inl (k7, 400, .inl (upd f7 x2b.toNatClampNeg d))), (a8, .inl (k8, 400, .inl g8))] H := hP
                                have hD : va_D A [(g, .inr (4, [.int th, .ref a1, .int (nI y1.length), .ref a3, .int ct, .ref a5, .int oc, .ref a7, .ref a8, .ref a9, .int wn, .ref aB, .int tn, .int si, .int wg])), (a1, .inl (k1, 200, .inl g1)), (a7, .inl (k7, 400, .inl (upd f7 x2b.toNatClampNeg d))), (a8, .inl (k8, 400, .inl g8))] := hD
                                refine lv_iinc (v := (x2b + 1)) (lv' := [(2, .int (x2b + 1)), (8, .int x8), (7, .int (fX2_codeOfOldByte b x1)), (6, .int b), (5, .int x5), (4, .int x4), (3, .int x3), (1, .int x1), (0, .ref g)]) hx hb dX3_readOld_273 hl (k := 1) rfl rfl (by decide) rfl (fun ls hl => ?_)
                                refine lv_iinc (v := (x8 + 1)) (lv' := [(8, .int (x8 + 1)), (2, .int (x2b + 1)), (7, .int (fX2_codeOfOldByte b x1)), (6, .int b), (5, .int x5), (4, .int x4), (3, .int x3), (1, .int x1), (0, .ref g)]) hx hb dX3_readOld_276 hl (k := 1) rfl rfl (by decide) rfl (fun ls hl => ?_)
                                refine lv_goto (tgt := 254) hx hb dX3_readOld_279 (by decide) ?_
                                have q9 := rwf_snoc (c := d) p7b (by decide) e2b (by simp; omega)
                                exact ih2 (md ++ [d]) (upd f7 x2b.toNatClampNeg d) _ _ H locs ls (by rw [hmd]; simp) (by rw [e8, List.length_append]; exact nI_1 _) (by rw [e2b, nI_1]; congr 1; simp <;> omega) (by have e7 : fr ++ fX2_codeOfOldByte b x1 :: md ++ [d] = fr ++ fX2_codeOfOldByte b x1 :: (md ++ [d]) := (by simp); rw [e7] at q9; exact q9) hP hD hS (lv_sub hl [0, 1, 2, 3, 4, 5, 6, 7, 8] rfl)
                          exact loop2 wm [] (upd g7 x2.toNatClampNeg (fX2_codeOfOldByte b x1)) _ _ H locs ls rfl rfl (by rw [e2, nI_1]; simp) q7 hP hD hS (lv_sub hl [0, 1, 2, 3, 4, 5, 6, 7, 8] rfl)
                        · skip
                          rw [q221] at c221_5
                          have hgt : ¬ fr.length + 1 + wm.length ≤ 100 := fun q => c221_5 ((nI_100 (by omega)).mpr q)
                          refine lv_aload_n hx hb dX3_readOld_224 rfl (lv_at hl 7 rfl) ?_
                          refine lv_iload_n hx hb dX3_readOld_225 rfl (lv_at hl 4 rfl) ?_
                          refine lv_if_le (tgt := 234) hx hb dX3_readOld_226 (by decide) (fun c226_5 => ?_) (fun c226_5 => ?_)
                          · skip
                            refine lv_iload hx hb dX3_readOld_234 (lv_at hl 2 rfl) ?_
                            refine clI (wr := [(a1, .inl (k1, 200, .inl g1)), (a7, .inl (k7, 400, .inl g7)), (a8, .inl (k8, 400, .inl g8))]) (va_runV ⟨hx, hb, hml, hown, hts⟩ (KX3_bad l D g a1 a3 a5 a7 a8 a9 aB th (nI y1.length) ct oc wn tn si wg x5 _) (cwV 1 hts gX3_readOld_X3_bad rfl rfl rfl (by decide +kernel) ⟨Nat.le_of_ble_eq_true rfl, Nat.le_of_ble_eq_true rfl⟩) (pcM_V (hP.sub (ws' := [(g, .inr (4, [.int th, .ref a1, .int (nI y1.length), .ref a3, .int ct, .ref a5, .int oc, .ref a7, .ref a8, .ref a9, .int wn, .ref aB, .int tn, .int si, .int wg]))]) [0] rfl) (hD.sub (ws' := [(g, .inr (4, [.int th, .ref a1, .int (nI y1.length), .ref a3, .int ct, .ref a5, .int oc, .ref a7, .ref a8, .ref a9, .int wn, .ref aB, .int tn, .int si, .int wg]))]) [0] (by decide) rfl) (hK.sub (tys' := []) [] rfl) hN 0 rfl rfl) rfl rfl hl.1 rfl (lv_room (Nat.le_of_ble_eq_true rfl)) dX3_readOld_236 ⟨Nat.zero_le _, Nat.zero_le _⟩) hP hD hS hA [0] [1, 2, 3] rfl rfl (by decide) (by decide) (fun r_14 u_14 H locs hw_14 hP hD hS => ?_)
                            subst hw_14
                            have hP : va_P D vwCl [(g, .inr (4, [.int th, .ref a1, .int (nI y1.length), .ref a3, .int ct, .ref a5, .int oc, .ref a7, .ref a8, .ref a9, .int wn, .ref aB, .int tn, .int si, .int x5])), (a1, .inl (k1, 200, .inl g1)), (a7, .inl (k7, 400, .inl g7)), (a8, .inl (k8, 400, .inl g8))] H := hP.sub [3, 0, 1, 2] rfl
                            have hD : va_D A [(g, .inr (4, [.int th, .ref a1, .int (nI y1.length), .ref a3, .int ct, .ref a5, .int oc, .ref a7, .ref a8, .ref a9, .int wn, .ref aB, .int tn, .int si, .int x5])), (a1, .inl (k1, 200, .inl g1)), (a7, .inl (k7, 400, .inl g7)), (a8, .inl (k8, 400, .inl g8))] := hD.sub [3, 0, 1, 2] (by decide) rfl
                            rw [e3] at c226_5
                            have hw0 : wm.length = 0 := by rcases Nat.eq_zero_or_pos wm.length with q | q; exact q; exact absurd c226_5 (nI_nle q (by omega))
                            have e8 : (x5, fr) = T := by rw [← hT, e5]; simp only [roS]; rw [if_neg c34_1, if_neg c169_5, if_pos c184_5, if_neg hgt, if_pos hw0]
                            have hne : ¬ T.1 = -1 := by rw [← e8]; show ¬ x5 = -1; rw [e5]; exact nI_ne1 (by omega)
                            exact rtI hx hb hr hlocks dX3_readOld_239 (g7, g8, x5) ⟨fun q => absurd q hne, fun _ => ⟨rfl, by rw [← e8]⟩⟩ hP hD hS
                          · skip
                            refine lv_iload hx hb dX3_readOld_229 (lv_at hl 3 rfl) ?_
                            refine lv_goto (tgt := 236) hx hb dX3_readOld_231 (by decide) ?_
                            refine clI (wr := [(a1, .inl (k1, 200, .inl g1)), (a7, .inl (k7, 400, .inl g7)), (a8, .inl (k8, 400, .inl g8))]) (va_runV ⟨hx, hb, hml, hown, hts⟩ (KX3_bad l D g a1 a3 a5 a7 a8 a9 aB th (nI y1.length) ct oc wn tn si wg x4 _) (cwV 1 hts gX3_readOld_X3_bad rfl rfl rfl (by decide +kernel) ⟨Nat.le_of_ble_eq_true rfl, Nat.le_of_ble_eq_true rfl⟩) (pcM_V (hP.sub (ws' := [(g, .inr (4, [.int th, .ref a1, .int (nI y1.length), .ref a3, .int ct, .ref a5, .int oc, .ref a7, .ref a8, .ref a9, .int wn, .ref aB, .int tn, .int si, .int wg]))]) [0] rfl) (hD.sub (ws' := [(g, .inr (4, [.int th, .ref a1, .int (nI y1.length), .ref a3, .int ct, .ref a5, .int oc, .ref a7, .ref a8, .ref a9, .int wn, .ref aB, .int tn, .int si, .int wg]))]) [0] (by decide) rfl) (hK.sub (tys' := []) [] rfl) hN 0 rfl rfl) rfl rfl hl.1 rfl (lv_room (Nat.le_of_ble_eq_true rfl)) dX3_readOld_236 ⟨Nat.zero_le _, Nat.zero_le _⟩) hP hD hS hA [0] [1, 2, 3] rfl rfl (by decide) (by decide) (fun r_15 u_15 H locs hw_15 hP hD hS => ?_)
                            subst hw_15
                            have hP : va_P D vwCl [(g, .inr (4, [.int th, .ref a1, .int (nI y1.length), .ref a3, .int ct, .ref a5, .int oc, .ref a7, .ref a8, .ref a9, .int wn, .ref aB, .int tn, .int si, .int x4])), (a1, .inl (k1, 200, .inl g1)), (a7, .inl (k7, 400, .inl g7)), (a8, .inl (k8, 400, .inl g8))] H := hP.sub [3, 0, 1, 2] rfl
                            have hD : va_D A [(g, .inr (4, [.int th, .ref a1, .int (nI y1.length), .ref a3, .int ct, .ref a5, .int oc, .ref a7, .ref a8, .ref a9, .int wn, .ref aB, .int tn, .int si, .int x4])), (a1, .inl (k1, 200, .inl g1)), (a7, .inl (k7, 400, .inl g7)), (a8, .inl (k8, 400, .inl g8))] := hD.sub [3, 0, 1, 2] (by decide) rfl
                            rw [e3] at c226_5
                            have hw0 : ¬ wm.length = 0 := fun q => c226_5 (by rw [q]; decide)
                            obtain ⟨j9, hj9, ej9⟩ := hfm (fun q => hw0 (by rw [q]; rfl))
                            have e8 : (x4, fr) = T := by rw [← hT]; simp only [roS]; rw [if_neg c34_1, if_neg c169_5, if_pos c184_5, if_neg hgt, if_neg hw0]
                            have hne : ¬ T.1 = -1 := by rw [← e8]; show ¬ x4 = -1; rw [ej9]; exact nI_ne1 hj9
                            exact rtI hx hb hr hlocks dX3_readOld_239 (g7, g8, x4) ⟨fun q => absurd q hne, fun _ => ⟨rfl, by rw [← e8]⟩⟩ hP hD hS
                      · skip
                        refine lv_iload_n hx hb dX3_readOld_187 rfl (lv_at hl 4 rfl) ?_
                        refine lv_if_ne (tgt := 196) hx hb dX3_readOld_188 (by decide) (fun c188_5 => ?_) (fun c188_5 => ?_)
                        · skip
                          refine lv_iload hx hb dX3_readOld_196 (lv_at hl 3 rfl) ?_
                          refine lv_istore (lv' := [(4, .int x4), (7, .int (fX2_codeOfOldByte b x1)), (6, .int b), (5, .int x5), (3, .int x3), (2, .int x2), (1, .int x1), (0, .ref g)]) hx hb dX3_readOld_198 hl (by decide) rfl (fun ls hl => ?_)
                          refine lv_aload_n hx hb dX3_readOld_200 rfl (lv_at hl 7 rfl) ?_
                          refine va_get (D := D) (ci := 4) (v := .ref a8) (C := RX3) (T := TX3) (N := 15) hx hb hts (by decide +kernel) hown hK hP 0 rfl rfl 8 (by decide) (hts (.fieldLink RX3 22 "CharacterRowsModel" "second" "[I") (by decide +kernel)) (fun _ h9 => h9) rfl dX3_readOld_201 ?_
                          refine lv_iload_n hx hb dX3_readOld_204 rfl (lv_at hl 4 rfl) ?_
                          refine lv_iload hx hb dX3_readOld_205 (lv_at hl 1 rfl) ?_
                          refine va_iast hx hb hK hP hD hS 3 2 rfl rfl (rwf_sin p8 (by decide) e3 (by omega)) dX3_readOld_207 (fun H locs hP hD hS => ?_)
                          have hP : va_P D vwCl [(g, .inr (4, [.int th, .ref a1, .int (nI y1.length), .ref a3, .int ct, .ref a5, .int oc, .ref a7, .ref a8, .ref a9, .int wn, .ref aB, .int tn, .int si, .int wg])), (a1, .inl (k1, 200, .inl g1)), (a7, .inl (k7, 400, .inl g7)), (a8, .inl (k8, 400, .inl (upd g8 x3.toNatClampNeg (fX2_codeOfOldByte b x1))))] H := hP
                          have hD : va_D A [(g, .inr (4, [.int th, .ref a1, .int (nI y1.length), .ref a3, .int ct, .ref a5, .int oc, .ref a7, .ref a8, .ref a9, .int wn, .ref aB, .int tn, .int si, .int wg])), (a1, .inl (k1, 200, .inl g1)), (a7, .inl (k7, 400, .inl g7)), (a8, .inl (k8, 400, .inl (upd g8 x3.toNatClampNeg (fX2_codeOfOldByte b x1))))] := hD
                          refine lv_iinc (v := (x3 + 1)) (lv' := [(3, .int (x3 + 1)), (4, .int x4), (7, .int (fX2_codeOfOldByte b x1)), (6, .int b), (5, .int x5), (2, .int x2), (1, .int x1), (0, .ref g)]) hx hb dX3_readOld_208 hl (k := 4) rfl rfl (by decide) rfl (fun ls hl => ?_)
                          refine lv_goto (tgt := 284) hx hb dX3_readOld_211 (by decide) ?_
                          refine lv_iinc (v := (x5 + 1)) (lv' := [(5, .int (x5 + 1)), (3, .int (x3 + 1)), (4, .int x4), (7, .int (fX2_codeOfOldByte b x1)), (6, .int b), (2, .int x2), (1, .int x1), (0, .ref g)]) hx hb dX3_readOld_284 hl (k := 4) rfl rfl (by decide) rfl (fun ls hl => ?_)
                          refine lv_goto (tgt := 12) hx hb dX3_readOld_287 (by decide) ?_
                          have q8 := rwf_snoc (c := fX2_codeOfOldByte b x1) p8 (by decide) e3 (by omega)
                          have q88 := nI_0iff (n := wm.length) (by omega)
                          rw [e3] at c188_5
                          exact ih t (done ++ [b]) _ fr g7 (upd g8 x3.toNatClampNeg (fX2_codeOfOldByte b x1)) _ _ _ _ _ H locs ls (by simp at hn ⊢; omega) (by rw [hy]; simp) (by rw [← hT]; simp [roS, c34_1, c169_5, c184_5, ← q88, c188_5, e5]) (by rw [e5, List.length_append]; exact nI_1 _) (by rw [e3, nI_1]; simp) e2 hs9 p7 q8 (by simp <;> omega) hfr (fun _ => hfm (by intro q; rw [q] at c188_5; exact c188_5 rfl)) hP hD hS (lv_sub hl [0, 2, 1, 5, 6, 7] rfl)
                        · skip
                          refine lv_iload hx hb dX3_readOld_191 (lv_at hl 2 rfl) ?_
                          refine lv_goto (tgt := 198) hx hb dX3_readOld_193 (by decide) ?_
                          refine lv_istore (lv' := [(4, .int x5), (7, .int (fX2_codeOfOldByte b x1)), (6, .int b), (5, .int x5), (3, .int x3), (2, .int x2), (1, .int x1), (0, .ref g)]) hx hb dX3_readOld_198 hl (by decide) rfl (fun ls hl => ?_)
                          refine lv_aload_n hx hb dX3_readOld_200 rfl (lv_at hl 7 rfl) ?_
                          refine va_get (D := D) (ci := 4) (v := .ref a8) (C := RX3) (T := TX3) (N := 15) hx hb hts (by decide +kernel) hown hK hP 0 rfl rfl 8 (by decide) (hts (.fieldLink RX3 22 "CharacterRowsModel" "second" "[I") (by decide +kernel)) (fun _ h9 => h9) rfl dX3_readOld_201 ?_
                          refine lv_iload_n hx hb dX3_readOld_204 rfl (lv_at hl 4 rfl) ?_
                          refine lv_iload hx hb dX3_readOld_205 (lv_at hl 1 rfl) ?_
                          refine va_iast hx hb hK hP hD hS 3 2 rfl rfl (rwf_sin p8 (by decide) e3 (by omega)) dX3_readOld_207 (fun H locs hP hD hS => ?_)
                          have hP : va_P D vwCl [(g, .inr (4, [.int th, .ref a1, .int (nI y1.length), .ref a3, .int ct, .ref a5, .int oc, .ref a7, .ref a8, .ref a9, .int wn, .ref aB, .int tn, .int si, .int wg])), (a1, .inl (k1, 200, .inl g1)), (a7, .inl (k7, 400, .inl g7)), (a8, .inl (k8, 400, .inl (upd g8 x3.toNatClampNeg (fX2_codeOfOldByte b x1))))] H := hP
                          have hD : va_D A [(g, .inr (4, [.int th, .ref a1, .int (nI y1.length), .ref a3, .int ct, .ref a5, .int oc, .ref a7, .ref a8, .ref a9, .int wn, .ref aB, .int tn, .int si, .int wg])), (a1, .inl (k1, 200, .inl g1)), (a7, .inl (k7, 400, .inl g7)), (a8, .inl (k8, 400, .inl (upd g8 x3.toNatClampNeg (fX2_codeOfOldByte b x1))))] := hD
                          refine lv_iinc (v := (x3 + 1)) (lv' := [(3, .int (x3 + 1)), (4, .int x5), (7, .int (fX2_codeOfOldByte b x1)), (6, .int b), (5, .int x5), (2, .int x2), (1, .int x1), (0, .ref g)]) hx hb dX3_readOld_208 hl (k := 4) rfl rfl (by decide) rfl (fun ls hl => ?_)
                          refine lv_goto (tgt := 284) hx hb dX3_readOld_211 (by decide) ?_
                          refine lv_iinc (v := (x5 + 1)) (lv' := [(5, .int (x5 + 1)), (3, .int (x3 + 1)), (4, .int x5), (7, .int (fX2_codeOfOldByte b x1)), (6, .int b), (2, .int x2), (1, .int x1), (0, .ref g)]) hx hb dX3_readOld_284 hl (k := 4) rfl rfl (by decide) rfl (fun ls hl => ?_)
                          refine lv_goto (tgt := 12) hx hb dX3_readOld_287 (by decide) ?_
                          have q8 := rwf_snoc (c := fX2_codeOfOldByte b x1) p8 (by decide) e3 (by omega)
                          have q88 := nI_0iff (n := wm.length) (by omega)
                          rw [e3] at c188_5
                          exact ih t (done ++ [b]) _ fr g7 (upd g8 x3.toNatClampNeg (fX2_codeOfOldByte b x1)) _ _ _ _ _ H locs ls (by simp at hn ⊢; omega) (by rw [hy]; simp) (by rw [← hT]; simp [roS, c34_1, c169_5, c184_5, ← q88, c188_5, e5]) (by rw [e5, List.length_append]; exact nI_1 _) (by rw [e3, nI_1]; simp) e2 hs9 p7 q8 (by simp <;> omega) hfr (fun _ => ⟨_, by omega, e5⟩) hP hD hS (lv_sub hl [0, 2, 1, 5, 6, 7] rfl)
                    · skip
                      refine lv_aload_n hx hb dX3_readOld_172 rfl (lv_at hl 7 rfl) ?_
                      refine lv_iload hx hb dX3_readOld_173 (lv_at hl 2 rfl) ?_
                      refine clI (wr := [(a1, .inl (k1, 200, .inl g1)), (a7, .inl (k7, 400, .inl g7)), (a8, .inl (k8, 400, .inl g8))]) (va_runV ⟨hx, hb, hml, hown, hts⟩ (KX3_bad l D g a1 a3 a5 a7 a8 a9 aB th (nI y1.length) ct oc wn tn si wg x5 _) (cwV 1 hts gX3_readOld_X3_bad rfl rfl rfl (by decide +kernel) ⟨Nat.le_of_ble_eq_true rfl, Nat.le_of_ble_eq_true rfl⟩) (pcM_V (hP.sub (ws' := [(g, .inr (4, [.int th, .ref a1, .int (nI y1.length), .ref a3, .int ct, .ref a5, .int oc, .ref a7, .ref a8, .ref a9, .int wn, .ref aB, .int tn, .int si, .int wg]))]) [0] rfl) (hD.sub (ws' := [(g, .inr (4, [.int th, .ref a1, .int (nI y1.length), .ref a3, .int ct, .ref a5, .int oc, .ref a7, .ref a8, .ref a9, .int wn, .ref aB, .int tn, .int si, .int wg]))]) [0] (by decide) rfl) (hK.sub (tys' := []) [] rfl) hN 0 rfl rfl) rfl rfl hl.1 rfl (lv_room (Nat.le_of_ble_eq_true rfl)) dX3_readOld_175 ⟨Nat.zero_le _, Nat.zero_le _⟩) hP hD hS hA [0] [1, 2, 3] rfl rfl (by decide) (by decide) (fun r_16 u_16 H locs hw_16 hP hD hS => ?_)
                      subst hw_16
                      have hP : va_P D vwCl [(g, .inr (4, [.int th, .ref a1, .int (nI y1.length), .ref a3, .int ct, .ref a5, .int oc, .ref a7, .ref a8, .ref a9, .int wn, .ref aB, .int tn, .int si, .int x5])), (a1, .inl (k1, 200, .inl g1)), (a7, .inl (k7, 400, .inl g7)), (a8, .inl (k8, 400, .inl g8))] H := hP.sub [3, 0, 1, 2] rfl
                      have hD : va_D A [(g, .inr (4, [.int th, .ref a1, .int (nI y1.length), .ref a3, .int ct, .ref a5, .int oc, .ref a7, .ref a8, .ref a9, .int wn, .ref aB, .int tn, .int si, .int x5])), (a1, .inl (k1, 200, .inl g1)), (a7, .inl (k7, 400, .inl g7)), (a8, .inl (k8, 400, .inl g8))] := hD.sub [3, 0, 1, 2] (by decide) rfl
                      have e8 : (x5, fr) = T := by rw [← hT, e5]; simp [roS, c34_1, c169_5]
                      have hne : ¬ T.1 = -1 := by rw [← e8]; show ¬ x5 = -1; rw [e5]; exact nI_ne1 (by omega)
                      exact rtI hx hb hr hlocks dX3_readOld_178 (g7, g8, x5) ⟨fun q => absurd q hne, fun _ => ⟨rfl, by rw [← e8]⟩⟩ hP hD hS
                  · skip
                    refine lv_iload_n hx hb dX3_readOld_151 rfl (lv_at hl 5 rfl) ?_
                    refine lv_iload hx hb dX3_readOld_152 (lv_at hl 0 rfl) ?_
                    refine lv_sipush (v := 161) hx hb dX3_readOld_154 (by decide) ?_
                    refine lv_isub hx hb dX3_readOld_157 ?_
                    refine vp_callSi (W.runS ⟨hx, hb, hml, hown, hts⟩ (KX3_placed l x1 (b - 161)) (va_cwS 2 hts gX3_readOld_X3_placed rfl rfl rfl (by decide +kernel) ⟨Nat.le_of_ble_eq_true rfl, Nat.le_of_ble_eq_true rfl⟩) pcS_S rfl rfl hl.1 rfl (lv_room (Nat.le_of_ble_eq_true rfl)) dX3_readOld_158 ⟨Nat.zero_le _, Nat.zero_le _⟩) (fun r9 hr9 => ?_)
                    subst r9
                    refine lv_goto (tgt := 165) hx hb dX3_readOld_161 (by decide) ?_
                    refine lv_topi (fun r9 hr9 => ?_)
                    replace hr9 : r9 = fX2_codeOfOldByte b x1 := hr9.trans (by rw [← oc_eq hb9 hs9]; simp [ocS, c120_1, c127_1, c140_2, c148_2])
                    subst r9
                    refine lv_istore (lv' := [(7, .int (fX2_codeOfOldByte b x1)), (6, .int b), (5, .int x5), (4, .int x4), (3, .int x3), (2, .int x2), (1, .int x1), (0, .ref g)]) hx hb dX3_readOld_165 hl (by decide) rfl (fun ls hl => ?_)
                    refine lv_iload hx hb dX3_readOld_167 (lv_at hl 0 rfl) ?_
                    refine lv_if_ne (tgt := 179) hx hb dX3_readOld_169 (by decide) (fun c169_6 => ?_) (fun c169_6 => ?_)
                    · skip
                      refine lv_iload hx hb dX3_readOld_179 (lv_at hl 0 rfl) ?_
                      refine vp_callSi (W.runS ⟨hx, hb, hml, hown, hts⟩ (KX3_isMark l (fX2_codeOfOldByte b x1)) (va_cwS 1 hts gX3_readOld_X3_isMark rfl rfl rfl (by decide +kernel) ⟨Nat.le_of_ble_eq_true rfl, Nat.le_of_ble_eq_true rfl⟩) pcS_S rfl rfl hl.1 rfl (lv_room (Nat.le_of_ble_eq_true rfl)) dX3_readOld_181 ⟨Nat.zero_le _, Nat.zero_le _⟩) (fun r9 hr9 => ?_)
                      replace hr9 : r9 = fX2_isMark (fX2_codeOfOldByte b x1) := hr9.trans (x3_isMark _)
                      subst r9
                      refine lv_if_eq (tgt := 214) hx hb dX3_readOld_184 (by decide) (fun c184_6 => ?_) (fun c184_6 => ?_)
                      · skip
                        have q221 : x2 + 1 + x3 = nI (fr.length + 1 + wm.length) := by rw [e2, e3, nI_1, nI_add]
                        refine lv_iload_n hx hb dX3_readOld_214 rfl (lv_at hl 5 rfl) ?_
                        refine lv_iconst (v := 1) hx hb dX3_readOld_215 (by decide) ?_
                        refine lv_iadd hx hb dX3_readOld_216 ?_
                        refine lv_iload_n hx hb dX3_readOld_217 rfl (lv_at hl 4 rfl) ?_
                        refine lv_iadd hx hb dX3_readOld_218 ?_
                        refine lv_bipush (v := 100) hx hb dX3_readOld_219 (by decide) ?_
                        refine lv_icmp_le (tgt := 240) hx hb dX3_readOld_221 (by decide) (fun c221_6 => ?_) (fun c221_6 => ?_)
                        · skip
                          rw [q221] at c221_6
                          have hle : fr.length + 1 + wm.length ≤ 100 := (nI_100 (by omega)).mp c221_6
                          refine lv_aload_n hx hb dX3_readOld_240 rfl (lv_at hl 7 rfl) ?_
                          refine va_get (D := D) (ci := 4) (v := .ref a7) (C := RX3) (T := TX3) (N := 15) hx hb hts (by decide +kernel) hown hK hP 0 rfl rfl 7 (by decide) (hts (.fieldLink RX3 19 "CharacterRowsModel" "work" "[I") (by decide +kernel)) (fun _ h9 => h9) rfl dX3_readOld_241 ?_
                          refine lv_iload_n hx hb dX3_readOld_244 rfl (lv_at hl 5 rfl) ?_
                          refine lv_iload hx hb dX3_readOld_245 (lv_at hl 0 rfl) ?_
                          refine va_iast hx hb hK hP hD hS 2 1 rfl rfl (rwf_sin p7 (by decide) e2 (by omega)) dX3_readOld_247 (fun H locs hP hD hS => ?_)
                          have hP : va_P D vwCl [(g, .inr (4, [.int th, .ref a1, .int (nI y1.length), .ref a3, .int ct, .ref a5, .int oc, .ref a7, .ref a8, .ref a9, .int wn, .ref aB, .int tn, .int si, .int wg])), (a1, .inl (k1, 200, .inl g1)), (a7, .inl (k7, 400, .inl (upd g7 x2.toNatClampNeg (fX2_codeOfOldByte b x1)))), (a8, .inl (k8, 400, .inl g8))] H := hP
                          have hD : va_D A [(g, .inr (4, [.int th, .ref a1, .int (nI y1.length), .ref a3, .int ct, .ref a5, .int oc, .ref a7, .ref a8, .ref a9, .int wn, .ref aB, .int tn, .int si, .int wg])), (a1, .inl (k1, 200, .inl g1)), (a7, .inl (k7, 400, .inl (upd g7 x2.toNatClampNeg (fX2_codeOfOldByte b x1)))), (a8, .inl (k8, 400, .inl g8))] := hD
                          refine lv_iinc (v := (x2 + 1)) (lv' := [(2, .int (x2 + 1)), (7, .int (fX2_codeOfOldByte b x1)), (6, .int b), (5, .int x5), (4, .int x4), (3, .int x3), (1, .int x1), (0, .ref g)]) hx hb dX3_readOld_248 hl (k := 5) rfl rfl (by decide) rfl (fun ls hl => ?_)
                          refine lv_iconst (v := 0) hx hb dX3_readOld_251 (by decide) ?_
                          refine lv_istore (lv' := [(8, .int 0), (2, .int (x2 + 1)), (7, .int (fX2_codeOfOldByte b x1)), (6, .int b), (5, .int x5), (4, .int x4), (3, .int x3), (1, .int x1), (0, .ref g)]) hx hb dX3_readOld_252 hl (by decide) rfl (fun ls hl => ?_)
                          have q7 := rwf_snoc (c := fX2_codeOfOldByte b x1) p7 (by decide) e2 (by omega)
                          have loop2 : ∀ (ms : List Int32) (md : List Int32) (f7 : Nat → Int32) (x2b x8 : Int32) (H : Heap) (locs : List Loc) (ls : Array Slot), (wm = md ++ ms) → (x8 = nI md.length) → (x2b = nI (fr ++ fX2_codeOfOldByte b x1 :: md).length) → (rw_ok f7 400 (fr ++ fX2_codeOfOldByte b x1 :: md)) → va_P D vwCl [(g, .inr (4, [.int th, .ref a1, .int (nI y1.length), .ref a3, .int ct, .ref a5, .int oc, .ref a7, .ref a8, .ref a9, .int wn, .ref aB, .int tn, .int si, .int wg])), (a1, .inl (k1, 200, .inl g1)), (a7, .inl (k7, 400, .inl f7)), (a8, .inl (k8, 400, .inl g8))] H → va_D A [(g, .inr (4, [.int th, .ref a1, .int (nI y1.length), .ref a3, .int ct, .ref a5, .int oc, .ref a7, .ref a8, .ref a9, .int wn, .ref aB, .int tn, .int si, .int wg])), (a1, .inl (k1, 200, .inl g1)), (a7, .inl (k7, 400, .inl f7)), (a8, .inl (k8, 400, .inl g8))] → va_S A s.heap H locs → lv_has ls 9 [(8, .int x8), (2, .int x2b), (7, .int (fX2_codeOfOldByte b x1)), (6, .int b), (5, .int x5), (4, .int x4), (3, .int x3), (1, .int x1), (0, .ref g)] → W p l e ({ frames := 1, cells := 0, slots := 0, locals := 21 }) s m ([.ref g] : List Value).toArray below meth c H locs 0 0 (MQ below (qcI (S := (Nat → Int32) × (Nat → Int32) × Int32) D (fun r u => (T.1 = -1 → r = nI T.2.length ∧ rw_ok u.1 400 T.2) ∧ (¬ T.1 = -1 → r = -1 ∧ u.2.2 = T.1)) (fun u => [(g, .inr (4, [.int th, .ref a1, .int (nI y1.length), .ref a3, .int ct, .ref a5, .int oc, .ref a7, .ref a8, .ref a9, .int wn, .ref aB, .int tn, .int si, .int u.2.2])), (a1, .inl (k1, 200, .inl g1)), (a7, .inl (k7, 400, .inl u.1)), (a8, .inl (k8, 400, .inl u.2.1))]) A) ([.ref g] : List Value).toArray s 0 0 A) (F0 m 254 ls [])  := by
                            intro ms
                            induction ms with
                            | nil =>
                              intro md f7 x2b x8 H locs ls hmd e8 e2b p7b hP hD hS hl
                              have hmdl : wm.length = md.length := by rw [hmd]; simp
                              refine lv_iload hx hb dX3_readOld_254 (lv_at hl 0 rfl) ?_
                              refine lv_iload_n hx hb dX3_readOld_256 rfl (lv_at hl 6 rfl) ?_
                              refine lv_icmp_ge (tgt := 282) hx hb dX3_readOld_257 (by decide) (fun c257_11 => ?_) (fun c257_11 => ?_)
                              · skip
                                refine lv_iconst (v := 0) hx hb dX3_readOld_282 (by decide) ?_
                                refine lv_istore_n (lv' := [(3, .int 0), (8, .int x8), (2, .int x2b), (7, .int (fX2_codeOfOldByte b x1)), (6, .int b), (5, .int x5), (4, .int x4), (1, .int x1), (0, .ref g)]) hx hb dX3_readOld_283 rfl hl (by decide) rfl (fun ls hl => ?_)
                                refine lv_iinc (v := (x5 + 1)) (lv' := [(5, .int (x5 + 1)), (3, .int 0), (8, .int x8), (2, .int x2b), (7, .int (fX2_codeOfOldByte b x1)), (6, .int b), (4, .int x4), (1, .int x1), (0, .ref g)]) hx hb dX3_readOld_284 hl (k := 5) rfl rfl (by decide) rfl (fun ls hl => ?_)
                                refine lv_goto (tgt := 12) hx hb dX3_readOld_287 (by decide) ?_
                                obtain rfl : wm = md := by rw [hmd]; simp
                                exact ih t (done ++ [b]) [] (fr ++ fX2_codeOfOldByte b x1 :: wm) f7 g8 _ _ _ _ _ H locs ls (by simp at hn ⊢; omega) (by rw [hy]; simp) (by rw [← hT]; simp [roS, c34_1, c169_6, c184_6, hle]) (by rw [e5, List.length_append]; exact nI_1 _) rfl e2b hs9 p7b rw_nil (by simp) (by simp <;> omega) (fun q => absurd rfl q) hP hD hS (lv_sub hl [0, 6, 1, 3, 7, 8] rfl)
                              · skip
                                exact absurd (by rw [e3, e8, hmdl]; exact Int32.le_refl _) c257_11
                            | cons d ms ih2 =>
                              intro md f7 x2b x8 H locs ls hmd e8 e2b p7b hP hD hS hl
                              have hmdl : wm.length = md.length + (ms.length + 1) := by rw [hmd]; simp
                              refine lv_iload hx hb dX3_readOld_254 (lv_at hl 0 rfl) ?_
                              refine lv_iload_n hx hb dX3_readOld_256 rfl (lv_at hl 6 rfl) ?_
                              refine lv_icmp_ge (tgt := 282) hx hb dX3_readOld_257 (by decide) (fun c257_12 => ?_) (fun c257_12 => ?_)
                              · skip
                                exact absurd c257_12 (by rw [e3, e8, hmdl]; exact nI_ge (by omega) (by omega))
                              · skip
                                refine lv_aload_n hx hb dX3_readOld_260 rfl (lv_at hl 8 rfl) ?_
                                refine va_get (D := D) (ci := 4) (v := .ref a7) (C := RX3) (T := TX3) (N := 15) hx hb hts (by decide +kernel) hown hK hP 0 rfl rfl 7 (by decide) (hts (.fieldLink RX3 19 "CharacterRowsModel" "work" "[I") (by decide +kernel)) (fun _ h9 => h9) rfl dX3_readOld_261 ?_
                                refine lv_iload_n hx hb dX3_readOld_264 rfl (lv_at hl 1 rfl) ?_
                                refine lv_aload_n hx hb dX3_readOld_265 rfl (lv_at hl 8 rfl) ?_
                                refine va_get (D := D) (ci := 4) (v := .ref a8) (C := RX3) (T := TX3) (N := 15) hx hb hts (by decide +kernel) hown hK hP 0 rfl rfl 8 (by decide) (hts (.fieldLink RX3 22 "CharacterRowsModel" "second" "[I") (by decide +kernel)) (fun _ h9 => h9) rfl dX3_readOld_266 ?_
                                refine lv_iload hx hb dX3_readOld_269 (lv_at hl 0 rfl) ?_
                                refine va_iald hx hb hK hP 3 2 rfl rfl (rwf_in (j := 0) p8 (by decide) hmd e8 rfl (by simp)) dX3_readOld_271 ?_
                                refine lv_topi (fun r9 hr9 => ?_)
                                replace hr9 : r9 = d := hr9.trans (rwf_v (j := 0) p8 (by decide) hmd e8 rfl (by simp))
                                subst r9
                                refine va_iast hx hb hK hP hD hS 2 1 rfl rfl (rwf_sin p7b (by decide) e2b (by simp; omega)) dX3_readOld_272 (fun H locs hP hD hS => ?_)
                                have hP : va_P D vwCl [(g, .inr (4, [.int th, .ref a1, .int (nI y1.length), .ref a3, .int ct, .ref a5, .int oc, .ref a7, .ref a8, .ref a9, .int wn, .ref aB, .int tn, .int si, .int wg])), (a1, .inl (k1, 200, .inl g1)), (a7, .inl (k7, 400, .inl (upd f7 x2b.toNatClampNeg d))), (a8, .inl (k8, 400, .inl g8))] H := hP
                                have hD : va_D A [(g, .inr (4, [.int th, .ref a1, .int (nI y1.length), .ref a3, .int ct, .ref a5, .int oc, .ref a7, .ref a8, .ref a9, .int wn, .ref aB, .int tn, .int si, .int wg])), (a1, .inl (k1, 200, .inl g1)), (a7, .inl (k7, 400, .inl (upd f7 x2b.toNatClampNeg d))), (a8, .inl (k8, 400, .inl g8))] := hD
                                refine lv_iinc (v := (x2b + 1)) (lv' := [(2, .int (x2b + 1)), (8, .int x8), (7, .int (fX2_codeOfOldByte b x1)), (6, .int b), (5, .int x5), (4, .int x4), (3, .int x3), (1, .int x1), (0, .ref g)]) hx hb dX3_readOld_273 hl (k := 1) rfl rfl (by decide) rfl (fun ls hl => ?_)
                                refine lv_iinc (v := (x8 + 1)) (lv' := [(8, .int (x8 + 1)), (2, .int (x2b + 1)), (7, .int (fX2_codeOfOldByte b x1)), (6, .int b), (5, .int x5), (4, .int x4), (3, .int x3), (1, .int x1), (0, .ref g)]) hx hb dX3_readOld_276 hl (k := 1) rfl rfl (by decide) rfl (fun ls hl => ?_)
                                refine lv_goto (tgt := 254) hx hb dX3_readOld_279 (by decide) ?_
                                have q9 := rwf_snoc (c := d) p7b (by decide) e2b (by simp; omega)
                                exact ih2 (md ++ [d]) (upd f7 x2b.toNatClampNeg d) _ _ H locs ls (by rw [hmd]; simp) (by rw [e8, List.length_append]; exact nI_1 _) (by rw [e2b, nI_1]; congr 1; simp <;> omega) (by have e7 : fr ++ fX2_codeOfOldByte b x1 :: md ++ [d] = fr ++ fX2_codeOfOldByte b x1 :: (md ++ [d]) := (by simp); rw [e7] at q9; exact q9) hP hD hS (lv_sub hl [0, 1, 2, 3, 4, 5, 6, 7, 8] rfl)
                          exact loop2 wm [] (upd g7 x2.toNatClampNeg (fX2_codeOfOldByte b x1)) _ _ H locs ls rfl rfl (by rw [e2, nI_1]; simp) q7 hP hD hS (lv_sub hl [0, 1, 2, 3, 4, 5, 6, 7, 8] rfl)
                        · skip
                          rw [q221] at c221_6
                          have hgt : ¬ fr.length + 1 + wm.length ≤ 100 := fun q => c221_6 ((nI_100 (by omega)).mpr q)
                          refine lv_aload_n hx hb dX3_readOld_224 rfl (lv_at hl 7 rfl) ?_
                          refine lv_iload_n hx hb dX3_readOld_225 rfl (lv_at hl 4 rfl) ?_
                          refine lv_if_le (tgt := 234) hx hb dX3_readOld_226 (by decide) (fun c226_6 => ?_) (fun c226_6 => ?_)
                          · skip
                            refine lv_iload hx hb dX3_readOld_234 (lv_at hl 2 rfl) ?_
                            refine clI (wr := [(a1, .inl (k1, 200, .inl g1)), (a7, .inl (k7, 400, .inl g7)), (a8, .inl (k8, 400, .inl g8))]) (va_runV ⟨hx, hb, hml, hown, hts⟩ (KX3_bad l D g a1 a3 a5 a7 a8 a9 aB th (nI y1.length) ct oc wn tn si wg x5 _) (cwV 1 hts gX3_readOld_X3_bad rfl rfl rfl (by decide +kernel) ⟨Nat.le_of_ble_eq_true rfl, Nat.le_of_ble_eq_true rfl⟩) (pcM_V (hP.sub (ws' := [(g, .inr (4, [.int th, .ref a1, .int (nI y1.length), .ref a3, .int ct, .ref a5, .int oc, .ref a7, .ref a8, .ref a9, .int wn, .ref aB, .int tn, .int si, .int wg]))]) [0] rfl) (hD.sub (ws' := [(g, .inr (4, [.int th, .ref a1, .int (nI y1.length), .ref a3, .int ct, .ref a5, .int oc, .ref a7, .ref a8, .ref a9, .int wn, .ref aB, .int tn, .int si, .int wg]))]) [0] (by decide) rfl) (hK.sub (tys' := []) [] rfl) hN 0 rfl rfl) rfl rfl hl.1 rfl (lv_room (Nat.le_of_ble_eq_true rfl)) dX3_readOld_236 ⟨Nat.zero_le _, Nat.zero_le _⟩) hP hD hS hA [0] [1, 2, 3] rfl rfl (by decide) (by decide) (fun r_17 u_17 H locs hw_17 hP hD hS => ?_)
                            subst hw_17
                            have hP : va_P D vwCl [(g, .inr (4, [.int th, .ref a1, .int (nI y1.length), .ref a3, .int ct, .ref a5, .int oc, .ref a7, .ref a8, .ref a9, .int wn, .ref aB, .int tn, .int si, .int x5])), (a1, .inl (k1, 200, .inl g1)), (a7, .inl (k7, 400, .inl g7)), (a8, .inl (k8, 400, .inl g8))] H := hP.sub [3, 0, 1, 2] rfl
                            have hD : va_D A [(g, .inr (4, [.int th, .ref a1, .int (nI y1.length), .ref a3, .int ct, .ref a5, .int oc, .ref a7, .ref a8, .ref a9, .int wn, .ref aB, .int tn, .int si, .int x5])), (a1, .inl (k1, 200, .inl g1)), (a7, .inl (k7, 400, .inl g7)), (a8, .inl (k8, 400, .inl g8))] := hD.sub [3, 0, 1, 2] (by decide) rfl
                            rw [e3] at c226_6
                            have hw0 : wm.length = 0 := by rcases Nat.eq_zero_or_pos wm.length with q | q; exact q; exact absurd c226_6 (nI_nle q (by omega))
                            have e8 : (x5, fr) = T := by rw [← hT, e5]; simp only [roS]; rw [if_neg c34_1, if_neg c169_6, if_pos c184_6, if_neg hgt, if_pos hw0]
                            have hne : ¬ T.1 = -1 := by rw [← e8]; show ¬ x5 = -1; rw [e5]; exact nI_ne1 (by omega)
                            exact rtI hx hb hr hlocks dX3_readOld_239 (g7, g8, x5) ⟨fun q => absurd q hne, fun _ => ⟨rfl, by rw [← e8]⟩⟩ hP hD hS
                          · skip
                            refine lv_iload hx hb dX3_readOld_229 (lv_at hl 3 rfl) ?_
                            refine lv_goto (tgt := 236) hx hb dX3_readOld_231 (by decide) ?_
                            refine clI (wr := [(a1, .inl (k1, 200, .inl g1)), (a7, .inl (k7, 400, .inl g7)), (a8, .inl (k8, 400, .inl g8))]) (va_runV ⟨hx, hb, hml, hown, hts⟩ (KX3_bad l D g a1 a3 a5 a7 a8 a9 aB th (nI y1.length) ct oc wn tn si wg x4 _) (cwV 1 hts gX3_readOld_X3_bad rfl rfl rfl (by decide +kernel) ⟨Nat.le_of_ble_eq_true rfl, Nat.le_of_ble_eq_true rfl⟩) (pcM_V (hP.sub (ws' := [(g, .inr (4, [.int th, .ref a1, .int (nI y1.length), .ref a3, .int ct, .ref a5, .int oc, .ref a7, .ref a8, .ref a9, .int wn, .ref aB, .int tn, .int si, .int wg]))]) [0] rfl) (hD.sub (ws' := [(g, .inr (4, [.int th, .ref a1, .int (nI y1.length), .ref a3, .int ct, .ref a5, .int oc, .ref a7, .ref a8, .ref a9, .int wn, .ref aB, .int tn, .int si, .int wg]))]) [0] (by decide) rfl) (hK.sub (tys' := []) [] rfl) hN 0 rfl rfl) rfl rfl hl.1 rfl (lv_room (Nat.le_of_ble_eq_true rfl)) dX3_readOld_236 ⟨Nat.zero_le _, Nat.zero_le _⟩) hP hD hS hA [0] [1, 2, 3] rfl rfl (by decide) (by decide) (fun r_18 u_18 H locs hw_18 hP hD hS => ?_)
                            subst hw_18
                            have hP : va_P D vwCl [(g, .inr (4, [.int th, .ref a1, .int (nI y1.length), .ref a3, .int ct, .ref a5, .int oc, .ref a7, .ref a8, .ref a9, .int wn, .ref aB, .int tn, .int si, .int x4])), (a1, .inl (k1, 200, .inl g1)), (a7, .inl (k7, 400, .inl g7)), (a8, .inl (k8, 400, .inl g8))] H := hP.sub [3, 0, 1, 2] rfl
                            have hD : va_D A [(g, .inr (4, [.int th, .ref a1, .int (nI y1.length), .ref a3, .int ct, .ref a5, .int oc, .ref a7, .ref a8, .ref a9, .int wn, .ref aB, .int tn, .int si, .int x4])), (a1, .inl (k1, 200, .inl g1)), (a7, .inl (k7, 400, .inl g7)), (a8, .inl (k8, 400, .inl g8))] := hD.sub [3, 0, 1, 2] (by decide) rfl
                            rw [e3] at c226_6
                            have hw0 : ¬ wm.length = 0 := fun q => c226_6 (by rw [q]; decide)
                            obtain ⟨j9, hj9, ej9⟩ := hfm (fun q => hw0 (by rw [q]; rfl))
                            have e8 : (x4, fr) = T := by rw [← hT]; simp only [roS]; rw [if_neg c34_1, if_neg c169_6, if_pos c184_6, if_neg hgt, if_neg hw0]
                            have hne : ¬ T.1 = -1 := by rw [← e8]; show ¬ x4 = -1; rw [ej9]; exact nI_ne1 hj9
                            exact rtI hx hb hr hlocks dX3_readOld_239 (g7, g8, x4) ⟨fun q => absurd q hne, fun _ => ⟨rfl, by rw [← e8]⟩⟩ hP hD hS
                      · skip
                        refine lv_iload_n hx hb dX3_readOld_187 rfl (lv_at hl 4 rfl) ?_
                        refine lv_if_ne (tgt := 196) hx hb dX3_readOld_188 (by decide) (fun c188_6 => ?_) (fun c188_6 => ?_)
                        · skip
                          refine lv_iload hx hb dX3_readOld_196 (lv_at hl 3 rfl) ?_
                          refine lv_istore (lv' := [(4, .int x4), (7, .int (fX2_codeOfOldByte b x1)), (6, .int b), (5, .int x5), (3, .int x3), (2, .int x2), (1, .int x1), (0, .ref g)]) hx hb dX3_readOld_198 hl (by decide) rfl (fun ls hl => ?_)
                          refine lv_aload_n hx hb dX3_readOld_200 rfl (lv_at hl 7 rfl) ?_
                          refine va_get (D := D) (ci := 4) (v := .ref a8) (C := RX3) (T := TX3) (N := 15) hx hb hts (by decide +kernel) hown hK hP 0 rfl rfl 8 (by decide) (hts (.fieldLink RX3 22 "CharacterRowsModel" "second" "[I") (by decide +kernel)) (fun _ h9 => h9) rfl dX3_readOld_201 ?_
                          refine lv_iload_n hx hb dX3_readOld_204 rfl (lv_at hl 4 rfl) ?_
                          refine lv_iload hx hb dX3_readOld_205 (lv_at hl 1 rfl) ?_
                          refine va_iast hx hb hK hP hD hS 3 2 rfl rfl (rwf_sin p8 (by decide) e3 (by omega)) dX3_readOld_207 (fun H locs hP hD hS => ?_)
                          have hP : va_P D vwCl [(g, .inr (4, [.int th, .ref a1, .int (nI y1.length), .ref a3, .int ct, .ref a5, .int oc, .ref a7, .ref a8, .ref a9, .int wn, .ref aB, .int tn, .int si, .int wg])), (a1, .inl (k1, 200, .inl g1)), (a7, .inl (k7, 400, .inl g7)), (a8, .inl (k8, 400, .inl (upd g8 x3.toNatClampNeg (fX2_codeOfOldByte b x1))))] H := hP
                          have hD : va_D A [(g, .inr (4, [.int th, .ref a1, .int (nI y1.length), .ref a3, .int ct, .ref a5, .int oc, .ref a7, .ref a8, .ref a9, .int wn, .ref aB, .int tn, .int si, .int wg])), (a1, .inl (k1, 200, .inl g1)), (a7, .inl (k7, 400, .inl g7)), (a8, .inl (k8, 400, .inl (upd g8 x3.toNatClampNeg (fX2_codeOfOldByte b x1))))] := hD
                          refine lv_iinc (v := (x3 + 1)) (lv' := [(3, .int (x3 + 1)), (4, .int x4), (7, .int (fX2_codeOfOldByte b x1)), (6, .int b), (5, .int x5), (2, .int x2), (1, .int x1), (0, .ref g)]) hx hb dX3_readOld_208 hl (k := 4) rfl rfl (by decide) rfl (fun ls hl => ?_)
                          refine lv_goto (tgt := 284) hx hb dX3_readOld_211 (by decide) ?_
                          refine lv_iinc (v := (x5 + 1)) (lv' := [(5, .int (x5 + 1)), (3, .int (x3 + 1)), (4, .int x4), (7, .int (fX2_codeOfOldByte b x1)), (6, .int b), (2, .int x2), (1, .int x1), (0, .ref g)]) hx hb dX3_readOld_284 hl (k := 4) rfl rfl (by decide) rfl (fun ls hl => ?_)
                          refine lv_goto (tgt := 12) hx hb dX3_readOld_287 (by decide) ?_
                          have q8 := rwf_snoc (c := fX2_codeOfOldByte b x1) p8 (by decide) e3 (by omega)
                          have q88 := nI_0iff (n := wm.length) (by omega)
                          rw [e3] at c188_6
                          exact ih t (done ++ [b]) _ fr g7 (upd g8 x3.toNatClampNeg (fX2_codeOfOldByte b x1)) _ _ _ _ _ H locs ls (by simp at hn ⊢; omega) (by rw [hy]; simp) (by rw [← hT]; simp [roS, c34_1, c169_6, c184_6, ← q88, c188_6, e5]) (by rw [e5, List.length_append]; exact nI_1 _) (by rw [e3, nI_1]; simp) e2 hs9 p7 q8 (by simp <;> omega) hfr (fun _ => hfm (by intro q; rw [q] at c188_6; exact c188_6 rfl)) hP hD hS (lv_sub hl [0, 2, 1, 5, 6, 7] rfl)
                        · skip
                          refine lv_iload hx hb dX3_readOld_191 (lv_at hl 2 rfl) ?_
                          refine lv_goto (tgt := 198) hx hb dX3_readOld_193 (by decide) ?_
                          refine lv_istore (lv' := [(4, .int x5), (7, .int (fX2_codeOfOldByte b x1)), (6, .int b), (5, .int x5), (3, .int x3), (2, .int x2), (1, .int x1), (0, .ref g)]) hx hb dX3_readOld_198 hl (by decide) rfl (fun ls hl => ?_)
                          refine lv_aload_n hx hb dX3_readOld_200 rfl (lv_at hl 7 rfl) ?_
                          refine va_get (D := D) (ci := 4) (v := .ref a8) (C := RX3) (T := TX3) (N := 15) hx hb hts (by decide +kernel) hown hK hP 0 rfl rfl 8 (by decide) (hts (.fieldLink RX3 22 "CharacterRowsModel" "second" "[I") (by decide +kernel)) (fun _ h9 => h9) rfl dX3_readOld_201 ?_
                          refine lv_iload_n hx hb dX3_readOld_204 rfl (lv_at hl 4 rfl) ?_
                          refine lv_iload hx hb dX3_readOld_205 (lv_at hl 1 rfl) ?_
                          refine va_iast hx hb hK hP hD hS 3 2 rfl rfl (rwf_sin p8 (by decide) e3 (by omega)) dX3_readOld_207 (fun H locs hP hD hS => ?_)
                          have hP : va_P D vwCl [(g, .inr (4, [.int th, .ref a1, .int (nI y1.length), .ref a3, .int ct, .ref a5, .int oc, .ref a7, .ref a8, .ref a9, .int wn, .ref aB, .int tn, .int si, .int wg])), (a1, .inl (k1, 200, .inl g1)), (a7, .inl (k7, 400, .inl g7)), (a8, .inl (k8, 400, .inl (upd g8 x3.toNatClampNeg (fX2_codeOfOldByte b x1))))] H := hP
                          have hD : va_D A [(g, .inr (4, [.int th, .ref a1, .int (nI y1.length), .ref a3, .int ct, .ref a5, .int oc, .ref a7, .ref a8, .ref a9, .int wn, .ref aB, .int tn, .int si, .int wg])), (a1, .inl (k1, 200, .inl g1)), (a7, .inl (k7, 400, .inl g7)), (a8, .inl (k8, 400, .inl (upd g8 x3.toNatClampNeg (fX2_codeOfOldByte b x1))))] := hD
                          refine lv_iinc (v := (x3 + 1)) (lv' := [(3, .int (x3 + 1)), (4, .int x5), (7, .int (fX2_codeOfOldByte b x1)), (6, .int b), (5, .int x5), (2, .int x2), (1, .int x1), (0, .ref g)]) hx hb dX3_readOld_208 hl (k := 4) rfl rfl (by decide) rfl (fun ls hl => ?_)
                          refine lv_goto (tgt := 284) hx hb dX3_readOld_211 (by decide) ?_
                          refine lv_iinc (v := (x5 + 1)) (lv' := [(5, .int (x5 + 1)), (3, .int (x3 + 1)), (4, .int x5), (7, .int (fX2_codeOfOldByte b x1)), (6, .int b), (2, .int x2), (1, .int x1), (0, .ref g)]) hx hb dX3_readOld_284 hl (k := 4) rfl rfl (by decide) rfl (fun ls hl => ?_)
                          refine lv_goto (tgt := 12) hx hb dX3_readOld_287 (by decide) ?_
                          have q8 := rwf_snoc (c := fX2_codeOfOldByte b x1) p8 (by decide) e3 (by omega)
                          have q88 := nI_0iff (n := wm.length) (by omega)
                          rw [e3] at c188_6
                          exact ih t (done ++ [b]) _ fr g7 (upd g8 x3.toNatClampNeg (fX2_codeOfOldByte b x1)) _ _ _ _ _ H locs ls (by simp at hn ⊢; omega) (by rw [hy]; simp) (by rw [← hT]; simp [roS, c34_1, c169_6, c184_6, ← q88, c188_6, e5]) (by rw [e5, List.length_append]; exact nI_1 _) (by rw [e3, nI_1]; simp) e2 hs9 p7 q8 (by simp <;> omega) hfr (fun _ => ⟨_, by omega, e5⟩) hP hD hS (lv_sub hl [0, 2, 1, 5, 6, 7] rfl)
                    · skip
                      refine lv_aload_n hx hb dX3_readOld_172 rfl (lv_at hl 7 rfl) ?_
                      refine lv_iload hx hb dX3_readOld_173 (lv_at hl 2 rfl) ?_
                      refine clI (wr := [(a1, .inl (k1, 200, .inl g1)), (a7, .inl (k7, 400, .inl g7)), (a8, .inl (k8, 400, .inl g8))]) (va_runV ⟨hx, hb, hml, hown, hts⟩ (KX3_bad l D g a1 a3 a5 a7 a8 a9 aB th (nI y1.length) ct oc wn tn si wg x5 _) (cwV 1 hts gX3_readOld_X3_bad rfl rfl rfl (by decide +kernel) ⟨Nat.le_of_ble_eq_true rfl, Nat.le_of_ble_eq_true rfl⟩) (pcM_V (hP.sub (ws' := [(g, .inr (4, [.int th, .ref a1, .int (nI y1.length), .ref a3, .int ct, .ref a5, .int oc, .ref a7, .ref a8, .ref a9, .int wn, .ref aB, .int tn, .int si, .int wg]))]) [0] rfl) (hD.sub (ws' := [(g, .inr (4, [.int th, .ref a1, .int (nI y1.length), .ref a3, .int ct, .ref a5, .int oc, .ref a7, .ref a8, .ref a9, .int wn, .ref aB, .int tn, .int si, .int wg]))]) [0] (by decide) rfl) (hK.sub (tys' := []) [] rfl) hN 0 rfl rfl) rfl rfl hl.1 rfl (lv_room (Nat.le_of_ble_eq_true rfl)) dX3_readOld_175 ⟨Nat.zero_le _, Nat.zero_le _⟩) hP hD hS hA [0] [1, 2, 3] rfl rfl (by decide) (by decide) (fun r_19 u_19 H locs hw_19 hP hD hS => ?_)
                      subst hw_19
                      have hP : va_P D vwCl [(g, .inr (4, [.int th, .ref a1, .int (nI y1.length), .ref a3, .int ct, .ref a5, .int oc, .ref a7, .ref a8, .ref a9, .int wn, .ref aB, .int tn, .int si, .int x5])), (a1, .inl (k1, 200, .inl g1)), (a7, .inl (k7, 400, .inl g7)), (a8, .inl (k8, 400, .inl g8))] H := hP.sub [3, 0, 1, 2] rfl
                      have hD : va_D A [(g, .inr (4, [.int th, .ref a1, .int (nI y1.length), .ref a3, .int ct, .ref a5, .int oc, .ref a7, .ref a8, .ref a9, .int wn, .ref aB, .int tn, .int si, .int x5])), (a1, .inl (k1, 200, .inl g1)), (a7, .inl (k7, 400, .inl g7)), (a8, .inl (k8, 400, .inl g8))] := hD.sub [3, 0, 1, 2] (by decide) rfl
                      have e8 : (x5, fr) = T := by rw [← hT, e5]; simp [roS, c34_1, c169_6]
                      have hne : ¬ T.1 = -1 := by rw [← e8]; show ¬ x5 = -1; rw [e5]; exact nI_ne1 (by omega)
                      exact rtI hx hb hr hlocks dX3_readOld_178 (g7, g8, x5) ⟨fun q => absurd q hne, fun _ => ⟨rfl, by rw [← e8]⟩⟩ hP hD hS
              · skip
                refine lv_iload hx hb dX3_readOld_130 (lv_at hl 0 rfl) ?_
                refine lv_goto (tgt := 165) hx hb dX3_readOld_132 (by decide) ?_
                refine lv_topi (fun r9 hr9 => ?_)
                replace hr9 : r9 = fX2_codeOfOldByte b x1 := hr9.trans (by rw [← oc_eq hb9 hs9]; simp [ocS, c120_1, c127_1])
                subst r9
                refine lv_istore (lv' := [(7, .int (fX2_codeOfOldByte b x1)), (6, .int b), (5, .int x5), (4, .int x4), (3, .int x3), (2, .int x2), (1, .int x1), (0, .ref g)]) hx hb dX3_readOld_165 hl (by decide) rfl (fun ls hl => ?_)
                refine lv_iload hx hb dX3_readOld_167 (lv_at hl 0 rfl) ?_
                refine lv_if_ne (tgt := 179) hx hb dX3_readOld_169 (by decide) (fun c169_7 => ?_) (fun c169_7 => ?_)
                · skip
                  refine lv_iload hx hb dX3_readOld_179 (lv_at hl 0 rfl) ?_
                  refine vp_callSi (W.runS ⟨hx, hb, hml, hown, hts⟩ (KX3_isMark l (fX2_codeOfOldByte b x1)) (va_cwS 1 hts gX3_readOld_X3_isMark rfl rfl rfl (by decide +kernel) ⟨Nat.le_of_ble_eq_true rfl, Nat.le_of_ble_eq_true rfl⟩) pcS_S rfl rfl hl.1 rfl (lv_room (Nat.le_of_ble_eq_true rfl)) dX3_readOld_181 ⟨Nat.zero_le _, Nat.zero_le _⟩) (fun r9 hr9 => ?_)
                  replace hr9 : r9 = fX2_isMark (fX2_codeOfOldByte b x1) := hr9.trans (x3_isMark _)
                  subst r9
                  refine lv_if_eq (tgt := 214) hx hb dX3_readOld_184 (by decide) (fun c184_7 => ?_) (fun c184_7 => ?_)
                  · skip
                    have q221 : x2 + 1 + x3 = nI (fr.length + 1 + wm.length) := by rw [e2, e3, nI_1, nI_add]
                    refine lv_iload_n hx hb dX3_readOld_214 rfl (lv_at hl 5 rfl) ?_
                    refine lv_iconst (v := 1) hx hb dX3_readOld_215 (by decide) ?_
                    refine lv_iadd hx hb dX3_readOld_216 ?_
                    refine lv_iload_n hx hb dX3_readOld_217 rfl (lv_at hl 4 rfl) ?_
                    refine lv_iadd hx hb dX3_readOld_218 ?_
                    refine lv_bipush (v := 100) hx hb dX3_readOld_219 (by decide) ?_
                    refine lv_icmp_le (tgt := 240) hx hb dX3_readOld_221 (by decide) (fun c221_7 => ?_) (fun c221_7 => ?_)
                    · skip
                      rw [q221] at c221_7
                      have hle : fr.length + 1 + wm.length ≤ 100 := (nI_100 (by omega)).mp c221_7
                      refine lv_aload_n hx hb dX3_readOld_240 rfl (lv_at hl 7 rfl) ?_
                      refine va_get (D := D) (ci := 4) (v := .ref a7) (C := RX3) (T := TX3) (N := 15) hx hb hts (by decide +kernel) hown hK hP 0 rfl rfl 7 (by decide) (hts (.fieldLink RX3 19 "CharacterRowsModel" "work" "[I") (by decide +kernel)) (fun _ h9 => h9) rfl dX3_readOld_241 ?_
                      refine lv_iload_n hx hb dX3_readOld_244 rfl (lv_at hl 5 rfl) ?_
                      refine lv_iload hx hb dX3_readOld_245 (lv_at hl 0 rfl) ?_
                      refine va_iast hx hb hK hP hD hS 2 1 rfl rfl (rwf_sin p7 (by decide) e2 (by omega)) dX3_readOld_247 (fun H locs hP hD hS => ?_)
                      have hP : va_P D vwCl [(g, .inr (4, [.int th, .ref a1, .int (nI y1.length), .ref a3, .int ct, .ref a5, .int oc, .ref a7, .ref a8, .ref a9, .int wn, .ref aB, .int tn, .int si, .int wg])), (a1, .inl (k1, 200, .inl g1)), (a7, .inl (k7, 400, .inl (upd g7 x2.toNatClampNeg (fX2_codeOfOldByte b x1)))), (a8, .inl (k8, 400, .inl g8))] H := hP
                      have hD : va_D A [(g, .inr (4, [.int th, .ref a1, .int (nI y1.length), .ref a3, .int ct, .ref a5, .int oc, .ref a7, .ref a8, .ref a9, .int wn, .ref aB, .int tn, .int si, .int wg])), (a1, .inl (k1, 200, .inl g1)), (a7, .inl (k7, 400, .inl (upd g7 x2.toNatClampNeg (fX2_codeOfOldByte b x1)))), (a8, .inl (k8, 400, .inl g8))] := hD
                      refine lv_iinc (v := (x2 + 1)) (lv' := [(2, .int (x2 + 1)), (7, .int (fX2_codeOfOldByte b x1)), (6, .int b), (5, .int x5), (4, .int x4), (3, .int x3), (1, .int x1), (0, .ref g)]) hx hb dX3_readOld_248 hl (k := 5) rfl rfl (by decide) rfl (fun ls hl => ?_)
                      refine lv_iconst (v := 0) hx hb dX3_readOld_251 (by decide) ?_
                      refine lv_istore (lv' := [(8, .int 0), (2, .int (x2 + 1)), (7, .int (fX2_codeOfOldByte b x1)), (6, .int b), (5, .int x5), (4, .int x4), (3, .int x3), (1, .int x1), (0, .ref g)]) hx hb dX3_readOld_252 hl (by decide) rfl (fun ls hl => ?_)
                      have q7 := rwf_snoc (c := fX2_codeOfOldByte b x1) p7 (by decide) e2 (by omega)
                      have loop2 : ∀ (ms : List Int32) (md : List Int32) (f7 : Nat → Int32) (x2b x8 : Int32) (H : Heap) (locs : List Loc) (ls : Array Slot), (wm = md ++ ms) → (x8 = nI md.length) → (x2b = nI (fr ++ fX2_codeOfOldByte b x1 :: md).length) → (rw_ok f7 400 (fr ++ fX2_codeOfOldByte b x1 :: md)) → va_P D vwCl [(g, .inr (4, [.int th, .ref a1, .int (nI y1.length), .ref a3, .int ct, .ref a5, .int oc, .ref a7, .ref a8, .ref a9, .int wn, .ref aB, .int tn, .int si, .int wg])), (a1, .inl (k1, 200, .inl g1)), (a7, .inl (k7, 400, .inl f7)), (a8, .inl (k8, 400, .inl g8))] H → va_D A [(g, .inr (4, [.int th, .ref a1, .int (nI y1.length), .ref a3, .int ct, .ref a5, .int oc, .ref a7, .ref a8, .ref a9, .int wn, .ref aB, .int tn, .int si, .int wg])), (a1, .inl (k1, 200, .inl g1)), (a7, .inl (k7, 400, .inl f7)), (a8, .inl (k8, 400, .inl g8))] → va_S A s.heap H locs → lv_has ls 9 [(8, .int x8), (2, .int x2b), (7, .int (fX2_codeOfOldByte b x1)), (6, .int b), (5, .int x5), (4, .int x4), (3, .int x3), (1, .int x1), (0, .ref g)] → W p l e ({ frames := 1, cells := 0, slots := 0, locals := 21 }) s m ([.ref g] : List Value).toArray below meth c H locs 0 0 (MQ below (qcI (S := (Nat → Int32) × (Nat → Int32) × Int32) D (fun r u => (T.1 = -1 → r = nI T.2.length ∧ rw_ok u.1 400 T.2) ∧ (¬ T.1 = -1 → r = -1 ∧ u.2.2 = T.1)) (fun u => [(g, .inr (4, [.int th, .ref a1, .int (nI y1.length), .ref a3, .int ct, .ref a5, .int oc, .ref a7, .ref a8, .ref a9, .int wn, .ref aB, .int tn, .int si, .int u.2.2])), (a1, .inl (k1, 200, .inl g1)), (a7, .inl (k7, 400, .inl u.1)), (a8, .inl (k8, 400, .inl u.2.1))]) A) ([.ref g] : List Value).toArray s 0 0 A) (F0 m 254 ls [])  := by
                        intro ms
                        induction ms with
                        | nil =>
                          intro md f7 x2b x8 H locs ls hmd e8 e2b p7b hP hD hS hl
                          have hmdl : wm.length = md.length := by rw [hmd]; simp
                          refine lv_iload hx hb dX3_readOld_254 (lv_at hl 0 rfl) ?_
                          refine lv_iload_n hx hb dX3_readOld_256 rfl (lv_at hl 6 rfl) ?_
                          refine lv_icmp_ge (tgt := 282) hx hb dX3_readOld_257 (by decide) (fun c257_13 => ?_) (fun c257_13 => ?_)
                          · skip
                            refine lv_iconst (v := 0) hx hb dX3_readOld_282 (by decide) ?_
                            refine lv_istore_n (lv' := [(3, .int 0), (8, .int x8), (2, .int x2b), (7, .int (fX2_codeOfOldByte b x1)), (6, .int b), (5, .int x5), (4, .int x4), (1, .int x1), (0, .ref g)]) hx hb dX3_readOld_283 rfl hl (by decide) rfl (fun ls hl => ?_)
                            refine lv_iinc (v := (x5 + 1)) (lv' := [(5, .int (x5 + 1)), (3, .int 0), (8, .int x8), (2, .int x2b), (7, .int (fX2_codeOfOldByte b x1)), (6, .int b), (4, .int x4), (1, .int x1), (0, .ref g)]) hx hb dX3_readOld_284 hl (k := 5) rfl rfl (by decide) rfl (fun ls hl => ?_)
                            refine lv_goto (tgt := 12) hx hb dX3_readOld_287 (by decide) ?_
                            obtain rfl : wm = md := by rw [hmd]; simp
                            exact ih t (done ++ [b]) [] (fr ++ fX2_codeOfOldByte b x1 :: wm) f7 g8 _ _ _ _ _ H locs ls (by simp at hn ⊢; omega) (by rw [hy]; simp) (by rw [← hT]; simp [roS, c34_1, c169_7, c184_7, hle]) (by rw [e5, List.length_append]; exact nI_1 _) rfl e2b hs9 p7b rw_nil (by simp) (by simp <;> omega) (fun q => absurd rfl q) hP hD hS (lv_sub hl [0, 6, 1, 3, 7, 8] rfl)
                          · skip
                            exact absurd (by rw [e3, e8, hmdl]; exact Int32.le_refl _) c257_13
                        | cons d ms ih2 =>
                          intro md f7 x2b x8 H locs ls hmd e8 e2b p7b hP hD hS hl
                          have hmdl : wm.length = md.length + (ms.length + 1) := by rw [hmd]; simp
                          refine lv_iload hx hb dX3_readOld_254 (lv_at hl 0 rfl) ?_
                          refine lv_iload_n hx hb dX3_readOld_256 rfl (lv_at hl 6 rfl) ?_
                          refine lv_icmp_ge (tgt := 282) hx hb dX3_readOld_257 (by decide) (fun c257_14 => ?_) (fun c257_14 => ?_)
                          · skip
                            exact absurd c257_14 (by rw [e3, e8, hmdl]; exact nI_ge (by omega) (by omega))
                          · skip
                            refine lv_aload_n hx hb dX3_readOld_260 rfl (lv_at hl 8 rfl) ?_
                            refine va_get (D := D) (ci := 4) (v := .ref a7) (C := RX3) (T := TX3) (N := 15) hx hb hts (by decide +kernel) hown hK hP 0 rfl rfl 7 (by decide) (hts (.fieldLink RX3 19 "CharacterRowsModel" "work" "[I") (by decide +kernel)) (fun _ h9 => h9) rfl dX3_readOld_261 ?_
                            refine lv_iload_n hx hb dX3_readOld_264 rfl (lv_at hl 1 rfl) ?_
                            refine lv_aload_n hx hb dX3_readOld_265 rfl (lv_at hl 8 rfl) ?_
                            refine va_get (D := D) (ci := 4) (v := .ref a8) (C := RX3) (T := TX3) (N := 15) hx hb hts (by decide +kernel) hown hK hP 0 rfl rfl 8 (by decide) (hts (.fieldLink RX3 22 "CharacterRowsModel" "second" "[I") (by decide +kernel)) (fun _ h9 => h9) rfl dX3_readOld_266 ?_
                            refine lv_iload hx hb dX3_readOld_269 (lv_at hl 0 rfl) ?_
                            refine va_iald hx hb hK hP 3 2 rfl rfl (rwf_in (j := 0) p8 (by decide) hmd e8 rfl (by simp)) dX3_readOld_271 ?_
                            refine lv_topi (fun r9 hr9 => ?_)
                            replace hr9 : r9 = d := hr9.trans (rwf_v (j := 0) p8 (by decide) hmd e8 rfl (by simp))
                            subst r9
                            refine va_iast hx hb hK hP hD hS 2 1 rfl rfl (rwf_sin p7b (by decide) e2b (by simp; omega)) dX3_readOld_272 (fun H locs hP hD hS => ?_)
                            have hP : va_P D vwCl [(g, .inr (4, [.int th, .ref a1, .int (nI y1.length), .ref a3, .int ct, .ref a5, .int oc, .ref a7, .ref a8, .ref a9, .int wn, .ref aB, .int tn, .int si, .int wg])), (a1, .inl (k1, 200, .inl g1)), (a7, .inl (k7, 400, .inl (upd f7 x2b.toNatClampNeg d))), (a8, .inl (k8, 400, .inl g8))] H := hP
                            have hD : va_D A [(g, .inr (4, [.int th, .ref a1, .int (nI y1.length), .ref a3, .int ct, .ref a5, .int oc, .ref a7, .ref a8, .ref a9, .int wn, .ref aB, .int tn, .int si, .int wg])), (a1, .inl (k1, 200, .inl g1)), (a7, .inl (k7, 400, .inl (upd f7 x2b.toNatClampNeg d))), (a8, .inl (k8, 400, .inl g8))] := hD
                            refine lv_iinc (v := (x2b + 1)) (lv' := [(2, .int (x2b + 1)), (8, .int x8), (7, .int (fX2_codeOfOldByte b x1)), (6, .int b), (5, .int x5), (4, .int x4), (3, .int x3), (1, .int x1), (0, .ref g)]) hx hb dX3_readOld_273 hl (k := 1) rfl rfl (by decide) rfl (fun ls hl => ?_)
                            refine lv_iinc (v := (x8 + 1)) (lv' := [(8, .int (x8 + 1)), (2, .int (x2b + 1)), (7, .int (fX2_codeOfOldByte b x1)), (6, .int b), (5, .int x5), (4, .int x4), (3, .int x3), (1, .int x1), (0, .ref g)]) hx hb dX3_readOld_276 hl (k := 1) rfl rfl (by decide) rfl (fun ls hl => ?_)
                            refine lv_goto (tgt := 254) hx hb dX3_readOld_279 (by decide) ?_
                            have q9 := rwf_snoc (c := d) p7b (by decide) e2b (by simp; omega)
                            exact ih2 (md ++ [d]) (upd f7 x2b.toNatClampNeg d) _ _ H locs ls (by rw [hmd]; simp) (by rw [e8, List.length_append]; exact nI_1 _) (by rw [e2b, nI_1]; congr 1; simp <;> omega) (by have e7 : fr ++ fX2_codeOfOldByte b x1 :: md ++ [d] = fr ++ fX2_codeOfOldByte b x1 :: (md ++ [d]) := (by simp); rw [e7] at q9; exact q9) hP hD hS (lv_sub hl [0, 1, 2, 3, 4, 5, 6, 7, 8] rfl)
                      exact loop2 wm [] (upd g7 x2.toNatClampNeg (fX2_codeOfOldByte b x1)) _ _ H locs ls rfl rfl (by rw [e2, nI_1]; simp) q7 hP hD hS (lv_sub hl [0, 1, 2, 3, 4, 5, 6, 7, 8] rfl)
                    · skip
                      rw [q221] at c221_7
                      have hgt : ¬ fr.length + 1 + wm.length ≤ 100 := fun q => c221_7 ((nI_100 (by omega)).mpr q)
                      refine lv_aload_n hx hb dX3_readOld_224 rfl (lv_at hl 7 rfl) ?_
                      refine lv_iload_n hx hb dX3_readOld_225 rfl (lv_at hl 4 rfl) ?_
                      refine lv_if_le (tgt := 234) hx hb dX3_readOld_226 (by decide) (fun c226_7 => ?_) (fun c226_7 => ?_)
                      · skip
                        refine lv_iload hx hb dX3_readOld_234 (lv_at hl 2 rfl) ?_
                        refine clI (wr := [(a1, .inl (k1, 200, .inl g1)), (a7, .inl (k7, 400, .inl g7)), (a8, .inl (k8, 400, .inl g8))]) (va_runV ⟨hx, hb, hml, hown, hts⟩ (KX3_bad l D g a1 a3 a5 a7 a8 a9 aB th (nI y1.length) ct oc wn tn si wg x5 _) (cwV 1 hts gX3_readOld_X3_bad rfl rfl rfl (by decide +kernel) ⟨Nat.le_of_ble_eq_true rfl, Nat.le_of_ble_eq_true rfl⟩) (pcM_V (hP.sub (ws' := [(g, .inr (4, [.int th, .ref a1, .int (nI y1.length), .ref a3, .int ct, .ref a5, .int oc, .ref a7, .ref a8, .ref a9, .int wn, .ref aB, .int tn, .int si, .int wg]))]) [0] rfl) (hD.sub (ws' := [(g, .inr (4, [.int th, .ref a1, .int (nI y1.length), .ref a3, .int ct, .ref a5, .int oc, .ref a7, .ref a8, .ref a9, .int wn, .ref aB, .int tn, .int si, .int wg]))]) [0] (by decide) rfl) (hK.sub (tys' := []) [] rfl) hN 0 rfl rfl) rfl rfl hl.1 rfl (lv_room (Nat.le_of_ble_eq_true rfl)) dX3_readOld_236 ⟨Nat.zero_le _, Nat.zero_le _⟩) hP hD hS hA [0] [1, 2, 3] rfl rfl (by decide) (by decide) (fun r_20 u_20 H locs hw_20 hP hD hS => ?_)
                        subst hw_20
                        have hP : va_P D vwCl [(g, .inr (4, [.int th, .ref a1, .int (nI y1.length), .ref a3, .int ct, .ref a5, .int oc, .ref a7, .ref a8, .ref a9, .int wn, .ref aB, .int tn, .int si, .int x5])), (a1, .inl (k1, 200, .inl g1)), (a7, .inl (k7, 400, .inl g7)), (a8, .inl (k8, 400, .inl g8))] H := hP.sub [3, 0, 1, 2] rfl
                        have hD : va_D A [(g, .inr (4, [.int th, .ref a1, .int (nI y1.length), .ref a3, .int ct, .ref a5, .int oc, .ref a7, .ref a8, .ref a9, .int wn, .ref aB, .int tn, .int si, .int x5])), (a1, .inl (k1, 200, .inl g1)), (a7, .inl (k7, 400, .inl g7)), (a8, .inl (k8, 400, .inl g8))] := hD.sub [3, 0, 1, 2] (by decide) rfl
                        rw [e3] at c226_7
                        have hw0 : wm.length = 0 := by rcases Nat.eq_zero_or_pos wm.length with q | q; exact q; exact absurd c226_7 (nI_nle q (by omega))
                        have e8 : (x5, fr) = T := by rw [← hT, e5]; simp only [roS]; rw [if_neg c34_1, if_neg c169_7, if_pos c184_7, if_neg hgt, if_pos hw0]
                        have hne : ¬ T.1 = -1 := by rw [← e8]; show ¬ x5 = -1; rw [e5]; exact nI_ne1 (by omega)
                        exact rtI hx hb hr hlocks dX3_readOld_239 (g7, g8, x5) ⟨fun q => absurd q hne, fun _ => ⟨rfl, by rw [← e8]⟩⟩ hP hD hS
                      · skip
                        refine lv_iload hx hb dX3_readOld_229 (lv_at hl 3 rfl) ?_
                        refine lv_goto (tgt := 236) hx hb dX3_readOld_231 (by decide) ?_
                        refine clI (wr := [(a1, .inl (k1, 200, .inl g1)), (a7, .inl (k7, 400, .inl g7)), (a8, .inl (k8, 400, .inl g8))]) (va_runV ⟨hx, hb, hml, hown, hts⟩ (KX3_bad l D g a1 a3 a5 a7 a8 a9 aB th (nI y1.length) ct oc wn tn si wg x4 _) (cwV 1 hts gX3_readOld_X3_bad rfl rfl rfl (by decide +kernel) ⟨Nat.le_of_ble_eq_true rfl, Nat.le_of_ble_eq_true rfl⟩) (pcM_V (hP.sub (ws' := [(g, .inr (4, [.int th, .ref a1, .int (nI y1.length), .ref a3, .int ct, .ref a5, .int oc, .ref a7, .ref a8, .ref a9, .int wn, .ref aB, .int tn, .int si, .int wg]))]) [0] rfl) (hD.sub (ws' := [(g, .inr (4, [.int th, .ref a1, .int (nI y1.length), .ref a3, .int ct, .ref a5, .int oc, .ref a7, .ref a8, .ref a9, .int wn, .ref aB, .int tn, .int si, .int wg]))]) [0] (by decide) rfl) (hK.sub (tys' := []) [] rfl) hN 0 rfl rfl) rfl rfl hl.1 rfl (lv_room (Nat.le_of_ble_eq_true rfl)) dX3_readOld_236 ⟨Nat.zero_le _, Nat.zero_le _⟩) hP hD hS hA [0] [1, 2, 3] rfl rfl (by decide) (by decide) (fun r_21 u_21 H locs hw_21 hP hD hS => ?_)
                        subst hw_21
                        have hP : va_P D vwCl [(g, .inr (4, [.int th, .ref a1, .int (nI y1.length), .ref a3, .int ct, .ref a5, .int oc, .ref a7, .ref a8, .ref a9, .int wn, .ref aB, .int tn, .int si, .int x4])), (a1, .inl (k1, 200, .inl g1)), (a7, .inl (k7, 400, .inl g7)), (a8, .inl (k8, 400, .inl g8))] H := hP.sub [3, 0, 1, 2] rfl
                        have hD : va_D A [(g, .inr (4, [.int th, .ref a1, .int (nI y1.length), .ref a3, .int ct, .ref a5, .int oc, .ref a7, .ref a8, .ref a9, .int wn, .ref aB, .int tn, .int si, .int x4])), (a1, .inl (k1, 200, .inl g1)), (a7, .inl (k7, 400, .inl g7)), (a8, .inl (k8, 400, .inl g8))] := hD.sub [3, 0, 1, 2] (by decide) rfl
                        rw [e3] at c226_7
                        have hw0 : ¬ wm.length = 0 := fun q => c226_7 (by rw [q]; decide)
                        obtain ⟨j9, hj9, ej9⟩ := hfm (fun q => hw0 (by rw [q]; rfl))
                        have e8 : (x4, fr) = T := by rw [← hT]; simp only [roS]; rw [if_neg c34_1, if_neg c169_7, if_pos c184_7, if_neg hgt, if_neg hw0]
                        have hne : ¬ T.1 = -1 := by rw [← e8]; show ¬ x4 = -1; rw [ej9]; exact nI_ne1 hj9
                        exact rtI hx hb hr hlocks dX3_readOld_239 (g7, g8, x4) ⟨fun q => absurd q hne, fun _ => ⟨rfl, by rw [← e8]⟩⟩ hP hD hS
                  · skip
                    refine lv_iload_n hx hb dX3_readOld_187 rfl (lv_at hl 4 rfl) ?_
                    refine lv_if_ne (tgt := 196) hx hb dX3_readOld_188 (by decide) (fun c188_7 => ?_) (fun c188_7 => ?_)
                    · skip
                      refine lv_iload hx hb dX3_readOld_196 (lv_at hl 3 rfl) ?_
                      refine lv_istore (lv' := [(4, .int x4), (7, .int (fX2_codeOfOldByte b x1)), (6, .int b), (5, .int x5), (3, .int x3), (2, .int x2), (1, .int x1), (0, .ref g)]) hx hb dX3_readOld_198 hl (by decide) rfl (fun ls hl => ?_)
                      refine lv_aload_n hx hb dX3_readOld_200 rfl (lv_at hl 7 rfl) ?_
                      refine va_get (D := D) (ci := 4) (v := .ref a8) (C := RX3) (T := TX3) (N := 15) hx hb hts (by decide +kernel) hown hK hP 0 rfl rfl 8 (by decide) (hts (.fieldLink RX3 22 "CharacterRowsModel" "second" "[I") (by decide +kernel)) (fun _ h9 => h9) rfl dX3_readOld_201 ?_
                      refine lv_iload_n hx hb dX3_readOld_204 rfl (lv_at hl 4 rfl) ?_
                      refine lv_iload hx hb dX3_readOld_205 (lv_at hl 1 rfl) ?_
                      refine va_iast hx hb hK hP hD hS 3 2 rfl rfl (rwf_sin p8 (by decide) e3 (by omega)) dX3_readOld_207 (fun H locs hP hD hS => ?_)
                      have hP : va_P D vwCl [(g, .inr (4, [.int th, .ref a1, .int (nI y1.length), .ref a3, .int ct, .ref a5, .int oc, .ref a7, .ref a8, .ref a9, .int wn, .ref aB, .int tn, .int si, .int wg])), (a1, .inl (k1, 200, .inl g1)), (a7, .inl (k7, 400, .inl g7)), (a8, .inl (k8, 400, .inl (upd g8 x3.toNatClampNeg (fX2_codeOfOldByte b x1))))] H := hP
                      have hD : va_D A [(g, .inr (4, [.int th, .ref a1, .int (nI y1.length), .ref a3, .int ct, .ref a5, .int oc, .ref a7, .ref a8, .ref a9, .int wn, .ref aB, .int tn, .int si, .int wg])), (a1, .inl (k1, 200, .inl g1)), (a7, .inl (k7, 400, .inl g7)), (a8, .inl (k8, 400, .inl (upd g8 x3.toNatClampNeg (fX2_codeOfOldByte b x1))))] := hD
                      refine lv_iinc (v := (x3 + 1)) (lv' := [(3, .int (x3 + 1)), (4, .int x4), (7, .int (fX2_codeOfOldByte b x1)), (6, .int b), (5, .int x5), (2, .int x2), (1, .int x1), (0, .ref g)]) hx hb dX3_readOld_208 hl (k := 4) rfl rfl (by decide) rfl (fun ls hl => ?_)
                      refine lv_goto (tgt := 284) hx hb dX3_readOld_211 (by decide) ?_
                      refine lv_iinc (v := (x5 + 1)) (lv' := [(5, .int (x5 + 1)), (3, .int (x3 + 1)), (4, .int x4), (7, .int (fX2_codeOfOldByte b x1)), (6, .int b), (2, .int x2), (1, .int x1), (0, .ref g)]) hx hb dX3_readOld_284 hl (k := 4) rfl rfl (by decide) rfl (fun ls hl => ?_)
                      refine lv_goto (tgt := 12) hx hb dX3_readOld_287 (by decide) ?_
                      have q8 := rwf_snoc (c := fX2_codeOfOldByte b x1) p8 (by decide) e3 (by omega)
                      have q88 := nI_0iff (n := wm.length) (by omega)
                      rw [e3] at c188_7
                      exact ih t (done ++ [b]) _ fr g7 (upd g8 x3.toNatClampNeg (fX2_codeOfOldByte b x1)) _ _ _ _ _ H locs ls (by simp at hn ⊢; omega) (by rw [hy]; simp) (by rw [← hT]; simp [roS, c34_1, c169_7, c184_7, ← q88, c188_7, e5]) (by rw [e5, List.length_append]; exact nI_1 _) (by rw [e3, nI_1]; simp) e2 hs9 p7 q8 (by simp <;> omega) hfr (fun _ => hfm (by intro q; rw [q] at c188_7; exact c188_7 rfl)) hP hD hS (lv_sub hl [0, 2, 1, 5, 6, 7] rfl)
                    · skip
                      refine lv_iload hx hb dX3_readOld_191 (lv_at hl 2 rfl) ?_
                      refine lv_goto (tgt := 198) hx hb dX3_readOld_193 (by decide) ?_
                      refine lv_istore (lv' := [(4, .int x5), (7, .int (fX2_codeOfOldByte b x1)), (6, .int b), (5, .int x5), (3, .int x3), (2, .int x2), (1, .int x1), (0, .ref g)]) hx hb dX3_readOld_198 hl (by decide) rfl (fun ls hl => ?_)
                      refine lv_aload_n hx hb dX3_readOld_200 rfl (lv_at hl 7 rfl) ?_
                      refine va_get (D := D) (ci := 4) (v := .ref a8) (C := RX3) (T := TX3) (N := 15) hx hb hts (by decide +kernel) hown hK hP 0 rfl rfl 8 (by decide) (hts (.fieldLink RX3 22 "CharacterRowsModel" "second" "[I") (by decide +kernel)) (fun _ h9 => h9) rfl dX3_readOld_201 ?_
                      refine lv_iload_n hx hb dX3_readOld_204 rfl (lv_at hl 4 rfl) ?_
                      refine lv_iload hx hb dX3_readOld_205 (lv_at hl 1 rfl) ?_
                      refine va_iast hx hb hK hP hD hS 3 2 rfl rfl (rwf_sin p8 (by decide) e3 (by omega)) dX3_readOld_207 (fun H locs hP hD hS => ?_)
                      have hP : va_P D vwCl [(g, .inr (4, [.int th, .ref a1, .int (nI y1.length), .ref a3, .int ct, .ref a5, .int oc, .ref a7, .ref a8, .ref a9, .int wn, .ref aB, .int tn, .int si, .int wg])), (a1, .inl (k1, 200, .inl g1)), (a7, .inl (k7, 400, .inl g7)), (a8, .inl (k8, 400, .inl (upd g8 x3.toNatClampNeg (fX2_codeOfOldByte b x1))))] H := hP
                      have hD : va_D A [(g, .inr (4, [.int th, .ref a1, .int (nI y1.length), .ref a3, .int ct, .ref a5, .int oc, .ref a7, .ref a8, .ref a9, .int wn, .ref aB, .int tn, .int si, .int wg])), (a1, .inl (k1, 200, .inl g1)), (a7, .inl (k7, 400, .inl g7)), (a8, .inl (k8, 400, .inl (upd g8 x3.toNatClampNeg (fX2_codeOfOldByte b x1))))] := hD
                      refine lv_iinc (v := (x3 + 1)) (lv' := [(3, .int (x3 + 1)), (4, .int x5), (7, .int (fX2_codeOfOldByte b x1)), (6, .int b), (5, .int x5), (2, .int x2), (1, .int x1), (0, .ref g)]) hx hb dX3_readOld_208 hl (k := 4) rfl rfl (by decide) rfl (fun ls hl => ?_)
                      refine lv_goto (tgt := 284) hx hb dX3_readOld_211 (by decide) ?_
                      refine lv_iinc (v := (x5 + 1)) (lv' := [(5, .int (x5 + 1)), (3, .int (x3 + 1)), (4, .int x5), (7, .int (fX2_codeOfOldByte b x1)), (6, .int b), (2, .int x2), (1, .int x1), (0, .ref g)]) hx hb dX3_readOld_284 hl (k := 4) rfl rfl (by decide) rfl (fun ls hl => ?_)
                      refine lv_goto (tgt := 12) hx hb dX3_readOld_287 (by decide) ?_
                      have q8 := rwf_snoc (c := fX2_codeOfOldByte b x1) p8 (by decide) e3 (by omega)
                      have q88 := nI_0iff (n := wm.length) (by omega)
                      rw [e3] at c188_7
                      exact ih t (done ++ [b]) _ fr g7 (upd g8 x3.toNatClampNeg (fX2_codeOfOldByte b x1)) _ _ _ _ _ H locs ls (by simp at hn ⊢; omega) (by rw [hy]; simp) (by rw [← hT]; simp [roS, c34_1, c169_7, c184_7, ← q88, c188_7, e5]) (by rw [e5, List.length_append]; exact nI_1 _) (by rw [e3, nI_1]; simp) e2 hs9 p7 q8 (by simp <;> omega) hfr (fun _ => ⟨_, by omega, e5⟩) hP hD hS (lv_sub hl [0, 2, 1, 5, 6, 7] rfl)
                · skip
                  refine lv_aload_n hx hb dX3_readOld_172 rfl (lv_at hl 7 rfl) ?_
                  refine lv_iload hx hb dX3_readOld_173 (lv_at hl 2 rfl) ?_
                  refine clI (wr := [(a1, .inl (k1, 200, .inl g1)), (a7, .inl (k7, 400, .inl g7)), (a8, .inl (k8, 400, .inl g8))]) (va_runV ⟨hx, hb, hml, hown, hts⟩ (KX3_bad l D g a1 a3 a5 a7 a8 a9 aB th (nI y1.length) ct oc wn tn si wg x5 _) (cwV 1 hts gX3_readOld_X3_bad rfl rfl rfl (by decide +kernel) ⟨Nat.le_of_ble_eq_true rfl, Nat.le_of_ble_eq_true rfl⟩) (pcM_V (hP.sub (ws' := [(g, .inr (4, [.int th, .ref a1, .int (nI y1.length), .ref a3, .int ct, .ref a5, .int oc, .ref a7, .ref a8, .ref a9, .int wn, .ref aB, .int tn, .int si, .int wg]))]) [0] rfl) (hD.sub (ws' := [(g, .inr (4, [.int th, .ref a1, .int (nI y1.length), .ref a3, .int ct, .ref a5, .int oc, .ref a7, .ref a8, .ref a9, .int wn, .ref aB, .int tn, .int si, .int wg]))]) [0] (by decide) rfl) (hK.sub (tys' := []) [] rfl) hN 0 rfl rfl) rfl rfl hl.1 rfl (lv_room (Nat.le_of_ble_eq_true rfl)) dX3_readOld_175 ⟨Nat.zero_le _, Nat.zero_le _⟩) hP hD hS hA [0] [1, 2, 3] rfl rfl (by decide) (by decide) (fun r_22 u_22 H locs hw_22 hP hD hS => ?_)
                  subst hw_22
                  have hP : va_P D vwCl [(g, .inr (4, [.int th, .ref a1, .int (nI y1.length), .ref a3, .int ct, .ref a5, .int oc, .ref a7, .ref a8, .ref a9, .int wn, .ref aB, .int tn, .int si, .int x5])), (a1, .inl (k1, 200, .inl g1)), (a7, .inl (k7, 400, .inl g7)), (a8, .inl (k8, 400, .inl g8))] H := hP.sub [3, 0, 1, 2] rfl
                  have hD : va_D A [(g, .inr (4, [.int th, .ref a1, .int (nI y1.length), .ref a3, .int ct, .ref a5, .int oc, .ref a7, .ref a8, .ref a9, .int wn, .ref aB, .int tn, .int si, .int x5])), (a1, .inl (k1, 200, .inl g1)), (a7, .inl (k7, 400, .inl g7)), (a8, .inl (k8, 400, .inl g8))] := hD.sub [3, 0, 1, 2] (by decide) rfl
                  have e8 : (x5, fr) = T := by rw [← hT, e5]; simp [roS, c34_1, c169_7]
                  have hne : ¬ T.1 = -1 := by rw [← e8]; show ¬ x5 = -1; rw [e5]; exact nI_ne1 (by omega)
                  exact rtI hx hb hr hlocks dX3_readOld_178 (g7, g8, x5) ⟨fun q => absurd q hne, fun _ => ⟨rfl, by rw [← e8]⟩⟩ hP hD hS
          · skip
            refine lv_iload hx hb dX3_readOld_37 (lv_at hl 1 rfl) ?_
            refine lv_iconst (v := 2) hx hb dX3_readOld_39 (by decide) ?_
            refine lv_iadd hx hb dX3_readOld_40 ?_
            refine lv_aload_n hx hb dX3_readOld_41 rfl (lv_at hl 6 rfl) ?_
            refine va_get (D := D) (ci := 4) (v := .int (nI y1.length)) (C := RX3) (T := TX3) (N := 15) hx hb hts (by decide +kernel) hown hK hP 0 rfl rfl 2 (by decide) (hts (.fieldLink RX3 39 "CharacterRowsModel" "size" "I") (by decide +kernel)) (fun _ h9 => h9) rfl dX3_readOld_42 ?_
            refine lv_icmp_ge (tgt := 90) hx hb dX3_readOld_45 (by decide) (fun c45_1 => ?_) (fun c45_1 => ?_)
            · skip
              have ht2 : t.length < 2 := by rw [e5, show (2 : Int32) = nI 2 from rfl, nI_add] at c45_1; have := (nI_leI (by omega) (by omega)).mp c45_1; omega
              refine lv_aload_n hx hb dX3_readOld_90 rfl (lv_at hl 6 rfl) ?_
              refine lv_iload hx hb dX3_readOld_91 (lv_at hl 1 rfl) ?_
              refine clI (wr := [(a1, .inl (k1, 200, .inl g1)), (a7, .inl (k7, 400, .inl g7)), (a8, .inl (k8, 400, .inl g8))]) (va_runV ⟨hx, hb, hml, hown, hts⟩ (KX3_bad l D g a1 a3 a5 a7 a8 a9 aB th (nI y1.length) ct oc wn tn si wg x5 _) (cwV 1 hts gX3_readOld_X3_bad rfl rfl rfl (by decide +kernel) ⟨Nat.le_of_ble_eq_true rfl, Nat.le_of_ble_eq_true rfl⟩) (pcM_V (hP.sub (ws' := [(g, .inr (4, [.int th, .ref a1, .int (nI y1.length), .ref a3, .int ct, .ref a5, .int oc, .ref a7, .ref a8, .ref a9, .int wn, .ref aB, .int tn, .int si, .int wg]))]) [0] rfl) (hD.sub (ws' := [(g, .inr (4, [.int th, .ref a1, .int (nI y1.length), .ref a3, .int ct, .ref a5, .int oc, .ref a7, .ref a8, .ref a9, .int wn, .ref aB, .int tn, .int si, .int wg]))]) [0] (by decide) rfl) (hK.sub (tys' := []) [] rfl) hN 0 rfl rfl) rfl rfl hl.1 rfl (lv_room (Nat.le_of_ble_eq_true rfl)) dX3_readOld_93 ⟨Nat.zero_le _, Nat.zero_le _⟩) hP hD hS hA [0] [1, 2, 3] rfl rfl (by decide) (by decide) (fun r_23 u_23 H locs hw_23 hP hD hS => ?_)
              subst hw_23
              have hP : va_P D vwCl [(g, .inr (4, [.int th, .ref a1, .int (nI y1.length), .ref a3, .int ct, .ref a5, .int oc, .ref a7, .ref a8, .ref a9, .int wn, .ref aB, .int tn, .int si, .int x5])), (a1, .inl (k1, 200, .inl g1)), (a7, .inl (k7, 400, .inl g7)), (a8, .inl (k8, 400, .inl g8))] H := hP.sub [3, 0, 1, 2] rfl
              have hD : va_D A [(g, .inr (4, [.int th, .ref a1, .int (nI y1.length), .ref a3, .int ct, .ref a5, .int oc, .ref a7, .ref a8, .ref a9, .int wn, .ref aB, .int tn, .int si, .int x5])), (a1, .inl (k1, 200, .inl g1)), (a7, .inl (k7, 400, .inl g7)), (a8, .inl (k8, 400, .inl g8))] := hD.sub [3, 0, 1, 2] (by decide) rfl
              have q96 : fX2_setOfEscape (gd t 0) (gd t 1) = -1 := by rcases Decidable.em (fX2_setOfEscape (gd t 0) (gd t 1) = -1) with q | q; exact q; exact absurd (esc_len q) (by omega)
              have e8 : (x5, fr) = T := by rw [← hT, e5]; simp [roS, c34_1, q96]
              have hne : ¬ T.1 = -1 := by rw [← e8]; show ¬ x5 = -1; rw [e5]; exact nI_ne1 (by omega)
              exact rtI hx hb hr hlocks dX3_readOld_96 (g7, g8, x5) ⟨fun q => absurd q hne, fun _ => ⟨rfl, by rw [← e8]⟩⟩ hP hD hS
            · skip
              have ht2 : 2 ≤ t.length := by rcases Nat.lt_or_ge t.length 2 with q | q; exact absurd (by rw [e5, show (2 : Int32) = nI 2 from rfl, nI_add]; exact nI_le (by omega) (by omega)) c45_1; exact q
              refine lv_aload_n hx hb dX3_readOld_48 rfl (lv_at hl 6 rfl) ?_
              refine va_get (D := D) (ci := 4) (v := .ref a1) (C := RX3) (T := TX3) (N := 15) hx hb hts (by decide +kernel) hown hK hP 0 rfl rfl 1 (by decide) (hts (.fieldLink RX3 7 "CharacterRowsModel" "collected" "[I") (by decide +kernel)) (fun _ h9 => h9) rfl dX3_readOld_49 ?_
              refine lv_iload hx hb dX3_readOld_52 (lv_at hl 1 rfl) ?_
              refine lv_iconst (v := 1) hx hb dX3_readOld_54 (by decide) ?_
              refine lv_iadd hx hb dX3_readOld_55 ?_
              refine va_iald hx hb hK hP 1 0 rfl rfl (rwf_in (l := done) (r := b :: t) (j := 1) p1 (by decide) hy (by rw [e5, nI_1]) rfl (by simp; omega)) dX3_readOld_56 ?_
              refine lv_topi (fun r9 hr9 => ?_)
              replace hr9 : r9 = (gd t 0) := hr9.trans (rwf_v (l := done) (r := b :: t) (j := 1) p1 (by decide) hy (by rw [e5, nI_1]) rfl (by simp; omega))
              subst r9
              refine lv_bipush (v := 103) hx hb dX3_readOld_57 (by decide) ?_
              refine lv_icmp_ne (tgt := 90) hx hb dX3_readOld_59 (by decide) (fun c59_1 => ?_) (fun c59_1 => ?_)
              · skip
                refine lv_aload_n hx hb dX3_readOld_90 rfl (lv_at hl 6 rfl) ?_
                refine lv_iload hx hb dX3_readOld_91 (lv_at hl 1 rfl) ?_
                refine clI (wr := [(a1, .inl (k1, 200, .inl g1)), (a7, .inl (k7, 400, .inl g7)), (a8, .inl (k8, 400, .inl g8))]) (va_runV ⟨hx, hb, hml, hown, hts⟩ (KX3_bad l D g a1 a3 a5 a7 a8 a9 aB th (nI y1.length) ct oc wn tn si wg x5 _) (cwV 1 hts gX3_readOld_X3_bad rfl rfl rfl (by decide +kernel) ⟨Nat.le_of_ble_eq_true rfl, Nat.le_of_ble_eq_true rfl⟩) (pcM_V (hP.sub (ws' := [(g, .inr (4, [.int th, .ref a1, .int (nI y1.length), .ref a3, .int ct, .ref a5, .int oc, .ref a7, .ref a8, .ref a9, .int wn, .ref aB, .int tn, .int si, .int wg]))]) [0] rfl) (hD.sub (ws' := [(g, .inr (4, [.int th, .ref a1, .int (nI y1.length), .ref a3, .int ct, .ref a5, .int oc, .ref a7, .ref a8, .ref a9, .int wn, .ref aB, .int tn, .int si, .int wg]))]) [0] (by decide) rfl) (hK.sub (tys' := []) [] rfl) hN 0 rfl rfl) rfl rfl hl.1 rfl (lv_room (Nat.le_of_ble_eq_true rfl)) dX3_readOld_93 ⟨Nat.zero_le _, Nat.zero_le _⟩) hP hD hS hA [0] [1, 2, 3] rfl rfl (by decide) (by decide) (fun r_24 u_24 H locs hw_24 hP hD hS => ?_)
                subst hw_24
                have hP : va_P D vwCl [(g, .inr (4, [.int th, .ref a1, .int (nI y1.length), .ref a3, .int ct, .ref a5, .int oc, .ref a7, .ref a8, .ref a9, .int wn, .ref aB, .int tn, .int si, .int x5])), (a1, .inl (k1, 200, .inl g1)), (a7, .inl (k7, 400, .inl g7)), (a8, .inl (k8, 400, .inl g8))] H := hP.sub [3, 0, 1, 2] rfl
                have hD : va_D A [(g, .inr (4, [.int th, .ref a1, .int (nI y1.length), .ref a3, .int ct, .ref a5, .int oc, .ref a7, .ref a8, .ref a9, .int wn, .ref aB, .int tn, .int si, .int x5])), (a1, .inl (k1, 200, .inl g1)), (a7, .inl (k7, 400, .inl g7)), (a8, .inl (k8, 400, .inl g8))] := hD.sub [3, 0, 1, 2] (by decide) rfl
                have q96 : fX2_setOfEscape (gd t 0) (gd t 1) = -1 := esc_no1 c59_1
                have e8 : (x5, fr) = T := by rw [← hT, e5]; simp [roS, c34_1, q96]
                have hne : ¬ T.1 = -1 := by rw [← e8]; show ¬ x5 = -1; rw [e5]; exact nI_ne1 (by omega)
                exact rtI hx hb hr hlocks dX3_readOld_96 (g7, g8, x5) ⟨fun q => absurd q hne, fun _ => ⟨rfl, by rw [← e8]⟩⟩ hP hD hS
              · skip
                refine lv_aload_n hx hb dX3_readOld_62 rfl (lv_at hl 6 rfl) ?_
                refine va_get (D := D) (ci := 4) (v := .ref a1) (C := RX3) (T := TX3) (N := 15) hx hb hts (by decide +kernel) hown hK hP 0 rfl rfl 1 (by decide) (hts (.fieldLink RX3 7 "CharacterRowsModel" "collected" "[I") (by decide +kernel)) (fun _ h9 => h9) rfl dX3_readOld_63 ?_
                refine lv_iload hx hb dX3_readOld_66 (lv_at hl 1 rfl) ?_
                refine lv_iconst (v := 2) hx hb dX3_readOld_68 (by decide) ?_
                refine lv_iadd hx hb dX3_readOld_69 ?_
                refine va_iald hx hb hK hP 1 0 rfl rfl (rwf_in (l := done) (r := b :: t) (j := 2) p1 (by decide) hy (by rw [e5]; exact nI_add _ 2) rfl (by simp; omega)) dX3_readOld_70 ?_
                refine lv_topi (fun r9 hr9 => ?_)
                replace hr9 : r9 = (gd t 1) := hr9.trans (rwf_v (l := done) (r := b :: t) (j := 2) p1 (by decide) hy (by rw [e5]; exact nI_add _ 2) rfl (by simp; omega))
                subst r9
                refine lv_bipush (v := 48) hx hb dX3_readOld_71 (by decide) ?_
                refine lv_icmp_lt (tgt := 90) hx hb dX3_readOld_73 (by decide) (fun c73_1 => ?_) (fun c73_1 => ?_)
                · skip
                  refine lv_aload_n hx hb dX3_readOld_90 rfl (lv_at hl 6 rfl) ?_
                  refine lv_iload hx hb dX3_readOld_91 (lv_at hl 1 rfl) ?_
                  refine clI (wr := [(a1, .inl (k1, 200, .inl g1)), (a7, .inl (k7, 400, .inl g7)), (a8, .inl (k8, 400, .inl g8))]) (va_runV ⟨hx, hb, hml, hown, hts⟩ (KX3_bad l D g a1 a3 a5 a7 a8 a9 aB th (nI y1.length) ct oc wn tn si wg x5 _) (cwV 1 hts gX3_readOld_X3_bad rfl rfl rfl (by decide +kernel) ⟨Nat.le_of_ble_eq_true rfl, Nat.le_of_ble_eq_true rfl⟩) (pcM_V (hP.sub (ws' := [(g, .inr (4, [.int th, .ref a1, .int (nI y1.length), .ref a3, .int ct, .ref a5, .int oc, .ref a7, .ref a8, .ref a9, .int wn, .ref aB, .int tn, .int si, .int wg]))]) [0] rfl) (hD.sub (ws' := [(g, .inr (4, [.int th, .ref a1, .int (nI y1.length), .ref a3, .int ct, .ref a5, .int oc, .ref a7, .ref a8, .ref a9, .int wn, .ref aB, .int tn, .int si, .int wg]))]) [0] (by decide) rfl) (hK.sub (tys' := []) [] rfl) hN 0 rfl rfl) rfl rfl hl.1 rfl (lv_room (Nat.le_of_ble_eq_true rfl)) dX3_readOld_93 ⟨Nat.zero_le _, Nat.zero_le _⟩) hP hD hS hA [0] [1, 2, 3] rfl rfl (by decide) (by decide) (fun r_25 u_25 H locs hw_25 hP hD hS => ?_)
                  subst hw_25
                  have hP : va_P D vwCl [(g, .inr (4, [.int th, .ref a1, .int (nI y1.length), .ref a3, .int ct, .ref a5, .int oc, .ref a7, .ref a8, .ref a9, .int wn, .ref aB, .int tn, .int si, .int x5])), (a1, .inl (k1, 200, .inl g1)), (a7, .inl (k7, 400, .inl g7)), (a8, .inl (k8, 400, .inl g8))] H := hP.sub [3, 0, 1, 2] rfl
                  have hD : va_D A [(g, .inr (4, [.int th, .ref a1, .int (nI y1.length), .ref a3, .int ct, .ref a5, .int oc, .ref a7, .ref a8, .ref a9, .int wn, .ref aB, .int tn, .int si, .int x5])), (a1, .inl (k1, 200, .inl g1)), (a7, .inl (k7, 400, .inl g7)), (a8, .inl (k8, 400, .inl g8))] := hD.sub [3, 0, 1, 2] (by decide) rfl
                  have q96 : fX2_setOfEscape (gd t 0) (gd t 1) = -1 := by rw [c59_1]; exact esc_no2 (gd_byt hby hy 1 (by omega)) (Or.inl c73_1)
                  have e8 : (x5, fr) = T := by rw [← hT, e5]; simp [roS, c34_1, q96]
                  have hne : ¬ T.1 = -1 := by rw [← e8]; show ¬ x5 = -1; rw [e5]; exact nI_ne1 (by omega)
                  exact rtI hx hb hr hlocks dX3_readOld_96 (g7, g8, x5) ⟨fun q => absurd q hne, fun _ => ⟨rfl, by rw [← e8]⟩⟩ hP hD hS
                · skip
                  refine lv_aload_n hx hb dX3_readOld_76 rfl (lv_at hl 6 rfl) ?_
                  refine va_get (D := D) (ci := 4) (v := .ref a1) (C := RX3) (T := TX3) (N := 15) hx hb hts (by decide +kernel) hown hK hP 0 rfl rfl 1 (by decide) (hts (.fieldLink RX3 7 "CharacterRowsModel" "collected" "[I") (by decide +kernel)) (fun _ h9 => h9) rfl dX3_readOld_77 ?_
                  refine lv_iload hx hb dX3_readOld_80 (lv_at hl 1 rfl) ?_
                  refine lv_iconst (v := 2) hx hb dX3_readOld_82 (by decide) ?_
                  refine lv_iadd hx hb dX3_readOld_83 ?_
                  refine va_iald hx hb hK hP 1 0 rfl rfl (rwf_in (l := done) (r := b :: t) (j := 2) p1 (by decide) hy (by rw [e5]; exact nI_add _ 2) rfl (by simp; omega)) dX3_readOld_84 ?_
                  refine lv_topi (fun r9 hr9 => ?_)
                  replace hr9 : r9 = (gd t 1) := hr9.trans (rwf_v (l := done) (r := b :: t) (j := 2) p1 (by decide) hy (by rw [e5]; exact nI_add _ 2) rfl (by simp; omega))
                  subst r9
                  refine lv_bipush (v := 50) hx hb dX3_readOld_85 (by decide) ?_
                  refine lv_icmp_le (tgt := 97) hx hb dX3_readOld_87 (by decide) (fun c87_1 => ?_) (fun c87_1 => ?_)
                  · skip
                    have q5 := esc_yes (gd_byt hby hy 1 (by omega)) c73_1 c87_1
                    refine lv_aload_n hx hb dX3_readOld_97 rfl (lv_at hl 6 rfl) ?_
                    refine va_get (D := D) (ci := 4) (v := .ref a1) (C := RX3) (T := TX3) (N := 15) hx hb hts (by decide +kernel) hown hK hP 0 rfl rfl 1 (by decide) (hts (.fieldLink RX3 7 "CharacterRowsModel" "collected" "[I") (by decide +kernel)) (fun _ h9 => h9) rfl dX3_readOld_98 ?_
                    refine lv_iload hx hb dX3_readOld_101 (lv_at hl 1 rfl) ?_
                    refine lv_iconst (v := 2) hx hb dX3_readOld_103 (by decide) ?_
                    refine lv_iadd hx hb dX3_readOld_104 ?_
                    refine va_iald hx hb hK hP 1 0 rfl rfl (rwf_in (l := done) (r := b :: t) (j := 2) p1 (by decide) hy (by rw [e5]; exact nI_add _ 2) rfl (by simp; omega)) dX3_readOld_105 ?_
                    refine lv_topi (fun r9 hr9 => ?_)
                    replace hr9 : r9 = (gd t 1) := hr9.trans (rwf_v (l := done) (r := b :: t) (j := 2) p1 (by decide) hy (by rw [e5]; exact nI_add _ 2) rfl (by simp; omega))
                    subst r9
                    refine lv_bipush (v := 48) hx hb dX3_readOld_106 (by decide) ?_
                    refine lv_isub hx hb dX3_readOld_108 ?_
                    refine lv_istore_n (lv' := [(1, .int ((gd t 1) - 48)), (6, .int b), (5, .int x5), (4, .int x4), (3, .int x3), (2, .int x2), (0, .ref g)]) hx hb dX3_readOld_109 rfl hl (by decide) rfl (fun ls hl => ?_)
                    refine lv_iinc (v := (x5 + 3)) (lv' := [(5, .int (x5 + 3)), (1, .int ((gd t 1) - 48)), (6, .int b), (4, .int x4), (3, .int x3), (2, .int x2), (0, .ref g)]) hx hb dX3_readOld_110 hl (k := 2) rfl rfl (by decide) rfl (fun ls hl => ?_)
                    refine lv_goto (tgt := 287) hx hb dX3_readOld_113 (by decide) ?_
                    refine lv_goto (tgt := 12) hx hb dX3_readOld_287 (by decide) ?_
                    rw [c34_1] at hT
                    have hT2 := hT
                    simp only [roS, if_true] at hT2
                    rw [c59_1, if_neg q5.2.1, q5.1] at hT2
                    exact ih (t.drop 2) (done ++ b :: t.take 2) wm fr g7 g8 _ _ _ _ _ H locs ls (by simp at hn ⊢; omega) (by rw [hy]; simp) (by rw [← hT2]; simp; congr 1; (try rw [Nat.min_eq_left (by omega)]); (try omega)) (by rw [e5, show (3 : Int32) = nI 3 from rfl, nI_add]; congr 1; simp; omega) e3 e2 q5.2.2 p7 p8 (by simp <;> omega) hfr hfm hP hD hS (lv_sub hl [0, 3, 4, 5, 1, 6] rfl)
                  · skip
                    refine lv_aload_n hx hb dX3_readOld_90 rfl (lv_at hl 6 rfl) ?_
                    refine lv_iload hx hb dX3_readOld_91 (lv_at hl 1 rfl) ?_
                    refine clI (wr := [(a1, .inl (k1, 200, .inl g1)), (a7, .inl (k7, 400, .inl g7)), (a8, .inl (k8, 400, .inl g8))]) (va_runV ⟨hx, hb, hml, hown, hts⟩ (KX3_bad l D g a1 a3 a5 a7 a8 a9 aB th (nI y1.length) ct oc wn tn si wg x5 _) (cwV 1 hts gX3_readOld_X3_bad rfl rfl rfl (by decide +kernel) ⟨Nat.le_of_ble_eq_true rfl, Nat.le_of_ble_eq_true rfl⟩) (pcM_V (hP.sub (ws' := [(g, .inr (4, [.int th, .ref a1, .int (nI y1.length), .ref a3, .int ct, .ref a5, .int oc, .ref a7, .ref a8, .ref a9, .int wn, .ref aB, .int tn, .int si, .int wg]))]) [0] rfl) (hD.sub (ws' := [(g, .inr (4, [.int th, .ref a1, .int (nI y1.length), .ref a3, .int ct, .ref a5, .int oc, .ref a7, .ref a8, .ref a9, .int wn, .ref aB, .int tn, .int si, .int wg]))]) [0] (by decide) rfl) (hK.sub (tys' := []) [] rfl) hN 0 rfl rfl) rfl rfl hl.1 rfl (lv_room (Nat.le_of_ble_eq_true rfl)) dX3_readOld_93 ⟨Nat.zero_le _, Nat.zero_le _⟩) hP hD hS hA [0] [1, 2, 3] rfl rfl (by decide) (by decide) (fun r_26 u_26 H locs hw_26 hP hD hS => ?_)
                    subst hw_26
                    have hP : va_P D vwCl [(g, .inr (4, [.int th, .ref a1, .int (nI y1.length), .ref a3, .int ct, .ref a5, .int oc, .ref a7, .ref a8, .ref a9, .int wn, .ref aB, .int tn, .int si, .int x5])), (a1, .inl (k1, 200, .inl g1)), (a7, .inl (k7, 400, .inl g7)), (a8, .inl (k8, 400, .inl g8))] H := hP.sub [3, 0, 1, 2] rfl
                    have hD : va_D A [(g, .inr (4, [.int th, .ref a1, .int (nI y1.length), .ref a3, .int ct, .ref a5, .int oc, .ref a7, .ref a8, .ref a9, .int wn, .ref aB, .int tn, .int si, .int x5])), (a1, .inl (k1, 200, .inl g1)), (a7, .inl (k7, 400, .inl g7)), (a8, .inl (k8, 400, .inl g8))] := hD.sub [3, 0, 1, 2] (by decide) rfl
                    have q96 : fX2_setOfEscape (gd t 0) (gd t 1) = -1 := by rw [c59_1]; exact esc_no2 (gd_byt hby hy 1 (by omega)) (Or.inr c87_1)
                    have e8 : (x5, fr) = T := by rw [← hT, e5]; simp [roS, c34_1, q96]
                    have hne : ¬ T.1 = -1 := by rw [← e8]; show ¬ x5 = -1; rw [e5]; exact nI_ne1 (by omega)
                    exact rtI hx hb hr hlocks dX3_readOld_96 (g7, g8, x5) ⟨fun q => absurd q hne, fun _ => ⟨rfl, by rw [← e8]⟩⟩ hP hD hS
  exact loop (y1.length + 1) y1 [] [] [] g7 g8 _ _ _ _ _ _ _ ls (Nat.lt_succ_self _) rfl hT rfl rfl rfl ⟨0, by decide, rfl⟩ rw_nil rw_nil (Nat.le_refl _) (Nat.zero_le _) (fun q => absurd rfl q) hP hD hS (lv_sub hl [0, 1, 2, 3, 4, 5] rfl)
