/-! the rows of codes: the methods with loops -/
set_option maxHeartbeats 4000000 in
set_option maxRecDepth 100000 in
theorem KX0_addAll (l : Launch) (D : va_G) (h a : Nat) (cA : ClassId) (f : Nat → Int32) (xs : List Int32) (hok : rw_ok f 200 xs) (g b : Nat) (cB : ClassId) (f2 : Nat → Int32) (ys : List Int32) (hok2 : rw_ok f2 200 ys) (T : List Int32) (hT : ys.foldl (rw_add 200) xs = T) (sz : Nat) : Met l yX0_addAll wsX0_addAll ({ frames := 1, cells := 0, slots := 0, locals := 21 }) (pcM D sz [(h, .inr (1, [.ref a, .int (nI xs.length)])), (a, .inl (cA, 200, .inl f)), (g, .inr (1, [.ref b, .int (nI ys.length)])), (b, .inl (cB, 200, .inl f2))] [(cA, .int), (cB, .int)] [.ref h, .ref g]) (qcV (S := Nat → Int32) D (fun u => rw_ok u 200 T) (fun u => [(h, .inr (1, [.ref a, .int (nI T.length)])), (a, .inl (cA, 200, .inl u)), (g, .inr (1, [.ref b, .int (nI ys.length)])), (b, .inl (cB, 200, .inl f2))]) (va_A [(h, .inr (1, [.ref a, .int (nI xs.length)])), (a, .inl (cA, 200, .inl f)), (g, .inr (1, [.ref b, .int (nI ys.length)])), (b, .inl (cB, 200, .inl f2))] sz)) 0 0 (va_A [(h, .inr (1, [.ref a, .int (nI xs.length)])), (a, .inl (cA, 200, .inl f)), (g, .inr (1, [.ref b, .int (nI ys.length)])), (b, .inl (cB, 200, .inl f2))] sz) := by
  refine ofM (Qc := fun A => qcV (S := Nat → Int32) D (fun u => rw_ok u 200 T) (fun u => [(h, .inr (1, [.ref a, .int (nI T.length)])), (a, .inl (cA, 200, .inl u)), (g, .inr (1, [.ref b, .int (nI ys.length)])), (b, .inl (cB, 200, .inl f2))]) A) (cc := cX0_addAll) (maxL := 3) (ret := none) (by decide) rfl (Nat.le_of_ble_eq_true rfl) ?_
  intro p e s m below meth c ls A hx hb hr hml hown hts hlocks hnm hP hK hN hD hA hS hl
  have hl : lv_has ls 3 [(0, .ref h), (1, .ref g)] := hl
  refine lv_iconst (v := 0) hx hb dX0_addAll_0 (by decide) ?_
  refine lv_istore_n (lv' := [(2, .int 0), (0, .ref h), (1, .ref g)]) hx hb dX0_addAll_1 rfl hl (by decide) rfl (fun ls hl => ?_)
  have loop : ∀ (rest : List Int32) (done xs : List Int32) (f : Nat → Int32) (x2 : Int32) (H : Heap) (locs : List Loc) (ls : Array Slot), ys = done ++ rest → x2 = nI done.length → rw_ok f 200 xs → rest.foldl (rw_add 200) xs = T → va_P D vwCl [(h, .inr (1, [.ref a, .int (nI xs.length)])), (a, .inl (cA, 200, .inl f)), (g, .inr (1, [.ref b, .int (nI ys.length)])), (b, .inl (cB, 200, .inl f2))] H → va_D A [(h, .inr (1, [.ref a, .int (nI xs.length)])), (a, .inl (cA, 200, .inl f)), (g, .inr (1, [.ref b, .int (nI ys.length)])), (b, .inl (cB, 200, .inl f2))] → va_S A s.heap H locs → lv_has ls 3 [(2, .int x2), (0, .ref h), (1, .ref g)] → W p l e ({ frames := 1, cells := 0, slots := 0, locals := 21 }) s m ([.ref h, .ref g] : List Value).toArray below meth c H locs 0 0 (MQ below (qcV (S := Nat → Int32) D (fun u => rw_ok u 200 T) (fun u => [(h, .inr (1, [.ref a, .int (nI T.length)])), (a, .inl (cA, 200, .inl u)), (g, .inr (1, [.ref b, .int (nI ys.length)])), (b, .inl (cB, 200, .inl f2))]) A) ([.ref h, .ref g] : List Value).toArray s 0 0 A) (F0 m 2 ls [])  := by
    intro rest
    induction rest with
    | nil =>
      intro done xs f x2 H locs ls hys e2 hok hT hP hD hS hl
      have hln : ys.length = done.length := by rw [hys]; simp
      refine lv_iload_n hx hb dX0_addAll_2 rfl (lv_at hl 0 rfl) ?_
      refine lv_aload_n hx hb dX0_addAll_3 rfl (lv_at hl 2 rfl) ?_
      refine va_get (D := D) (ci := 1) (v := .int (nI ys.length)) (C := RX0) (T := TX0) (N := 2) hx hb hts (by decide +kernel) hown hK hP 2 rfl rfl 1 (by decide) (hts (.fieldLink RX0 15 "CharacterRows$Codes" "length" "I") (by decide +kernel)) (fun _ h9 => h9) rfl dX0_addAll_4 ?_
      refine lv_icmp_ge (tgt := 25) hx hb dX0_addAll_7 (by decide) (fun c7_1 => ?_) (fun c7_1 => ?_)
      · skip
        have hT : xs = T := hT
        rw [hT] at hok hP hD
        exact rtV hx hb hr hlocks dX0_addAll_25 f hok hP hD hS
      · skip
        exact absurd (by rw [e2, hln]; exact Int32.le_refl _) c7_1
    | cons d t ih =>
      intro done xs f x2 H locs ls hys e2 hok hT hP hD hS hl
      have hln : ys.length = done.length + (t.length + 1) := by rw [hys]; simp
      have h200 := hok2.1
      refine lv_iload_n hx hb dX0_addAll_2 rfl (lv_at hl 0 rfl) ?_
      refine lv_aload_n hx hb dX0_addAll_3 rfl (lv_at hl 2 rfl) ?_
      refine va_get (D := D) (ci := 1) (v := .int (nI ys.length)) (C := RX0) (T := TX0) (N := 2) hx hb hts (by decide +kernel) hown hK hP 2 rfl rfl 1 (by decide) (hts (.fieldLink RX0 15 "CharacterRows$Codes" "length" "I") (by decide +kernel)) (fun _ h9 => h9) rfl dX0_addAll_4 ?_
      refine lv_icmp_ge (tgt := 25) hx hb dX0_addAll_7 (by decide) (fun c7_2 => ?_) (fun c7_2 => ?_)
      · skip
        exact absurd c7_2 (by rw [e2, hln]; exact nI_ge (by omega) (by omega))
      · skip
        refine lv_aload_n hx hb dX0_addAll_10 rfl (lv_at hl 1 rfl) ?_
        refine lv_aload_n hx hb dX0_addAll_11 rfl (lv_at hl 2 rfl) ?_
        refine lv_iload_n hx hb dX0_addAll_12 rfl (lv_at hl 0 rfl) ?_
        refine vp_callSi (W.runV ⟨hx, hb, hml, hown, hts⟩ (KX0_at l D g b cB f2 ys hok2 x2) (cwV 1 hts gX0_addAll_X0_at rfl rfl rfl (by decide +kernel) ⟨Nat.le_of_ble_eq_true rfl, Nat.le_of_ble_eq_true rfl⟩) (pcR_V (hP.sub (ws' := [(g, .inr (1, [.ref b, .int (nI ys.length)])), (b, .inl (cB, 200, .inl f2))]) [2, 3] rfl) (hK.sub (tys' := [(cB, .int)]) [1] rfl) hN 0 rfl rfl) rfl rfl hl.1 rfl (lv_room (Nat.le_of_ble_eq_true rfl)) dX0_addAll_13 ⟨Nat.zero_le _, Nat.zero_le _⟩) (fun r9 hr9 => ?_)
        replace hr9 : r9 = d := hr9.trans (by rw [hys, e2]; exact rw_at_k rfl (by omega))
        subst r9
        refine clV (wr := [(g, .inr (1, [.ref b, .int (nI ys.length)])), (b, .inl (cB, 200, .inl f2))]) (va_runV ⟨hx, hb, hml, hown, hts⟩ (KX0_add l D h a cA f xs hok d _) (cwV 1 hts gX0_addAll_X0_add rfl rfl rfl (by decide +kernel) ⟨Nat.le_of_ble_eq_true rfl, Nat.le_of_ble_eq_true rfl⟩) (pcM_V (hP.sub (ws' := [(h, .inr (1, [.ref a, .int (nI xs.length)])), (a, .inl (cA, 200, .inl f))]) [0, 1] rfl) (hD.sub (ws' := [(h, .inr (1, [.ref a, .int (nI xs.length)])), (a, .inl (cA, 200, .inl f))]) [0, 1] (by decide) rfl) (hK.sub (tys' := [(cA, .int)]) [0] rfl) hN 0 rfl rfl) rfl rfl hl.1 rfl (lv_room (Nat.le_of_ble_eq_true rfl)) dX0_addAll_16 ⟨Nat.zero_le _, Nat.zero_le _⟩) hP hD hS hA [0, 1] [2, 3] rfl rfl (by decide) (by decide) (fun u_1 H locs hw_1 hP hD hS => ?_)
        have hP : va_P D vwCl [(h, .inr (1, [.ref a, .int (nI (rw_add 200 xs d).length)])), (a, .inl (cA, 200, .inl u_1)), (g, .inr (1, [.ref b, .int (nI ys.length)])), (b, .inl (cB, 200, .inl f2))] H := hP.sub [2, 3, 0, 1] rfl
        have hD : va_D A [(h, .inr (1, [.ref a, .int (nI (rw_add 200 xs d).length)])), (a, .inl (cA, 200, .inl u_1)), (g, .inr (1, [.ref b, .int (nI ys.length)])), (b, .inl (cB, 200, .inl f2))] := hD.sub [2, 3, 0, 1] (by decide) rfl
        refine lv_iinc (v := (x2 + 1)) (lv' := [(2, .int (x2 + 1)), (0, .ref h), (1, .ref g)]) hx hb dX0_addAll_19 hl (k := 0) rfl rfl (by decide) rfl (fun ls hl => ?_)
        refine lv_goto (tgt := 2) hx hb dX0_addAll_22 (by decide) ?_
        exact ih (done ++ [d]) _ u_1 _ H locs ls (by rw [hys]; simp) (by rw [e2, List.length_append]; exact nI_1 _) hw_1 (by rw [← hT]; rfl) hP hD hS (lv_sub hl [0, 1, 2] rfl)
  exact loop ys [] xs f _ _ _ _ rfl rfl hok hT hP hD hS (lv_sub hl [0, 1, 2] rfl)
set_option maxHeartbeats 4000000 in
set_option maxRecDepth 100000 in
theorem KX0_moveAhead (l : Launch) (D : va_G) (h a : Nat) (cA : ClassId) (f : Nat → Int32) (rp : List Int32) (c0 : Int32) (sr : List Int32) (hok : rw_ok f 200 (rp.reverse ++ c0 :: sr)) (sz : Nat) : Met l yX0_moveAhead wsX0_moveAhead ({ frames := 1, cells := 0, slots := 0, locals := 22 }) (pcM D sz [(h, .inr (1, [.ref a, .int (nI (rp.reverse ++ c0 :: sr).length)])), (a, .inl (cA, 200, .inl f))] [(cA, .int)] [.ref h, .int (nI rp.length)]) (qcV (S := Nat → Int32) D (fun u => rw_ok u 200 ((rv_ins c0 rp).reverse ++ sr)) (fun u => [(h, .inr (1, [.ref a, .int (nI ((rv_ins c0 rp).reverse ++ sr).length)])), (a, .inl (cA, 200, .inl u))]) (va_A [(h, .inr (1, [.ref a, .int (nI (rp.reverse ++ c0 :: sr).length)])), (a, .inl (cA, 200, .inl f))] sz)) 0 0 (va_A [(h, .inr (1, [.ref a, .int (nI (rp.reverse ++ c0 :: sr).length)])), (a, .inl (cA, 200, .inl f))] sz) := by
  refine ofM (Qc := fun A => qcV (S := Nat → Int32) D (fun u => rw_ok u 200 ((rv_ins c0 rp).reverse ++ sr)) (fun u => [(h, .inr (1, [.ref a, .int (nI ((rv_ins c0 rp).reverse ++ sr).length)])), (a, .inl (cA, 200, .inl u))]) A) (cc := cX0_moveAhead) (maxL := 4) (ret := none) (by decide) rfl (Nat.le_of_ble_eq_true rfl) ?_
  intro p e s m below meth c ls A hx hb hr hml hown hts hlocks hnm hP hK hN hD hA hS hl
  have hl : lv_has ls 4 [(0, .ref h), (1, .int (nI rp.length))] := hl
  have h200 : rp.length + sr.length + 1 ≤ 200 := by have := hok.1; simp at this; omega
  refine lv_aload_n hx hb dX0_moveAhead_0 rfl (lv_at hl 0 rfl) ?_
  refine lv_iload_n hx hb dX0_moveAhead_1 rfl (lv_at hl 1 rfl) ?_
  refine vp_callSi (W.runV ⟨hx, hb, hml, hown, hts⟩ (KX0_at l D h a cA f (rp.reverse ++ c0 :: sr) hok (nI rp.length)) (cwV 1 hts gX0_moveAhead_X0_at rfl rfl rfl (by decide +kernel) ⟨Nat.le_of_ble_eq_true rfl, Nat.le_of_ble_eq_true rfl⟩) (pcR_V (hP.sub (ws' := [(h, .inr (1, [.ref a, .int (nI (rp.reverse ++ c0 :: sr).length)])), (a, .inl (cA, 200, .inl f))]) [0, 1] rfl) (hK.sub (tys' := [(cA, .int)]) [0] rfl) hN 0 rfl rfl) rfl rfl hl.1 rfl (lv_room (Nat.le_of_ble_eq_true rfl)) dX0_moveAhead_2 ⟨Nat.zero_le _, Nat.zero_le _⟩) (fun r9 hr9 => ?_)
  replace hr9 : r9 = c0 := hr9.trans (rw_at_k (by simp) (by omega))
  subst r9
  refine lv_istore_n (lv' := [(2, .int c0), (0, .ref h), (1, .int (nI rp.length))]) hx hb dX0_moveAhead_5 rfl hl (by decide) rfl (fun ls hl => ?_)
  refine lv_iload_n hx hb dX0_moveAhead_6 rfl (lv_at hl 2 rfl) ?_
  refine lv_istore_n (lv' := [(3, .int (nI rp.length)), (2, .int c0), (0, .ref h), (1, .int (nI rp.length))]) hx hb dX0_moveAhead_7 rfl hl (by decide) rfl (fun ls hl => ?_)
  have loop : ∀ (rq : List Int32) (z : Int32) (sq : List Int32) (f : Nat → Int32) (x3 : Int32) (H : Heap) (locs : List Loc) (ls : Array Slot), (rv_ins c0 rq).reverse ++ sq = ((rv_ins c0 rp).reverse ++ sr) → x3 = nI rq.length → rw_ok f 200 (rq.reverse ++ z :: sq) → va_P D vwCl [(h, .inr (1, [.ref a, .int (nI (rq.reverse ++ z :: sq).length)])), (a, .inl (cA, 200, .inl f))] H → va_D A [(h, .inr (1, [.ref a, .int (nI (rq.reverse ++ z :: sq).length)])), (a, .inl (cA, 200, .inl f))] → va_S A s.heap H locs → lv_has ls 4 [(3, .int x3), (2, .int c0), (0, .ref h), (1, .int (nI rp.length))] → W p l e ({ frames := 1, cells := 0, slots := 0, locals := 22 }) s m ([.ref h, .int (nI rp.length)] : List Value).toArray below meth c H locs 0 0 (MQ below (qcV (S := Nat → Int32) D (fun u => rw_ok u 200 ((rv_ins c0 rp).reverse ++ sr)) (fun u => [(h, .inr (1, [.ref a, .int (nI ((rv_ins c0 rp).reverse ++ sr).length)])), (a, .inl (cA, 200, .inl u))]) A) ([.ref h, .int (nI rp.length)] : List Value).toArray s 0 0 A) (F0 m 8 ls [])  := by
    intro rq
    induction rq with
    | nil =>
      intro z sq f x3 H locs ls hT e3 hok hP hD hS hl
      refine lv_iload_n hx hb dX0_moveAhead_8 rfl (lv_at hl 0 rfl) ?_
      refine lv_if_le (tgt := 60) hx hb dX0_moveAhead_9 (by decide) (fun c9_1 => ?_) (fun c9_1 => ?_)
      · skip
        refine lv_aload_n hx hb dX0_moveAhead_60 rfl (lv_at hl 2 rfl) ?_
        refine lv_iload_n hx hb dX0_moveAhead_61 rfl (lv_at hl 0 rfl) ?_
        refine lv_iload_n hx hb dX0_moveAhead_62 rfl (lv_at hl 1 rfl) ?_
        refine clV (wr := []) (va_runV ⟨hx, hb, hml, hown, hts⟩ (KX0_put l D h a cA f (([] : List Int32).reverse ++ z :: sq) hok x3 c0 _) (cwV 2 hts gX0_moveAhead_X0_put rfl rfl rfl (by decide +kernel) ⟨Nat.le_of_ble_eq_true rfl, Nat.le_of_ble_eq_true rfl⟩) (pcM_V (hP.sub (ws' := [(h, .inr (1, [.ref a, .int (nI (([] : List Int32).reverse ++ z :: sq).length)])), (a, .inl (cA, 200, .inl f))]) [0, 1] rfl) (hD.sub (ws' := [(h, .inr (1, [.ref a, .int (nI (([] : List Int32).reverse ++ z :: sq).length)])), (a, .inl (cA, 200, .inl f))]) [0, 1] (by decide) rfl) (hK.sub (tys' := [(cA, .int)]) [0] rfl) hN 0 rfl rfl) rfl rfl hl.1 rfl (lv_room (Nat.le_of_ble_eq_true rfl)) dX0_moveAhead_63 ⟨Nat.zero_le _, Nat.zero_le _⟩) hP hD hS hA [0, 1] [] rfl rfl (by decide) (by decide) (fun u_1 H locs hw_1 hP hD hS => ?_)
        have e9_1 : (rw_put (([] : List Int32).reverse ++ z :: sq) x3 c0) = (c0 :: sq) := (by rw [e3]; exact rw_put_k (l := []) rfl (by decide))
        rw [e9_1] at hw_1 hP hD
        have hP : va_P D vwCl [(h, .inr (1, [.ref a, .int (nI (c0 :: sq).length)])), (a, .inl (cA, 200, .inl u_1))] H := hP.sub [0, 1] rfl
        have hD : va_D A [(h, .inr (1, [.ref a, .int (nI (c0 :: sq).length)])), (a, .inl (cA, 200, .inl u_1))] := hD.sub [0, 1] (by decide) rfl
        have e8 : (c0 :: sq) = ((rv_ins c0 rp).reverse ++ sr) := by rw [← hT]; simp [rv_ins]
        rw [e8] at hw_1 hP hD
        exact rtV hx hb hr hlocks dX0_moveAhead_66 u_1 hw_1 hP hD hS
      · skip
        exact absurd (by rw [e3]; decide) c9_1
    | cons d t ih =>
      intro z sq f x3 H locs ls hT e3 hok hP hD hS hl
      have hln : t.length + sq.length + 2 ≤ 200 := by have := hok.1; simp at this; omega
      refine lv_iload_n hx hb dX0_moveAhead_8 rfl (lv_at hl 0 rfl) ?_
      refine lv_if_le (tgt := 60) hx hb dX0_moveAhead_9 (by decide) (fun c9_2 => ?_) (fun c9_2 => ?_)
      · skip
        exact absurd c9_2 (by rw [e3]; exact nI_nle (by simp) (by simp; omega))
      · skip
        refine lv_aload_n hx hb dX0_moveAhead_12 rfl (lv_at hl 2 rfl) ?_
        refine lv_iload_n hx hb dX0_moveAhead_13 rfl (lv_at hl 0 rfl) ?_
        refine lv_iconst (v := 1) hx hb dX0_moveAhead_14 (by decide) ?_
        refine lv_isub hx hb dX0_moveAhead_15 ?_
        refine vp_callSi (W.runV ⟨hx, hb, hml, hown, hts⟩ (KX0_at l D h a cA f ((d :: t).reverse ++ z :: sq) hok (x3 - 1)) (cwV 1 hts gX0_moveAhead_X0_at rfl rfl rfl (by decide +kernel) ⟨Nat.le_of_ble_eq_true rfl, Nat.le_of_ble_eq_true rfl⟩) (pcR_V (hP.sub (ws' := [(h, .inr (1, [.ref a, .int (nI ((d :: t).reverse ++ z :: sq).length)])), (a, .inl (cA, 200, .inl f))]) [0, 1] rfl) (hK.sub (tys' := [(cA, .int)]) [0] rfl) hN 0 rfl rfl) rfl rfl hl.1 rfl (lv_room (Nat.le_of_ble_eq_true rfl)) dX0_moveAhead_16 ⟨Nat.zero_le _, Nat.zero_le _⟩) (fun r9 hr9 => ?_)
        replace hr9 : r9 = d := hr9.trans (mv_at e3 (by omega))
        subst r9
        refine vp_callSi ((va_runSN ⟨hx, hb, hml, hown, hts⟩ (KX2_isMark l d) ⟨va_cnB 1 hts gX0_moveAhead_X2_isMark_n27 rfl rfl rfl (nst_at hN 2 rfl) (hts (.initialized RX2) (by decide +kernel)) (by decide +kernel) ⟨Nat.le_of_ble_eq_true rfl, Nat.le_of_ble_eq_true rfl⟩, (hts (.static yX2_isMark) (by decide +kernel)), trivial⟩ pcS_S rfl rfl hl.1 rfl (lv_room (Nat.le_of_ble_eq_true rfl)) dX0_moveAhead_19 ⟨Nat.zero_le _, Nat.zero_le _⟩).run) (fun r9 hr9 => ?_)
        subst r9
        refine lv_if_eq (tgt := 60) hx hb dX0_moveAhead_22 (by decide) (fun c22_1 => ?_) (fun c22_1 => ?_)
        · skip
          refine lv_aload_n hx hb dX0_moveAhead_60 rfl (lv_at hl 2 rfl) ?_
          refine lv_iload_n hx hb dX0_moveAhead_61 rfl (lv_at hl 0 rfl) ?_
          refine lv_iload_n hx hb dX0_moveAhead_62 rfl (lv_at hl 1 rfl) ?_
          refine clV (wr := []) (va_runV ⟨hx, hb, hml, hown, hts⟩ (KX0_put l D h a cA f ((d :: t).reverse ++ z :: sq) hok x3 c0 _) (cwV 2 hts gX0_moveAhead_X0_put rfl rfl rfl (by decide +kernel) ⟨Nat.le_of_ble_eq_true rfl, Nat.le_of_ble_eq_true rfl⟩) (pcM_V (hP.sub (ws' := [(h, .inr (1, [.ref a, .int (nI ((d :: t).reverse ++ z :: sq).length)])), (a, .inl (cA, 200, .inl f))]) [0, 1] rfl) (hD.sub (ws' := [(h, .inr (1, [.ref a, .int (nI ((d :: t).reverse ++ z :: sq).length)])), (a, .inl (cA, 200, .inl f))]) [0, 1] (by decide) rfl) (hK.sub (tys' := [(cA, .int)]) [0] rfl) hN 0 rfl rfl) rfl rfl hl.1 rfl (lv_room (Nat.le_of_ble_eq_true rfl)) dX0_moveAhead_63 ⟨Nat.zero_le _, Nat.zero_le _⟩) hP hD hS hA [0, 1] [] rfl rfl (by decide) (by decide) (fun u_2 H locs hw_2 hP hD hS => ?_)
          have e9_2 : (rw_put ((d :: t).reverse ++ z :: sq) x3 c0) = (t.reverse ++ d :: (c0 :: sq)) := (mv_put e3 (by omega))
          rw [e9_2] at hw_2 hP hD
          have hP : va_P D vwCl [(h, .inr (1, [.ref a, .int (nI (t.reverse ++ d :: (c0 :: sq)).length)])), (a, .inl (cA, 200, .inl u_2))] H := hP.sub [0, 1] rfl
          have hD : va_D A [(h, .inr (1, [.ref a, .int (nI (t.reverse ++ d :: (c0 :: sq)).length)])), (a, .inl (cA, 200, .inl u_2))] := hD.sub [0, 1] (by decide) rfl
          have e8 : (t.reverse ++ d :: (c0 :: sq)) = ((rv_ins c0 rp).reverse ++ sr) := by rw [← hT]; simp [rv_ins, c22_1]
          rw [e8] at hw_2 hP hD
          exact rtV hx hb hr hlocks dX0_moveAhead_66 u_2 hw_2 hP hD hS
        · skip
          refine lv_aload_n hx hb dX0_moveAhead_25 rfl (lv_at hl 2 rfl) ?_
          refine lv_iload_n hx hb dX0_moveAhead_26 rfl (lv_at hl 0 rfl) ?_
          refine lv_iconst (v := 1) hx hb dX0_moveAhead_27 (by decide) ?_
          refine lv_isub hx hb dX0_moveAhead_28 ?_
          refine vp_callSi (W.runV ⟨hx, hb, hml, hown, hts⟩ (KX0_at l D h a cA f ((d :: t).reverse ++ z :: sq) hok (x3 - 1)) (cwV 1 hts gX0_moveAhead_X0_at rfl rfl rfl (by decide +kernel) ⟨Nat.le_of_ble_eq_true rfl, Nat.le_of_ble_eq_true rfl⟩) (pcR_V (hP.sub (ws' := [(h, .inr (1, [.ref a, .int (nI ((d :: t).reverse ++ z :: sq).length)])), (a, .inl (cA, 200, .inl f))]) [0, 1] rfl) (hK.sub (tys' := [(cA, .int)]) [0] rfl) hN 0 rfl rfl) rfl rfl hl.1 rfl (lv_room (Nat.le_of_ble_eq_true rfl)) dX0_moveAhead_29 ⟨Nat.zero_le _, Nat.zero_le _⟩) (fun r9 hr9 => ?_)
          replace hr9 : r9 = d := hr9.trans (mv_at e3 (by omega))
          subst r9
          refine vp_callSi ((va_runSN ⟨hx, hb, hml, hown, hts⟩ (KX2_rankOf l d) ⟨va_cnB 1 hts gX0_moveAhead_X2_rankOf_n34 rfl rfl rfl (nst_at hN 3 rfl) (hts (.initialized RX2) (by decide +kernel)) (by decide +kernel) ⟨Nat.le_of_ble_eq_true rfl, Nat.le_of_ble_eq_true rfl⟩, (hts (.static yX2_rankOf) (by decide +kernel)), trivial⟩ pcS_S rfl rfl hl.1 rfl (lv_room (Nat.le_of_ble_eq_true rfl)) dX0_moveAhead_32 ⟨Nat.zero_le _, Nat.zero_le _⟩).run) (fun r9 hr9 => ?_)
          subst r9
          refine lv_iload_n hx hb dX0_moveAhead_35 rfl (lv_at hl 1 rfl) ?_
          refine vp_callSi ((va_runSN ⟨hx, hb, hml, hown, hts⟩ (KX2_rankOf l c0) ⟨va_cnB 1 hts gX0_moveAhead_X2_rankOf_n34 rfl rfl rfl (nst_at hN 3 rfl) (hts (.initialized RX2) (by decide +kernel)) (by decide +kernel) ⟨Nat.le_of_ble_eq_true rfl, Nat.le_of_ble_eq_true rfl⟩, (hts (.static yX2_rankOf) (by decide +kernel)), trivial⟩ pcS_S rfl rfl hl.1 rfl (lv_room (Nat.le_of_ble_eq_true rfl)) dX0_moveAhead_36 ⟨Nat.zero_le _, Nat.zero_le _⟩).run) (fun r9 hr9 => ?_)
          subst r9
          refine lv_icmp_le (tgt := 60) hx hb dX0_moveAhead_39 (by decide) (fun c39_1 => ?_) (fun c39_1 => ?_)
          · skip
            refine lv_aload_n hx hb dX0_moveAhead_60 rfl (lv_at hl 2 rfl) ?_
            refine lv_iload_n hx hb dX0_moveAhead_61 rfl (lv_at hl 0 rfl) ?_
            refine lv_iload_n hx hb dX0_moveAhead_62 rfl (lv_at hl 1 rfl) ?_
            refine clV (wr := []) (va_runV ⟨hx, hb, hml, hown, hts⟩ (KX0_put l D h a cA f ((d :: t).reverse ++ z :: sq) hok x3 c0 _) (cwV 2 hts gX0_moveAhead_X0_put rfl rfl rfl (by decide +kernel) ⟨Nat.le_of_ble_eq_true rfl, Nat.le_of_ble_eq_true rfl⟩) (pcM_V (hP.sub (ws' := [(h, .inr (1, [.ref a, .int (nI ((d :: t).reverse ++ z :: sq).length)])), (a, .inl (cA, 200, .inl f))]) [0, 1] rfl) (hD.sub (ws' := [(h, .inr (1, [.ref a, .int (nI ((d :: t).reverse ++ z :: sq).length)])), (a, .inl (cA, 200, .inl f))]) [0, 1] (by decide) rfl) (hK.sub (tys' := [(cA, .int)]) [0] rfl) hN 0 rfl rfl) rfl rfl hl.1 rfl (lv_room (Nat.le_of_ble_eq_true rfl)) dX0_moveAhead_63 ⟨Nat.zero_le _, Nat.zero_le _⟩) hP hD hS hA [0, 1] [] rfl rfl (by decide) (by decide) (fun u_3 H locs hw_3 hP hD hS => ?_)
            have e9_3 : (rw_put ((d :: t).reverse ++ z :: sq) x3 c0) = (t.reverse ++ d :: (c0 :: sq)) := (mv_put e3 (by omega))
            rw [e9_3] at hw_3 hP hD
            have hP : va_P D vwCl [(h, .inr (1, [.ref a, .int (nI (t.reverse ++ d :: (c0 :: sq)).length)])), (a, .inl (cA, 200, .inl u_3))] H := hP.sub [0, 1] rfl
            have hD : va_D A [(h, .inr (1, [.ref a, .int (nI (t.reverse ++ d :: (c0 :: sq)).length)])), (a, .inl (cA, 200, .inl u_3))] := hD.sub [0, 1] (by decide) rfl
            have e8 : (t.reverse ++ d :: (c0 :: sq)) = ((rv_ins c0 rp).reverse ++ sr) := by rw [← hT]; simp [rv_ins, c22_1, c39_1]
            rw [e8] at hw_3 hP hD
            exact rtV hx hb hr hlocks dX0_moveAhead_66 u_3 hw_3 hP hD hS
          · skip
            refine lv_aload_n hx hb dX0_moveAhead_42 rfl (lv_at hl 2 rfl) ?_
            refine lv_iload_n hx hb dX0_moveAhead_43 rfl (lv_at hl 0 rfl) ?_
            refine lv_aload_n hx hb dX0_moveAhead_44 rfl (lv_at hl 2 rfl) ?_
            refine lv_iload_n hx hb dX0_moveAhead_45 rfl (lv_at hl 0 rfl) ?_
            refine lv_iconst (v := 1) hx hb dX0_moveAhead_46 (by decide) ?_
            refine lv_isub hx hb dX0_moveAhead_47 ?_
            refine vp_callSi (W.runV ⟨hx, hb, hml, hown, hts⟩ (KX0_at l D h a cA f ((d :: t).reverse ++ z :: sq) hok (x3 - 1)) (cwV 1 hts gX0_moveAhead_X0_at rfl rfl rfl (by decide +kernel) ⟨Nat.le_of_ble_eq_true rfl, Nat.le_of_ble_eq_true rfl⟩) (pcR_V (hP.sub (ws' := [(h, .inr (1, [.ref a, .int (nI ((d :: t).reverse ++ z :: sq).length)])), (a, .inl (cA, 200, .inl f))]) [0, 1] rfl) (hK.sub (tys' := [(cA, .int)]) [0] rfl) hN 0 rfl rfl) rfl rfl hl.1 rfl (lv_room (Nat.le_of_ble_eq_true rfl)) dX0_moveAhead_48 ⟨Nat.zero_le _, Nat.zero_le _⟩) (fun r9 hr9 => ?_)
            replace hr9 : r9 = d := hr9.trans (mv_at e3 (by omega))
            subst r9
            refine clV (wr := []) (va_runV ⟨hx, hb, hml, hown, hts⟩ (KX0_put l D h a cA f ((d :: t).reverse ++ z :: sq) hok x3 d _) (cwV 2 hts gX0_moveAhead_X0_put rfl rfl rfl (by decide +kernel) ⟨Nat.le_of_ble_eq_true rfl, Nat.le_of_ble_eq_true rfl⟩) (pcM_V (hP.sub (ws' := [(h, .inr (1, [.ref a, .int (nI ((d :: t).reverse ++ z :: sq).length)])), (a, .inl (cA, 200, .inl f))]) [0, 1] rfl) (hD.sub (ws' := [(h, .inr (1, [.ref a, .int (nI ((d :: t).reverse ++ z :: sq).length)])), (a, .inl (cA, 200, .inl f))]) [0, 1] (by decide) rfl) (hK.sub (tys' := [(cA, .int)]) [0] rfl) hN 0 rfl rfl) rfl rfl hl.1 rfl (lv_room (Nat.le_of_ble_eq_true rfl)) dX0_moveAhead_51 ⟨Nat.zero_le _, Nat.zero_le _⟩) hP hD hS hA [0, 1] [] rfl rfl (by decide) (by decide) (fun u_4 H locs hw_4 hP hD hS => ?_)
            have e9_4 : (rw_put ((d :: t).reverse ++ z :: sq) x3 d) = (t.reverse ++ d :: (d :: sq)) := (mv_put e3 (by omega))
            rw [e9_4] at hw_4 hP hD
            have hP : va_P D vwCl [(h, .inr (1, [.ref a, .int (nI (t.reverse ++ d :: (d :: sq)).length)])), (a, .inl (cA, 200, .inl u_4))] H := hP.sub [0, 1] rfl
            have hD : va_D A [(h, .inr (1, [.ref a, .int (nI (t.reverse ++ d :: (d :: sq)).length)])), (a, .inl (cA, 200, .inl u_4))] := hD.sub [0, 1] (by decide) rfl
            refine lv_iinc (v := (x3 + (-1))) (lv' := [(3, .int (x3 + (-1))), (2, .int c0), (0, .ref h), (1, .int (nI rp.length))]) hx hb dX0_moveAhead_54 hl (k := 0) rfl rfl (by decide) rfl (fun ls hl => ?_)
            refine lv_goto (tgt := 8) hx hb dX0_moveAhead_57 (by decide) ?_
            exact ih d (d :: sq) u_4 _ H locs ls (by rw [← hT]; simp [rv_ins, c22_1, c39_1]) (by rw [e3, List.length_cons]; exact pk_m1 _) hw_4 hP hD hS (lv_sub hl [0, 1, 2, 3] rfl)
  exact loop rp c0 sr f _ _ _ _ rfl rfl hok hP hD hS (lv_sub hl [0, 1, 2, 3] rfl)
