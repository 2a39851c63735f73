/-! the rows of codes: order, taking apart, putting together, counting -/
set_option maxHeartbeats 4000000 in
set_option maxRecDepth 100000 in
theorem KX0_putInOrder (l : Launch) (D : va_G) (h a : Nat) (cA : ClassId) (f : Nat → Int32) (xs : List Int32) (hok : rw_ok f 200 xs) (T : List Int32) (hT : ordr xs = T) (sz : Nat) : Met l yX0_putInOrder wsX0_putInOrder ({ frames := 2, cells := 0, slots := 0, locals := 45 }) (pcM D sz [(h, .inr (1, [.ref a, .int (nI xs.length)])), (a, .inl (cA, 200, .inl f))] [(cA, .int)] [.ref h]) (qcV (S := Nat → Int32) D (fun u => rw_ok u 200 T) (fun u => [(h, .inr (1, [.ref a, .int (nI T.length)])), (a, .inl (cA, 200, .inl u))]) (va_A [(h, .inr (1, [.ref a, .int (nI xs.length)])), (a, .inl (cA, 200, .inl f))] sz)) 0 0 (va_A [(h, .inr (1, [.ref a, .int (nI xs.length)])), (a, .inl (cA, 200, .inl f))] sz) := by
  refine ofM (Qc := fun A => qcV (S := Nat → Int32) D (fun u => rw_ok u 200 T) (fun u => [(h, .inr (1, [.ref a, .int (nI T.length)])), (a, .inl (cA, 200, .inl u))]) A) (cc := cX0_putInOrder) (maxL := 2) (ret := none) (by decide) rfl (Nat.le_of_ble_eq_true rfl) ?_
  intro p e s m below meth c ls A hx hb hr hml hown hts hlocks hnm hP hK hN hD hA hS hl
  have hl : lv_has ls 2 [(0, .ref h)] := hl
  rcases xs with _ | ⟨x0, t0⟩
  · skip
    refine lv_iconst (v := 1) hx hb dX0_putInOrder_0 (by decide) ?_
    refine lv_istore_n (lv' := [(1, .int 1), (0, .ref h)]) hx hb dX0_putInOrder_1 rfl hl (by decide) rfl (fun ls hl => ?_)
    refine lv_iload_n hx hb dX0_putInOrder_2 rfl (lv_at hl 0 rfl) ?_
    refine lv_aload_n hx hb dX0_putInOrder_3 rfl (lv_at hl 1 rfl) ?_
    refine va_get (D := D) (ci := 1) (v := .int (nI ([] : List Int32).length)) (C := RX0) (T := TX0) (N := 2) hx hb hts (by decide +kernel) hown hK hP 0 rfl rfl 1 (by decide) (hts (.fieldLink RX0 15 "CharacterRows$Codes" "length" "I") (by decide +kernel)) (fun _ h9 => h9) rfl dX0_putInOrder_4 ?_
    refine lv_icmp_ge (tgt := 32) hx hb dX0_putInOrder_7 (by decide) (fun c7_1 => ?_) (fun c7_1 => ?_)
    · skip
      exact rtV hx hb hr hlocks dX0_putInOrder_32 f (by rw [← hT]; exact rw_nil) (by rw [← hT]; exact hP) (by rw [← hT]; exact hD) hS
    · skip
      exact absurd (by decide) c7_1
  · skip
    refine lv_iconst (v := 1) hx hb dX0_putInOrder_0 (by decide) ?_
    refine lv_istore_n (lv' := [(1, .int 1), (0, .ref h)]) hx hb dX0_putInOrder_1 rfl hl (by decide) rfl (fun ls hl => ?_)
    have loop : ∀ (rest : List Int32) (racc : List Int32) (f : Nat → Int32) (x1 : Int32) (H : Heap) (locs : List Loc) (ls : Array Slot), (rest.foldl rv_stp racc).reverse = T → x1 = nI racc.length → rw_ok f 200 (racc.reverse ++ rest) → va_P D vwCl [(h, .inr (1, [.ref a, .int (nI (racc.reverse ++ rest).length)])), (a, .inl (cA, 200, .inl f))] H → va_D A [(h, .inr (1, [.ref a, .int (nI (racc.reverse ++ rest).length)])), (a, .inl (cA, 200, .inl f))] → va_S A s.heap H locs → lv_has ls 2 [(1, .int x1), (0, .ref h)] → W p l e ({ frames := 2, cells := 0, slots := 0, locals := 45 }) s m ([.ref h] : List Value).toArray below meth c H locs 0 0 (MQ below (qcV (S := Nat → Int32) D (fun u => rw_ok u 200 T) (fun u => [(h, .inr (1, [.ref a, .int (nI T.length)])), (a, .inl (cA, 200, .inl u))]) A) ([.ref h] : List Value).toArray s 0 0 A) (F0 m 2 ls [])  := by
      intro rest
      induction rest with
      | nil =>
        intro racc f x1 H locs ls hT e1 hok hP hD hS hl
        refine lv_iload_n hx hb dX0_putInOrder_2 rfl (lv_at hl 0 rfl) ?_
        refine lv_aload_n hx hb dX0_putInOrder_3 rfl (lv_at hl 1 rfl) ?_
        refine va_get (D := D) (ci := 1) (v := .int (nI (racc.reverse ++ ([] : List Int32)).length)) (C := RX0) (T := TX0) (N := 2) hx hb hts (by decide +kernel) hown hK hP 0 rfl rfl 1 (by decide) (hts (.fieldLink RX0 15 "CharacterRows$Codes" "length" "I") (by decide +kernel)) (fun _ h9 => h9) rfl dX0_putInOrder_4 ?_
        refine lv_icmp_ge (tgt := 32) hx hb dX0_putInOrder_7 (by decide) (fun c7_2 => ?_) (fun c7_2 => ?_)
        · skip
          have e8 : (racc.reverse ++ ([] : List Int32)) = T := by rw [← hT]; simp
          rw [e8] at hok hP hD
          exact rtV hx hb hr hlocks dX0_putInOrder_32 f hok hP hD hS
        · skip
          exact absurd (by rw [e1]; simp) c7_2
      | cons d t ih =>
        intro racc f x1 H locs ls hT e1 hok hP hD hS hl
        have hln : racc.length + t.length + 1 ≤ 200 := by have := hok.1; simp at this; omega
        refine lv_iload_n hx hb dX0_putInOrder_2 rfl (lv_at hl 0 rfl) ?_
        refine lv_aload_n hx hb dX0_putInOrder_3 rfl (lv_at hl 1 rfl) ?_
        refine va_get (D := D) (ci := 1) (v := .int (nI (racc.reverse ++ (d :: t)).length)) (C := RX0) (T := TX0) (N := 2) hx hb hts (by decide +kernel) hown hK hP 0 rfl rfl 1 (by decide) (hts (.fieldLink RX0 15 "CharacterRows$Codes" "length" "I") (by decide +kernel)) (fun _ h9 => h9) rfl dX0_putInOrder_4 ?_
        refine lv_icmp_ge (tgt := 32) hx hb dX0_putInOrder_7 (by decide) (fun c7_3 => ?_) (fun c7_3 => ?_)
        · skip
          exact absurd c7_3 (by rw [e1]; exact nI_ge (by simp) (by simp; omega))
        · skip
          refine lv_aload_n hx hb dX0_putInOrder_10 rfl (lv_at hl 1 rfl) ?_
          refine lv_iload_n hx hb dX0_putInOrder_11 rfl (lv_at hl 0 rfl) ?_
          refine vp_callSi (W.runV ⟨hx, hb, hml, hown, hts⟩ (KX0_at l D h a cA f (racc.reverse ++ (d :: t)) hok x1) (cwV 1 hts gX0_putInOrder_X0_at rfl rfl rfl (by decide +kernel) ⟨Nat.le_of_ble_eq_true rfl, Nat.le_of_ble_eq_true rfl⟩) (pcR_V (hP.sub (ws' := [(h, .inr (1, [.ref a, .int (nI (racc.reverse ++ (d :: t)).length)])), (a, .inl (cA, 200, .inl f))]) [0, 1] rfl) (hK.sub (tys' := [(cA, .int)]) [0] rfl) hN 0 rfl rfl) rfl rfl hl.1 rfl (lv_room (Nat.le_of_ble_eq_true rfl)) dX0_putInOrder_12 ⟨Nat.zero_le _, Nat.zero_le _⟩) (fun r9 hr9 => ?_)
          replace hr9 : r9 = d := hr9.trans (by rw [e1]; exact rw_at_k (by simp) (by omega))
          subst r9
          refine vp_callSi ((va_runSN ⟨hx, hb, hml, hown, hts⟩ (KX2_isMark l d) ⟨va_cnB 1 hts gX0_putInOrder_X2_isMark_n27 rfl rfl rfl (nst_at hN 2 rfl) (hts (.initialized RX2) (by decide +kernel)) (by decide +kernel) ⟨Nat.le_of_ble_eq_true rfl, Nat.le_of_ble_eq_true rfl⟩, (hts (.static yX2_isMark) (by decide +kernel)), trivial⟩ pcS_S rfl rfl hl.1 rfl (lv_room (Nat.le_of_ble_eq_true rfl)) dX0_putInOrder_15 ⟨Nat.zero_le _, Nat.zero_le _⟩).run) (fun r9 hr9 => ?_)
          subst r9
          refine lv_if_eq (tgt := 26) hx hb dX0_putInOrder_18 (by decide) (fun c18_1 => ?_) (fun c18_1 => ?_)
          · skip
            have e7 : racc.reverse ++ d :: t = (d :: racc).reverse ++ t := by simp
            rw [e7] at hok hP hD
            refine lv_iinc (v := (x1 + 1)) (lv' := [(1, .int (x1 + 1)), (0, .ref h)]) hx hb dX0_putInOrder_26 hl (k := 0) rfl rfl (by decide) rfl (fun ls hl => ?_)
            refine lv_goto (tgt := 2) hx hb dX0_putInOrder_29 (by decide) ?_
            exact ih (d :: racc) f _ H locs ls (by rw [← hT]; simp [rv_stp, c18_1]) (by rw [e1, List.length_cons]; exact nI_1 _) hok hP hD hS (lv_sub hl [0, 1] rfl)
          · skip
            subst e1
            refine lv_aload_n hx hb dX0_putInOrder_21 rfl (lv_at hl 1 rfl) ?_
            refine lv_iload_n hx hb dX0_putInOrder_22 rfl (lv_at hl 0 rfl) ?_
            refine clV (wr := []) (va_runV ⟨hx, hb, hml, hown, hts⟩ (KX0_moveAhead l D h a cA f racc d t hok _) (cwV 1 hts gX0_putInOrder_X0_moveAhead rfl rfl rfl (by decide +kernel) ⟨Nat.le_of_ble_eq_true rfl, Nat.le_of_ble_eq_true rfl⟩) (pcM_V (hP.sub (ws' := [(h, .inr (1, [.ref a, .int (nI (racc.reverse ++ (d :: t)).length)])), (a, .inl (cA, 200, .inl f))]) [0, 1] rfl) (hD.sub (ws' := [(h, .inr (1, [.ref a, .int (nI (racc.reverse ++ (d :: t)).length)])), (a, .inl (cA, 200, .inl f))]) [0, 1] (by decide) rfl) (hK.sub (tys' := [(cA, .int)]) [0] rfl) hN 0 rfl rfl) rfl rfl hl.1 rfl (lv_room (Nat.le_of_ble_eq_true rfl)) dX0_putInOrder_23 ⟨Nat.zero_le _, Nat.zero_le _⟩) hP hD hS hA [0, 1] [] rfl rfl (by decide) (by decide) (fun u_1 H locs hw_1 hP hD hS => ?_)
            have hP : va_P D vwCl [(h, .inr (1, [.ref a, .int (nI ((rv_ins d racc).reverse ++ t).length)])), (a, .inl (cA, 200, .inl u_1))] H := hP.sub [0, 1] rfl
            have hD : va_D A [(h, .inr (1, [.ref a, .int (nI ((rv_ins d racc).reverse ++ t).length)])), (a, .inl (cA, 200, .inl u_1))] := hD.sub [0, 1] (by decide) rfl
            refine lv_iinc (v := ((nI racc.length) + 1)) (lv' := [(1, .int ((nI racc.length) + 1)), (0, .ref h)]) hx hb dX0_putInOrder_26 hl (k := 0) rfl rfl (by decide) rfl (fun ls hl => ?_)
            refine lv_goto (tgt := 2) hx hb dX0_putInOrder_29 (by decide) ?_
            exact ih (rv_ins d racc) u_1 _ H locs ls (by rw [← hT]; simp [rv_stp, c18_1]) (by rw [rv_ins_len]; exact nI_1 _) hw_1 hP hD hS (lv_sub hl [0, 1] rfl)
    exact loop t0 [x0] f _ _ _ _ (by rw [← hT]; by_cases q : fX2_isMark x0 = 0 <;> simp [ordr, rv_stp, rv_ins, q]) rfl hok hP hD hS (lv_sub hl [0, 1] rfl)
set_option maxHeartbeats 4000000 in
set_option maxRecDepth 100000 in
theorem KX0_takeApart (l : Launch) (D : va_G) (h a : Nat) (cA : ClassId) (f : Nat → Int32) (xs : List Int32) (hok : rw_ok f 200 xs) (g b : Nat) (cB : ClassId) (f2 : Nat → Int32) (ys : List Int32) (hok2 : rw_ok f2 200 ys) (h100 : ys.length ≤ 100) (sz : Nat) : Met l yX0_takeApart wsX0_takeApart ({ frames := 3, cells := 0, slots := 0, locals := 66 }) (pcM D sz [(h, .inr (1, [.ref a, .int (nI xs.length)])), (a, .inl (cA, 200, .inl f)), (g, .inr (1, [.ref b, .int (nI ys.length)])), (b, .inl (cB, 200, .inl f2))] [(cA, .int), (cB, .int)] [.ref h, .ref g]) (qcV (S := Nat → Int32) D (fun u => rw_ok u 200 (apo ys)) (fun u => [(h, .inr (1, [.ref a, .int (nI (apo ys).length)])), (a, .inl (cA, 200, .inl u)), (g, .inr (1, [.ref b, .int (nI ys.length)])), (b, .inl (cB, 200, .inl f2))]) (va_A [(h, .inr (1, [.ref a, .int (nI xs.length)])), (a, .inl (cA, 200, .inl f)), (g, .inr (1, [.ref b, .int (nI ys.length)])), (b, .inl (cB, 200, .inl f2))] sz)) 0 0 (va_A [(h, .inr (1, [.ref a, .int (nI xs.length)])), (a, .inl (cA, 200, .inl f)), (g, .inr (1, [.ref b, .int (nI ys.length)])), (b, .inl (cB, 200, .inl f2))] sz) := by
  refine ofM (Qc := fun A => qcV (S := Nat → Int32) D (fun u => rw_ok u 200 (apo ys)) (fun u => [(h, .inr (1, [.ref a, .int (nI (apo ys).length)])), (a, .inl (cA, 200, .inl u)), (g, .inr (1, [.ref b, .int (nI ys.length)])), (b, .inl (cB, 200, .inl f2))]) A) (cc := cX0_takeApart) (maxL := 4) (ret := none) (by decide) rfl (Nat.le_of_ble_eq_true rfl) ?_
  intro p e s m below meth c ls A hx hb hr hml hown hts hlocks hnm hP hK hN hD hA hS hl
  have hl : lv_has ls 4 [(0, .ref h), (1, .ref g)] := hl
  refine lv_aload_n hx hb dX0_takeApart_0 rfl (lv_at hl 0 rfl) ?_
  refine clV (wr := [(g, .inr (1, [.ref b, .int (nI ys.length)])), (b, .inl (cB, 200, .inl f2))]) (va_runV ⟨hx, hb, hml, hown, hts⟩ (KX0_empty l D h a cA f xs hok _) (cwV 0 hts gX0_takeApart_X0_empty rfl rfl rfl (by decide +kernel) ⟨Nat.le_of_ble_eq_true rfl, Nat.le_of_ble_eq_true rfl⟩) (pcM_V (hP.sub (ws' := [(h, .inr (1, [.ref a, .int (nI xs.length)])), (a, .inl (cA, 200, .inl f))]) [0, 1] rfl) (hD.sub (ws' := [(h, .inr (1, [.ref a, .int (nI xs.length)])), (a, .inl (cA, 200, .inl f))]) [0, 1] (by decide) rfl) (hK.sub (tys' := [(cA, .int)]) [0] rfl) hN 0 rfl rfl) rfl rfl hl.1 rfl (lv_room (Nat.le_of_ble_eq_true rfl)) dX0_takeApart_1 ⟨Nat.zero_le _, Nat.zero_le _⟩) hP hD hS hA [0, 1] [2, 3] rfl rfl (by decide) (by decide) (fun u_1 H locs hw_1 hP hD hS => ?_)
  have hP : va_P D vwCl [(h, .inr (1, [.ref a, .int (nI ([] : List Int32).length)])), (a, .inl (cA, 200, .inl u_1)), (g, .inr (1, [.ref b, .int (nI ys.length)])), (b, .inl (cB, 200, .inl f2))] H := hP.sub [2, 3, 0, 1] rfl
  have hD : va_D A [(h, .inr (1, [.ref a, .int (nI ([] : List Int32).length)])), (a, .inl (cA, 200, .inl u_1)), (g, .inr (1, [.ref b, .int (nI ys.length)])), (b, .inl (cB, 200, .inl f2))] := hD.sub [2, 3, 0, 1] (by decide) rfl
  refine lv_iconst (v := 0) hx hb dX0_takeApart_4 (by decide) ?_
  refine lv_istore_n (lv' := [(2, .int 0), (0, .ref h), (1, .ref g)]) hx hb dX0_takeApart_5 rfl hl (by decide) rfl (fun ls hl => ?_)
  have loop : ∀ (rest : List Int32) (done : List Int32) (f : Nat → Int32) (x2 : Int32) (H : Heap) (locs : List Loc) (ls : Array Slot), ys = done ++ rest → x2 = nI done.length → rw_ok f 200 (apt done) → va_P D vwCl [(h, .inr (1, [.ref a, .int (nI (apt done).length)])), (a, .inl (cA, 200, .inl f)), (g, .inr (1, [.ref b, .int (nI ys.length)])), (b, .inl (cB, 200, .inl f2))] H → va_D A [(h, .inr (1, [.ref a, .int (nI (apt done).length)])), (a, .inl (cA, 200, .inl f)), (g, .inr (1, [.ref b, .int (nI ys.length)])), (b, .inl (cB, 200, .inl f2))] → va_S A s.heap H locs → lv_has ls 4 [(2, .int x2), (0, .ref h), (1, .ref g)] → W p l e ({ frames := 3, cells := 0, slots := 0, locals := 66 }) s m ([.ref h, .ref g] : List Value).toArray below meth c H locs 0 0 (MQ below (qcV (S := Nat → Int32) D (fun u => rw_ok u 200 (apo ys)) (fun u => [(h, .inr (1, [.ref a, .int (nI (apo ys).length)])), (a, .inl (cA, 200, .inl u)), (g, .inr (1, [.ref b, .int (nI ys.length)])), (b, .inl (cB, 200, .inl f2))]) A) ([.ref h, .ref g] : List Value).toArray s 0 0 A) (F0 m 6 ls [])  := by
    intro rest
    induction rest with
    | nil =>
      intro done f x2 H locs ls hys e2 hok hP hD hS hl
      have hln : ys.length = done.length := by rw [hys]; simp
      have hdn : ys = done := by rw [hys]; simp
      refine lv_iload_n hx hb dX0_takeApart_6 rfl (lv_at hl 0 rfl) ?_
      refine lv_aload_n hx hb dX0_takeApart_7 rfl (lv_at hl 2 rfl) ?_
      refine va_get (D := D) (ci := 1) (v := .int (nI ys.length)) (C := RX0) (T := TX0) (N := 2) hx hb hts (by decide +kernel) hown hK hP 2 rfl rfl 1 (by decide) (hts (.fieldLink RX0 15 "CharacterRows$Codes" "length" "I") (by decide +kernel)) (fun _ h9 => h9) rfl dX0_takeApart_8 ?_
      refine lv_icmp_ge (tgt := 57) hx hb dX0_takeApart_11 (by decide) (fun c11_1 => ?_) (fun c11_1 => ?_)
      · skip
        refine lv_aload_n hx hb dX0_takeApart_57 rfl (lv_at hl 1 rfl) ?_
        refine clV (wr := [(g, .inr (1, [.ref b, .int (nI ys.length)])), (b, .inl (cB, 200, .inl f2))]) (va_runV ⟨hx, hb, hml, hown, hts⟩ (KX0_putInOrder l D h a cA f (apt done) hok (ordr (apt done)) rfl _) (cwV 0 hts gX0_takeApart_X0_putInOrder rfl rfl rfl (by decide +kernel) ⟨Nat.le_of_ble_eq_true rfl, Nat.le_of_ble_eq_true rfl⟩) (pcM_V (hP.sub (ws' := [(h, .inr (1, [.ref a, .int (nI (apt done).length)])), (a, .inl (cA, 200, .inl f))]) [0, 1] rfl) (hD.sub (ws' := [(h, .inr (1, [.ref a, .int (nI (apt done).length)])), (a, .inl (cA, 200, .inl f))]) [0, 1] (by decide) rfl) (hK.sub (tys' := [(cA, .int)]) [0] rfl) hN 0 rfl rfl) rfl rfl hl.1 rfl (lv_room (Nat.le_of_ble_eq_true rfl)) dX0_takeApart_58 ⟨Nat.zero_le _, Nat.zero_le _⟩) hP hD hS hA [0, 1] [2, 3] rfl rfl (by decide) (by decide) (fun u_2 H locs hw_2 hP hD hS => ?_)
        have hP : va_P D vwCl [(h, .inr (1, [.ref a, .int (nI (ordr (apt done)).length)])), (a, .inl (cA, 200, .inl u_2)), (g, .inr (1, [.ref b, .int (nI ys.length)])), (b, .inl (cB, 200, .inl f2))] H := hP.sub [2, 3, 0, 1] rfl
        have hD : va_D A [(h, .inr (1, [.ref a, .int (nI (ordr (apt done)).length)])), (a, .inl (cA, 200, .inl u_2)), (g, .inr (1, [.ref b, .int (nI ys.length)])), (b, .inl (cB, 200, .inl f2))] := hD.sub [2, 3, 0, 1] (by decide) rfl
        rw [← hdn] at hw_2 hP hD
        exact rtV hx hb hr hlocks dX0_takeApart_61 u_2 hw_2 hP hD hS
      · skip
        exact absurd (by rw [e2, hln]; exact Int32.le_refl _) c11_1
    | cons d t ih =>
      intro done f x2 H locs ls hys e2 hok hP hD hS hl
      have hln : ys.length = done.length + (t.length + 1) := by rw [hys]; simp
      have hap := apt_len done
      refine lv_iload_n hx hb dX0_takeApart_6 rfl (lv_at hl 0 rfl) ?_
      refine lv_aload_n hx hb dX0_takeApart_7 rfl (lv_at hl 2 rfl) ?_
      refine va_get (D := D) (ci := 1) (v := .int (nI ys.length)) (C := RX0) (T := TX0) (N := 2) hx hb hts (by decide +kernel) hown hK hP 2 rfl rfl 1 (by decide) (hts (.fieldLink RX0 15 "CharacterRows$Codes" "length" "I") (by decide +kernel)) (fun _ h9 => h9) rfl dX0_takeApart_8 ?_
      refine lv_icmp_ge (tgt := 57) hx hb dX0_takeApart_11 (by decide) (fun c11_2 => ?_) (fun c11_2 => ?_)
      · skip
        exact absurd c11_2 (by rw [e2, hln]; exact nI_ge (by omega) (by omega))
      · skip
        refine lv_aload_n hx hb dX0_takeApart_14 rfl (lv_at hl 2 rfl) ?_
        refine lv_iload_n hx hb dX0_takeApart_15 rfl (lv_at hl 0 rfl) ?_
        refine vp_callSi (W.runV ⟨hx, hb, hml, hown, hts⟩ (KX0_at l D g b cB f2 ys hok2 x2) (cwV 1 hts gX0_takeApart_X0_at rfl rfl rfl (by decide +kernel) ⟨Nat.le_of_ble_eq_true rfl, Nat.le_of_ble_eq_true rfl⟩) (pcR_V (hP.sub (ws' := [(g, .inr (1, [.ref b, .int (nI ys.length)])), (b, .inl (cB, 200, .inl f2))]) [2, 3] rfl) (hK.sub (tys' := [(cB, .int)]) [1] rfl) hN 0 rfl rfl) rfl rfl hl.1 rfl (lv_room (Nat.le_of_ble_eq_true rfl)) dX0_takeApart_16 ⟨Nat.zero_le _, Nat.zero_le _⟩) (fun r9 hr9 => ?_)
        replace hr9 : r9 = d := hr9.trans (by rw [hys, e2]; exact rw_at_k rfl (by omega))
        subst r9
        refine lv_istore_n (lv' := [(3, .int d), (2, .int x2), (0, .ref h), (1, .ref g)]) hx hb dX0_takeApart_19 rfl hl (by decide) rfl (fun ls hl => ?_)
        refine lv_iload_n hx hb dX0_takeApart_20 rfl (lv_at hl 0 rfl) ?_
        refine vp_callSi ((va_runSN ⟨hx, hb, hml, hown, hts⟩ (KX2_isComposed l d) ⟨va_cnB 1 hts gX0_takeApart_X2_isComposed_n44 rfl rfl rfl (nst_at hN 4 rfl) (hts (.initialized RX2) (by decide +kernel)) (by decide +kernel) ⟨Nat.le_of_ble_eq_true rfl, Nat.le_of_ble_eq_true rfl⟩, (hts (.static yX2_isComposed) (by decide +kernel)), trivial⟩ pcS_S rfl rfl hl.1 rfl (lv_room (Nat.le_of_ble_eq_true rfl)) dX0_takeApart_21 ⟨Nat.zero_le _, Nat.zero_le _⟩).run) (fun r9 hr9 => ?_)
        subst r9
        refine lv_if_eq (tgt := 46) hx hb dX0_takeApart_24 (by decide) (fun c24_1 => ?_) (fun c24_1 => ?_)
        · skip
          refine lv_aload_n hx hb dX0_takeApart_46 rfl (lv_at hl 2 rfl) ?_
          refine lv_iload_n hx hb dX0_takeApart_47 rfl (lv_at hl 0 rfl) ?_
          refine clV (wr := [(g, .inr (1, [.ref b, .int (nI ys.length)])), (b, .inl (cB, 200, .inl f2))]) (va_runV ⟨hx, hb, hml, hown, hts⟩ (KX0_add l D h a cA f (apt done) hok d _) (cwV 1 hts gX0_takeApart_X0_add rfl rfl rfl (by decide +kernel) ⟨Nat.le_of_ble_eq_true rfl, Nat.le_of_ble_eq_true rfl⟩) (pcM_V (hP.sub (ws' := [(h, .inr (1, [.ref a, .int (nI (apt done).length)])), (a, .inl (cA, 200, .inl f))]) [0, 1] rfl) (hD.sub (ws' := [(h, .inr (1, [.ref a, .int (nI (apt done).length)])), (a, .inl (cA, 200, .inl f))]) [0, 1] (by decide) rfl) (hK.sub (tys' := [(cA, .int)]) [0] rfl) hN 0 rfl rfl) rfl rfl hl.1 rfl (lv_room (Nat.le_of_ble_eq_true rfl)) dX0_takeApart_48 ⟨Nat.zero_le _, Nat.zero_le _⟩) hP hD hS hA [0, 1] [2, 3] rfl rfl (by decide) (by decide) (fun u_3 H locs hw_3 hP hD hS => ?_)
          have e9_1 : (rw_add 200 (apt done) d) = (apt done ++ [d]) := (rw_add_lt (by first | omega | (simp; omega)))
          rw [e9_1] at hw_3 hP hD
          have hP : va_P D vwCl [(h, .inr (1, [.ref a, .int (nI (apt done ++ [d]).length)])), (a, .inl (cA, 200, .inl u_3)), (g, .inr (1, [.ref b, .int (nI ys.length)])), (b, .inl (cB, 200, .inl f2))] H := hP.sub [2, 3, 0, 1] rfl
          have hD : va_D A [(h, .inr (1, [.ref a, .int (nI (apt done ++ [d]).length)])), (a, .inl (cA, 200, .inl u_3)), (g, .inr (1, [.ref b, .int (nI ys.length)])), (b, .inl (cB, 200, .inl f2))] := hD.sub [2, 3, 0, 1] (by decide) rfl
          refine lv_iinc (v := (x2 + 1)) (lv' := [(2, .int (x2 + 1)), (3, .int d), (0, .ref h), (1, .ref g)]) hx hb dX0_takeApart_51 hl (k := 1) rfl rfl (by decide) rfl (fun ls hl => ?_)
          refine lv_goto (tgt := 6) hx hb dX0_takeApart_54 (by decide) ?_
          have e7 : (apt done ++ [d]) = apt (done ++ [d]) := by simp [apt, ap1, c24_1]
          rw [e7] at hw_3 hP hD
          exact ih (done ++ [d]) u_3 _ H locs ls (by rw [hys]; simp) (by rw [e2, List.length_append]; exact nI_1 _) hw_3 hP hD hS (lv_sub hl [0, 2, 3] rfl)
        · skip
          refine lv_aload_n hx hb dX0_takeApart_27 rfl (lv_at hl 2 rfl) ?_
          refine lv_iload_n hx hb dX0_takeApart_28 rfl (lv_at hl 0 rfl) ?_
          refine vp_callSi ((va_runSN ⟨hx, hb, hml, hown, hts⟩ (KX2_letterOf l d) ⟨va_cnB 1 hts gX0_takeApart_X2_letterOf_n47 rfl rfl rfl (nst_at hN 5 rfl) (hts (.initialized RX2) (by decide +kernel)) (by decide +kernel) ⟨Nat.le_of_ble_eq_true rfl, Nat.le_of_ble_eq_true rfl⟩, (hts (.static yX2_letterOf) (by decide +kernel)), trivial⟩ pcS_S rfl rfl hl.1 rfl (lv_room (Nat.le_of_ble_eq_true rfl)) dX0_takeApart_29 ⟨Nat.zero_le _, Nat.zero_le _⟩).run) (fun r9 hr9 => ?_)
          subst r9
          refine clV (wr := [(g, .inr (1, [.ref b, .int (nI ys.length)])), (b, .inl (cB, 200, .inl f2))]) (va_runV ⟨hx, hb, hml, hown, hts⟩ (KX0_add l D h a cA f (apt done) hok (fX2_letterOf d) _) (cwV 1 hts gX0_takeApart_X0_add rfl rfl rfl (by decide +kernel) ⟨Nat.le_of_ble_eq_true rfl, Nat.le_of_ble_eq_true rfl⟩) (pcM_V (hP.sub (ws' := [(h, .inr (1, [.ref a, .int (nI (apt done).length)])), (a, .inl (cA, 200, .inl f))]) [0, 1] rfl) (hD.sub (ws' := [(h, .inr (1, [.ref a, .int (nI (apt done).length)])), (a, .inl (cA, 200, .inl f))]) [0, 1] (by decide) rfl) (hK.sub (tys' := [(cA, .int)]) [0] rfl) hN 0 rfl rfl) rfl rfl hl.1 rfl (lv_room (Nat.le_of_ble_eq_true rfl)) dX0_takeApart_32 ⟨Nat.zero_le _, Nat.zero_le _⟩) hP hD hS hA [0, 1] [2, 3] rfl rfl (by decide) (by decide) (fun u_4 H locs hw_4 hP hD hS => ?_)
          have e9_2 : (rw_add 200 (apt done) (fX2_letterOf d)) = (apt done ++ [fX2_letterOf d]) := (rw_add_lt (by first | omega | (simp; omega)))
          rw [e9_2] at hw_4 hP hD
          have hP : va_P D vwCl [(h, .inr (1, [.ref a, .int (nI (apt done ++ [fX2_letterOf d]).length)])), (a, .inl (cA, 200, .inl u_4)), (g, .inr (1, [.ref b, .int (nI ys.length)])), (b, .inl (cB, 200, .inl f2))] H := hP.sub [2, 3, 0, 1] rfl
          have hD : va_D A [(h, .inr (1, [.ref a, .int (nI (apt done ++ [fX2_letterOf d]).length)])), (a, .inl (cA, 200, .inl u_4)), (g, .inr (1, [.ref b, .int (nI ys.length)])), (b, .inl (cB, 200, .inl f2))] := hD.sub [2, 3, 0, 1] (by decide) rfl
          refine lv_aload_n hx hb dX0_takeApart_35 rfl (lv_at hl 2 rfl) ?_
          refine lv_iload_n hx hb dX0_takeApart_36 rfl (lv_at hl 0 rfl) ?_
          refine vp_callSi ((va_runSN ⟨hx, hb, hml, hown, hts⟩ (KX2_markOf l d) ⟨va_cnB 1 hts gX0_takeApart_X2_markOf_n50 rfl rfl rfl (nst_at hN 6 rfl) (hts (.initialized RX2) (by decide +kernel)) (by decide +kernel) ⟨Nat.le_of_ble_eq_true rfl, Nat.le_of_ble_eq_true rfl⟩, (hts (.static yX2_markOf) (by decide +kernel)), trivial⟩ pcS_S rfl rfl hl.1 rfl (lv_room (Nat.le_of_ble_eq_true rfl)) dX0_takeApart_37 ⟨Nat.zero_le _, Nat.zero_le _⟩).run) (fun r9 hr9 => ?_)
          subst r9
          refine clV (wr := [(g, .inr (1, [.ref b, .int (nI ys.length)])), (b, .inl (cB, 200, .inl f2))]) (va_runV ⟨hx, hb, hml, hown, hts⟩ (KX0_add l D h a cA u_4 (apt done ++ [fX2_letterOf d]) hw_4 (fX2_markOf d) _) (cwV 1 hts gX0_takeApart_X0_add rfl rfl rfl (by decide +kernel) ⟨Nat.le_of_ble_eq_true rfl, Nat.le_of_ble_eq_true rfl⟩) (pcM_V (hP.sub (ws' := [(h, .inr (1, [.ref a, .int (nI (apt done ++ [fX2_letterOf d]).length)])), (a, .inl (cA, 200, .inl u_4))]) [0, 1] rfl) (hD.sub (ws' := [(h, .inr (1, [.ref a, .int (nI (apt done ++ [fX2_letterOf d]).length)])), (a, .inl (cA, 200, .inl u_4))]) [0, 1] (by decide) rfl) (hK.sub (tys' := [(cA, .int)]) [0] rfl) hN 0 rfl rfl) rfl rfl hl.1 rfl (lv_room (Nat.le_of_ble_eq_true rfl)) dX0_takeApart_40 ⟨Nat.zero_le _, Nat.zero_le _⟩) hP hD hS hA [0, 1] [2, 3] rfl rfl (by decide) (by decide) (fun u_5 H locs hw_5 hP hD hS => ?_)
          have e9_3 : (rw_add 200 (apt done ++ [fX2_letterOf d]) (fX2_markOf d)) = (apt done ++ [fX2_letterOf d] ++ [fX2_markOf d]) := (rw_add_lt (by first | omega | (simp; omega)))
          rw [e9_3] at hw_5 hP hD
          have hP : va_P D vwCl [(h, .inr (1, [.ref a, .int (nI (apt done ++ [fX2_letterOf d] ++ [fX2_markOf d]).length)])), (a, .inl (cA, 200, .inl u_5)), (g, .inr (1, [.ref b, .int (nI ys.length)])), (b, .inl (cB, 200, .inl f2))] H := hP.sub [2, 3, 0, 1] rfl
          have hD : va_D A [(h, .inr (1, [.ref a, .int (nI (apt done ++ [fX2_letterOf d] ++ [fX2_markOf d]).length)])), (a, .inl (cA, 200, .inl u_5)), (g, .inr (1, [.ref b, .int (nI ys.length)])), (b, .inl (cB, 200, .inl f2))] := hD.sub [2, 3, 0, 1] (by decide) rfl
          refine lv_goto (tgt := 51) hx hb dX0_takeApart_43 (by decide) ?_
          refine lv_iinc (v := (x2 + 1)) (lv' := [(2, .int (x2 + 1)), (3, .int d), (0, .ref h), (1, .ref g)]) hx hb dX0_takeApart_51 hl (k := 1) rfl rfl (by decide) rfl (fun ls hl => ?_)
          refine lv_goto (tgt := 6) hx hb dX0_takeApart_54 (by decide) ?_
          have e7 : (apt done ++ [fX2_letterOf d] ++ [fX2_markOf d]) = apt (done ++ [d]) := by simp [apt, ap1, c24_1]
          rw [e7] at hw_5 hP hD
          exact ih (done ++ [d]) u_5 _ H locs ls (by rw [hys]; simp) (by rw [e2, List.length_append]; exact nI_1 _) hw_5 hP hD hS (lv_sub hl [0, 2, 3] rfl)
  exact loop ys [] u_1 _ H locs ls rfl rfl hw_1 hP hD hS (lv_sub hl [0, 1, 2] rfl)
