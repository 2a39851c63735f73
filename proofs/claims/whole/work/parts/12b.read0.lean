/-! the class: the two readers, the two writers -/
set_option maxHeartbeats 4000000 in
set_option maxRecDepth 100000 in
theorem KX2_wrongInOldKind (l : Launch) (D : va_G) (h t0 t1 t2 t3 t4 t5 t6 t7 t8 t9 : Nat) (si : Int32) (b0 : Nat) (c0 : ClassId) (f0 : Nat → Int32) (x0 : List Int32) (o0 : rw_ok f0 200 x0) (b4 : Nat) (c4 : ClassId) (f4 : Nat → Int32) (o4 : rw_ok f4 200 ([] : List Int32)) (b7 : Nat) (c7 : ClassId) (f7 : Nat → Int32) (x7 : List Int32) (o7 : rw_ok f7 200 x7) (T : Int32 × List Int32) (hT : roS ((ox_u x0).length + 1) (ox_u x0) 0 0 [] (-1) [] = T) (sz : Nat) : Met l yX2_wrongInOldKind wsX2_wrongInOldKind ({ frames := 3, cells := 0, slots := 0, locals := 65 }) (pcM D sz [(h, .inr (3, [.ref t0, .ref t1, .ref t2, .ref t3, .ref t4, .ref t5, .ref t6, .ref t7, .ref t8, .ref t9, .int si])), (t0, .inr (2, [.ref b0, .int (nI x0.length)])), (b0, .inl (c0, 200, .inl f0)), (t4, .inr (1, [.ref b4, .int (nI ([] : List Int32).length)])), (b4, .inl (c4, 200, .inl f4)), (t7, .inr (1, [.ref b7, .int (nI x7.length)])), (b7, .inl (c7, 200, .inl f7))] [(c0, .byte), (c4, .int), (c7, .int)] [.ref h]) (qcI (S := (Nat → Int32) × (Nat → Int32) × List Int32) D (fun r u => r = T.1 ∧ rw_ok u.1 200 T.2 ∧ rw_ok u.2.1 200 u.2.2) (fun u => [(h, .inr (3, [.ref t0, .ref t1, .ref t2, .ref t3, .ref t4, .ref t5, .ref t6, .ref t7, .ref t8, .ref t9, .int si])), (t0, .inr (2, [.ref b0, .int (nI x0.length)])), (b0, .inl (c0, 200, .inl f0)), (t4, .inr (1, [.ref b4, .int (nI T.2.length)])), (b4, .inl (c4, 200, .inl u.1)), (t7, .inr (1, [.ref b7, .int (nI u.2.2.length)])), (b7, .inl (c7, 200, .inl u.2.1))]) (va_A [(h, .inr (3, [.ref t0, .ref t1, .ref t2, .ref t3, .ref t4, .ref t5, .ref t6, .ref t7, .ref t8, .ref t9, .int si])), (t0, .inr (2, [.ref b0, .int (nI x0.length)])), (b0, .inl (c0, 200, .inl f0)), (t4, .inr (1, [.ref b4, .int (nI ([] : List Int32).length)])), (b4, .inl (c4, 200, .inl f4)), (t7, .inr (1, [.ref b7, .int (nI x7.length)])), (b7, .inl (c7, 200, .inl f7))] sz)) 0 0 (va_A [(h, .inr (3, [.ref t0, .ref t1, .ref t2, .ref t3, .ref t4, .ref t5, .ref t6, .ref t7, .ref t8, .ref t9, .int si])), (t0, .inr (2, [.ref b0, .int (nI x0.length)])), (b0, .inl (c0, 200, .inl f0)), (t4, .inr (1, [.ref b4, .int (nI ([] : List Int32).length)])), (b4, .inl (c4, 200, .inl f4)), (t7, .inr (1, [.ref b7, .int (nI x7.length)])), (b7, .inl (c7, 200, .inl f7))] sz) := by
  refine ofM (Qc := fun A => qcI (S := (Nat → Int32) × (Nat → Int32) × List Int32) D (fun r u => r = T.1 ∧ rw_ok u.1 200 T.2 ∧ rw_ok u.2.1 200 u.2.2) (fun u => [(h, .inr (3, [.ref t0, .ref t1, .ref t2, .ref t3, .ref t4, .ref t5, .ref t6, .ref t7, .ref t8, .ref t9, .int si])), (t0, .inr (2, [.ref b0, .int (nI x0.length)])), (b0, .inl (c0, 200, .inl f0)), (t4, .inr (1, [.ref b4, .int (nI T.2.length)])), (b4, .inl (c4, 200, .inl u.1)), (t7, .inr (1, [.ref b7, .int (nI u.2.2.length)])), (b7, .inl (c7, 200, .inl u.2.1))]) A) (cc := cX2_wrongInOldKind) (maxL := 6) (ret := (some .int)) (by decide) rfl (Nat.le_of_ble_eq_true rfl) ?_
  intro p e s m below meth c ls A hx hb hr hml hown hts hlocks hnm hP hK hN hD hA hS hl
  have hl : lv_has ls 6 [(0, .ref h)] := hl
  refine lv_iconst (v := 0) hx hb dX2_wrongInOldKind_0 (by decide) ?_
  refine lv_istore_n (lv' := [(1, .int 0), (0, .ref h)]) hx hb dX2_wrongInOldKind_1 rfl hl (by decide) rfl (fun ls hl => ?_)
  refine lv_iconst (v := (-1)) hx hb dX2_wrongInOldKind_2 (by decide) ?_
  refine lv_istore_n (lv' := [(2, .int (-1)), (1, .int 0), (0, .ref h)]) hx hb dX2_wrongInOldKind_3 rfl hl (by decide) rfl (fun ls hl => ?_)
  refine lv_aload_n hx hb dX2_wrongInOldKind_4 rfl (lv_at hl 2 rfl) ?_
  refine va_get (D := D) (ci := 3) (v := .ref t7) (C := RX2) (T := TX2) (N := 11) hx hb hts (by decide +kernel) hown hK hP 0 rfl rfl 7 (by decide) (hts (.fieldLink RX2 40 "CharacterRows" "waitingMarks" "LCharacterRows$Codes;") (by decide +kernel)) (fun _ h9 => h9) rfl dX2_wrongInOldKind_5 ?_
  refine clV (wr := [(h, .inr (3, [.ref t0, .ref t1, .ref t2, .ref t3, .ref t4, .ref t5, .ref t6, .ref t7, .ref t8, .ref t9, .int si])), (t0, .inr (2, [.ref b0, .int (nI x0.length)])), (b0, .inl (c0, 200, .inl f0)), (t4, .inr (1, [.ref b4, .int (nI ([] : List Int32).length)])), (b4, .inl (c4, 200, .inl f4))]) (va_runV ⟨hx, hb, hml, hown, hts⟩ (KX0_empty l D t7 b7 c7 f7 x7 o7 _) (cwV 0 hts gX2_wrongInOldKind_X0_empty rfl rfl rfl (by decide +kernel) ⟨Nat.le_of_ble_eq_true rfl, Nat.le_of_ble_eq_true rfl⟩) (pcM_V (hP.sub (ws' := [(t7, .inr (1, [.ref b7, .int (nI x7.length)])), (b7, .inl (c7, 200, .inl f7))]) [5, 6] rfl) (hD.sub (ws' := [(t7, .inr (1, [.ref b7, .int (nI x7.length)])), (b7, .inl (c7, 200, .inl f7))]) [5, 6] (by decide) rfl) (hK.sub (tys' := [(c7, .int)]) [2] rfl) hN 0 rfl rfl) rfl rfl hl.1 rfl (lv_room (Nat.le_of_ble_eq_true rfl)) dX2_wrongInOldKind_8 ⟨Nat.zero_le _, Nat.zero_le _⟩) hP hD hS hA [5, 6] [0, 1, 2, 3, 4] rfl rfl (by decide) (by decide) (fun u_1 H locs hw_1 hP hD hS => ?_)
  have hP : va_P D vwCl [(h, .inr (3, [.ref t0, .ref t1, .ref t2, .ref t3, .ref t4, .ref t5, .ref t6, .ref t7, .ref t8, .ref t9, .int si])), (t0, .inr (2, [.ref b0, .int (nI x0.length)])), (b0, .inl (c0, 200, .inl f0)), (t4, .inr (1, [.ref b4, .int (nI ([] : List Int32).length)])), (b4, .inl (c4, 200, .inl f4)), (t7, .inr (1, [.ref b7, .int (nI ([] : List Int32).length)])), (b7, .inl (c7, 200, .inl u_1))] H := hP.sub [0, 1, 2, 3, 4, 5, 6] rfl
  have hD : va_D A [(h, .inr (3, [.ref t0, .ref t1, .ref t2, .ref t3, .ref t4, .ref t5, .ref t6, .ref t7, .ref t8, .ref t9, .int si])), (t0, .inr (2, [.ref b0, .int (nI x0.length)])), (b0, .inl (c0, 200, .inl f0)), (t4, .inr (1, [.ref b4, .int (nI ([] : List Int32).length)])), (b4, .inl (c4, 200, .inl f4)), (t7, .inr (1, [.ref b7, .int (nI ([] : List Int32).length)])), (b7, .inl (c7, 200, .inl u_1))] := hD.sub [0, 1, 2, 3, 4, 5, 6] (by decide) rfl
  refine lv_iconst (v := 0) hx hb dX2_wrongInOldKind_11 (by decide) ?_
  refine lv_istore_n (lv' := [(3, .int 0), (2, .int (-1)), (1, .int 0), (0, .ref h)]) hx hb dX2_wrongInOldKind_12 rfl hl (by decide) rfl (fun ls hl => ?_)
  have loop : ∀ (n : Nat) (rest done wm fr : List Int32) (f7 f4 : Nat → Int32) (x1 x2 x3 : Int32) (H : Heap) (locs : List Loc) (ls : Array Slot), rest.length < n → ox_u x0 = done ++ rest → roS n rest done.length x1 wm x2 fr = T → x3 = nI done.length → rw_ok f4 200 fr → rw_ok f7 200 wm → wm.length ≤ done.length → fr.length ≤ 100 → va_P D vwCl [(h, .inr (3, [.ref t0, .ref t1, .ref t2, .ref t3, .ref t4, .ref t5, .ref t6, .ref t7, .ref t8, .ref t9, .int si])), (t0, .inr (2, [.ref b0, .int (nI x0.length)])), (b0, .inl (c0, 200, .inl f0)), (t4, .inr (1, [.ref b4, .int (nI fr.length)])), (b4, .inl (c4, 200, .inl f4)), (t7, .inr (1, [.ref b7, .int (nI wm.length)])), (b7, .inl (c7, 200, .inl f7))] H → va_D A [(h, .inr (3, [.ref t0, .ref t1, .ref t2, .ref t3, .ref t4, .ref t5, .ref t6, .ref t7, .ref t8, .ref t9, .int si])), (t0, .inr (2, [.ref b0, .int (nI x0.length)])), (b0, .inl (c0, 200, .inl f0)), (t4, .inr (1, [.ref b4, .int (nI fr.length)])), (b4, .inl (c4, 200, .inl f4)), (t7, .inr (1, [.ref b7, .int (nI wm.length)])), (b7, .inl (c7, 200, .inl f7))] → va_S A s.heap H locs → lv_has ls 6 [(3, .int x3), (2, .int x2), (1, .int x1), (0, .ref h)] → W p l e ({ frames := 3, cells := 0, slots := 0, locals := 65 }) s m ([.ref h] : List Value).toArray below meth c H locs 0 0 (MQ below (qcI (S := (Nat → Int32) × (Nat → Int32) × List Int32) D (fun r u => r = T.1 ∧ rw_ok u.1 200 T.2 ∧ rw_ok u.2.1 200 u.2.2) (fun u => [(h, .inr (3, [.ref t0, .ref t1, .ref t2, .ref t3, .ref t4, .ref t5, .ref t6, .ref t7, .ref t8, .ref t9, .int si])), (t0, .inr (2, [.ref b0, .int (nI x0.length)])), (b0, .inl (c0, 200, .inl f0)), (t4, .inr (1, [.ref b4, .int (nI T.2.length)])), (b4, .inl (c4, 200, .inl u.1)), (t7, .inr (1, [.ref b7, .int (nI u.2.2.length)])), (b7, .inl (c7, 200, .inl u.2.1))]) A) ([.ref h] : List Value).toArray s 0 0 A) (F0 m 13 ls [])  := by
    intro n
    induction n with
    | zero =>
      intro rest done wm fr f7 f4 x1 x2 x3 H locs ls hn hcs hT e3 o4 o7 hwm hfr hP hD hS hl
      exact absurd hn (Nat.not_lt_zero _)
    | succ n ih =>
      intro rest done wm fr f7 f4 x1 x2 x3 H locs ls hn hcs hT e3 o4 o7 hwm hfr hP hD hS hl
      have hlx : x0.length = done.length + rest.length := by rw [← ox_len, hcs]; simp
      have h200 := o0.1
      rcases rest with _ | ⟨b, t⟩
      · skip
        simp at hlx
        refine lv_iload_n hx hb dX2_wrongInOldKind_13 rfl (lv_at hl 0 rfl) ?_
        refine lv_aload_n hx hb dX2_wrongInOldKind_14 rfl (lv_at hl 3 rfl) ?_
        refine va_get (D := D) (ci := 3) (v := .ref t0) (C := RX2) (T := TX2) (N := 11) hx hb hts (by decide +kernel) hown hK hP 0 rfl rfl 0 (by decide) (hts (.fieldLink RX2 14 "CharacterRows" "collected" "LCharacterRows$Octets;") (by decide +kernel)) (fun _ h9 => h9) rfl dX2_wrongInOldKind_15 ?_
        refine va_getN (D := D) (ci := 2) (v := .int (nI x0.length)) (C := RX1) (T := TX1) (N := 2) hx hb hts (by decide +kernel) hown hK hP 1 rfl rfl 1 (by decide) (va_Nw.use rfl (nst_at hN 0 rfl)) (fun _ h9 => h9) rfl dX2_wrongInOldKind_18 ?_
        refine lv_icmp_ge (tgt := 182) hx hb dX2_wrongInOldKind_21 (by decide) (fun c21_1 => ?_) (fun c21_1 => ?_)
        · skip
          refine lv_aload_n hx hb dX2_wrongInOldKind_182 rfl (lv_at hl 3 rfl) ?_
          refine va_get (D := D) (ci := 3) (v := .ref t7) (C := RX2) (T := TX2) (N := 11) hx hb hts (by decide +kernel) hown hK hP 0 rfl rfl 7 (by decide) (hts (.fieldLink RX2 40 "CharacterRows" "waitingMarks" "LCharacterRows$Codes;") (by decide +kernel)) (fun _ h9 => h9) rfl dX2_wrongInOldKind_183 ?_
          refine va_getN (D := D) (ci := 1) (v := .int (nI wm.length)) (C := RX0) (T := TX0) (N := 2) hx hb hts (by decide +kernel) hown hK hP 5 rfl rfl 1 (by decide) (va_Nw.use rfl (nst_at hN 1 rfl)) (fun _ h9 => h9) rfl dX2_wrongInOldKind_186 ?_
          refine lv_if_ne (tgt := 196) hx hb dX2_wrongInOldKind_189 (by decide) (fun c189_1 => ?_) (fun c189_1 => ?_)
          · skip
            refine lv_iload_n hx hb dX2_wrongInOldKind_196 rfl (lv_at hl 1 rfl) ?_
            have q9 := nI_0iff (n := wm.length) (by omega)
            have e8 : (x2, fr) = T := by rw [← hT]; simp [roS, ← q9, c189_1]
            have e9 : fr = T.2 := by rw [← e8]
            rw [e9] at o4 hP hD
            exact rtI hx hb hr hlocks dX2_wrongInOldKind_197 (f4, f7, wm) ⟨by rw [← e8], o4, o7⟩ hP hD hS
          · skip
            refine lv_iconst (v := (-1)) hx hb dX2_wrongInOldKind_192 (by decide) ?_
            refine lv_goto (tgt := 197) hx hb dX2_wrongInOldKind_193 (by decide) ?_
            have q9 := nI_0iff (n := wm.length) (by omega)
            have e8 : ((-1), fr) = T := by rw [← hT]; simp [roS, ← q9, c189_1]
            have e9 : fr = T.2 := by rw [← e8]
            rw [e9] at o4 hP hD
            exact rtI hx hb hr hlocks dX2_wrongInOldKind_197 (f4, f7, wm) ⟨by rw [← e8], o4, o7⟩ hP hD hS
        · skip
          exact absurd (by rw [e3, hlx]; simp) c21_1
      · skip
        simp at hlx
        have hle0 : done.length + t.length + 1 ≤ 200 := by omega
        refine lv_iload_n hx hb dX2_wrongInOldKind_13 rfl (lv_at hl 0 rfl) ?_
        refine lv_aload_n hx hb dX2_wrongInOldKind_14 rfl (lv_at hl 3 rfl) ?_
        refine va_get (D := D) (ci := 3) (v := .ref t0) (C := RX2) (T := TX2) (N := 11) hx hb hts (by decide +kernel) hown hK hP 0 rfl rfl 0 (by decide) (hts (.fieldLink RX2 14 "CharacterRows" "collected" "LCharacterRows$Octets;") (by decide +kernel)) (fun _ h9 => h9) rfl dX2_wrongInOldKind_15 ?_
        refine va_getN (D := D) (ci := 2) (v := .int (nI x0.length)) (C := RX1) (T := TX1) (N := 2) hx hb hts (by decide +kernel) hown hK hP 1 rfl rfl 1 (by decide) (va_Nw.use rfl (nst_at hN 0 rfl)) (fun _ h9 => h9) rfl dX2_wrongInOldKind_18 ?_
        refine lv_icmp_ge (tgt := 182) hx hb dX2_wrongInOldKind_21 (by decide) (fun c21_2 => ?_) (fun c21_2 => ?_)
        · skip
          exact absurd c21_2 (by rw [e3, hlx]; exact nI_ge (by simp) (by simp at hlx ⊢; omega))
        · skip
          refine lv_aload_n hx hb dX2_wrongInOldKind_24 rfl (lv_at hl 3 rfl) ?_
          refine va_get (D := D) (ci := 3) (v := .ref t0) (C := RX2) (T := TX2) (N := 11) hx hb hts (by decide +kernel) hown hK hP 0 rfl rfl 0 (by decide) (hts (.fieldLink RX2 14 "CharacterRows" "collected" "LCharacterRows$Octets;") (by decide +kernel)) (fun _ h9 => h9) rfl dX2_wrongInOldKind_25 ?_
          refine lv_iload_n hx hb dX2_wrongInOldKind_28 rfl (lv_at hl 0 rfl) ?_
          refine vp_callSi (W.runV ⟨hx, hb, hml, hown, hts⟩ (KX1_at l D t0 b0 c0 f0 x0 200 (by decide) o0 x3) (cwV 1 hts gX2_wrongInOldKind_X1_at rfl rfl rfl (by decide +kernel) ⟨Nat.le_of_ble_eq_true rfl, Nat.le_of_ble_eq_true rfl⟩) (pcR_V (hP.sub (ws' := [(t0, .inr (2, [.ref b0, .int (nI x0.length)])), (b0, .inl (c0, 200, .inl f0))]) [1, 2] rfl) (hK.sub (tys' := [(c0, .byte)]) [0] rfl) hN 0 rfl rfl) rfl rfl hl.1 rfl (lv_room (Nat.le_of_ble_eq_true rfl)) dX2_wrongInOldKind_29 ⟨Nat.zero_le _, Nat.zero_le _⟩) (fun r9 hr9 => ?_)
          replace hr9 : r9 = b := hr9.trans (by rw [ox_at, hcs, e3]; exact rw_at_k rfl (by omega))
          subst r9
          refine lv_istore (lv' := [(4, .int b), (3, .int x3), (2, .int x2), (1, .int x1), (0, .ref h)]) hx hb dX2_wrongInOldKind_32 hl (by decide) rfl (fun ls hl => ?_)
          refine lv_iload hx hb dX2_wrongInOldKind_34 (lv_at hl 0 rfl) ?_
          refine lv_bipush (v := 27) hx hb dX2_wrongInOldKind_36 (by decide) ?_
          refine lv_icmp_ne (tgt := 60) hx hb dX2_wrongInOldKind_38 (by decide) (fun c38_1 => ?_) (fun c38_1 => ?_)
          · skip
            refine lv_iload hx hb dX2_wrongInOldKind_60 (lv_at hl 0 rfl) ?_
            refine lv_iload_n hx hb dX2_wrongInOldKind_62 rfl (lv_at hl 3 rfl) ?_
            refine vp_callSi (W.runS ⟨hx, hb, hml, hown, hts⟩ (KX2_codeOfOldByte l b x1) (va_cwS 2 hts gX2_wrongInOldKind_X2_codeOfOldByte rfl rfl rfl (by decide +kernel) ⟨Nat.le_of_ble_eq_true rfl, Nat.le_of_ble_eq_true rfl⟩) pcS_S rfl rfl hl.1 rfl (lv_room (Nat.le_of_ble_eq_true rfl)) dX2_wrongInOldKind_63 ⟨Nat.zero_le _, Nat.zero_le _⟩) (fun r9 hr9 => ?_)
            subst r9
            refine lv_istore (lv' := [(5, .int (fX2_codeOfOldByte b x1)), (4, .int b), (3, .int x3), (2, .int x2), (1, .int x1), (0, .ref h)]) hx hb dX2_wrongInOldKind_66 hl (by decide) rfl (fun ls hl => ?_)
            refine lv_iload hx hb dX2_wrongInOldKind_68 (lv_at hl 0 rfl) ?_
            refine lv_if_ne (tgt := 75) hx hb dX2_wrongInOldKind_70 (by decide) (fun c70_1 => ?_) (fun c70_1 => ?_)
            · skip
              refine lv_iload hx hb dX2_wrongInOldKind_75 (lv_at hl 0 rfl) ?_
              refine vp_callSi (W.runS ⟨hx, hb, hml, hown, hts⟩ (KX2_isMark l (fX2_codeOfOldByte b x1)) (va_cwS 1 hts gX2_wrongInOldKind_X2_isMark rfl rfl rfl (by decide +kernel) ⟨Nat.le_of_ble_eq_true rfl, Nat.le_of_ble_eq_true rfl⟩) pcS_S rfl rfl hl.1 rfl (lv_room (Nat.le_of_ble_eq_true rfl)) dX2_wrongInOldKind_77 ⟨Nat.zero_le _, Nat.zero_le _⟩) (fun r9 hr9 => ?_)
              subst r9
              refine lv_if_eq (tgt := 111) hx hb dX2_wrongInOldKind_80 (by decide) (fun c80_1 => ?_) (fun c80_1 => ?_)
              · skip
                have q130 : nI fr.length + 1 + nI wm.length = nI (fr.length + 1 + wm.length) := by rw [nI_1, nI_add]
                refine lv_aload_n hx hb dX2_wrongInOldKind_111 rfl (lv_at hl 5 rfl) ?_
                refine va_get (D := D) (ci := 3) (v := .ref t4) (C := RX2) (T := TX2) (N := 11) hx hb hts (by decide +kernel) hown hK hP 0 rfl rfl 4 (by decide) (hts (.fieldLink RX2 31 "CharacterRows" "fresh" "LCharacterRows$Codes;") (by decide +kernel)) (fun _ h9 => h9) rfl dX2_wrongInOldKind_112 ?_
                refine va_getN (D := D) (ci := 1) (v := .int (nI fr.length)) (C := RX0) (T := TX0) (N := 2) hx hb hts (by decide +kernel) hown hK hP 3 rfl rfl 1 (by decide) (va_Nw.use rfl (nst_at hN 1 rfl)) (fun _ h9 => h9) rfl dX2_wrongInOldKind_115 ?_
                refine lv_iconst (v := 1) hx hb dX2_wrongInOldKind_118 (by decide) ?_
                refine lv_iadd hx hb dX2_wrongInOldKind_119 ?_
                refine lv_aload_n hx hb dX2_wrongInOldKind_120 rfl (lv_at hl 5 rfl) ?_
                refine va_get (D := D) (ci := 3) (v := .ref t7) (C := RX2) (T := TX2) (N := 11) hx hb hts (by decide +kernel) hown hK hP 0 rfl rfl 7 (by decide) (hts (.fieldLink RX2 40 "CharacterRows" "waitingMarks" "LCharacterRows$Codes;") (by decide +kernel)) (fun _ h9 => h9) rfl dX2_wrongInOldKind_121 ?_
                refine va_getN (D := D) (ci := 1) (v := .int (nI wm.length)) (C := RX0) (T := TX0) (N := 2) hx hb hts (by decide +kernel) hown hK hP 5 rfl rfl 1 (by decide) (va_Nw.use rfl (nst_at hN 1 rfl)) (fun _ h9 => h9) rfl dX2_wrongInOldKind_124 ?_
                refine lv_iadd hx hb dX2_wrongInOldKind_127 ?_
                refine lv_bipush (v := 100) hx hb dX2_wrongInOldKind_128 (by decide) ?_
                refine lv_icmp_le (tgt := 149) hx hb dX2_wrongInOldKind_130 (by decide) (fun c130_1 => ?_) (fun c130_1 => ?_)
                · skip
                  rw [q130] at c130_1
                  have hle : fr.length + 1 + wm.length ≤ 100 := (nI_100 (by omega)).mp c130_1
                  refine lv_aload_n hx hb dX2_wrongInOldKind_149 rfl (lv_at hl 5 rfl) ?_
                  refine va_get (D := D) (ci := 3) (v := .ref t4) (C := RX2) (T := TX2) (N := 11) hx hb hts (by decide +kernel) hown hK hP 0 rfl rfl 4 (by decide) (hts (.fieldLink RX2 31 "CharacterRows" "fresh" "LCharacterRows$Codes;") (by decide +kernel)) (fun _ h9 => h9) rfl dX2_wrongInOldKind_150 ?_
                  refine lv_iload hx hb dX2_wrongInOldKind_153 (lv_at hl 0 rfl) ?_
                  refine clV (wr := [(h, .inr (3, [.ref t0, .ref t1, .ref t2, .ref t3, .ref t4, .ref t5, .ref t6, .ref t7, .ref t8, .ref t9, .int si])), (t0, .inr (2, [.ref b0, .int (nI x0.length)])), (b0, .inl (c0, 200, .inl f0)), (t7, .inr (1, [.ref b7, .int (nI wm.length)])), (b7, .inl (c7, 200, .inl f7))]) (va_runV ⟨hx, hb, hml, hown, hts⟩ (KX0_add l D t4 b4 c4 f4 fr o4 (fX2_codeOfOldByte b x1) _) (cwV 1 hts gX2_wrongInOldKind_X0_add rfl rfl rfl (by decide +kernel) ⟨Nat.le_of_ble_eq_true rfl, Nat.le_of_ble_eq_true rfl⟩) (pcM_V (hP.sub (ws' := [(t4, .inr (1, [.ref b4, .int (nI fr.length)])), (b4, .inl (c4, 200, .inl f4))]) [3, 4] rfl) (hD.sub (ws' := [(t4, .inr (1, [.ref b4, .int (nI fr.length)])), (b4, .inl (c4, 200, .inl f4))]) [3, 4] (by decide) rfl) (hK.sub (tys' := [(c4, .int)]) [1] rfl) hN 0 rfl rfl) rfl rfl hl.1 rfl (lv_room (Nat.le_of_ble_eq_true rfl)) dX2_wrongInOldKind_155 ⟨Nat.zero_le _, Nat.zero_le _⟩) hP hD hS hA [3, 4] [0, 1, 2, 5, 6] rfl rfl (by decide) (by decide) (fun u_2 H locs hw_2 hP hD hS => ?_)
                  have e9_1 : (rw_add 200 fr (fX2_codeOfOldByte b x1)) = (fr ++ [fX2_codeOfOldByte b x1]) := (rw_add_lt (by omega))
                  rw [e9_1] at hw_2 hP hD
                  have hP : va_P D vwCl [(h, .inr (3, [.ref t0, .ref t1, .ref t2, .ref t3, .ref t4, .ref t5, .ref t6, .ref t7, .ref t8, .ref t9, .int si])), (t0, .inr (2, [.ref b0, .int (nI x0.length)])), (b0, .inl (c0, 200, .inl f0)), (t4, .inr (1, [.ref b4, .int (nI (fr ++ [fX2_codeOfOldByte b x1]).length)])), (b4, .inl (c4, 200, .inl u_2)), (t7, .inr (1, [.ref b7, .int (nI wm.length)])), (b7, .inl (c7, 200, .inl f7))] H := hP.sub [0, 1, 2, 5, 6, 3, 4] rfl
                  have hD : va_D A [(h, .inr (3, [.ref t0, .ref t1, .ref t2, .ref t3, .ref t4, .ref t5, .ref t6, .ref t7, .ref t8, .ref t9, .int si])), (t0, .inr (2, [.ref b0, .int (nI x0.length)])), (b0, .inl (c0, 200, .inl f0)), (t4, .inr (1, [.ref b4, .int (nI (fr ++ [fX2_codeOfOldByte b x1]).length)])), (b4, .inl (c4, 200, .inl u_2)), (t7, .inr (1, [.ref b7, .int (nI wm.length)])), (b7, .inl (c7, 200, .inl f7))] := hD.sub [0, 1, 2, 5, 6, 3, 4] (by decide) rfl
                  refine lv_aload_n hx hb dX2_wrongInOldKind_158 rfl (lv_at hl 5 rfl) ?_
                  refine va_get (D := D) (ci := 3) (v := .ref t4) (C := RX2) (T := TX2) (N := 11) hx hb hts (by decide +kernel) hown hK hP 0 rfl rfl 4 (by decide) (hts (.fieldLink RX2 31 "CharacterRows" "fresh" "LCharacterRows$Codes;") (by decide +kernel)) (fun _ h9 => h9) rfl dX2_wrongInOldKind_159 ?_
                  refine lv_aload_n hx hb dX2_wrongInOldKind_162 rfl (lv_at hl 5 rfl) ?_
                  refine va_get (D := D) (ci := 3) (v := .ref t7) (C := RX2) (T := TX2) (N := 11) hx hb hts (by decide +kernel) hown hK hP 0 rfl rfl 7 (by decide) (hts (.fieldLink RX2 40 "CharacterRows" "waitingMarks" "LCharacterRows$Codes;") (by decide +kernel)) (fun _ h9 => h9) rfl dX2_wrongInOldKind_163 ?_
                  refine clV (wr := [(h, .inr (3, [.ref t0, .ref t1, .ref t2, .ref t3, .ref t4, .ref t5, .ref t6, .ref t7, .ref t8, .ref t9, .int si])), (t0, .inr (2, [.ref b0, .int (nI x0.length)])), (b0, .inl (c0, 200, .inl f0))]) (va_runV ⟨hx, hb, hml, hown, hts⟩ (KX0_addAll l D t4 b4 c4 u_2 (fr ++ [fX2_codeOfOldByte b x1]) hw_2 t7 b7 c7 f7 wm o7 (fr ++ fX2_codeOfOldByte b x1 :: wm) (by rw [fold_add _ _ (by simp; omega)]; simp) _) (cwV 1 hts gX2_wrongInOldKind_X0_addAll rfl rfl rfl (by decide +kernel) ⟨Nat.le_of_ble_eq_true rfl, Nat.le_of_ble_eq_true rfl⟩) (pcM_V (hP.sub (ws' := [(t4, .inr (1, [.ref b4, .int (nI (fr ++ [fX2_codeOfOldByte b x1]).length)])), (b4, .inl (c4, 200, .inl u_2)), (t7, .inr (1, [.ref b7, .int (nI wm.length)])), (b7, .inl (c7, 200, .inl f7))]) [3, 4, 5, 6] rfl) (hD.sub (ws' := [(t4, .inr (1, [.ref b4, .int (nI (fr ++ [fX2_codeOfOldByte b x1]).length)])), (b4, .inl (c4, 200, .inl u_2)), (t7, .inr (1, [.ref b7, .int (nI wm.length)])), (b7, .inl (c7, 200, .inl f7))]) [3, 4, 5, 6] (by decide) rfl) (hK.sub (tys' := [(c4, .int), (c7, .int)]) [1, 2] rfl) hN 0 rfl rfl) rfl rfl hl.1 rfl (lv_room (Nat.le_of_ble_eq_true rfl)) dX2_wrongInOldKind_166 ⟨Nat.zero_le _, Nat.zero_le _⟩) hP hD hS hA [3, 4, 5, 6] [0, 1, 2] rfl rfl (by decide) (by decide) (fun u_3 H locs hw_3 hP hD hS => ?_)
                  have hP : va_P D vwCl [(h, .inr (3, [.ref t0, .ref t1, .ref t2, .ref t3, .ref t4, .ref t5, .ref t6, .ref t7, .ref t8, .ref t9, .int si])), (t0, .inr (2, [.ref b0, .int (nI x0.length)])), (b0, .inl (c0, 200, .inl f0)), (t4, .inr (1, [.ref b4, .int (nI (fr ++ fX2_codeOfOldByte b x1 :: wm).length)])), (b4, .inl (c4, 200, .inl u_3)), (t7, .inr (1, [.ref b7, .int (nI wm.length)])), (b7, .inl (c7, 200, .inl f7))] H := hP.sub [0, 1, 2, 3, 4, 5, 6] rfl
                  have hD : va_D A [(h, .inr (3, [.ref t0, .ref t1, .ref t2, .ref t3, .ref t4, .ref t5, .ref t6, .ref t7, .ref t8, .ref t9, .int si])), (t0, .inr (2, [.ref b0, .int (nI x0.length)])), (b0, .inl (c0, 200, .inl f0)), (t4, .inr (1, [.ref b4, .int (nI (fr ++ fX2_codeOfOldByte b x1 :: wm).length)])), (b4, .inl (c4, 200, .inl u_3)), (t7, .inr (1, [.ref b7, .int (nI wm.length)])), (b7, .inl (c7, 200, .inl f7))] := hD.sub [0, 1, 2, 3, 4, 5, 6] (by decide) rfl
                  refine lv_aload_n hx hb dX2_wrongInOldKind_169 rfl (lv_at hl 5 rfl) ?_
                  refine va_get (D := D) (ci := 3) (v := .ref t7) (C := RX2) (T := TX2) (N := 11) hx hb hts (by decide +kernel) hown hK hP 0 rfl rfl 7 (by decide) (hts (.fieldLink RX2 40 "CharacterRows" "waitingMarks" "LCharacterRows$Codes;") (by decide +kernel)) (fun _ h9 => h9) rfl dX2_wrongInOldKind_170 ?_
                  refine clV (wr := [(h, .inr (3, [.ref t0, .ref t1, .ref t2, .ref t3, .ref t4, .ref t5, .ref t6, .ref t7, .ref t8, .ref t9, .int si])), (t0, .inr (2, [.ref b0, .int (nI x0.length)])), (b0, .inl (c0, 200, .inl f0)), (t4, .inr (1, [.ref b4, .int (nI (fr ++ fX2_codeOfOldByte b x1 :: wm).length)])), (b4, .inl (c4, 200, .inl u_3))]) (va_runV ⟨hx, hb, hml, hown, hts⟩ (KX0_empty l D t7 b7 c7 f7 wm o7 _) (cwV 0 hts gX2_wrongInOldKind_X0_empty rfl rfl rfl (by decide +kernel) ⟨Nat.le_of_ble_eq_true rfl, Nat.le_of_ble_eq_true rfl⟩) (pcM_V (hP.sub (ws' := [(t7, .inr (1, [.ref b7, .int (nI wm.length)])), (b7, .inl (c7, 200, .inl f7))]) [5, 6] rfl) (hD.sub (ws' := [(t7, .inr (1, [.ref b7, .int (nI wm.length)])), (b7, .inl (c7, 200, .inl f7))]) [5, 6] (by decide) rfl) (hK.sub (tys' := [(c7, .int)]) [2] rfl) hN 0 rfl rfl) rfl rfl hl.1 rfl (lv_room (Nat.le_of_ble_eq_true rfl)) dX2_wrongInOldKind_173 ⟨Nat.zero_le _, Nat.zero_le _⟩) hP hD hS hA [5, 6] [0, 1, 2, 3, 4] rfl rfl (by decide) (by decide) (fun u_4 H locs hw_4 hP hD hS => ?_)
                  have hP : va_P D vwCl [(h, .inr (3, [.ref t0, .ref t1, .ref t2, .ref t3, .ref t4, .ref t5, .ref t6, .ref t7, .ref t8, .ref t9, .int si])), (t0, .inr (2, [.ref b0, .int (nI x0.length)])), (b0, .inl (c0, 200, .inl f0)), (t4, .inr (1, [.ref b4, .int (nI (fr ++ fX2_codeOfOldByte b x1 :: wm).length)])), (b4, .inl (c4, 200, .inl u_3)), (t7, .inr (1, [.ref b7, .int (nI ([] : List Int32).length)])), (b7, .inl (c7, 200, .inl u_4))] H := hP.sub [0, 1, 2, 3, 4, 5, 6] rfl
                  have hD : va_D A [(h, .inr (3, [.ref t0, .ref t1, .ref t2, .ref t3, .ref t4, .ref t5, .ref t6, .ref t7, .ref t8, .ref t9, .int si])), (t0, .inr (2, [.ref b0, .int (nI x0.length)])), (b0, .inl (c0, 200, .inl f0)), (t4, .inr (1, [.ref b4, .int (nI (fr ++ fX2_codeOfOldByte b x1 :: wm).length)])), (b4, .inl (c4, 200, .inl u_3)), (t7, .inr (1, [.ref b7, .int (nI ([] : List Int32).length)])), (b7, .inl (c7, 200, .inl u_4))] := hD.sub [0, 1, 2, 3, 4, 5, 6] (by decide) rfl
                  refine lv_iinc (v := (x3 + 1)) (lv' := [(3, .int (x3 + 1)), (5, .int (fX2_codeOfOldByte b x1)), (4, .int b), (2, .int x2), (1, .int x1), (0, .ref h)]) hx hb dX2_wrongInOldKind_176 hl (k := 2) rfl rfl (by decide) rfl (fun ls hl => ?_)
                  refine lv_goto (tgt := 13) hx hb dX2_wrongInOldKind_179 (by decide) ?_
                  exact ih t (done ++ [b]) [] _ u_4 u_3 _ _ _ H locs ls (by simp at hn ⊢; omega) (by rw [hcs]; simp) (by rw [← hT]; simp [roS, c38_1, c70_1, c80_1, hle]) (by rw [e3, List.length_append]; exact nI_1 _) hw_3 hw_4 (by simp) (by simp <;> omega) hP hD hS (lv_sub hl [0, 3, 4, 5] rfl)
                · skip
                  rw [q130] at c130_1
                  have hgt : ¬ fr.length + 1 + wm.length ≤ 100 := fun q => c130_1 ((nI_100 (by omega)).mpr q)
                  refine lv_aload_n hx hb dX2_wrongInOldKind_133 rfl (lv_at hl 5 rfl) ?_
                  refine va_get (D := D) (ci := 3) (v := .ref t7) (C := RX2) (T := TX2) (N := 11) hx hb hts (by decide +kernel) hown hK hP 0 rfl rfl 7 (by decide) (hts (.fieldLink RX2 40 "CharacterRows" "waitingMarks" "LCharacterRows$Codes;") (by decide +kernel)) (fun _ h9 => h9) rfl dX2_wrongInOldKind_134 ?_
                  refine va_getN (D := D) (ci := 1) (v := .int (nI wm.length)) (C := RX0) (T := TX0) (N := 2) hx hb hts (by decide +kernel) hown hK hP 5 rfl rfl 1 (by decide) (va_Nw.use rfl (nst_at hN 1 rfl)) (fun _ h9 => h9) rfl dX2_wrongInOldKind_137 ?_
                  refine lv_if_ne (tgt := 147) hx hb dX2_wrongInOldKind_140 (by decide) (fun c140_1 => ?_) (fun c140_1 => ?_)
                  · skip
                    refine lv_iload_n hx hb dX2_wrongInOldKind_147 rfl (lv_at hl 3 rfl) ?_
                    have q9 := nI_0iff (n := wm.length) (by omega)
                    have e8 : (x2, fr) = T := by rw [← hT]; simp [roS, c38_1, c70_1, c80_1, ← q9, c140_1, hgt]
                    have e9 : fr = T.2 := by rw [← e8]
                    rw [e9] at o4 hP hD
                    exact rtI hx hb hr hlocks dX2_wrongInOldKind_148 (f4, f7, wm) ⟨by rw [← e8], o4, o7⟩ hP hD hS
                  · skip
                    refine lv_iload_n hx hb dX2_wrongInOldKind_143 rfl (lv_at hl 2 rfl) ?_
                    refine lv_goto (tgt := 148) hx hb dX2_wrongInOldKind_144 (by decide) ?_
                    have q9 := nI_0iff (n := wm.length) (by omega)
                    have e8 : (x3, fr) = T := by rw [← hT, e3]; simp [roS, c38_1, c70_1, c80_1, ← q9, c140_1, hgt]
                    have e9 : fr = T.2 := by rw [← e8]
                    rw [e9] at o4 hP hD
                    exact rtI hx hb hr hlocks dX2_wrongInOldKind_148 (f4, f7, wm) ⟨by rw [← e8], o4, o7⟩ hP hD hS
              · skip
                refine lv_aload_n hx hb dX2_wrongInOldKind_83 rfl (lv_at hl 5 rfl) ?_
                refine va_get (D := D) (ci := 3) (v := .ref t7) (C := RX2) (T := TX2) (N := 11) hx hb hts (by decide +kernel) hown hK hP 0 rfl rfl 7 (by decide) (hts (.fieldLink RX2 40 "CharacterRows" "waitingMarks" "LCharacterRows$Codes;") (by decide +kernel)) (fun _ h9 => h9) rfl dX2_wrongInOldKind_84 ?_
                refine va_getN (D := D) (ci := 1) (v := .int (nI wm.length)) (C := RX0) (T := TX0) (N := 2) hx hb hts (by decide +kernel) hown hK hP 5 rfl rfl 1 (by decide) (va_Nw.use rfl (nst_at hN 1 rfl)) (fun _ h9 => h9) rfl dX2_wrongInOldKind_87 ?_
                refine lv_if_ne (tgt := 97) hx hb dX2_wrongInOldKind_90 (by decide) (fun c90_1 => ?_) (fun c90_1 => ?_)
                · skip
                  refine lv_iload_n hx hb dX2_wrongInOldKind_97 rfl (lv_at hl 3 rfl) ?_
                  refine lv_istore_n (lv' := [(2, .int x2), (5, .int (fX2_codeOfOldByte b x1)), (4, .int b), (3, .int x3), (1, .int x1), (0, .ref h)]) hx hb dX2_wrongInOldKind_98 rfl hl (by decide) rfl (fun ls hl => ?_)
                  refine lv_aload_n hx hb dX2_wrongInOldKind_99 rfl (lv_at hl 5 rfl) ?_
                  refine va_get (D := D) (ci := 3) (v := .ref t7) (C := RX2) (T := TX2) (N := 11) hx hb hts (by decide +kernel) hown hK hP 0 rfl rfl 7 (by decide) (hts (.fieldLink RX2 40 "CharacterRows" "waitingMarks" "LCharacterRows$Codes;") (by decide +kernel)) (fun _ h9 => h9) rfl dX2_wrongInOldKind_100 ?_
                  refine lv_iload hx hb dX2_wrongInOldKind_103 (lv_at hl 1 rfl) ?_
                  refine clV (wr := [(h, .inr (3, [.ref t0, .ref t1, .ref t2, .ref t3, .ref t4, .ref t5, .ref t6, .ref t7, .ref t8, .ref t9, .int si])), (t0, .inr (2, [.ref b0, .int (nI x0.length)])), (b0, .inl (c0, 200, .inl f0)), (t4, .inr (1, [.ref b4, .int (nI fr.length)])), (b4, .inl (c4, 200, .inl f4))]) (va_runV ⟨hx, hb, hml, hown, hts⟩ (KX0_add l D t7 b7 c7 f7 wm o7 (fX2_codeOfOldByte b x1) _) (cwV 1 hts gX2_wrongInOldKind_X0_add rfl rfl rfl (by decide +kernel) ⟨Nat.le_of_ble_eq_true rfl, Nat.le_of_ble_eq_true rfl⟩) (pcM_V (hP.sub (ws' := [(t7, .inr (1, [.ref b7, .int (nI wm.length)])), (b7, .inl (c7, 200, .inl f7))]) [5, 6] rfl) (hD.sub (ws' := [(t7, .inr (1, [.ref b7, .int (nI wm.length)])), (b7, .inl (c7, 200, .inl f7))]) [5, 6] (by decide) rfl) (hK.sub (tys' := [(c7, .int)]) [2] rfl) hN 0 rfl rfl) rfl rfl hl.1 rfl (lv_room (Nat.le_of_ble_eq_true rfl)) dX2_wrongInOldKind_105 ⟨Nat.zero_le _, Nat.zero_le _⟩) hP hD hS hA [5, 6] [0, 1, 2, 3, 4] rfl rfl (by decide) (by decide) (fun u_5 H locs hw_5 hP hD hS => ?_)
                  have e9_2 : (rw_add 200 wm (fX2_codeOfOldByte b x1)) = (wm ++ [fX2_codeOfOldByte b x1]) := (rw_add_lt (by omega))
                  rw [e9_2] at hw_5 hP hD
                  have hP : va_P D vwCl [(h, .inr (3, [.ref t0, .ref t1, .ref t2, .ref t3, .ref t4, .ref t5, .ref t6, .ref t7, .ref t8, .ref t9, .int si])), (t0, .inr (2, [.ref b0, .int (nI x0.length)])), (b0, .inl (c0, 200, .inl f0)), (t4, .inr (1, [.ref b4, .int (nI fr.length)])), (b4, .inl (c4, 200, .inl f4)), (t7, .inr (1, [.ref b7, .int (nI (wm ++ [fX2_codeOfOldByte b x1]).length)])), (b7, .inl (c7, 200, .inl u_5))] H := hP.sub [0, 1, 2, 3, 4, 5, 6] rfl
                  have hD : va_D A [(h, .inr (3, [.ref t0, .ref t1, .ref t2, .ref t3, .ref t4, .ref t5, .ref t6, .ref t7, .ref t8, .ref t9, .int si])), (t0, .inr (2, [.ref b0, .int (nI x0.length)])), (b0, .inl (c0, 200, .inl f0)), (t4, .inr (1, [.ref b4, .int (nI fr.length)])), (b4, .inl (c4, 200, .inl f4)), (t7, .inr (1, [.ref b7, .int (nI (wm ++ [fX2_codeOfOldByte b x1]).length)])), (b7, .inl (c7, 200, .inl u_5))] := hD.sub [0, 1, 2, 3, 4, 5, 6] (by decide) rfl
                  refine lv_goto (tgt := 176) hx hb dX2_wrongInOldKind_108 (by decide) ?_
                  refine lv_iinc (v := (x3 + 1)) (lv' := [(3, .int (x3 + 1)), (2, .int x2), (5, .int (fX2_codeOfOldByte b x1)), (4, .int b), (1, .int x1), (0, .ref h)]) hx hb dX2_wrongInOldKind_176 hl (k := 3) rfl rfl (by decide) rfl (fun ls hl => ?_)
                  refine lv_goto (tgt := 13) hx hb dX2_wrongInOldKind_179 (by decide) ?_
                  have q90 := nI_0iff (n := wm.length) (by omega)
                  exact ih t (done ++ [b]) _ fr u_5 f4 _ _ _ H locs ls (by simp at hn ⊢; omega) (by rw [hcs]; simp) (by rw [← hT]; simp [roS, c38_1, c70_1, c80_1, ← q90, c90_1, e3]) (by rw [e3, List.length_append]; exact nI_1 _) o4 hw_5 (by simp <;> omega) hfr hP hD hS (lv_sub hl [0, 1, 4, 5] rfl)
                · skip
                  refine lv_iload_n hx hb dX2_wrongInOldKind_93 rfl (lv_at hl 2 rfl) ?_
                  refine lv_goto (tgt := 98) hx hb dX2_wrongInOldKind_94 (by decide) ?_
                  refine lv_istore_n (lv' := [(2, .int x3), (5, .int (fX2_codeOfOldByte b x1)), (4, .int b), (3, .int x3), (1, .int x1), (0, .ref h)]) hx hb dX2_wrongInOldKind_98 rfl hl (by decide) rfl (fun ls hl => ?_)
                  refine lv_aload_n hx hb dX2_wrongInOldKind_99 rfl (lv_at hl 5 rfl) ?_
                  refine va_get (D := D) (ci := 3) (v := .ref t7) (C := RX2) (T := TX2) (N := 11) hx hb hts (by decide +kernel) hown hK hP 0 rfl rfl 7 (by decide) (hts (.fieldLink RX2 40 "CharacterRows" "waitingMarks" "LCharacterRows$Codes;") (by decide +kernel)) (fun _ h9 => h9) rfl dX2_wrongInOldKind_100 ?_
                  refine lv_iload hx hb dX2_wrongInOldKind_103 (lv_at hl 1 rfl) ?_
                  refine clV (wr := [(h, .inr (3, [.ref t0, .ref t1, .ref t2, .ref t3, .ref t4, .ref t5, .ref t6, .ref t7, .ref t8, .ref t9, .int si])), (t0, .inr (2, [.ref b0, .int (nI x0.length)])), (b0, .inl (c0, 200, .inl f0)), (t4, .inr (1, [.ref b4, .int (nI fr.length)])), (b4, .inl (c4, 200, .inl f4))]) (va_runV ⟨hx, hb, hml, hown, hts⟩ (KX0_add l D t7 b7 c7 f7 wm o7 (fX2_codeOfOldByte b x1) _) (cwV 1 hts gX2_wrongInOldKind_X0_add rfl rfl rfl (by decide +kernel) ⟨Nat.le_of_ble_eq_true rfl, Nat.le_of_ble_eq_true rfl⟩) (pcM_V (hP.sub (ws' := [(t7, .inr (1, [.ref b7, .int (nI wm.length)])), (b7, .inl (c7, 200, .inl f7))]) [5, 6] rfl) (hD.sub (ws' := [(t7, .inr (1, [.ref b7, .int (nI wm.length)])), (b7, .inl (c7, 200, .inl f7))]) [5, 6] (by decide) rfl) (hK.sub (tys' := [(c7, .int)]) [2] rfl) hN 0 rfl rfl) rfl rfl hl.1 rfl (lv_room (Nat.le_of_ble_eq_true rfl)) dX2_wrongInOldKind_105 ⟨Nat.zero_le _, Nat.zero_le _⟩) hP hD hS hA [5, 6] [0, 1, 2, 3, 4] rfl rfl (by decide) (by decide) (fun u_6 H locs hw_6 hP hD hS => ?_)
                  have e9_3 : (rw_add 200 wm (fX2_codeOfOldByte b x1)) = (wm ++ [fX2_codeOfOldByte b x1]) := (rw_add_lt (by omega))
                  rw [e9_3] at hw_6 hP hD
                  have hP : va_P D vwCl [(h, .inr (3, [.ref t0, .ref t1, .ref t2, .ref t3, .ref t4, .ref t5, .ref t6, .ref t7, .ref t8, .ref t9, .int si])), (t0, .inr (2, [.ref b0, .int (nI x0.length)])), (b0, .inl (c0, 200, .inl f0)), (t4, .inr (1, [.ref b4, .int (nI fr.length)])), (b4, .inl (c4, 200, .inl f4)), (t7, .inr (1, [.ref b7, .int (nI (wm ++ [fX2_codeOfOldByte b x1]).length)])), (b7, .inl (c7, 200, .inl u_6))] H := hP.sub [0, 1, 2, 3, 4, 5, 6] rfl
                  have hD : va_D A [(h, .inr (3, [.ref t0, .ref t1, .ref t2, .ref t3, .ref t4, .ref t5, .ref t6, .ref t7, .ref t8, .ref t9, .int si])), (t0, .inr (2, [.ref b0, .int (nI x0.length)])), (b0, .inl (c0, 200, .inl f0)), (t4, .inr (1, [.ref b4, .int (nI fr.length)])), (b4, .inl (c4, 200, .inl f4)), (t7, .inr (1, [.ref b7, .int (nI (wm ++ [fX2_codeOfOldByte b x1]).length)])), (b7, .inl (c7, 200, .inl u_6))] := hD.sub [0, 1, 2, 3, 4, 5, 6] (by decide) rfl
                  refine lv_goto (tgt := 176) hx hb dX2_wrongInOldKind_108 (by decide) ?_
                  refine lv_iinc (v := (x3 + 1)) (lv' := [(3, .int (x3 + 1)), (2, .int x3), (5, .int (fX2_codeOfOldByte b x1)), (4, .int b), (1, .int x1), (0, .ref h)]) hx hb dX2_wrongInOldKind_176 hl (k := 3) rfl rfl (by decide) rfl (fun ls hl => ?_)
                  refine lv_goto (tgt := 13) hx hb dX2_wrongInOldKind_179 (by decide) ?_
                  have q90 := nI_0iff (n := wm.length) (by omega)
                  exact ih t (done ++ [b]) _ fr u_6 f4 _ _ _ H locs ls (by simp at hn ⊢; omega) (by rw [hcs]; simp) (by rw [← hT]; simp [roS, c38_1, c70_1, c80_1, ← q90, c90_1, e3]) (by rw [e3, List.length_append]; exact nI_1 _) o4 hw_6 (by simp <;> omega) hfr hP hD hS (lv_sub hl [0, 1, 4, 5] rfl)
            · skip
              refine lv_iload_n hx hb dX2_wrongInOldKind_73 rfl (lv_at hl 2 rfl) ?_
              have e8 : (x3, fr) = T := by rw [← hT, e3]; simp [roS, c38_1, c70_1]
              have e9 : fr = T.2 := by rw [← e8]
              rw [e9] at o4 hP hD
              exact rtI hx hb hr hlocks dX2_wrongInOldKind_74 (f4, f7, wm) ⟨by rw [← e8], o4, o7⟩ hP hD hS
          · skip
            refine lv_aload_n hx hb dX2_wrongInOldKind_41 rfl (lv_at hl 4 rfl) ?_
            refine lv_iload_n hx hb dX2_wrongInOldKind_42 rfl (lv_at hl 1 rfl) ?_
            refine vp_callSi (W.runV ⟨hx, hb, hml, hown, hts⟩ (KX2_setOfEscape l D h t0 t1 t2 t3 t4 t5 t6 t7 t8 t9 si b0 c0 f0 x0 o0 x3 (gd t 0) (gd t 1) (by rw [ox_at, hcs, e3, nI_1]; exact rw_at_d (l := done) (r := b :: t) (j := 1) rfl (by omega)) (by rw [ox_at, hcs, e3]; exact (congrArg _ (nI_add done.length 2)).trans (rw_at_d (l := done) (r := b :: t) (j := 2) rfl (by omega)))) (cwV 1 hts gX2_wrongInOldKind_X2_setOfEscape rfl rfl rfl (by decide +kernel) ⟨Nat.le_of_ble_eq_true rfl, Nat.le_of_ble_eq_true rfl⟩) (pcR_V (hP.sub (ws' := [(h, .inr (3, [.ref t0, .ref t1, .ref t2, .ref t3, .ref t4, .ref t5, .ref t6, .ref t7, .ref t8, .ref t9, .int si])), (t0, .inr (2, [.ref b0, .int (nI x0.length)])), (b0, .inl (c0, 200, .inl f0))]) [0, 1, 2] rfl) (hK.sub (tys' := [(c0, .byte)]) [0] rfl) hN 0 rfl rfl) rfl rfl hl.1 rfl (lv_room (Nat.le_of_ble_eq_true rfl)) dX2_wrongInOldKind_43 ⟨Nat.zero_le _, Nat.zero_le _⟩) (fun r9 hr9 => ?_)
            subst r9
            refine lv_istore_n (lv' := [(1, .int (fX2_setOfEscape (gd t 0) (gd t 1))), (4, .int b), (3, .int x3), (2, .int x2), (0, .ref h)]) hx hb dX2_wrongInOldKind_46 rfl hl (by decide) rfl (fun ls hl => ?_)
            skip
            refine lv_iload_n hx hb dX2_wrongInOldKind_47 rfl (lv_at hl 0 rfl) ?_
            refine lv_iconst (v := (-1)) hx hb dX2_wrongInOldKind_48 (by decide) ?_
            refine lv_icmp_ne (tgt := 54) hx hb dX2_wrongInOldKind_49 (by decide) (fun c49_1 => ?_) (fun c49_1 => ?_)
            · skip
              refine lv_iinc (v := (x3 + 2)) (lv' := [(3, .int (x3 + 2)), (1, .int (fX2_setOfEscape (gd t 0) (gd t 1))), (4, .int b), (2, .int x2), (0, .ref h)]) hx hb dX2_wrongInOldKind_54 hl (k := 2) rfl rfl (by decide) rfl (fun ls hl => ?_)
              refine lv_goto (tgt := 176) hx hb dX2_wrongInOldKind_57 (by decide) ?_
              refine lv_iinc (v := ((x3 + 2) + 1)) (lv' := [(3, .int ((x3 + 2) + 1)), (1, .int (fX2_setOfEscape (gd t 0) (gd t 1))), (4, .int b), (2, .int x2), (0, .ref h)]) hx hb dX2_wrongInOldKind_176 hl (k := 0) rfl rfl (by decide) rfl (fun ls hl => ?_)
              refine lv_goto (tgt := 13) hx hb dX2_wrongInOldKind_179 (by decide) ?_
              have h2 := esc_len c49_1
              exact ih (t.drop 2) (done ++ b :: t.take 2) wm fr f7 f4 _ _ _ H locs ls (by simp at hn ⊢; omega) (by rw [hcs]; simp) (by rw [← hT]; simp [roS, c38_1, c49_1]; congr 1; (try rw [Nat.min_eq_left h2]); (try omega)) (by rw [e3]; exact (congrArg (· + 1) (nI_add done.length 2)).trans ((nI_1 _).trans (by congr 1; simp; omega))) o4 o7 (by simp <;> omega) hfr hP hD hS (lv_sub hl [0, 3, 1, 4] rfl)
            · skip
              refine lv_iload_n hx hb dX2_wrongInOldKind_52 rfl (lv_at hl 2 rfl) ?_
              have e8 : (x3, fr) = T := by rw [← hT, e3]; simp [roS, c38_1, c49_1]
              have e9 : fr = T.2 := by rw [← e8]
              rw [e9] at o4 hP hD
              exact rtI hx hb hr hlocks dX2_wrongInOldKind_53 (f4, f7, wm) ⟨by rw [← e8], o4, o7⟩ hP hD hS
  exact loop ((ox_u x0).length + 1) (ox_u x0) [] [] [] u_1 f4 _ _ _ H locs ls (Nat.lt_succ_self _) rfl hT rfl o4 hw_1 (Nat.le_refl _) (Nat.zero_le _) hP hD hS (lv_sub hl [0, 1, 2, 3] rfl)
