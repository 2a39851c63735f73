/-! the class: the reader of the new kind, the writers -/
set_option maxHeartbeats 4000000 in
set_option maxRecDepth 100000 in
theorem KX2_wrongInNewKind (l : Launch) (D : va_G) (h t0 t1 t2 t3 t4 t5 t6 t7 t8 t9 : Nat) (si : Int32) (b0 : Nat) (c0 : ClassId) (f0 : Nat → Int32) (x0 : List Int32) (o0 : rw_ok f0 200 x0) (b4 : Nat) (c4 : ClassId) (f4 : Nat → Int32) (o4 : rw_ok f4 200 ([] : List Int32)) (T : Int32 × List Int32) (hT : rnS ((ox_u x0).length + 1) (ox_u x0) 0 [] = T) (sz : Nat) : Met l yX2_wrongInNewKind wsX2_wrongInNewKind ({ frames := 3, cells := 0, slots := 0, locals := 60 }) (pcM D sz [(h, .inr (3, [.ref t0, .ref t1, .ref t2, .ref t3, .ref t4, .ref t5, .ref t6, .ref t7, .ref t8, .ref t9, .int si])), (t0, .inr (2, [.ref b0, .int (nI x0.length)])), (b0, .inl (c0, 200, .inl f0)), (t4, .inr (1, [.ref b4, .int (nI ([] : List Int32).length)])), (b4, .inl (c4, 200, .inl f4))] [(c0, .byte), (c4, .int)] [.ref h]) (qcI (S := Nat → Int32) D (fun r u => r = T.1 ∧ rw_ok u 200 T.2) (fun u => [(h, .inr (3, [.ref t0, .ref t1, .ref t2, .ref t3, .ref t4, .ref t5, .ref t6, .ref t7, .ref t8, .ref t9, .int si])), (t0, .inr (2, [.ref b0, .int (nI x0.length)])), (b0, .inl (c0, 200, .inl f0)), (t4, .inr (1, [.ref b4, .int (nI T.2.length)])), (b4, .inl (c4, 200, .inl u))]) (va_A [(h, .inr (3, [.ref t0, .ref t1, .ref t2, .ref t3, .ref t4, .ref t5, .ref t6, .ref t7, .ref t8, .ref t9, .int si])), (t0, .inr (2, [.ref b0, .int (nI x0.length)])), (b0, .inl (c0, 200, .inl f0)), (t4, .inr (1, [.ref b4, .int (nI ([] : List Int32).length)])), (b4, .inl (c4, 200, .inl f4))] sz)) 0 0 (va_A [(h, .inr (3, [.ref t0, .ref t1, .ref t2, .ref t3, .ref t4, .ref t5, .ref t6, .ref t7, .ref t8, .ref t9, .int si])), (t0, .inr (2, [.ref b0, .int (nI x0.length)])), (b0, .inl (c0, 200, .inl f0)), (t4, .inr (1, [.ref b4, .int (nI ([] : List Int32).length)])), (b4, .inl (c4, 200, .inl f4))] sz) := by
  refine ofM (Qc := fun A => qcI (S := Nat → Int32) D (fun r u => r = T.1 ∧ rw_ok u 200 T.2) (fun u => [(h, .inr (3, [.ref t0, .ref t1, .ref t2, .ref t3, .ref t4, .ref t5, .ref t6, .ref t7, .ref t8, .ref t9, .int si])), (t0, .inr (2, [.ref b0, .int (nI x0.length)])), (b0, .inl (c0, 200, .inl f0)), (t4, .inr (1, [.ref b4, .int (nI T.2.length)])), (b4, .inl (c4, 200, .inl u))]) A) (cc := cX2_wrongInNewKind) (maxL := 5) (ret := (some .int)) (by decide) rfl (Nat.le_of_ble_eq_true rfl) ?_
  intro p e s m below meth c ls A hx hb hr hml hown hts hlocks hnm hP hK hN hD hA hS hl
  have hl : lv_has ls 5 [(0, .ref h)] := hl
  refine lv_iconst (v := 0) hx hb dX2_wrongInNewKind_0 (by decide) ?_
  refine lv_istore_n (lv' := [(1, .int 0), (0, .ref h)]) hx hb dX2_wrongInNewKind_1 rfl hl (by decide) rfl (fun ls hl => ?_)
  have loop : ∀ (n : Nat) (rest done fr : List Int32) (f4 : Nat → Int32) (y1 : Int32) (H : Heap) (locs : List Loc) (ls : Array Slot), rest.length < n → ox_u x0 = done ++ rest → rnS n rest done.length fr = T → y1 = nI done.length → rw_ok f4 200 fr → fr.length ≤ 100 → va_P D vwCl [(h, .inr (3, [.ref t0, .ref t1, .ref t2, .ref t3, .ref t4, .ref t5, .ref t6, .ref t7, .ref t8, .ref t9, .int si])), (t0, .inr (2, [.ref b0, .int (nI x0.length)])), (b0, .inl (c0, 200, .inl f0)), (t4, .inr (1, [.ref b4, .int (nI fr.length)])), (b4, .inl (c4, 200, .inl f4))] H → va_D A [(h, .inr (3, [.ref t0, .ref t1, .ref t2, .ref t3, .ref t4, .ref t5, .ref t6, .ref t7, .ref t8, .ref t9, .int si])), (t0, .inr (2, [.ref b0, .int (nI x0.length)])), (b0, .inl (c0, 200, .inl f0)), (t4, .inr (1, [.ref b4, .int (nI fr.length)])), (b4, .inl (c4, 200, .inl f4))] → va_S A s.heap H locs → lv_has ls 5 [(1, .int y1), (0, .ref h)] → W p l e ({ frames := 3, cells := 0, slots := 0, locals := 60 }) s m ([.ref h] : List Value).toArray below meth c H locs 0 0 (MQ below (qcI (S := Nat → Int32) D (fun r u => r = T.1 ∧ rw_ok u 200 T.2) (fun u => [(h, .inr (3, [.ref t0, .ref t1, .ref t2, .ref t3, .ref t4, .ref t5, .ref t6, .ref t7, .ref t8, .ref t9, .int si])), (t0, .inr (2, [.ref b0, .int (nI x0.length)])), (b0, .inl (c0, 200, .inl f0)), (t4, .inr (1, [.ref b4, .int (nI T.2.length)])), (b4, .inl (c4, 200, .inl u))]) A) ([.ref h] : List Value).toArray s 0 0 A) (F0 m 2 ls [])  := by
    intro n
    induction n with
    | zero =>
      intro rest done fr f4 y1 H locs ls hn hcs hT e1 o4 hfr hP hD hS hl
      exact absurd hn (Nat.not_lt_zero _)
    | succ n ih =>
      intro rest done fr f4 y1 H locs ls hn hcs hT e1 o4 hfr hP hD hS hl
      have hlx : x0.length = done.length + rest.length := by rw [← ox_len, hcs]; simp
      have h200 := o0.1
      rcases rest with _ | ⟨b, t⟩
      · skip
        simp at hlx
        refine lv_iload_n hx hb dX2_wrongInNewKind_2 rfl (lv_at hl 0 rfl) ?_
        refine lv_aload_n hx hb dX2_wrongInNewKind_3 rfl (lv_at hl 1 rfl) ?_
        refine va_get (D := D) (ci := 3) (v := .ref t0) (C := RX2) (T := TX2) (N := 11) hx hb hts (by decide +kernel) hown hK hP 0 rfl rfl 0 (by decide) (hts (.fieldLink RX2 14 "CharacterRows" "collected" "LCharacterRows$Octets;") (by decide +kernel)) (fun _ h9 => h9) rfl dX2_wrongInNewKind_4 ?_
        refine va_getN (D := D) (ci := 2) (v := .int (nI x0.length)) (C := RX1) (T := TX1) (N := 2) hx hb hts (by decide +kernel) hown hK hP 1 rfl rfl 1 (by decide) (va_Nw.use rfl (nst_at hN 0 rfl)) (fun _ h9 => h9) rfl dX2_wrongInNewKind_7 ?_
        refine lv_icmp_ge (tgt := 115) hx hb dX2_wrongInNewKind_10 (by decide) (fun c10_1 => ?_) (fun c10_1 => ?_)
        · skip
          refine lv_iconst (v := (-1)) hx hb dX2_wrongInNewKind_115 (by decide) ?_
          have e8 : ((-1 : Int32), fr) = T := by rw [← hT]; rfl
          have e9 : fr = T.2 := by rw [← e8]
          rw [e9] at o4 hP hD
          exact rtI hx hb hr hlocks dX2_wrongInNewKind_116 f4 ⟨by rw [← e8], o4⟩ hP hD hS
        · skip
          exact absurd (by rw [e1, hlx]; simp) c10_1
      · skip
        simp at hlx
        have hle0 : done.length + t.length + 1 ≤ 200 := by omega
        refine lv_iload_n hx hb dX2_wrongInNewKind_2 rfl (lv_at hl 0 rfl) ?_
        refine lv_aload_n hx hb dX2_wrongInNewKind_3 rfl (lv_at hl 1 rfl) ?_
        refine va_get (D := D) (ci := 3) (v := .ref t0) (C := RX2) (T := TX2) (N := 11) hx hb hts (by decide +kernel) hown hK hP 0 rfl rfl 0 (by decide) (hts (.fieldLink RX2 14 "CharacterRows" "collected" "LCharacterRows$Octets;") (by decide +kernel)) (fun _ h9 => h9) rfl dX2_wrongInNewKind_4 ?_
        refine va_getN (D := D) (ci := 2) (v := .int (nI x0.length)) (C := RX1) (T := TX1) (N := 2) hx hb hts (by decide +kernel) hown hK hP 1 rfl rfl 1 (by decide) (va_Nw.use rfl (nst_at hN 0 rfl)) (fun _ h9 => h9) rfl dX2_wrongInNewKind_7 ?_
        refine lv_icmp_ge (tgt := 115) hx hb dX2_wrongInNewKind_10 (by decide) (fun c10_2 => ?_) (fun c10_2 => ?_)
        · skip
          exact absurd c10_2 (by rw [e1, hlx]; exact nI_ge (by simp) (by simp at hlx ⊢; omega))
        · skip
          refine lv_aload_n hx hb dX2_wrongInNewKind_13 rfl (lv_at hl 1 rfl) ?_
          refine lv_iload_n hx hb dX2_wrongInNewKind_14 rfl (lv_at hl 0 rfl) ?_
          refine vp_callSi (W.runV ⟨hx, hb, hml, hown, hts⟩ (KX2_codeOfNewBytes l D h t0 t1 t2 t3 t4 t5 t6 t7 t8 t9 si b0 c0 f0 x0 o0 y1 b (gd t 0) (gd t 1) (by rw [ox_at, hcs, e1]; exact rw_at_k rfl (by omega)) (by rw [ox_at, hcs, e1, nI_1]; exact rw_at_d (l := done) (r := b :: t) (j := 1) rfl (by omega)) (by rw [ox_at, hcs, e1]; exact (congrArg _ (nI_add done.length 2)).trans (rw_at_d (l := done) (r := b :: t) (j := 2) rfl (by omega)))) (cwV 1 hts gX2_wrongInNewKind_X2_codeOfNewBytes rfl rfl rfl (by decide +kernel) ⟨Nat.le_of_ble_eq_true rfl, Nat.le_of_ble_eq_true rfl⟩) (pcR_V (hP.sub (ws' := [(h, .inr (3, [.ref t0, .ref t1, .ref t2, .ref t3, .ref t4, .ref t5, .ref t6, .ref t7, .ref t8, .ref t9, .int si])), (t0, .inr (2, [.ref b0, .int (nI x0.length)])), (b0, .inl (c0, 200, .inl f0))]) [0, 1, 2] rfl) (hK.sub (tys' := [(c0, .byte)]) [0] rfl) hN 0 rfl rfl) rfl rfl hl.1 rfl (lv_room (Nat.le_of_ble_eq_true rfl)) dX2_wrongInNewKind_15 ⟨Nat.zero_le _, Nat.zero_le _⟩) (fun r9 hr9 => ?_)
          replace hr9 : r9 = (cnl b t) := hr9.trans rfl
          subst r9
          refine lv_istore_n (lv' := [(2, .int (cnl b t)), (1, .int y1), (0, .ref h)]) hx hb dX2_wrongInNewKind_18 rfl hl (by decide) rfl (fun ls hl => ?_)
          refine lv_iload_n hx hb dX2_wrongInNewKind_19 rfl (lv_at hl 0 rfl) ?_
          refine vp_callSi (W.runS ⟨hx, hb, hml, hown, hts⟩ (KX2_isPlain l (cnl b t)) (va_cwS 1 hts gX2_wrongInNewKind_X2_isPlain rfl rfl rfl (by decide +kernel) ⟨Nat.le_of_ble_eq_true rfl, Nat.le_of_ble_eq_true rfl⟩) pcS_S rfl rfl hl.1 rfl (lv_room (Nat.le_of_ble_eq_true rfl)) dX2_wrongInNewKind_20 ⟨Nat.zero_le _, Nat.zero_le _⟩) (fun r9 hr9 => ?_)
          subst r9
          refine lv_if_ne (tgt := 41) hx hb dX2_wrongInNewKind_23 (by decide) (fun c23_1 => ?_) (fun c23_1 => ?_)
          · skip
            refine lv_iconst (v := 1) hx hb dX2_wrongInNewKind_41 (by decide) ?_
            refine lv_goto (tgt := 46) hx hb dX2_wrongInNewKind_42 (by decide) ?_
            refine lv_istore_n (lv' := [(3, .int 1), (2, .int (cnl b t)), (1, .int y1), (0, .ref h)]) hx hb dX2_wrongInNewKind_46 rfl hl (by decide) rfl (fun ls hl => ?_)
            refine lv_iload_n hx hb dX2_wrongInNewKind_47 rfl (lv_at hl 1 rfl) ?_
            refine vp_callSi (W.runS ⟨hx, hb, hml, hown, hts⟩ (KX2_isMark l (cnl b t)) (va_cwS 1 hts gX2_wrongInNewKind_X2_isMark rfl rfl rfl (by decide +kernel) ⟨Nat.le_of_ble_eq_true rfl, Nat.le_of_ble_eq_true rfl⟩) pcS_S rfl rfl hl.1 rfl (lv_room (Nat.le_of_ble_eq_true rfl)) dX2_wrongInNewKind_48 ⟨Nat.zero_le _, Nat.zero_le _⟩) (fun r9 hr9 => ?_)
            subst r9
            refine lv_if_eq (tgt := 68) hx hb dX2_wrongInNewKind_51 (by decide) (fun c51_1 => ?_) (fun c51_1 => ?_)
            · skip
              refine lv_iconst (v := 0) hx hb dX2_wrongInNewKind_68 (by decide) ?_
              refine lv_istore (lv' := [(4, .int 0), (3, .int 1), (2, .int (cnl b t)), (1, .int y1), (0, .ref h)]) hx hb dX2_wrongInNewKind_69 hl (by decide) rfl (fun ls hl => ?_)
              refine lv_iload_n hx hb dX2_wrongInNewKind_71 rfl (lv_at hl 1 rfl) ?_
              refine lv_if_eq (tgt := 92) hx hb dX2_wrongInNewKind_72 (by decide) (fun c72_1 => ?_) (fun c72_1 => ?_)
              · exact absurd c72_1 (by decide)
              · skip
                refine lv_iload hx hb dX2_wrongInNewKind_75 (lv_at hl 0 rfl) ?_
                refine lv_if_ne (tgt := 92) hx hb dX2_wrongInNewKind_77 (by decide) (fun c77_1 => ?_) (fun c77_1 => ?_)
                · exact absurd c77_1 (by decide)
                · skip
                  refine lv_aload_n hx hb dX2_wrongInNewKind_80 rfl (lv_at hl 4 rfl) ?_
                  refine va_get (D := D) (ci := 3) (v := .ref t4) (C := RX2) (T := TX2) (N := 11) hx hb hts (by decide +kernel) hown hK hP 0 rfl rfl 4 (by decide) (hts (.fieldLink RX2 31 "CharacterRows" "fresh" "LCharacterRows$Codes;") (by decide +kernel)) (fun _ h9 => h9) rfl dX2_wrongInNewKind_81 ?_
                  refine va_getN (D := D) (ci := 1) (v := .int (nI fr.length)) (C := RX0) (T := TX0) (N := 2) hx hb hts (by decide +kernel) hown hK hP 3 rfl rfl 1 (by decide) (va_Nw.use rfl (nst_at hN 1 rfl)) (fun _ h9 => h9) rfl dX2_wrongInNewKind_84 ?_
                  refine lv_bipush (v := 100) hx hb dX2_wrongInNewKind_87 (by decide) ?_
                  refine lv_icmp_lt (tgt := 94) hx hb dX2_wrongInNewKind_89 (by decide) (fun c89_1 => ?_) (fun c89_1 => ?_)
                  · skip
                    have d89 : fr.length < 100 := (nI_lt100 (by omega)).mp c89_1
                    refine lv_aload_n hx hb dX2_wrongInNewKind_94 rfl (lv_at hl 4 rfl) ?_
                    refine va_get (D := D) (ci := 3) (v := .ref t4) (C := RX2) (T := TX2) (N := 11) hx hb hts (by decide +kernel) hown hK hP 0 rfl rfl 4 (by decide) (hts (.fieldLink RX2 31 "CharacterRows" "fresh" "LCharacterRows$Codes;") (by decide +kernel)) (fun _ h9 => h9) rfl dX2_wrongInNewKind_95 ?_
                    refine lv_iload_n hx hb dX2_wrongInNewKind_98 rfl (lv_at hl 2 rfl) ?_
                    refine clV (wr := [(h, .inr (3, [.ref t0, .ref t1, .ref t2, .ref t3, .ref t4, .ref t5, .ref t6, .ref t7, .ref t8, .ref t9, .int si])), (t0, .inr (2, [.ref b0, .int (nI x0.length)])), (b0, .inl (c0, 200, .inl f0))]) (va_runV ⟨hx, hb, hml, hown, hts⟩ (KX0_add l D t4 b4 c4 f4 fr o4 (cnl b t) _) (cwV 1 hts gX2_wrongInNewKind_X0_add rfl rfl rfl (by decide +kernel) ⟨Nat.le_of_ble_eq_true rfl, Nat.le_of_ble_eq_true rfl⟩) (pcM_V (hP.sub (ws' := [(t4, .inr (1, [.ref b4, .int (nI fr.length)])), (b4, .inl (c4, 200, .inl f4))]) [3, 4] rfl) (hD.sub (ws' := [(t4, .inr (1, [.ref b4, .int (nI fr.length)])), (b4, .inl (c4, 200, .inl f4))]) [3, 4] (by decide) rfl) (hK.sub (tys' := [(c4, .int)]) [1] rfl) hN 0 rfl rfl) rfl rfl hl.1 rfl (lv_room (Nat.le_of_ble_eq_true rfl)) dX2_wrongInNewKind_99 ⟨Nat.zero_le _, Nat.zero_le _⟩) hP hD hS hA [3, 4] [0, 1, 2] rfl rfl (by decide) (by decide) (fun u_1 H locs hw_1 hP hD hS => ?_)
                    have e9_1 : (rw_add 200 fr (cnl b t)) = (fr ++ [cnl b t]) := (rw_add_lt (by omega))
                    rw [e9_1] at hw_1 hP hD
                    have hP : va_P D vwCl [(h, .inr (3, [.ref t0, .ref t1, .ref t2, .ref t3, .ref t4, .ref t5, .ref t6, .ref t7, .ref t8, .ref t9, .int si])), (t0, .inr (2, [.ref b0, .int (nI x0.length)])), (b0, .inl (c0, 200, .inl f0)), (t4, .inr (1, [.ref b4, .int (nI (fr ++ [cnl b t]).length)])), (b4, .inl (c4, 200, .inl u_1))] H := hP.sub [0, 1, 2, 3, 4] rfl
                    have hD : va_D A [(h, .inr (3, [.ref t0, .ref t1, .ref t2, .ref t3, .ref t4, .ref t5, .ref t6, .ref t7, .ref t8, .ref t9, .int si])), (t0, .inr (2, [.ref b0, .int (nI x0.length)])), (b0, .inl (c0, 200, .inl f0)), (t4, .inr (1, [.ref b4, .int (nI (fr ++ [cnl b t]).length)])), (b4, .inl (c4, 200, .inl u_1))] := hD.sub [0, 1, 2, 3, 4] (by decide) rfl
                    refine lv_iload_n hx hb dX2_wrongInNewKind_102 rfl (lv_at hl 3 rfl) ?_
                    refine lv_iload_n hx hb dX2_wrongInNewKind_103 rfl (lv_at hl 2 rfl) ?_
                    refine vp_callSi (W.runS ⟨hx, hb, hml, hown, hts⟩ (KX2_bytesBehindFirst l (cnl b t)) (va_cwS 1 hts gX2_wrongInNewKind_X2_bytesBehindFirst rfl rfl rfl (by decide +kernel) ⟨Nat.le_of_ble_eq_true rfl, Nat.le_of_ble_eq_true rfl⟩) pcS_S rfl rfl hl.1 rfl (lv_room (Nat.le_of_ble_eq_true rfl)) dX2_wrongInNewKind_104 ⟨Nat.zero_le _, Nat.zero_le _⟩) (fun r9 hr9 => ?_)
                    subst r9
                    refine lv_iadd hx hb dX2_wrongInNewKind_107 ?_
                    refine lv_istore_n (lv' := [(1, .int (y1 + (fX2_bytesBehindFirst (cnl b t)))), (4, .int 0), (3, .int 1), (2, .int (cnl b t)), (0, .ref h)]) hx hb dX2_wrongInNewKind_108 rfl hl (by decide) rfl (fun ls hl => ?_)
                    refine lv_iinc (v := ((y1 + (fX2_bytesBehindFirst (cnl b t))) + 1)) (lv' := [(1, .int ((y1 + (fX2_bytesBehindFirst (cnl b t))) + 1)), (4, .int 0), (3, .int 1), (2, .int (cnl b t)), (0, .ref h)]) hx hb dX2_wrongInNewKind_109 hl (k := 0) rfl rfl (by decide) rfl (fun ls hl => ?_)
                    refine lv_goto (tgt := 2) hx hb dX2_wrongInNewKind_112 (by decide) ?_
                    have hk : nwk (cnl b t) fr.length = true := by simp [nwk, c23_1, c51_1, d89]
                    have h2 := new_len hk
                    exact ih (t.drop (bbN (cnl b t))) (done ++ b :: t.take (bbN (cnl b t))) _ u_1 _ H locs ls (by simp at hn ⊢; omega) (by rw [hcs]; simp) (by rw [← hT]; simp [rnS, hk]; congr 1; (try rw [Nat.min_eq_left h2]); (try omega)) (by rw [e1, bbN_eq, nI_add, nI_1]; congr 1; simp; omega) hw_1 (by simp; omega) hP hD hS (lv_sub hl [0, 4] rfl)
                  · skip
                    have d89 : ¬ fr.length < 100 := fun q => c89_1 ((nI_lt100 (by omega)).mpr q)
                    refine lv_iload_n hx hb dX2_wrongInNewKind_92 rfl (lv_at hl 3 rfl) ?_
                    have hk : ¬ nwk (cnl b t) fr.length = true := by simp [nwk, c23_1, c51_1, d89]
                    have e8 : (y1, fr) = T := by rw [← hT, e1]; simp [rnS, hk]
                    have e9 : fr = T.2 := by rw [← e8]
                    rw [e9] at o4 hP hD
                    exact rtI hx hb hr hlocks dX2_wrongInNewKind_93 f4 ⟨by rw [← e8], o4⟩ hP hD hS
            · skip
              refine lv_aload_n hx hb dX2_wrongInNewKind_54 rfl (lv_at hl 3 rfl) ?_
              refine va_get (D := D) (ci := 3) (v := .ref t4) (C := RX2) (T := TX2) (N := 11) hx hb hts (by decide +kernel) hown hK hP 0 rfl rfl 4 (by decide) (hts (.fieldLink RX2 31 "CharacterRows" "fresh" "LCharacterRows$Codes;") (by decide +kernel)) (fun _ h9 => h9) rfl dX2_wrongInNewKind_55 ?_
              refine va_getN (D := D) (ci := 1) (v := .int (nI fr.length)) (C := RX0) (T := TX0) (N := 2) hx hb hts (by decide +kernel) hown hK hP 3 rfl rfl 1 (by decide) (va_Nw.use rfl (nst_at hN 1 rfl)) (fun _ h9 => h9) rfl dX2_wrongInNewKind_58 ?_
              refine lv_if_ne (tgt := 68) hx hb dX2_wrongInNewKind_61 (by decide) (fun c61_1 => ?_) (fun c61_1 => ?_)
              · skip
                have d61 : ¬ fr.length = 0 := fun q => c61_1 ((nI_0iff (by omega)).mpr q)
                refine lv_iconst (v := 0) hx hb dX2_wrongInNewKind_68 (by decide) ?_
                refine lv_istore (lv' := [(4, .int 0), (3, .int 1), (2, .int (cnl b t)), (1, .int y1), (0, .ref h)]) hx hb dX2_wrongInNewKind_69 hl (by decide) rfl (fun ls hl => ?_)
                refine lv_iload_n hx hb dX2_wrongInNewKind_71 rfl (lv_at hl 1 rfl) ?_
                refine lv_if_eq (tgt := 92) hx hb dX2_wrongInNewKind_72 (by decide) (fun c72_2 => ?_) (fun c72_2 => ?_)
                · exact absurd c72_2 (by decide)
                · skip
                  refine lv_iload hx hb dX2_wrongInNewKind_75 (lv_at hl 0 rfl) ?_
                  refine lv_if_ne (tgt := 92) hx hb dX2_wrongInNewKind_77 (by decide) (fun c77_2 => ?_) (fun c77_2 => ?_)
                  · exact absurd c77_2 (by decide)
                  · skip
                    refine lv_aload_n hx hb dX2_wrongInNewKind_80 rfl (lv_at hl 4 rfl) ?_
                    refine va_get (D := D) (ci := 3) (v := .ref t4) (C := RX2) (T := TX2) (N := 11) hx hb hts (by decide +kernel) hown hK hP 0 rfl rfl 4 (by decide) (hts (.fieldLink RX2 31 "CharacterRows" "fresh" "LCharacterRows$Codes;") (by decide +kernel)) (fun _ h9 => h9) rfl dX2_wrongInNewKind_81 ?_
                    refine va_getN (D := D) (ci := 1) (v := .int (nI fr.length)) (C := RX0) (T := TX0) (N := 2) hx hb hts (by decide +kernel) hown hK hP 3 rfl rfl 1 (by decide) (va_Nw.use rfl (nst_at hN 1 rfl)) (fun _ h9 => h9) rfl dX2_wrongInNewKind_84 ?_
                    refine lv_bipush (v := 100) hx hb dX2_wrongInNewKind_87 (by decide) ?_
                    refine lv_icmp_lt (tgt := 94) hx hb dX2_wrongInNewKind_89 (by decide) (fun c89_2 => ?_) (fun c89_2 => ?_)
                    · skip
                      have d89 : fr.length < 100 := (nI_lt100 (by omega)).mp c89_2
                      refine lv_aload_n hx hb dX2_wrongInNewKind_94 rfl (lv_at hl 4 rfl) ?_
                      refine va_get (D := D) (ci := 3) (v := .ref t4) (C := RX2) (T := TX2) (N := 11) hx hb hts (by decide +kernel) hown hK hP 0 rfl rfl 4 (by decide) (hts (.fieldLink RX2 31 "CharacterRows" "fresh" "LCharacterRows$Codes;") (by decide +kernel)) (fun _ h9 => h9) rfl dX2_wrongInNewKind_95 ?_
                      refine lv_iload_n hx hb dX2_wrongInNewKind_98 rfl (lv_at hl 2 rfl) ?_
                      refine clV (wr := [(h, .inr (3, [.ref t0, .ref t1, .ref t2, .ref t3, .ref t4, .ref t5, .ref t6, .ref t7, .ref t8, .ref t9, .int si])), (t0, .inr (2, [.ref b0, .int (nI x0.length)])), (b0, .inl (c0, 200, .inl f0))]) (va_runV ⟨hx, hb, hml, hown, hts⟩ (KX0_add l D t4 b4 c4 f4 fr o4 (cnl b t) _) (cwV 1 hts gX2_wrongInNewKind_X0_add rfl rfl rfl (by decide +kernel) ⟨Nat.le_of_ble_eq_true rfl, Nat.le_of_ble_eq_true rfl⟩) (pcM_V (hP.sub (ws' := [(t4, .inr (1, [.ref b4, .int (nI fr.length)])), (b4, .inl (c4, 200, .inl f4))]) [3, 4] rfl) (hD.sub (ws' := [(t4, .inr (1, [.ref b4, .int (nI fr.length)])), (b4, .inl (c4, 200, .inl f4))]) [3, 4] (by decide) rfl) (hK.sub (tys' := [(c4, .int)]) [1] rfl) hN 0 rfl rfl) rfl rfl hl.1 rfl (lv_room (Nat.le_of_ble_eq_true rfl)) dX2_wrongInNewKind_99 ⟨Nat.zero_le _, Nat.zero_le _⟩) hP hD hS hA [3, 4] [0, 1, 2] rfl rfl (by decide) (by decide) (fun u_2 H locs hw_2 hP hD hS => ?_)
                      have e9_2 : (rw_add 200 fr (cnl b t)) = (fr ++ [cnl b t]) := (rw_add_lt (by omega))
                      rw [e9_2] at hw_2 hP hD
                      have hP : va_P D vwCl [(h, .inr (3, [.ref t0, .ref t1, .ref t2, .ref t3, .ref t4, .ref t5, .ref t6, .ref t7, .ref t8, .ref t9, .int si])), (t0, .inr (2, [.ref b0, .int (nI x0.length)])), (b0, .inl (c0, 200, .inl f0)), (t4, .inr (1, [.ref b4, .int (nI (fr ++ [cnl b t]).length)])), (b4, .inl (c4, 200, .inl u_2))] H := hP.sub [0, 1, 2, 3, 4] rfl
                      have hD : va_D A [(h, .inr (3, [.ref t0, .ref t1, .ref t2, .ref t3, .ref t4, .ref t5, .ref t6, .ref t7, .ref t8, .ref t9, .int si])), (t0, .inr (2, [.ref b0, .int (nI x0.length)])), (b0, .inl (c0, 200, .inl f0)), (t4, .inr (1, [.ref b4, .int (nI (fr ++ [cnl b t]).length)])), (b4, .inl (c4, 200, .inl u_2))] := hD.sub [0, 1, 2, 3, 4] (by decide) rfl
                      refine lv_iload_n hx hb dX2_wrongInNewKind_102 rfl (lv_at hl 3 rfl) ?_
                      refine lv_iload_n hx hb dX2_wrongInNewKind_103 rfl (lv_at hl 2 rfl) ?_
                      refine vp_callSi (W.runS ⟨hx, hb, hml, hown, hts⟩ (KX2_bytesBehindFirst l (cnl b t)) (va_cwS 1 hts gX2_wrongInNewKind_X2_bytesBehindFirst rfl rfl rfl (by decide +kernel) ⟨Nat.le_of_ble_eq_true rfl, Nat.le_of_ble_eq_true rfl⟩) pcS_S rfl rfl hl.1 rfl (lv_room (Nat.le_of_ble_eq_true rfl)) dX2_wrongInNewKind_104 ⟨Nat.zero_le _, Nat.zero_le _⟩) (fun r9 hr9 => ?_)
                      subst r9
                      refine lv_iadd hx hb dX2_wrongInNewKind_107 ?_
                      refine lv_istore_n (lv' := [(1, .int (y1 + (fX2_bytesBehindFirst (cnl b t)))), (4, .int 0), (3, .int 1), (2, .int (cnl b t)), (0, .ref h)]) hx hb dX2_wrongInNewKind_108 rfl hl (by decide) rfl (fun ls hl => ?_)
                      refine lv_iinc (v := ((y1 + (fX2_bytesBehindFirst (cnl b t))) + 1)) (lv' := [(1, .int ((y1 + (fX2_bytesBehindFirst (cnl b t))) + 1)), (4, .int 0), (3, .int 1), (2, .int (cnl b t)), (0, .ref h)]) hx hb dX2_wrongInNewKind_109 hl (k := 0) rfl rfl (by decide) rfl (fun ls hl => ?_)
                      refine lv_goto (tgt := 2) hx hb dX2_wrongInNewKind_112 (by decide) ?_
                      have hk : nwk (cnl b t) fr.length = true := by simp [nwk, c23_1, c51_1, d61, d89]
                      have h2 := new_len hk
                      exact ih (t.drop (bbN (cnl b t))) (done ++ b :: t.take (bbN (cnl b t))) _ u_2 _ H locs ls (by simp at hn ⊢; omega) (by rw [hcs]; simp) (by rw [← hT]; simp [rnS, hk]; congr 1; (try rw [Nat.min_eq_left h2]); (try omega)) (by rw [e1, bbN_eq, nI_add, nI_1]; congr 1; simp; omega) hw_2 (by simp; omega) hP hD hS (lv_sub hl [0, 4] rfl)
                    · skip
                      have d89 : ¬ fr.length < 100 := fun q => c89_2 ((nI_lt100 (by omega)).mpr q)
                      refine lv_iload_n hx hb dX2_wrongInNewKind_92 rfl (lv_at hl 3 rfl) ?_
                      have hk : ¬ nwk (cnl b t) fr.length = true := by simp [nwk, c23_1, c51_1, d61, d89]
                      have e8 : (y1, fr) = T := by rw [← hT, e1]; simp [rnS, hk]
                      have e9 : fr = T.2 := by rw [← e8]
                      rw [e9] at o4 hP hD
                      exact rtI hx hb hr hlocks dX2_wrongInNewKind_93 f4 ⟨by rw [← e8], o4⟩ hP hD hS
              · skip
                have d61 : fr.length = 0 := (nI_0iff (by omega)).mp c61_1
                refine lv_iconst (v := 1) hx hb dX2_wrongInNewKind_64 (by decide) ?_
                refine lv_goto (tgt := 69) hx hb dX2_wrongInNewKind_65 (by decide) ?_
                refine lv_istore (lv' := [(4, .int 1), (3, .int 1), (2, .int (cnl b t)), (1, .int y1), (0, .ref h)]) hx hb dX2_wrongInNewKind_69 hl (by decide) rfl (fun ls hl => ?_)
                refine lv_iload_n hx hb dX2_wrongInNewKind_71 rfl (lv_at hl 1 rfl) ?_
                refine lv_if_eq (tgt := 92) hx hb dX2_wrongInNewKind_72 (by decide) (fun c72_3 => ?_) (fun c72_3 => ?_)
                · exact absurd c72_3 (by decide)
                · skip
                  refine lv_iload hx hb dX2_wrongInNewKind_75 (lv_at hl 0 rfl) ?_
                  refine lv_if_ne (tgt := 92) hx hb dX2_wrongInNewKind_77 (by decide) (fun c77_3 => ?_) (fun c77_3 => ?_)
                  · skip
                    refine lv_iload_n hx hb dX2_wrongInNewKind_92 rfl (lv_at hl 3 rfl) ?_
                    have hk : ¬ nwk (cnl b t) fr.length = true := by simp [nwk, c23_1, c51_1, d61]
                    have e8 : (y1, fr) = T := by rw [← hT, e1]; simp [rnS, hk]
                    have e9 : fr = T.2 := by rw [← e8]
                    rw [e9] at o4 hP hD
                    exact rtI hx hb hr hlocks dX2_wrongInNewKind_93 f4 ⟨by rw [← e8], o4⟩ hP hD hS
                  · exact absurd c77_3 (by decide)
          · skip
            refine lv_iload_n hx hb dX2_wrongInNewKind_26 rfl (lv_at hl 0 rfl) ?_
            refine vp_callSi (W.runS ⟨hx, hb, hml, hown, hts⟩ (KX2_setOf l (cnl b t)) (va_cwS 1 hts gX2_wrongInNewKind_X2_setOf rfl rfl rfl (by decide +kernel) ⟨Nat.le_of_ble_eq_true rfl, Nat.le_of_ble_eq_true rfl⟩) pcS_S rfl rfl hl.1 rfl (lv_room (Nat.le_of_ble_eq_true rfl)) dX2_wrongInNewKind_27 ⟨Nat.zero_le _, Nat.zero_le _⟩) (fun r9 hr9 => ?_)
            subst r9
            refine lv_iconst (v := (-1)) hx hb dX2_wrongInNewKind_30 (by decide) ?_
            refine lv_icmp_ne (tgt := 41) hx hb dX2_wrongInNewKind_31 (by decide) (fun c31_1 => ?_) (fun c31_1 => ?_)
            · skip
              refine lv_iconst (v := 1) hx hb dX2_wrongInNewKind_41 (by decide) ?_
              refine lv_goto (tgt := 46) hx hb dX2_wrongInNewKind_42 (by decide) ?_
              refine lv_istore_n (lv' := [(3, .int 1), (2, .int (cnl b t)), (1, .int y1), (0, .ref h)]) hx hb dX2_wrongInNewKind_46 rfl hl (by decide) rfl (fun ls hl => ?_)
              refine lv_iload_n hx hb dX2_wrongInNewKind_47 rfl (lv_at hl 1 rfl) ?_
              refine vp_callSi (W.runS ⟨hx, hb, hml, hown, hts⟩ (KX2_isMark l (cnl b t)) (va_cwS 1 hts gX2_wrongInNewKind_X2_isMark rfl rfl rfl (by decide +kernel) ⟨Nat.le_of_ble_eq_true rfl, Nat.le_of_ble_eq_true rfl⟩) pcS_S rfl rfl hl.1 rfl (lv_room (Nat.le_of_ble_eq_true rfl)) dX2_wrongInNewKind_48 ⟨Nat.zero_le _, Nat.zero_le _⟩) (fun r9 hr9 => ?_)
              subst r9
              refine lv_if_eq (tgt := 68) hx hb dX2_wrongInNewKind_51 (by decide) (fun c51_2 => ?_) (fun c51_2 => ?_)
              · skip
                refine lv_iconst (v := 0) hx hb dX2_wrongInNewKind_68 (by decide) ?_
                refine lv_istore (lv' := [(4, .int 0), (3, .int 1), (2, .int (cnl b t)), (1, .int y1), (0, .ref h)]) hx hb dX2_wrongInNewKind_69 hl (by decide) rfl (fun ls hl => ?_)
                refine lv_iload_n hx hb dX2_wrongInNewKind_71 rfl (lv_at hl 1 rfl) ?_
                refine lv_if_eq (tgt := 92) hx hb dX2_wrongInNewKind_72 (by decide) (fun c72_4 => ?_) (fun c72_4 => ?_)
                · exact absurd c72_4 (by decide)
                · skip
                  refine lv_iload hx hb dX2_wrongInNewKind_75 (lv_at hl 0 rfl) ?_
                  refine lv_if_ne (tgt := 92) hx hb dX2_wrongInNewKind_77 (by decide) (fun c77_4 => ?_) (fun c77_4 => ?_)
                  · exact absurd c77_4 (by decide)
                  · skip
                    refine lv_aload_n hx hb dX2_wrongInNewKind_80 rfl (lv_at hl 4 rfl) ?_
                    refine va_get (D := D) (ci := 3) (v := .ref t4) (C := RX2) (T := TX2) (N := 11) hx hb hts (by decide +kernel) hown hK hP 0 rfl rfl 4 (by decide) (hts (.fieldLink RX2 31 "CharacterRows" "fresh" "LCharacterRows$Codes;") (by decide +kernel)) (fun _ h9 => h9) rfl dX2_wrongInNewKind_81 ?_
                    refine va_getN (D := D) (ci := 1) (v := .int (nI fr.length)) (C := RX0) (T := TX0) (N := 2) hx hb hts (by decide +kernel) hown hK hP 3 rfl rfl 1 (by decide) (va_Nw.use rfl (nst_at hN 1 rfl)) (fun _ h9 => h9) rfl dX2_wrongInNewKind_84 ?_
                    refine lv_bipush (v := 100) hx hb dX2_wrongInNewKind_87 (by decide) ?_
                    refine lv_icmp_lt (tgt := 94) hx hb dX2_wrongInNewKind_89 (by decide) (fun c89_3 => ?_) (fun c89_3 => ?_)
                    · skip
                      have d89 : fr.length < 100 := (nI_lt100 (by omega)).mp c89_3
                      refine lv_aload_n hx hb dX2_wrongInNewKind_94 rfl (lv_at hl 4 rfl) ?_
                      refine va_get (D := D) (ci := 3) (v := .ref t4) (C := RX2) (T := TX2) (N := 11) hx hb hts (by decide +kernel) hown hK hP 0 rfl rfl 4 (by decide) (hts (.fieldLink RX2 31 "CharacterRows" "fresh" "LCharacterRows$Codes;") (by decide +kernel)) (fun _ h9 => h9) rfl dX2_wrongInNewKind_95 ?_
                      refine lv_iload_n hx hb dX2_wrongInNewKind_98 rfl (lv_at hl 2 rfl) ?_
                      refine clV (wr := [(h, .inr (3, [.ref t0, .ref t1, .ref t2, .ref t3, .ref t4, .ref t5, .ref t6, .ref t7, .ref t8, .ref t9, .int si])), (t0, .inr (2, [.ref b0, .int (nI x0.length)])), (b0, .inl (c0, 200, .inl f0))]) (va_runV ⟨hx, hb, hml, hown, hts⟩ (KX0_add l D t4 b4 c4 f4 fr o4 (cnl b t) _) (cwV 1 hts gX2_wrongInNewKind_X0_add rfl rfl rfl (by decide +kernel) ⟨Nat.le_of_ble_eq_true rfl, Nat.le_of_ble_eq_true rfl⟩) (pcM_V (hP.sub (ws' := [(t4, .inr (1, [.ref b4, .int (nI fr.length)])), (b4, .inl (c4, 200, .inl f4))]) [3, 4] rfl) (hD.sub (ws' := [(t4, .inr (1, [.ref b4, .int (nI fr.length)])), (b4, .inl (c4, 200, .inl f4))]) [3, 4] (by decide) rfl) (hK.sub (tys' := [(c4, .int)]) [1] rfl) hN 0 rfl rfl) rfl rfl hl.1 rfl (lv_room (Nat.le_of_ble_eq_true rfl)) dX2_wrongInNewKind_99 ⟨Nat.zero_le _, Nat.zero_le _⟩) hP hD hS hA [3, 4] [0, 1, 2] rfl rfl (by decide) (by decide) (fun u_3 H locs hw_3 hP hD hS => ?_)
                      have e9_3 : (rw_add 200 fr (cnl b t)) = (fr ++ [cnl b t]) := (rw_add_lt (by omega))
                      rw [e9_3] at hw_3 hP hD
                      have hP : va_P D vwCl [(h, .inr (3, [.ref t0, .ref t1, .ref t2, .ref t3, .ref t4, .ref t5, .ref t6, .ref t7, .ref t8, .ref t9, .int si])), (t0, .inr (2, [.ref b0, .int (nI x0.length)])), (b0, .inl (c0, 200, .inl f0)), (t4, .inr (1, [.ref b4, .int (nI (fr ++ [cnl b t]).length)])), (b4, .inl (c4, 200, .inl u_3))] H := hP.sub [0, 1, 2, 3, 4] rfl
                      have hD : va_D A [(h, .inr (3, [.ref t0, .ref t1, .ref t2, .ref t3, .ref t4, .ref t5, .ref t6, .ref t7, .ref t8, .ref t9, .int si])), (t0, .inr (2, [.ref b0, .int (nI x0.length)])), (b0, .inl (c0, 200, .inl f0)), (t4, .inr (1, [.ref b4, .int (nI (fr ++ [cnl b t]).length)])), (b4, .inl (c4, 200, .inl u_3))] := hD.sub [0, 1, 2, 3, 4] (by decide) rfl
                      refine lv_iload_n hx hb dX2_wrongInNewKind_102 rfl (lv_at hl 3 rfl) ?_
                      refine lv_iload_n hx hb dX2_wrongInNewKind_103 rfl (lv_at hl 2 rfl) ?_
                      refine vp_callSi (W.runS ⟨hx, hb, hml, hown, hts⟩ (KX2_bytesBehindFirst l (cnl b t)) (va_cwS 1 hts gX2_wrongInNewKind_X2_bytesBehindFirst rfl rfl rfl (by decide +kernel) ⟨Nat.le_of_ble_eq_true rfl, Nat.le_of_ble_eq_true rfl⟩) pcS_S rfl rfl hl.1 rfl (lv_room (Nat.le_of_ble_eq_true rfl)) dX2_wrongInNewKind_104 ⟨Nat.zero_le _, Nat.zero_le _⟩) (fun r9 hr9 => ?_)
                      subst r9
                      refine lv_iadd hx hb dX2_wrongInNewKind_107 ?_
                      refine lv_istore_n (lv' := [(1, .int (y1 + (fX2_bytesBehindFirst (cnl b t)))), (4, .int 0), (3, .int 1), (2, .int (cnl b t)), (0, .ref h)]) hx hb dX2_wrongInNewKind_108 rfl hl (by decide) rfl (fun ls hl => ?_)
                      refine lv_iinc (v := ((y1 + (fX2_bytesBehindFirst (cnl b t))) + 1)) (lv' := [(1, .int ((y1 + (fX2_bytesBehindFirst (cnl b t))) + 1)), (4, .int 0), (3, .int 1), (2, .int (cnl b t)), (0, .ref h)]) hx hb dX2_wrongInNewKind_109 hl (k := 0) rfl rfl (by decide) rfl (fun ls hl => ?_)
                      refine lv_goto (tgt := 2) hx hb dX2_wrongInNewKind_112 (by decide) ?_
                      have hk : nwk (cnl b t) fr.length = true := by simp [nwk, c23_1, c31_1, c51_2, d89]
                      have h2 := new_len hk
                      exact ih (t.drop (bbN (cnl b t))) (done ++ b :: t.take (bbN (cnl b t))) _ u_3 _ H locs ls (by simp at hn ⊢; omega) (by rw [hcs]; simp) (by rw [← hT]; simp [rnS, hk]; congr 1; (try rw [Nat.min_eq_left h2]); (try omega)) (by rw [e1, bbN_eq, nI_add, nI_1]; congr 1; simp; omega) hw_3 (by simp; omega) hP hD hS (lv_sub hl [0, 4] rfl)
                    · skip
                      have d89 : ¬ fr.length < 100 := fun q => c89_3 ((nI_lt100 (by omega)).mpr q)
                      refine lv_iload_n hx hb dX2_wrongInNewKind_92 rfl (lv_at hl 3 rfl) ?_
                      have hk : ¬ nwk (cnl b t) fr.length = true := by simp [nwk, c23_1, c31_1, c51_2, d89]
                      have e8 : (y1, fr) = T := by rw [← hT, e1]; simp [rnS, hk]
                      have e9 : fr = T.2 := by rw [← e8]
                      rw [e9] at o4 hP hD
                      exact rtI hx hb hr hlocks dX2_wrongInNewKind_93 f4 ⟨by rw [← e8], o4⟩ hP hD hS
              · skip
                refine lv_aload_n hx hb dX2_wrongInNewKind_54 rfl (lv_at hl 3 rfl) ?_
                refine va_get (D := D) (ci := 3) (v := .ref t4) (C := RX2) (T := TX2) (N := 11) hx hb hts (by decide +kernel) hown hK hP 0 rfl rfl 4 (by decide) (hts (.fieldLink RX2 31 "CharacterRows" "fresh" "LCharacterRows$Codes;") (by decide +kernel)) (fun _ h9 => h9) rfl dX2_wrongInNewKind_55 ?_
                refine va_getN (D := D) (ci := 1) (v := .int (nI fr.length)) (C := RX0) (T := TX0) (N := 2) hx hb hts (by decide +kernel) hown hK hP 3 rfl rfl 1 (by decide) (va_Nw.use rfl (nst_at hN 1 rfl)) (fun _ h9 => h9) rfl dX2_wrongInNewKind_58 ?_
                refine lv_if_ne (tgt := 68) hx hb dX2_wrongInNewKind_61 (by decide) (fun c61_2 => ?_) (fun c61_2 => ?_)
                · skip
                  have d61 : ¬ fr.length = 0 := fun q => c61_2 ((nI_0iff (by omega)).mpr q)
                  refine lv_iconst (v := 0) hx hb dX2_wrongInNewKind_68 (by decide) ?_
                  refine lv_istore (lv' := [(4, .int 0), (3, .int 1), (2, .int (cnl b t)), (1, .int y1), (0, .ref h)]) hx hb dX2_wrongInNewKind_69 hl (by decide) rfl (fun ls hl => ?_)
                  refine lv_iload_n hx hb dX2_wrongInNewKind_71 rfl (lv_at hl 1 rfl) ?_
                  refine lv_if_eq (tgt := 92) hx hb dX2_wrongInNewKind_72 (by decide) (fun c72_5 => ?_) (fun c72_5 => ?_)
                  · exact absurd c72_5 (by decide)
                  · skip
                    refine lv_iload hx hb dX2_wrongInNewKind_75 (lv_at hl 0 rfl) ?_
                    refine lv_if_ne (tgt := 92) hx hb dX2_wrongInNewKind_77 (by decide) (fun c77_5 => ?_) (fun c77_5 => ?_)
                    · exact absurd c77_5 (by decide)
                    · skip
                      refine lv_aload_n hx hb dX2_wrongInNewKind_80 rfl (lv_at hl 4 rfl) ?_
                      refine va_get (D := D) (ci := 3) (v := .ref t4) (C := RX2) (T := TX2) (N := 11) hx hb hts (by decide +kernel) hown hK hP 0 rfl rfl 4 (by decide) (hts (.fieldLink RX2 31 "CharacterRows" "fresh" "LCharacterRows$Codes;") (by decide +kernel)) (fun _ h9 => h9) rfl dX2_wrongInNewKind_81 ?_
                      refine va_getN (D := D) (ci := 1) (v := .int (nI fr.length)) (C := RX0) (T := TX0) (N := 2) hx hb hts (by decide +kernel) hown hK hP 3 rfl rfl 1 (by decide) (va_Nw.use rfl (nst_at hN 1 rfl)) (fun _ h9 => h9) rfl dX2_wrongInNewKind_84 ?_
                      refine lv_bipush (v := 100) hx hb dX2_wrongInNewKind_87 (by decide) ?_
                      refine lv_icmp_lt (tgt := 94) hx hb dX2_wrongInNewKind_89 (by decide) (fun c89_4 => ?_) (fun c89_4 => ?_)
                      · skip
                        have d89 : fr.length < 100 := (nI_lt100 (by omega)).mp c89_4
                        refine lv_aload_n hx hb dX2_wrongInNewKind_94 rfl (lv_at hl 4 rfl) ?_
                        refine va_get (D := D) (ci := 3) (v := .ref t4) (C := RX2) (T := TX2) (N := 11) hx hb hts (by decide +kernel) hown hK hP 0 rfl rfl 4 (by decide) (hts (.fieldLink RX2 31 "CharacterRows" "fresh" "LCharacterRows$Codes;") (by decide +kernel)) (fun _ h9 => h9) rfl dX2_wrongInNewKind_95 ?_
                        refine lv_iload_n hx hb dX2_wrongInNewKind_98 rfl (lv_at hl 2 rfl) ?_
                        refine clV (wr := [(h, .inr (3, [.ref t0, .ref t1, .ref t2, .ref t3, .ref t4, .ref t5, .ref t6, .ref t7, .ref t8, .ref t9, .int si])), (t0, .inr (2, [.ref b0, .int (nI x0.length)])), (b0, .inl (c0, 200, .inl f0))]) (va_runV ⟨hx, hb, hml, hown, hts⟩ (KX0_add l D t4 b4 c4 f4 fr o4 (cnl b t) _) (cwV 1 hts gX2_wrongInNewKind_X0_add rfl rfl rfl (by decide +kernel) ⟨Nat.le_of_ble_eq_true rfl, Nat.le_of_ble_eq_true rfl⟩) (pcM_V (hP.sub (ws' := [(t4, .inr (1, [.ref b4, .int (nI fr.length)])), (b4, .inl (c4, 200, .inl f4))]) [3, 4] rfl) (hD.sub (ws' := [(t4, .inr (1, [.ref b4, .int (nI fr.length)])), (b4, .inl (c4, 200, .inl f4))]) [3, 4] (by decide) rfl) (hK.sub (tys' := [(c4, .int)]) [1] rfl) hN 0 rfl rfl) rfl rfl hl.1 rfl (lv_room (Nat.le_of_ble_eq_true rfl)) dX2_wrongInNewKind_99 ⟨Nat.zero_le _, Nat.zero_le _⟩) hP hD hS hA [3, 4] [0, 1, 2] rfl rfl (by decide) (by decide) (fun u_4 H locs hw_4 hP hD hS => ?_)
                        have e9_4 : (rw_add 200 fr (cnl b t)) = (fr ++ [cnl b t]) := (rw_add_lt (by omega))
                        rw [e9_4] at hw_4 hP hD
                        have hP : va_P D vwCl [(h, .inr (3, [.ref t0, .ref t1, .ref t2, .ref t3, .ref t4, .ref t5, .ref t6, .ref t7, .ref t8, .ref t9, .int si])), (t0, .inr (2, [.ref b0, .int (nI x0.length)])), (b0, .inl (c0, 200, .inl f0)), (t4, .inr (1, [.ref b4, .int (nI (fr ++ [cnl b t]).length)])), (b4, .inl (c4, 200, .inl u_4))] H := hP.sub [0, 1, 2, 3, 4] rfl
                        have hD : va_D A [(h, .inr (3, [.ref t0, .ref t1, .ref t2, .ref t3, .ref t4, .ref t5, .ref t6, .ref t7, .ref t8, .ref t9, .int si])), (t0, .inr (2, [.ref b0, .int (nI x0.length)])), (b0, .inl (c0, 200, .inl f0)), (t4, .inr (1, [.ref b4, .int (nI (fr ++ [cnl b t]).length)])), (b4, .inl (c4, 200, .inl u_4))] := hD.sub [0, 1, 2, 3, 4] (by decide) rfl
                        refine lv_iload_n hx hb dX2_wrongInNewKind_102 rfl (lv_at hl 3 rfl) ?_
                        refine lv_iload_n hx hb dX2_wrongInNewKind_103 rfl (lv_at hl 2 rfl) ?_
                        refine vp_callSi (W.runS ⟨hx, hb, hml, hown, hts⟩ (KX2_bytesBehindFirst l (cnl b t)) (va_cwS 1 hts gX2_wrongInNewKind_X2_bytesBehindFirst rfl rfl rfl (by decide +kernel) ⟨Nat.le_of_ble_eq_true rfl, Nat.le_of_ble_eq_true rfl⟩) pcS_S rfl rfl hl.1 rfl (lv_room (Nat.le_of_ble_eq_true rfl)) dX2_wrongInNewKind_104 ⟨Nat.zero_le _, Nat.zero_le _⟩) (fun r9 hr9 => ?_)
                        subst r9
                        refine lv_iadd hx hb dX2_wrongInNewKind_107 ?_
                        refine lv_istore_n (lv' := [(1, .int (y1 + (fX2_bytesBehindFirst (cnl b t)))), (4, .int 0), (3, .int 1), (2, .int (cnl b t)), (0, .ref h)]) hx hb dX2_wrongInNewKind_108 rfl hl (by decide) rfl (fun ls hl => ?_)
                        refine lv_iinc (v := ((y1 + (fX2_bytesBehindFirst (cnl b t))) + 1)) (lv' := [(1, .int ((y1 + (fX2_bytesBehindFirst (cnl b t))) + 1)), (4, .int 0), (3, .int 1), (2, .int (cnl b t)), (0, .ref h)]) hx hb dX2_wrongInNewKind_109 hl (k := 0) rfl rfl (by decide) rfl (fun ls hl => ?_)
                        refine lv_goto (tgt := 2) hx hb dX2_wrongInNewKind_112 (by decide) ?_
                        have hk : nwk (cnl b t) fr.length = true := by simp [nwk, c23_1, c31_1, c51_2, d61, d89]
                        have h2 := new_len hk
                        exact ih (t.drop (bbN (cnl b t))) (done ++ b :: t.take (bbN (cnl b t))) _ u_4 _ H locs ls (by simp at hn ⊢; omega) (by rw [hcs]; simp) (by rw [← hT]; simp [rnS, hk]; congr 1; (try rw [Nat.min_eq_left h2]); (try omega)) (by rw [e1, bbN_eq, nI_add, nI_1]; congr 1; simp; omega) hw_4 (by simp; omega) hP hD hS (lv_sub hl [0, 4] rfl)
                      · skip
                        have d89 : ¬ fr.length < 100 := fun q => c89_4 ((nI_lt100 (by omega)).mpr q)
                        refine lv_iload_n hx hb dX2_wrongInNewKind_92 rfl (lv_at hl 3 rfl) ?_
                        have hk : ¬ nwk (cnl b t) fr.length = true := by simp [nwk, c23_1, c31_1, c51_2, d61, d89]
                        have e8 : (y1, fr) = T := by rw [← hT, e1]; simp [rnS, hk]
                        have e9 : fr = T.2 := by rw [← e8]
                        rw [e9] at o4 hP hD
                        exact rtI hx hb hr hlocks dX2_wrongInNewKind_93 f4 ⟨by rw [← e8], o4⟩ hP hD hS
                · skip
                  have d61 : fr.length = 0 := (nI_0iff (by omega)).mp c61_2
                  refine lv_iconst (v := 1) hx hb dX2_wrongInNewKind_64 (by decide) ?_
                  refine lv_goto (tgt := 69) hx hb dX2_wrongInNewKind_65 (by decide) ?_
                  refine lv_istore (lv' := [(4, .int 1), (3, .int 1), (2, .int (cnl b t)), (1, .int y1), (0, .ref h)]) hx hb dX2_wrongInNewKind_69 hl (by decide) rfl (fun ls hl => ?_)
                  refine lv_iload_n hx hb dX2_wrongInNewKind_71 rfl (lv_at hl 1 rfl) ?_
                  refine lv_if_eq (tgt := 92) hx hb dX2_wrongInNewKind_72 (by decide) (fun c72_6 => ?_) (fun c72_6 => ?_)
                  · exact absurd c72_6 (by decide)
                  · skip
                    refine lv_iload hx hb dX2_wrongInNewKind_75 (lv_at hl 0 rfl) ?_
                    refine lv_if_ne (tgt := 92) hx hb dX2_wrongInNewKind_77 (by decide) (fun c77_6 => ?_) (fun c77_6 => ?_)
                    · skip
                      refine lv_iload_n hx hb dX2_wrongInNewKind_92 rfl (lv_at hl 3 rfl) ?_
                      have hk : ¬ nwk (cnl b t) fr.length = true := by simp [nwk, c23_1, c31_1, c51_2, d61]
                      have e8 : (y1, fr) = T := by rw [← hT, e1]; simp [rnS, hk]
                      have e9 : fr = T.2 := by rw [← e8]
                      rw [e9] at o4 hP hD
                      exact rtI hx hb hr hlocks dX2_wrongInNewKind_93 f4 ⟨by rw [← e8], o4⟩ hP hD hS
                    · exact absurd c77_6 (by decide)
            · skip
              refine lv_iload_n hx hb dX2_wrongInNewKind_34 rfl (lv_at hl 0 rfl) ?_
              refine vp_callSi (W.runS ⟨hx, hb, hml, hown, hts⟩ (KX2_isComposed l (cnl b t)) (va_cwS 1 hts gX2_wrongInNewKind_X2_isComposed rfl rfl rfl (by decide +kernel) ⟨Nat.le_of_ble_eq_true rfl, Nat.le_of_ble_eq_true rfl⟩) pcS_S rfl rfl hl.1 rfl (lv_room (Nat.le_of_ble_eq_true rfl)) dX2_wrongInNewKind_35 ⟨Nat.zero_le _, Nat.zero_le _⟩) (fun r9 hr9 => ?_)
              subst r9
              refine lv_if_eq (tgt := 45) hx hb dX2_wrongInNewKind_38 (by decide) (fun c38_1 => ?_) (fun c38_1 => ?_)
              · skip
                refine lv_iconst (v := 0) hx hb dX2_wrongInNewKind_45 (by decide) ?_
                refine lv_istore_n (lv' := [(3, .int 0), (2, .int (cnl b t)), (1, .int y1), (0, .ref h)]) hx hb dX2_wrongInNewKind_46 rfl hl (by decide) rfl (fun ls hl => ?_)
                refine lv_iload_n hx hb dX2_wrongInNewKind_47 rfl (lv_at hl 1 rfl) ?_
                refine vp_callSi (W.runS ⟨hx, hb, hml, hown, hts⟩ (KX2_isMark l (cnl b t)) (va_cwS 1 hts gX2_wrongInNewKind_X2_isMark rfl rfl rfl (by decide +kernel) ⟨Nat.le_of_ble_eq_true rfl, Nat.le_of_ble_eq_true rfl⟩) pcS_S rfl rfl hl.1 rfl (lv_room (Nat.le_of_ble_eq_true rfl)) dX2_wrongInNewKind_48 ⟨Nat.zero_le _, Nat.zero_le _⟩) (fun r9 hr9 => ?_)
                subst r9
                refine lv_if_eq (tgt := 68) hx hb dX2_wrongInNewKind_51 (by decide) (fun c51_3 => ?_) (fun c51_3 => ?_)
                · skip
                  refine lv_iconst (v := 0) hx hb dX2_wrongInNewKind_68 (by decide) ?_
                  refine lv_istore (lv' := [(4, .int 0), (3, .int 0), (2, .int (cnl b t)), (1, .int y1), (0, .ref h)]) hx hb dX2_wrongInNewKind_69 hl (by decide) rfl (fun ls hl => ?_)
                  refine lv_iload_n hx hb dX2_wrongInNewKind_71 rfl (lv_at hl 1 rfl) ?_
                  refine lv_if_eq (tgt := 92) hx hb dX2_wrongInNewKind_72 (by decide) (fun c72_7 => ?_) (fun c72_7 => ?_)
                  · skip
                    refine lv_iload_n hx hb dX2_wrongInNewKind_92 rfl (lv_at hl 3 rfl) ?_
                    have hk : ¬ nwk (cnl b t) fr.length = true := by simp [nwk, c23_1, c31_1, c38_1, c51_3]
                    have e8 : (y1, fr) = T := by rw [← hT, e1]; simp [rnS, hk]
                    have e9 : fr = T.2 := by rw [← e8]
                    rw [e9] at o4 hP hD
                    exact rtI hx hb hr hlocks dX2_wrongInNewKind_93 f4 ⟨by rw [← e8], o4⟩ hP hD hS
                  · exact absurd c72_7 (by decide)
                · skip
                  refine lv_aload_n hx hb dX2_wrongInNewKind_54 rfl (lv_at hl 3 rfl) ?_
                  refine va_get (D := D) (ci := 3) (v := .ref t4) (C := RX2) (T := TX2) (N := 11) hx hb hts (by decide +kernel) hown hK hP 0 rfl rfl 4 (by decide) (hts (.fieldLink RX2 31 "CharacterRows" "fresh" "LCharacterRows$Codes;") (by decide +kernel)) (fun _ h9 => h9) rfl dX2_wrongInNewKind_55 ?_
                  refine va_getN (D := D) (ci := 1) (v := .int (nI fr.length)) (C := RX0) (T := TX0) (N := 2) hx hb hts (by decide +kernel) hown hK hP 3 rfl rfl 1 (by decide) (va_Nw.use rfl (nst_at hN 1 rfl)) (fun _ h9 => h9) rfl dX2_wrongInNewKind_58 ?_
                  refine lv_if_ne (tgt := 68) hx hb dX2_wrongInNewKind_61 (by decide) (fun c61_3 => ?_) (fun c61_3 => ?_)
                  · skip
                    have d61 : ¬ fr.length = 0 := fun q => c61_3 ((nI_0iff (by omega)).mpr q)
                    refine lv_iconst (v := 0) hx hb dX2_wrongInNewKind_68 (by decide) ?_
                    refine lv_istore (lv' := [(4, .int 0), (3, .int 0), (2, .int (cnl b t)), (1, .int y1), (0, .ref h)]) hx hb dX2_wrongInNewKind_69 hl (by decide) rfl (fun ls hl => ?_)
                    refine lv_iload_n hx hb dX2_wrongInNewKind_71 rfl (lv_at hl 1 rfl) ?_
                    refine lv_if_eq (tgt := 92) hx hb dX2_wrongInNewKind_72 (by decide) (fun c72_8 => ?_) (fun c72_8 => ?_)
                    · skip
                      refine lv_iload_n hx hb dX2_wrongInNewKind_92 rfl (lv_at hl 3 rfl) ?_
                      have hk : ¬ nwk (cnl b t) fr.length = true := by simp [nwk, c23_1, c31_1, c38_1, c51_3, d61]
                      have e8 : (y1, fr) = T := by rw [← hT, e1]; simp [rnS, hk]
                      have e9 : fr = T.2 := by rw [← e8]
                      rw [e9] at o4 hP hD
                      exact rtI hx hb hr hlocks dX2_wrongInNewKind_93 f4 ⟨by rw [← e8], o4⟩ hP hD hS
                    · exact absurd c72_8 (by decide)
                  · skip
                    have d61 : fr.length = 0 := (nI_0iff (by omega)).mp c61_3
                    refine lv_iconst (v := 1) hx hb dX2_wrongInNewKind_64 (by decide) ?_
                    refine lv_goto (tgt := 69) hx hb dX2_wrongInNewKind_65 (by decide) ?_
                    refine lv_istore (lv' := [(4, .int 1), (3, .int 0), (2, .int (cnl b t)), (1, .int y1), (0, .ref h)]) hx hb dX2_wrongInNewKind_69 hl (by decide) rfl (fun ls hl => ?_)
                    refine lv_iload_n hx hb dX2_wrongInNewKind_71 rfl (lv_at hl 1 rfl) ?_
                    refine lv_if_eq (tgt := 92) hx hb dX2_wrongInNewKind_72 (by decide) (fun c72_9 => ?_) (fun c72_9 => ?_)
                    · skip
                      refine lv_iload_n hx hb dX2_wrongInNewKind_92 rfl (lv_at hl 3 rfl) ?_
                      have hk : ¬ nwk (cnl b t) fr.length = true := by simp [nwk, c23_1, c31_1, c38_1, c51_3, d61]
                      have e8 : (y1, fr) = T := by rw [← hT, e1]; simp [rnS, hk]
                      have e9 : fr = T.2 := by rw [← e8]
                      rw [e9] at o4 hP hD
                      exact rtI hx hb hr hlocks dX2_wrongInNewKind_93 f4 ⟨by rw [← e8], o4⟩ hP hD hS
                    · exact absurd c72_9 (by decide)
              · skip
                refine lv_iconst (v := 1) hx hb dX2_wrongInNewKind_41 (by decide) ?_
                refine lv_goto (tgt := 46) hx hb dX2_wrongInNewKind_42 (by decide) ?_
                refine lv_istore_n (lv' := [(3, .int 1), (2, .int (cnl b t)), (1, .int y1), (0, .ref h)]) hx hb dX2_wrongInNewKind_46 rfl hl (by decide) rfl (fun ls hl => ?_)
                refine lv_iload_n hx hb dX2_wrongInNewKind_47 rfl (lv_at hl 1 rfl) ?_
                refine vp_callSi (W.runS ⟨hx, hb, hml, hown, hts⟩ (KX2_isMark l (cnl b t)) (va_cwS 1 hts gX2_wrongInNewKind_X2_isMark rfl rfl rfl (by decide +kernel) ⟨Nat.le_of_ble_eq_true rfl, Nat.le_of_ble_eq_true rfl⟩) pcS_S rfl rfl hl.1 rfl (lv_room (Nat.le_of_ble_eq_true rfl)) dX2_wrongInNewKind_48 ⟨Nat.zero_le _, Nat.zero_le _⟩) (fun r9 hr9 => ?_)
                subst r9
                refine lv_if_eq (tgt := 68) hx hb dX2_wrongInNewKind_51 (by decide) (fun c51_4 => ?_) (fun c51_4 => ?_)
                · skip
                  refine lv_iconst (v := 0) hx hb dX2_wrongInNewKind_68 (by decide) ?_
                  refine lv_istore (lv' := [(4, .int 0), (3, .int 1), (2, .int (cnl b t)), (1, .int y1), (0, .ref h)]) hx hb dX2_wrongInNewKind_69 hl (by decide) rfl (fun ls hl => ?_)
                  refine lv_iload_n hx hb dX2_wrongInNewKind_71 rfl (lv_at hl 1 rfl) ?_
                  refine lv_if_eq (tgt := 92) hx hb dX2_wrongInNewKind_72 (by decide) (fun c72_10 => ?_) (fun c72_10 => ?_)
                  · exact absurd c72_10 (by decide)
                  · skip
                    refine lv_iload hx hb dX2_wrongInNewKind_75 (lv_at hl 0 rfl) ?_
                    refine lv_if_ne (tgt := 92) hx hb dX2_wrongInNewKind_77 (by decide) (fun c77_7 => ?_) (fun c77_7 => ?_)
                    · exact absurd c77_7 (by decide)
                    · skip
                      refine lv_aload_n hx hb dX2_wrongInNewKind_80 rfl (lv_at hl 4 rfl) ?_
                      refine va_get (D := D) (ci := 3) (v := .ref t4) (C := RX2) (T := TX2) (N := 11) hx hb hts (by decide +kernel) hown hK hP 0 rfl rfl 4 (by decide) (hts (.fieldLink RX2 31 "CharacterRows" "fresh" "LCharacterRows$Codes;") (by decide +kernel)) (fun _ h9 => h9) rfl dX2_wrongInNewKind_81 ?_
                      refine va_getN (D := D) (ci := 1) (v := .int (nI fr.length)) (C := RX0) (T := TX0) (N := 2) hx hb hts (by decide +kernel) hown hK hP 3 rfl rfl 1 (by decide) (va_Nw.use rfl (nst_at hN 1 rfl)) (fun _ h9 => h9) rfl dX2_wrongInNewKind_84 ?_
                      refine lv_bipush (v := 100) hx hb dX2_wrongInNewKind_87 (by decide) ?_
                      refine lv_icmp_lt (tgt := 94) hx hb dX2_wrongInNewKind_89 (by decide) (fun c89_5 => ?_) (fun c89_5 => ?_)
                      · skip
                        have d89 : fr.length < 100 := (nI_lt100 (by omega)).mp c89_5
                        refine lv_aload_n hx hb dX2_wrongInNewKind_94 rfl (lv_at hl 4 rfl) ?_
                        refine va_get (D := D) (ci := 3) (v := .ref t4) (C := RX2) (T := TX2) (N := 11) hx hb hts (by decide +kernel) hown hK hP 0 rfl rfl 4 (by decide) (hts (.fieldLink RX2 31 "CharacterRows" "fresh" "LCharacterRows$Codes;") (by decide +kernel)) (fun _ h9 => h9) rfl dX2_wrongInNewKind_95 ?_
                        refine lv_iload_n hx hb dX2_wrongInNewKind_98 rfl (lv_at hl 2 rfl) ?_
                        refine clV (wr := [(h, .inr (3, [.ref t0, .ref t1, .ref t2, .ref t3, .ref t4, .ref t5, .ref t6, .ref t7, .ref t8, .ref t9, .int si])), (t0, .inr (2, [.ref b0, .int (nI x0.length)])), (b0, .inl (c0, 200, .inl f0))]) (va_runV ⟨hx, hb, hml, hown, hts⟩ (KX0_add l D t4 b4 c4 f4 fr o4 (cnl b t) _) (cwV 1 hts gX2_wrongInNewKind_X0_add rfl rfl rfl (by decide +kernel) ⟨Nat.le_of_ble_eq_true rfl, Nat.le_of_ble_eq_true rfl⟩) (pcM_V (hP.sub (ws' := [(t4, .inr (1, [.ref b4, .int (nI fr.length)])), (b4, .inl (c4, 200, .inl f4))]) [3, 4] rfl) (hD.sub (ws' := [(t4, .inr (1, [.ref b4, .int (nI fr.length)])), (b4, .inl (c4, 200, .inl f4))]) [3, 4] (by decide) rfl) (hK.sub (tys' := [(c4, .int)]) [1] rfl) hN 0 rfl rfl) rfl rfl hl.1 rfl (lv_room (Nat.le_of_ble_eq_true rfl)) dX2_wrongInNewKind_99 ⟨Nat.zero_le _, Nat.zero_le _⟩) hP hD hS hA [3, 4] [0, 1, 2] rfl rfl (by decide) (by decide) (fun u_5 H locs hw_5 hP hD hS => ?_)
                        have e9_5 : (rw_add 200 fr (cnl b t)) = (fr ++ [cnl b t]) := (rw_add_lt (by omega))
                        rw [e9_5] at hw_5 hP hD
                        have hP : va_P D vwCl [(h, .inr (3, [.ref t0, .ref t1, .ref t2, .ref t3, .ref t4, .ref t5, .ref t6, .ref t7, .ref t8, .ref t9, .int si])), (t0, .inr (2, [.ref b0, .int (nI x0.length)])), (b0, .inl (c0, 200, .inl f0)), (t4, .inr (1, [.ref b4, .int (nI (fr ++ [cnl b t]).length)])), (b4, .inl (c4, 200, .inl u_5))] H := hP.sub [0, 1, 2, 3, 4] rfl
                        have hD : va_D A [(h, .inr (3, [.ref t0, .ref t1, .ref t2, .ref t3, .ref t4, .ref t5, .ref t6, .ref t7, .ref t8, .ref t9, .int si])), (t0, .inr (2, [.ref b0, .int (nI x0.length)])), (b0, .inl (c0, 200, .inl f0)), (t4, .inr (1, [.ref b4, .int (nI (fr ++ [cnl b t]).length)])), (b4, .inl (c4, 200, .inl u_5))] := hD.sub [0, 1, 2, 3, 4] (by decide) rfl
                        refine lv_iload_n hx hb dX2_wrongInNewKind_102 rfl (lv_at hl 3 rfl) ?_
                        refine lv_iload_n hx hb dX2_wrongInNewKind_103 rfl (lv_at hl 2 rfl) ?_
                        refine vp_callSi (W.runS ⟨hx, hb, hml, hown, hts⟩ (KX2_bytesBehindFirst l (cnl b t)) (va_cwS 1 hts gX2_wrongInNewKind_X2_bytesBehindFirst rfl rfl rfl (by decide +kernel) ⟨Nat.le_of_ble_eq_true rfl, Nat.le_of_ble_eq_true rfl⟩) pcS_S rfl rfl hl.1 rfl (lv_room (Nat.le_of_ble_eq_true rfl)) dX2_wrongInNewKind_104 ⟨Nat.zero_le _, Nat.zero_le _⟩) (fun r9 hr9 => ?_)
                        subst r9
                        refine lv_iadd hx hb dX2_wrongInNewKind_107 ?_
                        refine lv_istore_n (lv' := [(1, .int (y1 + (fX2_bytesBehindFirst (cnl b t)))), (4, .int 0), (3, .int 1), (2, .int (cnl b t)), (0, .ref h)]) hx hb dX2_wrongInNewKind_108 rfl hl (by decide) rfl (fun ls hl => ?_)
                        refine lv_iinc (v := ((y1 + (fX2_bytesBehindFirst (cnl b t))) + 1)) (lv' := [(1, .int ((y1 + (fX2_bytesBehindFirst (cnl b t))) + 1)), (4, .int 0), (3, .int 1), (2, .int (cnl b t)), (0, .ref h)]) hx hb dX2_wrongInNewKind_109 hl (k := 0) rfl rfl (by decide) rfl (fun ls hl => ?_)
                        refine lv_goto (tgt := 2) hx hb dX2_wrongInNewKind_112 (by decide) ?_
                        have hk : nwk (cnl b t) fr.length = true := by simp [nwk, c23_1, c31_1, c38_1, c51_4, d89]
                        have h2 := new_len hk
                        exact ih (t.drop (bbN (cnl b t))) (done ++ b :: t.take (bbN (cnl b t))) _ u_5 _ H locs ls (by simp at hn ⊢; omega) (by rw [hcs]; simp) (by rw [← hT]; simp [rnS, hk]; congr 1; (try rw [Nat.min_eq_left h2]); (try omega)) (by rw [e1, bbN_eq, nI_add, nI_1]; congr 1; simp; omega) hw_5 (by simp; omega) hP hD hS (lv_sub hl [0, 4] rfl)
                      · skip
                        have d89 : ¬ fr.length < 100 := fun q => c89_5 ((nI_lt100 (by omega)).mpr q)
                        refine lv_iload_n hx hb dX2_wrongInNewKind_92 rfl (lv_at hl 3 rfl) ?_
                        have hk : ¬ nwk (cnl b t) fr.length = true := by simp [nwk, c23_1, c31_1, c38_1, c51_4, d89]
                        have e8 : (y1, fr) = T := by rw [← hT, e1]; simp [rnS, hk]
                        have e9 : fr = T.2 := by rw [← e8]
                        rw [e9] at o4 hP hD
                        exact rtI hx hb hr hlocks dX2_wrongInNewKind_93 f4 ⟨by rw [← e8], o4⟩ hP hD hS
                · skip
                  refine lv_aload_n hx hb dX2_wrongInNewKind_54 rfl (lv_at hl 3 rfl) ?_
                  refine va_get (D := D) (ci := 3) (v := .ref t4) (C := RX2) (T := TX2) (N := 11) hx hb hts (by decide +kernel) hown hK hP 0 rfl rfl 4 (by decide) (hts (.fieldLink RX2 31 "CharacterRows" "fresh" "LCharacterRows$Codes;") (by decide +kernel)) (fun _ h9 => h9) rfl dX2_wrongInNewKind_55 ?_
                  refine va_getN (D := D) (ci := 1) (v := .int (nI fr.length)) (C := RX0) (T := TX0) (N := 2) hx hb hts (by decide +kernel) hown hK hP 3 rfl rfl 1 (by decide) (va_Nw.use rfl (nst_at hN 1 rfl)) (fun _ h9 => h9) rfl dX2_wrongInNewKind_58 ?_
                  refine lv_if_ne (tgt := 68) hx hb dX2_wrongInNewKind_61 (by decide) (fun c61_4 => ?_) (fun c61_4 => ?_)
                  · skip
                    have d61 : ¬ fr.length = 0 := fun q => c61_4 ((nI_0iff (by omega)).mpr q)
                    refine lv_iconst (v := 0) hx hb dX2_wrongInNewKind_68 (by decide) ?_
                    refine lv_istore (lv' := [(4, .int 0), (3, .int 1), (2, .int (cnl b t)), (1, .int y1), (0, .ref h)]) hx hb dX2_wrongInNewKind_69 hl (by decide) rfl (fun ls hl => ?_)
                    refine lv_iload_n hx hb dX2_wrongInNewKind_71 rfl (lv_at hl 1 rfl) ?_
                    refine lv_if_eq (tgt := 92) hx hb dX2_wrongInNewKind_72 (by decide) (fun c72_11 => ?_) (fun c72_11 => ?_)
                    · exact absurd c72_11 (by decide)
                    · skip
                      refine lv_iload hx hb dX2_wrongInNewKind_75 (lv_at hl 0 rfl) ?_
                      refine lv_if_ne (tgt := 92) hx hb dX2_wrongInNewKind_77 (by decide) (fun c77_8 => ?_) (fun c77_8 => ?_)
                      · exact absurd c77_8 (by decide)
                      · skip
                        refine lv_aload_n hx hb dX2_wrongInNewKind_80 rfl (lv_at hl 4 rfl) ?_
                        refine va_get (D := D) (ci := 3) (v := .ref t4) (C := RX2) (T := TX2) (N := 11) hx hb hts (by decide +kernel) hown hK hP 0 rfl rfl 4 (by decide) (hts (.fieldLink RX2 31 "CharacterRows" "fresh" "LCharacterRows$Codes;") (by decide +kernel)) (fun _ h9 => h9) rfl dX2_wrongInNewKind_81 ?_
                        refine va_getN (D := D) (ci := 1) (v := .int (nI fr.length)) (C := RX0) (T := TX0) (N := 2) hx hb hts (by decide +kernel) hown hK hP 3 rfl rfl 1 (by decide) (va_Nw.use rfl (nst_at hN 1 rfl)) (fun _ h9 => h9) rfl dX2_wrongInNewKind_84 ?_
                        refine lv_bipush (v := 100) hx hb dX2_wrongInNewKind_87 (by decide) ?_
                        refine lv_icmp_lt (tgt := 94) hx hb dX2_wrongInNewKind_89 (by decide) (fun c89_6 => ?_) (fun c89_6 => ?_)
                        · skip
                          have d89 : fr.length < 100 := (nI_lt100 (by omega)).mp c89_6
                          refine lv_aload_n hx hb dX2_wrongInNewKind_94 rfl (lv_at hl 4 rfl) ?_
                          refine va_get (D := D) (ci := 3) (v := .ref t4) (C := RX2) (T := TX2) (N := 11) hx hb hts (by decide +kernel) hown hK hP 0 rfl rfl 4 (by decide) (hts (.fieldLink RX2 31 "CharacterRows" "fresh" "LCharacterRows$Codes;") (by decide +kernel)) (fun _ h9 => h9) rfl dX2_wrongInNewKind_95 ?_
                          refine lv_iload_n hx hb dX2_wrongInNewKind_98 rfl (lv_at hl 2 rfl) ?_
                          refine clV (wr := [(h, .inr (3, [.ref t0, .ref t1, .ref t2, .ref t3, .ref t4, .ref t5, .ref t6, .ref t7, .ref t8, .ref t9, .int si])), (t0, .inr (2, [.ref b0, .int (nI x0.length)])), (b0, .inl (c0, 200, .inl f0))]) (va_runV ⟨hx, hb, hml, hown, hts⟩ (KX0_add l D t4 b4 c4 f4 fr o4 (cnl b t) _) (cwV 1 hts gX2_wrongInNewKind_X0_add rfl rfl rfl (by decide +kernel) ⟨Nat.le_of_ble_eq_true rfl, Nat.le_of_ble_eq_true rfl⟩) (pcM_V (hP.sub (ws' := [(t4, .inr (1, [.ref b4, .int (nI fr.length)])), (b4, .inl (c4, 200, .inl f4))]) [3, 4] rfl) (hD.sub (ws' := [(t4, .inr (1, [.ref b4, .int (nI fr.length)])), (b4, .inl (c4, 200, .inl f4))]) [3, 4] (by decide) rfl) (hK.sub (tys' := [(c4, .int)]) [1] rfl) hN 0 rfl rfl) rfl rfl hl.1 rfl (lv_room (Nat.le_of_ble_eq_true rfl)) dX2_wrongInNewKind_99 ⟨Nat.zero_le _, Nat.zero_le _⟩) hP hD hS hA [3, 4] [0, 1, 2] rfl rfl (by decide) (by decide) (fun u_6 H locs hw_6 hP hD hS => ?_)
                          have e9_6 : (rw_add 200 fr (cnl b t)) = (fr ++ [cnl b t]) := (rw_add_lt (by omega))
                          rw [e9_6] at hw_6 hP hD
                          have hP : va_P D vwCl [(h, .inr (3, [.ref t0, .ref t1, .ref t2, .ref t3, .ref t4, .ref t5, .ref t6, .ref t7, .ref t8, .ref t9, .int si])), (t0, .inr (2, [.ref b0, .int (nI x0.length)])), (b0, .inl (c0, 200, .inl f0)), (t4, .inr (1, [.ref b4, .int (nI (fr ++ [cnl b t]).length)])), (b4, .inl (c4, 200, .inl u_6))] H := hP.sub [0, 1, 2, 3, 4] rfl
                          have hD : va_D A [(h, .inr (3, [.ref t0, .ref t1, .ref t2, .ref t3, .ref t4, .ref t5, .ref t6, .ref t7, .ref t8, .ref t9, .int si])), (t0, .inr (2, [.ref b0, .int (nI x0.length)])), (b0, .inl (c0, 200, .inl f0)), (t4, .inr (1, [.ref b4, .int (nI (fr ++ [cnl b t]).length)])), (b4, .inl (c4, 200, .inl u_6))] := hD.sub [0, 1, 2, 3, 4] (by decide) rfl
                          refine lv_iload_n hx hb dX2_wrongInNewKind_102 rfl (lv_at hl 3 rfl) ?_
                          refine lv_iload_n hx hb dX2_wrongInNewKind_103 rfl (lv_at hl 2 rfl) ?_
                          refine vp_callSi (W.runS ⟨hx, hb, hml, hown, hts⟩ (KX2_bytesBehindFirst l (cnl b t)) (va_cwS 1 hts gX2_wrongInNewKind_X2_bytesBehindFirst rfl rfl rfl (by decide +kernel) ⟨Nat.le_of_ble_eq_true rfl, Nat.le_of_ble_eq_true rfl⟩) pcS_S rfl rfl hl.1 rfl (lv_room (Nat.le_of_ble_eq_true rfl)) dX2_wrongInNewKind_104 ⟨Nat.zero_le _, Nat.zero_le _⟩) (fun r9 hr9 => ?_)
                          subst r9
                          refine lv_iadd hx hb dX2_wrongInNewKind_107 ?_
                          refine lv_istore_n (lv' := [(1, .int (y1 + (fX2_bytesBehindFirst (cnl b t)))), (4, .int 0), (3, .int 1), (2, .int (cnl b t)), (0, .ref h)]) hx hb dX2_wrongInNewKind_108 rfl hl (by decide) rfl (fun ls hl => ?_)
                          refine lv_iinc (v := ((y1 + (fX2_bytesBehindFirst (cnl b t))) + 1)) (lv' := [(1, .int ((y1 + (fX2_bytesBehindFirst (cnl b t))) + 1)), (4, .int 0), (3, .int 1), (2, .int (cnl b t)), (0, .ref h)]) hx hb dX2_wrongInNewKind_109 hl (k := 0) rfl rfl (by decide) rfl (fun ls hl => ?_)
                          refine lv_goto (tgt := 2) hx hb dX2_wrongInNewKind_112 (by decide) ?_
                          have hk : nwk (cnl b t) fr.length = true := by simp [nwk, c23_1, c31_1, c38_1, c51_4, d61, d89]
                          have h2 := new_len hk
                          exact ih (t.drop (bbN (cnl b t))) (done ++ b :: t.take (bbN (cnl b t))) _ u_6 _ H locs ls (by simp at hn ⊢; omega) (by rw [hcs]; simp) (by rw [← hT]; simp [rnS, hk]; congr 1; (try rw [Nat.min_eq_left h2]); (try omega)) (by rw [e1, bbN_eq, nI_add, nI_1]; congr 1; simp; omega) hw_6 (by simp; omega) hP hD hS (lv_sub hl [0, 4] rfl)
                        · skip
                          have d89 : ¬ fr.length < 100 := fun q => c89_6 ((nI_lt100 (by omega)).mpr q)
                          refine lv_iload_n hx hb dX2_wrongInNewKind_92 rfl (lv_at hl 3 rfl) ?_
                          have hk : ¬ nwk (cnl b t) fr.length = true := by simp [nwk, c23_1, c31_1, c38_1, c51_4, d61, d89]
                          have e8 : (y1, fr) = T := by rw [← hT, e1]; simp [rnS, hk]
                          have e9 : fr = T.2 := by rw [← e8]
                          rw [e9] at o4 hP hD
                          exact rtI hx hb hr hlocks dX2_wrongInNewKind_93 f4 ⟨by rw [← e8], o4⟩ hP hD hS
                  · skip
                    have d61 : fr.length = 0 := (nI_0iff (by omega)).mp c61_4
                    refine lv_iconst (v := 1) hx hb dX2_wrongInNewKind_64 (by decide) ?_
                    refine lv_goto (tgt := 69) hx hb dX2_wrongInNewKind_65 (by decide) ?_
                    refine lv_istore (lv' := [(4, .int 1), (3, .int 1), (2, .int (cnl b t)), (1, .int y1), (0, .ref h)]) hx hb dX2_wrongInNewKind_69 hl (by decide) rfl (fun ls hl => ?_)
                    refine lv_iload_n hx hb dX2_wrongInNewKind_71 rfl (lv_at hl 1 rfl) ?_
                    refine lv_if_eq (tgt := 92) hx hb dX2_wrongInNewKind_72 (by decide) (fun c72_12 => ?_) (fun c72_12 => ?_)
                    · exact absurd c72_12 (by decide)
                    · skip
                      refine lv_iload hx hb dX2_wrongInNewKind_75 (lv_at hl 0 rfl) ?_
                      refine lv_if_ne (tgt := 92) hx hb dX2_wrongInNewKind_77 (by decide) (fun c77_9 => ?_) (fun c77_9 => ?_)
                      · skip
                        refine lv_iload_n hx hb dX2_wrongInNewKind_92 rfl (lv_at hl 3 rfl) ?_
                        have hk : ¬ nwk (cnl b t) fr.length = true := by simp [nwk, c23_1, c31_1, c38_1, c51_4, d61]
                        have e8 : (y1, fr) = T := by rw [← hT, e1]; simp [rnS, hk]
                        have e9 : fr = T.2 := by rw [← e8]
                        rw [e9] at o4 hP hD
                        exact rtI hx hb hr hlocks dX2_wrongInNewKind_93 f4 ⟨by rw [← e8], o4⟩ hP hD hS
                      · exact absurd c77_9 (by decide)
  exact loop ((ox_u x0).length + 1) (ox_u x0) [] [] f4 _ _ _ ls (Nat.lt_succ_self _) rfl hT rfl o4 (Nat.zero_le _) hP hD hS (lv_sub hl [0, 1] rfl)
set_option maxHeartbeats 4000000 in
set_option maxRecDepth 100000 in
theorem KX2_writeNewKind (l : Launch) (D : va_G) (h t0 t1 t2 t3 t4 t5 t6 t7 t8 t9 : Nat) (si : Int32) (b1 : Nat) (c1 : ClassId) (f1 : Nat → Int32) (x1 : List Int32) (o1 : rw_ok f1 400 x1) (b2 : Nat) (c2 : ClassId) (f2 : Nat → Int32) (x2 : List Int32) (o2 : rw_ok f2 200 x2) (T : List Int32) (hT : (x2.flatMap wnb).foldl (oadd 400) x1 = T) (sz : Nat) : Met l yX2_writeNewKind wsX2_writeNewKind ({ frames := 2, cells := 0, slots := 0, locals := 43 }) (pcM D sz [(h, .inr (3, [.ref t0, .ref t1, .ref t2, .ref t3, .ref t4, .ref t5, .ref t6, .ref t7, .ref t8, .ref t9, .int si])), (t1, .inr (2, [.ref b1, .int (nI x1.length)])), (b1, .inl (c1, 400, .inl f1)), (t2, .inr (1, [.ref b2, .int (nI x2.length)])), (b2, .inl (c2, 200, .inl f2))] [(c1, .byte), (c2, .int)] [.ref h]) (qcV (S := Nat → Int32) D (fun u => rw_ok u 400 T) (fun u => [(h, .inr (3, [.ref t0, .ref t1, .ref t2, .ref t3, .ref t4, .ref t5, .ref t6, .ref t7, .ref t8, .ref t9, .int si])), (t1, .inr (2, [.ref b1, .int (nI T.length)])), (b1, .inl (c1, 400, .inl u)), (t2, .inr (1, [.ref b2, .int (nI x2.length)])), (b2, .inl (c2, 200, .inl f2))]) (va_A [(h, .inr (3, [.ref t0, .ref t1, .ref t2, .ref t3, .ref t4, .ref t5, .ref t6, .ref t7, .ref t8, .ref t9, .int si])), (t1, .inr (2, [.ref b1, .int (nI x1.length)])), (b1, .inl (c1, 400, .inl f1)), (t2, .inr (1, [.ref b2, .int (nI x2.length)])), (b2, .inl (c2, 200, .inl f2))] sz)) 0 0 (va_A [(h, .inr (3, [.ref t0, .ref t1, .ref t2, .ref t3, .ref t4, .ref t5, .ref t6, .ref t7, .ref t8, .ref t9, .int si])), (t1, .inr (2, [.ref b1, .int (nI x1.length)])), (b1, .inl (c1, 400, .inl f1)), (t2, .inr (1, [.ref b2, .int (nI x2.length)])), (b2, .inl (c2, 200, .inl f2))] sz) := by
  refine ofM (Qc := fun A => qcV (S := Nat → Int32) D (fun u => rw_ok u 400 T) (fun u => [(h, .inr (3, [.ref t0, .ref t1, .ref t2, .ref t3, .ref t4, .ref t5, .ref t6, .ref t7, .ref t8, .ref t9, .int si])), (t1, .inr (2, [.ref b1, .int (nI T.length)])), (b1, .inl (c1, 400, .inl u)), (t2, .inr (1, [.ref b2, .int (nI x2.length)])), (b2, .inl (c2, 200, .inl f2))]) A) (cc := cX2_writeNewKind) (maxL := 2) (ret := none) (by decide) rfl (Nat.le_of_ble_eq_true rfl) ?_
  intro p e s m below meth c ls A hx hb hr hml hown hts hlocks hnm hP hK hN hD hA hS hl
  have hl : lv_has ls 2 [(0, .ref h)] := hl
  refine lv_iconst (v := 0) hx hb dX2_writeNewKind_0 (by decide) ?_
  refine lv_istore_n (lv' := [(1, .int 0), (0, .ref h)]) hx hb dX2_writeNewKind_1 rfl hl (by decide) rfl (fun ls hl => ?_)
  have loop : ∀ (rest : List Int32) (done wr : List Int32) (f1 : Nat → Int32) (y1 : Int32) (H : Heap) (locs : List Loc) (ls : Array Slot), x2 = done ++ rest → y1 = nI done.length → (rest.flatMap wnb).foldl (oadd 400) wr = T → rw_ok f1 400 wr → va_P D vwCl [(h, .inr (3, [.ref t0, .ref t1, .ref t2, .ref t3, .ref t4, .ref t5, .ref t6, .ref t7, .ref t8, .ref t9, .int si])), (t1, .inr (2, [.ref b1, .int (nI wr.length)])), (b1, .inl (c1, 400, .inl f1)), (t2, .inr (1, [.ref b2, .int (nI x2.length)])), (b2, .inl (c2, 200, .inl f2))] H → va_D A [(h, .inr (3, [.ref t0, .ref t1, .ref t2, .ref t3, .ref t4, .ref t5, .ref t6, .ref t7, .ref t8, .ref t9, .int si])), (t1, .inr (2, [.ref b1, .int (nI wr.length)])), (b1, .inl (c1, 400, .inl f1)), (t2, .inr (1, [.ref b2, .int (nI x2.length)])), (b2, .inl (c2, 200, .inl f2))] → va_S A s.heap H locs → lv_has ls 2 [(1, .int y1), (0, .ref h)] → W p l e ({ frames := 2, cells := 0, slots := 0, locals := 43 }) s m ([.ref h] : List Value).toArray below meth c H locs 0 0 (MQ below (qcV (S := Nat → Int32) D (fun u => rw_ok u 400 T) (fun u => [(h, .inr (3, [.ref t0, .ref t1, .ref t2, .ref t3, .ref t4, .ref t5, .ref t6, .ref t7, .ref t8, .ref t9, .int si])), (t1, .inr (2, [.ref b1, .int (nI T.length)])), (b1, .inl (c1, 400, .inl u)), (t2, .inr (1, [.ref b2, .int (nI x2.length)])), (b2, .inl (c2, 200, .inl f2))]) A) ([.ref h] : List Value).toArray s 0 0 A) (F0 m 2 ls [])  := by
    intro rest
    induction rest with
    | nil =>
      intro done wr f1 y1 H locs ls htx e1 hT o1 hP hD hS hl
      have hln : x2.length = done.length := by rw [htx]; simp
      refine lv_iload_n hx hb dX2_writeNewKind_2 rfl (lv_at hl 0 rfl) ?_
      refine lv_aload_n hx hb dX2_writeNewKind_3 rfl (lv_at hl 1 rfl) ?_
      refine va_get (D := D) (ci := 3) (v := .ref t2) (C := RX2) (T := TX2) (N := 11) hx hb hts (by decide +kernel) hown hK hP 0 rfl rfl 2 (by decide) (hts (.fieldLink RX2 24 "CharacterRows" "text" "LCharacterRows$Codes;") (by decide +kernel)) (fun _ h9 => h9) rfl dX2_writeNewKind_4 ?_
      refine va_getN (D := D) (ci := 1) (v := .int (nI x2.length)) (C := RX0) (T := TX0) (N := 2) hx hb hts (by decide +kernel) hown hK hP 3 rfl rfl 1 (by decide) (va_Nw.use rfl (nst_at hN 1 rfl)) (fun _ h9 => h9) rfl dX2_writeNewKind_7 ?_
      refine lv_icmp_ge (tgt := 31) hx hb dX2_writeNewKind_10 (by decide) (fun c10_1 => ?_) (fun c10_1 => ?_)
      · skip
        have e8 : wr = T := by rw [← hT]; rfl
        rw [e8] at o1 hP hD
        exact rtV hx hb hr hlocks dX2_writeNewKind_31 f1 o1 hP hD hS
      · skip
        exact absurd (by rw [e1, hln]; exact Int32.le_refl _) c10_1
    | cons d t ih =>
      intro done wr f1 y1 H locs ls htx e1 hT o1 hP hD hS hl
      have hln : x2.length = done.length + (t.length + 1) := by rw [htx]; simp
      have h200 := o2.1
      refine lv_iload_n hx hb dX2_writeNewKind_2 rfl (lv_at hl 0 rfl) ?_
      refine lv_aload_n hx hb dX2_writeNewKind_3 rfl (lv_at hl 1 rfl) ?_
      refine va_get (D := D) (ci := 3) (v := .ref t2) (C := RX2) (T := TX2) (N := 11) hx hb hts (by decide +kernel) hown hK hP 0 rfl rfl 2 (by decide) (hts (.fieldLink RX2 24 "CharacterRows" "text" "LCharacterRows$Codes;") (by decide +kernel)) (fun _ h9 => h9) rfl dX2_writeNewKind_4 ?_
      refine va_getN (D := D) (ci := 1) (v := .int (nI x2.length)) (C := RX0) (T := TX0) (N := 2) hx hb hts (by decide +kernel) hown hK hP 3 rfl rfl 1 (by decide) (va_Nw.use rfl (nst_at hN 1 rfl)) (fun _ h9 => h9) rfl dX2_writeNewKind_7 ?_
      refine lv_icmp_ge (tgt := 31) hx hb dX2_writeNewKind_10 (by decide) (fun c10_2 => ?_) (fun c10_2 => ?_)
      · skip
        exact absurd c10_2 (by rw [e1, hln]; exact nI_ge (by omega) (by omega))
      · skip
        refine lv_aload_n hx hb dX2_writeNewKind_13 rfl (lv_at hl 1 rfl) ?_
        refine lv_aload_n hx hb dX2_writeNewKind_14 rfl (lv_at hl 1 rfl) ?_
        refine va_get (D := D) (ci := 3) (v := .ref t2) (C := RX2) (T := TX2) (N := 11) hx hb hts (by decide +kernel) hown hK hP 0 rfl rfl 2 (by decide) (hts (.fieldLink RX2 24 "CharacterRows" "text" "LCharacterRows$Codes;") (by decide +kernel)) (fun _ h9 => h9) rfl dX2_writeNewKind_15 ?_
        refine lv_iload_n hx hb dX2_writeNewKind_18 rfl (lv_at hl 0 rfl) ?_
        refine vp_callSi (W.runV ⟨hx, hb, hml, hown, hts⟩ (KX0_at l D t2 b2 c2 f2 x2 o2 y1) (cwV 1 hts gX2_writeNewKind_X0_at rfl rfl rfl (by decide +kernel) ⟨Nat.le_of_ble_eq_true rfl, Nat.le_of_ble_eq_true rfl⟩) (pcR_V (hP.sub (ws' := [(t2, .inr (1, [.ref b2, .int (nI x2.length)])), (b2, .inl (c2, 200, .inl f2))]) [3, 4] rfl) (hK.sub (tys' := [(c2, .int)]) [1] rfl) hN 0 rfl rfl) rfl rfl hl.1 rfl (lv_room (Nat.le_of_ble_eq_true rfl)) dX2_writeNewKind_19 ⟨Nat.zero_le _, Nat.zero_le _⟩) (fun r9 hr9 => ?_)
        replace hr9 : r9 = d := hr9.trans (by rw [htx, e1]; exact rw_at_k rfl (by omega))
        subst r9
        refine clV (wr := [(t2, .inr (1, [.ref b2, .int (nI x2.length)])), (b2, .inl (c2, 200, .inl f2))]) (va_runV ⟨hx, hb, hml, hown, hts⟩ (KX2_writeNewCode l D h t0 t1 t2 t3 t4 t5 t6 t7 t8 t9 si b1 c1 f1 wr o1 d _) (cwV 1 hts gX2_writeNewKind_X2_writeNewCode rfl rfl rfl (by decide +kernel) ⟨Nat.le_of_ble_eq_true rfl, Nat.le_of_ble_eq_true rfl⟩) (pcM_V (hP.sub (ws' := [(h, .inr (3, [.ref t0, .ref t1, .ref t2, .ref t3, .ref t4, .ref t5, .ref t6, .ref t7, .ref t8, .ref t9, .int si])), (t1, .inr (2, [.ref b1, .int (nI wr.length)])), (b1, .inl (c1, 400, .inl f1))]) [0, 1, 2] rfl) (hD.sub (ws' := [(h, .inr (3, [.ref t0, .ref t1, .ref t2, .ref t3, .ref t4, .ref t5, .ref t6, .ref t7, .ref t8, .ref t9, .int si])), (t1, .inr (2, [.ref b1, .int (nI wr.length)])), (b1, .inl (c1, 400, .inl f1))]) [0, 1, 2] (by decide) rfl) (hK.sub (tys' := [(c1, .byte)]) [0] rfl) hN 0 rfl rfl) rfl rfl hl.1 rfl (lv_room (Nat.le_of_ble_eq_true rfl)) dX2_writeNewKind_22 ⟨Nat.zero_le _, Nat.zero_le _⟩) hP hD hS hA [0, 1, 2] [3, 4] rfl rfl (by decide) (by decide) (fun u_1 H locs hw_1 hP hD hS => ?_)
        have hP : va_P D vwCl [(h, .inr (3, [.ref t0, .ref t1, .ref t2, .ref t3, .ref t4, .ref t5, .ref t6, .ref t7, .ref t8, .ref t9, .int si])), (t1, .inr (2, [.ref b1, .int (nI ((wnb d).foldl (oadd 400) wr).length)])), (b1, .inl (c1, 400, .inl u_1)), (t2, .inr (1, [.ref b2, .int (nI x2.length)])), (b2, .inl (c2, 200, .inl f2))] H := hP.sub [2, 3, 4, 0, 1] rfl
        have hD : va_D A [(h, .inr (3, [.ref t0, .ref t1, .ref t2, .ref t3, .ref t4, .ref t5, .ref t6, .ref t7, .ref t8, .ref t9, .int si])), (t1, .inr (2, [.ref b1, .int (nI ((wnb d).foldl (oadd 400) wr).length)])), (b1, .inl (c1, 400, .inl u_1)), (t2, .inr (1, [.ref b2, .int (nI x2.length)])), (b2, .inl (c2, 200, .inl f2))] := hD.sub [2, 3, 4, 0, 1] (by decide) rfl
        refine lv_iinc (v := (y1 + 1)) (lv' := [(1, .int (y1 + 1)), (0, .ref h)]) hx hb dX2_writeNewKind_25 hl (k := 0) rfl rfl (by decide) rfl (fun ls hl => ?_)
        refine lv_goto (tgt := 2) hx hb dX2_writeNewKind_28 (by decide) ?_
        exact ih (done ++ [d]) _ u_1 _ H locs ls (by rw [htx]; simp) (by rw [e1, List.length_append]; exact nI_1 _) (by rw [← hT]; simp) hw_1 hP hD hS (lv_sub hl [0, 1] rfl)
  exact loop x2 [] x1 f1 _ _ _ ls rfl rfl hT o1 hP hD hS (lv_sub hl [0, 1] rfl)
theorem gd_take {t md ms : List Int32} {c0 d : Int32} {k : Nat} (h : t.take k = md ++ d :: ms) : gd (c0 :: t) (md.length + 1) = d := by
  have h1 : t = (md ++ d :: ms) ++ t.drop k := by rw [← h, List.take_append_drop]
  rw [h1]
  simp [gd, List.getD]
set_option maxHeartbeats 4000000 in
set_option maxRecDepth 100000 in
theorem KX2_writeOldKind (l : Launch) (D : va_G) (h t0 t1 t2 t3 t4 t5 t6 t7 t8 t9 : Nat) (si : Int32) (b1 : Nat) (c1 : ClassId) (f1 : Nat → Int32) (x1 : List Int32) (o1 : rw_ok f1 400 x1) (b2 : Nat) (c2 : ClassId) (f2 : Nat → Int32) (x2 : List Int32) (o2 : rw_ok f2 200 x2) (b8 : Nat) (c8 : ClassId) (f8 : Nat → Int32) (x8 : List Int32) (o8 : rw_ok f8 200 x8) (b9 : Nat) (c9 : ClassId) (f9 : Nat → Int32) (x9 : List Int32) (o9 : rw_ok f9 200 x9) (h100 : x2.length ≤ 100) (hx8 : x8.length ≤ 0) (hx9 : x9.length ≤ 0) (TB TC TP : List Int32) (hB : ((woS si x2 0 0 1).1).foldl (oadd 400) x1 = TB) (hC : x8 ++ (woS si x2 0 0 1).2.1 = TC) (hQ : x9 ++ (woS si x2 0 0 1).2.2 = TP) (sz : Nat) : Met l yX2_writeOldKind wsX2_writeOldKind ({ frames := 3, cells := 0, slots := 0, locals := 63 }) (pcM D sz [(h, .inr (3, [.ref t0, .ref t1, .ref t2, .ref t3, .ref t4, .ref t5, .ref t6, .ref t7, .ref t8, .ref t9, .int si])), (t1, .inr (2, [.ref b1, .int (nI x1.length)])), (b1, .inl (c1, 400, .inl f1)), (t2, .inr (1, [.ref b2, .int (nI x2.length)])), (b2, .inl (c2, 200, .inl f2)), (t8, .inr (1, [.ref b8, .int (nI x8.length)])), (b8, .inl (c8, 200, .inl f8)), (t9, .inr (1, [.ref b9, .int (nI x9.length)])), (b9, .inl (c9, 200, .inl f9))] [(c1, .byte), (c2, .int), (c8, .int), (c9, .int)] [.ref h]) (qcV (S := (Nat → Int32) × (Nat → Int32) × (Nat → Int32)) D (fun u => rw_ok u.1 400 TB ∧ rw_ok u.2.1 200 TC ∧ rw_ok u.2.2 200 TP) (fun u => [(h, .inr (3, [.ref t0, .ref t1, .ref t2, .ref t3, .ref t4, .ref t5, .ref t6, .ref t7, .ref t8, .ref t9, .int si])), (t1, .inr (2, [.ref b1, .int (nI TB.length)])), (b1, .inl (c1, 400, .inl u.1)), (t2, .inr (1, [.ref b2, .int (nI x2.length)])), (b2, .inl (c2, 200, .inl f2)), (t8, .inr (1, [.ref b8, .int (nI TC.length)])), (b8, .inl (c8, 200, .inl u.2.1)), (t9, .inr (1, [.ref b9, .int (nI TP.length)])), (b9, .inl (c9, 200, .inl u.2.2))]) (va_A [(h, .inr (3, [.ref t0, .ref t1, .ref t2, .ref t3, .ref t4, .ref t5, .ref t6, .ref t7, .ref t8, .ref t9, .int si])), (t1, .inr (2, [.ref b1, .int (nI x1.length)])), (b1, .inl (c1, 400, .inl f1)), (t2, .inr (1, [.ref b2, .int (nI x2.length)])), (b2, .inl (c2, 200, .inl f2)), (t8, .inr (1, [.ref b8, .int (nI x8.length)])), (b8, .inl (c8, 200, .inl f8)), (t9, .inr (1, [.ref b9, .int (nI x9.length)])), (b9, .inl (c9, 200, .inl f9))] sz)) 0 0 (va_A [(h, .inr (3, [.ref t0, .ref t1, .ref t2, .ref t3, .ref t4, .ref t5, .ref t6, .ref t7, .ref t8, .ref t9, .int si])), (t1, .inr (2, [.ref b1, .int (nI x1.length)])), (b1, .inl (c1, 400, .inl f1)), (t2, .inr (1, [.ref b2, .int (nI x2.length)])), (b2, .inl (c2, 200, .inl f2)), (t8, .inr (1, [.ref b8, .int (nI x8.length)])), (b8, .inl (c8, 200, .inl f8)), (t9, .inr (1, [.ref b9, .int (nI x9.length)])), (b9, .inl (c9, 200, .inl f9))] sz) := by
  refine ofM (Qc := fun A => qcV (S := (Nat → Int32) × (Nat → Int32) × (Nat → Int32)) D (fun u => rw_ok u.1 400 TB ∧ rw_ok u.2.1 200 TC ∧ rw_ok u.2.2 200 TP) (fun u => [(h, .inr (3, [.ref t0, .ref t1, .ref t2, .ref t3, .ref t4, .ref t5, .ref t6, .ref t7, .ref t8, .ref t9, .int si])), (t1, .inr (2, [.ref b1, .int (nI TB.length)])), (b1, .inl (c1, 400, .inl u.1)), (t2, .inr (1, [.ref b2, .int (nI x2.length)])), (b2, .inl (c2, 200, .inl f2)), (t8, .inr (1, [.ref b8, .int (nI TC.length)])), (b8, .inl (c8, 200, .inl u.2.1)), (t9, .inr (1, [.ref b9, .int (nI TP.length)])), (b9, .inl (c9, 200, .inl u.2.2))]) A) (cc := cX2_writeOldKind) (maxL := 7) (ret := none) (by decide) rfl (Nat.le_of_ble_eq_true rfl) ?_
  intro p e s m below meth c ls A hx hb hr hml hown hts hlocks hnm hP hK hN hD hA hS hl
  have hl : lv_has ls 7 [(0, .ref h)] := hl
  refine lv_iconst (v := 0) hx hb dX2_writeOldKind_0 (by decide) ?_
  refine lv_istore_n (lv' := [(1, .int 0), (0, .ref h)]) hx hb dX2_writeOldKind_1 rfl hl (by decide) rfl (fun ls hl => ?_)
  refine lv_iconst (v := 1) hx hb dX2_writeOldKind_2 (by decide) ?_
  refine lv_istore_n (lv' := [(2, .int 1), (1, .int 0), (0, .ref h)]) hx hb dX2_writeOldKind_3 rfl hl (by decide) rfl (fun ls hl => ?_)
  refine lv_iconst (v := 0) hx hb dX2_writeOldKind_4 (by decide) ?_
  refine lv_istore_n (lv' := [(3, .int 0), (2, .int 1), (1, .int 0), (0, .ref h)]) hx hb dX2_writeOldKind_5 rfl hl (by decide) rfl (fun ls hl => ?_)
  have loop : ∀ (rest : List Int32) (done wr tc tp : List Int32) (f1 f8 f9 : Nat → Int32) (y1 y2 y3 : Int32) (H : Heap) (locs : List Loc) (ls : Array Slot), x2 = done ++ rest → y3 = nI done.length → ((woS si rest done.length y1 y2).1).foldl (oadd 400) wr = TB → tc ++ (woS si rest done.length y1 y2).2.1 = TC → tp ++ (woS si rest done.length y1 y2).2.2 = TP → rw_ok f1 400 wr → rw_ok f8 200 tc → rw_ok f9 200 tp → tc.length ≤ done.length → tp.length ≤ done.length → va_P D vwCl [(h, .inr (3, [.ref t0, .ref t1, .ref t2, .ref t3, .ref t4, .ref t5, .ref t6, .ref t7, .ref t8, .ref t9, .int si])), (t1, .inr (2, [.ref b1, .int (nI wr.length)])), (b1, .inl (c1, 400, .inl f1)), (t2, .inr (1, [.ref b2, .int (nI x2.length)])), (b2, .inl (c2, 200, .inl f2)), (t8, .inr (1, [.ref b8, .int (nI tc.length)])), (b8, .inl (c8, 200, .inl f8)), (t9, .inr (1, [.ref b9, .int (nI tp.length)])), (b9, .inl (c9, 200, .inl f9))] H → va_D A [(h, .inr (3, [.ref t0, .ref t1, .ref t2, .ref t3, .ref t4, .ref t5, .ref t6, .ref t7, .ref t8, .ref t9, .int si])), (t1, .inr (2, [.ref b1, .int (nI wr.length)])), (b1, .inl (c1, 400, .inl f1)), (t2, .inr (1, [.ref b2, .int (nI x2.length)])), (b2, .inl (c2, 200, .inl f2)), (t8, .inr (1, [.ref b8, .int (nI tc.length)])), (b8, .inl (c8, 200, .inl f8)), (t9, .inr (1, [.ref b9, .int (nI tp.length)])), (b9, .inl (c9, 200, .inl f9))] → va_S A s.heap H locs → lv_has ls 7 [(3, .int y3), (2, .int y2), (1, .int y1), (0, .ref h)] → W p l e ({ frames := 3, cells := 0, slots := 0, locals := 63 }) s m ([.ref h] : List Value).toArray below meth c H locs 0 0 (MQ below (qcV (S := (Nat → Int32) × (Nat → Int32) × (Nat → Int32)) D (fun u => rw_ok u.1 400 TB ∧ rw_ok u.2.1 200 TC ∧ rw_ok u.2.2 200 TP) (fun u => [(h, .inr (3, [.ref t0, .ref t1, .ref t2, .ref t3, .ref t4, .ref t5, .ref t6, .ref t7, .ref t8, .ref t9, .int si])), (t1, .inr (2, [.ref b1, .int (nI TB.length)])), (b1, .inl (c1, 400, .inl u.1)), (t2, .inr (1, [.ref b2, .int (nI x2.length)])), (b2, .inl (c2, 200, .inl f2)), (t8, .inr (1, [.ref b8, .int (nI TC.length)])), (b8, .inl (c8, 200, .inl u.2.1)), (t9, .inr (1, [.ref b9, .int (nI TP.length)])), (b9, .inl (c9, 200, .inl u.2.2))]) A) ([.ref h] : List Value).toArray s 0 0 A) (F0 m 6 ls [])  := by
    intro rest
    induction rest with
    | nil =>
      intro done wr tc tp f1 f8 f9 y1 y2 y3 H locs ls htx e3 hB hC hQ o1 o8 o9 htc htp hP hD hS hl
      have hln : x2.length = done.length := by rw [htx]; simp
      refine lv_iload_n hx hb dX2_writeOldKind_6 rfl (lv_at hl 0 rfl) ?_
      refine lv_aload_n hx hb dX2_writeOldKind_7 rfl (lv_at hl 3 rfl) ?_
      refine va_get (D := D) (ci := 3) (v := .ref t2) (C := RX2) (T := TX2) (N := 11) hx hb hts (by decide +kernel) hown hK hP 0 rfl rfl 2 (by decide) (hts (.fieldLink RX2 24 "CharacterRows" "text" "LCharacterRows$Codes;") (by decide +kernel)) (fun _ h9 => h9) rfl dX2_writeOldKind_8 ?_
      refine va_getN (D := D) (ci := 1) (v := .int (nI x2.length)) (C := RX0) (T := TX0) (N := 2) hx hb hts (by decide +kernel) hown hK hP 3 rfl rfl 1 (by decide) (va_Nw.use rfl (nst_at hN 1 rfl)) (fun _ h9 => h9) rfl dX2_writeOldKind_11 ?_
      refine lv_icmp_ge (tgt := 154) hx hb dX2_writeOldKind_14 (by decide) (fun c14_1 => ?_) (fun c14_1 => ?_)
      · skip
        have e81 : wr = TB := by rw [← hB]; rfl
        have e82 : tc = TC := by rw [← hC]; simp [woS]
        have e83 : tp = TP := by rw [← hQ]; simp [woS]
        rw [e81] at o1
        rw [e82] at o8
        rw [e83] at o9
        rw [e81, e82, e83] at hP hD
        exact rtV hx hb hr hlocks dX2_writeOldKind_154 (f1, f8, f9) ⟨o1, o8, o9⟩ hP hD hS
      · skip
        exact absurd (by rw [e3, hln]; exact Int32.le_refl _) c14_1
    | cons c0 t ih =>
      intro done wr tc tp f1 f8 f9 y1 y2 y3 H locs ls htx e3 hB hC hQ o1 o8 o9 htc htp hP hD hS hl
      have hln : x2.length = done.length + (t.length + 1) := by rw [htx]; simp
      have hlk := lmk_le t
      refine lv_iload_n hx hb dX2_writeOldKind_6 rfl (lv_at hl 0 rfl) ?_
      refine lv_aload_n hx hb dX2_writeOldKind_7 rfl (lv_at hl 3 rfl) ?_
      refine va_get (D := D) (ci := 3) (v := .ref t2) (C := RX2) (T := TX2) (N := 11) hx hb hts (by decide +kernel) hown hK hP 0 rfl rfl 2 (by decide) (hts (.fieldLink RX2 24 "CharacterRows" "text" "LCharacterRows$Codes;") (by decide +kernel)) (fun _ h9 => h9) rfl dX2_writeOldKind_8 ?_
      refine va_getN (D := D) (ci := 1) (v := .int (nI x2.length)) (C := RX0) (T := TX0) (N := 2) hx hb hts (by decide +kernel) hown hK hP 3 rfl rfl 1 (by decide) (va_Nw.use rfl (nst_at hN 1 rfl)) (fun _ h9 => h9) rfl dX2_writeOldKind_11 ?_
      refine lv_icmp_ge (tgt := 154) hx hb dX2_writeOldKind_14 (by decide) (fun c14_2 => ?_) (fun c14_2 => ?_)
      · skip
        exact absurd c14_2 (by rw [e3, hln]; exact nI_ge (by omega) (by omega))
      · skip
        refine lv_aload_n hx hb dX2_writeOldKind_17 rfl (lv_at hl 3 rfl) ?_
        refine va_get (D := D) (ci := 3) (v := .ref t2) (C := RX2) (T := TX2) (N := 11) hx hb hts (by decide +kernel) hown hK hP 0 rfl rfl 2 (by decide) (hts (.fieldLink RX2 24 "CharacterRows" "text" "LCharacterRows$Codes;") (by decide +kernel)) (fun _ h9 => h9) rfl dX2_writeOldKind_18 ?_
        refine lv_iload_n hx hb dX2_writeOldKind_21 rfl (lv_at hl 0 rfl) ?_
        refine vp_callSi (W.runV ⟨hx, hb, hml, hown, hts⟩ (KX0_at l D t2 b2 c2 f2 x2 o2 y3) (cwV 1 hts gX2_writeOldKind_X0_at rfl rfl rfl (by decide +kernel) ⟨Nat.le_of_ble_eq_true rfl, Nat.le_of_ble_eq_true rfl⟩) (pcR_V (hP.sub (ws' := [(t2, .inr (1, [.ref b2, .int (nI x2.length)])), (b2, .inl (c2, 200, .inl f2))]) [3, 4] rfl) (hK.sub (tys' := [(c2, .int)]) [1] rfl) hN 0 rfl rfl) rfl rfl hl.1 rfl (lv_room (Nat.le_of_ble_eq_true rfl)) dX2_writeOldKind_22 ⟨Nat.zero_le _, Nat.zero_le _⟩) (fun r9 hr9 => ?_)
        replace hr9 : r9 = c0 := hr9.trans (by rw [htx, e3]; exact rw_at_k rfl (by omega))
        subst r9
        refine lv_istore (lv' := [(4, .int c0), (3, .int y3), (2, .int y2), (1, .int y1), (0, .ref h)]) hx hb dX2_writeOldKind_25 hl (by decide) rfl (fun ls hl => ?_)
        refine lv_iload hx hb dX2_writeOldKind_27 (lv_at hl 0 rfl) ?_
        refine vp_callSi (W.runS ⟨hx, hb, hml, hown, hts⟩ (KX2_isMark l c0) (va_cwS 1 hts gX2_writeOldKind_X2_isMark rfl rfl rfl (by decide +kernel) ⟨Nat.le_of_ble_eq_true rfl, Nat.le_of_ble_eq_true rfl⟩) pcS_S rfl rfl hl.1 rfl (lv_room (Nat.le_of_ble_eq_true rfl)) dX2_writeOldKind_29 ⟨Nat.zero_le _, Nat.zero_le _⟩) (fun r9 hr9 => ?_)
        subst r9
        refine lv_if_eq (tgt := 49) hx hb dX2_writeOldKind_32 (by decide) (fun c32_1 => ?_) (fun c32_1 => ?_)
        · skip
          refine lv_iload hx hb dX2_writeOldKind_49 (lv_at hl 0 rfl) ?_
          refine vp_callSi (W.runS ⟨hx, hb, hml, hown, hts⟩ (KX2_isPlain l c0) (va_cwS 1 hts gX2_writeOldKind_X2_isPlain rfl rfl rfl (by decide +kernel) ⟨Nat.le_of_ble_eq_true rfl, Nat.le_of_ble_eq_true rfl⟩) pcS_S rfl rfl hl.1 rfl (lv_room (Nat.le_of_ble_eq_true rfl)) dX2_writeOldKind_51 ⟨Nat.zero_le _, Nat.zero_le _⟩) (fun r9 hr9 => ?_)
          subst r9
          refine lv_if_ne (tgt := 70) hx hb dX2_writeOldKind_54 (by decide) (fun c54_1 => ?_) (fun c54_1 => ?_)
          · skip
            refine lv_iconst (v := 0) hx hb dX2_writeOldKind_70 (by decide) ?_
            refine lv_istore_n (lv' := [(2, .int 0), (4, .int c0), (3, .int y3), (1, .int y1), (0, .ref h)]) hx hb dX2_writeOldKind_71 rfl hl (by decide) rfl (fun ls hl => ?_)
            refine lv_iload_n hx hb dX2_writeOldKind_72 rfl (lv_at hl 0 rfl) ?_
            refine lv_if_eq (tgt := 97) hx hb dX2_writeOldKind_73 (by decide) (fun c73_1 => ?_) (fun c73_1 => ?_)
            · skip
              refine lv_aload_n hx hb dX2_writeOldKind_97 rfl (lv_at hl 4 rfl) ?_
              refine va_get (D := D) (ci := 3) (v := .ref t2) (C := RX2) (T := TX2) (N := 11) hx hb hts (by decide +kernel) hown hK hP 0 rfl rfl 2 (by decide) (hts (.fieldLink RX2 24 "CharacterRows" "text" "LCharacterRows$Codes;") (by decide +kernel)) (fun _ h9 => h9) rfl dX2_writeOldKind_98 ?_
              refine lv_iload_n hx hb dX2_writeOldKind_101 rfl (lv_at hl 2 rfl) ?_
              refine vp_callSi (W.runV ⟨hx, hb, hml, hown, hts⟩ (KX0_marksBehind l D t2 b2 c2 f2 x2 o2 (done ++ [c0]) t (by rw [htx]; simp) y3 (by rw [e3, List.length_append]; exact nI_1 _)) (cwV 1 hts gX2_writeOldKind_X0_marksBehind rfl rfl rfl (by decide +kernel) ⟨Nat.le_of_ble_eq_true rfl, Nat.le_of_ble_eq_true rfl⟩) (pcR_V (hP.sub (ws' := [(t2, .inr (1, [.ref b2, .int (nI x2.length)])), (b2, .inl (c2, 200, .inl f2))]) [3, 4] rfl) (hK.sub (tys' := [(c2, .int)]) [1] rfl) hN 0 rfl rfl) rfl rfl hl.1 rfl (lv_room (Nat.le_of_ble_eq_true rfl)) dX2_writeOldKind_102 ⟨Nat.zero_le _, Nat.zero_le _⟩) (fun r9 hr9 => ?_)
              subst r9
              refine lv_istore (lv' := [(5, .int (nI (lmk t))), (2, .int 0), (4, .int c0), (3, .int y3), (1, .int y1), (0, .ref h)]) hx hb dX2_writeOldKind_105 hl (by decide) rfl (fun ls hl => ?_)
              refine lv_iconst (v := 1) hx hb dX2_writeOldKind_107 (by decide) ?_
              refine lv_istore (lv' := [(6, .int 1), (5, .int (nI (lmk t))), (2, .int 0), (4, .int c0), (3, .int y3), (1, .int y1), (0, .ref h)]) hx hb dX2_writeOldKind_108 hl (by decide) rfl (fun ls hl => ?_)
              have htk : (t.take (lmk t)).length = lmk t := by rw [List.length_take]; omega
              have hB2 : ((wms (t.take (lmk t) ++ [c0]) y1).1 ++ (woS si t (done.length + 1) (wms (t.take (lmk t) ++ [c0]) y1).2 0).1).foldl (oadd 400) wr = TB := by rw [← hB]; simp [woS, c32_1, c54_1]
              have hC2 : tc ++ (woS si t (done.length + 1) (wms (t.take (lmk t) ++ [c0]) y1).2 0).2.1 = TC := by rw [← hC]; simp [woS, c32_1, c54_1]
              have hQ2 : tp ++ (woS si t (done.length + 1) (wms (t.take (lmk t) ++ [c0]) y1).2 0).2.2 = TP := by rw [← hQ]; simp [woS, c32_1, c54_1]
              have loop2 : ∀ (ms : List Int32) (md wr : List Int32) (f1 : Nat → Int32) (y1 y6 : Int32) (H : Heap) (locs : List Loc) (ls : Array Slot), t.take (lmk t) = md ++ ms → y6 = nI (md.length + 1) → ((wms (ms ++ [c0]) y1).1 ++ (woS si t (done.length + 1) (wms (ms ++ [c0]) y1).2 0).1).foldl (oadd 400) wr = TB → tc ++ (woS si t (done.length + 1) (wms (ms ++ [c0]) y1).2 0).2.1 = TC → tp ++ (woS si t (done.length + 1) (wms (ms ++ [c0]) y1).2 0).2.2 = TP → rw_ok f1 400 wr → va_P D vwCl [(h, .inr (3, [.ref t0, .ref t1, .ref t2, .ref t3, .ref t4, .ref t5, .ref t6, .ref t7, .ref t8, .ref t9, .int si])), (t1, .inr (2, [.ref b1, .int (nI wr.length)])), (b1, .inl (c1, 400, .inl f1)), (t2, .inr (1, [.ref b2, .int (nI x2.length)])), (b2, .inl (c2, 200, .inl f2)), (t8, .inr (1, [.ref b8, .int (nI tc.length)])), (b8, .inl (c8, 200, .inl f8)), (t9, .inr (1, [.ref b9, .int (nI tp.length)])), (b9, .inl (c9, 200, .inl f9))] H → va_D A [(h, .inr (3, [.ref t0, .ref t1, .ref t2, .ref t3, .ref t4, .ref t5, .ref t6, .ref t7, .ref t8, .ref t9, .int si])), (t1, .inr (2, [.ref b1, .int (nI wr.length)])), (b1, .inl (c1, 400, .inl f1)), (t2, .inr (1, [.ref b2, .int (nI x2.length)])), (b2, .inl (c2, 200, .inl f2)), (t8, .inr (1, [.ref b8, .int (nI tc.length)])), (b8, .inl (c8, 200, .inl f8)), (t9, .inr (1, [.ref b9, .int (nI tp.length)])), (b9, .inl (c9, 200, .inl f9))] → va_S A s.heap H locs → lv_has ls 7 [(6, .int y6), (5, .int (nI (lmk t))), (2, .int 0), (4, .int c0), (3, .int y3), (1, .int y1), (0, .ref h)] → W p l e ({ frames := 3, cells := 0, slots := 0, locals := 63 }) s m ([.ref h] : List Value).toArray below meth c H locs 0 0 (MQ below (qcV (S := (Nat → Int32) × (Nat → Int32) × (Nat → Int32)) D (fun u => rw_ok u.1 400 TB ∧ rw_ok u.2.1 200 TC ∧ rw_ok u.2.2 200 TP) (fun u => [(h, .inr (3, [.ref t0, .ref t1, .ref t2, .ref t3, .ref t4, .ref t5, .ref t6, .ref t7, .ref t8, .ref t9, .int si])), (t1, .inr (2, [.ref b1, .int (nI TB.length)])), (b1, .inl (c1, 400, .inl u.1)), (t2, .inr (1, [.ref b2, .int (nI x2.length)])), (b2, .inl (c2, 200, .inl f2)), (t8, .inr (1, [.ref b8, .int (nI TC.length)])), (b8, .inl (c8, 200, .inl u.2.1)), (t9, .inr (1, [.ref b9, .int (nI TP.length)])), (b9, .inl (c9, 200, .inl u.2.2))]) A) ([.ref h] : List Value).toArray s 0 0 A) (F0 m 110 ls [])  := by
                intro ms
                induction ms with
                | nil =>
                  intro md wr f1 y1 y6 H locs ls hmd e6 hB hC hQ o1 hP hD hS hl
                  have hmdl : lmk t = md.length := by rw [← htk, hmd]; simp
                  refine lv_iload hx hb dX2_writeOldKind_110 (lv_at hl 0 rfl) ?_
                  refine lv_iload hx hb dX2_writeOldKind_112 (lv_at hl 1 rfl) ?_
                  refine lv_icmp_gt (tgt := 140) hx hb dX2_writeOldKind_114 (by decide) (fun c114_1 => ?_) (fun c114_1 => ?_)
                  · skip
                    refine lv_aload_n hx hb dX2_writeOldKind_140 rfl (lv_at hl 6 rfl) ?_
                    refine lv_iload hx hb dX2_writeOldKind_141 (lv_at hl 3 rfl) ?_
                    refine lv_iload_n hx hb dX2_writeOldKind_143 rfl (lv_at hl 5 rfl) ?_
                    refine clI (wr := [(t2, .inr (1, [.ref b2, .int (nI x2.length)])), (b2, .inl (c2, 200, .inl f2)), (t8, .inr (1, [.ref b8, .int (nI tc.length)])), (b8, .inl (c8, 200, .inl f8)), (t9, .inr (1, [.ref b9, .int (nI tp.length)])), (b9, .inl (c9, 200, .inl f9))]) (va_runV ⟨hx, hb, hml, hown, hts⟩ (KX2_writeOldCode l D h t0 t1 t2 t3 t4 t5 t6 t7 t8 t9 si b1 c1 f1 wr o1 c0 y1 _) (cwV 2 hts gX2_writeOldKind_X2_writeOldCode rfl rfl rfl (by decide +kernel) ⟨Nat.le_of_ble_eq_true rfl, Nat.le_of_ble_eq_true rfl⟩) (pcM_V (hP.sub (ws' := [(h, .inr (3, [.ref t0, .ref t1, .ref t2, .ref t3, .ref t4, .ref t5, .ref t6, .ref t7, .ref t8, .ref t9, .int si])), (t1, .inr (2, [.ref b1, .int (nI wr.length)])), (b1, .inl (c1, 400, .inl f1))]) [0, 1, 2] rfl) (hD.sub (ws' := [(h, .inr (3, [.ref t0, .ref t1, .ref t2, .ref t3, .ref t4, .ref t5, .ref t6, .ref t7, .ref t8, .ref t9, .int si])), (t1, .inr (2, [.ref b1, .int (nI wr.length)])), (b1, .inl (c1, 400, .inl f1))]) [0, 1, 2] (by decide) rfl) (hK.sub (tys' := [(c1, .byte)]) [0] rfl) hN 0 rfl rfl) rfl rfl hl.1 rfl (lv_room (Nat.le_of_ble_eq_true rfl)) dX2_writeOldKind_144 ⟨Nat.zero_le _, Nat.zero_le _⟩) hP hD hS hA [0, 1, 2] [3, 4, 5, 6, 7, 8] rfl rfl (by decide) (by decide) (fun r_1 u_1 H locs hw_1 hP hD hS => ?_)
                    obtain ⟨hw_1r, hw_1o⟩ := hw_1
                    subst hw_1r
                    have hP : va_P D vwCl [(h, .inr (3, [.ref t0, .ref t1, .ref t2, .ref t3, .ref t4, .ref t5, .ref t6, .ref t7, .ref t8, .ref t9, .int si])), (t1, .inr (2, [.ref b1, .int (nI ((wob c0 y1).foldl (oadd 400) wr).length)])), (b1, .inl (c1, 400, .inl u_1)), (t2, .inr (1, [.ref b2, .int (nI x2.length)])), (b2, .inl (c2, 200, .inl f2)), (t8, .inr (1, [.ref b8, .int (nI tc.length)])), (b8, .inl (c8, 200, .inl f8)), (t9, .inr (1, [.ref b9, .int (nI tp.length)])), (b9, .inl (c9, 200, .inl f9))] H := hP.sub [6, 7, 8, 0, 1, 2, 3, 4, 5] rfl
                    have hD : va_D A [(h, .inr (3, [.ref t0, .ref t1, .ref t2, .ref t3, .ref t4, .ref t5, .ref t6, .ref t7, .ref t8, .ref t9, .int si])), (t1, .inr (2, [.ref b1, .int (nI ((wob c0 y1).foldl (oadd 400) wr).length)])), (b1, .inl (c1, 400, .inl u_1)), (t2, .inr (1, [.ref b2, .int (nI x2.length)])), (b2, .inl (c2, 200, .inl f2)), (t8, .inr (1, [.ref b8, .int (nI tc.length)])), (b8, .inl (c8, 200, .inl f8)), (t9, .inr (1, [.ref b9, .int (nI tp.length)])), (b9, .inl (c9, 200, .inl f9))] := hD.sub [6, 7, 8, 0, 1, 2, 3, 4, 5] (by decide) rfl
                    refine lv_istore_n (lv' := [(1, .int (woo c0 y1)), (6, .int y6), (5, .int (nI (lmk t))), (2, .int 0), (4, .int c0), (3, .int y3), (0, .ref h)]) hx hb dX2_writeOldKind_147 rfl hl (by decide) rfl (fun ls hl => ?_)
                    refine lv_iinc (v := (y3 + 1)) (lv' := [(3, .int (y3 + 1)), (1, .int (woo c0 y1)), (6, .int y6), (5, .int (nI (lmk t))), (2, .int 0), (4, .int c0), (0, .ref h)]) hx hb dX2_writeOldKind_148 hl (k := 5) rfl rfl (by decide) rfl (fun ls hl => ?_)
                    refine lv_goto (tgt := 6) hx hb dX2_writeOldKind_151 (by decide) ?_
                    exact ih (done ++ [c0]) _ _ _ u_1 f8 f9 _ _ _ H locs ls (by rw [htx]; simp) (by rw [e3, List.length_append]; exact nI_1 _) (by rw [← hB]; simp [List.length_append, wms, oadd]) (by rw [← hC]; simp [List.length_append, wms]) (by rw [← hQ]; simp [List.length_append, wms]) hw_1o o8 o9 (by simp <;> omega) (by simp <;> omega) hP hD hS (lv_sub hl [0, 4, 1, 6] rfl)
                  · skip
                    exact absurd (by rw [e6, hmdl]; exact nI_lt (by omega) (by omega)) c114_1
                | cons d ms ih2 =>
                  intro md wr f1 y1 y6 H locs ls hmd e6 hB hC hQ o1 hP hD hS hl
                  have hmdl : lmk t = md.length + (ms.length + 1) := by rw [← htk, hmd]; simp
                  refine lv_iload hx hb dX2_writeOldKind_110 (lv_at hl 0 rfl) ?_
                  refine lv_iload hx hb dX2_writeOldKind_112 (lv_at hl 1 rfl) ?_
                  refine lv_icmp_gt (tgt := 140) hx hb dX2_writeOldKind_114 (by decide) (fun c114_2 => ?_) (fun c114_2 => ?_)
                  · skip
                    exact absurd c114_2 (by rw [e6, hmdl]; exact nI_nlt (by omega) (by omega))
                  · skip
                    refine lv_aload_n hx hb dX2_writeOldKind_117 rfl (lv_at hl 6 rfl) ?_
                    refine lv_aload_n hx hb dX2_writeOldKind_118 rfl (lv_at hl 6 rfl) ?_
                    refine va_get (D := D) (ci := 3) (v := .ref t2) (C := RX2) (T := TX2) (N := 11) hx hb hts (by decide +kernel) hown hK hP 0 rfl rfl 2 (by decide) (hts (.fieldLink RX2 24 "CharacterRows" "text" "LCharacterRows$Codes;") (by decide +kernel)) (fun _ h9 => h9) rfl dX2_writeOldKind_119 ?_
                    refine lv_iload_n hx hb dX2_writeOldKind_122 rfl (lv_at hl 4 rfl) ?_
                    refine lv_iload hx hb dX2_writeOldKind_123 (lv_at hl 0 rfl) ?_
                    refine lv_iadd hx hb dX2_writeOldKind_125 ?_
                    refine vp_callSi (W.runV ⟨hx, hb, hml, hown, hts⟩ (KX0_at l D t2 b2 c2 f2 x2 o2 (y3 + y6)) (cwV 1 hts gX2_writeOldKind_X0_at rfl rfl rfl (by decide +kernel) ⟨Nat.le_of_ble_eq_true rfl, Nat.le_of_ble_eq_true rfl⟩) (pcR_V (hP.sub (ws' := [(t2, .inr (1, [.ref b2, .int (nI x2.length)])), (b2, .inl (c2, 200, .inl f2))]) [3, 4] rfl) (hK.sub (tys' := [(c2, .int)]) [1] rfl) hN 0 rfl rfl) rfl rfl hl.1 rfl (lv_room (Nat.le_of_ble_eq_true rfl)) dX2_writeOldKind_126 ⟨Nat.zero_le _, Nat.zero_le _⟩) (fun r9 hr9 => ?_)
                    replace hr9 : r9 = d := hr9.trans (by rw [htx, e3, e6, nI_add, rw_at_d (l := done) (r := c0 :: t) (j := md.length + 1) rfl (by omega)]; exact gd_take hmd)
                    subst r9
                    refine lv_iload_n hx hb dX2_writeOldKind_129 rfl (lv_at hl 5 rfl) ?_
                    refine clI (wr := [(t2, .inr (1, [.ref b2, .int (nI x2.length)])), (b2, .inl (c2, 200, .inl f2)), (t8, .inr (1, [.ref b8, .int (nI tc.length)])), (b8, .inl (c8, 200, .inl f8)), (t9, .inr (1, [.ref b9, .int (nI tp.length)])), (b9, .inl (c9, 200, .inl f9))]) (va_runV ⟨hx, hb, hml, hown, hts⟩ (KX2_writeOldCode l D h t0 t1 t2 t3 t4 t5 t6 t7 t8 t9 si b1 c1 f1 wr o1 d y1 _) (cwV 2 hts gX2_writeOldKind_X2_writeOldCode rfl rfl rfl (by decide +kernel) ⟨Nat.le_of_ble_eq_true rfl, Nat.le_of_ble_eq_true rfl⟩) (pcM_V (hP.sub (ws' := [(h, .inr (3, [.ref t0, .ref t1, .ref t2, .ref t3, .ref t4, .ref t5, .ref t6, .ref t7, .ref t8, .ref t9, .int si])), (t1, .inr (2, [.ref b1, .int (nI wr.length)])), (b1, .inl (c1, 400, .inl f1))]) [0, 1, 2] rfl) (hD.sub (ws' := [(h, .inr (3, [.ref t0, .ref t1, .ref t2, .ref t3, .ref t4, .ref t5, .ref t6, .ref t7, .ref t8, .ref t9, .int si])), (t1, .inr (2, [.ref b1, .int (nI wr.length)])), (b1, .inl (c1, 400, .inl f1))]) [0, 1, 2] (by decide) rfl) (hK.sub (tys' := [(c1, .byte)]) [0] rfl) hN 0 rfl rfl) rfl rfl hl.1 rfl (lv_room (Nat.le_of_ble_eq_true rfl)) dX2_writeOldKind_130 ⟨Nat.zero_le _, Nat.zero_le _⟩) hP hD hS hA [0, 1, 2] [3, 4, 5, 6, 7, 8] rfl rfl (by decide) (by decide) (fun r_2 u_2 H locs hw_2 hP hD hS => ?_)
                    obtain ⟨hw_2r, hw_2o⟩ := hw_2
                    subst hw_2r
                    have hP : va_P D vwCl [(h, .inr (3, [.ref t0, .ref t1, .ref t2, .ref t3, .ref t4, .ref t5, .ref t6, .ref t7, .ref t8, .ref t9, .int si])), (t1, .inr (2, [.ref b1, .int (nI ((wob d y1).foldl (oadd 400) wr).length)])), (b1, .inl (c1, 400, .inl u_2)), (t2, .inr (1, [.ref b2, .int (nI x2.length)])), (b2, .inl (c2, 200, .inl f2)), (t8, .inr (1, [.ref b8, .int (nI tc.length)])), (b8, .inl (c8, 200, .inl f8)), (t9, .inr (1, [.ref b9, .int (nI tp.length)])), (b9, .inl (c9, 200, .inl f9))] H := hP.sub [6, 7, 8, 0, 1, 2, 3, 4, 5] rfl
                    have hD : va_D A [(h, .inr (3, [.ref t0, .ref t1, .ref t2, .ref t3, .ref t4, .ref t5, .ref t6, .ref t7, .ref t8, .ref t9, .int si])), (t1, .inr (2, [.ref b1, .int (nI ((wob d y1).foldl (oadd 400) wr).length)])), (b1, .inl (c1, 400, .inl u_2)), (t2, .inr (1, [.ref b2, .int (nI x2.length)])), (b2, .inl (c2, 200, .inl f2)), (t8, .inr (1, [.ref b8, .int (nI tc.length)])), (b8, .inl (c8, 200, .inl f8)), (t9, .inr (1, [.ref b9, .int (nI tp.length)])), (b9, .inl (c9, 200, .inl f9))] := hD.sub [6, 7, 8, 0, 1, 2, 3, 4, 5] (by decide) rfl
                    refine lv_istore_n (lv' := [(1, .int (woo d y1)), (6, .int y6), (5, .int (nI (lmk t))), (2, .int 0), (4, .int c0), (3, .int y3), (0, .ref h)]) hx hb dX2_writeOldKind_133 rfl hl (by decide) rfl (fun ls hl => ?_)
                    refine lv_iinc (v := (y6 + 1)) (lv' := [(6, .int (y6 + 1)), (1, .int (woo d y1)), (5, .int (nI (lmk t))), (2, .int 0), (4, .int c0), (3, .int y3), (0, .ref h)]) hx hb dX2_writeOldKind_134 hl (k := 1) rfl rfl (by decide) rfl (fun ls hl => ?_)
                    refine lv_goto (tgt := 110) hx hb dX2_writeOldKind_137 (by decide) ?_
                    exact ih2 (md ++ [d]) _ u_2 _ _ H locs ls (by rw [hmd]; simp) (by rw [e6, List.length_append]; exact nI_1 _) (by rw [← hB]; simp [wms]) (by rw [← hC]; simp [wms]) (by rw [← hQ]; simp [wms]) hw_2o hP hD hS (lv_sub hl [0, 2, 3, 4, 5, 1, 6] rfl)
              exact loop2 (t.take (lmk t)) [] _ f1 _ _ H locs ls rfl rfl hB2 hC2 hQ2 o1 hP hD hS (lv_sub hl [0, 1, 2, 3, 4, 5, 6] rfl)
            · exact absurd c73_1 (by decide)
          · skip
            refine lv_iload hx hb dX2_writeOldKind_57 (lv_at hl 0 rfl) ?_
            refine vp_callSi (W.runS ⟨hx, hb, hml, hown, hts⟩ (KX2_setOf l c0) (va_cwS 1 hts gX2_writeOldKind_X2_setOf rfl rfl rfl (by decide +kernel) ⟨Nat.le_of_ble_eq_true rfl, Nat.le_of_ble_eq_true rfl⟩) pcS_S rfl rfl hl.1 rfl (lv_room (Nat.le_of_ble_eq_true rfl)) dX2_writeOldKind_59 ⟨Nat.zero_le _, Nat.zero_le _⟩) (fun r9 hr9 => ?_)
            subst r9
            refine lv_iconst (v := (-1)) hx hb dX2_writeOldKind_62 (by decide) ?_
            refine lv_icmp_ne (tgt := 70) hx hb dX2_writeOldKind_63 (by decide) (fun c63_1 => ?_) (fun c63_1 => ?_)
            · skip
              refine lv_iconst (v := 0) hx hb dX2_writeOldKind_70 (by decide) ?_
              refine lv_istore_n (lv' := [(2, .int 0), (4, .int c0), (3, .int y3), (1, .int y1), (0, .ref h)]) hx hb dX2_writeOldKind_71 rfl hl (by decide) rfl (fun ls hl => ?_)
              refine lv_iload_n hx hb dX2_writeOldKind_72 rfl (lv_at hl 0 rfl) ?_
              refine lv_if_eq (tgt := 97) hx hb dX2_writeOldKind_73 (by decide) (fun c73_2 => ?_) (fun c73_2 => ?_)
              · skip
                refine lv_aload_n hx hb dX2_writeOldKind_97 rfl (lv_at hl 4 rfl) ?_
                refine va_get (D := D) (ci := 3) (v := .ref t2) (C := RX2) (T := TX2) (N := 11) hx hb hts (by decide +kernel) hown hK hP 0 rfl rfl 2 (by decide) (hts (.fieldLink RX2 24 "CharacterRows" "text" "LCharacterRows$Codes;") (by decide +kernel)) (fun _ h9 => h9) rfl dX2_writeOldKind_98 ?_
                refine lv_iload_n hx hb dX2_writeOldKind_101 rfl (lv_at hl 2 rfl) ?_
                refine vp_callSi (W.runV ⟨hx, hb, hml, hown, hts⟩ (KX0_marksBehind l D t2 b2 c2 f2 x2 o2 (done ++ [c0]) t (by rw [htx]; simp) y3 (by rw [e3, List.length_append]; exact nI_1 _)) (cwV 1 hts gX2_writeOldKind_X0_marksBehind rfl rfl rfl (by decide +kernel) ⟨Nat.le_of_ble_eq_true rfl, Nat.le_of_ble_eq_true rfl⟩) (pcR_V (hP.sub (ws' := [(t2, .inr (1, [.ref b2, .int (nI x2.length)])), (b2, .inl (c2, 200, .inl f2))]) [3, 4] rfl) (hK.sub (tys' := [(c2, .int)]) [1] rfl) hN 0 rfl rfl) rfl rfl hl.1 rfl (lv_room (Nat.le_of_ble_eq_true rfl)) dX2_writeOldKind_102 ⟨Nat.zero_le _, Nat.zero_le _⟩) (fun r9 hr9 => ?_)
                subst r9
                refine lv_istore (lv' := [(5, .int (nI (lmk t))), (2, .int 0), (4, .int c0), (3, .int y3), (1, .int y1), (0, .ref h)]) hx hb dX2_writeOldKind_105 hl (by decide) rfl (fun ls hl => ?_)
                refine lv_iconst (v := 1) hx hb dX2_writeOldKind_107 (by decide) ?_
                refine lv_istore (lv' := [(6, .int 1), (5, .int (nI (lmk t))), (2, .int 0), (4, .int c0), (3, .int y3), (1, .int y1), (0, .ref h)]) hx hb dX2_writeOldKind_108 hl (by decide) rfl (fun ls hl => ?_)
                have htk : (t.take (lmk t)).length = lmk t := by rw [List.length_take]; omega
                have hB2 : ((wms (t.take (lmk t) ++ [c0]) y1).1 ++ (woS si t (done.length + 1) (wms (t.take (lmk t) ++ [c0]) y1).2 0).1).foldl (oadd 400) wr = TB := by rw [← hB]; simp [woS, c32_1, c54_1, c63_1]
                have hC2 : tc ++ (woS si t (done.length + 1) (wms (t.take (lmk t) ++ [c0]) y1).2 0).2.1 = TC := by rw [← hC]; simp [woS, c32_1, c54_1, c63_1]
                have hQ2 : tp ++ (woS si t (done.length + 1) (wms (t.take (lmk t) ++ [c0]) y1).2 0).2.2 = TP := by rw [← hQ]; simp [woS, c32_1, c54_1, c63_1]
                have loop2 : ∀ (ms : List Int32) (md wr : List Int32) (f1 : Nat → Int32) (y1 y6 : Int32) (H : Heap) (locs : List Loc) (ls : Array Slot), t.take (lmk t) = md ++ ms → y6 = nI (md.length + 1) → ((wms (ms ++ [c0]) y1).1 ++ (woS si t (done.length + 1) (wms (ms ++ [c0]) y1).2 0).1).foldl (oadd 400) wr = TB → tc ++ (woS si t (done.length + 1) (wms (ms ++ [c0]) y1).2 0).2.1 = TC → tp ++ (woS si t (done.length + 1) (wms (ms ++ [c0]) y1).2 0).2.2 = TP → rw_ok f1 400 wr → va_P D vwCl [(h, .inr (3, [.ref t0, .ref t1, .ref t2, .ref t3, .ref t4, .ref t5, .ref t6, .ref t7, .ref t8, .ref t9, .int si])), (t1, .inr (2, [.ref b1, .int (nI wr.length)])), (b1, .inl (c1, 400, .inl f1)), (t2, .inr (1, [.ref b2, .int (nI x2.length)])), (b2, .inl (c2, 200, .inl f2)), (t8, .inr (1, [.ref b8, .int (nI tc.length)])), (b8, .inl (c8, 200, .inl f8)), (t9, .inr (1, [.ref b9, .int (nI tp.length)])), (b9, .inl (c9, 200, .inl f9))] H → va_D A [(h, .inr (3, [.ref t0, .ref t1, .ref t2, .ref t3, .ref t4, .ref t5, .ref t6, .ref t7, .ref t8, .ref t9, .int si])), (t1, .inr (2, [.ref b1, .int (nI wr.length)])), (b1, .inl (c1, 400, .inl f1)), (t2, .inr (1, [.ref b2, .int (nI x2.length)])), (b2, .inl (c2, 200, .inl f2)), (t8, .inr (1, [.ref b8, .int (nI tc.length)])), (b8, .inl (c8, 200, .inl f8)), (t9, .inr (1, [.ref b9, .int (nI tp.length)])), (b9, .inl (c9, 200, .inl f9))] → va_S A s.heap H locs → lv_has ls 7 [(6, .int y6), (5, .int (nI (lmk t))), (2, .int 0), (4, .int c0), (3, .int y3), (1, .int y1), (0, .ref h)] → W p l e ({ frames := 3, cells := 0, slots := 0, locals := 63 }) s m ([.ref h] : List Value).toArray below meth c H locs 0 0 (MQ below (qcV (S := (Nat → Int32) × (Nat → Int32) × (Nat → Int32)) D (fun u => rw_ok u.1 400 TB ∧ rw_ok u.2.1 200 TC ∧ rw_ok u.2.2 200 TP) (fun u => [(h, .inr (3, [.ref t0, .ref t1, .ref t2, .ref t3, .ref t4, .ref t5, .ref t6, .ref t7, .ref t8, .ref t9, .int si])), (t1, .inr (2, [.ref b1, .int (nI TB.length)])), (b1, .inl (c1, 400, .inl u.1)), (t2, .inr (1, [.ref b2, .int (nI x2.length)])), (b2, .inl (c2, 200, .inl f2)), (t8, .inr (1, [.ref b8, .int (nI TC.length)])), (b8, .inl (c8, 200, .inl u.2.1)), (t9, .inr (1, [.ref b9, .int (nI TP.length)])), (b9, .inl (c9, 200, .inl u.2.2))]) A) ([.ref h] : List Value).toArray s 0 0 A) (F0 m 110 ls [])  := by
                  intro ms
                  induction ms with
                  | nil =>
                    intro md wr f1 y1 y6 H locs ls hmd e6 hB hC hQ o1 hP hD hS hl
                    have hmdl : lmk t = md.length := by rw [← htk, hmd]; simp
                    refine lv_iload hx hb dX2_writeOldKind_110 (lv_at hl 0 rfl) ?_
                    refine lv_iload hx hb dX2_writeOldKind_112 (lv_at hl 1 rfl) ?_
                    refine lv_icmp_gt (tgt := 140) hx hb dX2_writeOldKind_114 (by decide) (fun c114_3 => ?_) (fun c114_3 => ?_)
                    · skip
                      refine lv_aload_n hx hb dX2_writeOldKind_140 rfl (lv_at hl 6 rfl) ?_
                      refine lv_iload hx hb dX2_writeOldKind_141 (lv_at hl 3 rfl) ?_
                      refine lv_iload_n hx hb dX2_writeOldKind_143 rfl (lv_at hl 5 rfl) ?_
                      refine clI (wr := [(t2, .inr (1, [.ref b2, .int (nI x2.length)])), (b2, .inl (c2, 200, .inl f2)), (t8, .inr (1, [.ref b8, .int (nI tc.length)])), (b8, .inl (c8, 200, .inl f8)), (t9, .inr (1, [.ref b9, .int (nI tp.length)])), (b9, .inl (c9, 200, .inl f9))]) (va_runV ⟨hx, hb, hml, hown, hts⟩ (KX2_writeOldCode l D h t0 t1 t2 t3 t4 t5 t6 t7 t8 t9 si b1 c1 f1 wr o1 c0 y1 _) (cwV 2 hts gX2_writeOldKind_X2_writeOldCode rfl rfl rfl (by decide +kernel) ⟨Nat.le_of_ble_eq_true rfl, Nat.le_of_ble_eq_true rfl⟩) (pcM_V (hP.sub (ws' := [(h, .inr (3, [.ref t0, .ref t1, .ref t2, .ref t3, .ref t4, .ref t5, .ref t6, .ref t7, .ref t8, .ref t9, .int si])), (t1, .inr (2, [.ref b1, .int (nI wr.length)])), (b1, .inl (c1, 400, .inl f1))]) [0, 1, 2] rfl) (hD.sub (ws' := [(h, .inr (3, [.ref t0, .ref t1, .ref t2, .ref t3, .ref t4, .ref t5, .ref t6, .ref t7, .ref t8, .ref t9, .int si])), (t1, .inr (2, [.ref b1, .int (nI wr.length)])), (b1, .inl (c1, 400, .inl f1))]) [0, 1, 2] (by decide) rfl) (hK.sub (tys' := [(c1, .byte)]) [0] rfl) hN 0 rfl rfl) rfl rfl hl.1 rfl (lv_room (Nat.le_of_ble_eq_true rfl)) dX2_writeOldKind_144 ⟨Nat.zero_le _, Nat.zero_le _⟩) hP hD hS hA [0, 1, 2] [3, 4, 5, 6, 7, 8] rfl rfl (by decide) (by decide) (fun r_3 u_3 H locs hw_3 hP hD hS => ?_)
                      obtain ⟨hw_3r, hw_3o⟩ := hw_3
                      subst hw_3r
                      have hP : va_P D vwCl [(h, .inr (3, [.ref t0, .ref t1, .ref t2, .ref t3, .ref t4, .ref t5, .ref t6, .ref t7, .ref t8, .ref t9, .int si])), (t1, .inr (2, [.ref b1, .int (nI ((wob c0 y1).foldl (oadd 400) wr).length)])), (b1, .inl (c1, 400, .inl u_3)), (t2, .inr (1, [.ref b2, .int (nI x2.length)])), (b2, .inl (c2, 200, .inl f2)), (t8, .inr (1, [.ref b8, .int (nI tc.length)])), (b8, .inl (c8, 200, .inl f8)), (t9, .inr (1, [.ref b9, .int (nI tp.length)])), (b9, .inl (c9, 200, .inl f9))] H := hP.sub [6, 7, 8, 0, 1, 2, 3, 4, 5] rfl
                      have hD : va_D A [(h, .inr (3, [.ref t0, .ref t1, .ref t2, .ref t3, .ref t4, .ref t5, .ref t6, .ref t7, .ref t8, .ref t9, .int si])), (t1, .inr (2, [.ref b1, .int (nI ((wob c0 y1).foldl (oadd 400) wr).length)])), (b1, .inl (c1, 400, .inl u_3)), (t2, .inr (1, [.ref b2, .int (nI x2.length)])), (b2, .inl (c2, 200, .inl f2)), (t8, .inr (1, [.ref b8, .int (nI tc.length)])), (b8, .inl (c8, 200, .inl f8)), (t9, .inr (1, [.ref b9, .int (nI tp.length)])), (b9, .inl (c9, 200, .inl f9))] := hD.sub [6, 7, 8, 0, 1, 2, 3, 4, 5] (by decide) rfl
                      refine lv_istore_n (lv' := [(1, .int (woo c0 y1)), (6, .int y6), (5, .int (nI (lmk t))), (2, .int 0), (4, .int c0), (3, .int y3), (0, .ref h)]) hx hb dX2_writeOldKind_147 rfl hl (by decide) rfl (fun ls hl => ?_)
                      refine lv_iinc (v := (y3 + 1)) (lv' := [(3, .int (y3 + 1)), (1, .int (woo c0 y1)), (6, .int y6), (5, .int (nI (lmk t))), (2, .int 0), (4, .int c0), (0, .ref h)]) hx hb dX2_writeOldKind_148 hl (k := 5) rfl rfl (by decide) rfl (fun ls hl => ?_)
                      refine lv_goto (tgt := 6) hx hb dX2_writeOldKind_151 (by decide) ?_
                      exact ih (done ++ [c0]) _ _ _ u_3 f8 f9 _ _ _ H locs ls (by rw [htx]; simp) (by rw [e3, List.length_append]; exact nI_1 _) (by rw [← hB]; simp [List.length_append, wms, oadd]) (by rw [← hC]; simp [List.length_append, wms]) (by rw [← hQ]; simp [List.length_append, wms]) hw_3o o8 o9 (by simp <;> omega) (by simp <;> omega) hP hD hS (lv_sub hl [0, 4, 1, 6] rfl)
                    · skip
                      exact absurd (by rw [e6, hmdl]; exact nI_lt (by omega) (by omega)) c114_3
                  | cons d ms ih2 =>
                    intro md wr f1 y1 y6 H locs ls hmd e6 hB hC hQ o1 hP hD hS hl
                    have hmdl : lmk t = md.length + (ms.length + 1) := by rw [← htk, hmd]; simp
                    refine lv_iload hx hb dX2_writeOldKind_110 (lv_at hl 0 rfl) ?_
                    refine lv_iload hx hb dX2_writeOldKind_112 (lv_at hl 1 rfl) ?_
                    refine lv_icmp_gt (tgt := 140) hx hb dX2_writeOldKind_114 (by decide) (fun c114_4 => ?_) (fun c114_4 => ?_)
                    · skip
                      exact absurd c114_4 (by rw [e6, hmdl]; exact nI_nlt (by omega) (by omega))
                    · skip
                      refine lv_aload_n hx hb dX2_writeOldKind_117 rfl (lv_at hl 6 rfl) ?_
                      refine lv_aload_n hx hb dX2_writeOldKind_118 rfl (lv_at hl 6 rfl) ?_
                      refine va_get (D := D) (ci := 3) (v := .ref t2) (C := RX2) (T := TX2) (N := 11) hx hb hts (by decide +kernel) hown hK hP 0 rfl rfl 2 (by decide) (hts (.fieldLink RX2 24 "CharacterRows" "text" "LCharacterRows$Codes;") (by decide +kernel)) (fun _ h9 => h9) rfl dX2_writeOldKind_119 ?_
                      refine lv_iload_n hx hb dX2_writeOldKind_122 rfl (lv_at hl 4 rfl) ?_
                      refine lv_iload hx hb dX2_writeOldKind_123 (lv_at hl 0 rfl) ?_
                      refine lv_iadd hx hb dX2_writeOldKind_125 ?_
                      refine vp_callSi (W.runV ⟨hx, hb, hml, hown, hts⟩ (KX0_at l D t2 b2 c2 f2 x2 o2 (y3 + y6)) (cwV 1 hts gX2_writeOldKind_X0_at rfl rfl rfl (by decide +kernel) ⟨Nat.le_of_ble_eq_true rfl, Nat.le_of_ble_eq_true rfl⟩) (pcR_V (hP.sub (ws' := [(t2, .inr (1, [.ref b2, .int (nI x2.length)])), (b2, .inl (c2, 200, .inl f2))]) [3, 4] rfl) (hK.sub (tys' := [(c2, .int)]) [1] rfl) hN 0 rfl rfl) rfl rfl hl.1 rfl (lv_room (Nat.le_of_ble_eq_true rfl)) dX2_writeOldKind_126 ⟨Nat.zero_le _, Nat.zero_le _⟩) (fun r9 hr9 => ?_)
                      replace hr9 : r9 = d := hr9.trans (by rw [htx, e3, e6, nI_add, rw_at_d (l := done) (r := c0 :: t) (j := md.length + 1) rfl (by omega)]; exact gd_take hmd)
                      subst r9
                      refine lv_iload_n hx hb dX2_writeOldKind_129 rfl (lv_at hl 5 rfl) ?_
                      refine clI (wr := [(t2, .inr (1, [.ref b2, .int (nI x2.length)])), (b2, .inl (c2, 200, .inl f2)), (t8, .inr (1, [.ref b8, .int (nI tc.length)])), (b8, .inl (c8, 200, .inl f8)), (t9, .inr (1, [.ref b9, .int (nI tp.length)])), (b9, .inl (c9, 200, .inl f9))]) (va_runV ⟨hx, hb, hml, hown, hts⟩ (KX2_writeOldCode l D h t0 t1 t2 t3 t4 t5 t6 t7 t8 t9 si b1 c1 f1 wr o1 d y1 _) (cwV 2 hts gX2_writeOldKind_X2_writeOldCode rfl rfl rfl (by decide +kernel) ⟨Nat.le_of_ble_eq_true rfl, Nat.le_of_ble_eq_true rfl⟩) (pcM_V (hP.sub (ws' := [(h, .inr (3, [.ref t0, .ref t1, .ref t2, .ref t3, .ref t4, .ref t5, .ref t6, .ref t7, .ref t8, .ref t9, .int si])), (t1, .inr (2, [.ref b1, .int (nI wr.length)])), (b1, .inl (c1, 400, .inl f1))]) [0, 1, 2] rfl) (hD.sub (ws' := [(h, .inr (3, [.ref t0, .ref t1, .ref t2, .ref t3, .ref t4, .ref t5, .ref t6, .ref t7, .ref t8, .ref t9, .int si])), (t1, .inr (2, [.ref b1, .int (nI wr.length)])), (b1, .inl (c1, 400, .inl f1))]) [0, 1, 2] (by decide) rfl) (hK.sub (tys' := [(c1, .byte)]) [0] rfl) hN 0 rfl rfl) rfl rfl hl.1 rfl (lv_room (Nat.le_of_ble_eq_true rfl)) dX2_writeOldKind_130 ⟨Nat.zero_le _, Nat.zero_le _⟩) hP hD hS hA [0, 1, 2] [3, 4, 5, 6, 7, 8] rfl rfl (by decide) (by decide) (fun r_4 u_4 H locs hw_4 hP hD hS => ?_)
                      obtain ⟨hw_4r, hw_4o⟩ := hw_4
                      subst hw_4r
                      have hP : va_P D vwCl [(h, .inr (3, [.ref t0, .ref t1, .ref t2, .ref t3, .ref t4, .ref t5, .ref t6, .ref t7, .ref t8, .ref t9, .int si])), (t1, .inr (2, [.ref b1, .int (nI ((wob d y1).foldl (oadd 400) wr).length)])), (b1, .inl (c1, 400, .inl u_4)), (t2, .inr (1, [.ref b2, .int (nI x2.length)])), (b2, .inl (c2, 200, .inl f2)), (t8, .inr (1, [.ref b8, .int (nI tc.length)])), (b8, .inl (c8, 200, .inl f8)), (t9, .inr (1, [.ref b9, .int (nI tp.length)])), (b9, .inl (c9, 200, .inl f9))] H := hP.sub [6, 7, 8, 0, 1, 2, 3, 4, 5] rfl
                      have hD : va_D A [(h, .inr (3, [.ref t0, .ref t1, .ref t2, .ref t3, .ref t4, .ref t5, .ref t6, .ref t7, .ref t8, .ref t9, .int si])), (t1, .inr (2, [.ref b1, .int (nI ((wob d y1).foldl (oadd 400) wr).length)])), (b1, .inl (c1, 400, .inl u_4)), (t2, .inr (1, [.ref b2, .int (nI x2.length)])), (b2, .inl (c2, 200, .inl f2)), (t8, .inr (1, [.ref b8, .int (nI tc.length)])), (b8, .inl (c8, 200, .inl f8)), (t9, .inr (1, [.ref b9, .int (nI tp.length)])), (b9, .inl (c9, 200, .inl f9))] := hD.sub [6, 7, 8, 0, 1, 2, 3, 4, 5] (by decide) rfl
                      refine lv_istore_n (lv' := [(1, .int (woo d y1)), (6, .int y6), (5, .int (nI (lmk t))), (2, .int 0), (4, .int c0), (3, .int y3), (0, .ref h)]) hx hb dX2_writeOldKind_133 rfl hl (by decide) rfl (fun ls hl => ?_)
                      refine lv_iinc (v := (y6 + 1)) (lv' := [(6, .int (y6 + 1)), (1, .int (woo d y1)), (5, .int (nI (lmk t))), (2, .int 0), (4, .int c0), (3, .int y3), (0, .ref h)]) hx hb dX2_writeOldKind_134 hl (k := 1) rfl rfl (by decide) rfl (fun ls hl => ?_)
                      refine lv_goto (tgt := 110) hx hb dX2_writeOldKind_137 (by decide) ?_
                      exact ih2 (md ++ [d]) _ u_4 _ _ H locs ls (by rw [hmd]; simp) (by rw [e6, List.length_append]; exact nI_1 _) (by rw [← hB]; simp [wms]) (by rw [← hC]; simp [wms]) (by rw [← hQ]; simp [wms]) hw_4o hP hD hS (lv_sub hl [0, 2, 3, 4, 5, 1, 6] rfl)
                exact loop2 (t.take (lmk t)) [] _ f1 _ _ H locs ls rfl rfl hB2 hC2 hQ2 o1 hP hD hS (lv_sub hl [0, 1, 2, 3, 4, 5, 6] rfl)
              · exact absurd c73_2 (by decide)
            · skip
              refine lv_iconst (v := 1) hx hb dX2_writeOldKind_66 (by decide) ?_
              refine lv_goto (tgt := 71) hx hb dX2_writeOldKind_67 (by decide) ?_
              refine lv_istore_n (lv' := [(2, .int 1), (4, .int c0), (3, .int y3), (1, .int y1), (0, .ref h)]) hx hb dX2_writeOldKind_71 rfl hl (by decide) rfl (fun ls hl => ?_)
              refine lv_iload_n hx hb dX2_writeOldKind_72 rfl (lv_at hl 0 rfl) ?_
              refine lv_if_eq (tgt := 97) hx hb dX2_writeOldKind_73 (by decide) (fun c73_3 => ?_) (fun c73_3 => ?_)
              · exact absurd c73_3 (by decide)
              · skip
                refine lv_aload_n hx hb dX2_writeOldKind_76 rfl (lv_at hl 4 rfl) ?_
                refine va_get (D := D) (ci := 3) (v := .ref t1) (C := RX2) (T := TX2) (N := 11) hx hb hts (by decide +kernel) hown hK hP 0 rfl rfl 1 (by decide) (hts (.fieldLink RX2 18 "CharacterRows" "written" "LCharacterRows$Octets;") (by decide +kernel)) (fun _ h9 => h9) rfl dX2_writeOldKind_77 ?_
                refine lv_aload_n hx hb dX2_writeOldKind_80 rfl (lv_at hl 4 rfl) ?_
                refine va_get (D := D) (ci := 3) (v := .int si) (C := RX2) (T := TX2) (N := 11) hx hb hts (by decide +kernel) hown hK hP 0 rfl rfl 10 (by decide) (hts (.fieldLink RX2 49 "CharacterRows" "standIn" "I") (by decide +kernel)) (fun _ h9 => h9) rfl dX2_writeOldKind_81 ?_
                refine clV (wr := [(h, .inr (3, [.ref t0, .ref t1, .ref t2, .ref t3, .ref t4, .ref t5, .ref t6, .ref t7, .ref t8, .ref t9, .int si])), (t2, .inr (1, [.ref b2, .int (nI x2.length)])), (b2, .inl (c2, 200, .inl f2)), (t8, .inr (1, [.ref b8, .int (nI tc.length)])), (b8, .inl (c8, 200, .inl f8)), (t9, .inr (1, [.ref b9, .int (nI tp.length)])), (b9, .inl (c9, 200, .inl f9))]) (va_runV ⟨hx, hb, hml, hown, hts⟩ (KX1_add l D t1 b1 c1 f1 wr 400 (by decide) o1 si _) (cwV 1 hts gX2_writeOldKind_X1_add rfl rfl rfl (by decide +kernel) ⟨Nat.le_of_ble_eq_true rfl, Nat.le_of_ble_eq_true rfl⟩) (pcM_V (hP.sub (ws' := [(t1, .inr (2, [.ref b1, .int (nI wr.length)])), (b1, .inl (c1, 400, .inl f1))]) [1, 2] rfl) (hD.sub (ws' := [(t1, .inr (2, [.ref b1, .int (nI wr.length)])), (b1, .inl (c1, 400, .inl f1))]) [1, 2] (by decide) rfl) (hK.sub (tys' := [(c1, .byte)]) [0] rfl) hN 0 rfl rfl) rfl rfl hl.1 rfl (lv_room (Nat.le_of_ble_eq_true rfl)) dX2_writeOldKind_84 ⟨Nat.zero_le _, Nat.zero_le _⟩) hP hD hS hA [1, 2] [0, 3, 4, 5, 6, 7, 8] rfl rfl (by decide) (by decide) (fun u_5 H locs hw_5 hP hD hS => ?_)
                have hP : va_P D vwCl [(h, .inr (3, [.ref t0, .ref t1, .ref t2, .ref t3, .ref t4, .ref t5, .ref t6, .ref t7, .ref t8, .ref t9, .int si])), (t1, .inr (2, [.ref b1, .int (nI (rw_add 400 wr (si : Int32).toInt8.toInt32).length)])), (b1, .inl (c1, 400, .inl u_5)), (t2, .inr (1, [.ref b2, .int (nI x2.length)])), (b2, .inl (c2, 200, .inl f2)), (t8, .inr (1, [.ref b8, .int (nI tc.length)])), (b8, .inl (c8, 200, .inl f8)), (t9, .inr (1, [.ref b9, .int (nI tp.length)])), (b9, .inl (c9, 200, .inl f9))] H := hP.sub [0, 7, 8, 1, 2, 3, 4, 5, 6] rfl
                have hD : va_D A [(h, .inr (3, [.ref t0, .ref t1, .ref t2, .ref t3, .ref t4, .ref t5, .ref t6, .ref t7, .ref t8, .ref t9, .int si])), (t1, .inr (2, [.ref b1, .int (nI (rw_add 400 wr (si : Int32).toInt8.toInt32).length)])), (b1, .inl (c1, 400, .inl u_5)), (t2, .inr (1, [.ref b2, .int (nI x2.length)])), (b2, .inl (c2, 200, .inl f2)), (t8, .inr (1, [.ref b8, .int (nI tc.length)])), (b8, .inl (c8, 200, .inl f8)), (t9, .inr (1, [.ref b9, .int (nI tp.length)])), (b9, .inl (c9, 200, .inl f9))] := hD.sub [0, 7, 8, 1, 2, 3, 4, 5, 6] (by decide) rfl
                refine lv_aload_n hx hb dX2_writeOldKind_87 rfl (lv_at hl 4 rfl) ?_
                refine lv_iload hx hb dX2_writeOldKind_88 (lv_at hl 1 rfl) ?_
                refine lv_iload_n hx hb dX2_writeOldKind_90 rfl (lv_at hl 2 rfl) ?_
                refine clV (wr := [(t1, .inr (2, [.ref b1, .int (nI (rw_add 400 wr (si : Int32).toInt8.toInt32).length)])), (b1, .inl (c1, 400, .inl u_5)), (t2, .inr (1, [.ref b2, .int (nI x2.length)])), (b2, .inl (c2, 200, .inl f2))]) (va_runV ⟨hx, hb, hml, hown, hts⟩ (KX2_tell l D h t0 t1 t2 t3 t4 t5 t6 t7 t8 t9 si b8 c8 f8 tc o8 b9 c9 f9 tp o9 c0 y3 _) (cwV 2 hts gX2_writeOldKind_X2_tell rfl rfl rfl (by decide +kernel) ⟨Nat.le_of_ble_eq_true rfl, Nat.le_of_ble_eq_true rfl⟩) (pcM_V (hP.sub (ws' := [(h, .inr (3, [.ref t0, .ref t1, .ref t2, .ref t3, .ref t4, .ref t5, .ref t6, .ref t7, .ref t8, .ref t9, .int si])), (t8, .inr (1, [.ref b8, .int (nI tc.length)])), (b8, .inl (c8, 200, .inl f8)), (t9, .inr (1, [.ref b9, .int (nI tp.length)])), (b9, .inl (c9, 200, .inl f9))]) [0, 5, 6, 7, 8] rfl) (hD.sub (ws' := [(h, .inr (3, [.ref t0, .ref t1, .ref t2, .ref t3, .ref t4, .ref t5, .ref t6, .ref t7, .ref t8, .ref t9, .int si])), (t8, .inr (1, [.ref b8, .int (nI tc.length)])), (b8, .inl (c8, 200, .inl f8)), (t9, .inr (1, [.ref b9, .int (nI tp.length)])), (b9, .inl (c9, 200, .inl f9))]) [0, 5, 6, 7, 8] (by decide) rfl) (hK.sub (tys' := [(c8, .int), (c9, .int)]) [2, 3] rfl) hN 0 rfl rfl) rfl rfl hl.1 rfl (lv_room (Nat.le_of_ble_eq_true rfl)) dX2_writeOldKind_91 ⟨Nat.zero_le _, Nat.zero_le _⟩) hP hD hS hA [0, 5, 6, 7, 8] [1, 2, 3, 4] rfl rfl (by decide) (by decide) (fun u_6 H locs hw_6 hP hD hS => ?_)
                obtain ⟨u_6a, u_6b⟩ := u_6
                obtain ⟨hw_6a, hw_6b⟩ := hw_6
                have e98 : (rw_add 200 tc c0) = (tc ++ [c0]) := (rw_add_lt (by omega))
                have e99 : (rw_add 200 tp y3) = (tp ++ [y3]) := (rw_add_lt (by omega))
                rw [e98] at hw_6a
                rw [e99] at hw_6b
                rw [e98, e99] at hP hD
                have hP : va_P D vwCl [(h, .inr (3, [.ref t0, .ref t1, .ref t2, .ref t3, .ref t4, .ref t5, .ref t6, .ref t7, .ref t8, .ref t9, .int si])), (t1, .inr (2, [.ref b1, .int (nI (rw_add 400 wr (si : Int32).toInt8.toInt32).length)])), (b1, .inl (c1, 400, .inl u_5)), (t2, .inr (1, [.ref b2, .int (nI x2.length)])), (b2, .inl (c2, 200, .inl f2)), (t8, .inr (1, [.ref b8, .int (nI (tc ++ [c0]).length)])), (b8, .inl (c8, 200, .inl u_6a)), (t9, .inr (1, [.ref b9, .int (nI (tp ++ [y3]).length)])), (b9, .inl (c9, 200, .inl u_6b))] H := hP.sub [4, 0, 1, 2, 3, 5, 6, 7, 8] rfl
                have hD : va_D A [(h, .inr (3, [.ref t0, .ref t1, .ref t2, .ref t3, .ref t4, .ref t5, .ref t6, .ref t7, .ref t8, .ref t9, .int si])), (t1, .inr (2, [.ref b1, .int (nI (rw_add 400 wr (si : Int32).toInt8.toInt32).length)])), (b1, .inl (c1, 400, .inl u_5)), (t2, .inr (1, [.ref b2, .int (nI x2.length)])), (b2, .inl (c2, 200, .inl f2)), (t8, .inr (1, [.ref b8, .int (nI (tc ++ [c0]).length)])), (b8, .inl (c8, 200, .inl u_6a)), (t9, .inr (1, [.ref b9, .int (nI (tp ++ [y3]).length)])), (b9, .inl (c9, 200, .inl u_6b))] := hD.sub [4, 0, 1, 2, 3, 5, 6, 7, 8] (by decide) rfl
                refine lv_goto (tgt := 148) hx hb dX2_writeOldKind_94 (by decide) ?_
                refine lv_iinc (v := (y3 + 1)) (lv' := [(3, .int (y3 + 1)), (2, .int 1), (4, .int c0), (1, .int y1), (0, .ref h)]) hx hb dX2_writeOldKind_148 hl (k := 2) rfl rfl (by decide) rfl (fun ls hl => ?_)
                refine lv_goto (tgt := 6) hx hb dX2_writeOldKind_151 (by decide) ?_
                exact ih (done ++ [c0]) _ _ _ u_5 u_6a u_6b _ _ _ H locs ls (by rw [htx]; simp) (by rw [e3, List.length_append]; exact nI_1 _) (by rw [← hB]; simp [List.length_append, woS, c32_1, c54_1, c63_1, oadd]) (by rw [← hC]; simp [List.length_append, woS, c32_1, c54_1, c63_1]) (by rw [← hQ]; simp [List.length_append, woS, c32_1, c54_1, c63_1, e3]) hw_5 hw_6a hw_6b (by simp <;> omega) (by simp <;> omega) hP hD hS (lv_sub hl [0, 1, 3, 4] rfl)
        · skip
          refine lv_iload_n hx hb dX2_writeOldKind_35 rfl (lv_at hl 2 rfl) ?_
          refine lv_if_eq (tgt := 148) hx hb dX2_writeOldKind_36 (by decide) (fun c36_1 => ?_) (fun c36_1 => ?_)
          · skip
            refine lv_iinc (v := (y3 + 1)) (lv' := [(3, .int (y3 + 1)), (4, .int c0), (2, .int y2), (1, .int y1), (0, .ref h)]) hx hb dX2_writeOldKind_148 hl (k := 1) rfl rfl (by decide) rfl (fun ls hl => ?_)
            refine lv_goto (tgt := 6) hx hb dX2_writeOldKind_151 (by decide) ?_
            exact ih (done ++ [c0]) _ _ _ f1 f8 f9 _ _ _ H locs ls (by rw [htx]; simp) (by rw [e3, List.length_append]; exact nI_1 _) (by rw [← hB]; simp [List.length_append, woS, c32_1, c36_1]) (by rw [← hC]; simp [List.length_append, woS, c32_1, c36_1]) (by rw [← hQ]; simp [List.length_append, woS, c32_1, c36_1, e3]) o1 o8 o9 (by simp <;> omega) (by simp <;> omega) hP hD hS (lv_sub hl [0, 2, 3, 4] rfl)
          · skip
            refine lv_aload_n hx hb dX2_writeOldKind_39 rfl (lv_at hl 4 rfl) ?_
            refine lv_iload hx hb dX2_writeOldKind_40 (lv_at hl 0 rfl) ?_
            refine lv_iload_n hx hb dX2_writeOldKind_42 rfl (lv_at hl 1 rfl) ?_
            refine clV (wr := [(t1, .inr (2, [.ref b1, .int (nI wr.length)])), (b1, .inl (c1, 400, .inl f1)), (t2, .inr (1, [.ref b2, .int (nI x2.length)])), (b2, .inl (c2, 200, .inl f2))]) (va_runV ⟨hx, hb, hml, hown, hts⟩ (KX2_tell l D h t0 t1 t2 t3 t4 t5 t6 t7 t8 t9 si b8 c8 f8 tc o8 b9 c9 f9 tp o9 c0 y3 _) (cwV 2 hts gX2_writeOldKind_X2_tell rfl rfl rfl (by decide +kernel) ⟨Nat.le_of_ble_eq_true rfl, Nat.le_of_ble_eq_true rfl⟩) (pcM_V (hP.sub (ws' := [(h, .inr (3, [.ref t0, .ref t1, .ref t2, .ref t3, .ref t4, .ref t5, .ref t6, .ref t7, .ref t8, .ref t9, .int si])), (t8, .inr (1, [.ref b8, .int (nI tc.length)])), (b8, .inl (c8, 200, .inl f8)), (t9, .inr (1, [.ref b9, .int (nI tp.length)])), (b9, .inl (c9, 200, .inl f9))]) [0, 5, 6, 7, 8] rfl) (hD.sub (ws' := [(h, .inr (3, [.ref t0, .ref t1, .ref t2, .ref t3, .ref t4, .ref t5, .ref t6, .ref t7, .ref t8, .ref t9, .int si])), (t8, .inr (1, [.ref b8, .int (nI tc.length)])), (b8, .inl (c8, 200, .inl f8)), (t9, .inr (1, [.ref b9, .int (nI tp.length)])), (b9, .inl (c9, 200, .inl f9))]) [0, 5, 6, 7, 8] (by decide) rfl) (hK.sub (tys' := [(c8, .int), (c9, .int)]) [2, 3] rfl) hN 0 rfl rfl) rfl rfl hl.1 rfl (lv_room (Nat.le_of_ble_eq_true rfl)) dX2_writeOldKind_43 ⟨Nat.zero_le _, Nat.zero_le _⟩) hP hD hS hA [0, 5, 6, 7, 8] [1, 2, 3, 4] rfl rfl (by decide) (by decide) (fun u_7 H locs hw_7 hP hD hS => ?_)
            obtain ⟨u_7a, u_7b⟩ := u_7
            obtain ⟨hw_7a, hw_7b⟩ := hw_7
            have e98 : (rw_add 200 tc c0) = (tc ++ [c0]) := (rw_add_lt (by omega))
            have e99 : (rw_add 200 tp y3) = (tp ++ [y3]) := (rw_add_lt (by omega))
            rw [e98] at hw_7a
            rw [e99] at hw_7b
            rw [e98, e99] at hP hD
            have hP : va_P D vwCl [(h, .inr (3, [.ref t0, .ref t1, .ref t2, .ref t3, .ref t4, .ref t5, .ref t6, .ref t7, .ref t8, .ref t9, .int si])), (t1, .inr (2, [.ref b1, .int (nI wr.length)])), (b1, .inl (c1, 400, .inl f1)), (t2, .inr (1, [.ref b2, .int (nI x2.length)])), (b2, .inl (c2, 200, .inl f2)), (t8, .inr (1, [.ref b8, .int (nI (tc ++ [c0]).length)])), (b8, .inl (c8, 200, .inl u_7a)), (t9, .inr (1, [.ref b9, .int (nI (tp ++ [y3]).length)])), (b9, .inl (c9, 200, .inl u_7b))] H := hP.sub [4, 0, 1, 2, 3, 5, 6, 7, 8] rfl
            have hD : va_D A [(h, .inr (3, [.ref t0, .ref t1, .ref t2, .ref t3, .ref t4, .ref t5, .ref t6, .ref t7, .ref t8, .ref t9, .int si])), (t1, .inr (2, [.ref b1, .int (nI wr.length)])), (b1, .inl (c1, 400, .inl f1)), (t2, .inr (1, [.ref b2, .int (nI x2.length)])), (b2, .inl (c2, 200, .inl f2)), (t8, .inr (1, [.ref b8, .int (nI (tc ++ [c0]).length)])), (b8, .inl (c8, 200, .inl u_7a)), (t9, .inr (1, [.ref b9, .int (nI (tp ++ [y3]).length)])), (b9, .inl (c9, 200, .inl u_7b))] := hD.sub [4, 0, 1, 2, 3, 5, 6, 7, 8] (by decide) rfl
            refine lv_goto (tgt := 148) hx hb dX2_writeOldKind_46 (by decide) ?_
            refine lv_iinc (v := (y3 + 1)) (lv' := [(3, .int (y3 + 1)), (4, .int c0), (2, .int y2), (1, .int y1), (0, .ref h)]) hx hb dX2_writeOldKind_148 hl (k := 1) rfl rfl (by decide) rfl (fun ls hl => ?_)
            refine lv_goto (tgt := 6) hx hb dX2_writeOldKind_151 (by decide) ?_
            exact ih (done ++ [c0]) _ _ _ f1 u_7a u_7b _ _ _ H locs ls (by rw [htx]; simp) (by rw [e3, List.length_append]; exact nI_1 _) (by rw [← hB]; simp [List.length_append, woS, c32_1, c36_1]) (by rw [← hC]; simp [List.length_append, woS, c32_1, c36_1]) (by rw [← hQ]; simp [List.length_append, woS, c32_1, c36_1, e3]) o1 hw_7a hw_7b (by simp <;> omega) (by simp <;> omega) hP hD hS (lv_sub hl [0, 2, 3, 4] rfl)
  exact loop x2 [] x1 x8 x9 f1 f8 f9 _ _ _ _ _ ls rfl rfl hB hC hQ o1 o8 o9 hx8 hx9 hP hD hS (lv_sub hl [0, 1, 2, 3] rfl)
