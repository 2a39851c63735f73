/-! the reference: the reader of the new kind -/
set_option maxHeartbeats 4000000 in
set_option maxRecDepth 100000 in
theorem KX3_readNew (l : Launch) (D : va_G) (g a1 a3 a5 a7 a8 a9 aB : Nat) (th ct oc wn tn si wg : Int32) (k1 : ClassId) (g1 : Nat → Int32) (y1 : List Int32) (p1 : rw_ok g1 200 y1) (hby : ∀ c ∈ y1, byt c) (k7 : ClassId) (g7 : Nat → Int32) (T : Int32 × List Int32) (hT : rnS (y1.length + 1) y1 0 [] = T) (sz : Nat) : Met l yX3_readNew wsX3_readNew ({ frames := 2, cells := 0, slots := 0, locals := 43 }) (pcM D sz [(g, .inr (4, [.int th, .ref a1, .int (nI y1.length), .ref a3, .int ct, .ref a5, .int oc, .ref a7, .ref a8, .ref a9, .int wn, .ref aB, .int tn, .int si, .int wg])), (a1, .inl (k1, 200, .inl g1)), (a7, .inl (k7, 400, .inl g7))] [(k1, .int), (k7, .int)] [.ref g]) (qcI (S := (Nat → Int32) × Int32) D (fun r u => (T.1 = -1 → r = nI T.2.length ∧ rw_ok u.1 400 T.2) ∧ (¬ T.1 = -1 → r = -1 ∧ u.2 = T.1)) (fun u => [(g, .inr (4, [.int th, .ref a1, .int (nI y1.length), .ref a3, .int ct, .ref a5, .int oc, .ref a7, .ref a8, .ref a9, .int wn, .ref aB, .int tn, .int si, .int u.2])), (a1, .inl (k1, 200, .inl g1)), (a7, .inl (k7, 400, .inl u.1))]) (va_A [(g, .inr (4, [.int th, .ref a1, .int (nI y1.length), .ref a3, .int ct, .ref a5, .int oc, .ref a7, .ref a8, .ref a9, .int wn, .ref aB, .int tn, .int si, .int wg])), (a1, .inl (k1, 200, .inl g1)), (a7, .inl (k7, 400, .inl g7))] sz)) 0 0 (va_A [(g, .inr (4, [.int th, .ref a1, .int (nI y1.length), .ref a3, .int ct, .ref a5, .int oc, .ref a7, .ref a8, .ref a9, .int wn, .ref aB, .int tn, .int si, .int wg])), (a1, .inl (k1, 200, .inl g1)), (a7, .inl (k7, 400, .inl g7))] sz) := by
  refine ofM (Qc := fun A => qcI (S := (Nat → Int32) × Int32) D (fun r u => (T.1 = -1 → r = nI T.2.length ∧ rw_ok u.1 400 T.2) ∧ (¬ T.1 = -1 → r = -1 ∧ u.2 = T.1)) (fun u => [(g, .inr (4, [.int th, .ref a1, .int (nI y1.length), .ref a3, .int ct, .ref a5, .int oc, .ref a7, .ref a8, .ref a9, .int wn, .ref aB, .int tn, .int si, .int u.2])), (a1, .inl (k1, 200, .inl g1)), (a7, .inl (k7, 400, .inl u.1))]) A) (cc := cX3_readNew) (maxL := 7) (ret := (some .int)) (by decide) rfl (Nat.le_of_ble_eq_true rfl) ?_
  intro p e s m below meth c ls A hx hb hr hml hown hts hlocks hnm hP hK hN hD hA hS hl
  have hl : lv_has ls 7 [(0, .ref g)] := hl
  refine lv_iconst (v := 0) hx hb dX3_readNew_0 (by decide) ?_
  refine lv_istore_n (lv' := [(1, .int 0), (0, .ref g)]) hx hb dX3_readNew_1 rfl hl (by decide) rfl (fun ls hl => ?_)
  refine lv_iconst (v := 0) hx hb dX3_readNew_2 (by decide) ?_
  refine lv_istore_n (lv' := [(2, .int 0), (1, .int 0), (0, .ref g)]) hx hb dX3_readNew_3 rfl hl (by decide) rfl (fun ls hl => ?_)
  have loop : ∀ (n : Nat) (rest done fr : List Int32) (g7 : Nat → Int32) (x1 x2 : Int32) (H : Heap) (locs : List Loc) (ls : Array Slot), (rest.length < n) → (y1 = done ++ rest) → (rnS n rest done.length fr = T) → (x2 = nI done.length) → (x1 = nI fr.length) → (rw_ok g7 400 fr) → (fr.length ≤ 100) → va_P D vwCl [(g, .inr (4, [.int th, .ref a1, .int (nI y1.length), .ref a3, .int ct, .ref a5, .int oc, .ref a7, .ref a8, .ref a9, .int wn, .ref aB, .int tn, .int si, .int wg])), (a1, .inl (k1, 200, .inl g1)), (a7, .inl (k7, 400, .inl g7))] H → va_D A [(g, .inr (4, [.int th, .ref a1, .int (nI y1.length), .ref a3, .int ct, .ref a5, .int oc, .ref a7, .ref a8, .ref a9, .int wn, .ref aB, .int tn, .int si, .int wg])), (a1, .inl (k1, 200, .inl g1)), (a7, .inl (k7, 400, .inl g7))] → va_S A s.heap H locs → lv_has ls 7 [(2, .int x2), (1, .int x1), (0, .ref g)] → W p l e ({ frames := 2, cells := 0, slots := 0, locals := 43 }) s m ([.ref g] : List Value).toArray below meth c H locs 0 0 (MQ below (qcI (S := (Nat → Int32) × Int32) D (fun r u => (T.1 = -1 → r = nI T.2.length ∧ rw_ok u.1 400 T.2) ∧ (¬ T.1 = -1 → r = -1 ∧ u.2 = T.1)) (fun u => [(g, .inr (4, [.int th, .ref a1, .int (nI y1.length), .ref a3, .int ct, .ref a5, .int oc, .ref a7, .ref a8, .ref a9, .int wn, .ref aB, .int tn, .int si, .int u.2])), (a1, .inl (k1, 200, .inl g1)), (a7, .inl (k7, 400, .inl u.1))]) A) ([.ref g] : List Value).toArray s 0 0 A) (F0 m 4 ls [])  := by
    intro n
    induction n with
    | zero =>
      intro rest done fr g7 x1 x2 H locs ls hn hy hT e2 e1 p7 hfr hP hD hS hl
      exact absurd hn (Nat.not_lt_zero _)
    | succ n ih =>
      intro rest done fr g7 x1 x2 H locs ls hn hy hT e2 e1 p7 hfr hP hD hS hl
      have hlx : y1.length = done.length + rest.length := by rw [hy]; simp
      have h200 := p1.1
      rcases rest with _ | ⟨b, t⟩
      · skip
        simp at hlx
        refine lv_iload_n hx hb dX3_readNew_4 rfl (lv_at hl 0 rfl) ?_
        refine lv_aload_n hx hb dX3_readNew_5 rfl (lv_at hl 2 rfl) ?_
        refine va_get (D := D) (ci := 4) (v := .int (nI y1.length)) (C := RX3) (T := TX3) (N := 15) hx hb hts (by decide +kernel) hown hK hP 0 rfl rfl 2 (by decide) (hts (.fieldLink RX3 39 "CharacterRowsModel" "size" "I") (by decide +kernel)) (fun _ h9 => h9) rfl dX3_readNew_6 ?_
        refine lv_icmp_ge (tgt := 287) hx hb dX3_readNew_9 (by decide) (fun c9_1 => ?_) (fun c9_1 => ?_)
        · skip
          refine lv_iload_n hx hb dX3_readNew_287 rfl (lv_at hl 1 rfl) ?_
          have e8 : ((-1 : Int32), fr) = T := by rw [← hT]; rfl
          exact rtI hx hb hr hlocks dX3_readNew_288 (g7, wg) ⟨fun _ => ⟨by rw [← e8]; exact e1, by rw [← e8]; exact p7⟩, fun q => absurd (by rw [← e8]) q⟩ hP hD hS
        · skip
          exact absurd (by rw [e2, hlx]; simp) c9_1
      · skip
        simp at hlx
        have hle0 : done.length + t.length + 1 ≤ 200 := by omega
        have hb9 : byt b := hby b (by rw [hy]; simp)
        refine lv_iload_n hx hb dX3_readNew_4 rfl (lv_at hl 0 rfl) ?_
        refine lv_aload_n hx hb dX3_readNew_5 rfl (lv_at hl 2 rfl) ?_
        refine va_get (D := D) (ci := 4) (v := .int (nI y1.length)) (C := RX3) (T := TX3) (N := 15) hx hb hts (by decide +kernel) hown hK hP 0 rfl rfl 2 (by decide) (hts (.fieldLink RX3 39 "CharacterRowsModel" "size" "I") (by decide +kernel)) (fun _ h9 => h9) rfl dX3_readNew_6 ?_
        refine lv_icmp_ge (tgt := 287) hx hb dX3_readNew_9 (by decide) (fun c9_2 => ?_) (fun c9_2 => ?_)
        · skip
          exact absurd c9_2 (by rw [e2, hlx]; exact nI_ge (by simp) (by simp at hlx ⊢; omega))
        · skip
          refine lv_aload_n hx hb dX3_readNew_12 rfl (lv_at hl 2 rfl) ?_
          refine va_get (D := D) (ci := 4) (v := .ref a1) (C := RX3) (T := TX3) (N := 15) hx hb hts (by decide +kernel) hown hK hP 0 rfl rfl 1 (by decide) (hts (.fieldLink RX3 7 "CharacterRowsModel" "collected" "[I") (by decide +kernel)) (fun _ h9 => h9) rfl dX3_readNew_13 ?_
          refine lv_iload_n hx hb dX3_readNew_16 rfl (lv_at hl 0 rfl) ?_
          refine va_iald hx hb hK hP 1 0 rfl rfl (rwf_in (l := done) (r := b :: t) (j := 0) p1 (by decide) hy e2 rfl (by simp)) dX3_readNew_17 ?_
          refine lv_topi (fun r9 hr9 => ?_)
          replace hr9 : r9 = b := hr9.trans (rwf_v (l := done) (r := b :: t) (j := 0) p1 (by decide) hy e2 rfl (by simp))
          subst r9
          refine lv_istore_n (lv' := [(3, .int b), (2, .int x2), (1, .int x1), (0, .ref g)]) hx hb dX3_readNew_18 rfl hl (by decide) rfl (fun ls hl => ?_)
          refine lv_iconst (v := 0) hx hb dX3_readNew_19 (by decide) ?_
          refine lv_istore (lv' := [(4, .int 0), (3, .int b), (2, .int x2), (1, .int x1), (0, .ref g)]) hx hb dX3_readNew_20 hl (by decide) rfl (fun ls hl => ?_)
          refine lv_iconst (v := 1) hx hb dX3_readNew_22 (by decide) ?_
          refine lv_istore (lv' := [(5, .int 1), (4, .int 0), (3, .int b), (2, .int x2), (1, .int x1), (0, .ref g)]) hx hb dX3_readNew_23 hl (by decide) rfl (fun ls hl => ?_)
          refine lv_iload_n hx hb dX3_readNew_25 rfl (lv_at hl 2 rfl) ?_
          refine lv_sipush (v := 128) hx hb dX3_readNew_26 (by decide) ?_
          refine lv_icmp_ge (tgt := 38) hx hb dX3_readNew_29 (by decide) (fun c29_1 => ?_) (fun c29_1 => ?_)
          · skip
            refine lv_iload_n hx hb dX3_readNew_38 rfl (lv_at hl 2 rfl) ?_
            refine lv_sipush (v := 192) hx hb dX3_readNew_39 (by decide) ?_
            refine lv_icmp_lt (tgt := 107) hx hb dX3_readNew_42 (by decide) (fun c42_1 => ?_) (fun c42_1 => ?_)
            · skip
              refine lv_iload_n hx hb dX3_readNew_107 rfl (lv_at hl 2 rfl) ?_
              refine lv_sipush (v := 224) hx hb dX3_readNew_108 (by decide) ?_
              refine lv_icmp_lt (tgt := 200) hx hb dX3_readNew_111 (by decide) (fun c111_1 => ?_) (fun c111_1 => ?_)
              · skip
                have hv4 : cnl b t = -1 := cn_bad1 c29_1 c42_1
                refine lv_iload hx hb dX3_readNew_200 (lv_at hl 1 rfl) ?_
                refine vp_callSi (W.runS ⟨hx, hb, hml, hown, hts⟩ (KX3_isPlain l 0) (va_cwS 1 hts gX3_readNew_X3_isPlain rfl rfl rfl (by decide +kernel) ⟨Nat.le_of_ble_eq_true rfl, Nat.le_of_ble_eq_true rfl⟩) pcS_S rfl rfl hl.1 rfl (lv_room (Nat.le_of_ble_eq_true rfl)) dX3_readNew_202 ⟨Nat.zero_le _, Nat.zero_le _⟩) (fun r9 hr9 => ?_)
                replace hr9 : r9 = fX2_isPlain 0 := hr9.trans (x3_isPlain _)
                subst r9
                refine lv_if_ne (tgt := 232) hx hb dX3_readNew_205 (by decide) (fun c205_1 => ?_) (fun c205_1 => ?_)
                · skip
                  exact absurd (by decide) c205_1
                · skip
                  refine lv_iload hx hb dX3_readNew_208 (lv_at hl 1 rfl) ?_
                  refine lv_bipush (v := 127) hx hb dX3_readNew_210 (by decide) ?_
                  refine lv_icmp_le (tgt := 236) hx hb dX3_readNew_212 (by decide) (fun c212_1 => ?_) (fun c212_1 => ?_)
                  · skip
                    refine lv_iconst (v := 0) hx hb dX3_readNew_236 (by decide) ?_
                    refine lv_istore (lv' := [(6, .int 0), (5, .int 1), (4, .int 0), (3, .int b), (2, .int x2), (1, .int x1), (0, .ref g)]) hx hb dX3_readNew_237 hl (by decide) rfl (fun ls hl => ?_)
                    refine lv_iload hx hb dX3_readNew_239 (lv_at hl 0 rfl) ?_
                    refine lv_if_eq (tgt := 262) hx hb dX3_readNew_241 (by decide) (fun c241_1 => ?_) (fun c241_1 => ?_)
                    · skip
                      refine lv_aload_n hx hb dX3_readNew_262 rfl (lv_at hl 6 rfl) ?_
                      refine lv_iload_n hx hb dX3_readNew_263 rfl (lv_at hl 4 rfl) ?_
                      refine clI (wr := [(a1, .inl (k1, 200, .inl g1)), (a7, .inl (k7, 400, .inl g7))]) (va_runV ⟨hx, hb, hml, hown, hts⟩ (KX3_bad l D g a1 a3 a5 a7 a8 a9 aB th (nI y1.length) ct oc wn tn si wg x2 _) (cwV 1 hts gX3_readNew_X3_bad rfl rfl rfl (by decide +kernel) ⟨Nat.le_of_ble_eq_true rfl, Nat.le_of_ble_eq_true rfl⟩) (pcM_V (hP.sub (ws' := [(g, .inr (4, [.int th, .ref a1, .int (nI y1.length), .ref a3, .int ct, .ref a5, .int oc, .ref a7, .ref a8, .ref a9, .int wn, .ref aB, .int tn, .int si, .int wg]))]) [0] rfl) (hD.sub (ws' := [(g, .inr (4, [.int th, .ref a1, .int (nI y1.length), .ref a3, .int ct, .ref a5, .int oc, .ref a7, .ref a8, .ref a9, .int wn, .ref aB, .int tn, .int si, .int wg]))]) [0] (by decide) rfl) (hK.sub (tys' := []) [] rfl) hN 0 rfl rfl) rfl rfl hl.1 rfl (lv_room (Nat.le_of_ble_eq_true rfl)) dX3_readNew_264 ⟨Nat.zero_le _, Nat.zero_le _⟩) hP hD hS hA [0] [1, 2] rfl rfl (by decide) (by decide) (fun r_1 u_1 H locs hw_1 hP hD hS => ?_)
                      subst hw_1
                      have hP : va_P D vwCl [(g, .inr (4, [.int th, .ref a1, .int (nI y1.length), .ref a3, .int ct, .ref a5, .int oc, .ref a7, .ref a8, .ref a9, .int wn, .ref aB, .int tn, .int si, .int x2])), (a1, .inl (k1, 200, .inl g1)), (a7, .inl (k7, 400, .inl g7))] H := hP.sub [2, 0, 1] rfl
                      have hD : va_D A [(g, .inr (4, [.int th, .ref a1, .int (nI y1.length), .ref a3, .int ct, .ref a5, .int oc, .ref a7, .ref a8, .ref a9, .int wn, .ref aB, .int tn, .int si, .int x2])), (a1, .inl (k1, 200, .inl g1)), (a7, .inl (k7, 400, .inl g7))] := hD.sub [2, 0, 1] (by decide) rfl
                      have hk : ¬ nwk (cnl b t) fr.length = true := fun q => nwk_ne q hv4
                      have e8 : (x2, fr) = T := by rw [← hT, e2]; simp [rnS, hk]
                      have hne : ¬ T.1 = -1 := by rw [← e8]; show ¬ x2 = -1; rw [e2]; exact nI_ne1 (by omega)
                      exact rtI hx hb hr hlocks dX3_readNew_267 (g7, x2) ⟨fun q => absurd q hne, fun _ => ⟨rfl, by rw [← e8]⟩⟩ hP hD hS
                    · exact absurd c241_1 (by decide)
                  · exact absurd c212_1 (by decide)
              · skip
                exact absurd c42_1 (fun q => lt_le_abs (j := 192) (k := 224) (by decide) (by decide) (by decide) q (i32_nlt.mp c111_1))
            · skip
              refine lv_iload_n hx hb dX3_readNew_45 rfl (lv_at hl 2 rfl) ?_
              refine lv_sipush (v := 224) hx hb dX3_readNew_46 (by decide) ?_
              refine lv_icmp_ge (tgt := 107) hx hb dX3_readNew_49 (by decide) (fun c49_1 => ?_) (fun c49_1 => ?_)
              · skip
                refine lv_iload_n hx hb dX3_readNew_107 rfl (lv_at hl 2 rfl) ?_
                refine lv_sipush (v := 224) hx hb dX3_readNew_108 (by decide) ?_
                refine lv_icmp_lt (tgt := 200) hx hb dX3_readNew_111 (by decide) (fun c111_2 => ?_) (fun c111_2 => ?_)
                · skip
                  exact absurd c111_2 (i32_nlt.mpr c49_1)
                · skip
                  refine lv_iload_n hx hb dX3_readNew_114 rfl (lv_at hl 2 rfl) ?_
                  refine lv_sipush (v := 240) hx hb dX3_readNew_115 (by decide) ?_
                  refine lv_icmp_ge (tgt := 200) hx hb dX3_readNew_118 (by decide) (fun c118_1 => ?_) (fun c118_1 => ?_)
                  · skip
                    have hv4 : cnl b t = -1 := cn_bad2 c29_1 c118_1
                    refine lv_iload hx hb dX3_readNew_200 (lv_at hl 1 rfl) ?_
                    refine vp_callSi (W.runS ⟨hx, hb, hml, hown, hts⟩ (KX3_isPlain l 0) (va_cwS 1 hts gX3_readNew_X3_isPlain rfl rfl rfl (by decide +kernel) ⟨Nat.le_of_ble_eq_true rfl, Nat.le_of_ble_eq_true rfl⟩) pcS_S rfl rfl hl.1 rfl (lv_room (Nat.le_of_ble_eq_true rfl)) dX3_readNew_202 ⟨Nat.zero_le _, Nat.zero_le _⟩) (fun r9 hr9 => ?_)
                    replace hr9 : r9 = fX2_isPlain 0 := hr9.trans (x3_isPlain _)
                    subst r9
                    refine lv_if_ne (tgt := 232) hx hb dX3_readNew_205 (by decide) (fun c205_2 => ?_) (fun c205_2 => ?_)
                    · skip
                      exact absurd (by decide) c205_2
                    · skip
                      refine lv_iload hx hb dX3_readNew_208 (lv_at hl 1 rfl) ?_
                      refine lv_bipush (v := 127) hx hb dX3_readNew_210 (by decide) ?_
                      refine lv_icmp_le (tgt := 236) hx hb dX3_readNew_212 (by decide) (fun c212_2 => ?_) (fun c212_2 => ?_)
                      · skip
                        refine lv_iconst (v := 0) hx hb dX3_readNew_236 (by decide) ?_
                        refine lv_istore (lv' := [(6, .int 0), (5, .int 1), (4, .int 0), (3, .int b), (2, .int x2), (1, .int x1), (0, .ref g)]) hx hb dX3_readNew_237 hl (by decide) rfl (fun ls hl => ?_)
                        refine lv_iload hx hb dX3_readNew_239 (lv_at hl 0 rfl) ?_
                        refine lv_if_eq (tgt := 262) hx hb dX3_readNew_241 (by decide) (fun c241_2 => ?_) (fun c241_2 => ?_)
                        · skip
                          refine lv_aload_n hx hb dX3_readNew_262 rfl (lv_at hl 6 rfl) ?_
                          refine lv_iload_n hx hb dX3_readNew_263 rfl (lv_at hl 4 rfl) ?_
                          refine clI (wr := [(a1, .inl (k1, 200, .inl g1)), (a7, .inl (k7, 400, .inl g7))]) (va_runV ⟨hx, hb, hml, hown, hts⟩ (KX3_bad l D g a1 a3 a5 a7 a8 a9 aB th (nI y1.length) ct oc wn tn si wg x2 _) (cwV 1 hts gX3_readNew_X3_bad rfl rfl rfl (by decide +kernel) ⟨Nat.le_of_ble_eq_true rfl, Nat.le_of_ble_eq_true rfl⟩) (pcM_V (hP.sub (ws' := [(g, .inr (4, [.int th, .ref a1, .int (nI y1.length), .ref a3, .int ct, .ref a5, .int oc, .ref a7, .ref a8, .ref a9, .int wn, .ref aB, .int tn, .int si, .int wg]))]) [0] rfl) (hD.sub (ws' := [(g, .inr (4, [.int th, .ref a1, .int (nI y1.length), .ref a3, .int ct, .ref a5, .int oc, .ref a7, .ref a8, .ref a9, .int wn, .ref aB, .int tn, .int si, .int wg]))]) [0] (by decide) rfl) (hK.sub (tys' := []) [] rfl) hN 0 rfl rfl) rfl rfl hl.1 rfl (lv_room (Nat.le_of_ble_eq_true rfl)) dX3_readNew_264 ⟨Nat.zero_le _, Nat.zero_le _⟩) hP hD hS hA [0] [1, 2] rfl rfl (by decide) (by decide) (fun r_2 u_2 H locs hw_2 hP hD hS => ?_)
                          subst hw_2
                          have hP : va_P D vwCl [(g, .inr (4, [.int th, .ref a1, .int (nI y1.length), .ref a3, .int ct, .ref a5, .int oc, .ref a7, .ref a8, .ref a9, .int wn, .ref aB, .int tn, .int si, .int x2])), (a1, .inl (k1, 200, .inl g1)), (a7, .inl (k7, 400, .inl g7))] H := hP.sub [2, 0, 1] rfl
                          have hD : va_D A [(g, .inr (4, [.int th, .ref a1, .int (nI y1.length), .ref a3, .int ct, .ref a5, .int oc, .ref a7, .ref a8, .ref a9, .int wn, .ref aB, .int tn, .int si, .int x2])), (a1, .inl (k1, 200, .inl g1)), (a7, .inl (k7, 400, .inl g7))] := hD.sub [2, 0, 1] (by decide) rfl
                          have hk : ¬ nwk (cnl b t) fr.length = true := fun q => nwk_ne q hv4
                          have e8 : (x2, fr) = T := by rw [← hT, e2]; simp [rnS, hk]
                          have hne : ¬ T.1 = -1 := by rw [← e8]; show ¬ x2 = -1; rw [e2]; exact nI_ne1 (by omega)
                          exact rtI hx hb hr hlocks dX3_readNew_267 (g7, x2) ⟨fun q => absurd q hne, fun _ => ⟨rfl, by rw [← e8]⟩⟩ hP hD hS
                        · exact absurd c241_2 (by decide)
                      · exact absurd c212_2 (by decide)
                  · skip
                    refine lv_aload_n hx hb dX3_readNew_121 rfl (lv_at hl 5 rfl) ?_
                    refine lv_iload_n hx hb dX3_readNew_122 rfl (lv_at hl 3 rfl) ?_
                    refine lv_iconst (v := 1) hx hb dX3_readNew_123 (by decide) ?_
                    refine lv_iadd hx hb dX3_readNew_124 ?_
                    refine vp_callSi (W.runV ⟨hx, hb, hml, hown, hts⟩ (KX3_goesOn l D g a1 a3 a5 a7 a8 a9 aB th ct oc wn tn si wg k1 g1 y1 p1 (x2 + 1) (gd t 0) (by rw [e2, show (1 : Int32) = nI 1 from rfl, nI_add]; exact nI_pos (by omega)) (by rw [hy, e2, show (1 : Int32) = nI 1 from rfl, nI_add]; exact rw_at_d (l := done) (r := b :: t) (j := 1) rfl (by omega))) (cwV 1 hts gX3_readNew_X3_goesOn rfl rfl rfl (by decide +kernel) ⟨Nat.le_of_ble_eq_true rfl, Nat.le_of_ble_eq_true rfl⟩) (pcR_V (hP.sub (ws' := [(g, .inr (4, [.int th, .ref a1, .int (nI y1.length), .ref a3, .int ct, .ref a5, .int oc, .ref a7, .ref a8, .ref a9, .int wn, .ref aB, .int tn, .int si, .int wg])), (a1, .inl (k1, 200, .inl g1))]) [0, 1] rfl) (hK.sub (tys' := [(k1, .int)]) [0] rfl) hN 0 rfl rfl) rfl rfl hl.1 rfl (lv_room (Nat.le_of_ble_eq_true rfl)) dX3_readNew_125 ⟨Nat.zero_le _, Nat.zero_le _⟩) (fun r9 hr9 => ?_)
                    subst r9
                    refine lv_if_eq (tgt := 200) hx hb dX3_readNew_128 (by decide) (fun c128_1 => ?_) (fun c128_1 => ?_)
                    · skip
                      have hv4 : cnl b t = -1 := by rw [cnl, cn3 c49_1 (i32_nle.mp c118_1)]; rcases go_eq c128_1 with q | q; rw [if_pos q]; by_cases q2 : gd t 0 < 128; rw [if_pos q2]; rw [if_neg q2, if_neg q]
                      refine lv_iload hx hb dX3_readNew_200 (lv_at hl 1 rfl) ?_
                      refine vp_callSi (W.runS ⟨hx, hb, hml, hown, hts⟩ (KX3_isPlain l 0) (va_cwS 1 hts gX3_readNew_X3_isPlain rfl rfl rfl (by decide +kernel) ⟨Nat.le_of_ble_eq_true rfl, Nat.le_of_ble_eq_true rfl⟩) pcS_S rfl rfl hl.1 rfl (lv_room (Nat.le_of_ble_eq_true rfl)) dX3_readNew_202 ⟨Nat.zero_le _, Nat.zero_le _⟩) (fun r9 hr9 => ?_)
                      replace hr9 : r9 = fX2_isPlain 0 := hr9.trans (x3_isPlain _)
                      subst r9
                      refine lv_if_ne (tgt := 232) hx hb dX3_readNew_205 (by decide) (fun c205_3 => ?_) (fun c205_3 => ?_)
                      · skip
                        exact absurd (by decide) c205_3
                      · skip
                        refine lv_iload hx hb dX3_readNew_208 (lv_at hl 1 rfl) ?_
                        refine lv_bipush (v := 127) hx hb dX3_readNew_210 (by decide) ?_
                        refine lv_icmp_le (tgt := 236) hx hb dX3_readNew_212 (by decide) (fun c212_3 => ?_) (fun c212_3 => ?_)
                        · skip
                          refine lv_iconst (v := 0) hx hb dX3_readNew_236 (by decide) ?_
                          refine lv_istore (lv' := [(6, .int 0), (5, .int 1), (4, .int 0), (3, .int b), (2, .int x2), (1, .int x1), (0, .ref g)]) hx hb dX3_readNew_237 hl (by decide) rfl (fun ls hl => ?_)
                          refine lv_iload hx hb dX3_readNew_239 (lv_at hl 0 rfl) ?_
                          refine lv_if_eq (tgt := 262) hx hb dX3_readNew_241 (by decide) (fun c241_3 => ?_) (fun c241_3 => ?_)
                          · skip
                            refine lv_aload_n hx hb dX3_readNew_262 rfl (lv_at hl 6 rfl) ?_
                            refine lv_iload_n hx hb dX3_readNew_263 rfl (lv_at hl 4 rfl) ?_
                            refine clI (wr := [(a1, .inl (k1, 200, .inl g1)), (a7, .inl (k7, 400, .inl g7))]) (va_runV ⟨hx, hb, hml, hown, hts⟩ (KX3_bad l D g a1 a3 a5 a7 a8 a9 aB th (nI y1.length) ct oc wn tn si wg x2 _) (cwV 1 hts gX3_readNew_X3_bad rfl rfl rfl (by decide +kernel) ⟨Nat.le_of_ble_eq_true rfl, Nat.le_of_ble_eq_true rfl⟩) (pcM_V (hP.sub (ws' := [(g, .inr (4, [.int th, .ref a1, .int (nI y1.length), .ref a3, .int ct, .ref a5, .int oc, .ref a7, .ref a8, .ref a9, .int wn, .ref aB, .int tn, .int si, .int wg]))]) [0] rfl) (hD.sub (ws' := [(g, .inr (4, [.int th, .ref a1, .int (nI y1.length), .ref a3, .int ct, .ref a5, .int oc, .ref a7, .ref a8, .ref a9, .int wn, .ref aB, .int tn, .int si, .int wg]))]) [0] (by decide) rfl) (hK.sub (tys' := []) [] rfl) hN 0 rfl rfl) rfl rfl hl.1 rfl (lv_room (Nat.le_of_ble_eq_true rfl)) dX3_readNew_264 ⟨Nat.zero_le _, Nat.zero_le _⟩) hP hD hS hA [0] [1, 2] rfl rfl (by decide) (by decide) (fun r_3 u_3 H locs hw_3 hP hD hS => ?_)
                            subst hw_3
                            have hP : va_P D vwCl [(g, .inr (4, [.int th, .ref a1, .int (nI y1.length), .ref a3, .int ct, .ref a5, .int oc, .ref a7, .ref a8, .ref a9, .int wn, .ref aB, .int tn, .int si, .int x2])), (a1, .inl (k1, 200, .inl g1)), (a7, .inl (k7, 400, .inl g7))] H := hP.sub [2, 0, 1] rfl
                            have hD : va_D A [(g, .inr (4, [.int th, .ref a1, .int (nI y1.length), .ref a3, .int ct, .ref a5, .int oc, .ref a7, .ref a8, .ref a9, .int wn, .ref aB, .int tn, .int si, .int x2])), (a1, .inl (k1, 200, .inl g1)), (a7, .inl (k7, 400, .inl g7))] := hD.sub [2, 0, 1] (by decide) rfl
                            have hk : ¬ nwk (cnl b t) fr.length = true := fun q => nwk_ne q hv4
                            have e8 : (x2, fr) = T := by rw [← hT, e2]; simp [rnS, hk]
                            have hne : ¬ T.1 = -1 := by rw [← e8]; show ¬ x2 = -1; rw [e2]; exact nI_ne1 (by omega)
                            exact rtI hx hb hr hlocks dX3_readNew_267 (g7, x2) ⟨fun q => absurd q hne, fun _ => ⟨rfl, by rw [← e8]⟩⟩ hP hD hS
                          · exact absurd c241_3 (by decide)
                        · exact absurd c212_3 (by decide)
                    · skip
                      have g1_ := go_ne c128_1
                      have ht1 : 1 ≤ t.length := by rcases t with _ | ⟨u, t⟩; exact absurd (show (-1 : Int32) < 128 by decide) g1_.1; simp
                      refine lv_aload_n hx hb dX3_readNew_131 rfl (lv_at hl 5 rfl) ?_
                      refine lv_iload_n hx hb dX3_readNew_132 rfl (lv_at hl 3 rfl) ?_
                      refine lv_iconst (v := 2) hx hb dX3_readNew_133 (by decide) ?_
                      refine lv_iadd hx hb dX3_readNew_134 ?_
                      refine vp_callSi (W.runV ⟨hx, hb, hml, hown, hts⟩ (KX3_goesOn l D g a1 a3 a5 a7 a8 a9 aB th ct oc wn tn si wg k1 g1 y1 p1 (x2 + 2) (gd t 1) (by rw [e2, show (2 : Int32) = nI 2 from rfl, nI_add]; exact nI_pos (by omega)) (by rw [hy, e2, show (2 : Int32) = nI 2 from rfl, nI_add]; exact rw_at_d (l := done) (r := b :: t) (j := 2) rfl (by omega))) (cwV 1 hts gX3_readNew_X3_goesOn rfl rfl rfl (by decide +kernel) ⟨Nat.le_of_ble_eq_true rfl, Nat.le_of_ble_eq_true rfl⟩) (pcR_V (hP.sub (ws' := [(g, .inr (4, [.int th, .ref a1, .int (nI y1.length), .ref a3, .int ct, .ref a5, .int oc, .ref a7, .ref a8, .ref a9, .int wn, .ref aB, .int tn, .int si, .int wg])), (a1, .inl (k1, 200, .inl g1))]) [0, 1] rfl) (hK.sub (tys' := [(k1, .int)]) [0] rfl) hN 0 rfl rfl) rfl rfl hl.1 rfl (lv_room (Nat.le_of_ble_eq_true rfl)) dX3_readNew_135 ⟨Nat.zero_le _, Nat.zero_le _⟩) (fun r9 hr9 => ?_)
                      subst r9
                      refine lv_if_eq (tgt := 200) hx hb dX3_readNew_138 (by decide) (fun c138_1 => ?_) (fun c138_1 => ?_)
                      · skip
                        have hv4 : cnl b t = -1 := by rw [cnl, cn3 c49_1 (i32_nle.mp c118_1), if_neg g1_.1, if_pos g1_.2]; rcases go_eq c138_1 with q | q; rw [if_pos q]; by_cases q2 : gd t 1 < 128; rw [if_pos q2]; rw [if_neg q2, if_neg q]
                        refine lv_iload hx hb dX3_readNew_200 (lv_at hl 1 rfl) ?_
                        refine vp_callSi (W.runS ⟨hx, hb, hml, hown, hts⟩ (KX3_isPlain l 0) (va_cwS 1 hts gX3_readNew_X3_isPlain rfl rfl rfl (by decide +kernel) ⟨Nat.le_of_ble_eq_true rfl, Nat.le_of_ble_eq_true rfl⟩) pcS_S rfl rfl hl.1 rfl (lv_room (Nat.le_of_ble_eq_true rfl)) dX3_readNew_202 ⟨Nat.zero_le _, Nat.zero_le _⟩) (fun r9 hr9 => ?_)
                        replace hr9 : r9 = fX2_isPlain 0 := hr9.trans (x3_isPlain _)
                        subst r9
                        refine lv_if_ne (tgt := 232) hx hb dX3_readNew_205 (by decide) (fun c205_4 => ?_) (fun c205_4 => ?_)
                        · skip
                          exact absurd (by decide) c205_4
                        · skip
                          refine lv_iload hx hb dX3_readNew_208 (lv_at hl 1 rfl) ?_
                          refine lv_bipush (v := 127) hx hb dX3_readNew_210 (by decide) ?_
                          refine lv_icmp_le (tgt := 236) hx hb dX3_readNew_212 (by decide) (fun c212_4 => ?_) (fun c212_4 => ?_)
                          · skip
                            refine lv_iconst (v := 0) hx hb dX3_readNew_236 (by decide) ?_
                            refine lv_istore (lv' := [(6, .int 0), (5, .int 1), (4, .int 0), (3, .int b), (2, .int x2), (1, .int x1), (0, .ref g)]) hx hb dX3_readNew_237 hl (by decide) rfl (fun ls hl => ?_)
                            refine lv_iload hx hb dX3_readNew_239 (lv_at hl 0 rfl) ?_
                            refine lv_if_eq (tgt := 262) hx hb dX3_readNew_241 (by decide) (fun c241_4 => ?_) (fun c241_4 => ?_)
                            · skip
                              refine lv_aload_n hx hb dX3_readNew_262 rfl (lv_at hl 6 rfl) ?_
                              refine lv_iload_n hx hb dX3_readNew_263 rfl (lv_at hl 4 rfl) ?_
                              refine clI (wr := [(a1, .inl (k1, 200, .inl g1)), (a7, .inl (k7, 400, .inl g7))]) (va_runV ⟨hx, hb, hml, hown, hts⟩ (KX3_bad l D g a1 a3 a5 a7 a8 a9 aB th (nI y1.length) ct oc wn tn si wg x2 _) (cwV 1 hts gX3_readNew_X3_bad rfl rfl rfl (by decide +kernel) ⟨Nat.le_of_ble_eq_true rfl, Nat.le_of_ble_eq_true rfl⟩) (pcM_V (hP.sub (ws' := [(g, .inr (4, [.int th, .ref a1, .int (nI y1.length), .ref a3, .int ct, .ref a5, .int oc, .ref a7, .ref a8, .ref a9, .int wn, .ref aB, .int tn, .int si, .int wg]))]) [0] rfl) (hD.sub (ws' := [(g, .inr (4, [.int th, .ref a1, .int (nI y1.length), .ref a3, .int ct, .ref a5, .int oc, .ref a7, .ref a8, .ref a9, .int wn, .ref aB, .int tn, .int si, .int wg]))]) [0] (by decide) rfl) (hK.sub (tys' := []) [] rfl) hN 0 rfl rfl) rfl rfl hl.1 rfl (lv_room (Nat.le_of_ble_eq_true rfl)) dX3_readNew_264 ⟨Nat.zero_le _, Nat.zero_le _⟩) hP hD hS hA [0] [1, 2] rfl rfl (by decide) (by decide) (fun r_4 u_4 H locs hw_4 hP hD hS => ?_)
                              subst hw_4
                              have hP : va_P D vwCl [(g, .inr (4, [.int th, .ref a1, .int (nI y1.length), .ref a3, .int ct, .ref a5, .int oc, .ref a7, .ref a8, .ref a9, .int wn, .ref aB, .int tn, .int si, .int x2])), (a1, .inl (k1, 200, .inl g1)), (a7, .inl (k7, 400, .inl g7))] H := hP.sub [2, 0, 1] rfl
                              have hD : va_D A [(g, .inr (4, [.int th, .ref a1, .int (nI y1.length), .ref a3, .int ct, .ref a5, .int oc, .ref a7, .ref a8, .ref a9, .int wn, .ref aB, .int tn, .int si, .int x2])), (a1, .inl (k1, 200, .inl g1)), (a7, .inl (k7, 400, .inl g7))] := hD.sub [2, 0, 1] (by decide) rfl
                              have hk : ¬ nwk (cnl b t) fr.length = true := fun q => nwk_ne q hv4
                              have e8 : (x2, fr) = T := by rw [← hT, e2]; simp [rnS, hk]
                              have hne : ¬ T.1 = -1 := by rw [← e8]; show ¬ x2 = -1; rw [e2]; exact nI_ne1 (by omega)
                              exact rtI hx hb hr hlocks dX3_readNew_267 (g7, x2) ⟨fun q => absurd q hne, fun _ => ⟨rfl, by rw [← e8]⟩⟩ hP hD hS
                            · exact absurd c241_4 (by decide)
                          · exact absurd c212_4 (by decide)
                      · skip
                        have g2_ := go_ne c138_1
                        have ht2 : 2 ≤ t.length := by rcases t with _ | ⟨u, _ | ⟨u2, t⟩⟩; exact absurd (show (-1 : Int32) < 128 by decide) g1_.1; exact absurd (show (-1 : Int32) < 128 by decide) g2_.1; simp
                        refine lv_iload_n hx hb dX3_readNew_141 rfl (lv_at hl 2 rfl) ?_
                        refine lv_sipush (v := 224) hx hb dX3_readNew_142 (by decide) ?_
                        refine lv_isub hx hb dX3_readNew_145 ?_
                        refine lv_sipush (v := 4096) hx hb dX3_readNew_146 (by decide) ?_
                        refine lv_imul hx hb dX3_readNew_149 ?_
                        refine lv_aload_n hx hb dX3_readNew_150 rfl (lv_at hl 5 rfl) ?_
                        refine va_get (D := D) (ci := 4) (v := .ref a1) (C := RX3) (T := TX3) (N := 15) hx hb hts (by decide +kernel) hown hK hP 0 rfl rfl 1 (by decide) (hts (.fieldLink RX3 7 "CharacterRowsModel" "collected" "[I") (by decide +kernel)) (fun _ h9 => h9) rfl dX3_readNew_151 ?_
                        refine lv_iload_n hx hb dX3_readNew_154 rfl (lv_at hl 3 rfl) ?_
                        refine lv_iconst (v := 1) hx hb dX3_readNew_155 (by decide) ?_
                        refine lv_iadd hx hb dX3_readNew_156 ?_
                        refine va_iald hx hb hK hP 1 0 rfl rfl (rwf_in (l := done) (r := b :: t) (j := 1) p1 (by decide) hy (by rw [e2, nI_1]) rfl (by simp; omega)) dX3_readNew_157 ?_
                        refine lv_topi (fun r9 hr9 => ?_)
                        replace hr9 : r9 = (gd t 0) := hr9.trans (rwf_v (l := done) (r := b :: t) (j := 1) p1 (by decide) hy (by rw [e2, nI_1]) rfl (by simp; omega))
                        subst r9
                        refine lv_sipush (v := 128) hx hb dX3_readNew_158 (by decide) ?_
                        refine lv_isub hx hb dX3_readNew_161 ?_
                        refine lv_bipush (v := 64) hx hb dX3_readNew_162 (by decide) ?_
                        refine lv_imul hx hb dX3_readNew_164 ?_
                        refine lv_iadd hx hb dX3_readNew_165 ?_
                        refine lv_aload_n hx hb dX3_readNew_166 rfl (lv_at hl 5 rfl) ?_
                        refine va_get (D := D) (ci := 4) (v := .ref a1) (C := RX3) (T := TX3) (N := 15) hx hb hts (by decide +kernel) hown hK hP 0 rfl rfl 1 (by decide) (hts (.fieldLink RX3 7 "CharacterRowsModel" "collected" "[I") (by decide +kernel)) (fun _ h9 => h9) rfl dX3_readNew_167 ?_
                        refine lv_iload_n hx hb dX3_readNew_170 rfl (lv_at hl 3 rfl) ?_
                        refine lv_iconst (v := 2) hx hb dX3_readNew_171 (by decide) ?_
                        refine lv_iadd hx hb dX3_readNew_172 ?_
                        refine va_iald hx hb hK hP 1 0 rfl rfl (rwf_in (l := done) (r := b :: t) (j := 2) p1 (by decide) hy (by rw [e2]; exact nI_add _ 2) rfl (by simp; omega)) dX3_readNew_173 ?_
                        refine lv_topi (fun r9 hr9 => ?_)
                        replace hr9 : r9 = (gd t 1) := hr9.trans (rwf_v (l := done) (r := b :: t) (j := 2) p1 (by decide) hy (by rw [e2]; exact nI_add _ 2) rfl (by simp; omega))
                        subst r9
                        refine lv_iadd hx hb dX3_readNew_174 ?_
                        refine lv_sipush (v := 128) hx hb dX3_readNew_175 (by decide) ?_
                        refine lv_isub hx hb dX3_readNew_178 ?_
                        refine lv_istore (lv' := [(4, .int (((((b - 224) * 4096) + (((gd t 0) - 128) * 64)) + (gd t 1)) - 128)), (5, .int 1), (3, .int b), (2, .int x2), (1, .int x1), (0, .ref g)]) hx hb dX3_readNew_179 hl (by decide) rfl (fun ls hl => ?_)
                        refine lv_iload hx hb dX3_readNew_181 (lv_at hl 0 rfl) ?_
                        refine lv_sipush (v := 2048) hx hb dX3_readNew_183 (by decide) ?_
                        refine lv_icmp_ge (tgt := 193) hx hb dX3_readNew_186 (by decide) (fun c186_1 => ?_) (fun c186_1 => ?_)
                        · skip
                          refine lv_iload hx hb dX3_readNew_193 (lv_at hl 0 rfl) ?_
                          refine lv_istore (lv' := [(4, .int (((((b - 224) * 4096) + (((gd t 0) - 128) * 64)) + (gd t 1)) - 128)), (5, .int 1), (3, .int b), (2, .int x2), (1, .int x1), (0, .ref g)]) hx hb dX3_readNew_195 hl (by decide) rfl (fun ls hl => ?_)
                          refine lv_iconst (v := 3) hx hb dX3_readNew_197 (by decide) ?_
                          refine lv_istore (lv' := [(5, .int 3), (4, .int (((((b - 224) * 4096) + (((gd t 0) - 128) * 64)) + (gd t 1)) - 128)), (3, .int b), (2, .int x2), (1, .int x1), (0, .ref g)]) hx hb dX3_readNew_198 hl (by decide) rfl (fun ls hl => ?_)
                          have q3b := bb_2 c186_1
                          have hv4 : (((((b - 224) * 4096) + (((gd t 0) - 128) * 64)) + (gd t 1)) - 128) = cnl b t := by rw [cnl, cn3 c49_1 (i32_nle.mp c118_1), if_neg g1_.1, if_pos g1_.2, if_neg g2_.1, if_pos g2_.2, c3_same, if_pos q3b.1]
                          have hv5 : (3 : Int32) = nI (1 + bbN (cnl b t)) := by rw [← hv4, q3b.2]; rfl
                          have hl : lv_has ls 7 [(5, .int (nI (1 + bbN (cnl b t)))), (4, .int (cnl b t)), (3, .int b), (2, .int x2), (1, .int x1), (0, .ref g)] := by rw [← hv5, ← hv4]; exact hl
                          refine lv_iload hx hb dX3_readNew_200 (lv_at hl 1 rfl) ?_
                          refine vp_callSi (W.runS ⟨hx, hb, hml, hown, hts⟩ (KX3_isPlain l (cnl b t)) (va_cwS 1 hts gX3_readNew_X3_isPlain rfl rfl rfl (by decide +kernel) ⟨Nat.le_of_ble_eq_true rfl, Nat.le_of_ble_eq_true rfl⟩) pcS_S rfl rfl hl.1 rfl (lv_room (Nat.le_of_ble_eq_true rfl)) dX3_readNew_202 ⟨Nat.zero_le _, Nat.zero_le _⟩) (fun r9 hr9 => ?_)
                          replace hr9 : r9 = fX2_isPlain (cnl b t) := hr9.trans (x3_isPlain _)
                          subst r9
                          refine lv_if_ne (tgt := 232) hx hb dX3_readNew_205 (by decide) (fun c205_5 => ?_) (fun c205_5 => ?_)
                          · skip
                            refine lv_iconst (v := 1) hx hb dX3_readNew_232 (by decide) ?_
                            refine lv_goto (tgt := 237) hx hb dX3_readNew_233 (by decide) ?_
                            refine lv_istore (lv' := [(6, .int 1), (5, .int (nI (1 + bbN (cnl b t)))), (4, .int (cnl b t)), (3, .int b), (2, .int x2), (1, .int x1), (0, .ref g)]) hx hb dX3_readNew_237 hl (by decide) rfl (fun ls hl => ?_)
                            refine lv_iload hx hb dX3_readNew_239 (lv_at hl 0 rfl) ?_
                            refine lv_if_eq (tgt := 262) hx hb dX3_readNew_241 (by decide) (fun c241_5 => ?_) (fun c241_5 => ?_)
                            · exact absurd c241_5 (by decide)
                            · skip
                              refine lv_iload_n hx hb dX3_readNew_244 rfl (lv_at hl 5 rfl) ?_
                              refine lv_bipush (v := 100) hx hb dX3_readNew_245 (by decide) ?_
                              refine lv_icmp_eq (tgt := 262) hx hb dX3_readNew_247 (by decide) (fun c247_1 => ?_) (fun c247_1 => ?_)
                              · skip
                                refine lv_aload_n hx hb dX3_readNew_262 rfl (lv_at hl 6 rfl) ?_
                                refine lv_iload_n hx hb dX3_readNew_263 rfl (lv_at hl 4 rfl) ?_
                                refine clI (wr := [(a1, .inl (k1, 200, .inl g1)), (a7, .inl (k7, 400, .inl g7))]) (va_runV ⟨hx, hb, hml, hown, hts⟩ (KX3_bad l D g a1 a3 a5 a7 a8 a9 aB th (nI y1.length) ct oc wn tn si wg x2 _) (cwV 1 hts gX3_readNew_X3_bad rfl rfl rfl (by decide +kernel) ⟨Nat.le_of_ble_eq_true rfl, Nat.le_of_ble_eq_true rfl⟩) (pcM_V (hP.sub (ws' := [(g, .inr (4, [.int th, .ref a1, .int (nI y1.length), .ref a3, .int ct, .ref a5, .int oc, .ref a7, .ref a8, .ref a9, .int wn, .ref aB, .int tn, .int si, .int wg]))]) [0] rfl) (hD.sub (ws' := [(g, .inr (4, [.int th, .ref a1, .int (nI y1.length), .ref a3, .int ct, .ref a5, .int oc, .ref a7, .ref a8, .ref a9, .int wn, .ref aB, .int tn, .int si, .int wg]))]) [0] (by decide) rfl) (hK.sub (tys' := []) [] rfl) hN 0 rfl rfl) rfl rfl hl.1 rfl (lv_room (Nat.le_of_ble_eq_true rfl)) dX3_readNew_264 ⟨Nat.zero_le _, Nat.zero_le _⟩) hP hD hS hA [0] [1, 2] rfl rfl (by decide) (by decide) (fun r_5 u_5 H locs hw_5 hP hD hS => ?_)
                                subst hw_5
                                have hP : va_P D vwCl [(g, .inr (4, [.int th, .ref a1, .int (nI y1.length), .ref a3, .int ct, .ref a5, .int oc, .ref a7, .ref a8, .ref a9, .int wn, .ref aB, .int tn, .int si, .int x2])), (a1, .inl (k1, 200, .inl g1)), (a7, .inl (k7, 400, .inl g7))] H := hP.sub [2, 0, 1] rfl
                                have hD : va_D A [(g, .inr (4, [.int th, .ref a1, .int (nI y1.length), .ref a3, .int ct, .ref a5, .int oc, .ref a7, .ref a8, .ref a9, .int wn, .ref aB, .int tn, .int si, .int x2])), (a1, .inl (k1, 200, .inl g1)), (a7, .inl (k7, 400, .inl g7))] := hD.sub [2, 0, 1] (by decide) rfl
                                rw [e1] at c247_1
                                have z3 : fr.length = 100 := (nI_100e (by omega)).mp c247_1
                                have hk : ¬ nwk (cnl b t) fr.length = true := by simp [nwk, c205_5, z3]
                                have e8 : (x2, fr) = T := by rw [← hT, e2]; simp [rnS, hk]
                                have hne : ¬ T.1 = -1 := by rw [← e8]; show ¬ x2 = -1; rw [e2]; exact nI_ne1 (by omega)
                                exact rtI hx hb hr hlocks dX3_readNew_267 (g7, x2) ⟨fun q => absurd q hne, fun _ => ⟨rfl, by rw [← e8]⟩⟩ hP hD hS
                              · skip
                                refine lv_iload_n hx hb dX3_readNew_250 rfl (lv_at hl 5 rfl) ?_
                                refine lv_if_ne (tgt := 268) hx hb dX3_readNew_251 (by decide) (fun c251_1 => ?_) (fun c251_1 => ?_)
                                · skip
                                  refine lv_aload_n hx hb dX3_readNew_268 rfl (lv_at hl 6 rfl) ?_
                                  refine va_get (D := D) (ci := 4) (v := .ref a7) (C := RX3) (T := TX3) (N := 15) hx hb hts (by decide +kernel) hown hK hP 0 rfl rfl 7 (by decide) (hts (.fieldLink RX3 19 "CharacterRowsModel" "work" "[I") (by decide +kernel)) (fun _ h9 => h9) rfl dX3_readNew_269 ?_
                                  refine lv_iload_n hx hb dX3_readNew_272 rfl (lv_at hl 5 rfl) ?_
                                  refine lv_iload hx hb dX3_readNew_273 (lv_at hl 2 rfl) ?_
                                  refine va_iast hx hb hK hP hD hS 2 1 rfl rfl (rwf_sin p7 (by decide) e1 (by omega)) dX3_readNew_275 (fun H locs hP hD hS => ?_)
                                  have hP : va_P D vwCl [(g, .inr (4, [.int th, .ref a1, .int (nI y1.length), .ref a3, .int ct, .ref a5, .int oc, .ref a7, .ref a8, .ref a9, .int wn, .ref aB, .int tn, .int si, .int wg])), (a1, .inl (k1, 200, .inl g1)), (a7, .inl (k7, 400, .inl (upd g7 x1.toNatClampNeg (cnl b t))))] H := hP
                                  have hD : va_D A [(g, .inr (4, [.int th, .ref a1, .int (nI y1.length), .ref a3, .int ct, .ref a5, .int oc, .ref a7, .ref a8, .ref a9, .int wn, .ref aB, .int tn, .int si, .int wg])), (a1, .inl (k1, 200, .inl g1)), (a7, .inl (k7, 400, .inl (upd g7 x1.toNatClampNeg (cnl b t))))] := hD
                                  refine lv_iinc (v := (x1 + 1)) (lv' := [(1, .int (x1 + 1)), (6, .int 1), (5, .int (nI (1 + bbN (cnl b t)))), (4, .int (cnl b t)), (3, .int b), (2, .int x2), (0, .ref g)]) hx hb dX3_readNew_276 hl (k := 5) rfl rfl (by decide) rfl (fun ls hl => ?_)
                                  refine lv_iload_n hx hb dX3_readNew_279 rfl (lv_at hl 5 rfl) ?_
                                  refine lv_iload hx hb dX3_readNew_280 (lv_at hl 2 rfl) ?_
                                  refine lv_iadd hx hb dX3_readNew_282 ?_
                                  refine lv_istore_n (lv' := [(2, .int (x2 + (nI (1 + bbN (cnl b t))))), (1, .int (x1 + 1)), (6, .int 1), (5, .int (nI (1 + bbN (cnl b t)))), (4, .int (cnl b t)), (3, .int b), (0, .ref g)]) hx hb dX3_readNew_283 rfl hl (by decide) rfl (fun ls hl => ?_)
                                  refine lv_goto (tgt := 4) hx hb dX3_readNew_284 (by decide) ?_
                                  rw [e1] at c247_1
                                  have z3 : fr.length < 100 := by rcases Nat.lt_or_ge fr.length 100 with q | q; exact q; exact absurd ((nI_100e (by omega)).mpr (by omega)) c247_1
                                  rw [e1] at c251_1
                                  have z4 : ¬ fr.length = 0 := fun q => c251_1 ((nI_0iff (by omega)).mpr q)
                                  have hk : nwk (cnl b t) fr.length = true := by simp [nwk, c205_5, z3, z4]
                                  have h2 := new_len hk
                                  have q7 := rwf_snoc (c := cnl b t) p7 (by decide) e1 (by omega)
                                  exact ih (t.drop (bbN (cnl b t))) (done ++ b :: t.take (bbN (cnl b t))) _ (upd g7 x1.toNatClampNeg (cnl b t)) _ _ H locs ls (by simp at hn ⊢; omega) (by rw [hy]; simp) (by rw [← hT]; simp [rnS, hk]; congr 1; (try rw [Nat.min_eq_left h2]); (try omega)) (by rw [e2, nI_add]; congr 1; simp; omega) (by rw [e1, nI_1]; simp) q7 (by simp; omega) hP hD hS (lv_sub hl [0, 1, 6] rfl)
                                · skip
                                  refine lv_iload hx hb dX3_readNew_254 (lv_at hl 2 rfl) ?_
                                  refine vp_callSi (W.runS ⟨hx, hb, hml, hown, hts⟩ (KX3_isMark l (cnl b t)) (va_cwS 1 hts gX3_readNew_X3_isMark rfl rfl rfl (by decide +kernel) ⟨Nat.le_of_ble_eq_true rfl, Nat.le_of_ble_eq_true rfl⟩) pcS_S rfl rfl hl.1 rfl (lv_room (Nat.le_of_ble_eq_true rfl)) dX3_readNew_256 ⟨Nat.zero_le _, Nat.zero_le _⟩) (fun r9 hr9 => ?_)
                                  replace hr9 : r9 = fX2_isMark (cnl b t) := hr9.trans (x3_isMark _)
                                  subst r9
                                  refine lv_if_eq (tgt := 268) hx hb dX3_readNew_259 (by decide) (fun c259_1 => ?_) (fun c259_1 => ?_)
                                  · skip
                                    refine lv_aload_n hx hb dX3_readNew_268 rfl (lv_at hl 6 rfl) ?_
                                    refine va_get (D := D) (ci := 4) (v := .ref a7) (C := RX3) (T := TX3) (N := 15) hx hb hts (by decide +kernel) hown hK hP 0 rfl rfl 7 (by decide) (hts (.fieldLink RX3 19 "CharacterRowsModel" "work" "[I") (by decide +kernel)) (fun _ h9 => h9) rfl dX3_readNew_269 ?_
                                    refine lv_iload_n hx hb dX3_readNew_272 rfl (lv_at hl 5 rfl) ?_
                                    refine lv_iload hx hb dX3_readNew_273 (lv_at hl 2 rfl) ?_
                                    refine va_iast hx hb hK hP hD hS 2 1 rfl rfl (rwf_sin p7 (by decide) e1 (by omega)) dX3_readNew_275 (fun H locs hP hD hS => ?_)
                                    have hP : va_P D vwCl [(g, .inr (4, [.int th, .ref a1, .int (nI y1.length), .ref a3, .int ct, .ref a5, .int oc, .ref a7, .ref a8, .ref a9, .int wn, .ref aB, .int tn, .int si, .int wg])), (a1, .inl (k1, 200, .inl g1)), (a7, .inl (k7, 400, .inl (upd g7 x1.toNatClampNeg (cnl b t))))] H := hP
                                    have hD : va_D A [(g, .inr (4, [.int th, .ref a1, .int (nI y1.length), .ref a3, .int ct, .ref a5, .int oc, .ref a7, .ref a8, .ref a9, .int wn, .ref aB, .int tn, .int si, .int wg])), (a1, .inl (k1, 200, .inl g1)), (a7, .inl (k7, 400, .inl (upd g7 x1.toNatClampNeg (cnl b t))))] := hD
                                    refine lv_iinc (v := (x1 + 1)) (lv' := [(1, .int (x1 + 1)), (6, .int 1), (5, .int (nI (1 + bbN (cnl b t)))), (4, .int (cnl b t)), (3, .int b), (2, .int x2), (0, .ref g)]) hx hb dX3_readNew_276 hl (k := 5) rfl rfl (by decide) rfl (fun ls hl => ?_)
                                    refine lv_iload_n hx hb dX3_readNew_279 rfl (lv_at hl 5 rfl) ?_
                                    refine lv_iload hx hb dX3_readNew_280 (lv_at hl 2 rfl) ?_
                                    refine lv_iadd hx hb dX3_readNew_282 ?_
                                    refine lv_istore_n (lv' := [(2, .int (x2 + (nI (1 + bbN (cnl b t))))), (1, .int (x1 + 1)), (6, .int 1), (5, .int (nI (1 + bbN (cnl b t)))), (4, .int (cnl b t)), (3, .int b), (0, .ref g)]) hx hb dX3_readNew_283 rfl hl (by decide) rfl (fun ls hl => ?_)
                                    refine lv_goto (tgt := 4) hx hb dX3_readNew_284 (by decide) ?_
                                    rw [e1] at c247_1
                                    have z3 : fr.length < 100 := by rcases Nat.lt_or_ge fr.length 100 with q | q; exact q; exact absurd ((nI_100e (by omega)).mpr (by omega)) c247_1
                                    rw [e1] at c251_1
                                    have z4 : fr.length = 0 := (nI_0iff (by omega)).mp c251_1
                                    have hk : nwk (cnl b t) fr.length = true := by simp [nwk, c205_5, z3, z4, c259_1]
                                    have h2 := new_len hk
                                    have q7 := rwf_snoc (c := cnl b t) p7 (by decide) e1 (by omega)
                                    exact ih (t.drop (bbN (cnl b t))) (done ++ b :: t.take (bbN (cnl b t))) _ (upd g7 x1.toNatClampNeg (cnl b t)) _ _ H locs ls (by simp at hn ⊢; omega) (by rw [hy]; simp) (by rw [← hT]; simp [rnS, hk]; congr 1; (try rw [Nat.min_eq_left h2]); (try omega)) (by rw [e2, nI_add]; congr 1; simp; omega) (by rw [e1, nI_1]; simp) q7 (by simp; omega) hP hD hS (lv_sub hl [0, 1, 6] rfl)
                                  · skip
                                    refine lv_aload_n hx hb dX3_readNew_262 rfl (lv_at hl 6 rfl) ?_
                                    refine lv_iload_n hx hb dX3_readNew_263 rfl (lv_at hl 4 rfl) ?_
                                    refine clI (wr := [(a1, .inl (k1, 200, .inl g1)), (a7, .inl (k7, 400, .inl g7))]) (va_runV ⟨hx, hb, hml, hown, hts⟩ (KX3_bad l D g a1 a3 a5 a7 a8 a9 aB th (nI y1.length) ct oc wn tn si wg x2 _) (cwV 1 hts gX3_readNew_X3_bad rfl rfl rfl (by decide +kernel) ⟨Nat.le_of_ble_eq_true rfl, Nat.le_of_ble_eq_true rfl⟩) (pcM_V (hP.sub (ws' := [(g, .inr (4, [.int th, .ref a1, .int (nI y1.length), .ref a3, .int ct, .ref a5, .int oc, .ref a7, .ref a8, .ref a9, .int wn, .ref aB, .int tn, .int si, .int wg]))]) [0] rfl) (hD.sub (ws' := [(g, .inr (4, [.int th, .ref a1, .int (nI y1.length), .ref a3, .int ct, .ref a5, .int oc, .ref a7, .ref a8, .ref a9, .int wn, .ref aB, .int tn, .int si, .int wg]))]) [0] (by decide) rfl) (hK.sub (tys' := []) [] rfl) hN 0 rfl rfl) rfl rfl hl.1 rfl (lv_room (Nat.le_of_ble_eq_true rfl)) dX3_readNew_264 ⟨Nat.zero_le _, Nat.zero_le _⟩) hP hD hS hA [0] [1, 2] rfl rfl (by decide) (by decide) (fun r_6 u_6 H locs hw_6 hP hD hS => ?_)
                                    subst hw_6
                                    have hP : va_P D vwCl [(g, .inr (4, [.int th, .ref a1, .int (nI y1.length), .ref a3, .int ct, .ref a5, .int oc, .ref a7, .ref a8, .ref a9, .int wn, .ref aB, .int tn, .int si, .int x2])), (a1, .inl (k1, 200, .inl g1)), (a7, .inl (k7, 400, .inl g7))] H := hP.sub [2, 0, 1] rfl
                                    have hD : va_D A [(g, .inr (4, [.int th, .ref a1, .int (nI y1.length), .ref a3, .int ct, .ref a5, .int oc, .ref a7, .ref a8, .ref a9, .int wn, .ref aB, .int tn, .int si, .int x2])), (a1, .inl (k1, 200, .inl g1)), (a7, .inl (k7, 400, .inl g7))] := hD.sub [2, 0, 1] (by decide) rfl
                                    rw [e1] at c247_1
                                    have z3 : fr.length < 100 := by rcases Nat.lt_or_ge fr.length 100 with q | q; exact q; exact absurd ((nI_100e (by omega)).mpr (by omega)) c247_1
                                    rw [e1] at c251_1
                                    have z4 : fr.length = 0 := (nI_0iff (by omega)).mp c251_1
                                    have hk : ¬ nwk (cnl b t) fr.length = true := by simp [nwk, c205_5, z3, z4, c259_1]
                                    have e8 : (x2, fr) = T := by rw [← hT, e2]; simp [rnS, hk]
                                    have hne : ¬ T.1 = -1 := by rw [← e8]; show ¬ x2 = -1; rw [e2]; exact nI_ne1 (by omega)
                                    exact rtI hx hb hr hlocks dX3_readNew_267 (g7, x2) ⟨fun q => absurd q hne, fun _ => ⟨rfl, by rw [← e8]⟩⟩ hP hD hS
                          · skip
                            refine lv_iload hx hb dX3_readNew_208 (lv_at hl 1 rfl) ?_
                            refine lv_bipush (v := 127) hx hb dX3_readNew_210 (by decide) ?_
                            refine lv_icmp_le (tgt := 236) hx hb dX3_readNew_212 (by decide) (fun c212_5 => ?_) (fun c212_5 => ?_)
                            · skip
                              refine lv_iconst (v := 0) hx hb dX3_readNew_236 (by decide) ?_
                              refine lv_istore (lv' := [(6, .int 0), (5, .int (nI (1 + bbN (cnl b t)))), (4, .int (cnl b t)), (3, .int b), (2, .int x2), (1, .int x1), (0, .ref g)]) hx hb dX3_readNew_237 hl (by decide) rfl (fun ls hl => ?_)
                              refine lv_iload hx hb dX3_readNew_239 (lv_at hl 0 rfl) ?_
                              refine lv_if_eq (tgt := 262) hx hb dX3_readNew_241 (by decide) (fun c241_6 => ?_) (fun c241_6 => ?_)
                              · skip
                                refine lv_aload_n hx hb dX3_readNew_262 rfl (lv_at hl 6 rfl) ?_
                                refine lv_iload_n hx hb dX3_readNew_263 rfl (lv_at hl 4 rfl) ?_
                                refine clI (wr := [(a1, .inl (k1, 200, .inl g1)), (a7, .inl (k7, 400, .inl g7))]) (va_runV ⟨hx, hb, hml, hown, hts⟩ (KX3_bad l D g a1 a3 a5 a7 a8 a9 aB th (nI y1.length) ct oc wn tn si wg x2 _) (cwV 1 hts gX3_readNew_X3_bad rfl rfl rfl (by decide +kernel) ⟨Nat.le_of_ble_eq_true rfl, Nat.le_of_ble_eq_true rfl⟩) (pcM_V (hP.sub (ws' := [(g, .inr (4, [.int th, .ref a1, .int (nI y1.length), .ref a3, .int ct, .ref a5, .int oc, .ref a7, .ref a8, .ref a9, .int wn, .ref aB, .int tn, .int si, .int wg]))]) [0] rfl) (hD.sub (ws' := [(g, .inr (4, [.int th, .ref a1, .int (nI y1.length), .ref a3, .int ct, .ref a5, .int oc, .ref a7, .ref a8, .ref a9, .int wn, .ref aB, .int tn, .int si, .int wg]))]) [0] (by decide) rfl) (hK.sub (tys' := []) [] rfl) hN 0 rfl rfl) rfl rfl hl.1 rfl (lv_room (Nat.le_of_ble_eq_true rfl)) dX3_readNew_264 ⟨Nat.zero_le _, Nat.zero_le _⟩) hP hD hS hA [0] [1, 2] rfl rfl (by decide) (by decide) (fun r_7 u_7 H locs hw_7 hP hD hS => ?_)
                                subst hw_7
                                have hP : va_P D vwCl [(g, .inr (4, [.int th, .ref a1, .int (nI y1.length), .ref a3, .int ct, .ref a5, .int oc, .ref a7, .ref a8, .ref a9, .int wn, .ref aB, .int tn, .int si, .int x2])), (a1, .inl (k1, 200, .inl g1)), (a7, .inl (k7, 400, .inl g7))] H := hP.sub [2, 0, 1] rfl
                                have hD : va_D A [(g, .inr (4, [.int th, .ref a1, .int (nI y1.length), .ref a3, .int ct, .ref a5, .int oc, .ref a7, .ref a8, .ref a9, .int wn, .ref aB, .int tn, .int si, .int x2])), (a1, .inl (k1, 200, .inl g1)), (a7, .inl (k7, 400, .inl g7))] := hD.sub [2, 0, 1] (by decide) rfl
                                have z1 := cmp_lo c212_5
                                have hk : ¬ nwk (cnl b t) fr.length = true := by simp [nwk, c205_5, z1.1, z1.2]
                                have e8 : (x2, fr) = T := by rw [← hT, e2]; simp [rnS, hk]
                                have hne : ¬ T.1 = -1 := by rw [← e8]; show ¬ x2 = -1; rw [e2]; exact nI_ne1 (by omega)
                                exact rtI hx hb hr hlocks dX3_readNew_267 (g7, x2) ⟨fun q => absurd q hne, fun _ => ⟨rfl, by rw [← e8]⟩⟩ hP hD hS
                              · exact absurd c241_6 (by decide)
                            · skip
                              refine lv_iload hx hb dX3_readNew_215 (lv_at hl 1 rfl) ?_
                              refine vp_callSi (W.runS ⟨hx, hb, hml, hown, hts⟩ (KX3_find l (cnl b t)) (va_cwS 1 hts gX3_readNew_X3_find rfl rfl rfl (by decide +kernel) ⟨Nat.le_of_ble_eq_true rfl, Nat.le_of_ble_eq_true rfl⟩) pcS_S rfl rfl hl.1 rfl (lv_room (Nat.le_of_ble_eq_true rfl)) dX3_readNew_217 ⟨Nat.zero_le _, Nat.zero_le _⟩) (fun r9 hr9 => ?_)
                              subst r9
                              refine lv_iconst (v := (-1)) hx hb dX3_readNew_220 (by decide) ?_
                              refine lv_icmp_ne (tgt := 232) hx hb dX3_readNew_221 (by decide) (fun c221_1 => ?_) (fun c221_1 => ?_)
                              · skip
                                refine lv_iconst (v := 1) hx hb dX3_readNew_232 (by decide) ?_
                                refine lv_goto (tgt := 237) hx hb dX3_readNew_233 (by decide) ?_
                                refine lv_istore (lv' := [(6, .int 1), (5, .int (nI (1 + bbN (cnl b t)))), (4, .int (cnl b t)), (3, .int b), (2, .int x2), (1, .int x1), (0, .ref g)]) hx hb dX3_readNew_237 hl (by decide) rfl (fun ls hl => ?_)
                                refine lv_iload hx hb dX3_readNew_239 (lv_at hl 0 rfl) ?_
                                refine lv_if_eq (tgt := 262) hx hb dX3_readNew_241 (by decide) (fun c241_7 => ?_) (fun c241_7 => ?_)
                                · exact absurd c241_7 (by decide)
                                · skip
                                  refine lv_iload_n hx hb dX3_readNew_244 rfl (lv_at hl 5 rfl) ?_
                                  refine lv_bipush (v := 100) hx hb dX3_readNew_245 (by decide) ?_
                                  refine lv_icmp_eq (tgt := 262) hx hb dX3_readNew_247 (by decide) (fun c247_2 => ?_) (fun c247_2 => ?_)
                                  · skip
                                    refine lv_aload_n hx hb dX3_readNew_262 rfl (lv_at hl 6 rfl) ?_
                                    refine lv_iload_n hx hb dX3_readNew_263 rfl (lv_at hl 4 rfl) ?_
                                    refine clI (wr := [(a1, .inl (k1, 200, .inl g1)), (a7, .inl (k7, 400, .inl g7))]) (va_runV ⟨hx, hb, hml, hown, hts⟩ (KX3_bad l D g a1 a3 a5 a7 a8 a9 aB th (nI y1.length) ct oc wn tn si wg x2 _) (cwV 1 hts gX3_readNew_X3_bad rfl rfl rfl (by decide +kernel) ⟨Nat.le_of_ble_eq_true rfl, Nat.le_of_ble_eq_true rfl⟩) (pcM_V (hP.sub (ws' := [(g, .inr (4, [.int th, .ref a1, .int (nI y1.length), .ref a3, .int ct, .ref a5, .int oc, .ref a7, .ref a8, .ref a9, .int wn, .ref aB, .int tn, .int si, .int wg]))]) [0] rfl) (hD.sub (ws' := [(g, .inr (4, [.int th, .ref a1, .int (nI y1.length), .ref a3, .int ct, .ref a5, .int oc, .ref a7, .ref a8, .ref a9, .int wn, .ref aB, .int tn, .int si, .int wg]))]) [0] (by decide) rfl) (hK.sub (tys' := []) [] rfl) hN 0 rfl rfl) rfl rfl hl.1 rfl (lv_room (Nat.le_of_ble_eq_true rfl)) dX3_readNew_264 ⟨Nat.zero_le _, Nat.zero_le _⟩) hP hD hS hA [0] [1, 2] rfl rfl (by decide) (by decide) (fun r_8 u_8 H locs hw_8 hP hD hS => ?_)
                                    subst hw_8
                                    have hP : va_P D vwCl [(g, .inr (4, [.int th, .ref a1, .int (nI y1.length), .ref a3, .int ct, .ref a5, .int oc, .ref a7, .ref a8, .ref a9, .int wn, .ref aB, .int tn, .int si, .int x2])), (a1, .inl (k1, 200, .inl g1)), (a7, .inl (k7, 400, .inl g7))] H := hP.sub [2, 0, 1] rfl
                                    have hD : va_D A [(g, .inr (4, [.int th, .ref a1, .int (nI y1.length), .ref a3, .int ct, .ref a5, .int oc, .ref a7, .ref a8, .ref a9, .int wn, .ref aB, .int tn, .int si, .int x2])), (a1, .inl (k1, 200, .inl g1)), (a7, .inl (k7, 400, .inl g7))] := hD.sub [2, 0, 1] (by decide) rfl
                                    have z2 := fnd_ne c221_1
                                    rw [e1] at c247_2
                                    have z3 : fr.length = 100 := (nI_100e (by omega)).mp c247_2
                                    have hk : ¬ nwk (cnl b t) fr.length = true := by simp [nwk, c205_5, z2, z3]
                                    have e8 : (x2, fr) = T := by rw [← hT, e2]; simp [rnS, hk]
                                    have hne : ¬ T.1 = -1 := by rw [← e8]; show ¬ x2 = -1; rw [e2]; exact nI_ne1 (by omega)
                                    exact rtI hx hb hr hlocks dX3_readNew_267 (g7, x2) ⟨fun q => absurd q hne, fun _ => ⟨rfl, by rw [← e8]⟩⟩ hP hD hS
                                  · skip
                                    refine lv_iload_n hx hb dX3_readNew_250 rfl (lv_at hl 5 rfl) ?_
                                    refine lv_if_ne (tgt := 268) hx hb dX3_readNew_251 (by decide) (fun c251_2 => ?_) (fun c251_2 => ?_)
                                    · skip
                                      refine lv_aload_n hx hb dX3_readNew_268 rfl (lv_at hl 6 rfl) ?_
                                      refine va_get (D := D) (ci := 4) (v := .ref a7) (C := RX3) (T := TX3) (N := 15) hx hb hts (by decide +kernel) hown hK hP 0 rfl rfl 7 (by decide) (hts (.fieldLink RX3 19 "CharacterRowsModel" "work" "[I") (by decide +kernel)) (fun _ h9 => h9) rfl dX3_readNew_269 ?_
                                      refine lv_iload_n hx hb dX3_readNew_272 rfl (lv_at hl 5 rfl) ?_
                                      refine lv_iload hx hb dX3_readNew_273 (lv_at hl 2 rfl) ?_
                                      refine va_iast hx hb hK hP hD hS 2 1 rfl rfl (rwf_sin p7 (by decide) e1 (by omega)) dX3_readNew_275 (fun H locs hP hD hS => ?_)
                                      have hP : va_P D vwCl [(g, .inr (4, [.int th, .ref a1, .int (nI y1.length), .ref a3, .int ct, .ref a5, .int oc, .ref a7, .ref a8, .ref a9, .int wn, .ref aB, .int tn, .int si, .int wg])), (a1, .inl (k1, 200, .inl g1)), (a7, .inl (k7, 400, .inl (upd g7 x1.toNatClampNeg (cnl b t))))] H := hP
                                      have hD : va_D A [(g, .inr (4, [.int th, .ref a1, .int (nI y1.length), .ref a3, .int ct, .ref a5, .int oc, .ref a7, .ref a8, .ref a9, .int wn, .ref aB, .int tn, .int si, .int wg])), (a1, .inl (k1, 200, .inl g1)), (a7, .inl (k7, 400, .inl (upd g7 x1.toNatClampNeg (cnl b t))))] := hD
                                      refine lv_iinc (v := (x1 + 1)) (lv' := [(1, .int (x1 + 1)), (6, .int 1), (5, .int (nI (1 + bbN (cnl b t)))), (4, .int (cnl b t)), (3, .int b), (2, .int x2), (0, .ref g)]) hx hb dX3_readNew_276 hl (k := 5) rfl rfl (by decide) rfl (fun ls hl => ?_)
                                      refine lv_iload_n hx hb dX3_readNew_279 rfl (lv_at hl 5 rfl) ?_
                                      refine lv_iload hx hb dX3_readNew_280 (lv_at hl 2 rfl) ?_
                                      refine lv_iadd hx hb dX3_readNew_282 ?_
                                      refine lv_istore_n (lv' := [(2, .int (x2 + (nI (1 + bbN (cnl b t))))), (1, .int (x1 + 1)), (6, .int 1), (5, .int (nI (1 + bbN (cnl b t)))), (4, .int (cnl b t)), (3, .int b), (0, .ref g)]) hx hb dX3_readNew_283 rfl hl (by decide) rfl (fun ls hl => ?_)
                                      refine lv_goto (tgt := 4) hx hb dX3_readNew_284 (by decide) ?_
                                      have z2 := fnd_ne c221_1
                                      rw [e1] at c247_2
                                      have z3 : fr.length < 100 := by rcases Nat.lt_or_ge fr.length 100 with q | q; exact q; exact absurd ((nI_100e (by omega)).mpr (by omega)) c247_2
                                      rw [e1] at c251_2
                                      have z4 : ¬ fr.length = 0 := fun q => c251_2 ((nI_0iff (by omega)).mpr q)
                                      have hk : nwk (cnl b t) fr.length = true := by simp [nwk, c205_5, z2, z3, z4]
                                      have h2 := new_len hk
                                      have q7 := rwf_snoc (c := cnl b t) p7 (by decide) e1 (by omega)
                                      exact ih (t.drop (bbN (cnl b t))) (done ++ b :: t.take (bbN (cnl b t))) _ (upd g7 x1.toNatClampNeg (cnl b t)) _ _ H locs ls (by simp at hn ⊢; omega) (by rw [hy]; simp) (by rw [← hT]; simp [rnS, hk]; congr 1; (try rw [Nat.min_eq_left h2]); (try omega)) (by rw [e2, nI_add]; congr 1; simp; omega) (by rw [e1, nI_1]; simp) q7 (by simp; omega) hP hD hS (lv_sub hl [0, 1, 6] rfl)
                                    · skip
                                      refine lv_iload hx hb dX3_readNew_254 (lv_at hl 2 rfl) ?_
                                      refine vp_callSi (W.runS ⟨hx, hb, hml, hown, hts⟩ (KX3_isMark l (cnl b t)) (va_cwS 1 hts gX3_readNew_X3_isMark rfl rfl rfl (by decide +kernel) ⟨Nat.le_of_ble_eq_true rfl, Nat.le_of_ble_eq_true rfl⟩) pcS_S rfl rfl hl.1 rfl (lv_room (Nat.le_of_ble_eq_true rfl)) dX3_readNew_256 ⟨Nat.zero_le _, Nat.zero_le _⟩) (fun r9 hr9 => ?_)
                                      replace hr9 : r9 = fX2_isMark (cnl b t) := hr9.trans (x3_isMark _)
                                      subst r9
                                      refine lv_if_eq (tgt := 268) hx hb dX3_readNew_259 (by decide) (fun c259_2 => ?_) (fun c259_2 => ?_)
                                      · skip
                                        refine lv_aload_n hx hb dX3_readNew_268 rfl (lv_at hl 6 rfl) ?_
                                        refine va_get (D := D) (ci := 4) (v := .ref a7) (C := RX3) (T := TX3) (N := 15) hx hb hts (by decide +kernel) hown hK hP 0 rfl rfl 7 (by decide) (hts (.fieldLink RX3 19 "CharacterRowsModel" "work" "[I") (by decide +kernel)) (fun _ h9 => h9) rfl dX3_readNew_269 ?_
                                        refine lv_iload_n hx hb dX3_readNew_272 rfl (lv_at hl 5 rfl) ?_
                                        refine lv_iload hx hb dX3_readNew_273 (lv_at hl 2 rfl) ?_
                                        refine va_iast hx hb hK hP hD hS 2 1 rfl rfl (rwf_sin p7 (by decide) e1 (by omega)) dX3_readNew_275 (fun H locs hP hD hS => ?_)
                                        have hP : va_P D vwCl [(g, .inr (4, [.int th, .ref a1, .int (nI y1.length), .ref a3, .int ct, .ref a5, .int oc, .ref a7, .ref a8, .ref a9, .int wn, .ref aB, .int tn, .int si, .int wg])), (a1, .inl (k1, 200, .inl g1)), (a7, .inl (k7, 400, .inl (upd g7 x1.toNatClampNeg (cnl b t))))] H := hP
                                        have hD : va_D A [(g, .inr (4, [.int th, .ref a1, .int (nI y1.length), .ref a3, .int ct, .ref a5, .int oc, .ref a7, .ref a8, .ref a9, .int wn, .ref aB, .int tn, .int si, .int wg])), (a1, .inl (k1, 200, .inl g1)), (a7, .inl (k7, 400, .inl (upd g7 x1.toNatClampNeg (cnl b t))))] := hD
                                        refine lv_iinc (v := (x1 + 1)) (lv' := [(1, .int (x1 + 1)), (6, .int 1), (5, .int (nI (1 + bbN (cnl b t)))), (4, .int (cnl b t)), (3, .int b), (2, .int x2), (0, .ref g)]) hx hb dX3_readNew_276 hl (k := 5) rfl rfl (by decide) rfl (fun ls hl => ?_)
                                        refine lv_iload_n hx hb dX3_readNew_279 rfl (lv_at hl 5 rfl) ?_
                                        refine lv_iload hx hb dX3_readNew_280 (lv_at hl 2 rfl) ?_
                                        refine lv_iadd hx hb dX3_readNew_282 ?_
                                        refine lv_istore_n (lv' := [(2, .int (x2 + (nI (1 + bbN (cnl b t))))), (1, .int (x1 + 1)), (6, .int 1), (5, .int (nI (1 + bbN (cnl b t)))), (4, .int (cnl b t)), (3, .int b), (0, .ref g)]) hx hb dX3_readNew_283 rfl hl (by decide) rfl (fun ls hl => ?_)
                                        refine lv_goto (tgt := 4) hx hb dX3_readNew_284 (by decide) ?_
                                        have z2 := fnd_ne c221_1
                                        rw [e1] at c247_2
                                        have z3 : fr.length < 100 := by rcases Nat.lt_or_ge fr.length 100 with q | q; exact q; exact absurd ((nI_100e (by omega)).mpr (by omega)) c247_2
                                        rw [e1] at c251_2
                                        have z4 : fr.length = 0 := (nI_0iff (by omega)).mp c251_2
                                        have hk : nwk (cnl b t) fr.length = true := by simp [nwk, c205_5, z2, z3, z4, c259_2]
                                        have h2 := new_len hk
                                        have q7 := rwf_snoc (c := cnl b t) p7 (by decide) e1 (by omega)
                                        exact ih (t.drop (bbN (cnl b t))) (done ++ b :: t.take (bbN (cnl b t))) _ (upd g7 x1.toNatClampNeg (cnl b t)) _ _ H locs ls (by simp at hn ⊢; omega) (by rw [hy]; simp) (by rw [← hT]; simp [rnS, hk]; congr 1; (try rw [Nat.min_eq_left h2]); (try omega)) (by rw [e2, nI_add]; congr 1; simp; omega) (by rw [e1, nI_1]; simp) q7 (by simp; omega) hP hD hS (lv_sub hl [0, 1, 6] rfl)
                                      · skip
                                        refine lv_aload_n hx hb dX3_readNew_262 rfl (lv_at hl 6 rfl) ?_
                                        refine lv_iload_n hx hb dX3_readNew_263 rfl (lv_at hl 4 rfl) ?_
                                        refine clI (wr := [(a1, .inl (k1, 200, .inl g1)), (a7, .inl (k7, 400, .inl g7))]) (va_runV ⟨hx, hb, hml, hown, hts⟩ (KX3_bad l D g a1 a3 a5 a7 a8 a9 aB th (nI y1.length) ct oc wn tn si wg x2 _) (cwV 1 hts gX3_readNew_X3_bad rfl rfl rfl (by decide +kernel) ⟨Nat.le_of_ble_eq_true rfl, Nat.le_of_ble_eq_true rfl⟩) (pcM_V (hP.sub (ws' := [(g, .inr (4, [.int th, .ref a1, .int (nI y1.length), .ref a3, .int ct, .ref a5, .int oc, .ref a7, .ref a8, .ref a9, .int wn, .ref aB, .int tn, .int si, .int wg]))]) [0] rfl) (hD.sub (ws' := [(g, .inr (4, [.int th, .ref a1, .int (nI y1.length), .ref a3, .int ct, .ref a5, .int oc, .ref a7, .ref a8, .ref a9, .int wn, .ref aB, .int tn, .int si, .int wg]))]) [0] (by decide) rfl) (hK.sub (tys' := []) [] rfl) hN 0 rfl rfl) rfl rfl hl.1 rfl (lv_room (Nat.le_of_ble_eq_true rfl)) dX3_readNew_264 ⟨Nat.zero_le _, Nat.zero_le _⟩) hP hD hS hA [0] [1, 2] rfl rfl (by decide) (by decide) (fun r_9 u_9 H locs hw_9 hP hD hS => ?_)
                                        subst hw_9
                                        have hP : va_P D vwCl [(g, .inr (4, [.int th, .ref a1, .int (nI y1.length), .ref a3, .int ct, .ref a5, .int oc, .ref a7, .ref a8, .ref a9, .int wn, .ref aB, .int tn, .int si, .int x2])), (a1, .inl (k1, 200, .inl g1)), (a7, .inl (k7, 400, .inl g7))] H := hP.sub [2, 0, 1] rfl
                                        have hD : va_D A [(g, .inr (4, [.int th, .ref a1, .int (nI y1.length), .ref a3, .int ct, .ref a5, .int oc, .ref a7, .ref a8, .ref a9, .int wn, .ref aB, .int tn, .int si, .int x2])), (a1, .inl (k1, 200, .inl g1)), (a7, .inl (k7, 400, .inl g7))] := hD.sub [2, 0, 1] (by decide) rfl
                                        have z2 := fnd_ne c221_1
                                        rw [e1] at c247_2
                                        have z3 : fr.length < 100 := by rcases Nat.lt_or_ge fr.length 100 with q | q; exact q; exact absurd ((nI_100e (by omega)).mpr (by omega)) c247_2
                                        rw [e1] at c251_2
                                        have z4 : fr.length = 0 := (nI_0iff (by omega)).mp c251_2
                                        have hk : ¬ nwk (cnl b t) fr.length = true := by simp [nwk, c205_5, z2, z3, z4, c259_2]
                                        have e8 : (x2, fr) = T := by rw [← hT, e2]; simp [rnS, hk]
                                        have hne : ¬ T.1 = -1 := by rw [← e8]; show ¬ x2 = -1; rw [e2]; exact nI_ne1 (by omega)
                                        exact rtI hx hb hr hlocks dX3_readNew_267 (g7, x2) ⟨fun q => absurd q hne, fun _ => ⟨rfl, by rw [← e8]⟩⟩ hP hD hS
                              · skip
                                refine lv_iload hx hb dX3_readNew_224 (lv_at hl 1 rfl) ?_
                                refine vp_callSi (W.runS ⟨hx, hb, hml, hown, hts⟩ (KX3_isComposed l (cnl b t)) (va_cwS 1 hts gX3_readNew_X3_isComposed rfl rfl rfl (by decide +kernel) ⟨Nat.le_of_ble_eq_true rfl, Nat.le_of_ble_eq_true rfl⟩) pcS_S rfl rfl hl.1 rfl (lv_room (Nat.le_of_ble_eq_true rfl)) dX3_readNew_226 ⟨Nat.zero_le _, Nat.zero_le _⟩) (fun r9 hr9 => ?_)
                                replace hr9 : r9 = fX2_isComposed (cnl b t) := hr9.trans (x3_isComposed _)
                                subst r9
                                refine lv_if_eq (tgt := 236) hx hb dX3_readNew_229 (by decide) (fun c229_1 => ?_) (fun c229_1 => ?_)
                                · skip
                                  refine lv_iconst (v := 0) hx hb dX3_readNew_236 (by decide) ?_
                                  refine lv_istore (lv' := [(6, .int 0), (5, .int (nI (1 + bbN (cnl b t)))), (4, .int (cnl b t)), (3, .int b), (2, .int x2), (1, .int x1), (0, .ref g)]) hx hb dX3_readNew_237 hl (by decide) rfl (fun ls hl => ?_)
                                  refine lv_iload hx hb dX3_readNew_239 (lv_at hl 0 rfl) ?_
                                  refine lv_if_eq (tgt := 262) hx hb dX3_readNew_241 (by decide) (fun c241_8 => ?_) (fun c241_8 => ?_)
                                  · skip
                                    refine lv_aload_n hx hb dX3_readNew_262 rfl (lv_at hl 6 rfl) ?_
                                    refine lv_iload_n hx hb dX3_readNew_263 rfl (lv_at hl 4 rfl) ?_
                                    refine clI (wr := [(a1, .inl (k1, 200, .inl g1)), (a7, .inl (k7, 400, .inl g7))]) (va_runV ⟨hx, hb, hml, hown, hts⟩ (KX3_bad l D g a1 a3 a5 a7 a8 a9 aB th (nI y1.length) ct oc wn tn si wg x2 _) (cwV 1 hts gX3_readNew_X3_bad rfl rfl rfl (by decide +kernel) ⟨Nat.le_of_ble_eq_true rfl, Nat.le_of_ble_eq_true rfl⟩) (pcM_V (hP.sub (ws' := [(g, .inr (4, [.int th, .ref a1, .int (nI y1.length), .ref a3, .int ct, .ref a5, .int oc, .ref a7, .ref a8, .ref a9, .int wn, .ref aB, .int tn, .int si, .int wg]))]) [0] rfl) (hD.sub (ws' := [(g, .inr (4, [.int th, .ref a1, .int (nI y1.length), .ref a3, .int ct, .ref a5, .int oc, .ref a7, .ref a8, .ref a9, .int wn, .ref aB, .int tn, .int si, .int wg]))]) [0] (by decide) rfl) (hK.sub (tys' := []) [] rfl) hN 0 rfl rfl) rfl rfl hl.1 rfl (lv_room (Nat.le_of_ble_eq_true rfl)) dX3_readNew_264 ⟨Nat.zero_le _, Nat.zero_le _⟩) hP hD hS hA [0] [1, 2] rfl rfl (by decide) (by decide) (fun r_10 u_10 H locs hw_10 hP hD hS => ?_)
                                    subst hw_10
                                    have hP : va_P D vwCl [(g, .inr (4, [.int th, .ref a1, .int (nI y1.length), .ref a3, .int ct, .ref a5, .int oc, .ref a7, .ref a8, .ref a9, .int wn, .ref aB, .int tn, .int si, .int x2])), (a1, .inl (k1, 200, .inl g1)), (a7, .inl (k7, 400, .inl g7))] H := hP.sub [2, 0, 1] rfl
                                    have hD : va_D A [(g, .inr (4, [.int th, .ref a1, .int (nI y1.length), .ref a3, .int ct, .ref a5, .int oc, .ref a7, .ref a8, .ref a9, .int wn, .ref aB, .int tn, .int si, .int x2])), (a1, .inl (k1, 200, .inl g1)), (a7, .inl (k7, 400, .inl g7))] := hD.sub [2, 0, 1] (by decide) rfl
                                    have z2 := fnd_eq c221_1
                                    have hk : ¬ nwk (cnl b t) fr.length = true := by simp [nwk, c205_5, z2, c229_1]
                                    have e8 : (x2, fr) = T := by rw [← hT, e2]; simp [rnS, hk]
                                    have hne : ¬ T.1 = -1 := by rw [← e8]; show ¬ x2 = -1; rw [e2]; exact nI_ne1 (by omega)
                                    exact rtI hx hb hr hlocks dX3_readNew_267 (g7, x2) ⟨fun q => absurd q hne, fun _ => ⟨rfl, by rw [← e8]⟩⟩ hP hD hS
                                  · exact absurd c241_8 (by decide)
                                · skip
                                  refine lv_iconst (v := 1) hx hb dX3_readNew_232 (by decide) ?_
                                  refine lv_goto (tgt := 237) hx hb dX3_readNew_233 (by decide) ?_
                                  refine lv_istore (lv' := [(6, .int 1), (5, .int (nI (1 + bbN (cnl b t)))), (4, .int (cnl b t)), (3, .int b), (2, .int x2), (1, .int x1), (0, .ref g)]) hx hb dX3_readNew_237 hl (by decide) rfl (fun ls hl => ?_)
                                  refine lv_iload hx hb dX3_readNew_239 (lv_at hl 0 rfl) ?_
                                  refine lv_if_eq (tgt := 262) hx hb dX3_readNew_241 (by decide) (fun c241_9 => ?_) (fun c241_9 => ?_)
                                  · exact absurd c241_9 (by decide)
                                  · skip
                                    refine lv_iload_n hx hb dX3_readNew_244 rfl (lv_at hl 5 rfl) ?_
                                    refine lv_bipush (v := 100) hx hb dX3_readNew_245 (by decide) ?_
                                    refine lv_icmp_eq (tgt := 262) hx hb dX3_readNew_247 (by decide) (fun c247_3 => ?_) (fun c247_3 => ?_)
                                    · skip
                                      refine lv_aload_n hx hb dX3_readNew_262 rfl (lv_at hl 6 rfl) ?_
                                      refine lv_iload_n hx hb dX3_readNew_263 rfl (lv_at hl 4 rfl) ?_
                                      refine clI (wr := [(a1, .inl (k1, 200, .inl g1)), (a7, .inl (k7, 400, .inl g7))]) (va_runV ⟨hx, hb, hml, hown, hts⟩ (KX3_bad l D g a1 a3 a5 a7 a8 a9 aB th (nI y1.length) ct oc wn tn si wg x2 _) (cwV 1 hts gX3_readNew_X3_bad rfl rfl rfl (by decide +kernel) ⟨Nat.le_of_ble_eq_true rfl, Nat.le_of_ble_eq_true rfl⟩) (pcM_V (hP.sub (ws' := [(g, .inr (4, [.int th, .ref a1, .int (nI y1.length), .ref a3, .int ct, .ref a5, .int oc, .ref a7, .ref a8, .ref a9, .int wn, .ref aB, .int tn, .int si, .int wg]))]) [0] rfl) (hD.sub (ws' := [(g, .inr (4, [.int th, .ref a1, .int (nI y1.length), .ref a3, .int ct, .ref a5, .int oc, .ref a7, .ref a8, .ref a9, .int wn, .ref aB, .int tn, .int si, .int wg]))]) [0] (by decide) rfl) (hK.sub (tys' := []) [] rfl) hN 0 rfl rfl) rfl rfl hl.1 rfl (lv_room (Nat.le_of_ble_eq_true rfl)) dX3_readNew_264 ⟨Nat.zero_le _, Nat.zero_le _⟩) hP hD hS hA [0] [1, 2] rfl rfl (by decide) (by decide) (fun r_11 u_11 H locs hw_11 hP hD hS => ?_)
                                      subst hw_11
                                      have hP : va_P D vwCl [(g, .inr (4, [.int th, .ref a1, .int (nI y1.length), .ref a3, .int ct, .ref a5, .int oc, .ref a7, .ref a8, .ref a9, .int wn, .ref aB, .int tn, .int si, .int x2])), (a1, .inl (k1, 200, .inl g1)), (a7, .inl (k7, 400, .inl g7))] H := hP.sub [2, 0, 1] rfl
                                      have hD : va_D A [(g, .inr (4, [.int th, .ref a1, .int (nI y1.length), .ref a3, .int ct, .ref a5, .int oc, .ref a7, .ref a8, .ref a9, .int wn, .ref aB, .int tn, .int si, .int x2])), (a1, .inl (k1, 200, .inl g1)), (a7, .inl (k7, 400, .inl g7))] := hD.sub [2, 0, 1] (by decide) rfl
                                      have z2 := fnd_eq c221_1
                                      rw [e1] at c247_3
                                      have z3 : fr.length = 100 := (nI_100e (by omega)).mp c247_3
                                      have hk : ¬ nwk (cnl b t) fr.length = true := by simp [nwk, c205_5, z2, c229_1, z3]
                                      have e8 : (x2, fr) = T := by rw [← hT, e2]; simp [rnS, hk]
                                      have hne : ¬ T.1 = -1 := by rw [← e8]; show ¬ x2 = -1; rw [e2]; exact nI_ne1 (by omega)
                                      exact rtI hx hb hr hlocks dX3_readNew_267 (g7, x2) ⟨fun q => absurd q hne, fun _ => ⟨rfl, by rw [← e8]⟩⟩ hP hD hS
                                    · skip
                                      refine lv_iload_n hx hb dX3_readNew_250 rfl (lv_at hl 5 rfl) ?_
                                      refine lv_if_ne (tgt := 268) hx hb dX3_readNew_251 (by decide) (fun c251_3 => ?_) (fun c251_3 => ?_)
                                      · skip
                                        refine lv_aload_n hx hb dX3_readNew_268 rfl (lv_at hl 6 rfl) ?_
                                        refine va_get (D := D) (ci := 4) (v := .ref a7) (C := RX3) (T := TX3) (N := 15) hx hb hts (by decide +kernel) hown hK hP 0 rfl rfl 7 (by decide) (hts (.fieldLink RX3 19 "CharacterRowsModel" "work" "[I") (by decide +kernel)) (fun _ h9 => h9) rfl dX3_readNew_269 ?_
                                        refine lv_iload_n hx hb dX3_readNew_272 rfl (lv_at hl 5 rfl) ?_
                                        refine lv_iload hx hb dX3_readNew_273 (lv_at hl 2 rfl) ?_
                                        refine va_iast hx hb hK hP hD hS 2 1 rfl rfl (rwf_sin p7 (by decide) e1 (by omega)) dX3_readNew_275 (fun H locs hP hD hS => ?_)
                                        have hP : va_P D vwCl [(g, .inr (4, [.int th, .ref a1, .int (nI y1.length), .ref a3, .int ct, .ref a5, .int oc, .ref a7, .ref a8, .ref a9, .int wn, .ref aB, .int tn, .int si, .int wg])), (a1, .inl (k1, 200, .inl g1)), (a7, .inl (k7, 400, .inl (upd g7 x1.toNatClampNeg (cnl b t))))] H := hP
                                        have hD : va_D A [(g, .inr (4, [.int th, .ref a1, .int (nI y1.length), .ref a3, .int ct, .ref a5, .int oc, .ref a7, .ref a8, .ref a9, .int wn, .ref aB, .int tn, .int si, .int wg])), (a1, .inl (k1, 200, .inl g1)), (a7, .inl (k7, 400, .inl (upd g7 x1.toNatClampNeg (cnl b t))))] := hD
                                        refine lv_iinc (v := (x1 + 1)) (lv' := [(1, .int (x1 + 1)), (6, .int 1), (5, .int (nI (1 + bbN (cnl b t)))), (4, .int (cnl b t)), (3, .int b), (2, .int x2), (0, .ref g)]) hx hb dX3_readNew_276 hl (k := 5) rfl rfl (by decide) rfl (fun ls hl => ?_)
                                        refine lv_iload_n hx hb dX3_readNew_279 rfl (lv_at hl 5 rfl) ?_
                                        refine lv_iload hx hb dX3_readNew_280 (lv_at hl 2 rfl) ?_
                                        refine lv_iadd hx hb dX3_readNew_282 ?_
                                        refine lv_istore_n (lv' := [(2, .int (x2 + (nI (1 + bbN (cnl b t))))), (1, .int (x1 + 1)), (6, .int 1), (5, .int (nI (1 + bbN (cnl b t)))), (4, .int (cnl b t)), (3, .int b), (0, .ref g)]) hx hb dX3_readNew_283 rfl hl (by decide) rfl (fun ls hl => ?_)
                                        refine lv_goto (tgt := 4) hx hb dX3_readNew_284 (by decide) ?_
                                        have z2 := fnd_eq c221_1
                                        rw [e1] at c247_3
                                        have z3 : fr.length < 100 := by rcases Nat.lt_or_ge fr.length 100 with q | q; exact q; exact absurd ((nI_100e (by omega)).mpr (by omega)) c247_3
                                        rw [e1] at c251_3
                                        have z4 : ¬ fr.length = 0 := fun q => c251_3 ((nI_0iff (by omega)).mpr q)
                                        have hk : nwk (cnl b t) fr.length = true := by simp [nwk, c205_5, z2, c229_1, z3, z4]
                                        have h2 := new_len hk
                                        have q7 := rwf_snoc (c := cnl b t) p7 (by decide) e1 (by omega)
                                        exact ih (t.drop (bbN (cnl b t))) (done ++ b :: t.take (bbN (cnl b t))) _ (upd g7 x1.toNatClampNeg (cnl b t)) _ _ H locs ls (by simp at hn ⊢; omega) (by rw [hy]; simp) (by rw [← hT]; simp [rnS, hk]; congr 1; (try rw [Nat.min_eq_left h2]); (try omega)) (by rw [e2, nI_add]; congr 1; simp; omega) (by rw [e1, nI_1]; simp) q7 (by simp; omega) hP hD hS (lv_sub hl [0, 1, 6] rfl)
                                      · skip
                                        refine lv_iload hx hb dX3_readNew_254 (lv_at hl 2 rfl) ?_
                                        refine vp_callSi (W.runS ⟨hx, hb, hml, hown, hts⟩ (KX3_isMark l (cnl b t)) (va_cwS 1 hts gX3_readNew_X3_isMark rfl rfl rfl (by decide +kernel) ⟨Nat.le_of_ble_eq_true rfl, Nat.le_of_ble_eq_true rfl⟩) pcS_S rfl rfl hl.1 rfl (lv_room (Nat.le_of_ble_eq_true rfl)) dX3_readNew_256 ⟨Nat.zero_le _, Nat.zero_le _⟩) (fun r9 hr9 => ?_)
                                        replace hr9 : r9 = fX2_isMark (cnl b t) := hr9.trans (x3_isMark _)
                                        subst r9
                                        refine lv_if_eq (tgt := 268) hx hb dX3_readNew_259 (by decide) (fun c259_3 => ?_) (fun c259_3 => ?_)
                                        · skip
                                          refine lv_aload_n hx hb dX3_readNew_268 rfl (lv_at hl 6 rfl) ?_
                                          refine va_get (D := D) (ci := 4) (v := .ref a7) (C := RX3) (T := TX3) (N := 15) hx hb hts (by decide +kernel) hown hK hP 0 rfl rfl 7 (by decide) (hts (.fieldLink RX3 19 "CharacterRowsModel" "work" "[I") (by decide +kernel)) (fun _ h9 => h9) rfl dX3_readNew_269 ?_
                                          refine lv_iload_n hx hb dX3_readNew_272 rfl (lv_at hl 5 rfl) ?_
                                          refine lv_iload hx hb dX3_readNew_273 (lv_at hl 2 rfl) ?_
                                          refine va_iast hx hb hK hP hD hS 2 1 rfl rfl (rwf_sin p7 (by decide) e1 (by omega)) dX3_readNew_275 (fun H locs hP hD hS => ?_)
                                          have hP : va_P D vwCl [(g, .inr (4, [.int th, .ref a1, .int (nI y1.length), .ref a3, .int ct, .ref a5, .int oc, .ref a7, .ref a8, .ref a9, .int wn, .ref aB, .int tn, .int si, .int wg])), (a1, .inl (k1, 200, .inl g1)), (a7, .inl (k7, 400, .inl (upd g7 x1.toNatClampNeg (cnl b t))))] H := hP
                                          have hD : va_D A [(g, .inr (4, [.int th, .ref a1, .int (nI y1.length), .ref a3, .int ct, .ref a5, .int oc, .ref a7, .ref a8, .ref a9, .int wn, .ref aB, .int tn, .int si, .int wg])), (a1, .inl (k1, 200, .inl g1)), (a7, .inl (k7, 400, .inl (upd g7 x1.toNatClampNeg (cnl b t))))] := hD
                                          refine lv_iinc (v := (x1 + 1)) (lv' := [(1, .int (x1 + 1)), (6, .int 1), (5, .int (nI (1 + bbN (cnl b t)))), (4, .int (cnl b t)), (3, .int b), (2, .int x2), (0, .ref g)]) hx hb dX3_readNew_276 hl (k := 5) rfl rfl (by decide) rfl (fun ls hl => ?_)
                                          refine lv_iload_n hx hb dX3_readNew_279 rfl (lv_at hl 5 rfl) ?_
                                          refine lv_iload hx hb dX3_readNew_280 (lv_at hl 2 rfl) ?_
                                          refine lv_iadd hx hb dX3_readNew_282 ?_
                                          refine lv_istore_n (lv' := [(2, .int (x2 + (nI (1 + bbN (cnl b t))))), (1, .int (x1 + 1)), (6, .int 1), (5, .int (nI (1 + bbN (cnl b t)))), (4, .int (cnl b t)), (3, .int b), (0, .ref g)]) hx hb dX3_readNew_283 rfl hl (by decide) rfl (fun ls hl => ?_)
                                          refine lv_goto (tgt := 4) hx hb dX3_readNew_284 (by decide) ?_
                                          have z2 := fnd_eq c221_1
                                          rw [e1] at c247_3
                                          have z3 : fr.length < 100 := by rcases Nat.lt_or_ge fr.length 100 with q | q; exact q; exact absurd ((nI_100e (by omega)).mpr (by omega)) c247_3
                                          rw [e1] at c251_3
                                          have z4 : fr.length = 0 := (nI_0iff (by omega)).mp c251_3
                                          have hk : nwk (cnl b t) fr.length = true := by simp [nwk, c205_5, z2, c229_1, z3, z4, c259_3]
                                          have h2 := new_len hk
                                          have q7 := rwf_snoc (c := cnl b t) p7 (by decide) e1 (by omega)
                                          exact ih (t.drop (bbN (cnl b t))) (done ++ b :: t.take (bbN (cnl b t))) _ (upd g7 x1.toNatClampNeg (cnl b t)) _ _ H locs ls (by simp at hn ⊢; omega) (by rw [hy]; simp) (by rw [← hT]; simp [rnS, hk]; congr 1; (try rw [Nat.min_eq_left h2]); (try omega)) (by rw [e2, nI_add]; congr 1; simp; omega) (by rw [e1, nI_1]; simp) q7 (by simp; omega) hP hD hS (lv_sub hl [0, 1, 6] rfl)
                                        · skip
                                          refine lv_aload_n hx hb dX3_readNew_262 rfl (lv_at hl 6 rfl) ?_
                                          refine lv_iload_n hx hb dX3_readNew_263 rfl (lv_at hl 4 rfl) ?_
                                          refine clI (wr := [(a1, .inl (k1, 200, .inl g1)), (a7, .inl (k7, 400, .inl g7))]) (va_runV ⟨hx, hb, hml, hown, hts⟩ (KX3_bad l D g a1 a3 a5 a7 a8 a9 aB th (nI y1.length) ct oc wn tn si wg x2 _) (cwV 1 hts gX3_readNew_X3_bad rfl rfl rfl (by decide +kernel) ⟨Nat.le_of_ble_eq_true rfl, Nat.le_of_ble_eq_true rfl⟩) (pcM_V (hP.sub (ws' := [(g, .inr (4, [.int th, .ref a1, .int (nI y1.length), .ref a3, .int ct, .ref a5, .int oc, .ref a7, .ref a8, .ref a9, .int wn, .ref aB, .int tn, .int si, .int wg]))]) [0] rfl) (hD.sub (ws' := [(g, .inr (4, [.int th, .ref a1, .int (nI y1.length), .ref a3, .int ct, .ref a5, .int oc, .ref a7, .ref a8, .ref a9, .int wn, .ref aB, .int tn, .int si, .int wg]))]) [0] (by decide) rfl) (hK.sub (tys' := []) [] rfl) hN 0 rfl rfl) rfl rfl hl.1 rfl (lv_room (Nat.le_of_ble_eq_true rfl)) dX3_readNew_264 ⟨Nat.zero_le _, Nat.zero_le _⟩) hP hD hS hA [0] [1, 2] rfl rfl (by decide) (by decide) (fun r_12 u_12 H locs hw_12 hP hD hS => ?_)
                                          subst hw_12
                                          have hP : va_P D vwCl [(g, .inr (4, [.int th, .ref a1, .int (nI y1.length), .ref a3, .int ct, .ref a5, .int oc, .ref a7, .ref a8, .ref a9, .int wn, .ref aB, .int tn, .int si, .int x2])), (a1, .inl (k1, 200, .inl g1)), (a7, .inl (k7, 400, .inl g7))] H := hP.sub [2, 0, 1] rfl
                                          have hD : va_D A [(g, .inr (4, [.int th, .ref a1, .int (nI y1.length), .ref a3, .int ct, .ref a5, .int oc, .ref a7, .ref a8, .ref a9, .int wn, .ref aB, .int tn, .int si, .int x2])), (a1, .inl (k1, 200, .inl g1)), (a7, .inl (k7, 400, .inl g7))] := hD.sub [2, 0, 1] (by decide) rfl
                                          have z2 := fnd_eq c221_1
                                          rw [e1] at c247_3
                                          have z3 : fr.length < 100 := by rcases Nat.lt_or_ge fr.length 100 with q | q; exact q; exact absurd ((nI_100e (by omega)).mpr (by omega)) c247_3
                                          rw [e1] at c251_3
                                          have z4 : fr.length = 0 := (nI_0iff (by omega)).mp c251_3
                                          have hk : ¬ nwk (cnl b t) fr.length = true := by simp [nwk, c205_5, z2, c229_1, z3, z4, c259_3]
                                          have e8 : (x2, fr) = T := by rw [← hT, e2]; simp [rnS, hk]
                                          have hne : ¬ T.1 = -1 := by rw [← e8]; show ¬ x2 = -1; rw [e2]; exact nI_ne1 (by omega)
                                          exact rtI hx hb hr hlocks dX3_readNew_267 (g7, x2) ⟨fun q => absurd q hne, fun _ => ⟨rfl, by rw [← e8]⟩⟩ hP hD hS
                        · skip
                          refine lv_iconst (v := 0) hx hb dX3_readNew_189 (by decide) ?_
                          refine lv_goto (tgt := 195) hx hb dX3_readNew_190 (by decide) ?_
                          refine lv_istore (lv' := [(4, .int 0), (5, .int 1), (3, .int b), (2, .int x2), (1, .int x1), (0, .ref g)]) hx hb dX3_readNew_195 hl (by decide) rfl (fun ls hl => ?_)
                          refine lv_iconst (v := 3) hx hb dX3_readNew_197 (by decide) ?_
                          refine lv_istore (lv' := [(5, .int 3), (4, .int 0), (3, .int b), (2, .int x2), (1, .int x1), (0, .ref g)]) hx hb dX3_readNew_198 hl (by decide) rfl (fun ls hl => ?_)
                          have hv4 : cnl b t = -1 := by rw [cnl, cn3 c49_1 (i32_nle.mp c118_1), if_neg g1_.1, if_pos g1_.2, if_neg g2_.1, if_pos g2_.2, c3_same, if_neg (bb_n2 c186_1)]
                          refine lv_iload hx hb dX3_readNew_200 (lv_at hl 1 rfl) ?_
                          refine vp_callSi (W.runS ⟨hx, hb, hml, hown, hts⟩ (KX3_isPlain l 0) (va_cwS 1 hts gX3_readNew_X3_isPlain rfl rfl rfl (by decide +kernel) ⟨Nat.le_of_ble_eq_true rfl, Nat.le_of_ble_eq_true rfl⟩) pcS_S rfl rfl hl.1 rfl (lv_room (Nat.le_of_ble_eq_true rfl)) dX3_readNew_202 ⟨Nat.zero_le _, Nat.zero_le _⟩) (fun r9 hr9 => ?_)
                          replace hr9 : r9 = fX2_isPlain 0 := hr9.trans (x3_isPlain _)
                          subst r9
                          refine lv_if_ne (tgt := 232) hx hb dX3_readNew_205 (by decide) (fun c205_6 => ?_) (fun c205_6 => ?_)
                          · skip
                            exact absurd (by decide) c205_6
                          · skip
                            refine lv_iload hx hb dX3_readNew_208 (lv_at hl 1 rfl) ?_
                            refine lv_bipush (v := 127) hx hb dX3_readNew_210 (by decide) ?_
                            refine lv_icmp_le (tgt := 236) hx hb dX3_readNew_212 (by decide) (fun c212_6 => ?_) (fun c212_6 => ?_)
                            · skip
                              refine lv_iconst (v := 0) hx hb dX3_readNew_236 (by decide) ?_
                              refine lv_istore (lv' := [(6, .int 0), (5, .int 3), (4, .int 0), (3, .int b), (2, .int x2), (1, .int x1), (0, .ref g)]) hx hb dX3_readNew_237 hl (by decide) rfl (fun ls hl => ?_)
                              refine lv_iload hx hb dX3_readNew_239 (lv_at hl 0 rfl) ?_
                              refine lv_if_eq (tgt := 262) hx hb dX3_readNew_241 (by decide) (fun c241_10 => ?_) (fun c241_10 => ?_)
                              · skip
                                refine lv_aload_n hx hb dX3_readNew_262 rfl (lv_at hl 6 rfl) ?_
                                refine lv_iload_n hx hb dX3_readNew_263 rfl (lv_at hl 4 rfl) ?_
                                refine clI (wr := [(a1, .inl (k1, 200, .inl g1)), (a7, .inl (k7, 400, .inl g7))]) (va_runV ⟨hx, hb, hml, hown, hts⟩ (KX3_bad l D g a1 a3 a5 a7 a8 a9 aB th (nI y1.length) ct oc wn tn si wg x2 _) (cwV 1 hts gX3_readNew_X3_bad rfl rfl rfl (by decide +kernel) ⟨Nat.le_of_ble_eq_true rfl, Nat.le_of_ble_eq_true rfl⟩) (pcM_V (hP.sub (ws' := [(g, .inr (4, [.int th, .ref a1, .int (nI y1.length), .ref a3, .int ct, .ref a5, .int oc, .ref a7, .ref a8, .ref a9, .int wn, .ref aB, .int tn, .int si, .int wg]))]) [0] rfl) (hD.sub (ws' := [(g, .inr (4, [.int th, .ref a1, .int (nI y1.length), .ref a3, .int ct, .ref a5, .int oc, .ref a7, .ref a8, .ref a9, .int wn, .ref aB, .int tn, .int si, .int wg]))]) [0] (by decide) rfl) (hK.sub (tys' := []) [] rfl) hN 0 rfl rfl) rfl rfl hl.1 rfl (lv_room (Nat.le_of_ble_eq_true rfl)) dX3_readNew_264 ⟨Nat.zero_le _, Nat.zero_le _⟩) hP hD hS hA [0] [1, 2] rfl rfl (by decide) (by decide) (fun r_13 u_13 H locs hw_13 hP hD hS => ?_)
                                subst hw_13
                                have hP : va_P D vwCl [(g, .inr (4, [.int th, .ref a1, .int (nI y1.length), .ref a3, .int ct, .ref a5, .int oc, .ref a7, .ref a8, .ref a9, .int wn, .ref aB, .int tn, .int si, .int x2])), (a1, .inl (k1, 200, .inl g1)), (a7, .inl (k7, 400, .inl g7))] H := hP.sub [2, 0, 1] rfl
                                have hD : va_D A [(g, .inr (4, [.int th, .ref a1, .int (nI y1.length), .ref a3, .int ct, .ref a5, .int oc, .ref a7, .ref a8, .ref a9, .int wn, .ref aB, .int tn, .int si, .int x2])), (a1, .inl (k1, 200, .inl g1)), (a7, .inl (k7, 400, .inl g7))] := hD.sub [2, 0, 1] (by decide) rfl
                                have hk : ¬ nwk (cnl b t) fr.length = true := fun q => nwk_ne q hv4
                                have e8 : (x2, fr) = T := by rw [← hT, e2]; simp [rnS, hk]
                                have hne : ¬ T.1 = -1 := by rw [← e8]; show ¬ x2 = -1; rw [e2]; exact nI_ne1 (by omega)
                                exact rtI hx hb hr hlocks dX3_readNew_267 (g7, x2) ⟨fun q => absurd q hne, fun _ => ⟨rfl, by rw [← e8]⟩⟩ hP hD hS
                              · exact absurd c241_10 (by decide)
                            · exact absurd c212_6 (by decide)
              · skip
                refine lv_aload_n hx hb dX3_readNew_52 rfl (lv_at hl 5 rfl) ?_
                refine lv_iload_n hx hb dX3_readNew_53 rfl (lv_at hl 3 rfl) ?_
                refine lv_iconst (v := 1) hx hb dX3_readNew_54 (by decide) ?_
                refine lv_iadd hx hb dX3_readNew_55 ?_
                refine vp_callSi (W.runV ⟨hx, hb, hml, hown, hts⟩ (KX3_goesOn l D g a1 a3 a5 a7 a8 a9 aB th ct oc wn tn si wg k1 g1 y1 p1 (x2 + 1) (gd t 0) (by rw [e2, show (1 : Int32) = nI 1 from rfl, nI_add]; exact nI_pos (by omega)) (by rw [hy, e2, show (1 : Int32) = nI 1 from rfl, nI_add]; exact rw_at_d (l := done) (r := b :: t) (j := 1) rfl (by omega))) (cwV 1 hts gX3_readNew_X3_goesOn rfl rfl rfl (by decide +kernel) ⟨Nat.le_of_ble_eq_true rfl, Nat.le_of_ble_eq_true rfl⟩) (pcR_V (hP.sub (ws' := [(g, .inr (4, [.int th, .ref a1, .int (nI y1.length), .ref a3, .int ct, .ref a5, .int oc, .ref a7, .ref a8, .ref a9, .int wn, .ref aB, .int tn, .int si, .int wg])), (a1, .inl (k1, 200, .inl g1))]) [0, 1] rfl) (hK.sub (tys' := [(k1, .int)]) [0] rfl) hN 0 rfl rfl) rfl rfl hl.1 rfl (lv_room (Nat.le_of_ble_eq_true rfl)) dX3_readNew_56 ⟨Nat.zero_le _, Nat.zero_le _⟩) (fun r9 hr9 => ?_)
                subst r9
                refine lv_if_eq (tgt := 107) hx hb dX3_readNew_59 (by decide) (fun c59_1 => ?_) (fun c59_1 => ?_)
                · skip
                  refine lv_iload_n hx hb dX3_readNew_107 rfl (lv_at hl 2 rfl) ?_
                  refine lv_sipush (v := 224) hx hb dX3_readNew_108 (by decide) ?_
                  refine lv_icmp_lt (tgt := 200) hx hb dX3_readNew_111 (by decide) (fun c111_3 => ?_) (fun c111_3 => ?_)
                  · skip
                    have hv4 : cnl b t = -1 := by rw [cnl, cn2 c29_1 c42_1 c49_1]; rcases go_eq c59_1 with q | q; rw [if_pos q]; by_cases q2 : gd t 0 < 128; rw [if_pos q2]; rw [if_neg q2, if_neg q]
                    refine lv_iload hx hb dX3_readNew_200 (lv_at hl 1 rfl) ?_
                    refine vp_callSi (W.runS ⟨hx, hb, hml, hown, hts⟩ (KX3_isPlain l 0) (va_cwS 1 hts gX3_readNew_X3_isPlain rfl rfl rfl (by decide +kernel) ⟨Nat.le_of_ble_eq_true rfl, Nat.le_of_ble_eq_true rfl⟩) pcS_S rfl rfl hl.1 rfl (lv_room (Nat.le_of_ble_eq_true rfl)) dX3_readNew_202 ⟨Nat.zero_le _, Nat.zero_le _⟩) (fun r9 hr9 => ?_)
                    replace hr9 : r9 = fX2_isPlain 0 := hr9.trans (x3_isPlain _)
                    subst r9
                    refine lv_if_ne (tgt := 232) hx hb dX3_readNew_205 (by decide) (fun c205_7 => ?_) (fun c205_7 => ?_)
                    · skip
                      exact absurd (by decide) c205_7
                    · skip
                      refine lv_iload hx hb dX3_readNew_208 (lv_at hl 1 rfl) ?_
                      refine lv_bipush (v := 127) hx hb dX3_readNew_210 (by decide) ?_
                      refine lv_icmp_le (tgt := 236) hx hb dX3_readNew_212 (by decide) (fun c212_7 => ?_) (fun c212_7 => ?_)
                      · skip
                        refine lv_iconst (v := 0) hx hb dX3_readNew_236 (by decide) ?_
                        refine lv_istore (lv' := [(6, .int 0), (5, .int 1), (4, .int 0), (3, .int b), (2, .int x2), (1, .int x1), (0, .ref g)]) hx hb dX3_readNew_237 hl (by decide) rfl (fun ls hl => ?_)
                        refine lv_iload hx hb dX3_readNew_239 (lv_at hl 0 rfl) ?_
                        refine lv_if_eq (tgt := 262) hx hb dX3_readNew_241 (by decide) (fun c241_11 => ?_) (fun c241_11 => ?_)
                        · skip
                          refine lv_aload_n hx hb dX3_readNew_262 rfl (lv_at hl 6 rfl) ?_
                          refine lv_iload_n hx hb dX3_readNew_263 rfl (lv_at hl 4 rfl) ?_
                          refine clI (wr := [(a1, .inl (k1, 200, .inl g1)), (a7, .inl (k7, 400, .inl g7))]) (va_runV ⟨hx, hb, hml, hown, hts⟩ (KX3_bad l D g a1 a3 a5 a7 a8 a9 aB th (nI y1.length) ct oc wn tn si wg x2 _) (cwV 1 hts gX3_readNew_X3_bad rfl rfl rfl (by decide +kernel) ⟨Nat.le_of_ble_eq_true rfl, Nat.le_of_ble_eq_true rfl⟩) (pcM_V (hP.sub (ws' := [(g, .inr (4, [.int th, .ref a1, .int (nI y1.length), .ref a3, .int ct, .ref a5, .int oc, .ref a7, .ref a8, .ref a9, .int wn, .ref aB, .int tn, .int si, .int wg]))]) [0] rfl) (hD.sub (ws' := [(g, .inr (4, [.int th, .ref a1, .int (nI y1.length), .ref a3, .int ct, .ref a5, .int oc, .ref a7, .ref a8, .ref a9, .int wn, .ref aB, .int tn, .int si, .int wg]))]) [0] (by decide) rfl) (hK.sub (tys' := []) [] rfl) hN 0 rfl rfl) rfl rfl hl.1 rfl (lv_room (Nat.le_of_ble_eq_true rfl)) dX3_readNew_264 ⟨Nat.zero_le _, Nat.zero_le _⟩) hP hD hS hA [0] [1, 2] rfl rfl (by decide) (by decide) (fun r_14 u_14 H locs hw_14 hP hD hS => ?_)
                          subst hw_14
                          have hP : va_P D vwCl [(g, .inr (4, [.int th, .ref a1, .int (nI y1.length), .ref a3, .int ct, .ref a5, .int oc, .ref a7, .ref a8, .ref a9, .int wn, .ref aB, .int tn, .int si, .int x2])), (a1, .inl (k1, 200, .inl g1)), (a7, .inl (k7, 400, .inl g7))] H := hP.sub [2, 0, 1] rfl
                          have hD : va_D A [(g, .inr (4, [.int th, .ref a1, .int (nI y1.length), .ref a3, .int ct, .ref a5, .int oc, .ref a7, .ref a8, .ref a9, .int wn, .ref aB, .int tn, .int si, .int x2])), (a1, .inl (k1, 200, .inl g1)), (a7, .inl (k7, 400, .inl g7))] := hD.sub [2, 0, 1] (by decide) rfl
                          have hk : ¬ nwk (cnl b t) fr.length = true := fun q => nwk_ne q hv4
                          have e8 : (x2, fr) = T := by rw [← hT, e2]; simp [rnS, hk]
                          have hne : ¬ T.1 = -1 := by rw [← e8]; show ¬ x2 = -1; rw [e2]; exact nI_ne1 (by omega)
                          exact rtI hx hb hr hlocks dX3_readNew_267 (g7, x2) ⟨fun q => absurd q hne, fun _ => ⟨rfl, by rw [← e8]⟩⟩ hP hD hS
                        · exact absurd c241_11 (by decide)
                      · exact absurd c212_7 (by decide)
                  · skip
                    exact absurd (i32_nlt.mp c111_3) c49_1
                · skip
                  have g1_ := go_ne c59_1
                  have ht1 : 1 ≤ t.length := by rcases t with _ | ⟨u, t⟩; exact absurd (show (-1 : Int32) < 128 by decide) g1_.1; simp
                  refine lv_iload_n hx hb dX3_readNew_62 rfl (lv_at hl 2 rfl) ?_
                  refine lv_sipush (v := 192) hx hb dX3_readNew_63 (by decide) ?_
                  refine lv_isub hx hb dX3_readNew_66 ?_
                  refine lv_bipush (v := 64) hx hb dX3_readNew_67 (by decide) ?_
                  refine lv_imul hx hb dX3_readNew_69 ?_
                  refine lv_aload_n hx hb dX3_readNew_70 rfl (lv_at hl 5 rfl) ?_
                  refine va_get (D := D) (ci := 4) (v := .ref a1) (C := RX3) (T := TX3) (N := 15) hx hb hts (by decide +kernel) hown hK hP 0 rfl rfl 1 (by decide) (hts (.fieldLink RX3 7 "CharacterRowsModel" "collected" "[I") (by decide +kernel)) (fun _ h9 => h9) rfl dX3_readNew_71 ?_
                  refine lv_iload_n hx hb dX3_readNew_74 rfl (lv_at hl 3 rfl) ?_
                  refine lv_iconst (v := 1) hx hb dX3_readNew_75 (by decide) ?_
                  refine lv_iadd hx hb dX3_readNew_76 ?_
                  refine va_iald hx hb hK hP 1 0 rfl rfl (rwf_in (l := done) (r := b :: t) (j := 1) p1 (by decide) hy (by rw [e2, nI_1]) rfl (by simp; omega)) dX3_readNew_77 ?_
                  refine lv_topi (fun r9 hr9 => ?_)
                  replace hr9 : r9 = (gd t 0) := hr9.trans (rwf_v (l := done) (r := b :: t) (j := 1) p1 (by decide) hy (by rw [e2, nI_1]) rfl (by simp; omega))
                  subst r9
                  refine lv_iadd hx hb dX3_readNew_78 ?_
                  refine lv_sipush (v := 128) hx hb dX3_readNew_79 (by decide) ?_
                  refine lv_isub hx hb dX3_readNew_82 ?_
                  refine lv_istore (lv' := [(4, .int ((((b - 192) * 64) + (gd t 0)) - 128)), (5, .int 1), (3, .int b), (2, .int x2), (1, .int x1), (0, .ref g)]) hx hb dX3_readNew_83 hl (by decide) rfl (fun ls hl => ?_)
                  refine lv_iload hx hb dX3_readNew_85 (lv_at hl 0 rfl) ?_
                  refine lv_sipush (v := 128) hx hb dX3_readNew_87 (by decide) ?_
                  refine lv_icmp_ge (tgt := 97) hx hb dX3_readNew_90 (by decide) (fun c90_1 => ?_) (fun c90_1 => ?_)
                  · skip
                    refine lv_iload hx hb dX3_readNew_97 (lv_at hl 0 rfl) ?_
                    refine lv_istore (lv' := [(4, .int ((((b - 192) * 64) + (gd t 0)) - 128)), (5, .int 1), (3, .int b), (2, .int x2), (1, .int x1), (0, .ref g)]) hx hb dX3_readNew_99 hl (by decide) rfl (fun ls hl => ?_)
                    refine lv_iconst (v := 2) hx hb dX3_readNew_101 (by decide) ?_
                    refine lv_istore (lv' := [(5, .int 2), (4, .int ((((b - 192) * 64) + (gd t 0)) - 128)), (3, .int b), (2, .int x2), (1, .int x1), (0, .ref g)]) hx hb dX3_readNew_102 hl (by decide) rfl (fun ls hl => ?_)
                    refine lv_goto (tgt := 200) hx hb dX3_readNew_104 (by decide) ?_
                    have q2a := c2_lt hb9 c42_1 c49_1 g1_.1 g1_.2
                    have q2b := bb_1 (i32_nlt.mpr c90_1) q2a
                    have hv4 : ((((b - 192) * 64) + (gd t 0)) - 128) = cnl b t := by rw [cnl, cn2 c29_1 c42_1 c49_1, if_neg g1_.1, if_pos g1_.2, if_pos q2b.1]
                    have hv5 : (2 : Int32) = nI (1 + bbN (cnl b t)) := by rw [← hv4, q2b.2]; rfl
                    have hl : lv_has ls 7 [(5, .int (nI (1 + bbN (cnl b t)))), (4, .int (cnl b t)), (3, .int b), (2, .int x2), (1, .int x1), (0, .ref g)] := by rw [← hv5, ← hv4]; exact hl
                    refine lv_iload hx hb dX3_readNew_200 (lv_at hl 1 rfl) ?_
                    refine vp_callSi (W.runS ⟨hx, hb, hml, hown, hts⟩ (KX3_isPlain l (cnl b t)) (va_cwS 1 hts gX3_readNew_X3_isPlain rfl rfl rfl (by decide +kernel) ⟨Nat.le_of_ble_eq_true rfl, Nat.le_of_ble_eq_true rfl⟩) pcS_S rfl rfl hl.1 rfl (lv_room (Nat.le_of_ble_eq_true rfl)) dX3_readNew_202 ⟨Nat.zero_le _, Nat.zero_le _⟩) (fun r9 hr9 => ?_)
                    replace hr9 : r9 = fX2_isPlain (cnl b t) := hr9.trans (x3_isPlain _)
                    subst r9
                    refine lv_if_ne (tgt := 232) hx hb dX3_readNew_205 (by decide) (fun c205_8 => ?_) (fun c205_8 => ?_)
                    · skip
                      refine lv_iconst (v := 1) hx hb dX3_readNew_232 (by decide) ?_
                      refine lv_goto (tgt := 237) hx hb dX3_readNew_233 (by decide) ?_
                      refine lv_istore (lv' := [(6, .int 1), (5, .int (nI (1 + bbN (cnl b t)))), (4, .int (cnl b t)), (3, .int b), (2, .int x2), (1, .int x1), (0, .ref g)]) hx hb dX3_readNew_237 hl (by decide) rfl (fun ls hl => ?_)
                      refine lv_iload hx hb dX3_readNew_239 (lv_at hl 0 rfl) ?_
                      refine lv_if_eq (tgt := 262) hx hb dX3_readNew_241 (by decide) (fun c241_12 => ?_) (fun c241_12 => ?_)
                      · exact absurd c241_12 (by decide)
                      · skip
                        refine lv_iload_n hx hb dX3_readNew_244 rfl (lv_at hl 5 rfl) ?_
                        refine lv_bipush (v := 100) hx hb dX3_readNew_245 (by decide) ?_
                        refine lv_icmp_eq (tgt := 262) hx hb dX3_readNew_247 (by decide) (fun c247_4 => ?_) (fun c247_4 => ?_)
                        · skip
                          refine lv_aload_n hx hb dX3_readNew_262 rfl (lv_at hl 6 rfl) ?_
                          refine lv_iload_n hx hb dX3_readNew_263 rfl (lv_at hl 4 rfl) ?_
                          refine clI (wr := [(a1, .inl (k1, 200, .inl g1)), (a7, .inl (k7, 400, .inl g7))]) (va_runV ⟨hx, hb, hml, hown, hts⟩ (KX3_bad l D g a1 a3 a5 a7 a8 a9 aB th (nI y1.length) ct oc wn tn si wg x2 _) (cwV 1 hts gX3_readNew_X3_bad rfl rfl rfl (by decide +kernel) ⟨Nat.le_of_ble_eq_true rfl, Nat.le_of_ble_eq_true rfl⟩) (pcM_V (hP.sub (ws' := [(g, .inr (4, [.int th, .ref a1, .int (nI y1.length), .ref a3, .int ct, .ref a5, .int oc, .ref a7, .ref a8, .ref a9, .int wn, .ref aB, .int tn, .int si, .int wg]))]) [0] rfl) (hD.sub (ws' := [(g, .inr (4, [.int th, .ref a1, .int (nI y1.length), .ref a3, .int ct, .ref a5, .int oc, .ref a7, .ref a8, .ref a9, .int wn, .ref aB, .int tn, .int si, .int wg]))]) [0] (by decide) rfl) (hK.sub (tys' := []) [] rfl) hN 0 rfl rfl) rfl rfl hl.1 rfl (lv_room (Nat.le_of_ble_eq_true rfl)) dX3_readNew_264 ⟨Nat.zero_le _, Nat.zero_le _⟩) hP hD hS hA [0] [1, 2] rfl rfl (by decide) (by decide) (fun r_15 u_15 H locs hw_15 hP hD hS => ?_)
                          subst hw_15
                          have hP : va_P D vwCl [(g, .inr (4, [.int th, .ref a1, .int (nI y1.length), .ref a3, .int ct, .ref a5, .int oc, .ref a7, .ref a8, .ref a9, .int wn, .ref aB, .int tn, .int si, .int x2])), (a1, .inl (k1, 200, .inl g1)), (a7, .inl (k7, 400, .inl g7))] H := hP.sub [2, 0, 1] rfl
                          have hD : va_D A [(g, .inr (4, [.int th, .ref a1, .int (nI y1.length), .ref a3, .int ct, .ref a5, .int oc, .ref a7, .ref a8, .ref a9, .int wn, .ref aB, .int tn, .int si, .int x2])), (a1, .inl (k1, 200, .inl g1)), (a7, .inl (k7, 400, .inl g7))] := hD.sub [2, 0, 1] (by decide) rfl
                          rw [e1] at c247_4
                          have z3 : fr.length = 100 := (nI_100e (by omega)).mp c247_4
                          have hk : ¬ nwk (cnl b t) fr.length = true := by simp [nwk, c205_8, z3]
                          have e8 : (x2, fr) = T := by rw [← hT, e2]; simp [rnS, hk]
                          have hne : ¬ T.1 = -1 := by rw [← e8]; show ¬ x2 = -1; rw [e2]; exact nI_ne1 (by omega)
                          exact rtI hx hb hr hlocks dX3_readNew_267 (g7, x2) ⟨fun q => absurd q hne, fun _ => ⟨rfl, by rw [← e8]⟩⟩ hP hD hS
                        · skip
                          refine lv_iload_n hx hb dX3_readNew_250 rfl (lv_at hl 5 rfl) ?_
                          refine lv_if_ne (tgt := 268) hx hb dX3_readNew_251 (by decide) (fun c251_4 => ?_) (fun c251_4 => ?_)
                          · skip
                            refine lv_aload_n hx hb dX3_readNew_268 rfl (lv_at hl 6 rfl) ?_
                            refine va_get (D := D) (ci := 4) (v := .ref a7) (C := RX3) (T := TX3) (N := 15) hx hb hts (by decide +kernel) hown hK hP 0 rfl rfl 7 (by decide) (hts (.fieldLink RX3 19 "CharacterRowsModel" "work" "[I") (by decide +kernel)) (fun _ h9 => h9) rfl dX3_readNew_269 ?_
                            refine lv_iload_n hx hb dX3_readNew_272 rfl (lv_at hl 5 rfl) ?_
                            refine lv_iload hx hb dX3_readNew_273 (lv_at hl 2 rfl) ?_
                            refine va_iast hx hb hK hP hD hS 2 1 rfl rfl (rwf_sin p7 (by decide) e1 (by omega)) dX3_readNew_275 (fun H locs hP hD hS => ?_)
                            have hP : va_P D vwCl [(g, .inr (4, [.int th, .ref a1, .int (nI y1.length), .ref a3, .int ct, .ref a5, .int oc, .ref a7, .ref a8, .ref a9, .int wn, .ref aB, .int tn, .int si, .int wg])), (a1, .inl (k1, 200, .inl g1)), (a7, .inl (k7, 400, .inl (upd g7 x1.toNatClampNeg (cnl b t))))] H := hP
                            have hD : va_D A [(g, .inr (4, [.int th, .ref a1, .int (nI y1.length), .ref a3, .int ct, .ref a5, .int oc, .ref a7, .ref a8, .ref a9, .int wn, .ref aB, .int tn, .int si, .int wg])), (a1, .inl (k1, 200, .inl g1)), (a7, .inl (k7, 400, .inl (upd g7 x1.toNatClampNeg (cnl b t))))] := hD
                            refine lv_iinc (v := (x1 + 1)) (lv' := [(1, .int (x1 + 1)), (6, .int 1), (5, .int (nI (1 + bbN (cnl b t)))), (4, .int (cnl b t)), (3, .int b), (2, .int x2), (0, .ref g)]) hx hb dX3_readNew_276 hl (k := 5) rfl rfl (by decide) rfl (fun ls hl => ?_)
                            refine lv_iload_n hx hb dX3_readNew_279 rfl (lv_at hl 5 rfl) ?_
                            refine lv_iload hx hb dX3_readNew_280 (lv_at hl 2 rfl) ?_
                            refine lv_iadd hx hb dX3_readNew_282 ?_
                            refine lv_istore_n (lv' := [(2, .int (x2 + (nI (1 + bbN (cnl b t))))), (1, .int (x1 + 1)), (6, .int 1), (5, .int (nI (1 + bbN (cnl b t)))), (4, .int (cnl b t)), (3, .int b), (0, .ref g)]) hx hb dX3_readNew_283 rfl hl (by decide) rfl (fun ls hl => ?_)
                            refine lv_goto (tgt := 4) hx hb dX3_readNew_284 (by decide) ?_
                            rw [e1] at c247_4
                            have z3 : fr.length < 100 := by rcases Nat.lt_or_ge fr.length 100 with q | q; exact q; exact absurd ((nI_100e (by omega)).mpr (by omega)) c247_4
                            rw [e1] at c251_4
                            have z4 : ¬ fr.length = 0 := fun q => c251_4 ((nI_0iff (by omega)).mpr q)
                            have hk : nwk (cnl b t) fr.length = true := by simp [nwk, c205_8, z3, z4]
                            have h2 := new_len hk
                            have q7 := rwf_snoc (c := cnl b t) p7 (by decide) e1 (by omega)
                            exact ih (t.drop (bbN (cnl b t))) (done ++ b :: t.take (bbN (cnl b t))) _ (upd g7 x1.toNatClampNeg (cnl b t)) _ _ H locs ls (by simp at hn ⊢; omega) (by rw [hy]; simp) (by rw [← hT]; simp [rnS, hk]; congr 1; (try rw [Nat.min_eq_left h2]); (try omega)) (by rw [e2, nI_add]; congr 1; simp; omega) (by rw [e1, nI_1]; simp) q7 (by simp; omega) hP hD hS (lv_sub hl [0, 1, 6] rfl)
                          · skip
                            refine lv_iload hx hb dX3_readNew_254 (lv_at hl 2 rfl) ?_
                            refine vp_callSi (W.runS ⟨hx, hb, hml, hown, hts⟩ (KX3_isMark l (cnl b t)) (va_cwS 1 hts gX3_readNew_X3_isMark rfl rfl rfl (by decide +kernel) ⟨Nat.le_of_ble_eq_true rfl, Nat.le_of_ble_eq_true rfl⟩) pcS_S rfl rfl hl.1 rfl (lv_room (Nat.le_of_ble_eq_true rfl)) dX3_readNew_256 ⟨Nat.zero_le _, Nat.zero_le _⟩) (fun r9 hr9 => ?_)
                            replace hr9 : r9 = fX2_isMark (cnl b t) := hr9.trans (x3_isMark _)
                            subst r9
                            refine lv_if_eq (tgt := 268) hx hb dX3_readNew_259 (by decide) (fun c259_4 => ?_) (fun c259_4 => ?_)
                            · skip
                              refine lv_aload_n hx hb dX3_readNew_268 rfl (lv_at hl 6 rfl) ?_
                              refine va_get (D := D) (ci := 4) (v := .ref a7) (C := RX3) (T := TX3) (N := 15) hx hb hts (by decide +kernel) hown hK hP 0 rfl rfl 7 (by decide) (hts (.fieldLink RX3 19 "CharacterRowsModel" "work" "[I") (by decide +kernel)) (fun _ h9 => h9) rfl dX3_readNew_269 ?_
                              refine lv_iload_n hx hb dX3_readNew_272 rfl (lv_at hl 5 rfl) ?_
                              refine lv_iload hx hb dX3_readNew_273 (lv_at hl 2 rfl) ?_
                              refine va_iast hx hb hK hP hD hS 2 1 rfl rfl (rwf_sin p7 (by decide) e1 (by omega)) dX3_readNew_275 (fun H locs hP hD hS => ?_)
                              have hP : va_P D vwCl [(g, .inr (4, [.int th, .ref a1, .int (nI y1.length), .ref a3, .int ct, .ref a5, .int oc, .ref a7, .ref a8, .ref a9, .int wn, .ref aB, .int tn, .int si, .int wg])), (a1, .inl (k1, 200, .inl g1)), (a7, .inl (k7, 400, .inl (upd g7 x1.toNatClampNeg (cnl b t))))] H := hP
                              have hD : va_D A [(g, .inr (4, [.int th, .ref a1, .int (nI y1.length), .ref a3, .int ct, .ref a5, .int oc, .ref a7, .ref a8, .ref a9, .int wn, .ref aB, .int tn, .int si, .int wg])), (a1, .inl (k1, 200, .inl g1)), (a7, .inl (k7, 400, .inl (upd g7 x1.toNatClampNeg (cnl b t))))] := hD
                              refine lv_iinc (v := (x1 + 1)) (lv' := [(1, .int (x1 + 1)), (6, .int 1), (5, .int (nI (1 + bbN (cnl b t)))), (4, .int (cnl b t)), (3, .int b), (2, .int x2), (0, .ref g)]) hx hb dX3_readNew_276 hl (k := 5) rfl rfl (by decide) rfl (fun ls hl => ?_)
                              refine lv_iload_n hx hb dX3_readNew_279 rfl (lv_at hl 5 rfl) ?_
                              refine lv_iload hx hb dX3_readNew_280 (lv_at hl 2 rfl) ?_
                              refine lv_iadd hx hb dX3_readNew_282 ?_
                              refine lv_istore_n (lv' := [(2, .int (x2 + (nI (1 + bbN (cnl b t))))), (1, .int (x1 + 1)), (6, .int 1), (5, .int (nI (1 + bbN (cnl b t)))), (4, .int (cnl b t)), (3, .int b), (0, .ref g)]) hx hb dX3_readNew_283 rfl hl (by decide) rfl (fun ls hl => ?_)
                              refine lv_goto (tgt := 4) hx hb dX3_readNew_284 (by decide) ?_
                              rw [e1] at c247_4
                              have z3 : fr.length < 100 := by rcases Nat.lt_or_ge fr.length 100 with q | q; exact q; exact absurd ((nI_100e (by omega)).mpr (by omega)) c247_4
                              rw [e1] at c251_4
                              have z4 : fr.length = 0 := (nI_0iff (by omega)).mp c251_4
                              have hk : nwk (cnl b t) fr.length = true := by simp [nwk, c205_8, z3, z4, c259_4]
                              have h2 := new_len hk
                              have q7 := rwf_snoc (c := cnl b t) p7 (by decide) e1 (by omega)
                              exact ih (t.drop (bbN (cnl b t))) (done ++ b :: t.take (bbN (cnl b t))) _ (upd g7 x1.toNatClampNeg (cnl b t)) _ _ H locs ls (by simp at hn ⊢; omega) (by rw [hy]; simp) (by rw [← hT]; simp [rnS, hk]; congr 1; (try rw [Nat.min_eq_left h2]); (try omega)) (by rw [e2, nI_add]; congr 1; simp; omega) (by rw [e1, nI_1]; simp) q7 (by simp; omega) hP hD hS (lv_sub hl [0, 1, 6] rfl)
                            · skip
                              refine lv_aload_n hx hb dX3_readNew_262 rfl (lv_at hl 6 rfl) ?_
                              refine lv_iload_n hx hb dX3_readNew_263 rfl (lv_at hl 4 rfl) ?_
                              refine clI (wr := [(a1, .inl (k1, 200, .inl g1)), (a7, .inl (k7, 400, .inl g7))]) (va_runV ⟨hx, hb, hml, hown, hts⟩ (KX3_bad l D g a1 a3 a5 a7 a8 a9 aB th (nI y1.length) ct oc wn tn si wg x2 _) (cwV 1 hts gX3_readNew_X3_bad rfl rfl rfl (by decide +kernel) ⟨Nat.le_of_ble_eq_true rfl, Nat.le_of_ble_eq_true rfl⟩) (pcM_V (hP.sub (ws' := [(g, .inr (4, [.int th, .ref a1, .int (nI y1.length), .ref a3, .int ct, .ref a5, .int oc, .ref a7, .ref a8, .ref a9, .int wn, .ref aB, .int tn, .int si, .int wg]))]) [0] rfl) (hD.sub (ws' := [(g, .inr (4, [.int th, .ref a1, .int (nI y1.length), .ref a3, .int ct, .ref a5, .int oc, .ref a7, .ref a8, .ref a9, .int wn, .ref aB, .int tn, .int si, .int wg]))]) [0] (by decide) rfl) (hK.sub (tys' := []) [] rfl) hN 0 rfl rfl) rfl rfl hl.1 rfl (lv_room (Nat.le_of_ble_eq_true rfl)) dX3_readNew_264 ⟨Nat.zero_le _, Nat.zero_le _⟩) hP hD hS hA [0] [1, 2] rfl rfl (by decide) (by decide) (fun r_16 u_16 H locs hw_16 hP hD hS => ?_)
                              subst hw_16
                              have hP : va_P D vwCl [(g, .inr (4, [.int th, .ref a1, .int (nI y1.length), .ref a3, .int ct, .ref a5, .int oc, .ref a7, .ref a8, .ref a9, .int wn, .ref aB, .int tn, .int si, .int x2])), (a1, .inl (k1, 200, .inl g1)), (a7, .inl (k7, 400, .inl g7))] H := hP.sub [2, 0, 1] rfl
                              have hD : va_D A [(g, .inr (4, [.int th, .ref a1, .int (nI y1.length), .ref a3, .int ct, .ref a5, .int oc, .ref a7, .ref a8, .ref a9, .int wn, .ref aB, .int tn, .int si, .int x2])), (a1, .inl (k1, 200, .inl g1)), (a7, .inl (k7, 400, .inl g7))] := hD.sub [2, 0, 1] (by decide) rfl
                              rw [e1] at c247_4
                              have z3 : fr.length < 100 := by rcases Nat.lt_or_ge fr.length 100 with q | q; exact q; exact absurd ((nI_100e (by omega)).mpr (by omega)) c247_4
                              rw [e1] at c251_4
                              have z4 : fr.length = 0 := (nI_0iff (by omega)).mp c251_4
                              have hk : ¬ nwk (cnl b t) fr.length = true := by simp [nwk, c205_8, z3, z4, c259_4]
                              have e8 : (x2, fr) = T := by rw [← hT, e2]; simp [rnS, hk]
                              have hne : ¬ T.1 = -1 := by rw [← e8]; show ¬ x2 = -1; rw [e2]; exact nI_ne1 (by omega)
                              exact rtI hx hb hr hlocks dX3_readNew_267 (g7, x2) ⟨fun q => absurd q hne, fun _ => ⟨rfl, by rw [← e8]⟩⟩ hP hD hS
                    · skip
                      refine lv_iload hx hb dX3_readNew_208 (lv_at hl 1 rfl) ?_
                      refine lv_bipush (v := 127) hx hb dX3_readNew_210 (by decide) ?_
                      refine lv_icmp_le (tgt := 236) hx hb dX3_readNew_212 (by decide) (fun c212_8 => ?_) (fun c212_8 => ?_)
                      · skip
                        refine lv_iconst (v := 0) hx hb dX3_readNew_236 (by decide) ?_
                        refine lv_istore (lv' := [(6, .int 0), (5, .int (nI (1 + bbN (cnl b t)))), (4, .int (cnl b t)), (3, .int b), (2, .int x2), (1, .int x1), (0, .ref g)]) hx hb dX3_readNew_237 hl (by decide) rfl (fun ls hl => ?_)
                        refine lv_iload hx hb dX3_readNew_239 (lv_at hl 0 rfl) ?_
                        refine lv_if_eq (tgt := 262) hx hb dX3_readNew_241 (by decide) (fun c241_13 => ?_) (fun c241_13 => ?_)
                        · skip
                          refine lv_aload_n hx hb dX3_readNew_262 rfl (lv_at hl 6 rfl) ?_
                          refine lv_iload_n hx hb dX3_readNew_263 rfl (lv_at hl 4 rfl) ?_
                          refine clI (wr := [(a1, .inl (k1, 200, .inl g1)), (a7, .inl (k7, 400, .inl g7))]) (va_runV ⟨hx, hb, hml, hown, hts⟩ (KX3_bad l D g a1 a3 a5 a7 a8 a9 aB th (nI y1.length) ct oc wn tn si wg x2 _) (cwV 1 hts gX3_readNew_X3_bad rfl rfl rfl (by decide +kernel) ⟨Nat.le_of_ble_eq_true rfl, Nat.le_of_ble_eq_true rfl⟩) (pcM_V (hP.sub (ws' := [(g, .inr (4, [.int th, .ref a1, .int (nI y1.length), .ref a3, .int ct, .ref a5, .int oc, .ref a7, .ref a8, .ref a9, .int wn, .ref aB, .int tn, .int si, .int wg]))]) [0] rfl) (hD.sub (ws' := [(g, .inr (4, [.int th, .ref a1, .int (nI y1.length), .ref a3, .int ct, .ref a5, .int oc, .ref a7, .ref a8, .ref a9, .int wn, .ref aB, .int tn, .int si, .int wg]))]) [0] (by decide) rfl) (hK.sub (tys' := []) [] rfl) hN 0 rfl rfl) rfl rfl hl.1 rfl (lv_room (Nat.le_of_ble_eq_true rfl)) dX3_readNew_264 ⟨Nat.zero_le _, Nat.zero_le _⟩) hP hD hS hA [0] [1, 2] rfl rfl (by decide) (by decide) (fun r_17 u_17 H locs hw_17 hP hD hS => ?_)
                          subst hw_17
                          have hP : va_P D vwCl [(g, .inr (4, [.int th, .ref a1, .int (nI y1.length), .ref a3, .int ct, .ref a5, .int oc, .ref a7, .ref a8, .ref a9, .int wn, .ref aB, .int tn, .int si, .int x2])), (a1, .inl (k1, 200, .inl g1)), (a7, .inl (k7, 400, .inl g7))] H := hP.sub [2, 0, 1] rfl
                          have hD : va_D A [(g, .inr (4, [.int th, .ref a1, .int (nI y1.length), .ref a3, .int ct, .ref a5, .int oc, .ref a7, .ref a8, .ref a9, .int wn, .ref aB, .int tn, .int si, .int x2])), (a1, .inl (k1, 200, .inl g1)), (a7, .inl (k7, 400, .inl g7))] := hD.sub [2, 0, 1] (by decide) rfl
                          have z1 := cmp_lo c212_8
                          have hk : ¬ nwk (cnl b t) fr.length = true := by simp [nwk, c205_8, z1.1, z1.2]
                          have e8 : (x2, fr) = T := by rw [← hT, e2]; simp [rnS, hk]
                          have hne : ¬ T.1 = -1 := by rw [← e8]; show ¬ x2 = -1; rw [e2]; exact nI_ne1 (by omega)
                          exact rtI hx hb hr hlocks dX3_readNew_267 (g7, x2) ⟨fun q => absurd q hne, fun _ => ⟨rfl, by rw [← e8]⟩⟩ hP hD hS
                        · exact absurd c241_13 (by decide)
                      · skip
                        refine lv_iload hx hb dX3_readNew_215 (lv_at hl 1 rfl) ?_
                        refine vp_callSi (W.runS ⟨hx, hb, hml, hown, hts⟩ (KX3_find l (cnl b t)) (va_cwS 1 hts gX3_readNew_X3_find rfl rfl rfl (by decide +kernel) ⟨Nat.le_of_ble_eq_true rfl, Nat.le_of_ble_eq_true rfl⟩) pcS_S rfl rfl hl.1 rfl (lv_room (Nat.le_of_ble_eq_true rfl)) dX3_readNew_217 ⟨Nat.zero_le _, Nat.zero_le _⟩) (fun r9 hr9 => ?_)
                        subst r9
                        refine lv_iconst (v := (-1)) hx hb dX3_readNew_220 (by decide) ?_
                        refine lv_icmp_ne (tgt := 232) hx hb dX3_readNew_221 (by decide) (fun c221_2 => ?_) (fun c221_2 => ?_)
                        · skip
                          refine lv_iconst (v := 1) hx hb dX3_readNew_232 (by decide) ?_
                          refine lv_goto (tgt := 237) hx hb dX3_readNew_233 (by decide) ?_
                          refine lv_istore (lv' := [(6, .int 1), (5, .int (nI (1 + bbN (cnl b t)))), (4, .int (cnl b t)), (3, .int b), (2, .int x2), (1, .int x1), (0, .ref g)]) hx hb dX3_readNew_237 hl (by decide) rfl (fun ls hl => ?_)
                          refine lv_iload hx hb dX3_readNew_239 (lv_at hl 0 rfl) ?_
                          refine lv_if_eq (tgt := 262) hx hb dX3_readNew_241 (by decide) (fun c241_14 => ?_) (fun c241_14 => ?_)
                          · exact absurd c241_14 (by decide)
                          · skip
                            refine lv_iload_n hx hb dX3_readNew_244 rfl (lv_at hl 5 rfl) ?_
                            refine lv_bipush (v := 100) hx hb dX3_readNew_245 (by decide) ?_
                            refine lv_icmp_eq (tgt := 262) hx hb dX3_readNew_247 (by decide) (fun c247_5 => ?_) (fun c247_5 => ?_)
                            · skip
                              refine lv_aload_n hx hb dX3_readNew_262 rfl (lv_at hl 6 rfl) ?_
                              refine lv_iload_n hx hb dX3_readNew_263 rfl (lv_at hl 4 rfl) ?_
                              refine clI (wr := [(a1, .inl (k1, 200, .inl g1)), (a7, .inl (k7, 400, .inl g7))]) (va_runV ⟨hx, hb, hml, hown, hts⟩ (KX3_bad l D g a1 a3 a5 a7 a8 a9 aB th (nI y1.length) ct oc wn tn si wg x2 _) (cwV 1 hts gX3_readNew_X3_bad rfl rfl rfl (by decide +kernel) ⟨Nat.le_of_ble_eq_true rfl, Nat.le_of_ble_eq_true rfl⟩) (pcM_V (hP.sub (ws' := [(g, .inr (4, [.int th, .ref a1, .int (nI y1.length), .ref a3, .int ct, .ref a5, .int oc, .ref a7, .ref a8, .ref a9, .int wn, .ref aB, .int tn, .int si, .int wg]))]) [0] rfl) (hD.sub (ws' := [(g, .inr (4, [.int th, .ref a1, .int (nI y1.length), .ref a3, .int ct, .ref a5, .int oc, .ref a7, .ref a8, .ref a9, .int wn, .ref aB, .int tn, .int si, .int wg]))]) [0] (by decide) rfl) (hK.sub (tys' := []) [] rfl) hN 0 rfl rfl) rfl rfl hl.1 rfl (lv_room (Nat.le_of_ble_eq_true rfl)) dX3_readNew_264 ⟨Nat.zero_le _, Nat.zero_le _⟩) hP hD hS hA [0] [1, 2] rfl rfl (by decide) (by decide) (fun r_18 u_18 H locs hw_18 hP hD hS => ?_)
                              subst hw_18
                              have hP : va_P D vwCl [(g, .inr (4, [.int th, .ref a1, .int (nI y1.length), .ref a3, .int ct, .ref a5, .int oc, .ref a7, .ref a8, .ref a9, .int wn, .ref aB, .int tn, .int si, .int x2])), (a1, .inl (k1, 200, .inl g1)), (a7, .inl (k7, 400, .inl g7))] H := hP.sub [2, 0, 1] rfl
                              have hD : va_D A [(g, .inr (4, [.int th, .ref a1, .int (nI y1.length), .ref a3, .int ct, .ref a5, .int oc, .ref a7, .ref a8, .ref a9, .int wn, .ref aB, .int tn, .int si, .int x2])), (a1, .inl (k1, 200, .inl g1)), (a7, .inl (k7, 400, .inl g7))] := hD.sub [2, 0, 1] (by decide) rfl
                              have z2 := fnd_ne c221_2
                              rw [e1] at c247_5
                              have z3 : fr.length = 100 := (nI_100e (by omega)).mp c247_5
                              have hk : ¬ nwk (cnl b t) fr.length = true := by simp [nwk, c205_8, z2, z3]
                              have e8 : (x2, fr) = T := by rw [← hT, e2]; simp [rnS, hk]
                              have hne : ¬ T.1 = -1 := by rw [← e8]; show ¬ x2 = -1; rw [e2]; exact nI_ne1 (by omega)
                              exact rtI hx hb hr hlocks dX3_readNew_267 (g7, x2) ⟨fun q => absurd q hne, fun _ => ⟨rfl, by rw [← e8]⟩⟩ hP hD hS
                            · skip
                              refine lv_iload_n hx hb dX3_readNew_250 rfl (lv_at hl 5 rfl) ?_
                              refine lv_if_ne (tgt := 268) hx hb dX3_readNew_251 (by decide) (fun c251_5 => ?_) (fun c251_5 => ?_)
                              · skip
                                refine lv_aload_n hx hb dX3_readNew_268 rfl (lv_at hl 6 rfl) ?_
                                refine va_get (D := D) (ci := 4) (v := .ref a7) (C := RX3) (T := TX3) (N := 15) hx hb hts (by decide +kernel) hown hK hP 0 rfl rfl 7 (by decide) (hts (.fieldLink RX3 19 "CharacterRowsModel" "work" "[I") (by decide +kernel)) (fun _ h9 => h9) rfl dX3_readNew_269 ?_
                                refine lv_iload_n hx hb dX3_readNew_272 rfl (lv_at hl 5 rfl) ?_
                                refine lv_iload hx hb dX3_readNew_273 (lv_at hl 2 rfl) ?_
                                refine va_iast hx hb hK hP hD hS 2 1 rfl rfl (rwf_sin p7 (by decide) e1 (by omega)) dX3_readNew_275 (fun H locs hP hD hS => ?_)
                                have hP : va_P D vwCl [(g, .inr (4, [.int th, .ref a1, .int (nI y1.length), .ref a3, .int ct, .ref a5, .int oc, .ref a7, .ref a8, .ref a9, .int wn, .ref aB, .int tn, .int si, .int wg])), (a1, .inl (k1, 200, .inl g1)), (a7, .inl (k7, 400, .inl (upd g7 x1.toNatClampNeg (cnl b t))))] H := hP
                                have hD : va_D A [(g, .inr (4, [.int th, .ref a1, .int (nI y1.length), .ref a3, .int ct, .ref a5, .int oc, .ref a7, .ref a8, .ref a9, .int wn, .ref aB, .int tn, .int si, .int wg])), (a1, .inl (k1, 200, .inl g1)), (a7, .inl (k7, 400, .inl (upd g7 x1.toNatClampNeg (cnl b t))))] := hD
                                refine lv_iinc (v := (x1 + 1)) (lv' := [(1, .int (x1 + 1)), (6, .int 1), (5, .int (nI (1 + bbN (cnl b t)))), (4, .int (cnl b t)), (3, .int b), (2, .int x2), (0, .ref g)]) hx hb dX3_readNew_276 hl (k := 5) rfl rfl (by decide) rfl (fun ls hl => ?_)
                                refine lv_iload_n hx hb dX3_readNew_279 rfl (lv_at hl 5 rfl) ?_
                                refine lv_iload hx hb dX3_readNew_280 (lv_at hl 2 rfl) ?_
                                refine lv_iadd hx hb dX3_readNew_282 ?_
                                refine lv_istore_n (lv' := [(2, .int (x2 + (nI (1 + bbN (cnl b t))))), (1, .int (x1 + 1)), (6, .int 1), (5, .int (nI (1 + bbN (cnl b t)))), (4, .int (cnl b t)), (3, .int b), (0, .ref g)]) hx hb dX3_readNew_283 rfl hl (by decide) rfl (fun ls hl => ?_)
                                refine lv_goto (tgt := 4) hx hb dX3_readNew_284 (by decide) ?_
                                have z2 := fnd_ne c221_2
                                rw [e1] at c247_5
                                have z3 : fr.length < 100 := by rcases Nat.lt_or_ge fr.length 100 with q | q; exact q; exact absurd ((nI_100e (by omega)).mpr (by omega)) c247_5
                                rw [e1] at c251_5
                                have z4 : ¬ fr.length = 0 := fun q => c251_5 ((nI_0iff (by omega)).mpr q)
                                have hk : nwk (cnl b t) fr.length = true := by simp [nwk, c205_8, z2, z3, z4]
                                have h2 := new_len hk
                                have q7 := rwf_snoc (c := cnl b t) p7 (by decide) e1 (by omega)
                                exact ih (t.drop (bbN (cnl b t))) (done ++ b :: t.take (bbN (cnl b t))) _ (upd g7 x1.toNatClampNeg (cnl b t)) _ _ H locs ls (by simp at hn ⊢; omega) (by rw [hy]; simp) (by rw [← hT]; simp [rnS, hk]; congr 1; (try rw [Nat.min_eq_left h2]); (try omega)) (by rw [e2, nI_add]; congr 1; simp; omega) (by rw [e1, nI_1]; simp) q7 (by simp; omega) hP hD hS (lv_sub hl [0, 1, 6] rfl)
                              · skip
                                refine lv_iload hx hb dX3_readNew_254 (lv_at hl 2 rfl) ?_
                                refine vp_callSi (W.runS ⟨hx, hb, hml, hown, hts⟩ (KX3_isMark l (cnl b t)) (va_cwS 1 hts gX3_readNew_X3_isMark rfl rfl rfl (by decide +kernel) ⟨Nat.le_of_ble_eq_true rfl, Nat.le_of_ble_eq_true rfl⟩) pcS_S rfl rfl hl.1 rfl (lv_room (Nat.le_of_ble_eq_true rfl)) dX3_readNew_256 ⟨Nat.zero_le _, Nat.zero_le _⟩) (fun r9 hr9 => ?_)
                                replace hr9 : r9 = fX2_isMark (cnl b t) := hr9.trans (x3_isMark _)
                                subst r9
                                refine lv_if_eq (tgt := 268) hx hb dX3_readNew_259 (by decide) (fun c259_5 => ?_) (fun c259_5 => ?_)
                                · skip
                                  refine lv_aload_n hx hb dX3_readNew_268 rfl (lv_at hl 6 rfl) ?_
                                  refine va_get (D := D) (ci := 4) (v := .ref a7) (C := RX3) (T := TX3) (N := 15) hx hb hts (by decide +kernel) hown hK hP 0 rfl rfl 7 (by decide) (hts (.fieldLink RX3 19 "CharacterRowsModel" "work" "[I") (by decide +kernel)) (fun _ h9 => h9) rfl dX3_readNew_269 ?_
                                  refine lv_iload_n hx hb dX3_readNew_272 rfl (lv_at hl 5 rfl) ?_
                                  refine lv_iload hx hb dX3_readNew_273 (lv_at hl 2 rfl) ?_
                                  refine va_iast hx hb hK hP hD hS 2 1 rfl rfl (rwf_sin p7 (by decide) e1 (by omega)) dX3_readNew_275 (fun H locs hP hD hS => ?_)
                                  have hP : va_P D vwCl [(g, .inr (4, [.int th, .ref a1, .int (nI y1.length), .ref a3, .int ct, .ref a5, .int oc, .ref a7, .ref a8, .ref a9, .int wn, .ref aB, .int tn, .int si, .int wg])), (a1, .inl (k1, 200, .inl g1)), (a7, .inl (k7, 400, .inl (upd g7 x1.toNatClampNeg (cnl b t))))] H := hP
                                  have hD : va_D A [(g, .inr (4, [.int th, .ref a1, .int (nI y1.length), .ref a3, .int ct, .ref a5, .int oc, .ref a7, .ref a8, .ref a9, .int wn, .ref aB, .int tn, .int si, .int wg])), (a1, .inl (k1, 200, .inl g1)), (a7, .inl (k7, 400, .inl (upd g7 x1.toNatClampNeg (cnl b t))))] := hD
                                  refine lv_iinc (v := (x1 + 1)) (lv' := [(1, .int (x1 + 1)), (6, .int 1), (5, .int (nI (1 + bbN (cnl b t)))), (4, .int (cnl b t)), (3, .int b), (2, .int x2), (0, .ref g)]) hx hb dX3_readNew_276 hl (k := 5) rfl rfl (by decide) rfl (fun ls hl => ?_)
                                  refine lv_iload_n hx hb dX3_readNew_279 rfl (lv_at hl 5 rfl) ?_
                                  refine lv_iload hx hb dX3_readNew_280 (lv_at hl 2 rfl) ?_
                                  refine lv_iadd hx hb dX3_readNew_282 ?_
                                  refine lv_istore_n (lv' := [(2, .int (x2 + (nI (1 + bbN (cnl b t))))), (1, .int (x1 + 1)), (6, .int 1), (5, .int (nI (1 + bbN (cnl b t)))), (4, .int (cnl b t)), (3, .int b), (0, .ref g)]) hx hb dX3_readNew_283 rfl hl (by decide) rfl (fun ls hl => ?_)
                                  refine lv_goto (tgt := 4) hx hb dX3_readNew_284 (by decide) ?_
                                  have z2 := fnd_ne c221_2
                                  rw [e1] at c247_5
                                  have z3 : fr.length < 100 := by rcases Nat.lt_or_ge fr.length 100 with q | q; exact q; exact absurd ((nI_100e (by omega)).mpr (by omega)) c247_5
                                  rw [e1] at c251_5
                                  have z4 : fr.length = 0 := (nI_0iff (by omega)).mp c251_5
                                  have hk : nwk (cnl b t) fr.length = true := by simp [nwk, c205_8, z2, z3, z4, c259_5]
                                  have h2 := new_len hk
                                  have q7 := rwf_snoc (c := cnl b t) p7 (by decide) e1 (by omega)
                                  exact ih (t.drop (bbN (cnl b t))) (done ++ b :: t.take (bbN (cnl b t))) _ (upd g7 x1.toNatClampNeg (cnl b t)) _ _ H locs ls (by simp at hn ⊢; omega) (by rw [hy]; simp) (by rw [← hT]; simp [rnS, hk]; congr 1; (try rw [Nat.min_eq_left h2]); (try omega)) (by rw [e2, nI_add]; congr 1; simp; omega) (by rw [e1, nI_1]; simp) q7 (by simp; omega) hP hD hS (lv_sub hl [0, 1, 6] rfl)
                                · skip
                                  refine lv_aload_n hx hb dX3_readNew_262 rfl (lv_at hl 6 rfl) ?_
                                  refine lv_iload_n hx hb dX3_readNew_263 rfl (lv_at hl 4 rfl) ?_
                                  refine clI (wr := [(a1, .inl (k1, 200, .inl g1)), (a7, .inl (k7, 400, .inl g7))]) (va_runV ⟨hx, hb, hml, hown, hts⟩ (KX3_bad l D g a1 a3 a5 a7 a8 a9 aB th (nI y1.length) ct oc wn tn si wg x2 _) (cwV 1 hts gX3_readNew_X3_bad rfl rfl rfl (by decide +kernel) ⟨Nat.le_of_ble_eq_true rfl, Nat.le_of_ble_eq_true rfl⟩) (pcM_V (hP.sub (ws' := [(g, .inr (4, [.int th, .ref a1, .int (nI y1.length), .ref a3, .int ct, .ref a5, .int oc, .ref a7, .ref a8, .ref a9, .int wn, .ref aB, .int tn, .int si, .int wg]))]) [0] rfl) (hD.sub (ws' := [(g, .inr (4, [.int th, .ref a1, .int (nI y1.length), .ref a3, .int ct, .ref a5, .int oc, .ref a7, .ref a8, .ref a9, .int wn, .ref aB, .int tn, .int si, .int wg]))]) [0] (by decide) rfl) (hK.sub (tys' := []) [] rfl) hN 0 rfl rfl) rfl rfl hl.1 rfl (lv_room (Nat.le_of_ble_eq_true rfl)) dX3_readNew_264 ⟨Nat.zero_le _, Nat.zero_le _⟩) hP hD hS hA [0] [1, 2] rfl rfl (by decide) (by decide) (fun r_19 u_19 H locs hw_19 hP hD hS => ?_)
                                  subst hw_19
                                  have hP : va_P D vwCl [(g, .inr (4, [.int th, .ref a1, .int (nI y1.length), .ref a3, .int ct, .ref a5, .int oc, .ref a7, .ref a8, .ref a9, .int wn, .ref aB, .int tn, .int si, .int x2])), (a1, .inl (k1, 200, .inl g1)), (a7, .inl (k7, 400, .inl g7))] H := hP.sub [2, 0, 1] rfl
                                  have hD : va_D A [(g, .inr (4, [.int th, .ref a1, .int (nI y1.length), .ref a3, .int ct, .ref a5, .int oc, .ref a7, .ref a8, .ref a9, .int wn, .ref aB, .int tn, .int si, .int x2])), (a1, .inl (k1, 200, .inl g1)), (a7, .inl (k7, 400, .inl g7))] := hD.sub [2, 0, 1] (by decide) rfl
                                  have z2 := fnd_ne c221_2
                                  rw [e1] at c247_5
                                  have z3 : fr.length < 100 := by rcases Nat.lt_or_ge fr.length 100 with q | q; exact q; exact absurd ((nI_100e (by omega)).mpr (by omega)) c247_5
                                  rw [e1] at c251_5
                                  have z4 : fr.length = 0 := (nI_0iff (by omega)).mp c251_5
                                  have hk : ¬ nwk (cnl b t) fr.length = true := by simp [nwk, c205_8, z2, z3, z4, c259_5]
                                  have e8 : (x2, fr) = T := by rw [← hT, e2]; simp [rnS, hk]
                                  have hne : ¬ T.1 = -1 := by rw [← e8]; show ¬ x2 = -1; rw [e2]; exact nI_ne1 (by omega)
                                  exact rtI hx hb hr hlocks dX3_readNew_267 (g7, x2) ⟨fun q => absurd q hne, fun _ => ⟨rfl, by rw [← e8]⟩⟩ hP hD hS
                        · skip
                          refine lv_iload hx hb dX3_readNew_224 (lv_at hl 1 rfl) ?_
                          refine vp_callSi (W.runS ⟨hx, hb, hml, hown, hts⟩ (KX3_isComposed l (cnl b t)) (va_cwS 1 hts gX3_readNew_X3_isComposed rfl rfl rfl (by decide +kernel) ⟨Nat.le_of_ble_eq_true rfl, Nat.le_of_ble_eq_true rfl⟩) pcS_S rfl rfl hl.1 rfl (lv_room (Nat.le_of_ble_eq_true rfl)) dX3_readNew_226 ⟨Nat.zero_le _, Nat.zero_le _⟩) (fun r9 hr9 => ?_)
                          replace hr9 : r9 = fX2_isComposed (cnl b t) := hr9.trans (x3_isComposed _)
                          subst r9
                          refine lv_if_eq (tgt := 236) hx hb dX3_readNew_229 (by decide) (fun c229_2 => ?_) (fun c229_2 => ?_)
                          · skip
                            refine lv_iconst (v := 0) hx hb dX3_readNew_236 (by decide) ?_
                            refine lv_istore (lv' := [(6, .int 0), (5, .int (nI (1 + bbN (cnl b t)))), (4, .int (cnl b t)), (3, .int b), (2, .int x2), (1, .int x1), (0, .ref g)]) hx hb dX3_readNew_237 hl (by decide) rfl (fun ls hl => ?_)
                            refine lv_iload hx hb dX3_readNew_239 (lv_at hl 0 rfl) ?_
                            refine lv_if_eq (tgt := 262) hx hb dX3_readNew_241 (by decide) (fun c241_15 => ?_) (fun c241_15 => ?_)
                            · skip
                              refine lv_aload_n hx hb dX3_readNew_262 rfl (lv_at hl 6 rfl) ?_
                              refine lv_iload_n hx hb dX3_readNew_263 rfl (lv_at hl 4 rfl) ?_
                              refine clI (wr := [(a1, .inl (k1, 200, .inl g1)), (a7, .inl (k7, 400, .inl g7))]) (va_runV ⟨hx, hb, hml, hown, hts⟩ (KX3_bad l D g a1 a3 a5 a7 a8 a9 aB th (nI y1.length) ct oc wn tn si wg x2 _) (cwV 1 hts gX3_readNew_X3_bad rfl rfl rfl (by decide +kernel) ⟨Nat.le_of_ble_eq_true rfl, Nat.le_of_ble_eq_true rfl⟩) (pcM_V (hP.sub (ws' := [(g, .inr (4, [.int th, .ref a1, .int (nI y1.length), .ref a3, .int ct, .ref a5, .int oc, .ref a7, .ref a8, .ref a9, .int wn, .ref aB, .int tn, .int si, .int wg]))]) [0] rfl) (hD.sub (ws' := [(g, .inr (4, [.int th, .ref a1, .int (nI y1.length), .ref a3, .int ct, .ref a5, .int oc, .ref a7, .ref a8, .ref a9, .int wn, .ref aB, .int tn, .int si, .int wg]))]) [0] (by decide) rfl) (hK.sub (tys' := []) [] rfl) hN 0 rfl rfl) rfl rfl hl.1 rfl (lv_room (Nat.le_of_ble_eq_true rfl)) dX3_readNew_264 ⟨Nat.zero_le _, Nat.zero_le _⟩) hP hD hS hA [0] [1, 2] rfl rfl (by decide) (by decide) (fun r_20 u_20 H locs hw_20 hP hD hS => ?_)
                              subst hw_20
                              have hP : va_P D vwCl [(g, .inr (4, [.int th, .ref a1, .int (nI y1.length), .ref a3, .int ct, .ref a5, .int oc, .ref a7, .ref a8, .ref a9, .int wn, .ref aB, .int tn, .int si, .int x2])), (a1, .inl (k1, 200, .inl g1)), (a7, .inl (k7, 400, .inl g7))] H := hP.sub [2, 0, 1] rfl
                              have hD : va_D A [(g, .inr (4, [.int th, .ref a1, .int (nI y1.length), .ref a3, .int ct, .ref a5, .int oc, .ref a7, .ref a8, .ref a9, .int wn, .ref aB, .int tn, .int si, .int x2])), (a1, .inl (k1, 200, .inl g1)), (a7, .inl (k7, 400, .inl g7))] := hD.sub [2, 0, 1] (by decide) rfl
                              have z2 := fnd_eq c221_2
                              have hk : ¬ nwk (cnl b t) fr.length = true := by simp [nwk, c205_8, z2, c229_2]
                              have e8 : (x2, fr) = T := by rw [← hT, e2]; simp [rnS, hk]
                              have hne : ¬ T.1 = -1 := by rw [← e8]; show ¬ x2 = -1; rw [e2]; exact nI_ne1 (by omega)
                              exact rtI hx hb hr hlocks dX3_readNew_267 (g7, x2) ⟨fun q => absurd q hne, fun _ => ⟨rfl, by rw [← e8]⟩⟩ hP hD hS
                            · exact absurd c241_15 (by decide)
                          · skip
                            refine lv_iconst (v := 1) hx hb dX3_readNew_232 (by decide) ?_
                            refine lv_goto (tgt := 237) hx hb dX3_readNew_233 (by decide) ?_
                            refine lv_istore (lv' := [(6, .int 1), (5, .int (nI (1 + bbN (cnl b t)))), (4, .int (cnl b t)), (3, .int b), (2, .int x2), (1, .int x1), (0, .ref g)]) hx hb dX3_readNew_237 hl (by decide) rfl (fun ls hl => ?_)
                            refine lv_iload hx hb dX3_readNew_239 (lv_at hl 0 rfl) ?_
                            refine lv_if_eq (tgt := 262) hx hb dX3_readNew_241 (by decide) (fun c241_16 => ?_) (fun c241_16 => ?_)
                            · exact absurd c241_16 (by decide)
                            · skip
                              refine lv_iload_n hx hb dX3_readNew_244 rfl (lv_at hl 5 rfl) ?_
                              refine lv_bipush (v := 100) hx hb dX3_readNew_245 (by decide) ?_
                              refine lv_icmp_eq (tgt := 262) hx hb dX3_readNew_247 (by decide) (fun c247_6 => ?_) (fun c247_6 => ?_)
                              · skip
                                refine lv_aload_n hx hb dX3_readNew_262 rfl (lv_at hl 6 rfl) ?_
                                refine lv_iload_n hx hb dX3_readNew_263 rfl (lv_at hl 4 rfl) ?_
                                refine clI (wr := [(a1, .inl (k1, 200, .inl g1)), (a7, .inl (k7, 400, .inl g7))]) (va_runV ⟨hx, hb, hml, hown, hts⟩ (KX3_bad l D g a1 a3 a5 a7 a8 a9 aB th (nI y1.length) ct oc wn tn si wg x2 _) (cwV 1 hts gX3_readNew_X3_bad rfl rfl rfl (by decide +kernel) ⟨Nat.le_of_ble_eq_true rfl, Nat.le_of_ble_eq_true rfl⟩) (pcM_V (hP.sub (ws' := [(g, .inr (4, [.int th, .ref a1, .int (nI y1.length), .ref a3, .int ct, .ref a5, .int oc, .ref a7, .ref a8, .ref a9, .int wn, .ref aB, .int tn, .int si, .int wg]))]) [0] rfl) (hD.sub (ws' := [(g, .inr (4, [.int th, .ref a1, .int (nI y1.length), .ref a3, .int ct, .ref a5, .int oc, .ref a7, .ref a8, .ref a9, .int wn, .ref aB, .int tn, .int si, .int wg]))]) [0] (by decide) rfl) (hK.sub (tys' := []) [] rfl) hN 0 rfl rfl) rfl rfl hl.1 rfl (lv_room (Nat.le_of_ble_eq_true rfl)) dX3_readNew_264 ⟨Nat.zero_le _, Nat.zero_le _⟩) hP hD hS hA [0] [1, 2] rfl rfl (by decide) (by decide) (fun r_21 u_21 H locs hw_21 hP hD hS => ?_)
                                subst hw_21
                                have hP : va_P D vwCl [(g, .inr (4, [.int th, .ref a1, .int (nI y1.length), .ref a3, .int ct, .ref a5, .int oc, .ref a7, .ref a8, .ref a9, .int wn, .ref aB, .int tn, .int si, .int x2])), (a1, .inl (k1, 200, .inl g1)), (a7, .inl (k7, 400, .inl g7))] H := hP.sub [2, 0, 1] rfl
                                have hD : va_D A [(g, .inr (4, [.int th, .ref a1, .int (nI y1.length), .ref a3, .int ct, .ref a5, .int oc, .ref a7, .ref a8, .ref a9, .int wn, .ref aB, .int tn, .int si, .int x2])), (a1, .inl (k1, 200, .inl g1)), (a7, .inl (k7, 400, .inl g7))] := hD.sub [2, 0, 1] (by decide) rfl
                                have z2 := fnd_eq c221_2
                                rw [e1] at c247_6
                                have z3 : fr.length = 100 := (nI_100e (by omega)).mp c247_6
                                have hk : ¬ nwk (cnl b t) fr.length = true := by simp [nwk, c205_8, z2, c229_2, z3]
                                have e8 : (x2, fr) = T := by rw [← hT, e2]; simp [rnS, hk]
                                have hne : ¬ T.1 = -1 := by rw [← e8]; show ¬ x2 = -1; rw [e2]; exact nI_ne1 (by omega)
                                exact rtI hx hb hr hlocks dX3_readNew_267 (g7, x2) ⟨fun q => absurd q hne, fun _ => ⟨rfl, by rw [← e8]⟩⟩ hP hD hS
                              · skip
                                refine lv_iload_n hx hb dX3_readNew_250 rfl (lv_at hl 5 rfl) ?_
                                refine lv_if_ne (tgt := 268) hx hb dX3_readNew_251 (by decide) (fun c251_6 => ?_) (fun c251_6 => ?_)
                                · skip
                                  refine lv_aload_n hx hb dX3_readNew_268 rfl (lv_at hl 6 rfl) ?_
                                  refine va_get (D := D) (ci := 4) (v := .ref a7) (C := RX3) (T := TX3) (N := 15) hx hb hts (by decide +kernel) hown hK hP 0 rfl rfl 7 (by decide) (hts (.fieldLink RX3 19 "CharacterRowsModel" "work" "[I") (by decide +kernel)) (fun _ h9 => h9) rfl dX3_readNew_269 ?_
                                  refine lv_iload_n hx hb dX3_readNew_272 rfl (lv_at hl 5 rfl) ?_
                                  refine lv_iload hx hb dX3_readNew_273 (lv_at hl 2 rfl) ?_
                                  refine va_iast hx hb hK hP hD hS 2 1 rfl rfl (rwf_sin p7 (by decide) e1 (by omega)) dX3_readNew_275 (fun H locs hP hD hS => ?_)
                                  have hP : va_P D vwCl [(g, .inr (4, [.int th, .ref a1, .int (nI y1.length), .ref a3, .int ct, .ref a5, .int oc, .ref a7, .ref a8, .ref a9, .int wn, .ref aB, .int tn, .int si, .int wg])), (a1, .inl (k1, 200, .inl g1)), (a7, .inl (k7, 400, .inl (upd g7 x1.toNatClampNeg (cnl b t))))] H := hP
                                  have hD : va_D A [(g, .inr (4, [.int th, .ref a1, .int (nI y1.length), .ref a3, .int ct, .ref a5, .int oc, .ref a7, .ref a8, .ref a9, .int wn, .ref aB, .int tn, .int si, .int wg])), (a1, .inl (k1, 200, .inl g1)), (a7, .inl (k7, 400, .inl (upd g7 x1.toNatClampNeg (cnl b t))))] := hD
                                  refine lv_iinc (v := (x1 + 1)) (lv' := [(1, .int (x1 + 1)), (6, .int 1), (5, .int (nI (1 + bbN (cnl b t)))), (4, .int (cnl b t)), (3, .int b), (2, .int x2), (0, .ref g)]) hx hb dX3_readNew_276 hl (k := 5) rfl rfl (by decide) rfl (fun ls hl => ?_)
                                  refine lv_iload_n hx hb dX3_readNew_279 rfl (lv_at hl 5 rfl) ?_
                                  refine lv_iload hx hb dX3_readNew_280 (lv_at hl 2 rfl) ?_
                                  refine lv_iadd hx hb dX3_readNew_282 ?_
                                  refine lv_istore_n (lv' := [(2, .int (x2 + (nI (1 + bbN (cnl b t))))), (1, .int (x1 + 1)), (6, .int 1), (5, .int (nI (1 + bbN (cnl b t)))), (4, .int (cnl b t)), (3, .int b), (0, .ref g)]) hx hb dX3_readNew_283 rfl hl (by decide) rfl (fun ls hl => ?_)
                                  refine lv_goto (tgt := 4) hx hb dX3_readNew_284 (by decide) ?_
                                  have z2 := fnd_eq c221_2
                                  rw [e1] at c247_6
                                  have z3 : fr.length < 100 := by rcases Nat.lt_or_ge fr.length 100 with q | q; exact q; exact absurd ((nI_100e (by omega)).mpr (by omega)) c247_6
                                  rw [e1] at c251_6
                                  have z4 : ¬ fr.length = 0 := fun q => c251_6 ((nI_0iff (by omega)).mpr q)
                                  have hk : nwk (cnl b t) fr.length = true := by simp [nwk, c205_8, z2, c229_2, z3, z4]
                                  have h2 := new_len hk
                                  have q7 := rwf_snoc (c := cnl b t) p7 (by decide) e1 (by omega)
                                  exact ih (t.drop (bbN (cnl b t))) (done ++ b :: t.take (bbN (cnl b t))) _ (upd g7 x1.toNatClampNeg (cnl b t)) _ _ H locs ls (by simp at hn ⊢; omega) (by rw [hy]; simp) (by rw [← hT]; simp [rnS, hk]; congr 1; (try rw [Nat.min_eq_left h2]); (try omega)) (by rw [e2, nI_add]; congr 1; simp; omega) (by rw [e1, nI_1]; simp) q7 (by simp; omega) hP hD hS (lv_sub hl [0, 1, 6] rfl)
                                · skip
                                  refine lv_iload hx hb dX3_readNew_254 (lv_at hl 2 rfl) ?_
                                  refine vp_callSi (W.runS ⟨hx, hb, hml, hown, hts⟩ (KX3_isMark l (cnl b t)) (va_cwS 1 hts gX3_readNew_X3_isMark rfl rfl rfl (by decide +kernel) ⟨Nat.le_of_ble_eq_true rfl, Nat.le_of_ble_eq_true rfl⟩) pcS_S rfl rfl hl.1 rfl (lv_room (Nat.le_of_ble_eq_true rfl)) dX3_readNew_256 ⟨Nat.zero_le _, Nat.zero_le _⟩) (fun r9 hr9 => ?_)
                                  replace hr9 : r9 = fX2_isMark (cnl b t) := hr9.trans (x3_isMark _)
                                  subst r9
                                  refine lv_if_eq (tgt := 268) hx hb dX3_readNew_259 (by decide) (fun c259_6 => ?_) (fun c259_6 => ?_)
                                  · skip
                                    refine lv_aload_n hx hb dX3_readNew_268 rfl (lv_at hl 6 rfl) ?_
                                    refine va_get (D := D) (ci := 4) (v := .ref a7) (C := RX3) (T := TX3) (N := 15) hx hb hts (by decide +kernel) hown hK hP 0 rfl rfl 7 (by decide) (hts (.fieldLink RX3 19 "CharacterRowsModel" "work" "[I") (by decide +kernel)) (fun _ h9 => h9) rfl dX3_readNew_269 ?_
                                    refine lv_iload_n hx hb dX3_readNew_272 rfl (lv_at hl 5 rfl) ?_
                                    refine lv_iload hx hb dX3_readNew_273 (lv_at hl 2 rfl) ?_
                                    refine va_iast hx hb hK hP hD hS 2 1 rfl rfl (rwf_sin p7 (by decide) e1 (by omega)) dX3_readNew_275 (fun H locs hP hD hS => ?_)
                                    have hP : va_P D vwCl [(g, .inr (4, [.int th, .ref a1, .int (nI y1.length), .ref a3, .int ct, .ref a5, .int oc, .ref a7, .ref a8, .ref a9, .int wn, .ref aB, .int tn, .int si, .int wg])), (a1, .inl (k1, 200, .inl g1)), (a7, .inl (k7, 400, .inl (upd g7 x1.toNatClampNeg (cnl b t))))] H := hP
                                    have hD : va_D A [(g, .inr (4, [.int th, .ref a1, .int (nI y1.length), .ref a3, .int ct, .ref a5, .int oc, .ref a7, .ref a8, .ref a9, .int wn, .ref aB, .int tn, .int si, .int wg])), (a1, .inl (k1, 200, .inl g1)), (a7, .inl (k7, 400, .inl (upd g7 x1.toNatClampNeg (cnl b t))))] := hD
                                    refine lv_iinc (v := (x1 + 1)) (lv' := [(1, .int (x1 + 1)), (6, .int 1), (5, .int (nI (1 + bbN (cnl b t)))), (4, .int (cnl b t)), (3, .int b), (2, .int x2), (0, .ref g)]) hx hb dX3_readNew_276 hl (k := 5) rfl rfl (by decide) rfl (fun ls hl => ?_)
                                    refine lv_iload_n hx hb dX3_readNew_279 rfl (lv_at hl 5 rfl) ?_
                                    refine lv_iload hx hb dX3_readNew_280 (lv_at hl 2 rfl) ?_
                                    refine lv_iadd hx hb dX3_readNew_282 ?_
                                    refine lv_istore_n (lv' := [(2, .int (x2 + (nI (1 + bbN (cnl b t))))), (1, .int (x1 + 1)), (6, .int 1), (5, .int (nI (1 + bbN (cnl b t)))), (4, .int (cnl b t)), (3, .int b), (0, .ref g)]) hx hb dX3_readNew_283 rfl hl (by decide) rfl (fun ls hl => ?_)
                                    refine lv_goto (tgt := 4) hx hb dX3_readNew_284 (by decide) ?_
                                    have z2 := fnd_eq c221_2
                                    rw [e1] at c247_6
                                    have z3 : fr.length < 100 := by rcases Nat.lt_or_ge fr.length 100 with q | q; exact q; exact absurd ((nI_100e (by omega)).mpr (by omega)) c247_6
                                    rw [e1] at c251_6
                                    have z4 : fr.length = 0 := (nI_0iff (by omega)).mp c251_6
                                    have hk : nwk (cnl b t) fr.length = true := by simp [nwk, c205_8, z2, c229_2, z3, z4, c259_6]
                                    have h2 := new_len hk
                                    have q7 := rwf_snoc (c := cnl b t) p7 (by decide) e1 (by omega)
                                    exact ih (t.drop (bbN (cnl b t))) (done ++ b :: t.take (bbN (cnl b t))) _ (upd g7 x1.toNatClampNeg (cnl b t)) _ _ H locs ls (by simp at hn ⊢; omega) (by rw [hy]; simp) (by rw [← hT]; simp [rnS, hk]; congr 1; (try rw [Nat.min_eq_left h2]); (try omega)) (by rw [e2, nI_add]; congr 1; simp; omega) (by rw [e1, nI_1]; simp) q7 (by simp; omega) hP hD hS (lv_sub hl [0, 1, 6] rfl)
                                  · skip
                                    refine lv_aload_n hx hb dX3_readNew_262 rfl (lv_at hl 6 rfl) ?_
                                    refine lv_iload_n hx hb dX3_readNew_263 rfl (lv_at hl 4 rfl) ?_
                                    refine clI (wr := [(a1, .inl (k1, 200, .inl g1)), (a7, .inl (k7, 400, .inl g7))]) (va_runV ⟨hx, hb, hml, hown, hts⟩ (KX3_bad l D g a1 a3 a5 a7 a8 a9 aB th (nI y1.length) ct oc wn tn si wg x2 _) (cwV 1 hts gX3_readNew_X3_bad rfl rfl rfl (by decide +kernel) ⟨Nat.le_of_ble_eq_true rfl, Nat.le_of_ble_eq_true rfl⟩) (pcM_V (hP.sub (ws' := [(g, .inr (4, [.int th, .ref a1, .int (nI y1.length), .ref a3, .int ct, .ref a5, .int oc, .ref a7, .ref a8, .ref a9, .int wn, .ref aB, .int tn, .int si, .int wg]))]) [0] rfl) (hD.sub (ws' := [(g, .inr (4, [.int th, .ref a1, .int (nI y1.length), .ref a3, .int ct, .ref a5, .int oc, .ref a7, .ref a8, .ref a9, .int wn, .ref aB, .int tn, .int si, .int wg]))]) [0] (by decide) rfl) (hK.sub (tys' := []) [] rfl) hN 0 rfl rfl) rfl rfl hl.1 rfl (lv_room (Nat.le_of_ble_eq_true rfl)) dX3_readNew_264 ⟨Nat.zero_le _, Nat.zero_le _⟩) hP hD hS hA [0] [1, 2] rfl rfl (by decide) (by decide) (fun r_22 u_22 H locs hw_22 hP hD hS => ?_)
                                    subst hw_22
                                    have hP : va_P D vwCl [(g, .inr (4, [.int th, .ref a1, .int (nI y1.length), .ref a3, .int ct, .ref a5, .int oc, .ref a7, .ref a8, .ref a9, .int wn, .ref aB, .int tn, .int si, .int x2])), (a1, .inl (k1, 200, .inl g1)), (a7, .inl (k7, 400, .inl g7))] H := hP.sub [2, 0, 1] rfl
                                    have hD : va_D A [(g, .inr (4, [.int th, .ref a1, .int (nI y1.length), .ref a3, .int ct, .ref a5, .int oc, .ref a7, .ref a8, .ref a9, .int wn, .ref aB, .int tn, .int si, .int x2])), (a1, .inl (k1, 200, .inl g1)), (a7, .inl (k7, 400, .inl g7))] := hD.sub [2, 0, 1] (by decide) rfl
                                    have z2 := fnd_eq c221_2
                                    rw [e1] at c247_6
                                    have z3 : fr.length < 100 := by rcases Nat.lt_or_ge fr.length 100 with q | q; exact q; exact absurd ((nI_100e (by omega)).mpr (by omega)) c247_6
                                    rw [e1] at c251_6
                                    have z4 : fr.length = 0 := (nI_0iff (by omega)).mp c251_6
                                    have hk : ¬ nwk (cnl b t) fr.length = true := by simp [nwk, c205_8, z2, c229_2, z3, z4, c259_6]
                                    have e8 : (x2, fr) = T := by rw [← hT, e2]; simp [rnS, hk]
                                    have hne : ¬ T.1 = -1 := by rw [← e8]; show ¬ x2 = -1; rw [e2]; exact nI_ne1 (by omega)
                                    exact rtI hx hb hr hlocks dX3_readNew_267 (g7, x2) ⟨fun q => absurd q hne, fun _ => ⟨rfl, by rw [← e8]⟩⟩ hP hD hS
                  · skip
                    refine lv_iconst (v := 0) hx hb dX3_readNew_93 (by decide) ?_
                    refine lv_goto (tgt := 99) hx hb dX3_readNew_94 (by decide) ?_
                    refine lv_istore (lv' := [(4, .int 0), (5, .int 1), (3, .int b), (2, .int x2), (1, .int x1), (0, .ref g)]) hx hb dX3_readNew_99 hl (by decide) rfl (fun ls hl => ?_)
                    refine lv_iconst (v := 2) hx hb dX3_readNew_101 (by decide) ?_
                    refine lv_istore (lv' := [(5, .int 2), (4, .int 0), (3, .int b), (2, .int x2), (1, .int x1), (0, .ref g)]) hx hb dX3_readNew_102 hl (by decide) rfl (fun ls hl => ?_)
                    refine lv_goto (tgt := 200) hx hb dX3_readNew_104 (by decide) ?_
                    have hv4 : cnl b t = -1 := by rw [cnl, cn2 c29_1 c42_1 c49_1, if_neg g1_.1, if_pos g1_.2, if_neg]; rw [bb_0 (i32_nle.mp c90_1)]; decide
                    refine lv_iload hx hb dX3_readNew_200 (lv_at hl 1 rfl) ?_
                    refine vp_callSi (W.runS ⟨hx, hb, hml, hown, hts⟩ (KX3_isPlain l 0) (va_cwS 1 hts gX3_readNew_X3_isPlain rfl rfl rfl (by decide +kernel) ⟨Nat.le_of_ble_eq_true rfl, Nat.le_of_ble_eq_true rfl⟩) pcS_S rfl rfl hl.1 rfl (lv_room (Nat.le_of_ble_eq_true rfl)) dX3_readNew_202 ⟨Nat.zero_le _, Nat.zero_le _⟩) (fun r9 hr9 => ?_)
                    replace hr9 : r9 = fX2_isPlain 0 := hr9.trans (x3_isPlain _)
                    subst r9
                    refine lv_if_ne (tgt := 232) hx hb dX3_readNew_205 (by decide) (fun c205_9 => ?_) (fun c205_9 => ?_)
                    · skip
                      exact absurd (by decide) c205_9
                    · skip
                      refine lv_iload hx hb dX3_readNew_208 (lv_at hl 1 rfl) ?_
                      refine lv_bipush (v := 127) hx hb dX3_readNew_210 (by decide) ?_
                      refine lv_icmp_le (tgt := 236) hx hb dX3_readNew_212 (by decide) (fun c212_9 => ?_) (fun c212_9 => ?_)
                      · skip
                        refine lv_iconst (v := 0) hx hb dX3_readNew_236 (by decide) ?_
                        refine lv_istore (lv' := [(6, .int 0), (5, .int 2), (4, .int 0), (3, .int b), (2, .int x2), (1, .int x1), (0, .ref g)]) hx hb dX3_readNew_237 hl (by decide) rfl (fun ls hl => ?_)
                        refine lv_iload hx hb dX3_readNew_239 (lv_at hl 0 rfl) ?_
                        refine lv_if_eq (tgt := 262) hx hb dX3_readNew_241 (by decide) (fun c241_17 => ?_) (fun c241_17 => ?_)
                        · skip
                          refine lv_aload_n hx hb dX3_readNew_262 rfl (lv_at hl 6 rfl) ?_
                          refine lv_iload_n hx hb dX3_readNew_263 rfl (lv_at hl 4 rfl) ?_
                          refine clI (wr := [(a1, .inl (k1, 200, .inl g1)), (a7, .inl (k7, 400, .inl g7))]) (va_runV ⟨hx, hb, hml, hown, hts⟩ (KX3_bad l D g a1 a3 a5 a7 a8 a9 aB th (nI y1.length) ct oc wn tn si wg x2 _) (cwV 1 hts gX3_readNew_X3_bad rfl rfl rfl (by decide +kernel) ⟨Nat.le_of_ble_eq_true rfl, Nat.le_of_ble_eq_true rfl⟩) (pcM_V (hP.sub (ws' := [(g, .inr (4, [.int th, .ref a1, .int (nI y1.length), .ref a3, .int ct, .ref a5, .int oc, .ref a7, .ref a8, .ref a9, .int wn, .ref aB, .int tn, .int si, .int wg]))]) [0] rfl) (hD.sub (ws' := [(g, .inr (4, [.int th, .ref a1, .int (nI y1.length), .ref a3, .int ct, .ref a5, .int oc, .ref a7, .ref a8, .ref a9, .int wn, .ref aB, .int tn, .int si, .int wg]))]) [0] (by decide) rfl) (hK.sub (tys' := []) [] rfl) hN 0 rfl rfl) rfl rfl hl.1 rfl (lv_room (Nat.le_of_ble_eq_true rfl)) dX3_readNew_264 ⟨Nat.zero_le _, Nat.zero_le _⟩) hP hD hS hA [0] [1, 2] rfl rfl (by decide) (by decide) (fun r_23 u_23 H locs hw_23 hP hD hS => ?_)
                          subst hw_23
                          have hP : va_P D vwCl [(g, .inr (4, [.int th, .ref a1, .int (nI y1.length), .ref a3, .int ct, .ref a5, .int oc, .ref a7, .ref a8, .ref a9, .int wn, .ref aB, .int tn, .int si, .int x2])), (a1, .inl (k1, 200, .inl g1)), (a7, .inl (k7, 400, .inl g7))] H := hP.sub [2, 0, 1] rfl
                          have hD : va_D A [(g, .inr (4, [.int th, .ref a1, .int (nI y1.length), .ref a3, .int ct, .ref a5, .int oc, .ref a7, .ref a8, .ref a9, .int wn, .ref aB, .int tn, .int si, .int x2])), (a1, .inl (k1, 200, .inl g1)), (a7, .inl (k7, 400, .inl g7))] := hD.sub [2, 0, 1] (by decide) rfl
                          have hk : ¬ nwk (cnl b t) fr.length = true := fun q => nwk_ne q hv4
                          have e8 : (x2, fr) = T := by rw [← hT, e2]; simp [rnS, hk]
                          have hne : ¬ T.1 = -1 := by rw [← e8]; show ¬ x2 = -1; rw [e2]; exact nI_ne1 (by omega)
                          exact rtI hx hb hr hlocks dX3_readNew_267 (g7, x2) ⟨fun q => absurd q hne, fun _ => ⟨rfl, by rw [← e8]⟩⟩ hP hD hS
                        · exact absurd c241_17 (by decide)
                      · exact absurd c212_9 (by decide)
          · skip
            refine lv_iload_n hx hb dX3_readNew_32 rfl (lv_at hl 2 rfl) ?_
            refine lv_istore (lv' := [(4, .int b), (5, .int 1), (3, .int b), (2, .int x2), (1, .int x1), (0, .ref g)]) hx hb dX3_readNew_33 hl (by decide) rfl (fun ls hl => ?_)
            refine lv_goto (tgt := 200) hx hb dX3_readNew_35 (by decide) ?_
            have hv4 : b = cnl b t := (cn1 c29_1).symm
            have hv5 : (1 : Int32) = nI (1 + bbN (cnl b t)) := by rw [← hv4]; unfold bbN; rw [if_pos (i32_nle.mp c29_1)]; rfl
            have hl : lv_has ls 7 [(4, .int (cnl b t)), (5, .int (nI (1 + bbN (cnl b t)))), (3, .int b), (2, .int x2), (1, .int x1), (0, .ref g)] := by rw [← hv5, ← hv4]; exact hl
            refine lv_iload hx hb dX3_readNew_200 (lv_at hl 0 rfl) ?_
            refine vp_callSi (W.runS ⟨hx, hb, hml, hown, hts⟩ (KX3_isPlain l (cnl b t)) (va_cwS 1 hts gX3_readNew_X3_isPlain rfl rfl rfl (by decide +kernel) ⟨Nat.le_of_ble_eq_true rfl, Nat.le_of_ble_eq_true rfl⟩) pcS_S rfl rfl hl.1 rfl (lv_room (Nat.le_of_ble_eq_true rfl)) dX3_readNew_202 ⟨Nat.zero_le _, Nat.zero_le _⟩) (fun r9 hr9 => ?_)
            replace hr9 : r9 = fX2_isPlain (cnl b t) := hr9.trans (x3_isPlain _)
            subst r9
            refine lv_if_ne (tgt := 232) hx hb dX3_readNew_205 (by decide) (fun c205_10 => ?_) (fun c205_10 => ?_)
            · skip
              refine lv_iconst (v := 1) hx hb dX3_readNew_232 (by decide) ?_
              refine lv_goto (tgt := 237) hx hb dX3_readNew_233 (by decide) ?_
              refine lv_istore (lv' := [(6, .int 1), (4, .int (cnl b t)), (5, .int (nI (1 + bbN (cnl b t)))), (3, .int b), (2, .int x2), (1, .int x1), (0, .ref g)]) hx hb dX3_readNew_237 hl (by decide) rfl (fun ls hl => ?_)
              refine lv_iload hx hb dX3_readNew_239 (lv_at hl 0 rfl) ?_
              refine lv_if_eq (tgt := 262) hx hb dX3_readNew_241 (by decide) (fun c241_18 => ?_) (fun c241_18 => ?_)
              · exact absurd c241_18 (by decide)
              · skip
                refine lv_iload_n hx hb dX3_readNew_244 rfl (lv_at hl 5 rfl) ?_
                refine lv_bipush (v := 100) hx hb dX3_readNew_245 (by decide) ?_
                refine lv_icmp_eq (tgt := 262) hx hb dX3_readNew_247 (by decide) (fun c247_7 => ?_) (fun c247_7 => ?_)
                · skip
                  refine lv_aload_n hx hb dX3_readNew_262 rfl (lv_at hl 6 rfl) ?_
                  refine lv_iload_n hx hb dX3_readNew_263 rfl (lv_at hl 4 rfl) ?_
                  refine clI (wr := [(a1, .inl (k1, 200, .inl g1)), (a7, .inl (k7, 400, .inl g7))]) (va_runV ⟨hx, hb, hml, hown, hts⟩ (KX3_bad l D g a1 a3 a5 a7 a8 a9 aB th (nI y1.length) ct oc wn tn si wg x2 _) (cwV 1 hts gX3_readNew_X3_bad rfl rfl rfl (by decide +kernel) ⟨Nat.le_of_ble_eq_true rfl, Nat.le_of_ble_eq_true rfl⟩) (pcM_V (hP.sub (ws' := [(g, .inr (4, [.int th, .ref a1, .int (nI y1.length), .ref a3, .int ct, .ref a5, .int oc, .ref a7, .ref a8, .ref a9, .int wn, .ref aB, .int tn, .int si, .int wg]))]) [0] rfl) (hD.sub (ws' := [(g, .inr (4, [.int th, .ref a1, .int (nI y1.length), .ref a3, .int ct, .ref a5, .int oc, .ref a7, .ref a8, .ref a9, .int wn, .ref aB, .int tn, .int si, .int wg]))]) [0] (by decide) rfl) (hK.sub (tys' := []) [] rfl) hN 0 rfl rfl) rfl rfl hl.1 rfl (lv_room (Nat.le_of_ble_eq_true rfl)) dX3_readNew_264 ⟨Nat.zero_le _, Nat.zero_le _⟩) hP hD hS hA [0] [1, 2] rfl rfl (by decide) (by decide) (fun r_24 u_24 H locs hw_24 hP hD hS => ?_)
                  subst hw_24
                  have hP : va_P D vwCl [(g, .inr (4, [.int th, .ref a1, .int (nI y1.length), .ref a3, .int ct, .ref a5, .int oc, .ref a7, .ref a8, .ref a9, .int wn, .ref aB, .int tn, .int si, .int x2])), (a1, .inl (k1, 200, .inl g1)), (a7, .inl (k7, 400, .inl g7))] H := hP.sub [2, 0, 1] rfl
                  have hD : va_D A [(g, .inr (4, [.int th, .ref a1, .int (nI y1.length), .ref a3, .int ct, .ref a5, .int oc, .ref a7, .ref a8, .ref a9, .int wn, .ref aB, .int tn, .int si, .int x2])), (a1, .inl (k1, 200, .inl g1)), (a7, .inl (k7, 400, .inl g7))] := hD.sub [2, 0, 1] (by decide) rfl
                  rw [e1] at c247_7
                  have z3 : fr.length = 100 := (nI_100e (by omega)).mp c247_7
                  have hk : ¬ nwk (cnl b t) fr.length = true := by simp [nwk, c205_10, z3]
                  have e8 : (x2, fr) = T := by rw [← hT, e2]; simp [rnS, hk]
                  have hne : ¬ T.1 = -1 := by rw [← e8]; show ¬ x2 = -1; rw [e2]; exact nI_ne1 (by omega)
                  exact rtI hx hb hr hlocks dX3_readNew_267 (g7, x2) ⟨fun q => absurd q hne, fun _ => ⟨rfl, by rw [← e8]⟩⟩ hP hD hS
                · skip
                  refine lv_iload_n hx hb dX3_readNew_250 rfl (lv_at hl 5 rfl) ?_
                  refine lv_if_ne (tgt := 268) hx hb dX3_readNew_251 (by decide) (fun c251_7 => ?_) (fun c251_7 => ?_)
                  · skip
                    refine lv_aload_n hx hb dX3_readNew_268 rfl (lv_at hl 6 rfl) ?_
                    refine va_get (D := D) (ci := 4) (v := .ref a7) (C := RX3) (T := TX3) (N := 15) hx hb hts (by decide +kernel) hown hK hP 0 rfl rfl 7 (by decide) (hts (.fieldLink RX3 19 "CharacterRowsModel" "work" "[I") (by decide +kernel)) (fun _ h9 => h9) rfl dX3_readNew_269 ?_
                    refine lv_iload_n hx hb dX3_readNew_272 rfl (lv_at hl 5 rfl) ?_
                    refine lv_iload hx hb dX3_readNew_273 (lv_at hl 1 rfl) ?_
                    refine va_iast hx hb hK hP hD hS 2 1 rfl rfl (rwf_sin p7 (by decide) e1 (by omega)) dX3_readNew_275 (fun H locs hP hD hS => ?_)
                    have hP : va_P D vwCl [(g, .inr (4, [.int th, .ref a1, .int (nI y1.length), .ref a3, .int ct, .ref a5, .int oc, .ref a7, .ref a8, .ref a9, .int wn, .ref aB, .int tn, .int si, .int wg])), (a1, .inl (k1, 200, .inl g1)), (a7, .inl (k7, 400, .inl (upd g7 x1.toNatClampNeg (cnl b t))))] H := hP
                    have hD : va_D A [(g, .inr (4, [.int th, .ref a1, .int (nI y1.length), .ref a3, .int ct, .ref a5, .int oc, .ref a7, .ref a8, .ref a9, .int wn, .ref aB, .int tn, .int si, .int wg])), (a1, .inl (k1, 200, .inl g1)), (a7, .inl (k7, 400, .inl (upd g7 x1.toNatClampNeg (cnl b t))))] := hD
                    refine lv_iinc (v := (x1 + 1)) (lv' := [(1, .int (x1 + 1)), (6, .int 1), (4, .int (cnl b t)), (5, .int (nI (1 + bbN (cnl b t)))), (3, .int b), (2, .int x2), (0, .ref g)]) hx hb dX3_readNew_276 hl (k := 5) rfl rfl (by decide) rfl (fun ls hl => ?_)
                    refine lv_iload_n hx hb dX3_readNew_279 rfl (lv_at hl 5 rfl) ?_
                    refine lv_iload hx hb dX3_readNew_280 (lv_at hl 3 rfl) ?_
                    refine lv_iadd hx hb dX3_readNew_282 ?_
                    refine lv_istore_n (lv' := [(2, .int (x2 + (nI (1 + bbN (cnl b t))))), (1, .int (x1 + 1)), (6, .int 1), (4, .int (cnl b t)), (5, .int (nI (1 + bbN (cnl b t)))), (3, .int b), (0, .ref g)]) hx hb dX3_readNew_283 rfl hl (by decide) rfl (fun ls hl => ?_)
                    refine lv_goto (tgt := 4) hx hb dX3_readNew_284 (by decide) ?_
                    rw [e1] at c247_7
                    have z3 : fr.length < 100 := by rcases Nat.lt_or_ge fr.length 100 with q | q; exact q; exact absurd ((nI_100e (by omega)).mpr (by omega)) c247_7
                    rw [e1] at c251_7
                    have z4 : ¬ fr.length = 0 := fun q => c251_7 ((nI_0iff (by omega)).mpr q)
                    have hk : nwk (cnl b t) fr.length = true := by simp [nwk, c205_10, z3, z4]
                    have h2 := new_len hk
                    have q7 := rwf_snoc (c := cnl b t) p7 (by decide) e1 (by omega)
                    exact ih (t.drop (bbN (cnl b t))) (done ++ b :: t.take (bbN (cnl b t))) _ (upd g7 x1.toNatClampNeg (cnl b t)) _ _ H locs ls (by simp at hn ⊢; omega) (by rw [hy]; simp) (by rw [← hT]; simp [rnS, hk]; congr 1; (try rw [Nat.min_eq_left h2]); (try omega)) (by rw [e2, nI_add]; congr 1; simp; omega) (by rw [e1, nI_1]; simp) q7 (by simp; omega) hP hD hS (lv_sub hl [0, 1, 6] rfl)
                  · skip
                    refine lv_iload hx hb dX3_readNew_254 (lv_at hl 1 rfl) ?_
                    refine vp_callSi (W.runS ⟨hx, hb, hml, hown, hts⟩ (KX3_isMark l (cnl b t)) (va_cwS 1 hts gX3_readNew_X3_isMark rfl rfl rfl (by decide +kernel) ⟨Nat.le_of_ble_eq_true rfl, Nat.le_of_ble_eq_true rfl⟩) pcS_S rfl rfl hl.1 rfl (lv_room (Nat.le_of_ble_eq_true rfl)) dX3_readNew_256 ⟨Nat.zero_le _, Nat.zero_le _⟩) (fun r9 hr9 => ?_)
                    replace hr9 : r9 = fX2_isMark (cnl b t) := hr9.trans (x3_isMark _)
                    subst r9
                    refine lv_if_eq (tgt := 268) hx hb dX3_readNew_259 (by decide) (fun c259_7 => ?_) (fun c259_7 => ?_)
                    · skip
                      refine lv_aload_n hx hb dX3_readNew_268 rfl (lv_at hl 6 rfl) ?_
                      refine va_get (D := D) (ci := 4) (v := .ref a7) (C := RX3) (T := TX3) (N := 15) hx hb hts (by decide +kernel) hown hK hP 0 rfl rfl 7 (by decide) (hts (.fieldLink RX3 19 "CharacterRowsModel" "work" "[I") (by decide +kernel)) (fun _ h9 => h9) rfl dX3_readNew_269 ?_
                      refine lv_iload_n hx hb dX3_readNew_272 rfl (lv_at hl 5 rfl) ?_
                      refine lv_iload hx hb dX3_readNew_273 (lv_at hl 1 rfl) ?_
                      refine va_iast hx hb hK hP hD hS 2 1 rfl rfl (rwf_sin p7 (by decide) e1 (by omega)) dX3_readNew_275 (fun H locs hP hD hS => ?_)
                      have hP : va_P D vwCl [(g, .inr (4, [.int th, .ref a1, .int (nI y1.length), .ref a3, .int ct, .ref a5, .int oc, .ref a7, .ref a8, .ref a9, .int wn, .ref aB, .int tn, .int si, .int wg])), (a1, .inl (k1, 200, .inl g1)), (a7, .inl (k7, 400, .inl (upd g7 x1.toNatClampNeg (cnl b t))))] H := hP
                      have hD : va_D A [(g, .inr (4, [.int th, .ref a1, .int (nI y1.length), .ref a3, .int ct, .ref a5, .int oc, .ref a7, .ref a8, .ref a9, .int wn, .ref aB, .int tn, .int si, .int wg])), (a1, .inl (k1, 200, .inl g1)), (a7, .inl (k7, 400, .inl (upd g7 x1.toNatClampNeg (cnl b t))))] := hD
                      refine lv_iinc (v := (x1 + 1)) (lv' := [(1, .int (x1 + 1)), (6, .int 1), (4, .int (cnl b t)), (5, .int (nI (1 + bbN (cnl b t)))), (3, .int b), (2, .int x2), (0, .ref g)]) hx hb dX3_readNew_276 hl (k := 5) rfl rfl (by decide) rfl (fun ls hl => ?_)
                      refine lv_iload_n hx hb dX3_readNew_279 rfl (lv_at hl 5 rfl) ?_
                      refine lv_iload hx hb dX3_readNew_280 (lv_at hl 3 rfl) ?_
                      refine lv_iadd hx hb dX3_readNew_282 ?_
                      refine lv_istore_n (lv' := [(2, .int (x2 + (nI (1 + bbN (cnl b t))))), (1, .int (x1 + 1)), (6, .int 1), (4, .int (cnl b t)), (5, .int (nI (1 + bbN (cnl b t)))), (3, .int b), (0, .ref g)]) hx hb dX3_readNew_283 rfl hl (by decide) rfl (fun ls hl => ?_)
                      refine lv_goto (tgt := 4) hx hb dX3_readNew_284 (by decide) ?_
                      rw [e1] at c247_7
                      have z3 : fr.length < 100 := by rcases Nat.lt_or_ge fr.length 100 with q | q; exact q; exact absurd ((nI_100e (by omega)).mpr (by omega)) c247_7
                      rw [e1] at c251_7
                      have z4 : fr.length = 0 := (nI_0iff (by omega)).mp c251_7
                      have hk : nwk (cnl b t) fr.length = true := by simp [nwk, c205_10, z3, z4, c259_7]
                      have h2 := new_len hk
                      have q7 := rwf_snoc (c := cnl b t) p7 (by decide) e1 (by omega)
                      exact ih (t.drop (bbN (cnl b t))) (done ++ b :: t.take (bbN (cnl b t))) _ (upd g7 x1.toNatClampNeg (cnl b t)) _ _ H locs ls (by simp at hn ⊢; omega) (by rw [hy]; simp) (by rw [← hT]; simp [rnS, hk]; congr 1; (try rw [Nat.min_eq_left h2]); (try omega)) (by rw [e2, nI_add]; congr 1; simp; omega) (by rw [e1, nI_1]; simp) q7 (by simp; omega) hP hD hS (lv_sub hl [0, 1, 6] rfl)
                    · skip
                      refine lv_aload_n hx hb dX3_readNew_262 rfl (lv_at hl 6 rfl) ?_
                      refine lv_iload_n hx hb dX3_readNew_263 rfl (lv_at hl 4 rfl) ?_
                      refine clI (wr := [(a1, .inl (k1, 200, .inl g1)), (a7, .inl (k7, 400, .inl g7))]) (va_runV ⟨hx, hb, hml, hown, hts⟩ (KX3_bad l D g a1 a3 a5 a7 a8 a9 aB th (nI y1.length) ct oc wn tn si wg x2 _) (cwV 1 hts gX3_readNew_X3_bad rfl rfl rfl (by decide +kernel) ⟨Nat.le_of_ble_eq_true rfl, Nat.le_of_ble_eq_true rfl⟩) (pcM_V (hP.sub (ws' := [(g, .inr (4, [.int th, .ref a1, .int (nI y1.length), .ref a3, .int ct, .ref a5, .int oc, .ref a7, .ref a8, .ref a9, .int wn, .ref aB, .int tn, .int si, .int wg]))]) [0] rfl) (hD.sub (ws' := [(g, .inr (4, [.int th, .ref a1, .int (nI y1.length), .ref a3, .int ct, .ref a5, .int oc, .ref a7, .ref a8, .ref a9, .int wn, .ref aB, .int tn, .int si, .int wg]))]) [0] (by decide) rfl) (hK.sub (tys' := []) [] rfl) hN 0 rfl rfl) rfl rfl hl.1 rfl (lv_room (Nat.le_of_ble_eq_true rfl)) dX3_readNew_264 ⟨Nat.zero_le _, Nat.zero_le _⟩) hP hD hS hA [0] [1, 2] rfl rfl (by decide) (by decide) (fun r_25 u_25 H locs hw_25 hP hD hS => ?_)
                      subst hw_25
                      have hP : va_P D vwCl [(g, .inr (4, [.int th, .ref a1, .int (nI y1.length), .ref a3, .int ct, .ref a5, .int oc, .ref a7, .ref a8, .ref a9, .int wn, .ref aB, .int tn, .int si, .int x2])), (a1, .inl (k1, 200, .inl g1)), (a7, .inl (k7, 400, .inl g7))] H := hP.sub [2, 0, 1] rfl
                      have hD : va_D A [(g, .inr (4, [.int th, .ref a1, .int (nI y1.length), .ref a3, .int ct, .ref a5, .int oc, .ref a7, .ref a8, .ref a9, .int wn, .ref aB, .int tn, .int si, .int x2])), (a1, .inl (k1, 200, .inl g1)), (a7, .inl (k7, 400, .inl g7))] := hD.sub [2, 0, 1] (by decide) rfl
                      rw [e1] at c247_7
                      have z3 : fr.length < 100 := by rcases Nat.lt_or_ge fr.length 100 with q | q; exact q; exact absurd ((nI_100e (by omega)).mpr (by omega)) c247_7
                      rw [e1] at c251_7
                      have z4 : fr.length = 0 := (nI_0iff (by omega)).mp c251_7
                      have hk : ¬ nwk (cnl b t) fr.length = true := by simp [nwk, c205_10, z3, z4, c259_7]
                      have e8 : (x2, fr) = T := by rw [← hT, e2]; simp [rnS, hk]
                      have hne : ¬ T.1 = -1 := by rw [← e8]; show ¬ x2 = -1; rw [e2]; exact nI_ne1 (by omega)
                      exact rtI hx hb hr hlocks dX3_readNew_267 (g7, x2) ⟨fun q => absurd q hne, fun _ => ⟨rfl, by rw [← e8]⟩⟩ hP hD hS
            · skip
              refine lv_iload hx hb dX3_readNew_208 (lv_at hl 0 rfl) ?_
              refine lv_bipush (v := 127) hx hb dX3_readNew_210 (by decide) ?_
              refine lv_icmp_le (tgt := 236) hx hb dX3_readNew_212 (by decide) (fun c212_10 => ?_) (fun c212_10 => ?_)
              · skip
                refine lv_iconst (v := 0) hx hb dX3_readNew_236 (by decide) ?_
                refine lv_istore (lv' := [(6, .int 0), (4, .int (cnl b t)), (5, .int (nI (1 + bbN (cnl b t)))), (3, .int b), (2, .int x2), (1, .int x1), (0, .ref g)]) hx hb dX3_readNew_237 hl (by decide) rfl (fun ls hl => ?_)
                refine lv_iload hx hb dX3_readNew_239 (lv_at hl 0 rfl) ?_
                refine lv_if_eq (tgt := 262) hx hb dX3_readNew_241 (by decide) (fun c241_19 => ?_) (fun c241_19 => ?_)
                · skip
                  refine lv_aload_n hx hb dX3_readNew_262 rfl (lv_at hl 6 rfl) ?_
                  refine lv_iload_n hx hb dX3_readNew_263 rfl (lv_at hl 4 rfl) ?_
                  refine clI (wr := [(a1, .inl (k1, 200, .inl g1)), (a7, .inl (k7, 400, .inl g7))]) (va_runV ⟨hx, hb, hml, hown, hts⟩ (KX3_bad l D g a1 a3 a5 a7 a8 a9 aB th (nI y1.length) ct oc wn tn si wg x2 _) (cwV 1 hts gX3_readNew_X3_bad rfl rfl rfl (by decide +kernel) ⟨Nat.le_of_ble_eq_true rfl, Nat.le_of_ble_eq_true rfl⟩) (pcM_V (hP.sub (ws' := [(g, .inr (4, [.int th, .ref a1, .int (nI y1.length), .ref a3, .int ct, .ref a5, .int oc, .ref a7, .ref a8, .ref a9, .int wn, .ref aB, .int tn, .int si, .int wg]))]) [0] rfl) (hD.sub (ws' := [(g, .inr (4, [.int th, .ref a1, .int (nI y1.length), .ref a3, .int ct, .ref a5, .int oc, .ref a7, .ref a8, .ref a9, .int wn, .ref aB, .int tn, .int si, .int wg]))]) [0] (by decide) rfl) (hK.sub (tys' := []) [] rfl) hN 0 rfl rfl) rfl rfl hl.1 rfl (lv_room (Nat.le_of_ble_eq_true rfl)) dX3_readNew_264 ⟨Nat.zero_le _, Nat.zero_le _⟩) hP hD hS hA [0] [1, 2] rfl rfl (by decide) (by decide) (fun r_26 u_26 H locs hw_26 hP hD hS => ?_)
                  subst hw_26
                  have hP : va_P D vwCl [(g, .inr (4, [.int th, .ref a1, .int (nI y1.length), .ref a3, .int ct, .ref a5, .int oc, .ref a7, .ref a8, .ref a9, .int wn, .ref aB, .int tn, .int si, .int x2])), (a1, .inl (k1, 200, .inl g1)), (a7, .inl (k7, 400, .inl g7))] H := hP.sub [2, 0, 1] rfl
                  have hD : va_D A [(g, .inr (4, [.int th, .ref a1, .int (nI y1.length), .ref a3, .int ct, .ref a5, .int oc, .ref a7, .ref a8, .ref a9, .int wn, .ref aB, .int tn, .int si, .int x2])), (a1, .inl (k1, 200, .inl g1)), (a7, .inl (k7, 400, .inl g7))] := hD.sub [2, 0, 1] (by decide) rfl
                  have z1 := cmp_lo c212_10
                  have hk : ¬ nwk (cnl b t) fr.length = true := by simp [nwk, c205_10, z1.1, z1.2]
                  have e8 : (x2, fr) = T := by rw [← hT, e2]; simp [rnS, hk]
                  have hne : ¬ T.1 = -1 := by rw [← e8]; show ¬ x2 = -1; rw [e2]; exact nI_ne1 (by omega)
                  exact rtI hx hb hr hlocks dX3_readNew_267 (g7, x2) ⟨fun q => absurd q hne, fun _ => ⟨rfl, by rw [← e8]⟩⟩ hP hD hS
                · exact absurd c241_19 (by decide)
              · skip
                refine lv_iload hx hb dX3_readNew_215 (lv_at hl 0 rfl) ?_
                refine vp_callSi (W.runS ⟨hx, hb, hml, hown, hts⟩ (KX3_find l (cnl b t)) (va_cwS 1 hts gX3_readNew_X3_find rfl rfl rfl (by decide +kernel) ⟨Nat.le_of_ble_eq_true rfl, Nat.le_of_ble_eq_true rfl⟩) pcS_S rfl rfl hl.1 rfl (lv_room (Nat.le_of_ble_eq_true rfl)) dX3_readNew_217 ⟨Nat.zero_le _, Nat.zero_le _⟩) (fun r9 hr9 => ?_)
                subst r9
                refine lv_iconst (v := (-1)) hx hb dX3_readNew_220 (by decide) ?_
                refine lv_icmp_ne (tgt := 232) hx hb dX3_readNew_221 (by decide) (fun c221_3 => ?_) (fun c221_3 => ?_)
                · skip
                  refine lv_iconst (v := 1) hx hb dX3_readNew_232 (by decide) ?_
                  refine lv_goto (tgt := 237) hx hb dX3_readNew_233 (by decide) ?_
                  refine lv_istore (lv' := [(6, .int 1), (4, .int (cnl b t)), (5, .int (nI (1 + bbN (cnl b t)))), (3, .int b), (2, .int x2), (1, .int x1), (0, .ref g)]) hx hb dX3_readNew_237 hl (by decide) rfl (fun ls hl => ?_)
                  refine lv_iload hx hb dX3_readNew_239 (lv_at hl 0 rfl) ?_
                  refine lv_if_eq (tgt := 262) hx hb dX3_readNew_241 (by decide) (fun c241_20 => ?_) (fun c241_20 => ?_)
                  · exact absurd c241_20 (by decide)
                  · skip
                    refine lv_iload_n hx hb dX3_readNew_244 rfl (lv_at hl 5 rfl) ?_
                    refine lv_bipush (v := 100) hx hb dX3_readNew_245 (by decide) ?_
                    refine lv_icmp_eq (tgt := 262) hx hb dX3_readNew_247 (by decide) (fun c247_8 => ?_) (fun c247_8 => ?_)
                    · skip
                      refine lv_aload_n hx hb dX3_readNew_262 rfl (lv_at hl 6 rfl) ?_
                      refine lv_iload_n hx hb dX3_readNew_263 rfl (lv_at hl 4 rfl) ?_
                      refine clI (wr := [(a1, .inl (k1, 200, .inl g1)), (a7, .inl (k7, 400, .inl g7))]) (va_runV ⟨hx, hb, hml, hown, hts⟩ (KX3_bad l D g a1 a3 a5 a7 a8 a9 aB th (nI y1.length) ct oc wn tn si wg x2 _) (cwV 1 hts gX3_readNew_X3_bad rfl rfl rfl (by decide +kernel) ⟨Nat.le_of_ble_eq_true rfl, Nat.le_of_ble_eq_true rfl⟩) (pcM_V (hP.sub (ws' := [(g, .inr (4, [.int th, .ref a1, .int (nI y1.length), .ref a3, .int ct, .ref a5, .int oc, .ref a7, .ref a8, .ref a9, .int wn, .ref aB, .int tn, .int si, .int wg]))]) [0] rfl) (hD.sub (ws' := [(g, .inr (4, [.int th, .ref a1, .int (nI y1.length), .ref a3, .int ct, .ref a5, .int oc, .ref a7, .ref a8, .ref a9, .int wn, .ref aB, .int tn, .int si, .int wg]))]) [0] (by decide) rfl) (hK.sub (tys' := []) [] rfl) hN 0 rfl rfl) rfl rfl hl.1 rfl (lv_room (Nat.le_of_ble_eq_true rfl)) dX3_readNew_264 ⟨Nat.zero_le _, Nat.zero_le _⟩) hP hD hS hA [0] [1, 2] rfl rfl (by decide) (by decide) (fun r_27 u_27 H locs hw_27 hP hD hS => ?_)
                      subst hw_27
                      have hP : va_P D vwCl [(g, .inr (4, [.int th, .ref a1, .int (nI y1.length), .ref a3, .int ct, .ref a5, .int oc, .ref a7, .ref a8, .ref a9, .int wn, .ref aB, .int tn, .int si, .int x2])), (a1, .inl (k1, 200, .inl g1)), (a7, .inl (k7, 400, .inl g7))] H := hP.sub [2, 0, 1] rfl
                      have hD : va_D A [(g, .inr (4, [.int th, .ref a1, .int (nI y1.length), .ref a3, .int ct, .ref a5, .int oc, .ref a7, .ref a8, .ref a9, .int wn, .ref aB, .int tn, .int si, .int x2])), (a1, .inl (k1, 200, .inl g1)), (a7, .inl (k7, 400, .inl g7))] := hD.sub [2, 0, 1] (by decide) rfl
                      have z2 := fnd_ne c221_3
                      rw [e1] at c247_8
                      have z3 : fr.length = 100 := (nI_100e (by omega)).mp c247_8
                      have hk : ¬ nwk (cnl b t) fr.length = true := by simp [nwk, c205_10, z2, z3]
                      have e8 : (x2, fr) = T := by rw [← hT, e2]; simp [rnS, hk]
                      have hne : ¬ T.1 = -1 := by rw [← e8]; show ¬ x2 = -1; rw [e2]; exact nI_ne1 (by omega)
                      exact rtI hx hb hr hlocks dX3_readNew_267 (g7, x2) ⟨fun q => absurd q hne, fun _ => ⟨rfl, by rw [← e8]⟩⟩ hP hD hS
                    · skip
                      refine lv_iload_n hx hb dX3_readNew_250 rfl (lv_at hl 5 rfl) ?_
                      refine lv_if_ne (tgt := 268) hx hb dX3_readNew_251 (by decide) (fun c251_8 => ?_) (fun c251_8 => ?_)
                      · skip
                        refine lv_aload_n hx hb dX3_readNew_268 rfl (lv_at hl 6 rfl) ?_
                        refine va_get (D := D) (ci := 4) (v := .ref a7) (C := RX3) (T := TX3) (N := 15) hx hb hts (by decide +kernel) hown hK hP 0 rfl rfl 7 (by decide) (hts (.fieldLink RX3 19 "CharacterRowsModel" "work" "[I") (by decide +kernel)) (fun _ h9 => h9) rfl dX3_readNew_269 ?_
                        refine lv_iload_n hx hb dX3_readNew_272 rfl (lv_at hl 5 rfl) ?_
                        refine lv_iload hx hb dX3_readNew_273 (lv_at hl 1 rfl) ?_
                        refine va_iast hx hb hK hP hD hS 2 1 rfl rfl (rwf_sin p7 (by decide) e1 (by omega)) dX3_readNew_275 (fun H locs hP hD hS => ?_)
                        have hP : va_P D vwCl [(g, .inr (4, [.int th, .ref a1, .int (nI y1.length), .ref a3, .int ct, .ref a5, .int oc, .ref a7, .ref a8, .ref a9, .int wn, .ref aB, .int tn, .int si, .int wg])), (a1, .inl (k1, 200, .inl g1)), (a7, .inl (k7, 400, .inl (upd g7 x1.toNatClampNeg (cnl b t))))] H := hP
                        have hD : va_D A [(g, .inr (4, [.int th, .ref a1, .int (nI y1.length), .ref a3, .int ct, .ref a5, .int oc, .ref a7, .ref a8, .ref a9, .int wn, .ref aB, .int tn, .int si, .int wg])), (a1, .inl (k1, 200, .inl g1)), (a7, .inl (k7, 400, .inl (upd g7 x1.toNatClampNeg (cnl b t))))] := hD
                        refine lv_iinc (v := (x1 + 1)) (lv' := [(1, .int (x1 + 1)), (6, .int 1), (4, .int (cnl b t)), (5, .int (nI (1 + bbN (cnl b t)))), (3, .int b), (2, .int x2), (0, .ref g)]) hx hb dX3_readNew_276 hl (k := 5) rfl rfl (by decide) rfl (fun ls hl => ?_)
                        refine lv_iload_n hx hb dX3_readNew_279 rfl (lv_at hl 5 rfl) ?_
                        refine lv_iload hx hb dX3_readNew_280 (lv_at hl 3 rfl) ?_
                        refine lv_iadd hx hb dX3_readNew_282 ?_
                        refine lv_istore_n (lv' := [(2, .int (x2 + (nI (1 + bbN (cnl b t))))), (1, .int (x1 + 1)), (6, .int 1), (4, .int (cnl b t)), (5, .int (nI (1 + bbN (cnl b t)))), (3, .int b), (0, .ref g)]) hx hb dX3_readNew_283 rfl hl (by decide) rfl (fun ls hl => ?_)
                        refine lv_goto (tgt := 4) hx hb dX3_readNew_284 (by decide) ?_
                        have z2 := fnd_ne c221_3
                        rw [e1] at c247_8
                        have z3 : fr.length < 100 := by rcases Nat.lt_or_ge fr.length 100 with q | q; exact q; exact absurd ((nI_100e (by omega)).mpr (by omega)) c247_8
                        rw [e1] at c251_8
                        have z4 : ¬ fr.length = 0 := fun q => c251_8 ((nI_0iff (by omega)).mpr q)
                        have hk : nwk (cnl b t) fr.length = true := by simp [nwk, c205_10, z2, z3, z4]
                        have h2 := new_len hk
                        have q7 := rwf_snoc (c := cnl b t) p7 (by decide) e1 (by omega)
                        exact ih (t.drop (bbN (cnl b t))) (done ++ b :: t.take (bbN (cnl b t))) _ (upd g7 x1.toNatClampNeg (cnl b t)) _ _ H locs ls (by simp at hn ⊢; omega) (by rw [hy]; simp) (by rw [← hT]; simp [rnS, hk]; congr 1; (try rw [Nat.min_eq_left h2]); (try omega)) (by rw [e2, nI_add]; congr 1; simp; omega) (by rw [e1, nI_1]; simp) q7 (by simp; omega) hP hD hS (lv_sub hl [0, 1, 6] rfl)
                      · skip
                        refine lv_iload hx hb dX3_readNew_254 (lv_at hl 1 rfl) ?_
                        refine vp_callSi (W.runS ⟨hx, hb, hml, hown, hts⟩ (KX3_isMark l (cnl b t)) (va_cwS 1 hts gX3_readNew_X3_isMark rfl rfl rfl (by decide +kernel) ⟨Nat.le_of_ble_eq_true rfl, Nat.le_of_ble_eq_true rfl⟩) pcS_S rfl rfl hl.1 rfl (lv_room (Nat.le_of_ble_eq_true rfl)) dX3_readNew_256 ⟨Nat.zero_le _, Nat.zero_le _⟩) (fun r9 hr9 => ?_)
                        replace hr9 : r9 = fX2_isMark (cnl b t) := hr9.trans (x3_isMark _)
                        subst r9
                        refine lv_if_eq (tgt := 268) hx hb dX3_readNew_259 (by decide) (fun c259_8 => ?_) (fun c259_8 => ?_)
                        · skip
                          refine lv_aload_n hx hb dX3_readNew_268 rfl (lv_at hl 6 rfl) ?_
                          refine va_get (D := D) (ci := 4) (v := .ref a7) (C := RX3) (T := TX3) (N := 15) hx hb hts (by decide +kernel) hown hK hP 0 rfl rfl 7 (by decide) (hts (.fieldLink RX3 19 "CharacterRowsModel" "work" "[I") (by decide +kernel)) (fun _ h9 => h9) rfl dX3_readNew_269 ?_
                          refine lv_iload_n hx hb dX3_readNew_272 rfl (lv_at hl 5 rfl) ?_
                          refine lv_iload hx hb dX3_readNew_273 (lv_at hl 1 rfl) ?_
                          refine va_iast hx hb hK hP hD hS 2 1 rfl rfl (rwf_sin p7 (by decide) e1 (by omega)) dX3_readNew_275 (fun H locs hP hD hS => ?_)
                          have hP : va_P D vwCl [(g, .inr (4, [.int th, .ref a1, .int (nI y1.length), .ref a3, .int ct, .ref a5, .int oc, .ref a7, .ref a8, .ref a9, .int wn, .ref aB, .int tn, .int si, .int wg])), (a1, .inl (k1, 200, .inl g1)), (a7, .inl (k7, 400, .inl (upd g7 x1.toNatClampNeg (cnl b t))))] H := hP
                          have hD : va_D A [(g, .inr (4, [.int th, .ref a1, .int (nI y1.length), .ref a3, .int ct, .ref a5, .int oc, .ref a7, .ref a8, .ref a9, .int wn, .ref aB, .int tn, .int si, .int wg])), (a1, .inl (k1, 200, .inl g1)), (a7, .inl (k7, 400, .inl (upd g7 x1.toNatClampNeg (cnl b t))))] := hD
                          refine lv_iinc (v := (x1 + 1)) (lv' := [(1, .int (x1 + 1)), (6, .int 1), (4, .int (cnl b t)), (5, .int (nI (1 + bbN (cnl b t)))), (3, .int b), (2, .int x2), (0, .ref g)]) hx hb dX3_readNew_276 hl (k := 5) rfl rfl (by decide) rfl (fun ls hl => ?_)
                          refine lv_iload_n hx hb dX3_readNew_279 rfl (lv_at hl 5 rfl) ?_
                          refine lv_iload hx hb dX3_readNew_280 (lv_at hl 3 rfl) ?_
                          refine lv_iadd hx hb dX3_readNew_282 ?_
                          refine lv_istore_n (lv' := [(2, .int (x2 + (nI (1 + bbN (cnl b t))))), (1, .int (x1 + 1)), (6, .int 1), (4, .int (cnl b t)), (5, .int (nI (1 + bbN (cnl b t)))), (3, .int b), (0, .ref g)]) hx hb dX3_readNew_283 rfl hl (by decide) rfl (fun ls hl => ?_)
                          refine lv_goto (tgt := 4) hx hb dX3_readNew_284 (by decide) ?_
                          have z2 := fnd_ne c221_3
                          rw [e1] at c247_8
                          have z3 : fr.length < 100 := by rcases Nat.lt_or_ge fr.length 100 with q | q; exact q; exact absurd ((nI_100e (by omega)).mpr (by omega)) c247_8
                          rw [e1] at c251_8
                          have z4 : fr.length = 0 := (nI_0iff (by omega)).mp c251_8
                          have hk : nwk (cnl b t) fr.length = true := by simp [nwk, c205_10, z2, z3, z4, c259_8]
                          have h2 := new_len hk
                          have q7 := rwf_snoc (c := cnl b t) p7 (by decide) e1 (by omega)
                          exact ih (t.drop (bbN (cnl b t))) (done ++ b :: t.take (bbN (cnl b t))) _ (upd g7 x1.toNatClampNeg (cnl b t)) _ _ H locs ls (by simp at hn ⊢; omega) (by rw [hy]; simp) (by rw [← hT]; simp [rnS, hk]; congr 1; (try rw [Nat.min_eq_left h2]); (try omega)) (by rw [e2, nI_add]; congr 1; simp; omega) (by rw [e1, nI_1]; simp) q7 (by simp; omega) hP hD hS (lv_sub hl [0, 1, 6] rfl)
                        · skip
                          refine lv_aload_n hx hb dX3_readNew_262 rfl (lv_at hl 6 rfl) ?_
                          refine lv_iload_n hx hb dX3_readNew_263 rfl (lv_at hl 4 rfl) ?_
                          refine clI (wr := [(a1, .inl (k1, 200, .inl g1)), (a7, .inl (k7, 400, .inl g7))]) (va_runV ⟨hx, hb, hml, hown, hts⟩ (KX3_bad l D g a1 a3 a5 a7 a8 a9 aB th (nI y1.length) ct oc wn tn si wg x2 _) (cwV 1 hts gX3_readNew_X3_bad rfl rfl rfl (by decide +kernel) ⟨Nat.le_of_ble_eq_true rfl, Nat.le_of_ble_eq_true rfl⟩) (pcM_V (hP.sub (ws' := [(g, .inr (4, [.int th, .ref a1, .int (nI y1.length), .ref a3, .int ct, .ref a5, .int oc, .ref a7, .ref a8, .ref a9, .int wn, .ref aB, .int tn, .int si, .int wg]))]) [0] rfl) (hD.sub (ws' := [(g, .inr (4, [.int th, .ref a1, .int (nI y1.length), .ref a3, .int ct, .ref a5, .int oc, .ref a7, .ref a8, .ref a9, .int wn, .ref aB, .int tn, .int si, .int wg]))]) [0] (by decide) rfl) (hK.sub (tys' := []) [] rfl) hN 0 rfl rfl) rfl rfl hl.1 rfl (lv_room (Nat.le_of_ble_eq_true rfl)) dX3_readNew_264 ⟨Nat.zero_le _, Nat.zero_le _⟩) hP hD hS hA [0] [1, 2] rfl rfl (by decide) (by decide) (fun r_28 u_28 H locs hw_28 hP hD hS => ?_)
                          subst hw_28
                          have hP : va_P D vwCl [(g, .inr (4, [.int th, .ref a1, .int (nI y1.length), .ref a3, .int ct, .ref a5, .int oc, .ref a7, .ref a8, .ref a9, .int wn, .ref aB, .int tn, .int si, .int x2])), (a1, .inl (k1, 200, .inl g1)), (a7, .inl (k7, 400, .inl g7))] H := hP.sub [2, 0, 1] rfl
                          have hD : va_D A [(g, .inr (4, [.int th, .ref a1, .int (nI y1.length), .ref a3, .int ct, .ref a5, .int oc, .ref a7, .ref a8, .ref a9, .int wn, .ref aB, .int tn, .int si, .int x2])), (a1, .inl (k1, 200, .inl g1)), (a7, .inl (k7, 400, .inl g7))] := hD.sub [2, 0, 1] (by decide) rfl
                          have z2 := fnd_ne c221_3
                          rw [e1] at c247_8
                          have z3 : fr.length < 100 := by rcases Nat.lt_or_ge fr.length 100 with q | q; exact q; exact absurd ((nI_100e (by omega)).mpr (by omega)) c247_8
                          rw [e1] at c251_8
                          have z4 : fr.length = 0 := (nI_0iff (by omega)).mp c251_8
                          have hk : ¬ nwk (cnl b t) fr.length = true := by simp [nwk, c205_10, z2, z3, z4, c259_8]
                          have e8 : (x2, fr) = T := by rw [← hT, e2]; simp [rnS, hk]
                          have hne : ¬ T.1 = -1 := by rw [← e8]; show ¬ x2 = -1; rw [e2]; exact nI_ne1 (by omega)
                          exact rtI hx hb hr hlocks dX3_readNew_267 (g7, x2) ⟨fun q => absurd q hne, fun _ => ⟨rfl, by rw [← e8]⟩⟩ hP hD hS
                · skip
                  refine lv_iload hx hb dX3_readNew_224 (lv_at hl 0 rfl) ?_
                  refine vp_callSi (W.runS ⟨hx, hb, hml, hown, hts⟩ (KX3_isComposed l (cnl b t)) (va_cwS 1 hts gX3_readNew_X3_isComposed rfl rfl rfl (by decide +kernel) ⟨Nat.le_of_ble_eq_true rfl, Nat.le_of_ble_eq_true rfl⟩) pcS_S rfl rfl hl.1 rfl (lv_room (Nat.le_of_ble_eq_true rfl)) dX3_readNew_226 ⟨Nat.zero_le _, Nat.zero_le _⟩) (fun r9 hr9 => ?_)
                  replace hr9 : r9 = fX2_isComposed (cnl b t) := hr9.trans (x3_isComposed _)
                  subst r9
                  refine lv_if_eq (tgt := 236) hx hb dX3_readNew_229 (by decide) (fun c229_3 => ?_) (fun c229_3 => ?_)
                  · skip
                    refine lv_iconst (v := 0) hx hb dX3_readNew_236 (by decide) ?_
                    refine lv_istore (lv' := [(6, .int 0), (4, .int (cnl b t)), (5, .int (nI (1 + bbN (cnl b t)))), (3, .int b), (2, .int x2), (1, .int x1), (0, .ref g)]) hx hb dX3_readNew_237 hl (by decide) rfl (fun ls hl => ?_)
                    refine lv_iload hx hb dX3_readNew_239 (lv_at hl 0 rfl) ?_
                    refine lv_if_eq (tgt := 262) hx hb dX3_readNew_241 (by decide) (fun c241_21 => ?_) (fun c241_21 => ?_)
                    · skip
                      refine lv_aload_n hx hb dX3_readNew_262 rfl (lv_at hl 6 rfl) ?_
                      refine lv_iload_n hx hb dX3_readNew_263 rfl (lv_at hl 4 rfl) ?_
                      refine clI (wr := [(a1, .inl (k1, 200, .inl g1)), (a7, .inl (k7, 400, .inl g7))]) (va_runV ⟨hx, hb, hml, hown, hts⟩ (KX3_bad l D g a1 a3 a5 a7 a8 a9 aB th (nI y1.length) ct oc wn tn si wg x2 _) (cwV 1 hts gX3_readNew_X3_bad rfl rfl rfl (by decide +kernel) ⟨Nat.le_of_ble_eq_true rfl, Nat.le_of_ble_eq_true rfl⟩) (pcM_V (hP.sub (ws' := [(g, .inr (4, [.int th, .ref a1, .int (nI y1.length), .ref a3, .int ct, .ref a5, .int oc, .ref a7, .ref a8, .ref a9, .int wn, .ref aB, .int tn, .int si, .int wg]))]) [0] rfl) (hD.sub (ws' := [(g, .inr (4, [.int th, .ref a1, .int (nI y1.length), .ref a3, .int ct, .ref a5, .int oc, .ref a7, .ref a8, .ref a9, .int wn, .ref aB, .int tn, .int si, .int wg]))]) [0] (by decide) rfl) (hK.sub (tys' := []) [] rfl) hN 0 rfl rfl) rfl rfl hl.1 rfl (lv_room (Nat.le_of_ble_eq_true rfl)) dX3_readNew_264 ⟨Nat.zero_le _, Nat.zero_le _⟩) hP hD hS hA [0] [1, 2] rfl rfl (by decide) (by decide) (fun r_29 u_29 H locs hw_29 hP hD hS => ?_)
                      subst hw_29
                      have hP : va_P D vwCl [(g, .inr (4, [.int th, .ref a1, .int (nI y1.length), .ref a3, .int ct, .ref a5, .int oc, .ref a7, .ref a8, .ref a9, .int wn, .ref aB, .int tn, .int si, .int x2])), (a1, .inl (k1, 200, .inl g1)), (a7, .inl (k7, 400, .inl g7))] H := hP.sub [2, 0, 1] rfl
                      have hD : va_D A [(g, .inr (4, [.int th, .ref a1, .int (nI y1.length), .ref a3, .int ct, .ref a5, .int oc, .ref a7, .ref a8, .ref a9, .int wn, .ref aB, .int tn, .int si, .int x2])), (a1, .inl (k1, 200, .inl g1)), (a7, .inl (k7, 400, .inl g7))] := hD.sub [2, 0, 1] (by decide) rfl
                      have z2 := fnd_eq c221_3
                      have hk : ¬ nwk (cnl b t) fr.length = true := by simp [nwk, c205_10, z2, c229_3]
                      have e8 : (x2, fr) = T := by rw [← hT, e2]; simp [rnS, hk]
                      have hne : ¬ T.1 = -1 := by rw [← e8]; show ¬ x2 = -1; rw [e2]; exact nI_ne1 (by omega)
                      exact rtI hx hb hr hlocks dX3_readNew_267 (g7, x2) ⟨fun q => absurd q hne, fun _ => ⟨rfl, by rw [← e8]⟩⟩ hP hD hS
                    · exact absurd c241_21 (by decide)
                  · skip
                    refine lv_iconst (v := 1) hx hb dX3_readNew_232 (by decide) ?_
                    refine lv_goto (tgt := 237) hx hb dX3_readNew_233 (by decide) ?_
                    refine lv_istore (lv' := [(6, .int 1), (4, .int (cnl b t)), (5, .int (nI (1 + bbN (cnl b t)))), (3, .int b), (2, .int x2), (1, .int x1), (0, .ref g)]) hx hb dX3_readNew_237 hl (by decide) rfl (fun ls hl => ?_)
                    refine lv_iload hx hb dX3_readNew_239 (lv_at hl 0 rfl) ?_
                    refine lv_if_eq (tgt := 262) hx hb dX3_readNew_241 (by decide) (fun c241_22 => ?_) (fun c241_22 => ?_)
                    · exact absurd c241_22 (by decide)
                    · skip
                      refine lv_iload_n hx hb dX3_readNew_244 rfl (lv_at hl 5 rfl) ?_
                      refine lv_bipush (v := 100) hx hb dX3_readNew_245 (by decide) ?_
                      refine lv_icmp_eq (tgt := 262) hx hb dX3_readNew_247 (by decide) (fun c247_9 => ?_) (fun c247_9 => ?_)
                      · skip
                        refine lv_aload_n hx hb dX3_readNew_262 rfl (lv_at hl 6 rfl) ?_
                        refine lv_iload_n hx hb dX3_readNew_263 rfl (lv_at hl 4 rfl) ?_
                        refine clI (wr := [(a1, .inl (k1, 200, .inl g1)), (a7, .inl (k7, 400, .inl g7))]) (va_runV ⟨hx, hb, hml, hown, hts⟩ (KX3_bad l D g a1 a3 a5 a7 a8 a9 aB th (nI y1.length) ct oc wn tn si wg x2 _) (cwV 1 hts gX3_readNew_X3_bad rfl rfl rfl (by decide +kernel) ⟨Nat.le_of_ble_eq_true rfl, Nat.le_of_ble_eq_true rfl⟩) (pcM_V (hP.sub (ws' := [(g, .inr (4, [.int th, .ref a1, .int (nI y1.length), .ref a3, .int ct, .ref a5, .int oc, .ref a7, .ref a8, .ref a9, .int wn, .ref aB, .int tn, .int si, .int wg]))]) [0] rfl) (hD.sub (ws' := [(g, .inr (4, [.int th, .ref a1, .int (nI y1.length), .ref a3, .int ct, .ref a5, .int oc, .ref a7, .ref a8, .ref a9, .int wn, .ref aB, .int tn, .int si, .int wg]))]) [0] (by decide) rfl) (hK.sub (tys' := []) [] rfl) hN 0 rfl rfl) rfl rfl hl.1 rfl (lv_room (Nat.le_of_ble_eq_true rfl)) dX3_readNew_264 ⟨Nat.zero_le _, Nat.zero_le _⟩) hP hD hS hA [0] [1, 2] rfl rfl (by decide) (by decide) (fun r_30 u_30 H locs hw_30 hP hD hS => ?_)
                        subst hw_30
                        have hP : va_P D vwCl [(g, .inr (4, [.int th, .ref a1, .int (nI y1.length), .ref a3, .int ct, .ref a5, .int oc, .ref a7, .ref a8, .ref a9, .int wn, .ref aB, .int tn, .int si, .int x2])), (a1, .inl (k1, 200, .inl g1)), (a7, .inl (k7, 400, .inl g7))] H := hP.sub [2, 0, 1] rfl
                        have hD : va_D A [(g, .inr (4, [.int th, .ref a1, .int (nI y1.length), .ref a3, .int ct, .ref a5, .int oc, .ref a7, .ref a8, .ref a9, .int wn, .ref aB, .int tn, .int si, .int x2])), (a1, .inl (k1, 200, .inl g1)), (a7, .inl (k7, 400, .inl g7))] := hD.sub [2, 0, 1] (by decide) rfl
                        have z2 := fnd_eq c221_3
                        rw [e1] at c247_9
                        have z3 : fr.length = 100 := (nI_100e (by omega)).mp c247_9
                        have hk : ¬ nwk (cnl b t) fr.length = true := by simp [nwk, c205_10, z2, c229_3, z3]
                        have e8 : (x2, fr) = T := by rw [← hT, e2]; simp [rnS, hk]
                        have hne : ¬ T.1 = -1 := by rw [← e8]; show ¬ x2 = -1; rw [e2]; exact nI_ne1 (by omega)
                        exact rtI hx hb hr hlocks dX3_readNew_267 (g7, x2) ⟨fun q => absurd q hne, fun _ => ⟨rfl, by rw [← e8]⟩⟩ hP hD hS
                      · skip
                        refine lv_iload_n hx hb dX3_readNew_250 rfl (lv_at hl 5 rfl) ?_
                        refine lv_if_ne (tgt := 268) hx hb dX3_readNew_251 (by decide) (fun c251_9 => ?_) (fun c251_9 => ?_)
                        · skip
                          refine lv_aload_n hx hb dX3_readNew_268 rfl (lv_at hl 6 rfl) ?_
                          refine va_get (D := D) (ci := 4) (v := .ref a7) (C := RX3) (T := TX3) (N := 15) hx hb hts (by decide +kernel) hown hK hP 0 rfl rfl 7 (by decide) (hts (.fieldLink RX3 19 "CharacterRowsModel" "work" "[I") (by decide +kernel)) (fun _ h9 => h9) rfl dX3_readNew_269 ?_
                          refine lv_iload_n hx hb dX3_readNew_272 rfl (lv_at hl 5 rfl) ?_
                          refine lv_iload hx hb dX3_readNew_273 (lv_at hl 1 rfl) ?_
                          refine va_iast hx hb hK hP hD hS 2 1 rfl rfl (rwf_sin p7 (by decide) e1 (by omega)) dX3_readNew_275 (fun H locs hP hD hS => ?_)
                          have hP : va_P D vwCl [(g, .inr (4, [.int th, .ref a1, .int (nI y1.length), .ref a3, .int ct, .ref a5, .int oc, .ref a7, .ref a8, .ref a9, .int wn, .ref aB, .int tn, .int si, .int wg])), (a1, .inl (k1, 200, .inl g1)), (a7, .inl (k7, 400, .inl (upd g7 x1.toNatClampNeg (cnl b t))))] H := hP
                          have hD : va_D A [(g, .inr (4, [.int th, .ref a1, .int (nI y1.length), .ref a3, .int ct, .ref a5, .int oc, .ref a7, .ref a8, .ref a9, .int wn, .ref aB, .int tn, .int si, .int wg])), (a1, .inl (k1, 200, .inl g1)), (a7, .inl (k7, 400, .inl (upd g7 x1.toNatClampNeg (cnl b t))))] := hD
                          refine lv_iinc (v := (x1 + 1)) (lv' := [(1, .int (x1 + 1)), (6, .int 1), (4, .int (cnl b t)), (5, .int (nI (1 + bbN (cnl b t)))), (3, .int b), (2, .int x2), (0, .ref g)]) hx hb dX3_readNew_276 hl (k := 5) rfl rfl (by decide) rfl (fun ls hl => ?_)
                          refine lv_iload_n hx hb dX3_readNew_279 rfl (lv_at hl 5 rfl) ?_
                          refine lv_iload hx hb dX3_readNew_280 (lv_at hl 3 rfl) ?_
                          refine lv_iadd hx hb dX3_readNew_282 ?_
                          refine lv_istore_n (lv' := [(2, .int (x2 + (nI (1 + bbN (cnl b t))))), (1, .int (x1 + 1)), (6, .int 1), (4, .int (cnl b t)), (5, .int (nI (1 + bbN (cnl b t)))), (3, .int b), (0, .ref g)]) hx hb dX3_readNew_283 rfl hl (by decide) rfl (fun ls hl => ?_)
                          refine lv_goto (tgt := 4) hx hb dX3_readNew_284 (by decide) ?_
                          have z2 := fnd_eq c221_3
                          rw [e1] at c247_9
                          have z3 : fr.length < 100 := by rcases Nat.lt_or_ge fr.length 100 with q | q; exact q; exact absurd ((nI_100e (by omega)).mpr (by omega)) c247_9
                          rw [e1] at c251_9
                          have z4 : ¬ fr.length = 0 := fun q => c251_9 ((nI_0iff (by omega)).mpr q)
                          have hk : nwk (cnl b t) fr.length = true := by simp [nwk, c205_10, z2, c229_3, z3, z4]
                          have h2 := new_len hk
                          have q7 := rwf_snoc (c := cnl b t) p7 (by decide) e1 (by omega)
                          exact ih (t.drop (bbN (cnl b t))) (done ++ b :: t.take (bbN (cnl b t))) _ (upd g7 x1.toNatClampNeg (cnl b t)) _ _ H locs ls (by simp at hn ⊢; omega) (by rw [hy]; simp) (by rw [← hT]; simp [rnS, hk]; congr 1; (try rw [Nat.min_eq_left h2]); (try omega)) (by rw [e2, nI_add]; congr 1; simp; omega) (by rw [e1, nI_1]; simp) q7 (by simp; omega) hP hD hS (lv_sub hl [0, 1, 6] rfl)
                        · skip
                          refine lv_iload hx hb dX3_readNew_254 (lv_at hl 1 rfl) ?_
                          refine vp_callSi (W.runS ⟨hx, hb, hml, hown, hts⟩ (KX3_isMark l (cnl b t)) (va_cwS 1 hts gX3_readNew_X3_isMark rfl rfl rfl (by decide +kernel) ⟨Nat.le_of_ble_eq_true rfl, Nat.le_of_ble_eq_true rfl⟩) pcS_S rfl rfl hl.1 rfl (lv_room (Nat.le_of_ble_eq_true rfl)) dX3_readNew_256 ⟨Nat.zero_le _, Nat.zero_le _⟩) (fun r9 hr9 => ?_)
                          replace hr9 : r9 = fX2_isMark (cnl b t) := hr9.trans (x3_isMark _)
                          subst r9
                          refine lv_if_eq (tgt := 268) hx hb dX3_readNew_259 (by decide) (fun c259_9 => ?_) (fun c259_9 => ?_)
                          · skip
                            refine lv_aload_n hx hb dX3_readNew_268 rfl (lv_at hl 6 rfl) ?_
                            refine va_get (D := D) (ci := 4) (v := .ref a7) (C := RX3) (T := TX3) (N := 15) hx hb hts (by decide +kernel) hown hK hP 0 rfl rfl 7 (by decide) (hts (.fieldLink RX3 19 "CharacterRowsModel" "work" "[I") (by decide +kernel)) (fun _ h9 => h9) rfl dX3_readNew_269 ?_
                            refine lv_iload_n hx hb dX3_readNew_272 rfl (lv_at hl 5 rfl) ?_
                            refine lv_iload hx hb dX3_readNew_273 (lv_at hl 1 rfl) ?_
                            refine va_iast hx hb hK hP hD hS 2 1 rfl rfl (rwf_sin p7 (by decide) e1 (by omega)) dX3_readNew_275 (fun H locs hP hD hS => ?_)
                            have hP : va_P D vwCl [(g, .inr (4, [.int th, .ref a1, .int (nI y1.length), .ref a3, .int ct, .ref a5, .int oc, .ref a7, .ref a8, .ref a9, .int wn, .ref aB, .int tn, .int si, .int wg])), (a1, .inl (k1, 200, .inl g1)), (a7, .inl (k7, 400, .inl (upd g7 x1.toNatClampNeg (cnl b t))))] H := hP
                            have hD : va_D A [(g, .inr (4, [.int th, .ref a1, .int (nI y1.length), .ref a3, .int ct, .ref a5, .int oc, .ref a7, .ref a8, .ref a9, .int wn, .ref aB, .int tn, .int si, .int wg])), (a1, .inl (k1, 200, .inl g1)), (a7, .inl (k7, 400, .inl (upd g7 x1.toNatClampNeg (cnl b t))))] := hD
                            refine lv_iinc (v := (x1 + 1)) (lv' := [(1, .int (x1 + 1)), (6, .int 1), (4, .int (cnl b t)), (5, .int (nI (1 + bbN (cnl b t)))), (3, .int b), (2, .int x2), (0, .ref g)]) hx hb dX3_readNew_276 hl (k := 5) rfl rfl (by decide) rfl (fun ls hl => ?_)
                            refine lv_iload_n hx hb dX3_readNew_279 rfl (lv_at hl 5 rfl) ?_
                            refine lv_iload hx hb dX3_readNew_280 (lv_at hl 3 rfl) ?_
                            refine lv_iadd hx hb dX3_readNew_282 ?_
                            refine lv_istore_n (lv' := [(2, .int (x2 + (nI (1 + bbN (cnl b t))))), (1, .int (x1 + 1)), (6, .int 1), (4, .int (cnl b t)), (5, .int (nI (1 + bbN (cnl b t)))), (3, .int b), (0, .ref g)]) hx hb dX3_readNew_283 rfl hl (by decide) rfl (fun ls hl => ?_)
                            refine lv_goto (tgt := 4) hx hb dX3_readNew_284 (by decide) ?_
                            have z2 := fnd_eq c221_3
                            rw [e1] at c247_9
                            have z3 : fr.length < 100 := by rcases Nat.lt_or_ge fr.length 100 with q | q; exact q; exact absurd ((nI_100e (by omega)).mpr (by omega)) c247_9
                            rw [e1] at c251_9
                            have z4 : fr.length = 0 := (nI_0iff (by omega)).mp c251_9
                            have hk : nwk (cnl b t) fr.length = true := by simp [nwk, c205_10, z2, c229_3, z3, z4, c259_9]
                            have h2 := new_len hk
                            have q7 := rwf_snoc (c := cnl b t) p7 (by decide) e1 (by omega)
                            exact ih (t.drop (bbN (cnl b t))) (done ++ b :: t.take (bbN (cnl b t))) _ (upd g7 x1.toNatClampNeg (cnl b t)) _ _ H locs ls (by simp at hn ⊢; omega) (by rw [hy]; simp) (by rw [← hT]; simp [rnS, hk]; congr 1; (try rw [Nat.min_eq_left h2]); (try omega)) (by rw [e2, nI_add]; congr 1; simp; omega) (by rw [e1, nI_1]; simp) q7 (by simp; omega) hP hD hS (lv_sub hl [0, 1, 6] rfl)
                          · skip
                            refine lv_aload_n hx hb dX3_readNew_262 rfl (lv_at hl 6 rfl) ?_
                            refine lv_iload_n hx hb dX3_readNew_263 rfl (lv_at hl 4 rfl) ?_
                            refine clI (wr := [(a1, .inl (k1, 200, .inl g1)), (a7, .inl (k7, 400, .inl g7))]) (va_runV ⟨hx, hb, hml, hown, hts⟩ (KX3_bad l D g a1 a3 a5 a7 a8 a9 aB th (nI y1.length) ct oc wn tn si wg x2 _) (cwV 1 hts gX3_readNew_X3_bad rfl rfl rfl (by decide +kernel) ⟨Nat.le_of_ble_eq_true rfl, Nat.le_of_ble_eq_true rfl⟩) (pcM_V (hP.sub (ws' := [(g, .inr (4, [.int th, .ref a1, .int (nI y1.length), .ref a3, .int ct, .ref a5, .int oc, .ref a7, .ref a8, .ref a9, .int wn, .ref aB, .int tn, .int si, .int wg]))]) [0] rfl) (hD.sub (ws' := [(g, .inr (4, [.int th, .ref a1, .int (nI y1.length), .ref a3, .int ct, .ref a5, .int oc, .ref a7, .ref a8, .ref a9, .int wn, .ref aB, .int tn, .int si, .int wg]))]) [0] (by decide) rfl) (hK.sub (tys' := []) [] rfl) hN 0 rfl rfl) rfl rfl hl.1 rfl (lv_room (Nat.le_of_ble_eq_true rfl)) dX3_readNew_264 ⟨Nat.zero_le _, Nat.zero_le _⟩) hP hD hS hA [0] [1, 2] rfl rfl (by decide) (by decide) (fun r_31 u_31 H locs hw_31 hP hD hS => ?_)
                            subst hw_31
                            have hP : va_P D vwCl [(g, .inr (4, [.int th, .ref a1, .int (nI y1.length), .ref a3, .int ct, .ref a5, .int oc, .ref a7, .ref a8, .ref a9, .int wn, .ref aB, .int tn, .int si, .int x2])), (a1, .inl (k1, 200, .inl g1)), (a7, .inl (k7, 400, .inl g7))] H := hP.sub [2, 0, 1] rfl
                            have hD : va_D A [(g, .inr (4, [.int th, .ref a1, .int (nI y1.length), .ref a3, .int ct, .ref a5, .int oc, .ref a7, .ref a8, .ref a9, .int wn, .ref aB, .int tn, .int si, .int x2])), (a1, .inl (k1, 200, .inl g1)), (a7, .inl (k7, 400, .inl g7))] := hD.sub [2, 0, 1] (by decide) rfl
                            have z2 := fnd_eq c221_3
                            rw [e1] at c247_9
                            have z3 : fr.length < 100 := by rcases Nat.lt_or_ge fr.length 100 with q | q; exact q; exact absurd ((nI_100e (by omega)).mpr (by omega)) c247_9
                            rw [e1] at c251_9
                            have z4 : fr.length = 0 := (nI_0iff (by omega)).mp c251_9
                            have hk : ¬ nwk (cnl b t) fr.length = true := by simp [nwk, c205_10, z2, c229_3, z3, z4, c259_9]
                            have e8 : (x2, fr) = T := by rw [← hT, e2]; simp [rnS, hk]
                            have hne : ¬ T.1 = -1 := by rw [← e8]; show ¬ x2 = -1; rw [e2]; exact nI_ne1 (by omega)
                            exact rtI hx hb hr hlocks dX3_readNew_267 (g7, x2) ⟨fun q => absurd q hne, fun _ => ⟨rfl, by rw [← e8]⟩⟩ hP hD hS
  exact loop (y1.length + 1) y1 [] [] g7 _ _ _ _ ls (Nat.lt_succ_self _) rfl hT rfl rfl rw_nil (Nat.zero_le _) hP hD hS (lv_sub hl [0, 1, 2] rfl)
