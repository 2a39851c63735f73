/-! the reference: the writer of the old kind -/
set_option maxHeartbeats 4000000 in
set_option maxRecDepth 100000 in
theorem KX3_writeOld (l : Launch) (D : va_G) (g a1 a3 a5 a7 a8 a9 aB : Nat) (th sn oc si wg : Int32) (k3 : ClassId) (g3 : Nat → Int32) (y3 : List Int32) (p3 : rw_ok g3 100 y3) (h100 : y3.length ≤ 100) (k9 : ClassId) (g9 : Nat → Int32) (p9 : rw_ok g9 1200 []) (kB : ClassId) (gB : Nat → Int32) (pB : rw_ok gB 200 []) (TB TL : List Int32) (hB : [] ++ ob (woS si y3 0 0 1).1 = TB) (hL : [] ++ il (woS si y3 0 0 1).2.1 (woS si y3 0 0 1).2.2 = TL) (sz : Nat) : Met l yX3_writeOld wsX3_writeOld ({ frames := 2, cells := 0, slots := 0, locals := 44 }) (pcM D sz [(g, .inr (4, [.int th, .ref a1, .int sn, .ref a3, .int (nI y3.length), .ref a5, .int oc, .ref a7, .ref a8, .ref a9, .int (nI ([] : List Int32).length), .ref aB, .int (nI 0), .int si, .int wg])), (a3, .inl (k3, 100, .inl g3)), (a9, .inl (k9, 1200, .inl g9)), (aB, .inl (kB, 200, .inl gB))] [(k3, .int), (k9, .byte), (kB, .int)] [.ref g]) (qcV (S := (Nat → Int32) × (Nat → Int32) × Nat) D (fun u => rw_ok u.1 1200 TB ∧ rw_ok u.2.1 200 TL ∧ TL.length = 2 * u.2.2) (fun u => [(g, .inr (4, [.int th, .ref a1, .int sn, .ref a3, .int (nI y3.length), .ref a5, .int oc, .ref a7, .ref a8, .ref a9, .int (nI TB.length), .ref aB, .int (nI u.2.2), .int si, .int wg])), (a3, .inl (k3, 100, .inl g3)), (a9, .inl (k9, 1200, .inl u.1)), (aB, .inl (kB, 200, .inl u.2.1))]) (va_A [(g, .inr (4, [.int th, .ref a1, .int sn, .ref a3, .int (nI y3.length), .ref a5, .int oc, .ref a7, .ref a8, .ref a9, .int (nI ([] : List Int32).length), .ref aB, .int (nI 0), .int si, .int wg])), (a3, .inl (k3, 100, .inl g3)), (a9, .inl (k9, 1200, .inl g9)), (aB, .inl (kB, 200, .inl gB))] sz)) 0 0 (va_A [(g, .inr (4, [.int th, .ref a1, .int sn, .ref a3, .int (nI y3.length), .ref a5, .int oc, .ref a7, .ref a8, .ref a9, .int (nI ([] : List Int32).length), .ref aB, .int (nI 0), .int si, .int wg])), (a3, .inl (k3, 100, .inl g3)), (a9, .inl (k9, 1200, .inl g9)), (aB, .inl (kB, 200, .inl gB))] sz) := by
  refine ofM (Qc := fun A => qcV (S := (Nat → Int32) × (Nat → Int32) × Nat) D (fun u => rw_ok u.1 1200 TB ∧ rw_ok u.2.1 200 TL ∧ TL.length = 2 * u.2.2) (fun u => [(g, .inr (4, [.int th, .ref a1, .int sn, .ref a3, .int (nI y3.length), .ref a5, .int oc, .ref a7, .ref a8, .ref a9, .int (nI TB.length), .ref aB, .int (nI u.2.2), .int si, .int wg])), (a3, .inl (k3, 100, .inl g3)), (a9, .inl (k9, 1200, .inl u.1)), (aB, .inl (kB, 200, .inl u.2.1))]) A) (cc := cX3_writeOld) (maxL := 7) (ret := none) (by decide) rfl (Nat.le_of_ble_eq_true rfl) ?_
  intro p e s m below meth c ls A hx hb hr hml hown hts hlocks hnm hP hK hN hD hA hS hl
  have hl : lv_has ls 7 [(0, .ref g)] := hl
  refine lv_iconst (v := 0) hx hb dX3_writeOld_0 (by decide) ?_
  refine lv_istore_n (lv' := [(1, .int 0), (0, .ref g)]) hx hb dX3_writeOld_1 rfl hl (by decide) rfl (fun ls hl => ?_)
  refine lv_iconst (v := 0) hx hb dX3_writeOld_2 (by decide) ?_
  refine lv_istore_n (lv' := [(2, .int 0), (1, .int 0), (0, .ref g)]) hx hb dX3_writeOld_3 rfl hl (by decide) rfl (fun ls hl => ?_)
  have loop : ∀ (n : Nat) (rest done y9 yB : List Int32) (g9 gB : Nat → Int32) (k : Nat) (x1 x2 : Int32) (H : Heap) (locs : List Loc) (ls : Array Slot), (rest.length ≤ n) → (y3 = done ++ rest) → (x2 = nI done.length) → (y9 ++ ob (woS si rest done.length x1 1).1 = TB) → (yB ++ il (woS si rest done.length x1 1).2.1 (woS si rest done.length x1 1).2.2 = TL) → (rw_ok g9 1200 y9) → (rw_ok gB 200 yB) → (yB.length = 2 * k) → (k ≤ done.length) → (y9.length ≤ 4 * done.length) → va_P D vwCl [(g, .inr (4, [.int th, .ref a1, .int sn, .ref a3, .int (nI y3.length), .ref a5, .int oc, .ref a7, .ref a8, .ref a9, .int (nI y9.length), .ref aB, .int (nI k), .int si, .int wg])), (a3, .inl (k3, 100, .inl g3)), (a9, .inl (k9, 1200, .inl g9)), (aB, .inl (kB, 200, .inl gB))] H → va_D A [(g, .inr (4, [.int th, .ref a1, .int sn, .ref a3, .int (nI y3.length), .ref a5, .int oc, .ref a7, .ref a8, .ref a9, .int (nI y9.length), .ref aB, .int (nI k), .int si, .int wg])), (a3, .inl (k3, 100, .inl g3)), (a9, .inl (k9, 1200, .inl g9)), (aB, .inl (kB, 200, .inl gB))] → va_S A s.heap H locs → lv_has ls 7 [(2, .int x2), (1, .int x1), (0, .ref g)] → W p l e ({ frames := 2, cells := 0, slots := 0, locals := 44 }) s m ([.ref g] : List Value).toArray below meth c H locs 0 0 (MQ below (qcV (S := (Nat → Int32) × (Nat → Int32) × Nat) D (fun u => rw_ok u.1 1200 TB ∧ rw_ok u.2.1 200 TL ∧ TL.length = 2 * u.2.2) (fun u => [(g, .inr (4, [.int th, .ref a1, .int sn, .ref a3, .int (nI y3.length), .ref a5, .int oc, .ref a7, .ref a8, .ref a9, .int (nI TB.length), .ref aB, .int (nI u.2.2), .int si, .int wg])), (a3, .inl (k3, 100, .inl g3)), (a9, .inl (k9, 1200, .inl u.1)), (aB, .inl (kB, 200, .inl u.2.1))]) A) ([.ref g] : List Value).toArray s 0 0 A) (F0 m 4 ls [])  := by
    intro n
    induction n with
    | zero =>
      intro rest done y9 yB g9 gB k x1 x2 H locs ls hn hy e2 hB hL p9 pB hk hk2 h9 hP hD hS hl
      obtain rfl : rest = [] := List.eq_nil_of_length_eq_zero (by omega)
      have hlx : y3.length = done.length := by rw [hy]; simp
      refine lv_iload_n hx hb dX3_writeOld_4 rfl (lv_at hl 0 rfl) ?_
      refine lv_aload_n hx hb dX3_writeOld_5 rfl (lv_at hl 2 rfl) ?_
      refine va_get (D := D) (ci := 4) (v := .int (nI y3.length)) (C := RX3) (T := TX3) (N := 15) hx hb hts (by decide +kernel) hown hK hP 0 rfl rfl 4 (by decide) (hts (.fieldLink RX3 85 "CharacterRowsModel" "count" "I") (by decide +kernel)) (fun _ h9 => h9) rfl dX3_writeOld_6 ?_
      refine lv_icmp_ge (tgt := 215) hx hb dX3_writeOld_9 (by decide) (fun c9_1 => ?_) (fun c9_1 => ?_)
      · skip
        have e8 : y9 = TB := by rw [← hB]; simp [woS, ob]
        have e9 : yB = TL := by rw [← hL]; simp [woS, il]
        rw [e8] at p9 hP hD
        rw [e9] at pB hk
        exact rtV hx hb hr hlocks dX3_writeOld_215 (g9, gB, k) ⟨p9, pB, hk⟩ hP hD hS
      · skip
        exact absurd (by rw [e2, hlx]; exact Int32.le_refl _) c9_1
    | succ n ih =>
      intro rest done y9 yB g9 gB k x1 x2 H locs ls hn hy e2 hB hL p9 pB hk hk2 h9 hP hD hS hl
      have hlx : y3.length = done.length + rest.length := by rw [hy]; simp
      rcases rest with _ | ⟨c0, t⟩
      · skip
        simp at hlx
        refine lv_iload_n hx hb dX3_writeOld_4 rfl (lv_at hl 0 rfl) ?_
        refine lv_aload_n hx hb dX3_writeOld_5 rfl (lv_at hl 2 rfl) ?_
        refine va_get (D := D) (ci := 4) (v := .int (nI y3.length)) (C := RX3) (T := TX3) (N := 15) hx hb hts (by decide +kernel) hown hK hP 0 rfl rfl 4 (by decide) (hts (.fieldLink RX3 85 "CharacterRowsModel" "count" "I") (by decide +kernel)) (fun _ h9 => h9) rfl dX3_writeOld_6 ?_
        refine lv_icmp_ge (tgt := 215) hx hb dX3_writeOld_9 (by decide) (fun c9_2 => ?_) (fun c9_2 => ?_)
        · skip
          have e8 : y9 = TB := by rw [← hB]; simp [woS, ob]
          have e9 : yB = TL := by rw [← hL]; simp [woS, il]
          rw [e8] at p9 hP hD
          rw [e9] at pB hk
          exact rtV hx hb hr hlocks dX3_writeOld_215 (g9, gB, k) ⟨p9, pB, hk⟩ hP hD hS
        · skip
          exact absurd (by rw [e2, hlx]; simp) c9_2
      · skip
        simp at hlx
        have hlk := lmk_le t
        have htk : (t.take (lmk t)).length = lmk t := by rw [List.length_take]; omega
        refine lv_iload_n hx hb dX3_writeOld_4 rfl (lv_at hl 0 rfl) ?_
        refine lv_aload_n hx hb dX3_writeOld_5 rfl (lv_at hl 2 rfl) ?_
        refine va_get (D := D) (ci := 4) (v := .int (nI y3.length)) (C := RX3) (T := TX3) (N := 15) hx hb hts (by decide +kernel) hown hK hP 0 rfl rfl 4 (by decide) (hts (.fieldLink RX3 85 "CharacterRowsModel" "count" "I") (by decide +kernel)) (fun _ h9 => h9) rfl dX3_writeOld_6 ?_
        refine lv_icmp_ge (tgt := 215) hx hb dX3_writeOld_9 (by decide) (fun c9_3 => ?_) (fun c9_3 => ?_)
        · skip
          exact absurd c9_3 (by rw [e2, hlx]; exact nI_ge (by simp) (by simp at hlx ⊢; omega))
        · skip
          refine lv_iload_n hx hb dX3_writeOld_12 rfl (lv_at hl 0 rfl) ?_
          refine lv_iconst (v := 1) hx hb dX3_writeOld_13 (by decide) ?_
          refine lv_iadd hx hb dX3_writeOld_14 ?_
          refine lv_istore_n (lv' := [(3, .int (x2 + 1)), (2, .int x2), (1, .int x1), (0, .ref g)]) hx hb dX3_writeOld_15 rfl hl (by decide) rfl (fun ls hl => ?_)
          have cont : ∀ (x3 : Int32) (ls : Array Slot), x3 = nI (done.length + 1 + lmk t) → lv_has ls 7 [(3, .int x3), (2, .int x2), (1, .int x1), (0, .ref g)] → W p l e ({ frames := 2, cells := 0, slots := 0, locals := 44 }) s m ([.ref g] : List Value).toArray below meth c H locs 0 0 (MQ below (qcV (S := (Nat → Int32) × (Nat → Int32) × Nat) D (fun u => rw_ok u.1 1200 TB ∧ rw_ok u.2.1 200 TL ∧ TL.length = 2 * u.2.2) (fun u => [(g, .inr (4, [.int th, .ref a1, .int sn, .ref a3, .int (nI y3.length), .ref a5, .int oc, .ref a7, .ref a8, .ref a9, .int (nI TB.length), .ref aB, .int (nI u.2.2), .int si, .int wg])), (a3, .inl (k3, 100, .inl g3)), (a9, .inl (k9, 1200, .inl u.1)), (aB, .inl (kB, 200, .inl u.2.1))]) A) ([.ref g] : List Value).toArray s 0 0 A) (F0 m 42 ls []) := by
            intro x3 ls e3 hl
            refine lv_aload_n hx hb dX3_writeOld_42 rfl (lv_at hl 3 rfl) ?_
            refine va_get (D := D) (ci := 4) (v := .ref a3) (C := RX3) (T := TX3) (N := 15) hx hb hts (by decide +kernel) hown hK hP 0 rfl rfl 3 (by decide) (hts (.fieldLink RX3 13 "CharacterRowsModel" "text" "[I") (by decide +kernel)) (fun _ h9 => h9) rfl dX3_writeOld_43 ?_
            refine lv_iload_n hx hb dX3_writeOld_46 rfl (lv_at hl 1 rfl) ?_
            refine va_iald hx hb hK hP 1 0 rfl rfl (rwf_in (l := done) (r := c0 :: t) (j := 0) p3 (by decide) hy e2 rfl (by simp)) dX3_writeOld_47 ?_
            refine lv_topi (fun r9 hr9 => ?_)
            replace hr9 : r9 = c0 := hr9.trans (rwf_v (l := done) (r := c0 :: t) (j := 0) p3 (by decide) hy e2 rfl (by simp))
            subst r9
            refine vp_callSi (W.runS ⟨hx, hb, hml, hown, hts⟩ (KX3_find l c0) (va_cwS 1 hts gX3_writeOld_X3_find rfl rfl rfl (by decide +kernel) ⟨Nat.le_of_ble_eq_true rfl, Nat.le_of_ble_eq_true rfl⟩) pcS_S rfl rfl hl.1 rfl (lv_room (Nat.le_of_ble_eq_true rfl)) dX3_writeOld_48 ⟨Nat.zero_le _, Nat.zero_le _⟩) (fun r9 hr9 => ?_)
            subst r9
            refine lv_istore (lv' := [(4, .int (fX3_find c0)), (3, .int x3), (2, .int x2), (1, .int x1), (0, .ref g)]) hx hb dX3_writeOld_51 hl (by decide) rfl (fun ls hl => ?_)
            refine lv_aload_n hx hb dX3_writeOld_53 rfl (lv_at hl 4 rfl) ?_
            refine va_get (D := D) (ci := 4) (v := .ref a3) (C := RX3) (T := TX3) (N := 15) hx hb hts (by decide +kernel) hown hK hP 0 rfl rfl 3 (by decide) (hts (.fieldLink RX3 13 "CharacterRowsModel" "text" "[I") (by decide +kernel)) (fun _ h9 => h9) rfl dX3_writeOld_54 ?_
            refine lv_iload_n hx hb dX3_writeOld_57 rfl (lv_at hl 2 rfl) ?_
            refine va_iald hx hb hK hP 1 0 rfl rfl (rwf_in (l := done) (r := c0 :: t) (j := 0) p3 (by decide) hy e2 rfl (by simp)) dX3_writeOld_58 ?_
            refine lv_topi (fun r9 hr9 => ?_)
            replace hr9 : r9 = c0 := hr9.trans (rwf_v (l := done) (r := c0 :: t) (j := 0) p3 (by decide) hy e2 rfl (by simp))
            subst r9
            refine vp_callSi (W.runS ⟨hx, hb, hml, hown, hts⟩ (KX3_isPlain l c0) (va_cwS 1 hts gX3_writeOld_X3_isPlain rfl rfl rfl (by decide +kernel) ⟨Nat.le_of_ble_eq_true rfl, Nat.le_of_ble_eq_true rfl⟩) pcS_S rfl rfl hl.1 rfl (lv_room (Nat.le_of_ble_eq_true rfl)) dX3_writeOld_59 ⟨Nat.zero_le _, Nat.zero_le _⟩) (fun r9 hr9 => ?_)
            replace hr9 : r9 = fX2_isPlain c0 := hr9.trans (x3_isPlain _)
            subst r9
            refine lv_if_ne (tgt := 83) hx hb dX3_writeOld_62 (by decide) (fun c62_1 => ?_) (fun c62_1 => ?_)
            · skip
              refine lv_iconst (v := 1) hx hb dX3_writeOld_83 (by decide) ?_
              refine lv_goto (tgt := 88) hx hb dX3_writeOld_84 (by decide) ?_
              refine lv_istore (lv' := [(5, .int 1), (4, .int (fX3_find c0)), (3, .int x3), (2, .int x2), (1, .int x1), (0, .ref g)]) hx hb dX3_writeOld_88 hl (by decide) rfl (fun ls hl => ?_)
              refine lv_iload_n hx hb dX3_writeOld_90 rfl (lv_at hl 3 rfl) ?_
              refine lv_iconst (v := 1) hx hb dX3_writeOld_91 (by decide) ?_
              refine lv_iadd hx hb dX3_writeOld_92 ?_
              refine lv_istore (lv' := [(6, .int (x2 + 1)), (5, .int 1), (4, .int (fX3_find c0)), (3, .int x3), (2, .int x2), (1, .int x1), (0, .ref g)]) hx hb dX3_writeOld_93 hl (by decide) rfl (fun ls hl => ?_)
              have hpl : ¬ (fX2_isPlain c0 = 0 ∧ fX2_setOf c0 = -1) := fun q => c62_1 q.1
              have hmk : fX2_isMark c0 = 0 := by rcases Decidable.em (fX2_isMark c0 = 0) with q | q; exact q; exact absurd (ps_set (mk_set q)).2.2 c62_1
              have hg := grp_can (si := si) (t := t) (i := done.length) (on := x1) hmk hpl
              rw [hg] at hB hL
              have loop2 : ∀ (ms : List Int32) (md y9 : List Int32) (g9 : Nat → Int32) (x1 x6 : Int32) (H : Heap) (locs : List Loc) (ls : Array Slot), (t.take (lmk t) = md ++ ms) → (x6 = nI (done.length + 1 + md.length)) → (y9 ++ ob ((wms (ms ++ [c0]) x1).1 ++ (woS si (t.drop (lmk t)) (done.length + 1 + lmk t) (wms (ms ++ [c0]) x1).2 1).1) = TB) → (yB ++ il (woS si (t.drop (lmk t)) (done.length + 1 + lmk t) (wms (ms ++ [c0]) x1).2 1).2.1 (woS si (t.drop (lmk t)) (done.length + 1 + lmk t) (wms (ms ++ [c0]) x1).2 1).2.2 = TL) → (rw_ok g9 1200 y9) → (y9.length ≤ 4 * (done.length + md.length)) → va_P D vwCl [(g, .inr (4, [.int th, .ref a1, .int sn, .ref a3, .int (nI y3.length), .ref a5, .int oc, .ref a7, .ref a8, .ref a9, .int (nI y9.length), .ref aB, .int (nI k), .int si, .int wg])), (a3, .inl (k3, 100, .inl g3)), (a9, .inl (k9, 1200, .inl g9)), (aB, .inl (kB, 200, .inl gB))] H → va_D A [(g, .inr (4, [.int th, .ref a1, .int sn, .ref a3, .int (nI y3.length), .ref a5, .int oc, .ref a7, .ref a8, .ref a9, .int (nI y9.length), .ref aB, .int (nI k), .int si, .int wg])), (a3, .inl (k3, 100, .inl g3)), (a9, .inl (k9, 1200, .inl g9)), (aB, .inl (kB, 200, .inl gB))] → va_S A s.heap H locs → lv_has ls 7 [(6, .int x6), (5, .int 1), (4, .int (fX3_find c0)), (3, .int x3), (2, .int x2), (1, .int x1), (0, .ref g)] → W p l e ({ frames := 2, cells := 0, slots := 0, locals := 44 }) s m ([.ref g] : List Value).toArray below meth c H locs 0 0 (MQ below (qcV (S := (Nat → Int32) × (Nat → Int32) × Nat) D (fun u => rw_ok u.1 1200 TB ∧ rw_ok u.2.1 200 TL ∧ TL.length = 2 * u.2.2) (fun u => [(g, .inr (4, [.int th, .ref a1, .int sn, .ref a3, .int (nI y3.length), .ref a5, .int oc, .ref a7, .ref a8, .ref a9, .int (nI TB.length), .ref aB, .int (nI u.2.2), .int si, .int wg])), (a3, .inl (k3, 100, .inl g3)), (a9, .inl (k9, 1200, .inl u.1)), (aB, .inl (kB, 200, .inl u.2.1))]) A) ([.ref g] : List Value).toArray s 0 0 A) (F0 m 95 ls [])  := by
                intro ms
                induction ms with
                | nil =>
                  intro md y9 g9 x1 x6 H locs ls hmd e6 hB2 hL2 p9 h9 hP hD hS hl
                  have hmdl : lmk t = md.length := by rw [← htk, hmd]; simp
                  refine lv_iload hx hb dX3_writeOld_95 (lv_at hl 0 rfl) ?_
                  refine lv_iload_n hx hb dX3_writeOld_97 rfl (lv_at hl 3 rfl) ?_
                  refine lv_icmp_ge (tgt := 128) hx hb dX3_writeOld_98 (by decide) (fun c98_1 => ?_) (fun c98_1 => ?_)
                  · skip
                    refine lv_aload_n hx hb dX3_writeOld_128 rfl (lv_at hl 6 rfl) ?_
                    refine va_get (D := D) (ci := 4) (v := .ref a3) (C := RX3) (T := TX3) (N := 15) hx hb hts (by decide +kernel) hown hK hP 0 rfl rfl 3 (by decide) (hts (.fieldLink RX3 13 "CharacterRowsModel" "text" "[I") (by decide +kernel)) (fun _ h9 => h9) rfl dX3_writeOld_129 ?_
                    refine lv_iload_n hx hb dX3_writeOld_132 rfl (lv_at hl 4 rfl) ?_
                    refine va_iald hx hb hK hP 1 0 rfl rfl (rwf_in (l := done) (r := c0 :: t) (j := 0) p3 (by decide) hy e2 rfl (by simp)) dX3_writeOld_133 ?_
                    refine lv_topi (fun r9 hr9 => ?_)
                    replace hr9 : r9 = c0 := hr9.trans (rwf_v (l := done) (r := c0 :: t) (j := 0) p3 (by decide) hy e2 rfl (by simp))
                    subst r9
                    refine vp_callSi (W.runS ⟨hx, hb, hml, hown, hts⟩ (KX3_isPlain l c0) (va_cwS 1 hts gX3_writeOld_X3_isPlain rfl rfl rfl (by decide +kernel) ⟨Nat.le_of_ble_eq_true rfl, Nat.le_of_ble_eq_true rfl⟩) pcS_S rfl rfl hl.1 rfl (lv_room (Nat.le_of_ble_eq_true rfl)) dX3_writeOld_134 ⟨Nat.zero_le _, Nat.zero_le _⟩) (fun r9 hr9 => ?_)
                    replace hr9 : r9 = fX2_isPlain c0 := hr9.trans (x3_isPlain _)
                    subst r9
                    refine lv_if_eq (tgt := 153) hx hb dX3_writeOld_137 (by decide) (fun c137_1 => ?_) (fun c137_1 => ?_)
                    · skip
                      exact absurd c137_1 c62_1
                    · skip
                      refine lv_aload_n hx hb dX3_writeOld_140 rfl (lv_at hl 6 rfl) ?_
                      refine lv_aload_n hx hb dX3_writeOld_141 rfl (lv_at hl 6 rfl) ?_
                      refine va_get (D := D) (ci := 4) (v := .ref a3) (C := RX3) (T := TX3) (N := 15) hx hb hts (by decide +kernel) hown hK hP 0 rfl rfl 3 (by decide) (hts (.fieldLink RX3 13 "CharacterRowsModel" "text" "[I") (by decide +kernel)) (fun _ h9 => h9) rfl dX3_writeOld_142 ?_
                      refine lv_iload_n hx hb dX3_writeOld_145 rfl (lv_at hl 4 rfl) ?_
                      refine va_iald hx hb hK hP 1 0 rfl rfl (rwf_in (l := done) (r := c0 :: t) (j := 0) p3 (by decide) hy e2 rfl (by simp)) dX3_writeOld_146 ?_
                      refine lv_topi (fun r9 hr9 => ?_)
                      replace hr9 : r9 = c0 := hr9.trans (rwf_v (l := done) (r := c0 :: t) (j := 0) p3 (by decide) hy e2 rfl (by simp))
                      subst r9
                      refine clV (wr := [(a3, .inl (k3, 100, .inl g3)), (aB, .inl (kB, 200, .inl gB))]) (va_runV ⟨hx, hb, hml, hown, hts⟩ (KX3_put l D g a1 a3 a5 a7 a8 a9 aB th sn (nI y3.length) oc (nI k) si wg k9 g9 y9 p9 (by omega) c0 _) (cwV 1 hts gX3_writeOld_X3_put rfl rfl rfl (by decide +kernel) ⟨Nat.le_of_ble_eq_true rfl, Nat.le_of_ble_eq_true rfl⟩) (pcM_V (hP.sub (ws' := [(g, .inr (4, [.int th, .ref a1, .int sn, .ref a3, .int (nI y3.length), .ref a5, .int oc, .ref a7, .ref a8, .ref a9, .int (nI y9.length), .ref aB, .int (nI k), .int si, .int wg])), (a9, .inl (k9, 1200, .inl g9))]) [0, 2] rfl) (hD.sub (ws' := [(g, .inr (4, [.int th, .ref a1, .int sn, .ref a3, .int (nI y3.length), .ref a5, .int oc, .ref a7, .ref a8, .ref a9, .int (nI y9.length), .ref aB, .int (nI k), .int si, .int wg])), (a9, .inl (k9, 1200, .inl g9))]) [0, 2] (by decide) rfl) (hK.sub (tys' := [(k9, .byte)]) [1] rfl) hN 0 rfl rfl) rfl rfl hl.1 rfl (lv_room (Nat.le_of_ble_eq_true rfl)) dX3_writeOld_147 ⟨Nat.zero_le _, Nat.zero_le _⟩) hP hD hS hA [0, 2] [1, 3] rfl rfl (by decide) (by decide) (fun u_1 H locs hw_1 hP hD hS => ?_)
                      have e9_1 : (y9 ++ [(c0 : Int32).toInt8.toInt32]) = (y9 ++ ob (wob c0 x1)) := (by simp [ob, wob, c62_1])
                      rw [e9_1] at hw_1 hP hD
                      have hP : va_P D vwCl [(g, .inr (4, [.int th, .ref a1, .int sn, .ref a3, .int (nI y3.length), .ref a5, .int oc, .ref a7, .ref a8, .ref a9, .int (nI (y9 ++ ob (wob c0 x1)).length), .ref aB, .int (nI k), .int si, .int wg])), (a3, .inl (k3, 100, .inl g3)), (a9, .inl (k9, 1200, .inl u_1)), (aB, .inl (kB, 200, .inl gB))] H := hP.sub [2, 0, 3, 1] rfl
                      have hD : va_D A [(g, .inr (4, [.int th, .ref a1, .int sn, .ref a3, .int (nI y3.length), .ref a5, .int oc, .ref a7, .ref a8, .ref a9, .int (nI (y9 ++ ob (wob c0 x1)).length), .ref aB, .int (nI k), .int si, .int wg])), (a3, .inl (k3, 100, .inl g3)), (a9, .inl (k9, 1200, .inl u_1)), (aB, .inl (kB, 200, .inl gB))] := hD.sub [2, 0, 3, 1] (by decide) rfl
                      refine lv_goto (tgt := 210) hx hb dX3_writeOld_150 (by decide) ?_
                      refine lv_iload_n hx hb dX3_writeOld_210 rfl (lv_at hl 3 rfl) ?_
                      refine lv_istore_n (lv' := [(2, .int x3), (6, .int x6), (5, .int 1), (4, .int (fX3_find c0)), (3, .int x3), (1, .int x1), (0, .ref g)]) hx hb dX3_writeOld_211 rfl hl (by decide) rfl (fun ls hl => ?_)
                      refine lv_goto (tgt := 4) hx hb dX3_writeOld_212 (by decide) ?_
                      exact ih (t.drop (lmk t)) (done ++ c0 :: t.take (lmk t)) (y9 ++ ob (wob c0 x1)) yB u_1 gB k _ _ H locs ls (by simp at hn ⊢; omega) (by rw [hy]; simp) (by rw [e3]; congr 1; simp; omega) (by rw [← hB2]; simp [htk, Nat.add_assoc, Nat.add_comm 1, wms, ob, woo, c62_1]) (by rw [← hL2]; simp [htk, Nat.add_assoc, Nat.add_comm 1, wms, il, woo, c62_1]) hw_1 pB hk (by simp; omega) (by have := wob_len c0 x1; first | (rw [List.length_append, ob_len]; simp at hmdl ⊢; omega) | (simp at hmdl ⊢; omega)) hP hD hS (lv_sub hl [0, 5, 6] rfl)
                  · skip
                    exact absurd (by rw [e6, e3, hmdl]; exact Int32.le_refl _) c98_1
                | cons d ms ih2 =>
                  intro md y9 g9 x1 x6 H locs ls hmd e6 hB2 hL2 p9 h9 hP hD hS hl
                  have hmdl : lmk t = md.length + (ms.length + 1) := by rw [← htk, hmd]; simp
                  have hdm : ¬ fX2_isMark d = 0 := lmk_all t d (by rw [hmd]; simp)
                  have htt : t = md ++ d :: (ms ++ t.drop (lmk t)) := by have h8 := List.take_append_drop (lmk t) t; rw [hmd] at h8; exact h8.symm.trans (by simp)
                  refine lv_iload hx hb dX3_writeOld_95 (lv_at hl 0 rfl) ?_
                  refine lv_iload_n hx hb dX3_writeOld_97 rfl (lv_at hl 3 rfl) ?_
                  refine lv_icmp_ge (tgt := 128) hx hb dX3_writeOld_98 (by decide) (fun c98_2 => ?_) (fun c98_2 => ?_)
                  · skip
                    exact absurd c98_2 (by rw [e6, e3, hmdl]; exact nI_ge (by omega) (by omega))
                  · skip
                    refine lv_iload hx hb dX3_writeOld_101 (lv_at hl 1 rfl) ?_
                    refine lv_if_eq (tgt := 128) hx hb dX3_writeOld_103 (by decide) (fun c103_1 => ?_) (fun c103_1 => ?_)
                    · exact absurd c103_1 (by decide)
                    · skip
                      have htt2 := congrArg (fun z => c0 :: z) htt
                      refine lv_aload_n hx hb dX3_writeOld_106 rfl (lv_at hl 6 rfl) ?_
                      refine lv_aload_n hx hb dX3_writeOld_107 rfl (lv_at hl 6 rfl) ?_
                      refine va_get (D := D) (ci := 4) (v := .ref a3) (C := RX3) (T := TX3) (N := 15) hx hb hts (by decide +kernel) hown hK hP 0 rfl rfl 3 (by decide) (hts (.fieldLink RX3 13 "CharacterRowsModel" "text" "[I") (by decide +kernel)) (fun _ h9 => h9) rfl dX3_writeOld_108 ?_
                      refine lv_iload hx hb dX3_writeOld_111 (lv_at hl 0 rfl) ?_
                      refine va_iald hx hb hK hP 1 0 rfl rfl (rwf_in (l := done ++ c0 :: md) (r := d :: (ms ++ t.drop (lmk t))) (j := 0) p3 (by decide) (by rw [hy, htt2]; simp) e6 (by simp; omega) (by simp)) dX3_writeOld_113 ?_
                      refine lv_topi (fun r9 hr9 => ?_)
                      replace hr9 : r9 = d := hr9.trans (rwf_v (l := done ++ c0 :: md) (r := d :: (ms ++ t.drop (lmk t))) (j := 0) p3 (by decide) (by rw [hy, htt2]; simp) e6 (by simp; omega) (by simp))
                      subst r9
                      refine vp_callSi (W.runS ⟨hx, hb, hml, hown, hts⟩ (KX3_find l d) (va_cwS 1 hts gX3_writeOld_X3_find rfl rfl rfl (by decide +kernel) ⟨Nat.le_of_ble_eq_true rfl, Nat.le_of_ble_eq_true rfl⟩) pcS_S rfl rfl hl.1 rfl (lv_room (Nat.le_of_ble_eq_true rfl)) dX3_writeOld_114 ⟨Nat.zero_le _, Nat.zero_le _⟩) (fun r9 hr9 => ?_)
                      subst r9
                      refine lv_iload_n hx hb dX3_writeOld_117 rfl (lv_at hl 5 rfl) ?_
                      refine clI (wr := [(a3, .inl (k3, 100, .inl g3)), (aB, .inl (kB, 200, .inl gB))]) (va_runV ⟨hx, hb, hml, hown, hts⟩ (KX3_putSet l D g a1 a3 a5 a7 a8 a9 aB th sn (nI y3.length) oc (nI k) si wg k9 g9 y9 p9 (by omega) (fX3_find d) x1 _) (cwV 2 hts gX3_writeOld_X3_putSet rfl rfl rfl (by decide +kernel) ⟨Nat.le_of_ble_eq_true rfl, Nat.le_of_ble_eq_true rfl⟩) (pcM_V (hP.sub (ws' := [(g, .inr (4, [.int th, .ref a1, .int sn, .ref a3, .int (nI y3.length), .ref a5, .int oc, .ref a7, .ref a8, .ref a9, .int (nI y9.length), .ref aB, .int (nI k), .int si, .int wg])), (a9, .inl (k9, 1200, .inl g9))]) [0, 2] rfl) (hD.sub (ws' := [(g, .inr (4, [.int th, .ref a1, .int sn, .ref a3, .int (nI y3.length), .ref a5, .int oc, .ref a7, .ref a8, .ref a9, .int (nI y9.length), .ref aB, .int (nI k), .int si, .int wg])), (a9, .inl (k9, 1200, .inl g9))]) [0, 2] (by decide) rfl) (hK.sub (tys' := [(k9, .byte)]) [1] rfl) hN 0 rfl rfl) rfl rfl hl.1 rfl (lv_room (Nat.le_of_ble_eq_true rfl)) dX3_writeOld_118 ⟨Nat.zero_le _, Nat.zero_le _⟩) hP hD hS hA [0, 2] [1, 3] rfl rfl (by decide) (by decide) (fun r_1 u_2 H locs hw_2 hP hD hS => ?_)
                      obtain ⟨hw_2r, hw_2o⟩ := hw_2
                      rw [(ps_wob (on := x1) (mk_set hdm)).2] at hw_2r
                      rw [(ps_wob (on := x1) (mk_set hdm)).1] at hw_2o hP hD
                      subst hw_2r
                      have hP : va_P D vwCl [(g, .inr (4, [.int th, .ref a1, .int sn, .ref a3, .int (nI y3.length), .ref a5, .int oc, .ref a7, .ref a8, .ref a9, .int (nI (y9 ++ ob (wob d x1)).length), .ref aB, .int (nI k), .int si, .int wg])), (a3, .inl (k3, 100, .inl g3)), (a9, .inl (k9, 1200, .inl u_2)), (aB, .inl (kB, 200, .inl gB))] H := hP.sub [2, 0, 3, 1] rfl
                      have hD : va_D A [(g, .inr (4, [.int th, .ref a1, .int sn, .ref a3, .int (nI y3.length), .ref a5, .int oc, .ref a7, .ref a8, .ref a9, .int (nI (y9 ++ ob (wob d x1)).length), .ref aB, .int (nI k), .int si, .int wg])), (a3, .inl (k3, 100, .inl g3)), (a9, .inl (k9, 1200, .inl u_2)), (aB, .inl (kB, 200, .inl gB))] := hD.sub [2, 0, 3, 1] (by decide) rfl
                      refine lv_istore_n (lv' := [(1, .int (woo d x1)), (6, .int x6), (5, .int 1), (4, .int (fX3_find c0)), (3, .int x3), (2, .int x2), (0, .ref g)]) hx hb dX3_writeOld_121 rfl hl (by decide) rfl (fun ls hl => ?_)
                      refine lv_iinc (v := (x6 + 1)) (lv' := [(6, .int (x6 + 1)), (1, .int (woo d x1)), (5, .int 1), (4, .int (fX3_find c0)), (3, .int x3), (2, .int x2), (0, .ref g)]) hx hb dX3_writeOld_122 hl (k := 1) rfl rfl (by decide) rfl (fun ls hl => ?_)
                      refine lv_goto (tgt := 95) hx hb dX3_writeOld_125 (by decide) ?_
                      exact ih2 (md ++ [d]) _ u_2 _ _ H locs ls (by rw [hmd]; simp) (by rw [e6, List.length_append, nI_1]; rfl) (by rw [← hB2]; simp [wms, ob_app]) (by rw [← hL2]; simp [wms]) hw_2o (by have := wob_len d x1; rw [List.length_append, ob_len, List.length_append]; simp; omega) hP hD hS (lv_sub hl [0, 2, 3, 4, 5, 1, 6] rfl)
              exact loop2 (t.take (lmk t)) [] y9 g9 _ _ H locs ls rfl (by rw [e2, nI_1]; rfl) hB hL p9 (by simpa using h9) hP hD hS (lv_sub hl [0, 1, 2, 3, 4, 5, 6] rfl)
            · skip
              refine lv_iload hx hb dX3_writeOld_65 (lv_at hl 0 rfl) ?_
              refine lv_iconst (v := (-1)) hx hb dX3_writeOld_67 (by decide) ?_
              refine lv_icmp_eq (tgt := 87) hx hb dX3_writeOld_68 (by decide) (fun c68_1 => ?_) (fun c68_1 => ?_)
              · skip
                refine lv_iconst (v := 0) hx hb dX3_writeOld_87 (by decide) ?_
                refine lv_istore (lv' := [(5, .int 0), (4, .int (fX3_find c0)), (3, .int x3), (2, .int x2), (1, .int x1), (0, .ref g)]) hx hb dX3_writeOld_88 hl (by decide) rfl (fun ls hl => ?_)
                refine lv_iload_n hx hb dX3_writeOld_90 rfl (lv_at hl 3 rfl) ?_
                refine lv_iconst (v := 1) hx hb dX3_writeOld_91 (by decide) ?_
                refine lv_iadd hx hb dX3_writeOld_92 ?_
                refine lv_istore (lv' := [(6, .int (x2 + 1)), (5, .int 0), (4, .int (fX3_find c0)), (3, .int x3), (2, .int x2), (1, .int x1), (0, .ref g)]) hx hb dX3_writeOld_93 hl (by decide) rfl (fun ls hl => ?_)
                refine lv_iload hx hb dX3_writeOld_95 (lv_at hl 0 rfl) ?_
                refine lv_iload_n hx hb dX3_writeOld_97 rfl (lv_at hl 3 rfl) ?_
                refine lv_icmp_ge (tgt := 128) hx hb dX3_writeOld_98 (by decide) (fun c98_3 => ?_) (fun c98_3 => ?_)
                · skip
                  refine lv_aload_n hx hb dX3_writeOld_128 rfl (lv_at hl 6 rfl) ?_
                  refine va_get (D := D) (ci := 4) (v := .ref a3) (C := RX3) (T := TX3) (N := 15) hx hb hts (by decide +kernel) hown hK hP 0 rfl rfl 3 (by decide) (hts (.fieldLink RX3 13 "CharacterRowsModel" "text" "[I") (by decide +kernel)) (fun _ h9 => h9) rfl dX3_writeOld_129 ?_
                  refine lv_iload_n hx hb dX3_writeOld_132 rfl (lv_at hl 4 rfl) ?_
                  refine va_iald hx hb hK hP 1 0 rfl rfl (rwf_in (l := done) (r := c0 :: t) (j := 0) p3 (by decide) hy e2 rfl (by simp)) dX3_writeOld_133 ?_
                  refine lv_topi (fun r9 hr9 => ?_)
                  replace hr9 : r9 = c0 := hr9.trans (rwf_v (l := done) (r := c0 :: t) (j := 0) p3 (by decide) hy e2 rfl (by simp))
                  subst r9
                  refine vp_callSi (W.runS ⟨hx, hb, hml, hown, hts⟩ (KX3_isPlain l c0) (va_cwS 1 hts gX3_writeOld_X3_isPlain rfl rfl rfl (by decide +kernel) ⟨Nat.le_of_ble_eq_true rfl, Nat.le_of_ble_eq_true rfl⟩) pcS_S rfl rfl hl.1 rfl (lv_room (Nat.le_of_ble_eq_true rfl)) dX3_writeOld_134 ⟨Nat.zero_le _, Nat.zero_le _⟩) (fun r9 hr9 => ?_)
                  replace hr9 : r9 = fX2_isPlain c0 := hr9.trans (x3_isPlain _)
                  subst r9
                  refine lv_if_eq (tgt := 153) hx hb dX3_writeOld_137 (by decide) (fun c137_2 => ?_) (fun c137_2 => ?_)
                  · skip
                    refine lv_iload hx hb dX3_writeOld_153 (lv_at hl 1 rfl) ?_
                    refine lv_if_eq (tgt := 169) hx hb dX3_writeOld_155 (by decide) (fun c155_1 => ?_) (fun c155_1 => ?_)
                    · skip
                      refine lv_iload_n hx hb dX3_writeOld_169 rfl (lv_at hl 4 rfl) ?_
                      refine lv_istore (lv' := [(6, .int x2), (5, .int 0), (4, .int (fX3_find c0)), (3, .int x3), (2, .int x2), (1, .int x1), (0, .ref g)]) hx hb dX3_writeOld_170 hl (by decide) rfl (fun ls hl => ?_)
                      have hst := fnd_eq c68_1
                      have hmk : fX2_isMark c0 = 0 := by rcases Decidable.em (fX2_isMark c0 = 0) with q | q; exact q; exact absurd hst (mk_set q)
                      have hg := grp_lost (si := si) (t := t) (i := done.length) (on := x1) hmk ⟨c62_1, hst⟩
                      rw [hg] at hB hL
                      rw [il_app] at hL
                      have loop3 : ∀ (gr : List Int32) (gd yB : List Int32) (gB : Nat → Int32) (k : Nat) (x6 : Int32) (H : Heap) (locs : List Loc) (ls : Array Slot), ((c0 :: t.take (lmk t)) = gd ++ gr) → (x6 = nI (done.length + gd.length)) → (yB ++ il gr (pls (done.length + gd.length) gr) ++ il (woS si (t.drop (lmk t)) (done.length + 1 + lmk t) x1 1).2.1 (woS si (t.drop (lmk t)) (done.length + 1 + lmk t) x1 1).2.2 = TL) → (rw_ok gB 200 yB) → (yB.length = 2 * k) → (k ≤ done.length + gd.length) → va_P D vwCl [(g, .inr (4, [.int th, .ref a1, .int sn, .ref a3, .int (nI y3.length), .ref a5, .int oc, .ref a7, .ref a8, .ref a9, .int (nI y9.length), .ref aB, .int (nI k), .int si, .int wg])), (a3, .inl (k3, 100, .inl g3)), (a9, .inl (k9, 1200, .inl g9)), (aB, .inl (kB, 200, .inl gB))] H → va_D A [(g, .inr (4, [.int th, .ref a1, .int sn, .ref a3, .int (nI y3.length), .ref a5, .int oc, .ref a7, .ref a8, .ref a9, .int (nI y9.length), .ref aB, .int (nI k), .int si, .int wg])), (a3, .inl (k3, 100, .inl g3)), (a9, .inl (k9, 1200, .inl g9)), (aB, .inl (kB, 200, .inl gB))] → va_S A s.heap H locs → lv_has ls 7 [(6, .int x6), (5, .int 0), (4, .int (fX3_find c0)), (3, .int x3), (2, .int x2), (1, .int x1), (0, .ref g)] → W p l e ({ frames := 2, cells := 0, slots := 0, locals := 44 }) s m ([.ref g] : List Value).toArray below meth c H locs 0 0 (MQ below (qcV (S := (Nat → Int32) × (Nat → Int32) × Nat) D (fun u => rw_ok u.1 1200 TB ∧ rw_ok u.2.1 200 TL ∧ TL.length = 2 * u.2.2) (fun u => [(g, .inr (4, [.int th, .ref a1, .int sn, .ref a3, .int (nI y3.length), .ref a5, .int oc, .ref a7, .ref a8, .ref a9, .int (nI TB.length), .ref aB, .int (nI u.2.2), .int si, .int wg])), (a3, .inl (k3, 100, .inl g3)), (a9, .inl (k9, 1200, .inl u.1)), (aB, .inl (kB, 200, .inl u.2.1))]) A) ([.ref g] : List Value).toArray s 0 0 A) (F0 m 172 ls [])  := by
                        intro gr
                        induction gr with
                        | nil =>
                          intro gd yB gB k x6 H locs ls hgd e6 hL3 pB hk hk3 hP hD hS hl
                          have hgl : lmk t + 1 = gd.length := by have := congrArg List.length hgd; simp [htk] at this; omega
                          refine lv_iload hx hb dX3_writeOld_172 (lv_at hl 0 rfl) ?_
                          refine lv_iload_n hx hb dX3_writeOld_174 rfl (lv_at hl 3 rfl) ?_
                          refine lv_icmp_ge (tgt := 190) hx hb dX3_writeOld_175 (by decide) (fun c175_1 => ?_) (fun c175_1 => ?_)
                          · skip
                            refine lv_aload_n hx hb dX3_writeOld_190 rfl (lv_at hl 6 rfl) ?_
                            refine va_get (D := D) (ci := 4) (v := .ref a3) (C := RX3) (T := TX3) (N := 15) hx hb hts (by decide +kernel) hown hK hP 0 rfl rfl 3 (by decide) (hts (.fieldLink RX3 13 "CharacterRowsModel" "text" "[I") (by decide +kernel)) (fun _ h9 => h9) rfl dX3_writeOld_191 ?_
                            refine lv_iload_n hx hb dX3_writeOld_194 rfl (lv_at hl 4 rfl) ?_
                            refine va_iald hx hb hK hP 1 0 rfl rfl (rwf_in (l := done) (r := c0 :: t) (j := 0) p3 (by decide) hy e2 rfl (by simp)) dX3_writeOld_195 ?_
                            refine lv_topi (fun r9 hr9 => ?_)
                            replace hr9 : r9 = c0 := hr9.trans (rwf_v (l := done) (r := c0 :: t) (j := 0) p3 (by decide) hy e2 rfl (by simp))
                            subst r9
                            refine vp_callSi (W.runS ⟨hx, hb, hml, hown, hts⟩ (KX3_isMark l c0) (va_cwS 1 hts gX3_writeOld_X3_isMark rfl rfl rfl (by decide +kernel) ⟨Nat.le_of_ble_eq_true rfl, Nat.le_of_ble_eq_true rfl⟩) pcS_S rfl rfl hl.1 rfl (lv_room (Nat.le_of_ble_eq_true rfl)) dX3_writeOld_196 ⟨Nat.zero_le _, Nat.zero_le _⟩) (fun r9 hr9 => ?_)
                            replace hr9 : r9 = fX2_isMark c0 := hr9.trans (x3_isMark _)
                            subst r9
                            refine lv_if_ne (tgt := 210) hx hb dX3_writeOld_199 (by decide) (fun c199_1 => ?_) (fun c199_1 => ?_)
                            · skip
                              exact absurd hmk c199_1
                            · skip
                              refine lv_aload_n hx hb dX3_writeOld_202 rfl (lv_at hl 6 rfl) ?_
                              refine lv_aload_n hx hb dX3_writeOld_203 rfl (lv_at hl 6 rfl) ?_
                              refine va_get (D := D) (ci := 4) (v := .int si) (C := RX3) (T := TX3) (N := 15) hx hb hts (by decide +kernel) hown hK hP 0 rfl rfl 13 (by decide) (hts (.fieldLink RX3 32 "CharacterRowsModel" "standIn" "I") (by decide +kernel)) (fun _ h9 => h9) rfl dX3_writeOld_204 ?_
                              refine clV (wr := [(a3, .inl (k3, 100, .inl g3)), (aB, .inl (kB, 200, .inl gB))]) (va_runV ⟨hx, hb, hml, hown, hts⟩ (KX3_put l D g a1 a3 a5 a7 a8 a9 aB th sn (nI y3.length) oc (nI k) si wg k9 g9 y9 p9 (by omega) si _) (cwV 1 hts gX3_writeOld_X3_put rfl rfl rfl (by decide +kernel) ⟨Nat.le_of_ble_eq_true rfl, Nat.le_of_ble_eq_true rfl⟩) (pcM_V (hP.sub (ws' := [(g, .inr (4, [.int th, .ref a1, .int sn, .ref a3, .int (nI y3.length), .ref a5, .int oc, .ref a7, .ref a8, .ref a9, .int (nI y9.length), .ref aB, .int (nI k), .int si, .int wg])), (a9, .inl (k9, 1200, .inl g9))]) [0, 2] rfl) (hD.sub (ws' := [(g, .inr (4, [.int th, .ref a1, .int sn, .ref a3, .int (nI y3.length), .ref a5, .int oc, .ref a7, .ref a8, .ref a9, .int (nI y9.length), .ref aB, .int (nI k), .int si, .int wg])), (a9, .inl (k9, 1200, .inl g9))]) [0, 2] (by decide) rfl) (hK.sub (tys' := [(k9, .byte)]) [1] rfl) hN 0 rfl rfl) rfl rfl hl.1 rfl (lv_room (Nat.le_of_ble_eq_true rfl)) dX3_writeOld_207 ⟨Nat.zero_le _, Nat.zero_le _⟩) hP hD hS hA [0, 2] [1, 3] rfl rfl (by decide) (by decide) (fun u_3 H locs hw_3 hP hD hS => ?_)
                              have hP : va_P D vwCl [(g, .inr (4, [.int th, .ref a1, .int sn, .ref a3, .int (nI y3.length), .ref a5, .int oc, .ref a7, .ref a8, .ref a9, .int (nI (y9 ++ [(si : Int32).toInt8.toInt32]).length), .ref aB, .int (nI k), .int si, .int wg])), (a3, .inl (k3, 100, .inl g3)), (a9, .inl (k9, 1200, .inl u_3)), (aB, .inl (kB, 200, .inl gB))] H := hP.sub [2, 0, 3, 1] rfl
                              have hD : va_D A [(g, .inr (4, [.int th, .ref a1, .int sn, .ref a3, .int (nI y3.length), .ref a5, .int oc, .ref a7, .ref a8, .ref a9, .int (nI (y9 ++ [(si : Int32).toInt8.toInt32]).length), .ref aB, .int (nI k), .int si, .int wg])), (a3, .inl (k3, 100, .inl g3)), (a9, .inl (k9, 1200, .inl u_3)), (aB, .inl (kB, 200, .inl gB))] := hD.sub [2, 0, 3, 1] (by decide) rfl
                              refine lv_iload_n hx hb dX3_writeOld_210 rfl (lv_at hl 3 rfl) ?_
                              refine lv_istore_n (lv' := [(2, .int x3), (6, .int x6), (5, .int 0), (4, .int (fX3_find c0)), (3, .int x3), (1, .int x1), (0, .ref g)]) hx hb dX3_writeOld_211 rfl hl (by decide) rfl (fun ls hl => ?_)
                              refine lv_goto (tgt := 4) hx hb dX3_writeOld_212 (by decide) ?_
                              exact ih (t.drop (lmk t)) (done ++ c0 :: t.take (lmk t)) (y9 ++ [(si : Int32).toInt8.toInt32]) yB u_3 gB k _ _ H locs ls (by simp at hn ⊢; omega) (by rw [hy]; simp) (by rw [e3]; congr 1; simp; omega) (by rw [← hB]; simp [htk, Nat.add_assoc, Nat.add_comm 1, wms, ob, woo, c62_1]) (by rw [← hL3]; simp [htk, Nat.add_assoc, Nat.add_comm 1, wms, il, woo, c62_1]) hw_3 pB hk (by simp; omega) (by simp; omega) hP hD hS (lv_sub hl [0, 5, 6] rfl)
                          · skip
                            exact absurd (by rw [e6, e3]; exact nI_le (by omega) (by omega)) c175_1
                        | cons d gr ih3 =>
                          intro gd yB gB k x6 H locs ls hgd e6 hL3 pB hk hk3 hP hD hS hl
                          have hgl : lmk t + 1 = gd.length + (gr.length + 1) := by have := congrArg List.length hgd; simp [htk] at this; omega
                          have hyd : y3 = (done ++ gd) ++ d :: (gr ++ t.drop (lmk t)) := by have h8 : c0 :: t = (c0 :: t.take (lmk t)) ++ t.drop (lmk t) := (by simp); rw [hy, h8, hgd]; simp
                          refine lv_iload hx hb dX3_writeOld_172 (lv_at hl 0 rfl) ?_
                          refine lv_iload_n hx hb dX3_writeOld_174 rfl (lv_at hl 3 rfl) ?_
                          refine lv_icmp_ge (tgt := 190) hx hb dX3_writeOld_175 (by decide) (fun c175_2 => ?_) (fun c175_2 => ?_)
                          · skip
                            exact absurd c175_2 (by rw [e6, e3]; exact nI_ge (by omega) (by omega))
                          · skip
                            have e6b : x6 = nI (done ++ gd).length := by rw [e6]; simp
                            subst e6b
                            refine lv_aload_n hx hb dX3_writeOld_178 rfl (lv_at hl 6 rfl) ?_
                            refine lv_iload hx hb dX3_writeOld_179 (lv_at hl 0 rfl) ?_
                            refine clV (wr := [(a9, .inl (k9, 1200, .inl g9))]) (va_runV ⟨hx, hb, hml, hown, hts⟩ (KX3_tell l D g a1 a3 a5 a7 a8 a9 aB th sn (nI y3.length) oc (nI y9.length) si wg k3 g3 y3 p3 kB gB yB pB k hk (by omega) (done ++ gd) (gr ++ t.drop (lmk t)) d hyd _) (cwV 1 hts gX3_writeOld_X3_tell rfl rfl rfl (by decide +kernel) ⟨Nat.le_of_ble_eq_true rfl, Nat.le_of_ble_eq_true rfl⟩) (pcM_V (hP.sub (ws' := [(g, .inr (4, [.int th, .ref a1, .int sn, .ref a3, .int (nI y3.length), .ref a5, .int oc, .ref a7, .ref a8, .ref a9, .int (nI y9.length), .ref aB, .int (nI k), .int si, .int wg])), (a3, .inl (k3, 100, .inl g3)), (aB, .inl (kB, 200, .inl gB))]) [0, 1, 3] rfl) (hD.sub (ws' := [(g, .inr (4, [.int th, .ref a1, .int sn, .ref a3, .int (nI y3.length), .ref a5, .int oc, .ref a7, .ref a8, .ref a9, .int (nI y9.length), .ref aB, .int (nI k), .int si, .int wg])), (a3, .inl (k3, 100, .inl g3)), (aB, .inl (kB, 200, .inl gB))]) [0, 1, 3] (by decide) rfl) (hK.sub (tys' := [(k3, .int), (kB, .int)]) [0, 2] rfl) hN 0 rfl rfl) rfl rfl hl.1 rfl (lv_room (Nat.le_of_ble_eq_true rfl)) dX3_writeOld_181 ⟨Nat.zero_le _, Nat.zero_le _⟩) hP hD hS hA [0, 1, 3] [2] rfl rfl (by decide) (by decide) (fun u_4 H locs hw_4 hP hD hS => ?_)
                            have hP : va_P D vwCl [(g, .inr (4, [.int th, .ref a1, .int sn, .ref a3, .int (nI y3.length), .ref a5, .int oc, .ref a7, .ref a8, .ref a9, .int (nI y9.length), .ref aB, .int (nI (k + 1)), .int si, .int wg])), (a3, .inl (k3, 100, .inl g3)), (a9, .inl (k9, 1200, .inl g9)), (aB, .inl (kB, 200, .inl u_4))] H := hP.sub [1, 2, 0, 3] rfl
                            have hD : va_D A [(g, .inr (4, [.int th, .ref a1, .int sn, .ref a3, .int (nI y3.length), .ref a5, .int oc, .ref a7, .ref a8, .ref a9, .int (nI y9.length), .ref aB, .int (nI (k + 1)), .int si, .int wg])), (a3, .inl (k3, 100, .inl g3)), (a9, .inl (k9, 1200, .inl g9)), (aB, .inl (kB, 200, .inl u_4))] := hD.sub [1, 2, 0, 3] (by decide) rfl
                            refine lv_iinc (v := ((nI (done ++ gd).length) + 1)) (lv' := [(6, .int ((nI (done ++ gd).length) + 1)), (5, .int 0), (4, .int (fX3_find c0)), (3, .int x3), (2, .int x2), (1, .int x1), (0, .ref g)]) hx hb dX3_writeOld_184 hl (k := 0) rfl rfl (by decide) rfl (fun ls hl => ?_)
                            refine lv_goto (tgt := 172) hx hb dX3_writeOld_187 (by decide) ?_
                            exact ih3 (gd ++ [d]) _ u_4 (k + 1) _ H locs ls (by rw [hgd]; simp) (by rw [e6]; rw [nI_1]; congr 1; simp; omega) (by rw [← hL3]; simp [il, pls, Nat.add_assoc]) hw_4 (by simp; omega) (by simp; omega) hP hD hS (lv_sub hl [0, 1, 2, 3, 4, 5, 6] rfl)
                      exact loop3 (c0 :: t.take (lmk t)) [] yB gB k _ H locs ls rfl (by rw [e2]; rfl) (by rw [List.append_assoc]; exact hL) pB hk hk2 hP hD hS (lv_sub hl [0, 1, 2, 3, 4, 5, 6] rfl)
                    · exact absurd c155_1 (by decide)
                  · skip
                    exact absurd c62_1 c137_2
                · skip
                  refine lv_iload hx hb dX3_writeOld_101 (lv_at hl 1 rfl) ?_
                  refine lv_if_eq (tgt := 128) hx hb dX3_writeOld_103 (by decide) (fun c103_2 => ?_) (fun c103_2 => ?_)
                  · skip
                    refine lv_aload_n hx hb dX3_writeOld_128 rfl (lv_at hl 6 rfl) ?_
                    refine va_get (D := D) (ci := 4) (v := .ref a3) (C := RX3) (T := TX3) (N := 15) hx hb hts (by decide +kernel) hown hK hP 0 rfl rfl 3 (by decide) (hts (.fieldLink RX3 13 "CharacterRowsModel" "text" "[I") (by decide +kernel)) (fun _ h9 => h9) rfl dX3_writeOld_129 ?_
                    refine lv_iload_n hx hb dX3_writeOld_132 rfl (lv_at hl 4 rfl) ?_
                    refine va_iald hx hb hK hP 1 0 rfl rfl (rwf_in (l := done) (r := c0 :: t) (j := 0) p3 (by decide) hy e2 rfl (by simp)) dX3_writeOld_133 ?_
                    refine lv_topi (fun r9 hr9 => ?_)
                    replace hr9 : r9 = c0 := hr9.trans (rwf_v (l := done) (r := c0 :: t) (j := 0) p3 (by decide) hy e2 rfl (by simp))
                    subst r9
                    refine vp_callSi (W.runS ⟨hx, hb, hml, hown, hts⟩ (KX3_isPlain l c0) (va_cwS 1 hts gX3_writeOld_X3_isPlain rfl rfl rfl (by decide +kernel) ⟨Nat.le_of_ble_eq_true rfl, Nat.le_of_ble_eq_true rfl⟩) pcS_S rfl rfl hl.1 rfl (lv_room (Nat.le_of_ble_eq_true rfl)) dX3_writeOld_134 ⟨Nat.zero_le _, Nat.zero_le _⟩) (fun r9 hr9 => ?_)
                    replace hr9 : r9 = fX2_isPlain c0 := hr9.trans (x3_isPlain _)
                    subst r9
                    refine lv_if_eq (tgt := 153) hx hb dX3_writeOld_137 (by decide) (fun c137_3 => ?_) (fun c137_3 => ?_)
                    · skip
                      refine lv_iload hx hb dX3_writeOld_153 (lv_at hl 1 rfl) ?_
                      refine lv_if_eq (tgt := 169) hx hb dX3_writeOld_155 (by decide) (fun c155_2 => ?_) (fun c155_2 => ?_)
                      · skip
                        refine lv_iload_n hx hb dX3_writeOld_169 rfl (lv_at hl 4 rfl) ?_
                        refine lv_istore (lv' := [(6, .int x2), (5, .int 0), (4, .int (fX3_find c0)), (3, .int x3), (2, .int x2), (1, .int x1), (0, .ref g)]) hx hb dX3_writeOld_170 hl (by decide) rfl (fun ls hl => ?_)
                        have hst := fnd_eq c68_1
                        have hmk : fX2_isMark c0 = 0 := by rcases Decidable.em (fX2_isMark c0 = 0) with q | q; exact q; exact absurd hst (mk_set q)
                        have hg := grp_lost (si := si) (t := t) (i := done.length) (on := x1) hmk ⟨c62_1, hst⟩
                        rw [hg] at hB hL
                        rw [il_app] at hL
                        have loop3 : ∀ (gr : List Int32) (gd yB : List Int32) (gB : Nat → Int32) (k : Nat) (x6 : Int32) (H : Heap) (locs : List Loc) (ls : Array Slot), ((c0 :: t.take (lmk t)) = gd ++ gr) → (x6 = nI (done.length + gd.length)) → (yB ++ il gr (pls (done.length + gd.length) gr) ++ il (woS si (t.drop (lmk t)) (done.length + 1 + lmk t) x1 1).2.1 (woS si (t.drop (lmk t)) (done.length + 1 + lmk t) x1 1).2.2 = TL) → (rw_ok gB 200 yB) → (yB.length = 2 * k) → (k ≤ done.length + gd.length) → va_P D vwCl [(g, .inr (4, [.int th, .ref a1, .int sn, .ref a3, .int (nI y3.length), .ref a5, .int oc, .ref a7, .ref a8, .ref a9, .int (nI y9.length), .ref aB, .int (nI k), .int si, .int wg])), (a3, .inl (k3, 100, .inl g3)), (a9, .inl (k9, 1200, .inl g9)), (aB, .inl (kB, 200, .inl gB))] H → va_D A [(g, .inr (4, [.int th, .ref a1, .int sn, .ref a3, .int (nI y3.length), .ref a5, .int oc, .ref a7, .ref a8, .ref a9, .int (nI y9.length), .ref aB, .int (nI k), .int si, .int wg])), (a3, .inl (k3, 100, .inl g3)), (a9, .inl (k9, 1200, .inl g9)), (aB, .inl (kB, 200, .inl gB))] → va_S A s.heap H locs → lv_has ls 7 [(6, .int x6), (5, .int 0), (4, .int (fX3_find c0)), (3, .int x3), (2, .int x2), (1, .int x1), (0, .ref g)] → W p l e ({ frames := 2, cells := 0, slots := 0, locals := 44 }) s m ([.ref g] : List Value).toArray below meth c H locs 0 0 (MQ below (qcV (S := (Nat → Int32) × (Nat → Int32) × Nat) D (fun u => rw_ok u.1 1200 TB ∧ rw_ok u.2.1 200 TL ∧ TL.length = 2 * u.2.2) (fun u => [(g, .inr (4, [.int th, .ref a1, .int sn, .ref a3, .int (nI y3.length), .ref a5, .int oc, .ref a7, .ref a8, .ref a9, .int (nI TB.length), .ref aB, .int (nI u.2.2), .int si, .int wg])), (a3, .inl (k3, 100, .inl g3)), (a9, .inl (k9, 1200, .inl u.1)), (aB, .inl (kB, 200, .inl u.2.1))]) A) ([.ref g] : List Value).toArray s 0 0 A) (F0 m 172 ls [])  := by
                          intro gr
                          induction gr with
                          | nil =>
                            intro gd yB gB k x6 H locs ls hgd e6 hL3 pB hk hk3 hP hD hS hl
                            have hgl : lmk t + 1 = gd.length := by have := congrArg List.length hgd; simp [htk] at this; omega
                            refine lv_iload hx hb dX3_writeOld_172 (lv_at hl 0 rfl) ?_
                            refine lv_iload_n hx hb dX3_writeOld_174 rfl (lv_at hl 3 rfl) ?_
                            refine lv_icmp_ge (tgt := 190) hx hb dX3_writeOld_175 (by decide) (fun c175_3 => ?_) (fun c175_3 => ?_)
                            · skip
                              refine lv_aload_n hx hb dX3_writeOld_190 rfl (lv_at hl 6 rfl) ?_
                              refine va_get (D := D) (ci := 4) (v := .ref a3) (C := RX3) (T := TX3) (N := 15) hx hb hts (by decide +kernel) hown hK hP 0 rfl rfl 3 (by decide) (hts (.fieldLink RX3 13 "CharacterRowsModel" "text" "[I") (by decide +kernel)) (fun _ h9 => h9) rfl dX3_writeOld_191 ?_
                              refine lv_iload_n hx hb dX3_writeOld_194 rfl (lv_at hl 4 rfl) ?_
                              refine va_iald hx hb hK hP 1 0 rfl rfl (rwf_in (l := done) (r := c0 :: t) (j := 0) p3 (by decide) hy e2 rfl (by simp)) dX3_writeOld_195 ?_
                              refine lv_topi (fun r9 hr9 => ?_)
                              replace hr9 : r9 = c0 := hr9.trans (rwf_v (l := done) (r := c0 :: t) (j := 0) p3 (by decide) hy e2 rfl (by simp))
                              subst r9
                              refine vp_callSi (W.runS ⟨hx, hb, hml, hown, hts⟩ (KX3_isMark l c0) (va_cwS 1 hts gX3_writeOld_X3_isMark rfl rfl rfl (by decide +kernel) ⟨Nat.le_of_ble_eq_true rfl, Nat.le_of_ble_eq_true rfl⟩) pcS_S rfl rfl hl.1 rfl (lv_room (Nat.le_of_ble_eq_true rfl)) dX3_writeOld_196 ⟨Nat.zero_le _, Nat.zero_le _⟩) (fun r9 hr9 => ?_)
                              replace hr9 : r9 = fX2_isMark c0 := hr9.trans (x3_isMark _)
                              subst r9
                              refine lv_if_ne (tgt := 210) hx hb dX3_writeOld_199 (by decide) (fun c199_2 => ?_) (fun c199_2 => ?_)
                              · skip
                                exact absurd hmk c199_2
                              · skip
                                refine lv_aload_n hx hb dX3_writeOld_202 rfl (lv_at hl 6 rfl) ?_
                                refine lv_aload_n hx hb dX3_writeOld_203 rfl (lv_at hl 6 rfl) ?_
                                refine va_get (D := D) (ci := 4) (v := .int si) (C := RX3) (T := TX3) (N := 15) hx hb hts (by decide +kernel) hown hK hP 0 rfl rfl 13 (by decide) (hts (.fieldLink RX3 32 "CharacterRowsModel" "standIn" "I") (by decide +kernel)) (fun _ h9 => h9) rfl dX3_writeOld_204 ?_
                                refine clV (wr := [(a3, .inl (k3, 100, .inl g3)), (aB, .inl (kB, 200, .inl gB))]) (va_runV ⟨hx, hb, hml, hown, hts⟩ (KX3_put l D g a1 a3 a5 a7 a8 a9 aB th sn (nI y3.length) oc (nI k) si wg k9 g9 y9 p9 (by omega) si _) (cwV 1 hts gX3_writeOld_X3_put rfl rfl rfl (by decide +kernel) ⟨Nat.le_of_ble_eq_true rfl, Nat.le_of_ble_eq_true rfl⟩) (pcM_V (hP.sub (ws' := [(g, .inr (4, [.int th, .ref a1, .int sn, .ref a3, .int (nI y3.length), .ref a5, .int oc, .ref a7, .ref a8, .ref a9, .int (nI y9.length), .ref aB, .int (nI k), .int si, .int wg])), (a9, .inl (k9, 1200, .inl g9))]) [0, 2] rfl) (hD.sub (ws' := [(g, .inr (4, [.int th, .ref a1, .int sn, .ref a3, .int (nI y3.length), .ref a5, .int oc, .ref a7, .ref a8, .ref a9, .int (nI y9.length), .ref aB, .int (nI k), .int si, .int wg])), (a9, .inl (k9, 1200, .inl g9))]) [0, 2] (by decide) rfl) (hK.sub (tys' := [(k9, .byte)]) [1] rfl) hN 0 rfl rfl) rfl rfl hl.1 rfl (lv_room (Nat.le_of_ble_eq_true rfl)) dX3_writeOld_207 ⟨Nat.zero_le _, Nat.zero_le _⟩) hP hD hS hA [0, 2] [1, 3] rfl rfl (by decide) (by decide) (fun u_5 H locs hw_5 hP hD hS => ?_)
                                have hP : va_P D vwCl [(g, .inr (4, [.int th, .ref a1, .int sn, .ref a3, .int (nI y3.length), .ref a5, .int oc, .ref a7, .ref a8, .ref a9, .int (nI (y9 ++ [(si : Int32).toInt8.toInt32]).length), .ref aB, .int (nI k), .int si, .int wg])), (a3, .inl (k3, 100, .inl g3)), (a9, .inl (k9, 1200, .inl u_5)), (aB, .inl (kB, 200, .inl gB))] H := hP.sub [2, 0, 3, 1] rfl
                                have hD : va_D A [(g, .inr (4, [.int th, .ref a1, .int sn, .ref a3, .int (nI y3.length), .ref a5, .int oc, .ref a7, .ref a8, .ref a9, .int (nI (y9 ++ [(si : Int32).toInt8.toInt32]).length), .ref aB, .int (nI k), .int si, .int wg])), (a3, .inl (k3, 100, .inl g3)), (a9, .inl (k9, 1200, .inl u_5)), (aB, .inl (kB, 200, .inl gB))] := hD.sub [2, 0, 3, 1] (by decide) rfl
                                refine lv_iload_n hx hb dX3_writeOld_210 rfl (lv_at hl 3 rfl) ?_
                                refine lv_istore_n (lv' := [(2, .int x3), (6, .int x6), (5, .int 0), (4, .int (fX3_find c0)), (3, .int x3), (1, .int x1), (0, .ref g)]) hx hb dX3_writeOld_211 rfl hl (by decide) rfl (fun ls hl => ?_)
                                refine lv_goto (tgt := 4) hx hb dX3_writeOld_212 (by decide) ?_
                                exact ih (t.drop (lmk t)) (done ++ c0 :: t.take (lmk t)) (y9 ++ [(si : Int32).toInt8.toInt32]) yB u_5 gB k _ _ H locs ls (by simp at hn ⊢; omega) (by rw [hy]; simp) (by rw [e3]; congr 1; simp; omega) (by rw [← hB]; simp [htk, Nat.add_assoc, Nat.add_comm 1, wms, ob, woo, c62_1]) (by rw [← hL3]; simp [htk, Nat.add_assoc, Nat.add_comm 1, wms, il, woo, c62_1]) hw_5 pB hk (by simp; omega) (by simp; omega) hP hD hS (lv_sub hl [0, 5, 6] rfl)
                            · skip
                              exact absurd (by rw [e6, e3]; exact nI_le (by omega) (by omega)) c175_3
                          | cons d gr ih3 =>
                            intro gd yB gB k x6 H locs ls hgd e6 hL3 pB hk hk3 hP hD hS hl
                            have hgl : lmk t + 1 = gd.length + (gr.length + 1) := by have := congrArg List.length hgd; simp [htk] at this; omega
                            have hyd : y3 = (done ++ gd) ++ d :: (gr ++ t.drop (lmk t)) := by have h8 : c0 :: t = (c0 :: t.take (lmk t)) ++ t.drop (lmk t) := (by simp); rw [hy, h8, hgd]; simp
                            refine lv_iload hx hb dX3_writeOld_172 (lv_at hl 0 rfl) ?_
                            refine lv_iload_n hx hb dX3_writeOld_174 rfl (lv_at hl 3 rfl) ?_
                            refine lv_icmp_ge (tgt := 190) hx hb dX3_writeOld_175 (by decide) (fun c175_4 => ?_) (fun c175_4 => ?_)
                            · skip
                              exact absurd c175_4 (by rw [e6, e3]; exact nI_ge (by omega) (by omega))
                            · skip
                              have e6b : x6 = nI (done ++ gd).length := by rw [e6]; simp
                              subst e6b
                              refine lv_aload_n hx hb dX3_writeOld_178 rfl (lv_at hl 6 rfl) ?_
                              refine lv_iload hx hb dX3_writeOld_179 (lv_at hl 0 rfl) ?_
                              refine clV (wr := [(a9, .inl (k9, 1200, .inl g9))]) (va_runV ⟨hx, hb, hml, hown, hts⟩ (KX3_tell l D g a1 a3 a5 a7 a8 a9 aB th sn (nI y3.length) oc (nI y9.length) si wg k3 g3 y3 p3 kB gB yB pB k hk (by omega) (done ++ gd) (gr ++ t.drop (lmk t)) d hyd _) (cwV 1 hts gX3_writeOld_X3_tell rfl rfl rfl (by decide +kernel) ⟨Nat.le_of_ble_eq_true rfl, Nat.le_of_ble_eq_true rfl⟩) (pcM_V (hP.sub (ws' := [(g, .inr (4, [.int th, .ref a1, .int sn, .ref a3, .int (nI y3.length), .ref a5, .int oc, .ref a7, .ref a8, .ref a9, .int (nI y9.length), .ref aB, .int (nI k), .int si, .int wg])), (a3, .inl (k3, 100, .inl g3)), (aB, .inl (kB, 200, .inl gB))]) [0, 1, 3] rfl) (hD.sub (ws' := [(g, .inr (4, [.int th, .ref a1, .int sn, .ref a3, .int (nI y3.length), .ref a5, .int oc, .ref a7, .ref a8, .ref a9, .int (nI y9.length), .ref aB, .int (nI k), .int si, .int wg])), (a3, .inl (k3, 100, .inl g3)), (aB, .inl (kB, 200, .inl gB))]) [0, 1, 3] (by decide) rfl) (hK.sub (tys' := [(k3, .int), (kB, .int)]) [0, 2] rfl) hN 0 rfl rfl) rfl rfl hl.1 rfl (lv_room (Nat.le_of_ble_eq_true rfl)) dX3_writeOld_181 ⟨Nat.zero_le _, Nat.zero_le _⟩) hP hD hS hA [0, 1, 3] [2] rfl rfl (by decide) (by decide) (fun u_6 H locs hw_6 hP hD hS => ?_)
                              have hP : va_P D vwCl [(g, .inr (4, [.int th, .ref a1, .int sn, .ref a3, .int (nI y3.length), .ref a5, .int oc, .ref a7, .ref a8, .ref a9, .int (nI y9.length), .ref aB, .int (nI (k + 1)), .int si, .int wg])), (a3, .inl (k3, 100, .inl g3)), (a9, .inl (k9, 1200, .inl g9)), (aB, .inl (kB, 200, .inl u_6))] H := hP.sub [1, 2, 0, 3] rfl
                              have hD : va_D A [(g, .inr (4, [.int th, .ref a1, .int sn, .ref a3, .int (nI y3.length), .ref a5, .int oc, .ref a7, .ref a8, .ref a9, .int (nI y9.length), .ref aB, .int (nI (k + 1)), .int si, .int wg])), (a3, .inl (k3, 100, .inl g3)), (a9, .inl (k9, 1200, .inl g9)), (aB, .inl (kB, 200, .inl u_6))] := hD.sub [1, 2, 0, 3] (by decide) rfl
                              refine lv_iinc (v := ((nI (done ++ gd).length) + 1)) (lv' := [(6, .int ((nI (done ++ gd).length) + 1)), (5, .int 0), (4, .int (fX3_find c0)), (3, .int x3), (2, .int x2), (1, .int x1), (0, .ref g)]) hx hb dX3_writeOld_184 hl (k := 0) rfl rfl (by decide) rfl (fun ls hl => ?_)
                              refine lv_goto (tgt := 172) hx hb dX3_writeOld_187 (by decide) ?_
                              exact ih3 (gd ++ [d]) _ u_6 (k + 1) _ H locs ls (by rw [hgd]; simp) (by rw [e6]; rw [nI_1]; congr 1; simp; omega) (by rw [← hL3]; simp [il, pls, Nat.add_assoc]) hw_6 (by simp; omega) (by simp; omega) hP hD hS (lv_sub hl [0, 1, 2, 3, 4, 5, 6] rfl)
                        exact loop3 (c0 :: t.take (lmk t)) [] yB gB k _ H locs ls rfl (by rw [e2]; rfl) (by rw [List.append_assoc]; exact hL) pB hk hk2 hP hD hS (lv_sub hl [0, 1, 2, 3, 4, 5, 6] rfl)
                      · exact absurd c155_2 (by decide)
                    · skip
                      exact absurd c62_1 c137_3
                  · exact absurd c103_2 (by decide)
              · skip
                refine lv_aload_n hx hb dX3_writeOld_71 rfl (lv_at hl 4 rfl) ?_
                refine va_get (D := D) (ci := 4) (v := .ref a3) (C := RX3) (T := TX3) (N := 15) hx hb hts (by decide +kernel) hown hK hP 0 rfl rfl 3 (by decide) (hts (.fieldLink RX3 13 "CharacterRowsModel" "text" "[I") (by decide +kernel)) (fun _ h9 => h9) rfl dX3_writeOld_72 ?_
                refine lv_iload_n hx hb dX3_writeOld_75 rfl (lv_at hl 2 rfl) ?_
                refine va_iald hx hb hK hP 1 0 rfl rfl (rwf_in (l := done) (r := c0 :: t) (j := 0) p3 (by decide) hy e2 rfl (by simp)) dX3_writeOld_76 ?_
                refine lv_topi (fun r9 hr9 => ?_)
                replace hr9 : r9 = c0 := hr9.trans (rwf_v (l := done) (r := c0 :: t) (j := 0) p3 (by decide) hy e2 rfl (by simp))
                subst r9
                refine vp_callSi (W.runS ⟨hx, hb, hml, hown, hts⟩ (KX3_isMark l c0) (va_cwS 1 hts gX3_writeOld_X3_isMark rfl rfl rfl (by decide +kernel) ⟨Nat.le_of_ble_eq_true rfl, Nat.le_of_ble_eq_true rfl⟩) pcS_S rfl rfl hl.1 rfl (lv_room (Nat.le_of_ble_eq_true rfl)) dX3_writeOld_77 ⟨Nat.zero_le _, Nat.zero_le _⟩) (fun r9 hr9 => ?_)
                replace hr9 : r9 = fX2_isMark c0 := hr9.trans (x3_isMark _)
                subst r9
                refine lv_if_ne (tgt := 87) hx hb dX3_writeOld_80 (by decide) (fun c80_1 => ?_) (fun c80_1 => ?_)
                · skip
                  refine lv_iconst (v := 0) hx hb dX3_writeOld_87 (by decide) ?_
                  refine lv_istore (lv' := [(5, .int 0), (4, .int (fX3_find c0)), (3, .int x3), (2, .int x2), (1, .int x1), (0, .ref g)]) hx hb dX3_writeOld_88 hl (by decide) rfl (fun ls hl => ?_)
                  refine lv_iload_n hx hb dX3_writeOld_90 rfl (lv_at hl 3 rfl) ?_
                  refine lv_iconst (v := 1) hx hb dX3_writeOld_91 (by decide) ?_
                  refine lv_iadd hx hb dX3_writeOld_92 ?_
                  refine lv_istore (lv' := [(6, .int (x2 + 1)), (5, .int 0), (4, .int (fX3_find c0)), (3, .int x3), (2, .int x2), (1, .int x1), (0, .ref g)]) hx hb dX3_writeOld_93 hl (by decide) rfl (fun ls hl => ?_)
                  refine lv_iload hx hb dX3_writeOld_95 (lv_at hl 0 rfl) ?_
                  refine lv_iload_n hx hb dX3_writeOld_97 rfl (lv_at hl 3 rfl) ?_
                  refine lv_icmp_ge (tgt := 128) hx hb dX3_writeOld_98 (by decide) (fun c98_4 => ?_) (fun c98_4 => ?_)
                  · skip
                    refine lv_aload_n hx hb dX3_writeOld_128 rfl (lv_at hl 6 rfl) ?_
                    refine va_get (D := D) (ci := 4) (v := .ref a3) (C := RX3) (T := TX3) (N := 15) hx hb hts (by decide +kernel) hown hK hP 0 rfl rfl 3 (by decide) (hts (.fieldLink RX3 13 "CharacterRowsModel" "text" "[I") (by decide +kernel)) (fun _ h9 => h9) rfl dX3_writeOld_129 ?_
                    refine lv_iload_n hx hb dX3_writeOld_132 rfl (lv_at hl 4 rfl) ?_
                    refine va_iald hx hb hK hP 1 0 rfl rfl (rwf_in (l := done) (r := c0 :: t) (j := 0) p3 (by decide) hy e2 rfl (by simp)) dX3_writeOld_133 ?_
                    refine lv_topi (fun r9 hr9 => ?_)
                    replace hr9 : r9 = c0 := hr9.trans (rwf_v (l := done) (r := c0 :: t) (j := 0) p3 (by decide) hy e2 rfl (by simp))
                    subst r9
                    refine vp_callSi (W.runS ⟨hx, hb, hml, hown, hts⟩ (KX3_isPlain l c0) (va_cwS 1 hts gX3_writeOld_X3_isPlain rfl rfl rfl (by decide +kernel) ⟨Nat.le_of_ble_eq_true rfl, Nat.le_of_ble_eq_true rfl⟩) pcS_S rfl rfl hl.1 rfl (lv_room (Nat.le_of_ble_eq_true rfl)) dX3_writeOld_134 ⟨Nat.zero_le _, Nat.zero_le _⟩) (fun r9 hr9 => ?_)
                    replace hr9 : r9 = fX2_isPlain c0 := hr9.trans (x3_isPlain _)
                    subst r9
                    refine lv_if_eq (tgt := 153) hx hb dX3_writeOld_137 (by decide) (fun c137_4 => ?_) (fun c137_4 => ?_)
                    · skip
                      refine lv_iload hx hb dX3_writeOld_153 (lv_at hl 1 rfl) ?_
                      refine lv_if_eq (tgt := 169) hx hb dX3_writeOld_155 (by decide) (fun c155_3 => ?_) (fun c155_3 => ?_)
                      · skip
                        refine lv_iload_n hx hb dX3_writeOld_169 rfl (lv_at hl 4 rfl) ?_
                        refine lv_istore (lv' := [(6, .int x2), (5, .int 0), (4, .int (fX3_find c0)), (3, .int x3), (2, .int x2), (1, .int x1), (0, .ref g)]) hx hb dX3_writeOld_170 hl (by decide) rfl (fun ls hl => ?_)
                        have hmk : ¬ fX2_isMark c0 = 0 := c80_1
                        have hg := grp_mark (si := si) (t := t) (i := done.length) (on := x1) hmk
                        rw [hg] at hB hL
                        rw [il_app] at hL
                        have loop3 : ∀ (gr : List Int32) (gd yB : List Int32) (gB : Nat → Int32) (k : Nat) (x6 : Int32) (H : Heap) (locs : List Loc) (ls : Array Slot), ((c0 :: t.take (lmk t)) = gd ++ gr) → (x6 = nI (done.length + gd.length)) → (yB ++ il gr (pls (done.length + gd.length) gr) ++ il (woS si (t.drop (lmk t)) (done.length + 1 + lmk t) x1 1).2.1 (woS si (t.drop (lmk t)) (done.length + 1 + lmk t) x1 1).2.2 = TL) → (rw_ok gB 200 yB) → (yB.length = 2 * k) → (k ≤ done.length + gd.length) → va_P D vwCl [(g, .inr (4, [.int th, .ref a1, .int sn, .ref a3, .int (nI y3.length), .ref a5, .int oc, .ref a7, .ref a8, .ref a9, .int (nI y9.length), .ref aB, .int (nI k), .int si, .int wg])), (a3, .inl (k3, 100, .inl g3)), (a9, .inl (k9, 1200, .inl g9)), (aB, .inl (kB, 200, .inl gB))] H → va_D A [(g, .inr (4, [.int th, .ref a1, .int sn, .ref a3, .int (nI y3.length), .ref a5, .int oc, .ref a7, .ref a8, .ref a9, .int (nI y9.length), .ref aB, .int (nI k), .int si, .int wg])), (a3, .inl (k3, 100, .inl g3)), (a9, .inl (k9, 1200, .inl g9)), (aB, .inl (kB, 200, .inl gB))] → va_S A s.heap H locs → lv_has ls 7 [(6, .int x6), (5, .int 0), (4, .int (fX3_find c0)), (3, .int x3), (2, .int x2), (1, .int x1), (0, .ref g)] → W p l e ({ frames := 2, cells := 0, slots := 0, locals := 44 }) s m ([.ref g] : List Value).toArray below meth c H locs 0 0 (MQ below (qcV (S := (Nat → Int32) × (Nat → Int32) × Nat) D (fun u => rw_ok u.1 1200 TB ∧ rw_ok u.2.1 200 TL ∧ TL.length = 2 * u.2.2) (fun u => [(g, .inr (4, [.int th, .ref a1, .int sn, .ref a3, .int (nI y3.length), .ref a5, .int oc, .ref a7, .ref a8, .ref a9, .int (nI TB.length), .ref aB, .int (nI u.2.2), .int si, .int wg])), (a3, .inl (k3, 100, .inl g3)), (a9, .inl (k9, 1200, .inl u.1)), (aB, .inl (kB, 200, .inl u.2.1))]) A) ([.ref g] : List Value).toArray s 0 0 A) (F0 m 172 ls [])  := by
                          intro gr
                          induction gr with
                          | nil =>
                            intro gd yB gB k x6 H locs ls hgd e6 hL3 pB hk hk3 hP hD hS hl
                            have hgl : lmk t + 1 = gd.length := by have := congrArg List.length hgd; simp [htk] at this; omega
                            refine lv_iload hx hb dX3_writeOld_172 (lv_at hl 0 rfl) ?_
                            refine lv_iload_n hx hb dX3_writeOld_174 rfl (lv_at hl 3 rfl) ?_
                            refine lv_icmp_ge (tgt := 190) hx hb dX3_writeOld_175 (by decide) (fun c175_5 => ?_) (fun c175_5 => ?_)
                            · skip
                              refine lv_aload_n hx hb dX3_writeOld_190 rfl (lv_at hl 6 rfl) ?_
                              refine va_get (D := D) (ci := 4) (v := .ref a3) (C := RX3) (T := TX3) (N := 15) hx hb hts (by decide +kernel) hown hK hP 0 rfl rfl 3 (by decide) (hts (.fieldLink RX3 13 "CharacterRowsModel" "text" "[I") (by decide +kernel)) (fun _ h9 => h9) rfl dX3_writeOld_191 ?_
                              refine lv_iload_n hx hb dX3_writeOld_194 rfl (lv_at hl 4 rfl) ?_
                              refine va_iald hx hb hK hP 1 0 rfl rfl (rwf_in (l := done) (r := c0 :: t) (j := 0) p3 (by decide) hy e2 rfl (by simp)) dX3_writeOld_195 ?_
                              refine lv_topi (fun r9 hr9 => ?_)
                              replace hr9 : r9 = c0 := hr9.trans (rwf_v (l := done) (r := c0 :: t) (j := 0) p3 (by decide) hy e2 rfl (by simp))
                              subst r9
                              refine vp_callSi (W.runS ⟨hx, hb, hml, hown, hts⟩ (KX3_isMark l c0) (va_cwS 1 hts gX3_writeOld_X3_isMark rfl rfl rfl (by decide +kernel) ⟨Nat.le_of_ble_eq_true rfl, Nat.le_of_ble_eq_true rfl⟩) pcS_S rfl rfl hl.1 rfl (lv_room (Nat.le_of_ble_eq_true rfl)) dX3_writeOld_196 ⟨Nat.zero_le _, Nat.zero_le _⟩) (fun r9 hr9 => ?_)
                              replace hr9 : r9 = fX2_isMark c0 := hr9.trans (x3_isMark _)
                              subst r9
                              refine lv_if_ne (tgt := 210) hx hb dX3_writeOld_199 (by decide) (fun c199_3 => ?_) (fun c199_3 => ?_)
                              · skip
                                refine lv_iload_n hx hb dX3_writeOld_210 rfl (lv_at hl 3 rfl) ?_
                                refine lv_istore_n (lv' := [(2, .int x3), (6, .int x6), (5, .int 0), (4, .int (fX3_find c0)), (3, .int x3), (1, .int x1), (0, .ref g)]) hx hb dX3_writeOld_211 rfl hl (by decide) rfl (fun ls hl => ?_)
                                refine lv_goto (tgt := 4) hx hb dX3_writeOld_212 (by decide) ?_
                                exact ih (t.drop (lmk t)) (done ++ c0 :: t.take (lmk t)) y9 yB g9 gB k _ _ H locs ls (by simp at hn ⊢; omega) (by rw [hy]; simp) (by rw [e3]; congr 1; simp; omega) (by rw [← hB]; simp [htk, Nat.add_assoc, Nat.add_comm 1, wms, ob, woo, c62_1]) (by rw [← hL3]; simp [htk, Nat.add_assoc, Nat.add_comm 1, wms, il, woo, c62_1]) p9 pB hk (by simp; omega) (by simp; omega) hP hD hS (lv_sub hl [0, 5, 6] rfl)
                              · skip
                                exact absurd c199_3 hmk
                            · skip
                              exact absurd (by rw [e6, e3]; exact nI_le (by omega) (by omega)) c175_5
                          | cons d gr ih3 =>
                            intro gd yB gB k x6 H locs ls hgd e6 hL3 pB hk hk3 hP hD hS hl
                            have hgl : lmk t + 1 = gd.length + (gr.length + 1) := by have := congrArg List.length hgd; simp [htk] at this; omega
                            have hyd : y3 = (done ++ gd) ++ d :: (gr ++ t.drop (lmk t)) := by have h8 : c0 :: t = (c0 :: t.take (lmk t)) ++ t.drop (lmk t) := (by simp); rw [hy, h8, hgd]; simp
                            refine lv_iload hx hb dX3_writeOld_172 (lv_at hl 0 rfl) ?_
                            refine lv_iload_n hx hb dX3_writeOld_174 rfl (lv_at hl 3 rfl) ?_
                            refine lv_icmp_ge (tgt := 190) hx hb dX3_writeOld_175 (by decide) (fun c175_6 => ?_) (fun c175_6 => ?_)
                            · skip
                              exact absurd c175_6 (by rw [e6, e3]; exact nI_ge (by omega) (by omega))
                            · skip
                              have e6b : x6 = nI (done ++ gd).length := by rw [e6]; simp
                              subst e6b
                              refine lv_aload_n hx hb dX3_writeOld_178 rfl (lv_at hl 6 rfl) ?_
                              refine lv_iload hx hb dX3_writeOld_179 (lv_at hl 0 rfl) ?_
                              refine clV (wr := [(a9, .inl (k9, 1200, .inl g9))]) (va_runV ⟨hx, hb, hml, hown, hts⟩ (KX3_tell l D g a1 a3 a5 a7 a8 a9 aB th sn (nI y3.length) oc (nI y9.length) si wg k3 g3 y3 p3 kB gB yB pB k hk (by omega) (done ++ gd) (gr ++ t.drop (lmk t)) d hyd _) (cwV 1 hts gX3_writeOld_X3_tell rfl rfl rfl (by decide +kernel) ⟨Nat.le_of_ble_eq_true rfl, Nat.le_of_ble_eq_true rfl⟩) (pcM_V (hP.sub (ws' := [(g, .inr (4, [.int th, .ref a1, .int sn, .ref a3, .int (nI y3.length), .ref a5, .int oc, .ref a7, .ref a8, .ref a9, .int (nI y9.length), .ref aB, .int (nI k), .int si, .int wg])), (a3, .inl (k3, 100, .inl g3)), (aB, .inl (kB, 200, .inl gB))]) [0, 1, 3] rfl) (hD.sub (ws' := [(g, .inr (4, [.int th, .ref a1, .int sn, .ref a3, .int (nI y3.length), .ref a5, .int oc, .ref a7, .ref a8, .ref a9, .int (nI y9.length), .ref aB, .int (nI k), .int si, .int wg])), (a3, .inl (k3, 100, .inl g3)), (aB, .inl (kB, 200, .inl gB))]) [0, 1, 3] (by decide) rfl) (hK.sub (tys' := [(k3, .int), (kB, .int)]) [0, 2] rfl) hN 0 rfl rfl) rfl rfl hl.1 rfl (lv_room (Nat.le_of_ble_eq_true rfl)) dX3_writeOld_181 ⟨Nat.zero_le _, Nat.zero_le _⟩) hP hD hS hA [0, 1, 3] [2] rfl rfl (by decide) (by decide) (fun u_7 H locs hw_7 hP hD hS => ?_)
                              have hP : va_P D vwCl [(g, .inr (4, [.int th, .ref a1, .int sn, .ref a3, .int (nI y3.length), .ref a5, .int oc, .ref a7, .ref a8, .ref a9, .int (nI y9.length), .ref aB, .int (nI (k + 1)), .int si, .int wg])), (a3, .inl (k3, 100, .inl g3)), (a9, .inl (k9, 1200, .inl g9)), (aB, .inl (kB, 200, .inl u_7))] H := hP.sub [1, 2, 0, 3] rfl
                              have hD : va_D A [(g, .inr (4, [.int th, .ref a1, .int sn, .ref a3, .int (nI y3.length), .ref a5, .int oc, .ref a7, .ref a8, .ref a9, .int (nI y9.length), .ref aB, .int (nI (k + 1)), .int si, .int wg])), (a3, .inl (k3, 100, .inl g3)), (a9, .inl (k9, 1200, .inl g9)), (aB, .inl (kB, 200, .inl u_7))] := hD.sub [1, 2, 0, 3] (by decide) rfl
                              refine lv_iinc (v := ((nI (done ++ gd).length) + 1)) (lv' := [(6, .int ((nI (done ++ gd).length) + 1)), (5, .int 0), (4, .int (fX3_find c0)), (3, .int x3), (2, .int x2), (1, .int x1), (0, .ref g)]) hx hb dX3_writeOld_184 hl (k := 0) rfl rfl (by decide) rfl (fun ls hl => ?_)
                              refine lv_goto (tgt := 172) hx hb dX3_writeOld_187 (by decide) ?_
                              exact ih3 (gd ++ [d]) _ u_7 (k + 1) _ H locs ls (by rw [hgd]; simp) (by rw [e6]; rw [nI_1]; congr 1; simp; omega) (by rw [← hL3]; simp [il, pls, Nat.add_assoc]) hw_7 (by simp; omega) (by simp; omega) hP hD hS (lv_sub hl [0, 1, 2, 3, 4, 5, 6] rfl)
                        exact loop3 (c0 :: t.take (lmk t)) [] yB gB k _ H locs ls rfl (by rw [e2]; rfl) (by rw [List.append_assoc]; exact hL) pB hk hk2 hP hD hS (lv_sub hl [0, 1, 2, 3, 4, 5, 6] rfl)
                      · exact absurd c155_3 (by decide)
                    · skip
                      exact absurd c62_1 c137_4
                  · skip
                    refine lv_iload hx hb dX3_writeOld_101 (lv_at hl 1 rfl) ?_
                    refine lv_if_eq (tgt := 128) hx hb dX3_writeOld_103 (by decide) (fun c103_3 => ?_) (fun c103_3 => ?_)
                    · skip
                      refine lv_aload_n hx hb dX3_writeOld_128 rfl (lv_at hl 6 rfl) ?_
                      refine va_get (D := D) (ci := 4) (v := .ref a3) (C := RX3) (T := TX3) (N := 15) hx hb hts (by decide +kernel) hown hK hP 0 rfl rfl 3 (by decide) (hts (.fieldLink RX3 13 "CharacterRowsModel" "text" "[I") (by decide +kernel)) (fun _ h9 => h9) rfl dX3_writeOld_129 ?_
                      refine lv_iload_n hx hb dX3_writeOld_132 rfl (lv_at hl 4 rfl) ?_
                      refine va_iald hx hb hK hP 1 0 rfl rfl (rwf_in (l := done) (r := c0 :: t) (j := 0) p3 (by decide) hy e2 rfl (by simp)) dX3_writeOld_133 ?_
                      refine lv_topi (fun r9 hr9 => ?_)
                      replace hr9 : r9 = c0 := hr9.trans (rwf_v (l := done) (r := c0 :: t) (j := 0) p3 (by decide) hy e2 rfl (by simp))
                      subst r9
                      refine vp_callSi (W.runS ⟨hx, hb, hml, hown, hts⟩ (KX3_isPlain l c0) (va_cwS 1 hts gX3_writeOld_X3_isPlain rfl rfl rfl (by decide +kernel) ⟨Nat.le_of_ble_eq_true rfl, Nat.le_of_ble_eq_true rfl⟩) pcS_S rfl rfl hl.1 rfl (lv_room (Nat.le_of_ble_eq_true rfl)) dX3_writeOld_134 ⟨Nat.zero_le _, Nat.zero_le _⟩) (fun r9 hr9 => ?_)
                      replace hr9 : r9 = fX2_isPlain c0 := hr9.trans (x3_isPlain _)
                      subst r9
                      refine lv_if_eq (tgt := 153) hx hb dX3_writeOld_137 (by decide) (fun c137_5 => ?_) (fun c137_5 => ?_)
                      · skip
                        refine lv_iload hx hb dX3_writeOld_153 (lv_at hl 1 rfl) ?_
                        refine lv_if_eq (tgt := 169) hx hb dX3_writeOld_155 (by decide) (fun c155_4 => ?_) (fun c155_4 => ?_)
                        · skip
                          refine lv_iload_n hx hb dX3_writeOld_169 rfl (lv_at hl 4 rfl) ?_
                          refine lv_istore (lv' := [(6, .int x2), (5, .int 0), (4, .int (fX3_find c0)), (3, .int x3), (2, .int x2), (1, .int x1), (0, .ref g)]) hx hb dX3_writeOld_170 hl (by decide) rfl (fun ls hl => ?_)
                          have hmk : ¬ fX2_isMark c0 = 0 := c80_1
                          have hg := grp_mark (si := si) (t := t) (i := done.length) (on := x1) hmk
                          rw [hg] at hB hL
                          rw [il_app] at hL
                          have loop3 : ∀ (gr : List Int32) (gd yB : List Int32) (gB : Nat → Int32) (k : Nat) (x6 : Int32) (H : Heap) (locs : List Loc) (ls : Array Slot), ((c0 :: t.take (lmk t)) = gd ++ gr) → (x6 = nI (done.length + gd.length)) → (yB ++ il gr (pls (done.length + gd.length) gr) ++ il (woS si (t.drop (lmk t)) (done.length + 1 + lmk t) x1 1).2.1 (woS si (t.drop (lmk t)) (done.length + 1 + lmk t) x1 1).2.2 = TL) → (rw_ok gB 200 yB) → (yB.length = 2 * k) → (k ≤ done.length + gd.length) → va_P D vwCl [(g, .inr (4, [.int th, .ref a1, .int sn, .ref a3, .int (nI y3.length), .ref a5, .int oc, .ref a7, .ref a8, .ref a9, .int (nI y9.length), .ref aB, .int (nI k), .int si, .int wg])), (a3, .inl (k3, 100, .inl g3)), (a9, .inl (k9, 1200, .inl g9)), (aB, .inl (kB, 200, .inl gB))] H → va_D A [(g, .inr (4, [.int th, .ref a1, .int sn, .ref a3, .int (nI y3.length), .ref a5, .int oc, .ref a7, .ref a8, .ref a9, .int (nI y9.length), .ref aB, .int (nI k), .int si, .int wg])), (a3, .inl (k3, 100, .inl g3)), (a9, .inl (k9, 1200, .inl g9)), (aB, .inl (kB, 200, .inl gB))] → va_S A s.heap H locs → lv_has ls 7 [(6, .int x6), (5, .int 0), (4, .int (fX3_find c0)), (3, .int x3), (2, .int x2), (1, .int x1), (0, .ref g)] → W p l e ({ frames := 2, cells := 0, slots := 0, locals := 44 }) s m ([.ref g] : List Value).toArray below meth c H locs 0 0 (MQ below (qcV (S := (Nat → Int32) × (Nat → Int32) × Nat) D (fun u => rw_ok u.1 1200 TB ∧ rw_ok u.2.1 200 TL ∧ TL.length = 2 * u.2.2) (fun u => [(g, .inr (4, [.int th, .ref a1, .int sn, .ref a3, .int (nI y3.length), .ref a5, .int oc, .ref a7, .ref a8, .ref a9, .int (nI TB.length), .ref aB, .int (nI u.2.2), .int si, .int wg])), (a3, .inl (k3, 100, .inl g3)), (a9, .inl (k9, 1200, .inl u.1)), (aB, .inl (kB, 200, .inl u.2.1))]) A) ([.ref g] : List Value).toArray s 0 0 A) (F0 m 172 ls [])  := by
                            intro gr
                            induction gr with
                            | nil =>
                              intro gd yB gB k x6 H locs ls hgd e6 hL3 pB hk hk3 hP hD hS hl
                              have hgl : lmk t + 1 = gd.length := by have := congrArg List.length hgd; simp [htk] at this; omega
                              refine lv_iload hx hb dX3_writeOld_172 (lv_at hl 0 rfl) ?_
                              refine lv_iload_n hx hb dX3_writeOld_174 rfl (lv_at hl 3 rfl) ?_
                              refine lv_icmp_ge (tgt := 190) hx hb dX3_writeOld_175 (by decide) (fun c175_7 => ?_) (fun c175_7 => ?_)
                              · skip
                                refine lv_aload_n hx hb dX3_writeOld_190 rfl (lv_at hl 6 rfl) ?_
                                refine va_get (D := D) (ci := 4) (v := .ref a3) (C := RX3) (T := TX3) (N := 15) hx hb hts (by decide +kernel) hown hK hP 0 rfl rfl 3 (by decide) (hts (.fieldLink RX3 13 "CharacterRowsModel" "text" "[I") (by decide +kernel)) (fun _ h9 => h9) rfl dX3_writeOld_191 ?_
                                refine lv_iload_n hx hb dX3_writeOld_194 rfl (lv_at hl 4 rfl) ?_
                                refine va_iald hx hb hK hP 1 0 rfl rfl (rwf_in (l := done) (r := c0 :: t) (j := 0) p3 (by decide) hy e2 rfl (by simp)) dX3_writeOld_195 ?_
                                refine lv_topi (fun r9 hr9 => ?_)
                                replace hr9 : r9 = c0 := hr9.trans (rwf_v (l := done) (r := c0 :: t) (j := 0) p3 (by decide) hy e2 rfl (by simp))
                                subst r9
                                refine vp_callSi (W.runS ⟨hx, hb, hml, hown, hts⟩ (KX3_isMark l c0) (va_cwS 1 hts gX3_writeOld_X3_isMark rfl rfl rfl (by decide +kernel) ⟨Nat.le_of_ble_eq_true rfl, Nat.le_of_ble_eq_true rfl⟩) pcS_S rfl rfl hl.1 rfl (lv_room (Nat.le_of_ble_eq_true rfl)) dX3_writeOld_196 ⟨Nat.zero_le _, Nat.zero_le _⟩) (fun r9 hr9 => ?_)
                                replace hr9 : r9 = fX2_isMark c0 := hr9.trans (x3_isMark _)
                                subst r9
                                refine lv_if_ne (tgt := 210) hx hb dX3_writeOld_199 (by decide) (fun c199_4 => ?_) (fun c199_4 => ?_)
                                · skip
                                  refine lv_iload_n hx hb dX3_writeOld_210 rfl (lv_at hl 3 rfl) ?_
                                  refine lv_istore_n (lv' := [(2, .int x3), (6, .int x6), (5, .int 0), (4, .int (fX3_find c0)), (3, .int x3), (1, .int x1), (0, .ref g)]) hx hb dX3_writeOld_211 rfl hl (by decide) rfl (fun ls hl => ?_)
                                  refine lv_goto (tgt := 4) hx hb dX3_writeOld_212 (by decide) ?_
                                  exact ih (t.drop (lmk t)) (done ++ c0 :: t.take (lmk t)) y9 yB g9 gB k _ _ H locs ls (by simp at hn ⊢; omega) (by rw [hy]; simp) (by rw [e3]; congr 1; simp; omega) (by rw [← hB]; simp [htk, Nat.add_assoc, Nat.add_comm 1, wms, ob, woo, c62_1]) (by rw [← hL3]; simp [htk, Nat.add_assoc, Nat.add_comm 1, wms, il, woo, c62_1]) p9 pB hk (by simp; omega) (by simp; omega) hP hD hS (lv_sub hl [0, 5, 6] rfl)
                                · skip
                                  exact absurd c199_4 hmk
                              · skip
                                exact absurd (by rw [e6, e3]; exact nI_le (by omega) (by omega)) c175_7
                            | cons d gr ih3 =>
                              intro gd yB gB k x6 H locs ls hgd e6 hL3 pB hk hk3 hP hD hS hl
                              have hgl : lmk t + 1 = gd.length + (gr.length + 1) := by have := congrArg List.length hgd; simp [htk] at this; omega
                              have hyd : y3 = (done ++ gd) ++ d :: (gr ++ t.drop (lmk t)) := by have h8 : c0 :: t = (c0 :: t.take (lmk t)) ++ t.drop (lmk t) := (by simp); rw [hy, h8, hgd]; simp
                              refine lv_iload hx hb dX3_writeOld_172 (lv_at hl 0 rfl) ?_
                              refine lv_iload_n hx hb dX3_writeOld_174 rfl (lv_at hl 3 rfl) ?_
                              refine lv_icmp_ge (tgt := 190) hx hb dX3_writeOld_175 (by decide) (fun c175_8 => ?_) (fun c175_8 => ?_)
                              · skip
                                exact absurd c175_8 (by rw [e6, e3]; exact nI_ge (by omega) (by omega))
                              · skip
                                have e6b : x6 = nI (done ++ gd).length := by rw [e6]; simp
                                subst e6b
                                refine lv_aload_n hx hb dX3_writeOld_178 rfl (lv_at hl 6 rfl) ?_
                                refine lv_iload hx hb dX3_writeOld_179 (lv_at hl 0 rfl) ?_
                                refine clV (wr := [(a9, .inl (k9, 1200, .inl g9))]) (va_runV ⟨hx, hb, hml, hown, hts⟩ (KX3_tell l D g a1 a3 a5 a7 a8 a9 aB th sn (nI y3.length) oc (nI y9.length) si wg k3 g3 y3 p3 kB gB yB pB k hk (by omega) (done ++ gd) (gr ++ t.drop (lmk t)) d hyd _) (cwV 1 hts gX3_writeOld_X3_tell rfl rfl rfl (by decide +kernel) ⟨Nat.le_of_ble_eq_true rfl, Nat.le_of_ble_eq_true rfl⟩) (pcM_V (hP.sub (ws' := [(g, .inr (4, [.int th, .ref a1, .int sn, .ref a3, .int (nI y3.length), .ref a5, .int oc, .ref a7, .ref a8, .ref a9, .int (nI y9.length), .ref aB, .int (nI k), .int si, .int wg])), (a3, .inl (k3, 100, .inl g3)), (aB, .inl (kB, 200, .inl gB))]) [0, 1, 3] rfl) (hD.sub (ws' := [(g, .inr (4, [.int th, .ref a1, .int sn, .ref a3, .int (nI y3.length), .ref a5, .int oc, .ref a7, .ref a8, .ref a9, .int (nI y9.length), .ref aB, .int (nI k), .int si, .int wg])), (a3, .inl (k3, 100, .inl g3)), (aB, .inl (kB, 200, .inl gB))]) [0, 1, 3] (by decide) rfl) (hK.sub (tys' := [(k3, .int), (kB, .int)]) [0, 2] rfl) hN 0 rfl rfl) rfl rfl hl.1 rfl (lv_room (Nat.le_of_ble_eq_true rfl)) dX3_writeOld_181 ⟨Nat.zero_le _, Nat.zero_le _⟩) hP hD hS hA [0, 1, 3] [2] rfl rfl (by decide) (by decide) (fun u_8 H locs hw_8 hP hD hS => ?_)
                                have hP : va_P D vwCl [(g, .inr (4, [.int th, .ref a1, .int sn, .ref a3, .int (nI y3.length), .ref a5, .int oc, .ref a7, .ref a8, .ref a9, .int (nI y9.length), .ref aB, .int (nI (k + 1)), .int si, .int wg])), (a3, .inl (k3, 100, .inl g3)), (a9, .inl (k9, 1200, .inl g9)), (aB, .inl (kB, 200, .inl u_8))] H := hP.sub [1, 2, 0, 3] rfl
                                have hD : va_D A [(g, .inr (4, [.int th, .ref a1, .int sn, .ref a3, .int (nI y3.length), .ref a5, .int oc, .ref a7, .ref a8, .ref a9, .int (nI y9.length), .ref aB, .int (nI (k + 1)), .int si, .int wg])), (a3, .inl (k3, 100, .inl g3)), (a9, .inl (k9, 1200, .inl g9)), (aB, .inl (kB, 200, .inl u_8))] := hD.sub [1, 2, 0, 3] (by decide) rfl
                                refine lv_iinc (v := ((nI (done ++ gd).length) + 1)) (lv' := [(6, .int ((nI (done ++ gd).length) + 1)), (5, .int 0), (4, .int (fX3_find c0)), (3, .int x3), (2, .int x2), (1, .int x1), (0, .ref g)]) hx hb dX3_writeOld_184 hl (k := 0) rfl rfl (by decide) rfl (fun ls hl => ?_)
                                refine lv_goto (tgt := 172) hx hb dX3_writeOld_187 (by decide) ?_
                                exact ih3 (gd ++ [d]) _ u_8 (k + 1) _ H locs ls (by rw [hgd]; simp) (by rw [e6]; rw [nI_1]; congr 1; simp; omega) (by rw [← hL3]; simp [il, pls, Nat.add_assoc]) hw_8 (by simp; omega) (by simp; omega) hP hD hS (lv_sub hl [0, 1, 2, 3, 4, 5, 6] rfl)
                          exact loop3 (c0 :: t.take (lmk t)) [] yB gB k _ H locs ls rfl (by rw [e2]; rfl) (by rw [List.append_assoc]; exact hL) pB hk hk2 hP hD hS (lv_sub hl [0, 1, 2, 3, 4, 5, 6] rfl)
                        · exact absurd c155_4 (by decide)
                      · skip
                        exact absurd c62_1 c137_5
                    · exact absurd c103_3 (by decide)
                · skip
                  refine lv_iconst (v := 1) hx hb dX3_writeOld_83 (by decide) ?_
                  refine lv_goto (tgt := 88) hx hb dX3_writeOld_84 (by decide) ?_
                  refine lv_istore (lv' := [(5, .int 1), (4, .int (fX3_find c0)), (3, .int x3), (2, .int x2), (1, .int x1), (0, .ref g)]) hx hb dX3_writeOld_88 hl (by decide) rfl (fun ls hl => ?_)
                  refine lv_iload_n hx hb dX3_writeOld_90 rfl (lv_at hl 3 rfl) ?_
                  refine lv_iconst (v := 1) hx hb dX3_writeOld_91 (by decide) ?_
                  refine lv_iadd hx hb dX3_writeOld_92 ?_
                  refine lv_istore (lv' := [(6, .int (x2 + 1)), (5, .int 1), (4, .int (fX3_find c0)), (3, .int x3), (2, .int x2), (1, .int x1), (0, .ref g)]) hx hb dX3_writeOld_93 hl (by decide) rfl (fun ls hl => ?_)
                  have hst := fnd_ne c68_1
                  have hpl : ¬ (fX2_isPlain c0 = 0 ∧ fX2_setOf c0 = -1) := fun q => hst q.2
                  have hmk : fX2_isMark c0 = 0 := c80_1
                  have hg := grp_can (si := si) (t := t) (i := done.length) (on := x1) hmk hpl
                  rw [hg] at hB hL
                  have loop2 : ∀ (ms : List Int32) (md y9 : List Int32) (g9 : Nat → Int32) (x1 x6 : Int32) (H : Heap) (locs : List Loc) (ls : Array Slot), (t.take (lmk t) = md ++ ms) → (x6 = nI (done.length + 1 + md.length)) → (y9 ++ ob ((wms (ms ++ [c0]) x1).1 ++ (woS si (t.drop (lmk t)) (done.length + 1 + lmk t) (wms (ms ++ [c0]) x1).2 1).1) = TB) → (yB ++ il (woS si (t.drop (lmk t)) (done.length + 1 + lmk t) (wms (ms ++ [c0]) x1).2 1).2.1 (woS si (t.drop (lmk t)) (done.length + 1 + lmk t) (wms (ms ++ [c0]) x1).2 1).2.2 = TL) → (rw_ok g9 1200 y9) → (y9.length ≤ 4 * (done.length + md.length)) → va_P D vwCl [(g, .inr (4, [.int th, .ref a1, .int sn, .ref a3, .int (nI y3.length), .ref a5, .int oc, .ref a7, .ref a8, .ref a9, .int (nI y9.length), .ref aB, .int (nI k), .int si, .int wg])), (a3, .inl (k3, 100, .inl g3)), (a9, .inl (k9, 1200, .inl g9)), (aB, .inl (kB, 200, .inl gB))] H → va_D A [(g, .inr (4, [.int th, .ref a1, .int sn, .ref a3, .int (nI y3.length), .ref a5, .int oc, .ref a7, .ref a8, .ref a9, .int (nI y9.length), .ref aB, .int (nI k), .int si, .int wg])), (a3, .inl (k3, 100, .inl g3)), (a9, .inl (k9, 1200, .inl g9)), (aB, .inl (kB, 200, .inl gB))] → va_S A s.heap H locs → lv_has ls 7 [(6, .int x6), (5, .int 1), (4, .int (fX3_find c0)), (3, .int x3), (2, .int x2), (1, .int x1), (0, .ref g)] → W p l e ({ frames := 2, cells := 0, slots := 0, locals := 44 }) s m ([.ref g] : List Value).toArray below meth c H locs 0 0 (MQ below (qcV (S := (Nat → Int32) × (Nat → Int32) × Nat) D (fun u => rw_ok u.1 1200 TB ∧ rw_ok u.2.1 200 TL ∧ TL.length = 2 * u.2.2) (fun u => [(g, .inr (4, [.int th, .ref a1, .int sn, .ref a3, .int (nI y3.length), .ref a5, .int oc, .ref a7, .ref a8, .ref a9, .int (nI TB.length), .ref aB, .int (nI u.2.2), .int si, .int wg])), (a3, .inl (k3, 100, .inl g3)), (a9, .inl (k9, 1200, .inl u.1)), (aB, .inl (kB, 200, .inl u.2.1))]) A) ([.ref g] : List Value).toArray s 0 0 A) (F0 m 95 ls [])  := by
                    intro ms
                    induction ms with
                    | nil =>
                      intro md y9 g9 x1 x6 H locs ls hmd e6 hB2 hL2 p9 h9 hP hD hS hl
                      have hmdl : lmk t = md.length := by rw [← htk, hmd]; simp
                      refine lv_iload hx hb dX3_writeOld_95 (lv_at hl 0 rfl) ?_
                      refine lv_iload_n hx hb dX3_writeOld_97 rfl (lv_at hl 3 rfl) ?_
                      refine lv_icmp_ge (tgt := 128) hx hb dX3_writeOld_98 (by decide) (fun c98_5 => ?_) (fun c98_5 => ?_)
                      · skip
                        refine lv_aload_n hx hb dX3_writeOld_128 rfl (lv_at hl 6 rfl) ?_
                        refine va_get (D := D) (ci := 4) (v := .ref a3) (C := RX3) (T := TX3) (N := 15) hx hb hts (by decide +kernel) hown hK hP 0 rfl rfl 3 (by decide) (hts (.fieldLink RX3 13 "CharacterRowsModel" "text" "[I") (by decide +kernel)) (fun _ h9 => h9) rfl dX3_writeOld_129 ?_
                        refine lv_iload_n hx hb dX3_writeOld_132 rfl (lv_at hl 4 rfl) ?_
                        refine va_iald hx hb hK hP 1 0 rfl rfl (rwf_in (l := done) (r := c0 :: t) (j := 0) p3 (by decide) hy e2 rfl (by simp)) dX3_writeOld_133 ?_
                        refine lv_topi (fun r9 hr9 => ?_)
                        replace hr9 : r9 = c0 := hr9.trans (rwf_v (l := done) (r := c0 :: t) (j := 0) p3 (by decide) hy e2 rfl (by simp))
                        subst r9
                        refine vp_callSi (W.runS ⟨hx, hb, hml, hown, hts⟩ (KX3_isPlain l c0) (va_cwS 1 hts gX3_writeOld_X3_isPlain rfl rfl rfl (by decide +kernel) ⟨Nat.le_of_ble_eq_true rfl, Nat.le_of_ble_eq_true rfl⟩) pcS_S rfl rfl hl.1 rfl (lv_room (Nat.le_of_ble_eq_true rfl)) dX3_writeOld_134 ⟨Nat.zero_le _, Nat.zero_le _⟩) (fun r9 hr9 => ?_)
                        replace hr9 : r9 = fX2_isPlain c0 := hr9.trans (x3_isPlain _)
                        subst r9
                        refine lv_if_eq (tgt := 153) hx hb dX3_writeOld_137 (by decide) (fun c137_6 => ?_) (fun c137_6 => ?_)
                        · skip
                          refine lv_iload hx hb dX3_writeOld_153 (lv_at hl 1 rfl) ?_
                          refine lv_if_eq (tgt := 169) hx hb dX3_writeOld_155 (by decide) (fun c155_5 => ?_) (fun c155_5 => ?_)
                          · exact absurd c155_5 (by decide)
                          · skip
                            refine lv_aload_n hx hb dX3_writeOld_158 rfl (lv_at hl 6 rfl) ?_
                            refine lv_iload hx hb dX3_writeOld_159 (lv_at hl 2 rfl) ?_
                            refine lv_iload_n hx hb dX3_writeOld_161 rfl (lv_at hl 5 rfl) ?_
                            refine clI (wr := [(a3, .inl (k3, 100, .inl g3)), (aB, .inl (kB, 200, .inl gB))]) (va_runV ⟨hx, hb, hml, hown, hts⟩ (KX3_putSet l D g a1 a3 a5 a7 a8 a9 aB th sn (nI y3.length) oc (nI k) si wg k9 g9 y9 p9 (by omega) (fX3_find c0) x1 _) (cwV 2 hts gX3_writeOld_X3_putSet rfl rfl rfl (by decide +kernel) ⟨Nat.le_of_ble_eq_true rfl, Nat.le_of_ble_eq_true rfl⟩) (pcM_V (hP.sub (ws' := [(g, .inr (4, [.int th, .ref a1, .int sn, .ref a3, .int (nI y3.length), .ref a5, .int oc, .ref a7, .ref a8, .ref a9, .int (nI y9.length), .ref aB, .int (nI k), .int si, .int wg])), (a9, .inl (k9, 1200, .inl g9))]) [0, 2] rfl) (hD.sub (ws' := [(g, .inr (4, [.int th, .ref a1, .int sn, .ref a3, .int (nI y3.length), .ref a5, .int oc, .ref a7, .ref a8, .ref a9, .int (nI y9.length), .ref aB, .int (nI k), .int si, .int wg])), (a9, .inl (k9, 1200, .inl g9))]) [0, 2] (by decide) rfl) (hK.sub (tys' := [(k9, .byte)]) [1] rfl) hN 0 rfl rfl) rfl rfl hl.1 rfl (lv_room (Nat.le_of_ble_eq_true rfl)) dX3_writeOld_162 ⟨Nat.zero_le _, Nat.zero_le _⟩) hP hD hS hA [0, 2] [1, 3] rfl rfl (by decide) (by decide) (fun r_2 u_9 H locs hw_9 hP hD hS => ?_)
                            obtain ⟨hw_9r, hw_9o⟩ := hw_9
                            rw [(ps_wob (on := x1) hst).2] at hw_9r
                            rw [(ps_wob (on := x1) hst).1] at hw_9o hP hD
                            subst hw_9r
                            have hP : va_P D vwCl [(g, .inr (4, [.int th, .ref a1, .int sn, .ref a3, .int (nI y3.length), .ref a5, .int oc, .ref a7, .ref a8, .ref a9, .int (nI (y9 ++ ob (wob c0 x1)).length), .ref aB, .int (nI k), .int si, .int wg])), (a3, .inl (k3, 100, .inl g3)), (a9, .inl (k9, 1200, .inl u_9)), (aB, .inl (kB, 200, .inl gB))] H := hP.sub [2, 0, 3, 1] rfl
                            have hD : va_D A [(g, .inr (4, [.int th, .ref a1, .int sn, .ref a3, .int (nI y3.length), .ref a5, .int oc, .ref a7, .ref a8, .ref a9, .int (nI (y9 ++ ob (wob c0 x1)).length), .ref aB, .int (nI k), .int si, .int wg])), (a3, .inl (k3, 100, .inl g3)), (a9, .inl (k9, 1200, .inl u_9)), (aB, .inl (kB, 200, .inl gB))] := hD.sub [2, 0, 3, 1] (by decide) rfl
                            refine lv_istore_n (lv' := [(1, .int (woo c0 x1)), (6, .int x6), (5, .int 1), (4, .int (fX3_find c0)), (3, .int x3), (2, .int x2), (0, .ref g)]) hx hb dX3_writeOld_165 rfl hl (by decide) rfl (fun ls hl => ?_)
                            refine lv_goto (tgt := 210) hx hb dX3_writeOld_166 (by decide) ?_
                            refine lv_iload_n hx hb dX3_writeOld_210 rfl (lv_at hl 4 rfl) ?_
                            refine lv_istore_n (lv' := [(2, .int x3), (1, .int (woo c0 x1)), (6, .int x6), (5, .int 1), (4, .int (fX3_find c0)), (3, .int x3), (0, .ref g)]) hx hb dX3_writeOld_211 rfl hl (by decide) rfl (fun ls hl => ?_)
                            refine lv_goto (tgt := 4) hx hb dX3_writeOld_212 (by decide) ?_
                            exact ih (t.drop (lmk t)) (done ++ c0 :: t.take (lmk t)) (y9 ++ ob (wob c0 x1)) yB u_9 gB k _ _ H locs ls (by simp at hn ⊢; omega) (by rw [hy]; simp) (by rw [e3]; congr 1; simp; omega) (by rw [← hB2]; simp [htk, Nat.add_assoc, Nat.add_comm 1, wms, ob, woo, c62_1]) (by rw [← hL2]; simp [htk, Nat.add_assoc, Nat.add_comm 1, wms, il, woo, c62_1]) hw_9o pB hk (by simp; omega) (by have := wob_len c0 x1; first | (rw [List.length_append, ob_len]; simp at hmdl ⊢; omega) | (simp at hmdl ⊢; omega)) hP hD hS (lv_sub hl [0, 1, 6] rfl)
                        · skip
                          exact absurd c62_1 c137_6
                      · skip
                        exact absurd (by rw [e6, e3, hmdl]; exact Int32.le_refl _) c98_5
                    | cons d ms ih2 =>
                      intro md y9 g9 x1 x6 H locs ls hmd e6 hB2 hL2 p9 h9 hP hD hS hl
                      have hmdl : lmk t = md.length + (ms.length + 1) := by rw [← htk, hmd]; simp
                      have hdm : ¬ fX2_isMark d = 0 := lmk_all t d (by rw [hmd]; simp)
                      have htt : t = md ++ d :: (ms ++ t.drop (lmk t)) := by have h8 := List.take_append_drop (lmk t) t; rw [hmd] at h8; exact h8.symm.trans (by simp)
                      refine lv_iload hx hb dX3_writeOld_95 (lv_at hl 0 rfl) ?_
                      refine lv_iload_n hx hb dX3_writeOld_97 rfl (lv_at hl 3 rfl) ?_
                      refine lv_icmp_ge (tgt := 128) hx hb dX3_writeOld_98 (by decide) (fun c98_6 => ?_) (fun c98_6 => ?_)
                      · skip
                        exact absurd c98_6 (by rw [e6, e3, hmdl]; exact nI_ge (by omega) (by omega))
                      · skip
                        refine lv_iload hx hb dX3_writeOld_101 (lv_at hl 1 rfl) ?_
                        refine lv_if_eq (tgt := 128) hx hb dX3_writeOld_103 (by decide) (fun c103_4 => ?_) (fun c103_4 => ?_)
                        · exact absurd c103_4 (by decide)
                        · skip
                          have htt2 := congrArg (fun z => c0 :: z) htt
                          refine lv_aload_n hx hb dX3_writeOld_106 rfl (lv_at hl 6 rfl) ?_
                          refine lv_aload_n hx hb dX3_writeOld_107 rfl (lv_at hl 6 rfl) ?_
                          refine va_get (D := D) (ci := 4) (v := .ref a3) (C := RX3) (T := TX3) (N := 15) hx hb hts (by decide +kernel) hown hK hP 0 rfl rfl 3 (by decide) (hts (.fieldLink RX3 13 "CharacterRowsModel" "text" "[I") (by decide +kernel)) (fun _ h9 => h9) rfl dX3_writeOld_108 ?_
                          refine lv_iload hx hb dX3_writeOld_111 (lv_at hl 0 rfl) ?_
                          refine va_iald hx hb hK hP 1 0 rfl rfl (rwf_in (l := done ++ c0 :: md) (r := d :: (ms ++ t.drop (lmk t))) (j := 0) p3 (by decide) (by rw [hy, htt2]; simp) e6 (by simp; omega) (by simp)) dX3_writeOld_113 ?_
                          refine lv_topi (fun r9 hr9 => ?_)
                          replace hr9 : r9 = d := hr9.trans (rwf_v (l := done ++ c0 :: md) (r := d :: (ms ++ t.drop (lmk t))) (j := 0) p3 (by decide) (by rw [hy, htt2]; simp) e6 (by simp; omega) (by simp))
                          subst r9
                          refine vp_callSi (W.runS ⟨hx, hb, hml, hown, hts⟩ (KX3_find l d) (va_cwS 1 hts gX3_writeOld_X3_find rfl rfl rfl (by decide +kernel) ⟨Nat.le_of_ble_eq_true rfl, Nat.le_of_ble_eq_true rfl⟩) pcS_S rfl rfl hl.1 rfl (lv_room (Nat.le_of_ble_eq_true rfl)) dX3_writeOld_114 ⟨Nat.zero_le _, Nat.zero_le _⟩) (fun r9 hr9 => ?_)
                          subst r9
                          refine lv_iload_n hx hb dX3_writeOld_117 rfl (lv_at hl 5 rfl) ?_
                          refine clI (wr := [(a3, .inl (k3, 100, .inl g3)), (aB, .inl (kB, 200, .inl gB))]) (va_runV ⟨hx, hb, hml, hown, hts⟩ (KX3_putSet l D g a1 a3 a5 a7 a8 a9 aB th sn (nI y3.length) oc (nI k) si wg k9 g9 y9 p9 (by omega) (fX3_find d) x1 _) (cwV 2 hts gX3_writeOld_X3_putSet rfl rfl rfl (by decide +kernel) ⟨Nat.le_of_ble_eq_true rfl, Nat.le_of_ble_eq_true rfl⟩) (pcM_V (hP.sub (ws' := [(g, .inr (4, [.int th, .ref a1, .int sn, .ref a3, .int (nI y3.length), .ref a5, .int oc, .ref a7, .ref a8, .ref a9, .int (nI y9.length), .ref aB, .int (nI k), .int si, .int wg])), (a9, .inl (k9, 1200, .inl g9))]) [0, 2] rfl) (hD.sub (ws' := [(g, .inr (4, [.int th, .ref a1, .int sn, .ref a3, .int (nI y3.length), .ref a5, .int oc, .ref a7, .ref a8, .ref a9, .int (nI y9.length), .ref aB, .int (nI k), .int si, .int wg])), (a9, .inl (k9, 1200, .inl g9))]) [0, 2] (by decide) rfl) (hK.sub (tys' := [(k9, .byte)]) [1] rfl) hN 0 rfl rfl) rfl rfl hl.1 rfl (lv_room (Nat.le_of_ble_eq_true rfl)) dX3_writeOld_118 ⟨Nat.zero_le _, Nat.zero_le _⟩) hP hD hS hA [0, 2] [1, 3] rfl rfl (by decide) (by decide) (fun r_3 u_10 H locs hw_10 hP hD hS => ?_)
                          obtain ⟨hw_10r, hw_10o⟩ := hw_10
                          rw [(ps_wob (on := x1) (mk_set hdm)).2] at hw_10r
                          rw [(ps_wob (on := x1) (mk_set hdm)).1] at hw_10o hP hD
                          subst hw_10r
                          have hP : va_P D vwCl [(g, .inr (4, [.int th, .ref a1, .int sn, .ref a3, .int (nI y3.length), .ref a5, .int oc, .ref a7, .ref a8, .ref a9, .int (nI (y9 ++ ob (wob d x1)).length), .ref aB, .int (nI k), .int si, .int wg])), (a3, .inl (k3, 100, .inl g3)), (a9, .inl (k9, 1200, .inl u_10)), (aB, .inl (kB, 200, .inl gB))] H := hP.sub [2, 0, 3, 1] rfl
                          have hD : va_D A [(g, .inr (4, [.int th, .ref a1, .int sn, .ref a3, .int (nI y3.length), .ref a5, .int oc, .ref a7, .ref a8, .ref a9, .int (nI (y9 ++ ob (wob d x1)).length), .ref aB, .int (nI k), .int si, .int wg])), (a3, .inl (k3, 100, .inl g3)), (a9, .inl (k9, 1200, .inl u_10)), (aB, .inl (kB, 200, .inl gB))] := hD.sub [2, 0, 3, 1] (by decide) rfl
                          refine lv_istore_n (lv' := [(1, .int (woo d x1)), (6, .int x6), (5, .int 1), (4, .int (fX3_find c0)), (3, .int x3), (2, .int x2), (0, .ref g)]) hx hb dX3_writeOld_121 rfl hl (by decide) rfl (fun ls hl => ?_)
                          refine lv_iinc (v := (x6 + 1)) (lv' := [(6, .int (x6 + 1)), (1, .int (woo d x1)), (5, .int 1), (4, .int (fX3_find c0)), (3, .int x3), (2, .int x2), (0, .ref g)]) hx hb dX3_writeOld_122 hl (k := 1) rfl rfl (by decide) rfl (fun ls hl => ?_)
                          refine lv_goto (tgt := 95) hx hb dX3_writeOld_125 (by decide) ?_
                          exact ih2 (md ++ [d]) _ u_10 _ _ H locs ls (by rw [hmd]; simp) (by rw [e6, List.length_append, nI_1]; rfl) (by rw [← hB2]; simp [wms, ob_app]) (by rw [← hL2]; simp [wms]) hw_10o (by have := wob_len d x1; rw [List.length_append, ob_len, List.length_append]; simp; omega) hP hD hS (lv_sub hl [0, 2, 3, 4, 5, 1, 6] rfl)
                  exact loop2 (t.take (lmk t)) [] y9 g9 _ _ H locs ls rfl (by rw [e2, nI_1]; rfl) hB hL p9 (by simpa using h9) hP hD hS (lv_sub hl [0, 1, 2, 3, 4, 5, 6] rfl)
          have loop1 : ∀ (rs dn : List Int32) (x3 : Int32) (ls : Array Slot), t = dn ++ rs → x3 = nI (done.length + 1 + dn.length) → dn.length + lmk rs = lmk t → lv_has ls 7 [(3, .int x3), (2, .int x2), (1, .int x1), (0, .ref g)] → W p l e ({ frames := 2, cells := 0, slots := 0, locals := 44 }) s m ([.ref g] : List Value).toArray below meth c H locs 0 0 (MQ below (qcV (S := (Nat → Int32) × (Nat → Int32) × Nat) D (fun u => rw_ok u.1 1200 TB ∧ rw_ok u.2.1 200 TL ∧ TL.length = 2 * u.2.2) (fun u => [(g, .inr (4, [.int th, .ref a1, .int sn, .ref a3, .int (nI y3.length), .ref a5, .int oc, .ref a7, .ref a8, .ref a9, .int (nI TB.length), .ref aB, .int (nI u.2.2), .int si, .int wg])), (a3, .inl (k3, 100, .inl g3)), (a9, .inl (k9, 1200, .inl u.1)), (aB, .inl (kB, 200, .inl u.2.1))]) A) ([.ref g] : List Value).toArray s 0 0 A) (F0 m 16 ls []) := by
            intro rs
            induction rs with
            | nil =>
              intro dn x3 ls htd e3 hdl hl
              have hld : t.length = dn.length := by rw [htd]; simp
              refine lv_iload_n hx hb dX3_writeOld_16 rfl (lv_at hl 0 rfl) ?_
              refine lv_aload_n hx hb dX3_writeOld_17 rfl (lv_at hl 3 rfl) ?_
              refine va_get (D := D) (ci := 4) (v := .int (nI y3.length)) (C := RX3) (T := TX3) (N := 15) hx hb hts (by decide +kernel) hown hK hP 0 rfl rfl 4 (by decide) (hts (.fieldLink RX3 85 "CharacterRowsModel" "count" "I") (by decide +kernel)) (fun _ h9 => h9) rfl dX3_writeOld_18 ?_
              refine lv_icmp_ge (tgt := 42) hx hb dX3_writeOld_21 (by decide) (fun c21_1 => ?_) (fun c21_1 => ?_)
              · skip
                exact cont _ ls (by rw [e3, ← hdl]; congr 1 <;> simp [lmk]) (lv_sub hl [0, 1, 2, 3] rfl)
              · skip
                exact absurd (by rw [e3, hlx]; exact nI_le (by omega) (by omega)) c21_1
            | cons d rs ih1 =>
              intro dn x3 ls htd e3 hdl hl
              have hld : t.length = dn.length + (rs.length + 1) := by rw [htd]; simp
              refine lv_iload_n hx hb dX3_writeOld_16 rfl (lv_at hl 0 rfl) ?_
              refine lv_aload_n hx hb dX3_writeOld_17 rfl (lv_at hl 3 rfl) ?_
              refine va_get (D := D) (ci := 4) (v := .int (nI y3.length)) (C := RX3) (T := TX3) (N := 15) hx hb hts (by decide +kernel) hown hK hP 0 rfl rfl 4 (by decide) (hts (.fieldLink RX3 85 "CharacterRowsModel" "count" "I") (by decide +kernel)) (fun _ h9 => h9) rfl dX3_writeOld_18 ?_
              refine lv_icmp_ge (tgt := 42) hx hb dX3_writeOld_21 (by decide) (fun c21_2 => ?_) (fun c21_2 => ?_)
              · skip
                exact absurd c21_2 (by rw [e3, hlx]; exact nI_ge (by omega) (by omega))
              · skip
                refine lv_aload_n hx hb dX3_writeOld_24 rfl (lv_at hl 3 rfl) ?_
                refine va_get (D := D) (ci := 4) (v := .ref a3) (C := RX3) (T := TX3) (N := 15) hx hb hts (by decide +kernel) hown hK hP 0 rfl rfl 3 (by decide) (hts (.fieldLink RX3 13 "CharacterRowsModel" "text" "[I") (by decide +kernel)) (fun _ h9 => h9) rfl dX3_writeOld_25 ?_
                refine lv_iload_n hx hb dX3_writeOld_28 rfl (lv_at hl 0 rfl) ?_
                refine va_iald hx hb hK hP 1 0 rfl rfl (rwf_in (l := done ++ c0 :: dn) (r := d :: rs) (j := 0) p3 (by decide) (by rw [hy, htd]; simp) e3 (by simp; omega) (by simp)) dX3_writeOld_29 ?_
                refine lv_topi (fun r9 hr9 => ?_)
                replace hr9 : r9 = d := hr9.trans (rwf_v (l := done ++ c0 :: dn) (r := d :: rs) (j := 0) p3 (by decide) (by rw [hy, htd]; simp) e3 (by simp; omega) (by simp))
                subst r9
                refine vp_callSi (W.runS ⟨hx, hb, hml, hown, hts⟩ (KX3_isMark l d) (va_cwS 1 hts gX3_writeOld_X3_isMark rfl rfl rfl (by decide +kernel) ⟨Nat.le_of_ble_eq_true rfl, Nat.le_of_ble_eq_true rfl⟩) pcS_S rfl rfl hl.1 rfl (lv_room (Nat.le_of_ble_eq_true rfl)) dX3_writeOld_30 ⟨Nat.zero_le _, Nat.zero_le _⟩) (fun r9 hr9 => ?_)
                replace hr9 : r9 = fX2_isMark d := hr9.trans (x3_isMark _)
                subst r9
                refine lv_if_eq (tgt := 42) hx hb dX3_writeOld_33 (by decide) (fun c33_1 => ?_) (fun c33_1 => ?_)
                · skip
                  exact cont _ ls (by rw [e3, ← hdl]; congr 1 <;> simp [lmk, c33_1]) (lv_sub hl [0, 1, 2, 3] rfl)
                · skip
                  refine lv_iinc (v := (x3 + 1)) (lv' := [(3, .int (x3 + 1)), (2, .int x2), (1, .int x1), (0, .ref g)]) hx hb dX3_writeOld_36 hl (k := 0) rfl rfl (by decide) rfl (fun ls hl => ?_)
                  refine lv_goto (tgt := 16) hx hb dX3_writeOld_39 (by decide) ?_
                  exact ih1 (dn ++ [d]) _ ls (by rw [htd]; simp) (by rw [e3, nI_1]; congr 1; simp; omega) (by rw [← hdl]; simp [lmk, c33_1]; omega) (lv_sub hl [0, 1, 2, 3] rfl)
          exact loop1 t [] _ ls rfl (by rw [e2, nI_1]; rfl) (Nat.zero_add _) (lv_sub hl [0, 1, 2, 3] rfl)
  exact loop y3.length y3 [] [] [] g9 gB 0 _ _ _ _ ls (Nat.le_refl _) rfl rfl hB hL p9 pB rfl (Nat.le_refl _) (Nat.le_refl _) hP hD hS (lv_sub hl [0, 1, 2] rfl)
