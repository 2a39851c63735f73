/-! the reference: compose, same -/
set_option maxHeartbeats 4000000 in
set_option maxRecDepth 100000 in
theorem KX3_compose (l : Launch) (D : va_G) (g a1 a3 a5 a7 a8 a9 aB : Nat) (th sn oc wn tn si wg : Int32) (k3 : ClassId) (g3 : Nat → Int32) (y3 : List Int32) (p3 : rw_ok g3 100 y3) (h3 : y3.length ≤ 100) (k7 : ClassId) (g7 : Nat → Int32) (v0 : Int32) (sz : Nat) : Met l yX3_compose wsX3_compose ({ frames := 3, cells := 0, slots := 0, locals := 69 }) (pcM D sz [(g, .inr (4, [.int th, .ref a1, .int sn, .ref a3, .int (nI y3.length), .ref a5, .int oc, .ref a7, .ref a8, .ref a9, .int wn, .ref aB, .int tn, .int si, .int wg])), (a3, .inl (k3, 100, .inl g3)), (a7, .inl (k7, 400, .inl g7))] [(k3, .int), (k7, .int)] [.ref g, .int v0]) (qcI (S := (Nat → Int32) × List Int32 × (Nat → Int32)) D (fun r u => r = cmA y3 v0 ∧ u.2.1 = (cmS y3 v0).getD y3 ∧ rw_ok u.1 100 u.2.1) (fun u => [(g, .inr (4, [.int 0, .ref a1, .int sn, .ref a3, .int (nI u.2.1.length), .ref a5, .int oc, .ref a7, .ref a8, .ref a9, .int wn, .ref aB, .int tn, .int si, .int wg])), (a3, .inl (k3, 100, .inl u.1)), (a7, .inl (k7, 400, .inl u.2.2))]) (va_A [(g, .inr (4, [.int th, .ref a1, .int sn, .ref a3, .int (nI y3.length), .ref a5, .int oc, .ref a7, .ref a8, .ref a9, .int wn, .ref aB, .int tn, .int si, .int wg])), (a3, .inl (k3, 100, .inl g3)), (a7, .inl (k7, 400, .inl g7))] sz)) 0 0 (va_A [(g, .inr (4, [.int th, .ref a1, .int sn, .ref a3, .int (nI y3.length), .ref a5, .int oc, .ref a7, .ref a8, .ref a9, .int wn, .ref aB, .int tn, .int si, .int wg])), (a3, .inl (k3, 100, .inl g3)), (a7, .inl (k7, 400, .inl g7))] sz) := by
  refine ofM (Qc := fun A => qcI (S := (Nat → Int32) × List Int32 × (Nat → Int32)) D (fun r u => r = cmA y3 v0 ∧ u.2.1 = (cmS y3 v0).getD y3 ∧ rw_ok u.1 100 u.2.1) (fun u => [(g, .inr (4, [.int 0, .ref a1, .int sn, .ref a3, .int (nI u.2.1.length), .ref a5, .int oc, .ref a7, .ref a8, .ref a9, .int wn, .ref aB, .int tn, .int si, .int wg])), (a3, .inl (k3, 100, .inl u.1)), (a7, .inl (k7, 400, .inl u.2.2))]) A) (cc := cX3_compose) (maxL := 6) (ret := (some .int)) (by decide) rfl (Nat.le_of_ble_eq_true rfl) ?_
  intro p e s m below meth c ls A hx hb hr hml hown hts hlocks hnm hP hK hN hD hA hS hl
  have hl : lv_has ls 6 [(0, .ref g), (1, .int v0)] := hl
  refine lv_aload_n hx hb dX3_compose_0 rfl (lv_at hl 0 rfl) ?_
  refine lv_iconst (v := 0) hx hb dX3_compose_1 (by decide) ?_
  refine va_put (D := D) (ci := 4) (v := .int 0) (ty := .int) (C := RX3) (T := TX3) (N := 15) hx hb hts (by decide +kernel) tyX3 tyX3_ok nmX3 hown hK hP hD hS 0 rfl rfl 0 (by decide) (hts (.fieldLink RX3 36 "CharacterRowsModel" "thrown" "I") (by decide +kernel)) (fun _ h9 => h9) rfl (by decide +kernel) rfl rfl (Nat.le_of_ble_eq_true rfl) dX3_compose_2 (fun H locs hP hD hS => ?_)
  have hP : va_P D vwCl [(g, .inr (4, [.int 0, .ref a1, .int sn, .ref a3, .int (nI y3.length), .ref a5, .int oc, .ref a7, .ref a8, .ref a9, .int wn, .ref aB, .int tn, .int si, .int wg])), (a3, .inl (k3, 100, .inl g3)), (a7, .inl (k7, 400, .inl g7))] H := hP
  have hD : va_D A [(g, .inr (4, [.int 0, .ref a1, .int sn, .ref a3, .int (nI y3.length), .ref a5, .int oc, .ref a7, .ref a8, .ref a9, .int wn, .ref aB, .int tn, .int si, .int wg])), (a3, .inl (k3, 100, .inl g3)), (a7, .inl (k7, 400, .inl g7))] := hD
  refine lv_iload_n hx hb dX3_compose_5 rfl (lv_at hl 1 rfl) ?_
  refine lv_if_lt (tgt := 14) hx hb dX3_compose_6 (by decide) (fun c6_1 => ?_) (fun c6_1 => ?_)
  · skip
    refine lv_iconst (v := (-1)) hx hb dX3_compose_14 (by decide) ?_
    have z := i32_o (v := v0) (Or.inl c6_1)
    have e7 : cmS y3 v0 = none := by rw [cmS, if_neg z.1, if_neg z.2]
    exact rtI hx hb hr hlocks dX3_compose_15 (g3, y3, g7) ⟨by rw [cmA, e7], by rw [e7]; rfl, p3⟩ hP hD hS
  · skip
    refine lv_iload_n hx hb dX3_compose_9 rfl (lv_at hl 1 rfl) ?_
    refine lv_iconst (v := 1) hx hb dX3_compose_10 (by decide) ?_
    refine lv_icmp_le (tgt := 16) hx hb dX3_compose_11 (by decide) (fun c11_1 => ?_) (fun c11_1 => ?_)
    · skip
      refine lv_aload_n hx hb dX3_compose_16 rfl (lv_at hl 0 rfl) ?_
      refine va_get (D := D) (ci := 4) (v := .ref a3) (C := RX3) (T := TX3) (N := 15) hx hb hts (by decide +kernel) hown hK hP 0 rfl rfl 3 (by decide) (hts (.fieldLink RX3 13 "CharacterRowsModel" "text" "[I") (by decide +kernel)) (fun _ h9 => h9) rfl dX3_compose_17 ?_
      refine lv_aload_n hx hb dX3_compose_20 rfl (lv_at hl 0 rfl) ?_
      refine va_get (D := D) (ci := 4) (v := .int (nI y3.length)) (C := RX3) (T := TX3) (N := 15) hx hb hts (by decide +kernel) hown hK hP 0 rfl rfl 4 (by decide) (hts (.fieldLink RX3 85 "CharacterRowsModel" "count" "I") (by decide +kernel)) (fun _ h9 => h9) rfl dX3_compose_21 ?_
      refine lv_aload_n hx hb dX3_compose_24 rfl (lv_at hl 0 rfl) ?_
      refine va_get (D := D) (ci := 4) (v := .ref a7) (C := RX3) (T := TX3) (N := 15) hx hb hts (by decide +kernel) hown hK hP 0 rfl rfl 7 (by decide) (hts (.fieldLink RX3 19 "CharacterRowsModel" "work" "[I") (by decide +kernel)) (fun _ h9 => h9) rfl dX3_compose_25 ?_
      refine clI (wr := [(g, .inr (4, [.int 0, .ref a1, .int sn, .ref a3, .int (nI y3.length), .ref a5, .int oc, .ref a7, .ref a8, .ref a9, .int wn, .ref aB, .int tn, .int si, .int wg]))]) (va_runS ⟨hx, hb, hml, hown, hts⟩ (KX3_apart l D a3 a7 k3 k7 100 (by decide) g3 g7 y3 p3 h3 _) (va_cwS 3 hts gX3_compose_X3_apart rfl rfl rfl (by decide +kernel) ⟨Nat.le_of_ble_eq_true rfl, Nat.le_of_ble_eq_true rfl⟩) (pcM_S (hP.sub (ws' := [(a3, .inl (k3, 100, .inl g3)), (a7, .inl (k7, 400, .inl g7))]) [1, 2] rfl) (hD.sub (ws' := [(a3, .inl (k3, 100, .inl g3)), (a7, .inl (k7, 400, .inl g7))]) [1, 2] (by decide) rfl) (hK.sub (tys' := [(k3, .int), (k7, .int)]) [0, 1] rfl) hN) rfl rfl hl.1 rfl (lv_room (Nat.le_of_ble_eq_true rfl)) dX3_compose_28 ⟨Nat.zero_le _, Nat.zero_le _⟩) hP hD hS hA [1, 2] [0] rfl rfl (by decide) (by decide) (fun r_1 u_1 H locs hw_1 hP hD hS => ?_)
      obtain ⟨hw_1r, hw_1o⟩ := hw_1
      subst hw_1r
      have hP : va_P D vwCl [(g, .inr (4, [.int 0, .ref a1, .int sn, .ref a3, .int (nI y3.length), .ref a5, .int oc, .ref a7, .ref a8, .ref a9, .int wn, .ref aB, .int tn, .int si, .int wg])), (a3, .inl (k3, 100, .inl g3)), (a7, .inl (k7, 400, .inl u_1))] H := hP.sub [0, 1, 2] rfl
      have hD : va_D A [(g, .inr (4, [.int 0, .ref a1, .int sn, .ref a3, .int (nI y3.length), .ref a5, .int oc, .ref a7, .ref a8, .ref a9, .int wn, .ref aB, .int tn, .int si, .int wg])), (a3, .inl (k3, 100, .inl g3)), (a7, .inl (k7, 400, .inl u_1))] := hD.sub [0, 1, 2] (by decide) rfl
      refine lv_istore_n (lv' := [(2, .int (nI (apo y3).length)), (0, .ref g), (1, .int v0)]) hx hb dX3_compose_31 rfl hl (by decide) rfl (fun ls hl => ?_)
      refine lv_iload_n hx hb dX3_compose_32 rfl (lv_at hl 2 rfl) ?_
      refine lv_iconst (v := 1) hx hb dX3_compose_33 (by decide) ?_
      refine lv_icmp_ne (tgt := 165) hx hb dX3_compose_34 (by decide) (fun c34_1 => ?_) (fun c34_1 => ?_)
      · skip
        refine lv_iload_n hx hb dX3_compose_165 rfl (lv_at hl 0 rfl) ?_
        refine lv_bipush (v := 100) hx hb dX3_compose_166 (by decide) ?_
        refine lv_icmp_le (tgt := 173) hx hb dX3_compose_168 (by decide) (fun c168_1 => ?_) (fun c168_1 => ?_)
        · skip
          refine lv_iconst (v := 0) hx hb dX3_compose_173 (by decide) ?_
          refine lv_istore_n (lv' := [(3, .int 0), (2, .int (nI (apo y3).length)), (0, .ref g), (1, .int v0)]) hx hb dX3_compose_174 rfl hl (by decide) rfl (fun ls hl => ?_)
          have hY100 : (apo y3).length ≤ 100 := (nI_100 (rw_lt hw_1o (by decide))).mp c168_1
          have loop : ∀ (rest : List Int32) (done : List Int32) (fd : Nat → Int32) (xk : Int32) (H : Heap) (locs : List Loc) (ls : Array Slot), ((apo y3) = done ++ rest) → (xk = nI done.length) → (rw_ok fd 100 done) → va_P D vwCl [(g, .inr (4, [.int 0, .ref a1, .int sn, .ref a3, .int (nI y3.length), .ref a5, .int oc, .ref a7, .ref a8, .ref a9, .int wn, .ref aB, .int tn, .int si, .int wg])), (a3, .inl (k3, 100, .inl fd)), (a7, .inl (k7, 400, .inl u_1))] H → va_D A [(g, .inr (4, [.int 0, .ref a1, .int sn, .ref a3, .int (nI y3.length), .ref a5, .int oc, .ref a7, .ref a8, .ref a9, .int wn, .ref aB, .int tn, .int si, .int wg])), (a3, .inl (k3, 100, .inl fd)), (a7, .inl (k7, 400, .inl u_1))] → va_S A s.heap H locs → lv_has ls 6 [(3, .int xk), (2, .int (nI (apo y3).length)), (0, .ref g), (1, .int v0)] → W p l e ({ frames := 3, cells := 0, slots := 0, locals := 69 }) s m ([.ref g, .int v0] : List Value).toArray below meth c H locs 0 0 (MQ below (qcI (S := (Nat → Int32) × List Int32 × (Nat → Int32)) D (fun r u => r = cmA y3 v0 ∧ u.2.1 = (cmS y3 v0).getD y3 ∧ rw_ok u.1 100 u.2.1) (fun u => [(g, .inr (4, [.int 0, .ref a1, .int sn, .ref a3, .int (nI u.2.1.length), .ref a5, .int oc, .ref a7, .ref a8, .ref a9, .int wn, .ref aB, .int tn, .int si, .int wg])), (a3, .inl (k3, 100, .inl u.1)), (a7, .inl (k7, 400, .inl u.2.2))]) A) ([.ref g, .int v0] : List Value).toArray s 0 0 A) (F0 m 175 ls [])  := by
            intro rest
            induction rest with
            | nil =>
              intro done fd xk H locs ls hY ek pd hP hD hS hl
              have hln : (apo y3).length = done.length := by rw [hY]; simp
              refine lv_iload_n hx hb dX3_compose_175 rfl (lv_at hl 0 rfl) ?_
              refine lv_iload_n hx hb dX3_compose_176 rfl (lv_at hl 1 rfl) ?_
              refine lv_icmp_ge (tgt := 198) hx hb dX3_compose_177 (by decide) (fun c177_1 => ?_) (fun c177_1 => ?_)
              · skip
                refine lv_aload_n hx hb dX3_compose_198 rfl (lv_at hl 2 rfl) ?_
                refine lv_iload_n hx hb dX3_compose_199 rfl (lv_at hl 1 rfl) ?_
                refine va_put (D := D) (ci := 4) (v := .int (nI (apo y3).length)) (ty := .int) (C := RX3) (T := TX3) (N := 15) hx hb hts (by decide +kernel) tyX3 tyX3_ok nmX3 hown hK hP hD hS 0 rfl rfl 4 (by decide) (hts (.fieldLink RX3 85 "CharacterRowsModel" "count" "I") (by decide +kernel)) (fun _ h9 => h9) rfl (by decide +kernel) rfl rfl (Nat.le_of_ble_eq_true rfl) dX3_compose_200 (fun H locs hP hD hS => ?_)
                have hP : va_P D vwCl [(g, .inr (4, [.int 0, .ref a1, .int sn, .ref a3, .int (nI (apo y3).length), .ref a5, .int oc, .ref a7, .ref a8, .ref a9, .int wn, .ref aB, .int tn, .int si, .int wg])), (a3, .inl (k3, 100, .inl fd)), (a7, .inl (k7, 400, .inl u_1))] H := hP
                have hD : va_D A [(g, .inr (4, [.int 0, .ref a1, .int sn, .ref a3, .int (nI (apo y3).length), .ref a5, .int oc, .ref a7, .ref a8, .ref a9, .int wn, .ref aB, .int tn, .int si, .int wg])), (a3, .inl (k3, 100, .inl fd)), (a7, .inl (k7, 400, .inl u_1))] := hD
                refine lv_iload_n hx hb dX3_compose_203 rfl (lv_at hl 1 rfl) ?_
                have z : v0 = 0 := i32_2 c6_1 c11_1 c34_1
                have hYd : done = (apo y3) := by rw [hY]; simp
                rw [hYd] at pd
                have e7 : cmS y3 v0 = some (apo y3) := by rw [cmS, if_pos z, if_pos hY100]
                exact rtI hx hb hr hlocks dX3_compose_204 (fd, (apo y3), u_1) ⟨by rw [cmA, e7], by rw [e7]; rfl, pd⟩ hP hD hS
              · skip
                exact absurd (by rw [ek, hln]; exact Int32.le_refl _) c177_1
            | cons d t ih =>
              intro done fd xk H locs ls hY ek pd hP hD hS hl
              have hln : (apo y3).length = done.length + (t.length + 1) := by rw [hY]; simp
              have hsl := hw_1o.1
              refine lv_iload_n hx hb dX3_compose_175 rfl (lv_at hl 0 rfl) ?_
              refine lv_iload_n hx hb dX3_compose_176 rfl (lv_at hl 1 rfl) ?_
              refine lv_icmp_ge (tgt := 198) hx hb dX3_compose_177 (by decide) (fun c177_2 => ?_) (fun c177_2 => ?_)
              · skip
                exact absurd c177_2 (by rw [ek, hln]; exact nI_ge (by omega) (by omega))
              · skip
                refine lv_aload_n hx hb dX3_compose_180 rfl (lv_at hl 2 rfl) ?_
                refine va_get (D := D) (ci := 4) (v := .ref a3) (C := RX3) (T := TX3) (N := 15) hx hb hts (by decide +kernel) hown hK hP 0 rfl rfl 3 (by decide) (hts (.fieldLink RX3 13 "CharacterRowsModel" "text" "[I") (by decide +kernel)) (fun _ h9 => h9) rfl dX3_compose_181 ?_
                refine lv_iload_n hx hb dX3_compose_184 rfl (lv_at hl 0 rfl) ?_
                refine lv_aload_n hx hb dX3_compose_185 rfl (lv_at hl 2 rfl) ?_
                refine va_get (D := D) (ci := 4) (v := .ref a7) (C := RX3) (T := TX3) (N := 15) hx hb hts (by decide +kernel) hown hK hP 0 rfl rfl 7 (by decide) (hts (.fieldLink RX3 19 "CharacterRowsModel" "work" "[I") (by decide +kernel)) (fun _ h9 => h9) rfl dX3_compose_186 ?_
                refine lv_iload_n hx hb dX3_compose_189 rfl (lv_at hl 0 rfl) ?_
                refine va_iald hx hb hK hP 2 1 rfl rfl (rwf_in (j := 0) hw_1o (by decide) hY ek rfl (by simp)) dX3_compose_190 ?_
                refine lv_topi (fun r9 hr9 => ?_)
                replace hr9 : r9 = d := hr9.trans (rwf_v (j := 0) hw_1o (by decide) hY ek rfl (by simp))
                subst r9
                refine va_iast hx hb hK hP hD hS 1 0 rfl rfl (rwf_sin pd (by decide) ek (by omega)) dX3_compose_191 (fun H locs hP hD hS => ?_)
                have hP : va_P D vwCl [(g, .inr (4, [.int 0, .ref a1, .int sn, .ref a3, .int (nI y3.length), .ref a5, .int oc, .ref a7, .ref a8, .ref a9, .int wn, .ref aB, .int tn, .int si, .int wg])), (a3, .inl (k3, 100, .inl (upd fd xk.toNatClampNeg d))), (a7, .inl (k7, 400, .inl u_1))] H := hP
                have hD : va_D A [(g, .inr (4, [.int 0, .ref a1, .int sn, .ref a3, .int (nI y3.length), .ref a5, .int oc, .ref a7, .ref a8, .ref a9, .int wn, .ref aB, .int tn, .int si, .int wg])), (a3, .inl (k3, 100, .inl (upd fd xk.toNatClampNeg d))), (a7, .inl (k7, 400, .inl u_1))] := hD
                refine lv_iinc (v := (xk + 1)) (lv' := [(3, .int (xk + 1)), (2, .int (nI (apo y3).length)), (0, .ref g), (1, .int v0)]) hx hb dX3_compose_192 hl (k := 0) rfl rfl (by decide) rfl (fun ls hl => ?_)
                refine lv_goto (tgt := 175) hx hb dX3_compose_195 (by decide) ?_
                exact ih (done ++ [d]) (upd fd xk.toNatClampNeg d) _ H locs ls (by rw [hY]; simp) (by rw [ek, List.length_append]; exact nI_1 _) (rwf_snoc pd (by decide) ek (by omega)) hP hD hS (lv_sub hl [0, 1, 2, 3] rfl)
          exact loop (apo y3) [] g3 _ H locs ls rfl rfl rw_nil hP hD hS (lv_sub hl [0, 1, 2, 3] rfl)
        · skip
          refine lv_iconst (v := (-1)) hx hb dX3_compose_171 (by decide) ?_
          have z : v0 = 0 := i32_2 c6_1 c11_1 c34_1
          have hY : ¬ (apo y3).length ≤ 100 := fun q => c168_1 ((nI_100 (rw_lt hw_1o (by decide))).mpr q)
          have e7 : cmS y3 v0 = none := by rw [cmS, if_pos z, if_neg hY]
          exact rtI hx hb hr hlocks dX3_compose_172 (g3, y3, u_1) ⟨by rw [cmA, e7], by rw [e7]; rfl, p3⟩ hP hD hS
      · skip
        refine lv_iconst (v := 0) hx hb dX3_compose_37 (by decide) ?_
        refine lv_istore_n (lv' := [(3, .int 0), (2, .int (nI (apo y3).length)), (0, .ref g), (1, .int v0)]) hx hb dX3_compose_38 rfl hl (by decide) rfl (fun ls hl => ?_)
        refine lv_iconst (v := 0) hx hb dX3_compose_39 (by decide) ?_
        refine lv_istore (lv' := [(4, .int 0), (3, .int 0), (2, .int (nI (apo y3).length)), (0, .ref g), (1, .int v0)]) hx hb dX3_compose_40 hl (by decide) rfl (fun ls hl => ?_)
        have loop : ∀ (n : Nat) (rest o gb : List Int32) (f7 : Nat → Int32) (x3 x4 : Int32) (H : Heap) (locs : List Loc) (ls : Array Slot), (rest.length ≤ n) → (o ++ tog rest = tog (apo y3)) → (x3 = nI o.length) → (x4 = nI (o.length + gb.length)) → ((o ++ gb ++ rest).length = (apo y3).length) → (rw_ok f7 400 (o ++ gb ++ rest)) → va_P D vwCl [(g, .inr (4, [.int 0, .ref a1, .int sn, .ref a3, .int (nI y3.length), .ref a5, .int oc, .ref a7, .ref a8, .ref a9, .int wn, .ref aB, .int tn, .int si, .int wg])), (a3, .inl (k3, 100, .inl g3)), (a7, .inl (k7, 400, .inl f7))] H → va_D A [(g, .inr (4, [.int 0, .ref a1, .int sn, .ref a3, .int (nI y3.length), .ref a5, .int oc, .ref a7, .ref a8, .ref a9, .int wn, .ref aB, .int tn, .int si, .int wg])), (a3, .inl (k3, 100, .inl g3)), (a7, .inl (k7, 400, .inl f7))] → va_S A s.heap H locs → lv_has ls 6 [(4, .int x4), (3, .int x3), (2, .int (nI (apo y3).length)), (0, .ref g), (1, .int v0)] → W p l e ({ frames := 3, cells := 0, slots := 0, locals := 69 }) s m ([.ref g, .int v0] : List Value).toArray below meth c H locs 0 0 (MQ below (qcI (S := (Nat → Int32) × List Int32 × (Nat → Int32)) D (fun r u => r = cmA y3 v0 ∧ u.2.1 = (cmS y3 v0).getD y3 ∧ rw_ok u.1 100 u.2.1) (fun u => [(g, .inr (4, [.int 0, .ref a1, .int sn, .ref a3, .int (nI u.2.1.length), .ref a5, .int oc, .ref a7, .ref a8, .ref a9, .int wn, .ref aB, .int tn, .int si, .int wg])), (a3, .inl (k3, 100, .inl u.1)), (a7, .inl (k7, 400, .inl u.2.2))]) A) ([.ref g, .int v0] : List Value).toArray s 0 0 A) (F0 m 42 ls [])  := by
          intro n
          induction n with
          | zero =>
            intro rest o gb f7 x3 x4 H locs ls hn hT e3 e4 hln ok7 hP hD hS hl
            obtain rfl : rest = [] := List.eq_nil_of_length_eq_zero (by omega)
            refine lv_iload hx hb dX3_compose_42 (lv_at hl 0 rfl) ?_
            refine lv_iload_n hx hb dX3_compose_44 rfl (lv_at hl 2 rfl) ?_
            refine lv_icmp_ge (tgt := 163) hx hb dX3_compose_45 (by decide) (fun c45_1 => ?_) (fun c45_1 => ?_)
            · skip
              have hTo : o = tog (apo y3) := by rw [← hT]; simp [tog]
              have ok8 : rw_ok f7 400 (tog (apo y3)) := by rw [← hTo]; rw [List.append_assoc] at ok7; exact rw_pre ok7
              rw [hTo] at e3
              rw [e3] at hl
              refine lv_iload_n hx hb dX3_compose_163 rfl (lv_at hl 1 rfl) ?_
              refine lv_istore_n (lv' := [(2, .int (nI (tog (apo y3)).length)), (4, .int x4), (3, .int (nI (tog (apo y3)).length)), (0, .ref g), (1, .int v0)]) hx hb dX3_compose_164 rfl hl (by decide) rfl (fun ls hl => ?_)
              refine lv_iload_n hx hb dX3_compose_165 rfl (lv_at hl 0 rfl) ?_
              refine lv_bipush (v := 100) hx hb dX3_compose_166 (by decide) ?_
              refine lv_icmp_le (tgt := 173) hx hb dX3_compose_168 (by decide) (fun c168_2 => ?_) (fun c168_2 => ?_)
              · skip
                refine lv_iconst (v := 0) hx hb dX3_compose_173 (by decide) ?_
                refine lv_istore_n (lv' := [(3, .int 0), (2, .int (nI (tog (apo y3)).length)), (4, .int x4), (0, .ref g), (1, .int v0)]) hx hb dX3_compose_174 rfl hl (by decide) rfl (fun ls hl => ?_)
                have hY100 : (tog (apo y3)).length ≤ 100 := (nI_100 (rw_lt ok8 (by decide))).mp c168_2
                have loop : ∀ (rest : List Int32) (done : List Int32) (fd : Nat → Int32) (xk : Int32) (H : Heap) (locs : List Loc) (ls : Array Slot), ((tog (apo y3)) = done ++ rest) → (xk = nI done.length) → (rw_ok fd 100 done) → va_P D vwCl [(g, .inr (4, [.int 0, .ref a1, .int sn, .ref a3, .int (nI y3.length), .ref a5, .int oc, .ref a7, .ref a8, .ref a9, .int wn, .ref aB, .int tn, .int si, .int wg])), (a3, .inl (k3, 100, .inl fd)), (a7, .inl (k7, 400, .inl f7))] H → va_D A [(g, .inr (4, [.int 0, .ref a1, .int sn, .ref a3, .int (nI y3.length), .ref a5, .int oc, .ref a7, .ref a8, .ref a9, .int wn, .ref aB, .int tn, .int si, .int wg])), (a3, .inl (k3, 100, .inl fd)), (a7, .inl (k7, 400, .inl f7))] → va_S A s.heap H locs → lv_has ls 6 [(3, .int xk), (2, .int (nI (tog (apo y3)).length)), (4, .int x4), (0, .ref g), (1, .int v0)] → W p l e ({ frames := 3, cells := 0, slots := 0, locals := 69 }) s m ([.ref g, .int v0] : List Value).toArray below meth c H locs 0 0 (MQ below (qcI (S := (Nat → Int32) × List Int32 × (Nat → Int32)) D (fun r u => r = cmA y3 v0 ∧ u.2.1 = (cmS y3 v0).getD y3 ∧ rw_ok u.1 100 u.2.1) (fun u => [(g, .inr (4, [.int 0, .ref a1, .int sn, .ref a3, .int (nI u.2.1.length), .ref a5, .int oc, .ref a7, .ref a8, .ref a9, .int wn, .ref aB, .int tn, .int si, .int wg])), (a3, .inl (k3, 100, .inl u.1)), (a7, .inl (k7, 400, .inl u.2.2))]) A) ([.ref g, .int v0] : List Value).toArray s 0 0 A) (F0 m 175 ls [])  := by
                  intro rest
                  induction rest with
                  | nil =>
                    intro done fd xk H locs ls hY ek pd hP hD hS hl
                    have hln : (tog (apo y3)).length = done.length := by rw [hY]; simp
                    refine lv_iload_n hx hb dX3_compose_175 rfl (lv_at hl 0 rfl) ?_
                    refine lv_iload_n hx hb dX3_compose_176 rfl (lv_at hl 1 rfl) ?_
                    refine lv_icmp_ge (tgt := 198) hx hb dX3_compose_177 (by decide) (fun c177_3 => ?_) (fun c177_3 => ?_)
                    · skip
                      refine lv_aload_n hx hb dX3_compose_198 rfl (lv_at hl 3 rfl) ?_
                      refine lv_iload_n hx hb dX3_compose_199 rfl (lv_at hl 1 rfl) ?_
                      refine va_put (D := D) (ci := 4) (v := .int (nI (tog (apo y3)).length)) (ty := .int) (C := RX3) (T := TX3) (N := 15) hx hb hts (by decide +kernel) tyX3 tyX3_ok nmX3 hown hK hP hD hS 0 rfl rfl 4 (by decide) (hts (.fieldLink RX3 85 "CharacterRowsModel" "count" "I") (by decide +kernel)) (fun _ h9 => h9) rfl (by decide +kernel) rfl rfl (Nat.le_of_ble_eq_true rfl) dX3_compose_200 (fun H locs hP hD hS => ?_)
                      have hP : va_P D vwCl [(g, .inr (4, [.int 0, .ref a1, .int sn, .ref a3, .int (nI (tog (apo y3)).length), .ref a5, .int oc, .ref a7, .ref a8, .ref a9, .int wn, .ref aB, .int tn, .int si, .int wg])), (a3, .inl (k3, 100, .inl fd)), (a7, .inl (k7, 400, .inl f7))] H := hP
                      have hD : va_D A [(g, .inr (4, [.int 0, .ref a1, .int sn, .ref a3, .int (nI (tog (apo y3)).length), .ref a5, .int oc, .ref a7, .ref a8, .ref a9, .int wn, .ref aB, .int tn, .int si, .int wg])), (a3, .inl (k3, 100, .inl fd)), (a7, .inl (k7, 400, .inl f7))] := hD
                      refine lv_iload_n hx hb dX3_compose_203 rfl (lv_at hl 1 rfl) ?_
                      have z : v0 = 1 := c34_1
                      have hYd : done = (tog (apo y3)) := by rw [hY]; simp
                      rw [hYd] at pd
                      have e7 : cmS y3 v0 = some (tog (apo y3)) := by rw [cmS, if_neg (by rw [z]; decide), if_pos z, if_pos hY100]
                      exact rtI hx hb hr hlocks dX3_compose_204 (fd, (tog (apo y3)), f7) ⟨by rw [cmA, e7], by rw [e7]; rfl, pd⟩ hP hD hS
                    · skip
                      exact absurd (by rw [ek, hln]; exact Int32.le_refl _) c177_3
                  | cons d t ih =>
                    intro done fd xk H locs ls hY ek pd hP hD hS hl
                    have hln : (tog (apo y3)).length = done.length + (t.length + 1) := by rw [hY]; simp
                    have hsl := ok8.1
                    refine lv_iload_n hx hb dX3_compose_175 rfl (lv_at hl 0 rfl) ?_
                    refine lv_iload_n hx hb dX3_compose_176 rfl (lv_at hl 1 rfl) ?_
                    refine lv_icmp_ge (tgt := 198) hx hb dX3_compose_177 (by decide) (fun c177_4 => ?_) (fun c177_4 => ?_)
                    · skip
                      exact absurd c177_4 (by rw [ek, hln]; exact nI_ge (by omega) (by omega))
                    · skip
                      refine lv_aload_n hx hb dX3_compose_180 rfl (lv_at hl 3 rfl) ?_
                      refine va_get (D := D) (ci := 4) (v := .ref a3) (C := RX3) (T := TX3) (N := 15) hx hb hts (by decide +kernel) hown hK hP 0 rfl rfl 3 (by decide) (hts (.fieldLink RX3 13 "CharacterRowsModel" "text" "[I") (by decide +kernel)) (fun _ h9 => h9) rfl dX3_compose_181 ?_
                      refine lv_iload_n hx hb dX3_compose_184 rfl (lv_at hl 0 rfl) ?_
                      refine lv_aload_n hx hb dX3_compose_185 rfl (lv_at hl 3 rfl) ?_
                      refine va_get (D := D) (ci := 4) (v := .ref a7) (C := RX3) (T := TX3) (N := 15) hx hb hts (by decide +kernel) hown hK hP 0 rfl rfl 7 (by decide) (hts (.fieldLink RX3 19 "CharacterRowsModel" "work" "[I") (by decide +kernel)) (fun _ h9 => h9) rfl dX3_compose_186 ?_
                      refine lv_iload_n hx hb dX3_compose_189 rfl (lv_at hl 0 rfl) ?_
                      refine va_iald hx hb hK hP 2 1 rfl rfl (rwf_in (j := 0) ok8 (by decide) hY ek rfl (by simp)) dX3_compose_190 ?_
                      refine lv_topi (fun r9 hr9 => ?_)
                      replace hr9 : r9 = d := hr9.trans (rwf_v (j := 0) ok8 (by decide) hY ek rfl (by simp))
                      subst r9
                      refine va_iast hx hb hK hP hD hS 1 0 rfl rfl (rwf_sin pd (by decide) ek (by omega)) dX3_compose_191 (fun H locs hP hD hS => ?_)
                      have hP : va_P D vwCl [(g, .inr (4, [.int 0, .ref a1, .int sn, .ref a3, .int (nI y3.length), .ref a5, .int oc, .ref a7, .ref a8, .ref a9, .int wn, .ref aB, .int tn, .int si, .int wg])), (a3, .inl (k3, 100, .inl (upd fd xk.toNatClampNeg d))), (a7, .inl (k7, 400, .inl f7))] H := hP
                      have hD : va_D A [(g, .inr (4, [.int 0, .ref a1, .int sn, .ref a3, .int (nI y3.length), .ref a5, .int oc, .ref a7, .ref a8, .ref a9, .int wn, .ref aB, .int tn, .int si, .int wg])), (a3, .inl (k3, 100, .inl (upd fd xk.toNatClampNeg d))), (a7, .inl (k7, 400, .inl f7))] := hD
                      refine lv_iinc (v := (xk + 1)) (lv' := [(3, .int (xk + 1)), (2, .int (nI (tog (apo y3)).length)), (4, .int x4), (0, .ref g), (1, .int v0)]) hx hb dX3_compose_192 hl (k := 0) rfl rfl (by decide) rfl (fun ls hl => ?_)
                      refine lv_goto (tgt := 175) hx hb dX3_compose_195 (by decide) ?_
                      exact ih (done ++ [d]) (upd fd xk.toNatClampNeg d) _ H locs ls (by rw [hY]; simp) (by rw [ek, List.length_append]; exact nI_1 _) (rwf_snoc pd (by decide) ek (by omega)) hP hD hS (lv_sub hl [0, 1, 2, 3, 4] rfl)
                exact loop (tog (apo y3)) [] g3 _ H locs ls rfl rfl rw_nil hP hD hS (lv_sub hl [0, 1, 2, 3, 4] rfl)
              · skip
                refine lv_iconst (v := (-1)) hx hb dX3_compose_171 (by decide) ?_
                have z : v0 = 1 := c34_1
                have hY : ¬ (tog (apo y3)).length ≤ 100 := fun q => c168_2 ((nI_100 (rw_lt ok8 (by decide))).mpr q)
                have e7 : cmS y3 v0 = none := by rw [cmS, if_neg (by rw [z]; decide), if_pos z, if_neg hY]
                exact rtI hx hb hr hlocks dX3_compose_172 (g3, y3, f7) ⟨by rw [cmA, e7], by rw [e7]; rfl, p3⟩ hP hD hS
            · skip
              exact absurd (by rw [e4, ← hln]; simp) c45_1
          | succ n ih =>
            intro rest o gb f7 x3 x4 H locs ls hn hT e3 e4 hln ok7 hP hD hS hl
            rcases rest with _ | ⟨c0, _ | ⟨d0, t0⟩⟩
            · skip
              refine lv_iload hx hb dX3_compose_42 (lv_at hl 0 rfl) ?_
              refine lv_iload_n hx hb dX3_compose_44 rfl (lv_at hl 2 rfl) ?_
              refine lv_icmp_ge (tgt := 163) hx hb dX3_compose_45 (by decide) (fun c45_2 => ?_) (fun c45_2 => ?_)
              · skip
                have hTo : o = tog (apo y3) := by rw [← hT]; simp [tog]
                have ok8 : rw_ok f7 400 (tog (apo y3)) := by rw [← hTo]; rw [List.append_assoc] at ok7; exact rw_pre ok7
                rw [hTo] at e3
                rw [e3] at hl
                refine lv_iload_n hx hb dX3_compose_163 rfl (lv_at hl 1 rfl) ?_
                refine lv_istore_n (lv' := [(2, .int (nI (tog (apo y3)).length)), (4, .int x4), (3, .int (nI (tog (apo y3)).length)), (0, .ref g), (1, .int v0)]) hx hb dX3_compose_164 rfl hl (by decide) rfl (fun ls hl => ?_)
                refine lv_iload_n hx hb dX3_compose_165 rfl (lv_at hl 0 rfl) ?_
                refine lv_bipush (v := 100) hx hb dX3_compose_166 (by decide) ?_
                refine lv_icmp_le (tgt := 173) hx hb dX3_compose_168 (by decide) (fun c168_3 => ?_) (fun c168_3 => ?_)
                · skip
                  refine lv_iconst (v := 0) hx hb dX3_compose_173 (by decide) ?_
                  refine lv_istore_n (lv' := [(3, .int 0), (2, .int (nI (tog (apo y3)).length)), (4, .int x4), (0, .ref g), (1, .int v0)]) hx hb dX3_compose_174 rfl hl (by decide) rfl (fun ls hl => ?_)
                  have hY100 : (tog (apo y3)).length ≤ 100 := (nI_100 (rw_lt ok8 (by decide))).mp c168_3
                  have loop : ∀ (rest : List Int32) (done : List Int32) (fd : Nat → Int32) (xk : Int32) (H : Heap) (locs : List Loc) (ls : Array Slot), ((tog (apo y3)) = done ++ rest) → (xk = nI done.length) → (rw_ok fd 100 done) → va_P D vwCl [(g, .inr (4, [.int 0, .ref a1, .int sn, .ref a3, .int (nI y3.length), .ref a5, .int oc, .ref a7, .ref a8, .ref a9, .int wn, .ref aB, .int tn, .int si, .int wg])), (a3, .inl (k3, 100, .inl fd)), (a7, .inl (k7, 400, .inl f7))] H → va_D A [(g, .inr (4, [.int 0, .ref a1, .int sn, .ref a3, .int (nI y3.length), .ref a5, .int oc, .ref a7, .ref a8, .ref a9, .int wn, .ref aB, .int tn, .int si, .int wg])), (a3, .inl (k3, 100, .inl fd)), (a7, .inl (k7, 400, .inl f7))] → va_S A s.heap H locs → lv_has ls 6 [(3, .int xk), (2, .int (nI (tog (apo y3)).length)), (4, .int x4), (0, .ref g), (1, .int v0)] → W p l e ({ frames := 3, cells := 0, slots := 0, locals := 69 }) s m ([.ref g, .int v0] : List Value).toArray below meth c H locs 0 0 (MQ below (qcI (S := (Nat → Int32) × List Int32 × (Nat → Int32)) D (fun r u => r = cmA y3 v0 ∧ u.2.1 = (cmS y3 v0).getD y3 ∧ rw_ok u.1 100 u.2.1) (fun u => [(g, .inr (4, [.int 0, .ref a1, .int sn, .ref a3, .int (nI u.2.1.length), .ref a5, .int oc, .ref a7, .ref a8, .ref a9, .int wn, .ref aB, .int tn, .int si, .int wg])), (a3, .inl (k3, 100, .inl u.1)), (a7, .inl (k7, 400, .inl u.2.2))]) A) ([.ref g, .int v0] : List Value).toArray s 0 0 A) (F0 m 175 ls [])  := by
                    intro rest
                    induction rest with
                    | nil =>
                      intro done fd xk H locs ls hY ek pd hP hD hS hl
                      have hln : (tog (apo y3)).length = done.length := by rw [hY]; simp
                      refine lv_iload_n hx hb dX3_compose_175 rfl (lv_at hl 0 rfl) ?_
                      refine lv_iload_n hx hb dX3_compose_176 rfl (lv_at hl 1 rfl) ?_
                      refine lv_icmp_ge (tgt := 198) hx hb dX3_compose_177 (by decide) (fun c177_5 => ?_) (fun c177_5 => ?_)
                      · skip
                        refine lv_aload_n hx hb dX3_compose_198 rfl (lv_at hl 3 rfl) ?_
                        refine lv_iload_n hx hb dX3_compose_199 rfl (lv_at hl 1 rfl) ?_
                        refine va_put (D := D) (ci := 4) (v := .int (nI (tog (apo y3)).length)) (ty := .int) (C := RX3) (T := TX3) (N := 15) hx hb hts (by decide +kernel) tyX3 tyX3_ok nmX3 hown hK hP hD hS 0 rfl rfl 4 (by decide) (hts (.fieldLink RX3 85 "CharacterRowsModel" "count" "I") (by decide +kernel)) (fun _ h9 => h9) rfl (by decide +kernel) rfl rfl (Nat.le_of_ble_eq_true rfl) dX3_compose_200 (fun H locs hP hD hS => ?_)
                        have hP : va_P D vwCl [(g, .inr (4, [.int 0, .ref a1, .int sn, .ref a3, .int (nI (tog (apo y3)).length), .ref a5, .int oc, .ref a7, .ref a8, .ref a9, .int wn, .ref aB, .int tn, .int si, .int wg])), (a3, .inl (k3, 100, .inl fd)), (a7, .inl (k7, 400, .inl f7))] H := hP
                        have hD : va_D A [(g, .inr (4, [.int 0, .ref a1, .int sn, .ref a3, .int (nI (tog (apo y3)).length), .ref a5, .int oc, .ref a7, .ref a8, .ref a9, .int wn, .ref aB, .int tn, .int si, .int wg])), (a3, .inl (k3, 100, .inl fd)), (a7, .inl (k7, 400, .inl f7))] := hD
                        refine lv_iload_n hx hb dX3_compose_203 rfl (lv_at hl 1 rfl) ?_
                        have z : v0 = 1 := c34_1
                        have hYd : done = (tog (apo y3)) := by rw [hY]; simp
                        rw [hYd] at pd
                        have e7 : cmS y3 v0 = some (tog (apo y3)) := by rw [cmS, if_neg (by rw [z]; decide), if_pos z, if_pos hY100]
                        exact rtI hx hb hr hlocks dX3_compose_204 (fd, (tog (apo y3)), f7) ⟨by rw [cmA, e7], by rw [e7]; rfl, pd⟩ hP hD hS
                      · skip
                        exact absurd (by rw [ek, hln]; exact Int32.le_refl _) c177_5
                    | cons d t ih =>
                      intro done fd xk H locs ls hY ek pd hP hD hS hl
                      have hln : (tog (apo y3)).length = done.length + (t.length + 1) := by rw [hY]; simp
                      have hsl := ok8.1
                      refine lv_iload_n hx hb dX3_compose_175 rfl (lv_at hl 0 rfl) ?_
                      refine lv_iload_n hx hb dX3_compose_176 rfl (lv_at hl 1 rfl) ?_
                      refine lv_icmp_ge (tgt := 198) hx hb dX3_compose_177 (by decide) (fun c177_6 => ?_) (fun c177_6 => ?_)
                      · skip
                        exact absurd c177_6 (by rw [ek, hln]; exact nI_ge (by omega) (by omega))
                      · skip
                        refine lv_aload_n hx hb dX3_compose_180 rfl (lv_at hl 3 rfl) ?_
                        refine va_get (D := D) (ci := 4) (v := .ref a3) (C := RX3) (T := TX3) (N := 15) hx hb hts (by decide +kernel) hown hK hP 0 rfl rfl 3 (by decide) (hts (.fieldLink RX3 13 "CharacterRowsModel" "text" "[I") (by decide +kernel)) (fun _ h9 => h9) rfl dX3_compose_181 ?_
                        refine lv_iload_n hx hb dX3_compose_184 rfl (lv_at hl 0 rfl) ?_
                        refine lv_aload_n hx hb dX3_compose_185 rfl (lv_at hl 3 rfl) ?_
                        refine va_get (D := D) (ci := 4) (v := .ref a7) (C := RX3) (T := TX3) (N := 15) hx hb hts (by decide +kernel) hown hK hP 0 rfl rfl 7 (by decide) (hts (.fieldLink RX3 19 "CharacterRowsModel" "work" "[I") (by decide +kernel)) (fun _ h9 => h9) rfl dX3_compose_186 ?_
                        refine lv_iload_n hx hb dX3_compose_189 rfl (lv_at hl 0 rfl) ?_
                        refine va_iald hx hb hK hP 2 1 rfl rfl (rwf_in (j := 0) ok8 (by decide) hY ek rfl (by simp)) dX3_compose_190 ?_
                        refine lv_topi (fun r9 hr9 => ?_)
                        replace hr9 : r9 = d := hr9.trans (rwf_v (j := 0) ok8 (by decide) hY ek rfl (by simp))
                        subst r9
                        refine va_iast hx hb hK hP hD hS 1 0 rfl rfl (rwf_sin pd (by decide) ek (by omega)) dX3_compose_191 (fun H locs hP hD hS => ?_)
                        have hP : va_P D vwCl [(g, .inr (4, [.int 0, .ref a1, .int sn, .ref a3, .int (nI y3.length), .ref a5, .int oc, .ref a7, .ref a8, .ref a9, .int wn, .ref aB, .int tn, .int si, .int wg])), (a3, .inl (k3, 100, .inl (upd fd xk.toNatClampNeg d))), (a7, .inl (k7, 400, .inl f7))] H := hP
                        have hD : va_D A [(g, .inr (4, [.int 0, .ref a1, .int sn, .ref a3, .int (nI y3.length), .ref a5, .int oc, .ref a7, .ref a8, .ref a9, .int wn, .ref aB, .int tn, .int si, .int wg])), (a3, .inl (k3, 100, .inl (upd fd xk.toNatClampNeg d))), (a7, .inl (k7, 400, .inl f7))] := hD
                        refine lv_iinc (v := (xk + 1)) (lv' := [(3, .int (xk + 1)), (2, .int (nI (tog (apo y3)).length)), (4, .int x4), (0, .ref g), (1, .int v0)]) hx hb dX3_compose_192 hl (k := 0) rfl rfl (by decide) rfl (fun ls hl => ?_)
                        refine lv_goto (tgt := 175) hx hb dX3_compose_195 (by decide) ?_
                        exact ih (done ++ [d]) (upd fd xk.toNatClampNeg d) _ H locs ls (by rw [hY]; simp) (by rw [ek, List.length_append]; exact nI_1 _) (rwf_snoc pd (by decide) ek (by omega)) hP hD hS (lv_sub hl [0, 1, 2, 3, 4] rfl)
                  exact loop (tog (apo y3)) [] g3 _ H locs ls rfl rfl rw_nil hP hD hS (lv_sub hl [0, 1, 2, 3, 4] rfl)
                · skip
                  refine lv_iconst (v := (-1)) hx hb dX3_compose_171 (by decide) ?_
                  have z : v0 = 1 := c34_1
                  have hY : ¬ (tog (apo y3)).length ≤ 100 := fun q => c168_3 ((nI_100 (rw_lt ok8 (by decide))).mpr q)
                  have e7 : cmS y3 v0 = none := by rw [cmS, if_neg (by rw [z]; decide), if_pos z, if_neg hY]
                  exact rtI hx hb hr hlocks dX3_compose_172 (g3, y3, f7) ⟨by rw [cmA, e7], by rw [e7]; rfl, p3⟩ hP hD hS
              · skip
                exact absurd (by rw [e4, ← hln]; simp) c45_2
            · skip
              have hl2 : o.length + gb.length + 1 ≤ 400 := by have := ok7.1; simp at this; omega
              refine lv_iload hx hb dX3_compose_42 (lv_at hl 0 rfl) ?_
              refine lv_iload_n hx hb dX3_compose_44 rfl (lv_at hl 2 rfl) ?_
              refine lv_icmp_ge (tgt := 163) hx hb dX3_compose_45 (by decide) (fun c45_3 => ?_) (fun c45_3 => ?_)
              · skip
                exact absurd c45_3 (by rw [e4, ← hln]; exact nI_ge (by simp) (by have := ok7.1; omega))
              · skip
                refine lv_aload_n hx hb dX3_compose_48 rfl (lv_at hl 3 rfl) ?_
                refine va_get (D := D) (ci := 4) (v := .ref a7) (C := RX3) (T := TX3) (N := 15) hx hb hts (by decide +kernel) hown hK hP 0 rfl rfl 7 (by decide) (hts (.fieldLink RX3 19 "CharacterRowsModel" "work" "[I") (by decide +kernel)) (fun _ h9 => h9) rfl dX3_compose_49 ?_
                refine lv_iload hx hb dX3_compose_52 (lv_at hl 0 rfl) ?_
                refine va_iald hx hb hK hP 2 1 rfl rfl (rwf_in (l := o ++ gb) (r := [c0]) (j := 0) ok7 (by decide) rfl (by rw [e4]; simp) rfl (by simp)) dX3_compose_54 ?_
                refine lv_topi (fun r9 hr9 => ?_)
                replace hr9 : r9 = c0 := hr9.trans (rwf_v (l := o ++ gb) (r := [c0]) (j := 0) ok7 (by decide) rfl (by rw [e4]; simp) rfl (by simp))
                subst r9
                refine vp_callSi (W.runS ⟨hx, hb, hml, hown, hts⟩ (KX3_isLetter l c0) (va_cwS 1 hts gX3_compose_X3_isLetter rfl rfl rfl (by decide +kernel) ⟨Nat.le_of_ble_eq_true rfl, Nat.le_of_ble_eq_true rfl⟩) pcS_S rfl rfl hl.1 rfl (lv_room (Nat.le_of_ble_eq_true rfl)) dX3_compose_55 ⟨Nat.zero_le _, Nat.zero_le _⟩) (fun r9 hr9 => ?_)
                replace hr9 : r9 = fX2_isLetter c0 := hr9.trans (x3_isLetter _)
                subst r9
                refine lv_if_eq (tgt := 88) hx hb dX3_compose_58 (by decide) (fun c58_1 => ?_) (fun c58_1 => ?_)
                · skip
                  refine lv_iconst (v := 0) hx hb dX3_compose_88 (by decide) ?_
                  refine lv_istore (lv' := [(5, .int 0), (4, .int x4), (3, .int x3), (2, .int (nI (apo y3).length)), (0, .ref g), (1, .int v0)]) hx hb dX3_compose_89 hl (by decide) rfl (fun ls hl => ?_)
                  refine lv_aload_n hx hb dX3_compose_91 rfl (lv_at hl 4 rfl) ?_
                  refine va_get (D := D) (ci := 4) (v := .ref a7) (C := RX3) (T := TX3) (N := 15) hx hb hts (by decide +kernel) hown hK hP 0 rfl rfl 7 (by decide) (hts (.fieldLink RX3 19 "CharacterRowsModel" "work" "[I") (by decide +kernel)) (fun _ h9 => h9) rfl dX3_compose_92 ?_
                  refine lv_iload_n hx hb dX3_compose_95 rfl (lv_at hl 2 rfl) ?_
                  refine lv_iload hx hb dX3_compose_96 (lv_at hl 0 rfl) ?_
                  refine lv_if_eq (tgt := 134) hx hb dX3_compose_98 (by decide) (fun c98_1 => ?_) (fun c98_1 => ?_)
                  · skip
                    refine lv_aload_n hx hb dX3_compose_134 rfl (lv_at hl 4 rfl) ?_
                    refine va_get (D := D) (ci := 4) (v := .ref a7) (C := RX3) (T := TX3) (N := 15) hx hb hts (by decide +kernel) hown hK hP 0 rfl rfl 7 (by decide) (hts (.fieldLink RX3 19 "CharacterRowsModel" "work" "[I") (by decide +kernel)) (fun _ h9 => h9) rfl dX3_compose_135 ?_
                    refine lv_iload hx hb dX3_compose_138 (lv_at hl 1 rfl) ?_
                    refine va_iald hx hb hK hP 2 1 rfl rfl (rwf_in (l := o ++ gb) (r := [c0]) (j := 0) ok7 (by decide) rfl (by rw [e4]; simp) rfl (by simp)) dX3_compose_140 ?_
                    refine lv_topi (fun r9 hr9 => ?_)
                    replace hr9 : r9 = c0 := hr9.trans (rwf_v (l := o ++ gb) (r := [c0]) (j := 0) ok7 (by decide) rfl (by rw [e4]; simp) rfl (by simp))
                    subst r9
                    refine va_iast hx hb hK hP hD hS 2 1 rfl rfl (rwf_in (l := o) (r := gb ++ [c0]) (j := 0) ok7 (by decide) (by simp) e3 rfl (by simp <;> omega)) dX3_compose_141 (fun H locs hP hD hS => ?_)
                    have hP : va_P D vwCl [(g, .inr (4, [.int 0, .ref a1, .int sn, .ref a3, .int (nI y3.length), .ref a5, .int oc, .ref a7, .ref a8, .ref a9, .int wn, .ref aB, .int tn, .int si, .int wg])), (a3, .inl (k3, 100, .inl g3)), (a7, .inl (k7, 400, .inl (upd f7 x3.toNatClampNeg c0)))] H := hP
                    have hD : va_D A [(g, .inr (4, [.int 0, .ref a1, .int sn, .ref a3, .int (nI y3.length), .ref a5, .int oc, .ref a7, .ref a8, .ref a9, .int wn, .ref aB, .int tn, .int si, .int wg])), (a3, .inl (k3, 100, .inl g3)), (a7, .inl (k7, 400, .inl (upd f7 x3.toNatClampNeg c0)))] := hD
                    refine lv_iinc (v := (x3 + 1)) (lv' := [(3, .int (x3 + 1)), (5, .int 0), (4, .int x4), (2, .int (nI (apo y3).length)), (0, .ref g), (1, .int v0)]) hx hb dX3_compose_142 hl (k := 2) rfl rfl (by decide) rfl (fun ls hl => ?_)
                    refine lv_iload hx hb dX3_compose_145 (lv_at hl 2 rfl) ?_
                    refine lv_iload hx hb dX3_compose_147 (lv_at hl 1 rfl) ?_
                    refine lv_if_eq (tgt := 156) hx hb dX3_compose_149 (by decide) (fun c149_1 => ?_) (fun c149_1 => ?_)
                    · skip
                      refine lv_iconst (v := 1) hx hb dX3_compose_156 (by decide) ?_
                      refine lv_iadd hx hb dX3_compose_157 ?_
                      refine lv_istore (lv' := [(4, .int (x4 + 1)), (3, .int (x3 + 1)), (5, .int 0), (2, .int (nI (apo y3).length)), (0, .ref g), (1, .int v0)]) hx hb dX3_compose_158 hl (by decide) rfl (fun ls hl => ?_)
                      refine lv_goto (tgt := 42) hx hb dX3_compose_160 (by decide) ?_
                      have q7 := tgf_put (v := c0) ok7 (by decide) e3
                      exact ih [] (o ++ [c0]) (gb ++ [c0]).tail (upd f7 x3.toNatClampNeg c0) _ _ H locs ls (by simpa using hn) (by rw [← hT]; simp [tog, c58_1]) (by rw [e3, nI_1]; simp) (by rw [e4, nI_1]; congr 1; simp; omega) (by rw [← hln]; simp <;> omega) q7 hP hD hS (lv_sub hl [0, 1, 3, 4, 5] rfl)
                    · exact absurd c149_1 (by decide)
                  · exact absurd c98_1 (by decide)
                · skip
                  refine lv_iload hx hb dX3_compose_61 (lv_at hl 0 rfl) ?_
                  refine lv_iconst (v := 1) hx hb dX3_compose_63 (by decide) ?_
                  refine lv_iadd hx hb dX3_compose_64 ?_
                  refine lv_iload_n hx hb dX3_compose_65 rfl (lv_at hl 2 rfl) ?_
                  refine lv_icmp_ge (tgt := 88) hx hb dX3_compose_66 (by decide) (fun c66_1 => ?_) (fun c66_1 => ?_)
                  · skip
                    refine lv_iconst (v := 0) hx hb dX3_compose_88 (by decide) ?_
                    refine lv_istore (lv' := [(5, .int 0), (4, .int x4), (3, .int x3), (2, .int (nI (apo y3).length)), (0, .ref g), (1, .int v0)]) hx hb dX3_compose_89 hl (by decide) rfl (fun ls hl => ?_)
                    refine lv_aload_n hx hb dX3_compose_91 rfl (lv_at hl 4 rfl) ?_
                    refine va_get (D := D) (ci := 4) (v := .ref a7) (C := RX3) (T := TX3) (N := 15) hx hb hts (by decide +kernel) hown hK hP 0 rfl rfl 7 (by decide) (hts (.fieldLink RX3 19 "CharacterRowsModel" "work" "[I") (by decide +kernel)) (fun _ h9 => h9) rfl dX3_compose_92 ?_
                    refine lv_iload_n hx hb dX3_compose_95 rfl (lv_at hl 2 rfl) ?_
                    refine lv_iload hx hb dX3_compose_96 (lv_at hl 0 rfl) ?_
                    refine lv_if_eq (tgt := 134) hx hb dX3_compose_98 (by decide) (fun c98_2 => ?_) (fun c98_2 => ?_)
                    · skip
                      refine lv_aload_n hx hb dX3_compose_134 rfl (lv_at hl 4 rfl) ?_
                      refine va_get (D := D) (ci := 4) (v := .ref a7) (C := RX3) (T := TX3) (N := 15) hx hb hts (by decide +kernel) hown hK hP 0 rfl rfl 7 (by decide) (hts (.fieldLink RX3 19 "CharacterRowsModel" "work" "[I") (by decide +kernel)) (fun _ h9 => h9) rfl dX3_compose_135 ?_
                      refine lv_iload hx hb dX3_compose_138 (lv_at hl 1 rfl) ?_
                      refine va_iald hx hb hK hP 2 1 rfl rfl (rwf_in (l := o ++ gb) (r := [c0]) (j := 0) ok7 (by decide) rfl (by rw [e4]; simp) rfl (by simp)) dX3_compose_140 ?_
                      refine lv_topi (fun r9 hr9 => ?_)
                      replace hr9 : r9 = c0 := hr9.trans (rwf_v (l := o ++ gb) (r := [c0]) (j := 0) ok7 (by decide) rfl (by rw [e4]; simp) rfl (by simp))
                      subst r9
                      refine va_iast hx hb hK hP hD hS 2 1 rfl rfl (rwf_in (l := o) (r := gb ++ [c0]) (j := 0) ok7 (by decide) (by simp) e3 rfl (by simp <;> omega)) dX3_compose_141 (fun H locs hP hD hS => ?_)
                      have hP : va_P D vwCl [(g, .inr (4, [.int 0, .ref a1, .int sn, .ref a3, .int (nI y3.length), .ref a5, .int oc, .ref a7, .ref a8, .ref a9, .int wn, .ref aB, .int tn, .int si, .int wg])), (a3, .inl (k3, 100, .inl g3)), (a7, .inl (k7, 400, .inl (upd f7 x3.toNatClampNeg c0)))] H := hP
                      have hD : va_D A [(g, .inr (4, [.int 0, .ref a1, .int sn, .ref a3, .int (nI y3.length), .ref a5, .int oc, .ref a7, .ref a8, .ref a9, .int wn, .ref aB, .int tn, .int si, .int wg])), (a3, .inl (k3, 100, .inl g3)), (a7, .inl (k7, 400, .inl (upd f7 x3.toNatClampNeg c0)))] := hD
                      refine lv_iinc (v := (x3 + 1)) (lv' := [(3, .int (x3 + 1)), (5, .int 0), (4, .int x4), (2, .int (nI (apo y3).length)), (0, .ref g), (1, .int v0)]) hx hb dX3_compose_142 hl (k := 2) rfl rfl (by decide) rfl (fun ls hl => ?_)
                      refine lv_iload hx hb dX3_compose_145 (lv_at hl 2 rfl) ?_
                      refine lv_iload hx hb dX3_compose_147 (lv_at hl 1 rfl) ?_
                      refine lv_if_eq (tgt := 156) hx hb dX3_compose_149 (by decide) (fun c149_2 => ?_) (fun c149_2 => ?_)
                      · skip
                        refine lv_iconst (v := 1) hx hb dX3_compose_156 (by decide) ?_
                        refine lv_iadd hx hb dX3_compose_157 ?_
                        refine lv_istore (lv' := [(4, .int (x4 + 1)), (3, .int (x3 + 1)), (5, .int 0), (2, .int (nI (apo y3).length)), (0, .ref g), (1, .int v0)]) hx hb dX3_compose_158 hl (by decide) rfl (fun ls hl => ?_)
                        refine lv_goto (tgt := 42) hx hb dX3_compose_160 (by decide) ?_
                        have q7 := tgf_put (v := c0) ok7 (by decide) e3
                        exact ih [] (o ++ [c0]) (gb ++ [c0]).tail (upd f7 x3.toNatClampNeg c0) _ _ H locs ls (by simpa using hn) (by rw [← hT]; simp [tog, c58_1]) (by rw [e3, nI_1]; simp) (by rw [e4, nI_1]; congr 1; simp; omega) (by rw [← hln]; simp <;> omega) q7 hP hD hS (lv_sub hl [0, 1, 3, 4, 5] rfl)
                      · exact absurd c149_2 (by decide)
                    · exact absurd c98_2 (by decide)
                  · skip
                    exact absurd (by rw [e4, nI_1, ← hln]; simp; exact nI_le (by omega) (by have := ok7.1; simp at this; omega)) c66_1
            · skip
              have hl2 : o.length + gb.length + 2 + t0.length ≤ 400 := by have := ok7.1; simp at this; omega
              refine lv_iload hx hb dX3_compose_42 (lv_at hl 0 rfl) ?_
              refine lv_iload_n hx hb dX3_compose_44 rfl (lv_at hl 2 rfl) ?_
              refine lv_icmp_ge (tgt := 163) hx hb dX3_compose_45 (by decide) (fun c45_4 => ?_) (fun c45_4 => ?_)
              · skip
                exact absurd c45_4 (by rw [e4, ← hln]; exact nI_ge (by simp) (by have := ok7.1; omega))
              · skip
                refine lv_aload_n hx hb dX3_compose_48 rfl (lv_at hl 3 rfl) ?_
                refine va_get (D := D) (ci := 4) (v := .ref a7) (C := RX3) (T := TX3) (N := 15) hx hb hts (by decide +kernel) hown hK hP 0 rfl rfl 7 (by decide) (hts (.fieldLink RX3 19 "CharacterRowsModel" "work" "[I") (by decide +kernel)) (fun _ h9 => h9) rfl dX3_compose_49 ?_
                refine lv_iload hx hb dX3_compose_52 (lv_at hl 0 rfl) ?_
                refine va_iald hx hb hK hP 2 1 rfl rfl (rwf_in (l := o ++ gb) (r := (c0 :: d0 :: t0)) (j := 0) ok7 (by decide) rfl (by rw [e4]; simp) rfl (by simp)) dX3_compose_54 ?_
                refine lv_topi (fun r9 hr9 => ?_)
                replace hr9 : r9 = c0 := hr9.trans (rwf_v (l := o ++ gb) (r := (c0 :: d0 :: t0)) (j := 0) ok7 (by decide) rfl (by rw [e4]; simp) rfl (by simp))
                subst r9
                refine vp_callSi (W.runS ⟨hx, hb, hml, hown, hts⟩ (KX3_isLetter l c0) (va_cwS 1 hts gX3_compose_X3_isLetter rfl rfl rfl (by decide +kernel) ⟨Nat.le_of_ble_eq_true rfl, Nat.le_of_ble_eq_true rfl⟩) pcS_S rfl rfl hl.1 rfl (lv_room (Nat.le_of_ble_eq_true rfl)) dX3_compose_55 ⟨Nat.zero_le _, Nat.zero_le _⟩) (fun r9 hr9 => ?_)
                replace hr9 : r9 = fX2_isLetter c0 := hr9.trans (x3_isLetter _)
                subst r9
                refine lv_if_eq (tgt := 88) hx hb dX3_compose_58 (by decide) (fun c58_2 => ?_) (fun c58_2 => ?_)
                · skip
                  refine lv_iconst (v := 0) hx hb dX3_compose_88 (by decide) ?_
                  refine lv_istore (lv' := [(5, .int 0), (4, .int x4), (3, .int x3), (2, .int (nI (apo y3).length)), (0, .ref g), (1, .int v0)]) hx hb dX3_compose_89 hl (by decide) rfl (fun ls hl => ?_)
                  refine lv_aload_n hx hb dX3_compose_91 rfl (lv_at hl 4 rfl) ?_
                  refine va_get (D := D) (ci := 4) (v := .ref a7) (C := RX3) (T := TX3) (N := 15) hx hb hts (by decide +kernel) hown hK hP 0 rfl rfl 7 (by decide) (hts (.fieldLink RX3 19 "CharacterRowsModel" "work" "[I") (by decide +kernel)) (fun _ h9 => h9) rfl dX3_compose_92 ?_
                  refine lv_iload_n hx hb dX3_compose_95 rfl (lv_at hl 2 rfl) ?_
                  refine lv_iload hx hb dX3_compose_96 (lv_at hl 0 rfl) ?_
                  refine lv_if_eq (tgt := 134) hx hb dX3_compose_98 (by decide) (fun c98_3 => ?_) (fun c98_3 => ?_)
                  · skip
                    refine lv_aload_n hx hb dX3_compose_134 rfl (lv_at hl 4 rfl) ?_
                    refine va_get (D := D) (ci := 4) (v := .ref a7) (C := RX3) (T := TX3) (N := 15) hx hb hts (by decide +kernel) hown hK hP 0 rfl rfl 7 (by decide) (hts (.fieldLink RX3 19 "CharacterRowsModel" "work" "[I") (by decide +kernel)) (fun _ h9 => h9) rfl dX3_compose_135 ?_
                    refine lv_iload hx hb dX3_compose_138 (lv_at hl 1 rfl) ?_
                    refine va_iald hx hb hK hP 2 1 rfl rfl (rwf_in (l := o ++ gb) (r := (c0 :: d0 :: t0)) (j := 0) ok7 (by decide) rfl (by rw [e4]; simp) rfl (by simp)) dX3_compose_140 ?_
                    refine lv_topi (fun r9 hr9 => ?_)
                    replace hr9 : r9 = c0 := hr9.trans (rwf_v (l := o ++ gb) (r := (c0 :: d0 :: t0)) (j := 0) ok7 (by decide) rfl (by rw [e4]; simp) rfl (by simp))
                    subst r9
                    refine va_iast hx hb hK hP hD hS 2 1 rfl rfl (rwf_in (l := o) (r := gb ++ (c0 :: d0 :: t0)) (j := 0) ok7 (by decide) (by simp) e3 rfl (by simp <;> omega)) dX3_compose_141 (fun H locs hP hD hS => ?_)
                    have hP : va_P D vwCl [(g, .inr (4, [.int 0, .ref a1, .int sn, .ref a3, .int (nI y3.length), .ref a5, .int oc, .ref a7, .ref a8, .ref a9, .int wn, .ref aB, .int tn, .int si, .int wg])), (a3, .inl (k3, 100, .inl g3)), (a7, .inl (k7, 400, .inl (upd f7 x3.toNatClampNeg c0)))] H := hP
                    have hD : va_D A [(g, .inr (4, [.int 0, .ref a1, .int sn, .ref a3, .int (nI y3.length), .ref a5, .int oc, .ref a7, .ref a8, .ref a9, .int wn, .ref aB, .int tn, .int si, .int wg])), (a3, .inl (k3, 100, .inl g3)), (a7, .inl (k7, 400, .inl (upd f7 x3.toNatClampNeg c0)))] := hD
                    refine lv_iinc (v := (x3 + 1)) (lv' := [(3, .int (x3 + 1)), (5, .int 0), (4, .int x4), (2, .int (nI (apo y3).length)), (0, .ref g), (1, .int v0)]) hx hb dX3_compose_142 hl (k := 2) rfl rfl (by decide) rfl (fun ls hl => ?_)
                    refine lv_iload hx hb dX3_compose_145 (lv_at hl 2 rfl) ?_
                    refine lv_iload hx hb dX3_compose_147 (lv_at hl 1 rfl) ?_
                    refine lv_if_eq (tgt := 156) hx hb dX3_compose_149 (by decide) (fun c149_3 => ?_) (fun c149_3 => ?_)
                    · skip
                      refine lv_iconst (v := 1) hx hb dX3_compose_156 (by decide) ?_
                      refine lv_iadd hx hb dX3_compose_157 ?_
                      refine lv_istore (lv' := [(4, .int (x4 + 1)), (3, .int (x3 + 1)), (5, .int 0), (2, .int (nI (apo y3).length)), (0, .ref g), (1, .int v0)]) hx hb dX3_compose_158 hl (by decide) rfl (fun ls hl => ?_)
                      refine lv_goto (tgt := 42) hx hb dX3_compose_160 (by decide) ?_
                      have q7 := tgf_put (v := c0) ok7 (by decide) e3
                      exact ih (d0 :: t0) (o ++ [c0]) (gb ++ [c0]).tail (upd f7 x3.toNatClampNeg c0) _ _ H locs ls (by simpa using hn) (by rw [← hT]; simp [tog, c58_2]) (by rw [e3, nI_1]; simp) (by rw [e4, nI_1]; congr 1; simp; omega) (by rw [← hln]; simp <;> omega) q7 hP hD hS (lv_sub hl [0, 1, 3, 4, 5] rfl)
                    · exact absurd c149_3 (by decide)
                  · exact absurd c98_3 (by decide)
                · skip
                  refine lv_iload hx hb dX3_compose_61 (lv_at hl 0 rfl) ?_
                  refine lv_iconst (v := 1) hx hb dX3_compose_63 (by decide) ?_
                  refine lv_iadd hx hb dX3_compose_64 ?_
                  refine lv_iload_n hx hb dX3_compose_65 rfl (lv_at hl 2 rfl) ?_
                  refine lv_icmp_ge (tgt := 88) hx hb dX3_compose_66 (by decide) (fun c66_2 => ?_) (fun c66_2 => ?_)
                  · skip
                    exact absurd c66_2 (by rw [e4, nI_1, ← hln]; exact nI_ge (by simp; omega) (by have := ok7.1; omega))
                  · skip
                    refine lv_aload_n hx hb dX3_compose_69 rfl (lv_at hl 3 rfl) ?_
                    refine va_get (D := D) (ci := 4) (v := .ref a7) (C := RX3) (T := TX3) (N := 15) hx hb hts (by decide +kernel) hown hK hP 0 rfl rfl 7 (by decide) (hts (.fieldLink RX3 19 "CharacterRowsModel" "work" "[I") (by decide +kernel)) (fun _ h9 => h9) rfl dX3_compose_70 ?_
                    refine lv_iload hx hb dX3_compose_73 (lv_at hl 0 rfl) ?_
                    refine lv_iconst (v := 1) hx hb dX3_compose_75 (by decide) ?_
                    refine lv_iadd hx hb dX3_compose_76 ?_
                    refine va_iald hx hb hK hP 2 1 rfl rfl (rwf_in (l := o ++ gb) (r := (c0 :: d0 :: t0)) (j := 1) ok7 (by decide) rfl (by rw [e4, nI_1]; simp) rfl (by simp)) dX3_compose_77 ?_
                    refine lv_topi (fun r9 hr9 => ?_)
                    replace hr9 : r9 = d0 := hr9.trans (rwf_v (l := o ++ gb) (r := (c0 :: d0 :: t0)) (j := 1) ok7 (by decide) rfl (by rw [e4, nI_1]; simp) rfl (by simp))
                    subst r9
                    refine vp_callSi (W.runS ⟨hx, hb, hml, hown, hts⟩ (KX3_isMark l d0) (va_cwS 1 hts gX3_compose_X3_isMark rfl rfl rfl (by decide +kernel) ⟨Nat.le_of_ble_eq_true rfl, Nat.le_of_ble_eq_true rfl⟩) pcS_S rfl rfl hl.1 rfl (lv_room (Nat.le_of_ble_eq_true rfl)) dX3_compose_78 ⟨Nat.zero_le _, Nat.zero_le _⟩) (fun r9 hr9 => ?_)
                    replace hr9 : r9 = fX2_isMark d0 := hr9.trans (x3_isMark _)
                    subst r9
                    refine lv_if_eq (tgt := 88) hx hb dX3_compose_81 (by decide) (fun c81_1 => ?_) (fun c81_1 => ?_)
                    · skip
                      refine lv_iconst (v := 0) hx hb dX3_compose_88 (by decide) ?_
                      refine lv_istore (lv' := [(5, .int 0), (4, .int x4), (3, .int x3), (2, .int (nI (apo y3).length)), (0, .ref g), (1, .int v0)]) hx hb dX3_compose_89 hl (by decide) rfl (fun ls hl => ?_)
                      refine lv_aload_n hx hb dX3_compose_91 rfl (lv_at hl 4 rfl) ?_
                      refine va_get (D := D) (ci := 4) (v := .ref a7) (C := RX3) (T := TX3) (N := 15) hx hb hts (by decide +kernel) hown hK hP 0 rfl rfl 7 (by decide) (hts (.fieldLink RX3 19 "CharacterRowsModel" "work" "[I") (by decide +kernel)) (fun _ h9 => h9) rfl dX3_compose_92 ?_
                      refine lv_iload_n hx hb dX3_compose_95 rfl (lv_at hl 2 rfl) ?_
                      refine lv_iload hx hb dX3_compose_96 (lv_at hl 0 rfl) ?_
                      refine lv_if_eq (tgt := 134) hx hb dX3_compose_98 (by decide) (fun c98_4 => ?_) (fun c98_4 => ?_)
                      · skip
                        refine lv_aload_n hx hb dX3_compose_134 rfl (lv_at hl 4 rfl) ?_
                        refine va_get (D := D) (ci := 4) (v := .ref a7) (C := RX3) (T := TX3) (N := 15) hx hb hts (by decide +kernel) hown hK hP 0 rfl rfl 7 (by decide) (hts (.fieldLink RX3 19 "CharacterRowsModel" "work" "[I") (by decide +kernel)) (fun _ h9 => h9) rfl dX3_compose_135 ?_
                        refine lv_iload hx hb dX3_compose_138 (lv_at hl 1 rfl) ?_
                        refine va_iald hx hb hK hP 2 1 rfl rfl (rwf_in (l := o ++ gb) (r := (c0 :: d0 :: t0)) (j := 0) ok7 (by decide) rfl (by rw [e4]; simp) rfl (by simp)) dX3_compose_140 ?_
                        refine lv_topi (fun r9 hr9 => ?_)
                        replace hr9 : r9 = c0 := hr9.trans (rwf_v (l := o ++ gb) (r := (c0 :: d0 :: t0)) (j := 0) ok7 (by decide) rfl (by rw [e4]; simp) rfl (by simp))
                        subst r9
                        refine va_iast hx hb hK hP hD hS 2 1 rfl rfl (rwf_in (l := o) (r := gb ++ (c0 :: d0 :: t0)) (j := 0) ok7 (by decide) (by simp) e3 rfl (by simp <;> omega)) dX3_compose_141 (fun H locs hP hD hS => ?_)
                        have hP : va_P D vwCl [(g, .inr (4, [.int 0, .ref a1, .int sn, .ref a3, .int (nI y3.length), .ref a5, .int oc, .ref a7, .ref a8, .ref a9, .int wn, .ref aB, .int tn, .int si, .int wg])), (a3, .inl (k3, 100, .inl g3)), (a7, .inl (k7, 400, .inl (upd f7 x3.toNatClampNeg c0)))] H := hP
                        have hD : va_D A [(g, .inr (4, [.int 0, .ref a1, .int sn, .ref a3, .int (nI y3.length), .ref a5, .int oc, .ref a7, .ref a8, .ref a9, .int wn, .ref aB, .int tn, .int si, .int wg])), (a3, .inl (k3, 100, .inl g3)), (a7, .inl (k7, 400, .inl (upd f7 x3.toNatClampNeg c0)))] := hD
                        refine lv_iinc (v := (x3 + 1)) (lv' := [(3, .int (x3 + 1)), (5, .int 0), (4, .int x4), (2, .int (nI (apo y3).length)), (0, .ref g), (1, .int v0)]) hx hb dX3_compose_142 hl (k := 2) rfl rfl (by decide) rfl (fun ls hl => ?_)
                        refine lv_iload hx hb dX3_compose_145 (lv_at hl 2 rfl) ?_
                        refine lv_iload hx hb dX3_compose_147 (lv_at hl 1 rfl) ?_
                        refine lv_if_eq (tgt := 156) hx hb dX3_compose_149 (by decide) (fun c149_4 => ?_) (fun c149_4 => ?_)
                        · skip
                          refine lv_iconst (v := 1) hx hb dX3_compose_156 (by decide) ?_
                          refine lv_iadd hx hb dX3_compose_157 ?_
                          refine lv_istore (lv' := [(4, .int (x4 + 1)), (3, .int (x3 + 1)), (5, .int 0), (2, .int (nI (apo y3).length)), (0, .ref g), (1, .int v0)]) hx hb dX3_compose_158 hl (by decide) rfl (fun ls hl => ?_)
                          refine lv_goto (tgt := 42) hx hb dX3_compose_160 (by decide) ?_
                          have q7 := tgf_put (v := c0) ok7 (by decide) e3
                          exact ih (d0 :: t0) (o ++ [c0]) (gb ++ [c0]).tail (upd f7 x3.toNatClampNeg c0) _ _ H locs ls (by simpa using hn) (by rw [← hT]; simp [tog, c58_2, c81_1]) (by rw [e3, nI_1]; simp) (by rw [e4, nI_1]; congr 1; simp; omega) (by rw [← hln]; simp <;> omega) q7 hP hD hS (lv_sub hl [0, 1, 3, 4, 5] rfl)
                        · exact absurd c149_4 (by decide)
                      · exact absurd c98_4 (by decide)
                    · skip
                      refine lv_iconst (v := 1) hx hb dX3_compose_84 (by decide) ?_
                      refine lv_goto (tgt := 89) hx hb dX3_compose_85 (by decide) ?_
                      refine lv_istore (lv' := [(5, .int 1), (4, .int x4), (3, .int x3), (2, .int (nI (apo y3).length)), (0, .ref g), (1, .int v0)]) hx hb dX3_compose_89 hl (by decide) rfl (fun ls hl => ?_)
                      refine lv_aload_n hx hb dX3_compose_91 rfl (lv_at hl 4 rfl) ?_
                      refine va_get (D := D) (ci := 4) (v := .ref a7) (C := RX3) (T := TX3) (N := 15) hx hb hts (by decide +kernel) hown hK hP 0 rfl rfl 7 (by decide) (hts (.fieldLink RX3 19 "CharacterRowsModel" "work" "[I") (by decide +kernel)) (fun _ h9 => h9) rfl dX3_compose_92 ?_
                      refine lv_iload_n hx hb dX3_compose_95 rfl (lv_at hl 2 rfl) ?_
                      refine lv_iload hx hb dX3_compose_96 (lv_at hl 0 rfl) ?_
                      refine lv_if_eq (tgt := 134) hx hb dX3_compose_98 (by decide) (fun c98_5 => ?_) (fun c98_5 => ?_)
                      · exact absurd c98_5 (by decide)
                      · skip
                        refine lv_ldc (v := 57344) hx hb hown (hts (.constant RX3 46 57344) (by decide +kernel)) dX3_compose_101 ?_
                        refine lv_bipush (v := 64) hx hb dX3_compose_103 (by decide) ?_
                        refine lv_aload_n hx hb dX3_compose_105 rfl (lv_at hl 4 rfl) ?_
                        refine va_get (D := D) (ci := 4) (v := .ref a7) (C := RX3) (T := TX3) (N := 15) hx hb hts (by decide +kernel) hown hK hP 0 rfl rfl 7 (by decide) (hts (.fieldLink RX3 19 "CharacterRowsModel" "work" "[I") (by decide +kernel)) (fun _ h9 => h9) rfl dX3_compose_106 ?_
                        refine lv_iload hx hb dX3_compose_109 (lv_at hl 1 rfl) ?_
                        refine lv_iconst (v := 1) hx hb dX3_compose_111 (by decide) ?_
                        refine lv_iadd hx hb dX3_compose_112 ?_
                        refine va_iald hx hb hK hP 2 1 rfl rfl (rwf_in (l := o ++ gb) (r := (c0 :: d0 :: t0)) (j := 1) ok7 (by decide) rfl (by rw [e4, nI_1]; simp) rfl (by simp)) dX3_compose_113 ?_
                        refine lv_topi (fun r9 hr9 => ?_)
                        replace hr9 : r9 = d0 := hr9.trans (rwf_v (l := o ++ gb) (r := (c0 :: d0 :: t0)) (j := 1) ok7 (by decide) rfl (by rw [e4, nI_1]; simp) rfl (by simp))
                        subst r9
                        refine lv_sipush (v := 768) hx hb dX3_compose_114 (by decide) ?_
                        refine lv_isub hx hb dX3_compose_117 ?_
                        refine lv_imul hx hb dX3_compose_118 ?_
                        refine lv_iadd hx hb dX3_compose_119 ?_
                        refine lv_aload_n hx hb dX3_compose_120 rfl (lv_at hl 4 rfl) ?_
                        refine va_get (D := D) (ci := 4) (v := .ref a7) (C := RX3) (T := TX3) (N := 15) hx hb hts (by decide +kernel) hown hK hP 0 rfl rfl 7 (by decide) (hts (.fieldLink RX3 19 "CharacterRowsModel" "work" "[I") (by decide +kernel)) (fun _ h9 => h9) rfl dX3_compose_121 ?_
                        refine lv_iload hx hb dX3_compose_124 (lv_at hl 1 rfl) ?_
                        refine va_iald hx hb hK hP 2 1 rfl rfl (rwf_in (l := o ++ gb) (r := (c0 :: d0 :: t0)) (j := 0) ok7 (by decide) rfl (by rw [e4]; simp) rfl (by simp)) dX3_compose_126 ?_
                        refine lv_topi (fun r9 hr9 => ?_)
                        replace hr9 : r9 = c0 := hr9.trans (rwf_v (l := o ++ gb) (r := (c0 :: d0 :: t0)) (j := 0) ok7 (by decide) rfl (by rw [e4]; simp) rfl (by simp))
                        subst r9
                        refine lv_iadd hx hb dX3_compose_127 ?_
                        refine lv_bipush (v := 64) hx hb dX3_compose_128 (by decide) ?_
                        refine lv_isub hx hb dX3_compose_130 ?_
                        refine lv_goto (tgt := 141) hx hb dX3_compose_131 (by decide) ?_
                        refine va_iast hx hb hK hP hD hS 2 1 rfl rfl (rwf_in (l := o) (r := gb ++ (c0 :: d0 :: t0)) (j := 0) ok7 (by decide) (by simp) e3 rfl (by simp <;> omega)) dX3_compose_141 (fun H locs hP hD hS => ?_)
                        have hP : va_P D vwCl [(g, .inr (4, [.int 0, .ref a1, .int sn, .ref a3, .int (nI y3.length), .ref a5, .int oc, .ref a7, .ref a8, .ref a9, .int wn, .ref aB, .int tn, .int si, .int wg])), (a3, .inl (k3, 100, .inl g3)), (a7, .inl (k7, 400, .inl (upd f7 x3.toNatClampNeg (((57344 + (64 * (d0 - 768))) + c0) - 64))))] H := hP
                        have hD : va_D A [(g, .inr (4, [.int 0, .ref a1, .int sn, .ref a3, .int (nI y3.length), .ref a5, .int oc, .ref a7, .ref a8, .ref a9, .int wn, .ref aB, .int tn, .int si, .int wg])), (a3, .inl (k3, 100, .inl g3)), (a7, .inl (k7, 400, .inl (upd f7 x3.toNatClampNeg (((57344 + (64 * (d0 - 768))) + c0) - 64))))] := hD
                        refine lv_iinc (v := (x3 + 1)) (lv' := [(3, .int (x3 + 1)), (5, .int 1), (4, .int x4), (2, .int (nI (apo y3).length)), (0, .ref g), (1, .int v0)]) hx hb dX3_compose_142 hl (k := 2) rfl rfl (by decide) rfl (fun ls hl => ?_)
                        refine lv_iload hx hb dX3_compose_145 (lv_at hl 2 rfl) ?_
                        refine lv_iload hx hb dX3_compose_147 (lv_at hl 1 rfl) ?_
                        refine lv_if_eq (tgt := 156) hx hb dX3_compose_149 (by decide) (fun c149_5 => ?_) (fun c149_5 => ?_)
                        · exact absurd c149_5 (by decide)
                        · skip
                          refine lv_iconst (v := 2) hx hb dX3_compose_152 (by decide) ?_
                          refine lv_goto (tgt := 157) hx hb dX3_compose_153 (by decide) ?_
                          refine lv_iadd hx hb dX3_compose_157 ?_
                          refine lv_istore (lv' := [(4, .int (x4 + 2)), (3, .int (x3 + 1)), (5, .int 1), (2, .int (nI (apo y3).length)), (0, .ref g), (1, .int v0)]) hx hb dX3_compose_158 hl (by decide) rfl (fun ls hl => ?_)
                          refine lv_goto (tgt := 42) hx hb dX3_compose_160 (by decide) ?_
                          have q7 := tgf_put (v := (((57344 + (64 * (d0 - 768))) + c0) - 64)) ok7 (by decide) e3
                          have e7 : (o ++ [(((57344 + (64 * (d0 - 768))) + c0) - 64)]) ++ (gb ++ [c0]).tail ++ d0 :: t0 = (o ++ [fX2_composedOf c0 d0]) ++ ((gb ++ [c0]).tail ++ [d0]) ++ t0 := by simp [fX2_composedOf]
                          rw [e7] at q7
                          exact ih t0 (o ++ [fX2_composedOf c0 d0]) ((gb ++ [c0]).tail ++ [d0]) (upd f7 x3.toNatClampNeg (((57344 + (64 * (d0 - 768))) + c0) - 64)) _ _ H locs ls (by simp at hn; omega) (by rw [← hT]; simp [tog, c58_2, c81_1]) (by rw [e3, nI_1]; simp) (by rw [e4, show (2 : Int32) = nI 2 from rfl, nI_add]; congr 1; simp; omega) (by rw [← hln]; simp <;> omega) q7 hP hD hS (lv_sub hl [0, 1, 3, 4, 5] rfl)
        exact loop (apo y3).length (apo y3) [] [] u_1 _ _ H locs ls (Nat.le_refl _) rfl rfl rfl rfl hw_1o hP hD hS (lv_sub hl [0, 1, 2, 3, 4] rfl)
    · skip
      refine lv_iconst (v := (-1)) hx hb dX3_compose_14 (by decide) ?_
      have z := i32_o (v := v0) (Or.inr c11_1)
      have e7 : cmS y3 v0 = none := by rw [cmS, if_neg z.1, if_neg z.2]
      exact rtI hx hb hr hlocks dX3_compose_15 (g3, y3, g7) ⟨by rw [cmA, e7], by rw [e7]; rfl, p3⟩ hP hD hS
set_option maxHeartbeats 4000000 in
set_option maxRecDepth 100000 in
theorem KX3_same (l : Launch) (D : va_G) (g a1 a3 a5 a7 a8 a9 aB : Nat) (th sn wn tn si wg : Int32) (k3 : ClassId) (g3 : Nat → Int32) (y3 : List Int32) (p3 : rw_ok g3 100 y3) (h3 : y3.length ≤ 100) (k5 : ClassId) (g5 : Nat → Int32) (y5 : List Int32) (p5 : rw_ok g5 100 y5) (h5 : y5.length ≤ 100) (k7 : ClassId) (g7 : Nat → Int32) (k8 : ClassId) (g8 : Nat → Int32) (v0 : Int32) (sz : Nat) : Met l yX3_same wsX3_same ({ frames := 3, cells := 0, slots := 0, locals := 69 }) (pcM D sz [(g, .inr (4, [.int th, .ref a1, .int sn, .ref a3, .int (nI y3.length), .ref a5, .int (nI y5.length), .ref a7, .ref a8, .ref a9, .int wn, .ref aB, .int tn, .int si, .int wg])), (a3, .inl (k3, 100, .inl g3)), (a5, .inl (k5, 100, .inl g5)), (a7, .inl (k7, 400, .inl g7)), (a8, .inl (k8, 400, .inl g8))] [(k3, .int), (k5, .int), (k7, .int), (k8, .int)] [.ref g, .int v0]) (qcI (S := (Nat → Int32) × (Nat → Int32)) D (fun r _ => r = (if v0 = 0 then 1 else if v0 = 1 then (if apo y3 = apo y5 then 1 else 0) else 0)) (fun u => [(g, .inr (4, [.int 0, .ref a1, .int sn, .ref a3, .int (nI y3.length), .ref a5, .int (nI y5.length), .ref a7, .ref a8, .ref a9, .int wn, .ref aB, .int tn, .int si, .int wg])), (a3, .inl (k3, 100, .inl g3)), (a5, .inl (k5, 100, .inl g5)), (a7, .inl (k7, 400, .inl u.1)), (a8, .inl (k8, 400, .inl u.2))]) (va_A [(g, .inr (4, [.int th, .ref a1, .int sn, .ref a3, .int (nI y3.length), .ref a5, .int (nI y5.length), .ref a7, .ref a8, .ref a9, .int wn, .ref aB, .int tn, .int si, .int wg])), (a3, .inl (k3, 100, .inl g3)), (a5, .inl (k5, 100, .inl g5)), (a7, .inl (k7, 400, .inl g7)), (a8, .inl (k8, 400, .inl g8))] sz)) 0 0 (va_A [(g, .inr (4, [.int th, .ref a1, .int sn, .ref a3, .int (nI y3.length), .ref a5, .int (nI y5.length), .ref a7, .ref a8, .ref a9, .int wn, .ref aB, .int tn, .int si, .int wg])), (a3, .inl (k3, 100, .inl g3)), (a5, .inl (k5, 100, .inl g5)), (a7, .inl (k7, 400, .inl g7)), (a8, .inl (k8, 400, .inl g8))] sz) := by
  refine ofM (Qc := fun A => qcI (S := (Nat → Int32) × (Nat → Int32)) D (fun r _ => r = (if v0 = 0 then 1 else if v0 = 1 then (if apo y3 = apo y5 then 1 else 0) else 0)) (fun u => [(g, .inr (4, [.int 0, .ref a1, .int sn, .ref a3, .int (nI y3.length), .ref a5, .int (nI y5.length), .ref a7, .ref a8, .ref a9, .int wn, .ref aB, .int tn, .int si, .int wg])), (a3, .inl (k3, 100, .inl g3)), (a5, .inl (k5, 100, .inl g5)), (a7, .inl (k7, 400, .inl u.1)), (a8, .inl (k8, 400, .inl u.2))]) A) (cc := cX3_same) (maxL := 6) (ret := (some .boolean)) (by decide) rfl (Nat.le_of_ble_eq_true rfl) ?_
  intro p e s m below meth c ls A hx hb hr hml hown hts hlocks hnm hP hK hN hD hA hS hl
  have hl : lv_has ls 6 [(0, .ref g), (1, .int v0)] := hl
  refine lv_aload_n hx hb dX3_same_0 rfl (lv_at hl 0 rfl) ?_
  refine lv_iconst (v := 0) hx hb dX3_same_1 (by decide) ?_
  refine va_put (D := D) (ci := 4) (v := .int 0) (ty := .int) (C := RX3) (T := TX3) (N := 15) hx hb hts (by decide +kernel) tyX3 tyX3_ok nmX3 hown hK hP hD hS 0 rfl rfl 0 (by decide) (hts (.fieldLink RX3 36 "CharacterRowsModel" "thrown" "I") (by decide +kernel)) (fun _ h9 => h9) rfl (by decide +kernel) rfl rfl (Nat.le_of_ble_eq_true rfl) dX3_same_2 (fun H locs hP hD hS => ?_)
  have hP : va_P D vwCl [(g, .inr (4, [.int 0, .ref a1, .int sn, .ref a3, .int (nI y3.length), .ref a5, .int (nI y5.length), .ref a7, .ref a8, .ref a9, .int wn, .ref aB, .int tn, .int si, .int wg])), (a3, .inl (k3, 100, .inl g3)), (a5, .inl (k5, 100, .inl g5)), (a7, .inl (k7, 400, .inl g7)), (a8, .inl (k8, 400, .inl g8))] H := hP
  have hD : va_D A [(g, .inr (4, [.int 0, .ref a1, .int sn, .ref a3, .int (nI y3.length), .ref a5, .int (nI y5.length), .ref a7, .ref a8, .ref a9, .int wn, .ref aB, .int tn, .int si, .int wg])), (a3, .inl (k3, 100, .inl g3)), (a5, .inl (k5, 100, .inl g5)), (a7, .inl (k7, 400, .inl g7)), (a8, .inl (k8, 400, .inl g8))] := hD
  refine lv_iload_n hx hb dX3_same_5 rfl (lv_at hl 1 rfl) ?_
  refine lv_if_lt (tgt := 14) hx hb dX3_same_6 (by decide) (fun c6_1 => ?_) (fun c6_1 => ?_)
  · skip
    refine lv_iconst (v := 0) hx hb dX3_same_14 (by decide) ?_
    have z := i32_o (v := v0) (Or.inl c6_1)
    exact rtIz hx hb hr (by decide) hlocks dX3_same_15 (g7, g8) (by rw [if_neg z.1, if_neg z.2]) hP hD hS
  · skip
    refine lv_iload_n hx hb dX3_same_9 rfl (lv_at hl 1 rfl) ?_
    refine lv_iconst (v := 1) hx hb dX3_same_10 (by decide) ?_
    refine lv_icmp_le (tgt := 16) hx hb dX3_same_11 (by decide) (fun c11_1 => ?_) (fun c11_1 => ?_)
    · skip
      refine lv_aload_n hx hb dX3_same_16 rfl (lv_at hl 0 rfl) ?_
      refine va_get (D := D) (ci := 4) (v := .ref a3) (C := RX3) (T := TX3) (N := 15) hx hb hts (by decide +kernel) hown hK hP 0 rfl rfl 3 (by decide) (hts (.fieldLink RX3 13 "CharacterRowsModel" "text" "[I") (by decide +kernel)) (fun _ h9 => h9) rfl dX3_same_17 ?_
      refine lv_aload_n hx hb dX3_same_20 rfl (lv_at hl 0 rfl) ?_
      refine va_get (D := D) (ci := 4) (v := .int (nI y3.length)) (C := RX3) (T := TX3) (N := 15) hx hb hts (by decide +kernel) hown hK hP 0 rfl rfl 4 (by decide) (hts (.fieldLink RX3 85 "CharacterRowsModel" "count" "I") (by decide +kernel)) (fun _ h9 => h9) rfl dX3_same_21 ?_
      refine lv_aload_n hx hb dX3_same_24 rfl (lv_at hl 0 rfl) ?_
      refine va_get (D := D) (ci := 4) (v := .ref a7) (C := RX3) (T := TX3) (N := 15) hx hb hts (by decide +kernel) hown hK hP 0 rfl rfl 7 (by decide) (hts (.fieldLink RX3 19 "CharacterRowsModel" "work" "[I") (by decide +kernel)) (fun _ h9 => h9) rfl dX3_same_25 ?_
      refine clI (wr := [(g, .inr (4, [.int 0, .ref a1, .int sn, .ref a3, .int (nI y3.length), .ref a5, .int (nI y5.length), .ref a7, .ref a8, .ref a9, .int wn, .ref aB, .int tn, .int si, .int wg])), (a5, .inl (k5, 100, .inl g5)), (a8, .inl (k8, 400, .inl g8))]) (va_runS ⟨hx, hb, hml, hown, hts⟩ (KX3_apart l D a3 a7 k3 k7 100 (by decide) g3 g7 y3 p3 h3 _) (va_cwS 3 hts gX3_same_X3_apart rfl rfl rfl (by decide +kernel) ⟨Nat.le_of_ble_eq_true rfl, Nat.le_of_ble_eq_true rfl⟩) (pcM_S (hP.sub (ws' := [(a3, .inl (k3, 100, .inl g3)), (a7, .inl (k7, 400, .inl g7))]) [1, 3] rfl) (hD.sub (ws' := [(a3, .inl (k3, 100, .inl g3)), (a7, .inl (k7, 400, .inl g7))]) [1, 3] (by decide) rfl) (hK.sub (tys' := [(k3, .int), (k7, .int)]) [0, 2] rfl) hN) rfl rfl hl.1 rfl (lv_room (Nat.le_of_ble_eq_true rfl)) dX3_same_28 ⟨Nat.zero_le _, Nat.zero_le _⟩) hP hD hS hA [1, 3] [0, 2, 4] rfl rfl (by decide) (by decide) (fun r_1 u_1 H locs hw_1 hP hD hS => ?_)
      obtain ⟨hw_1r, hw_1o⟩ := hw_1
      subst hw_1r
      have hP : va_P D vwCl [(g, .inr (4, [.int 0, .ref a1, .int sn, .ref a3, .int (nI y3.length), .ref a5, .int (nI y5.length), .ref a7, .ref a8, .ref a9, .int wn, .ref aB, .int tn, .int si, .int wg])), (a3, .inl (k3, 100, .inl g3)), (a5, .inl (k5, 100, .inl g5)), (a7, .inl (k7, 400, .inl u_1)), (a8, .inl (k8, 400, .inl g8))] H := hP.sub [0, 3, 1, 4, 2] rfl
      have hD : va_D A [(g, .inr (4, [.int 0, .ref a1, .int sn, .ref a3, .int (nI y3.length), .ref a5, .int (nI y5.length), .ref a7, .ref a8, .ref a9, .int wn, .ref aB, .int tn, .int si, .int wg])), (a3, .inl (k3, 100, .inl g3)), (a5, .inl (k5, 100, .inl g5)), (a7, .inl (k7, 400, .inl u_1)), (a8, .inl (k8, 400, .inl g8))] := hD.sub [0, 3, 1, 4, 2] (by decide) rfl
      refine lv_istore_n (lv' := [(2, .int (nI (apo y3).length)), (0, .ref g), (1, .int v0)]) hx hb dX3_same_31 rfl hl (by decide) rfl (fun ls hl => ?_)
      refine lv_iload_n hx hb dX3_same_32 rfl (lv_at hl 2 rfl) ?_
      refine lv_if_ne (tgt := 54) hx hb dX3_same_33 (by decide) (fun c33_1 => ?_) (fun c33_1 => ?_)
      · skip
        refine lv_aload_n hx hb dX3_same_54 rfl (lv_at hl 1 rfl) ?_
        refine va_get (D := D) (ci := 4) (v := .ref a5) (C := RX3) (T := TX3) (N := 15) hx hb hts (by decide +kernel) hown hK hP 0 rfl rfl 5 (by decide) (hts (.fieldLink RX3 16 "CharacterRowsModel" "other" "[I") (by decide +kernel)) (fun _ h9 => h9) rfl dX3_same_55 ?_
        refine lv_aload_n hx hb dX3_same_58 rfl (lv_at hl 1 rfl) ?_
        refine va_get (D := D) (ci := 4) (v := .int (nI y5.length)) (C := RX3) (T := TX3) (N := 15) hx hb hts (by decide +kernel) hown hK hP 0 rfl rfl 6 (by decide) (hts (.fieldLink RX3 88 "CharacterRowsModel" "otherCount" "I") (by decide +kernel)) (fun _ h9 => h9) rfl dX3_same_59 ?_
        refine lv_aload_n hx hb dX3_same_62 rfl (lv_at hl 1 rfl) ?_
        refine va_get (D := D) (ci := 4) (v := .ref a8) (C := RX3) (T := TX3) (N := 15) hx hb hts (by decide +kernel) hown hK hP 0 rfl rfl 8 (by decide) (hts (.fieldLink RX3 22 "CharacterRowsModel" "second" "[I") (by decide +kernel)) (fun _ h9 => h9) rfl dX3_same_63 ?_
        refine clI (wr := [(g, .inr (4, [.int 0, .ref a1, .int sn, .ref a3, .int (nI y3.length), .ref a5, .int (nI y5.length), .ref a7, .ref a8, .ref a9, .int wn, .ref aB, .int tn, .int si, .int wg])), (a3, .inl (k3, 100, .inl g3)), (a7, .inl (k7, 400, .inl u_1))]) (va_runS ⟨hx, hb, hml, hown, hts⟩ (KX3_apart l D a5 a8 k5 k8 100 (by decide) g5 g8 y5 p5 h5 _) (va_cwS 3 hts gX3_same_X3_apart rfl rfl rfl (by decide +kernel) ⟨Nat.le_of_ble_eq_true rfl, Nat.le_of_ble_eq_true rfl⟩) (pcM_S (hP.sub (ws' := [(a5, .inl (k5, 100, .inl g5)), (a8, .inl (k8, 400, .inl g8))]) [2, 4] rfl) (hD.sub (ws' := [(a5, .inl (k5, 100, .inl g5)), (a8, .inl (k8, 400, .inl g8))]) [2, 4] (by decide) rfl) (hK.sub (tys' := [(k5, .int), (k8, .int)]) [1, 3] rfl) hN) rfl rfl hl.1 rfl (lv_room (Nat.le_of_ble_eq_true rfl)) dX3_same_66 ⟨Nat.zero_le _, Nat.zero_le _⟩) hP hD hS hA [2, 4] [0, 1, 3] rfl rfl (by decide) (by decide) (fun r_2 u_2 H locs hw_2 hP hD hS => ?_)
        obtain ⟨hw_2r, hw_2o⟩ := hw_2
        subst hw_2r
        have hP : va_P D vwCl [(g, .inr (4, [.int 0, .ref a1, .int sn, .ref a3, .int (nI y3.length), .ref a5, .int (nI y5.length), .ref a7, .ref a8, .ref a9, .int wn, .ref aB, .int tn, .int si, .int wg])), (a3, .inl (k3, 100, .inl g3)), (a5, .inl (k5, 100, .inl g5)), (a7, .inl (k7, 400, .inl u_1)), (a8, .inl (k8, 400, .inl u_2))] H := hP.sub [0, 1, 3, 2, 4] rfl
        have hD : va_D A [(g, .inr (4, [.int 0, .ref a1, .int sn, .ref a3, .int (nI y3.length), .ref a5, .int (nI y5.length), .ref a7, .ref a8, .ref a9, .int wn, .ref aB, .int tn, .int si, .int wg])), (a3, .inl (k3, 100, .inl g3)), (a5, .inl (k5, 100, .inl g5)), (a7, .inl (k7, 400, .inl u_1)), (a8, .inl (k8, 400, .inl u_2))] := hD.sub [0, 1, 3, 2, 4] (by decide) rfl
        refine lv_istore_n (lv' := [(3, .int (nI (apo y5).length)), (2, .int (nI (apo y3).length)), (0, .ref g), (1, .int v0)]) hx hb dX3_same_69 rfl hl (by decide) rfl (fun ls hl => ?_)
        refine lv_iload_n hx hb dX3_same_70 rfl (lv_at hl 1 rfl) ?_
        refine lv_iload_n hx hb dX3_same_71 rfl (lv_at hl 0 rfl) ?_
        refine lv_icmp_ne (tgt := 79) hx hb dX3_same_72 (by decide) (fun c72_1 => ?_) (fun c72_1 => ?_)
        · skip
          refine lv_iconst (v := 0) hx hb dX3_same_79 (by decide) ?_
          refine lv_istore (lv' := [(4, .int 0), (3, .int (nI (apo y5).length)), (2, .int (nI (apo y3).length)), (0, .ref g), (1, .int v0)]) hx hb dX3_same_80 hl (by decide) rfl (fun ls hl => ?_)
          refine lv_iconst (v := 0) hx hb dX3_same_82 (by decide) ?_
          refine lv_istore (lv' := [(5, .int 0), (4, .int 0), (3, .int (nI (apo y5).length)), (2, .int (nI (apo y3).length)), (0, .ref g), (1, .int v0)]) hx hb dX3_same_83 hl (by decide) rfl (fun ls hl => ?_)
          refine lv_iload hx hb dX3_same_85 (lv_at hl 0 rfl) ?_
          refine lv_iload_n hx hb dX3_same_87 rfl (lv_at hl 3 rfl) ?_
          refine lv_icmp_ge (tgt := 126) hx hb dX3_same_88 (by decide) (fun c88_1 => ?_) (fun c88_1 => ?_)
          · skip
            refine lv_iload hx hb dX3_same_126 (lv_at hl 1 rfl) ?_
            have z : v0 = 1 := (i32_01 c6_1 c11_1).resolve_left c33_1
            exact rtIz hx hb hr (by decide) hlocks dX3_same_128 (u_1, u_2) (by rw [if_neg (by rw [z]; decide), if_pos z, if_neg (fun q => c72_1 (by rw [q]))]) hP hD hS
          · skip
            refine lv_iload hx hb dX3_same_91 (lv_at hl 1 rfl) ?_
            refine lv_if_eq (tgt := 126) hx hb dX3_same_93 (by decide) (fun c93_1 => ?_) (fun c93_1 => ?_)
            · skip
              refine lv_iload hx hb dX3_same_126 (lv_at hl 1 rfl) ?_
              have z : v0 = 1 := (i32_01 c6_1 c11_1).resolve_left c33_1
              exact rtIz hx hb hr (by decide) hlocks dX3_same_128 (u_1, u_2) (by rw [if_neg (by rw [z]; decide), if_pos z, if_neg (fun q => c72_1 (by rw [q]))]) hP hD hS
            · exact absurd c93_1 (by decide)
        · skip
          refine lv_iconst (v := 1) hx hb dX3_same_75 (by decide) ?_
          refine lv_goto (tgt := 80) hx hb dX3_same_76 (by decide) ?_
          refine lv_istore (lv' := [(4, .int 1), (3, .int (nI (apo y5).length)), (2, .int (nI (apo y3).length)), (0, .ref g), (1, .int v0)]) hx hb dX3_same_80 hl (by decide) rfl (fun ls hl => ?_)
          refine lv_iconst (v := 0) hx hb dX3_same_82 (by decide) ?_
          refine lv_istore (lv' := [(5, .int 0), (4, .int 1), (3, .int (nI (apo y5).length)), (2, .int (nI (apo y3).length)), (0, .ref g), (1, .int v0)]) hx hb dX3_same_83 hl (by decide) rfl (fun ls hl => ?_)
          have hAB : (apo y3).length = (apo y5).length := (nI_eq (rw_lt hw_1o (by decide)) (rw_lt hw_2o (by decide))).mp c72_1
          have loop : ∀ (r1 : List Int32) (r2 done : List Int32) (xk : Int32) (H : Heap) (locs : List Loc) (ls : Array Slot), ((apo y3) = done ++ r1) → ((apo y5) = done ++ r2) → (xk = nI done.length) → va_P D vwCl [(g, .inr (4, [.int 0, .ref a1, .int sn, .ref a3, .int (nI y3.length), .ref a5, .int (nI y5.length), .ref a7, .ref a8, .ref a9, .int wn, .ref aB, .int tn, .int si, .int wg])), (a3, .inl (k3, 100, .inl g3)), (a5, .inl (k5, 100, .inl g5)), (a7, .inl (k7, 400, .inl u_1)), (a8, .inl (k8, 400, .inl u_2))] H → va_D A [(g, .inr (4, [.int 0, .ref a1, .int sn, .ref a3, .int (nI y3.length), .ref a5, .int (nI y5.length), .ref a7, .ref a8, .ref a9, .int wn, .ref aB, .int tn, .int si, .int wg])), (a3, .inl (k3, 100, .inl g3)), (a5, .inl (k5, 100, .inl g5)), (a7, .inl (k7, 400, .inl u_1)), (a8, .inl (k8, 400, .inl u_2))] → va_S A s.heap H locs → lv_has ls 6 [(5, .int xk), (4, .int 1), (3, .int (nI (apo y5).length)), (2, .int (nI (apo y3).length)), (0, .ref g), (1, .int v0)] → W p l e ({ frames := 3, cells := 0, slots := 0, locals := 69 }) s m ([.ref g, .int v0] : List Value).toArray below meth c H locs 0 0 (MQ below (qcI (S := (Nat → Int32) × (Nat → Int32)) D (fun r _ => r = (if v0 = 0 then 1 else if v0 = 1 then (if apo y3 = apo y5 then 1 else 0) else 0)) (fun u => [(g, .inr (4, [.int 0, .ref a1, .int sn, .ref a3, .int (nI y3.length), .ref a5, .int (nI y5.length), .ref a7, .ref a8, .ref a9, .int wn, .ref aB, .int tn, .int si, .int wg])), (a3, .inl (k3, 100, .inl g3)), (a5, .inl (k5, 100, .inl g5)), (a7, .inl (k7, 400, .inl u.1)), (a8, .inl (k8, 400, .inl u.2))]) A) ([.ref g, .int v0] : List Value).toArray s 0 0 A) (F0 m 85 ls [])  := by
            intro r1
            induction r1 with
            | nil =>
              intro r2 done xk H locs ls hA9 hB9 ek hP hD hS hl
              have hln : (apo y3).length = done.length := by rw [hA9]; simp
              have hln2 : (apo y5).length = done.length + r2.length := by rw [hB9]; simp
              obtain rfl : r2 = [] := List.eq_nil_of_length_eq_zero (by omega)
              refine lv_iload hx hb dX3_same_85 (lv_at hl 0 rfl) ?_
              refine lv_iload_n hx hb dX3_same_87 rfl (lv_at hl 3 rfl) ?_
              refine lv_icmp_ge (tgt := 126) hx hb dX3_same_88 (by decide) (fun c88_2 => ?_) (fun c88_2 => ?_)
              · skip
                refine lv_iload hx hb dX3_same_126 (lv_at hl 1 rfl) ?_
                have z : v0 = 1 := (i32_01 c6_1 c11_1).resolve_left c33_1
                exact rtIz hx hb hr (by decide) hlocks dX3_same_128 (u_1, u_2) (by rw [if_neg (by rw [z]; decide), if_pos z, if_pos (by rw [hA9, hB9])]) hP hD hS
              · skip
                exact absurd (by rw [ek, hln]; exact Int32.le_refl _) c88_2
            | cons d t ih =>
              intro r2 done xk H locs ls hA9 hB9 ek hP hD hS hl
              have hln : (apo y3).length = done.length + (t.length + 1) := by rw [hA9]; simp
              have hln2 : (apo y5).length = done.length + r2.length := by rw [hB9]; simp
              have h400 := hw_1o.1
              rcases r2 with _ | ⟨d2, r2⟩
              · simp at hln2; omega
              refine lv_iload hx hb dX3_same_85 (lv_at hl 0 rfl) ?_
              refine lv_iload_n hx hb dX3_same_87 rfl (lv_at hl 3 rfl) ?_
              refine lv_icmp_ge (tgt := 126) hx hb dX3_same_88 (by decide) (fun c88_3 => ?_) (fun c88_3 => ?_)
              · skip
                exact absurd c88_3 (by rw [ek, hln]; exact nI_ge (by omega) (by omega))
              · skip
                refine lv_iload hx hb dX3_same_91 (lv_at hl 1 rfl) ?_
                refine lv_if_eq (tgt := 126) hx hb dX3_same_93 (by decide) (fun c93_2 => ?_) (fun c93_2 => ?_)
                · exact absurd c93_2 (by decide)
                · skip
                  refine lv_aload_n hx hb dX3_same_96 rfl (lv_at hl 4 rfl) ?_
                  refine va_get (D := D) (ci := 4) (v := .ref a7) (C := RX3) (T := TX3) (N := 15) hx hb hts (by decide +kernel) hown hK hP 0 rfl rfl 7 (by decide) (hts (.fieldLink RX3 19 "CharacterRowsModel" "work" "[I") (by decide +kernel)) (fun _ h9 => h9) rfl dX3_same_97 ?_
                  refine lv_iload hx hb dX3_same_100 (lv_at hl 0 rfl) ?_
                  refine va_iald hx hb hK hP 3 2 rfl rfl (rwf_in (j := 0) hw_1o (by decide) hA9 ek rfl (by simp)) dX3_same_102 ?_
                  refine lv_topi (fun r9 hr9 => ?_)
                  replace hr9 : r9 = d := hr9.trans (rwf_v (j := 0) hw_1o (by decide) hA9 ek rfl (by simp))
                  subst r9
                  refine lv_aload_n hx hb dX3_same_103 rfl (lv_at hl 4 rfl) ?_
                  refine va_get (D := D) (ci := 4) (v := .ref a8) (C := RX3) (T := TX3) (N := 15) hx hb hts (by decide +kernel) hown hK hP 0 rfl rfl 8 (by decide) (hts (.fieldLink RX3 22 "CharacterRowsModel" "second" "[I") (by decide +kernel)) (fun _ h9 => h9) rfl dX3_same_104 ?_
                  refine lv_iload hx hb dX3_same_107 (lv_at hl 0 rfl) ?_
                  refine va_iald hx hb hK hP 4 3 rfl rfl (rwf_in (j := 0) hw_2o (by decide) hB9 ek rfl (by simp)) dX3_same_109 ?_
                  refine lv_topi (fun r9 hr9 => ?_)
                  replace hr9 : r9 = d2 := hr9.trans (rwf_v (j := 0) hw_2o (by decide) hB9 ek rfl (by simp))
                  subst r9
                  refine lv_icmp_ne (tgt := 117) hx hb dX3_same_110 (by decide) (fun c110_1 => ?_) (fun c110_1 => ?_)
                  · skip
                    refine lv_iconst (v := 0) hx hb dX3_same_117 (by decide) ?_
                    refine lv_istore (lv' := [(4, .int 0), (5, .int xk), (3, .int (nI (apo y5).length)), (2, .int (nI (apo y3).length)), (0, .ref g), (1, .int v0)]) hx hb dX3_same_118 hl (by decide) rfl (fun ls hl => ?_)
                    refine lv_iinc (v := (xk + 1)) (lv' := [(5, .int (xk + 1)), (4, .int 0), (3, .int (nI (apo y5).length)), (2, .int (nI (apo y3).length)), (0, .ref g), (1, .int v0)]) hx hb dX3_same_120 hl (k := 1) rfl rfl (by decide) rfl (fun ls hl => ?_)
                    refine lv_goto (tgt := 85) hx hb dX3_same_123 (by decide) ?_
                    refine lv_iload hx hb dX3_same_85 (lv_at hl 0 rfl) ?_
                    refine lv_iload_n hx hb dX3_same_87 rfl (lv_at hl 3 rfl) ?_
                    refine lv_icmp_ge (tgt := 126) hx hb dX3_same_88 (by decide) (fun c88_4 => ?_) (fun c88_4 => ?_)
                    · skip
                      refine lv_iload hx hb dX3_same_126 (lv_at hl 1 rfl) ?_
                      have z : v0 = 1 := (i32_01 c6_1 c11_1).resolve_left c33_1
                      exact rtIz hx hb hr (by decide) hlocks dX3_same_128 (u_1, u_2) (by rw [if_neg (by rw [z]; decide), if_pos z, if_neg (fun q => c110_1 (by rw [hA9, hB9] at q; simp at q; exact q.1))]) hP hD hS
                    · skip
                      refine lv_iload hx hb dX3_same_91 (lv_at hl 1 rfl) ?_
                      refine lv_if_eq (tgt := 126) hx hb dX3_same_93 (by decide) (fun c93_3 => ?_) (fun c93_3 => ?_)
                      · skip
                        refine lv_iload hx hb dX3_same_126 (lv_at hl 1 rfl) ?_
                        have z : v0 = 1 := (i32_01 c6_1 c11_1).resolve_left c33_1
                        exact rtIz hx hb hr (by decide) hlocks dX3_same_128 (u_1, u_2) (by rw [if_neg (by rw [z]; decide), if_pos z, if_neg (fun q => c110_1 (by rw [hA9, hB9] at q; simp at q; exact q.1))]) hP hD hS
                      · exact absurd c93_3 (by decide)
                  · skip
                    refine lv_iconst (v := 1) hx hb dX3_same_113 (by decide) ?_
                    refine lv_goto (tgt := 118) hx hb dX3_same_114 (by decide) ?_
                    refine lv_istore (lv' := [(4, .int 1), (5, .int xk), (3, .int (nI (apo y5).length)), (2, .int (nI (apo y3).length)), (0, .ref g), (1, .int v0)]) hx hb dX3_same_118 hl (by decide) rfl (fun ls hl => ?_)
                    refine lv_iinc (v := (xk + 1)) (lv' := [(5, .int (xk + 1)), (4, .int 1), (3, .int (nI (apo y5).length)), (2, .int (nI (apo y3).length)), (0, .ref g), (1, .int v0)]) hx hb dX3_same_120 hl (k := 1) rfl rfl (by decide) rfl (fun ls hl => ?_)
                    refine lv_goto (tgt := 85) hx hb dX3_same_123 (by decide) ?_
                    exact ih r2 (done ++ [d]) _ H locs ls (by rw [hA9]; simp) (by rw [hB9, c110_1]; simp) (by rw [ek, List.length_append]; exact nI_1 _) hP hD hS (lv_sub hl [0, 1, 2, 3, 4, 5] rfl)
          exact loop (apo y3) (apo y5) [] _ H locs ls rfl rfl rfl hP hD hS (lv_sub hl [0, 1, 2, 3, 4, 5] rfl)
      · skip
        refine lv_aload_n hx hb dX3_same_36 rfl (lv_at hl 1 rfl) ?_
        refine va_get (D := D) (ci := 4) (v := .ref a3) (C := RX3) (T := TX3) (N := 15) hx hb hts (by decide +kernel) hown hK hP 0 rfl rfl 3 (by decide) (hts (.fieldLink RX3 13 "CharacterRowsModel" "text" "[I") (by decide +kernel)) (fun _ h9 => h9) rfl dX3_same_37 ?_
        refine lv_aload_n hx hb dX3_same_40 rfl (lv_at hl 1 rfl) ?_
        refine va_get (D := D) (ci := 4) (v := .int (nI y3.length)) (C := RX3) (T := TX3) (N := 15) hx hb hts (by decide +kernel) hown hK hP 0 rfl rfl 4 (by decide) (hts (.fieldLink RX3 85 "CharacterRowsModel" "count" "I") (by decide +kernel)) (fun _ h9 => h9) rfl dX3_same_41 ?_
        refine lv_aload_n hx hb dX3_same_44 rfl (lv_at hl 1 rfl) ?_
        refine va_get (D := D) (ci := 4) (v := .ref a8) (C := RX3) (T := TX3) (N := 15) hx hb hts (by decide +kernel) hown hK hP 0 rfl rfl 8 (by decide) (hts (.fieldLink RX3 22 "CharacterRowsModel" "second" "[I") (by decide +kernel)) (fun _ h9 => h9) rfl dX3_same_45 ?_
        refine clI (wr := [(g, .inr (4, [.int 0, .ref a1, .int sn, .ref a3, .int (nI y3.length), .ref a5, .int (nI y5.length), .ref a7, .ref a8, .ref a9, .int wn, .ref aB, .int tn, .int si, .int wg])), (a5, .inl (k5, 100, .inl g5)), (a7, .inl (k7, 400, .inl u_1))]) (va_runS ⟨hx, hb, hml, hown, hts⟩ (KX3_apart l D a3 a8 k3 k8 100 (by decide) g3 g8 y3 p3 h3 _) (va_cwS 3 hts gX3_same_X3_apart rfl rfl rfl (by decide +kernel) ⟨Nat.le_of_ble_eq_true rfl, Nat.le_of_ble_eq_true rfl⟩) (pcM_S (hP.sub (ws' := [(a3, .inl (k3, 100, .inl g3)), (a8, .inl (k8, 400, .inl g8))]) [1, 4] rfl) (hD.sub (ws' := [(a3, .inl (k3, 100, .inl g3)), (a8, .inl (k8, 400, .inl g8))]) [1, 4] (by decide) rfl) (hK.sub (tys' := [(k3, .int), (k8, .int)]) [0, 3] rfl) hN) rfl rfl hl.1 rfl (lv_room (Nat.le_of_ble_eq_true rfl)) dX3_same_48 ⟨Nat.zero_le _, Nat.zero_le _⟩) hP hD hS hA [1, 4] [0, 2, 3] rfl rfl (by decide) (by decide) (fun r_3 u_3 H locs hw_3 hP hD hS => ?_)
        obtain ⟨hw_3r, hw_3o⟩ := hw_3
        subst hw_3r
        have hP : va_P D vwCl [(g, .inr (4, [.int 0, .ref a1, .int sn, .ref a3, .int (nI y3.length), .ref a5, .int (nI y5.length), .ref a7, .ref a8, .ref a9, .int wn, .ref aB, .int tn, .int si, .int wg])), (a3, .inl (k3, 100, .inl g3)), (a5, .inl (k5, 100, .inl g5)), (a7, .inl (k7, 400, .inl u_1)), (a8, .inl (k8, 400, .inl u_3))] H := hP.sub [0, 3, 1, 2, 4] rfl
        have hD : va_D A [(g, .inr (4, [.int 0, .ref a1, .int sn, .ref a3, .int (nI y3.length), .ref a5, .int (nI y5.length), .ref a7, .ref a8, .ref a9, .int wn, .ref aB, .int tn, .int si, .int wg])), (a3, .inl (k3, 100, .inl g3)), (a5, .inl (k5, 100, .inl g5)), (a7, .inl (k7, 400, .inl u_1)), (a8, .inl (k8, 400, .inl u_3))] := hD.sub [0, 3, 1, 2, 4] (by decide) rfl
        refine lv_goto (tgt := 69) hx hb dX3_same_51 (by decide) ?_
        refine lv_istore_n (lv' := [(3, .int (nI (apo y3).length)), (2, .int (nI (apo y3).length)), (0, .ref g), (1, .int v0)]) hx hb dX3_same_69 rfl hl (by decide) rfl (fun ls hl => ?_)
        refine lv_iload_n hx hb dX3_same_70 rfl (lv_at hl 1 rfl) ?_
        refine lv_iload_n hx hb dX3_same_71 rfl (lv_at hl 0 rfl) ?_
        refine lv_icmp_ne (tgt := 79) hx hb dX3_same_72 (by decide) (fun c72_2 => ?_) (fun c72_2 => ?_)
        · skip
          refine lv_iconst (v := 0) hx hb dX3_same_79 (by decide) ?_
          refine lv_istore (lv' := [(4, .int 0), (3, .int (nI (apo y3).length)), (2, .int (nI (apo y3).length)), (0, .ref g), (1, .int v0)]) hx hb dX3_same_80 hl (by decide) rfl (fun ls hl => ?_)
          refine lv_iconst (v := 0) hx hb dX3_same_82 (by decide) ?_
          refine lv_istore (lv' := [(5, .int 0), (4, .int 0), (3, .int (nI (apo y3).length)), (2, .int (nI (apo y3).length)), (0, .ref g), (1, .int v0)]) hx hb dX3_same_83 hl (by decide) rfl (fun ls hl => ?_)
          refine lv_iload hx hb dX3_same_85 (lv_at hl 0 rfl) ?_
          refine lv_iload_n hx hb dX3_same_87 rfl (lv_at hl 3 rfl) ?_
          refine lv_icmp_ge (tgt := 126) hx hb dX3_same_88 (by decide) (fun c88_5 => ?_) (fun c88_5 => ?_)
          · skip
            refine lv_iload hx hb dX3_same_126 (lv_at hl 1 rfl) ?_
            have z : v0 = 0 := c33_1
            exact rtIz hx hb hr (by decide) hlocks dX3_same_128 (u_1, u_3) (absurd rfl c72_2) hP hD hS
          · skip
            refine lv_iload hx hb dX3_same_91 (lv_at hl 1 rfl) ?_
            refine lv_if_eq (tgt := 126) hx hb dX3_same_93 (by decide) (fun c93_4 => ?_) (fun c93_4 => ?_)
            · skip
              refine lv_iload hx hb dX3_same_126 (lv_at hl 1 rfl) ?_
              have z : v0 = 0 := c33_1
              exact rtIz hx hb hr (by decide) hlocks dX3_same_128 (u_1, u_3) (absurd rfl c72_2) hP hD hS
            · exact absurd c93_4 (by decide)
        · skip
          refine lv_iconst (v := 1) hx hb dX3_same_75 (by decide) ?_
          refine lv_goto (tgt := 80) hx hb dX3_same_76 (by decide) ?_
          refine lv_istore (lv' := [(4, .int 1), (3, .int (nI (apo y3).length)), (2, .int (nI (apo y3).length)), (0, .ref g), (1, .int v0)]) hx hb dX3_same_80 hl (by decide) rfl (fun ls hl => ?_)
          refine lv_iconst (v := 0) hx hb dX3_same_82 (by decide) ?_
          refine lv_istore (lv' := [(5, .int 0), (4, .int 1), (3, .int (nI (apo y3).length)), (2, .int (nI (apo y3).length)), (0, .ref g), (1, .int v0)]) hx hb dX3_same_83 hl (by decide) rfl (fun ls hl => ?_)
          have hAB : (apo y3).length = (apo y3).length := (nI_eq (rw_lt hw_1o (by decide)) (rw_lt hw_3o (by decide))).mp c72_2
          have loop : ∀ (r1 : List Int32) (r2 done : List Int32) (xk : Int32) (H : Heap) (locs : List Loc) (ls : Array Slot), ((apo y3) = done ++ r1) → ((apo y3) = done ++ r2) → (xk = nI done.length) → va_P D vwCl [(g, .inr (4, [.int 0, .ref a1, .int sn, .ref a3, .int (nI y3.length), .ref a5, .int (nI y5.length), .ref a7, .ref a8, .ref a9, .int wn, .ref aB, .int tn, .int si, .int wg])), (a3, .inl (k3, 100, .inl g3)), (a5, .inl (k5, 100, .inl g5)), (a7, .inl (k7, 400, .inl u_1)), (a8, .inl (k8, 400, .inl u_3))] H → va_D A [(g, .inr (4, [.int 0, .ref a1, .int sn, .ref a3, .int (nI y3.length), .ref a5, .int (nI y5.length), .ref a7, .ref a8, .ref a9, .int wn, .ref aB, .int tn, .int si, .int wg])), (a3, .inl (k3, 100, .inl g3)), (a5, .inl (k5, 100, .inl g5)), (a7, .inl (k7, 400, .inl u_1)), (a8, .inl (k8, 400, .inl u_3))] → va_S A s.heap H locs → lv_has ls 6 [(5, .int xk), (4, .int 1), (3, .int (nI (apo y3).length)), (2, .int (nI (apo y3).length)), (0, .ref g), (1, .int v0)] → W p l e ({ frames := 3, cells := 0, slots := 0, locals := 69 }) s m ([.ref g, .int v0] : List Value).toArray below meth c H locs 0 0 (MQ below (qcI (S := (Nat → Int32) × (Nat → Int32)) D (fun r _ => r = (if v0 = 0 then 1 else if v0 = 1 then (if apo y3 = apo y5 then 1 else 0) else 0)) (fun u => [(g, .inr (4, [.int 0, .ref a1, .int sn, .ref a3, .int (nI y3.length), .ref a5, .int (nI y5.length), .ref a7, .ref a8, .ref a9, .int wn, .ref aB, .int tn, .int si, .int wg])), (a3, .inl (k3, 100, .inl g3)), (a5, .inl (k5, 100, .inl g5)), (a7, .inl (k7, 400, .inl u.1)), (a8, .inl (k8, 400, .inl u.2))]) A) ([.ref g, .int v0] : List Value).toArray s 0 0 A) (F0 m 85 ls [])  := by
            intro r1
            induction r1 with
            | nil =>
              intro r2 done xk H locs ls hA9 hB9 ek hP hD hS hl
              have hln : (apo y3).length = done.length := by rw [hA9]; simp
              have hln2 : (apo y3).length = done.length + r2.length := by rw [hB9]; simp
              obtain rfl : r2 = [] := List.eq_nil_of_length_eq_zero (by omega)
              refine lv_iload hx hb dX3_same_85 (lv_at hl 0 rfl) ?_
              refine lv_iload_n hx hb dX3_same_87 rfl (lv_at hl 3 rfl) ?_
              refine lv_icmp_ge (tgt := 126) hx hb dX3_same_88 (by decide) (fun c88_6 => ?_) (fun c88_6 => ?_)
              · skip
                refine lv_iload hx hb dX3_same_126 (lv_at hl 1 rfl) ?_
                have z : v0 = 0 := c33_1
                exact rtIz hx hb hr (by decide) hlocks dX3_same_128 (u_1, u_3) (by rw [if_pos z]) hP hD hS
              · skip
                exact absurd (by rw [ek, hln]; exact Int32.le_refl _) c88_6
            | cons d t ih =>
              intro r2 done xk H locs ls hA9 hB9 ek hP hD hS hl
              have hln : (apo y3).length = done.length + (t.length + 1) := by rw [hA9]; simp
              have hln2 : (apo y3).length = done.length + r2.length := by rw [hB9]; simp
              have h400 := hw_1o.1
              rcases r2 with _ | ⟨d2, r2⟩
              · simp at hln2; omega
              refine lv_iload hx hb dX3_same_85 (lv_at hl 0 rfl) ?_
              refine lv_iload_n hx hb dX3_same_87 rfl (lv_at hl 3 rfl) ?_
              refine lv_icmp_ge (tgt := 126) hx hb dX3_same_88 (by decide) (fun c88_7 => ?_) (fun c88_7 => ?_)
              · skip
                exact absurd c88_7 (by rw [ek, hln]; exact nI_ge (by omega) (by omega))
              · skip
                refine lv_iload hx hb dX3_same_91 (lv_at hl 1 rfl) ?_
                refine lv_if_eq (tgt := 126) hx hb dX3_same_93 (by decide) (fun c93_5 => ?_) (fun c93_5 => ?_)
                · exact absurd c93_5 (by decide)
                · skip
                  refine lv_aload_n hx hb dX3_same_96 rfl (lv_at hl 4 rfl) ?_
                  refine va_get (D := D) (ci := 4) (v := .ref a7) (C := RX3) (T := TX3) (N := 15) hx hb hts (by decide +kernel) hown hK hP 0 rfl rfl 7 (by decide) (hts (.fieldLink RX3 19 "CharacterRowsModel" "work" "[I") (by decide +kernel)) (fun _ h9 => h9) rfl dX3_same_97 ?_
                  refine lv_iload hx hb dX3_same_100 (lv_at hl 0 rfl) ?_
                  refine va_iald hx hb hK hP 3 2 rfl rfl (rwf_in (j := 0) hw_1o (by decide) hA9 ek rfl (by simp)) dX3_same_102 ?_
                  refine lv_topi (fun r9 hr9 => ?_)
                  replace hr9 : r9 = d := hr9.trans (rwf_v (j := 0) hw_1o (by decide) hA9 ek rfl (by simp))
                  subst r9
                  refine lv_aload_n hx hb dX3_same_103 rfl (lv_at hl 4 rfl) ?_
                  refine va_get (D := D) (ci := 4) (v := .ref a8) (C := RX3) (T := TX3) (N := 15) hx hb hts (by decide +kernel) hown hK hP 0 rfl rfl 8 (by decide) (hts (.fieldLink RX3 22 "CharacterRowsModel" "second" "[I") (by decide +kernel)) (fun _ h9 => h9) rfl dX3_same_104 ?_
                  refine lv_iload hx hb dX3_same_107 (lv_at hl 0 rfl) ?_
                  refine va_iald hx hb hK hP 4 3 rfl rfl (rwf_in (j := 0) hw_3o (by decide) hB9 ek rfl (by simp)) dX3_same_109 ?_
                  refine lv_topi (fun r9 hr9 => ?_)
                  replace hr9 : r9 = d2 := hr9.trans (rwf_v (j := 0) hw_3o (by decide) hB9 ek rfl (by simp))
                  subst r9
                  refine lv_icmp_ne (tgt := 117) hx hb dX3_same_110 (by decide) (fun c110_2 => ?_) (fun c110_2 => ?_)
                  · skip
                    refine lv_iconst (v := 0) hx hb dX3_same_117 (by decide) ?_
                    refine lv_istore (lv' := [(4, .int 0), (5, .int xk), (3, .int (nI (apo y3).length)), (2, .int (nI (apo y3).length)), (0, .ref g), (1, .int v0)]) hx hb dX3_same_118 hl (by decide) rfl (fun ls hl => ?_)
                    refine lv_iinc (v := (xk + 1)) (lv' := [(5, .int (xk + 1)), (4, .int 0), (3, .int (nI (apo y3).length)), (2, .int (nI (apo y3).length)), (0, .ref g), (1, .int v0)]) hx hb dX3_same_120 hl (k := 1) rfl rfl (by decide) rfl (fun ls hl => ?_)
                    refine lv_goto (tgt := 85) hx hb dX3_same_123 (by decide) ?_
                    refine lv_iload hx hb dX3_same_85 (lv_at hl 0 rfl) ?_
                    refine lv_iload_n hx hb dX3_same_87 rfl (lv_at hl 3 rfl) ?_
                    refine lv_icmp_ge (tgt := 126) hx hb dX3_same_88 (by decide) (fun c88_8 => ?_) (fun c88_8 => ?_)
                    · skip
                      refine lv_iload hx hb dX3_same_126 (lv_at hl 1 rfl) ?_
                      have z : v0 = 0 := c33_1
                      exact rtIz hx hb hr (by decide) hlocks dX3_same_128 (u_1, u_3) (by rw [hB9] at hA9; simp at hA9; exact absurd hA9.1.symm c110_2) hP hD hS
                    · skip
                      refine lv_iload hx hb dX3_same_91 (lv_at hl 1 rfl) ?_
                      refine lv_if_eq (tgt := 126) hx hb dX3_same_93 (by decide) (fun c93_6 => ?_) (fun c93_6 => ?_)
                      · skip
                        refine lv_iload hx hb dX3_same_126 (lv_at hl 1 rfl) ?_
                        have z : v0 = 0 := c33_1
                        exact rtIz hx hb hr (by decide) hlocks dX3_same_128 (u_1, u_3) (by rw [hB9] at hA9; simp at hA9; exact absurd hA9.1.symm c110_2) hP hD hS
                      · exact absurd c93_6 (by decide)
                  · skip
                    refine lv_iconst (v := 1) hx hb dX3_same_113 (by decide) ?_
                    refine lv_goto (tgt := 118) hx hb dX3_same_114 (by decide) ?_
                    refine lv_istore (lv' := [(4, .int 1), (5, .int xk), (3, .int (nI (apo y3).length)), (2, .int (nI (apo y3).length)), (0, .ref g), (1, .int v0)]) hx hb dX3_same_118 hl (by decide) rfl (fun ls hl => ?_)
                    refine lv_iinc (v := (xk + 1)) (lv' := [(5, .int (xk + 1)), (4, .int 1), (3, .int (nI (apo y3).length)), (2, .int (nI (apo y3).length)), (0, .ref g), (1, .int v0)]) hx hb dX3_same_120 hl (k := 1) rfl rfl (by decide) rfl (fun ls hl => ?_)
                    refine lv_goto (tgt := 85) hx hb dX3_same_123 (by decide) ?_
                    exact ih r2 (done ++ [d]) _ H locs ls (by rw [hA9]; simp) (by rw [hB9, c110_2]; simp) (by rw [ek, List.length_append]; exact nI_1 _) hP hD hS (lv_sub hl [0, 1, 2, 3, 4, 5] rfl)
          exact loop (apo y3) (apo y3) [] _ H locs ls rfl rfl rfl hP hD hS (lv_sub hl [0, 1, 2, 3, 4, 5] rfl)
    · skip
      refine lv_iconst (v := 0) hx hb dX3_same_14 (by decide) ?_
      have z := i32_o (v := v0) (Or.inr c11_1)
      exact rtIz hx hb hr (by decide) hlocks dX3_same_15 (g7, g8) (by rw [if_neg z.1, if_neg z.2]) hP hD hS
