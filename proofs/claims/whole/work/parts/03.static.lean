/-! the static ones of the class and of the reference: what each answers, by its tree -/
def fX2_isPlain (a0 : Int32) : Int32 := (if a0 < 32 then 0 else (if 126 < a0 then 0 else 1))
set_option maxHeartbeats 4000000 in
set_option maxRecDepth 100000 in
theorem KX2_isPlain (l : Launch) (a0 : Int32) : Met l yX2_isPlain wsX2_isPlain ({ frames := 0, cells := 0, slots := 0, locals := 0 }) (pcS [.int a0]) (vp_Si (fun r => r = fX2_isPlain a0)) 0 0 (fun _ => False) := by
  refine ofS (cc := cX2_isPlain) (maxL := 1) (ret := (some .boolean)) (by decide) rfl (Nat.le_of_ble_eq_true rfl) ?_
  intro p e s m below meth c ls hx hb hr hml hown hts hlocks hl
  have hl : lv_has ls 1 [(0, .int a0)] := hl
  refine lv_iload_n hx hb dX2_isPlain_0 rfl (lv_at hl 0 rfl) ?_
  refine lv_bipush (v := 32) hx hb dX2_isPlain_1 (by decide) ?_
  refine lv_icmp_lt (tgt := 16) hx hb dX2_isPlain_3 (by decide) (fun c3_1 => ?_) (fun c3_1 => ?_)
  · skip
    refine lv_iconst (v := 0) hx hb dX2_isPlain_16 (by decide) ?_
    exact rtRz hx hb hr (by decide) hlocks dX2_isPlain_17 (by unfold fX2_isPlain; rw [if_pos c3_1])
  · skip
    refine lv_iload_n hx hb dX2_isPlain_6 rfl (lv_at hl 0 rfl) ?_
    refine lv_bipush (v := 126) hx hb dX2_isPlain_7 (by decide) ?_
    refine lv_icmp_gt (tgt := 16) hx hb dX2_isPlain_9 (by decide) (fun c9_1 => ?_) (fun c9_1 => ?_)
    · skip
      refine lv_iconst (v := 0) hx hb dX2_isPlain_16 (by decide) ?_
      exact rtRz hx hb hr (by decide) hlocks dX2_isPlain_17 (by unfold fX2_isPlain; rw [if_neg c3_1, if_pos c9_1])
    · skip
      refine lv_iconst (v := 1) hx hb dX2_isPlain_12 (by decide) ?_
      refine lv_goto (tgt := 17) hx hb dX2_isPlain_13 (by decide) ?_
      exact rtRz hx hb hr (by decide) hlocks dX2_isPlain_17 (by unfold fX2_isPlain; rw [if_neg c3_1, if_neg c9_1])
def fX2_isCapital (a0 : Int32) : Int32 := (if a0 < 65 then 0 else (if 90 < a0 then 0 else 1))
set_option maxHeartbeats 4000000 in
set_option maxRecDepth 100000 in
theorem KX2_isCapital (l : Launch) (a0 : Int32) : Met l yX2_isCapital wsX2_isCapital ({ frames := 0, cells := 0, slots := 0, locals := 0 }) (pcS [.int a0]) (vp_Si (fun r => r = fX2_isCapital a0)) 0 0 (fun _ => False) := by
  refine ofS (cc := cX2_isCapital) (maxL := 1) (ret := (some .boolean)) (by decide) rfl (Nat.le_of_ble_eq_true rfl) ?_
  intro p e s m below meth c ls hx hb hr hml hown hts hlocks hl
  have hl : lv_has ls 1 [(0, .int a0)] := hl
  refine lv_iload_n hx hb dX2_isCapital_0 rfl (lv_at hl 0 rfl) ?_
  refine lv_bipush (v := 65) hx hb dX2_isCapital_1 (by decide) ?_
  refine lv_icmp_lt (tgt := 16) hx hb dX2_isCapital_3 (by decide) (fun c3_1 => ?_) (fun c3_1 => ?_)
  · skip
    refine lv_iconst (v := 0) hx hb dX2_isCapital_16 (by decide) ?_
    exact rtRz hx hb hr (by decide) hlocks dX2_isCapital_17 (by unfold fX2_isCapital; rw [if_pos c3_1])
  · skip
    refine lv_iload_n hx hb dX2_isCapital_6 rfl (lv_at hl 0 rfl) ?_
    refine lv_bipush (v := 90) hx hb dX2_isCapital_7 (by decide) ?_
    refine lv_icmp_gt (tgt := 16) hx hb dX2_isCapital_9 (by decide) (fun c9_1 => ?_) (fun c9_1 => ?_)
    · skip
      refine lv_iconst (v := 0) hx hb dX2_isCapital_16 (by decide) ?_
      exact rtRz hx hb hr (by decide) hlocks dX2_isCapital_17 (by unfold fX2_isCapital; rw [if_neg c3_1, if_pos c9_1])
    · skip
      refine lv_iconst (v := 1) hx hb dX2_isCapital_12 (by decide) ?_
      refine lv_goto (tgt := 17) hx hb dX2_isCapital_13 (by decide) ?_
      exact rtRz hx hb hr (by decide) hlocks dX2_isCapital_17 (by unfold fX2_isCapital; rw [if_neg c3_1, if_neg c9_1])
def fX2_isLetter (a0 : Int32) : Int32 := (if (fX2_isCapital a0) = 0 then (if a0 < 97 then 0 else (if 122 < a0 then 0 else 1)) else 1)
set_option maxHeartbeats 4000000 in
set_option maxRecDepth 100000 in
theorem KX2_isLetter (l : Launch) (a0 : Int32) : Met l yX2_isLetter wsX2_isLetter ({ frames := 1, cells := 0, slots := 0, locals := 20 }) (pcS [.int a0]) (vp_Si (fun r => r = fX2_isLetter a0)) 0 0 (fun _ => False) := by
  refine ofS (cc := cX2_isLetter) (maxL := 1) (ret := (some .boolean)) (by decide) rfl (Nat.le_of_ble_eq_true rfl) ?_
  intro p e s m below meth c ls hx hb hr hml hown hts hlocks hl
  have hl : lv_has ls 1 [(0, .int a0)] := hl
  refine lv_iload_n hx hb dX2_isLetter_0 rfl (lv_at hl 0 rfl) ?_
  refine vp_callSi (W.runS ⟨hx, hb, hml, hown, hts⟩ (KX2_isCapital l a0) (va_cwS 1 hts gX2_isLetter_X2_isCapital rfl rfl rfl (by decide +kernel) ⟨Nat.le_of_ble_eq_true rfl, Nat.le_of_ble_eq_true rfl⟩) pcS_S rfl rfl hl.1 rfl (lv_room (Nat.le_of_ble_eq_true rfl)) dX2_isLetter_1 ⟨Nat.zero_le _, Nat.zero_le _⟩) (fun r9 hr9 => ?_)
  subst r9
  refine lv_if_ne (tgt := 19) hx hb dX2_isLetter_4 (by decide) (fun c4_1 => ?_) (fun c4_1 => ?_)
  · skip
    refine lv_iconst (v := 1) hx hb dX2_isLetter_19 (by decide) ?_
    refine lv_goto (tgt := 24) hx hb dX2_isLetter_20 (by decide) ?_
    exact rtRz hx hb hr (by decide) hlocks dX2_isLetter_24 (by unfold fX2_isLetter; rw [if_neg c4_1])
  · skip
    refine lv_iload_n hx hb dX2_isLetter_7 rfl (lv_at hl 0 rfl) ?_
    refine lv_bipush (v := 97) hx hb dX2_isLetter_8 (by decide) ?_
    refine lv_icmp_lt (tgt := 23) hx hb dX2_isLetter_10 (by decide) (fun c10_1 => ?_) (fun c10_1 => ?_)
    · skip
      refine lv_iconst (v := 0) hx hb dX2_isLetter_23 (by decide) ?_
      exact rtRz hx hb hr (by decide) hlocks dX2_isLetter_24 (by unfold fX2_isLetter; rw [if_pos c4_1, if_pos c10_1])
    · skip
      refine lv_iload_n hx hb dX2_isLetter_13 rfl (lv_at hl 0 rfl) ?_
      refine lv_bipush (v := 122) hx hb dX2_isLetter_14 (by decide) ?_
      refine lv_icmp_gt (tgt := 23) hx hb dX2_isLetter_16 (by decide) (fun c16_1 => ?_) (fun c16_1 => ?_)
      · skip
        refine lv_iconst (v := 0) hx hb dX2_isLetter_23 (by decide) ?_
        exact rtRz hx hb hr (by decide) hlocks dX2_isLetter_24 (by unfold fX2_isLetter; rw [if_pos c4_1, if_neg c10_1, if_pos c16_1])
      · skip
        refine lv_iconst (v := 1) hx hb dX2_isLetter_19 (by decide) ?_
        refine lv_goto (tgt := 24) hx hb dX2_isLetter_20 (by decide) ?_
        exact rtRz hx hb hr (by decide) hlocks dX2_isLetter_24 (by unfold fX2_isLetter; rw [if_pos c4_1, if_neg c10_1, if_neg c16_1])
def fX2_isMark (a0 : Int32) : Int32 := (if a0 < 768 then 0 else (if 783 ≤ a0 then 0 else 1))
set_option maxHeartbeats 4000000 in
set_option maxRecDepth 100000 in
theorem KX2_isMark (l : Launch) (a0 : Int32) : Met l yX2_isMark wsX2_isMark ({ frames := 0, cells := 0, slots := 0, locals := 0 }) (pcS [.int a0]) (vp_Si (fun r => r = fX2_isMark a0)) 0 0 (fun _ => False) := by
  refine ofS (cc := cX2_isMark) (maxL := 1) (ret := (some .boolean)) (by decide) rfl (Nat.le_of_ble_eq_true rfl) ?_
  intro p e s m below meth c ls hx hb hr hml hown hts hlocks hl
  have hl : lv_has ls 1 [(0, .int a0)] := hl
  refine lv_iload_n hx hb dX2_isMark_0 rfl (lv_at hl 0 rfl) ?_
  refine lv_sipush (v := 768) hx hb dX2_isMark_1 (by decide) ?_
  refine lv_icmp_lt (tgt := 18) hx hb dX2_isMark_4 (by decide) (fun c4_1 => ?_) (fun c4_1 => ?_)
  · skip
    refine lv_iconst (v := 0) hx hb dX2_isMark_18 (by decide) ?_
    exact rtRz hx hb hr (by decide) hlocks dX2_isMark_19 (by unfold fX2_isMark; rw [if_pos c4_1])
  · skip
    refine lv_iload_n hx hb dX2_isMark_7 rfl (lv_at hl 0 rfl) ?_
    refine lv_sipush (v := 783) hx hb dX2_isMark_8 (by decide) ?_
    refine lv_icmp_ge (tgt := 18) hx hb dX2_isMark_11 (by decide) (fun c11_1 => ?_) (fun c11_1 => ?_)
    · skip
      refine lv_iconst (v := 0) hx hb dX2_isMark_18 (by decide) ?_
      exact rtRz hx hb hr (by decide) hlocks dX2_isMark_19 (by unfold fX2_isMark; rw [if_neg c4_1, if_pos c11_1])
    · skip
      refine lv_iconst (v := 1) hx hb dX2_isMark_14 (by decide) ?_
      refine lv_goto (tgt := 19) hx hb dX2_isMark_15 (by decide) ?_
      exact rtRz hx hb hr (by decide) hlocks dX2_isMark_19 (by unfold fX2_isMark; rw [if_neg c4_1, if_neg c11_1])
def fX2_rankOf (a0 : Int32) : Int32 := ((a0 - 768) / 5)
set_option maxHeartbeats 4000000 in
set_option maxRecDepth 100000 in
theorem KX2_rankOf (l : Launch) (a0 : Int32) : Met l yX2_rankOf wsX2_rankOf ({ frames := 0, cells := 0, slots := 0, locals := 0 }) (pcS [.int a0]) (vp_Si (fun r => r = fX2_rankOf a0)) 0 0 (fun _ => False) := by
  refine ofS (cc := cX2_rankOf) (maxL := 1) (ret := (some .int)) (by decide) rfl (Nat.le_of_ble_eq_true rfl) ?_
  intro p e s m below meth c ls hx hb hr hml hown hts hlocks hl
  have hl : lv_has ls 1 [(0, .int a0)] := hl
  refine lv_iload_n hx hb dX2_rankOf_0 rfl (lv_at hl 0 rfl) ?_
  refine lv_sipush (v := 768) hx hb dX2_rankOf_1 (by decide) ?_
  refine lv_isub hx hb dX2_rankOf_4 ?_
  refine lv_iconst (v := 5) hx hb dX2_rankOf_5 (by decide) ?_
  refine lv_idiv hx hb dX2_rankOf_6 (by decide) ?_
  exact rtR hx hb hr hlocks dX2_rankOf_7 (by rfl)
def fX2_letterOf (a0 : Int32) : Int32 := (((a0 - 57344) - (a0 - 57344) / 64 * 64) + 64)
set_option maxHeartbeats 4000000 in
set_option maxRecDepth 100000 in
theorem KX2_letterOf (l : Launch) (a0 : Int32) : Met l yX2_letterOf wsX2_letterOf ({ frames := 0, cells := 0, slots := 0, locals := 0 }) (pcS [.int a0]) (vp_Si (fun r => r = fX2_letterOf a0)) 0 0 (fun _ => False) := by
  refine ofS (cc := cX2_letterOf) (maxL := 1) (ret := (some .int)) (by decide) rfl (Nat.le_of_ble_eq_true rfl) ?_
  intro p e s m below meth c ls hx hb hr hml hown hts hlocks hl
  have hl : lv_has ls 1 [(0, .int a0)] := hl
  refine lv_iload_n hx hb dX2_letterOf_0 rfl (lv_at hl 0 rfl) ?_
  refine lv_ldc (v := 57344) hx hb hown (hts (.constant RX2 166 57344) (by decide +kernel)) dX2_letterOf_1 ?_
  refine lv_isub hx hb dX2_letterOf_3 ?_
  refine lv_bipush (v := 64) hx hb dX2_letterOf_4 (by decide) ?_
  refine lv_irem hx hb dX2_letterOf_6 (by decide) ?_
  refine lv_bipush (v := 64) hx hb dX2_letterOf_7 (by decide) ?_
  refine lv_iadd hx hb dX2_letterOf_9 ?_
  exact rtR hx hb hr hlocks dX2_letterOf_10 (by rfl)
def fX2_markOf (a0 : Int32) : Int32 := (((a0 - 57344) / 64) + 768)
set_option maxHeartbeats 4000000 in
set_option maxRecDepth 100000 in
theorem KX2_markOf (l : Launch) (a0 : Int32) : Met l yX2_markOf wsX2_markOf ({ frames := 0, cells := 0, slots := 0, locals := 0 }) (pcS [.int a0]) (vp_Si (fun r => r = fX2_markOf a0)) 0 0 (fun _ => False) := by
  refine ofS (cc := cX2_markOf) (maxL := 1) (ret := (some .int)) (by decide) rfl (Nat.le_of_ble_eq_true rfl) ?_
  intro p e s m below meth c ls hx hb hr hml hown hts hlocks hl
  have hl : lv_has ls 1 [(0, .int a0)] := hl
  refine lv_iload_n hx hb dX2_markOf_0 rfl (lv_at hl 0 rfl) ?_
  refine lv_ldc (v := 57344) hx hb hown (hts (.constant RX2 166 57344) (by decide +kernel)) dX2_markOf_1 ?_
  refine lv_isub hx hb dX2_markOf_3 ?_
  refine lv_bipush (v := 64) hx hb dX2_markOf_4 (by decide) ?_
  refine lv_idiv hx hb dX2_markOf_6 (by decide) ?_
  refine lv_sipush (v := 768) hx hb dX2_markOf_7 (by decide) ?_
  refine lv_iadd hx hb dX2_markOf_10 ?_
  exact rtR hx hb hr hlocks dX2_markOf_11 (by rfl)
def fX2_composedOf (a0 a1 : Int32) : Int32 := (((57344 + (64 * (a1 - 768))) + a0) - 64)
set_option maxHeartbeats 4000000 in
set_option maxRecDepth 100000 in
theorem KX2_composedOf (l : Launch) (a0 a1 : Int32) : Met l yX2_composedOf wsX2_composedOf ({ frames := 0, cells := 0, slots := 0, locals := 0 }) (pcS [.int a0, .int a1]) (vp_Si (fun r => r = fX2_composedOf a0 a1)) 0 0 (fun _ => False) := by
  refine ofS (cc := cX2_composedOf) (maxL := 2) (ret := (some .int)) (by decide) rfl (Nat.le_of_ble_eq_true rfl) ?_
  intro p e s m below meth c ls hx hb hr hml hown hts hlocks hl
  have hl : lv_has ls 2 [(0, .int a0), (1, .int a1)] := hl
  refine lv_ldc (v := 57344) hx hb hown (hts (.constant RX2 166 57344) (by decide +kernel)) dX2_composedOf_0 ?_
  refine lv_bipush (v := 64) hx hb dX2_composedOf_2 (by decide) ?_
  refine lv_iload_n hx hb dX2_composedOf_4 rfl (lv_at hl 1 rfl) ?_
  refine lv_sipush (v := 768) hx hb dX2_composedOf_5 (by decide) ?_
  refine lv_isub hx hb dX2_composedOf_8 ?_
  refine lv_imul hx hb dX2_composedOf_9 ?_
  refine lv_iadd hx hb dX2_composedOf_10 ?_
  refine lv_iload_n hx hb dX2_composedOf_11 rfl (lv_at hl 0 rfl) ?_
  refine lv_iadd hx hb dX2_composedOf_12 ?_
  refine lv_bipush (v := 64) hx hb dX2_composedOf_13 (by decide) ?_
  refine lv_isub hx hb dX2_composedOf_15 ?_
  exact rtR hx hb hr hlocks dX2_composedOf_16 (by rfl)
def fX2_isComposed (a0 : Int32) : Int32 := (if a0 < 57344 then 0 else (if 58304 ≤ a0 then 0 else (if (fX2_isLetter (fX2_letterOf a0)) = 0 then 0 else 1)))
set_option maxHeartbeats 4000000 in
set_option maxRecDepth 100000 in
theorem KX2_isComposed (l : Launch) (a0 : Int32) : Met l yX2_isComposed wsX2_isComposed ({ frames := 2, cells := 0, slots := 0, locals := 40 }) (pcS [.int a0]) (vp_Si (fun r => r = fX2_isComposed a0)) 0 0 (fun _ => False) := by
  refine ofS (cc := cX2_isComposed) (maxL := 1) (ret := (some .boolean)) (by decide) rfl (Nat.le_of_ble_eq_true rfl) ?_
  intro p e s m below meth c ls hx hb hr hml hown hts hlocks hl
  have hl : lv_has ls 1 [(0, .int a0)] := hl
  refine lv_iload_n hx hb dX2_isComposed_0 rfl (lv_at hl 0 rfl) ?_
  refine lv_ldc (v := 57344) hx hb hown (hts (.constant RX2 166 57344) (by decide +kernel)) dX2_isComposed_1 ?_
  refine lv_icmp_lt (tgt := 26) hx hb dX2_isComposed_3 (by decide) (fun c3_1 => ?_) (fun c3_1 => ?_)
  · skip
    refine lv_iconst (v := 0) hx hb dX2_isComposed_26 (by decide) ?_
    exact rtRz hx hb hr (by decide) hlocks dX2_isComposed_27 (by unfold fX2_isComposed; rw [if_pos c3_1])
  · skip
    refine lv_iload_n hx hb dX2_isComposed_6 rfl (lv_at hl 0 rfl) ?_
    refine lv_ldc (v := 58304) hx hb hown (hts (.constant RX2 167 58304) (by decide +kernel)) dX2_isComposed_7 ?_
    refine lv_icmp_ge (tgt := 26) hx hb dX2_isComposed_9 (by decide) (fun c9_1 => ?_) (fun c9_1 => ?_)
    · skip
      refine lv_iconst (v := 0) hx hb dX2_isComposed_26 (by decide) ?_
      exact rtRz hx hb hr (by decide) hlocks dX2_isComposed_27 (by unfold fX2_isComposed; rw [if_neg c3_1, if_pos c9_1])
    · skip
      refine lv_iload_n hx hb dX2_isComposed_12 rfl (lv_at hl 0 rfl) ?_
      refine vp_callSi (W.runS ⟨hx, hb, hml, hown, hts⟩ (KX2_letterOf l a0) (va_cwS 1 hts gX2_isComposed_X2_letterOf rfl rfl rfl (by decide +kernel) ⟨Nat.le_of_ble_eq_true rfl, Nat.le_of_ble_eq_true rfl⟩) pcS_S rfl rfl hl.1 rfl (lv_room (Nat.le_of_ble_eq_true rfl)) dX2_isComposed_13 ⟨Nat.zero_le _, Nat.zero_le _⟩) (fun r9 hr9 => ?_)
      subst r9
      refine vp_callSi (W.runS ⟨hx, hb, hml, hown, hts⟩ (KX2_isLetter l (fX2_letterOf a0)) (va_cwS 1 hts gX2_isComposed_X2_isLetter rfl rfl rfl (by decide +kernel) ⟨Nat.le_of_ble_eq_true rfl, Nat.le_of_ble_eq_true rfl⟩) pcS_S rfl rfl hl.1 rfl (lv_room (Nat.le_of_ble_eq_true rfl)) dX2_isComposed_16 ⟨Nat.zero_le _, Nat.zero_le _⟩) (fun r9 hr9 => ?_)
      subst r9
      refine lv_if_eq (tgt := 26) hx hb dX2_isComposed_19 (by decide) (fun c19_1 => ?_) (fun c19_1 => ?_)
      · skip
        refine lv_iconst (v := 0) hx hb dX2_isComposed_26 (by decide) ?_
        exact rtRz hx hb hr (by decide) hlocks dX2_isComposed_27 (by unfold fX2_isComposed; rw [if_neg c3_1, if_neg c9_1, if_pos c19_1])
      · skip
        refine lv_iconst (v := 1) hx hb dX2_isComposed_22 (by decide) ?_
        refine lv_goto (tgt := 27) hx hb dX2_isComposed_23 (by decide) ?_
        exact rtRz hx hb hr (by decide) hlocks dX2_isComposed_27 (by unfold fX2_isComposed; rw [if_neg c3_1, if_neg c9_1, if_neg c19_1])
def fX2_keyOf (a0 : Int32) : Int32 := (if (fX2_isComposed a0) = 0 then (if (fX2_isCapital a0) = 0 then a0 else ((a0 - 65) + 97)) else (if (fX2_isCapital (fX2_letterOf a0)) = 0 then (fX2_letterOf a0) else (((fX2_letterOf a0) - 65) + 97)))
set_option maxHeartbeats 4000000 in
set_option maxRecDepth 100000 in
theorem KX2_keyOf (l : Launch) (a0 : Int32) : Met l yX2_keyOf wsX2_keyOf ({ frames := 3, cells := 0, slots := 0, locals := 60 }) (pcS [.int a0]) (vp_Si (fun r => r = fX2_keyOf a0)) 0 0 (fun _ => False) := by
  refine ofS (cc := cX2_keyOf) (maxL := 2) (ret := (some .int)) (by decide) rfl (Nat.le_of_ble_eq_true rfl) ?_
  intro p e s m below meth c ls hx hb hr hml hown hts hlocks hl
  have hl : lv_has ls 2 [(0, .int a0)] := hl
  refine lv_iload_n hx hb dX2_keyOf_0 rfl (lv_at hl 0 rfl) ?_
  refine vp_callSi (W.runS ⟨hx, hb, hml, hown, hts⟩ (KX2_isComposed l a0) (va_cwS 1 hts gX2_keyOf_X2_isComposed rfl rfl rfl (by decide +kernel) ⟨Nat.le_of_ble_eq_true rfl, Nat.le_of_ble_eq_true rfl⟩) pcS_S rfl rfl hl.1 rfl (lv_room (Nat.le_of_ble_eq_true rfl)) dX2_keyOf_1 ⟨Nat.zero_le _, Nat.zero_le _⟩) (fun r9 hr9 => ?_)
  subst r9
  refine lv_if_eq (tgt := 14) hx hb dX2_keyOf_4 (by decide) (fun c4_1 => ?_) (fun c4_1 => ?_)
  · skip
    refine lv_iload_n hx hb dX2_keyOf_14 rfl (lv_at hl 0 rfl) ?_
    refine lv_istore_n (lv' := [(1, .int a0), (0, .int a0)]) hx hb dX2_keyOf_15 rfl hl (by decide) rfl (fun ls hl => ?_)
    refine lv_iload_n hx hb dX2_keyOf_16 rfl (lv_at hl 0 rfl) ?_
    refine vp_callSi (W.runS ⟨hx, hb, hml, hown, hts⟩ (KX2_isCapital l a0) (va_cwS 1 hts gX2_keyOf_X2_isCapital rfl rfl rfl (by decide +kernel) ⟨Nat.le_of_ble_eq_true rfl, Nat.le_of_ble_eq_true rfl⟩) pcS_S rfl rfl hl.1 rfl (lv_room (Nat.le_of_ble_eq_true rfl)) dX2_keyOf_17 ⟨Nat.zero_le _, Nat.zero_le _⟩) (fun r9 hr9 => ?_)
    subst r9
    refine lv_if_eq (tgt := 33) hx hb dX2_keyOf_20 (by decide) (fun c20_1 => ?_) (fun c20_1 => ?_)
    · skip
      refine lv_iload_n hx hb dX2_keyOf_33 rfl (lv_at hl 0 rfl) ?_
      exact rtR hx hb hr hlocks dX2_keyOf_34 (by unfold fX2_keyOf; rw [if_pos c4_1, if_pos c20_1])
    · skip
      refine lv_iload_n hx hb dX2_keyOf_23 rfl (lv_at hl 0 rfl) ?_
      refine lv_bipush (v := 65) hx hb dX2_keyOf_24 (by decide) ?_
      refine lv_isub hx hb dX2_keyOf_26 ?_
      refine lv_bipush (v := 97) hx hb dX2_keyOf_27 (by decide) ?_
      refine lv_iadd hx hb dX2_keyOf_29 ?_
      refine lv_goto (tgt := 34) hx hb dX2_keyOf_30 (by decide) ?_
      exact rtR hx hb hr hlocks dX2_keyOf_34 (by unfold fX2_keyOf; rw [if_pos c4_1, if_neg c20_1])
  · skip
    refine lv_iload_n hx hb dX2_keyOf_7 rfl (lv_at hl 0 rfl) ?_
    refine vp_callSi (W.runS ⟨hx, hb, hml, hown, hts⟩ (KX2_letterOf l a0) (va_cwS 1 hts gX2_keyOf_X2_letterOf rfl rfl rfl (by decide +kernel) ⟨Nat.le_of_ble_eq_true rfl, Nat.le_of_ble_eq_true rfl⟩) pcS_S rfl rfl hl.1 rfl (lv_room (Nat.le_of_ble_eq_true rfl)) dX2_keyOf_8 ⟨Nat.zero_le _, Nat.zero_le _⟩) (fun r9 hr9 => ?_)
    subst r9
    refine lv_goto (tgt := 15) hx hb dX2_keyOf_11 (by decide) ?_
    refine lv_istore_n (lv' := [(1, .int (fX2_letterOf a0)), (0, .int a0)]) hx hb dX2_keyOf_15 rfl hl (by decide) rfl (fun ls hl => ?_)
    refine lv_iload_n hx hb dX2_keyOf_16 rfl (lv_at hl 0 rfl) ?_
    refine vp_callSi (W.runS ⟨hx, hb, hml, hown, hts⟩ (KX2_isCapital l (fX2_letterOf a0)) (va_cwS 1 hts gX2_keyOf_X2_isCapital rfl rfl rfl (by decide +kernel) ⟨Nat.le_of_ble_eq_true rfl, Nat.le_of_ble_eq_true rfl⟩) pcS_S rfl rfl hl.1 rfl (lv_room (Nat.le_of_ble_eq_true rfl)) dX2_keyOf_17 ⟨Nat.zero_le _, Nat.zero_le _⟩) (fun r9 hr9 => ?_)
    subst r9
    refine lv_if_eq (tgt := 33) hx hb dX2_keyOf_20 (by decide) (fun c20_2 => ?_) (fun c20_2 => ?_)
    · skip
      refine lv_iload_n hx hb dX2_keyOf_33 rfl (lv_at hl 0 rfl) ?_
      exact rtR hx hb hr hlocks dX2_keyOf_34 (by unfold fX2_keyOf; rw [if_neg c4_1, if_pos c20_2])
    · skip
      refine lv_iload_n hx hb dX2_keyOf_23 rfl (lv_at hl 0 rfl) ?_
      refine lv_bipush (v := 65) hx hb dX2_keyOf_24 (by decide) ?_
      refine lv_isub hx hb dX2_keyOf_26 ?_
      refine lv_bipush (v := 97) hx hb dX2_keyOf_27 (by decide) ?_
      refine lv_iadd hx hb dX2_keyOf_29 ?_
      refine lv_goto (tgt := 34) hx hb dX2_keyOf_30 (by decide) ?_
      exact rtR hx hb hr hlocks dX2_keyOf_34 (by unfold fX2_keyOf; rw [if_neg c4_1, if_neg c20_2])
def fX2_isLatin (a0 : Int32) : Int32 := (if a0 < 192 then 0 else (if 222 ≤ a0 then 0 else 1))
set_option maxHeartbeats 4000000 in
set_option maxRecDepth 100000 in
theorem KX2_isLatin (l : Launch) (a0 : Int32) : Met l yX2_isLatin wsX2_isLatin ({ frames := 0, cells := 0, slots := 0, locals := 0 }) (pcS [.int a0]) (vp_Si (fun r => r = fX2_isLatin a0)) 0 0 (fun _ => False) := by
  refine ofS (cc := cX2_isLatin) (maxL := 1) (ret := (some .boolean)) (by decide) rfl (Nat.le_of_ble_eq_true rfl) ?_
  intro p e s m below meth c ls hx hb hr hml hown hts hlocks hl
  have hl : lv_has ls 1 [(0, .int a0)] := hl
  refine lv_iload_n hx hb dX2_isLatin_0 rfl (lv_at hl 0 rfl) ?_
  refine lv_sipush (v := 192) hx hb dX2_isLatin_1 (by decide) ?_
  refine lv_icmp_lt (tgt := 18) hx hb dX2_isLatin_4 (by decide) (fun c4_1 => ?_) (fun c4_1 => ?_)
  · skip
    refine lv_iconst (v := 0) hx hb dX2_isLatin_18 (by decide) ?_
    exact rtRz hx hb hr (by decide) hlocks dX2_isLatin_19 (by unfold fX2_isLatin; rw [if_pos c4_1])
  · skip
    refine lv_iload_n hx hb dX2_isLatin_7 rfl (lv_at hl 0 rfl) ?_
    refine lv_sipush (v := 222) hx hb dX2_isLatin_8 (by decide) ?_
    refine lv_icmp_ge (tgt := 18) hx hb dX2_isLatin_11 (by decide) (fun c11_1 => ?_) (fun c11_1 => ?_)
    · skip
      refine lv_iconst (v := 0) hx hb dX2_isLatin_18 (by decide) ?_
      exact rtRz hx hb hr (by decide) hlocks dX2_isLatin_19 (by unfold fX2_isLatin; rw [if_neg c4_1, if_pos c11_1])
    · skip
      refine lv_iconst (v := 1) hx hb dX2_isLatin_14 (by decide) ?_
      refine lv_goto (tgt := 19) hx hb dX2_isLatin_15 (by decide) ?_
      exact rtRz hx hb hr (by decide) hlocks dX2_isLatin_19 (by unfold fX2_isLatin; rw [if_neg c4_1, if_neg c11_1])
def fX2_isGreek (a0 : Int32) : Int32 := (if a0 < 913 then 0 else (if 970 ≤ a0 then 0 else 1))
set_option maxHeartbeats 4000000 in
set_option maxRecDepth 100000 in
theorem KX2_isGreek (l : Launch) (a0 : Int32) : Met l yX2_isGreek wsX2_isGreek ({ frames := 0, cells := 0, slots := 0, locals := 0 }) (pcS [.int a0]) (vp_Si (fun r => r = fX2_isGreek a0)) 0 0 (fun _ => False) := by
  refine ofS (cc := cX2_isGreek) (maxL := 1) (ret := (some .boolean)) (by decide) rfl (Nat.le_of_ble_eq_true rfl) ?_
  intro p e s m below meth c ls hx hb hr hml hown hts hlocks hl
  have hl : lv_has ls 1 [(0, .int a0)] := hl
  refine lv_iload_n hx hb dX2_isGreek_0 rfl (lv_at hl 0 rfl) ?_
  refine lv_sipush (v := 913) hx hb dX2_isGreek_1 (by decide) ?_
  refine lv_icmp_lt (tgt := 18) hx hb dX2_isGreek_4 (by decide) (fun c4_1 => ?_) (fun c4_1 => ?_)
  · skip
    refine lv_iconst (v := 0) hx hb dX2_isGreek_18 (by decide) ?_
    exact rtRz hx hb hr (by decide) hlocks dX2_isGreek_19 (by unfold fX2_isGreek; rw [if_pos c4_1])
  · skip
    refine lv_iload_n hx hb dX2_isGreek_7 rfl (lv_at hl 0 rfl) ?_
    refine lv_sipush (v := 970) hx hb dX2_isGreek_8 (by decide) ?_
    refine lv_icmp_ge (tgt := 18) hx hb dX2_isGreek_11 (by decide) (fun c11_1 => ?_) (fun c11_1 => ?_)
    · skip
      refine lv_iconst (v := 0) hx hb dX2_isGreek_18 (by decide) ?_
      exact rtRz hx hb hr (by decide) hlocks dX2_isGreek_19 (by unfold fX2_isGreek; rw [if_neg c4_1, if_pos c11_1])
    · skip
      refine lv_iconst (v := 1) hx hb dX2_isGreek_14 (by decide) ?_
      refine lv_goto (tgt := 19) hx hb dX2_isGreek_15 (by decide) ?_
      exact rtRz hx hb hr (by decide) hlocks dX2_isGreek_19 (by unfold fX2_isGreek; rw [if_neg c4_1, if_neg c11_1])
def fX2_isCyrillic (a0 : Int32) : Int32 := (if a0 < 1040 then 0 else (if 1104 ≤ a0 then 0 else 1))
set_option maxHeartbeats 4000000 in
set_option maxRecDepth 100000 in
theorem KX2_isCyrillic (l : Launch) (a0 : Int32) : Met l yX2_isCyrillic wsX2_isCyrillic ({ frames := 0, cells := 0, slots := 0, locals := 0 }) (pcS [.int a0]) (vp_Si (fun r => r = fX2_isCyrillic a0)) 0 0 (fun _ => False) := by
  refine ofS (cc := cX2_isCyrillic) (maxL := 1) (ret := (some .boolean)) (by decide) rfl (Nat.le_of_ble_eq_true rfl) ?_
  intro p e s m below meth c ls hx hb hr hml hown hts hlocks hl
  have hl : lv_has ls 1 [(0, .int a0)] := hl
  refine lv_iload_n hx hb dX2_isCyrillic_0 rfl (lv_at hl 0 rfl) ?_
  refine lv_sipush (v := 1040) hx hb dX2_isCyrillic_1 (by decide) ?_
  refine lv_icmp_lt (tgt := 18) hx hb dX2_isCyrillic_4 (by decide) (fun c4_1 => ?_) (fun c4_1 => ?_)
  · skip
    refine lv_iconst (v := 0) hx hb dX2_isCyrillic_18 (by decide) ?_
    exact rtRz hx hb hr (by decide) hlocks dX2_isCyrillic_19 (by unfold fX2_isCyrillic; rw [if_pos c4_1])
  · skip
    refine lv_iload_n hx hb dX2_isCyrillic_7 rfl (lv_at hl 0 rfl) ?_
    refine lv_sipush (v := 1104) hx hb dX2_isCyrillic_8 (by decide) ?_
    refine lv_icmp_ge (tgt := 18) hx hb dX2_isCyrillic_11 (by decide) (fun c11_1 => ?_) (fun c11_1 => ?_)
    · skip
      refine lv_iconst (v := 0) hx hb dX2_isCyrillic_18 (by decide) ?_
      exact rtRz hx hb hr (by decide) hlocks dX2_isCyrillic_19 (by unfold fX2_isCyrillic; rw [if_neg c4_1, if_pos c11_1])
    · skip
      refine lv_iconst (v := 1) hx hb dX2_isCyrillic_14 (by decide) ?_
      refine lv_goto (tgt := 19) hx hb dX2_isCyrillic_15 (by decide) ?_
      exact rtRz hx hb hr (by decide) hlocks dX2_isCyrillic_19 (by unfold fX2_isCyrillic; rw [if_neg c4_1, if_neg c11_1])
def fX2_setOf (a0 : Int32) : Int32 := (if (fX2_isLatin a0) = 0 then (if (fX2_isMark a0) = 0 then (if (fX2_isGreek a0) = 0 then (if (fX2_isCyrillic a0) = 0 then (-1) else 2) else 1) else 0) else 0)
set_option maxHeartbeats 4000000 in
set_option maxRecDepth 100000 in
theorem KX2_setOf (l : Launch) (a0 : Int32) : Met l yX2_setOf wsX2_setOf ({ frames := 1, cells := 0, slots := 0, locals := 20 }) (pcS [.int a0]) (vp_Si (fun r => r = fX2_setOf a0)) 0 0 (fun _ => False) := by
  refine ofS (cc := cX2_setOf) (maxL := 1) (ret := (some .int)) (by decide) rfl (Nat.le_of_ble_eq_true rfl) ?_
  intro p e s m below meth c ls hx hb hr hml hown hts hlocks hl
  have hl : lv_has ls 1 [(0, .int a0)] := hl
  refine lv_iload_n hx hb dX2_setOf_0 rfl (lv_at hl 0 rfl) ?_
  refine vp_callSi (W.runS ⟨hx, hb, hml, hown, hts⟩ (KX2_isLatin l a0) (va_cwS 1 hts gX2_setOf_X2_isLatin rfl rfl rfl (by decide +kernel) ⟨Nat.le_of_ble_eq_true rfl, Nat.le_of_ble_eq_true rfl⟩) pcS_S rfl rfl hl.1 rfl (lv_room (Nat.le_of_ble_eq_true rfl)) dX2_setOf_1 ⟨Nat.zero_le _, Nat.zero_le _⟩) (fun r9 hr9 => ?_)
  subst r9
  refine lv_if_ne (tgt := 14) hx hb dX2_setOf_4 (by decide) (fun c4_1 => ?_) (fun c4_1 => ?_)
  · skip
    refine lv_iconst (v := 0) hx hb dX2_setOf_14 (by decide) ?_
    exact rtR hx hb hr hlocks dX2_setOf_15 (by unfold fX2_setOf; rw [if_neg c4_1])
  · skip
    refine lv_iload_n hx hb dX2_setOf_7 rfl (lv_at hl 0 rfl) ?_
    refine vp_callSi (W.runS ⟨hx, hb, hml, hown, hts⟩ (KX2_isMark l a0) (va_cwS 1 hts gX2_setOf_X2_isMark rfl rfl rfl (by decide +kernel) ⟨Nat.le_of_ble_eq_true rfl, Nat.le_of_ble_eq_true rfl⟩) pcS_S rfl rfl hl.1 rfl (lv_room (Nat.le_of_ble_eq_true rfl)) dX2_setOf_8 ⟨Nat.zero_le _, Nat.zero_le _⟩) (fun r9 hr9 => ?_)
    subst r9
    refine lv_if_eq (tgt := 16) hx hb dX2_setOf_11 (by decide) (fun c11_1 => ?_) (fun c11_1 => ?_)
    · skip
      refine lv_iload_n hx hb dX2_setOf_16 rfl (lv_at hl 0 rfl) ?_
      refine vp_callSi (W.runS ⟨hx, hb, hml, hown, hts⟩ (KX2_isGreek l a0) (va_cwS 1 hts gX2_setOf_X2_isGreek rfl rfl rfl (by decide +kernel) ⟨Nat.le_of_ble_eq_true rfl, Nat.le_of_ble_eq_true rfl⟩) pcS_S rfl rfl hl.1 rfl (lv_room (Nat.le_of_ble_eq_true rfl)) dX2_setOf_17 ⟨Nat.zero_le _, Nat.zero_le _⟩) (fun r9 hr9 => ?_)
      subst r9
      refine lv_if_eq (tgt := 25) hx hb dX2_setOf_20 (by decide) (fun c20_1 => ?_) (fun c20_1 => ?_)
      · skip
        refine lv_iload_n hx hb dX2_setOf_25 rfl (lv_at hl 0 rfl) ?_
        refine vp_callSi (W.runS ⟨hx, hb, hml, hown, hts⟩ (KX2_isCyrillic l a0) (va_cwS 1 hts gX2_setOf_X2_isCyrillic rfl rfl rfl (by decide +kernel) ⟨Nat.le_of_ble_eq_true rfl, Nat.le_of_ble_eq_true rfl⟩) pcS_S rfl rfl hl.1 rfl (lv_room (Nat.le_of_ble_eq_true rfl)) dX2_setOf_26 ⟨Nat.zero_le _, Nat.zero_le _⟩) (fun r9 hr9 => ?_)
        subst r9
        refine lv_if_eq (tgt := 36) hx hb dX2_setOf_29 (by decide) (fun c29_1 => ?_) (fun c29_1 => ?_)
        · skip
          refine lv_iconst (v := (-1)) hx hb dX2_setOf_36 (by decide) ?_
          exact rtR hx hb hr hlocks dX2_setOf_37 (by unfold fX2_setOf; rw [if_pos c4_1, if_pos c11_1, if_pos c20_1, if_pos c29_1])
        · skip
          refine lv_iconst (v := 2) hx hb dX2_setOf_32 (by decide) ?_
          refine lv_goto (tgt := 37) hx hb dX2_setOf_33 (by decide) ?_
          exact rtR hx hb hr hlocks dX2_setOf_37 (by unfold fX2_setOf; rw [if_pos c4_1, if_pos c11_1, if_pos c20_1, if_neg c29_1])
      · skip
        refine lv_iconst (v := 1) hx hb dX2_setOf_23 (by decide) ?_
        exact rtR hx hb hr hlocks dX2_setOf_24 (by unfold fX2_setOf; rw [if_pos c4_1, if_pos c11_1, if_neg c20_1])
    · skip
      refine lv_iconst (v := 0) hx hb dX2_setOf_14 (by decide) ?_
      exact rtR hx hb hr hlocks dX2_setOf_15 (by unfold fX2_setOf; rw [if_pos c4_1, if_neg c11_1])
def fX2_placeInSet (a0 : Int32) : Int32 := (if (fX2_isMark a0) = 0 then (if (fX2_isGreek a0) = 0 then (if (fX2_isCyrillic a0) = 0 then (a0 - 192) else (a0 - 1040)) else (a0 - 913)) else ((a0 - 768) + 40))
set_option maxHeartbeats 4000000 in
set_option maxRecDepth 100000 in
theorem KX2_placeInSet (l : Launch) (a0 : Int32) : Met l yX2_placeInSet wsX2_placeInSet ({ frames := 1, cells := 0, slots := 0, locals := 20 }) (pcS [.int a0]) (vp_Si (fun r => r = fX2_placeInSet a0)) 0 0 (fun _ => False) := by
  refine ofS (cc := cX2_placeInSet) (maxL := 1) (ret := (some .int)) (by decide) rfl (Nat.le_of_ble_eq_true rfl) ?_
  intro p e s m below meth c ls hx hb hr hml hown hts hlocks hl
  have hl : lv_has ls 1 [(0, .int a0)] := hl
  refine lv_iload_n hx hb dX2_placeInSet_0 rfl (lv_at hl 0 rfl) ?_
  refine vp_callSi (W.runS ⟨hx, hb, hml, hown, hts⟩ (KX2_isMark l a0) (va_cwS 1 hts gX2_placeInSet_X2_isMark rfl rfl rfl (by decide +kernel) ⟨Nat.le_of_ble_eq_true rfl, Nat.le_of_ble_eq_true rfl⟩) pcS_S rfl rfl hl.1 rfl (lv_room (Nat.le_of_ble_eq_true rfl)) dX2_placeInSet_1 ⟨Nat.zero_le _, Nat.zero_le _⟩) (fun r9 hr9 => ?_)
  subst r9
  refine lv_if_eq (tgt := 16) hx hb dX2_placeInSet_4 (by decide) (fun c4_1 => ?_) (fun c4_1 => ?_)
  · skip
    refine lv_iload_n hx hb dX2_placeInSet_16 rfl (lv_at hl 0 rfl) ?_
    refine vp_callSi (W.runS ⟨hx, hb, hml, hown, hts⟩ (KX2_isGreek l a0) (va_cwS 1 hts gX2_placeInSet_X2_isGreek rfl rfl rfl (by decide +kernel) ⟨Nat.le_of_ble_eq_true rfl, Nat.le_of_ble_eq_true rfl⟩) pcS_S rfl rfl hl.1 rfl (lv_room (Nat.le_of_ble_eq_true rfl)) dX2_placeInSet_17 ⟨Nat.zero_le _, Nat.zero_le _⟩) (fun r9 hr9 => ?_)
    subst r9
    refine lv_if_eq (tgt := 29) hx hb dX2_placeInSet_20 (by decide) (fun c20_1 => ?_) (fun c20_1 => ?_)
    · skip
      refine lv_iload_n hx hb dX2_placeInSet_29 rfl (lv_at hl 0 rfl) ?_
      refine vp_callSi (W.runS ⟨hx, hb, hml, hown, hts⟩ (KX2_isCyrillic l a0) (va_cwS 1 hts gX2_placeInSet_X2_isCyrillic rfl rfl rfl (by decide +kernel) ⟨Nat.le_of_ble_eq_true rfl, Nat.le_of_ble_eq_true rfl⟩) pcS_S rfl rfl hl.1 rfl (lv_room (Nat.le_of_ble_eq_true rfl)) dX2_placeInSet_30 ⟨Nat.zero_le _, Nat.zero_le _⟩) (fun r9 hr9 => ?_)
      subst r9
      refine lv_if_eq (tgt := 44) hx hb dX2_placeInSet_33 (by decide) (fun c33_1 => ?_) (fun c33_1 => ?_)
      · skip
        refine lv_iload_n hx hb dX2_placeInSet_44 rfl (lv_at hl 0 rfl) ?_
        refine lv_sipush (v := 192) hx hb dX2_placeInSet_45 (by decide) ?_
        refine lv_isub hx hb dX2_placeInSet_48 ?_
        exact rtR hx hb hr hlocks dX2_placeInSet_49 (by unfold fX2_placeInSet; rw [if_pos c4_1, if_pos c20_1, if_pos c33_1])
      · skip
        refine lv_iload_n hx hb dX2_placeInSet_36 rfl (lv_at hl 0 rfl) ?_
        refine lv_sipush (v := 1040) hx hb dX2_placeInSet_37 (by decide) ?_
        refine lv_isub hx hb dX2_placeInSet_40 ?_
        refine lv_goto (tgt := 49) hx hb dX2_placeInSet_41 (by decide) ?_
        exact rtR hx hb hr hlocks dX2_placeInSet_49 (by unfold fX2_placeInSet; rw [if_pos c4_1, if_pos c20_1, if_neg c33_1])
    · skip
      refine lv_iload_n hx hb dX2_placeInSet_23 rfl (lv_at hl 0 rfl) ?_
      refine lv_sipush (v := 913) hx hb dX2_placeInSet_24 (by decide) ?_
      refine lv_isub hx hb dX2_placeInSet_27 ?_
      exact rtR hx hb hr hlocks dX2_placeInSet_28 (by unfold fX2_placeInSet; rw [if_pos c4_1, if_neg c20_1])
  · skip
    refine lv_iload_n hx hb dX2_placeInSet_7 rfl (lv_at hl 0 rfl) ?_
    refine lv_sipush (v := 768) hx hb dX2_placeInSet_8 (by decide) ?_
    refine lv_isub hx hb dX2_placeInSet_11 ?_
    refine lv_bipush (v := 40) hx hb dX2_placeInSet_12 (by decide) ?_
    refine lv_iadd hx hb dX2_placeInSet_14 ?_
    exact rtR hx hb hr hlocks dX2_placeInSet_15 (by unfold fX2_placeInSet; rw [if_neg c4_1])
def fX2_codeInRange (a0 a1 a2 : Int32) : Int32 := (if a0 < 0 then 0 else (if a2 ≤ a0 then 0 else (a1 + a0)))
set_option maxHeartbeats 4000000 in
set_option maxRecDepth 100000 in
theorem KX2_codeInRange (l : Launch) (a0 a1 a2 : Int32) : Met l yX2_codeInRange wsX2_codeInRange ({ frames := 0, cells := 0, slots := 0, locals := 0 }) (pcS [.int a0, .int a1, .int a2]) (vp_Si (fun r => r = fX2_codeInRange a0 a1 a2)) 0 0 (fun _ => False) := by
  refine ofS (cc := cX2_codeInRange) (maxL := 3) (ret := (some .int)) (by decide) rfl (Nat.le_of_ble_eq_true rfl) ?_
  intro p e s m below meth c ls hx hb hr hml hown hts hlocks hl
  have hl : lv_has ls 3 [(0, .int a0), (1, .int a1), (2, .int a2)] := hl
  refine lv_iload_n hx hb dX2_codeInRange_0 rfl (lv_at hl 0 rfl) ?_
  refine lv_if_lt (tgt := 15) hx hb dX2_codeInRange_1 (by decide) (fun c1_1 => ?_) (fun c1_1 => ?_)
  · skip
    refine lv_iconst (v := 0) hx hb dX2_codeInRange_15 (by decide) ?_
    exact rtR hx hb hr hlocks dX2_codeInRange_16 (by unfold fX2_codeInRange; rw [if_pos c1_1])
  · skip
    refine lv_iload_n hx hb dX2_codeInRange_4 rfl (lv_at hl 0 rfl) ?_
    refine lv_iload_n hx hb dX2_codeInRange_5 rfl (lv_at hl 2 rfl) ?_
    refine lv_icmp_ge (tgt := 15) hx hb dX2_codeInRange_6 (by decide) (fun c6_1 => ?_) (fun c6_1 => ?_)
    · skip
      refine lv_iconst (v := 0) hx hb dX2_codeInRange_15 (by decide) ?_
      exact rtR hx hb hr hlocks dX2_codeInRange_16 (by unfold fX2_codeInRange; rw [if_neg c1_1, if_pos c6_1])
    · skip
      refine lv_iload_n hx hb dX2_codeInRange_9 rfl (lv_at hl 1 rfl) ?_
      refine lv_iload_n hx hb dX2_codeInRange_10 rfl (lv_at hl 0 rfl) ?_
      refine lv_iadd hx hb dX2_codeInRange_11 ?_
      refine lv_goto (tgt := 16) hx hb dX2_codeInRange_12 (by decide) ?_
      exact rtR hx hb hr hlocks dX2_codeInRange_16 (by unfold fX2_codeInRange; rw [if_neg c1_1, if_neg c6_1])
def fX2_codeInSet (a0 a1 : Int32) : Int32 := (if a0 = 0 then (if (fX2_isMark ((a1 - 40) + 768)) = 0 then (fX2_codeInRange a1 192 30) else ((a1 - 40) + 768)) else (if a0 = 1 then (fX2_codeInRange a1 913 57) else (if a0 = 2 then (fX2_codeInRange a1 1040 64) else 0)))
set_option maxHeartbeats 4000000 in
set_option maxRecDepth 100000 in
theorem KX2_codeInSet (l : Launch) (a0 a1 : Int32) : Met l yX2_codeInSet wsX2_codeInSet ({ frames := 1, cells := 0, slots := 0, locals := 22 }) (pcS [.int a0, .int a1]) (vp_Si (fun r => r = fX2_codeInSet a0 a1)) 0 0 (fun _ => False) := by
  refine ofS (cc := cX2_codeInSet) (maxL := 3) (ret := (some .int)) (by decide) rfl (Nat.le_of_ble_eq_true rfl) ?_
  intro p e s m below meth c ls hx hb hr hml hown hts hlocks hl
  have hl : lv_has ls 3 [(0, .int a0), (1, .int a1)] := hl
  refine lv_iload_n hx hb dX2_codeInSet_0 rfl (lv_at hl 0 rfl) ?_
  refine lv_if_ne (tgt := 34) hx hb dX2_codeInSet_1 (by decide) (fun c1_1 => ?_) (fun c1_1 => ?_)
  · skip
    refine lv_iload_n hx hb dX2_codeInSet_34 rfl (lv_at hl 0 rfl) ?_
    refine lv_iconst (v := 1) hx hb dX2_codeInSet_35 (by decide) ?_
    refine lv_icmp_ne (tgt := 49) hx hb dX2_codeInSet_36 (by decide) (fun c36_1 => ?_) (fun c36_1 => ?_)
    · skip
      refine lv_iload_n hx hb dX2_codeInSet_49 rfl (lv_at hl 0 rfl) ?_
      refine lv_iconst (v := 2) hx hb dX2_codeInSet_50 (by decide) ?_
      refine lv_icmp_ne (tgt := 66) hx hb dX2_codeInSet_51 (by decide) (fun c51_1 => ?_) (fun c51_1 => ?_)
      · skip
        refine lv_iconst (v := 0) hx hb dX2_codeInSet_66 (by decide) ?_
        exact rtR hx hb hr hlocks dX2_codeInSet_67 (by unfold fX2_codeInSet; rw [if_neg c1_1, if_neg c36_1, if_neg c51_1])
      · skip
        refine lv_iload_n hx hb dX2_codeInSet_54 rfl (lv_at hl 1 rfl) ?_
        refine lv_sipush (v := 1040) hx hb dX2_codeInSet_55 (by decide) ?_
        refine lv_bipush (v := 64) hx hb dX2_codeInSet_58 (by decide) ?_
        refine vp_callSi (W.runS ⟨hx, hb, hml, hown, hts⟩ (KX2_codeInRange l a1 1040 64) (va_cwS 3 hts gX2_codeInSet_X2_codeInRange rfl rfl rfl (by decide +kernel) ⟨Nat.le_of_ble_eq_true rfl, Nat.le_of_ble_eq_true rfl⟩) pcS_S rfl rfl hl.1 rfl (lv_room (Nat.le_of_ble_eq_true rfl)) dX2_codeInSet_60 ⟨Nat.zero_le _, Nat.zero_le _⟩) (fun r9 hr9 => ?_)
        subst r9
        refine lv_goto (tgt := 67) hx hb dX2_codeInSet_63 (by decide) ?_
        exact rtR hx hb hr hlocks dX2_codeInSet_67 (by unfold fX2_codeInSet; rw [if_neg c1_1, if_neg c36_1, if_pos c51_1])
    · skip
      refine lv_iload_n hx hb dX2_codeInSet_39 rfl (lv_at hl 1 rfl) ?_
      refine lv_sipush (v := 913) hx hb dX2_codeInSet_40 (by decide) ?_
      refine lv_bipush (v := 57) hx hb dX2_codeInSet_43 (by decide) ?_
      refine vp_callSi (W.runS ⟨hx, hb, hml, hown, hts⟩ (KX2_codeInRange l a1 913 57) (va_cwS 3 hts gX2_codeInSet_X2_codeInRange rfl rfl rfl (by decide +kernel) ⟨Nat.le_of_ble_eq_true rfl, Nat.le_of_ble_eq_true rfl⟩) pcS_S rfl rfl hl.1 rfl (lv_room (Nat.le_of_ble_eq_true rfl)) dX2_codeInSet_45 ⟨Nat.zero_le _, Nat.zero_le _⟩) (fun r9 hr9 => ?_)
      subst r9
      exact rtR hx hb hr hlocks dX2_codeInSet_48 (by unfold fX2_codeInSet; rw [if_neg c1_1, if_pos c36_1])
  · skip
    refine lv_iload_n hx hb dX2_codeInSet_4 rfl (lv_at hl 1 rfl) ?_
    refine lv_bipush (v := 40) hx hb dX2_codeInSet_5 (by decide) ?_
    refine lv_isub hx hb dX2_codeInSet_7 ?_
    refine lv_sipush (v := 768) hx hb dX2_codeInSet_8 (by decide) ?_
    refine lv_iadd hx hb dX2_codeInSet_11 ?_
    refine lv_istore_n (lv' := [(2, .int ((a1 - 40) + 768)), (0, .int a0), (1, .int a1)]) hx hb dX2_codeInSet_12 rfl hl (by decide) rfl (fun ls hl => ?_)
    refine lv_iload_n hx hb dX2_codeInSet_13 rfl (lv_at hl 0 rfl) ?_
    refine vp_callSi (W.runS ⟨hx, hb, hml, hown, hts⟩ (KX2_isMark l ((a1 - 40) + 768)) (va_cwS 1 hts gX2_codeInSet_X2_isMark rfl rfl rfl (by decide +kernel) ⟨Nat.le_of_ble_eq_true rfl, Nat.le_of_ble_eq_true rfl⟩) pcS_S rfl rfl hl.1 rfl (lv_room (Nat.le_of_ble_eq_true rfl)) dX2_codeInSet_14 ⟨Nat.zero_le _, Nat.zero_le _⟩) (fun r9 hr9 => ?_)
    subst r9
    refine lv_if_eq (tgt := 24) hx hb dX2_codeInSet_17 (by decide) (fun c17_1 => ?_) (fun c17_1 => ?_)
    · skip
      refine lv_iload_n hx hb dX2_codeInSet_24 rfl (lv_at hl 2 rfl) ?_
      refine lv_sipush (v := 192) hx hb dX2_codeInSet_25 (by decide) ?_
      refine lv_bipush (v := 30) hx hb dX2_codeInSet_28 (by decide) ?_
      refine vp_callSi (W.runS ⟨hx, hb, hml, hown, hts⟩ (KX2_codeInRange l a1 192 30) (va_cwS 3 hts gX2_codeInSet_X2_codeInRange rfl rfl rfl (by decide +kernel) ⟨Nat.le_of_ble_eq_true rfl, Nat.le_of_ble_eq_true rfl⟩) pcS_S rfl rfl hl.1 rfl (lv_room (Nat.le_of_ble_eq_true rfl)) dX2_codeInSet_30 ⟨Nat.zero_le _, Nat.zero_le _⟩) (fun r9 hr9 => ?_)
      subst r9
      exact rtR hx hb hr hlocks dX2_codeInSet_33 (by unfold fX2_codeInSet; rw [if_pos c1_1, if_pos c17_1])
    · skip
      refine lv_iload_n hx hb dX2_codeInSet_20 rfl (lv_at hl 0 rfl) ?_
      refine lv_goto (tgt := 33) hx hb dX2_codeInSet_21 (by decide) ?_
      exact rtR hx hb hr hlocks dX2_codeInSet_33 (by unfold fX2_codeInSet; rw [if_pos c1_1, if_neg c17_1])
def fX2_codeOfOldByte (a0 a1 : Int32) : Int32 := (if (fX2_isPlain a0) = 0 then (fX2_codeInSet a1 (a0 - 161)) else a0)
set_option maxHeartbeats 4000000 in
set_option maxRecDepth 100000 in
theorem KX2_codeOfOldByte (l : Launch) (a0 a1 : Int32) : Met l yX2_codeOfOldByte wsX2_codeOfOldByte ({ frames := 2, cells := 0, slots := 0, locals := 44 }) (pcS [.int a0, .int a1]) (vp_Si (fun r => r = fX2_codeOfOldByte a0 a1)) 0 0 (fun _ => False) := by
  refine ofS (cc := cX2_codeOfOldByte) (maxL := 2) (ret := (some .int)) (by decide) rfl (Nat.le_of_ble_eq_true rfl) ?_
  intro p e s m below meth c ls hx hb hr hml hown hts hlocks hl
  have hl : lv_has ls 2 [(0, .int a0), (1, .int a1)] := hl
  refine lv_iload_n hx hb dX2_codeOfOldByte_0 rfl (lv_at hl 0 rfl) ?_
  refine vp_callSi (W.runS ⟨hx, hb, hml, hown, hts⟩ (KX2_isPlain l a0) (va_cwS 1 hts gX2_codeOfOldByte_X2_isPlain rfl rfl rfl (by decide +kernel) ⟨Nat.le_of_ble_eq_true rfl, Nat.le_of_ble_eq_true rfl⟩) pcS_S rfl rfl hl.1 rfl (lv_room (Nat.le_of_ble_eq_true rfl)) dX2_codeOfOldByte_1 ⟨Nat.zero_le _, Nat.zero_le _⟩) (fun r9 hr9 => ?_)
  subst r9
  refine lv_if_eq (tgt := 11) hx hb dX2_codeOfOldByte_4 (by decide) (fun c4_1 => ?_) (fun c4_1 => ?_)
  · skip
    refine lv_iload_n hx hb dX2_codeOfOldByte_11 rfl (lv_at hl 1 rfl) ?_
    refine lv_iload_n hx hb dX2_codeOfOldByte_12 rfl (lv_at hl 0 rfl) ?_
    refine lv_sipush (v := 161) hx hb dX2_codeOfOldByte_13 (by decide) ?_
    refine lv_isub hx hb dX2_codeOfOldByte_16 ?_
    refine vp_callSi (W.runS ⟨hx, hb, hml, hown, hts⟩ (KX2_codeInSet l a1 (a0 - 161)) (va_cwS 2 hts gX2_codeOfOldByte_X2_codeInSet rfl rfl rfl (by decide +kernel) ⟨Nat.le_of_ble_eq_true rfl, Nat.le_of_ble_eq_true rfl⟩) pcS_S rfl rfl hl.1 rfl (lv_room (Nat.le_of_ble_eq_true rfl)) dX2_codeOfOldByte_17 ⟨Nat.zero_le _, Nat.zero_le _⟩) (fun r9 hr9 => ?_)
    subst r9
    exact rtR hx hb hr hlocks dX2_codeOfOldByte_20 (by unfold fX2_codeOfOldByte; rw [if_pos c4_1])
  · skip
    refine lv_iload_n hx hb dX2_codeOfOldByte_7 rfl (lv_at hl 0 rfl) ?_
    refine lv_goto (tgt := 20) hx hb dX2_codeOfOldByte_8 (by decide) ?_
    exact rtR hx hb hr hlocks dX2_codeOfOldByte_20 (by unfold fX2_codeOfOldByte; rw [if_neg c4_1])
def fX2_bytesBehindFirst (a0 : Int32) : Int32 := (if 128 ≤ a0 then (if 2048 ≤ a0 then 2 else 1) else 0)
set_option maxHeartbeats 4000000 in
set_option maxRecDepth 100000 in
theorem KX2_bytesBehindFirst (l : Launch) (a0 : Int32) : Met l yX2_bytesBehindFirst wsX2_bytesBehindFirst ({ frames := 0, cells := 0, slots := 0, locals := 0 }) (pcS [.int a0]) (vp_Si (fun r => r = fX2_bytesBehindFirst a0)) 0 0 (fun _ => False) := by
  refine ofS (cc := cX2_bytesBehindFirst) (maxL := 1) (ret := (some .int)) (by decide) rfl (Nat.le_of_ble_eq_true rfl) ?_
  intro p e s m below meth c ls hx hb hr hml hown hts hlocks hl
  have hl : lv_has ls 1 [(0, .int a0)] := hl
  refine lv_iload_n hx hb dX2_bytesBehindFirst_0 rfl (lv_at hl 0 rfl) ?_
  refine lv_sipush (v := 128) hx hb dX2_bytesBehindFirst_1 (by decide) ?_
  refine lv_icmp_ge (tgt := 9) hx hb dX2_bytesBehindFirst_4 (by decide) (fun c4_1 => ?_) (fun c4_1 => ?_)
  · skip
    refine lv_iload_n hx hb dX2_bytesBehindFirst_9 rfl (lv_at hl 0 rfl) ?_
    refine lv_sipush (v := 2048) hx hb dX2_bytesBehindFirst_10 (by decide) ?_
    refine lv_icmp_ge (tgt := 20) hx hb dX2_bytesBehindFirst_13 (by decide) (fun c13_1 => ?_) (fun c13_1 => ?_)
    · skip
      refine lv_iconst (v := 2) hx hb dX2_bytesBehindFirst_20 (by decide) ?_
      exact rtR hx hb hr hlocks dX2_bytesBehindFirst_21 (by unfold fX2_bytesBehindFirst; rw [if_pos c4_1, if_pos c13_1])
    · skip
      refine lv_iconst (v := 1) hx hb dX2_bytesBehindFirst_16 (by decide) ?_
      refine lv_goto (tgt := 21) hx hb dX2_bytesBehindFirst_17 (by decide) ?_
      exact rtR hx hb hr hlocks dX2_bytesBehindFirst_21 (by unfold fX2_bytesBehindFirst; rw [if_pos c4_1, if_neg c13_1])
  · skip
    refine lv_iconst (v := 0) hx hb dX2_bytesBehindFirst_7 (by decide) ?_
    exact rtR hx hb hr hlocks dX2_bytesBehindFirst_8 (by unfold fX2_bytesBehindFirst; rw [if_neg c4_1])
def fX3_placed (a0 a1 : Int32) : Int32 := (if a0 = 0 then (if 30 ≤ a1 then (if a1 < 40 then 0 else (if 55 ≤ a1 then 0 else (728 + a1))) else (192 + a1)) else (if a0 = 1 then (if 57 ≤ a1 then 0 else (913 + a1)) else (if 64 ≤ a1 then 0 else (1040 + a1))))
set_option maxHeartbeats 4000000 in
set_option maxRecDepth 100000 in
theorem KX3_placed (l : Launch) (a0 a1 : Int32) : Met l yX3_placed wsX3_placed ({ frames := 0, cells := 0, slots := 0, locals := 0 }) (pcS [.int a0, .int a1]) (vp_Si (fun r => r = fX3_placed a0 a1)) 0 0 (fun _ => False) := by
  refine ofS (cc := cX3_placed) (maxL := 2) (ret := (some .int)) (by decide) rfl (Nat.le_of_ble_eq_true rfl) ?_
  intro p e s m below meth c ls hx hb hr hml hown hts hlocks hl
  have hl : lv_has ls 2 [(0, .int a0), (1, .int a1)] := hl
  refine lv_iload_n hx hb dX3_placed_0 rfl (lv_at hl 0 rfl) ?_
  refine lv_if_ne (tgt := 40) hx hb dX3_placed_1 (by decide) (fun c1_1 => ?_) (fun c1_1 => ?_)
  · skip
    refine lv_iload_n hx hb dX3_placed_40 rfl (lv_at hl 0 rfl) ?_
    refine lv_iconst (v := 1) hx hb dX3_placed_41 (by decide) ?_
    refine lv_icmp_ne (tgt := 63) hx hb dX3_placed_42 (by decide) (fun c42_1 => ?_) (fun c42_1 => ?_)
    · skip
      refine lv_iload_n hx hb dX3_placed_63 rfl (lv_at hl 1 rfl) ?_
      refine lv_bipush (v := 64) hx hb dX3_placed_64 (by decide) ?_
      refine lv_icmp_ge (tgt := 77) hx hb dX3_placed_66 (by decide) (fun c66_1 => ?_) (fun c66_1 => ?_)
      · skip
        refine lv_iconst (v := 0) hx hb dX3_placed_77 (by decide) ?_
        exact rtR hx hb hr hlocks dX3_placed_78 (by unfold fX3_placed; rw [if_neg c1_1, if_neg c42_1, if_pos c66_1])
      · skip
        refine lv_sipush (v := 1040) hx hb dX3_placed_69 (by decide) ?_
        refine lv_iload_n hx hb dX3_placed_72 rfl (lv_at hl 1 rfl) ?_
        refine lv_iadd hx hb dX3_placed_73 ?_
        refine lv_goto (tgt := 78) hx hb dX3_placed_74 (by decide) ?_
        exact rtR hx hb hr hlocks dX3_placed_78 (by unfold fX3_placed; rw [if_neg c1_1, if_neg c42_1, if_neg c66_1])
    · skip
      refine lv_iload_n hx hb dX3_placed_45 rfl (lv_at hl 1 rfl) ?_
      refine lv_bipush (v := 57) hx hb dX3_placed_46 (by decide) ?_
      refine lv_icmp_ge (tgt := 59) hx hb dX3_placed_48 (by decide) (fun c48_1 => ?_) (fun c48_1 => ?_)
      · skip
        refine lv_iconst (v := 0) hx hb dX3_placed_59 (by decide) ?_
        refine lv_goto (tgt := 78) hx hb dX3_placed_60 (by decide) ?_
        exact rtR hx hb hr hlocks dX3_placed_78 (by unfold fX3_placed; rw [if_neg c1_1, if_pos c42_1, if_pos c48_1])
      · skip
        refine lv_sipush (v := 913) hx hb dX3_placed_51 (by decide) ?_
        refine lv_iload_n hx hb dX3_placed_54 rfl (lv_at hl 1 rfl) ?_
        refine lv_iadd hx hb dX3_placed_55 ?_
        refine lv_goto (tgt := 78) hx hb dX3_placed_56 (by decide) ?_
        exact rtR hx hb hr hlocks dX3_placed_78 (by unfold fX3_placed; rw [if_neg c1_1, if_pos c42_1, if_neg c48_1])
  · skip
    refine lv_iload_n hx hb dX3_placed_4 rfl (lv_at hl 1 rfl) ?_
    refine lv_bipush (v := 30) hx hb dX3_placed_5 (by decide) ?_
    refine lv_icmp_ge (tgt := 18) hx hb dX3_placed_7 (by decide) (fun c7_1 => ?_) (fun c7_1 => ?_)
    · skip
      refine lv_iload_n hx hb dX3_placed_18 rfl (lv_at hl 1 rfl) ?_
      refine lv_bipush (v := 40) hx hb dX3_placed_19 (by decide) ?_
      refine lv_icmp_lt (tgt := 38) hx hb dX3_placed_21 (by decide) (fun c21_1 => ?_) (fun c21_1 => ?_)
      · skip
        refine lv_iconst (v := 0) hx hb dX3_placed_38 (by decide) ?_
        exact rtR hx hb hr hlocks dX3_placed_39 (by unfold fX3_placed; rw [if_pos c1_1, if_pos c7_1, if_pos c21_1])
      · skip
        refine lv_iload_n hx hb dX3_placed_24 rfl (lv_at hl 1 rfl) ?_
        refine lv_bipush (v := 55) hx hb dX3_placed_25 (by decide) ?_
        refine lv_icmp_ge (tgt := 38) hx hb dX3_placed_27 (by decide) (fun c27_1 => ?_) (fun c27_1 => ?_)
        · skip
          refine lv_iconst (v := 0) hx hb dX3_placed_38 (by decide) ?_
          exact rtR hx hb hr hlocks dX3_placed_39 (by unfold fX3_placed; rw [if_pos c1_1, if_pos c7_1, if_neg c21_1, if_pos c27_1])
        · skip
          refine lv_sipush (v := 728) hx hb dX3_placed_30 (by decide) ?_
          refine lv_iload_n hx hb dX3_placed_33 rfl (lv_at hl 1 rfl) ?_
          refine lv_iadd hx hb dX3_placed_34 ?_
          refine lv_goto (tgt := 39) hx hb dX3_placed_35 (by decide) ?_
          exact rtR hx hb hr hlocks dX3_placed_39 (by unfold fX3_placed; rw [if_pos c1_1, if_pos c7_1, if_neg c21_1, if_neg c27_1])
    · skip
      refine lv_sipush (v := 192) hx hb dX3_placed_10 (by decide) ?_
      refine lv_iload_n hx hb dX3_placed_13 rfl (lv_at hl 1 rfl) ?_
      refine lv_iadd hx hb dX3_placed_14 ?_
      refine lv_goto (tgt := 39) hx hb dX3_placed_15 (by decide) ?_
      exact rtR hx hb hr hlocks dX3_placed_39 (by unfold fX3_placed; rw [if_pos c1_1, if_neg c7_1])
def fX3_isMark (a0 : Int32) : Int32 := (if a0 < 768 then 0 else (if 782 < a0 then 0 else 1))
set_option maxHeartbeats 4000000 in
set_option maxRecDepth 100000 in
theorem KX3_isMark (l : Launch) (a0 : Int32) : Met l yX3_isMark wsX3_isMark ({ frames := 0, cells := 0, slots := 0, locals := 0 }) (pcS [.int a0]) (vp_Si (fun r => r = fX3_isMark a0)) 0 0 (fun _ => False) := by
  refine ofS (cc := cX3_isMark) (maxL := 1) (ret := (some .boolean)) (by decide) rfl (Nat.le_of_ble_eq_true rfl) ?_
  intro p e s m below meth c ls hx hb hr hml hown hts hlocks hl
  have hl : lv_has ls 1 [(0, .int a0)] := hl
  refine lv_iload_n hx hb dX3_isMark_0 rfl (lv_at hl 0 rfl) ?_
  refine lv_sipush (v := 768) hx hb dX3_isMark_1 (by decide) ?_
  refine lv_icmp_lt (tgt := 18) hx hb dX3_isMark_4 (by decide) (fun c4_1 => ?_) (fun c4_1 => ?_)
  · skip
    refine lv_iconst (v := 0) hx hb dX3_isMark_18 (by decide) ?_
    exact rtRz hx hb hr (by decide) hlocks dX3_isMark_19 (by unfold fX3_isMark; rw [if_pos c4_1])
  · skip
    refine lv_iload_n hx hb dX3_isMark_7 rfl (lv_at hl 0 rfl) ?_
    refine lv_sipush (v := 782) hx hb dX3_isMark_8 (by decide) ?_
    refine lv_icmp_gt (tgt := 18) hx hb dX3_isMark_11 (by decide) (fun c11_1 => ?_) (fun c11_1 => ?_)
    · skip
      refine lv_iconst (v := 0) hx hb dX3_isMark_18 (by decide) ?_
      exact rtRz hx hb hr (by decide) hlocks dX3_isMark_19 (by unfold fX3_isMark; rw [if_neg c4_1, if_pos c11_1])
    · skip
      refine lv_iconst (v := 1) hx hb dX3_isMark_14 (by decide) ?_
      refine lv_goto (tgt := 19) hx hb dX3_isMark_15 (by decide) ?_
      exact rtRz hx hb hr (by decide) hlocks dX3_isMark_19 (by unfold fX3_isMark; rw [if_neg c4_1, if_neg c11_1])
def fX3_isLetter (a0 : Int32) : Int32 := (if a0 < 65 then (if a0 < 97 then 0 else (if 122 < a0 then 0 else 1)) else (if a0 ≤ 90 then 1 else (if a0 < 97 then 0 else (if 122 < a0 then 0 else 1))))
set_option maxHeartbeats 4000000 in
set_option maxRecDepth 100000 in
theorem KX3_isLetter (l : Launch) (a0 : Int32) : Met l yX3_isLetter wsX3_isLetter ({ frames := 0, cells := 0, slots := 0, locals := 0 }) (pcS [.int a0]) (vp_Si (fun r => r = fX3_isLetter a0)) 0 0 (fun _ => False) := by
  refine ofS (cc := cX3_isLetter) (maxL := 1) (ret := (some .boolean)) (by decide) rfl (Nat.le_of_ble_eq_true rfl) ?_
  intro p e s m below meth c ls hx hb hr hml hown hts hlocks hl
  have hl : lv_has ls 1 [(0, .int a0)] := hl
  refine lv_iload_n hx hb dX3_isLetter_0 rfl (lv_at hl 0 rfl) ?_
  refine lv_bipush (v := 65) hx hb dX3_isLetter_1 (by decide) ?_
  refine lv_icmp_lt (tgt := 12) hx hb dX3_isLetter_3 (by decide) (fun c3_1 => ?_) (fun c3_1 => ?_)
  · skip
    refine lv_iload_n hx hb dX3_isLetter_12 rfl (lv_at hl 0 rfl) ?_
    refine lv_bipush (v := 97) hx hb dX3_isLetter_13 (by decide) ?_
    refine lv_icmp_lt (tgt := 28) hx hb dX3_isLetter_15 (by decide) (fun c15_1 => ?_) (fun c15_1 => ?_)
    · skip
      refine lv_iconst (v := 0) hx hb dX3_isLetter_28 (by decide) ?_
      exact rtRz hx hb hr (by decide) hlocks dX3_isLetter_29 (by unfold fX3_isLetter; rw [if_pos c3_1, if_pos c15_1])
    · skip
      refine lv_iload_n hx hb dX3_isLetter_18 rfl (lv_at hl 0 rfl) ?_
      refine lv_bipush (v := 122) hx hb dX3_isLetter_19 (by decide) ?_
      refine lv_icmp_gt (tgt := 28) hx hb dX3_isLetter_21 (by decide) (fun c21_1 => ?_) (fun c21_1 => ?_)
      · skip
        refine lv_iconst (v := 0) hx hb dX3_isLetter_28 (by decide) ?_
        exact rtRz hx hb hr (by decide) hlocks dX3_isLetter_29 (by unfold fX3_isLetter; rw [if_pos c3_1, if_neg c15_1, if_pos c21_1])
      · skip
        refine lv_iconst (v := 1) hx hb dX3_isLetter_24 (by decide) ?_
        refine lv_goto (tgt := 29) hx hb dX3_isLetter_25 (by decide) ?_
        exact rtRz hx hb hr (by decide) hlocks dX3_isLetter_29 (by unfold fX3_isLetter; rw [if_pos c3_1, if_neg c15_1, if_neg c21_1])
  · skip
    refine lv_iload_n hx hb dX3_isLetter_6 rfl (lv_at hl 0 rfl) ?_
    refine lv_bipush (v := 90) hx hb dX3_isLetter_7 (by decide) ?_
    refine lv_icmp_le (tgt := 24) hx hb dX3_isLetter_9 (by decide) (fun c9_1 => ?_) (fun c9_1 => ?_)
    · skip
      refine lv_iconst (v := 1) hx hb dX3_isLetter_24 (by decide) ?_
      refine lv_goto (tgt := 29) hx hb dX3_isLetter_25 (by decide) ?_
      exact rtRz hx hb hr (by decide) hlocks dX3_isLetter_29 (by unfold fX3_isLetter; rw [if_neg c3_1, if_pos c9_1])
    · skip
      refine lv_iload_n hx hb dX3_isLetter_12 rfl (lv_at hl 0 rfl) ?_
      refine lv_bipush (v := 97) hx hb dX3_isLetter_13 (by decide) ?_
      refine lv_icmp_lt (tgt := 28) hx hb dX3_isLetter_15 (by decide) (fun c15_2 => ?_) (fun c15_2 => ?_)
      · skip
        refine lv_iconst (v := 0) hx hb dX3_isLetter_28 (by decide) ?_
        exact rtRz hx hb hr (by decide) hlocks dX3_isLetter_29 (by unfold fX3_isLetter; rw [if_neg c3_1, if_neg c9_1, if_pos c15_2])
      · skip
        refine lv_iload_n hx hb dX3_isLetter_18 rfl (lv_at hl 0 rfl) ?_
        refine lv_bipush (v := 122) hx hb dX3_isLetter_19 (by decide) ?_
        refine lv_icmp_gt (tgt := 28) hx hb dX3_isLetter_21 (by decide) (fun c21_2 => ?_) (fun c21_2 => ?_)
        · skip
          refine lv_iconst (v := 0) hx hb dX3_isLetter_28 (by decide) ?_
          exact rtRz hx hb hr (by decide) hlocks dX3_isLetter_29 (by unfold fX3_isLetter; rw [if_neg c3_1, if_neg c9_1, if_neg c15_2, if_pos c21_2])
        · skip
          refine lv_iconst (v := 1) hx hb dX3_isLetter_24 (by decide) ?_
          refine lv_goto (tgt := 29) hx hb dX3_isLetter_25 (by decide) ?_
          exact rtRz hx hb hr (by decide) hlocks dX3_isLetter_29 (by unfold fX3_isLetter; rw [if_neg c3_1, if_neg c9_1, if_neg c15_2, if_neg c21_2])
def fX3_isPlain (a0 : Int32) : Int32 := (if a0 < 32 then 0 else (if 126 < a0 then 0 else 1))
set_option maxHeartbeats 4000000 in
set_option maxRecDepth 100000 in
theorem KX3_isPlain (l : Launch) (a0 : Int32) : Met l yX3_isPlain wsX3_isPlain ({ frames := 0, cells := 0, slots := 0, locals := 0 }) (pcS [.int a0]) (vp_Si (fun r => r = fX3_isPlain a0)) 0 0 (fun _ => False) := by
  refine ofS (cc := cX3_isPlain) (maxL := 1) (ret := (some .boolean)) (by decide) rfl (Nat.le_of_ble_eq_true rfl) ?_
  intro p e s m below meth c ls hx hb hr hml hown hts hlocks hl
  have hl : lv_has ls 1 [(0, .int a0)] := hl
  refine lv_iload_n hx hb dX3_isPlain_0 rfl (lv_at hl 0 rfl) ?_
  refine lv_bipush (v := 32) hx hb dX3_isPlain_1 (by decide) ?_
  refine lv_icmp_lt (tgt := 16) hx hb dX3_isPlain_3 (by decide) (fun c3_1 => ?_) (fun c3_1 => ?_)
  · skip
    refine lv_iconst (v := 0) hx hb dX3_isPlain_16 (by decide) ?_
    exact rtRz hx hb hr (by decide) hlocks dX3_isPlain_17 (by unfold fX3_isPlain; rw [if_pos c3_1])
  · skip
    refine lv_iload_n hx hb dX3_isPlain_6 rfl (lv_at hl 0 rfl) ?_
    refine lv_bipush (v := 126) hx hb dX3_isPlain_7 (by decide) ?_
    refine lv_icmp_gt (tgt := 16) hx hb dX3_isPlain_9 (by decide) (fun c9_1 => ?_) (fun c9_1 => ?_)
    · skip
      refine lv_iconst (v := 0) hx hb dX3_isPlain_16 (by decide) ?_
      exact rtRz hx hb hr (by decide) hlocks dX3_isPlain_17 (by unfold fX3_isPlain; rw [if_neg c3_1, if_pos c9_1])
    · skip
      refine lv_iconst (v := 1) hx hb dX3_isPlain_12 (by decide) ?_
      refine lv_goto (tgt := 17) hx hb dX3_isPlain_13 (by decide) ?_
      exact rtRz hx hb hr (by decide) hlocks dX3_isPlain_17 (by unfold fX3_isPlain; rw [if_neg c3_1, if_neg c9_1])
def fX3_letterOf (a0 : Int32) : Int32 := (((a0 - 57344) - (a0 - 57344) / 64 * 64) + 64)
set_option maxHeartbeats 4000000 in
set_option maxRecDepth 100000 in
theorem KX3_letterOf (l : Launch) (a0 : Int32) : Met l yX3_letterOf wsX3_letterOf ({ frames := 0, cells := 0, slots := 0, locals := 0 }) (pcS [.int a0]) (vp_Si (fun r => r = fX3_letterOf a0)) 0 0 (fun _ => False) := by
  refine ofS (cc := cX3_letterOf) (maxL := 1) (ret := (some .int)) (by decide) rfl (Nat.le_of_ble_eq_true rfl) ?_
  intro p e s m below meth c ls hx hb hr hml hown hts hlocks hl
  have hl : lv_has ls 1 [(0, .int a0)] := hl
  refine lv_iload_n hx hb dX3_letterOf_0 rfl (lv_at hl 0 rfl) ?_
  refine lv_ldc (v := 57344) hx hb hown (hts (.constant RX3 46 57344) (by decide +kernel)) dX3_letterOf_1 ?_
  refine lv_isub hx hb dX3_letterOf_3 ?_
  refine lv_bipush (v := 64) hx hb dX3_letterOf_4 (by decide) ?_
  refine lv_irem hx hb dX3_letterOf_6 (by decide) ?_
  refine lv_bipush (v := 64) hx hb dX3_letterOf_7 (by decide) ?_
  refine lv_iadd hx hb dX3_letterOf_9 ?_
  exact rtR hx hb hr hlocks dX3_letterOf_10 (by rfl)
def fX3_markOf (a0 : Int32) : Int32 := (768 + ((a0 - 57344) / 64))
set_option maxHeartbeats 4000000 in
set_option maxRecDepth 100000 in
theorem KX3_markOf (l : Launch) (a0 : Int32) : Met l yX3_markOf wsX3_markOf ({ frames := 0, cells := 0, slots := 0, locals := 0 }) (pcS [.int a0]) (vp_Si (fun r => r = fX3_markOf a0)) 0 0 (fun _ => False) := by
  refine ofS (cc := cX3_markOf) (maxL := 1) (ret := (some .int)) (by decide) rfl (Nat.le_of_ble_eq_true rfl) ?_
  intro p e s m below meth c ls hx hb hr hml hown hts hlocks hl
  have hl : lv_has ls 1 [(0, .int a0)] := hl
  refine lv_sipush (v := 768) hx hb dX3_markOf_0 (by decide) ?_
  refine lv_iload_n hx hb dX3_markOf_3 rfl (lv_at hl 0 rfl) ?_
  refine lv_ldc (v := 57344) hx hb hown (hts (.constant RX3 46 57344) (by decide +kernel)) dX3_markOf_4 ?_
  refine lv_isub hx hb dX3_markOf_6 ?_
  refine lv_bipush (v := 64) hx hb dX3_markOf_7 (by decide) ?_
  refine lv_idiv hx hb dX3_markOf_9 (by decide) ?_
  refine lv_iadd hx hb dX3_markOf_10 ?_
  exact rtR hx hb hr hlocks dX3_markOf_11 (by rfl)
def fX3_isComposed (a0 : Int32) : Int32 := (if a0 < 57344 then 0 else (if 58304 ≤ a0 then 0 else (if (fX3_isLetter (((a0 - 57344) - (a0 - 57344) / 64 * 64) + 64)) = 0 then 0 else 1)))
set_option maxHeartbeats 4000000 in
set_option maxRecDepth 100000 in
theorem KX3_isComposed (l : Launch) (a0 : Int32) : Met l yX3_isComposed wsX3_isComposed ({ frames := 1, cells := 0, slots := 0, locals := 20 }) (pcS [.int a0]) (vp_Si (fun r => r = fX3_isComposed a0)) 0 0 (fun _ => False) := by
  refine ofS (cc := cX3_isComposed) (maxL := 1) (ret := (some .boolean)) (by decide) rfl (Nat.le_of_ble_eq_true rfl) ?_
  intro p e s m below meth c ls hx hb hr hml hown hts hlocks hl
  have hl : lv_has ls 1 [(0, .int a0)] := hl
  refine lv_iload_n hx hb dX3_isComposed_0 rfl (lv_at hl 0 rfl) ?_
  refine lv_ldc (v := 57344) hx hb hown (hts (.constant RX3 46 57344) (by decide +kernel)) dX3_isComposed_1 ?_
  refine lv_icmp_lt (tgt := 32) hx hb dX3_isComposed_3 (by decide) (fun c3_1 => ?_) (fun c3_1 => ?_)
  · skip
    refine lv_iconst (v := 0) hx hb dX3_isComposed_32 (by decide) ?_
    exact rtRz hx hb hr (by decide) hlocks dX3_isComposed_33 (by unfold fX3_isComposed; rw [if_pos c3_1])
  · skip
    refine lv_iload_n hx hb dX3_isComposed_6 rfl (lv_at hl 0 rfl) ?_
    refine lv_ldc (v := 58304) hx hb hown (hts (.constant RX3 47 58304) (by decide +kernel)) dX3_isComposed_7 ?_
    refine lv_icmp_ge (tgt := 32) hx hb dX3_isComposed_9 (by decide) (fun c9_1 => ?_) (fun c9_1 => ?_)
    · skip
      refine lv_iconst (v := 0) hx hb dX3_isComposed_32 (by decide) ?_
      exact rtRz hx hb hr (by decide) hlocks dX3_isComposed_33 (by unfold fX3_isComposed; rw [if_neg c3_1, if_pos c9_1])
    · skip
      refine lv_iload_n hx hb dX3_isComposed_12 rfl (lv_at hl 0 rfl) ?_
      refine lv_ldc (v := 57344) hx hb hown (hts (.constant RX3 46 57344) (by decide +kernel)) dX3_isComposed_13 ?_
      refine lv_isub hx hb dX3_isComposed_15 ?_
      refine lv_bipush (v := 64) hx hb dX3_isComposed_16 (by decide) ?_
      refine lv_irem hx hb dX3_isComposed_18 (by decide) ?_
      refine lv_bipush (v := 64) hx hb dX3_isComposed_19 (by decide) ?_
      refine lv_iadd hx hb dX3_isComposed_21 ?_
      refine vp_callSi (W.runS ⟨hx, hb, hml, hown, hts⟩ (KX3_isLetter l (((a0 - 57344) - (a0 - 57344) / 64 * 64) + 64)) (va_cwS 1 hts gX3_isComposed_X3_isLetter rfl rfl rfl (by decide +kernel) ⟨Nat.le_of_ble_eq_true rfl, Nat.le_of_ble_eq_true rfl⟩) pcS_S rfl rfl hl.1 rfl (lv_room (Nat.le_of_ble_eq_true rfl)) dX3_isComposed_22 ⟨Nat.zero_le _, Nat.zero_le _⟩) (fun r9 hr9 => ?_)
      subst r9
      refine lv_if_eq (tgt := 32) hx hb dX3_isComposed_25 (by decide) (fun c25_1 => ?_) (fun c25_1 => ?_)
      · skip
        refine lv_iconst (v := 0) hx hb dX3_isComposed_32 (by decide) ?_
        exact rtRz hx hb hr (by decide) hlocks dX3_isComposed_33 (by unfold fX3_isComposed; rw [if_neg c3_1, if_neg c9_1, if_pos c25_1])
      · skip
        refine lv_iconst (v := 1) hx hb dX3_isComposed_28 (by decide) ?_
        refine lv_goto (tgt := 33) hx hb dX3_isComposed_29 (by decide) ?_
        exact rtRz hx hb hr (by decide) hlocks dX3_isComposed_33 (by unfold fX3_isComposed; rw [if_neg c3_1, if_neg c9_1, if_neg c25_1])
