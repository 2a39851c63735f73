/-! the class: escapes, codes of new bytes, telling, one code written -/
def fX2_setOfEscape (v1 v2 : Int32) : Int32 := (if v1 = 103 then (if (v2 - 48) < 0 then (-1) else (if 3 ≤ (v2 - 48) then (-1) else (v2 - 48))) else (-1))
set_option maxHeartbeats 4000000 in
set_option maxRecDepth 100000 in
theorem KX2_setOfEscape (l : Launch) (D : va_G) (h t0 t1 t2 t3 t4 t5 t6 t7 t8 t9 : Nat) (si : Int32) (b0 : Nat) (c0 : ClassId) (f0 : Nat → Int32) (x0 : List Int32) (o0 : rw_ok f0 200 x0) (i v1 v2 : Int32) (e1 : ox_at x0 (i + 1) = v1) (e2 : ox_at x0 (i + 2) = v2) : Met l yX2_setOfEscape wsX2_setOfEscape ({ frames := 1, cells := 0, slots := 0, locals := 21 }) (pcR D [(h, .inr (3, [.ref t0, .ref t1, .ref t2, .ref t3, .ref t4, .ref t5, .ref t6, .ref t7, .ref t8, .ref t9, .int si])), (t0, .inr (2, [.ref b0, .int (nI x0.length)])), (b0, .inl (c0, 200, .inl f0))] [(c0, .byte)] [.ref h, .int i]) (vp_Si (fun r => r = fX2_setOfEscape v1 v2)) 0 0 (fun _ => False) := by
  refine ofR (cc := cX2_setOfEscape) (maxL := 4) (ret := (some .int)) (by decide) rfl (Nat.le_of_ble_eq_true rfl) ?_
  intro p e s m below meth c ls hx hb hr hml hown hts hlocks hP hK hN hl
  have hl : lv_has ls 4 [(0, .ref h), (1, .int i)] := hl
  refine lv_aload_n hx hb dX2_setOfEscape_0 rfl (lv_at hl 0 rfl) ?_
  refine va_get (D := D) (ci := 3) (v := .ref t0) (C := RX2) (T := TX2) (N := 11) hx hb hts (by decide +kernel) hown hK hP 0 rfl rfl 0 (by decide) (hts (.fieldLink RX2 14 "CharacterRows" "collected" "LCharacterRows$Octets;") (by decide +kernel)) (fun _ h9 => h9) rfl dX2_setOfEscape_1 ?_
  refine lv_iload_n hx hb dX2_setOfEscape_4 rfl (lv_at hl 1 rfl) ?_
  refine lv_iconst (v := 2) hx hb dX2_setOfEscape_5 (by decide) ?_
  refine lv_iadd hx hb dX2_setOfEscape_6 ?_
  refine vp_callSi (W.runV ⟨hx, hb, hml, hown, hts⟩ (KX1_at l D t0 b0 c0 f0 x0 200 (by decide) o0 (i + 2)) (cwV 1 hts gX2_setOfEscape_X1_at rfl rfl rfl (by decide +kernel) ⟨Nat.le_of_ble_eq_true rfl, Nat.le_of_ble_eq_true rfl⟩) (pcR_V (hP.sub (ws' := [(t0, .inr (2, [.ref b0, .int (nI x0.length)])), (b0, .inl (c0, 200, .inl f0))]) [1, 2] rfl) (hK.sub (tys' := [(c0, .byte)]) [0] rfl) hN 0 rfl rfl) rfl rfl hl.1 rfl (lv_room (Nat.le_of_ble_eq_true rfl)) dX2_setOfEscape_7 ⟨Nat.zero_le _, Nat.zero_le _⟩) (fun r9 hr9 => ?_)
  replace hr9 : r9 = v2 := hr9.trans e2
  subst r9
  refine lv_bipush (v := 48) hx hb dX2_setOfEscape_10 (by decide) ?_
  refine lv_isub hx hb dX2_setOfEscape_12 ?_
  refine lv_istore_n (lv' := [(2, .int (v2 - 48)), (0, .ref h), (1, .int i)]) hx hb dX2_setOfEscape_13 rfl hl (by decide) rfl (fun ls hl => ?_)
  refine lv_aload_n hx hb dX2_setOfEscape_14 rfl (lv_at hl 1 rfl) ?_
  refine va_get (D := D) (ci := 3) (v := .ref t0) (C := RX2) (T := TX2) (N := 11) hx hb hts (by decide +kernel) hown hK hP 0 rfl rfl 0 (by decide) (hts (.fieldLink RX2 14 "CharacterRows" "collected" "LCharacterRows$Octets;") (by decide +kernel)) (fun _ h9 => h9) rfl dX2_setOfEscape_15 ?_
  refine lv_iload_n hx hb dX2_setOfEscape_18 rfl (lv_at hl 2 rfl) ?_
  refine lv_iconst (v := 1) hx hb dX2_setOfEscape_19 (by decide) ?_
  refine lv_iadd hx hb dX2_setOfEscape_20 ?_
  refine vp_callSi (W.runV ⟨hx, hb, hml, hown, hts⟩ (KX1_at l D t0 b0 c0 f0 x0 200 (by decide) o0 (i + 1)) (cwV 1 hts gX2_setOfEscape_X1_at rfl rfl rfl (by decide +kernel) ⟨Nat.le_of_ble_eq_true rfl, Nat.le_of_ble_eq_true rfl⟩) (pcR_V (hP.sub (ws' := [(t0, .inr (2, [.ref b0, .int (nI x0.length)])), (b0, .inl (c0, 200, .inl f0))]) [1, 2] rfl) (hK.sub (tys' := [(c0, .byte)]) [0] rfl) hN 0 rfl rfl) rfl rfl hl.1 rfl (lv_room (Nat.le_of_ble_eq_true rfl)) dX2_setOfEscape_21 ⟨Nat.zero_le _, Nat.zero_le _⟩) (fun r9 hr9 => ?_)
  replace hr9 : r9 = v1 := hr9.trans e1
  subst r9
  refine lv_bipush (v := 103) hx hb dX2_setOfEscape_24 (by decide) ?_
  refine lv_icmp_ne (tgt := 42) hx hb dX2_setOfEscape_26 (by decide) (fun c26_1 => ?_) (fun c26_1 => ?_)
  · skip
    refine lv_iconst (v := 0) hx hb dX2_setOfEscape_42 (by decide) ?_
    refine lv_istore_n (lv' := [(3, .int 0), (2, .int (v2 - 48)), (0, .ref h), (1, .int i)]) hx hb dX2_setOfEscape_43 rfl hl (by decide) rfl (fun ls hl => ?_)
    refine lv_iload_n hx hb dX2_setOfEscape_44 rfl (lv_at hl 0 rfl) ?_
    refine lv_if_eq (tgt := 52) hx hb dX2_setOfEscape_45 (by decide) (fun c45_1 => ?_) (fun c45_1 => ?_)
    · skip
      refine lv_iconst (v := (-1)) hx hb dX2_setOfEscape_52 (by decide) ?_
      exact rtR hx hb hr hlocks dX2_setOfEscape_53 (by unfold fX2_setOfEscape; rw [if_neg c26_1])
    · exact absurd c45_1 (by decide)
  · skip
    refine lv_iload_n hx hb dX2_setOfEscape_29 rfl (lv_at hl 0 rfl) ?_
    refine lv_if_lt (tgt := 42) hx hb dX2_setOfEscape_30 (by decide) (fun c30_1 => ?_) (fun c30_1 => ?_)
    · skip
      refine lv_iconst (v := 0) hx hb dX2_setOfEscape_42 (by decide) ?_
      refine lv_istore_n (lv' := [(3, .int 0), (2, .int (v2 - 48)), (0, .ref h), (1, .int i)]) hx hb dX2_setOfEscape_43 rfl hl (by decide) rfl (fun ls hl => ?_)
      refine lv_iload_n hx hb dX2_setOfEscape_44 rfl (lv_at hl 0 rfl) ?_
      refine lv_if_eq (tgt := 52) hx hb dX2_setOfEscape_45 (by decide) (fun c45_2 => ?_) (fun c45_2 => ?_)
      · skip
        refine lv_iconst (v := (-1)) hx hb dX2_setOfEscape_52 (by decide) ?_
        exact rtR hx hb hr hlocks dX2_setOfEscape_53 (by unfold fX2_setOfEscape; rw [if_pos c26_1, if_pos c30_1])
      · exact absurd c45_2 (by decide)
    · skip
      refine lv_iload_n hx hb dX2_setOfEscape_33 rfl (lv_at hl 0 rfl) ?_
      refine lv_iconst (v := 3) hx hb dX2_setOfEscape_34 (by decide) ?_
      refine lv_icmp_ge (tgt := 42) hx hb dX2_setOfEscape_35 (by decide) (fun c35_1 => ?_) (fun c35_1 => ?_)
      · skip
        refine lv_iconst (v := 0) hx hb dX2_setOfEscape_42 (by decide) ?_
        refine lv_istore_n (lv' := [(3, .int 0), (2, .int (v2 - 48)), (0, .ref h), (1, .int i)]) hx hb dX2_setOfEscape_43 rfl hl (by decide) rfl (fun ls hl => ?_)
        refine lv_iload_n hx hb dX2_setOfEscape_44 rfl (lv_at hl 0 rfl) ?_
        refine lv_if_eq (tgt := 52) hx hb dX2_setOfEscape_45 (by decide) (fun c45_3 => ?_) (fun c45_3 => ?_)
        · skip
          refine lv_iconst (v := (-1)) hx hb dX2_setOfEscape_52 (by decide) ?_
          exact rtR hx hb hr hlocks dX2_setOfEscape_53 (by unfold fX2_setOfEscape; rw [if_pos c26_1, if_neg c30_1, if_pos c35_1])
        · exact absurd c45_3 (by decide)
      · skip
        refine lv_iconst (v := 1) hx hb dX2_setOfEscape_38 (by decide) ?_
        refine lv_goto (tgt := 43) hx hb dX2_setOfEscape_39 (by decide) ?_
        refine lv_istore_n (lv' := [(3, .int 1), (2, .int (v2 - 48)), (0, .ref h), (1, .int i)]) hx hb dX2_setOfEscape_43 rfl hl (by decide) rfl (fun ls hl => ?_)
        refine lv_iload_n hx hb dX2_setOfEscape_44 rfl (lv_at hl 0 rfl) ?_
        refine lv_if_eq (tgt := 52) hx hb dX2_setOfEscape_45 (by decide) (fun c45_4 => ?_) (fun c45_4 => ?_)
        · exact absurd c45_4 (by decide)
        · skip
          refine lv_iload_n hx hb dX2_setOfEscape_48 rfl (lv_at hl 1 rfl) ?_
          refine lv_goto (tgt := 53) hx hb dX2_setOfEscape_49 (by decide) ?_
          exact rtR hx hb hr hlocks dX2_setOfEscape_53 (by unfold fX2_setOfEscape; rw [if_pos c26_1, if_neg c30_1, if_neg c35_1])
def fX2_codeOfNewBytes (v0 v1 v2 : Int32) : Int32 := (if 128 ≤ v0 then (if v0 < 192 then (-1) else (if v0 < 240 then (if 224 ≤ v0 then (if 224 ≤ v0 then (if v1 < 128 then (-1) else (if v1 ≤ 191 then (if v2 < 128 then (-1) else (if v2 ≤ 191 then (if (fX2_bytesBehindFirst (((((((v0 - 224) * 64) + v1) - 128) * 64) + v2) - 128)) = 2 then (((((((v0 - 224) * 64) + v1) - 128) * 64) + v2) - 128) else (-1)) else (-1))) else (-1))) else (if v1 < 128 then (-1) else (if v1 ≤ 191 then (if v2 < 128 then (-1) else (if v2 ≤ 191 then (if (fX2_bytesBehindFirst (((((((v0 - 192) * 64) + v1) - 128) * 64) + v2) - 128)) = 2 then (((((((v0 - 192) * 64) + v1) - 128) * 64) + v2) - 128) else (-1)) else (-1))) else (-1)))) else (if 224 ≤ v0 then (if v1 < 128 then (-1) else (if v1 ≤ 191 then (if (fX2_bytesBehindFirst ((((v0 - 224) * 64) + v1) - 128)) = 1 then ((((v0 - 224) * 64) + v1) - 128) else (-1)) else (-1))) else (if v1 < 128 then (-1) else (if v1 ≤ 191 then (if (fX2_bytesBehindFirst ((((v0 - 192) * 64) + v1) - 128)) = 1 then ((((v0 - 192) * 64) + v1) - 128) else (-1)) else (-1))))) else (-1))) else v0)
set_option maxHeartbeats 4000000 in
set_option maxRecDepth 100000 in
theorem KX2_codeOfNewBytes (l : Launch) (D : va_G) (h t0 t1 t2 t3 t4 t5 t6 t7 t8 t9 : Nat) (si : Int32) (b0 : Nat) (c0 : ClassId) (f0 : Nat → Int32) (x0 : List Int32) (o0 : rw_ok f0 200 x0) (i v0 v1 v2 : Int32) (e0 : ox_at x0 i = v0) (e1 : ox_at x0 (i + 1) = v1) (e2 : ox_at x0 (i + 2) = v2) : Met l yX2_codeOfNewBytes wsX2_codeOfNewBytes ({ frames := 1, cells := 0, slots := 0, locals := 21 }) (pcR D [(h, .inr (3, [.ref t0, .ref t1, .ref t2, .ref t3, .ref t4, .ref t5, .ref t6, .ref t7, .ref t8, .ref t9, .int si])), (t0, .inr (2, [.ref b0, .int (nI x0.length)])), (b0, .inl (c0, 200, .inl f0))] [(c0, .byte)] [.ref h, .int i]) (vp_Si (fun r => r = fX2_codeOfNewBytes v0 v1 v2)) 0 0 (fun _ => False) := by
  refine ofR (cc := cX2_codeOfNewBytes) (maxL := 7) (ret := (some .int)) (by decide) rfl (Nat.le_of_ble_eq_true rfl) ?_
  intro p e s m below meth c ls hx hb hr hml hown hts hlocks hP hK hN hl
  have hl : lv_has ls 7 [(0, .ref h), (1, .int i)] := hl
  refine lv_aload_n hx hb dX2_codeOfNewBytes_0 rfl (lv_at hl 0 rfl) ?_
  refine va_get (D := D) (ci := 3) (v := .ref t0) (C := RX2) (T := TX2) (N := 11) hx hb hts (by decide +kernel) hown hK hP 0 rfl rfl 0 (by decide) (hts (.fieldLink RX2 14 "CharacterRows" "collected" "LCharacterRows$Octets;") (by decide +kernel)) (fun _ h9 => h9) rfl dX2_codeOfNewBytes_1 ?_
  refine lv_iload_n hx hb dX2_codeOfNewBytes_4 rfl (lv_at hl 1 rfl) ?_
  refine vp_callSi (W.runV ⟨hx, hb, hml, hown, hts⟩ (KX1_at l D t0 b0 c0 f0 x0 200 (by decide) o0 i) (cwV 1 hts gX2_codeOfNewBytes_X1_at rfl rfl rfl (by decide +kernel) ⟨Nat.le_of_ble_eq_true rfl, Nat.le_of_ble_eq_true rfl⟩) (pcR_V (hP.sub (ws' := [(t0, .inr (2, [.ref b0, .int (nI x0.length)])), (b0, .inl (c0, 200, .inl f0))]) [1, 2] rfl) (hK.sub (tys' := [(c0, .byte)]) [0] rfl) hN 0 rfl rfl) rfl rfl hl.1 rfl (lv_room (Nat.le_of_ble_eq_true rfl)) dX2_codeOfNewBytes_5 ⟨Nat.zero_le _, Nat.zero_le _⟩) (fun r9 hr9 => ?_)
  replace hr9 : r9 = v0 := hr9.trans e0
  subst r9
  refine lv_istore_n (lv' := [(2, .int v0), (0, .ref h), (1, .int i)]) hx hb dX2_codeOfNewBytes_8 rfl hl (by decide) rfl (fun ls hl => ?_)
  refine lv_iload_n hx hb dX2_codeOfNewBytes_9 rfl (lv_at hl 0 rfl) ?_
  refine lv_sipush (v := 128) hx hb dX2_codeOfNewBytes_10 (by decide) ?_
  refine lv_icmp_ge (tgt := 18) hx hb dX2_codeOfNewBytes_13 (by decide) (fun c13_1 => ?_) (fun c13_1 => ?_)
  · skip
    refine lv_iload_n hx hb dX2_codeOfNewBytes_18 rfl (lv_at hl 0 rfl) ?_
    refine lv_sipush (v := 192) hx hb dX2_codeOfNewBytes_19 (by decide) ?_
    refine lv_icmp_lt (tgt := 32) hx hb dX2_codeOfNewBytes_22 (by decide) (fun c22_1 => ?_) (fun c22_1 => ?_)
    · skip
      refine lv_iconst (v := (-1)) hx hb dX2_codeOfNewBytes_32 (by decide) ?_
      exact rtR hx hb hr hlocks dX2_codeOfNewBytes_33 (by unfold fX2_codeOfNewBytes; rw [if_pos c13_1, if_pos c22_1])
    · skip
      refine lv_iload_n hx hb dX2_codeOfNewBytes_25 rfl (lv_at hl 0 rfl) ?_
      refine lv_sipush (v := 240) hx hb dX2_codeOfNewBytes_26 (by decide) ?_
      refine lv_icmp_lt (tgt := 34) hx hb dX2_codeOfNewBytes_29 (by decide) (fun c29_1 => ?_) (fun c29_1 => ?_)
      · skip
        refine lv_iload_n hx hb dX2_codeOfNewBytes_34 rfl (lv_at hl 0 rfl) ?_
        refine lv_sipush (v := 224) hx hb dX2_codeOfNewBytes_35 (by decide) ?_
        refine lv_icmp_ge (tgt := 45) hx hb dX2_codeOfNewBytes_38 (by decide) (fun c38_1 => ?_) (fun c38_1 => ?_)
        · skip
          refine lv_iconst (v := 2) hx hb dX2_codeOfNewBytes_45 (by decide) ?_
          refine lv_istore_n (lv' := [(3, .int 2), (2, .int v0), (0, .ref h), (1, .int i)]) hx hb dX2_codeOfNewBytes_46 rfl hl (by decide) rfl (fun ls hl => ?_)
          refine lv_iload_n hx hb dX2_codeOfNewBytes_47 rfl (lv_at hl 1 rfl) ?_
          refine lv_sipush (v := 224) hx hb dX2_codeOfNewBytes_48 (by decide) ?_
          refine lv_icmp_ge (tgt := 62) hx hb dX2_codeOfNewBytes_51 (by decide) (fun c51_1 => ?_) (fun c51_1 => ?_)
          · skip
            refine lv_iload_n hx hb dX2_codeOfNewBytes_62 rfl (lv_at hl 1 rfl) ?_
            refine lv_sipush (v := 224) hx hb dX2_codeOfNewBytes_63 (by decide) ?_
            refine lv_isub hx hb dX2_codeOfNewBytes_66 ?_
            refine lv_istore (lv' := [(4, .int (v0 - 224)), (3, .int 2), (2, .int v0), (0, .ref h), (1, .int i)]) hx hb dX2_codeOfNewBytes_67 hl (by decide) rfl (fun ls hl => ?_)
            refine lv_iconst (v := 1) hx hb dX2_codeOfNewBytes_69 (by decide) ?_
            refine lv_istore (lv' := [(5, .int 1), (4, .int (v0 - 224)), (3, .int 2), (2, .int v0), (0, .ref h), (1, .int i)]) hx hb dX2_codeOfNewBytes_70 hl (by decide) rfl (fun ls hl => ?_)
            refine lv_iload hx hb dX2_codeOfNewBytes_72 (lv_at hl 0 rfl) ?_
            refine lv_iload_n hx hb dX2_codeOfNewBytes_74 rfl (lv_at hl 2 rfl) ?_
            refine lv_icmp_gt (tgt := 129) hx hb dX2_codeOfNewBytes_75 (by decide) (fun c75_1 => ?_) (fun c75_1 => ?_)
            · exact absurd c75_1 (by decide)
            · skip
              refine lv_aload_n hx hb dX2_codeOfNewBytes_78 rfl (lv_at hl 4 rfl) ?_
              refine va_get (D := D) (ci := 3) (v := .ref t0) (C := RX2) (T := TX2) (N := 11) hx hb hts (by decide +kernel) hown hK hP 0 rfl rfl 0 (by decide) (hts (.fieldLink RX2 14 "CharacterRows" "collected" "LCharacterRows$Octets;") (by decide +kernel)) (fun _ h9 => h9) rfl dX2_codeOfNewBytes_79 ?_
              refine lv_iload_n hx hb dX2_codeOfNewBytes_82 rfl (lv_at hl 5 rfl) ?_
              refine lv_iload hx hb dX2_codeOfNewBytes_83 (lv_at hl 0 rfl) ?_
              refine lv_iadd hx hb dX2_codeOfNewBytes_85 ?_
              refine vp_callSi (W.runV ⟨hx, hb, hml, hown, hts⟩ (KX1_at l D t0 b0 c0 f0 x0 200 (by decide) o0 (i + 1)) (cwV 1 hts gX2_codeOfNewBytes_X1_at rfl rfl rfl (by decide +kernel) ⟨Nat.le_of_ble_eq_true rfl, Nat.le_of_ble_eq_true rfl⟩) (pcR_V (hP.sub (ws' := [(t0, .inr (2, [.ref b0, .int (nI x0.length)])), (b0, .inl (c0, 200, .inl f0))]) [1, 2] rfl) (hK.sub (tys' := [(c0, .byte)]) [0] rfl) hN 0 rfl rfl) rfl rfl hl.1 rfl (lv_room (Nat.le_of_ble_eq_true rfl)) dX2_codeOfNewBytes_86 ⟨Nat.zero_le _, Nat.zero_le _⟩) (fun r9 hr9 => ?_)
              replace hr9 : r9 = v1 := hr9.trans e1
              subst r9
              refine lv_istore (lv' := [(6, .int v1), (5, .int 1), (4, .int (v0 - 224)), (3, .int 2), (2, .int v0), (0, .ref h), (1, .int i)]) hx hb dX2_codeOfNewBytes_89 hl (by decide) rfl (fun ls hl => ?_)
              refine lv_iload hx hb dX2_codeOfNewBytes_91 (lv_at hl 0 rfl) ?_
              refine lv_sipush (v := 128) hx hb dX2_codeOfNewBytes_93 (by decide) ?_
              refine lv_icmp_lt (tgt := 107) hx hb dX2_codeOfNewBytes_96 (by decide) (fun c96_1 => ?_) (fun c96_1 => ?_)
              · skip
                refine lv_iconst (v := (-1)) hx hb dX2_codeOfNewBytes_107 (by decide) ?_
                exact rtR hx hb hr hlocks dX2_codeOfNewBytes_108 (by unfold fX2_codeOfNewBytes; rw [if_pos c13_1, if_neg c22_1, if_pos c29_1, if_pos c38_1, if_pos c51_1, if_pos c96_1])
              · skip
                refine lv_iload hx hb dX2_codeOfNewBytes_99 (lv_at hl 0 rfl) ?_
                refine lv_sipush (v := 191) hx hb dX2_codeOfNewBytes_101 (by decide) ?_
                refine lv_icmp_le (tgt := 109) hx hb dX2_codeOfNewBytes_104 (by decide) (fun c104_1 => ?_) (fun c104_1 => ?_)
                · skip
                  refine lv_iload hx hb dX2_codeOfNewBytes_109 (lv_at hl 2 rfl) ?_
                  refine lv_bipush (v := 64) hx hb dX2_codeOfNewBytes_111 (by decide) ?_
                  refine lv_imul hx hb dX2_codeOfNewBytes_113 ?_
                  refine lv_iload hx hb dX2_codeOfNewBytes_114 (lv_at hl 0 rfl) ?_
                  refine lv_iadd hx hb dX2_codeOfNewBytes_116 ?_
                  refine lv_sipush (v := 128) hx hb dX2_codeOfNewBytes_117 (by decide) ?_
                  refine lv_isub hx hb dX2_codeOfNewBytes_120 ?_
                  refine lv_istore (lv' := [(4, .int ((((v0 - 224) * 64) + v1) - 128)), (6, .int v1), (5, .int 1), (3, .int 2), (2, .int v0), (0, .ref h), (1, .int i)]) hx hb dX2_codeOfNewBytes_121 hl (by decide) rfl (fun ls hl => ?_)
                  refine lv_iinc (v := 2) (lv' := [(5, .int 2), (4, .int ((((v0 - 224) * 64) + v1) - 128)), (6, .int v1), (3, .int 2), (2, .int v0), (0, .ref h), (1, .int i)]) hx hb dX2_codeOfNewBytes_123 hl (k := 2) rfl (by decide) (by decide) rfl (fun ls hl => ?_)
                  refine lv_goto (tgt := 72) hx hb dX2_codeOfNewBytes_126 (by decide) ?_
                  refine lv_iload hx hb dX2_codeOfNewBytes_72 (lv_at hl 0 rfl) ?_
                  refine lv_iload_n hx hb dX2_codeOfNewBytes_74 rfl (lv_at hl 3 rfl) ?_
                  refine lv_icmp_gt (tgt := 129) hx hb dX2_codeOfNewBytes_75 (by decide) (fun c75_2 => ?_) (fun c75_2 => ?_)
                  · exact absurd c75_2 (by decide)
                  · skip
                    refine lv_aload_n hx hb dX2_codeOfNewBytes_78 rfl (lv_at hl 5 rfl) ?_
                    refine va_get (D := D) (ci := 3) (v := .ref t0) (C := RX2) (T := TX2) (N := 11) hx hb hts (by decide +kernel) hown hK hP 0 rfl rfl 0 (by decide) (hts (.fieldLink RX2 14 "CharacterRows" "collected" "LCharacterRows$Octets;") (by decide +kernel)) (fun _ h9 => h9) rfl dX2_codeOfNewBytes_79 ?_
                    refine lv_iload_n hx hb dX2_codeOfNewBytes_82 rfl (lv_at hl 6 rfl) ?_
                    refine lv_iload hx hb dX2_codeOfNewBytes_83 (lv_at hl 0 rfl) ?_
                    refine lv_iadd hx hb dX2_codeOfNewBytes_85 ?_
                    refine vp_callSi (W.runV ⟨hx, hb, hml, hown, hts⟩ (KX1_at l D t0 b0 c0 f0 x0 200 (by decide) o0 (i + 2)) (cwV 1 hts gX2_codeOfNewBytes_X1_at rfl rfl rfl (by decide +kernel) ⟨Nat.le_of_ble_eq_true rfl, Nat.le_of_ble_eq_true rfl⟩) (pcR_V (hP.sub (ws' := [(t0, .inr (2, [.ref b0, .int (nI x0.length)])), (b0, .inl (c0, 200, .inl f0))]) [1, 2] rfl) (hK.sub (tys' := [(c0, .byte)]) [0] rfl) hN 0 rfl rfl) rfl rfl hl.1 rfl (lv_room (Nat.le_of_ble_eq_true rfl)) dX2_codeOfNewBytes_86 ⟨Nat.zero_le _, Nat.zero_le _⟩) (fun r9 hr9 => ?_)
                    replace hr9 : r9 = v2 := hr9.trans e2
                    subst r9
                    refine lv_istore (lv' := [(6, .int v2), (5, .int 2), (4, .int ((((v0 - 224) * 64) + v1) - 128)), (3, .int 2), (2, .int v0), (0, .ref h), (1, .int i)]) hx hb dX2_codeOfNewBytes_89 hl (by decide) rfl (fun ls hl => ?_)
                    refine lv_iload hx hb dX2_codeOfNewBytes_91 (lv_at hl 0 rfl) ?_
                    refine lv_sipush (v := 128) hx hb dX2_codeOfNewBytes_93 (by decide) ?_
                    refine lv_icmp_lt (tgt := 107) hx hb dX2_codeOfNewBytes_96 (by decide) (fun c96_2 => ?_) (fun c96_2 => ?_)
                    · skip
                      refine lv_iconst (v := (-1)) hx hb dX2_codeOfNewBytes_107 (by decide) ?_
                      exact rtR hx hb hr hlocks dX2_codeOfNewBytes_108 (by unfold fX2_codeOfNewBytes; rw [if_pos c13_1, if_neg c22_1, if_pos c29_1, if_pos c38_1, if_pos c51_1, if_neg c96_1, if_pos c104_1, if_pos c96_2])
                    · skip
                      refine lv_iload hx hb dX2_codeOfNewBytes_99 (lv_at hl 0 rfl) ?_
                      refine lv_sipush (v := 191) hx hb dX2_codeOfNewBytes_101 (by decide) ?_
                      refine lv_icmp_le (tgt := 109) hx hb dX2_codeOfNewBytes_104 (by decide) (fun c104_2 => ?_) (fun c104_2 => ?_)
                      · skip
                        refine lv_iload hx hb dX2_codeOfNewBytes_109 (lv_at hl 2 rfl) ?_
                        refine lv_bipush (v := 64) hx hb dX2_codeOfNewBytes_111 (by decide) ?_
                        refine lv_imul hx hb dX2_codeOfNewBytes_113 ?_
                        refine lv_iload hx hb dX2_codeOfNewBytes_114 (lv_at hl 0 rfl) ?_
                        refine lv_iadd hx hb dX2_codeOfNewBytes_116 ?_
                        refine lv_sipush (v := 128) hx hb dX2_codeOfNewBytes_117 (by decide) ?_
                        refine lv_isub hx hb dX2_codeOfNewBytes_120 ?_
                        refine lv_istore (lv' := [(4, .int (((((((v0 - 224) * 64) + v1) - 128) * 64) + v2) - 128)), (6, .int v2), (5, .int 2), (3, .int 2), (2, .int v0), (0, .ref h), (1, .int i)]) hx hb dX2_codeOfNewBytes_121 hl (by decide) rfl (fun ls hl => ?_)
                        refine lv_iinc (v := 3) (lv' := [(5, .int 3), (4, .int (((((((v0 - 224) * 64) + v1) - 128) * 64) + v2) - 128)), (6, .int v2), (3, .int 2), (2, .int v0), (0, .ref h), (1, .int i)]) hx hb dX2_codeOfNewBytes_123 hl (k := 2) rfl (by decide) (by decide) rfl (fun ls hl => ?_)
                        refine lv_goto (tgt := 72) hx hb dX2_codeOfNewBytes_126 (by decide) ?_
                        refine lv_iload hx hb dX2_codeOfNewBytes_72 (lv_at hl 0 rfl) ?_
                        refine lv_iload_n hx hb dX2_codeOfNewBytes_74 rfl (lv_at hl 3 rfl) ?_
                        refine lv_icmp_gt (tgt := 129) hx hb dX2_codeOfNewBytes_75 (by decide) (fun c75_3 => ?_) (fun c75_3 => ?_)
                        · skip
                          refine lv_iload hx hb dX2_codeOfNewBytes_129 (lv_at hl 1 rfl) ?_
                          refine vp_callSi (W.runS ⟨hx, hb, hml, hown, hts⟩ (KX2_bytesBehindFirst l (((((((v0 - 224) * 64) + v1) - 128) * 64) + v2) - 128)) (va_cwS 1 hts gX2_codeOfNewBytes_X2_bytesBehindFirst rfl rfl rfl (by decide +kernel) ⟨Nat.le_of_ble_eq_true rfl, Nat.le_of_ble_eq_true rfl⟩) pcS_S rfl rfl hl.1 rfl (lv_room (Nat.le_of_ble_eq_true rfl)) dX2_codeOfNewBytes_131 ⟨Nat.zero_le _, Nat.zero_le _⟩) (fun r9 hr9 => ?_)
                          subst r9
                          refine lv_iload_n hx hb dX2_codeOfNewBytes_134 rfl (lv_at hl 3 rfl) ?_
                          refine lv_icmp_ne (tgt := 143) hx hb dX2_codeOfNewBytes_135 (by decide) (fun c135_1 => ?_) (fun c135_1 => ?_)
                          · skip
                            refine lv_iconst (v := (-1)) hx hb dX2_codeOfNewBytes_143 (by decide) ?_
                            exact rtR hx hb hr hlocks dX2_codeOfNewBytes_144 (by unfold fX2_codeOfNewBytes; rw [if_pos c13_1, if_neg c22_1, if_pos c29_1, if_pos c38_1, if_pos c51_1, if_neg c96_1, if_pos c104_1, if_neg c96_2, if_pos c104_2, if_neg c135_1])
                          · skip
                            refine lv_iload hx hb dX2_codeOfNewBytes_138 (lv_at hl 1 rfl) ?_
                            refine lv_goto (tgt := 144) hx hb dX2_codeOfNewBytes_140 (by decide) ?_
                            exact rtR hx hb hr hlocks dX2_codeOfNewBytes_144 (by unfold fX2_codeOfNewBytes; rw [if_pos c13_1, if_neg c22_1, if_pos c29_1, if_pos c38_1, if_pos c51_1, if_neg c96_1, if_pos c104_1, if_neg c96_2, if_pos c104_2, if_pos c135_1])
                        · exact absurd c75_3 (by decide)
                      · skip
                        refine lv_iconst (v := (-1)) hx hb dX2_codeOfNewBytes_107 (by decide) ?_
                        exact rtR hx hb hr hlocks dX2_codeOfNewBytes_108 (by unfold fX2_codeOfNewBytes; rw [if_pos c13_1, if_neg c22_1, if_pos c29_1, if_pos c38_1, if_pos c51_1, if_neg c96_1, if_pos c104_1, if_neg c96_2, if_neg c104_2])
                · skip
                  refine lv_iconst (v := (-1)) hx hb dX2_codeOfNewBytes_107 (by decide) ?_
                  exact rtR hx hb hr hlocks dX2_codeOfNewBytes_108 (by unfold fX2_codeOfNewBytes; rw [if_pos c13_1, if_neg c22_1, if_pos c29_1, if_pos c38_1, if_pos c51_1, if_neg c96_1, if_neg c104_1])
          · skip
            refine lv_iload_n hx hb dX2_codeOfNewBytes_54 rfl (lv_at hl 1 rfl) ?_
            refine lv_sipush (v := 192) hx hb dX2_codeOfNewBytes_55 (by decide) ?_
            refine lv_isub hx hb dX2_codeOfNewBytes_58 ?_
            refine lv_goto (tgt := 67) hx hb dX2_codeOfNewBytes_59 (by decide) ?_
            refine lv_istore (lv' := [(4, .int (v0 - 192)), (3, .int 2), (2, .int v0), (0, .ref h), (1, .int i)]) hx hb dX2_codeOfNewBytes_67 hl (by decide) rfl (fun ls hl => ?_)
            refine lv_iconst (v := 1) hx hb dX2_codeOfNewBytes_69 (by decide) ?_
            refine lv_istore (lv' := [(5, .int 1), (4, .int (v0 - 192)), (3, .int 2), (2, .int v0), (0, .ref h), (1, .int i)]) hx hb dX2_codeOfNewBytes_70 hl (by decide) rfl (fun ls hl => ?_)
            refine lv_iload hx hb dX2_codeOfNewBytes_72 (lv_at hl 0 rfl) ?_
            refine lv_iload_n hx hb dX2_codeOfNewBytes_74 rfl (lv_at hl 2 rfl) ?_
            refine lv_icmp_gt (tgt := 129) hx hb dX2_codeOfNewBytes_75 (by decide) (fun c75_4 => ?_) (fun c75_4 => ?_)
            · exact absurd c75_4 (by decide)
            · skip
              refine lv_aload_n hx hb dX2_codeOfNewBytes_78 rfl (lv_at hl 4 rfl) ?_
              refine va_get (D := D) (ci := 3) (v := .ref t0) (C := RX2) (T := TX2) (N := 11) hx hb hts (by decide +kernel) hown hK hP 0 rfl rfl 0 (by decide) (hts (.fieldLink RX2 14 "CharacterRows" "collected" "LCharacterRows$Octets;") (by decide +kernel)) (fun _ h9 => h9) rfl dX2_codeOfNewBytes_79 ?_
              refine lv_iload_n hx hb dX2_codeOfNewBytes_82 rfl (lv_at hl 5 rfl) ?_
              refine lv_iload hx hb dX2_codeOfNewBytes_83 (lv_at hl 0 rfl) ?_
              refine lv_iadd hx hb dX2_codeOfNewBytes_85 ?_
              refine vp_callSi (W.runV ⟨hx, hb, hml, hown, hts⟩ (KX1_at l D t0 b0 c0 f0 x0 200 (by decide) o0 (i + 1)) (cwV 1 hts gX2_codeOfNewBytes_X1_at rfl rfl rfl (by decide +kernel) ⟨Nat.le_of_ble_eq_true rfl, Nat.le_of_ble_eq_true rfl⟩) (pcR_V (hP.sub (ws' := [(t0, .inr (2, [.ref b0, .int (nI x0.length)])), (b0, .inl (c0, 200, .inl f0))]) [1, 2] rfl) (hK.sub (tys' := [(c0, .byte)]) [0] rfl) hN 0 rfl rfl) rfl rfl hl.1 rfl (lv_room (Nat.le_of_ble_eq_true rfl)) dX2_codeOfNewBytes_86 ⟨Nat.zero_le _, Nat.zero_le _⟩) (fun r9 hr9 => ?_)
              replace hr9 : r9 = v1 := hr9.trans e1
              subst r9
              refine lv_istore (lv' := [(6, .int v1), (5, .int 1), (4, .int (v0 - 192)), (3, .int 2), (2, .int v0), (0, .ref h), (1, .int i)]) hx hb dX2_codeOfNewBytes_89 hl (by decide) rfl (fun ls hl => ?_)
              refine lv_iload hx hb dX2_codeOfNewBytes_91 (lv_at hl 0 rfl) ?_
              refine lv_sipush (v := 128) hx hb dX2_codeOfNewBytes_93 (by decide) ?_
              refine lv_icmp_lt (tgt := 107) hx hb dX2_codeOfNewBytes_96 (by decide) (fun c96_3 => ?_) (fun c96_3 => ?_)
              · skip
                refine lv_iconst (v := (-1)) hx hb dX2_codeOfNewBytes_107 (by decide) ?_
                exact rtR hx hb hr hlocks dX2_codeOfNewBytes_108 (by unfold fX2_codeOfNewBytes; rw [if_pos c13_1, if_neg c22_1, if_pos c29_1, if_pos c38_1, if_neg c51_1, if_pos c96_3])
              · skip
                refine lv_iload hx hb dX2_codeOfNewBytes_99 (lv_at hl 0 rfl) ?_
                refine lv_sipush (v := 191) hx hb dX2_codeOfNewBytes_101 (by decide) ?_
                refine lv_icmp_le (tgt := 109) hx hb dX2_codeOfNewBytes_104 (by decide) (fun c104_3 => ?_) (fun c104_3 => ?_)
                · skip
                  refine lv_iload hx hb dX2_codeOfNewBytes_109 (lv_at hl 2 rfl) ?_
                  refine lv_bipush (v := 64) hx hb dX2_codeOfNewBytes_111 (by decide) ?_
                  refine lv_imul hx hb dX2_codeOfNewBytes_113 ?_
                  refine lv_iload hx hb dX2_codeOfNewBytes_114 (lv_at hl 0 rfl) ?_
                  refine lv_iadd hx hb dX2_codeOfNewBytes_116 ?_
                  refine lv_sipush (v := 128) hx hb dX2_codeOfNewBytes_117 (by decide) ?_
                  refine lv_isub hx hb dX2_codeOfNewBytes_120 ?_
                  refine lv_istore (lv' := [(4, .int ((((v0 - 192) * 64) + v1) - 128)), (6, .int v1), (5, .int 1), (3, .int 2), (2, .int v0), (0, .ref h), (1, .int i)]) hx hb dX2_codeOfNewBytes_121 hl (by decide) rfl (fun ls hl => ?_)
                  refine lv_iinc (v := 2) (lv' := [(5, .int 2), (4, .int ((((v0 - 192) * 64) + v1) - 128)), (6, .int v1), (3, .int 2), (2, .int v0), (0, .ref h), (1, .int i)]) hx hb dX2_codeOfNewBytes_123 hl (k := 2) rfl (by decide) (by decide) rfl (fun ls hl => ?_)
                  refine lv_goto (tgt := 72) hx hb dX2_codeOfNewBytes_126 (by decide) ?_
                  refine lv_iload hx hb dX2_codeOfNewBytes_72 (lv_at hl 0 rfl) ?_
                  refine lv_iload_n hx hb dX2_codeOfNewBytes_74 rfl (lv_at hl 3 rfl) ?_
                  refine lv_icmp_gt (tgt := 129) hx hb dX2_codeOfNewBytes_75 (by decide) (fun c75_5 => ?_) (fun c75_5 => ?_)
                  · exact absurd c75_5 (by decide)
                  · skip
                    refine lv_aload_n hx hb dX2_codeOfNewBytes_78 rfl (lv_at hl 5 rfl) ?_
                    refine va_get (D := D) (ci := 3) (v := .ref t0) (C := RX2) (T := TX2) (N := 11) hx hb hts (by decide +kernel) hown hK hP 0 rfl rfl 0 (by decide) (hts (.fieldLink RX2 14 "CharacterRows" "collected" "LCharacterRows$Octets;") (by decide +kernel)) (fun _ h9 => h9) rfl dX2_codeOfNewBytes_79 ?_
                    refine lv_iload_n hx hb dX2_codeOfNewBytes_82 rfl (lv_at hl 6 rfl) ?_
                    refine lv_iload hx hb dX2_codeOfNewBytes_83 (lv_at hl 0 rfl) ?_
                    refine lv_iadd hx hb dX2_codeOfNewBytes_85 ?_
                    refine vp_callSi (W.runV ⟨hx, hb, hml, hown, hts⟩ (KX1_at l D t0 b0 c0 f0 x0 200 (by decide) o0 (i + 2)) (cwV 1 hts gX2_codeOfNewBytes_X1_at rfl rfl rfl (by decide +kernel) ⟨Nat.le_of_ble_eq_true rfl, Nat.le_of_ble_eq_true rfl⟩) (pcR_V (hP.sub (ws' := [(t0, .inr (2, [.ref b0, .int (nI x0.length)])), (b0, .inl (c0, 200, .inl f0))]) [1, 2] rfl) (hK.sub (tys' := [(c0, .byte)]) [0] rfl) hN 0 rfl rfl) rfl rfl hl.1 rfl (lv_room (Nat.le_of_ble_eq_true rfl)) dX2_codeOfNewBytes_86 ⟨Nat.zero_le _, Nat.zero_le _⟩) (fun r9 hr9 => ?_)
                    replace hr9 : r9 = v2 := hr9.trans e2
                    subst r9
                    refine lv_istore (lv' := [(6, .int v2), (5, .int 2), (4, .int ((((v0 - 192) * 64) + v1) - 128)), (3, .int 2), (2, .int v0), (0, .ref h), (1, .int i)]) hx hb dX2_codeOfNewBytes_89 hl (by decide) rfl (fun ls hl => ?_)
                    refine lv_iload hx hb dX2_codeOfNewBytes_91 (lv_at hl 0 rfl) ?_
                    refine lv_sipush (v := 128) hx hb dX2_codeOfNewBytes_93 (by decide) ?_
                    refine lv_icmp_lt (tgt := 107) hx hb dX2_codeOfNewBytes_96 (by decide) (fun c96_4 => ?_) (fun c96_4 => ?_)
                    · skip
                      refine lv_iconst (v := (-1)) hx hb dX2_codeOfNewBytes_107 (by decide) ?_
                      exact rtR hx hb hr hlocks dX2_codeOfNewBytes_108 (by unfold fX2_codeOfNewBytes; rw [if_pos c13_1, if_neg c22_1, if_pos c29_1, if_pos c38_1, if_neg c51_1, if_neg c96_3, if_pos c104_3, if_pos c96_4])
                    · skip
                      refine lv_iload hx hb dX2_codeOfNewBytes_99 (lv_at hl 0 rfl) ?_
                      refine lv_sipush (v := 191) hx hb dX2_codeOfNewBytes_101 (by decide) ?_
                      refine lv_icmp_le (tgt := 109) hx hb dX2_codeOfNewBytes_104 (by decide) (fun c104_4 => ?_) (fun c104_4 => ?_)
                      · skip
                        refine lv_iload hx hb dX2_codeOfNewBytes_109 (lv_at hl 2 rfl) ?_
                        refine lv_bipush (v := 64) hx hb dX2_codeOfNewBytes_111 (by decide) ?_
                        refine lv_imul hx hb dX2_codeOfNewBytes_113 ?_
                        refine lv_iload hx hb dX2_codeOfNewBytes_114 (lv_at hl 0 rfl) ?_
                        refine lv_iadd hx hb dX2_codeOfNewBytes_116 ?_
                        refine lv_sipush (v := 128) hx hb dX2_codeOfNewBytes_117 (by decide) ?_
                        refine lv_isub hx hb dX2_codeOfNewBytes_120 ?_
                        refine lv_istore (lv' := [(4, .int (((((((v0 - 192) * 64) + v1) - 128) * 64) + v2) - 128)), (6, .int v2), (5, .int 2), (3, .int 2), (2, .int v0), (0, .ref h), (1, .int i)]) hx hb dX2_codeOfNewBytes_121 hl (by decide) rfl (fun ls hl => ?_)
                        refine lv_iinc (v := 3) (lv' := [(5, .int 3), (4, .int (((((((v0 - 192) * 64) + v1) - 128) * 64) + v2) - 128)), (6, .int v2), (3, .int 2), (2, .int v0), (0, .ref h), (1, .int i)]) hx hb dX2_codeOfNewBytes_123 hl (k := 2) rfl (by decide) (by decide) rfl (fun ls hl => ?_)
                        refine lv_goto (tgt := 72) hx hb dX2_codeOfNewBytes_126 (by decide) ?_
                        refine lv_iload hx hb dX2_codeOfNewBytes_72 (lv_at hl 0 rfl) ?_
                        refine lv_iload_n hx hb dX2_codeOfNewBytes_74 rfl (lv_at hl 3 rfl) ?_
                        refine lv_icmp_gt (tgt := 129) hx hb dX2_codeOfNewBytes_75 (by decide) (fun c75_6 => ?_) (fun c75_6 => ?_)
                        · skip
                          refine lv_iload hx hb dX2_codeOfNewBytes_129 (lv_at hl 1 rfl) ?_
                          refine vp_callSi (W.runS ⟨hx, hb, hml, hown, hts⟩ (KX2_bytesBehindFirst l (((((((v0 - 192) * 64) + v1) - 128) * 64) + v2) - 128)) (va_cwS 1 hts gX2_codeOfNewBytes_X2_bytesBehindFirst rfl rfl rfl (by decide +kernel) ⟨Nat.le_of_ble_eq_true rfl, Nat.le_of_ble_eq_true rfl⟩) pcS_S rfl rfl hl.1 rfl (lv_room (Nat.le_of_ble_eq_true rfl)) dX2_codeOfNewBytes_131 ⟨Nat.zero_le _, Nat.zero_le _⟩) (fun r9 hr9 => ?_)
                          subst r9
                          refine lv_iload_n hx hb dX2_codeOfNewBytes_134 rfl (lv_at hl 3 rfl) ?_
                          refine lv_icmp_ne (tgt := 143) hx hb dX2_codeOfNewBytes_135 (by decide) (fun c135_2 => ?_) (fun c135_2 => ?_)
                          · skip
                            refine lv_iconst (v := (-1)) hx hb dX2_codeOfNewBytes_143 (by decide) ?_
                            exact rtR hx hb hr hlocks dX2_codeOfNewBytes_144 (by unfold fX2_codeOfNewBytes; rw [if_pos c13_1, if_neg c22_1, if_pos c29_1, if_pos c38_1, if_neg c51_1, if_neg c96_3, if_pos c104_3, if_neg c96_4, if_pos c104_4, if_neg c135_2])
                          · skip
                            refine lv_iload hx hb dX2_codeOfNewBytes_138 (lv_at hl 1 rfl) ?_
                            refine lv_goto (tgt := 144) hx hb dX2_codeOfNewBytes_140 (by decide) ?_
                            exact rtR hx hb hr hlocks dX2_codeOfNewBytes_144 (by unfold fX2_codeOfNewBytes; rw [if_pos c13_1, if_neg c22_1, if_pos c29_1, if_pos c38_1, if_neg c51_1, if_neg c96_3, if_pos c104_3, if_neg c96_4, if_pos c104_4, if_pos c135_2])
                        · exact absurd c75_6 (by decide)
                      · skip
                        refine lv_iconst (v := (-1)) hx hb dX2_codeOfNewBytes_107 (by decide) ?_
                        exact rtR hx hb hr hlocks dX2_codeOfNewBytes_108 (by unfold fX2_codeOfNewBytes; rw [if_pos c13_1, if_neg c22_1, if_pos c29_1, if_pos c38_1, if_neg c51_1, if_neg c96_3, if_pos c104_3, if_neg c96_4, if_neg c104_4])
                · skip
                  refine lv_iconst (v := (-1)) hx hb dX2_codeOfNewBytes_107 (by decide) ?_
                  exact rtR hx hb hr hlocks dX2_codeOfNewBytes_108 (by unfold fX2_codeOfNewBytes; rw [if_pos c13_1, if_neg c22_1, if_pos c29_1, if_pos c38_1, if_neg c51_1, if_neg c96_3, if_neg c104_3])
        · skip
          refine lv_iconst (v := 1) hx hb dX2_codeOfNewBytes_41 (by decide) ?_
          refine lv_goto (tgt := 46) hx hb dX2_codeOfNewBytes_42 (by decide) ?_
          refine lv_istore_n (lv' := [(3, .int 1), (2, .int v0), (0, .ref h), (1, .int i)]) hx hb dX2_codeOfNewBytes_46 rfl hl (by decide) rfl (fun ls hl => ?_)
          refine lv_iload_n hx hb dX2_codeOfNewBytes_47 rfl (lv_at hl 1 rfl) ?_
          refine lv_sipush (v := 224) hx hb dX2_codeOfNewBytes_48 (by decide) ?_
          refine lv_icmp_ge (tgt := 62) hx hb dX2_codeOfNewBytes_51 (by decide) (fun c51_2 => ?_) (fun c51_2 => ?_)
          · skip
            refine lv_iload_n hx hb dX2_codeOfNewBytes_62 rfl (lv_at hl 1 rfl) ?_
            refine lv_sipush (v := 224) hx hb dX2_codeOfNewBytes_63 (by decide) ?_
            refine lv_isub hx hb dX2_codeOfNewBytes_66 ?_
            refine lv_istore (lv' := [(4, .int (v0 - 224)), (3, .int 1), (2, .int v0), (0, .ref h), (1, .int i)]) hx hb dX2_codeOfNewBytes_67 hl (by decide) rfl (fun ls hl => ?_)
            refine lv_iconst (v := 1) hx hb dX2_codeOfNewBytes_69 (by decide) ?_
            refine lv_istore (lv' := [(5, .int 1), (4, .int (v0 - 224)), (3, .int 1), (2, .int v0), (0, .ref h), (1, .int i)]) hx hb dX2_codeOfNewBytes_70 hl (by decide) rfl (fun ls hl => ?_)
            refine lv_iload hx hb dX2_codeOfNewBytes_72 (lv_at hl 0 rfl) ?_
            refine lv_iload_n hx hb dX2_codeOfNewBytes_74 rfl (lv_at hl 2 rfl) ?_
            refine lv_icmp_gt (tgt := 129) hx hb dX2_codeOfNewBytes_75 (by decide) (fun c75_7 => ?_) (fun c75_7 => ?_)
            · exact absurd c75_7 (by decide)
            · skip
              refine lv_aload_n hx hb dX2_codeOfNewBytes_78 rfl (lv_at hl 4 rfl) ?_
              refine va_get (D := D) (ci := 3) (v := .ref t0) (C := RX2) (T := TX2) (N := 11) hx hb hts (by decide +kernel) hown hK hP 0 rfl rfl 0 (by decide) (hts (.fieldLink RX2 14 "CharacterRows" "collected" "LCharacterRows$Octets;") (by decide +kernel)) (fun _ h9 => h9) rfl dX2_codeOfNewBytes_79 ?_
              refine lv_iload_n hx hb dX2_codeOfNewBytes_82 rfl (lv_at hl 5 rfl) ?_
              refine lv_iload hx hb dX2_codeOfNewBytes_83 (lv_at hl 0 rfl) ?_
              refine lv_iadd hx hb dX2_codeOfNewBytes_85 ?_
              refine vp_callSi (W.runV ⟨hx, hb, hml, hown, hts⟩ (KX1_at l D t0 b0 c0 f0 x0 200 (by decide) o0 (i + 1)) (cwV 1 hts gX2_codeOfNewBytes_X1_at rfl rfl rfl (by decide +kernel) ⟨Nat.le_of_ble_eq_true rfl, Nat.le_of_ble_eq_true rfl⟩) (pcR_V (hP.sub (ws' := [(t0, .inr (2, [.ref b0, .int (nI x0.length)])), (b0, .inl (c0, 200, .inl f0))]) [1, 2] rfl) (hK.sub (tys' := [(c0, .byte)]) [0] rfl) hN 0 rfl rfl) rfl rfl hl.1 rfl (lv_room (Nat.le_of_ble_eq_true rfl)) dX2_codeOfNewBytes_86 ⟨Nat.zero_le _, Nat.zero_le _⟩) (fun r9 hr9 => ?_)
              replace hr9 : r9 = v1 := hr9.trans e1
              subst r9
              refine lv_istore (lv' := [(6, .int v1), (5, .int 1), (4, .int (v0 - 224)), (3, .int 1), (2, .int v0), (0, .ref h), (1, .int i)]) hx hb dX2_codeOfNewBytes_89 hl (by decide) rfl (fun ls hl => ?_)
              refine lv_iload hx hb dX2_codeOfNewBytes_91 (lv_at hl 0 rfl) ?_
              refine lv_sipush (v := 128) hx hb dX2_codeOfNewBytes_93 (by decide) ?_
              refine lv_icmp_lt (tgt := 107) hx hb dX2_codeOfNewBytes_96 (by decide) (fun c96_5 => ?_) (fun c96_5 => ?_)
              · skip
                refine lv_iconst (v := (-1)) hx hb dX2_codeOfNewBytes_107 (by decide) ?_
                exact rtR hx hb hr hlocks dX2_codeOfNewBytes_108 (by unfold fX2_codeOfNewBytes; rw [if_pos c13_1, if_neg c22_1, if_pos c29_1, if_neg c38_1, if_pos c51_2, if_pos c96_5])
              · skip
                refine lv_iload hx hb dX2_codeOfNewBytes_99 (lv_at hl 0 rfl) ?_
                refine lv_sipush (v := 191) hx hb dX2_codeOfNewBytes_101 (by decide) ?_
                refine lv_icmp_le (tgt := 109) hx hb dX2_codeOfNewBytes_104 (by decide) (fun c104_5 => ?_) (fun c104_5 => ?_)
                · skip
                  refine lv_iload hx hb dX2_codeOfNewBytes_109 (lv_at hl 2 rfl) ?_
                  refine lv_bipush (v := 64) hx hb dX2_codeOfNewBytes_111 (by decide) ?_
                  refine lv_imul hx hb dX2_codeOfNewBytes_113 ?_
                  refine lv_iload hx hb dX2_codeOfNewBytes_114 (lv_at hl 0 rfl) ?_
                  refine lv_iadd hx hb dX2_codeOfNewBytes_116 ?_
                  refine lv_sipush (v := 128) hx hb dX2_codeOfNewBytes_117 (by decide) ?_
                  refine lv_isub hx hb dX2_codeOfNewBytes_120 ?_
                  refine lv_istore (lv' := [(4, .int ((((v0 - 224) * 64) + v1) - 128)), (6, .int v1), (5, .int 1), (3, .int 1), (2, .int v0), (0, .ref h), (1, .int i)]) hx hb dX2_codeOfNewBytes_121 hl (by decide) rfl (fun ls hl => ?_)
                  refine lv_iinc (v := 2) (lv' := [(5, .int 2), (4, .int ((((v0 - 224) * 64) + v1) - 128)), (6, .int v1), (3, .int 1), (2, .int v0), (0, .ref h), (1, .int i)]) hx hb dX2_codeOfNewBytes_123 hl (k := 2) rfl (by decide) (by decide) rfl (fun ls hl => ?_)
                  refine lv_goto (tgt := 72) hx hb dX2_codeOfNewBytes_126 (by decide) ?_
                  refine lv_iload hx hb dX2_codeOfNewBytes_72 (lv_at hl 0 rfl) ?_
                  refine lv_iload_n hx hb dX2_codeOfNewBytes_74 rfl (lv_at hl 3 rfl) ?_
                  refine lv_icmp_gt (tgt := 129) hx hb dX2_codeOfNewBytes_75 (by decide) (fun c75_8 => ?_) (fun c75_8 => ?_)
                  · skip
                    refine lv_iload hx hb dX2_codeOfNewBytes_129 (lv_at hl 1 rfl) ?_
                    refine vp_callSi (W.runS ⟨hx, hb, hml, hown, hts⟩ (KX2_bytesBehindFirst l ((((v0 - 224) * 64) + v1) - 128)) (va_cwS 1 hts gX2_codeOfNewBytes_X2_bytesBehindFirst rfl rfl rfl (by decide +kernel) ⟨Nat.le_of_ble_eq_true rfl, Nat.le_of_ble_eq_true rfl⟩) pcS_S rfl rfl hl.1 rfl (lv_room (Nat.le_of_ble_eq_true rfl)) dX2_codeOfNewBytes_131 ⟨Nat.zero_le _, Nat.zero_le _⟩) (fun r9 hr9 => ?_)
                    subst r9
                    refine lv_iload_n hx hb dX2_codeOfNewBytes_134 rfl (lv_at hl 3 rfl) ?_
                    refine lv_icmp_ne (tgt := 143) hx hb dX2_codeOfNewBytes_135 (by decide) (fun c135_3 => ?_) (fun c135_3 => ?_)
                    · skip
                      refine lv_iconst (v := (-1)) hx hb dX2_codeOfNewBytes_143 (by decide) ?_
                      exact rtR hx hb hr hlocks dX2_codeOfNewBytes_144 (by unfold fX2_codeOfNewBytes; rw [if_pos c13_1, if_neg c22_1, if_pos c29_1, if_neg c38_1, if_pos c51_2, if_neg c96_5, if_pos c104_5, if_neg c135_3])
                    · skip
                      refine lv_iload hx hb dX2_codeOfNewBytes_138 (lv_at hl 1 rfl) ?_
                      refine lv_goto (tgt := 144) hx hb dX2_codeOfNewBytes_140 (by decide) ?_
                      exact rtR hx hb hr hlocks dX2_codeOfNewBytes_144 (by unfold fX2_codeOfNewBytes; rw [if_pos c13_1, if_neg c22_1, if_pos c29_1, if_neg c38_1, if_pos c51_2, if_neg c96_5, if_pos c104_5, if_pos c135_3])
                  · exact absurd c75_8 (by decide)
                · skip
                  refine lv_iconst (v := (-1)) hx hb dX2_codeOfNewBytes_107 (by decide) ?_
                  exact rtR hx hb hr hlocks dX2_codeOfNewBytes_108 (by unfold fX2_codeOfNewBytes; rw [if_pos c13_1, if_neg c22_1, if_pos c29_1, if_neg c38_1, if_pos c51_2, if_neg c96_5, if_neg c104_5])
          · skip
            refine lv_iload_n hx hb dX2_codeOfNewBytes_54 rfl (lv_at hl 1 rfl) ?_
            refine lv_sipush (v := 192) hx hb dX2_codeOfNewBytes_55 (by decide) ?_
            refine lv_isub hx hb dX2_codeOfNewBytes_58 ?_
            refine lv_goto (tgt := 67) hx hb dX2_codeOfNewBytes_59 (by decide) ?_
            refine lv_istore (lv' := [(4, .int (v0 - 192)), (3, .int 1), (2, .int v0), (0, .ref h), (1, .int i)]) hx hb dX2_codeOfNewBytes_67 hl (by decide) rfl (fun ls hl => ?_)
            refine lv_iconst (v := 1) hx hb dX2_codeOfNewBytes_69 (by decide) ?_
            refine lv_istore (lv' := [(5, .int 1), (4, .int (v0 - 192)), (3, .int 1), (2, .int v0), (0, .ref h), (1, .int i)]) hx hb dX2_codeOfNewBytes_70 hl (by decide) rfl (fun ls hl => ?_)
            refine lv_iload hx hb dX2_codeOfNewBytes_72 (lv_at hl 0 rfl) ?_
            refine lv_iload_n hx hb dX2_codeOfNewBytes_74 rfl (lv_at hl 2 rfl) ?_
            refine lv_icmp_gt (tgt := 129) hx hb dX2_codeOfNewBytes_75 (by decide) (fun c75_9 => ?_) (fun c75_9 => ?_)
            · exact absurd c75_9 (by decide)
            · skip
              refine lv_aload_n hx hb dX2_codeOfNewBytes_78 rfl (lv_at hl 4 rfl) ?_
              refine va_get (D := D) (ci := 3) (v := .ref t0) (C := RX2) (T := TX2) (N := 11) hx hb hts (by decide +kernel) hown hK hP 0 rfl rfl 0 (by decide) (hts (.fieldLink RX2 14 "CharacterRows" "collected" "LCharacterRows$Octets;") (by decide +kernel)) (fun _ h9 => h9) rfl dX2_codeOfNewBytes_79 ?_
              refine lv_iload_n hx hb dX2_codeOfNewBytes_82 rfl (lv_at hl 5 rfl) ?_
              refine lv_iload hx hb dX2_codeOfNewBytes_83 (lv_at hl 0 rfl) ?_
              refine lv_iadd hx hb dX2_codeOfNewBytes_85 ?_
              refine vp_callSi (W.runV ⟨hx, hb, hml, hown, hts⟩ (KX1_at l D t0 b0 c0 f0 x0 200 (by decide) o0 (i + 1)) (cwV 1 hts gX2_codeOfNewBytes_X1_at rfl rfl rfl (by decide +kernel) ⟨Nat.le_of_ble_eq_true rfl, Nat.le_of_ble_eq_true rfl⟩) (pcR_V (hP.sub (ws' := [(t0, .inr (2, [.ref b0, .int (nI x0.length)])), (b0, .inl (c0, 200, .inl f0))]) [1, 2] rfl) (hK.sub (tys' := [(c0, .byte)]) [0] rfl) hN 0 rfl rfl) rfl rfl hl.1 rfl (lv_room (Nat.le_of_ble_eq_true rfl)) dX2_codeOfNewBytes_86 ⟨Nat.zero_le _, Nat.zero_le _⟩) (fun r9 hr9 => ?_)
              replace hr9 : r9 = v1 := hr9.trans e1
              subst r9
              refine lv_istore (lv' := [(6, .int v1), (5, .int 1), (4, .int (v0 - 192)), (3, .int 1), (2, .int v0), (0, .ref h), (1, .int i)]) hx hb dX2_codeOfNewBytes_89 hl (by decide) rfl (fun ls hl => ?_)
              refine lv_iload hx hb dX2_codeOfNewBytes_91 (lv_at hl 0 rfl) ?_
              refine lv_sipush (v := 128) hx hb dX2_codeOfNewBytes_93 (by decide) ?_
              refine lv_icmp_lt (tgt := 107) hx hb dX2_codeOfNewBytes_96 (by decide) (fun c96_6 => ?_) (fun c96_6 => ?_)
              · skip
                refine lv_iconst (v := (-1)) hx hb dX2_codeOfNewBytes_107 (by decide) ?_
                exact rtR hx hb hr hlocks dX2_codeOfNewBytes_108 (by unfold fX2_codeOfNewBytes; rw [if_pos c13_1, if_neg c22_1, if_pos c29_1, if_neg c38_1, if_neg c51_2, if_pos c96_6])
              · skip
                refine lv_iload hx hb dX2_codeOfNewBytes_99 (lv_at hl 0 rfl) ?_
                refine lv_sipush (v := 191) hx hb dX2_codeOfNewBytes_101 (by decide) ?_
                refine lv_icmp_le (tgt := 109) hx hb dX2_codeOfNewBytes_104 (by decide) (fun c104_6 => ?_) (fun c104_6 => ?_)
                · skip
                  refine lv_iload hx hb dX2_codeOfNewBytes_109 (lv_at hl 2 rfl) ?_
                  refine lv_bipush (v := 64) hx hb dX2_codeOfNewBytes_111 (by decide) ?_
                  refine lv_imul hx hb dX2_codeOfNewBytes_113 ?_
                  refine lv_iload hx hb dX2_codeOfNewBytes_114 (lv_at hl 0 rfl) ?_
                  refine lv_iadd hx hb dX2_codeOfNewBytes_116 ?_
                  refine lv_sipush (v := 128) hx hb dX2_codeOfNewBytes_117 (by decide) ?_
                  refine lv_isub hx hb dX2_codeOfNewBytes_120 ?_
                  refine lv_istore (lv' := [(4, .int ((((v0 - 192) * 64) + v1) - 128)), (6, .int v1), (5, .int 1), (3, .int 1), (2, .int v0), (0, .ref h), (1, .int i)]) hx hb dX2_codeOfNewBytes_121 hl (by decide) rfl (fun ls hl => ?_)
                  refine lv_iinc (v := 2) (lv' := [(5, .int 2), (4, .int ((((v0 - 192) * 64) + v1) - 128)), (6, .int v1), (3, .int 1), (2, .int v0), (0, .ref h), (1, .int i)]) hx hb dX2_codeOfNewBytes_123 hl (k := 2) rfl (by decide) (by decide) rfl (fun ls hl => ?_)
                  refine lv_goto (tgt := 72) hx hb dX2_codeOfNewBytes_126 (by decide) ?_
                  refine lv_iload hx hb dX2_codeOfNewBytes_72 (lv_at hl 0 rfl) ?_
                  refine lv_iload_n hx hb dX2_codeOfNewBytes_74 rfl (lv_at hl 3 rfl) ?_
                  refine lv_icmp_gt (tgt := 129) hx hb dX2_codeOfNewBytes_75 (by decide) (fun c75_10 => ?_) (fun c75_10 => ?_)
                  · skip
                    refine lv_iload hx hb dX2_codeOfNewBytes_129 (lv_at hl 1 rfl) ?_
                    refine vp_callSi (W.runS ⟨hx, hb, hml, hown, hts⟩ (KX2_bytesBehindFirst l ((((v0 - 192) * 64) + v1) - 128)) (va_cwS 1 hts gX2_codeOfNewBytes_X2_bytesBehindFirst rfl rfl rfl (by decide +kernel) ⟨Nat.le_of_ble_eq_true rfl, Nat.le_of_ble_eq_true rfl⟩) pcS_S rfl rfl hl.1 rfl (lv_room (Nat.le_of_ble_eq_true rfl)) dX2_codeOfNewBytes_131 ⟨Nat.zero_le _, Nat.zero_le _⟩) (fun r9 hr9 => ?_)
                    subst r9
                    refine lv_iload_n hx hb dX2_codeOfNewBytes_134 rfl (lv_at hl 3 rfl) ?_
                    refine lv_icmp_ne (tgt := 143) hx hb dX2_codeOfNewBytes_135 (by decide) (fun c135_4 => ?_) (fun c135_4 => ?_)
                    · skip
                      refine lv_iconst (v := (-1)) hx hb dX2_codeOfNewBytes_143 (by decide) ?_
                      exact rtR hx hb hr hlocks dX2_codeOfNewBytes_144 (by unfold fX2_codeOfNewBytes; rw [if_pos c13_1, if_neg c22_1, if_pos c29_1, if_neg c38_1, if_neg c51_2, if_neg c96_6, if_pos c104_6, if_neg c135_4])
                    · skip
                      refine lv_iload hx hb dX2_codeOfNewBytes_138 (lv_at hl 1 rfl) ?_
                      refine lv_goto (tgt := 144) hx hb dX2_codeOfNewBytes_140 (by decide) ?_
                      exact rtR hx hb hr hlocks dX2_codeOfNewBytes_144 (by unfold fX2_codeOfNewBytes; rw [if_pos c13_1, if_neg c22_1, if_pos c29_1, if_neg c38_1, if_neg c51_2, if_neg c96_6, if_pos c104_6, if_pos c135_4])
                  · exact absurd c75_10 (by decide)
                · skip
                  refine lv_iconst (v := (-1)) hx hb dX2_codeOfNewBytes_107 (by decide) ?_
                  exact rtR hx hb hr hlocks dX2_codeOfNewBytes_108 (by unfold fX2_codeOfNewBytes; rw [if_pos c13_1, if_neg c22_1, if_pos c29_1, if_neg c38_1, if_neg c51_2, if_neg c96_6, if_neg c104_6])
      · skip
        refine lv_iconst (v := (-1)) hx hb dX2_codeOfNewBytes_32 (by decide) ?_
        exact rtR hx hb hr hlocks dX2_codeOfNewBytes_33 (by unfold fX2_codeOfNewBytes; rw [if_pos c13_1, if_neg c22_1, if_neg c29_1])
  · skip
    refine lv_iload_n hx hb dX2_codeOfNewBytes_16 rfl (lv_at hl 0 rfl) ?_
    exact rtR hx hb hr hlocks dX2_codeOfNewBytes_17 (by unfold fX2_codeOfNewBytes; rw [if_neg c13_1])
set_option maxHeartbeats 4000000 in
set_option maxRecDepth 100000 in
theorem KX2_tell (l : Launch) (D : va_G) (h t0 t1 t2 t3 t4 t5 t6 t7 t8 t9 : Nat) (si : Int32) (b8 : Nat) (c8 : ClassId) (f8 : Nat → Int32) (x8 : List Int32) (o8 : rw_ok f8 200 x8) (b9 : Nat) (c9 : ClassId) (f9 : Nat → Int32) (x9 : List Int32) (o9 : rw_ok f9 200 x9) (v0 v1 : Int32) (sz : Nat) : Met l yX2_tell wsX2_tell ({ frames := 1, cells := 0, slots := 0, locals := 21 }) (pcM D sz [(h, .inr (3, [.ref t0, .ref t1, .ref t2, .ref t3, .ref t4, .ref t5, .ref t6, .ref t7, .ref t8, .ref t9, .int si])), (t8, .inr (1, [.ref b8, .int (nI x8.length)])), (b8, .inl (c8, 200, .inl f8)), (t9, .inr (1, [.ref b9, .int (nI x9.length)])), (b9, .inl (c9, 200, .inl f9))] [(c8, .int), (c9, .int)] [.ref h, .int v0, .int v1]) (qcV (S := (Nat → Int32) × (Nat → Int32)) D (fun u => rw_ok u.1 200 (rw_add 200 x8 v0) ∧ rw_ok u.2 200 (rw_add 200 x9 v1)) (fun u => [(h, .inr (3, [.ref t0, .ref t1, .ref t2, .ref t3, .ref t4, .ref t5, .ref t6, .ref t7, .ref t8, .ref t9, .int si])), (t8, .inr (1, [.ref b8, .int (nI (rw_add 200 x8 v0).length)])), (b8, .inl (c8, 200, .inl u.1)), (t9, .inr (1, [.ref b9, .int (nI (rw_add 200 x9 v1).length)])), (b9, .inl (c9, 200, .inl u.2))]) (va_A [(h, .inr (3, [.ref t0, .ref t1, .ref t2, .ref t3, .ref t4, .ref t5, .ref t6, .ref t7, .ref t8, .ref t9, .int si])), (t8, .inr (1, [.ref b8, .int (nI x8.length)])), (b8, .inl (c8, 200, .inl f8)), (t9, .inr (1, [.ref b9, .int (nI x9.length)])), (b9, .inl (c9, 200, .inl f9))] sz)) 0 0 (va_A [(h, .inr (3, [.ref t0, .ref t1, .ref t2, .ref t3, .ref t4, .ref t5, .ref t6, .ref t7, .ref t8, .ref t9, .int si])), (t8, .inr (1, [.ref b8, .int (nI x8.length)])), (b8, .inl (c8, 200, .inl f8)), (t9, .inr (1, [.ref b9, .int (nI x9.length)])), (b9, .inl (c9, 200, .inl f9))] sz) := by
  refine ofM (Qc := fun A => qcV (S := (Nat → Int32) × (Nat → Int32)) D (fun u => rw_ok u.1 200 (rw_add 200 x8 v0) ∧ rw_ok u.2 200 (rw_add 200 x9 v1)) (fun u => [(h, .inr (3, [.ref t0, .ref t1, .ref t2, .ref t3, .ref t4, .ref t5, .ref t6, .ref t7, .ref t8, .ref t9, .int si])), (t8, .inr (1, [.ref b8, .int (nI (rw_add 200 x8 v0).length)])), (b8, .inl (c8, 200, .inl u.1)), (t9, .inr (1, [.ref b9, .int (nI (rw_add 200 x9 v1).length)])), (b9, .inl (c9, 200, .inl u.2))]) A) (cc := cX2_tell) (maxL := 3) (ret := none) (by decide) rfl (Nat.le_of_ble_eq_true rfl) ?_
  intro p e s m below meth c ls A hx hb hr hml hown hts hlocks hnm hP hK hN hD hA hS hl
  have hl : lv_has ls 3 [(0, .ref h), (1, .int v0), (2, .int v1)] := hl
  refine lv_aload_n hx hb dX2_tell_0 rfl (lv_at hl 0 rfl) ?_
  refine va_get (D := D) (ci := 3) (v := .ref t8) (C := RX2) (T := TX2) (N := 11) hx hb hts (by decide +kernel) hown hK hP 0 rfl rfl 8 (by decide) (hts (.fieldLink RX2 43 "CharacterRows" "toldCodes" "LCharacterRows$Codes;") (by decide +kernel)) (fun _ h9 => h9) rfl dX2_tell_1 ?_
  refine lv_iload_n hx hb dX2_tell_4 rfl (lv_at hl 1 rfl) ?_
  refine clV (wr := [(h, .inr (3, [.ref t0, .ref t1, .ref t2, .ref t3, .ref t4, .ref t5, .ref t6, .ref t7, .ref t8, .ref t9, .int si])), (t9, .inr (1, [.ref b9, .int (nI x9.length)])), (b9, .inl (c9, 200, .inl f9))]) (va_runV ⟨hx, hb, hml, hown, hts⟩ (KX0_add l D t8 b8 c8 f8 x8 o8 v0 _) (cwV 1 hts gX2_tell_X0_add rfl rfl rfl (by decide +kernel) ⟨Nat.le_of_ble_eq_true rfl, Nat.le_of_ble_eq_true rfl⟩) (pcM_V (hP.sub (ws' := [(t8, .inr (1, [.ref b8, .int (nI x8.length)])), (b8, .inl (c8, 200, .inl f8))]) [1, 2] rfl) (hD.sub (ws' := [(t8, .inr (1, [.ref b8, .int (nI x8.length)])), (b8, .inl (c8, 200, .inl f8))]) [1, 2] (by decide) rfl) (hK.sub (tys' := [(c8, .int)]) [0] rfl) hN 0 rfl rfl) rfl rfl hl.1 rfl (lv_room (Nat.le_of_ble_eq_true rfl)) dX2_tell_5 ⟨Nat.zero_le _, Nat.zero_le _⟩) hP hD hS hA [1, 2] [0, 3, 4] rfl rfl (by decide) (by decide) (fun u_1 H locs hw_1 hP hD hS => ?_)
  have hP : va_P D vwCl [(h, .inr (3, [.ref t0, .ref t1, .ref t2, .ref t3, .ref t4, .ref t5, .ref t6, .ref t7, .ref t8, .ref t9, .int si])), (t8, .inr (1, [.ref b8, .int (nI (rw_add 200 x8 v0).length)])), (b8, .inl (c8, 200, .inl u_1)), (t9, .inr (1, [.ref b9, .int (nI x9.length)])), (b9, .inl (c9, 200, .inl f9))] H := hP.sub [0, 3, 4, 1, 2] rfl
  have hD : va_D A [(h, .inr (3, [.ref t0, .ref t1, .ref t2, .ref t3, .ref t4, .ref t5, .ref t6, .ref t7, .ref t8, .ref t9, .int si])), (t8, .inr (1, [.ref b8, .int (nI (rw_add 200 x8 v0).length)])), (b8, .inl (c8, 200, .inl u_1)), (t9, .inr (1, [.ref b9, .int (nI x9.length)])), (b9, .inl (c9, 200, .inl f9))] := hD.sub [0, 3, 4, 1, 2] (by decide) rfl
  refine lv_aload_n hx hb dX2_tell_8 rfl (lv_at hl 0 rfl) ?_
  refine va_get (D := D) (ci := 3) (v := .ref t9) (C := RX2) (T := TX2) (N := 11) hx hb hts (by decide +kernel) hown hK hP 0 rfl rfl 9 (by decide) (hts (.fieldLink RX2 46 "CharacterRows" "toldPlaces" "LCharacterRows$Codes;") (by decide +kernel)) (fun _ h9 => h9) rfl dX2_tell_9 ?_
  refine lv_iload_n hx hb dX2_tell_12 rfl (lv_at hl 2 rfl) ?_
  refine clV (wr := [(h, .inr (3, [.ref t0, .ref t1, .ref t2, .ref t3, .ref t4, .ref t5, .ref t6, .ref t7, .ref t8, .ref t9, .int si])), (t8, .inr (1, [.ref b8, .int (nI (rw_add 200 x8 v0).length)])), (b8, .inl (c8, 200, .inl u_1))]) (va_runV ⟨hx, hb, hml, hown, hts⟩ (KX0_add l D t9 b9 c9 f9 x9 o9 v1 _) (cwV 1 hts gX2_tell_X0_add rfl rfl rfl (by decide +kernel) ⟨Nat.le_of_ble_eq_true rfl, Nat.le_of_ble_eq_true rfl⟩) (pcM_V (hP.sub (ws' := [(t9, .inr (1, [.ref b9, .int (nI x9.length)])), (b9, .inl (c9, 200, .inl f9))]) [3, 4] rfl) (hD.sub (ws' := [(t9, .inr (1, [.ref b9, .int (nI x9.length)])), (b9, .inl (c9, 200, .inl f9))]) [3, 4] (by decide) rfl) (hK.sub (tys' := [(c9, .int)]) [1] rfl) hN 0 rfl rfl) rfl rfl hl.1 rfl (lv_room (Nat.le_of_ble_eq_true rfl)) dX2_tell_13 ⟨Nat.zero_le _, Nat.zero_le _⟩) hP hD hS hA [3, 4] [0, 1, 2] rfl rfl (by decide) (by decide) (fun u_2 H locs hw_2 hP hD hS => ?_)
  have hP : va_P D vwCl [(h, .inr (3, [.ref t0, .ref t1, .ref t2, .ref t3, .ref t4, .ref t5, .ref t6, .ref t7, .ref t8, .ref t9, .int si])), (t8, .inr (1, [.ref b8, .int (nI (rw_add 200 x8 v0).length)])), (b8, .inl (c8, 200, .inl u_1)), (t9, .inr (1, [.ref b9, .int (nI (rw_add 200 x9 v1).length)])), (b9, .inl (c9, 200, .inl u_2))] H := hP.sub [0, 1, 2, 3, 4] rfl
  have hD : va_D A [(h, .inr (3, [.ref t0, .ref t1, .ref t2, .ref t3, .ref t4, .ref t5, .ref t6, .ref t7, .ref t8, .ref t9, .int si])), (t8, .inr (1, [.ref b8, .int (nI (rw_add 200 x8 v0).length)])), (b8, .inl (c8, 200, .inl u_1)), (t9, .inr (1, [.ref b9, .int (nI (rw_add 200 x9 v1).length)])), (b9, .inl (c9, 200, .inl u_2))] := hD.sub [0, 1, 2, 3, 4] (by decide) rfl
  exact rtV hx hb hr hlocks dX2_tell_16 (u_1, u_2) ⟨hw_1, hw_2⟩ hP hD hS
def oadd (cap : Nat) (xs : List Int32) (c : Int32) : List Int32 := rw_add cap xs c.toInt8.toInt32
def wob (c on : Int32) : List Int32 := if fX2_isPlain c = 0 then (if fX2_setOf c = on then [161 + fX2_placeInSet c] else [27, 103, 48 + fX2_setOf c, 161 + fX2_placeInSet c]) else [c]
def woo (c on : Int32) : Int32 := if fX2_isPlain c = 0 then fX2_setOf c else on
def wnb (c : Int32) : List Int32 := if fX2_bytesBehindFirst c = 0 then [c] else if fX2_bytesBehindFirst c = 1 then [192 + c / 64, 128 + (c - c / 64 * 64)] else [224 + c / 4096, 128 + (c / 64 - c / 64 / 64 * 64), 128 + (c - c / 64 * 64)]
set_option maxHeartbeats 4000000 in
set_option maxRecDepth 100000 in
theorem KX2_writeOldCode (l : Launch) (D : va_G) (h t0 t1 t2 t3 t4 t5 t6 t7 t8 t9 : Nat) (si : Int32) (b1 : Nat) (c1 : ClassId) (f1 : Nat → Int32) (x1 : List Int32) (o1 : rw_ok f1 400 x1) (v0 v1 : Int32) (sz : Nat) : Met l yX2_writeOldCode wsX2_writeOldCode ({ frames := 2, cells := 0, slots := 0, locals := 40 }) (pcM D sz [(h, .inr (3, [.ref t0, .ref t1, .ref t2, .ref t3, .ref t4, .ref t5, .ref t6, .ref t7, .ref t8, .ref t9, .int si])), (t1, .inr (2, [.ref b1, .int (nI x1.length)])), (b1, .inl (c1, 400, .inl f1))] [(c1, .byte)] [.ref h, .int v0, .int v1]) (qcI (S := Nat → Int32) D (fun r u => r = woo v0 v1 ∧ rw_ok u 400 ((wob v0 v1).foldl (oadd 400) x1)) (fun u => [(h, .inr (3, [.ref t0, .ref t1, .ref t2, .ref t3, .ref t4, .ref t5, .ref t6, .ref t7, .ref t8, .ref t9, .int si])), (t1, .inr (2, [.ref b1, .int (nI ((wob v0 v1).foldl (oadd 400) x1).length)])), (b1, .inl (c1, 400, .inl u))]) (va_A [(h, .inr (3, [.ref t0, .ref t1, .ref t2, .ref t3, .ref t4, .ref t5, .ref t6, .ref t7, .ref t8, .ref t9, .int si])), (t1, .inr (2, [.ref b1, .int (nI x1.length)])), (b1, .inl (c1, 400, .inl f1))] sz)) 0 0 (va_A [(h, .inr (3, [.ref t0, .ref t1, .ref t2, .ref t3, .ref t4, .ref t5, .ref t6, .ref t7, .ref t8, .ref t9, .int si])), (t1, .inr (2, [.ref b1, .int (nI x1.length)])), (b1, .inl (c1, 400, .inl f1))] sz) := by
  refine ofM (Qc := fun A => qcI (S := Nat → Int32) D (fun r u => r = woo v0 v1 ∧ rw_ok u 400 ((wob v0 v1).foldl (oadd 400) x1)) (fun u => [(h, .inr (3, [.ref t0, .ref t1, .ref t2, .ref t3, .ref t4, .ref t5, .ref t6, .ref t7, .ref t8, .ref t9, .int si])), (t1, .inr (2, [.ref b1, .int (nI ((wob v0 v1).foldl (oadd 400) x1).length)])), (b1, .inl (c1, 400, .inl u))]) A) (cc := cX2_writeOldCode) (maxL := 4) (ret := (some .int)) (by decide) rfl (Nat.le_of_ble_eq_true rfl) ?_
  intro p e s m below meth c ls A hx hb hr hml hown hts hlocks hnm hP hK hN hD hA hS hl
  have hl : lv_has ls 4 [(0, .ref h), (1, .int v0), (2, .int v1)] := hl
  refine lv_iload_n hx hb dX2_writeOldCode_0 rfl (lv_at hl 1 rfl) ?_
  refine vp_callSi (W.runS ⟨hx, hb, hml, hown, hts⟩ (KX2_isPlain l v0) (va_cwS 1 hts gX2_writeOldCode_X2_isPlain rfl rfl rfl (by decide +kernel) ⟨Nat.le_of_ble_eq_true rfl, Nat.le_of_ble_eq_true rfl⟩) pcS_S rfl rfl hl.1 rfl (lv_room (Nat.le_of_ble_eq_true rfl)) dX2_writeOldCode_1 ⟨Nat.zero_le _, Nat.zero_le _⟩) (fun r9 hr9 => ?_)
  subst r9
  refine lv_if_eq (tgt := 17) hx hb dX2_writeOldCode_4 (by decide) (fun c4_1 => ?_) (fun c4_1 => ?_)
  · skip
    refine lv_iload_n hx hb dX2_writeOldCode_17 rfl (lv_at hl 1 rfl) ?_
    refine vp_callSi (W.runS ⟨hx, hb, hml, hown, hts⟩ (KX2_setOf l v0) (va_cwS 1 hts gX2_writeOldCode_X2_setOf rfl rfl rfl (by decide +kernel) ⟨Nat.le_of_ble_eq_true rfl, Nat.le_of_ble_eq_true rfl⟩) pcS_S rfl rfl hl.1 rfl (lv_room (Nat.le_of_ble_eq_true rfl)) dX2_writeOldCode_18 ⟨Nat.zero_le _, Nat.zero_le _⟩) (fun r9 hr9 => ?_)
    subst r9
    refine lv_istore_n (lv' := [(3, .int (fX2_setOf v0)), (0, .ref h), (1, .int v0), (2, .int v1)]) hx hb dX2_writeOldCode_21 rfl hl (by decide) rfl (fun ls hl => ?_)
    refine lv_iload_n hx hb dX2_writeOldCode_22 rfl (lv_at hl 0 rfl) ?_
    refine lv_iload_n hx hb dX2_writeOldCode_23 rfl (lv_at hl 3 rfl) ?_
    refine lv_icmp_eq (tgt := 56) hx hb dX2_writeOldCode_24 (by decide) (fun c24_1 => ?_) (fun c24_1 => ?_)
    · skip
      refine lv_aload_n hx hb dX2_writeOldCode_56 rfl (lv_at hl 1 rfl) ?_
      refine va_get (D := D) (ci := 3) (v := .ref t1) (C := RX2) (T := TX2) (N := 11) hx hb hts (by decide +kernel) hown hK hP 0 rfl rfl 1 (by decide) (hts (.fieldLink RX2 18 "CharacterRows" "written" "LCharacterRows$Octets;") (by decide +kernel)) (fun _ h9 => h9) rfl dX2_writeOldCode_57 ?_
      refine lv_sipush (v := 161) hx hb dX2_writeOldCode_60 (by decide) ?_
      refine lv_iload_n hx hb dX2_writeOldCode_63 rfl (lv_at hl 2 rfl) ?_
      refine vp_callSi (W.runS ⟨hx, hb, hml, hown, hts⟩ (KX2_placeInSet l v0) (va_cwS 1 hts gX2_writeOldCode_X2_placeInSet rfl rfl rfl (by decide +kernel) ⟨Nat.le_of_ble_eq_true rfl, Nat.le_of_ble_eq_true rfl⟩) pcS_S rfl rfl hl.1 rfl (lv_room (Nat.le_of_ble_eq_true rfl)) dX2_writeOldCode_64 ⟨Nat.zero_le _, Nat.zero_le _⟩) (fun r9 hr9 => ?_)
      subst r9
      refine lv_iadd hx hb dX2_writeOldCode_67 ?_
      refine clV (wr := [(h, .inr (3, [.ref t0, .ref t1, .ref t2, .ref t3, .ref t4, .ref t5, .ref t6, .ref t7, .ref t8, .ref t9, .int si]))]) (va_runV ⟨hx, hb, hml, hown, hts⟩ (KX1_add l D t1 b1 c1 f1 x1 400 (by decide) o1 (161 + (fX2_placeInSet v0)) _) (cwV 1 hts gX2_writeOldCode_X1_add rfl rfl rfl (by decide +kernel) ⟨Nat.le_of_ble_eq_true rfl, Nat.le_of_ble_eq_true rfl⟩) (pcM_V (hP.sub (ws' := [(t1, .inr (2, [.ref b1, .int (nI x1.length)])), (b1, .inl (c1, 400, .inl f1))]) [1, 2] rfl) (hD.sub (ws' := [(t1, .inr (2, [.ref b1, .int (nI x1.length)])), (b1, .inl (c1, 400, .inl f1))]) [1, 2] (by decide) rfl) (hK.sub (tys' := [(c1, .byte)]) [0] rfl) hN 0 rfl rfl) rfl rfl hl.1 rfl (lv_room (Nat.le_of_ble_eq_true rfl)) dX2_writeOldCode_68 ⟨Nat.zero_le _, Nat.zero_le _⟩) hP hD hS hA [1, 2] [0] rfl rfl (by decide) (by decide) (fun u_1 H locs hw_1 hP hD hS => ?_)
      have hP : va_P D vwCl [(h, .inr (3, [.ref t0, .ref t1, .ref t2, .ref t3, .ref t4, .ref t5, .ref t6, .ref t7, .ref t8, .ref t9, .int si])), (t1, .inr (2, [.ref b1, .int (nI (rw_add 400 x1 ((161 + (fX2_placeInSet v0)) : Int32).toInt8.toInt32).length)])), (b1, .inl (c1, 400, .inl u_1))] H := hP.sub [0, 1, 2] rfl
      have hD : va_D A [(h, .inr (3, [.ref t0, .ref t1, .ref t2, .ref t3, .ref t4, .ref t5, .ref t6, .ref t7, .ref t8, .ref t9, .int si])), (t1, .inr (2, [.ref b1, .int (nI (rw_add 400 x1 ((161 + (fX2_placeInSet v0)) : Int32).toInt8.toInt32).length)])), (b1, .inl (c1, 400, .inl u_1))] := hD.sub [0, 1, 2] (by decide) rfl
      refine lv_iload_n hx hb dX2_writeOldCode_71 rfl (lv_at hl 0 rfl) ?_
      have e8 : (rw_add 400 x1 ((161 + (fX2_placeInSet v0)) : Int32).toInt8.toInt32) = ((wob v0 v1).foldl (oadd 400) x1) := by simp [wob, oadd, c4_1, c24_1]
      rw [e8] at hw_1 hP hD
      exact rtI hx hb hr hlocks dX2_writeOldCode_72 u_1 ⟨by simp [woo, c4_1, c24_1], hw_1⟩ hP hD hS
    · skip
      refine lv_aload_n hx hb dX2_writeOldCode_27 rfl (lv_at hl 1 rfl) ?_
      refine va_get (D := D) (ci := 3) (v := .ref t1) (C := RX2) (T := TX2) (N := 11) hx hb hts (by decide +kernel) hown hK hP 0 rfl rfl 1 (by decide) (hts (.fieldLink RX2 18 "CharacterRows" "written" "LCharacterRows$Octets;") (by decide +kernel)) (fun _ h9 => h9) rfl dX2_writeOldCode_28 ?_
      refine lv_bipush (v := 27) hx hb dX2_writeOldCode_31 (by decide) ?_
      refine clV (wr := [(h, .inr (3, [.ref t0, .ref t1, .ref t2, .ref t3, .ref t4, .ref t5, .ref t6, .ref t7, .ref t8, .ref t9, .int si]))]) (va_runV ⟨hx, hb, hml, hown, hts⟩ (KX1_add l D t1 b1 c1 f1 x1 400 (by decide) o1 27 _) (cwV 1 hts gX2_writeOldCode_X1_add rfl rfl rfl (by decide +kernel) ⟨Nat.le_of_ble_eq_true rfl, Nat.le_of_ble_eq_true rfl⟩) (pcM_V (hP.sub (ws' := [(t1, .inr (2, [.ref b1, .int (nI x1.length)])), (b1, .inl (c1, 400, .inl f1))]) [1, 2] rfl) (hD.sub (ws' := [(t1, .inr (2, [.ref b1, .int (nI x1.length)])), (b1, .inl (c1, 400, .inl f1))]) [1, 2] (by decide) rfl) (hK.sub (tys' := [(c1, .byte)]) [0] rfl) hN 0 rfl rfl) rfl rfl hl.1 rfl (lv_room (Nat.le_of_ble_eq_true rfl)) dX2_writeOldCode_33 ⟨Nat.zero_le _, Nat.zero_le _⟩) hP hD hS hA [1, 2] [0] rfl rfl (by decide) (by decide) (fun u_2 H locs hw_2 hP hD hS => ?_)
      have hP : va_P D vwCl [(h, .inr (3, [.ref t0, .ref t1, .ref t2, .ref t3, .ref t4, .ref t5, .ref t6, .ref t7, .ref t8, .ref t9, .int si])), (t1, .inr (2, [.ref b1, .int (nI (rw_add 400 x1 (27 : Int32).toInt8.toInt32).length)])), (b1, .inl (c1, 400, .inl u_2))] H := hP.sub [0, 1, 2] rfl
      have hD : va_D A [(h, .inr (3, [.ref t0, .ref t1, .ref t2, .ref t3, .ref t4, .ref t5, .ref t6, .ref t7, .ref t8, .ref t9, .int si])), (t1, .inr (2, [.ref b1, .int (nI (rw_add 400 x1 (27 : Int32).toInt8.toInt32).length)])), (b1, .inl (c1, 400, .inl u_2))] := hD.sub [0, 1, 2] (by decide) rfl
      refine lv_aload_n hx hb dX2_writeOldCode_36 rfl (lv_at hl 1 rfl) ?_
      refine va_get (D := D) (ci := 3) (v := .ref t1) (C := RX2) (T := TX2) (N := 11) hx hb hts (by decide +kernel) hown hK hP 0 rfl rfl 1 (by decide) (hts (.fieldLink RX2 18 "CharacterRows" "written" "LCharacterRows$Octets;") (by decide +kernel)) (fun _ h9 => h9) rfl dX2_writeOldCode_37 ?_
      refine lv_bipush (v := 103) hx hb dX2_writeOldCode_40 (by decide) ?_
      refine clV (wr := [(h, .inr (3, [.ref t0, .ref t1, .ref t2, .ref t3, .ref t4, .ref t5, .ref t6, .ref t7, .ref t8, .ref t9, .int si]))]) (va_runV ⟨hx, hb, hml, hown, hts⟩ (KX1_add l D t1 b1 c1 u_2 (rw_add 400 x1 (27 : Int32).toInt8.toInt32) 400 (by decide) hw_2 103 _) (cwV 1 hts gX2_writeOldCode_X1_add rfl rfl rfl (by decide +kernel) ⟨Nat.le_of_ble_eq_true rfl, Nat.le_of_ble_eq_true rfl⟩) (pcM_V (hP.sub (ws' := [(t1, .inr (2, [.ref b1, .int (nI (rw_add 400 x1 (27 : Int32).toInt8.toInt32).length)])), (b1, .inl (c1, 400, .inl u_2))]) [1, 2] rfl) (hD.sub (ws' := [(t1, .inr (2, [.ref b1, .int (nI (rw_add 400 x1 (27 : Int32).toInt8.toInt32).length)])), (b1, .inl (c1, 400, .inl u_2))]) [1, 2] (by decide) rfl) (hK.sub (tys' := [(c1, .byte)]) [0] rfl) hN 0 rfl rfl) rfl rfl hl.1 rfl (lv_room (Nat.le_of_ble_eq_true rfl)) dX2_writeOldCode_42 ⟨Nat.zero_le _, Nat.zero_le _⟩) hP hD hS hA [1, 2] [0] rfl rfl (by decide) (by decide) (fun u_3 H locs hw_3 hP hD hS => ?_)
      have hP : va_P D vwCl [(h, .inr (3, [.ref t0, .ref t1, .ref t2, .ref t3, .ref t4, .ref t5, .ref t6, .ref t7, .ref t8, .ref t9, .int si])), (t1, .inr (2, [.ref b1, .int (nI (rw_add 400 (rw_add 400 x1 (27 : Int32).toInt8.toInt32) (103 : Int32).toInt8.toInt32).length)])), (b1, .inl (c1, 400, .inl u_3))] H := hP.sub [0, 1, 2] rfl
      have hD : va_D A [(h, .inr (3, [.ref t0, .ref t1, .ref t2, .ref t3, .ref t4, .ref t5, .ref t6, .ref t7, .ref t8, .ref t9, .int si])), (t1, .inr (2, [.ref b1, .int (nI (rw_add 400 (rw_add 400 x1 (27 : Int32).toInt8.toInt32) (103 : Int32).toInt8.toInt32).length)])), (b1, .inl (c1, 400, .inl u_3))] := hD.sub [0, 1, 2] (by decide) rfl
      refine lv_aload_n hx hb dX2_writeOldCode_45 rfl (lv_at hl 1 rfl) ?_
      refine va_get (D := D) (ci := 3) (v := .ref t1) (C := RX2) (T := TX2) (N := 11) hx hb hts (by decide +kernel) hown hK hP 0 rfl rfl 1 (by decide) (hts (.fieldLink RX2 18 "CharacterRows" "written" "LCharacterRows$Octets;") (by decide +kernel)) (fun _ h9 => h9) rfl dX2_writeOldCode_46 ?_
      refine lv_bipush (v := 48) hx hb dX2_writeOldCode_49 (by decide) ?_
      refine lv_iload_n hx hb dX2_writeOldCode_51 rfl (lv_at hl 0 rfl) ?_
      refine lv_iadd hx hb dX2_writeOldCode_52 ?_
      refine clV (wr := [(h, .inr (3, [.ref t0, .ref t1, .ref t2, .ref t3, .ref t4, .ref t5, .ref t6, .ref t7, .ref t8, .ref t9, .int si]))]) (va_runV ⟨hx, hb, hml, hown, hts⟩ (KX1_add l D t1 b1 c1 u_3 (rw_add 400 (rw_add 400 x1 (27 : Int32).toInt8.toInt32) (103 : Int32).toInt8.toInt32) 400 (by decide) hw_3 (48 + (fX2_setOf v0)) _) (cwV 1 hts gX2_writeOldCode_X1_add rfl rfl rfl (by decide +kernel) ⟨Nat.le_of_ble_eq_true rfl, Nat.le_of_ble_eq_true rfl⟩) (pcM_V (hP.sub (ws' := [(t1, .inr (2, [.ref b1, .int (nI (rw_add 400 (rw_add 400 x1 (27 : Int32).toInt8.toInt32) (103 : Int32).toInt8.toInt32).length)])), (b1, .inl (c1, 400, .inl u_3))]) [1, 2] rfl) (hD.sub (ws' := [(t1, .inr (2, [.ref b1, .int (nI (rw_add 400 (rw_add 400 x1 (27 : Int32).toInt8.toInt32) (103 : Int32).toInt8.toInt32).length)])), (b1, .inl (c1, 400, .inl u_3))]) [1, 2] (by decide) rfl) (hK.sub (tys' := [(c1, .byte)]) [0] rfl) hN 0 rfl rfl) rfl rfl hl.1 rfl (lv_room (Nat.le_of_ble_eq_true rfl)) dX2_writeOldCode_53 ⟨Nat.zero_le _, Nat.zero_le _⟩) hP hD hS hA [1, 2] [0] rfl rfl (by decide) (by decide) (fun u_4 H locs hw_4 hP hD hS => ?_)
      have hP : va_P D vwCl [(h, .inr (3, [.ref t0, .ref t1, .ref t2, .ref t3, .ref t4, .ref t5, .ref t6, .ref t7, .ref t8, .ref t9, .int si])), (t1, .inr (2, [.ref b1, .int (nI (rw_add 400 (rw_add 400 (rw_add 400 x1 (27 : Int32).toInt8.toInt32) (103 : Int32).toInt8.toInt32) ((48 + (fX2_setOf v0)) : Int32).toInt8.toInt32).length)])), (b1, .inl (c1, 400, .inl u_4))] H := hP.sub [0, 1, 2] rfl
      have hD : va_D A [(h, .inr (3, [.ref t0, .ref t1, .ref t2, .ref t3, .ref t4, .ref t5, .ref t6, .ref t7, .ref t8, .ref t9, .int si])), (t1, .inr (2, [.ref b1, .int (nI (rw_add 400 (rw_add 400 (rw_add 400 x1 (27 : Int32).toInt8.toInt32) (103 : Int32).toInt8.toInt32) ((48 + (fX2_setOf v0)) : Int32).toInt8.toInt32).length)])), (b1, .inl (c1, 400, .inl u_4))] := hD.sub [0, 1, 2] (by decide) rfl
      refine lv_aload_n hx hb dX2_writeOldCode_56 rfl (lv_at hl 1 rfl) ?_
      refine va_get (D := D) (ci := 3) (v := .ref t1) (C := RX2) (T := TX2) (N := 11) hx hb hts (by decide +kernel) hown hK hP 0 rfl rfl 1 (by decide) (hts (.fieldLink RX2 18 "CharacterRows" "written" "LCharacterRows$Octets;") (by decide +kernel)) (fun _ h9 => h9) rfl dX2_writeOldCode_57 ?_
      refine lv_sipush (v := 161) hx hb dX2_writeOldCode_60 (by decide) ?_
      refine lv_iload_n hx hb dX2_writeOldCode_63 rfl (lv_at hl 2 rfl) ?_
      refine vp_callSi (W.runS ⟨hx, hb, hml, hown, hts⟩ (KX2_placeInSet l v0) (va_cwS 1 hts gX2_writeOldCode_X2_placeInSet rfl rfl rfl (by decide +kernel) ⟨Nat.le_of_ble_eq_true rfl, Nat.le_of_ble_eq_true rfl⟩) pcS_S rfl rfl hl.1 rfl (lv_room (Nat.le_of_ble_eq_true rfl)) dX2_writeOldCode_64 ⟨Nat.zero_le _, Nat.zero_le _⟩) (fun r9 hr9 => ?_)
      subst r9
      refine lv_iadd hx hb dX2_writeOldCode_67 ?_
      refine clV (wr := [(h, .inr (3, [.ref t0, .ref t1, .ref t2, .ref t3, .ref t4, .ref t5, .ref t6, .ref t7, .ref t8, .ref t9, .int si]))]) (va_runV ⟨hx, hb, hml, hown, hts⟩ (KX1_add l D t1 b1 c1 u_4 (rw_add 400 (rw_add 400 (rw_add 400 x1 (27 : Int32).toInt8.toInt32) (103 : Int32).toInt8.toInt32) ((48 + (fX2_setOf v0)) : Int32).toInt8.toInt32) 400 (by decide) hw_4 (161 + (fX2_placeInSet v0)) _) (cwV 1 hts gX2_writeOldCode_X1_add rfl rfl rfl (by decide +kernel) ⟨Nat.le_of_ble_eq_true rfl, Nat.le_of_ble_eq_true rfl⟩) (pcM_V (hP.sub (ws' := [(t1, .inr (2, [.ref b1, .int (nI (rw_add 400 (rw_add 400 (rw_add 400 x1 (27 : Int32).toInt8.toInt32) (103 : Int32).toInt8.toInt32) ((48 + (fX2_setOf v0)) : Int32).toInt8.toInt32).length)])), (b1, .inl (c1, 400, .inl u_4))]) [1, 2] rfl) (hD.sub (ws' := [(t1, .inr (2, [.ref b1, .int (nI (rw_add 400 (rw_add 400 (rw_add 400 x1 (27 : Int32).toInt8.toInt32) (103 : Int32).toInt8.toInt32) ((48 + (fX2_setOf v0)) : Int32).toInt8.toInt32).length)])), (b1, .inl (c1, 400, .inl u_4))]) [1, 2] (by decide) rfl) (hK.sub (tys' := [(c1, .byte)]) [0] rfl) hN 0 rfl rfl) rfl rfl hl.1 rfl (lv_room (Nat.le_of_ble_eq_true rfl)) dX2_writeOldCode_68 ⟨Nat.zero_le _, Nat.zero_le _⟩) hP hD hS hA [1, 2] [0] rfl rfl (by decide) (by decide) (fun u_5 H locs hw_5 hP hD hS => ?_)
      have hP : va_P D vwCl [(h, .inr (3, [.ref t0, .ref t1, .ref t2, .ref t3, .ref t4, .ref t5, .ref t6, .ref t7, .ref t8, .ref t9, .int si])), (t1, .inr (2, [.ref b1, .int (nI (rw_add 400 (rw_add 400 (rw_add 400 (rw_add 400 x1 (27 : Int32).toInt8.toInt32) (103 : Int32).toInt8.toInt32) ((48 + (fX2_setOf v0)) : Int32).toInt8.toInt32) ((161 + (fX2_placeInSet v0)) : Int32).toInt8.toInt32).length)])), (b1, .inl (c1, 400, .inl u_5))] H := hP.sub [0, 1, 2] rfl
      have hD : va_D A [(h, .inr (3, [.ref t0, .ref t1, .ref t2, .ref t3, .ref t4, .ref t5, .ref t6, .ref t7, .ref t8, .ref t9, .int si])), (t1, .inr (2, [.ref b1, .int (nI (rw_add 400 (rw_add 400 (rw_add 400 (rw_add 400 x1 (27 : Int32).toInt8.toInt32) (103 : Int32).toInt8.toInt32) ((48 + (fX2_setOf v0)) : Int32).toInt8.toInt32) ((161 + (fX2_placeInSet v0)) : Int32).toInt8.toInt32).length)])), (b1, .inl (c1, 400, .inl u_5))] := hD.sub [0, 1, 2] (by decide) rfl
      refine lv_iload_n hx hb dX2_writeOldCode_71 rfl (lv_at hl 0 rfl) ?_
      have e8 : (rw_add 400 (rw_add 400 (rw_add 400 (rw_add 400 x1 (27 : Int32).toInt8.toInt32) (103 : Int32).toInt8.toInt32) ((48 + (fX2_setOf v0)) : Int32).toInt8.toInt32) ((161 + (fX2_placeInSet v0)) : Int32).toInt8.toInt32) = ((wob v0 v1).foldl (oadd 400) x1) := by simp [wob, oadd, c4_1, c24_1]
      rw [e8] at hw_5 hP hD
      exact rtI hx hb hr hlocks dX2_writeOldCode_72 u_5 ⟨by simp [woo, c4_1, c24_1], hw_5⟩ hP hD hS
  · skip
    refine lv_aload_n hx hb dX2_writeOldCode_7 rfl (lv_at hl 0 rfl) ?_
    refine va_get (D := D) (ci := 3) (v := .ref t1) (C := RX2) (T := TX2) (N := 11) hx hb hts (by decide +kernel) hown hK hP 0 rfl rfl 1 (by decide) (hts (.fieldLink RX2 18 "CharacterRows" "written" "LCharacterRows$Octets;") (by decide +kernel)) (fun _ h9 => h9) rfl dX2_writeOldCode_8 ?_
    refine lv_iload_n hx hb dX2_writeOldCode_11 rfl (lv_at hl 1 rfl) ?_
    refine clV (wr := [(h, .inr (3, [.ref t0, .ref t1, .ref t2, .ref t3, .ref t4, .ref t5, .ref t6, .ref t7, .ref t8, .ref t9, .int si]))]) (va_runV ⟨hx, hb, hml, hown, hts⟩ (KX1_add l D t1 b1 c1 f1 x1 400 (by decide) o1 v0 _) (cwV 1 hts gX2_writeOldCode_X1_add rfl rfl rfl (by decide +kernel) ⟨Nat.le_of_ble_eq_true rfl, Nat.le_of_ble_eq_true rfl⟩) (pcM_V (hP.sub (ws' := [(t1, .inr (2, [.ref b1, .int (nI x1.length)])), (b1, .inl (c1, 400, .inl f1))]) [1, 2] rfl) (hD.sub (ws' := [(t1, .inr (2, [.ref b1, .int (nI x1.length)])), (b1, .inl (c1, 400, .inl f1))]) [1, 2] (by decide) rfl) (hK.sub (tys' := [(c1, .byte)]) [0] rfl) hN 0 rfl rfl) rfl rfl hl.1 rfl (lv_room (Nat.le_of_ble_eq_true rfl)) dX2_writeOldCode_12 ⟨Nat.zero_le _, Nat.zero_le _⟩) hP hD hS hA [1, 2] [0] rfl rfl (by decide) (by decide) (fun u_6 H locs hw_6 hP hD hS => ?_)
    have hP : va_P D vwCl [(h, .inr (3, [.ref t0, .ref t1, .ref t2, .ref t3, .ref t4, .ref t5, .ref t6, .ref t7, .ref t8, .ref t9, .int si])), (t1, .inr (2, [.ref b1, .int (nI (rw_add 400 x1 (v0 : Int32).toInt8.toInt32).length)])), (b1, .inl (c1, 400, .inl u_6))] H := hP.sub [0, 1, 2] rfl
    have hD : va_D A [(h, .inr (3, [.ref t0, .ref t1, .ref t2, .ref t3, .ref t4, .ref t5, .ref t6, .ref t7, .ref t8, .ref t9, .int si])), (t1, .inr (2, [.ref b1, .int (nI (rw_add 400 x1 (v0 : Int32).toInt8.toInt32).length)])), (b1, .inl (c1, 400, .inl u_6))] := hD.sub [0, 1, 2] (by decide) rfl
    refine lv_iload_n hx hb dX2_writeOldCode_15 rfl (lv_at hl 2 rfl) ?_
    have e8 : (rw_add 400 x1 (v0 : Int32).toInt8.toInt32) = ((wob v0 v1).foldl (oadd 400) x1) := by simp [wob, oadd, c4_1]
    rw [e8] at hw_6 hP hD
    exact rtI hx hb hr hlocks dX2_writeOldCode_16 u_6 ⟨by simp [woo, c4_1], hw_6⟩ hP hD hS
set_option maxHeartbeats 4000000 in
set_option maxRecDepth 100000 in
theorem KX2_writeNewCode (l : Launch) (D : va_G) (h t0 t1 t2 t3 t4 t5 t6 t7 t8 t9 : Nat) (si : Int32) (b1 : Nat) (c1 : ClassId) (f1 : Nat → Int32) (x1 : List Int32) (o1 : rw_ok f1 400 x1) (v0 : Int32) (sz : Nat) : Met l yX2_writeNewCode wsX2_writeNewCode ({ frames := 1, cells := 0, slots := 0, locals := 21 }) (pcM D sz [(h, .inr (3, [.ref t0, .ref t1, .ref t2, .ref t3, .ref t4, .ref t5, .ref t6, .ref t7, .ref t8, .ref t9, .int si])), (t1, .inr (2, [.ref b1, .int (nI x1.length)])), (b1, .inl (c1, 400, .inl f1))] [(c1, .byte)] [.ref h, .int v0]) (qcV (S := Nat → Int32) D (fun u => rw_ok u 400 ((wnb v0).foldl (oadd 400) x1)) (fun u => [(h, .inr (3, [.ref t0, .ref t1, .ref t2, .ref t3, .ref t4, .ref t5, .ref t6, .ref t7, .ref t8, .ref t9, .int si])), (t1, .inr (2, [.ref b1, .int (nI ((wnb v0).foldl (oadd 400) x1).length)])), (b1, .inl (c1, 400, .inl u))]) (va_A [(h, .inr (3, [.ref t0, .ref t1, .ref t2, .ref t3, .ref t4, .ref t5, .ref t6, .ref t7, .ref t8, .ref t9, .int si])), (t1, .inr (2, [.ref b1, .int (nI x1.length)])), (b1, .inl (c1, 400, .inl f1))] sz)) 0 0 (va_A [(h, .inr (3, [.ref t0, .ref t1, .ref t2, .ref t3, .ref t4, .ref t5, .ref t6, .ref t7, .ref t8, .ref t9, .int si])), (t1, .inr (2, [.ref b1, .int (nI x1.length)])), (b1, .inl (c1, 400, .inl f1))] sz) := by
  refine ofM (Qc := fun A => qcV (S := Nat → Int32) D (fun u => rw_ok u 400 ((wnb v0).foldl (oadd 400) x1)) (fun u => [(h, .inr (3, [.ref t0, .ref t1, .ref t2, .ref t3, .ref t4, .ref t5, .ref t6, .ref t7, .ref t8, .ref t9, .int si])), (t1, .inr (2, [.ref b1, .int (nI ((wnb v0).foldl (oadd 400) x1).length)])), (b1, .inl (c1, 400, .inl u))]) A) (cc := cX2_writeNewCode) (maxL := 3) (ret := none) (by decide) rfl (Nat.le_of_ble_eq_true rfl) ?_
  intro p e s m below meth c ls A hx hb hr hml hown hts hlocks hnm hP hK hN hD hA hS hl
  have hl : lv_has ls 3 [(0, .ref h), (1, .int v0)] := hl
  refine lv_iload_n hx hb dX2_writeNewCode_0 rfl (lv_at hl 1 rfl) ?_
  refine vp_callSi (W.runS ⟨hx, hb, hml, hown, hts⟩ (KX2_bytesBehindFirst l v0) (va_cwS 1 hts gX2_writeNewCode_X2_bytesBehindFirst rfl rfl rfl (by decide +kernel) ⟨Nat.le_of_ble_eq_true rfl, Nat.le_of_ble_eq_true rfl⟩) pcS_S rfl rfl hl.1 rfl (lv_room (Nat.le_of_ble_eq_true rfl)) dX2_writeNewCode_1 ⟨Nat.zero_le _, Nat.zero_le _⟩) (fun r9 hr9 => ?_)
  subst r9
  refine lv_istore_n (lv' := [(2, .int (fX2_bytesBehindFirst v0)), (0, .ref h), (1, .int v0)]) hx hb dX2_writeNewCode_4 rfl hl (by decide) rfl (fun ls hl => ?_)
  refine lv_iload_n hx hb dX2_writeNewCode_5 rfl (lv_at hl 0 rfl) ?_
  refine lv_if_ne (tgt := 18) hx hb dX2_writeNewCode_6 (by decide) (fun c6_1 => ?_) (fun c6_1 => ?_)
  · skip
    refine lv_iload_n hx hb dX2_writeNewCode_18 rfl (lv_at hl 0 rfl) ?_
    refine lv_iconst (v := 1) hx hb dX2_writeNewCode_19 (by decide) ?_
    refine lv_icmp_ne (tgt := 41) hx hb dX2_writeNewCode_20 (by decide) (fun c20_1 => ?_) (fun c20_1 => ?_)
    · skip
      refine lv_aload_n hx hb dX2_writeNewCode_41 rfl (lv_at hl 1 rfl) ?_
      refine va_get (D := D) (ci := 3) (v := .ref t1) (C := RX2) (T := TX2) (N := 11) hx hb hts (by decide +kernel) hown hK hP 0 rfl rfl 1 (by decide) (hts (.fieldLink RX2 18 "CharacterRows" "written" "LCharacterRows$Octets;") (by decide +kernel)) (fun _ h9 => h9) rfl dX2_writeNewCode_42 ?_
      refine lv_sipush (v := 224) hx hb dX2_writeNewCode_45 (by decide) ?_
      refine lv_iload_n hx hb dX2_writeNewCode_48 rfl (lv_at hl 2 rfl) ?_
      refine lv_sipush (v := 4096) hx hb dX2_writeNewCode_49 (by decide) ?_
      refine lv_idiv hx hb dX2_writeNewCode_52 (by decide) ?_
      refine lv_iadd hx hb dX2_writeNewCode_53 ?_
      refine clV (wr := [(h, .inr (3, [.ref t0, .ref t1, .ref t2, .ref t3, .ref t4, .ref t5, .ref t6, .ref t7, .ref t8, .ref t9, .int si]))]) (va_runV ⟨hx, hb, hml, hown, hts⟩ (KX1_add l D t1 b1 c1 f1 x1 400 (by decide) o1 (224 + (v0 / 4096)) _) (cwV 1 hts gX2_writeNewCode_X1_add rfl rfl rfl (by decide +kernel) ⟨Nat.le_of_ble_eq_true rfl, Nat.le_of_ble_eq_true rfl⟩) (pcM_V (hP.sub (ws' := [(t1, .inr (2, [.ref b1, .int (nI x1.length)])), (b1, .inl (c1, 400, .inl f1))]) [1, 2] rfl) (hD.sub (ws' := [(t1, .inr (2, [.ref b1, .int (nI x1.length)])), (b1, .inl (c1, 400, .inl f1))]) [1, 2] (by decide) rfl) (hK.sub (tys' := [(c1, .byte)]) [0] rfl) hN 0 rfl rfl) rfl rfl hl.1 rfl (lv_room (Nat.le_of_ble_eq_true rfl)) dX2_writeNewCode_54 ⟨Nat.zero_le _, Nat.zero_le _⟩) hP hD hS hA [1, 2] [0] rfl rfl (by decide) (by decide) (fun u_1 H locs hw_1 hP hD hS => ?_)
      have hP : va_P D vwCl [(h, .inr (3, [.ref t0, .ref t1, .ref t2, .ref t3, .ref t4, .ref t5, .ref t6, .ref t7, .ref t8, .ref t9, .int si])), (t1, .inr (2, [.ref b1, .int (nI (rw_add 400 x1 ((224 + (v0 / 4096)) : Int32).toInt8.toInt32).length)])), (b1, .inl (c1, 400, .inl u_1))] H := hP.sub [0, 1, 2] rfl
      have hD : va_D A [(h, .inr (3, [.ref t0, .ref t1, .ref t2, .ref t3, .ref t4, .ref t5, .ref t6, .ref t7, .ref t8, .ref t9, .int si])), (t1, .inr (2, [.ref b1, .int (nI (rw_add 400 x1 ((224 + (v0 / 4096)) : Int32).toInt8.toInt32).length)])), (b1, .inl (c1, 400, .inl u_1))] := hD.sub [0, 1, 2] (by decide) rfl
      refine lv_aload_n hx hb dX2_writeNewCode_57 rfl (lv_at hl 1 rfl) ?_
      refine va_get (D := D) (ci := 3) (v := .ref t1) (C := RX2) (T := TX2) (N := 11) hx hb hts (by decide +kernel) hown hK hP 0 rfl rfl 1 (by decide) (hts (.fieldLink RX2 18 "CharacterRows" "written" "LCharacterRows$Octets;") (by decide +kernel)) (fun _ h9 => h9) rfl dX2_writeNewCode_58 ?_
      refine lv_sipush (v := 128) hx hb dX2_writeNewCode_61 (by decide) ?_
      refine lv_iload_n hx hb dX2_writeNewCode_64 rfl (lv_at hl 2 rfl) ?_
      refine lv_bipush (v := 64) hx hb dX2_writeNewCode_65 (by decide) ?_
      refine lv_idiv hx hb dX2_writeNewCode_67 (by decide) ?_
      refine lv_bipush (v := 64) hx hb dX2_writeNewCode_68 (by decide) ?_
      refine lv_irem hx hb dX2_writeNewCode_70 (by decide) ?_
      refine lv_iadd hx hb dX2_writeNewCode_71 ?_
      refine clV (wr := [(h, .inr (3, [.ref t0, .ref t1, .ref t2, .ref t3, .ref t4, .ref t5, .ref t6, .ref t7, .ref t8, .ref t9, .int si]))]) (va_runV ⟨hx, hb, hml, hown, hts⟩ (KX1_add l D t1 b1 c1 u_1 (rw_add 400 x1 ((224 + (v0 / 4096)) : Int32).toInt8.toInt32) 400 (by decide) hw_1 (128 + ((v0 / 64) - (v0 / 64) / 64 * 64)) _) (cwV 1 hts gX2_writeNewCode_X1_add rfl rfl rfl (by decide +kernel) ⟨Nat.le_of_ble_eq_true rfl, Nat.le_of_ble_eq_true rfl⟩) (pcM_V (hP.sub (ws' := [(t1, .inr (2, [.ref b1, .int (nI (rw_add 400 x1 ((224 + (v0 / 4096)) : Int32).toInt8.toInt32).length)])), (b1, .inl (c1, 400, .inl u_1))]) [1, 2] rfl) (hD.sub (ws' := [(t1, .inr (2, [.ref b1, .int (nI (rw_add 400 x1 ((224 + (v0 / 4096)) : Int32).toInt8.toInt32).length)])), (b1, .inl (c1, 400, .inl u_1))]) [1, 2] (by decide) rfl) (hK.sub (tys' := [(c1, .byte)]) [0] rfl) hN 0 rfl rfl) rfl rfl hl.1 rfl (lv_room (Nat.le_of_ble_eq_true rfl)) dX2_writeNewCode_72 ⟨Nat.zero_le _, Nat.zero_le _⟩) hP hD hS hA [1, 2] [0] rfl rfl (by decide) (by decide) (fun u_2 H locs hw_2 hP hD hS => ?_)
      have hP : va_P D vwCl [(h, .inr (3, [.ref t0, .ref t1, .ref t2, .ref t3, .ref t4, .ref t5, .ref t6, .ref t7, .ref t8, .ref t9, .int si])), (t1, .inr (2, [.ref b1, .int (nI (rw_add 400 (rw_add 400 x1 ((224 + (v0 / 4096)) : Int32).toInt8.toInt32) ((128 + ((v0 / 64) - (v0 / 64) / 64 * 64)) : Int32).toInt8.toInt32).length)])), (b1, .inl (c1, 400, .inl u_2))] H := hP.sub [0, 1, 2] rfl
      have hD : va_D A [(h, .inr (3, [.ref t0, .ref t1, .ref t2, .ref t3, .ref t4, .ref t5, .ref t6, .ref t7, .ref t8, .ref t9, .int si])), (t1, .inr (2, [.ref b1, .int (nI (rw_add 400 (rw_add 400 x1 ((224 + (v0 / 4096)) : Int32).toInt8.toInt32) ((128 + ((v0 / 64) - (v0 / 64) / 64 * 64)) : Int32).toInt8.toInt32).length)])), (b1, .inl (c1, 400, .inl u_2))] := hD.sub [0, 1, 2] (by decide) rfl
      refine lv_aload_n hx hb dX2_writeNewCode_75 rfl (lv_at hl 1 rfl) ?_
      refine va_get (D := D) (ci := 3) (v := .ref t1) (C := RX2) (T := TX2) (N := 11) hx hb hts (by decide +kernel) hown hK hP 0 rfl rfl 1 (by decide) (hts (.fieldLink RX2 18 "CharacterRows" "written" "LCharacterRows$Octets;") (by decide +kernel)) (fun _ h9 => h9) rfl dX2_writeNewCode_76 ?_
      refine lv_sipush (v := 128) hx hb dX2_writeNewCode_79 (by decide) ?_
      refine lv_iload_n hx hb dX2_writeNewCode_82 rfl (lv_at hl 2 rfl) ?_
      refine lv_bipush (v := 64) hx hb dX2_writeNewCode_83 (by decide) ?_
      refine lv_irem hx hb dX2_writeNewCode_85 (by decide) ?_
      refine lv_iadd hx hb dX2_writeNewCode_86 ?_
      refine clV (wr := [(h, .inr (3, [.ref t0, .ref t1, .ref t2, .ref t3, .ref t4, .ref t5, .ref t6, .ref t7, .ref t8, .ref t9, .int si]))]) (va_runV ⟨hx, hb, hml, hown, hts⟩ (KX1_add l D t1 b1 c1 u_2 (rw_add 400 (rw_add 400 x1 ((224 + (v0 / 4096)) : Int32).toInt8.toInt32) ((128 + ((v0 / 64) - (v0 / 64) / 64 * 64)) : Int32).toInt8.toInt32) 400 (by decide) hw_2 (128 + (v0 - v0 / 64 * 64)) _) (cwV 1 hts gX2_writeNewCode_X1_add rfl rfl rfl (by decide +kernel) ⟨Nat.le_of_ble_eq_true rfl, Nat.le_of_ble_eq_true rfl⟩) (pcM_V (hP.sub (ws' := [(t1, .inr (2, [.ref b1, .int (nI (rw_add 400 (rw_add 400 x1 ((224 + (v0 / 4096)) : Int32).toInt8.toInt32) ((128 + ((v0 / 64) - (v0 / 64) / 64 * 64)) : Int32).toInt8.toInt32).length)])), (b1, .inl (c1, 400, .inl u_2))]) [1, 2] rfl) (hD.sub (ws' := [(t1, .inr (2, [.ref b1, .int (nI (rw_add 400 (rw_add 400 x1 ((224 + (v0 / 4096)) : Int32).toInt8.toInt32) ((128 + ((v0 / 64) - (v0 / 64) / 64 * 64)) : Int32).toInt8.toInt32).length)])), (b1, .inl (c1, 400, .inl u_2))]) [1, 2] (by decide) rfl) (hK.sub (tys' := [(c1, .byte)]) [0] rfl) hN 0 rfl rfl) rfl rfl hl.1 rfl (lv_room (Nat.le_of_ble_eq_true rfl)) dX2_writeNewCode_87 ⟨Nat.zero_le _, Nat.zero_le _⟩) hP hD hS hA [1, 2] [0] rfl rfl (by decide) (by decide) (fun u_3 H locs hw_3 hP hD hS => ?_)
      have hP : va_P D vwCl [(h, .inr (3, [.ref t0, .ref t1, .ref t2, .ref t3, .ref t4, .ref t5, .ref t6, .ref t7, .ref t8, .ref t9, .int si])), (t1, .inr (2, [.ref b1, .int (nI (rw_add 400 (rw_add 400 (rw_add 400 x1 ((224 + (v0 / 4096)) : Int32).toInt8.toInt32) ((128 + ((v0 / 64) - (v0 / 64) / 64 * 64)) : Int32).toInt8.toInt32) ((128 + (v0 - v0 / 64 * 64)) : Int32).toInt8.toInt32).length)])), (b1, .inl (c1, 400, .inl u_3))] H := hP.sub [0, 1, 2] rfl
      have hD : va_D A [(h, .inr (3, [.ref t0, .ref t1, .ref t2, .ref t3, .ref t4, .ref t5, .ref t6, .ref t7, .ref t8, .ref t9, .int si])), (t1, .inr (2, [.ref b1, .int (nI (rw_add 400 (rw_add 400 (rw_add 400 x1 ((224 + (v0 / 4096)) : Int32).toInt8.toInt32) ((128 + ((v0 / 64) - (v0 / 64) / 64 * 64)) : Int32).toInt8.toInt32) ((128 + (v0 - v0 / 64 * 64)) : Int32).toInt8.toInt32).length)])), (b1, .inl (c1, 400, .inl u_3))] := hD.sub [0, 1, 2] (by decide) rfl
      have e8 : (rw_add 400 (rw_add 400 (rw_add 400 x1 ((224 + (v0 / 4096)) : Int32).toInt8.toInt32) ((128 + ((v0 / 64) - (v0 / 64) / 64 * 64)) : Int32).toInt8.toInt32) ((128 + (v0 - v0 / 64 * 64)) : Int32).toInt8.toInt32) = ((wnb v0).foldl (oadd 400) x1) := by simp [wnb, oadd, c6_1, c20_1]
      rw [e8] at hw_3 hP hD
      exact rtV hx hb hr hlocks dX2_writeNewCode_90 u_3 hw_3 hP hD hS
    · skip
      refine lv_aload_n hx hb dX2_writeNewCode_23 rfl (lv_at hl 1 rfl) ?_
      refine va_get (D := D) (ci := 3) (v := .ref t1) (C := RX2) (T := TX2) (N := 11) hx hb hts (by decide +kernel) hown hK hP 0 rfl rfl 1 (by decide) (hts (.fieldLink RX2 18 "CharacterRows" "written" "LCharacterRows$Octets;") (by decide +kernel)) (fun _ h9 => h9) rfl dX2_writeNewCode_24 ?_
      refine lv_sipush (v := 192) hx hb dX2_writeNewCode_27 (by decide) ?_
      refine lv_iload_n hx hb dX2_writeNewCode_30 rfl (lv_at hl 2 rfl) ?_
      refine lv_bipush (v := 64) hx hb dX2_writeNewCode_31 (by decide) ?_
      refine lv_idiv hx hb dX2_writeNewCode_33 (by decide) ?_
      refine lv_iadd hx hb dX2_writeNewCode_34 ?_
      refine clV (wr := [(h, .inr (3, [.ref t0, .ref t1, .ref t2, .ref t3, .ref t4, .ref t5, .ref t6, .ref t7, .ref t8, .ref t9, .int si]))]) (va_runV ⟨hx, hb, hml, hown, hts⟩ (KX1_add l D t1 b1 c1 f1 x1 400 (by decide) o1 (192 + (v0 / 64)) _) (cwV 1 hts gX2_writeNewCode_X1_add rfl rfl rfl (by decide +kernel) ⟨Nat.le_of_ble_eq_true rfl, Nat.le_of_ble_eq_true rfl⟩) (pcM_V (hP.sub (ws' := [(t1, .inr (2, [.ref b1, .int (nI x1.length)])), (b1, .inl (c1, 400, .inl f1))]) [1, 2] rfl) (hD.sub (ws' := [(t1, .inr (2, [.ref b1, .int (nI x1.length)])), (b1, .inl (c1, 400, .inl f1))]) [1, 2] (by decide) rfl) (hK.sub (tys' := [(c1, .byte)]) [0] rfl) hN 0 rfl rfl) rfl rfl hl.1 rfl (lv_room (Nat.le_of_ble_eq_true rfl)) dX2_writeNewCode_35 ⟨Nat.zero_le _, Nat.zero_le _⟩) hP hD hS hA [1, 2] [0] rfl rfl (by decide) (by decide) (fun u_4 H locs hw_4 hP hD hS => ?_)
      have hP : va_P D vwCl [(h, .inr (3, [.ref t0, .ref t1, .ref t2, .ref t3, .ref t4, .ref t5, .ref t6, .ref t7, .ref t8, .ref t9, .int si])), (t1, .inr (2, [.ref b1, .int (nI (rw_add 400 x1 ((192 + (v0 / 64)) : Int32).toInt8.toInt32).length)])), (b1, .inl (c1, 400, .inl u_4))] H := hP.sub [0, 1, 2] rfl
      have hD : va_D A [(h, .inr (3, [.ref t0, .ref t1, .ref t2, .ref t3, .ref t4, .ref t5, .ref t6, .ref t7, .ref t8, .ref t9, .int si])), (t1, .inr (2, [.ref b1, .int (nI (rw_add 400 x1 ((192 + (v0 / 64)) : Int32).toInt8.toInt32).length)])), (b1, .inl (c1, 400, .inl u_4))] := hD.sub [0, 1, 2] (by decide) rfl
      refine lv_goto (tgt := 75) hx hb dX2_writeNewCode_38 (by decide) ?_
      refine lv_aload_n hx hb dX2_writeNewCode_75 rfl (lv_at hl 1 rfl) ?_
      refine va_get (D := D) (ci := 3) (v := .ref t1) (C := RX2) (T := TX2) (N := 11) hx hb hts (by decide +kernel) hown hK hP 0 rfl rfl 1 (by decide) (hts (.fieldLink RX2 18 "CharacterRows" "written" "LCharacterRows$Octets;") (by decide +kernel)) (fun _ h9 => h9) rfl dX2_writeNewCode_76 ?_
      refine lv_sipush (v := 128) hx hb dX2_writeNewCode_79 (by decide) ?_
      refine lv_iload_n hx hb dX2_writeNewCode_82 rfl (lv_at hl 2 rfl) ?_
      refine lv_bipush (v := 64) hx hb dX2_writeNewCode_83 (by decide) ?_
      refine lv_irem hx hb dX2_writeNewCode_85 (by decide) ?_
      refine lv_iadd hx hb dX2_writeNewCode_86 ?_
      refine clV (wr := [(h, .inr (3, [.ref t0, .ref t1, .ref t2, .ref t3, .ref t4, .ref t5, .ref t6, .ref t7, .ref t8, .ref t9, .int si]))]) (va_runV ⟨hx, hb, hml, hown, hts⟩ (KX1_add l D t1 b1 c1 u_4 (rw_add 400 x1 ((192 + (v0 / 64)) : Int32).toInt8.toInt32) 400 (by decide) hw_4 (128 + (v0 - v0 / 64 * 64)) _) (cwV 1 hts gX2_writeNewCode_X1_add rfl rfl rfl (by decide +kernel) ⟨Nat.le_of_ble_eq_true rfl, Nat.le_of_ble_eq_true rfl⟩) (pcM_V (hP.sub (ws' := [(t1, .inr (2, [.ref b1, .int (nI (rw_add 400 x1 ((192 + (v0 / 64)) : Int32).toInt8.toInt32).length)])), (b1, .inl (c1, 400, .inl u_4))]) [1, 2] rfl) (hD.sub (ws' := [(t1, .inr (2, [.ref b1, .int (nI (rw_add 400 x1 ((192 + (v0 / 64)) : Int32).toInt8.toInt32).length)])), (b1, .inl (c1, 400, .inl u_4))]) [1, 2] (by decide) rfl) (hK.sub (tys' := [(c1, .byte)]) [0] rfl) hN 0 rfl rfl) rfl rfl hl.1 rfl (lv_room (Nat.le_of_ble_eq_true rfl)) dX2_writeNewCode_87 ⟨Nat.zero_le _, Nat.zero_le _⟩) hP hD hS hA [1, 2] [0] rfl rfl (by decide) (by decide) (fun u_5 H locs hw_5 hP hD hS => ?_)
      have hP : va_P D vwCl [(h, .inr (3, [.ref t0, .ref t1, .ref t2, .ref t3, .ref t4, .ref t5, .ref t6, .ref t7, .ref t8, .ref t9, .int si])), (t1, .inr (2, [.ref b1, .int (nI (rw_add 400 (rw_add 400 x1 ((192 + (v0 / 64)) : Int32).toInt8.toInt32) ((128 + (v0 - v0 / 64 * 64)) : Int32).toInt8.toInt32).length)])), (b1, .inl (c1, 400, .inl u_5))] H := hP.sub [0, 1, 2] rfl
      have hD : va_D A [(h, .inr (3, [.ref t0, .ref t1, .ref t2, .ref t3, .ref t4, .ref t5, .ref t6, .ref t7, .ref t8, .ref t9, .int si])), (t1, .inr (2, [.ref b1, .int (nI (rw_add 400 (rw_add 400 x1 ((192 + (v0 / 64)) : Int32).toInt8.toInt32) ((128 + (v0 - v0 / 64 * 64)) : Int32).toInt8.toInt32).length)])), (b1, .inl (c1, 400, .inl u_5))] := hD.sub [0, 1, 2] (by decide) rfl
      have e8 : (rw_add 400 (rw_add 400 x1 ((192 + (v0 / 64)) : Int32).toInt8.toInt32) ((128 + (v0 - v0 / 64 * 64)) : Int32).toInt8.toInt32) = ((wnb v0).foldl (oadd 400) x1) := by simp [wnb, oadd, c6_1, c20_1]
      rw [e8] at hw_5 hP hD
      exact rtV hx hb hr hlocks dX2_writeNewCode_90 u_5 hw_5 hP hD hS
  · skip
    refine lv_aload_n hx hb dX2_writeNewCode_9 rfl (lv_at hl 1 rfl) ?_
    refine va_get (D := D) (ci := 3) (v := .ref t1) (C := RX2) (T := TX2) (N := 11) hx hb hts (by decide +kernel) hown hK hP 0 rfl rfl 1 (by decide) (hts (.fieldLink RX2 18 "CharacterRows" "written" "LCharacterRows$Octets;") (by decide +kernel)) (fun _ h9 => h9) rfl dX2_writeNewCode_10 ?_
    refine lv_iload_n hx hb dX2_writeNewCode_13 rfl (lv_at hl 2 rfl) ?_
    refine clV (wr := [(h, .inr (3, [.ref t0, .ref t1, .ref t2, .ref t3, .ref t4, .ref t5, .ref t6, .ref t7, .ref t8, .ref t9, .int si]))]) (va_runV ⟨hx, hb, hml, hown, hts⟩ (KX1_add l D t1 b1 c1 f1 x1 400 (by decide) o1 v0 _) (cwV 1 hts gX2_writeNewCode_X1_add rfl rfl rfl (by decide +kernel) ⟨Nat.le_of_ble_eq_true rfl, Nat.le_of_ble_eq_true rfl⟩) (pcM_V (hP.sub (ws' := [(t1, .inr (2, [.ref b1, .int (nI x1.length)])), (b1, .inl (c1, 400, .inl f1))]) [1, 2] rfl) (hD.sub (ws' := [(t1, .inr (2, [.ref b1, .int (nI x1.length)])), (b1, .inl (c1, 400, .inl f1))]) [1, 2] (by decide) rfl) (hK.sub (tys' := [(c1, .byte)]) [0] rfl) hN 0 rfl rfl) rfl rfl hl.1 rfl (lv_room (Nat.le_of_ble_eq_true rfl)) dX2_writeNewCode_14 ⟨Nat.zero_le _, Nat.zero_le _⟩) hP hD hS hA [1, 2] [0] rfl rfl (by decide) (by decide) (fun u_6 H locs hw_6 hP hD hS => ?_)
    have hP : va_P D vwCl [(h, .inr (3, [.ref t0, .ref t1, .ref t2, .ref t3, .ref t4, .ref t5, .ref t6, .ref t7, .ref t8, .ref t9, .int si])), (t1, .inr (2, [.ref b1, .int (nI (rw_add 400 x1 (v0 : Int32).toInt8.toInt32).length)])), (b1, .inl (c1, 400, .inl u_6))] H := hP.sub [0, 1, 2] rfl
    have hD : va_D A [(h, .inr (3, [.ref t0, .ref t1, .ref t2, .ref t3, .ref t4, .ref t5, .ref t6, .ref t7, .ref t8, .ref t9, .int si])), (t1, .inr (2, [.ref b1, .int (nI (rw_add 400 x1 (v0 : Int32).toInt8.toInt32).length)])), (b1, .inl (c1, 400, .inl u_6))] := hD.sub [0, 1, 2] (by decide) rfl
    have e8 : (rw_add 400 x1 (v0 : Int32).toInt8.toInt32) = ((wnb v0).foldl (oadd 400) x1) := by simp [wnb, oadd, c6_1]
    rw [e8] at hw_6 hP hD
    exact rtV hx hb hr hlocks dX2_writeNewCode_17 u_6 hw_6 hP hD hS
