/-! a row of bytes and a row of codes: the leaves -/
set_option maxHeartbeats 4000000 in
set_option maxRecDepth 100000 in
theorem KX0_at (l : Launch) (D : va_G) (h a : Nat) (cA : ClassId) (f : Nat → Int32) (xs : List Int32) (hok : rw_ok f 200 xs) (i : Int32) : Met l yX0_at wsX0_at ({ frames := 0, cells := 0, slots := 0, locals := 0 }) (pcR D [(h, .inr (1, [.ref a, .int (nI xs.length)])), (a, .inl (cA, 200, .inl f))] [(cA, .int)] [.ref h, .int i]) (vp_Si (fun r => r = rw_at xs i)) 0 0 (fun _ => False) := by
  refine ofR (cc := cX0_at) (maxL := 2) (ret := (some .int)) (by decide) rfl (Nat.le_of_ble_eq_true rfl) ?_
  intro p e s m below meth c ls hx hb hr hml hown hts hlocks hP hK hN hl
  have hl : lv_has ls 2 [(0, .ref h), (1, .int i)] := hl
  refine lv_iload_n hx hb dX0_at_0 rfl (lv_at hl 1 rfl) ?_
  refine lv_if_lt (tgt := 21) hx hb dX0_at_1 (by decide) (fun c1_1 => ?_) (fun c1_1 => ?_)
  · skip
    refine lv_iconst (v := (-1)) hx hb dX0_at_21 (by decide) ?_
    exact rtR hx hb hr hlocks dX0_at_22 (rw_at_lo c1_1)
  · skip
    refine lv_iload_n hx hb dX0_at_4 rfl (lv_at hl 1 rfl) ?_
    refine lv_aload_n hx hb dX0_at_5 rfl (lv_at hl 0 rfl) ?_
    refine va_get (D := D) (ci := 1) (v := .int (nI xs.length)) (C := RX0) (T := TX0) (N := 2) hx hb hts (by decide +kernel) hown hK hP 0 rfl rfl 1 (by decide) (hts (.fieldLink RX0 15 "CharacterRows$Codes" "length" "I") (by decide +kernel)) (fun _ h9 => h9) rfl dX0_at_6 ?_
    refine lv_icmp_ge (tgt := 21) hx hb dX0_at_9 (by decide) (fun c9_1 => ?_) (fun c9_1 => ?_)
    · skip
      refine lv_iconst (v := (-1)) hx hb dX0_at_21 (by decide) ?_
      exact rtR hx hb hr hlocks dX0_at_22 (rw_at_hi hok (by decide) c1_1 c9_1)
    · skip
      refine lv_aload_n hx hb dX0_at_12 rfl (lv_at hl 0 rfl) ?_
      refine va_get (D := D) (ci := 1) (v := .ref a) (C := RX0) (T := TX0) (N := 2) hx hb hts (by decide +kernel) hown hK hP 0 rfl rfl 0 (by decide) (hts (.fieldLink RX0 9 "CharacterRows$Codes" "codes" "[I") (by decide +kernel)) (fun _ h9 => h9) rfl dX0_at_13 ?_
      refine lv_iload_n hx hb dX0_at_16 rfl (lv_at hl 1 rfl) ?_
      refine va_iald hx hb hK hP 1 0 rfl rfl (rw_vin hok (by decide) c1_1 c9_1) dX0_at_17 ?_
      refine lv_goto (tgt := 22) hx hb dX0_at_18 (by decide) ?_
      exact rtR hx hb hr hlocks dX0_at_22 (rw_at_in hok (by decide) c1_1 c9_1)
set_option maxHeartbeats 4000000 in
set_option maxRecDepth 100000 in
theorem KX0_empty (l : Launch) (D : va_G) (h a : Nat) (cA : ClassId) (f : Nat → Int32) (xs : List Int32) (hok : rw_ok f 200 xs) (sz : Nat) : Met l yX0_empty wsX0_empty ({ frames := 0, cells := 0, slots := 0, locals := 0 }) (pcM D sz [(h, .inr (1, [.ref a, .int (nI xs.length)])), (a, .inl (cA, 200, .inl f))] [(cA, .int)] [.ref h]) (qcV (S := Nat → Int32) D (fun u => rw_ok u 200 []) (fun u => [(h, .inr (1, [.ref a, .int (nI ([] : List Int32).length)])), (a, .inl (cA, 200, .inl u))]) (va_A [(h, .inr (1, [.ref a, .int (nI xs.length)])), (a, .inl (cA, 200, .inl f))] sz)) 0 0 (va_A [(h, .inr (1, [.ref a, .int (nI xs.length)])), (a, .inl (cA, 200, .inl f))] sz) := by
  refine ofM (Qc := fun A => qcV (S := Nat → Int32) D (fun u => rw_ok u 200 []) (fun u => [(h, .inr (1, [.ref a, .int (nI ([] : List Int32).length)])), (a, .inl (cA, 200, .inl u))]) A) (cc := cX0_empty) (maxL := 1) (ret := none) (by decide) rfl (Nat.le_of_ble_eq_true rfl) ?_
  intro p e s m below meth c ls A hx hb hr hml hown hts hlocks hnm hP hK hN hD hA hS hl
  have hl : lv_has ls 1 [(0, .ref h)] := hl
  refine lv_aload_n hx hb dX0_empty_0 rfl (lv_at hl 0 rfl) ?_
  refine lv_iconst (v := 0) hx hb dX0_empty_1 (by decide) ?_
  refine va_put (D := D) (ci := 1) (v := .int 0) (ty := .int) (C := RX0) (T := TX0) (N := 2) hx hb hts (by decide +kernel) tyX0 tyX0_ok nmX0 hown hK hP hD hS 0 rfl rfl 1 (by decide) (hts (.fieldLink RX0 15 "CharacterRows$Codes" "length" "I") (by decide +kernel)) (fun _ h9 => h9) rfl (by decide +kernel) rfl rfl (Nat.le_of_ble_eq_true rfl) dX0_empty_2 (fun H locs hP hD hS => ?_)
  have hP : va_P D vwCl [(h, .inr (1, [.ref a, .int 0])), (a, .inl (cA, 200, .inl f))] H := hP
  have hD : va_D A [(h, .inr (1, [.ref a, .int 0])), (a, .inl (cA, 200, .inl f))] := hD
  exact rtV hx hb hr hlocks dX0_empty_5 f rw_nil hP hD hS
set_option maxHeartbeats 4000000 in
set_option maxRecDepth 100000 in
theorem KX0_add (l : Launch) (D : va_G) (h a : Nat) (cA : ClassId) (f : Nat → Int32) (xs : List Int32) (hok : rw_ok f 200 xs) (c0 : Int32) (sz : Nat) : Met l yX0_add wsX0_add ({ frames := 0, cells := 0, slots := 0, locals := 0 }) (pcM D sz [(h, .inr (1, [.ref a, .int (nI xs.length)])), (a, .inl (cA, 200, .inl f))] [(cA, .int)] [.ref h, .int c0]) (qcV (S := Nat → Int32) D (fun u => rw_ok u 200 (rw_add 200 xs c0)) (fun u => [(h, .inr (1, [.ref a, .int (nI (rw_add 200 xs c0).length)])), (a, .inl (cA, 200, .inl u))]) (va_A [(h, .inr (1, [.ref a, .int (nI xs.length)])), (a, .inl (cA, 200, .inl f))] sz)) 0 0 (va_A [(h, .inr (1, [.ref a, .int (nI xs.length)])), (a, .inl (cA, 200, .inl f))] sz) := by
  refine ofM (Qc := fun A => qcV (S := Nat → Int32) D (fun u => rw_ok u 200 (rw_add 200 xs c0)) (fun u => [(h, .inr (1, [.ref a, .int (nI (rw_add 200 xs c0).length)])), (a, .inl (cA, 200, .inl u))]) A) (cc := cX0_add) (maxL := 2) (ret := none) (by decide) rfl (Nat.le_of_ble_eq_true rfl) ?_
  intro p e s m below meth c ls A hx hb hr hml hown hts hlocks hnm hP hK hN hD hA hS hl
  have hl : lv_has ls 2 [(0, .ref h), (1, .int c0)] := hl
  refine lv_aload_n hx hb dX0_add_0 rfl (lv_at hl 0 rfl) ?_
  refine va_get (D := D) (ci := 1) (v := .int (nI xs.length)) (C := RX0) (T := TX0) (N := 2) hx hb hts (by decide +kernel) hown hK hP 0 rfl rfl 1 (by decide) (hts (.fieldLink RX0 15 "CharacterRows$Codes" "length" "I") (by decide +kernel)) (fun _ h9 => h9) rfl dX0_add_1 ?_
  refine lv_aload_n hx hb dX0_add_4 rfl (lv_at hl 0 rfl) ?_
  refine va_get (D := D) (ci := 1) (v := .ref a) (C := RX0) (T := TX0) (N := 2) hx hb hts (by decide +kernel) hown hK hP 0 rfl rfl 0 (by decide) (hts (.fieldLink RX0 9 "CharacterRows$Codes" "codes" "[I") (by decide +kernel)) (fun _ h9 => h9) rfl dX0_add_5 ?_
  refine va_alen hx hb hK hP 1 0 rfl rfl rfl dX0_add_8 ?_
  refine lv_icmp_ge (tgt := 32) hx hb dX0_add_9 (by decide) (fun c9_1 => ?_) (fun c9_1 => ?_)
  · skip
    have e9 := rw_add_no (c := c0) hok (by decide) c9_1
    exact rtV hx hb hr hlocks dX0_add_32 f (by rw [e9]; exact hok) (by rw [e9]; exact hP) (by rw [e9]; exact hD) hS
  · skip
    obtain ⟨e1, e2, e3, e4⟩ := rw_add_yes (c := c0) hok (by decide) c9_1
    refine lv_aload_n hx hb dX0_add_12 rfl (lv_at hl 0 rfl) ?_
    refine va_get (D := D) (ci := 1) (v := .ref a) (C := RX0) (T := TX0) (N := 2) hx hb hts (by decide +kernel) hown hK hP 0 rfl rfl 0 (by decide) (hts (.fieldLink RX0 9 "CharacterRows$Codes" "codes" "[I") (by decide +kernel)) (fun _ h9 => h9) rfl dX0_add_13 ?_
    refine lv_aload_n hx hb dX0_add_16 rfl (lv_at hl 0 rfl) ?_
    refine va_get (D := D) (ci := 1) (v := .int (nI xs.length)) (C := RX0) (T := TX0) (N := 2) hx hb hts (by decide +kernel) hown hK hP 0 rfl rfl 1 (by decide) (hts (.fieldLink RX0 15 "CharacterRows$Codes" "length" "I") (by decide +kernel)) (fun _ h9 => h9) rfl dX0_add_17 ?_
    refine lv_iload_n hx hb dX0_add_20 rfl (lv_at hl 1 rfl) ?_
    refine va_iast hx hb hK hP hD hS 1 0 rfl rfl (vp_in_nI e1 (by decide)) dX0_add_21 (fun H locs hP hD hS => ?_)
    have hP : va_P D vwCl [(h, .inr (1, [.ref a, .int (nI xs.length)])), (a, .inl (cA, 200, .inl (upd f (nI xs.length).toNatClampNeg c0)))] H := hP
    have hD : va_D A [(h, .inr (1, [.ref a, .int (nI xs.length)])), (a, .inl (cA, 200, .inl (upd f (nI xs.length).toNatClampNeg c0)))] := hD
    refine lv_aload_n hx hb dX0_add_22 rfl (lv_at hl 0 rfl) ?_
    refine lv_dup hx hb dX0_add_23 rfl ?_
    refine va_get (D := D) (ci := 1) (v := .int (nI xs.length)) (C := RX0) (T := TX0) (N := 2) hx hb hts (by decide +kernel) hown hK hP 0 rfl rfl 1 (by decide) (hts (.fieldLink RX0 15 "CharacterRows$Codes" "length" "I") (by decide +kernel)) (fun _ h9 => h9) rfl dX0_add_24 ?_
    refine lv_iconst (v := 1) hx hb dX0_add_27 (by decide) ?_
    refine lv_iadd hx hb dX0_add_28 ?_
    refine va_put (D := D) (ci := 1) (v := .int (nI xs.length + 1)) (ty := .int) (C := RX0) (T := TX0) (N := 2) hx hb hts (by decide +kernel) tyX0 tyX0_ok nmX0 hown hK hP hD hS 0 rfl rfl 1 (by decide) (hts (.fieldLink RX0 15 "CharacterRows$Codes" "length" "I") (by decide +kernel)) (fun _ h9 => h9) rfl (by decide +kernel) rfl rfl (Nat.le_of_ble_eq_true rfl) dX0_add_29 (fun H locs hP hD hS => ?_)
    have hP : va_P D vwCl [(h, .inr (1, [.ref a, .int (nI xs.length + 1)])), (a, .inl (cA, 200, .inl (upd f (nI xs.length).toNatClampNeg c0)))] H := hP
    have hD : va_D A [(h, .inr (1, [.ref a, .int (nI xs.length + 1)])), (a, .inl (cA, 200, .inl (upd f (nI xs.length).toNatClampNeg c0)))] := hD
    exact rtV hx hb hr hlocks dX0_add_32 (upd f (nI xs.length).toNatClampNeg c0) e4 (by rw [← e3]; exact hP) (by rw [← e3]; exact hD) hS
set_option maxHeartbeats 4000000 in
set_option maxRecDepth 100000 in
theorem KX0_put (l : Launch) (D : va_G) (h a : Nat) (cA : ClassId) (f : Nat → Int32) (xs : List Int32) (hok : rw_ok f 200 xs) (i c0 : Int32) (sz : Nat) : Met l yX0_put wsX0_put ({ frames := 0, cells := 0, slots := 0, locals := 0 }) (pcM D sz [(h, .inr (1, [.ref a, .int (nI xs.length)])), (a, .inl (cA, 200, .inl f))] [(cA, .int)] [.ref h, .int i, .int c0]) (qcV (S := Nat → Int32) D (fun u => rw_ok u 200 (rw_put xs i c0)) (fun u => [(h, .inr (1, [.ref a, .int (nI (rw_put xs i c0).length)])), (a, .inl (cA, 200, .inl u))]) (va_A [(h, .inr (1, [.ref a, .int (nI xs.length)])), (a, .inl (cA, 200, .inl f))] sz)) 0 0 (va_A [(h, .inr (1, [.ref a, .int (nI xs.length)])), (a, .inl (cA, 200, .inl f))] sz) := by
  refine ofM (Qc := fun A => qcV (S := Nat → Int32) D (fun u => rw_ok u 200 (rw_put xs i c0)) (fun u => [(h, .inr (1, [.ref a, .int (nI (rw_put xs i c0).length)])), (a, .inl (cA, 200, .inl u))]) A) (cc := cX0_put) (maxL := 3) (ret := none) (by decide) rfl (Nat.le_of_ble_eq_true rfl) ?_
  intro p e s m below meth c ls A hx hb hr hml hown hts hlocks hnm hP hK hN hD hA hS hl
  have hl : lv_has ls 3 [(0, .ref h), (1, .int i), (2, .int c0)] := hl
  refine lv_iload_n hx hb dX0_put_0 rfl (lv_at hl 1 rfl) ?_
  refine lv_if_lt (tgt := 19) hx hb dX0_put_1 (by decide) (fun c1_1 => ?_) (fun c1_1 => ?_)
  · skip
    have e9 : rw_put xs i c0 = xs := rw_put_lo (c := c0) c1_1
    exact rtV hx hb hr hlocks dX0_put_19 f (by rw [e9]; exact hok) (by rw [e9]; exact hP) (by rw [e9]; exact hD) hS
  · skip
    refine lv_iload_n hx hb dX0_put_4 rfl (lv_at hl 1 rfl) ?_
    refine lv_aload_n hx hb dX0_put_5 rfl (lv_at hl 0 rfl) ?_
    refine va_get (D := D) (ci := 1) (v := .int (nI xs.length)) (C := RX0) (T := TX0) (N := 2) hx hb hts (by decide +kernel) hown hK hP 0 rfl rfl 1 (by decide) (hts (.fieldLink RX0 15 "CharacterRows$Codes" "length" "I") (by decide +kernel)) (fun _ h9 => h9) rfl dX0_put_6 ?_
    refine lv_icmp_ge (tgt := 19) hx hb dX0_put_9 (by decide) (fun c9_1 => ?_) (fun c9_1 => ?_)
    · skip
      have e9 : rw_put xs i c0 = xs := rw_put_hi (c := c0) hok (by decide) c1_1 c9_1
      exact rtV hx hb hr hlocks dX0_put_19 f (by rw [e9]; exact hok) (by rw [e9]; exact hP) (by rw [e9]; exact hD) hS
    · skip
      refine lv_aload_n hx hb dX0_put_12 rfl (lv_at hl 0 rfl) ?_
      refine va_get (D := D) (ci := 1) (v := .ref a) (C := RX0) (T := TX0) (N := 2) hx hb hts (by decide +kernel) hown hK hP 0 rfl rfl 0 (by decide) (hts (.fieldLink RX0 9 "CharacterRows$Codes" "codes" "[I") (by decide +kernel)) (fun _ h9 => h9) rfl dX0_put_13 ?_
      refine lv_iload_n hx hb dX0_put_16 rfl (lv_at hl 1 rfl) ?_
      refine lv_iload_n hx hb dX0_put_17 rfl (lv_at hl 2 rfl) ?_
      refine va_iast hx hb hK hP hD hS 1 0 rfl rfl (rw_vin hok (by decide) c1_1 c9_1) dX0_put_18 (fun H locs hP hD hS => ?_)
      have hP : va_P D vwCl [(h, .inr (1, [.ref a, .int (nI xs.length)])), (a, .inl (cA, 200, .inl (upd f i.toNatClampNeg c0)))] H := hP
      have hD : va_D A [(h, .inr (1, [.ref a, .int (nI xs.length)])), (a, .inl (cA, 200, .inl (upd f i.toNatClampNeg c0)))] := hD
      obtain ⟨e3, e4⟩ := rw_put_ok (c := c0) hok (by decide) c1_1 c9_1
      exact rtV hx hb hr hlocks dX0_put_19 (upd f i.toNatClampNeg c0) e4 (by rw [← e3]; exact hP) (by rw [← e3]; exact hD) hS
def ox_u (xs : List Int32) : List Int32 := xs.map (fun b => b &&& 255)
def ox_at (xs : List Int32) (i : Int32) : Int32 := rw_at (ox_u xs) i
theorem ox_at_lo {xs : List Int32} {i : Int32} (h : i < 0) : -1 = ox_at xs i := rw_at_lo h
theorem ox_ok {f : Nat → Int32} {cap : Nat} {xs : List Int32} (hok : rw_ok f cap xs) : rw_ok (fun i => f i &&& 255) cap (ox_u xs) := by
  refine ⟨by unfold ox_u; rw [List.length_map]; exact hok.1, fun i hi => ?_⟩
  have hi2 : i < xs.length := by unfold ox_u at hi; rw [List.length_map] at hi; exact hi
  dsimp only
  rw [hok.2 i hi2]
  simp [ox_u, List.getD, hi2]
theorem ox_len (xs : List Int32) : (ox_u xs).length = xs.length := by unfold ox_u; exact List.length_map _
theorem ox_at_hi {f : Nat → Int32} {cap : Nat} {xs : List Int32} {i : Int32} (hok : rw_ok f cap xs) (hc : cap < 2 ^ 31) (h0 : ¬ i < 0) (h : nI xs.length ≤ i) : -1 = ox_at xs i := rw_at_hi (ox_ok hok) hc h0 (by rw [ox_len]; exact h)
theorem ox_at_in {f : Nat → Int32} {cap : Nat} {xs : List Int32} {i : Int32} (hok : rw_ok f cap xs) (hc : cap < 2 ^ 31) (h0 : ¬ i < 0) (h : ¬ nI xs.length ≤ i) : (f i.toNatClampNeg &&& 255) = ox_at xs i := rw_at_in (ox_ok hok) hc h0 (by rw [ox_len]; exact h)
set_option maxHeartbeats 4000000 in
set_option maxRecDepth 100000 in
theorem KX1_at (l : Launch) (D : va_G) (h a : Nat) (cA : ClassId) (f : Nat → Int32) (xs : List Int32) (cap : Nat) (hcap : cap < 2 ^ 31) (hok : rw_ok f cap xs) (i : Int32) : Met l yX1_at wsX1_at ({ frames := 0, cells := 0, slots := 0, locals := 0 }) (pcR D [(h, .inr (2, [.ref a, .int (nI xs.length)])), (a, .inl (cA, cap, .inl f))] [(cA, .byte)] [.ref h, .int i]) (vp_Si (fun r => r = ox_at xs i)) 0 0 (fun _ => False) := by
  refine ofR (cc := cX1_at) (maxL := 2) (ret := (some .int)) (by decide) rfl (Nat.le_of_ble_eq_true rfl) ?_
  intro p e s m below meth c ls hx hb hr hml hown hts hlocks hP hK hN hl
  have hl : lv_has ls 2 [(0, .ref h), (1, .int i)] := hl
  refine lv_iload_n hx hb dX1_at_0 rfl (lv_at hl 1 rfl) ?_
  refine lv_if_lt (tgt := 25) hx hb dX1_at_1 (by decide) (fun c1_1 => ?_) (fun c1_1 => ?_)
  · skip
    refine lv_iconst (v := (-1)) hx hb dX1_at_25 (by decide) ?_
    exact rtR hx hb hr hlocks dX1_at_26 (ox_at_lo c1_1)
  · skip
    refine lv_iload_n hx hb dX1_at_4 rfl (lv_at hl 1 rfl) ?_
    refine lv_aload_n hx hb dX1_at_5 rfl (lv_at hl 0 rfl) ?_
    refine va_get (D := D) (ci := 2) (v := .int (nI xs.length)) (C := RX1) (T := TX1) (N := 2) hx hb hts (by decide +kernel) hown hK hP 0 rfl rfl 1 (by decide) (hts (.fieldLink RX1 15 "CharacterRows$Octets" "length" "I") (by decide +kernel)) (fun _ h9 => h9) rfl dX1_at_6 ?_
    refine lv_icmp_ge (tgt := 25) hx hb dX1_at_9 (by decide) (fun c9_1 => ?_) (fun c9_1 => ?_)
    · skip
      refine lv_iconst (v := (-1)) hx hb dX1_at_25 (by decide) ?_
      exact rtR hx hb hr hlocks dX1_at_26 (ox_at_hi hok hcap c1_1 c9_1)
    · skip
      refine lv_aload_n hx hb dX1_at_12 rfl (lv_at hl 0 rfl) ?_
      refine va_get (D := D) (ci := 2) (v := .ref a) (C := RX1) (T := TX1) (N := 2) hx hb hts (by decide +kernel) hown hK hP 0 rfl rfl 0 (by decide) (hts (.fieldLink RX1 9 "CharacterRows$Octets" "bytes" "[B") (by decide +kernel)) (fun _ h9 => h9) rfl dX1_at_13 ?_
      refine lv_iload_n hx hb dX1_at_16 rfl (lv_at hl 1 rfl) ?_
      refine va_bald hx hb hK hP 1 0 rfl rfl (rw_vin hok hcap c1_1 c9_1) dX1_at_17 ?_
      refine lv_sipush (v := 255) hx hb dX1_at_18 (by decide) ?_
      refine lv_iand hx hb dX1_at_21 ?_
      refine lv_goto (tgt := 26) hx hb dX1_at_22 (by decide) ?_
      exact rtR hx hb hr hlocks dX1_at_26 (ox_at_in hok hcap c1_1 c9_1)
set_option maxHeartbeats 4000000 in
set_option maxRecDepth 100000 in
theorem KX1_empty (l : Launch) (D : va_G) (h a : Nat) (cA : ClassId) (f : Nat → Int32) (xs : List Int32) (cap : Nat) (hcap : cap < 2 ^ 31) (hok : rw_ok f cap xs) (sz : Nat) : Met l yX1_empty wsX1_empty ({ frames := 0, cells := 0, slots := 0, locals := 0 }) (pcM D sz [(h, .inr (2, [.ref a, .int (nI xs.length)])), (a, .inl (cA, cap, .inl f))] [(cA, .byte)] [.ref h]) (qcV (S := Nat → Int32) D (fun u => rw_ok u cap []) (fun u => [(h, .inr (2, [.ref a, .int (nI ([] : List Int32).length)])), (a, .inl (cA, cap, .inl u))]) (va_A [(h, .inr (2, [.ref a, .int (nI xs.length)])), (a, .inl (cA, cap, .inl f))] sz)) 0 0 (va_A [(h, .inr (2, [.ref a, .int (nI xs.length)])), (a, .inl (cA, cap, .inl f))] sz) := by
  refine ofM (Qc := fun A => qcV (S := Nat → Int32) D (fun u => rw_ok u cap []) (fun u => [(h, .inr (2, [.ref a, .int (nI ([] : List Int32).length)])), (a, .inl (cA, cap, .inl u))]) A) (cc := cX1_empty) (maxL := 1) (ret := none) (by decide) rfl (Nat.le_of_ble_eq_true rfl) ?_
  intro p e s m below meth c ls A hx hb hr hml hown hts hlocks hnm hP hK hN hD hA hS hl
  have hl : lv_has ls 1 [(0, .ref h)] := hl
  refine lv_aload_n hx hb dX1_empty_0 rfl (lv_at hl 0 rfl) ?_
  refine lv_iconst (v := 0) hx hb dX1_empty_1 (by decide) ?_
  refine va_put (D := D) (ci := 2) (v := .int 0) (ty := .int) (C := RX1) (T := TX1) (N := 2) hx hb hts (by decide +kernel) tyX1 tyX1_ok nmX1 hown hK hP hD hS 0 rfl rfl 1 (by decide) (hts (.fieldLink RX1 15 "CharacterRows$Octets" "length" "I") (by decide +kernel)) (fun _ h9 => h9) rfl (by decide +kernel) rfl rfl (Nat.le_of_ble_eq_true rfl) dX1_empty_2 (fun H locs hP hD hS => ?_)
  have hP : va_P D vwCl [(h, .inr (2, [.ref a, .int 0])), (a, .inl (cA, cap, .inl f))] H := hP
  have hD : va_D A [(h, .inr (2, [.ref a, .int 0])), (a, .inl (cA, cap, .inl f))] := hD
  exact rtV hx hb hr hlocks dX1_empty_5 f rw_nil hP hD hS
set_option maxHeartbeats 4000000 in
set_option maxRecDepth 100000 in
theorem KX1_add (l : Launch) (D : va_G) (h a : Nat) (cA : ClassId) (f : Nat → Int32) (xs : List Int32) (cap : Nat) (hcap : cap < 2 ^ 31) (hok : rw_ok f cap xs) (c0 : Int32) (sz : Nat) : Met l yX1_add wsX1_add ({ frames := 0, cells := 0, slots := 0, locals := 0 }) (pcM D sz [(h, .inr (2, [.ref a, .int (nI xs.length)])), (a, .inl (cA, cap, .inl f))] [(cA, .byte)] [.ref h, .int c0]) (qcV (S := Nat → Int32) D (fun u => rw_ok u cap (rw_add cap xs c0.toInt8.toInt32)) (fun u => [(h, .inr (2, [.ref a, .int (nI (rw_add cap xs c0.toInt8.toInt32).length)])), (a, .inl (cA, cap, .inl u))]) (va_A [(h, .inr (2, [.ref a, .int (nI xs.length)])), (a, .inl (cA, cap, .inl f))] sz)) 0 0 (va_A [(h, .inr (2, [.ref a, .int (nI xs.length)])), (a, .inl (cA, cap, .inl f))] sz) := by
  refine ofM (Qc := fun A => qcV (S := Nat → Int32) D (fun u => rw_ok u cap (rw_add cap xs c0.toInt8.toInt32)) (fun u => [(h, .inr (2, [.ref a, .int (nI (rw_add cap xs c0.toInt8.toInt32).length)])), (a, .inl (cA, cap, .inl u))]) A) (cc := cX1_add) (maxL := 2) (ret := none) (by decide) rfl (Nat.le_of_ble_eq_true rfl) ?_
  intro p e s m below meth c ls A hx hb hr hml hown hts hlocks hnm hP hK hN hD hA hS hl
  have hl : lv_has ls 2 [(0, .ref h), (1, .int c0)] := hl
  refine lv_aload_n hx hb dX1_add_0 rfl (lv_at hl 0 rfl) ?_
  refine va_get (D := D) (ci := 2) (v := .int (nI xs.length)) (C := RX1) (T := TX1) (N := 2) hx hb hts (by decide +kernel) hown hK hP 0 rfl rfl 1 (by decide) (hts (.fieldLink RX1 15 "CharacterRows$Octets" "length" "I") (by decide +kernel)) (fun _ h9 => h9) rfl dX1_add_1 ?_
  refine lv_aload_n hx hb dX1_add_4 rfl (lv_at hl 0 rfl) ?_
  refine va_get (D := D) (ci := 2) (v := .ref a) (C := RX1) (T := TX1) (N := 2) hx hb hts (by decide +kernel) hown hK hP 0 rfl rfl 0 (by decide) (hts (.fieldLink RX1 9 "CharacterRows$Octets" "bytes" "[B") (by decide +kernel)) (fun _ h9 => h9) rfl dX1_add_5 ?_
  refine va_alen hx hb hK hP 1 0 rfl rfl rfl dX1_add_8 ?_
  refine lv_icmp_ge (tgt := 33) hx hb dX1_add_9 (by decide) (fun c9_1 => ?_) (fun c9_1 => ?_)
  · skip
    have e9 := rw_add_no (c := c0.toInt8.toInt32) hok hcap c9_1
    exact rtV hx hb hr hlocks dX1_add_33 f (by rw [e9]; exact hok) (by rw [e9]; exact hP) (by rw [e9]; exact hD) hS
  · skip
    obtain ⟨e1, e2, e3, e4⟩ := rw_add_yes (c := c0.toInt8.toInt32) hok hcap c9_1
    refine lv_aload_n hx hb dX1_add_12 rfl (lv_at hl 0 rfl) ?_
    refine va_get (D := D) (ci := 2) (v := .ref a) (C := RX1) (T := TX1) (N := 2) hx hb hts (by decide +kernel) hown hK hP 0 rfl rfl 0 (by decide) (hts (.fieldLink RX1 9 "CharacterRows$Octets" "bytes" "[B") (by decide +kernel)) (fun _ h9 => h9) rfl dX1_add_13 ?_
    refine lv_aload_n hx hb dX1_add_16 rfl (lv_at hl 0 rfl) ?_
    refine va_get (D := D) (ci := 2) (v := .int (nI xs.length)) (C := RX1) (T := TX1) (N := 2) hx hb hts (by decide +kernel) hown hK hP 0 rfl rfl 1 (by decide) (hts (.fieldLink RX1 15 "CharacterRows$Octets" "length" "I") (by decide +kernel)) (fun _ h9 => h9) rfl dX1_add_17 ?_
    refine lv_iload_n hx hb dX1_add_20 rfl (lv_at hl 1 rfl) ?_
    refine lv_i2b hx hb dX1_add_21 rfl ?_
    refine va_bast hx hb hK hP hD hS 1 0 rfl rfl (vp_in_nI e1 hcap) dX1_add_22 (fun H locs hP hD hS => ?_)
    have hP : va_P D vwCl [(h, .inr (2, [.ref a, .int (nI xs.length)])), (a, .inl (cA, cap, .inl (upd f (nI xs.length).toNatClampNeg (vp_nar .byte c0.toInt8.toInt32))))] H := hP
    have hD : va_D A [(h, .inr (2, [.ref a, .int (nI xs.length)])), (a, .inl (cA, cap, .inl (upd f (nI xs.length).toNatClampNeg (vp_nar .byte c0.toInt8.toInt32))))] := hD
    refine lv_aload_n hx hb dX1_add_23 rfl (lv_at hl 0 rfl) ?_
    refine lv_dup hx hb dX1_add_24 rfl ?_
    refine va_get (D := D) (ci := 2) (v := .int (nI xs.length)) (C := RX1) (T := TX1) (N := 2) hx hb hts (by decide +kernel) hown hK hP 0 rfl rfl 1 (by decide) (hts (.fieldLink RX1 15 "CharacterRows$Octets" "length" "I") (by decide +kernel)) (fun _ h9 => h9) rfl dX1_add_25 ?_
    refine lv_iconst (v := 1) hx hb dX1_add_28 (by decide) ?_
    refine lv_iadd hx hb dX1_add_29 ?_
    refine va_put (D := D) (ci := 2) (v := .int (nI xs.length + 1)) (ty := .int) (C := RX1) (T := TX1) (N := 2) hx hb hts (by decide +kernel) tyX1 tyX1_ok nmX1 hown hK hP hD hS 0 rfl rfl 1 (by decide) (hts (.fieldLink RX1 15 "CharacterRows$Octets" "length" "I") (by decide +kernel)) (fun _ h9 => h9) rfl (by decide +kernel) rfl rfl (Nat.le_of_ble_eq_true rfl) dX1_add_30 (fun H locs hP hD hS => ?_)
    have hP : va_P D vwCl [(h, .inr (2, [.ref a, .int (nI xs.length + 1)])), (a, .inl (cA, cap, .inl (upd f (nI xs.length).toNatClampNeg (vp_nar .byte c0.toInt8.toInt32))))] H := hP
    have hD : va_D A [(h, .inr (2, [.ref a, .int (nI xs.length + 1)])), (a, .inl (cA, cap, .inl (upd f (nI xs.length).toNatClampNeg (vp_nar .byte c0.toInt8.toInt32))))] := hD
    rw [pk_vb] at hP hD
    exact rtV hx hb hr hlocks dX1_add_33 (upd f (nI xs.length).toNatClampNeg c0.toInt8.toInt32) e4 (by rw [← e3]; exact hP) (by rw [← e3]; exact hD) hS
