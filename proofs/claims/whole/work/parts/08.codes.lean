/-! the rows of codes: putting together, counting, comparing; the two constructors -/
set_option maxHeartbeats 4000000 in
set_option maxRecDepth 100000 in
theorem KX0_putTogether (l : Launch) (D : va_G) (h a : Nat) (cA : ClassId) (f : Nat → Int32) (xs : List Int32) (hok : rw_ok f 200 xs) (T : List Int32) (hT : tog xs = T) (sz : Nat) : Met l yX0_putTogether wsX0_putTogether ({ frames := 2, cells := 0, slots := 0, locals := 40 }) (pcM D sz [(h, .inr (1, [.ref a, .int (nI xs.length)])), (a, .inl (cA, 200, .inl f))] [(cA, .int)] [.ref h]) (qcV (S := Nat → Int32) D (fun u => rw_ok u 200 T) (fun u => [(h, .inr (1, [.ref a, .int (nI T.length)])), (a, .inl (cA, 200, .inl u))]) (va_A [(h, .inr (1, [.ref a, .int (nI xs.length)])), (a, .inl (cA, 200, .inl f))] sz)) 0 0 (va_A [(h, .inr (1, [.ref a, .int (nI xs.length)])), (a, .inl (cA, 200, .inl f))] sz) := by
  refine ofM (Qc := fun A => qcV (S := Nat → Int32) D (fun u => rw_ok u 200 T) (fun u => [(h, .inr (1, [.ref a, .int (nI T.length)])), (a, .inl (cA, 200, .inl u))]) A) (cc := cX0_putTogether) (maxL := 5) (ret := none) (by decide) rfl (Nat.le_of_ble_eq_true rfl) ?_
  intro p e s m below meth c ls A hx hb hr hml hown hts hlocks hnm hP hK hN hD hA hS hl
  have hl : lv_has ls 5 [(0, .ref h)] := hl
  refine lv_iconst (v := 0) hx hb dX0_putTogether_0 (by decide) ?_
  refine lv_istore_n (lv' := [(1, .int 0), (0, .ref h)]) hx hb dX0_putTogether_1 rfl hl (by decide) rfl (fun ls hl => ?_)
  refine lv_iconst (v := 0) hx hb dX0_putTogether_2 (by decide) ?_
  refine lv_istore_n (lv' := [(2, .int 0), (1, .int 0), (0, .ref h)]) hx hb dX0_putTogether_3 rfl hl (by decide) rfl (fun ls hl => ?_)
  have loop : ∀ (n : Nat) (rest o g : List Int32) (f : Nat → Int32) (x1 x2 : Int32) (H : Heap) (locs : List Loc) (ls : Array Slot), rest.length ≤ n → o ++ tog rest = T → x1 = nI o.length → x2 = nI (o.length + g.length) → rw_ok f 200 (o ++ g ++ rest) → va_P D vwCl [(h, .inr (1, [.ref a, .int (nI (o ++ g ++ rest).length)])), (a, .inl (cA, 200, .inl f))] H → va_D A [(h, .inr (1, [.ref a, .int (nI (o ++ g ++ rest).length)])), (a, .inl (cA, 200, .inl f))] → va_S A s.heap H locs → lv_has ls 5 [(2, .int x2), (1, .int x1), (0, .ref h)] → W p l e ({ frames := 2, cells := 0, slots := 0, locals := 40 }) s m ([.ref h] : List Value).toArray below meth c H locs 0 0 (MQ below (qcV (S := Nat → Int32) D (fun u => rw_ok u 200 T) (fun u => [(h, .inr (1, [.ref a, .int (nI T.length)])), (a, .inl (cA, 200, .inl u))]) A) ([.ref h] : List Value).toArray s 0 0 A) (F0 m 4 ls [])  := by
    intro n
    induction n with
    | zero =>
      intro rest o g f x1 x2 H locs ls hn hT e1 e2 hok hP hD hS hl
      obtain rfl : rest = [] := List.eq_nil_of_length_eq_zero (by omega)
      refine lv_iload_n hx hb dX0_putTogether_4 rfl (lv_at hl 0 rfl) ?_
      refine lv_aload_n hx hb dX0_putTogether_5 rfl (lv_at hl 2 rfl) ?_
      refine va_get (D := D) (ci := 1) (v := .int (nI (o ++ g ++ ([] : List Int32)).length)) (C := RX0) (T := TX0) (N := 2) hx hb hts (by decide +kernel) hown hK hP 0 rfl rfl 1 (by decide) (hts (.fieldLink RX0 15 "CharacterRows$Codes" "length" "I") (by decide +kernel)) (fun _ h9 => h9) rfl dX0_putTogether_6 ?_
      refine lv_icmp_ge (tgt := 67) hx hb dX0_putTogether_9 (by decide) (fun c9_1 => ?_) (fun c9_1 => ?_)
      · skip
        refine lv_aload_n hx hb dX0_putTogether_67 rfl (lv_at hl 2 rfl) ?_
        refine lv_iload_n hx hb dX0_putTogether_68 rfl (lv_at hl 1 rfl) ?_
        refine va_put (D := D) (ci := 1) (v := .int x1) (ty := .int) (C := RX0) (T := TX0) (N := 2) hx hb hts (by decide +kernel) tyX0 tyX0_ok nmX0 hown hK hP hD hS 0 rfl rfl 1 (by decide) (hts (.fieldLink RX0 15 "CharacterRows$Codes" "length" "I") (by decide +kernel)) (fun _ h9 => h9) rfl (by decide +kernel) rfl rfl (Nat.le_of_ble_eq_true rfl) dX0_putTogether_69 (fun H locs hP hD hS => ?_)
        have hP : va_P D vwCl [(h, .inr (1, [.ref a, .int x1])), (a, .inl (cA, 200, .inl f))] H := hP
        have hD : va_D A [(h, .inr (1, [.ref a, .int x1])), (a, .inl (cA, 200, .inl f))] := hD
        have e8 : o = T := by rw [← hT]; simp [tog]
        rw [List.append_assoc] at hok
        have hok8 := rw_pre hok
        rw [e8] at hok8 e1
        rw [e1] at hP hD
        exact rtV hx hb hr hlocks dX0_putTogether_72 f hok8 hP hD hS
      · skip
        exact absurd (by rw [e2]; simp) c9_1
    | succ n ih =>
      intro rest o g f x1 x2 H locs ls hn hT e1 e2 hok hP hD hS hl
      rcases rest with _ | ⟨c0, _ | ⟨d0, t0⟩⟩
      · skip
        refine lv_iload_n hx hb dX0_putTogether_4 rfl (lv_at hl 0 rfl) ?_
        refine lv_aload_n hx hb dX0_putTogether_5 rfl (lv_at hl 2 rfl) ?_
        refine va_get (D := D) (ci := 1) (v := .int (nI (o ++ g ++ ([] : List Int32)).length)) (C := RX0) (T := TX0) (N := 2) hx hb hts (by decide +kernel) hown hK hP 0 rfl rfl 1 (by decide) (hts (.fieldLink RX0 15 "CharacterRows$Codes" "length" "I") (by decide +kernel)) (fun _ h9 => h9) rfl dX0_putTogether_6 ?_
        refine lv_icmp_ge (tgt := 67) hx hb dX0_putTogether_9 (by decide) (fun c9_2 => ?_) (fun c9_2 => ?_)
        · skip
          refine lv_aload_n hx hb dX0_putTogether_67 rfl (lv_at hl 2 rfl) ?_
          refine lv_iload_n hx hb dX0_putTogether_68 rfl (lv_at hl 1 rfl) ?_
          refine va_put (D := D) (ci := 1) (v := .int x1) (ty := .int) (C := RX0) (T := TX0) (N := 2) hx hb hts (by decide +kernel) tyX0 tyX0_ok nmX0 hown hK hP hD hS 0 rfl rfl 1 (by decide) (hts (.fieldLink RX0 15 "CharacterRows$Codes" "length" "I") (by decide +kernel)) (fun _ h9 => h9) rfl (by decide +kernel) rfl rfl (Nat.le_of_ble_eq_true rfl) dX0_putTogether_69 (fun H locs hP hD hS => ?_)
          have hP : va_P D vwCl [(h, .inr (1, [.ref a, .int x1])), (a, .inl (cA, 200, .inl f))] H := hP
          have hD : va_D A [(h, .inr (1, [.ref a, .int x1])), (a, .inl (cA, 200, .inl f))] := hD
          have e8 : o = T := by rw [← hT]; simp [tog]
          rw [List.append_assoc] at hok
          have hok8 := rw_pre hok
          rw [e8] at hok8 e1
          rw [e1] at hP hD
          exact rtV hx hb hr hlocks dX0_putTogether_72 f hok8 hP hD hS
        · skip
          exact absurd (by rw [e2]; simp) c9_2
      · skip
        have hl2 : o.length + g.length + 1 ≤ 200 := by have := hok.1; simp at this; omega
        refine lv_iload_n hx hb dX0_putTogether_4 rfl (lv_at hl 0 rfl) ?_
        refine lv_aload_n hx hb dX0_putTogether_5 rfl (lv_at hl 2 rfl) ?_
        refine va_get (D := D) (ci := 1) (v := .int (nI (o ++ g ++ [c0]).length)) (C := RX0) (T := TX0) (N := 2) hx hb hts (by decide +kernel) hown hK hP 0 rfl rfl 1 (by decide) (hts (.fieldLink RX0 15 "CharacterRows$Codes" "length" "I") (by decide +kernel)) (fun _ h9 => h9) rfl dX0_putTogether_6 ?_
        refine lv_icmp_ge (tgt := 67) hx hb dX0_putTogether_9 (by decide) (fun c9_3 => ?_) (fun c9_3 => ?_)
        · skip
          exact absurd c9_3 (by rw [e2]; exact nI_ge (by simp) (by simp; omega))
        · skip
          refine lv_aload_n hx hb dX0_putTogether_12 rfl (lv_at hl 2 rfl) ?_
          refine lv_iload_n hx hb dX0_putTogether_13 rfl (lv_at hl 0 rfl) ?_
          refine vp_callSi (W.runV ⟨hx, hb, hml, hown, hts⟩ (KX0_at l D h a cA f (o ++ g ++ [c0]) hok x2) (cwV 1 hts gX0_putTogether_X0_at rfl rfl rfl (by decide +kernel) ⟨Nat.le_of_ble_eq_true rfl, Nat.le_of_ble_eq_true rfl⟩) (pcR_V (hP.sub (ws' := [(h, .inr (1, [.ref a, .int (nI (o ++ g ++ [c0]).length)])), (a, .inl (cA, 200, .inl f))]) [0, 1] rfl) (hK.sub (tys' := [(cA, .int)]) [0] rfl) hN 0 rfl rfl) rfl rfl hl.1 rfl (lv_room (Nat.le_of_ble_eq_true rfl)) dX0_putTogether_14 ⟨Nat.zero_le _, Nat.zero_le _⟩) (fun r9 hr9 => ?_)
          replace hr9 : r9 = c0 := hr9.trans (tg_at e2 (by omega))
          subst r9
          refine lv_istore_n (lv' := [(3, .int c0), (2, .int x2), (1, .int x1), (0, .ref h)]) hx hb dX0_putTogether_17 rfl hl (by decide) rfl (fun ls hl => ?_)
          refine lv_aload_n hx hb dX0_putTogether_18 rfl (lv_at hl 3 rfl) ?_
          refine lv_iload_n hx hb dX0_putTogether_19 rfl (lv_at hl 1 rfl) ?_
          refine lv_iconst (v := 1) hx hb dX0_putTogether_20 (by decide) ?_
          refine lv_iadd hx hb dX0_putTogether_21 ?_
          refine vp_callSi (W.runV ⟨hx, hb, hml, hown, hts⟩ (KX0_at l D h a cA f (o ++ g ++ [c0]) hok (x2 + 1)) (cwV 1 hts gX0_putTogether_X0_at rfl rfl rfl (by decide +kernel) ⟨Nat.le_of_ble_eq_true rfl, Nat.le_of_ble_eq_true rfl⟩) (pcR_V (hP.sub (ws' := [(h, .inr (1, [.ref a, .int (nI (o ++ g ++ [c0]).length)])), (a, .inl (cA, 200, .inl f))]) [0, 1] rfl) (hK.sub (tys' := [(cA, .int)]) [0] rfl) hN 0 rfl rfl) rfl rfl hl.1 rfl (lv_room (Nat.le_of_ble_eq_true rfl)) dX0_putTogether_22 ⟨Nat.zero_le _, Nat.zero_le _⟩) (fun r9 hr9 => ?_)
          replace hr9 : r9 = (-1) := hr9.trans (tg_at3 e2 (by omega))
          subst r9
          refine lv_istore (lv' := [(4, .int (-1)), (3, .int c0), (2, .int x2), (1, .int x1), (0, .ref h)]) hx hb dX0_putTogether_25 hl (by decide) rfl (fun ls hl => ?_)
          refine lv_iload_n hx hb dX0_putTogether_27 rfl (lv_at hl 1 rfl) ?_
          refine vp_callSi ((va_runSN ⟨hx, hb, hml, hown, hts⟩ (KX2_isLetter l c0) ⟨va_cnB 1 hts gX0_putTogether_X2_isLetter_n56 rfl rfl rfl (nst_at hN 7 rfl) (hts (.initialized RX2) (by decide +kernel)) (by decide +kernel) ⟨Nat.le_of_ble_eq_true rfl, Nat.le_of_ble_eq_true rfl⟩, (hts (.static yX2_isLetter) (by decide +kernel)), trivial⟩ pcS_S rfl rfl hl.1 rfl (lv_room (Nat.le_of_ble_eq_true rfl)) dX0_putTogether_28 ⟨Nat.zero_le _, Nat.zero_le _⟩).run) (fun r9 hr9 => ?_)
          subst r9
          refine lv_if_eq (tgt := 52) hx hb dX0_putTogether_31 (by decide) (fun c31_1 => ?_) (fun c31_1 => ?_)
          · skip
            refine lv_aload_n hx hb dX0_putTogether_52 rfl (lv_at hl 4 rfl) ?_
            refine lv_iload_n hx hb dX0_putTogether_53 rfl (lv_at hl 3 rfl) ?_
            refine lv_iload_n hx hb dX0_putTogether_54 rfl (lv_at hl 1 rfl) ?_
            refine clV (wr := []) (va_runV ⟨hx, hb, hml, hown, hts⟩ (KX0_put l D h a cA f (o ++ g ++ [c0]) hok x1 c0 _) (cwV 2 hts gX0_putTogether_X0_put rfl rfl rfl (by decide +kernel) ⟨Nat.le_of_ble_eq_true rfl, Nat.le_of_ble_eq_true rfl⟩) (pcM_V (hP.sub (ws' := [(h, .inr (1, [.ref a, .int (nI (o ++ g ++ [c0]).length)])), (a, .inl (cA, 200, .inl f))]) [0, 1] rfl) (hD.sub (ws' := [(h, .inr (1, [.ref a, .int (nI (o ++ g ++ [c0]).length)])), (a, .inl (cA, 200, .inl f))]) [0, 1] (by decide) rfl) (hK.sub (tys' := [(cA, .int)]) [0] rfl) hN 0 rfl rfl) rfl rfl hl.1 rfl (lv_room (Nat.le_of_ble_eq_true rfl)) dX0_putTogether_55 ⟨Nat.zero_le _, Nat.zero_le _⟩) hP hD hS hA [0, 1] [] rfl rfl (by decide) (by decide) (fun u_1 H locs hw_1 hP hD hS => ?_)
            have e9_1 : (rw_put (o ++ g ++ [c0]) x1 c0) = ((o ++ [c0]) ++ (g ++ [c0]).tail ++ []) := (tg_put e1 (by omega))
            rw [e9_1] at hw_1 hP hD
            have hP : va_P D vwCl [(h, .inr (1, [.ref a, .int (nI ((o ++ [c0]) ++ (g ++ [c0]).tail ++ []).length)])), (a, .inl (cA, 200, .inl u_1))] H := hP.sub [0, 1] rfl
            have hD : va_D A [(h, .inr (1, [.ref a, .int (nI ((o ++ [c0]) ++ (g ++ [c0]).tail ++ []).length)])), (a, .inl (cA, 200, .inl u_1))] := hD.sub [0, 1] (by decide) rfl
            refine lv_iinc (v := (x1 + 1)) (lv' := [(1, .int (x1 + 1)), (4, .int (-1)), (3, .int c0), (2, .int x2), (0, .ref h)]) hx hb dX0_putTogether_58 hl (k := 3) rfl rfl (by decide) rfl (fun ls hl => ?_)
            refine lv_iinc (v := (x2 + 1)) (lv' := [(2, .int (x2 + 1)), (1, .int (x1 + 1)), (4, .int (-1)), (3, .int c0), (0, .ref h)]) hx hb dX0_putTogether_61 hl (k := 3) rfl rfl (by decide) rfl (fun ls hl => ?_)
            refine lv_goto (tgt := 4) hx hb dX0_putTogether_64 (by decide) ?_
            exact ih [] (o ++ [c0]) (g ++ [c0]).tail u_1 _ _ H locs ls (by simpa using hn) (by rw [← hT]; simp [tog, c31_1]) (by rw [e1]; simp; exact nI_1 _) (by rw [e2, nI_1]; simp; congr 1; omega) hw_1 hP hD hS (lv_sub hl [0, 1, 4] rfl)
          · skip
            refine lv_iload hx hb dX0_putTogether_34 (lv_at hl 0 rfl) ?_
            refine vp_callSi ((va_runSN ⟨hx, hb, hml, hown, hts⟩ (KX2_isMark l (-1)) ⟨va_cnB 1 hts gX0_putTogether_X2_isMark_n27 rfl rfl rfl (nst_at hN 2 rfl) (hts (.initialized RX2) (by decide +kernel)) (by decide +kernel) ⟨Nat.le_of_ble_eq_true rfl, Nat.le_of_ble_eq_true rfl⟩, (hts (.static yX2_isMark) (by decide +kernel)), trivial⟩ pcS_S rfl rfl hl.1 rfl (lv_room (Nat.le_of_ble_eq_true rfl)) dX0_putTogether_36 ⟨Nat.zero_le _, Nat.zero_le _⟩).run) (fun r9 hr9 => ?_)
            subst r9
            refine lv_if_eq (tgt := 52) hx hb dX0_putTogether_39 (by decide) (fun c39_1 => ?_) (fun c39_1 => ?_)
            · skip
              refine lv_aload_n hx hb dX0_putTogether_52 rfl (lv_at hl 4 rfl) ?_
              refine lv_iload_n hx hb dX0_putTogether_53 rfl (lv_at hl 3 rfl) ?_
              refine lv_iload_n hx hb dX0_putTogether_54 rfl (lv_at hl 1 rfl) ?_
              refine clV (wr := []) (va_runV ⟨hx, hb, hml, hown, hts⟩ (KX0_put l D h a cA f (o ++ g ++ [c0]) hok x1 c0 _) (cwV 2 hts gX0_putTogether_X0_put rfl rfl rfl (by decide +kernel) ⟨Nat.le_of_ble_eq_true rfl, Nat.le_of_ble_eq_true rfl⟩) (pcM_V (hP.sub (ws' := [(h, .inr (1, [.ref a, .int (nI (o ++ g ++ [c0]).length)])), (a, .inl (cA, 200, .inl f))]) [0, 1] rfl) (hD.sub (ws' := [(h, .inr (1, [.ref a, .int (nI (o ++ g ++ [c0]).length)])), (a, .inl (cA, 200, .inl f))]) [0, 1] (by decide) rfl) (hK.sub (tys' := [(cA, .int)]) [0] rfl) hN 0 rfl rfl) rfl rfl hl.1 rfl (lv_room (Nat.le_of_ble_eq_true rfl)) dX0_putTogether_55 ⟨Nat.zero_le _, Nat.zero_le _⟩) hP hD hS hA [0, 1] [] rfl rfl (by decide) (by decide) (fun u_2 H locs hw_2 hP hD hS => ?_)
              have e9_2 : (rw_put (o ++ g ++ [c0]) x1 c0) = ((o ++ [c0]) ++ (g ++ [c0]).tail ++ []) := (tg_put e1 (by omega))
              rw [e9_2] at hw_2 hP hD
              have hP : va_P D vwCl [(h, .inr (1, [.ref a, .int (nI ((o ++ [c0]) ++ (g ++ [c0]).tail ++ []).length)])), (a, .inl (cA, 200, .inl u_2))] H := hP.sub [0, 1] rfl
              have hD : va_D A [(h, .inr (1, [.ref a, .int (nI ((o ++ [c0]) ++ (g ++ [c0]).tail ++ []).length)])), (a, .inl (cA, 200, .inl u_2))] := hD.sub [0, 1] (by decide) rfl
              refine lv_iinc (v := (x1 + 1)) (lv' := [(1, .int (x1 + 1)), (4, .int (-1)), (3, .int c0), (2, .int x2), (0, .ref h)]) hx hb dX0_putTogether_58 hl (k := 3) rfl rfl (by decide) rfl (fun ls hl => ?_)
              refine lv_iinc (v := (x2 + 1)) (lv' := [(2, .int (x2 + 1)), (1, .int (x1 + 1)), (4, .int (-1)), (3, .int c0), (0, .ref h)]) hx hb dX0_putTogether_61 hl (k := 3) rfl rfl (by decide) rfl (fun ls hl => ?_)
              refine lv_goto (tgt := 4) hx hb dX0_putTogether_64 (by decide) ?_
              exact ih [] (o ++ [c0]) (g ++ [c0]).tail u_2 _ _ H locs ls (by simpa using hn) (by rw [← hT]; simp [tog, c31_1, c39_1]) (by rw [e1]; simp; exact nI_1 _) (by rw [e2, nI_1]; simp; congr 1; omega) hw_2 hP hD hS (lv_sub hl [0, 1, 4] rfl)
            · skip
              exact absurd (by decide) c39_1
      · skip
        have hl2 : o.length + g.length + 2 + t0.length ≤ 200 := by have := hok.1; simp at this; omega
        refine lv_iload_n hx hb dX0_putTogether_4 rfl (lv_at hl 0 rfl) ?_
        refine lv_aload_n hx hb dX0_putTogether_5 rfl (lv_at hl 2 rfl) ?_
        refine va_get (D := D) (ci := 1) (v := .int (nI (o ++ g ++ (c0 :: d0 :: t0)).length)) (C := RX0) (T := TX0) (N := 2) hx hb hts (by decide +kernel) hown hK hP 0 rfl rfl 1 (by decide) (hts (.fieldLink RX0 15 "CharacterRows$Codes" "length" "I") (by decide +kernel)) (fun _ h9 => h9) rfl dX0_putTogether_6 ?_
        refine lv_icmp_ge (tgt := 67) hx hb dX0_putTogether_9 (by decide) (fun c9_4 => ?_) (fun c9_4 => ?_)
        · skip
          exact absurd c9_4 (by rw [e2]; exact nI_ge (by simp) (by simp; omega))
        · skip
          refine lv_aload_n hx hb dX0_putTogether_12 rfl (lv_at hl 2 rfl) ?_
          refine lv_iload_n hx hb dX0_putTogether_13 rfl (lv_at hl 0 rfl) ?_
          refine vp_callSi (W.runV ⟨hx, hb, hml, hown, hts⟩ (KX0_at l D h a cA f (o ++ g ++ (c0 :: d0 :: t0)) hok x2) (cwV 1 hts gX0_putTogether_X0_at rfl rfl rfl (by decide +kernel) ⟨Nat.le_of_ble_eq_true rfl, Nat.le_of_ble_eq_true rfl⟩) (pcR_V (hP.sub (ws' := [(h, .inr (1, [.ref a, .int (nI (o ++ g ++ (c0 :: d0 :: t0)).length)])), (a, .inl (cA, 200, .inl f))]) [0, 1] rfl) (hK.sub (tys' := [(cA, .int)]) [0] rfl) hN 0 rfl rfl) rfl rfl hl.1 rfl (lv_room (Nat.le_of_ble_eq_true rfl)) dX0_putTogether_14 ⟨Nat.zero_le _, Nat.zero_le _⟩) (fun r9 hr9 => ?_)
          replace hr9 : r9 = c0 := hr9.trans (tg_at e2 (by omega))
          subst r9
          refine lv_istore_n (lv' := [(3, .int c0), (2, .int x2), (1, .int x1), (0, .ref h)]) hx hb dX0_putTogether_17 rfl hl (by decide) rfl (fun ls hl => ?_)
          refine lv_aload_n hx hb dX0_putTogether_18 rfl (lv_at hl 3 rfl) ?_
          refine lv_iload_n hx hb dX0_putTogether_19 rfl (lv_at hl 1 rfl) ?_
          refine lv_iconst (v := 1) hx hb dX0_putTogether_20 (by decide) ?_
          refine lv_iadd hx hb dX0_putTogether_21 ?_
          refine vp_callSi (W.runV ⟨hx, hb, hml, hown, hts⟩ (KX0_at l D h a cA f (o ++ g ++ (c0 :: d0 :: t0)) hok (x2 + 1)) (cwV 1 hts gX0_putTogether_X0_at rfl rfl rfl (by decide +kernel) ⟨Nat.le_of_ble_eq_true rfl, Nat.le_of_ble_eq_true rfl⟩) (pcR_V (hP.sub (ws' := [(h, .inr (1, [.ref a, .int (nI (o ++ g ++ (c0 :: d0 :: t0)).length)])), (a, .inl (cA, 200, .inl f))]) [0, 1] rfl) (hK.sub (tys' := [(cA, .int)]) [0] rfl) hN 0 rfl rfl) rfl rfl hl.1 rfl (lv_room (Nat.le_of_ble_eq_true rfl)) dX0_putTogether_22 ⟨Nat.zero_le _, Nat.zero_le _⟩) (fun r9 hr9 => ?_)
          replace hr9 : r9 = d0 := hr9.trans (tg_at2 e2 (by omega))
          subst r9
          refine lv_istore (lv' := [(4, .int d0), (3, .int c0), (2, .int x2), (1, .int x1), (0, .ref h)]) hx hb dX0_putTogether_25 hl (by decide) rfl (fun ls hl => ?_)
          refine lv_iload_n hx hb dX0_putTogether_27 rfl (lv_at hl 1 rfl) ?_
          refine vp_callSi ((va_runSN ⟨hx, hb, hml, hown, hts⟩ (KX2_isLetter l c0) ⟨va_cnB 1 hts gX0_putTogether_X2_isLetter_n56 rfl rfl rfl (nst_at hN 7 rfl) (hts (.initialized RX2) (by decide +kernel)) (by decide +kernel) ⟨Nat.le_of_ble_eq_true rfl, Nat.le_of_ble_eq_true rfl⟩, (hts (.static yX2_isLetter) (by decide +kernel)), trivial⟩ pcS_S rfl rfl hl.1 rfl (lv_room (Nat.le_of_ble_eq_true rfl)) dX0_putTogether_28 ⟨Nat.zero_le _, Nat.zero_le _⟩).run) (fun r9 hr9 => ?_)
          subst r9
          refine lv_if_eq (tgt := 52) hx hb dX0_putTogether_31 (by decide) (fun c31_2 => ?_) (fun c31_2 => ?_)
          · skip
            refine lv_aload_n hx hb dX0_putTogether_52 rfl (lv_at hl 4 rfl) ?_
            refine lv_iload_n hx hb dX0_putTogether_53 rfl (lv_at hl 3 rfl) ?_
            refine lv_iload_n hx hb dX0_putTogether_54 rfl (lv_at hl 1 rfl) ?_
            refine clV (wr := []) (va_runV ⟨hx, hb, hml, hown, hts⟩ (KX0_put l D h a cA f (o ++ g ++ (c0 :: d0 :: t0)) hok x1 c0 _) (cwV 2 hts gX0_putTogether_X0_put rfl rfl rfl (by decide +kernel) ⟨Nat.le_of_ble_eq_true rfl, Nat.le_of_ble_eq_true rfl⟩) (pcM_V (hP.sub (ws' := [(h, .inr (1, [.ref a, .int (nI (o ++ g ++ (c0 :: d0 :: t0)).length)])), (a, .inl (cA, 200, .inl f))]) [0, 1] rfl) (hD.sub (ws' := [(h, .inr (1, [.ref a, .int (nI (o ++ g ++ (c0 :: d0 :: t0)).length)])), (a, .inl (cA, 200, .inl f))]) [0, 1] (by decide) rfl) (hK.sub (tys' := [(cA, .int)]) [0] rfl) hN 0 rfl rfl) rfl rfl hl.1 rfl (lv_room (Nat.le_of_ble_eq_true rfl)) dX0_putTogether_55 ⟨Nat.zero_le _, Nat.zero_le _⟩) hP hD hS hA [0, 1] [] rfl rfl (by decide) (by decide) (fun u_3 H locs hw_3 hP hD hS => ?_)
            have e9_3 : (rw_put (o ++ g ++ (c0 :: d0 :: t0)) x1 c0) = ((o ++ [c0]) ++ (g ++ [c0]).tail ++ (d0 :: t0)) := (tg_put e1 (by omega))
            rw [e9_3] at hw_3 hP hD
            have hP : va_P D vwCl [(h, .inr (1, [.ref a, .int (nI ((o ++ [c0]) ++ (g ++ [c0]).tail ++ (d0 :: t0)).length)])), (a, .inl (cA, 200, .inl u_3))] H := hP.sub [0, 1] rfl
            have hD : va_D A [(h, .inr (1, [.ref a, .int (nI ((o ++ [c0]) ++ (g ++ [c0]).tail ++ (d0 :: t0)).length)])), (a, .inl (cA, 200, .inl u_3))] := hD.sub [0, 1] (by decide) rfl
            refine lv_iinc (v := (x1 + 1)) (lv' := [(1, .int (x1 + 1)), (4, .int d0), (3, .int c0), (2, .int x2), (0, .ref h)]) hx hb dX0_putTogether_58 hl (k := 3) rfl rfl (by decide) rfl (fun ls hl => ?_)
            refine lv_iinc (v := (x2 + 1)) (lv' := [(2, .int (x2 + 1)), (1, .int (x1 + 1)), (4, .int d0), (3, .int c0), (0, .ref h)]) hx hb dX0_putTogether_61 hl (k := 3) rfl rfl (by decide) rfl (fun ls hl => ?_)
            refine lv_goto (tgt := 4) hx hb dX0_putTogether_64 (by decide) ?_
            exact ih (d0 :: t0) (o ++ [c0]) (g ++ [c0]).tail u_3 _ _ H locs ls (by simpa using hn) (by rw [← hT]; simp [tog, c31_2]) (by rw [e1]; simp; exact nI_1 _) (by rw [e2, nI_1]; simp; congr 1; omega) hw_3 hP hD hS (lv_sub hl [0, 1, 4] rfl)
          · skip
            refine lv_iload hx hb dX0_putTogether_34 (lv_at hl 0 rfl) ?_
            refine vp_callSi ((va_runSN ⟨hx, hb, hml, hown, hts⟩ (KX2_isMark l d0) ⟨va_cnB 1 hts gX0_putTogether_X2_isMark_n27 rfl rfl rfl (nst_at hN 2 rfl) (hts (.initialized RX2) (by decide +kernel)) (by decide +kernel) ⟨Nat.le_of_ble_eq_true rfl, Nat.le_of_ble_eq_true rfl⟩, (hts (.static yX2_isMark) (by decide +kernel)), trivial⟩ pcS_S rfl rfl hl.1 rfl (lv_room (Nat.le_of_ble_eq_true rfl)) dX0_putTogether_36 ⟨Nat.zero_le _, Nat.zero_le _⟩).run) (fun r9 hr9 => ?_)
            subst r9
            refine lv_if_eq (tgt := 52) hx hb dX0_putTogether_39 (by decide) (fun c39_2 => ?_) (fun c39_2 => ?_)
            · skip
              refine lv_aload_n hx hb dX0_putTogether_52 rfl (lv_at hl 4 rfl) ?_
              refine lv_iload_n hx hb dX0_putTogether_53 rfl (lv_at hl 3 rfl) ?_
              refine lv_iload_n hx hb dX0_putTogether_54 rfl (lv_at hl 1 rfl) ?_
              refine clV (wr := []) (va_runV ⟨hx, hb, hml, hown, hts⟩ (KX0_put l D h a cA f (o ++ g ++ (c0 :: d0 :: t0)) hok x1 c0 _) (cwV 2 hts gX0_putTogether_X0_put rfl rfl rfl (by decide +kernel) ⟨Nat.le_of_ble_eq_true rfl, Nat.le_of_ble_eq_true rfl⟩) (pcM_V (hP.sub (ws' := [(h, .inr (1, [.ref a, .int (nI (o ++ g ++ (c0 :: d0 :: t0)).length)])), (a, .inl (cA, 200, .inl f))]) [0, 1] rfl) (hD.sub (ws' := [(h, .inr (1, [.ref a, .int (nI (o ++ g ++ (c0 :: d0 :: t0)).length)])), (a, .inl (cA, 200, .inl f))]) [0, 1] (by decide) rfl) (hK.sub (tys' := [(cA, .int)]) [0] rfl) hN 0 rfl rfl) rfl rfl hl.1 rfl (lv_room (Nat.le_of_ble_eq_true rfl)) dX0_putTogether_55 ⟨Nat.zero_le _, Nat.zero_le _⟩) hP hD hS hA [0, 1] [] rfl rfl (by decide) (by decide) (fun u_4 H locs hw_4 hP hD hS => ?_)
              have e9_4 : (rw_put (o ++ g ++ (c0 :: d0 :: t0)) x1 c0) = ((o ++ [c0]) ++ (g ++ [c0]).tail ++ (d0 :: t0)) := (tg_put e1 (by omega))
              rw [e9_4] at hw_4 hP hD
              have hP : va_P D vwCl [(h, .inr (1, [.ref a, .int (nI ((o ++ [c0]) ++ (g ++ [c0]).tail ++ (d0 :: t0)).length)])), (a, .inl (cA, 200, .inl u_4))] H := hP.sub [0, 1] rfl
              have hD : va_D A [(h, .inr (1, [.ref a, .int (nI ((o ++ [c0]) ++ (g ++ [c0]).tail ++ (d0 :: t0)).length)])), (a, .inl (cA, 200, .inl u_4))] := hD.sub [0, 1] (by decide) rfl
              refine lv_iinc (v := (x1 + 1)) (lv' := [(1, .int (x1 + 1)), (4, .int d0), (3, .int c0), (2, .int x2), (0, .ref h)]) hx hb dX0_putTogether_58 hl (k := 3) rfl rfl (by decide) rfl (fun ls hl => ?_)
              refine lv_iinc (v := (x2 + 1)) (lv' := [(2, .int (x2 + 1)), (1, .int (x1 + 1)), (4, .int d0), (3, .int c0), (0, .ref h)]) hx hb dX0_putTogether_61 hl (k := 3) rfl rfl (by decide) rfl (fun ls hl => ?_)
              refine lv_goto (tgt := 4) hx hb dX0_putTogether_64 (by decide) ?_
              exact ih (d0 :: t0) (o ++ [c0]) (g ++ [c0]).tail u_4 _ _ H locs ls (by simpa using hn) (by rw [← hT]; simp [tog, c31_2, c39_2]) (by rw [e1]; simp; exact nI_1 _) (by rw [e2, nI_1]; simp; congr 1; omega) hw_4 hP hD hS (lv_sub hl [0, 1, 4] rfl)
            · skip
              refine lv_iload_n hx hb dX0_putTogether_42 rfl (lv_at hl 1 rfl) ?_
              refine lv_iload hx hb dX0_putTogether_43 (lv_at hl 0 rfl) ?_
              refine vp_callSi ((va_runSN ⟨hx, hb, hml, hown, hts⟩ (KX2_composedOf l c0 d0) ⟨va_cnB 2 hts gX0_putTogether_X2_composedOf_n59 rfl rfl rfl (nst_at hN 8 rfl) (hts (.initialized RX2) (by decide +kernel)) (by decide +kernel) ⟨Nat.le_of_ble_eq_true rfl, Nat.le_of_ble_eq_true rfl⟩, (hts (.static yX2_composedOf) (by decide +kernel)), trivial⟩ pcS_S rfl rfl hl.1 rfl (lv_room (Nat.le_of_ble_eq_true rfl)) dX0_putTogether_45 ⟨Nat.zero_le _, Nat.zero_le _⟩).run) (fun r9 hr9 => ?_)
              subst r9
              refine lv_istore_n (lv' := [(3, .int (fX2_composedOf c0 d0)), (4, .int d0), (2, .int x2), (1, .int x1), (0, .ref h)]) hx hb dX0_putTogether_48 rfl hl (by decide) rfl (fun ls hl => ?_)
              refine lv_iinc (v := (x2 + 1)) (lv' := [(2, .int (x2 + 1)), (3, .int (fX2_composedOf c0 d0)), (4, .int d0), (1, .int x1), (0, .ref h)]) hx hb dX0_putTogether_49 hl (k := 2) rfl rfl (by decide) rfl (fun ls hl => ?_)
              refine lv_aload_n hx hb dX0_putTogether_52 rfl (lv_at hl 4 rfl) ?_
              refine lv_iload_n hx hb dX0_putTogether_53 rfl (lv_at hl 3 rfl) ?_
              refine lv_iload_n hx hb dX0_putTogether_54 rfl (lv_at hl 1 rfl) ?_
              refine clV (wr := []) (va_runV ⟨hx, hb, hml, hown, hts⟩ (KX0_put l D h a cA f (o ++ g ++ (c0 :: d0 :: t0)) hok x1 (fX2_composedOf c0 d0) _) (cwV 2 hts gX0_putTogether_X0_put rfl rfl rfl (by decide +kernel) ⟨Nat.le_of_ble_eq_true rfl, Nat.le_of_ble_eq_true rfl⟩) (pcM_V (hP.sub (ws' := [(h, .inr (1, [.ref a, .int (nI (o ++ g ++ (c0 :: d0 :: t0)).length)])), (a, .inl (cA, 200, .inl f))]) [0, 1] rfl) (hD.sub (ws' := [(h, .inr (1, [.ref a, .int (nI (o ++ g ++ (c0 :: d0 :: t0)).length)])), (a, .inl (cA, 200, .inl f))]) [0, 1] (by decide) rfl) (hK.sub (tys' := [(cA, .int)]) [0] rfl) hN 0 rfl rfl) rfl rfl hl.1 rfl (lv_room (Nat.le_of_ble_eq_true rfl)) dX0_putTogether_55 ⟨Nat.zero_le _, Nat.zero_le _⟩) hP hD hS hA [0, 1] [] rfl rfl (by decide) (by decide) (fun u_5 H locs hw_5 hP hD hS => ?_)
              have e9_5 : (rw_put (o ++ g ++ (c0 :: d0 :: t0)) x1 (fX2_composedOf c0 d0)) = ((o ++ [fX2_composedOf c0 d0]) ++ (g ++ [c0]).tail ++ (d0 :: t0)) := (tg_put e1 (by omega))
              rw [e9_5] at hw_5 hP hD
              have hP : va_P D vwCl [(h, .inr (1, [.ref a, .int (nI ((o ++ [fX2_composedOf c0 d0]) ++ (g ++ [c0]).tail ++ (d0 :: t0)).length)])), (a, .inl (cA, 200, .inl u_5))] H := hP.sub [0, 1] rfl
              have hD : va_D A [(h, .inr (1, [.ref a, .int (nI ((o ++ [fX2_composedOf c0 d0]) ++ (g ++ [c0]).tail ++ (d0 :: t0)).length)])), (a, .inl (cA, 200, .inl u_5))] := hD.sub [0, 1] (by decide) rfl
              refine lv_iinc (v := (x1 + 1)) (lv' := [(1, .int (x1 + 1)), (2, .int (x2 + 1)), (3, .int (fX2_composedOf c0 d0)), (4, .int d0), (0, .ref h)]) hx hb dX0_putTogether_58 hl (k := 3) rfl rfl (by decide) rfl (fun ls hl => ?_)
              refine lv_iinc (v := ((x2 + 1) + 1)) (lv' := [(2, .int ((x2 + 1) + 1)), (1, .int (x1 + 1)), (3, .int (fX2_composedOf c0 d0)), (4, .int d0), (0, .ref h)]) hx hb dX0_putTogether_61 hl (k := 1) rfl rfl (by decide) rfl (fun ls hl => ?_)
              refine lv_goto (tgt := 4) hx hb dX0_putTogether_64 (by decide) ?_
              have e7 : ((o ++ [fX2_composedOf c0 d0]) ++ (g ++ [c0]).tail ++ (d0 :: t0)) = (o ++ [fX2_composedOf c0 d0]) ++ ((g ++ [c0]).tail ++ [d0]) ++ t0 := by simp
              rw [e7] at hw_5 hP hD
              exact ih t0 (o ++ [fX2_composedOf c0 d0]) ((g ++ [c0]).tail ++ [d0]) u_5 _ _ H locs ls (by simp at hn; omega) (by rw [← hT]; simp [tog, c31_2, c39_2]) (by rw [e1]; simp; exact nI_1 _) (by rw [e2, nI_1, nI_1]; simp; congr 1; omega) hw_5 hP hD hS (lv_sub hl [0, 1, 4] rfl)
  exact loop xs.length xs [] [] f _ _ _ _ ls (Nat.le_refl _) hT rfl rfl hok hP hD hS (lv_sub hl [0, 1, 2] rfl)
set_option maxHeartbeats 4000000 in
set_option maxRecDepth 100000 in
theorem KX0_placeOfBase (l : Launch) (D : va_G) (h a : Nat) (cA : ClassId) (f : Nat → Int32) (xs : List Int32) (hok : rw_ok f 200 xs) (w0 : Int64) : Met l yX0_placeOfBase wsX0_placeOfBase ({ frames := 1, cells := 0, slots := 0, locals := 21 }) (pcR D [(h, .inr (1, [.ref a, .int (nI xs.length)])), (a, .inl (cA, 200, .inl f))] [(cA, .int)] [.ref h, .long w0]) (vp_Si (fun r => r = pob xs 0 0 w0)) 0 0 (fun _ => False) := by
  refine ofR (cc := cX0_placeOfBase) (maxL := 6) (ret := (some .int)) (by decide) rfl (Nat.le_of_ble_eq_true rfl) ?_
  intro p e s m below meth c ls hx hb hr hml hown hts hlocks hP hK hN hl
  have hl : lv_has ls 6 [(0, .ref h), (1, .long w0)] := hl
  refine lv_lconst (v := 0) hx hb dX0_placeOfBase_0 (by decide) ?_
  refine lv_lstore_n (lv' := [(3, .long 0), (0, .ref h), (1, .long w0)]) hx hb dX0_placeOfBase_1 rfl hl (by decide) rfl (fun ls hl => ?_)
  refine lv_iconst (v := 0) hx hb dX0_placeOfBase_2 (by decide) ?_
  refine lv_istore (lv' := [(5, .int 0), (3, .long 0), (0, .ref h), (1, .long w0)]) hx hb dX0_placeOfBase_3 hl (by decide) rfl (fun ls hl => ?_)
  have loop : ∀ (rest : List Int32) (done : List Int32) (x5 : Int32) (met : Int64) (ls : Array Slot), xs = done ++ rest → x5 = nI done.length → pob rest done.length met w0 = pob xs 0 0 w0 → lv_has ls 6 [(5, .int x5), (3, .long met), (0, .ref h), (1, .long w0)] → W p l e ({ frames := 1, cells := 0, slots := 0, locals := 21 }) s m ([.ref h, .long w0] : List Value).toArray below meth c s.heap [] 0 0 (MQ below (vp_Si (fun r => r = pob xs 0 0 w0)) ([.ref h, .long w0] : List Value).toArray s 0 0 (fun _ => False)) (F0 m 5 ls [])  := by
    intro rest
    induction rest with
    | nil =>
      intro done x5 met ls hxs e5 hp hl
      have hln : xs.length = done.length := by rw [hxs]; simp
      refine lv_iload hx hb dX0_placeOfBase_5 (lv_at hl 0 rfl) ?_
      refine lv_aload_n hx hb dX0_placeOfBase_7 rfl (lv_at hl 2 rfl) ?_
      refine va_get (D := D) (ci := 1) (v := .int (nI xs.length)) (C := RX0) (T := TX0) (N := 2) hx hb hts (by decide +kernel) hown hK hP 0 rfl rfl 1 (by decide) (hts (.fieldLink RX0 15 "CharacterRows$Codes" "length" "I") (by decide +kernel)) (fun _ h9 => h9) rfl dX0_placeOfBase_8 ?_
      refine lv_icmp_ge (tgt := 48) hx hb dX0_placeOfBase_11 (by decide) (fun c11_1 => ?_) (fun c11_1 => ?_)
      · skip
        refine lv_iconst (v := (-1)) hx hb dX0_placeOfBase_48 (by decide) ?_
        exact rtR hx hb hr hlocks dX0_placeOfBase_49 (by rw [← hp]; rfl)
      · skip
        exact absurd (by rw [e5, hln]; exact Int32.le_refl _) c11_1
    | cons d t ih =>
      intro done x5 met ls hxs e5 hp hl
      have hln : xs.length = done.length + (t.length + 1) := by rw [hxs]; simp
      have h200 := hok.1
      refine lv_iload hx hb dX0_placeOfBase_5 (lv_at hl 0 rfl) ?_
      refine lv_aload_n hx hb dX0_placeOfBase_7 rfl (lv_at hl 2 rfl) ?_
      refine va_get (D := D) (ci := 1) (v := .int (nI xs.length)) (C := RX0) (T := TX0) (N := 2) hx hb hts (by decide +kernel) hown hK hP 0 rfl rfl 1 (by decide) (hts (.fieldLink RX0 15 "CharacterRows$Codes" "length" "I") (by decide +kernel)) (fun _ h9 => h9) rfl dX0_placeOfBase_8 ?_
      refine lv_icmp_ge (tgt := 48) hx hb dX0_placeOfBase_11 (by decide) (fun c11_2 => ?_) (fun c11_2 => ?_)
      · skip
        exact absurd c11_2 (by rw [e5, hln]; exact nI_ge (by omega) (by omega))
      · skip
        refine lv_aload_n hx hb dX0_placeOfBase_14 rfl (lv_at hl 2 rfl) ?_
        refine lv_iload hx hb dX0_placeOfBase_15 (lv_at hl 0 rfl) ?_
        refine vp_callSi (W.runV ⟨hx, hb, hml, hown, hts⟩ (KX0_at l D h a cA f xs hok x5) (cwV 1 hts gX0_placeOfBase_X0_at rfl rfl rfl (by decide +kernel) ⟨Nat.le_of_ble_eq_true rfl, Nat.le_of_ble_eq_true rfl⟩) (pcR_V (hP.sub (ws' := [(h, .inr (1, [.ref a, .int (nI xs.length)])), (a, .inl (cA, 200, .inl f))]) [0, 1] rfl) (hK.sub (tys' := [(cA, .int)]) [0] rfl) hN 0 rfl rfl) rfl rfl hl.1 rfl (lv_room (Nat.le_of_ble_eq_true rfl)) dX0_placeOfBase_17 ⟨Nat.zero_le _, Nat.zero_le _⟩) (fun r9 hr9 => ?_)
        replace hr9 : r9 = d := hr9.trans (by rw [hxs, e5]; exact rw_at_k rfl (by omega))
        subst r9
        refine vp_callSi ((va_runSN ⟨hx, hb, hml, hown, hts⟩ (KX2_isMark l d) ⟨va_cnB 1 hts gX0_placeOfBase_X2_isMark_n27 rfl rfl rfl (nst_at hN 2 rfl) (hts (.initialized RX2) (by decide +kernel)) (by decide +kernel) ⟨Nat.le_of_ble_eq_true rfl, Nat.le_of_ble_eq_true rfl⟩, (hts (.static yX2_isMark) (by decide +kernel)), trivial⟩ pcS_S rfl rfl hl.1 rfl (lv_room (Nat.le_of_ble_eq_true rfl)) dX0_placeOfBase_20 ⟨Nat.zero_le _, Nat.zero_le _⟩).run) (fun r9 hr9 => ?_)
        subst r9
        refine lv_if_eq (tgt := 29) hx hb dX0_placeOfBase_23 (by decide) (fun c23_1 => ?_) (fun c23_1 => ?_)
        · skip
          refine lv_lload_n hx hb dX0_placeOfBase_29 rfl (lv_at hl 1 rfl) ?_
          refine lv_lload_n hx hb dX0_placeOfBase_30 rfl (lv_at hl 3 rfl) ?_
          refine W.lcmp hx hb dX0_placeOfBase_31 ?_
          refine lv_if_ne (tgt := 38) hx hb dX0_placeOfBase_32 (by decide) (fun c32_1 => ?_) (fun c32_1 => ?_)
          · skip
            refine lv_lload_n hx hb dX0_placeOfBase_38 rfl (lv_at hl 1 rfl) ?_
            refine lv_lconst (v := 1) hx hb dX0_placeOfBase_39 (by decide) ?_
            refine lv_ladd hx hb dX0_placeOfBase_40 ?_
            refine lv_lstore_n (lv' := [(3, .long (met + 1)), (5, .int x5), (0, .ref h), (1, .long w0)]) hx hb dX0_placeOfBase_41 rfl hl (by decide) rfl (fun ls hl => ?_)
            refine lv_iinc (v := (x5 + 1)) (lv' := [(5, .int (x5 + 1)), (3, .long (met + 1)), (0, .ref h), (1, .long w0)]) hx hb dX0_placeOfBase_42 hl (k := 1) rfl rfl (by decide) rfl (fun ls hl => ?_)
            refine lv_goto (tgt := 5) hx hb dX0_placeOfBase_45 (by decide) ?_
            exact ih (done ++ [d]) _ _ ls (by rw [hxs]; simp) (by rw [e5, List.length_append]; exact nI_1 _) (by rw [← hp]; have q9 : ¬ met = w0 := fun q => c32_1 ((lg_cmp_eq _ _).mpr q); simp [pob, c23_1, q9]) (lv_sub hl [0, 1, 2, 3] rfl)
          · skip
            refine lv_iload hx hb dX0_placeOfBase_35 (lv_at hl 0 rfl) ?_
            exact rtR hx hb hr hlocks dX0_placeOfBase_37 (by rw [← hp, e5]; have q9 : met = w0 := (lg_cmp_eq _ _).mp c32_1; simp [pob, c23_1, q9])
        · skip
          refine lv_goto (tgt := 42) hx hb dX0_placeOfBase_26 (by decide) ?_
          refine lv_iinc (v := (x5 + 1)) (lv' := [(5, .int (x5 + 1)), (3, .long met), (0, .ref h), (1, .long w0)]) hx hb dX0_placeOfBase_42 hl (k := 0) rfl rfl (by decide) rfl (fun ls hl => ?_)
          refine lv_goto (tgt := 5) hx hb dX0_placeOfBase_45 (by decide) ?_
          exact ih (done ++ [d]) _ _ ls (by rw [hxs]; simp) (by rw [e5, List.length_append]; exact nI_1 _) (by rw [← hp]; simp [pob, c23_1]) (lv_sub hl [0, 1, 2, 3] rfl)
  exact loop xs [] _ _ ls rfl rfl rfl (lv_sub hl [0, 1, 2, 3] rfl)
set_option maxHeartbeats 4000000 in
set_option maxRecDepth 100000 in
theorem KX0_bases (l : Launch) (D : va_G) (h a : Nat) (cA : ClassId) (f : Nat → Int32) (xs : List Int32) (hok : rw_ok f 200 xs) : Met l yX0_bases wsX0_bases ({ frames := 1, cells := 0, slots := 0, locals := 21 }) (pcR D [(h, .inr (1, [.ref a, .int (nI xs.length)])), (a, .inl (cA, 200, .inl f))] [(cA, .int)] [.ref h]) (vp_Si (fun r => r = nI (nbs xs))) 0 0 (fun _ => False) := by
  refine ofR (cc := cX0_bases) (maxL := 3) (ret := (some .int)) (by decide) rfl (Nat.le_of_ble_eq_true rfl) ?_
  intro p e s m below meth c ls hx hb hr hml hown hts hlocks hP hK hN hl
  have hl : lv_has ls 3 [(0, .ref h)] := hl
  refine lv_iconst (v := 0) hx hb dX0_bases_0 (by decide) ?_
  refine lv_istore_n (lv' := [(1, .int 0), (0, .ref h)]) hx hb dX0_bases_1 rfl hl (by decide) rfl (fun ls hl => ?_)
  refine lv_iconst (v := 0) hx hb dX0_bases_2 (by decide) ?_
  refine lv_istore_n (lv' := [(2, .int 0), (1, .int 0), (0, .ref h)]) hx hb dX0_bases_3 rfl hl (by decide) rfl (fun ls hl => ?_)
  have loop : ∀ (rest : List Int32) (done : List Int32) (k : Nat) (x1 x2 : Int32) (ls : Array Slot), xs = done ++ rest → x2 = nI done.length → k + nbs rest = nbs xs → x1 = nI k → lv_has ls 3 [(2, .int x2), (1, .int x1), (0, .ref h)] → W p l e ({ frames := 1, cells := 0, slots := 0, locals := 21 }) s m ([.ref h] : List Value).toArray below meth c s.heap [] 0 0 (MQ below (vp_Si (fun r => r = nI (nbs xs))) ([.ref h] : List Value).toArray s 0 0 (fun _ => False)) (F0 m 4 ls [])  := by
    intro rest
    induction rest with
    | nil =>
      intro done k x1 x2 ls hxs e2 hp e1 hl
      have hln : xs.length = done.length := by rw [hxs]; simp
      refine lv_iload_n hx hb dX0_bases_4 rfl (lv_at hl 0 rfl) ?_
      refine lv_aload_n hx hb dX0_bases_5 rfl (lv_at hl 2 rfl) ?_
      refine va_get (D := D) (ci := 1) (v := .int (nI xs.length)) (C := RX0) (T := TX0) (N := 2) hx hb hts (by decide +kernel) hown hK hP 0 rfl rfl 1 (by decide) (hts (.fieldLink RX0 15 "CharacterRows$Codes" "length" "I") (by decide +kernel)) (fun _ h9 => h9) rfl dX0_bases_6 ?_
      refine lv_icmp_ge (tgt := 37) hx hb dX0_bases_9 (by decide) (fun c9_1 => ?_) (fun c9_1 => ?_)
      · skip
        refine lv_iload_n hx hb dX0_bases_37 rfl (lv_at hl 1 rfl) ?_
        exact rtR hx hb hr hlocks dX0_bases_38 (by rw [← hp, e1]; rfl)
      · skip
        exact absurd (by rw [e2, hln]; exact Int32.le_refl _) c9_1
    | cons d t ih =>
      intro done k x1 x2 ls hxs e2 hp e1 hl
      have hln : xs.length = done.length + (t.length + 1) := by rw [hxs]; simp
      have h200 := hok.1
      refine lv_iload_n hx hb dX0_bases_4 rfl (lv_at hl 0 rfl) ?_
      refine lv_aload_n hx hb dX0_bases_5 rfl (lv_at hl 2 rfl) ?_
      refine va_get (D := D) (ci := 1) (v := .int (nI xs.length)) (C := RX0) (T := TX0) (N := 2) hx hb hts (by decide +kernel) hown hK hP 0 rfl rfl 1 (by decide) (hts (.fieldLink RX0 15 "CharacterRows$Codes" "length" "I") (by decide +kernel)) (fun _ h9 => h9) rfl dX0_bases_6 ?_
      refine lv_icmp_ge (tgt := 37) hx hb dX0_bases_9 (by decide) (fun c9_2 => ?_) (fun c9_2 => ?_)
      · skip
        exact absurd c9_2 (by rw [e2, hln]; exact nI_ge (by omega) (by omega))
      · skip
        refine lv_iload_n hx hb dX0_bases_12 rfl (lv_at hl 1 rfl) ?_
        refine lv_aload_n hx hb dX0_bases_13 rfl (lv_at hl 2 rfl) ?_
        refine lv_iload_n hx hb dX0_bases_14 rfl (lv_at hl 0 rfl) ?_
        refine vp_callSi (W.runV ⟨hx, hb, hml, hown, hts⟩ (KX0_at l D h a cA f xs hok x2) (cwV 1 hts gX0_bases_X0_at rfl rfl rfl (by decide +kernel) ⟨Nat.le_of_ble_eq_true rfl, Nat.le_of_ble_eq_true rfl⟩) (pcR_V (hP.sub (ws' := [(h, .inr (1, [.ref a, .int (nI xs.length)])), (a, .inl (cA, 200, .inl f))]) [0, 1] rfl) (hK.sub (tys' := [(cA, .int)]) [0] rfl) hN 0 rfl rfl) rfl rfl hl.1 rfl (lv_room (Nat.le_of_ble_eq_true rfl)) dX0_bases_15 ⟨Nat.zero_le _, Nat.zero_le _⟩) (fun r9 hr9 => ?_)
        replace hr9 : r9 = d := hr9.trans (by rw [hxs, e2]; exact rw_at_k rfl (by omega))
        subst r9
        refine vp_callSi ((va_runSN ⟨hx, hb, hml, hown, hts⟩ (KX2_isMark l d) ⟨va_cnB 1 hts gX0_bases_X2_isMark_n27 rfl rfl rfl (nst_at hN 2 rfl) (hts (.initialized RX2) (by decide +kernel)) (by decide +kernel) ⟨Nat.le_of_ble_eq_true rfl, Nat.le_of_ble_eq_true rfl⟩, (hts (.static yX2_isMark) (by decide +kernel)), trivial⟩ pcS_S rfl rfl hl.1 rfl (lv_room (Nat.le_of_ble_eq_true rfl)) dX0_bases_18 ⟨Nat.zero_le _, Nat.zero_le _⟩).run) (fun r9 hr9 => ?_)
        subst r9
        refine lv_if_eq (tgt := 28) hx hb dX0_bases_21 (by decide) (fun c21_1 => ?_) (fun c21_1 => ?_)
        · skip
          refine lv_iconst (v := 1) hx hb dX0_bases_28 (by decide) ?_
          refine lv_iadd hx hb dX0_bases_29 ?_
          refine lv_istore_n (lv' := [(1, .int (x1 + 1)), (2, .int x2), (0, .ref h)]) hx hb dX0_bases_30 rfl hl (by decide) rfl (fun ls hl => ?_)
          refine lv_iinc (v := (x2 + 1)) (lv' := [(2, .int (x2 + 1)), (1, .int (x1 + 1)), (0, .ref h)]) hx hb dX0_bases_31 hl (k := 1) rfl rfl (by decide) rfl (fun ls hl => ?_)
          refine lv_goto (tgt := 4) hx hb dX0_bases_34 (by decide) ?_
          exact ih (done ++ [d]) (k + 1) _ _ ls (by rw [hxs]; simp) (by rw [e2, List.length_append]; exact nI_1 _) (by rw [← hp]; simp [nbs, c21_1]; omega) (by rw [e1]; exact nI_1 _) (lv_sub hl [0, 1, 2] rfl)
        · skip
          refine lv_iconst (v := 0) hx hb dX0_bases_24 (by decide) ?_
          refine lv_goto (tgt := 29) hx hb dX0_bases_25 (by decide) ?_
          refine lv_iadd hx hb dX0_bases_29 ?_
          refine lv_istore_n (lv' := [(1, .int (x1 + 0)), (2, .int x2), (0, .ref h)]) hx hb dX0_bases_30 rfl hl (by decide) rfl (fun ls hl => ?_)
          refine lv_iinc (v := (x2 + 1)) (lv' := [(2, .int (x2 + 1)), (1, .int (x1 + 0)), (0, .ref h)]) hx hb dX0_bases_31 hl (k := 1) rfl rfl (by decide) rfl (fun ls hl => ?_)
          refine lv_goto (tgt := 4) hx hb dX0_bases_34 (by decide) ?_
          exact ih (done ++ [d]) k _ _ ls (by rw [hxs]; simp) (by rw [e2, List.length_append]; exact nI_1 _) (by rw [← hp]; simp [nbs, c21_1]) (by rw [e1]; exact Int32.add_zero _) (lv_sub hl [0, 1, 2] rfl)
  exact loop xs [] 0 _ _ ls rfl rfl (Nat.zero_add _) rfl (lv_sub hl [0, 1, 2] rfl)
set_option maxHeartbeats 4000000 in
set_option maxRecDepth 100000 in
theorem KX0_marksBehind (l : Launch) (D : va_G) (h a : Nat) (cA : ClassId) (f : Nat → Int32) (xs : List Int32) (hok : rw_ok f 200 xs) (pre rest : List Int32) (hxs : xs = pre ++ rest) (i0 : Int32) (hi : i0 + 1 = nI pre.length) : Met l yX0_marksBehind wsX0_marksBehind ({ frames := 1, cells := 0, slots := 0, locals := 21 }) (pcR D [(h, .inr (1, [.ref a, .int (nI xs.length)])), (a, .inl (cA, 200, .inl f))] [(cA, .int)] [.ref h, .int i0]) (vp_Si (fun r => r = nI (lmk rest))) 0 0 (fun _ => False) := by
  refine ofR (cc := cX0_marksBehind) (maxL := 4) (ret := (some .int)) (by decide) rfl (Nat.le_of_ble_eq_true rfl) ?_
  intro p e s m below meth c ls hx hb hr hml hown hts hlocks hP hK hN hl
  have hl : lv_has ls 4 [(0, .ref h), (1, .int i0)] := hl
  refine lv_iconst (v := 0) hx hb dX0_marksBehind_0 (by decide) ?_
  refine lv_istore_n (lv' := [(2, .int 0), (0, .ref h), (1, .int i0)]) hx hb dX0_marksBehind_1 rfl hl (by decide) rfl (fun ls hl => ?_)
  refine lv_iload_n hx hb dX0_marksBehind_2 rfl (lv_at hl 2 rfl) ?_
  refine lv_iconst (v := 1) hx hb dX0_marksBehind_3 (by decide) ?_
  refine lv_iadd hx hb dX0_marksBehind_4 ?_
  refine lv_istore_n (lv' := [(3, .int (i0 + 1)), (2, .int 0), (0, .ref h), (1, .int i0)]) hx hb dX0_marksBehind_5 rfl hl (by decide) rfl (fun ls hl => ?_)
  have loop : ∀ (rs : List Int32) (done : List Int32) (k : Nat) (x2 x3 : Int32) (ls : Array Slot), xs = done ++ rs → x3 = nI done.length → k + lmk rs = lmk rest → x2 = nI k → lv_has ls 4 [(3, .int x3), (2, .int x2), (0, .ref h), (1, .int i0)] → W p l e ({ frames := 1, cells := 0, slots := 0, locals := 21 }) s m ([.ref h, .int i0] : List Value).toArray below meth c s.heap [] 0 0 (MQ below (vp_Si (fun r => r = nI (lmk rest))) ([.ref h, .int i0] : List Value).toArray s 0 0 (fun _ => False)) (F0 m 6 ls [])  := by
    intro rs
    induction rs with
    | nil =>
      intro done k x2 x3 ls hxs2 e3 hp e2 hl
      have hln : xs.length = done.length := by rw [hxs2]; simp
      refine lv_iload_n hx hb dX0_marksBehind_6 rfl (lv_at hl 0 rfl) ?_
      refine lv_aload_n hx hb dX0_marksBehind_7 rfl (lv_at hl 2 rfl) ?_
      refine va_get (D := D) (ci := 1) (v := .int (nI xs.length)) (C := RX0) (T := TX0) (N := 2) hx hb hts (by decide +kernel) hown hK hP 0 rfl rfl 1 (by decide) (hts (.fieldLink RX0 15 "CharacterRows$Codes" "length" "I") (by decide +kernel)) (fun _ h9 => h9) rfl dX0_marksBehind_8 ?_
      refine lv_icmp_ge (tgt := 34) hx hb dX0_marksBehind_11 (by decide) (fun c11_1 => ?_) (fun c11_1 => ?_)
      · skip
        refine lv_iload_n hx hb dX0_marksBehind_34 rfl (lv_at hl 1 rfl) ?_
        exact rtR hx hb hr hlocks dX0_marksBehind_35 (by rw [← hp, e2]; simp [lmk])
      · skip
        exact absurd (by rw [e3, hln]; exact Int32.le_refl _) c11_1
    | cons d t ih =>
      intro done k x2 x3 ls hxs2 e3 hp e2 hl
      have hln : xs.length = done.length + (t.length + 1) := by rw [hxs2]; simp
      have h200 := hok.1
      refine lv_iload_n hx hb dX0_marksBehind_6 rfl (lv_at hl 0 rfl) ?_
      refine lv_aload_n hx hb dX0_marksBehind_7 rfl (lv_at hl 2 rfl) ?_
      refine va_get (D := D) (ci := 1) (v := .int (nI xs.length)) (C := RX0) (T := TX0) (N := 2) hx hb hts (by decide +kernel) hown hK hP 0 rfl rfl 1 (by decide) (hts (.fieldLink RX0 15 "CharacterRows$Codes" "length" "I") (by decide +kernel)) (fun _ h9 => h9) rfl dX0_marksBehind_8 ?_
      refine lv_icmp_ge (tgt := 34) hx hb dX0_marksBehind_11 (by decide) (fun c11_2 => ?_) (fun c11_2 => ?_)
      · skip
        exact absurd c11_2 (by rw [e3, hln]; exact nI_ge (by omega) (by omega))
      · skip
        refine lv_aload_n hx hb dX0_marksBehind_14 rfl (lv_at hl 2 rfl) ?_
        refine lv_iload_n hx hb dX0_marksBehind_15 rfl (lv_at hl 0 rfl) ?_
        refine vp_callSi (W.runV ⟨hx, hb, hml, hown, hts⟩ (KX0_at l D h a cA f xs hok x3) (cwV 1 hts gX0_marksBehind_X0_at rfl rfl rfl (by decide +kernel) ⟨Nat.le_of_ble_eq_true rfl, Nat.le_of_ble_eq_true rfl⟩) (pcR_V (hP.sub (ws' := [(h, .inr (1, [.ref a, .int (nI xs.length)])), (a, .inl (cA, 200, .inl f))]) [0, 1] rfl) (hK.sub (tys' := [(cA, .int)]) [0] rfl) hN 0 rfl rfl) rfl rfl hl.1 rfl (lv_room (Nat.le_of_ble_eq_true rfl)) dX0_marksBehind_16 ⟨Nat.zero_le _, Nat.zero_le _⟩) (fun r9 hr9 => ?_)
        replace hr9 : r9 = d := hr9.trans (by rw [hxs2, e3]; exact rw_at_k rfl (by omega))
        subst r9
        refine vp_callSi ((va_runSN ⟨hx, hb, hml, hown, hts⟩ (KX2_isMark l d) ⟨va_cnB 1 hts gX0_marksBehind_X2_isMark_n27 rfl rfl rfl (nst_at hN 2 rfl) (hts (.initialized RX2) (by decide +kernel)) (by decide +kernel) ⟨Nat.le_of_ble_eq_true rfl, Nat.le_of_ble_eq_true rfl⟩, (hts (.static yX2_isMark) (by decide +kernel)), trivial⟩ pcS_S rfl rfl hl.1 rfl (lv_room (Nat.le_of_ble_eq_true rfl)) dX0_marksBehind_19 ⟨Nat.zero_le _, Nat.zero_le _⟩).run) (fun r9 hr9 => ?_)
        subst r9
        refine lv_if_eq (tgt := 34) hx hb dX0_marksBehind_22 (by decide) (fun c22_1 => ?_) (fun c22_1 => ?_)
        · skip
          refine lv_iload_n hx hb dX0_marksBehind_34 rfl (lv_at hl 1 rfl) ?_
          exact rtR hx hb hr hlocks dX0_marksBehind_35 (by rw [← hp, e2]; simp [lmk, c22_1])
        · skip
          refine lv_iinc (v := (x2 + 1)) (lv' := [(2, .int (x2 + 1)), (3, .int x3), (0, .ref h), (1, .int i0)]) hx hb dX0_marksBehind_25 hl (k := 1) rfl rfl (by decide) rfl (fun ls hl => ?_)
          refine lv_iinc (v := (x3 + 1)) (lv' := [(3, .int (x3 + 1)), (2, .int (x2 + 1)), (0, .ref h), (1, .int i0)]) hx hb dX0_marksBehind_28 hl (k := 1) rfl rfl (by decide) rfl (fun ls hl => ?_)
          refine lv_goto (tgt := 6) hx hb dX0_marksBehind_31 (by decide) ?_
          exact ih (done ++ [d]) (k + 1) _ _ ls (by rw [hxs2]; simp) (by rw [e3, List.length_append]; exact nI_1 _) (by rw [← hp]; simp [lmk, c22_1]; omega) (by rw [e2]; exact nI_1 _) (lv_sub hl [0, 1, 2, 3] rfl)
  exact loop rest pre 0 _ _ ls hxs hi (Nat.zero_add _) rfl (lv_sub hl [0, 1, 2, 3] rfl)
set_option maxHeartbeats 4000000 in
set_option maxRecDepth 100000 in
theorem KX0_holdsWhat (l : Launch) (D : va_G) (h a : Nat) (cA : ClassId) (f : Nat → Int32) (xs : List Int32) (hok : rw_ok f 200 xs) (g b : Nat) (cB : ClassId) (f2 : Nat → Int32) (ys : List Int32) (hok2 : rw_ok f2 200 ys) : Met l yX0_holdsWhat wsX0_holdsWhat ({ frames := 1, cells := 0, slots := 0, locals := 21 }) (pcR D [(h, .inr (1, [.ref a, .int (nI xs.length)])), (a, .inl (cA, 200, .inl f)), (g, .inr (1, [.ref b, .int (nI ys.length)])), (b, .inl (cB, 200, .inl f2))] [(cA, .int), (cB, .int)] [.ref h, .ref g]) (vp_Si (fun r => r = if xs = ys then 1 else 0)) 0 0 (fun _ => False) := by
  refine ofR (cc := cX0_holdsWhat) (maxL := 3) (ret := (some .boolean)) (by decide) rfl (Nat.le_of_ble_eq_true rfl) ?_
  intro p e s m below meth c ls hx hb hr hml hown hts hlocks hP hK hN hl
  have hl : lv_has ls 3 [(0, .ref h), (1, .ref g)] := hl
  refine lv_aload_n hx hb dX0_holdsWhat_0 rfl (lv_at hl 0 rfl) ?_
  refine va_get (D := D) (ci := 1) (v := .int (nI xs.length)) (C := RX0) (T := TX0) (N := 2) hx hb hts (by decide +kernel) hown hK hP 0 rfl rfl 1 (by decide) (hts (.fieldLink RX0 15 "CharacterRows$Codes" "length" "I") (by decide +kernel)) (fun _ h9 => h9) rfl dX0_holdsWhat_1 ?_
  refine lv_aload_n hx hb dX0_holdsWhat_4 rfl (lv_at hl 1 rfl) ?_
  refine va_get (D := D) (ci := 1) (v := .int (nI ys.length)) (C := RX0) (T := TX0) (N := 2) hx hb hts (by decide +kernel) hown hK hP 2 rfl rfl 1 (by decide) (hts (.fieldLink RX0 15 "CharacterRows$Codes" "length" "I") (by decide +kernel)) (fun _ h9 => h9) rfl dX0_holdsWhat_5 ?_
  refine lv_icmp_eq (tgt := 13) hx hb dX0_holdsWhat_8 (by decide) (fun c8_1 => ?_) (fun c8_1 => ?_)
  · skip
    have hle : xs.length = ys.length := (nI_eq (rw_lt hok (by decide)) (rw_lt hok2 (by decide))).mp c8_1
    refine lv_iconst (v := 0) hx hb dX0_holdsWhat_13 (by decide) ?_
    refine lv_istore_n (lv' := [(2, .int 0), (0, .ref h), (1, .ref g)]) hx hb dX0_holdsWhat_14 rfl hl (by decide) rfl (fun ls hl => ?_)
    have loop : ∀ (r1 : List Int32) (r2 done : List Int32) (x2 : Int32) (ls : Array Slot), xs = done ++ r1 → ys = done ++ r2 → x2 = nI done.length → lv_has ls 3 [(2, .int x2), (0, .ref h), (1, .ref g)] → W p l e ({ frames := 1, cells := 0, slots := 0, locals := 21 }) s m ([.ref h, .ref g] : List Value).toArray below meth c s.heap [] 0 0 (MQ below (vp_Si (fun r => r = if xs = ys then 1 else 0)) ([.ref h, .ref g] : List Value).toArray s 0 0 (fun _ => False)) (F0 m 15 ls [])  := by
      intro r1
      induction r1 with
      | nil =>
        intro r2 done x2 ls hxs hys e2 hl
        have hln : xs.length = done.length := by rw [hxs]; simp
        have hln2 : ys.length = done.length + r2.length := by rw [hys]; simp
        obtain rfl : r2 = [] := List.eq_nil_of_length_eq_zero (by omega)
        refine lv_iload_n hx hb dX0_holdsWhat_15 rfl (lv_at hl 0 rfl) ?_
        refine lv_aload_n hx hb dX0_holdsWhat_16 rfl (lv_at hl 1 rfl) ?_
        refine va_get (D := D) (ci := 1) (v := .int (nI xs.length)) (C := RX0) (T := TX0) (N := 2) hx hb hts (by decide +kernel) hown hK hP 0 rfl rfl 1 (by decide) (hts (.fieldLink RX0 15 "CharacterRows$Codes" "length" "I") (by decide +kernel)) (fun _ h9 => h9) rfl dX0_holdsWhat_17 ?_
        refine lv_icmp_ge (tgt := 44) hx hb dX0_holdsWhat_20 (by decide) (fun c20_1 => ?_) (fun c20_1 => ?_)
        · skip
          refine lv_iconst (v := 1) hx hb dX0_holdsWhat_44 (by decide) ?_
          exact rtRz hx hb hr (by decide) hlocks dX0_holdsWhat_45 (by rw [if_pos (by rw [hxs, hys])])
        · skip
          exact absurd (by rw [e2, hln]; exact Int32.le_refl _) c20_1
      | cons d t ih =>
        intro r2 done x2 ls hxs hys e2 hl
        have hln : xs.length = done.length + (t.length + 1) := by rw [hxs]; simp
        have hln2 : ys.length = done.length + r2.length := by rw [hys]; simp
        have h200 := hok.1
        rcases r2 with _ | ⟨d2, r2⟩
        · simp at hln2; omega
        refine lv_iload_n hx hb dX0_holdsWhat_15 rfl (lv_at hl 0 rfl) ?_
        refine lv_aload_n hx hb dX0_holdsWhat_16 rfl (lv_at hl 1 rfl) ?_
        refine va_get (D := D) (ci := 1) (v := .int (nI xs.length)) (C := RX0) (T := TX0) (N := 2) hx hb hts (by decide +kernel) hown hK hP 0 rfl rfl 1 (by decide) (hts (.fieldLink RX0 15 "CharacterRows$Codes" "length" "I") (by decide +kernel)) (fun _ h9 => h9) rfl dX0_holdsWhat_17 ?_
        refine lv_icmp_ge (tgt := 44) hx hb dX0_holdsWhat_20 (by decide) (fun c20_2 => ?_) (fun c20_2 => ?_)
        · skip
          exact absurd c20_2 (by rw [e2, hln]; exact nI_ge (by omega) (by omega))
        · skip
          refine lv_aload_n hx hb dX0_holdsWhat_23 rfl (lv_at hl 1 rfl) ?_
          refine lv_iload_n hx hb dX0_holdsWhat_24 rfl (lv_at hl 0 rfl) ?_
          refine vp_callSi (W.runV ⟨hx, hb, hml, hown, hts⟩ (KX0_at l D h a cA f xs hok x2) (cwV 1 hts gX0_holdsWhat_X0_at rfl rfl rfl (by decide +kernel) ⟨Nat.le_of_ble_eq_true rfl, Nat.le_of_ble_eq_true rfl⟩) (pcR_V (hP.sub (ws' := [(h, .inr (1, [.ref a, .int (nI xs.length)])), (a, .inl (cA, 200, .inl f))]) [0, 1] rfl) (hK.sub (tys' := [(cA, .int)]) [0] rfl) hN 0 rfl rfl) rfl rfl hl.1 rfl (lv_room (Nat.le_of_ble_eq_true rfl)) dX0_holdsWhat_25 ⟨Nat.zero_le _, Nat.zero_le _⟩) (fun r9 hr9 => ?_)
          replace hr9 : r9 = d := hr9.trans (by rw [hxs, e2]; exact rw_at_k rfl (by omega))
          subst r9
          refine lv_aload_n hx hb dX0_holdsWhat_28 rfl (lv_at hl 2 rfl) ?_
          refine lv_iload_n hx hb dX0_holdsWhat_29 rfl (lv_at hl 0 rfl) ?_
          refine vp_callSi (W.runV ⟨hx, hb, hml, hown, hts⟩ (KX0_at l D g b cB f2 ys hok2 x2) (cwV 1 hts gX0_holdsWhat_X0_at rfl rfl rfl (by decide +kernel) ⟨Nat.le_of_ble_eq_true rfl, Nat.le_of_ble_eq_true rfl⟩) (pcR_V (hP.sub (ws' := [(g, .inr (1, [.ref b, .int (nI ys.length)])), (b, .inl (cB, 200, .inl f2))]) [2, 3] rfl) (hK.sub (tys' := [(cB, .int)]) [1] rfl) hN 0 rfl rfl) rfl rfl hl.1 rfl (lv_room (Nat.le_of_ble_eq_true rfl)) dX0_holdsWhat_30 ⟨Nat.zero_le _, Nat.zero_le _⟩) (fun r9 hr9 => ?_)
          replace hr9 : r9 = d2 := hr9.trans (by rw [hys, e2]; exact rw_at_k rfl (by omega))
          subst r9
          refine lv_icmp_eq (tgt := 38) hx hb dX0_holdsWhat_33 (by decide) (fun c33_1 => ?_) (fun c33_1 => ?_)
          · skip
            refine lv_iinc (v := (x2 + 1)) (lv' := [(2, .int (x2 + 1)), (0, .ref h), (1, .ref g)]) hx hb dX0_holdsWhat_38 hl (k := 0) rfl rfl (by decide) rfl (fun ls hl => ?_)
            refine lv_goto (tgt := 15) hx hb dX0_holdsWhat_41 (by decide) ?_
            exact ih r2 (done ++ [d]) _ ls (by rw [hxs]; simp) (by rw [hys, c33_1]; simp) (by rw [e2, List.length_append]; exact nI_1 _) (lv_sub hl [0, 1, 2] rfl)
          · skip
            refine lv_iconst (v := 0) hx hb dX0_holdsWhat_36 (by decide) ?_
            exact rtRz hx hb hr (by decide) hlocks dX0_holdsWhat_37 (by rw [if_neg (fun q => c33_1 (by rw [hxs, hys] at q; simp at q; exact q.1))])
    exact loop xs ys [] _ ls rfl rfl rfl (lv_sub hl [0, 1, 2] rfl)
  · skip
    refine lv_iconst (v := 0) hx hb dX0_holdsWhat_11 (by decide) ?_
    exact rtRz hx hb hr (by decide) hlocks dX0_holdsWhat_12 (by rw [if_neg (fun q => c8_1 (by rw [q]))])
