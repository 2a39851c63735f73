/-! the reference: order -/
set_option maxHeartbeats 4000000 in
set_option maxRecDepth 100000 in
theorem KX3_order (l : Launch) (D : va_G) (a : Nat) (cA : ClassId) (cap : Nat) (hcap0 : cap < 2 ^ 30) (f : Nat → Int32) (xs : List Int32) (hok : rw_ok f cap xs) (sz : Nat) : Met l yX3_order wsX3_order ({ frames := 1, cells := 0, slots := 0, locals := 20 }) (pcM D sz [(a, .inl (cA, cap, .inl f))] [(cA, .int)] [.ref a, .int (nI xs.length)]) (qcV (S := Nat → Int32) D (fun u => rw_ok u cap (ordr xs)) (fun u => [(a, .inl (cA, cap, .inl u))]) (va_A [(a, .inl (cA, cap, .inl f))] sz)) 0 0 (va_A [(a, .inl (cA, cap, .inl f))] sz) := by
  refine ofM (Qc := fun A => qcV (S := Nat → Int32) D (fun u => rw_ok u cap (ordr xs)) (fun u => [(a, .inl (cA, cap, .inl u))]) A) (cc := cX3_order) (maxL := 5) (ret := none) (by decide) rfl (Nat.le_of_ble_eq_true rfl) ?_
  intro p e s m below meth c ls A hx hb hr hml hown hts hlocks hnm hP hK hN hD hA hS hl
  have hl : lv_has ls 5 [(0, .ref a), (1, .int (nI xs.length))] := hl
  have hcap : cap < 2 ^ 31 := by omega
  refine lv_iconst (v := 1) hx hb dX3_order_0 (by decide) ?_
  refine lv_istore_n (lv' := [(2, .int 1), (0, .ref a), (1, .int (nI xs.length))]) hx hb dX3_order_1 rfl hl (by decide) rfl (fun ls hl => ?_)
  have loop : ∀ (n : Nat) (ys : List Int32) (f : Nat → Int32) (x2 : Int32) (H : Heap) (locs : List Loc) (ls : Array Slot), (x2 = 0 → ys = ordr xs) → (¬ x2 = 0 → mu ys < n) → (ordr ys = ordr xs) → (ys.length = xs.length) → (rw_ok f cap ys) → va_P D vwCl [(a, .inl (cA, cap, .inl f))] H → va_D A [(a, .inl (cA, cap, .inl f))] → va_S A s.heap H locs → lv_has ls 5 [(2, .int x2), (0, .ref a), (1, .int (nI xs.length))] → W p l e ({ frames := 1, cells := 0, slots := 0, locals := 20 }) s m ([.ref a, .int (nI xs.length)] : List Value).toArray below meth c H locs 0 0 (MQ below (qcV (S := Nat → Int32) D (fun u => rw_ok u cap (ordr xs)) (fun u => [(a, .inl (cA, cap, .inl u))]) A) ([.ref a, .int (nI xs.length)] : List Value).toArray s 0 0 A) (F0 m 2 ls [])  := by
    intro n
    induction n with
    | zero =>
      intro ys f x2 H locs ls hz hm hO hln hok hP hD hS hl
      refine lv_iload_n hx hb dX3_order_2 rfl (lv_at hl 0 rfl) ?_
      refine lv_if_eq (tgt := 91) hx hb dX3_order_3 (by decide) (fun c3_1 => ?_) (fun c3_1 => ?_)
      · skip
        have e8 := hz c3_1
        rw [e8] at hok
        exact rtV hx hb hr hlocks dX3_order_91 f hok hP hD hS
      · skip
        exact absurd (hm c3_1) (Nat.not_lt_zero _)
    | succ n ih =>
      intro ys f x2 H locs ls hz hm hO hln hok hP hD hS hl
      refine lv_iload_n hx hb dX3_order_2 rfl (lv_at hl 0 rfl) ?_
      refine lv_if_eq (tgt := 91) hx hb dX3_order_3 (by decide) (fun c3_2 => ?_) (fun c3_2 => ?_)
      · skip
        have e8 := hz c3_2
        rw [e8] at hok
        exact rtV hx hb hr hlocks dX3_order_91 f hok hP hD hS
      · skip
        have hm := hm c3_2
        refine lv_iconst (v := 0) hx hb dX3_order_6 (by decide) ?_
        refine lv_istore_n (lv' := [(2, .int 0), (0, .ref a), (1, .int (nI xs.length))]) hx hb dX3_order_7 rfl hl (by decide) rfl (fun ls hl => ?_)
        refine lv_iconst (v := 0) hx hb dX3_order_8 (by decide) ?_
        refine lv_istore_n (lv' := [(3, .int 0), (2, .int 0), (0, .ref a), (1, .int (nI xs.length))]) hx hb dX3_order_9 rfl hl (by decide) rfl (fun ls hl => ?_)
        have loop2 : ∀ (n2 : Nat) (rest done : List Int32) (f : Nat → Int32) (x2 x3 : Int32) (H : Heap) (locs : List Loc) (ls : Array Slot), (rest.length ≤ n2) → (x3 = nI done.length) → (ordr (done ++ rest) = ordr xs) → ((done ++ rest).length = xs.length) → (rw_ok f cap (done ++ rest)) → (mu (done ++ rest) < n + 1) → (¬ x2 = 0 → mu (done ++ rest) < n) → (x2 = 0 → nov (done ++ rest.take 1)) → va_P D vwCl [(a, .inl (cA, cap, .inl f))] H → va_D A [(a, .inl (cA, cap, .inl f))] → va_S A s.heap H locs → lv_has ls 5 [(3, .int x3), (2, .int x2), (0, .ref a), (1, .int (nI xs.length))] → W p l e ({ frames := 1, cells := 0, slots := 0, locals := 20 }) s m ([.ref a, .int (nI xs.length)] : List Value).toArray below meth c H locs 0 0 (MQ below (qcV (S := Nat → Int32) D (fun u => rw_ok u cap (ordr xs)) (fun u => [(a, .inl (cA, cap, .inl u))]) A) ([.ref a, .int (nI xs.length)] : List Value).toArray s 0 0 A) (F0 m 10 ls [])  := by
          intro n2
          induction n2 with
          | zero =>
            intro rest done f x2 x3 H locs ls hn e3 hO hln hok hmu hm2 hz2 hP hD hS hl
            obtain rfl : rest = [] := List.eq_nil_of_length_eq_zero (by omega)
            have hr1 : ([] : List Int32).length ≤ 1 := by simp
            refine lv_iload_n hx hb dX3_order_10 rfl (lv_at hl 0 rfl) ?_
            refine lv_iconst (v := 1) hx hb dX3_order_11 (by decide) ?_
            refine lv_iadd hx hb dX3_order_12 ?_
            refine lv_iload_n hx hb dX3_order_13 rfl (lv_at hl 3 rfl) ?_
            refine lv_icmp_ge (tgt := 88) hx hb dX3_order_14 (by decide) (fun c14_1 => ?_) (fun c14_1 => ?_)
            · skip
              refine lv_goto (tgt := 2) hx hb dX3_order_88 (by decide) ?_
              exact ih _ f _ H locs ls (fun q => by rw [← hO]; exact (ordr_fix (by have := hz2 q; rw [List.take_of_length_le hr1] at this; exact this)).symm) hm2 hO hln hok hP hD hS (lv_sub hl [1, 2, 3] rfl)
            · skip
              exact absurd (by rw [e3, nI_1, ← hln]; exact nI_le (by simp <;> omega) (by have := hok.1; simp at this; omega)) c14_1
          | succ n2 ih2 =>
            intro rest done f x2 x3 H locs ls hn e3 hO hln hok hmu hm2 hz2 hP hD hS hl
            rcases rest with _ | ⟨c0, _ | ⟨d0, t0⟩⟩
            · skip
              have hr1 : ([] : List Int32).length ≤ 1 := by simp
              refine lv_iload_n hx hb dX3_order_10 rfl (lv_at hl 0 rfl) ?_
              refine lv_iconst (v := 1) hx hb dX3_order_11 (by decide) ?_
              refine lv_iadd hx hb dX3_order_12 ?_
              refine lv_iload_n hx hb dX3_order_13 rfl (lv_at hl 3 rfl) ?_
              refine lv_icmp_ge (tgt := 88) hx hb dX3_order_14 (by decide) (fun c14_2 => ?_) (fun c14_2 => ?_)
              · skip
                refine lv_goto (tgt := 2) hx hb dX3_order_88 (by decide) ?_
                exact ih _ f _ H locs ls (fun q => by rw [← hO]; exact (ordr_fix (by have := hz2 q; rw [List.take_of_length_le hr1] at this; exact this)).symm) hm2 hO hln hok hP hD hS (lv_sub hl [1, 2, 3] rfl)
              · skip
                exact absurd (by rw [e3, nI_1, ← hln]; exact nI_le (by simp <;> omega) (by have := hok.1; simp at this; omega)) c14_2
            · skip
              have hr1 : [c0].length ≤ 1 := by simp
              refine lv_iload_n hx hb dX3_order_10 rfl (lv_at hl 0 rfl) ?_
              refine lv_iconst (v := 1) hx hb dX3_order_11 (by decide) ?_
              refine lv_iadd hx hb dX3_order_12 ?_
              refine lv_iload_n hx hb dX3_order_13 rfl (lv_at hl 3 rfl) ?_
              refine lv_icmp_ge (tgt := 88) hx hb dX3_order_14 (by decide) (fun c14_3 => ?_) (fun c14_3 => ?_)
              · skip
                refine lv_goto (tgt := 2) hx hb dX3_order_88 (by decide) ?_
                exact ih _ f _ H locs ls (fun q => by rw [← hO]; exact (ordr_fix (by have := hz2 q; rw [List.take_of_length_le hr1] at this; exact this)).symm) hm2 hO hln hok hP hD hS (lv_sub hl [1, 2, 3] rfl)
              · skip
                exact absurd (by rw [e3, nI_1, ← hln]; exact nI_le (by simp <;> omega) (by have := hok.1; simp at this; omega)) c14_3
            · skip
              have hle : done.length + t0.length + 2 ≤ cap := by have := hok.1; simp at this; omega
              refine lv_iload_n hx hb dX3_order_10 rfl (lv_at hl 0 rfl) ?_
              refine lv_iconst (v := 1) hx hb dX3_order_11 (by decide) ?_
              refine lv_iadd hx hb dX3_order_12 ?_
              refine lv_iload_n hx hb dX3_order_13 rfl (lv_at hl 3 rfl) ?_
              refine lv_icmp_ge (tgt := 88) hx hb dX3_order_14 (by decide) (fun c14_4 => ?_) (fun c14_4 => ?_)
              · skip
                exact absurd c14_4 (by rw [e3, nI_1, ← hln]; exact nI_ge (by simp) (by have := hok.1; omega))
              · skip
                refine lv_aload_n hx hb dX3_order_17 rfl (lv_at hl 2 rfl) ?_
                refine lv_iload_n hx hb dX3_order_18 rfl (lv_at hl 0 rfl) ?_
                refine va_iald hx hb hK hP 0 0 rfl rfl (rwf_in (l := done) (r := (c0 :: d0 :: t0)) (j := 0) hok hcap rfl e3 rfl (by simp)) dX3_order_19 ?_
                refine lv_topi (fun r9 hr9 => ?_)
                replace hr9 : r9 = c0 := hr9.trans (rwf_v (l := done) (r := (c0 :: d0 :: t0)) (j := 0) hok hcap rfl e3 rfl (by simp))
                subst r9
                refine vp_callSi (W.runS ⟨hx, hb, hml, hown, hts⟩ (KX3_isMark l c0) (va_cwS 1 hts gX3_order_X3_isMark rfl rfl rfl (by decide +kernel) ⟨Nat.le_of_ble_eq_true rfl, Nat.le_of_ble_eq_true rfl⟩) pcS_S rfl rfl hl.1 rfl (lv_room (Nat.le_of_ble_eq_true rfl)) dX3_order_20 ⟨Nat.zero_le _, Nat.zero_le _⟩) (fun r9 hr9 => ?_)
                replace hr9 : r9 = fX2_isMark c0 := hr9.trans (x3_isMark _)
                subst r9
                refine lv_if_eq (tgt := 82) hx hb dX3_order_23 (by decide) (fun c23_1 => ?_) (fun c23_1 => ?_)
                · skip
                  refine lv_iinc (v := (x3 + 1)) (lv' := [(3, .int (x3 + 1)), (2, .int x2), (0, .ref a), (1, .int (nI xs.length))]) hx hb dX3_order_82 hl (k := 0) rfl rfl (by decide) rfl (fun ls hl => ?_)
                  refine lv_goto (tgt := 10) hx hb dX3_order_85 (by decide) ?_
                  have e5 : done ++ c0 :: d0 :: t0 = (done ++ [c0]) ++ d0 :: t0 := by simp
                  rw [e5] at hO hln hok hmu hm2
                  exact ih2 (d0 :: t0) (done ++ [c0]) f _ _ H locs ls (by simp at hn ⊢; omega) (by rw [e3, List.length_append]; exact nI_1 _) hO hln hok hmu hm2 (fun q => nov_snoc (Or.inl c23_1) done (hz2 q)) hP hD hS (lv_sub hl [0, 1, 2, 3] rfl)
                · skip
                  refine lv_aload_n hx hb dX3_order_26 rfl (lv_at hl 2 rfl) ?_
                  refine lv_iload_n hx hb dX3_order_27 rfl (lv_at hl 0 rfl) ?_
                  refine lv_iconst (v := 1) hx hb dX3_order_28 (by decide) ?_
                  refine lv_iadd hx hb dX3_order_29 ?_
                  refine va_iald hx hb hK hP 0 0 rfl rfl (rwf_in (l := done) (r := (c0 :: d0 :: t0)) (j := 1) hok hcap rfl (by rw [e3, nI_1]) rfl (by simp)) dX3_order_30 ?_
                  refine lv_topi (fun r9 hr9 => ?_)
                  replace hr9 : r9 = d0 := hr9.trans (rwf_v (l := done) (r := (c0 :: d0 :: t0)) (j := 1) hok hcap rfl (by rw [e3, nI_1]) rfl (by simp))
                  subst r9
                  refine vp_callSi (W.runS ⟨hx, hb, hml, hown, hts⟩ (KX3_isMark l d0) (va_cwS 1 hts gX3_order_X3_isMark rfl rfl rfl (by decide +kernel) ⟨Nat.le_of_ble_eq_true rfl, Nat.le_of_ble_eq_true rfl⟩) pcS_S rfl rfl hl.1 rfl (lv_room (Nat.le_of_ble_eq_true rfl)) dX3_order_31 ⟨Nat.zero_le _, Nat.zero_le _⟩) (fun r9 hr9 => ?_)
                  replace hr9 : r9 = fX2_isMark d0 := hr9.trans (x3_isMark _)
                  subst r9
                  refine lv_if_eq (tgt := 82) hx hb dX3_order_34 (by decide) (fun c34_1 => ?_) (fun c34_1 => ?_)
                  · skip
                    refine lv_iinc (v := (x3 + 1)) (lv' := [(3, .int (x3 + 1)), (2, .int x2), (0, .ref a), (1, .int (nI xs.length))]) hx hb dX3_order_82 hl (k := 0) rfl rfl (by decide) rfl (fun ls hl => ?_)
                    refine lv_goto (tgt := 10) hx hb dX3_order_85 (by decide) ?_
                    have e5 : done ++ c0 :: d0 :: t0 = (done ++ [c0]) ++ d0 :: t0 := by simp
                    rw [e5] at hO hln hok hmu hm2
                    exact ih2 (d0 :: t0) (done ++ [c0]) f _ _ H locs ls (by simp at hn ⊢; omega) (by rw [e3, List.length_append]; exact nI_1 _) hO hln hok hmu hm2 (fun q => nov_snoc (Or.inr (Or.inl c34_1)) done (hz2 q)) hP hD hS (lv_sub hl [0, 1, 2, 3] rfl)
                  · skip
                    refine lv_aload_n hx hb dX3_order_37 rfl (lv_at hl 2 rfl) ?_
                    refine lv_iload_n hx hb dX3_order_38 rfl (lv_at hl 0 rfl) ?_
                    refine va_iald hx hb hK hP 0 0 rfl rfl (rwf_in (l := done) (r := (c0 :: d0 :: t0)) (j := 0) hok hcap rfl e3 rfl (by simp)) dX3_order_39 ?_
                    refine lv_topi (fun r9 hr9 => ?_)
                    replace hr9 : r9 = c0 := hr9.trans (rwf_v (l := done) (r := (c0 :: d0 :: t0)) (j := 0) hok hcap rfl e3 rfl (by simp))
                    subst r9
                    refine lv_sipush (v := 768) hx hb dX3_order_40 (by decide) ?_
                    refine lv_isub hx hb dX3_order_43 ?_
                    refine lv_iconst (v := 5) hx hb dX3_order_44 (by decide) ?_
                    refine lv_idiv hx hb dX3_order_45 (by decide) ?_
                    refine lv_aload_n hx hb dX3_order_46 rfl (lv_at hl 2 rfl) ?_
                    refine lv_iload_n hx hb dX3_order_47 rfl (lv_at hl 0 rfl) ?_
                    refine lv_iconst (v := 1) hx hb dX3_order_48 (by decide) ?_
                    refine lv_iadd hx hb dX3_order_49 ?_
                    refine va_iald hx hb hK hP 0 0 rfl rfl (rwf_in (l := done) (r := (c0 :: d0 :: t0)) (j := 1) hok hcap rfl (by rw [e3, nI_1]) rfl (by simp)) dX3_order_50 ?_
                    refine lv_topi (fun r9 hr9 => ?_)
                    replace hr9 : r9 = d0 := hr9.trans (rwf_v (l := done) (r := (c0 :: d0 :: t0)) (j := 1) hok hcap rfl (by rw [e3, nI_1]) rfl (by simp))
                    subst r9
                    refine lv_sipush (v := 768) hx hb dX3_order_51 (by decide) ?_
                    refine lv_isub hx hb dX3_order_54 ?_
                    refine lv_iconst (v := 5) hx hb dX3_order_55 (by decide) ?_
                    refine lv_idiv hx hb dX3_order_56 (by decide) ?_
                    refine lv_icmp_le (tgt := 82) hx hb dX3_order_57 (by decide) (fun c57_1 => ?_) (fun c57_1 => ?_)
                    · skip
                      refine lv_iinc (v := (x3 + 1)) (lv' := [(3, .int (x3 + 1)), (2, .int x2), (0, .ref a), (1, .int (nI xs.length))]) hx hb dX3_order_82 hl (k := 0) rfl rfl (by decide) rfl (fun ls hl => ?_)
                      refine lv_goto (tgt := 10) hx hb dX3_order_85 (by decide) ?_
                      have e5 : done ++ c0 :: d0 :: t0 = (done ++ [c0]) ++ d0 :: t0 := by simp
                      rw [e5] at hO hln hok hmu hm2
                      exact ih2 (d0 :: t0) (done ++ [c0]) f _ _ H locs ls (by simp at hn ⊢; omega) (by rw [e3, List.length_append]; exact nI_1 _) hO hln hok hmu hm2 (fun q => nov_snoc (Or.inr (Or.inr c57_1)) done (hz2 q)) hP hD hS (lv_sub hl [0, 1, 2, 3] rfl)
                    · skip
                      refine lv_aload_n hx hb dX3_order_60 rfl (lv_at hl 2 rfl) ?_
                      refine lv_iload_n hx hb dX3_order_61 rfl (lv_at hl 0 rfl) ?_
                      refine va_iald hx hb hK hP 0 0 rfl rfl (rwf_in (l := done) (r := (c0 :: d0 :: t0)) (j := 0) hok hcap rfl e3 rfl (by simp)) dX3_order_62 ?_
                      refine lv_topi (fun r9 hr9 => ?_)
                      replace hr9 : r9 = c0 := hr9.trans (rwf_v (l := done) (r := (c0 :: d0 :: t0)) (j := 0) hok hcap rfl e3 rfl (by simp))
                      subst r9
                      refine lv_istore (lv' := [(4, .int c0), (3, .int x3), (2, .int x2), (0, .ref a), (1, .int (nI xs.length))]) hx hb dX3_order_63 hl (by decide) rfl (fun ls hl => ?_)
                      refine lv_aload_n hx hb dX3_order_65 rfl (lv_at hl 3 rfl) ?_
                      refine lv_iload_n hx hb dX3_order_66 rfl (lv_at hl 1 rfl) ?_
                      refine lv_aload_n hx hb dX3_order_67 rfl (lv_at hl 3 rfl) ?_
                      refine lv_iload_n hx hb dX3_order_68 rfl (lv_at hl 1 rfl) ?_
                      refine lv_iconst (v := 1) hx hb dX3_order_69 (by decide) ?_
                      refine lv_iadd hx hb dX3_order_70 ?_
                      refine va_iald hx hb hK hP 0 0 rfl rfl (rwf_in (l := done) (r := (c0 :: d0 :: t0)) (j := 1) hok hcap rfl (by rw [e3, nI_1]) rfl (by simp)) dX3_order_71 ?_
                      refine lv_topi (fun r9 hr9 => ?_)
                      replace hr9 : r9 = d0 := hr9.trans (rwf_v (l := done) (r := (c0 :: d0 :: t0)) (j := 1) hok hcap rfl (by rw [e3, nI_1]) rfl (by simp))
                      subst r9
                      refine va_iast hx hb hK hP hD hS 0 0 rfl rfl (rwf_in (l := done) (r := (c0 :: d0 :: t0)) (j := 0) hok hcap rfl e3 rfl (by simp)) dX3_order_72 (fun H locs hP hD hS => ?_)
                      have hP : va_P D vwCl [(a, .inl (cA, cap, .inl (upd f x3.toNatClampNeg d0)))] H := hP
                      have hD : va_D A [(a, .inl (cA, cap, .inl (upd f x3.toNatClampNeg d0)))] := hD
                      refine lv_aload_n hx hb dX3_order_73 rfl (lv_at hl 3 rfl) ?_
                      refine lv_iload_n hx hb dX3_order_74 rfl (lv_at hl 1 rfl) ?_
                      refine lv_iconst (v := 1) hx hb dX3_order_75 (by decide) ?_
                      refine lv_iadd hx hb dX3_order_76 ?_
                      refine lv_iload hx hb dX3_order_77 (lv_at hl 0 rfl) ?_
                      refine va_iast hx hb hK hP hD hS 0 0 rfl rfl (rwf_in (l := done) (r := (c0 :: d0 :: t0)) (j := 1) hok hcap rfl (by rw [e3, nI_1]) rfl (by simp)) dX3_order_79 (fun H locs hP hD hS => ?_)
                      have hP : va_P D vwCl [(a, .inl (cA, cap, .inl (upd (upd f x3.toNatClampNeg d0) (x3 + 1).toNatClampNeg c0)))] H := hP
                      have hD : va_D A [(a, .inl (cA, cap, .inl (upd (upd f x3.toNatClampNeg d0) (x3 + 1).toNatClampNeg c0)))] := hD
                      refine lv_iconst (v := 1) hx hb dX3_order_80 (by decide) ?_
                      refine lv_istore_n (lv' := [(2, .int 1), (4, .int c0), (3, .int x3), (0, .ref a), (1, .int (nI xs.length))]) hx hb dX3_order_81 rfl hl (by decide) rfl (fun ls hl => ?_)
                      refine lv_iinc (v := (x3 + 1)) (lv' := [(3, .int (x3 + 1)), (2, .int 1), (4, .int c0), (0, .ref a), (1, .int (nI xs.length))]) hx hb dX3_order_82 hl (k := 2) rfl rfl (by decide) rfl (fun ls hl => ?_)
                      refine lv_goto (tgt := 10) hx hb dX3_order_85 (by decide) ?_
                      have hs1 := wt_lt c23_1 c34_1 c57_1
                      have hok8 : rw_ok (upd (upd f x3.toNatClampNeg d0) (x3 + 1).toNatClampNeg c0) cap (done ++ [d0] ++ c0 :: t0) := by
                        have q1 := rwf_set (c := d0) hok hcap e3
                        have e5 : done ++ d0 :: d0 :: t0 = (done ++ [d0]) ++ d0 :: t0 := by simp
                        rw [e5] at q1
                        exact rwf_set (c := c0) q1 hcap (by rw [e3, nI_1]; simp)
                      exact ih2 (c0 :: t0) (done ++ [d0]) (upd (upd f x3.toNatClampNeg d0) (x3 + 1).toNatClampNeg c0) _ _ H locs ls (by simp at hn ⊢; omega) (by rw [e3, List.length_append]; exact nI_1 _) (by rw [← hO]; simp [ordr_swap c23_1 c34_1 c57_1]) (by rw [← hln]; simp) hok8 (by have := mu_swap hs1 t0 done; simp; omega) (fun _ => by have := mu_swap hs1 t0 done; simp; omega) (fun q => absurd q (by decide)) hP hD hS (lv_sub hl [0, 1, 3, 4] rfl)
        exact loop2 ys.length ys [] f _ _ _ _ ls (Nat.le_refl _) rfl hO hln hok hm (fun q => absurd rfl q) (fun _ => by rcases ys with _ | ⟨y, t⟩ <;> exact trivial) hP hD hS (lv_sub hl [0, 1, 2, 3] rfl)
  exact loop (mu xs + 1) xs f _ _ _ ls (fun q => absurd q (by decide)) (fun _ => Nat.lt_succ_self _) rfl rfl hok hP hD hS (lv_sub hl [0, 1, 2] rfl)
