/-! the reference: find -/
set_option maxHeartbeats 4000000 in
set_option maxRecDepth 100000 in
theorem KX3_find (l : Launch) (a0 : Int32) : Met l yX3_find wsX3_find ({ frames := 1, cells := 0, slots := 0, locals := 21 }) (pcS [.int a0]) (vp_Si (fun r => r = fX3_find a0)) 0 0 (fun _ => False) := by
  refine ofS (cc := cX3_find) (maxL := 3) (ret := (some .int)) (by decide) rfl (Nat.le_of_ble_eq_true rfl) ?_
  intro p e s m below meth c ls hx hb hr hml hown hts hlocks hl
  have hl : lv_has ls 3 [(0, .int a0)] := hl
  refine lv_iconst (v := 0) hx hb dX3_find_0 (by decide) ?_
  refine lv_istore_n (lv' := [(1, .int 0), (0, .int a0)]) hx hb dX3_find_1 rfl hl (by decide) rfl (fun ls hl => ?_)
  have loop : ∀ (n : Nat) (t9 : Nat) (x1 : Int32) (ls : Array Slot), (t9 + n = 3) → (x1 = nI t9) → (∀ s9, s9 < t9 → ∀ i9, i9 < 94 → (a0 = 0 ∨ ¬ fX3_placed (nI s9) (nI i9) = a0)) → lv_has ls 3 [(1, .int x1), (0, .int a0)] → W p l e ({ frames := 1, cells := 0, slots := 0, locals := 21 }) s m ([.int a0] : List Value).toArray below meth c s.heap [] 0 0 (MQ below (vp_Si (fun r => r = fX3_find a0)) ([.int a0] : List Value).toArray s 0 0 (fun _ => False)) (F0 m 2 ls [])  := by
    intro n
    induction n with
    | zero =>
      intro t9 x1 ls hs e1 hno hl
      obtain rfl : t9 = 3 := by omega
      refine lv_iload_n hx hb dX3_find_2 rfl (lv_at hl 0 rfl) ?_
      refine lv_iconst (v := 3) hx hb dX3_find_3 (by decide) ?_
      refine lv_icmp_ge (tgt := 47) hx hb dX3_find_4 (by decide) (fun c4_1 => ?_) (fun c4_1 => ?_)
      · skip
        refine lv_iconst (v := (-1)) hx hb dX3_find_47 (by decide) ?_
        exact rtR hx hb hr hlocks dX3_find_48 (fnd_miss hno)
      · skip
        exact absurd (by rw [e1]; decide) c4_1
    | succ n ih =>
      intro t9 x1 ls hs e1 hno hl
      refine lv_iload_n hx hb dX3_find_2 rfl (lv_at hl 0 rfl) ?_
      refine lv_iconst (v := 3) hx hb dX3_find_3 (by decide) ?_
      refine lv_icmp_ge (tgt := 47) hx hb dX3_find_4 (by decide) (fun c4_2 => ?_) (fun c4_2 => ?_)
      · skip
        exact absurd c4_2 (by rw [e1]; exact nI_ge (a := t9) (b := 3) (by omega) (by decide))
      · skip
        refine lv_iconst (v := 0) hx hb dX3_find_7 (by decide) ?_
        refine lv_istore_n (lv' := [(2, .int 0), (1, .int x1), (0, .int a0)]) hx hb dX3_find_8 rfl hl (by decide) rfl (fun ls hl => ?_)
        have loop2 : ∀ (n2 : Nat) (k9 : Nat) (x2 : Int32) (ls : Array Slot), (k9 + n2 = 94) → (x2 = nI k9) → (∀ i9, i9 < k9 → (a0 = 0 ∨ ¬ fX3_placed (nI t9) (nI i9) = a0)) → lv_has ls 3 [(2, .int x2), (1, .int x1), (0, .int a0)] → W p l e ({ frames := 1, cells := 0, slots := 0, locals := 21 }) s m ([.int a0] : List Value).toArray below meth c s.heap [] 0 0 (MQ below (vp_Si (fun r => r = fX3_find a0)) ([.int a0] : List Value).toArray s 0 0 (fun _ => False)) (F0 m 9 ls [])  := by
          intro n2
          induction n2 with
          | zero =>
            intro k9 x2 ls hi e2 hni hl
            obtain rfl : k9 = 94 := by omega
            refine lv_iload_n hx hb dX3_find_9 rfl (lv_at hl 0 rfl) ?_
            refine lv_bipush (v := 94) hx hb dX3_find_10 (by decide) ?_
            refine lv_icmp_ge (tgt := 41) hx hb dX3_find_12 (by decide) (fun c12_1 => ?_) (fun c12_1 => ?_)
            · skip
              refine lv_iinc (v := (x1 + 1)) (lv' := [(1, .int (x1 + 1)), (2, .int x2), (0, .int a0)]) hx hb dX3_find_41 hl (k := 1) rfl rfl (by decide) rfl (fun ls hl => ?_)
              refine lv_goto (tgt := 2) hx hb dX3_find_44 (by decide) ?_
              exact ih (t9 + 1) _ ls (by omega) (by rw [e1]; exact nI_1 _) (fun s9 h9 => by rcases Nat.lt_or_ge s9 t9 with q | q; exact hno s9 q; obtain rfl : s9 = t9 := (by omega); exact fun i9 hi9 => hni i9 (by omega)) (lv_sub hl [0, 2] rfl)
            · skip
              exact absurd (by rw [e2]; decide) c12_1
          | succ n2 ih2 =>
            intro k9 x2 ls hi e2 hni hl
            refine lv_iload_n hx hb dX3_find_9 rfl (lv_at hl 0 rfl) ?_
            refine lv_bipush (v := 94) hx hb dX3_find_10 (by decide) ?_
            refine lv_icmp_ge (tgt := 41) hx hb dX3_find_12 (by decide) (fun c12_2 => ?_) (fun c12_2 => ?_)
            · skip
              exact absurd c12_2 (by rw [e2]; exact nI_ge (a := k9) (b := 94) (by omega) (by decide))
            · skip
              refine lv_iload_n hx hb dX3_find_15 rfl (lv_at hl 2 rfl) ?_
              refine lv_if_eq (tgt := 35) hx hb dX3_find_16 (by decide) (fun c16_1 => ?_) (fun c16_1 => ?_)
              · skip
                refine lv_iinc (v := (x2 + 1)) (lv' := [(2, .int (x2 + 1)), (1, .int x1), (0, .int a0)]) hx hb dX3_find_35 hl (k := 0) rfl rfl (by decide) rfl (fun ls hl => ?_)
                refine lv_goto (tgt := 9) hx hb dX3_find_38 (by decide) ?_
                exact ih2 (k9 + 1) _ ls (by omega) (by rw [e2]; exact nI_1 _) (fun i9 h9 => by rcases Nat.lt_or_ge i9 k9 with q | q; exact hni i9 q; obtain rfl : i9 = k9 := (by omega); exact Or.inl c16_1) (lv_sub hl [0, 1, 2] rfl)
              · skip
                refine lv_iload_n hx hb dX3_find_19 rfl (lv_at hl 1 rfl) ?_
                refine lv_iload_n hx hb dX3_find_20 rfl (lv_at hl 0 rfl) ?_
                refine vp_callSi (W.runS ⟨hx, hb, hml, hown, hts⟩ (KX3_placed l x1 x2) (va_cwS 2 hts gX3_find_X3_placed rfl rfl rfl (by decide +kernel) ⟨Nat.le_of_ble_eq_true rfl, Nat.le_of_ble_eq_true rfl⟩) pcS_S rfl rfl hl.1 rfl (lv_room (Nat.le_of_ble_eq_true rfl)) dX3_find_21 ⟨Nat.zero_le _, Nat.zero_le _⟩) (fun r9 hr9 => ?_)
                subst r9
                refine lv_iload_n hx hb dX3_find_24 rfl (lv_at hl 2 rfl) ?_
                refine lv_icmp_ne (tgt := 35) hx hb dX3_find_25 (by decide) (fun c25_1 => ?_) (fun c25_1 => ?_)
                · skip
                  refine lv_iinc (v := (x2 + 1)) (lv' := [(2, .int (x2 + 1)), (1, .int x1), (0, .int a0)]) hx hb dX3_find_35 hl (k := 0) rfl rfl (by decide) rfl (fun ls hl => ?_)
                  refine lv_goto (tgt := 9) hx hb dX3_find_38 (by decide) ?_
                  exact ih2 (k9 + 1) _ ls (by omega) (by rw [e2]; exact nI_1 _) (fun i9 h9 => by rcases Nat.lt_or_ge i9 k9 with q | q; exact hni i9 q; obtain rfl : i9 = k9 := (by omega); exact Or.inr (by rw [e1, e2] at c25_1; exact c25_1)) (lv_sub hl [0, 1, 2] rfl)
                · skip
                  refine lv_bipush (v := 100) hx hb dX3_find_28 (by decide) ?_
                  refine lv_iload_n hx hb dX3_find_30 rfl (lv_at hl 1 rfl) ?_
                  refine lv_imul hx hb dX3_find_31 ?_
                  refine lv_iload_n hx hb dX3_find_32 rfl (lv_at hl 0 rfl) ?_
                  refine lv_iadd hx hb dX3_find_33 ?_
                  exact rtR hx hb hr hlocks dX3_find_34 (by rw [e1, e2] at c25_1; rw [e1, e2]; exact fnd_hit c16_1 (by omega) (by omega) c25_1)
        exact loop2 94 0 _ ls rfl rfl (fun s9 h9 => absurd h9 (Nat.not_lt_zero _)) (lv_sub hl [0, 1, 2] rfl)
  exact loop 3 0 _ ls rfl rfl (fun s9 h9 => absurd h9 (Nat.not_lt_zero _)) (lv_sub hl [0, 1] rfl)
