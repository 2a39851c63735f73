/-! the reference's pieces: its static ones answer as the class' do; find; arrays by lists -/
theorem x3_isMark (c : Int32) : fX3_isMark c = fX2_isMark c := by
  have e : (782 < c) ↔ (783 ≤ c) := by
    rw [Int32.le_iff_toInt_le, Int32.lt_iff_toInt_lt, show (782 : Int32).toInt = 782 by decide, show (783 : Int32).toInt = 783 by decide]; omega
  unfold fX3_isMark fX2_isMark
  simp only [e]
theorem x3_isPlain (c : Int32) : fX3_isPlain c = fX2_isPlain c := rfl
theorem x3_letterOf (c : Int32) : fX3_letterOf c = fX2_letterOf c := rfl
theorem x3_markOf (c : Int32) : fX3_markOf c = fX2_markOf c := by
  unfold fX3_markOf fX2_markOf
  exact Int32.add_comm _ _
theorem i32_nlt {a b : Int32} : ¬ a < b ↔ b ≤ a := by rw [Int32.le_iff_toInt_le, Int32.lt_iff_toInt_lt]; omega
theorem i32_nle {a b : Int32} : ¬ a ≤ b ↔ b < a := by rw [Int32.le_iff_toInt_le, Int32.lt_iff_toInt_lt]; omega
theorem x3_isLetter (c : Int32) : fX3_isLetter c = fX2_isLetter c := by
  unfold fX3_isLetter fX2_isLetter fX2_isCapital
  by_cases h1 : c < 65
  · simp [h1]
  · by_cases h2 : c ≤ 90
    · have h3 : ¬ 90 < c := fun q => i32_nle.mpr q h2
      simp [h1, h2, h3]
    · have h3 : 90 < c := i32_nle.mp h2
      simp [h1, h2, h3]
theorem x3_isComposed (c : Int32) : fX3_isComposed c = fX2_isComposed c := by
  unfold fX3_isComposed fX2_isComposed
  simp only [x3_isLetter]
  rfl
def fX3_find (c : Int32) : Int32 := if fX2_setOf c = -1 then -1 else 100 * fX2_setOf c + fX2_placeInSet c
set_option maxRecDepth 100000 in
theorem plc_hit : ∀ s, s < 3 → ∀ i, i < 94 → fX3_placed (nI s) (nI i) = 0 ∨ (fX2_setOf (fX3_placed (nI s) (nI i)) = nI s ∧ fX2_placeInSet (fX3_placed (nI s) (nI i)) = nI i) := by decide +kernel
set_option maxRecDepth 100000 in
theorem plc_all : ∀ j, j < 1104 → fX2_setOf (nI j) = -1 ∨ (∃ s, s < 3 ∧ fX2_setOf (nI j) = nI s ∧ ∃ i, i < 94 ∧ fX2_placeInSet (nI j) = nI i ∧ fX3_placed (nI s) (nI i) = nI j ∧ ¬ nI j = 0) := by decide +kernel
theorem set_lo {c : Int32} (h : c < 192) : fX2_setOf c = -1 := by
  have h1 : c < 768 := by rw [Int32.lt_iff_toInt_lt] at h ⊢; have : (192 : Int32).toInt = 192 := by decide
                          have : (768 : Int32).toInt = 768 := by decide
                          omega
  have h2 : c < 913 := by rw [Int32.lt_iff_toInt_lt] at h ⊢; have : (192 : Int32).toInt = 192 := by decide
                          have : (913 : Int32).toInt = 913 := by decide
                          omega
  have h3 : c < 1040 := by rw [Int32.lt_iff_toInt_lt] at h ⊢; have : (192 : Int32).toInt = 192 := by decide
                           have : (1040 : Int32).toInt = 1040 := by decide
                           omega
  unfold fX2_setOf fX2_isLatin fX2_isMark fX2_isGreek fX2_isCyrillic
  simp [h, h1, h2, h3]
theorem set_hi {c : Int32} (h : 1104 ≤ c) : fX2_setOf c = -1 := by
  have q : ∀ k : Nat, k ≤ 1104 → nI k ≤ c := fun k hk => by
    rw [Int32.le_iff_toInt_le] at h ⊢
    rw [nI_toInt (by omega)]
    have : (1104 : Int32).toInt = 1104 := by decide
    omega
  have h1 : (222 : Int32) ≤ c := q 222 (by decide)
  have h2 : (783 : Int32) ≤ c := q 783 (by decide)
  have h3 : (970 : Int32) ≤ c := q 970 (by decide)
  have h4 : (1104 : Int32) ≤ c := h
  unfold fX2_setOf fX2_isLatin fX2_isMark fX2_isGreek fX2_isCyrillic
  simp [h1, h2, h3, h4]
theorem set_cases (c : Int32) : fX2_setOf c = -1 ∨ ∃ j s i, c = nI j ∧ s < 3 ∧ i < 94 ∧ fX2_setOf c = nI s ∧ fX2_placeInSet c = nI i ∧ fX3_placed (nI s) (nI i) = c ∧ ¬ c = 0 ∧ 192 ≤ j ∧ j < 1104 := by
  by_cases h1 : c < 192
  · exact Or.inl (set_lo h1)
  · by_cases h2 : 1104 ≤ c
    · exact Or.inl (set_hi h2)
    · have h1' := i32_nlt.mp h1
      have h2' := i32_nle.mp h2
      have h0 : ¬ c < 0 := by
        rw [Int32.lt_iff_toInt_lt] at *
        rw [Int32.le_iff_toInt_le] at *
        have : (192 : Int32).toInt = 192 := by decide
        have : (0 : Int32).toInt = 0 := by decide
        omega
      obtain ⟨j, hj, rfl⟩ := nI_of h0
      have hj1 : 192 ≤ j := (nI_leI (a := 192) (by decide) hj).mp h1'
      have hj2 : j < 1104 := (nI_ltI (b := 1104) hj (by decide)).mp h2'
      rcases plc_all j hj2 with q | ⟨s, hs, e1, i, hi, e2, e3, e4⟩
      · exact Or.inl q
      · exact Or.inr ⟨j, s, i, rfl, hs, hi, e1, e2, e3, e4, hj1, hj2⟩
theorem fnd_hit {c : Int32} {s i : Nat} (h0 : ¬ c = 0) (hs : s < 3) (hi : i < 94) (h : fX3_placed (nI s) (nI i) = c) : 100 * nI s + nI i = fX3_find c := by
  rcases plc_hit s hs i hi with q | ⟨q1, q2⟩
  · exact absurd (h.symm.trans q) h0
  · rw [h] at q1 q2
    unfold fX3_find
    rw [if_neg, q1, q2]
    rw [q1]
    intro q
    have := congrArg Int32.toInt q
    rw [nI_toInt (by omega)] at this
    have e : (-1 : Int32).toInt = -1 := by decide
    omega
theorem fnd_miss {c : Int32} (h : ∀ s, s < 3 → ∀ i, i < 94 → (c = 0 ∨ ¬ fX3_placed (nI s) (nI i) = c)) : -1 = fX3_find c := by
  unfold fX3_find
  rcases set_cases c with q | ⟨j, s, i, e, hs, hi, e1, e2, e3, e4, _, _⟩
  · rw [if_pos q]
  · rcases h s hs i hi with q | q
    · exact absurd q e4
    · exact absurd e3 q
/-- an array by its list: an element, a place in range, one more at the end -/
theorem rwf_in {f : Nat → Int32} {cap j k : Nat} {xs l r : List Int32} {x : Int32} (hok : rw_ok f cap xs) (hc : cap < 2 ^ 31) (hxs : xs = l ++ r) (hx : x = nI k) (hk : l.length + j = k) (hj : j < r.length) : vp_in x cap := by
  subst hx
  have := hok.1
  rw [hxs, List.length_append] at this
  exact vp_in_nI (by omega) hc
theorem rwf_v {f : Nat → Int32} {cap j k : Nat} {xs l r : List Int32} {x : Int32} (hok : rw_ok f cap xs) (hc : cap < 2 ^ 31) (hxs : xs = l ++ r) (hx : x = nI k) (hk : l.length + j = k) (hj : j < r.length) : f x.toNatClampNeg = gd r j := by
  subst hx
  have h1 := hok.1
  rw [hxs, List.length_append] at h1
  rw [nI_clamp (by omega), hok.2 k (by rw [hxs, List.length_append]; omega), hxs, ← hk]
  simp [gd, List.getD, List.getElem?_append_right, List.getElem?_eq_getElem hj]
theorem rwf_snoc {f : Nat → Int32} {cap : Nat} {xs : List Int32} {x c : Int32} (hok : rw_ok f cap xs) (hc : cap < 2 ^ 31) (hx : x = nI xs.length) (h : xs.length < cap) : rw_ok (upd f x.toNatClampNeg c) cap (xs ++ [c]) := by
  subst hx
  have q := rw_add_yes (c := c) hok hc (nI_ge h hc)
  rw [← q.2.1]
  exact q.2.2.2
theorem rwf_sin {f : Nat → Int32} {cap : Nat} {xs : List Int32} {x : Int32} (hok : rw_ok f cap xs) (hc : cap < 2 ^ 31) (hx : x = nI xs.length) (h : xs.length < cap) : vp_in x cap := by
  subst hx
  exact vp_in_nI h hc
theorem rwf_set {f : Nat → Int32} {cap : Nat} {l r : List Int32} {x d c : Int32} (hok : rw_ok f cap (l ++ d :: r)) (hc : cap < 2 ^ 31) (hx : x = nI l.length) : rw_ok (upd f x.toNatClampNeg c) cap (l ++ c :: r) := by
  subst hx
  have h1 := hok.1
  simp only [List.length_append, List.length_cons] at h1
  have h0 : ¬ nI l.length < 0 := nI_pos (by omega)
  have h2 : ¬ nI (l ++ d :: r).length ≤ nI l.length := nI_ge (by simp) (by simp; omega)
  have q := rw_put_ok (c := c) hok hc h0 h2
  rw [rw_put_k rfl (by omega)] at q
  exact q.2
