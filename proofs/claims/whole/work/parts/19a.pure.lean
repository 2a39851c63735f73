/-! the reference: pure pieces of its readers -/
def ocS (b s : Int32) : Int32 := if b < 32 ∨ 126 < b then (if b < 161 ∨ 254 < b then 0 else fX3_placed s (b - 161)) else b
set_option maxRecDepth 100000 in
theorem oc_eq0 : ∀ j, j < 256 → ∀ s, s < 3 → ocS (nI j) (nI s) = fX2_codeOfOldByte (nI j) (nI s) := by decide +kernel
def byt (c : Int32) : Prop := ∃ j, j < 256 ∧ c = nI j
def st3 (c : Int32) : Prop := ∃ j, j < 3 ∧ c = nI j
theorem oc_eq {b s : Int32} (hb : byt b) (hs : st3 s) : ocS b s = fX2_codeOfOldByte b s := by
  obtain ⟨j, hj, rfl⟩ := hb
  obtain ⟨k, hk, rfl⟩ := hs
  exact oc_eq0 j hj k hk
set_option maxRecDepth 100000 in
theorem esc_yes0 : ∀ j, j < 256 → ¬ nI j < 48 → nI j ≤ 50 → (fX2_setOfEscape 103 (nI j) = nI j - 48 ∧ ¬ fX2_setOfEscape 103 (nI j) = -1 ∧ (nI j - 48 = nI 0 ∨ nI j - 48 = nI 1 ∨ nI j - 48 = nI 2)) := by decide +kernel
set_option maxRecDepth 100000 in
theorem esc_no0 : ∀ j, j < 256 → (nI j < 48 ∨ ¬ nI j ≤ 50) → fX2_setOfEscape 103 (nI j) = -1 := by decide +kernel
theorem esc_no1 {v1 v2 : Int32} (h : ¬ v1 = 103) : fX2_setOfEscape v1 v2 = -1 := by unfold fX2_setOfEscape; rw [if_neg h]
theorem esc_no2 {v2 : Int32} (hb : byt v2) (h : v2 < 48 ∨ ¬ v2 ≤ 50) : fX2_setOfEscape 103 v2 = -1 := by
  obtain ⟨j, hj, rfl⟩ := hb
  exact esc_no0 j hj h
theorem esc_yes {v2 : Int32} (hb : byt v2) (h1 : ¬ v2 < 48) (h2 : v2 ≤ 50) : fX2_setOfEscape 103 v2 = v2 - 48 ∧ ¬ fX2_setOfEscape 103 v2 = -1 ∧ st3 (v2 - 48) := by
  obtain ⟨j, hj, rfl⟩ := hb
  obtain ⟨q1, q2, q3⟩ := esc_yes0 j hj h1 h2
  refine ⟨q1, q2, ?_⟩
  rcases q3 with q | q | q
  · exact ⟨0, by decide, q⟩
  · exact ⟨1, by decide, q⟩
  · exact ⟨2, by decide, q⟩
theorem nI_ne1 {n : Nat} (h : n < 2 ^ 31) : ¬ nI n = -1 := by
  intro q
  have := congrArg Int32.toInt q
  rw [nI_toInt h] at this
  have e : (-1 : Int32).toInt = -1 := by decide
  omega
theorem roS_fm : ∀ (n : Nat) (rest : List Int32) (p : Nat) (set f1 f2 : Int32) (fr : List Int32), roS n rest p set [] f1 fr = roS n rest p set [] f2 fr
  | 0, _, _, _, _, _, _ => rfl
  | n + 1, rest, p, set, f1, f2, fr => by
    rcases rest with _ | ⟨b, t⟩
    · simp [roS]
    · simp only [roS, List.length_nil, if_true]
      rw [roS_fm n (t.drop 2) (p + 3) _ f1 f2 fr, roS_fm n t (p + 1) set f1 f2]
theorem gd_byt {y done t : List Int32} {b : Int32} (hby : ∀ c ∈ y, byt c) (hy : y = done ++ b :: t) (j : Nat) (hj : j < t.length) : byt (gd t j) := by
  refine hby _ ?_
  rw [hy]
  simp [gd, List.getD, List.getElem?_eq_getElem hj]
