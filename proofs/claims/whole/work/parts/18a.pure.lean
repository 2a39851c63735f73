/-! the reference: pure pieces of its face -/
theorem bsS_in : ∀ (xs : List Int32) (k : Nat) (m w : Int32), bsS xs k m w = -1 ∨ ∃ j, j < xs.length ∧ bsS xs k m w = nI (k + j)
  | [], _, _, _ => Or.inl rfl
  | c :: t, k, m, w => by
    unfold bsS
    split
    · split
      · exact Or.inr ⟨0, by simp, rfl⟩
      · rcases bsS_in t (k + 1) (m + 1) w with q | ⟨j, hj, q⟩
        · exact Or.inl q
        · exact Or.inr ⟨j + 1, by simp; exact hj, by rw [q]; congr 1; omega⟩
    · rcases bsS_in t (k + 1) m w with q | ⟨j, hj, q⟩
      · exact Or.inl q
      · exact Or.inr ⟨j + 1, by simp; exact hj, by rw [q]; congr 1; omega⟩
theorem bsS_at {f : Nat → Int32} {cap : Nat} {xs : List Int32} {w : Int32} (hok : rw_ok f cap xs) (hc : cap < 2 ^ 31) (h : ¬ bsS xs 0 0 w = -1) : vp_in (bsS xs 0 0 w) cap ∧ f (bsS xs 0 0 w).toNatClampNeg = rw_at xs (bsS xs 0 0 w) := by
  obtain ⟨j, hj, e⟩ := (bsS_in xs 0 0 w).resolve_left h
  rw [Nat.zero_add] at e
  have hx := hok.1
  have h0 : ¬ nI j < 0 := nI_pos (by omega)
  have h1 : nI j < nI xs.length := nI_lt hj (by omega)
  rw [e]
  exact ⟨(at_lt hok hc h0 h1).2, (at_lt hok hc h0 h1).1⟩
def bys (y : List Int32) : Prop := ∀ b ∈ y, ∃ x : Int32, b = x.toInt8.toInt32
theorem o2_nar {y : List Int32} {i : Int32} (h : bys y) : narrow .byte (.int (o2S y i)) = .int (o2S y i) := by
  unfold o2S
  split
  · decide
  · rcases Nat.lt_or_ge i.toNatClampNeg y.length with q | q
    · obtain ⟨x, hx⟩ := h (y.getD i.toNatClampNeg 0) (by simp [List.getD, List.getElem?_eq_getElem q])
      rw [hx]
      exact pk_nb x
    · have : y.getD i.toNatClampNeg 0 = 0 := by simp [List.getD, List.getElem?_eq_none q]
      rw [this]
      decide
def mrS (a b : Int32) : Int32 × Int32 := if a < 0 then (-1, 0) else if a ≤ 2 then (if b < 0 then (0, 1) else if b ≤ 93 then (fX3_placed a b, 0) else (0, 1)) else (-1, 0)
def kyS (c : Int32) : Int32 := if c < 65 then c else if 90 < c then c else c + 32
def nfS (y : List Int32) (a b : Int32) : Int32 := if a < 0 then -1 else if b < 0 then -1 else if 0 < a ∧ bsS y 0 0 (a - 1) = -1 then -1 else if 100 < a then 0 else if 100 < b then 0 else if bsS y 0 0 (a + b) = -1 then 0 else kyS (if fX2_isComposed (rw_at y (bsS y 0 0 (a + b))) = 0 then rw_at y (bsS y 0 0 (a + b)) else fX2_letterOf (rw_at y (bsS y 0 0 (a + b))))
def mmS (y : List Int32) (i : Int32) : Int32 := if i < 0 then -1 else if bsS y 0 0 i = -1 then -1 else (if fX2_isComposed (rw_at y (bsS y 0 0 i)) = 0 then 0 else 1) + nI (lmk (y.drop ((bsS y 0 0 i).toNatClampNeg + 1)))
