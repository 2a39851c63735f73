/-! rows: a list of ints at the head of an array -/
def rw_ok (f : Nat → Int32) (cap : Nat) (xs : List Int32) : Prop := xs.length ≤ cap ∧ ∀ i, i < xs.length → f i = xs.getD i 0
def rw_at (xs : List Int32) (i : Int32) : Int32 := if i < 0 then -1 else xs.getD i.toNatClampNeg (-1)
def rw_add (cap : Nat) (xs : List Int32) (c : Int32) : List Int32 := if xs.length < cap then xs ++ [c] else xs
def rw_put (xs : List Int32) (i c : Int32) : List Int32 := if i < 0 then xs else xs.set i.toNatClampNeg c
theorem rw_nil {f : Nat → Int32} {cap : Nat} : rw_ok f cap [] := ⟨Nat.zero_le _, fun i h => absurd h (Nat.not_lt_zero i)⟩
theorem rw_at_lo {xs : List Int32} {i : Int32} (h : i < 0) : -1 = rw_at xs i := by unfold rw_at; rw [if_pos h]
theorem rw_at_hi {f : Nat → Int32} {cap : Nat} {xs : List Int32} {i : Int32} (hok : rw_ok f cap xs) (hc : cap < 2 ^ 31) (h0 : ¬ i < 0) (h : nI xs.length ≤ i) : -1 = rw_at xs i := by
  obtain ⟨j, hj, rfl⟩ := nI_of h0
  have h1 := (nI_leI (by have := hok.1; omega) hj).mp h
  unfold rw_at
  rw [if_neg h0, nI_clamp hj]
  simp [List.getD, List.getElem?_eq_none h1]
theorem rw_in {f : Nat → Int32} {cap : Nat} {xs : List Int32} {i : Int32} (hok : rw_ok f cap xs) (hc : cap < 2 ^ 31) (h0 : ¬ i < 0) (h : ¬ nI xs.length ≤ i) : ∃ j : Nat, i = nI j ∧ j < xs.length ∧ j < 2 ^ 31 := by
  obtain ⟨j, hj, rfl⟩ := nI_of h0
  refine ⟨j, rfl, ?_, hj⟩
  rcases Nat.lt_or_ge j xs.length with q | q
  · exact q
  · exact absurd (nI_le q hj) h
theorem rw_vin {f : Nat → Int32} {cap : Nat} {xs : List Int32} {i : Int32} (hok : rw_ok f cap xs) (hc : cap < 2 ^ 31) (h0 : ¬ i < 0) (h : ¬ nI xs.length ≤ i) : vp_in i cap := by
  obtain ⟨j, rfl, hj, _⟩ := rw_in hok hc h0 h
  exact vp_in_nI (by have := hok.1; omega) hc
theorem rw_at_in {f : Nat → Int32} {cap : Nat} {xs : List Int32} {i : Int32} (hok : rw_ok f cap xs) (hc : cap < 2 ^ 31) (h0 : ¬ i < 0) (h : ¬ nI xs.length ≤ i) : f i.toNatClampNeg = rw_at xs i := by
  obtain ⟨j, rfl, hj, hj2⟩ := rw_in hok hc h0 h
  unfold rw_at
  rw [if_neg h0, nI_clamp hj2, hok.2 j hj]
  simp [List.getD, List.getElem?_eq_getElem hj]
theorem rw_atN {xs : List Int32} {k : Nat} (h : k < 2 ^ 31) : rw_at xs (nI k) = xs.getD k (-1) := by
  unfold rw_at
  rw [if_neg (nI_pos h), nI_clamp h]
theorem rw_add_no {f : Nat → Int32} {cap : Nat} {xs : List Int32} {c : Int32} (hok : rw_ok f cap xs) (hc : cap < 2 ^ 31) (h : nI cap ≤ nI xs.length) : rw_add cap xs c = xs := by
  have h1 := (nI_leI hc (by have := hok.1; omega)).mp h
  unfold rw_add
  rw [if_neg (by omega)]
theorem rw_add_yes {f : Nat → Int32} {cap : Nat} {xs : List Int32} {c : Int32} (hok : rw_ok f cap xs) (hc : cap < 2 ^ 31) (h : ¬ nI cap ≤ nI xs.length) : xs.length < cap ∧ rw_add cap xs c = xs ++ [c] ∧ nI xs.length + 1 = nI (rw_add cap xs c).length ∧ rw_ok (upd f (nI xs.length).toNatClampNeg c) cap (rw_add cap xs c) := by
  have h0 : xs.length < 2 ^ 31 := by have := hok.1; omega
  have h1 : xs.length < cap := by
    rcases Nat.lt_or_ge xs.length cap with q | q
    · exact q
    · exact absurd (nI_le q h0) h
  have e : rw_add cap xs c = xs ++ [c] := by unfold rw_add; rw [if_pos h1]
  refine ⟨h1, e, ?_, ?_⟩
  · rw [e, List.length_append]; exact nI_1 _
  · rw [e]
    refine ⟨by rw [List.length_append]; simp; omega, fun i hi => ?_⟩
    rw [nI_clamp h0]
    rw [List.length_append] at hi
    simp only [List.length_cons, List.length_nil] at hi
    rcases Nat.lt_or_ge i xs.length with q | q
    · rw [pk_un (by omega), hok.2 i q]
      simp [List.getD, List.getElem?_append_left q]
    · have : i = xs.length := by omega
      subst this
      rw [pk_us]
      simp [List.getD]
theorem rw_put_ok {f : Nat → Int32} {cap : Nat} {xs : List Int32} {i c : Int32} (hok : rw_ok f cap xs) (hc : cap < 2 ^ 31) (h0 : ¬ i < 0) (h : ¬ nI xs.length ≤ i) : nI xs.length = nI (rw_put xs i c).length ∧ rw_ok (upd f i.toNatClampNeg c) cap (rw_put xs i c) := by
  obtain ⟨j, rfl, hj, hj2⟩ := rw_in hok hc h0 h
  have e : rw_put xs (nI j) c = xs.set j c := by unfold rw_put; rw [if_neg h0, nI_clamp hj2]
  rw [e]
  refine ⟨by rw [List.length_set], by rw [List.length_set]; exact hok.1, fun i hi => ?_⟩
  rw [List.length_set] at hi
  rw [nI_clamp hj2]
  by_cases q : i = j
  · subst q
    rw [pk_us]
    simp [List.getD, hi]
  · rw [pk_un q, hok.2 i hi]
    simp [List.getD, List.getElem?_set, Ne.symm q]
theorem rw_put_lo {xs : List Int32} {i c : Int32} (h : i < 0) : rw_put xs i c = xs := by unfold rw_put; rw [if_pos h]
theorem rw_put_hi {f : Nat → Int32} {cap : Nat} {xs : List Int32} {i c : Int32} (hok : rw_ok f cap xs) (hc : cap < 2 ^ 31) (h0 : ¬ i < 0) (h : nI xs.length ≤ i) : rw_put xs i c = xs := by
  obtain ⟨j, hj, rfl⟩ := nI_of h0
  have h1 := (nI_leI (by have := hok.1; omega) hj).mp h
  unfold rw_put
  rw [if_neg h0, nI_clamp hj, List.set_eq_of_length_le h1]
theorem rw_lt {f : Nat → Int32} {cap : Nat} {xs : List Int32} (hok : rw_ok f cap xs) (hc : cap < 2 ^ 31) : xs.length < 2 ^ 31 := by have := hok.1; omega
