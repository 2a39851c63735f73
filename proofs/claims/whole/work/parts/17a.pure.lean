/-! the reference: pure pieces of its small methods -/
def goN (v : Int32) : Int32 := if v < 128 then 0 else if 192 ≤ v then 0 else 1
def ob (l : List Int32) : List Int32 := l.map (fun x => x.toInt8.toInt32)
def psb (pl on : Int32) : List Int32 := if pl / 100 = on then [161 + (pl - pl / 100 * 100)] else [27, 103, 48 + pl / 100, 161 + (pl - pl / 100 * 100)]
def bsS : List Int32 → Nat → Int32 → Int32 → Int32
  | [], _, _, _ => -1
  | c :: t, k, met, w => if fX2_isMark c = 0 then (if met = w then nI k else bsS t (k + 1) (met + 1) w) else bsS t (k + 1) met w
def o2S (y : List Int32) (i : Int32) : Int32 := if i < 0 then 0 else y.getD i.toNatClampNeg 0
theorem o2_hi {f : Nat → Int32} {cap : Nat} {xs : List Int32} {i : Int32} (hok : rw_ok f cap xs) (hc : cap < 2 ^ 31) (h0 : ¬ i < 0) (h : ¬ i < nI xs.length) : 0 = o2S xs i := by
  obtain ⟨j, hj, rfl⟩ := nI_of h0
  have h1 : xs.length ≤ j := by
    rcases Nat.lt_or_ge j xs.length with q | q
    · exact absurd (nI_lt q (rw_lt hok hc)) h
    · exact q
  unfold o2S
  rw [if_neg h0, nI_clamp hj]
  simp [List.getD, List.getElem?_eq_none h1]
theorem o2_in {f : Nat → Int32} {cap : Nat} {xs : List Int32} {i : Int32} (hok : rw_ok f cap xs) (hc : cap < 2 ^ 31) (h0 : ¬ i < 0) (h : i < nI xs.length) : f i.toNatClampNeg = o2S xs i ∧ vp_in i cap := by
  obtain ⟨j, hj, rfl⟩ := nI_of h0
  have h1 := (nI_ltI hj (rw_lt hok hc)).mp h
  refine ⟨?_, vp_in_nI (by have := hok.1; omega) hc⟩
  unfold o2S
  rw [if_neg h0, nI_clamp hj]
  exact hok.2 j h1
theorem at_lt {f : Nat → Int32} {cap : Nat} {xs : List Int32} {i : Int32} (hok : rw_ok f cap xs) (hc : cap < 2 ^ 31) (h0 : ¬ i < 0) (h : i < nI xs.length) : f i.toNatClampNeg = rw_at xs i ∧ vp_in i cap := by
  have h2 : ¬ nI xs.length ≤ i := by rw [i32_nle]; exact h
  exact ⟨rw_at_in hok hc h0 h2, rw_vin hok hc h0 h2⟩
theorem at_ge {f : Nat → Int32} {cap : Nat} {xs : List Int32} {i : Int32} (hok : rw_ok f cap xs) (hc : cap < 2 ^ 31) (h0 : ¬ i < 0) (h : ¬ i < nI xs.length) : -1 = rw_at xs i := rw_at_hi hok hc h0 (i32_nlt.mp h)
def tlS (y : List Int32) (i w : Int32) (tn : Int32) : Int32 := if i < 0 then -1 else if tn ≤ i then -1 else if w < 0 then -1 else if 1 < w then -1 else y.getD (2 * i + w).toNatClampNeg 0
theorem i32_01 {w : Int32} (h0 : ¬ w < 0) (h1 : w ≤ 1) : w = 0 ∨ w = 1 := by
  obtain ⟨j, hj, rfl⟩ := nI_of h0
  have : j ≤ 1 := (nI_leI (b := 1) hj (by decide)).mp h1
  rcases (show j = 0 ∨ j = 1 by omega) with rfl | rfl
  · exact Or.inl rfl
  · exact Or.inr rfl
theorem tl_in {f : Nat → Int32} {y : List Int32} {i w : Int32} {k : Nat} (hok : rw_ok f 200 y) (hk : y.length = 2 * k) (h0 : ¬ i < 0) (h1 : ¬ nI k ≤ i) (h2 : ¬ w < 0) (h3 : w ≤ 1) : vp_in (2 * i + w) 200 ∧ f (2 * i + w).toNatClampNeg = y.getD (2 * i + w).toNatClampNeg 0 := by
  have hy := hok.1
  obtain ⟨j, hj, rfl⟩ := nI_of h0
  have hj2 : j < k := by
    rcases Nat.lt_or_ge j k with q | q
    · exact q
    · exact absurd (nI_le q hj) h1
  have e : ∀ v : Nat, v ≤ 1 → (2 * nI j + nI v : Int32) = nI (2 * j + v) := fun v _ => by
    rw [show (2 : Int32) = nI 2 from rfl, pk_mul, nI_add]
  rcases i32_01 h2 h3 with rfl | rfl
  · rw [show (0 : Int32) = nI 0 from rfl, e 0 (by omega)]
    exact ⟨vp_in_nI (by omega) (by decide), by rw [nI_clamp (by omega)]; exact hok.2 _ (by omega)⟩
  · rw [show (1 : Int32) = nI 1 from rfl, e 1 (by omega)]
    exact ⟨vp_in_nI (by omega) (by decide), by rw [nI_clamp (by omega)]; exact hok.2 _ (by omega)⟩
