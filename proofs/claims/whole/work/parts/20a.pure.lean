/-! the reference: pure pieces of its reader of the new kind -/
theorem go_ne {v : Int32} (h : ¬ goN v = 0) : ¬ v < 128 ∧ v ≤ 191 := by
  unfold goN at h
  by_cases h1 : v < 128
  · simp [h1] at h
  · by_cases h2 : 192 ≤ v
    · simp [h1, h2] at h
    · refine ⟨h1, ?_⟩
      have := i32_nle.mp h2
      rw [Int32.lt_iff_toInt_lt] at this
      rw [Int32.le_iff_toInt_le]
      have : (192 : Int32).toInt = 192 := by decide
      have : (191 : Int32).toInt = 191 := by decide
      omega
theorem go_eq {v : Int32} (h : goN v = 0) : v < 128 ∨ ¬ v ≤ 191 := by
  unfold goN at h
  by_cases h1 : v < 128
  · exact Or.inl h1
  · by_cases h2 : 192 ≤ v
    · refine Or.inr (fun q => ?_)
      rw [Int32.le_iff_toInt_le] at *
      have : (192 : Int32).toInt = 192 := by decide
      have : (191 : Int32).toInt = 191 := by decide
      omega
    · simp [h1, h2] at h
theorem lt_le_abs {b : Int32} {j k : Nat} (hj : j < 2 ^ 31) (hk : k < 2 ^ 31) (hjk : j ≤ k) (h1 : b < nI j) (h2 : nI k ≤ b) : False := by
  rw [Int32.lt_iff_toInt_lt, nI_toInt hj] at h1
  rw [Int32.le_iff_toInt_le, nI_toInt hk] at h2
  omega
theorem cn1 {b v1 v2 : Int32} (h : ¬ 128 ≤ b) : fX2_codeOfNewBytes b v1 v2 = b := by unfold fX2_codeOfNewBytes; rw [if_neg h]
theorem cn_bad1 {b v1 v2 : Int32} (h1 : 128 ≤ b) (h2 : b < 192) : fX2_codeOfNewBytes b v1 v2 = -1 := by unfold fX2_codeOfNewBytes; rw [if_pos h1, if_pos h2]
theorem cn_bad2 {b v1 v2 : Int32} (h1 : 128 ≤ b) (h3 : 240 ≤ b) : fX2_codeOfNewBytes b v1 v2 = -1 := by
  have h4 : ¬ b < 240 := i32_nlt.mpr h3
  have h2 : ¬ b < 192 := fun q => lt_le_abs (j := 192) (k := 240) (by decide) (by decide) (by decide) q h3
  unfold fX2_codeOfNewBytes
  rw [if_pos h1, if_neg h2, if_neg h4]
theorem cn2 {b v1 v2 : Int32} (h1 : 128 ≤ b) (h2 : ¬ b < 192) (h3 : ¬ 224 ≤ b) : fX2_codeOfNewBytes b v1 v2 = (if v1 < 128 then -1 else if v1 ≤ 191 then (if fX2_bytesBehindFirst ((((b - 192) * 64) + v1) - 128) = 1 then ((((b - 192) * 64) + v1) - 128) else -1) else -1) := by
  have h4 : b < 240 := by
    have := i32_nle.mp h3
    rw [Int32.lt_iff_toInt_lt] at *
    have : (224 : Int32).toInt = 224 := by decide
    have : (240 : Int32).toInt = 240 := by decide
    omega
  unfold fX2_codeOfNewBytes
  rw [if_pos h1, if_neg h2, if_pos h4, if_neg h3, if_neg h3]
theorem cn3 {b v1 v2 : Int32} (h3 : 224 ≤ b) (h4 : b < 240) : fX2_codeOfNewBytes b v1 v2 = (if v1 < 128 then -1 else if v1 ≤ 191 then (if v2 < 128 then -1 else if v2 ≤ 191 then (if fX2_bytesBehindFirst ((((((((b - 224) * 64) + v1) - 128) * 64) + v2) - 128)) = 2 then ((((((((b - 224) * 64) + v1) - 128) * 64) + v2) - 128)) else -1) else -1) else -1) := by
  have h1 : 128 ≤ b := by
    rw [Int32.le_iff_toInt_le] at *
    have : (224 : Int32).toInt = 224 := by decide
    have : (128 : Int32).toInt = 128 := by decide
    omega
  have h2 : ¬ b < 192 := fun q => lt_le_abs (j := 192) (k := 224) (by decide) (by decide) (by decide) q h3
  unfold fX2_codeOfNewBytes
  rw [if_pos h1, if_neg h2, if_pos h4, if_pos h3, if_pos h3]
theorem c3_same (x v1 v2 : Int32) : ((((((x * 64) + v1) - 128) * 64) + v2) - 128) = ((((x * 4096) + ((v1 - 128) * 64)) + v2) - 128) := by
  have e : (((x * 64) + v1) - 128) * 64 = (x * 4096) + ((v1 - 128) * 64) := by
    rw [Int32.sub_eq_add_neg, Int32.add_assoc, ← Int32.sub_eq_add_neg, Int32.add_mul, Int32.mul_assoc]
    rfl
  rw [e]
theorem bb_0 {c : Int32} (h : c < 128) : fX2_bytesBehindFirst c = 0 := by
  unfold fX2_bytesBehindFirst
  rw [if_neg (i32_nle.mpr h)]
theorem bb_1 {c : Int32} (h1 : ¬ c < 128) (h2 : c < 2048) : fX2_bytesBehindFirst c = 1 ∧ bbN c = 1 := by
  unfold fX2_bytesBehindFirst bbN
  rw [if_pos (i32_nlt.mp h1), if_neg (i32_nle.mpr h2), if_neg h1, if_pos h2]
  exact ⟨rfl, rfl⟩
theorem bb_2 {c : Int32} (h2 : 2048 ≤ c) : fX2_bytesBehindFirst c = 2 ∧ bbN c = 2 := by
  have h1 : ¬ c < 128 := fun q => lt_le_abs (j := 128) (k := 2048) (by decide) (by decide) (by decide) q h2
  unfold fX2_bytesBehindFirst bbN
  rw [if_pos (i32_nlt.mp h1), if_pos h2, if_neg h1, if_neg (i32_nlt.mpr h2)]
  exact ⟨rfl, rfl⟩
theorem bb_n2 {c : Int32} (h2 : ¬ 2048 ≤ c) : ¬ fX2_bytesBehindFirst c = 2 := by
  unfold fX2_bytesBehindFirst
  rw [if_neg h2]
  split <;> decide
theorem c2_lt {b v1 : Int32} (hb : byt b) (h2 : ¬ b < 192) (h3 : ¬ 224 ≤ b) (h4 : ¬ v1 < 128) (h5 : v1 ≤ 191) : ((((b - 192) * 64) + v1) - 128) < 2048 := by
  obtain ⟨j, hj, rfl⟩ := hb
  have h0 : ¬ v1 < 0 := fun q => lt_le_abs (j := 0) (k := 128) (by decide) (by decide) (by decide) q (i32_nlt.mp h4)
  obtain ⟨k, hk, rfl⟩ := nI_of h0
  have j1 : 192 ≤ j := (nI_leI (a := 192) (by decide) (by omega)).mp (i32_nlt.mp h2)
  have j2 : j < 224 := (nI_ltI (b := 224) (by omega) (by decide)).mp (i32_nle.mp h3)
  have k1 : 128 ≤ k := (nI_leI (a := 128) (by decide) hk).mp (i32_nlt.mp h4)
  have k2 : k ≤ 191 := (nI_leI (b := 191) hk (by decide)).mp h5
  rw [show (192 : Int32) = nI 192 from rfl, show (64 : Int32) = nI 64 from rfl, show (128 : Int32) = nI 128 from rfl, show (2048 : Int32) = nI 2048 from rfl, pk_sub j1, pk_mul, nI_add, pk_sub (by omega)]
  exact nI_lt (by omega) (by decide)
theorem fnd_ne {c : Int32} (h : ¬ fX3_find c = -1) : ¬ fX2_setOf c = -1 := fun q => h (by unfold fX3_find; rw [if_pos q])
theorem fnd_eq {c : Int32} (h : fX3_find c = -1) : fX2_setOf c = -1 := by
  rcases set_cases c with q | ⟨j, s, i, e, hs, hi, e1, e2, e3, e4, _, _⟩
  · exact q
  · exfalso
    have := fnd_hit e4 hs hi e3
    rw [h, show (100 : Int32) = nI 100 from rfl, pk_mul, nI_add] at this
    exact nI_ne1 (by omega) this
theorem cmp_lo {c : Int32} (h : c ≤ 127) : fX2_isComposed c = 0 ∧ fX2_setOf c = -1 := by
  have h1 : c < 57344 := by
    rw [Int32.le_iff_toInt_le] at h
    rw [Int32.lt_iff_toInt_lt]
    have : (127 : Int32).toInt = 127 := by decide
    have : (57344 : Int32).toInt = 57344 := by decide
    omega
  have h2 : c < 192 := by
    rw [Int32.le_iff_toInt_le] at h
    rw [Int32.lt_iff_toInt_lt]
    have : (127 : Int32).toInt = 127 := by decide
    have : (192 : Int32).toInt = 192 := by decide
    omega
  refine ⟨?_, set_lo h2⟩
  unfold fX2_isComposed
  rw [if_pos h1]
theorem nI_100e {n : Nat} (h : n < 2 ^ 31) : nI n = 100 ↔ n = 100 := nI_eq (b := 100) h (by decide)
