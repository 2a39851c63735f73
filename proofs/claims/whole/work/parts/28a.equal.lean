/-! class and reference say the same: the pure rows -/
theorem bv255 (x : BitVec 32) : x &&& 255#32 = (x.setWidth 8).setWidth 32 := by
  have h : ∀ i : Fin 32, (255#32).getLsbD i = decide (i.val < 8) := by decide
  apply BitVec.eq_of_getLsbD_eq
  intro i hi
  rw [BitVec.getLsbD_and, h ⟨i, hi⟩]
  simp only [BitVec.getLsbD_setWidth]
  by_cases h8 : i < 8 <;> simp [h8, hi]
theorem bv_se (y : BitVec 8) : (y.signExtend 32).setWidth 8 = y := by
  apply BitVec.eq_of_getLsbD_eq
  intro i hi
  rw [BitVec.getLsbD_setWidth, BitVec.getLsbD_signExtend]
  simp [hi, show i < 32 by omega]
theorem bv_sw (x : BitVec 32) : ((x.setWidth 8).setWidth 32).setWidth 8 = x.setWidth 8 := by
  apply BitVec.eq_of_getLsbD_eq
  intro i hi
  simp [BitVec.getLsbD_setWidth, hi, show i < 32 by omega]
theorem by_and (b : Int32) : b.toInt8.toInt32 &&& 255 = b &&& 255 := by
  apply Int32.toBitVec_inj.mp
  rw [Int32.toBitVec_and, Int32.toBitVec_and, Int8.toBitVec_toInt32, Int32.toBitVec_toInt8]
  show (BitVec.signExtend 32 (BitVec.signExtend 8 b.toBitVec)) &&& 255#32 = b.toBitVec &&& 255#32
  rw [bv255, bv255, bv_se, BitVec.signExtend_eq_setWidth_of_le _ (by decide)]
theorem by_to (b : Int32) : (b &&& 255).toInt8 = b.toInt8 := by
  apply Int8.toBitVec_inj.mp
  rw [Int32.toBitVec_toInt8, Int32.toBitVec_toInt8, Int32.toBitVec_and]
  show BitVec.signExtend 8 (b.toBitVec &&& 255#32) = BitVec.signExtend 8 b.toBitVec
  rw [bv255, BitVec.signExtend_eq_setWidth_of_le _ (by decide), BitVec.signExtend_eq_setWidth_of_le _ (by decide), bv_sw]
theorem by_idem (b : Int32) : b.toInt8.toInt32.toInt8 = b.toInt8 := by
  apply Int8.toBitVec_inj.mp
  rw [Int32.toBitVec_toInt8, Int8.toBitVec_toInt32, BitVec.signExtend_eq_setWidth_of_le _ (by decide), bv_se]
theorem byt_and (b : Int32) : byt (b &&& 255) := by
  refine ⟨(b.toBitVec.setWidth 8).toNat, (b.toBitVec.setWidth 8).isLt, ?_⟩
  apply Int32.toBitVec_inj.mp
  rw [Int32.toBitVec_and]
  show b.toBitVec &&& 255#32 = BitVec.ofNat 32 (b.toBitVec.setWidth 8).toNat
  rw [bv255]
  apply BitVec.eq_of_toNat_eq
  simp
theorem ox_add (x0 : List Int32) (b : Int32) : ox_u (rw_add 200 x0 b.toInt8.toInt32) = rw_add 200 (ox_u x0) (b &&& 255) := by
  unfold rw_add
  rw [ox_len]
  split
  · simp [ox_u, by_and]
  · rfl
theorem ox_byt (x0 : List Int32) : ∀ c ∈ ox_u x0, byt c := by
  intro c hc
  obtain ⟨b, -, rfl⟩ := List.mem_map.mp hc
  exact byt_and b
theorem byt_ne {c : Int32} (h : byt c) : ¬ c = -1 := by
  obtain ⟨j, hj, rfl⟩ := h
  exact nI_ne1 (by omega)
theorem e_oct2 {x1 : List Int32} (h : bys x1) (i : Int32) : f_oct2 (ox_at x1 i) = o2S x1 i := by
  unfold ox_at rw_at o2S f_oct2
  by_cases h0 : i < 0
  · simp [h0]
  · simp only [h0, if_false]
    rcases Nat.lt_or_ge i.toNatClampNeg x1.length with q | q
    · have e1 : (ox_u x1).getD i.toNatClampNeg (-1) = x1[i.toNatClampNeg] &&& 255 := by
        simp [List.getD, ox_u, List.getElem?_eq_getElem q]
      have e2 : x1.getD i.toNatClampNeg 0 = x1[i.toNatClampNeg] := by simp [List.getD, List.getElem?_eq_getElem q]
      rw [e1, e2, if_neg (byt_ne (byt_and _)), by_to]
      obtain ⟨x, hx⟩ := h _ (List.getElem_mem q)
      rw [hx, by_idem]
    · have e1 : (ox_u x1).getD i.toNatClampNeg (-1) = -1 := by simp [List.getD, List.getElem?_eq_none (by rw [ox_len]; exact q)]
      have e2 : x1.getD i.toNatClampNeg 0 = 0 := by simp [List.getD, List.getElem?_eq_none q]
      rw [e1, e2, if_pos rfl]
theorem il_len2 : ∀ (a b : List Int32), a.length = b.length → (il a b).length = 2 * a.length
  | [], [], _ => rfl
  | c :: a, d :: b, h => by
    have := il_len2 a b (by simpa using h)
    show (il a b).length + 1 + 1 = 2 * (a.length + 1)
    omega
  | [], _ :: _, h => by simp at h
  | _ :: _, [], h => by simp at h
theorem il_get : ∀ (a b : List Int32), a.length = b.length → ∀ n, n < a.length → (il a b).getD (2 * n) 0 = a.getD n (-1) ∧ (il a b).getD (2 * n + 1) 0 = b.getD n (-1)
  | [], _, _, n, hn => by simp at hn
  | c :: a, [], h, _, _ => by simp at h
  | c :: a, d :: b, h, n, hn => by
    cases n with
    | zero => exact ⟨rfl, rfl⟩
    | succ n =>
      have q := il_get a b (by simpa using h) n (by simpa using hn)
      have e1 : (il (c :: a) (d :: b)).getD (2 * (n + 1)) 0 = (il a b).getD (2 * n) 0 := rfl
      have e2 : (il (c :: a) (d :: b)).getD (2 * (n + 1) + 1) 0 = (il a b).getD (2 * n + 1) 0 := rfl
      rw [e1, e2, q.1, q.2]
      exact ⟨rfl, rfl⟩
theorem rw_at_big {xs : List Int32} {k : Nat} (h : xs.length ≤ k) (hk : k < 2 ^ 31) : rw_at xs (nI k) = -1 := rw_at_out h hk
theorem e_told {x8 x9 : List Int32} (h : x8.length = x9.length) (h1 : x8.length ≤ 200) (i j : Int32) : fX2_told x8 x9 i j = tlS (il x8 x9) i j (nI x8.length) := by
  unfold fX2_told tlS
  by_cases h0 : i < 0
  · rw [← rw_at_lo h0, ← rw_at_lo h0, if_pos h0]
    split <;> (try split) <;> rfl
  · obtain ⟨n, hn, rfl⟩ := nI_of h0
    rw [if_neg h0]
    by_cases h2 : nI x8.length ≤ nI n
    · have h3 : x8.length ≤ n := (nI_leI (by omega) hn).mp h2
      rw [if_pos h2, rw_at_big h3 hn, rw_at_big (by omega) hn]
      split <;> (try split) <;> rfl
    · have h3 : n < x8.length := by
        rcases Nat.lt_or_ge n x8.length with q | q
        · exact q
        · exact absurd (nI_le q hn) h2
      rw [if_neg h2]
      have q := il_get x8 x9 h n h3
      by_cases j0 : j = 0
      · subst j0
        rw [if_pos rfl, if_neg (by decide), if_neg (by decide), Int32.add_zero, show (2 : Int32) = nI 2 from rfl, pk_mul, nI_clamp (by omega), q.1, rw_atN hn]
      · by_cases j1 : j = 1
        · subst j1
          rw [if_neg (by decide), if_pos rfl, if_neg (by decide), if_neg (by decide), show (2 : Int32) = nI 2 from rfl, show (1 : Int32) = nI 1 from rfl, pk_mul, nI_add, nI_clamp (by omega), q.2, rw_atN hn]
        · rw [if_neg j0, if_neg j1]
          by_cases j2 : j < 0
          · rw [if_pos j2]
          · rw [if_neg j2]
            by_cases j3 : 1 < j
            · rw [if_pos j3]
            · exact absurd (i32_01 j2 (i32_nlt.mp j3)) (fun z => z.elim j0 j1)
