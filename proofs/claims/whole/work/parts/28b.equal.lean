/-! class and reference say the same: bases, marks, keys; what is written and read -/
def bp : List Int32 → Nat → Nat → Int32
  | [], _, _ => -1
  | c :: t, k, n => if fX2_isMark c = 0 then (match n with | 0 => nI k | n + 1 => bp t (k + 1) n) else bp t (k + 1) n
theorem bs_bp : ∀ (xs : List Int32) (k m n : Nat), m + n < 2 ^ 31 → bsS xs k (nI m) (nI (m + n)) = bp xs k n
  | [], _, _, _, _ => rfl
  | c :: t, k, m, n, h => by
    unfold bsS bp
    split
    · cases n with
      | zero => simp
      | succ n =>
        have h1 : ¬ nI m = nI (m + (n + 1)) := by
          rw [nI_eq (by omega) h]
          omega
        rw [if_neg h1, nI_1, show m + (n + 1) = (m + 1) + n by omega]
        exact bs_bp t (k + 1) (m + 1) n (by omega)
    · exact bs_bp t (k + 1) m n h
theorem l64_eq {a b : Nat} (ha : a < 2 ^ 63) (hb : b < 2 ^ 63) : Int64.ofNat a = Int64.ofNat b ↔ a = b := by
  constructor
  · intro h
    have := congrArg Int64.toInt h
    rw [Int64.toInt_ofNat_of_lt ha, Int64.toInt_ofNat_of_lt hb] at this
    omega
  · rintro rfl
    rfl
theorem po_bp : ∀ (xs : List Int32) (k m n : Nat), m + n < 2 ^ 63 → pob xs k (Int64.ofNat m) (Int64.ofNat (m + n)) = bp xs k n
  | [], _, _, _, _ => rfl
  | c :: t, k, m, n, h => by
    unfold pob bp
    split
    · cases n with
      | zero => simp
      | succ n =>
        have h1 : ¬ Int64.ofNat m = Int64.ofNat (m + (n + 1)) := by
          rw [l64_eq (by omega) h]
          omega
        have h2 : Int64.ofNat m + 1 = Int64.ofNat (m + 1) := (Int64.ofNat_add m 1).symm
        rw [if_neg h1, h2, show m + (n + 1) = (m + 1) + n by omega]
        exact po_bp t (k + 1) (m + 1) n (by omega)
    · exact po_bp t (k + 1) m n h
theorem po_neg : ∀ (xs : List Int32) (k m : Nat) (w : Int64), w.toInt < 0 → m + xs.length < 2 ^ 63 → pob xs k (Int64.ofNat m) w = -1
  | [], _, _, _, _, _ => rfl
  | c :: t, k, m, w, hw, h => by
    simp only [List.length_cons] at h
    unfold pob
    split
    · have h1 : ¬ Int64.ofNat m = w := by
        intro q
        rw [← q, Int64.toInt_ofNat_of_lt (by omega)] at hw
        omega
      have h2 : Int64.ofNat m + 1 = Int64.ofNat (m + 1) := (Int64.ofNat_add m 1).symm
      rw [if_neg h1, h2]
      exact po_neg t (k + 1) (m + 1) w hw (by omega)
    · exact po_neg t (k + 1) m w hw (by omega)
theorem bp_none : ∀ (xs : List Int32) (k n : Nat), k + xs.length < 2 ^ 31 → (bp xs k n = -1 ↔ nbs xs ≤ n)
  | [], _, _, _ => by simp [bp, nbs]
  | c :: t, k, n, h => by
    simp only [List.length_cons] at h
    unfold bp nbs
    split
    · cases n with
      | zero =>
        simp only [Nat.le_zero]
        constructor
        · intro q
          exact absurd q (nI_ne1 (by omega))
        · intro q
          omega
      | succ n =>
        rw [bp_none t (k + 1) n (by omega)]
        omega
    · exact bp_none t (k + 1) n (by omega)
theorem n64 {n : Nat} (h : n < 2 ^ 31) : (nI n).toInt64 = Int64.ofNat n := by
  apply Int64.toInt_inj.mp
  rw [Int32.toInt_toInt64, nI_toInt h, Int64.toInt_ofNat_of_lt (by omega)]
theorem po_bs {x2 : List Int32} {n : Nat} (h : n < 2 ^ 31) : pob x2 0 0 (nI n).toInt64 = bsS x2 0 0 (nI n) := by
  have e1 := po_bp x2 0 0 n (by omega)
  have e2 := bs_bp x2 0 0 n (by omega)
  rw [Nat.zero_add] at e1 e2
  rw [n64 h]
  exact e1.trans e2.symm
theorem ky_eq (c : Int32) : fX2_keyOf c = kyS (if fX2_isComposed c = 0 then c else fX2_letterOf c) := by
  have key : ∀ d : Int32, (if fX2_isCapital d = 0 then d else d - 65 + 97) = kyS d := by
    intro d
    unfold fX2_isCapital kyS
    have e : d - 65 + 97 = d + 32 := by
      rw [Int32.sub_eq_add_neg, Int32.add_assoc]
      rfl
    by_cases h1 : d < 65
    · simp [h1]
    · by_cases h2 : 90 < d
      · simp [h1, h2]
      · simp [h1, h2, e]
  unfold fX2_keyOf
  split
  · rw [key]
  · rw [key]
theorem e_mark {x2 : List Int32} (h : x2.length ≤ 100) (i : Int32) : mkS x2 i = mmS x2 i := by
  unfold mkS mmS
  by_cases h0 : i < 0
  · have hneg : i.toInt64.toInt < 0 := by
      rw [Int32.toInt_toInt64]
      rw [Int32.lt_iff_toInt_lt] at h0
      exact h0
    have e := po_neg x2 0 0 i.toInt64 hneg (by omega)
    have e' : pob x2 0 0 i.toInt64 = -1 := e
    rw [if_pos e', if_pos h0]
  · obtain ⟨n, hn, rfl⟩ := nI_of h0
    rw [if_neg h0, po_bs hn]
theorem e_nonf {x2 : List Int32} (h : x2.length ≤ 100) (i j : Int32) : fX2_nonfiling x2 i j = nfS x2 i j := by
  have hb := nbs_le x2
  unfold fX2_nonfiling nfS
  by_cases h0 : i < 0
  · rw [if_pos h0, if_pos h0]
  · rw [if_neg h0, if_neg h0]
    by_cases h1 : j < 0
    · rw [if_neg (i32_nle.mpr h1), if_pos h1]
    · rw [if_pos (i32_nlt.mp h1), if_neg h1]
      obtain ⟨a, ha, rfl⟩ := nI_of h0
      obtain ⟨b, hb', rfl⟩ := nI_of h1
      have e64 : (nI a).toInt64 + (nI b).toInt64 = Int64.ofNat (0 + (a + b)) := by
        rw [n64 ha, n64 hb', Nat.zero_add, Int64.ofNat_add]
      rw [e64, show (0 : Int64) = Int64.ofNat 0 from rfl, po_bp x2 0 0 (a + b) (by omega)]
      have hnone := bp_none x2 0 (a + b) (by omega)
      have hlow : (0 < nI a ∧ bsS x2 0 0 (nI a - 1) = -1) ↔ nbs x2 < a := by
        cases a with
        | zero =>
          constructor
          · intro q
            exact absurd q.1 (by decide)
          · intro q
            omega
        | succ a =>
          have e1 : nI (a + 1) - 1 = nI (0 + a) := by rw [Nat.zero_add]; exact nI_pred a
          rw [e1, show (0 : Int32) = nI 0 from rfl, bs_bp x2 0 0 a (by omega), bp_none x2 0 a (by omega)]
          constructor
          · intro q
            omega
          · intro q
            exact ⟨nI_lt (by omega) ha, by omega⟩
      have hle : nI a ≤ nI (nbs x2) ↔ a ≤ nbs x2 := nI_leI ha (by omega)
      by_cases c1 : nbs x2 < a
      · rw [if_pos (hlow.mpr c1), if_pos (hnone.mpr (by omega)), if_neg (fun q => by have := hle.mp q; omega)]
      · rw [if_neg (fun q => c1 (hlow.mp q))]
        have a100 : ¬ (100 : Int32) < nI a := by
          intro q
          have : 100 < a := (nI_ltI (a := 100) (by decide) ha).mp q
          omega
        rw [if_neg a100]
        by_cases c2 : (100 : Int32) < nI b
        · have : 100 < b := (nI_ltI (a := 100) (by decide) hb').mp c2
          rw [if_pos c2, if_pos (hnone.mpr (by omega)), if_pos (hle.mpr (by omega))]
        · rw [if_neg c2]
          have b100 : b ≤ 100 := by
            rcases Nat.lt_or_ge 100 b with q | q
            · exact absurd ((nI_ltI (a := 100) (by decide) hb').mpr q) c2
            · exact q
          have eb : bsS x2 0 0 (nI a + nI b) = bp x2 0 (a + b) := by
            have := bs_bp x2 0 0 (a + b) (by omega)
            rw [Nat.zero_add] at this
            rw [nI_add]
            exact this
          rw [eb]
          by_cases c3 : bp x2 0 (a + b) = -1
          · rw [if_pos c3, if_pos c3, if_pos (hle.mpr (by omega))]
          · rw [if_neg c3, if_neg c3, ky_eq]
theorem fold_oadd : ∀ (l acc : List Int32), acc.length + l.length ≤ 400 → l.foldl (oadd 400) acc = acc ++ ob l
  | [], acc, _ => by simp [ob]
  | c :: t, acc, h => by
    simp only [List.length_cons] at h
    rw [List.foldl_cons, oadd, rw_add_lt (by omega), fold_oadd t _ (by simp; omega)]
    simp [ob]
theorem woS_len3 (si : Int32) : ∀ (xs : List Int32) (i : Nat) (on lost : Int32), (woS si xs i on lost).2.1.length = (woS si xs i on lost).2.2.length ∧ (woS si xs i on lost).2.1.length ≤ xs.length
  | [], _, _, _ => ⟨rfl, Nat.le_refl _⟩
  | c :: t, i, on, lost => by
    simp only [woS]
    split
    · split
      · have := woS_len3 si t (i + 1) on 1
        simp only [List.length_cons]
        omega
      · have := woS_len3 si t (i + 1) (wms (t.take (lmk t) ++ [c]) on).2 0
        simp only [List.length_cons]
        omega
    · split
      · have := woS_len3 si t (i + 1) on lost
        simp only [List.length_cons]
        omega
      · have := woS_len3 si t (i + 1) on lost
        simp only [List.length_cons]
        omega
theorem woS_by (si : Int32) : ∀ (n : Nat) (xs : List Int32) (i : Nat) (on : Int32), xs.length ≤ n → (woS si xs i on 1).1.length ≤ 4 * xs.length := by
  intro n
  induction n with
  | zero =>
    intro xs i on h
    have : xs = [] := List.eq_nil_of_length_eq_zero (by omega)
    subst this
    exact Nat.le_refl _
  | succ n ih =>
    intro xs i on h
    rcases xs with _ | ⟨c, t⟩
    · exact Nat.le_refl _
    · simp only [List.length_cons] at h
      have hd : (t.drop (lmk t)).length ≤ n := by rw [List.length_drop]; omega
      have hk := lmk_le t
      have hdl : (t.drop (lmk t)).length = t.length - lmk t := List.length_drop
      by_cases h1 : fX2_isMark c = 0
      · by_cases h2 : fX2_isPlain c = 0 ∧ fX2_setOf c = -1
        · rw [grp_lost h1 h2]
          have := ih (t.drop (lmk t)) (i + 1 + lmk t) on hd
          simp only [List.length_cons]
          omega
        · rw [grp_can h1 h2]
          have q := ih (t.drop (lmk t)) (i + 1 + lmk t) (wms (t.take (lmk t) ++ [c]) on).2 hd
          have q2 := wms_len (t.take (lmk t) ++ [c]) on
          rw [List.length_append, List.length_take, Nat.min_eq_left hk, List.length_singleton] at q2
          simp only [List.length_append, List.length_cons]
          omega
      · rw [grp_mark h1]
        have := ih (t.drop (lmk t)) (i + 1 + lmk t) on hd
        simp only [List.length_cons]
        omega
theorem wnb_all : ∀ xs : List Int32, (xs.flatMap wnb).length ≤ 3 * xs.length
  | [] => Nat.le_refl _
  | c :: t => by
    have := wnb_all t
    have := wnb_len c
    rw [List.flatMap_cons, List.length_append, List.length_cons]
    omega
theorem e_write {si : Int32} {x2 : List Int32} (h : x2.length ≤ 100) (v : Int32) : (wrS si x2 v).1 = (wmS si x2 v).1 ∧ il (wrS si x2 v).2.1 (wrS si x2 v).2.2 = (wmS si x2 v).2 ∧ (wrS si x2 v).2.1.length = (wrS si x2 v).2.2.length ∧ bys (wrS si x2 v).1 := by
  have hob : ∀ l : List Int32, bys (ob l) := fun l b hb => by
    obtain ⟨x, -, rfl⟩ := List.mem_map.mp hb
    exact ⟨x, rfl⟩
  unfold wrS wmS
  split
  · have h1 := woS_by si x2.length x2 0 0 (Nat.le_refl _)
    have e : (woS si x2 0 0 1).1.foldl (oadd 400) [] = ob (woS si x2 0 0 1).1 := by
      rw [fold_oadd _ _ (by simp; omega)]
      rfl
    exact ⟨e, rfl, (woS_len3 si x2 0 0 1).1, by show bys ((woS si x2 0 0 1).1.foldl (oadd 400) []); rw [e]; exact hob _⟩
  · have h1 := wnb_all x2
    have e : (x2.flatMap wnb).foldl (oadd 400) [] = ob (x2.flatMap wnb) := by
      rw [fold_oadd _ _ (by simp only [List.length_nil]; omega)]
      rfl
    exact ⟨e, rfl, rfl, by show bys ((x2.flatMap wnb).foldl (oadd 400) []); rw [e]; exact hob _⟩
theorem e_read (x0 : List Int32) (v : Int32) : rdM (ox_u x0) v = rdS x0 v := by
  unfold rdM rdS
  split
  · exact roS_fm _ _ _ _ _ _ _
  · rfl
theorem e_rdA (x0 : List Int32) (v : Int32) : rmA (ox_u x0) v = rdA x0 v := by
  unfold rmA rdA
  rw [e_read]
