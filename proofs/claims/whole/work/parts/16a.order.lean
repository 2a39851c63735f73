/-! order: swaps of neighbours lead to it -/
set_option maxRecDepth 100000 in
theorem mk_rank0 : ∀ j, j < 783 → 768 ≤ j → ∃ r, r < 3 ∧ fX2_rankOf (nI j) = nI r := by decide +kernel
theorem mk_in {c : Int32} (h : ¬ fX2_isMark c = 0) : ∃ j, c = nI j ∧ 768 ≤ j ∧ j < 783 := by
  unfold fX2_isMark at h
  by_cases h1 : c < 768
  · simp [h1] at h
  · by_cases h2 : 783 ≤ c
    · simp [h1, h2] at h
    · have h1' := i32_nlt.mp h1
      have h2' := i32_nle.mp h2
      have h0 : ¬ c < 0 := by
        rw [Int32.lt_iff_toInt_lt] at *
        rw [Int32.le_iff_toInt_le] at *
        have : (768 : Int32).toInt = 768 := by decide
        have : (0 : Int32).toInt = 0 := by decide
        omega
      obtain ⟨j, hj, rfl⟩ := nI_of h0
      exact ⟨j, rfl, (nI_leI (a := 768) (by decide) hj).mp h1', (nI_ltI (b := 783) hj (by decide)).mp h2'⟩
theorem mk_rank {c : Int32} (h : ¬ fX2_isMark c = 0) : ∃ r, r < 3 ∧ fX2_rankOf c = nI r := by
  obtain ⟨j, rfl, h1, h2⟩ := mk_in h
  exact mk_rank0 j h2 h1
def wt (c : Int32) : Nat := if fX2_isMark c = 0 then 0 else (fX2_rankOf c).toNatClampNeg
def mu : List Int32 → Nat
  | [] => 0
  | c :: t => wt c * (t.length + 1) + mu t
theorem wt_lt {a b : Int32} (ha : ¬ fX2_isMark a = 0) (hb : ¬ fX2_isMark b = 0) (h : ¬ fX2_rankOf a ≤ fX2_rankOf b) : wt b < wt a := by
  obtain ⟨r, hr, e1⟩ := mk_rank ha
  obtain ⟨q, hq, e2⟩ := mk_rank hb
  unfold wt
  rw [if_neg ha, if_neg hb, e1, e2, nI_clamp (by omega), nI_clamp (by omega)]
  rw [e1, e2, nI_leI (by omega) (by omega)] at h
  omega
theorem mu_swap {a b : Int32} (h : wt b < wt a) (r : List Int32) : ∀ l : List Int32, mu (l ++ b :: a :: r) < mu (l ++ a :: b :: r)
  | [] => by
    show wt b * (r.length + 1 + 1) + (wt a * (r.length + 1) + mu r) < wt a * (r.length + 1 + 1) + (wt b * (r.length + 1) + mu r)
    rw [Nat.mul_succ (wt b) (r.length + 1), Nat.mul_succ (wt a) (r.length + 1)]
    generalize wt a * (r.length + 1) = P
    generalize wt b * (r.length + 1) = Q
    omega
  | c :: t => by
    have := mu_swap h r t
    show wt c * ((t ++ b :: a :: r).length + 1) + mu (t ++ b :: a :: r) < wt c * ((t ++ a :: b :: r).length + 1) + mu (t ++ a :: b :: r)
    have e : (t ++ b :: a :: r).length = (t ++ a :: b :: r).length := by simp
    rw [e]
    omega
theorem rv_comm {a b : Int32} (ha : ¬ fX2_isMark a = 0) (hb : ¬ fX2_isMark b = 0) (h : ¬ fX2_rankOf a ≤ fX2_rankOf b) : ∀ t : List Int32, rv_ins b (rv_ins a t) = rv_ins a (rv_ins b t) := by
  have h' : fX2_rankOf b ≤ fX2_rankOf a := by
    rw [Int32.le_iff_toInt_le] at *
    omega
  intro t
  induction t with
  | nil => simp [rv_ins, ha, hb, h, h']
  | cons d t ih =>
    by_cases hd : fX2_isMark d = 0
    · simp [rv_ins, ha, hb, h, h', hd]
    · by_cases h1 : fX2_rankOf d ≤ fX2_rankOf a
      · by_cases h2 : fX2_rankOf d ≤ fX2_rankOf b
        · simp [rv_ins, ha, hb, h, h', hd, h1, h2]
        · simp [rv_ins, ha, hb, h, h', hd, h1, h2]
      · have h2 : ¬ fX2_rankOf d ≤ fX2_rankOf b := by
          rw [Int32.le_iff_toInt_le] at *
          omega
        simp [rv_ins, hd, h1, h2, ih]
theorem ordr_swap {a b : Int32} (ha : ¬ fX2_isMark a = 0) (hb : ¬ fX2_isMark b = 0) (h : ¬ fX2_rankOf a ≤ fX2_rankOf b) (l r : List Int32) : ordr (l ++ b :: a :: r) = ordr (l ++ a :: b :: r) := by
  unfold ordr
  rw [List.foldl_append, List.foldl_append]
  simp only [List.foldl_cons]
  have e : rv_stp (rv_stp (l.foldl rv_stp []) b) a = rv_stp (rv_stp (l.foldl rv_stp []) a) b := by
    unfold rv_stp
    simp only [ha, hb, if_false]
    exact (rv_comm ha hb h _).symm
  rw [e]
def nov : List Int32 → Prop
  | [] => True
  | [_] => True
  | a :: b :: t => (fX2_isMark a = 0 ∨ fX2_isMark b = 0 ∨ fX2_rankOf a ≤ fX2_rankOf b) ∧ nov (b :: t)
theorem nov_fold : ∀ (xs : List Int32) (a : Int32) (acc : List Int32), nov (a :: xs) → xs.foldl rv_stp (a :: acc) = xs.reverse ++ a :: acc
  | [], _, _, _ => rfl
  | b :: t, a, acc, h => by
    have e : rv_stp (a :: acc) b = b :: a :: acc := by
      unfold rv_stp rv_ins
      rcases h.1 with q | q | q
      · by_cases hb : fX2_isMark b = 0 <;> simp [q, hb]
      · simp [q]
      · by_cases hb : fX2_isMark b = 0 <;> simp [q, hb]
    rw [List.foldl_cons, e, nov_fold t b (a :: acc) h.2]
    simp
theorem ordr_fix {xs : List Int32} (h : nov xs) : ordr xs = xs := by
  rcases xs with _ | ⟨a, t⟩
  · rfl
  · unfold ordr
    have e : rv_stp [] a = [a] := by unfold rv_stp rv_ins; split <;> rfl
    rw [List.foldl_cons, e, nov_fold t a [] h]
    simp
theorem nov_snoc {a b : Int32} (h : fX2_isMark a = 0 ∨ fX2_isMark b = 0 ∨ fX2_rankOf a ≤ fX2_rankOf b) : ∀ l : List Int32, nov (l ++ [a]) → nov (l ++ [a] ++ [b])
  | [], _ => ⟨h, trivial⟩
  | [c], hn => ⟨hn.1, h, trivial⟩
  | c :: d :: t, hn => ⟨hn.1, nov_snoc h (d :: t) hn.2⟩
