/-! what is read and what is written, on lists -/
def gd (t : List Int32) (k : Nat) : Int32 := t.getD k (-1)
theorem rw_at_d {l r : List Int32} {k j : Nat} (hk : l.length + j = k) (h : k < 2 ^ 31) : rw_at (l ++ r) (nI k) = gd r j := by
  rw [rw_atN h, ← hk]
  simp [gd, List.getD, List.getElem?_append_right]
def roS : Nat → List Int32 → Nat → Int32 → List Int32 → Int32 → List Int32 → Int32 × List Int32
  | 0, _, _, _, _, _, fr => (-1, fr)
  | n + 1, rest, p, set, wm, fm, fr => match rest with
    | [] => (if wm.length = 0 then -1 else fm, fr)
    | b :: t => if b = 27 then (if fX2_setOfEscape (gd t 0) (gd t 1) = -1 then (nI p, fr) else roS n (t.drop 2) (p + 3) (fX2_setOfEscape (gd t 0) (gd t 1)) wm fm fr)
      else if fX2_codeOfOldByte b set = 0 then (nI p, fr)
      else if fX2_isMark (fX2_codeOfOldByte b set) = 0 then (if fr.length + 1 + wm.length ≤ 100 then roS n t (p + 1) set [] fm (fr ++ fX2_codeOfOldByte b set :: wm) else (if wm.length = 0 then nI p else fm, fr))
      else roS n t (p + 1) set (wm ++ [fX2_codeOfOldByte b set]) (if wm.length = 0 then nI p else fm) fr
theorem esc_len {t : List Int32} (h : ¬ fX2_setOfEscape (gd t 0) (gd t 1) = -1) : 2 ≤ t.length := by
  rcases t with _ | ⟨a, _ | ⟨b, t⟩⟩
  · exact absurd (by decide) h
  · refine absurd ?_ h
    show fX2_setOfEscape a (-1) = -1
    unfold fX2_setOfEscape
    split
    · rfl
    · rfl
  · simp
theorem fold_add {cap : Nat} : ∀ (m l : List Int32), l.length + m.length ≤ cap → m.foldl (rw_add cap) l = l ++ m
  | [], l, _ => by simp
  | c :: t, l, h => by
    rw [List.foldl_cons, rw_add_lt (by simp at h; omega), fold_add t _ (by simp at h ⊢; omega)]
    simp
theorem nI_0iff {n : Nat} (h : n < 2 ^ 31) : nI n = 0 ↔ n = 0 := nI_eq (b := 0) h (by decide)
theorem nI_100 {n : Nat} (h : n < 2 ^ 31) : nI n ≤ 100 ↔ n ≤ 100 := nI_leI (b := 100) h (by decide)
theorem nI_lt100 {n : Nat} (h : n < 2 ^ 31) : nI n < 100 ↔ n < 100 := nI_ltI (b := 100) h (by decide)
def bbN (c : Int32) : Nat := if c < 128 then 0 else if c < 2048 then 1 else 2
theorem bbN_eq (c : Int32) : fX2_bytesBehindFirst c = nI (bbN c) := by
  have e1 : (128 ≤ c) ↔ ¬ c < 128 := by rw [Int32.le_iff_toInt_le, Int32.lt_iff_toInt_lt]; omega
  have e2 : (2048 ≤ c) ↔ ¬ c < 2048 := by rw [Int32.le_iff_toInt_le, Int32.lt_iff_toInt_lt]; omega
  unfold fX2_bytesBehindFirst bbN
  simp only [e1, e2]
  by_cases h1 : c < 128 <;> by_cases h2 : c < 2048 <;> simp [h1, h2] <;> decide
def nwk (c : Int32) (n : Nat) : Bool := decide ((¬ fX2_isPlain c = 0 ∨ ¬ fX2_setOf c = -1 ∨ ¬ fX2_isComposed c = 0) ∧ (fX2_isMark c = 0 ∨ ¬ n = 0) ∧ n < 100)
def cnl (b : Int32) (t : List Int32) : Int32 := fX2_codeOfNewBytes b (gd t 0) (gd t 1)
def rnS : Nat → List Int32 → Nat → List Int32 → Int32 × List Int32
  | 0, _, _, fr => (-1, fr)
  | n + 1, rest, p, fr => match rest with
    | [] => (-1, fr)
    | b :: t => if nwk (cnl b t) fr.length = true then rnS n (t.drop (bbN (cnl b t))) (p + 1 + bbN (cnl b t)) (fr ++ [cnl b t]) else (nI p, fr)
theorem cnb_cases {v0 v1 v2 c : Int32} (h : fX2_codeOfNewBytes v0 v1 v2 = c) : c = -1 ∨ (¬ 128 ≤ v0 ∧ c = v0) ∨ (fX2_bytesBehindFirst c = 1 ∧ ¬ v1 < 128) ∨ (fX2_bytesBehindFirst c = 2 ∧ ¬ v1 < 128 ∧ ¬ v2 < 128) := by
  unfold fX2_codeOfNewBytes at h
  repeat' split at h
  all_goals subst h
  all_goals first
    | exact Or.inl rfl
    | exact Or.inr (Or.inl ⟨by assumption, rfl⟩)
    | exact Or.inr (Or.inr (Or.inl ⟨by assumption, by assumption⟩))
    | exact Or.inr (Or.inr (Or.inr ⟨by assumption, by assumption, by assumption⟩))
theorem nwk_ne {c : Int32} {n : Nat} (h : nwk c n = true) : ¬ c = -1 := by
  intro e
  subst e
  have h1 := (of_decide_eq_true h).1
  exact absurd h1 (by decide)
theorem new_len {b : Int32} {t : List Int32} {n : Nat} (h : nwk (cnl b t) n = true) : bbN (cnl b t) ≤ t.length := by
  have q := cnb_cases (v0 := b) (v1 := gd t 0) (v2 := gd t 1) (c := cnl b t) rfl
  rcases q with q | q | q | q
  · exact absurd q (nwk_ne h)
  · have : bbN (cnl b t) = 0 := by
      unfold bbN
      rw [q.2, if_pos]
      have := q.1
      rw [Int32.le_iff_toInt_le] at this
      rw [Int32.lt_iff_toInt_lt]
      omega
    omega
  · have h1 : bbN (cnl b t) = 1 := by
      have := q.1
      rw [bbN_eq] at this
      exact (nI_eq (b := 1) (by unfold bbN; split <;> (try split) <;> decide) (by decide)).mp this
    rcases t with _ | ⟨a, t⟩
    · exact absurd (by decide) q.2
    · rw [h1]; simp
  · have h1 : bbN (cnl b t) = 2 := by
      have := q.1
      rw [bbN_eq] at this
      exact (nI_eq (b := 2) (by unfold bbN; split <;> (try split) <;> decide) (by decide)).mp this
    rcases t with _ | ⟨a, _ | ⟨a2, t⟩⟩
    · exact absurd (by decide) q.2.1
    · exact absurd (show (-1 : Int32) < 128 by decide) q.2.2
    · rw [h1]; simp
theorem bbN_le (c : Int32) : bbN c ≤ 2 := by unfold bbN; split <;> (try split) <;> decide
/-- a row of marks and its letter written: the bytes, the set that is on then -/
def wms : List Int32 → Int32 → List Int32 × Int32
  | [], on => ([], on)
  | m :: t, on => (wob m on ++ (wms t (woo m on)).1, (wms t (woo m on)).2)
def woS (si : Int32) : List Int32 → Nat → Int32 → Int32 → List Int32 × List Int32 × List Int32
  | [], _, _, _ => ([], [], [])
  | c :: t, i, on, lost => if fX2_isMark c = 0 then
      (if fX2_isPlain c = 0 ∧ fX2_setOf c = -1 then (si :: (woS si t (i + 1) on 1).1, c :: (woS si t (i + 1) on 1).2.1, nI i :: (woS si t (i + 1) on 1).2.2)
       else ((wms (t.take (lmk t) ++ [c]) on).1 ++ (woS si t (i + 1) (wms (t.take (lmk t) ++ [c]) on).2 0).1, (woS si t (i + 1) (wms (t.take (lmk t) ++ [c]) on).2 0).2.1, (woS si t (i + 1) (wms (t.take (lmk t) ++ [c]) on).2 0).2.2))
    else if lost = 0 then woS si t (i + 1) on lost else ((woS si t (i + 1) on lost).1, c :: (woS si t (i + 1) on lost).2.1, nI i :: (woS si t (i + 1) on lost).2.2)
