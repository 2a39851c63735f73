/-! pure rows on lists: places, order, taking apart, putting together -/
theorem rw_at_k {l r : List Int32} {d : Int32} {k : Nat} (hk : l.length = k) (h : k < 2 ^ 31) : rw_at (l ++ d :: r) (nI k) = d := by
  rw [rw_atN h, ← hk]
  simp [List.getD]
theorem rw_at_out {l : List Int32} {k : Nat} (hk : l.length ≤ k) (h : k < 2 ^ 31) : rw_at l (nI k) = -1 := by
  rw [rw_atN h]
  simp [List.getD, List.getElem?_eq_none hk]
theorem rw_put_k {l r : List Int32} {d c : Int32} {k : Nat} (hk : l.length = k) (h : k < 2 ^ 31) : rw_put (l ++ d :: r) (nI k) c = l ++ c :: r := by
  unfold rw_put
  rw [if_neg (nI_pos h), nI_clamp h, ← hk]
  simp
theorem rw_add_lt {cap : Nat} {xs : List Int32} {c : Int32} (h : xs.length < cap) : rw_add cap xs c = xs ++ [c] := by unfold rw_add; rw [if_pos h]
def rv_ins (c : Int32) : List Int32 → List Int32
  | [] => [c]
  | d :: t => if fX2_isMark d = 0 then c :: d :: t else if fX2_rankOf d ≤ fX2_rankOf c then c :: d :: t else d :: rv_ins c t
def rv_stp (acc : List Int32) (c : Int32) : List Int32 := if fX2_isMark c = 0 then c :: acc else rv_ins c acc
def ordr (xs : List Int32) : List Int32 := (xs.foldl rv_stp []).reverse
theorem rv_ins_len (c : Int32) : ∀ l : List Int32, (rv_ins c l).length = l.length + 1
  | [] => rfl
  | d :: t => by
    unfold rv_ins
    split
    · rfl
    · split
      · rfl
      · simp [rv_ins_len c t]
theorem rv_stp_len (acc : List Int32) (c : Int32) : (rv_stp acc c).length = acc.length + 1 := by
  unfold rv_stp
  split
  · rfl
  · exact rv_ins_len c acc
theorem rv_fold_len : ∀ (xs acc : List Int32), (xs.foldl rv_stp acc).length = acc.length + xs.length
  | [], acc => rfl
  | c :: t, acc => by rw [List.foldl_cons, rv_fold_len t, rv_stp_len, List.length_cons]; omega
theorem ordr_len (xs : List Int32) : (ordr xs).length = xs.length := by
  unfold ordr
  rw [List.length_reverse, rv_fold_len]
  simp
theorem mv_at {d z x : Int32} {t sq : List Int32} (hx : x = nI (d :: t).length) (h : t.length < 2 ^ 31) : rw_at ((d :: t).reverse ++ z :: sq) (x - 1) = d := by
  rw [hx, List.length_cons, nI_pred, List.reverse_cons, List.append_assoc]
  exact rw_at_k (by simp) h
theorem mv_put {d z x c : Int32} {t sq : List Int32} (hx : x = nI (d :: t).length) (h : t.length + 1 < 2 ^ 31) : rw_put ((d :: t).reverse ++ z :: sq) x c = t.reverse ++ d :: (c :: sq) := by
  rw [hx, rw_put_k (by simp) (by simpa using h)]
  simp
def ap1 (c : Int32) : List Int32 := if fX2_isComposed c = 0 then [c] else [fX2_letterOf c, fX2_markOf c]
def apt (xs : List Int32) : List Int32 := xs.flatMap ap1
def apo (xs : List Int32) : List Int32 := ordr (apt xs)
theorem ap1_len (c : Int32) : (ap1 c).length ≤ 2 := by unfold ap1; split <;> simp
theorem apt_len : ∀ xs : List Int32, (apt xs).length ≤ 2 * xs.length
  | [] => Nat.le_refl _
  | c :: t => by
    unfold apt
    rw [List.flatMap_cons, List.length_append]
    have := apt_len t
    unfold apt at this
    have := ap1_len c
    simp only [List.length_cons]
    omega
def tog : List Int32 → List Int32
  | [] => []
  | [c] => [c]
  | c :: d :: t => if fX2_isLetter c = 0 then c :: tog (d :: t) else if fX2_isMark d = 0 then c :: tog (d :: t) else fX2_composedOf c d :: tog t
theorem tg_put {o g t : List Int32} {c v x : Int32} (hx : x = nI o.length) (h : o.length < 2 ^ 31) : rw_put (o ++ g ++ c :: t) x v = (o ++ [v]) ++ (g ++ [c]).tail ++ t := by
  subst hx
  rcases g with _ | ⟨g0, gt⟩
  · rw [List.append_nil, rw_put_k rfl h]; simp
  · rw [List.append_assoc, List.cons_append, rw_put_k rfl h]; simp
theorem tg_at {o g t : List Int32} {c x : Int32} (hx : x = nI (o.length + g.length)) (h : o.length + g.length < 2 ^ 31) : rw_at (o ++ g ++ c :: t) x = c := by
  subst hx
  exact rw_at_k (by simp) h
theorem tg_at2 {o g t : List Int32} {c d x : Int32} (hx : x = nI (o.length + g.length)) (h : o.length + g.length + 1 < 2 ^ 31) : rw_at (o ++ g ++ c :: d :: t) (x + 1) = d := by
  subst hx
  rw [nI_1, show o ++ g ++ c :: d :: t = (o ++ g ++ [c]) ++ d :: t by simp]
  exact rw_at_k (by simp; omega) h
theorem tg_at3 {o g : List Int32} {c x : Int32} (hx : x = nI (o.length + g.length)) (h : o.length + g.length + 1 < 2 ^ 31) : rw_at (o ++ g ++ [c]) (x + 1) = -1 := by
  subst hx
  rw [nI_1]
  exact rw_at_out (by simp; omega) h
theorem rw_pre {f : Nat → Int32} {cap : Nat} {l r : List Int32} (h : rw_ok f cap (l ++ r)) : rw_ok f cap l := by
  refine ⟨by have := h.1; rw [List.length_append] at this; omega, fun i hi => ?_⟩
  rw [h.2 i (by rw [List.length_append]; omega)]
  simp [List.getD, List.getElem?_append_left hi]
def pob : List Int32 → Nat → Int64 → Int64 → Int32
  | [], _, _, _ => -1
  | c :: t, k, met, w => if fX2_isMark c = 0 then (if met = w then nI k else pob t (k + 1) (met + 1) w) else pob t (k + 1) met w
def nbs : List Int32 → Nat
  | [] => 0
  | c :: t => if fX2_isMark c = 0 then nbs t + 1 else nbs t
def lmk : List Int32 → Nat
  | [] => 0
  | c :: t => if fX2_isMark c = 0 then 0 else lmk t + 1
theorem nbs_le : ∀ xs : List Int32, nbs xs ≤ xs.length
  | [] => Nat.le_refl _
  | c :: t => by unfold nbs; have := nbs_le t; split <;> simp <;> omega
theorem lmk_le : ∀ xs : List Int32, lmk xs ≤ xs.length
  | [] => Nat.le_refl _
  | c :: t => by unfold lmk; have := lmk_le t; split <;> simp <;> omega
