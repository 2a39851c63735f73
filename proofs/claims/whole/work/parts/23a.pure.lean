/-! the reference: pure pieces of its writers -/
theorem ps_set {c : Int32} (h : ¬ fX2_setOf c = -1) : fX3_find c / 100 = fX2_setOf c ∧ fX3_find c - fX3_find c / 100 * 100 = fX2_placeInSet c ∧ fX2_isPlain c = 0 := by
  rcases set_cases c with q | ⟨j, s, i, e, hs, hi, e1, e2, e3, e4, hj, hj2⟩
  · exact absurd q h
  · have ef := fnd_hit e4 hs hi e3
    rw [show (100 : Int32) = nI 100 from rfl, pk_mul, nI_add] at ef
    rw [← ef, show (100 : Int32) = nI 100 from rfl, pk_div (by omega) (by decide) (by decide), pk_mul, pk_sub (by omega), e1, e2]
    refine ⟨by congr 1; omega, by congr 1; omega, ?_⟩
    rw [e]
    unfold fX2_isPlain
    rw [if_neg (by rw [show (32 : Int32) = nI 32 from rfl, nI_ltI (by omega) (by decide)]; omega), if_pos (by rw [show (126 : Int32) = nI 126 from rfl, nI_ltI (by decide) (by omega)]; omega)]
theorem ps_wob {c on : Int32} (h : ¬ fX2_setOf c = -1) : psb (fX3_find c) on = wob c on ∧ fX3_find c / 100 = woo c on := by
  obtain ⟨q1, q2, q3⟩ := ps_set h
  refine ⟨?_, by rw [woo, if_pos q3, q1]⟩
  unfold psb wob
  rw [if_pos q3, q2, q1]
set_option maxRecDepth 100000 in
theorem mk_set0 : ∀ j, j < 783 → 768 ≤ j → ¬ fX2_setOf (nI j) = -1 := by decide +kernel
theorem mk_set {c : Int32} (h : ¬ fX2_isMark c = 0) : ¬ fX2_setOf c = -1 := by
  obtain ⟨j, rfl, h1, h2⟩ := mk_in h
  exact mk_set0 j h2 h1
theorem wob_len (c on : Int32) : (wob c on).length ≤ 4 := by unfold wob; split <;> (try split) <;> simp
theorem wms_len : ∀ (ms : List Int32) (on : Int32), (wms ms on).1.length ≤ 4 * ms.length
  | [], _ => Nat.le_refl _
  | m :: t, on => by
    have := wms_len t (woo m on)
    have := wob_len m on
    unfold wms
    rw [List.length_append, List.length_cons]
    omega
theorem ob_app (a b : List Int32) : ob (a ++ b) = ob a ++ ob b := by simp [ob]
theorem ob_len (a : List Int32) : (ob a).length = a.length := by simp [ob]
def il : List Int32 → List Int32 → List Int32
  | c :: cs, p :: ps => c :: p :: il cs ps
  | _, _ => []
def pls : Nat → List Int32 → List Int32
  | _, [] => []
  | i, _ :: t => nI i :: pls (i + 1) t
theorem il_app : ∀ (gs : List Int32) (i : Nat) (a b : List Int32), il (gs ++ a) (pls i gs ++ b) = il gs (pls i gs) ++ il a b
  | [], _, _, _ => rfl
  | c :: t, i, a, b => by
    show c :: nI i :: il (t ++ a) (pls (i + 1) t ++ b) = c :: nI i :: (il t (pls (i + 1) t) ++ il a b)
    rw [il_app t (i + 1) a b]
theorem pls_app : ∀ (gs hs : List Int32) (i : Nat), pls i (gs ++ hs) = pls i gs ++ pls (i + gs.length) hs
  | [], _, _ => rfl
  | c :: t, hs, i => by
    show nI i :: pls (i + 1) (t ++ hs) = nI i :: (pls (i + 1) t ++ pls (i + (t.length + 1)) hs)
    rw [pls_app t hs (i + 1), show i + 1 + t.length = i + (t.length + 1) by omega]
theorem il_snoc (gs : List Int32) (d : Int32) (i : Nat) : il (gs ++ [d]) (pls i (gs ++ [d])) = il gs (pls i gs) ++ [d, nI (i + gs.length)] := by
  rw [pls_app, il_app]
  rfl
theorem il_len : ∀ (gs : List Int32) (i : Nat), (il gs (pls i gs)).length = 2 * gs.length
  | [], _ => rfl
  | c :: t, i => by
    show (il t (pls (i + 1) t)).length + 1 + 1 = 2 * (t.length + 1)
    rw [il_len t (i + 1)]
    omega
theorem lmk_all : ∀ (t : List Int32), ∀ x ∈ t.take (lmk t), ¬ fX2_isMark x = 0
  | [], x, h => by simp [lmk] at h
  | c :: t, x, h => by
    unfold lmk at h
    by_cases q : fX2_isMark c = 0
    · simp [q] at h
    · rw [if_neg q, List.take_succ_cons] at h
      rcases List.mem_cons.mp h with e | e
      · rw [e]; exact q
      · exact lmk_all t x e
def nmk (l : List Int32) : Prop := ∀ c t, l = c :: t → fX2_isMark c = 0
theorem lmk_nmk : ∀ (t : List Int32), nmk (t.drop (lmk t))
  | [], c, u, h => by simp [lmk] at h
  | d :: t, c, u, h => by
    unfold lmk at h
    by_cases q : fX2_isMark d = 0
    · rw [if_pos q, List.drop_zero] at h
      cases h
      exact q
    · rw [if_neg q, List.drop_succ_cons] at h
      exact lmk_nmk t c u h
theorem woS_lost (si : Int32) {l : List Int32} (h : nmk l) (i : Nat) (on z1 z2 : Int32) : woS si l i on z1 = woS si l i on z2 := by
  rcases l with _ | ⟨c, t⟩
  · rfl
  · have := h c t rfl
    simp only [woS, this, if_true]
theorem woS_skip (si : Int32) : ∀ (ms t : List Int32) (i : Nat) (on : Int32), (∀ x ∈ ms, ¬ fX2_isMark x = 0) → woS si (ms ++ t) i on 0 = woS si t (i + ms.length) on 0
  | [], _, _, _, _ => rfl
  | m :: ms, t, i, on, h => by
    have hm := h m (by simp)
    show woS si (m :: (ms ++ t)) i on 0 = _
    simp only [woS, hm, if_false, if_true]
    rw [woS_skip si ms t (i + 1) on (fun x hx => h x (by simp [hx]))]
    rw [List.length_cons, show i + 1 + ms.length = i + (ms.length + 1) by omega]
theorem woS_tell (si : Int32) : ∀ (ms t : List Int32) (i : Nat) (on : Int32), (∀ x ∈ ms, ¬ fX2_isMark x = 0) → woS si (ms ++ t) i on 1 = ((woS si t (i + ms.length) on 1).1, ms ++ (woS si t (i + ms.length) on 1).2.1, pls i ms ++ (woS si t (i + ms.length) on 1).2.2)
  | [], _, _, _, _ => rfl
  | m :: ms, t, i, on, h => by
    have hm := h m (by simp)
    show woS si (m :: (ms ++ t)) i on 1 = _
    simp only [woS, hm, if_false, show ¬ (1 : Int32) = 0 by decide]
    rw [woS_tell si ms t (i + 1) on (fun x hx => h x (by simp [hx]))]
    rw [List.length_cons, show i + 1 + ms.length = i + (ms.length + 1) by omega]
    rfl
theorem grp_can {si c : Int32} {t : List Int32} {i : Nat} {on : Int32} (h1 : fX2_isMark c = 0) (h2 : ¬ (fX2_isPlain c = 0 ∧ fX2_setOf c = -1)) : woS si (c :: t) i on 1 = ((wms (t.take (lmk t) ++ [c]) on).1 ++ (woS si (t.drop (lmk t)) (i + 1 + lmk t) (wms (t.take (lmk t) ++ [c]) on).2 1).1, (woS si (t.drop (lmk t)) (i + 1 + lmk t) (wms (t.take (lmk t) ++ [c]) on).2 1).2.1, (woS si (t.drop (lmk t)) (i + 1 + lmk t) (wms (t.take (lmk t) ++ [c]) on).2 1).2.2) := by
  have e : ∀ o : Int32, woS si t (i + 1) o 0 = woS si (t.drop (lmk t)) (i + 1 + lmk t) o 1 := fun o => by
    have := woS_skip si (t.take (lmk t)) (t.drop (lmk t)) (i + 1) o (lmk_all t)
    rw [List.take_append_drop, List.length_take, Nat.min_eq_left (lmk_le t)] at this
    rw [this]
    exact woS_lost si (lmk_nmk t) _ _ _ _
  simp only [woS, h1, if_true, h2, if_false, e]
theorem grp_lost {si c : Int32} {t : List Int32} {i : Nat} {on : Int32} (h1 : fX2_isMark c = 0) (h2 : fX2_isPlain c = 0 ∧ fX2_setOf c = -1) : woS si (c :: t) i on 1 = (si :: (woS si (t.drop (lmk t)) (i + 1 + lmk t) on 1).1, (c :: t.take (lmk t)) ++ (woS si (t.drop (lmk t)) (i + 1 + lmk t) on 1).2.1, pls i (c :: t.take (lmk t)) ++ (woS si (t.drop (lmk t)) (i + 1 + lmk t) on 1).2.2) := by
  have e := woS_tell si (t.take (lmk t)) (t.drop (lmk t)) (i + 1) on (lmk_all t)
  rw [List.take_append_drop, List.length_take, Nat.min_eq_left (lmk_le t)] at e
  simp only [woS, h1, if_true, h2, and_self, e]
  rfl
theorem grp_mark {si c : Int32} {t : List Int32} {i : Nat} {on : Int32} (h1 : ¬ fX2_isMark c = 0) : woS si (c :: t) i on 1 = ((woS si (t.drop (lmk t)) (i + 1 + lmk t) on 1).1, (c :: t.take (lmk t)) ++ (woS si (t.drop (lmk t)) (i + 1 + lmk t) on 1).2.1, pls i (c :: t.take (lmk t)) ++ (woS si (t.drop (lmk t)) (i + 1 + lmk t) on 1).2.2) := by
  have e := woS_tell si (t.take (lmk t)) (t.drop (lmk t)) (i + 1) on (lmk_all t)
  rw [List.take_append_drop, List.length_take, Nat.min_eq_left (lmk_le t)] at e
  simp only [woS, h1, if_false, show ¬ (1 : Int32) = 0 by decide, e]
  rfl
theorem wnb_0 {c : Int32} (h : ¬ 128 ≤ c) : wnb c = [c] := by
  unfold wnb
  rw [if_pos (bb_0 (i32_nle.mp h))]
theorem wnb_1 {c : Int32} (h1 : 128 ≤ c) (h2 : ¬ 2048 ≤ c) : wnb c = [192 + c / 64, 128 + (c - c / 64 * 64)] := by
  unfold wnb
  have := (bb_1 (i32_nlt.mpr h1) (i32_nle.mp h2)).1
  rw [if_neg (by rw [this]; decide), if_pos this]
theorem wnb_2 {c : Int32} (h2 : 2048 ≤ c) : wnb c = [224 + c / 4096, 128 + (c / 64 - c / 64 / 64 * 64), 128 + (c - c / 64 * 64)] := by
  unfold wnb
  have := (bb_2 h2).1
  rw [if_neg (by rw [this]; decide), if_neg (by rw [this]; decide)]
theorem wnb_len (c : Int32) : (wnb c).length ≤ 3 := by unfold wnb; split <;> (try split) <;> simp
