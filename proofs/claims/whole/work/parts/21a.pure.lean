/-! lengths of what is read; putting together in place -/
theorem roS_len : ∀ (n : Nat) (rest : List Int32) (p : Nat) (set : Int32) (wm : List Int32) (fm : Int32) (fr : List Int32), fr.length ≤ 100 → (roS n rest p set wm fm fr).2.length ≤ 100
  | 0, _, _, _, _, _, _, h => h
  | n + 1, rest, p, set, wm, fm, fr, h => by
    rcases rest with _ | ⟨b, t⟩
    · exact h
    · simp only [roS]
      split
      · split
        · exact h
        · exact roS_len n _ _ _ _ _ _ h
      · split
        · exact h
        · split
          · split
            · exact roS_len n _ _ _ _ _ _ (by simp; omega)
            · exact h
          · exact roS_len n _ _ _ _ _ _ h
theorem nwk_lt {c : Int32} {n : Nat} (h : nwk c n = true) : n < 100 := (of_decide_eq_true h).2.2
theorem rnS_len : ∀ (n : Nat) (rest : List Int32) (p : Nat) (fr : List Int32), fr.length ≤ 100 → (rnS n rest p fr).2.length ≤ 100
  | 0, _, _, _, h => h
  | n + 1, rest, p, fr, h => by
    rcases rest with _ | ⟨b, t⟩
    · exact h
    · simp only [rnS]
      split
      · rename_i q
        have := nwk_lt q
        exact rnS_len n _ _ _ (by simp; omega)
      · exact h
theorem tgf_put {f : Nat → Int32} {cap : Nat} {o g t : List Int32} {c v x : Int32} (hok : rw_ok f cap (o ++ g ++ c :: t)) (hc : cap < 2 ^ 31) (hx : x = nI o.length) : rw_ok (upd f x.toNatClampNeg v) cap ((o ++ [v]) ++ (g ++ [c]).tail ++ t) := by
  rcases g with _ | ⟨g0, gt⟩
  · rw [List.append_nil] at hok
    have := rwf_set (c := v) hok hc hx
    simpa using this
  · rw [List.append_assoc, List.cons_append] at hok
    have := rwf_set (c := v) hok hc hx
    simpa using this
def rdM (y1 : List Int32) (v : Int32) : Int32 × List Int32 := if v = 0 then roS (y1.length + 1) y1 0 0 [] 0 [] else rnS (y1.length + 1) y1 0 []
def rmA (y1 : List Int32) (v : Int32) : Int32 := if (rdM y1 v).1 = -1 then nI (ordr (rdM y1 v).2).length else -1 - (rdM y1 v).1
abbrev AWT : Type := Nat × ClassId × (Nat → Int32) × List Int32
theorem i32_2 {v : Int32} (h0 : ¬ v < 0) (h1 : v ≤ 1) (h2 : ¬ v = 1) : v = 0 := (i32_01 h0 h1).resolve_right h2
theorem i32_o {v : Int32} (h : v < 0 ∨ ¬ v ≤ 1) : ¬ v = 0 ∧ ¬ v = 1 := by
  constructor <;> intro q <;> subst q <;> revert h <;> decide
