-- a row that a number lays, guest by guest
def layQ (i n v : Int) : Prop := (∀ k, 0 ≤ k → k < i → nib v k < n) ∧ (∀ a b, 0 ≤ a → a < b → b < i → ¬ nib v a = nib v b)
theorem lay_grow {n v i seen : Int} (h : layQ i n v) (hs : ∀ j, 0 ≤ j → j ≤ 15 → (mb seen j ↔ ∃ k, 0 ≤ k ∧ k < i ∧ nib v k = j)) (hn : nib v i < n) (hb : ¬ mb seen (nib v i)) : layQ (i + 1) n v := by
  have hr := nib_r (v := v) (i := i)
  refine ⟨all_s h.1 hn, fun a b a0 ab b1 => ?_⟩
  by_cases e : b = i
  · subst e
    exact fun z => hb ((hs (nib v b) hr.1 hr.2).mpr ⟨a, a0, ab, z⟩)
  · exact h.2 a b a0 ab (by omega)
theorem lay_all {n v i : Int} (h : layQ i n v) (e : i = n) : layP n v := by
  subst e; exact h
theorem lay_dup {n v i seen : Int} (hs : ∀ j, 0 ≤ j → j ≤ 15 → (mb seen j ↔ ∃ k, 0 ≤ k ∧ k < i ∧ nib v k = j)) (q : layP n v) (hi : i < n) (hb : mb seen (nib v i)) : False := by
  have hr := nib_r (v := v) (i := i)
  obtain ⟨k, k0, k1, e⟩ := (hs (nib v i) hr.1 hr.2).mp hb
  exact q.2 k i k0 k1 hi e
