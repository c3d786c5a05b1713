-- the quietest, over all rows
theorem mb_old {V : List Int → Prop} {N : List Int → Int} {lst v : Int} {bl row : List Int} {q : Int → Int} {d : Nat} {A : List (List Int)} (hb1 : (lst = -1 ∧ bl = []) ∨ (¬ lst = -1 ∧ bl = preL q d)) (hb2 : bestK N (-1, []) (fil V A) = (lst, bl)) (hv : N row = v) (hlt : ¬ lst = -1 ∧ lst ≤ v) : ∃ bl, ((lst = -1 ∧ bl = []) ∨ (¬ lst = -1 ∧ bl = preL q d)) ∧ bestK N (-1, []) (fil V (A ++ [row])) = (lst, bl) := by
  refine ⟨bl, hb1, ?_⟩
  by_cases h : V row
  · rw [fil_t h, best_app, hb2, if_neg (by dsimp only; omega)]
  · rw [fil_f h, hb2]
theorem mb_bad {V : List Int → Prop} {N : List Int → Int} {lst : Int} {bl row : List Int} {q : Int → Int} {d : Nat} {A : List (List Int)} (hb1 : (lst = -1 ∧ bl = []) ∨ (¬ lst = -1 ∧ bl = preL q d)) (hb2 : bestK N (-1, []) (fil V A) = (lst, bl)) (h : ¬ V row) : ∃ bl, ((lst = -1 ∧ bl = []) ∨ (¬ lst = -1 ∧ bl = preL q d)) ∧ bestK N (-1, []) (fil V (A ++ [row])) = (lst, bl) := by
  refine ⟨bl, hb1, ?_⟩
  rw [fil_f h, hb2]
theorem mb_new {V : List Int → Prop} {N : List Int → Int} {lst lst' v : Int} {bl row : List Int} {q q' : Int → Int} {d : Nat} {A : List (List Int)} (hb1 : (lst = -1 ∧ bl = []) ∨ (¬ lst = -1 ∧ bl = preL q d)) (hb2 : bestK N (-1, []) (fil V A) = (lst, bl)) (hv : N row = v) (h : V row) (he : lst' = v) (hq : preL q' d = row) (hlt : lst = -1 ∨ v < lst) (hp : 0 ≤ v) : ∃ bl, ((lst' = -1 ∧ bl = []) ∨ (¬ lst' = -1 ∧ bl = preL q' d)) ∧ bestK N (-1, []) (fil V (A ++ [row])) = (lst', bl) := by
  refine ⟨row, Or.inr ⟨by omega, hq.symm⟩, ?_⟩
  rw [fil_t h, best_app, hb2, if_pos (by dsimp only; omega), hv, he]
theorem noise_row {lo f g : Int → Int} {n : Int} (h : ∀ k, 0 ≤ k → k < n → f k = g k) (hn : 0 ≤ n) : noiseS lo f (n - 1).toNat = noiseS lo g (n - 1).toNat := by
  by_cases q : n ≤ 0
  · rw [show (n - 1).toNat = 0 by omega]; rfl
  · exact noise_congr (fun i i0 i1 => h i i0 (by omega))
theorem why_row {ki lo sh wo on tw nu f g : Int → Int} {n cnt b w r one two : Int} (h : ∀ k, 0 ≤ k → k < n → f k = g k) (hn : 0 ≤ n) (hw : ∃ x y, whyP ki lo sh wo on tw nu f n cnt b x y ∧ (¬ b = -1 → x = one ∧ y = two)) (hr : (b = -1 ∧ r = -1) ∨ (¬ b = -1 ∧ ((w = 0 ∧ r = b) ∨ (w = 1 ∧ r = one) ∨ (w = 2 ∧ r = two))) ∨ ((w < 0 ∨ 2 < w) ∧ r = -1)) : ∃ b l c, whyP ki lo sh wo on tw nu g n cnt b l c ∧ ((w = 0 ∧ r = b) ∨ (w = 1 ∧ r = l) ∨ (w = 2 ∧ r = c) ∨ ((w < 0 ∨ 2 < w) ∧ r = -1)) := by
  obtain ⟨x, y, h1, h2⟩ := hw
  refine ⟨b, x, y, ?_, ?_⟩
  · have hk : ∀ k, okP ki lo sh wo on tw nu f n k → okP ki lo sh wo on tw nu g n k := fun k z => ok_congr h z hn
    rcases h1 with ⟨z1, z2, z3, z4⟩ | ⟨z1, z2, z3, z4⟩
    · exact Or.inl ⟨z1, z2, z3, fun k k0 k1 => hk k (z4.1 k k0 k1), hk 10 z4.2⟩
    · refine Or.inr ⟨z1, z2, fun k k0 k1 k2 => hk k (z3 k k0 k1 k2), ?_⟩
      rcases z4 with ⟨q1, q2⟩ | ⟨q1, q2⟩ | ⟨q1, q2, q3⟩
      · refine Or.inl ⟨q1, ?_⟩
        rcases q2 with q2 | q2
        · exact Or.inl q2
        · exact Or.inr ⟨q2.1, by rw [← h 0 (by omega) (by omega)]; exact q2.2.1, q2.2.2⟩
      · refine Or.inr (Or.inl ⟨q1, ?_⟩)
        rcases q2 with q2 | q2
        · exact Or.inl q2
        · exact Or.inr ⟨q2.1, by rw [← h (n - 1) (by omega) (by omega)]; exact q2.2.1, q2.2.2⟩
      · refine Or.inr (Or.inr ⟨q1, q2, q3.1, q3.2.1, q3.2.2.1, ?_, fun a a0 a1 c c0 c1 => ?_, fun c c0 c1 => ?_⟩)
        · have z := q3.2.2.2.1
          have q0 := q3.1; have q01 := q3.2.1; have q02 := q3.2.2.1
          unfold brk at z ⊢
          rw [← h x (by omega) (by omega), ← h y (by omega) (by omega)]; exact z
        · have z := q3.2.2.2.2.1 a a0 a1 c c0 c1
          unfold brk at z ⊢
          rw [← h a (by omega) (by omega), ← h c (by omega) (by omega)]; exact z
        · have z := q3.2.2.2.2.2 c c0 c1
          have q0 := q3.1; have q01 := q3.2.1; have q02 := q3.2.2.1
          unfold brk at z ⊢
          rw [← h x (by omega) (by omega), ← h c (by omega) (by omega)]; exact z
  · rcases h1 with ⟨z1, z2, z3, z4⟩ | ⟨z1, z2, z3, z4⟩
    · omega
    · have q := h2 (by omega)
      omega
