-- the first pair that breaks a bar, the first bar that is broken
section
variable (ki lo sh wo on tw nu f : Int → Int) (n : Int)
def brk (k i j : Int) : Prop := brAt ki lo sh wo on tw nu (f i) (f j) (j - i) k
def noPair (k : Int) : Prop := ∀ i j, 0 ≤ i → i < j → j < n → ¬ brk ki lo sh wo on tw nu f k i j
def fstPair (k i j : Int) : Prop := 0 ≤ i ∧ i < j ∧ j < n ∧ brk ki lo sh wo on tw nu f k i j ∧ (∀ a, 0 ≤ a → a < i → ∀ b, a < b → b < n → ¬ brk ki lo sh wo on tw nu f k a b) ∧ (∀ b, i < b → b < j → ¬ brk ki lo sh wo on tw nu f k i b)
def badP (k i j : Int) : Prop := (wo k = 3 ∧ ((n = 0 ∧ i = 0 ∧ j = 0) ∨ (¬ n = 0 ∧ ¬ isP ki (on k) (f 0) ∧ i = 0 ∧ j = 0))) ∨ (wo k = 4 ∧ ((n = 0 ∧ i = 0 ∧ j = 0) ∨ (¬ n = 0 ∧ ¬ isP ki (on k) (f (n - 1)) ∧ i = n - 1 ∧ j = n - 1))) ∨ (¬ wo k = 3 ∧ ¬ wo k = 4 ∧ fstPair ki lo sh wo on tw nu f n k i j)
def okP (k : Int) : Prop := (wo k = 3 → ¬ n = 0 ∧ isP ki (on k) (f 0)) ∧ (wo k = 4 → ¬ n = 0 ∧ isP ki (on k) (f (n - 1))) ∧ (¬ wo k = 3 → ¬ wo k = 4 → noPair ki lo sh wo on tw nu f n k)
def keepsP (cnt : Int) : Prop := (∀ k, 0 ≤ k → k < cnt → okP ki lo sh wo on tw nu f n k) ∧ okP ki lo sh wo on tw nu f n 10
def whyP (cnt bar le gr : Int) : Prop := (bar = -1 ∧ le = -1 ∧ gr = -1 ∧ keepsP ki lo sh wo on tw nu f n cnt) ∨ (0 ≤ bar ∧ (bar < cnt ∨ bar = 10) ∧ (∀ k, 0 ≤ k → k < cnt → k < bar → okP ki lo sh wo on tw nu f n k) ∧ badP ki lo sh wo on tw nu f n bar le gr)
end
section
variable {ki lo sh wo on tw nu f : Int → Int} {n : Int}
theorem fst_eq {k i j a b : Int} (h : fstPair ki lo sh wo on tw nu f n k i j) (g : fstPair ki lo sh wo on tw nu f n k a b) : i = a ∧ j = b := by
  obtain ⟨h0, h1, h2, h3, h4, h5⟩ := h
  obtain ⟨g0, g1, g2, g3, g4, g5⟩ := g
  have e : i = a := by
    rcases Int.lt_trichotomy i a with q | q | q
    · exact absurd h3 (g4 i h0 q j h1 h2)
    · exact q
    · exact absurd g3 (h4 a g0 q b g1 g2)
  subst e
  rcases Int.lt_trichotomy j b with q | q | q
  · exact absurd h3 (g5 j h1 q)
  · exact ⟨rfl, q⟩
  · exact absurd g3 (h5 b g1 q)
theorem bad_eq {k i j a b : Int} (h : badP ki lo sh wo on tw nu f n k i j) (g : badP ki lo sh wo on tw nu f n k a b) : i = a ∧ j = b := by
  rcases h with ⟨h1, h2⟩ | ⟨h1, h2⟩ | ⟨h1, h2, h3⟩ <;> rcases g with ⟨g1, g2⟩ | ⟨g1, g2⟩ | ⟨g1, g2, g3⟩ <;> first | omega | exact fst_eq h3 g3
theorem bad_ok {k i j : Int} (h : badP ki lo sh wo on tw nu f n k i j) (g : okP ki lo sh wo on tw nu f n k) : False := by
  obtain ⟨g1, g2, g3⟩ := g
  rcases h with ⟨h1, h2⟩ | ⟨h1, h2⟩ | ⟨h1, h2, h3⟩
  · have q := g1 h1
    rcases h2 with h2 | h2
    · exact q.1 h2.1
    · exact h2.2.1 q.2
  · have q := g2 h1
    rcases h2 with h2 | h2
    · exact q.1 h2.1
    · exact h2.2.1 q.2
  · exact g3 h1 h2 _ _ h3.1 h3.2.1 h3.2.2.1 h3.2.2.2.1
theorem why_eq {cnt b l g b' l' g' : Int} (hc : cnt ≤ 10) (h : whyP ki lo sh wo on tw nu f n cnt b l g) (k : whyP ki lo sh wo on tw nu f n cnt b' l' g') : b = b' ∧ l = l' ∧ g = g' := by
  rcases h with ⟨h1, h2, h3, h4⟩ | ⟨h1, h2, h3, h4⟩
  · rcases k with ⟨k1, k2, k3, k4⟩ | ⟨k1, k2, k3, k4⟩
    · omega
    · exfalso
      rcases k2 with q | q
      · exact bad_ok k4 (h4.1 _ k1 q)
      · subst q; exact bad_ok k4 h4.2
  · rcases k with ⟨k1, k2, k3, k4⟩ | ⟨k1, k2, k3, k4⟩
    · exfalso
      rcases h2 with q | q
      · exact bad_ok h4 (k4.1 _ h1 q)
      · subst q; exact bad_ok h4 k4.2
    · have e : b = b' := by
        rcases Int.lt_trichotomy b b' with q | q | q
        · exact absurd (k3 b h1 (by omega) q) (fun z => bad_ok h4 z)
        · exact q
        · exact absurd (h3 b' k1 (by omega) q) (fun z => bad_ok k4 z)
      subst e
      have q := bad_eq h4 k4
      omega
theorem why_next {cnt i k bar le gr bar' le' gr' : Int} (hI : (bar = -1 ∧ le = -1 ∧ gr = -1 ∧ (∀ k, 0 ≤ k → k < i → k < cnt → okP ki lo sh wo on tw nu f n k) ∧ (cnt < i → okP ki lo sh wo on tw nu f n 10)) ∨ (¬ bar = -1 ∧ whyP ki lo sh wo on tw nu f n cnt bar le gr)) (hb : bar = -1) (hk : (i < cnt ∧ k = i) ∨ (cnt ≤ i ∧ k = 10)) (hi : 0 ≤ i ∧ i ≤ cnt ∧ cnt ≤ 10) (hp : (badP ki lo sh wo on tw nu f n k le' gr' ∧ bar' = k) ∨ (okP ki lo sh wo on tw nu f n k ∧ bar' = bar ∧ le' = le ∧ gr' = gr)) : (bar' = -1 ∧ le' = -1 ∧ gr' = -1 ∧ (∀ k, 0 ≤ k → k < i + 1 → k < cnt → okP ki lo sh wo on tw nu f n k) ∧ (cnt < i + 1 → okP ki lo sh wo on tw nu f n 10)) ∨ (¬ bar' = -1 ∧ whyP ki lo sh wo on tw nu f n cnt bar' le' gr') := by
  rcases hI with ⟨h1, h2, h3, h4, h5⟩ | ⟨h1, -⟩
  · rcases hp with ⟨p1, p2⟩ | ⟨p1, p2, p3, p4⟩
    · refine Or.inr ⟨by omega, Or.inr ⟨by omega, by omega, fun a a0 a1 a2 => h4 a a0 (by omega) a1, by rw [p2]; exact p1⟩⟩
    · refine Or.inl ⟨by omega, by omega, by omega, fun a a0 a1 a2 => ?_, fun q => ?_⟩
      · by_cases e : a = i
        · rw [e, show i = k by omega]; exact p1
        · exact h4 a a0 (by omega) a2
      · rw [show (10 : Int) = k by omega]; exact p1
  · exact absurd hb h1
theorem why_done {cnt i bar le gr : Int} (hI : (bar = -1 ∧ le = -1 ∧ gr = -1 ∧ (∀ k, 0 ≤ k → k < i → k < cnt → okP ki lo sh wo on tw nu f n k) ∧ (cnt < i → okP ki lo sh wo on tw nu f n 10)) ∨ (¬ bar = -1 ∧ whyP ki lo sh wo on tw nu f n cnt bar le gr)) (hd : cnt < i ∨ ¬ bar = -1) : whyP ki lo sh wo on tw nu f n cnt bar le gr := by
  rcases hI with ⟨h1, h2, h3, h4, h5⟩ | ⟨h1, h2⟩
  · exact Or.inl ⟨h1, h2, h3, fun k k0 k1 => h4 k k0 (by omega) k1, h5 (by omega)⟩
  · exact h2
end
section
variable {ki lo sh wo on tw nu f : Int → Int} {n k p bar le gr bar0 le0 gr0 : Int}
theorem end_bad0 (hp : (wo k = 3 ∧ p = 0) ∨ (wo k = 4 ∧ p = n - 1)) (hn : n = 0) (h1 : bar = k) (h2 : le = 0) (h3 : gr = 0) : (badP ki lo sh wo on tw nu f n k le gr ∧ bar = k) ∨ (okP ki lo sh wo on tw nu f n k ∧ bar = bar0 ∧ le = le0 ∧ gr = gr0) := by
  refine Or.inl ⟨?_, h1⟩
  rcases hp with hp | hp
  · exact Or.inl ⟨hp.1, Or.inl ⟨hn, h2, h3⟩⟩
  · exact Or.inr (Or.inl ⟨hp.1, Or.inl ⟨hn, h2, h3⟩⟩)
theorem end_bad1 (hp : (wo k = 3 ∧ p = 0) ∨ (wo k = 4 ∧ p = n - 1)) (hn : ¬ n = 0) (hi : ¬ isP ki (on k) (f p)) (h1 : bar = k) (h2 : le = p) (h3 : gr = p) : (badP ki lo sh wo on tw nu f n k le gr ∧ bar = k) ∨ (okP ki lo sh wo on tw nu f n k ∧ bar = bar0 ∧ le = le0 ∧ gr = gr0) := by
  refine Or.inl ⟨?_, h1⟩
  rcases hp with hp | hp
  · rw [hp.2] at hi h2 h3
    exact Or.inl ⟨hp.1, Or.inr ⟨hn, hi, h2, h3⟩⟩
  · rw [hp.2] at hi h2 h3
    exact Or.inr (Or.inl ⟨hp.1, Or.inr ⟨hn, hi, h2, h3⟩⟩)
theorem end_ok (hp : (wo k = 3 ∧ p = 0) ∨ (wo k = 4 ∧ p = n - 1)) (hn : ¬ n = 0) (hi : isP ki (on k) (f p)) : (badP ki lo sh wo on tw nu f n k le0 gr0 ∧ bar0 = k) ∨ (okP ki lo sh wo on tw nu f n k ∧ bar0 = bar0 ∧ le0 = le0 ∧ gr0 = gr0) := by
  refine Or.inr ⟨?_, rfl, rfl, rfl⟩
  rcases hp with hp | hp
  · rw [hp.2] at hi
    exact ⟨fun _ => ⟨hn, hi⟩, fun q => by omega, fun q => absurd hp.1 q⟩
  · rw [hp.2] at hi
    exact ⟨fun q => by omega, fun _ => ⟨hn, hi⟩, fun _ q => absurd hp.1 q⟩
end
