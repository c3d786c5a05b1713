-- what the two answers share, call by call
theorem fst_uni {P Q : Int → Prop} {n r r' : Int} (hPQ : ∀ i, 0 ≤ i → i < n → (P i ↔ Q i)) (h : fstP P n r) (h' : fstP Q n r') : r = r' := by
  rcases h with ⟨a1, a2⟩ | ⟨a1, a2, a3, a4⟩ <;> rcases h' with ⟨b1, b2⟩ | ⟨b1, b2, b3, b4⟩
  · omega
  · exact absurd ((hPQ r' b1 b2).mpr b3) (a2 r' b1 b2)
  · exact absurd ((hPQ r a1 a2).mp a3) (b2 r a1 a2)
  · rcases Int.lt_trichotomy r r' with q | q | q
    · exact absurd ((hPQ r a1 a2).mp a3) (b4 r a1 q)
    · exact q
    · exact absurd ((hPQ r' b1 b2).mpr b3) (a4 r' b1 q)
theorem brk_congr {ki lo sh wo on tw nu f g : Int → Int} {k i j : Int} (hi : f i = g i) (hj : f j = g j) : brk ki lo sh wo on tw nu f k i j ↔ brk ki lo sh wo on tw nu g k i j := by
  unfold brk
  rw [hi, hj]
section
variable {ki lo sh wo on tw nu f g : Int → Int} {n cnt : Int}
theorem fstPair_congr (H : ∀ i, 0 ≤ i → i < n → f i = g i) {k i j : Int} (h : fstPair ki lo sh wo on tw nu f n k i j) : fstPair ki lo sh wo on tw nu g n k i j := by
  obtain ⟨h0, h1, h2, h3, h4, h5⟩ := h
  refine ⟨h0, h1, h2, (brk_congr (H i h0 (by omega)) (H j (by omega) h2)).mp h3, fun a a0 a1 b b0 b1 q => ?_, fun b b0 b1 q => ?_⟩
  · exact h4 a a0 a1 b b0 b1 ((brk_congr (H a a0 (by omega)) (H b (by omega) b1)).mpr q)
  · exact h5 b b0 b1 ((brk_congr (H i h0 (by omega)) (H b (by omega) (by omega))).mpr q)
theorem bad_congr (H : ∀ i, 0 ≤ i → i < n → f i = g i) (hn : 0 ≤ n) {k i j : Int} (h : badP ki lo sh wo on tw nu f n k i j) : badP ki lo sh wo on tw nu g n k i j := by
  rcases h with ⟨h1, h2⟩ | ⟨h1, h2⟩ | ⟨h1, h2, h3⟩
  · refine Or.inl ⟨h1, ?_⟩
    rcases h2 with h2 | ⟨z, q, r⟩
    · exact Or.inl h2
    · exact Or.inr ⟨z, by rw [← H 0 (by omega) (by omega)]; exact q, r⟩
  · refine Or.inr (Or.inl ⟨h1, ?_⟩)
    rcases h2 with h2 | ⟨z, q, r⟩
    · exact Or.inl h2
    · exact Or.inr ⟨z, by rw [← H (n - 1) (by omega) (by omega)]; exact q, r⟩
  · exact Or.inr (Or.inr ⟨h1, h2, fstPair_congr H h3⟩)
theorem why_congr (H : ∀ i, 0 ≤ i → i < n → f i = g i) (hn : 0 ≤ n) {b l r : Int} (h : whyP ki lo sh wo on tw nu f n cnt b l r) : whyP ki lo sh wo on tw nu g n cnt b l r := by
  rcases h with ⟨h1, h2, h3, h4⟩ | ⟨h1, h2, h3, h4⟩
  · exact Or.inl ⟨h1, h2, h3, fun k k0 k1 => ok_congr H (h4.1 k k0 k1) hn, ok_congr H h4.2 hn⟩
  · exact Or.inr ⟨h1, h2, fun k k0 k1 k2 => ok_congr H (h3 k k0 k1 k2) hn, bad_congr H hn h4⟩
end
theorem hole_congr {le line line' heads out : Int → Int} : ∀ k : Nat, (∀ i, 0 ≤ i → i < (k : Int) → line i = line' i) → holeK le line heads out k = holeK le line' heads out k
  | 0, _ => rfl
  | k + 1, h => by
    have ih := hole_congr (le := le) (heads := heads) (out := out) k (fun i i0 i1 => h i i0 (by omega))
    unfold holeK
    rw [ih, h (k : Int) (by omega) (by omega)]
theorem ends_congr {line line' heads out : Int → Int} : ∀ k : Nat, (∀ i, 0 ≤ i → i < (k : Int) → line i = line' i) → endsK line heads out k = endsK line' heads out k
  | 0, _ => rfl
  | k + 1, h => by
    have ih := ends_congr (heads := heads) (out := out) k (fun i i0 i1 => h i i0 (by omega))
    unfold endsK
    rw [ih, h (k : Int) (by omega) (by omega)]
theorem run_uni {Q : Nat → Prop} {t : Int} {k k' : Nat} (h1 : (k : Int) ≤ t) (h2 : (k : Int) = t ∨ Q k) (h3 : ∀ j : Nat, j < k → ¬ Q j) (h1' : (k' : Int) ≤ t) (h2' : (k' : Int) = t ∨ Q k') (h3' : ∀ j : Nat, j < k' → ¬ Q j) : k = k' := by
  rcases Nat.lt_trichotomy k k' with q | q | q
  · rcases h2 with z | z
    · omega
    · exact absurd z (h3' k q)
  · exact q
  · rcases h2' with z | z
    · omega
    · exact absurd z (h3 k' q)
-- the guests on the road, one behind the other
def ordP (n : Int) (le line heads out : Int → Int) : Prop := ∀ i j, 0 ≤ i → i < j → j < n → out (line i) = -1 → out (line j) = -1 → heads (line j) = -1 ∨ heads (line j) < heads (line i) - le (line i) + 1
section
variable {ki le : Int → Int} {cells gap : Int} {stands line : Int → Int} {now n : Int} {s : PS}
theorem ord_act {p : Int} (hg : 0 ≤ gap) (hn : 0 ≤ now) (hinj : ∀ i j, 0 ≤ i → i < j → j < n → ¬ line i = line j) (hle : ∀ i, 0 ≤ i → i < n → 1 ≤ le (line i)) (hp : 0 ≤ p ∧ p < n) (h : ordP n le line s.1 s.2.2.2) (hm : ∀ i, 0 ≤ i → i < n → -1 ≤ s.1 (line i)) : ordP n le line (actF ki le cells gap stands line now p s).1 (actF ki le cells gap stands line now p s).2.2.2 ∧ ∀ i, 0 ≤ i → i < n → -1 ≤ (actF ki le cells gap stands line now p s).1 (line i) := by
  unfold actF
  by_cases hb : 0 < s.2.1 (line p)
  · rw [if_pos hb]
    exact ⟨h, hm⟩
  · rw [if_neg hb]
    by_cases hc : goP now (ki (line p)) ∧ roomP le gap line p s.1 s.2.2.2
    · rw [ifP_t hc]
      have hne : ∀ i, 0 ≤ i → i < n → ¬ i = p → ¬ line i = line p := fun i i0 i1 q e => by
        rcases Int.lt_trichotomy i p with z | z | z
        · exact hinj i p i0 z hp.2 e
        · exact q z
        · exact hinj p i hp.1 z i1 e.symm
      unfold arrF
      dsimp only
      have hout : ∀ g, (if cells ≤ uZ s.1 (line p) (s.1 (line p) + 1) (line p) - le (line p) + 1 then uZ s.2.2.2 (line p) now else s.2.2.2) g = -1 → s.2.2.2 g = -1 := fun g q => by
        by_cases w : cells ≤ uZ s.1 (line p) (s.1 (line p) + 1) (line p) - le (line p) + 1
        · rw [if_pos w] at q
          by_cases e : g = line p
          · rw [e, uZ_s] at q; omega
          · rw [uZ_n e] at q; exact q
        · rw [if_neg w] at q; exact q
      refine ⟨fun i j i0 ij jn oi oj => ?_, fun i i0 i1 => ?_⟩
      · have oi' := hout _ oi
        have oj' := hout _ oj
        by_cases qj : j = p
        · subst qj
          rw [uZ_s, uZ_n (hne i i0 (by omega) (by omega))]
          refine Or.inr ?_
          have mp := hm j hp.1 hp.2
          rcases hc.2 with z | ⟨k, k0, k1, k2, k3, k4⟩
          · exact absurd oi' (z i i0 ij)
          · have lk := hle k k0 (by omega)
            rcases Int.lt_trichotomy i k with q | q | q
            · rcases h i k i0 q (by omega) oi' k2 with w | w <;> omega
            · subst q; omega
            · exact absurd oi' (k3 i q ij)
        · by_cases qi : i = p
          · subst qi
            rw [uZ_s, uZ_n (hne j (by omega) jn qj)]
            rcases h i j i0 ij jn oi' oj' with w | w
            · exact Or.inl w
            · exact Or.inr (by omega)
          · rw [uZ_n (hne j (by omega) jn qj), uZ_n (hne i i0 (by omega) qi)]
            exact h i j i0 ij jn oi' oj'
      · by_cases q : i = p
        · subst q
          rw [uZ_s]
          have mp := hm i i0 i1
          omega
        · rw [uZ_n (hne i i0 i1 q)]
          exact hm i i0 i1
    · rw [ifP_f hc]
      exact ⟨h, hm⟩
theorem ord_step (hg : 0 ≤ gap) (hn : 0 ≤ now) (hinj : ∀ i j, 0 ≤ i → i < j → j < n → ¬ line i = line j) (hle : ∀ i, 0 ≤ i → i < n → 1 ≤ le (line i)) (h : ordP n le line s.1 s.2.2.2) (hm : ∀ i, 0 ≤ i → i < n → -1 ≤ s.1 (line i)) : ∀ k : Nat, (k : Int) ≤ n → ordP n le line (stepK ki le cells gap stands line now k s).1 (stepK ki le cells gap stands line now k s).2.2.2 ∧ ∀ i, 0 ≤ i → i < n → -1 ≤ (stepK ki le cells gap stands line now k s).1 (line i)
  | 0, _ => ⟨h, hm⟩
  | k + 1, hk => by
    have ih := ord_step hg hn hinj hle h hm k (by omega)
    by_cases c : (stepK ki le cells gap stands line now k s).2.2.2 (line (k : Int)) = -1
    · have e : stepK ki le cells gap stands line now (k + 1) s = actF ki le cells gap stands line now (k : Int) (stepK ki le cells gap stands line now k s) := ifP_t c
      rw [e]
      exact ord_act hg hn hinj hle ⟨by omega, by omega⟩ ih.1 ih.2
    · have e : stepK ki le cells gap stands line now (k + 1) s = stepK ki le cells gap stands line now k s := ifP_f c
      rw [e]
      exact ih
theorem ord_run (hz : 0 ≤ n) (hg : 0 ≤ gap) (hn : 0 ≤ now) (hinj : ∀ i j, 0 ≤ i → i < j → j < n → ¬ line i = line j) (hle : ∀ i, 0 ≤ i → i < n → 1 ≤ le (line i)) (h : ordP n le line s.1 s.2.2.2) (hm : ∀ i, 0 ≤ i → i < n → -1 ≤ s.1 (line i)) : ∀ k : Nat, ordP n le line (runK ki le cells gap stands line n now s k).1 (runK ki le cells gap stands line n now s k).2.2.2 ∧ ∀ i, 0 ≤ i → i < n → -1 ≤ (runK ki le cells gap stands line n now s k).1 (line i)
  | 0 => ⟨h, hm⟩
  | k + 1 => by
    have ih := ord_run hz hg hn hinj hle h hm k
    have e : runK ki le cells gap stands line n now s (k + 1) = stepK ki le cells gap stands line (now + (k : Int) + 1) n.toNat (runK ki le cells gap stands line n now s k) := rfl
    rw [e]
    exact ord_step hg (by omega) hinj hle ih.1 ih.2 n.toNat (by omega)
end
theorem ord_out {n : Int} {le line heads out : Int → Int} {g v : Int} (h : ordP n le line heads out) (hv : 0 ≤ v) : ordP n le line heads (uZ out g v) := by
  have ho : ∀ x, uZ out g v x = -1 → out x = -1 := fun x q => by
    by_cases e : x = g
    · rw [e, uZ_s] at q; omega
    · rw [uZ_n e] at q; exact q
  exact fun i j i0 ij jn oi oj => h i j i0 ij jn (ho _ oi) (ho _ oj)
theorem ord_start {n : Int} {le line heads out : Int → Int} (h : ∀ i, 0 ≤ i → i < n → heads (line i) = -1) : ordP n le line heads out := fun i j i0 ij jn _ _ => Or.inl (h j (by omega) jn)
theorem cov_one {n : Int} {le line heads out : Int → Int} {c i j : Int} (h : ordP n le line heads out) (hi : 0 ≤ i ∧ i < n) (hj : 0 ≤ j ∧ j < n) (ci : covP le heads out c (line i)) (cj : covP le heads out c (line j)) : line i = line j := by
  obtain ⟨⟨a1, a2⟩, a3, a4⟩ := ci
  obtain ⟨⟨b1, b2⟩, b3, b4⟩ := cj
  rcases Int.lt_trichotomy i j with q | q | q
  · rcases h i j hi.1 q hj.2 a2 b2 with w | w <;> omega
  · rw [q]
  · rcases h j i hj.1 q hi.2 b2 a2 with w | w <;> omega
