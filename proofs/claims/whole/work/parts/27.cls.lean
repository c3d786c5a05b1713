-- the class's own words
theorem drop_cons {α : Type} {l t : List α} {i : Nat} {a : α} (h : l.drop i = a :: t) : l.drop (i + 1) = t ∧ l[i]? = some a := by
  have h1 : (l.drop i).drop 1 = t := by rw [h]; rfl
  have h2 : (l.drop i)[0]? = some a := by rw [h]; rfl
  rw [List.drop_drop] at h1
  rw [List.getElem?_drop] at h2
  exact ⟨h1, h2⟩
theorem preL_congr {f g : Int → Int} {d : Nat} (h : ∀ i : Int, 0 ≤ i → i < (d : Int) → f i = g i) : preL f d = preL g d := by
  unfold preL
  apply List.map_congr_left
  intro a ha
  have := List.mem_range.mp ha
  exact h (a : Int) (by omega) (by omega)
theorem preL_inj {f g : Int → Int} {d : Nat} (h : preL f d = preL g d) : ∀ i : Int, 0 ≤ i → i < (d : Int) → f i = g i := fun i h0 h1 => by
  have h2 := preL_get (line := f) (d := d) (i := i.toNat) (by omega)
  have h3 := preL_get (line := g) (d := d) (i := i.toNat) (by omega)
  rw [h, h3, show ((i.toNat : Nat) : Int) = i by omega] at h2
  exact h2.symm
theorem preL_cp {f g : Int → Int} {n : Int} (hn : n ≤ 8) : preL (cpZ f g) n.toNat = preL f n.toNat := preL_congr (fun i h0 h1 => cpZ_in h0 (by omega))
theorem noise_congr {lo f g : Int → Int} : ∀ {k : Nat}, (∀ i : Int, 0 ≤ i → i ≤ (k : Int) → f i = g i) → noiseS lo f k = noiseS lo g k
  | 0, _ => rfl
  | k + 1, h => by
    have ih := noise_congr (lo := lo) (f := f) (g := g) (k := k) (fun i h0 h1 => h i h0 (by omega))
    show noiseS lo f k + lo (f (k : Int)) * lo (f ((k : Int) + 1)) = noiseS lo g k + lo (g (k : Int)) * lo (g ((k : Int) + 1))
    rw [ih, h (k : Int) (by omega) (by omega), h ((k : Int) + 1) (by omega) (by omega)]
/-- the noise of a row that is written as a list -/
def noiL (lo : Int → Int) (n : Int) (q : List Int) : Int := noiseS lo (fun j => q.getD j.toNat 0) (n - 1).toNat
theorem noiL_pre {lo f : Int → Int} {n : Int} (hn : 0 < n) : noiL lo n (preL f n.toNat) = noiseS lo f (n - 1).toNat := by
  unfold noiL
  apply noise_congr
  intro i h0 h1
  have h2 := preL_get (line := f) (d := n.toNat) (i := i.toNat) (by omega)
  rw [h2, show ((i.toNat : Nat) : Int) = i by omega]
theorem noiL_0 {lo : Int → Int} {q : List Int} : noiL lo 0 q = 0 := rfl
theorem noiL_pre0 {lo f : Int → Int} {n : Int} (hn : 0 ≤ n) : noiL lo n (preL f n.toNat) = noiseS lo f (n - 1).toNat := by
  by_cases h : n = 0
  · subst h; rfl
  · exact noiL_pre (by omega)
/-- the quietest, the first of them -/
def bestK (N : List Int → Int) : Int × List Int → List (List Int) → Int × List Int
  | s, [] => s
  | s, a :: t => if s.1 = -1 ∨ N a < s.1 then bestK N (N a, a) t else bestK N s t
theorem best_t {N : List Int → Int} {s : Int × List Int} {a : List Int} {t : List (List Int)} (h : s.1 = -1 ∨ N a < s.1) : bestK N s (a :: t) = bestK N (N a, a) t := if_pos h
theorem best_f {N : List Int → Int} {s : Int × List Int} {a : List Int} {t : List (List Int)} (h : ¬ (s.1 = -1 ∨ N a < s.1)) : bestK N s (a :: t) = bestK N s t := if_neg h
theorem best_nil {N : List Int → Int} {s t : Int × List Int} (h : bestK N s [] = t) : s.1 = t.1 ∧ s.2 = t.2 := by
  have e : bestK N s [] = s := rfl
  rw [e] at h
  rw [h]; exact ⟨rfl, rfl⟩
theorem best_new {N : List Int → Int} {lst lst' : Int} {bl row : List Int} {q q' : Int → Int} {d : Nat} {t : List (List Int)} {z : Int × List Int} {v : Int} (hb1 : (lst = -1 ∧ bl = []) ∨ (¬ lst = -1 ∧ bl = preL q d)) (hb2 : bestK N (lst, bl) (row :: t) = z) (hv : N row = v) (he : lst' = v) (hq : preL q' d = row) (hlt : lst = -1 ∨ lst' < lst) (hp : 0 ≤ lst') : ∃ bl, ((lst' = -1 ∧ bl = []) ∨ (¬ lst' = -1 ∧ bl = preL q' d)) ∧ bestK N (lst', bl) t = z := by
  refine ⟨row, Or.inr ⟨by omega, hq.symm⟩, ?_⟩
  rw [best_t (by dsimp only; omega)] at hb2
  rw [he, ← hv]
  exact hb2
theorem best_old {N : List Int → Int} {lst : Int} {bl row : List Int} {q : Int → Int} {d : Nat} {t : List (List Int)} {z : Int × List Int} {v : Int} (hb1 : (lst = -1 ∧ bl = []) ∨ (¬ lst = -1 ∧ bl = preL q d)) (hb2 : bestK N (lst, bl) (row :: t) = z) (hv : N row = v) (hlt : ¬ lst = -1 ∧ lst ≤ v) : ∃ bl, ((lst = -1 ∧ bl = []) ∨ (¬ lst = -1 ∧ bl = preL q d)) ∧ bestK N (lst, bl) t = z := by
  refine ⟨bl, hb1, ?_⟩
  rw [best_f (by dsimp only; omega)] at hb2
  exact hb2
