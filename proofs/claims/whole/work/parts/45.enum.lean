-- going through all rows
noncomputable def fil {α : Type} (V : α → Prop) (L : List α) : List α := L.filter (fun a => @decide (V a) (Classical.propDecidable _))
theorem fil_t {α : Type} {V : α → Prop} {A : List α} {a : α} (h : V a) : fil V (A ++ [a]) = fil V A ++ [a] := by
  unfold fil
  rw [List.filter_append]
  simp [h]
theorem fil_f {α : Type} {V : α → Prop} {A : List α} {a : α} (h : ¬ V a) : fil V (A ++ [a]) = fil V A := by
  unfold fil
  rw [List.filter_append]
  simp [h]
theorem fil_mid {α : Type} {V : α → Prop} {A B : List α} {a : α} (h : V a) : fil V (A ++ a :: B) = fil V A ++ a :: fil V B := by
  unfold fil
  rw [List.filter_append]
  simp [h]
theorem fil_mem {α : Type} {V : α → Prop} {A : List α} {a : α} : a ∈ fil V A ↔ a ∈ A ∧ V a := by
  unfold fil
  rw [List.mem_filter]
  simp
theorem fil_len {α : Type} {V : α → Prop} {A : List α} : (fil V A).length ≤ A.length := by
  unfold fil
  exact List.length_filter_le _ _
section
variable (ki lo sh wo on tw nu : Int → Int) (n cnt : Int)
/-- a row, written as a list, keeps all bars -/
def okL (l : List Int) : Prop := keepsP ki lo sh wo on tw nu (fun j => l.getD j.toNat 0) n cnt
end
section
variable {ki lo sh wo on tw nu f g : Int → Int} {n cnt : Int}
theorem ok_congr {k : Int} (h : ∀ i, 0 ≤ i → i < n → f i = g i) (hk : okP ki lo sh wo on tw nu f n k) (hn : 0 ≤ n) : okP ki lo sh wo on tw nu g n k := by
  obtain ⟨h1, h2, h3⟩ := hk
  refine ⟨fun q => ⟨(h1 q).1, ?_⟩, fun q => ⟨(h2 q).1, ?_⟩, fun q3 q4 i j i0 ij j1 => ?_⟩
  · have z := h1 q
    rw [← h 0 (by omega) (by omega)]; exact z.2
  · have z := h2 q
    rw [← h (n - 1) (by omega) (by omega)]; exact z.2
  · have z := h3 q3 q4 i j i0 ij j1
    unfold brk at z ⊢
    rw [← h i i0 (by omega), ← h j (by omega) j1]; exact z
theorem keeps_iff (hn : 0 ≤ n) : keepsP ki lo sh wo on tw nu f n cnt ↔ okL ki lo sh wo on tw nu n cnt (preL f n.toNat) := by
  have e : ∀ i, 0 ≤ i → i < n → f i = (preL f n.toNat).getD i.toNat 0 := fun i i0 i1 => by
    rw [preL_get (by omega), show ((i.toNat : Nat) : Int) = i by omega]
  unfold okL
  constructor
  · intro h
    exact ⟨fun k k0 k1 => ok_congr e (h.1 k k0 k1) hn, ok_congr e h.2 hn⟩
  · intro h
    exact ⟨fun k k0 k1 => ok_congr (fun i i0 i1 => (e i i0 i1).symm) (h.1 k k0 k1) hn, ok_congr (fun i i0 i1 => (e i i0 i1).symm) h.2 hn⟩
theorem why_m1 {b x y : Int} (h : whyP ki lo sh wo on tw nu f n cnt b x y) : b = -1 ↔ keepsP ki lo sh wo on tw nu f n cnt := by
  rcases h with ⟨h1, h2, h3, h4⟩ | ⟨h1, h2, h3, h4⟩
  · exact ⟨fun _ => h4, fun _ => h1⟩
  · refine ⟨fun q => by omega, fun q => ?_⟩
    exfalso
    rcases h2 with z | z
    · exact bad_ok h4 (q.1 b h1 z)
    · subst z; exact bad_ok h4 q.2
theorem why_ok {b : Int} {P : Int → Int → Prop} (hn : 0 ≤ n) (h : ∃ x y, whyP ki lo sh wo on tw nu f n cnt b x y ∧ P x y) : b = -1 ↔ okL ki lo sh wo on tw nu n cnt (preL f n.toNat) := by
  obtain ⟨x, y, h, _⟩ := h
  rw [why_m1 h, keeps_iff hn]
theorem ext_perm {k : Nat} : ∀ {q l : List Int}, l ∈ ext Kp n k q → q.Nodup → (∀ x ∈ q, 0 ≤ x ∧ x < n) → l.Nodup ∧ ∀ x ∈ l, 0 ≤ x ∧ x < n := by
  induction k with
  | zero => intro q l h h1 h2; rw [List.mem_singleton.mp h]; exact ⟨h1, h2⟩
  | succ k ih =>
    intro q l h h1 h2
    obtain ⟨a, ha, hl⟩ := List.mem_flatMap.mp h
    have hc := mem_cand.mp ha
    refine ih hl ?_ ?_
    · rw [List.nodup_append]
      refine ⟨h1, List.pairwise_singleton _ _, fun x hx y hy e => ?_⟩
      rw [List.mem_singleton.mp hy] at e
      subst e
      exact hc.2.2 hx
    · intro x hx
      rcases List.mem_append.mp hx with hx | hx
      · exact h2 x hx
      · rw [List.mem_singleton.mp hx]; exact ⟨hc.1, hc.2.1⟩
theorem perm_of {h : Int → Int} (hm : preL h n.toNat ∈ ext Kp n n.toNat []) : permP n h := by
  obtain ⟨h1, h2⟩ := ext_perm hm List.Pairwise.nil (fun x hx => absurd hx List.not_mem_nil)
  refine ⟨fun i i0 i1 => h2 _ (mem_preL.mpr ⟨i, i0, by omega, rfl⟩), fun i j i0 ij j1 e => ?_⟩
  have h3 := List.pairwise_iff_getElem.mp h1 i.toNat j.toNat (by rw [preL_len]; omega) (by rw [preL_len]; omega) (by omega)
  apply h3
  unfold preL
  rw [List.getElem_map, List.getElem_map, List.getElem_range, List.getElem_range, show ((i.toNat : Nat) : Int) = i by omega, show ((j.toNat : Nat) : Int) = j by omega]
  exact e
/-- where the model is among all rows -/
def enP (n : Int) (f : Int → Int) (more : Int) (A : List (List Int)) : Prop := (more = 1 ∧ permP n f ∧ ∃ B, ext Kp n n.toNat [] = A ++ preL f n.toNat :: B) ∨ (more = 0 ∧ ext Kp n n.toNat [] = A)
theorem en_first (hn : 0 ≤ n) (h : ∀ k, 0 ≤ k → k < n → f k = k) : enP n f 1 [] := by
  refine Or.inl ⟨rfl, ⟨fun i i0 i1 => by rw [h i i0 i1]; omega, fun i j i0 ij j1 => by rw [h i i0 (by omega), h j (by omega) j1]; omega⟩, ?_⟩
  exact perm_first hn h
theorem en_next {r more : Int} {A : List (List Int)} (hn : 0 ≤ n) (he : enP n f more A) (hm : ¬ more = 0) (h : (r = 0 ∧ g = f ∧ ∀ k, -1 < k → k + 1 < n → f (k + 1) < f k) ∨ (r = 1 ∧ ∃ i j, nextP n f g i j)) : enP n g r (A ++ [preL f n.toNat]) := by
  rcases he with ⟨h1, hp, B, hB⟩ | ⟨h1, _⟩
  · have hnd := ext_nodup (K := Kp) (n := n) (k := n.toNat) (q := [])
    rcases h with ⟨r0, _, hd⟩ | ⟨r1, i, j, hx⟩
    · obtain ⟨A', hA'⟩ := perm_last hn hp hd
      rw [hB] at hnd
      have e := nodup_cut hnd (hB.symm.trans hA')
      exact Or.inr ⟨r0, by rw [hB, e.2]⟩
    · obtain ⟨A', B', hA'⟩ := perm_next hp hx
      rw [hB] at hnd
      have e := nodup_cut hnd (hB.symm.trans hA')
      have hB2 : ext Kp n n.toNat [] = (A ++ [preL f n.toNat]) ++ preL g n.toNat :: B' := by
        rw [hB, e.2]; simp
      exact Or.inl ⟨r1, perm_of (by rw [hB2]; exact List.mem_append.mpr (Or.inr List.mem_cons_self)), B', hB2⟩
  · exact absurd h1 hm
theorem en_perm {more : Int} {A : List (List Int)} (he : enP n f more A) (hm : ¬ more = 0) : permP n f := by
  rcases he with h | h
  · exact h.2.1
  · exact absurd h.1 hm
theorem en_len {more : Int} {A : List (List Int)} (he : enP n f more A) (hm : ¬ more = 0) : (A ++ [preL f n.toNat]).length ≤ (ext Kp n n.toNat []).length := by
  rcases he with ⟨h1, hp, B, hB⟩ | ⟨h1, _⟩
  · rw [hB]
    simp only [List.length_append, List.length_cons, List.length_nil]
    omega
  · exact absurd h1 hm
theorem en_done {more : Int} {A : List (List Int)} (he : enP n f more A) (hm : more = 0) : ext Kp n n.toNat [] = A := by
  rcases he with h | h
  · omega
  · exact h.2
theorem en_nomem {more : Int} {A : List (List Int)} (he : enP n f more A) (hm : ¬ more = 0) : ¬ preL f n.toNat ∈ A := by
  rcases he with ⟨h1, hp, B, hB⟩ | ⟨h1, _⟩
  · have hnd := ext_nodup (K := Kp) (n := n) (k := n.toNat) (q := [])
    rw [hB, List.nodup_append] at hnd
    exact fun q => hnd.2.2 _ q _ List.mem_cons_self rfl
  · exact absurd h1 hm
end
theorem best_app {N : List Int → Int} : ∀ {L : List (List Int)} {s : Int × List Int} {a : List Int}, bestK N s (L ++ [a]) = if (bestK N s L).1 = -1 ∨ N a < (bestK N s L).1 then (N a, a) else bestK N s L
  | [], s, a => rfl
  | b :: L, s, a => by
    by_cases h : s.1 = -1 ∨ N b < s.1
    · rw [List.cons_append, best_t h, best_t h]
      exact best_app
    · rw [List.cons_append, best_f h, best_f h]
      exact best_app
theorem rank_yes {V : List Int → Prop} {n more c : Int} {f row : Int → Int} {A : List (List Int)} (he : enP n f more A) (hm : ¬ more = 0) (e : preL f n.toNat = preL row n.toNat) (hv : V (preL f n.toNat)) (hc : c = ((fil V A).length : Int)) (hA : ¬ preL row n.toNat ∈ A) : (0 ≤ c ∧ (fil V (ext Kp n n.toNat []))[c.toNat]? = some (preL row n.toNat) ∧ ∀ j : Nat, j < c.toNat → ¬ (fil V (ext Kp n n.toNat []))[j]? = some (preL row n.toNat)) ∨ (c = -1 ∧ ∀ j : Nat, ¬ (fil V (ext Kp n n.toNat []))[j]? = some (preL row n.toNat)) := by
  rcases he with ⟨h1, hp, B, hB⟩ | ⟨h1, _⟩
  · refine Or.inl ⟨by omega, ?_, fun j hj q => ?_⟩
    · rw [hB, fil_mid hv, List.getElem?_append_right (by omega), show c.toNat - (fil V A).length = 0 by omega, List.getElem?_cons_zero, e]
    · rw [hB, fil_mid hv, List.getElem?_append_left (by omega)] at q
      exact hA (fil_mem.mp (List.mem_of_getElem? q)).1
  · exact absurd h1 hm
theorem rank_no {V : List Int → Prop} {n : Int} {f row : Int → Int} {P : List (List Int)} (e : preL f n.toNat = preL row n.toNat) (hv : ¬ V (preL f n.toNat)) : (0 ≤ (-1 : Int) ∧ (fil V P)[(-1 : Int).toNat]? = some (preL row n.toNat) ∧ ∀ j : Nat, j < (-1 : Int).toNat → ¬ (fil V P)[j]? = some (preL row n.toNat)) ∨ ((-1 : Int) = -1 ∧ ∀ j : Nat, ¬ (fil V P)[j]? = some (preL row n.toNat)) := by
  refine Or.inr ⟨rfl, fun j q => ?_⟩
  have h := (fil_mem.mp (List.mem_of_getElem? q)).2
  rw [← e] at h
  exact hv h
