-- all rows in their order, and the next of each
def Kp : List Int → Int → Prop := fun q j => ¬ j ∈ q
theorem mem_cand {K : List Int → Int → Prop} {n : Int} {q : List Int} {j : Int} : j ∈ cand K n q ↔ 0 ≤ j ∧ j < n ∧ K q j := by
  unfold cand
  rw [List.mem_filter]
  constructor
  · rintro ⟨h1, h2⟩
    obtain ⟨k, hk, rfl⟩ := List.mem_map.mp h1
    have hk2 := List.mem_range.mp hk
    exact ⟨by omega, by omega, by simpa using h2⟩
  · rintro ⟨h0, h1, h2⟩
    exact ⟨List.mem_map.mpr ⟨j.toNat, List.mem_range.mpr (by omega), by omega⟩, by simpa using h2⟩
theorem cand_asc {K : List Int → Int → Prop} {n : Int} {q : List Int} : (cand K n q).Pairwise (fun a b => a < b) := by
  unfold cand
  exact List.Pairwise.filter _ (List.Pairwise.map (S := fun a b : Int => a < b) (fun j : Nat => (j : Int)) (fun a b h => by show (a : Int) < (b : Int); omega) List.pairwise_lt_range)
theorem asc_eq : ∀ {l m : List Int}, l.Pairwise (fun a b => a < b) → m.Pairwise (fun a b => a < b) → (∀ x, x ∈ l ↔ x ∈ m) → l = m
  | [], m, _, _, h => by
    cases m with
    | nil => rfl
    | cons b m => exact absurd ((h b).mpr List.mem_cons_self) List.not_mem_nil
  | a :: l, m, hl, hm, h => by
    cases m with
    | nil => exact absurd ((h a).mp List.mem_cons_self) List.not_mem_nil
    | cons b m =>
      have hl2 := List.pairwise_cons.mp hl
      have hm2 := List.pairwise_cons.mp hm
      have e : a = b := by
        rcases List.mem_cons.mp ((h a).mp List.mem_cons_self) with q | q
        · exact q
        · rcases List.mem_cons.mp ((h b).mpr List.mem_cons_self) with q2 | q2
          · exact q2.symm
          · have z1 := hm2.1 a q
            have z2 := hl2.1 b q2
            omega
      subst e
      congr 1
      refine asc_eq hl2.2 hm2.2 (fun x => ⟨fun q => ?_, fun q => ?_⟩)
      · rcases List.mem_cons.mp ((h x).mp (List.mem_cons_of_mem _ q)) with z | z
        · have w := hl2.1 x q
          omega
        · exact z
      · rcases List.mem_cons.mp ((h x).mpr (List.mem_cons_of_mem _ q)) with z | z
        · have w := hm2.1 x q
          omega
        · exact z
theorem cand_cut {n : Int} {q C1 C2 : List Int} {a : Int} (h : cand Kp n q = C1 ++ a :: C2) : cand Kp n (q ++ [a]) = C1 ++ C2 := by
  have hs : (C1 ++ a :: C2).Pairwise (fun a b => a < b) := h ▸ cand_asc
  have hs2 := List.pairwise_append.mp hs
  have hs3 := List.pairwise_cons.mp hs2.2.1
  refine asc_eq cand_asc (List.pairwise_append.mpr ⟨hs2.1, hs3.2, fun x hx y hy => hs2.2.2 x hx y (List.mem_cons_of_mem _ hy)⟩) (fun x => ?_)
  have hm : x ∈ cand Kp n q ↔ x ∈ C1 ++ a :: C2 := by rw [h]
  rw [mem_cand] at hm ⊢
  unfold Kp at hm ⊢
  rw [List.mem_append, List.mem_cons] at hm
  rw [List.mem_append, List.mem_append, List.mem_singleton]
  constructor
  · rintro ⟨h0, h1, h2⟩
    rcases hm.mp ⟨h0, h1, fun z => h2 (Or.inl z)⟩ with z | z | z
    · exact Or.inl z
    · exact absurd (Or.inr z) h2
    · exact Or.inr z
  · intro z
    have z2 := hm.mpr (z.elim Or.inl (fun w => Or.inr (Or.inr w)))
    refine ⟨z2.1, z2.2.1, fun w => ?_⟩
    rcases w with w | w
    · exact z2.2.2 w
    · subst w
      rcases z with z | z
      · have w := hs2.2.2 x z x List.mem_cons_self
        omega
      · have w := hs3.1 x z
        omega
theorem ext_head {n : Int} : ∀ {k : Nat} {q : List Int}, (cand Kp n q).length = k → ∃ t, ext Kp n k q = (q ++ cand Kp n q) :: t
  | 0, q, h => by
    rw [List.eq_nil_of_length_eq_zero h, List.append_nil]
    exact ⟨[], rfl⟩
  | k + 1, q, h => by
    cases hc : cand Kp n q with
    | nil => rw [hc] at h; cases h
    | cons a C =>
      have e := cand_cut (C1 := []) hc
      rw [List.nil_append] at e
      rw [hc, List.length_cons] at h
      obtain ⟨t, ht⟩ := ext_head (k := k) (q := q ++ [a]) (by rw [e]; omega)
      refine ⟨t ++ C.flatMap (fun g => ext Kp n k (q ++ [g])), ?_⟩
      show (cand Kp n q).flatMap (fun g => ext Kp n k (q ++ [g])) = _
      rw [hc, List.flatMap_cons, ht, e, List.append_assoc, List.cons_append]
      rfl
theorem ext_last {n : Int} : ∀ {k : Nat} {q : List Int}, (cand Kp n q).length = k → ∃ t, ext Kp n k q = t ++ [q ++ (cand Kp n q).reverse]
  | 0, q, h => by
    rw [List.eq_nil_of_length_eq_zero h, List.reverse_nil, List.append_nil]
    exact ⟨[], rfl⟩
  | k + 1, q, h => by
    rcases List.eq_nil_or_concat (cand Kp n q) with hc | ⟨C, a, hc⟩
    · rw [hc] at h; cases h
    · rw [List.concat_eq_append] at hc
      have e := cand_cut (C1 := C) (C2 := []) hc
      rw [List.append_nil] at e
      rw [hc, List.length_append, List.length_singleton] at h
      obtain ⟨t, ht⟩ := ext_last (k := k) (q := q ++ [a]) (by rw [e]; omega)
      refine ⟨C.flatMap (fun g => ext Kp n k (q ++ [g])) ++ t, ?_⟩
      show (cand Kp n q).flatMap (fun g => ext Kp n k (q ++ [g])) = _
      rw [hc, List.flatMap_append, List.flatMap_singleton, ht, e, List.reverse_append, List.append_assoc, List.append_assoc]
      rfl
/-- a valid way on from a prefix -/
def wayP (n : Int) : List Int → List Int → Prop
  | _, [] => True
  | q, a :: p => a ∈ cand Kp n q ∧ wayP n (q ++ [a]) p
theorem ext_block {n : Int} {k : Nat} : ∀ {p q : List Int}, wayP n q p → ∃ A B, ext Kp n (k + p.length) q = A ++ (ext Kp n k (q ++ p) ++ B)
  | [], q, _ => ⟨[], [], by rw [List.append_nil, List.append_nil]; rfl⟩
  | a :: p, q, h => by
    obtain ⟨C1, C2, hc⟩ := List.append_of_mem h.1
    obtain ⟨A, B, hAB⟩ := ext_block (p := p) (q := q ++ [a]) h.2
    refine ⟨C1.flatMap (fun g => ext Kp n (k + p.length) (q ++ [g])) ++ A, B ++ C2.flatMap (fun g => ext Kp n (k + p.length) (q ++ [g])), ?_⟩
    show (cand Kp n q).flatMap (fun g => ext Kp n (k + p.length) (q ++ [g])) = _
    rw [hc, List.flatMap_append, List.flatMap_cons, hAB, show q ++ [a] ++ p = q ++ a :: p by simp]
    simp only [List.append_assoc]
theorem ext_mem {K : List Int → Int → Prop} {n : Int} : ∀ {k : Nat} {q l : List Int}, l ∈ ext K n k q → ∃ p, l = q ++ p ∧ p.length = k
  | 0, q, l, h => ⟨[], by rw [List.append_nil]; exact List.mem_singleton.mp h, rfl⟩
  | k + 1, q, l, h => by
    obtain ⟨a, ha, hl⟩ := List.mem_flatMap.mp h
    obtain ⟨p, hp, hk⟩ := ext_mem hl
    exact ⟨a :: p, by rw [hp]; simp, by rw [List.length_cons, hk]⟩
theorem ext_nodup {K : List Int → Int → Prop} {n : Int} : ∀ {k : Nat} {q : List Int}, (ext K n k q).Nodup
  | 0, q => List.pairwise_singleton _ _
  | k + 1, q => by
    show ((cand K n q).flatMap (fun g => ext K n k (q ++ [g]))).Pairwise _
    rw [List.pairwise_flatMap]
    refine ⟨fun a _ => ext_nodup, (cand_asc (K := K) (n := n) (q := q)).imp (fun {a b} hab x hx y hy e => ?_)⟩
    obtain ⟨p1, e1, _⟩ := ext_mem hx
    obtain ⟨p2, e2, _⟩ := ext_mem hy
    rw [e1, e2, List.append_assoc, List.append_assoc] at e
    have e3 := List.append_cancel_left e
    injection e3 with e4
    omega
theorem nodup_cut {α : Type} : ∀ {A A' B B' : List α} {x : α}, (A ++ x :: B).Nodup → A ++ x :: B = A' ++ x :: B' → A = A' ∧ B = B'
  | [], [], B, B', x, _, h => by
    injection h with _ h
    exact ⟨rfl, h⟩
  | [], a :: A', B, B', x, hn, h => by
    injection h with h1 h2
    exfalso
    have hn2 := (List.nodup_cons.mp hn).1
    rw [h2] at hn2
    exact hn2 (List.mem_append.mpr (Or.inr List.mem_cons_self))
  | a :: A, [], B, B', x, hn, h => by
    injection h with h1 h2
    exfalso
    subst h1
    exact (List.nodup_cons.mp hn).1 (List.mem_append.mpr (Or.inr List.mem_cons_self))
  | a :: A, b :: A', B, B', x, hn, h => by
    injection h with h1 h2
    have hn2 := (List.nodup_cons.mp hn).2
    obtain ⟨e1, e2⟩ := nodup_cut hn2 h2
    exact ⟨by rw [h1, e1], e2⟩
