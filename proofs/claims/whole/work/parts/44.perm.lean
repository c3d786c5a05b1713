-- the next row is the next of all
def permP (n : Int) (f : Int → Int) : Prop := (∀ i, 0 ≤ i → i < n → 0 ≤ f i ∧ f i < n) ∧ (∀ i j, 0 ≤ i → i < j → j < n → ¬ f i = f j)
def segL (f : Int → Int) (d m : Nat) : List Int := (List.range m).map (fun k : Nat => f ((d + k : Nat) : Int))
theorem preL_seg {f : Int → Int} {d m : Nat} : preL f (d + m) = preL f d ++ segL f d m := by
  unfold preL segL
  rw [List.range_add, List.map_append, List.map_map]
  rfl
theorem segL_s {f : Int → Int} {d m : Nat} : segL f d (m + 1) = f (d : Int) :: segL f (d + 1) m := by
  unfold segL
  rw [List.range_succ_eq_map, List.map_cons, List.map_map]
  congr 1
  apply List.map_congr_left
  intro a _
  show f ((d + (a + 1) : Nat) : Int) = f ((d + 1 + a : Nat) : Int)
  rw [show d + (a + 1) = d + 1 + a by omega]
theorem mem_preL {f : Int → Int} {d : Nat} {x : Int} : x ∈ preL f d ↔ ∃ i : Int, 0 ≤ i ∧ i < (d : Int) ∧ f i = x := by
  unfold preL
  constructor
  · intro h
    obtain ⟨k, hk, e⟩ := List.mem_map.mp h
    have hk2 := List.mem_range.mp hk
    exact ⟨(k : Int), by omega, by omega, e⟩
  · rintro ⟨i, h0, h1, e⟩
    exact List.mem_map.mpr ⟨i.toNat, List.mem_range.mpr (by omega), by rw [show ((i.toNat : Nat) : Int) = i by omega]; exact e⟩
theorem mem_segL {f : Int → Int} {d m : Nat} {x : Int} : x ∈ segL f d m ↔ ∃ i : Int, (d : Int) ≤ i ∧ i < (d : Int) + (m : Int) ∧ f i = x := by
  unfold segL
  constructor
  · intro h
    obtain ⟨k, hk, e⟩ := List.mem_map.mp h
    have hk2 := List.mem_range.mp hk
    exact ⟨((d + k : Nat) : Int), by omega, by omega, e⟩
  · rintro ⟨i, h0, h1, e⟩
    exact List.mem_map.mpr ⟨(i - (d : Int)).toNat, List.mem_range.mpr (by omega), by rw [show ((d + (i - (d : Int)).toNat : Nat) : Int) = i by omega]; exact e⟩
theorem way_seg {n : Int} {f : Int → Int} (hp : permP n f) : ∀ {m d : Nat}, ((d + m : Nat) : Int) ≤ n → wayP n (preL f d) (segL f d m)
  | 0, d, _ => trivial
  | m + 1, d, h => by
    rw [segL_s]
    refine ⟨mem_cand.mpr ⟨(hp.1 d (by omega) (by omega)).1, (hp.1 d (by omega) (by omega)).2, fun q => ?_⟩, ?_⟩
    · obtain ⟨i, i0, i1, e⟩ := mem_preL.mp q
      exact hp.2 i d i0 i1 (by omega) e
    · rw [← preL_s]
      exact way_seg hp (by omega)
theorem cand_len {n : Int} {f : Int → Int} (hn : 0 ≤ n) (hp : permP n f) {d : Nat} (hd : (d : Int) ≤ n) : (cand Kp n (preL f d)).length = n.toNat - d := by
  have hnd : (cand Kp n (preL f d) ++ preL f d).Nodup := by
    rw [List.nodup_append]
    refine ⟨(cand_asc (K := Kp)).imp (fun {a b} h => by show a ≠ b; omega), preL_nodup (fun a a0 a1 i i0 i1 q => hp.2 i a i0 i1 (by omega) q.symm), fun a ha b hb e => ?_⟩
    subst e
    exact (mem_cand.mp ha).2.2 hb
  have hs1 : (cand Kp n (preL f d) ++ preL f d) ⊆ (List.range n.toNat).map (fun j : Nat => (j : Int)) := by
    intro a ha
    have q : 0 ≤ a ∧ a < n := by
      rcases List.mem_append.mp ha with ha | ha
      · exact ⟨(mem_cand.mp ha).1, (mem_cand.mp ha).2.1⟩
      · obtain ⟨i, i0, i1, e⟩ := mem_preL.mp ha
        rw [← e]
        exact hp.1 i i0 (by omega)
    exact List.mem_map.mpr ⟨a.toNat, List.mem_range.mpr (by omega), by omega⟩
  have hs2 : (List.range n.toNat).map (fun j : Nat => (j : Int)) ⊆ (cand Kp n (preL f d) ++ preL f d) := by
    intro a ha
    obtain ⟨k, hk, rfl⟩ := List.mem_map.mp ha
    have hk2 := List.mem_range.mp hk
    by_cases q : (k : Int) ∈ preL f d
    · exact List.mem_append.mpr (Or.inr q)
    · exact List.mem_append.mpr (Or.inl (mem_cand.mpr ⟨by omega, by omega, q⟩))
  have h1 := List.Nodup.length_le_of_subset hnd hs1
  have h2 := List.Nodup.length_le_of_subset (List.Pairwise.map (S := fun a b : Int => a ≠ b) (fun j : Nat => (j : Int)) (fun a b h => by show (a : Int) ≠ (b : Int); omega) List.pairwise_lt_range) hs2
  rw [List.length_append, preL_len, List.length_map, List.length_range] at h1 h2
  omega
theorem desc_all {f : Int → Int} {i n : Int} (h : ∀ k, i < k → k + 1 < n → f (k + 1) < f k) : ∀ (d : Nat) (a : Int), i < a → a + (d : Int) + 1 < n → f (a + (d : Int) + 1) < f a
  | 0, a, h0, h1 => by
    have q := h a h0 (by omega)
    rw [show a + ((0 : Nat) : Int) + 1 = a + 1 by omega]
    exact q
  | d + 1, a, h0, h1 => by
    have q := desc_all h d a h0 (by omega)
    have q2 := h (a + (d : Int) + 1) (by omega) (by omega)
    rw [show a + ((d + 1 : Nat) : Int) + 1 = a + (d : Int) + 1 + 1 by omega]
    omega
theorem desc_lt {f : Int → Int} {i n a b : Int} (h : ∀ k, i < k → k + 1 < n → f (k + 1) < f k) (ha : i < a) (hab : a < b) (hb : b < n) : f b < f a := by
  have q := desc_all h (b - a - 1).toNat a ha (by omega)
  rw [show a + (((b - a - 1).toNat : Nat) : Int) + 1 = b by omega] at q
  exact q
theorem seg_pair {f : Int → Int} {R : Int → Int → Prop} {d m : Nat} (h : ∀ a b : Int, (d : Int) ≤ a → a < b → b < (d : Int) + (m : Int) → R (f a) (f b)) : (segL f d m).Pairwise R := by
  induction m generalizing d with
  | zero => exact List.Pairwise.nil
  | succ m ih =>
    rw [segL_s, List.pairwise_cons]
    refine ⟨fun x hx => ?_, ih (fun a b a0 a1 a2 => h a b (by omega) a1 (by omega))⟩
    obtain ⟨i, i0, i1, e⟩ := mem_segL.mp hx
    rw [← e]
    exact h d i (by omega) (by omega) (by omega)
theorem seg_cand {n : Int} {f : Int → Int} {q : List Int} {d m : Nat} (ha : ∀ a b : Int, (d : Int) ≤ a → a < b → b < (d : Int) + (m : Int) → f a < f b) (hm : ∀ x, (0 ≤ x ∧ x < n ∧ ¬ x ∈ q) ↔ ∃ i : Int, (d : Int) ≤ i ∧ i < (d : Int) + (m : Int) ∧ f i = x) : segL f d m = cand Kp n q := asc_eq (seg_pair ha) cand_asc (fun x => by
  rw [mem_segL, mem_cand]
  exact (hm x).symm)
theorem seg_cand_r {n : Int} {f : Int → Int} {q : List Int} {d m : Nat} (ha : ∀ a b : Int, (d : Int) ≤ a → a < b → b < (d : Int) + (m : Int) → f b < f a) (hm : ∀ x, (0 ≤ x ∧ x < n ∧ ¬ x ∈ q) ↔ ∃ i : Int, (d : Int) ≤ i ∧ i < (d : Int) + (m : Int) ∧ f i = x) : segL f d m = (cand Kp n q).reverse := by
  have e : (segL f d m).reverse = cand Kp n q := asc_eq (List.pairwise_reverse.mpr (seg_pair ha)) cand_asc (fun x => by
    rw [List.mem_reverse, mem_segL, mem_cand]
    exact (hm x).symm)
  rw [← e, List.reverse_reverse]
theorem perm_hit {n : Int} {f : Int → Int} (hp : permP n f) : ∀ x, 0 ≤ x → x < n → ∃ i, 0 ≤ i ∧ i < n ∧ f i = x := lay_hit (fun i i0 i1 => (hp.1 i i0 i1).1) (fun i i0 i1 => (hp.1 i i0 i1).2) hp.2
/-- the last of all rows -/
theorem perm_last {n : Int} {f : Int → Int} (hn : 0 ≤ n) (hp : permP n f) (h : ∀ k, -1 < k → k + 1 < n → f (k + 1) < f k) : ∃ A, ext Kp n n.toNat [] = A ++ [preL f n.toNat] := by
  have hl := cand_len hn hp (d := 0) (by omega)
  obtain ⟨t, ht⟩ := ext_last (n := n) (k := n.toNat) (q := []) (by rw [Nat.sub_zero] at hl; exact hl)
  have e := seg_cand_r (n := n) (f := f) (q := []) (d := 0) (m := n.toNat) (fun a b a0 a1 a2 => desc_lt h (by omega) a1 (by omega)) (fun x => by
    constructor
    · rintro ⟨x0, x1, _⟩
      obtain ⟨i, i0, i1, e⟩ := perm_hit hp x x0 x1
      exact ⟨i, by omega, by omega, e⟩
    · rintro ⟨i, i0, i1, e⟩
      have z := hp.1 i (by omega) (by omega)
      exact ⟨by omega, by omega, List.not_mem_nil⟩)
  have e2 := preL_seg (f := f) (d := 0) (m := n.toNat)
  rw [Nat.zero_add, e] at e2
  refine ⟨t, ?_⟩
  rw [ht, e2]
  rfl
theorem perm_first {n : Int} {f : Int → Int} (hn : 0 ≤ n) (h : ∀ k, 0 ≤ k → k < n → f k = k) : ∃ B, ext Kp n n.toNat [] = preL f n.toNat :: B := by
  have hp : permP n f := ⟨fun i i0 i1 => by rw [h i i0 i1]; omega, fun i j i0 ij j1 => by rw [h i i0 (by omega), h j (by omega) j1]; omega⟩
  have hl := cand_len hn hp (d := 0) (by omega)
  obtain ⟨t, ht⟩ := ext_head (n := n) (k := n.toNat) (q := []) (by rw [Nat.sub_zero] at hl; exact hl)
  have e := seg_cand (n := n) (f := f) (q := []) (d := 0) (m := n.toNat) (fun a b a0 a1 a2 => by rw [h a (by omega) (by omega), h b (by omega) (by omega)]; exact a1) (fun x => by
    constructor
    · rintro ⟨x0, x1, _⟩
      obtain ⟨i, i0, i1, e⟩ := perm_hit hp x x0 x1
      exact ⟨i, by omega, by omega, e⟩
    · rintro ⟨i, i0, i1, e⟩
      have z := hp.1 i (by omega) (by omega)
      exact ⟨by omega, by omega, List.not_mem_nil⟩)
  have e2 := preL_seg (f := f) (d := 0) (m := n.toNat)
  rw [Nat.zero_add, e] at e2
  refine ⟨t, ?_⟩
  rw [ht, e2]
  rfl
/-- the next of all rows -/
theorem perm_next {n i j : Int} {f g : Int → Int} (hp : permP n f) (h : nextP n f g i j) : ∃ A B, ext Kp n n.toNat [] = A ++ preL f n.toNat :: preL g n.toNat :: B := by
  obtain ⟨h0, h1, h2, h3, h4, h5, h6, h7, h8, h9⟩ := h
  have hd := fun a b (ha : i < a) (hab : a < b) (hb : b < n) => desc_lt h3 ha hab hb
  obtain ⟨d, rfl⟩ : ∃ d : Nat, i = (d : Int) := ⟨i.toNat, by omega⟩
  obtain ⟨m, hm⟩ : ∃ m : Nat, n.toNat = d + (m + 1) := ⟨n.toNat - d - 1, by omega⟩
  have hfi : f (d : Int) < f j := by
    rcases Int.lt_or_eq_of_le h5 with q | q
    · exact q
    · exact absurd q (hp.2 d j h0 h1 h2)
  -- the candidates at the pivot
  have hx : f (d : Int) ∈ cand Kp n (preL f d) := mem_cand.mpr ⟨(hp.1 d h0 (by omega)).1, (hp.1 d h0 (by omega)).2, fun q => by
    obtain ⟨k, k0, k1, e⟩ := mem_preL.mp q
    exact hp.2 k d k0 k1 (by omega) e⟩
  have hy : f j ∈ cand Kp n (preL f d) := mem_cand.mpr ⟨(hp.1 j (by omega) h2).1, (hp.1 j (by omega) h2).2, fun q => by
    obtain ⟨k, k0, k1, e⟩ := mem_preL.mp q
    exact hp.2 k j k0 (by omega) (by omega) e⟩
  have hno : ∀ x ∈ cand Kp n (preL f d), f (d : Int) < x → f j ≤ x := fun x hxm hlt => by
    have z := mem_cand.mp hxm
    obtain ⟨k, k0, k1, e⟩ := perm_hit hp x z.1 z.2.1
    have kd : (d : Int) < k := by
      rcases Int.lt_trichotomy k d with q | q | q
      · exact absurd (mem_preL.mpr ⟨k, k0, q, e⟩) z.2.2
      · subst q; omega
      · exact q
    rcases Int.lt_trichotomy k j with q | q | q
    · have w := hd k j kd q h2
      omega
    · subst q; omega
    · have w := h6 k q k1
      omega
  obtain ⟨C1, D, hC⟩ := List.append_of_mem hx
  have hs : (C1 ++ f (d : Int) :: D).Pairwise (fun a b => a < b) := hC ▸ cand_asc
  have hs2 := List.pairwise_append.mp hs
  have hs3 := List.pairwise_cons.mp hs2.2.1
  have hyD : f j ∈ D := by
    rw [hC] at hy
    rcases List.mem_append.mp hy with q | q
    · have w := hs2.2.2 _ q (f (d : Int)) List.mem_cons_self
      omega
    · rcases List.mem_cons.mp q with q | q
      · omega
      · exact q
  obtain ⟨C2, hD⟩ : ∃ C2, D = f j :: C2 := by
    cases D with
    | nil => exact absurd hyD List.not_mem_nil
    | cons b C2 =>
      have hb : b ∈ cand Kp n (preL f d) := by rw [hC]; exact List.mem_append.mpr (Or.inr (List.mem_cons_of_mem _ List.mem_cons_self))
      have w1 := hno b hb (hs3.1 b List.mem_cons_self)
      have hs4 := List.pairwise_cons.mp hs3.2
      rcases List.mem_cons.mp hyD with q | q
      · exact ⟨C2, by rw [q]⟩
      · have w2 := hs4.1 _ q
        omega
  subst hD
  obtain ⟨A, B, hAB⟩ := ext_block (n := n) (k := m + 1) (p := segL f 0 d) (q := []) (way_seg hp (d := 0) (by omega))
  have el : (segL f 0 d).length = d := by unfold segL; simp
  have e0 : ([] : List Int) ++ segL f 0 d = preL f d := by
    have z := preL_seg (f := f) (d := 0) (m := d)
    rw [Nat.zero_add] at z
    rw [z]; rfl
  rw [el, e0, show m + 1 + d = n.toNat by omega] at hAB
  have hx2 := ext_last (n := n) (k := m) (q := preL f d ++ [f (d : Int)]) (by
    have z := cand_len (by omega) hp (d := d + 1) (by omega)
    rw [preL_s] at z
    rw [z]; omega)
  have hcx : cand Kp n (preL f d ++ [f (d : Int)]) = C1 ++ f j :: C2 := cand_cut hC
  have hcy : cand Kp n (preL f d ++ [f j]) = (C1 ++ [f (d : Int)]) ++ C2 := cand_cut (by rw [hC]; simp)
  have hy2 := ext_head (n := n) (k := m) (q := preL f d ++ [f j]) (by
    have z := cand_len (by omega) hp (d := d) (by omega)
    rw [hC] at z
    rw [hcy]
    simp only [List.length_append, List.length_cons, List.length_nil] at z ⊢
    omega)
  obtain ⟨t, ht⟩ := hx2
  obtain ⟨t', ht'⟩ := hy2
  -- the two rows
  have ef : preL f n.toNat = preL f d ++ [f (d : Int)] ++ (cand Kp n (preL f d ++ [f (d : Int)])).reverse := by
    have e1 := seg_cand_r (n := n) (f := f) (q := preL f d ++ [f (d : Int)]) (d := d + 1) (m := m) (fun a b a0 a1 a2 => hd a b (by omega) a1 (by omega)) (fun x => by
      rw [← preL_s]
      constructor
      · rintro ⟨x0, x1, x2⟩
        obtain ⟨k, k0, k1, e⟩ := perm_hit hp x x0 x1
        refine ⟨k, ?_, by omega, e⟩
        apply Classical.byContradiction
        intro q
        exact x2 (mem_preL.mpr ⟨k, k0, by omega, e⟩)
      · rintro ⟨k, k0, k1, e⟩
        have z := hp.1 k (by omega) (by omega)
        refine ⟨by omega, by omega, fun q => ?_⟩
        obtain ⟨a, a0, a1, ea⟩ := mem_preL.mp q
        exact hp.2 a k a0 (by omega) (by omega) (by omega))
    rw [← e1, ← preL_s, ← preL_seg]
    congr 1
    omega
  have eg : preL g n.toNat = preL f d ++ [f j] ++ cand Kp n (preL f d ++ [f j]) := by
    have e1 := seg_cand (n := n) (f := g) (q := preL f d ++ [f j]) (d := d + 1) (m := m) (fun a b a0 a1 a2 => by
      rw [h9 a (by omega) (by omega), h9 b (by omega) (by omega)]
      by_cases qa : n + (d : Int) - a = j
      · rw [if_pos qa, if_neg (by omega)]
        have w := hd (n + (d : Int) - b) j (by omega) (by omega) h2
        omega
      · rw [if_neg qa]
        by_cases qb : n + (d : Int) - b = j
        · rw [if_pos qb]
          exact h6 _ (by omega) (by omega)
        · rw [if_neg qb]
          exact hd _ _ (by omega) (by omega) (by omega)) (fun x => by
      rw [List.mem_append, List.mem_singleton]
      constructor
      · rintro ⟨x0, x1, x2⟩
        obtain ⟨k, k0, k1, e⟩ := perm_hit hp x x0 x1
        have kd : (d : Int) ≤ k := by
          apply Classical.byContradiction
          intro q
          exact x2 (Or.inl (mem_preL.mpr ⟨k, k0, by omega, e⟩))
        have kj : ¬ k = j := fun q => x2 (Or.inr (by rw [← e, q]))
        by_cases q : k = (d : Int)
        · refine ⟨n + (d : Int) - j, by omega, by omega, ?_⟩
          rw [h9 _ (by omega) (by omega), if_pos (by omega), ← e, q]
        · refine ⟨n + (d : Int) - k, by omega, by omega, ?_⟩
          rw [h9 _ (by omega) (by omega), if_neg (by omega), show n + (d : Int) - (n + (d : Int) - k) = k by omega]
          exact e
      · rintro ⟨k, k0, k1, e⟩
        rw [h9 k (by omega) (by omega)] at e
        by_cases q : n + (d : Int) - k = j
        · rw [if_pos q] at e
          have z := hp.1 d h0 (by omega)
          refine ⟨by omega, by omega, fun w => ?_⟩
          rcases w with w | w
          · obtain ⟨a, a0, a1, ea⟩ := mem_preL.mp w
            exact hp.2 a d a0 a1 (by omega) (by omega)
          · omega
        · rw [if_neg q] at e
          have z := hp.1 (n + (d : Int) - k) (by omega) (by omega)
          refine ⟨by omega, by omega, fun w => ?_⟩
          rcases w with w | w
          · obtain ⟨a, a0, a1, ea⟩ := mem_preL.mp w
            exact hp.2 a (n + (d : Int) - k) a0 (by omega) (by omega) (by omega)
          · rcases Int.lt_trichotomy (n + (d : Int) - k) j with q2 | q2 | q2
            · exact hp.2 _ j (by omega) q2 h2 (by omega)
            · exact q q2
            · exact hp.2 j _ (by omega) q2 (by omega) (by omega))
    have e2 : preL g (d + 1) = preL f d ++ [f j] := by
      rw [preL_s, h8, preL_congr (fun k k0 k1 => h7 k k0 k1)]
    rw [← e1, ← e2, ← preL_seg]
    congr 1
    omega
  refine ⟨A ++ (C1.flatMap (fun a => ext Kp n m (preL f d ++ [a])) ++ t), t' ++ (C2.flatMap (fun a => ext Kp n m (preL f d ++ [a])) ++ B), ?_⟩
  have hex : ext Kp n (m + 1) (preL f d) = C1.flatMap (fun a => ext Kp n m (preL f d ++ [a])) ++ ((t ++ [preL f n.toNat]) ++ ((preL g n.toNat :: t') ++ C2.flatMap (fun a => ext Kp n m (preL f d ++ [a])))) := by
    show (cand Kp n (preL f d)).flatMap (fun a => ext Kp n m (preL f d ++ [a])) = _
    rw [hC, List.flatMap_append, List.flatMap_cons, List.flatMap_cons, ht, ht', ← ef, ← eg]
  rw [hAB, hex]
  simp only [List.append_assoc, List.cons_append, List.nil_append]
