-- the class's rows are the model's rows
theorem flat_fil {α β : Type} {P : α → Prop} {F : α → List β} : ∀ L : List α, (fil P L).flatMap F = L.flatMap (fun a => ifP (P a) (F a) [])
  | [] => rfl
  | a :: L => by
    have ih := flat_fil (P := P) (F := F) L
    unfold fil at ih ⊢
    by_cases h : P a
    · rw [List.filter_cons_of_pos (by simp [h]), List.flatMap_cons, List.flatMap_cons, ih, ifP_t h]
    · rw [List.filter_cons_of_neg (by simp [h]), List.flatMap_cons, ih, ifP_f h, List.nil_append]
theorem fil_flat {α β : Type} {V : β → Prop} {F : α → List β} : ∀ L : List α, fil V (L.flatMap F) = L.flatMap (fun a => fil V (F a))
  | [] => rfl
  | a :: L => by
    rw [List.flatMap_cons, List.flatMap_cons, ← fil_flat L]
    unfold fil
    rw [List.filter_append]
theorem flat_congr {α β : Type} {F G : α → List β} : ∀ L : List α, (∀ a, a ∈ L → F a = G a) → L.flatMap F = L.flatMap G
  | [], _ => rfl
  | a :: L, h => by
    rw [List.flatMap_cons, List.flatMap_cons, h a List.mem_cons_self, flat_congr L (fun b hb => h b (List.mem_cons_of_mem _ hb))]
theorem fil_none {α : Type} {V : α → Prop} : ∀ L : List α, (∀ a, a ∈ L → ¬ V a) → fil V L = []
  | [], _ => rfl
  | a :: L, h => by
    have ih := fil_none L (fun b hb => h b (List.mem_cons_of_mem _ hb))
    unfold fil at ih ⊢
    rw [List.filter_cons_of_neg (by simp [h a List.mem_cons_self]), ih]
theorem fil_congr {α : Type} {V U : α → Prop} : ∀ L : List α, (∀ a, a ∈ L → (V a ↔ U a)) → fil V L = fil U L
  | [], _ => rfl
  | a :: L, h => by
    have ih := fil_congr L (fun b hb => h b (List.mem_cons_of_mem _ hb))
    have ha := h a List.mem_cons_self
    unfold fil at ih ⊢
    by_cases q : V a
    · rw [List.filter_cons_of_pos (by simp [q]), List.filter_cons_of_pos (by simp [ha.mp q]), ih]
    · rw [List.filter_cons_of_neg (by simp [q]), List.filter_cons_of_neg (by simp [mt ha.mpr q]), ih]
def wayK (K : List Int → Int → Prop) (l : List Int) : Prop := ∀ i : Nat, i < l.length → K (l.take i) (l.getD i 0)
theorem way_nil {K : List Int → Int → Prop} : wayK K [] := fun i h => absurd h (Nat.not_lt_zero i)
theorem way_snoc {K : List Int → Int → Prop} {q : List Int} {g : Int} (h : wayK K q) (hg : K q g) : wayK K (q ++ [g]) := by
  intro i hi
  rw [List.length_append, List.length_singleton] at hi
  by_cases hq : i < q.length
  · rw [List.take_append_of_le_length (by omega)]
    have e : (q ++ [g]).getD i 0 = q.getD i 0 := by
      rw [List.getD_eq_getElem?_getD, List.getD_eq_getElem?_getD, List.getElem?_append_left hq]
    rw [e]
    exact h i hq
  · have e0 : i = q.length := by omega
    subst e0
    rw [List.take_append_of_le_length (Nat.le_refl _), List.take_length]
    have e : (q ++ [g]).getD q.length 0 = g := by
      rw [List.getD_eq_getElem?_getD, List.getElem?_append_right (Nat.le_refl _), Nat.sub_self]
      rfl
    rw [e]
    exact hg
theorem way_at {K : List Int → Int → Prop} {q p : List Int} {g : Int} (h : wayK K (q ++ [g] ++ p)) : K q g := by
  have h2 := h q.length (by rw [List.length_append, List.length_append, List.length_singleton]; omega)
  rw [List.append_assoc, List.take_append_of_le_length (Nat.le_refl _), List.take_length] at h2
  have e : (q ++ ([g] ++ p)).getD q.length 0 = g := by
    rw [List.getD_eq_getElem?_getD, List.getElem?_append_right (Nat.le_refl _), Nat.sub_self]
    rfl
  rw [e] at h2
  exact h2
theorem cand_fil {K : List Int → Int → Prop} {n : Int} {q : List Int} (hK : ∀ j, K q j → Kp q j) : cand K n q = fil (K q) (cand Kp n q) := by
  refine asc_eq cand_asc (List.Pairwise.filter _ cand_asc) (fun x => ?_)
  show x ∈ cand K n q ↔ x ∈ fil (K q) (cand Kp n q)
  rw [fil_mem, mem_cand, mem_cand]
  constructor
  · rintro ⟨h1, h2, h3⟩
    exact ⟨⟨h1, h2, hK x h3⟩, h3⟩
  · rintro ⟨⟨h1, h2, _⟩, h3⟩
    exact ⟨h1, h2, h3⟩
theorem ext_fil {K : List Int → Int → Prop} {n : Int} (hK : ∀ q j, K q j → Kp q j) : ∀ {k : Nat} {q : List Int}, wayK K q → ext K n k q = fil (wayK K) (ext Kp n k q)
  | 0, q, h => by
    show [q] = fil (wayK K) [q]
    unfold fil
    rw [List.filter_cons_of_pos (by simp [h])]
    rfl
  | k + 1, q, h => by
    show (cand K n q).flatMap (fun g => ext K n k (q ++ [g])) = fil (wayK K) ((cand Kp n q).flatMap (fun g => ext Kp n k (q ++ [g])))
    rw [fil_flat, cand_fil (hK q), flat_fil]
    refine flat_congr _ (fun g _ => ?_)
    by_cases hg : K q g
    · rw [ifP_t hg]
      exact ext_fil hK (way_snoc h hg)
    · rw [ifP_f hg]
      refine (fil_none _ (fun l hl hw => hg ?_)).symm
      obtain ⟨p, rfl, _⟩ := ext_mem hl
      exact way_at hw
section
variable {ki lo sh wo on tw nu : Int → Int} {n cnt : Int}
theorem br_kind {a b d k : Int} (h : brAt ki lo sh wo on tw nu a b d k) : ¬ wo k = 3 ∧ ¬ wo k = 4 := by
  unfold brAt brP at h
  rcases h with h | h | h | h <;> omega
theorem getD_take {l : List Int} {i a : Nat} (h : a < i) : (l.take i).getD a 0 = l.getD a 0 := by
  rw [List.getD_eq_getElem?_getD, List.getD_eq_getElem?_getD, List.getElem?_take_of_lt h]
theorem nodup_getD {l : List Int} (h : l.Nodup) {a b : Nat} (hab : a < b) (hb : b < l.length) : ¬ l.getD b 0 = l.getD a 0 := by
  intro e
  rw [List.getD_eq_getElem?_getD, List.getD_eq_getElem?_getD, List.getElem?_eq_getElem hb, List.getElem?_eq_getElem (Nat.lt_trans hab hb)] at e
  exact (List.pairwise_iff_getElem.mp h) a b (Nat.lt_trans hab hb) hb hab e.symm
theorem way_ok (hn : 1 ≤ n) {l : List Int} (hlen : (l.length : Int) = n) (hnd : l.Nodup) (h10 : wo 10 = 11) : wayK (okc ki lo sh wo on tw nu cnt n) l ↔ okL ki lo sh wo on tw nu n cnt l := by
  have tn : ∀ i : Nat, i ≤ l.length → (l.take i).length = i := fun i hi => by rw [List.length_take]; omega
  constructor
  · intro h
    have H : ∀ a b : Nat, a < b → b < l.length → ¬ anyB ki lo sh wo on tw nu cnt (l.getD a 0) (l.getD b 0) ((b : Int) - (a : Int)) := fun a b hab hb => by
      have q := ((h b hb).1 a (by rw [tn b (by omega)]; exact hab)).2
      rw [getD_take hab, tn b (by omega)] at q
      exact q
    have H3 : mayE ki wo on cnt 3 (l.getD 0 0) := (h 0 (by omega)).2.1 (tn 0 (by omega))
    have H4 : mayE ki wo on cnt 4 (l.getD (l.length - 1) 0) := (h (l.length - 1) (by omega)).2.2 (by rw [tn (l.length - 1) (by omega)]; omega)
    unfold okL keepsP
    refine ⟨fun k k0 k1 => ⟨fun q => ⟨by omega, ?_⟩, fun q => ⟨by omega, ?_⟩, fun q1 q2 i j i0 ij jn hb => ?_⟩, ⟨fun q => by omega, fun q => by omega, fun q1 q2 i j i0 ij jn hb => ?_⟩⟩
    · exact H3 k k0 k1 q
    · have e : (n - 1).toNat = l.length - 1 := by omega
      show isP ki (on k) (l.getD (n - 1).toNat 0)
      rw [e]
      exact H4 k k0 k1 q
    · refine H i.toNat j.toNat (by omega) (by omega) (Or.inl ⟨k, k0, k1, ?_⟩)
      rw [Int.toNat_of_nonneg i0, Int.toNat_of_nonneg (by omega)]
      exact hb
    · refine H i.toNat j.toNat (by omega) (by omega) (Or.inr ?_)
      rw [Int.toNat_of_nonneg i0, Int.toNat_of_nonneg (by omega)]
      exact hb
  · intro h i hi
    unfold okL keepsP at h
    obtain ⟨h1, h2⟩ := h
    refine ⟨fun a ha => ?_, fun q => ?_, fun q => ?_⟩
    · rw [tn i (by omega)] at ha ⊢
      rw [getD_take ha]
      refine ⟨nodup_getD hnd ha hi, fun hb => ?_⟩
      rcases hb with ⟨k, k0, k1, hb⟩ | hb
      · have hk := br_kind hb
        exact (h1 k k0 k1).2.2 hk.1 hk.2 (a : Int) (i : Int) (by omega) (by omega) (by omega) hb
      · have hk := br_kind hb
        exact h2.2.2 hk.1 hk.2 (a : Int) (i : Int) (by omega) (by omega) (by omega) hb
    · rw [tn i (by omega)] at q
      subst q
      exact fun k k0 k1 hk => ((h1 k k0 k1).1 hk).2
    · rw [tn i (by omega)] at q
      intro k k0 k1 hk
      have z := ((h1 k k0 k1).2.1 hk).2
      rw [← q] at z
      exact z
theorem rows_eq (hn : 0 ≤ n) (h10 : wo 10 = 11) : rowsC ki lo sh wo on tw nu cnt n = fil (okL ki lo sh wo on tw nu n cnt) (ext Kp n n.toNat []) := by
  unfold rowsC
  by_cases h0 : n = 0
  · subst h0
    rw [ifP_t rfl]
    show _ = fil (okL ki lo sh wo on tw nu 0 cnt) [[]]
    by_cases h : ∃ k, 0 ≤ k ∧ k < cnt ∧ (wo k = 3 ∨ wo k = 4)
    · rw [ifP_t h]
      refine (fil_none _ (fun l hl hv => ?_)).symm
      obtain ⟨k, k0, k1, hk⟩ := h
      have z := hv.1 k k0 k1
      rcases hk with hk | hk
      · exact (z.1 hk).1 rfl
      · exact (z.2.1 hk).1 rfl
    · rw [ifP_f h]
      unfold fil
      rw [List.filter_cons_of_pos]
      · rfl
      · simp only [decide_eq_true_eq]
        refine ⟨fun k k0 k1 => ⟨fun q => absurd ⟨k, k0, k1, Or.inl q⟩ h, fun q => absurd ⟨k, k0, k1, Or.inr q⟩ h, fun q1 q2 i j i0 ij jn hb => by omega⟩, ⟨fun q => by omega, fun q => by omega, fun q1 q2 i j i0 ij jn hb => by omega⟩⟩
  · rw [ifP_f h0, ext_fil (fun q j hq hm => ?_) way_nil]
    · refine fil_congr _ (fun l hl => ?_)
      have hp := ext_perm hl List.nodup_nil (fun x hx => absurd hx List.not_mem_nil)
      obtain ⟨p, e1, e2⟩ := ext_mem hl
      rw [List.nil_append] at e1
      subst e1
      exact way_ok (by omega) (by omega) hp.1 h10
    · obtain ⟨i, hi, e⟩ := List.getElem_of_mem hm
      refine (hq.1 i hi).1 ?_
      rw [List.getD_eq_getElem?_getD, List.getElem?_eq_getElem hi]
      exact e.symm
end
-- how many there can be
def facN : Nat → Nat
  | 0 => 1
  | k + 1 => (k + 1) * facN k
theorem len_flat {α β : Type} {F : α → List β} {c : Nat} : ∀ L : List α, (∀ a, a ∈ L → (F a).length = c) → (L.flatMap F).length = L.length * c
  | [], _ => by rw [List.flatMap_nil, List.length_nil, List.length_nil, Nat.zero_mul]
  | a :: L, h => by
    rw [List.flatMap_cons, List.length_append, h a List.mem_cons_self, len_flat L (fun b hb => h b (List.mem_cons_of_mem _ hb)), List.length_cons, Nat.succ_mul]
    omega
theorem ext_len {n : Int} : ∀ {k : Nat} {q : List Int}, (cand Kp n q).length = k → (ext Kp n k q).length = facN k
  | 0, q, _ => rfl
  | k + 1, q, h => by
    show ((cand Kp n q).flatMap (fun g => ext Kp n k (q ++ [g]))).length = (k + 1) * facN k
    rw [len_flat (c := facN k) _ (fun g hg => ?_), h]
    obtain ⟨C1, C2, hc⟩ := List.append_of_mem hg
    refine ext_len ?_
    rw [cand_cut hc]
    rw [hc, List.length_append, List.length_cons] at h
    rw [List.length_append]
    omega
theorem ext_8 {n : Int} (hn : 0 ≤ n ∧ n ≤ 8) : (ext Kp n n.toNat []).length ≤ 40320 := by
  have e : (cand Kp n []).length = n.toNat := by
    have q := cand_len (n := n) (f := fun i => i) hn.1 ⟨fun i i0 i1 => ⟨i0, i1⟩, fun i j i0 ij jn => by show ¬ i = j; omega⟩ (d := 0) (by omega)
    exact q
  rw [ext_len e]
  rcases (show n = 0 ∨ n = 1 ∨ n = 2 ∨ n = 3 ∨ n = 4 ∨ n = 5 ∨ n = 6 ∨ n = 7 ∨ n = 8 by omega) with rfl | rfl | rfl | rfl | rfl | rfl | rfl | rfl | rfl <;> decide
theorem rows_8 {ki lo sh wo on tw nu : Int → Int} {n cnt : Int} (hn : 0 ≤ n ∧ n ≤ 8) (h10 : wo 10 = 11) : (rowsC ki lo sh wo on tw nu cnt n).length ≤ 40320 := by
  rw [rows_eq hn.1 h10]
  exact Nat.le_trans fil_len (ext_8 hn)
-- what the answers share
theorem rank_one {L : List (List Int)} {x : List Int} {r r' : Int} (h : (0 ≤ r ∧ L[r.toNat]? = some x ∧ ∀ j : Nat, j < r.toNat → ¬ L[j]? = some x) ∨ (r = -1 ∧ ∀ j : Nat, ¬ L[j]? = some x)) (h' : (0 ≤ r' ∧ L[r'.toNat]? = some x ∧ ∀ j : Nat, j < r'.toNat → ¬ L[j]? = some x) ∨ (r' = -1 ∧ ∀ j : Nat, ¬ L[j]? = some x)) : r = r' := by
  rcases h with ⟨h1, h2, h3⟩ | ⟨h1, h2⟩ <;> rcases h' with ⟨g1, g2, g3⟩ | ⟨g1, g2⟩
  · rcases Nat.lt_trichotomy r.toNat r'.toNat with q | q | q
    · exact absurd h2 (g3 _ q)
    · omega
    · exact absurd g2 (h3 _ q)
  · exact absurd h2 (g2 _)
  · exact absurd g2 (h2 _)
  · omega
theorem preL_eqv {f g : Int → Int} {n : Int} : preL f n.toNat = preL g n.toNat ↔ ∀ i, 0 ≤ i → i < n → f i = g i := by
  unfold preL
  constructor
  · intro h i i0 i1
    have q := List.map_inj_left.mp h i.toNat (List.mem_range.mpr (by omega))
    rw [Int.toNat_of_nonneg i0] at q
    exact q
  · intro h
    refine List.map_congr_left (fun a ha => ?_)
    have q := List.mem_range.mp ha
    exact h (a : Int) (by omega) (by omega)
theorem best_mem {N : List Int → Int} : ∀ (L : List (List Int)) (s : Int × List Int), bestK N s L = s ∨ (bestK N s L).2 ∈ L
  | [], s => Or.inl rfl
  | a :: L, s => by
    by_cases c : s.1 = -1 ∨ N a < s.1
    · rw [best_t c]
      rcases best_mem L (N a, a) with h | h
      · rw [h]; exact Or.inr List.mem_cons_self
      · exact Or.inr (List.mem_cons_of_mem _ h)
    · rw [best_f c]
      rcases best_mem L s with h | h
      · exact Or.inl h
      · exact Or.inr (List.mem_cons_of_mem _ h)
theorem perm_in {ki lo sh wo on tw nu f : Int → Int} {n cnt : Int} (h : preL f n.toNat ∈ fil (okL ki lo sh wo on tw nu n cnt) (ext Kp n n.toNat [])) : permP n f := perm_of (fil_mem.mp h).1
