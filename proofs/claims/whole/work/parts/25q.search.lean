-- what is left of the search
noncomputable def remL (K : List Int → Int → Prop) (n : Int) (line opn : Int → Int) : Nat → List (List Int)
  | 0 => []
  | d + 1 => (elts (opn (d : Int))).flatMap (fun g => ext K n (n.toNat - d - 1) (preL line d ++ [g])) ++ remL K n line opn d
def tT : Nat → Nat
  | 0 => 0
  | k + 1 => (k + 1) * (1 + tT k) + 1
def costL (n : Nat) (opn : Int → Int) : Nat → Nat
  | 0 => 0
  | d + 1 => (elts (opn (d : Int))).length * (1 + tT (n - d - 1)) + 1 + costL n opn d
/-- the search stands well: who is open at a place may stand there, and so did those that stand -/
def siP (n : Int) (line opn barred : Int → Int) (mf ml dep : Int) : Prop := (∀ d, 0 ≤ d → d ≤ dep → ∀ j, 0 ≤ j → j ≤ 7 → mb (opn d) j → opP n line barred mf ml d j) ∧ (∀ d, 0 ≤ d → d < dep → 0 ≤ line d ∧ opP n line barred mf ml d (line d))
section
variable {K : List Int → Int → Prop} {n : Int} {line line' opn opn' barred : Int → Int} {mf ml dep : Int}
theorem opP_congr {p j : Int} (h : ∀ i, 0 ≤ i → i < p → line' i = line i) (ho : opP n line barred mf ml p j) : opP n line' barred mf ml p j := by
  obtain ⟨h1, h2, h3, h4⟩ := ho
  refine ⟨h1, fun i i0 i1 => ?_, h3, h4⟩
  rw [h i i0 i1]
  exact h2 i i0 i1
theorem remL_congr {d : Nat} (h1 : ∀ i : Nat, i + 1 < d → line' (i : Int) = line (i : Int)) (h2 : ∀ i : Nat, i < d → opn' (i : Int) = opn (i : Int)) : remL K n line' opn' d = remL K n line opn d := by
  induction d with
  | zero => rfl
  | succ d ih =>
    unfold remL
    rw [h2 d (by omega), ih (fun i hi => h1 i (by omega)) (fun i hi => h2 i (by omega))]
    have e : preL line' d = preL line d := by
      unfold preL
      apply List.map_congr_left
      intro a ha
      have := List.mem_range.mp ha
      exact h1 a (by omega)
    rw [e]
theorem costL_congr {m d : Nat} (h2 : ∀ i : Nat, i < d → opn' (i : Int) = opn (i : Int)) : costL m opn' d = costL m opn d := by
  induction d with
  | zero => rfl
  | succ d ih =>
    unfold costL
    rw [h2 d (by omega), ih (fun i hi => h2 i (by omega))]
/-- an empty place: one goes back -/
theorem rem_pop {d : Nat} (h : opn (d : Int) = 0) : remL K n line opn (d + 1) = remL K n line opn d := by
  show (elts (opn (d : Int))).flatMap _ ++ _ = _
  rw [h, elts_0]
  rfl
theorem cost_pop {m d : Nat} : costL m opn d < costL m opn (d + 1) := by
  show costL m opn d < _ + 1 + costL m opn d
  omega
/-- one is taken -/
theorem rem_take {d : Nat} {g : Int} (hs : 0 ≤ opn (d : Int) ∧ opn (d : Int) ≤ 255) (hr : 0 ≤ g ∧ g ≤ 7) (hm : mb (opn (d : Int)) g) (hl : ∀ j, 0 ≤ j → j < g → ¬ mb (opn (d : Int)) j) : remL K n line opn (d + 1) = ext K n (n.toNat - d - 1) (preL (uZ line (d : Int) g) (d + 1)) ++ remL K n (uZ line (d : Int) g) (uZ opn (d : Int) (sAnd (opn (d : Int)) (opn (d : Int) - 1))) (d + 1) := by
  have e1 : preL (uZ line (d : Int) g) d = preL line d := preL_up (by omega)
  have e2 : preL (uZ line (d : Int) g) (d + 1) = preL line d ++ [g] := by rw [preL_s, e1, uZ_s]
  have e3 := remL_congr (K := K) (n := n) (line := line) (line' := uZ line (d : Int) g) (opn := opn) (opn' := uZ opn (d : Int) (sAnd (opn (d : Int)) (opn (d : Int) - 1))) (d := d) (fun i hi => uZ_n (by omega)) (fun i hi => uZ_n (by omega))
  rw [e2]
  show (elts (opn (d : Int))).flatMap _ ++ _ = _ ++ ((elts (uZ opn (d : Int) _ (d : Int))).flatMap _ ++ _)
  rw [e3, e1, uZ_s, elts_low hs hr hm hl, List.flatMap_cons, List.append_assoc]
theorem cost_take {m d : Nat} {g : Int} (hs : 0 ≤ opn (d : Int) ∧ opn (d : Int) ≤ 255) (hr : 0 ≤ g ∧ g ≤ 7) (hm : mb (opn (d : Int)) g) (hl : ∀ j, 0 ≤ j → j < g → ¬ mb (opn (d : Int)) j) : costL m (uZ opn (d : Int) (sAnd (opn (d : Int)) (opn (d : Int) - 1))) (d + 1) + 1 + tT (m - d - 1) = costL m opn (d + 1) := by
  have e3 := costL_congr (m := m) (opn := opn) (opn' := uZ opn (d : Int) (sAnd (opn (d : Int)) (opn (d : Int) - 1))) (d := d) (fun i hi => uZ_n (by omega))
  show (elts (uZ opn (d : Int) _ (d : Int))).length * _ + 1 + costL m _ d + 1 + tT (m - d - 1) = (elts (opn (d : Int))).length * _ + 1 + costL m opn d
  rw [e3, uZ_s, elts_low hs hr hm hl, List.length_cons, Nat.succ_mul]
  omega
theorem elts_nodup {s : Int} : (elts s).Nodup := by
  unfold elts
  exact List.Pairwise.map (S := fun a b : Int => a ≠ b) (fun j : Nat => (j : Int)) (fun a b h => by show (a : Int) ≠ (b : Int); omega) (List.Pairwise.filter _ List.pairwise_lt_range)
theorem preL_nodup {D : Nat} (h : ∀ d : Int, 0 ≤ d → d < (D : Int) → ∀ i, 0 ≤ i → i < d → ¬ line d = line i) : (preL line D).Nodup := by
  induction D with
  | zero => exact List.Pairwise.nil
  | succ D ih =>
    rw [preL_s, List.nodup_append]
    refine ⟨ih (fun d h0 h1 => h d h0 (by omega)), List.pairwise_singleton _ _, fun a ha b hb => ?_⟩
    have hb2 := List.mem_singleton.mp hb
    unfold preL at ha
    obtain ⟨k, hk, rfl⟩ := List.mem_map.mp ha
    have hk2 := List.mem_range.mp hk
    rw [hb2]
    exact fun q => h (D : Int) (by omega) (by omega) (k : Int) (by omega) (by omega) q.symm
theorem elts_len {s : Int} {D : Nat} (hn : 0 ≤ n ∧ n ≤ 8) (hs : ∀ j, 0 ≤ j → j ≤ 7 → mb s j → j < n ∧ ∀ i, 0 ≤ i → i < (D : Int) → ¬ j = line i) (hl : ∀ d : Int, 0 ≤ d → d < (D : Int) → (0 ≤ line d ∧ line d < n) ∧ ∀ i, 0 ≤ i → i < d → ¬ line d = line i) : (elts s).length + D ≤ n.toNat := by
  have h1 : (elts s ++ preL line D).Nodup := by
    rw [List.nodup_append]
    refine ⟨elts_nodup, preL_nodup (fun d h0 h1 => (hl d h0 h1).2), fun a ha b hb => ?_⟩
    obtain ⟨a0, a1, a2⟩ := mem_elts.mp ha
    unfold preL at hb
    obtain ⟨k, hk, rfl⟩ := List.mem_map.mp hb
    have hk2 := List.mem_range.mp hk
    exact (hs a a0 a1 a2).2 (k : Int) (by omega) (by omega)
  have h2 : (elts s ++ preL line D) ⊆ (List.range n.toNat).map (fun j : Nat => (j : Int)) := by
    intro a ha
    have q : 0 ≤ a ∧ a < n := by
      rcases List.mem_append.mp ha with ha | ha
      · obtain ⟨a0, a1, a2⟩ := mem_elts.mp ha
        exact ⟨a0, (hs a a0 a1 a2).1⟩
      · unfold preL at ha
        obtain ⟨k, hk, rfl⟩ := List.mem_map.mp ha
        have hk2 := List.mem_range.mp hk
        exact (hl (k : Int) (by omega) (by omega)).1
    exact List.mem_map.mpr ⟨a.toNat, List.mem_range.mpr (by omega), by omega⟩
  have h3 := List.Nodup.length_le_of_subset h1 h2
  rw [List.length_append, preL_len, List.length_map, List.length_range] at h3
  exact h3
/-- one goes a place on: what is open there is what the prefix allows -/
theorem rem_push {d : Nat} {s : Int} (hn : 0 ≤ n ∧ n ≤ 8) (ht : tabK K n barred mf ml) (hd : ((d + 1 : Nat) : Int) < n) (hl : ∀ i : Int, 0 ≤ i → i < ((d + 1 : Nat) : Int) → 0 ≤ line i ∧ line i < n) (hs : ∀ j, 0 ≤ j → j ≤ 7 → (mb s j ↔ opP n line barred mf ml ((d + 1 : Nat) : Int) j)) : remL K n line (uZ opn ((d + 1 : Nat) : Int) s) (d + 2) = ext K n (n.toNat - d - 1) (preL line (d + 1)) ++ remL K n line opn (d + 1) := by
  have e3 := remL_congr (K := K) (n := n) (line := line) (line' := line) (opn := opn) (opn' := uZ opn ((d + 1 : Nat) : Int) s) (d := d + 1) (fun i hi => rfl) (fun i hi => uZ_n (by omega))
  show (elts (uZ opn _ s ((d + 1 : Nat) : Int))).flatMap _ ++ remL K n line _ (d + 1) = _
  rw [e3, uZ_s, elts_cand hn ht hd hl hs, show n.toNat - d - 1 = (n.toNat - (d + 1) - 1) + 1 by omega]
  rfl
theorem cost_push {m d : Nat} {s : Int} (hs : (elts s).length ≤ m - d - 1) (hm : d + 1 < m) : costL m (uZ opn ((d + 1 : Nat) : Int) s) (d + 2) ≤ tT (m - d - 1) + costL m opn (d + 1) := by
  have e3 := costL_congr (m := m) (opn := opn) (opn' := uZ opn ((d + 1 : Nat) : Int) s) (d := d + 1) (fun i hi => uZ_n (by omega))
  show (elts (uZ opn _ s ((d + 1 : Nat) : Int))).length * _ + 1 + costL m _ (d + 1) ≤ _
  rw [e3, uZ_s, show m - d - 1 = (m - (d + 1) - 1) + 1 by omega]
  have h2 : (elts s).length * (1 + tT (m - (d + 1) - 1)) ≤ (m - (d + 1) - 1 + 1) * (1 + tT (m - (d + 1) - 1)) := Nat.mul_le_mul_right _ (by omega)
  show _ ≤ (m - (d + 1) - 1 + 1) * (1 + tT (m - (d + 1) - 1)) + 1 + _
  omega
end
/-- a search with the rows R left -/
def srP (K : List Int → Int → Prop) (n : Int) (line opn barred : Int → Int) (mf ml dep er : Int) (R : List (List Int)) : Prop := (n = 0 ∧ ((er = 1 ∧ R = [[]]) ∨ (er = 0 ∧ R = []))) ∨ (0 < n ∧ n ≤ 8 ∧ tabK K n barred mf ml ∧ -1 ≤ dep ∧ dep < n ∧ siP n line opn barred mf ml dep ∧ R = remL K n line opn (dep + 1).toNat ∧ costL n.toNat opn (dep + 1).toNat ≤ 200000)
theorem tT_8 : ∀ k, k < 9 → tT k ≤ 178881 := by decide +kernel
section
variable {K : List Int → Int → Prop} {n : Int} {line opn barred : Int → Int} {mf ml dep g s : Int} {R : List (List Int)}
theorem si_line (h : siP n line opn barred mf ml dep) : ∀ d, 0 ≤ d → d < dep → (0 ≤ line d ∧ line d < n) ∧ ∀ i, 0 ≤ i → i < d → ¬ line d = line i := fun d h0 h1 => ⟨⟨(h.2 d h0 h1).1, (h.2 d h0 h1).2.1⟩, fun i i0 i1 => ((h.2 d h0 h1).2.2.1 i i0 i1).1⟩
theorem fn_pop (h1 : siP n line opn barred mf ml dep) (h2 : R = remL K n line opn (dep + 1).toNat) (hd : 0 ≤ dep) (h0 : opn dep = 0) : siP n line opn barred mf ml (dep - 1) ∧ R = remL K n line opn (dep - 1 + 1).toNat ∧ costL n.toNat opn (dep - 1 + 1).toNat < costL n.toNat opn (dep + 1).toNat := by
  obtain ⟨D, rfl⟩ : ∃ D : Nat, dep = (D : Int) := ⟨dep.toNat, by omega⟩
  have e1 : ((D : Int) + 1).toNat = D + 1 := by omega
  have e2 : ((D : Int) - 1 + 1).toNat = D := by omega
  rw [e1] at h2
  rw [e1, e2]
  exact ⟨⟨fun d d0 d1 => h1.1 d d0 (by omega), fun d d0 d1 => h1.2 d d0 (by omega)⟩, by rw [h2, rem_pop h0], cost_pop⟩
theorem fn_take (h1 : siP n line opn barred mf ml dep) (hd : 0 ≤ dep ∧ dep < n) (hg : 0 ≤ g ∧ g ≤ 7) (hs : 0 ≤ opn dep ∧ opn dep ≤ 255) (hm : mb (opn dep) g) : siP n (uZ line dep g) (uZ opn dep (sAnd (opn dep) (opn dep - 1))) barred mf ml dep ∧ (0 ≤ g ∧ opP n (uZ line dep g) barred mf ml dep g) := by
  have q : ∀ i, 0 ≤ i → i < dep → uZ line dep g i = line i := fun i _ i1 => uZ_n (by omega)
  refine ⟨⟨fun d d0 d1 j j0 j1 hj => ?_, fun d d0 d1 => ?_⟩, hg.1, opP_congr q (h1.1 dep hd.1 (Int.le_refl _) g hg.1 hg.2 hm)⟩
  · by_cases e : d = dep
    · subst e
      rw [uZ_s, mb_and] at hj
      exact opP_congr q (h1.1 d d0 d1 j j0 j1 hj.1)
    · rw [uZ_n e] at hj
      exact opP_congr (fun i i0 i1 => q i i0 (by omega)) (h1.1 d d0 d1 j j0 j1 hj)
  · rw [q d d0 d1]
    exact ⟨(h1.2 d d0 d1).1, opP_congr (fun i i0 i1 => q i i0 (by omega)) (h1.2 d d0 d1).2⟩
theorem fn_leaf (h1 : siP n line opn barred mf ml dep) (h2 : R = remL K n line opn (dep + 1).toNat) (hd : 0 ≤ dep ∧ dep = n - 1) (hg : 0 ≤ g ∧ g ≤ 7) (hs : 0 ≤ opn dep ∧ opn dep ≤ 255) (hm : mb (opn dep) g ∧ ∀ j, 0 ≤ j → j < g → ¬ mb (opn dep) j) : R = preL (uZ line dep g) n.toNat :: remL K n (uZ line dep g) (uZ opn dep (sAnd (opn dep) (opn dep - 1))) (dep + 1).toNat ∧ costL n.toNat (uZ opn dep (sAnd (opn dep) (opn dep - 1))) (dep + 1).toNat ≤ costL n.toNat opn (dep + 1).toNat := by
  obtain ⟨D, rfl⟩ : ∃ D : Nat, dep = (D : Int) := ⟨dep.toNat, by omega⟩
  have e1 : ((D : Int) + 1).toNat = D + 1 := by omega
  rw [e1] at h2
  rw [e1]
  have q := cost_take (m := n.toNat) hs hg hm.1 hm.2
  refine ⟨?_, by omega⟩
  rw [h2, rem_take hs hg hm.1 hm.2, show n.toNat - D - 1 = 0 by omega, show n.toNat = D + 1 by omega]
  rfl
theorem fn_push (hn : n ≤ 8) (ht : tabK K n barred mf ml) (h1 : siP n line opn barred mf ml dep) (h2 : R = remL K n line opn (dep + 1).toNat) (hm : mb (opn dep) g ∧ ∀ j, 0 ≤ j → j < g → ¬ mb (opn dep) j) (hs2 : ∀ j, 0 ≤ j → j ≤ 7 → (mb s j ↔ opP n (uZ line dep g) barred mf ml (dep + 1) j)) (hd : 0 ≤ dep ∧ dep < n ∧ ¬ dep = n - 1) (hg : 0 ≤ g ∧ g ≤ 7) (hs : 0 ≤ opn dep ∧ opn dep ≤ 255) : siP n (uZ line dep g) (uZ (uZ opn dep (sAnd (opn dep) (opn dep - 1))) (dep + 1) s) barred mf ml (dep + 1) ∧ R = remL K n (uZ line dep g) (uZ (uZ opn dep (sAnd (opn dep) (opn dep - 1))) (dep + 1) s) (dep + 1 + 1).toNat ∧ costL n.toNat (uZ (uZ opn dep (sAnd (opn dep) (opn dep - 1))) (dep + 1) s) (dep + 1 + 1).toNat < costL n.toNat opn (dep + 1).toNat := by
  have ht2 := fn_take h1 ⟨hd.1, hd.2.1⟩ hg hs hm.1
  have hsi : siP n (uZ line dep g) (uZ (uZ opn dep (sAnd (opn dep) (opn dep - 1))) (dep + 1) s) barred mf ml (dep + 1) := by
    refine ⟨fun d d0 d1 j j0 j1 hj => ?_, fun d d0 d1 => ?_⟩
    · by_cases e : d = dep + 1
      · subst e
        rw [uZ_s] at hj
        exact (hs2 j j0 j1).mp hj
      · rw [uZ_n e] at hj
        exact ht2.1.1 d d0 (by omega) j j0 j1 hj
    · by_cases e : d = dep
      · subst e
        rw [uZ_s]
        exact ht2.2
      · exact ht2.1.2 d d0 (by omega)
  refine ⟨hsi, ?_⟩
  have hline := si_line hsi
  have hlen := elts_len (s := s) (D := (dep + 1).toNat) (line := uZ line dep g) ⟨by omega, hn⟩ (fun j j0 j1 hj => by
    have z := (hs2 j j0 j1).mp hj
    exact ⟨z.1, fun i i0 i1 => (z.2.1 i i0 (by omega)).1⟩) (fun d d0 d1 => hline d d0 (by omega))
  obtain ⟨D, rfl⟩ : ∃ D : Nat, dep = (D : Int) := ⟨dep.toNat, by omega⟩
  have e1 : ((D : Int) + 1).toNat = D + 1 := by omega
  have e2 : ((D : Int) + 1 + 1).toNat = D + 2 := by omega
  have e3 : ((D : Int) + 1) = ((D + 1 : Nat) : Int) := by omega
  rw [e1] at h2 hlen
  rw [e1, e2]
  rw [e3] at hs2 hline ⊢
  have q := cost_take (m := n.toNat) hs hg hm.1 hm.2
  have q2 := cost_push (m := n.toNat) (d := D) (s := s) (opn := uZ opn (D : Int) (sAnd (opn (D : Int)) (opn (D : Int) - 1))) (by omega) (by omega)
  refine ⟨?_, by omega⟩
  rw [h2, rem_take hs hg hm.1 hm.2, rem_push ⟨by omega, hn⟩ ht (by omega) (fun i i0 i1 => (hline i i0 i1).1) hs2]
theorem sr_pos {er : Int} (h : srP K n line opn barred mf ml dep er R) (hn : ¬ n = 0) : 0 < n ∧ n ≤ 8 ∧ tabK K n barred mf ml ∧ -1 ≤ dep ∧ dep < n ∧ siP n line opn barred mf ml dep ∧ R = remL K n line opn (dep + 1).toNat ∧ costL n.toNat opn (dep + 1).toNat ≤ 200000 := by
  rcases h with h | h
  · exact absurd h.1 hn
  · exact h
theorem sr_zero {er : Int} (h : srP K n line opn barred mf ml dep er R) (hn : n = 0) (line' opn' : Int → Int) (dep' : Int) : ∃ R', srP K n line' opn' barred mf ml dep' 0 R' ∧ ((er = 1 ∧ R = preL line' n.toNat :: R') ∨ (er = 0 ∧ R = [] ∧ R' = [])) := by
  rcases h with ⟨h1, h2⟩ | h
  · refine ⟨[], Or.inl ⟨hn, Or.inr ⟨rfl, rfl⟩⟩, ?_⟩
    rcases h2 with ⟨h2, h3⟩ | ⟨h2, h3⟩
    · refine Or.inl ⟨h2, ?_⟩
      rw [h3, hn]
      rfl
    · exact Or.inr ⟨h2, h3, rfl⟩
  · omega
theorem sr_end {er : Int} (h : srP K n line opn barred mf ml dep er R) {line' opn' : Int → Int} {dep' : Int} (hn : ¬ n = 0) (h1 : siP n line' opn' barred mf ml dep') (h2 : R = remL K n line' opn' (dep' + 1).toNat) (hd : dep' = -1) : ∃ R', srP K n line' opn' barred mf ml dep' er R' ∧ (((0 : Int) = 1 ∧ R = preL line' n.toNat :: R') ∨ ((0 : Int) = 0 ∧ R = [] ∧ R' = [])) := by
  have q := sr_pos h hn
  subst hd
  have e : R = [] := by rw [h2]; rfl
  exact ⟨[], Or.inr ⟨q.1, q.2.1, q.2.2.1, by omega, by omega, h1, rfl, Nat.zero_le _⟩, Or.inr ⟨rfl, e, rfl⟩⟩
theorem sr_leaf {er : Int} (h : srP K n line opn barred mf ml dep er R) {line' opn' : Int → Int} {dep' : Int} (hn : ¬ n = 0) (h1 : siP n line' opn' barred mf ml dep') (h2 : R = remL K n line' opn' (dep' + 1).toNat) (hm : mb (opn' dep') g ∧ ∀ j, 0 ≤ j → j < g → ¬ mb (opn' dep') j) (hc : costL n.toNat opn' (dep' + 1).toNat ≤ 200000) (hd : 0 ≤ dep' ∧ dep' = n - 1) (hg : 0 ≤ g ∧ g ≤ 7) (hs : 0 ≤ opn' dep' ∧ opn' dep' ≤ 255) : ∃ R', srP K n (uZ line' dep' g) (uZ opn' dep' (sAnd (opn' dep') (opn' dep' - 1))) barred mf ml dep' er R' ∧ (((1 : Int) = 1 ∧ R = preL (uZ line' dep' g) n.toNat :: R') ∨ ((1 : Int) = 0 ∧ R = [] ∧ R' = [])) := by
  have q := sr_pos h hn
  have z := fn_leaf h1 h2 hd hg hs hm
  exact ⟨_, Or.inr ⟨q.1, q.2.1, q.2.2.1, by omega, by omega, (fn_take h1 ⟨hd.1, by omega⟩ hg hs hm.1).1, rfl, by omega⟩, Or.inl ⟨rfl, z.1⟩⟩
end
-- laying the sets
theorem bb_add {P : Int → Prop} {s o : Int} (h : ∀ j, 0 ≤ j → j ≤ 7 → (mb s j ↔ j < o ∧ P j)) (ho : 0 ≤ o) (hp : P o) : ∀ j, 0 ≤ j → j ≤ 7 → (mb (sOr s (sBit o)) j ↔ j < o + 1 ∧ P j) := fun j j0 j1 => by
  rw [mb_or, mb_bit ho j0, h j j0 j1]
  constructor
  · rintro (q | q)
    · exact ⟨by omega, q.2⟩
    · subst q; exact ⟨by omega, hp⟩
  · intro q
    by_cases e : o = j
    · exact Or.inr e
    · exact Or.inl ⟨by omega, q.2⟩
theorem bb_no {P : Int → Prop} {s o : Int} (h : ∀ j, 0 ≤ j → j ≤ 7 → (mb s j ↔ j < o ∧ P j)) (hp : ¬ P o) : ∀ j, 0 ≤ j → j ≤ 7 → (mb s j ↔ j < o + 1 ∧ P j) := fun j j0 j1 => by
  rw [h j j0 j1]
  constructor
  · intro q; exact ⟨by omega, q.2⟩
  · intro q
    refine ⟨?_, q.2⟩
    by_cases e : j = o
    · subst e; exact absurd q.2 hp
    · omega
theorem bb_z {P : Int → Prop} {s o : Int} (h : ∀ j, 0 ≤ j → j ≤ 7 → (mb s j ↔ j < o ∧ P j)) (hp : ¬ P o) : ∀ j, 0 ≤ j → j ≤ 7 → (mb (sOr s 0) j ↔ j < o + 1 ∧ P j) := fun j j0 j1 => by
  rw [mb_or, ← bb_no h hp j j0 j1]
  exact ⟨fun q => q.elim id (fun q => absurd q mb_0), Or.inl⟩
theorem bb_0 {P : Int → Prop} : ∀ j, 0 ≤ j → j ≤ 7 → (mb 0 j ↔ j < 0 ∧ P j) := fun j j0 _ => ⟨fun q => absurd q mb_0, fun q => absurd q.1 (by omega)⟩
theorem op_next {n p i : Int} {line barred : Int → Int} {s : Int} (h : ∀ j, 0 ≤ j → j ≤ 7 → (mb s j ↔ j < n ∧ ∀ k, 0 ≤ k → k < i → ¬ j = line k ∧ ¬ mb (barred ((p - k) * 8 + line k)) j)) (hi : 0 ≤ i) (hl : 0 ≤ line i) : ∀ j, 0 ≤ j → j ≤ 7 → (mb (sDif s (sOr (sBit (line i)) (barred ((p - i) * 8 + line i)))) j ↔ j < n ∧ ∀ k, 0 ≤ k → k < i + 1 → ¬ j = line k ∧ ¬ mb (barred ((p - k) * 8 + line k)) j) := fun j j0 j1 => by
  rw [mb_dif ⟨j0, j1⟩, mb_or, mb_bit hl j0, h j j0 j1]
  constructor
  · intro q
    refine ⟨q.1.1, fun k k0 k1 => ?_⟩
    by_cases e : k = i
    · subst e
      exact ⟨fun z => q.2 (Or.inl z.symm), fun z => q.2 (Or.inr z)⟩
    · exact q.1.2 k k0 (by omega)
  · intro q
    refine ⟨⟨q.1, fun k k0 k1 => q.2 k k0 (by omega)⟩, fun z => ?_⟩
    have w := q.2 i hi (by omega)
    rcases z with z | z
    · exact w.1 z.symm
    · exact w.2 z
theorem op_end {n p i : Int} {line barred : Int → Int} {mf ml s r : Int} (h : ∀ j, 0 ≤ j → j ≤ 7 → (mb s j ↔ j < n ∧ ∀ k, 0 ≤ k → k < i → ¬ j = line k ∧ ¬ mb (barred ((p - k) * 8 + line k)) j)) (hi : i = p) (hr : ∀ j, mb r j ↔ mb s j ∧ (p = 0 → mb mf j) ∧ (p = n - 1 → mb ml j)) : ∀ j, 0 ≤ j → j ≤ 7 → (mb r j ↔ opP n line barred mf ml p j) := fun j j0 j1 => by
  subst hi
  rw [hr j, h j j0 j1]
  unfold opP
  exact ⟨fun q => ⟨q.1.1, q.1.2, q.2.1, q.2.2⟩, fun q => ⟨⟨q.1, q.2.1⟩, q.2.2.1, q.2.2.2⟩⟩
/-- all rows that keep the bars, as the class goes through them -/
noncomputable def rowsC (ki lo sh wo on tw nu : Int → Int) (cnt n : Int) : List (List Int) := ifP (n = 0) (ifP (∃ k, 0 ≤ k ∧ k < cnt ∧ (wo k = 3 ∨ wo k = 4)) [] [[]]) (ext (okc ki lo sh wo on tw nu cnt n) n n.toNat [])
theorem sr_start {ki lo sh wo on tw nu : Int → Int} {cnt n : Int} {line opn barred : Int → Int} {mf ml s er : Int} (hn : 0 ≤ n ∧ n ≤ 8) (ht : tabP ki lo sh wo on tw nu cnt n barred mf ml) (hs : ∀ j, 0 ≤ j → j ≤ 7 → (mb s j ↔ opP n line barred mf ml 0 j)) (he : (n = 0 ∧ (∃ k, 0 ≤ k ∧ k < cnt ∧ (wo k = 3 ∨ wo k = 4)) ∧ er = 0) ∨ (n = 0 ∧ ¬ (∃ k, 0 ≤ k ∧ k < cnt ∧ (wo k = 3 ∨ wo k = 4)) ∧ er = 1) ∨ (¬ n = 0 ∧ er = 0)) : srP (okc ki lo sh wo on tw nu cnt n) n line (uZ opn 0 s) barred mf ml 0 er (rowsC ki lo sh wo on tw nu cnt n) := by
  unfold rowsC
  rcases he with ⟨h1, h2, h3⟩ | ⟨h1, h2, h3⟩ | ⟨h1, h3⟩
  · rw [ifP_t h1, ifP_t h2]
    exact Or.inl ⟨h1, Or.inr ⟨h3, rfl⟩⟩
  · rw [ifP_t h1, ifP_f h2]
    exact Or.inl ⟨h1, Or.inl ⟨h3, rfl⟩⟩
  · rw [ifP_f h1]
    have hk := tabK_of hn.2 ht
    have e0 : elts s = cand (okc ki lo sh wo on tw nu cnt n) n (preL line 0) := elts_cand hn hk (d := 0) (by omega) (fun i i0 i1 => by omega) hs
    have hlen := elts_len (s := s) (D := 0) (line := line) hn (fun j j0 j1 hj => ⟨((hs j j0 j1).mp hj).1, fun i i0 i1 => by omega⟩) (fun d d0 d1 => by omega)
    refine Or.inr ⟨by omega, hn.2, hk, by omega, by omega, ⟨fun d d0 d1 j j0 j1 hj => ?_, fun d d0 d1 => by omega⟩, ?_, ?_⟩
    · have e : d = 0 := by omega
      subst e
      rw [uZ_s] at hj
      exact (hs j j0 j1).mp hj
    · show _ = (elts (uZ opn 0 s ((0 : Nat) : Int))).flatMap _ ++ []
      rw [show ((0 : Nat) : Int) = 0 from rfl, uZ_s, e0, List.append_nil, show n.toNat = (n.toNat - 0 - 1) + 1 by omega]
      rfl
    · show (elts (uZ opn 0 s ((0 : Nat) : Int))).length * (1 + tT (n.toNat - 0 - 1)) + 1 + 0 ≤ 200000
      rw [show ((0 : Nat) : Int) = 0 from rfl, uZ_s]
      have h5 := tT_8 ((n.toNat - 0 - 1) + 1) (by omega)
      have h6 : (elts s).length * (1 + tT (n.toNat - 0 - 1)) ≤ (n.toNat - 0 - 1 + 1) * (1 + tT (n.toNat - 0 - 1)) := Nat.mul_le_mul_right _ (by omega)
      have h7 : tT ((n.toNat - 0 - 1) + 1) = (n.toNat - 0 - 1 + 1) * (1 + tT (n.toNat - 0 - 1)) + 1 := rfl
      omega
theorem bx_a1 : ∀ a, a < 256 → (zI ((a : Nat) : Int) &&& zI 1) = zI ((a % 2 : Nat) : Int) := by decide +kernel
theorem z_and1 {a : Int} (h : 0 ≤ a ∧ a ≤ 255) : zI a &&& zI 1 = zI (a % 2) := by
  obtain ⟨k, hk, rfl⟩ := b_lt h
  rw [bx_a1 k hk]
  congr 1
theorem shr_r {a j : Int} (h : 0 ≤ a ∧ a ≤ 255) : 0 ≤ ((a.toNat / 2 ^ j.toNat : Nat) : Int) ∧ ((a.toNat / 2 ^ j.toNat : Nat) : Int) ≤ 255 := by
  have q := Nat.div_le_self a.toNat (2 ^ j.toNat)
  generalize a.toNat / 2 ^ j.toNat = x at q ⊢
  omega
theorem tab_in {ki lo sh wo on tw nu : Int → Int} {cnt n g d r : Int} {barred : Int → Int} (hg : 0 ≤ g ∧ g < n ∧ n ≤ 8) (hd : 1 ≤ d ∧ d < n) (h1 : ∀ e, 1 ≤ e → e < n → ∀ a, 0 ≤ a → a < g → ∀ j, 0 ≤ j → j ≤ 7 → (mb (barred (e * 8 + a)) j ↔ j < n ∧ ¬ j = a ∧ anyB ki lo sh wo on tw nu cnt a j e)) (h2 : ∀ e, 1 ≤ e → e < d → ∀ j, 0 ≤ j → j ≤ 7 → (mb (barred (e * 8 + g)) j ↔ j < n ∧ ¬ j = g ∧ anyB ki lo sh wo on tw nu cnt g j e)) (hr : ∀ j, 0 ≤ j → j ≤ 7 → (mb r j ↔ j < n ∧ ¬ j = g ∧ anyB ki lo sh wo on tw nu cnt g j d)) : (∀ e, 1 ≤ e → e < n → ∀ a, 0 ≤ a → a < g → ∀ j, 0 ≤ j → j ≤ 7 → (mb (uZ barred (d * 8 + g) r (e * 8 + a)) j ↔ j < n ∧ ¬ j = a ∧ anyB ki lo sh wo on tw nu cnt a j e)) ∧ (∀ e, 1 ≤ e → e < d + 1 → ∀ j, 0 ≤ j → j ≤ 7 → (mb (uZ barred (d * 8 + g) r (e * 8 + g)) j ↔ j < n ∧ ¬ j = g ∧ anyB ki lo sh wo on tw nu cnt g j e)) := by
  refine ⟨fun e e1 e2 a a0 a1 j j0 j1 => ?_, fun e e1 e2 j j0 j1 => ?_⟩
  · rw [uZ_n (by omega)]
    exact h1 e e1 e2 a a0 a1 j j0 j1
  · by_cases q : e = d
    · subst q
      rw [uZ_s]
      exact hr j j0 j1
    · rw [uZ_n (by omega)]
      exact h2 e e1 (by omega) j j0 j1
theorem tab_out {ki lo sh wo on tw nu : Int → Int} {cnt n g d : Int} {barred : Int → Int} (hd : n ≤ d) (h1 : ∀ e, 1 ≤ e → e < n → ∀ a, 0 ≤ a → a < g → ∀ j, 0 ≤ j → j ≤ 7 → (mb (barred (e * 8 + a)) j ↔ j < n ∧ ¬ j = a ∧ anyB ki lo sh wo on tw nu cnt a j e)) (h2 : ∀ e, 1 ≤ e → e < d → ∀ j, 0 ≤ j → j ≤ 7 → (mb (barred (e * 8 + g)) j ↔ j < n ∧ ¬ j = g ∧ anyB ki lo sh wo on tw nu cnt g j e)) : ∀ e, 1 ≤ e → e < n → ∀ a, 0 ≤ a → a < g + 1 → ∀ j, 0 ≤ j → j ≤ 7 → (mb (barred (e * 8 + a)) j ↔ j < n ∧ ¬ j = a ∧ anyB ki lo sh wo on tw nu cnt a j e) := fun e e1 e2 a a0 a1 j j0 j1 => by
  by_cases q : a = g
  · subst q
    exact h2 e e1 (by omega) j j0 j1
  · exact h1 e e1 e2 a a0 (by omega) j j0 j1
theorem bb_end {P : Int → Prop} {s o n : Int} (h : ∀ j, 0 ≤ j → j ≤ 7 → (mb s j ↔ j < o ∧ P j)) (ho : o = n) : ∀ j, 0 ≤ j → j ≤ 7 → (mb s j ↔ j < n ∧ P j) := ho ▸ h
