-- rows that keep the bars, one behind the other: who may stand behind a prefix, and all that can come of it
section
variable (ki lo sh wo on tw nu : Int → Int) (cnt n : Int)
def mayE (w g : Int) : Prop := ∀ k, 0 ≤ k → k < cnt → wo k = w → isP ki (on k) g
/-- guest j may stand behind the prefix q -/
def okc (q : List Int) (j : Int) : Prop := (∀ i : Nat, i < q.length → ¬ j = q.getD i 0 ∧ ¬ anyB ki lo sh wo on tw nu cnt (q.getD i 0) j ((q.length : Int) - (i : Int))) ∧ (q.length = 0 → mayE ki wo on cnt 3 j) ∧ ((q.length : Int) = n - 1 → mayE ki wo on cnt 4 j)
end
/-- who may stand behind a prefix, in order; K: what is asked -/
noncomputable def cand (K : List Int → Int → Prop) (n : Int) (q : List Int) : List Int := ((List.range n.toNat).map (fun j : Nat => (j : Int))).filter (fun j => @decide (K q j) (Classical.propDecidable _))
noncomputable def ext (K : List Int → Int → Prop) (n : Int) : Nat → List Int → List (List Int)
  | 0, q => [q]
  | k + 1, q => (cand K n q).flatMap (fun g => ext K n k (q ++ [g]))
def preL (line : Int → Int) (d : Nat) : List Int := (List.range d).map (fun i : Nat => line (i : Int))
theorem preL_len {line : Int → Int} {d : Nat} : (preL line d).length = d := by unfold preL; simp
theorem preL_get {line : Int → Int} {d i : Nat} (h : i < d) : (preL line d).getD i 0 = line (i : Int) := by
  unfold preL
  simp [List.getD, h]
theorem preL_s {line : Int → Int} {d : Nat} : preL line (d + 1) = preL line d ++ [line (d : Int)] := by
  unfold preL
  rw [List.range_succ, List.map_append]
  rfl
theorem preL_up {line : Int → Int} {d : Nat} {i v : Int} (h : (d : Int) ≤ i) : preL (uZ line i v) d = preL line d := by
  unfold preL
  apply List.map_congr_left
  intro a ha
  have := List.mem_range.mp ha
  exact uZ_n (by omega)
/-- who can stand at a place, by the tables -/
def opP (n : Int) (line barred : Int → Int) (mf ml p j : Int) : Prop := j < n ∧ (∀ i, 0 ≤ i → i < p → ¬ j = line i ∧ ¬ mb (barred ((p - i) * 8 + line i)) j) ∧ (p = 0 → mb mf j) ∧ (p = n - 1 → mb ml j)
/-- what the tables say -/
def tabP (ki lo sh wo on tw nu : Int → Int) (cnt n : Int) (barred : Int → Int) (mf ml : Int) : Prop := (∀ d, 1 ≤ d → d < n → ∀ g, 0 ≤ g → g < n → ∀ j, 0 ≤ j → j ≤ 7 → (mb (barred (d * 8 + g)) j ↔ j < n ∧ ¬ j = g ∧ anyB ki lo sh wo on tw nu cnt g j d)) ∧ (∀ j, 0 ≤ j → j ≤ 7 → (mb mf j ↔ j < n ∧ mayE ki wo on cnt 3 j)) ∧ (∀ j, 0 ≤ j → j ≤ 7 → (mb ml j ↔ j < n ∧ mayE ki wo on cnt 4 j))
theorem op_okc {ki lo sh wo on tw nu : Int → Int} {cnt n : Int} {line barred : Int → Int} {mf ml : Int} (hn : n ≤ 8) (ht : tabP ki lo sh wo on tw nu cnt n barred mf ml) {d : Nat} (hd : (d : Int) < n) (hl : ∀ i : Int, 0 ≤ i → i < (d : Int) → 0 ≤ line i ∧ line i < n) {j : Int} (hj : 0 ≤ j ∧ j < n) : opP n line barred mf ml (d : Int) j ↔ okc ki lo sh wo on tw nu cnt n (preL line d) j := by
  unfold opP okc
  rw [preL_len]
  constructor
  · intro h
    obtain ⟨h1, h2, h3, h4⟩ := h
    refine ⟨fun i hi => ?_, fun q => ?_, fun q => ?_⟩
    · rw [preL_get hi]
      have q := h2 (i : Int) (by omega) (by omega)
      have e := hl (i : Int) (by omega) (by omega)
      refine ⟨q.1, fun z => q.2 ((ht.1 ((d : Int) - (i : Int)) (by omega) (by omega) _ e.1 e.2 j (by omega) (by omega)).mpr ⟨hj.2, q.1, z⟩)⟩
    · exact ((ht.2.1 j (by omega) (by omega)).mp (h3 (by omega))).2
    · exact ((ht.2.2 j (by omega) (by omega)).mp (h4 (by omega))).2
  · intro h
    obtain ⟨h2, h3, h4⟩ := h
    refine ⟨hj.2, fun i h0 hi => ?_, fun q => (ht.2.1 j (by omega) (by omega)).mpr ⟨hj.2, h3 (by omega)⟩, fun q => (ht.2.2 j (by omega) (by omega)).mpr ⟨hj.2, h4 (by omega)⟩⟩
    have q := h2 i.toNat (by omega)
    rw [preL_get (by omega), show ((i.toNat : Nat) : Int) = i by omega] at q
    have e := hl i h0 hi
    refine ⟨q.1, fun z => q.2 ?_⟩
    have w := (ht.1 ((d : Int) - i) (by omega) (by omega) _ e.1 e.2 j (by omega) (by omega)).mp z
    exact w.2.2
/-- the tables say what K asks -/
def tabK (K : List Int → Int → Prop) (n : Int) (barred : Int → Int) (mf ml : Int) : Prop := ∀ (line : Int → Int) (d : Nat), (d : Int) < n → (∀ i : Int, 0 ≤ i → i < (d : Int) → 0 ≤ line i ∧ line i < n) → ∀ j : Int, 0 ≤ j → j < n → (opP n line barred mf ml (d : Int) j ↔ K (preL line d) j)
theorem tabK_of {ki lo sh wo on tw nu : Int → Int} {cnt n : Int} {barred : Int → Int} {mf ml : Int} (hn : n ≤ 8) (ht : tabP ki lo sh wo on tw nu cnt n barred mf ml) : tabK (okc ki lo sh wo on tw nu cnt n) n barred mf ml := fun line d hd hl j h0 h1 => op_okc hn ht hd hl ⟨h0, h1⟩
theorem elts_cand {K : List Int → Int → Prop} {n : Int} {line barred : Int → Int} {mf ml s : Int} (hn : 0 ≤ n ∧ n ≤ 8) (ht : tabK K n barred mf ml) {d : Nat} (hd : (d : Int) < n) (hl : ∀ i : Int, 0 ≤ i → i < (d : Int) → 0 ≤ line i ∧ line i < n) (hs : ∀ j, 0 ≤ j → j ≤ 7 → (mb s j ↔ opP n line barred mf ml (d : Int) j)) : elts s = cand K n (preL line d) := by
  unfold elts cand
  rw [List.filter_map]
  have e8 : List.range 8 = List.range n.toNat ++ (List.range (8 - n.toNat)).map (fun k => n.toNat + k) := by
    rw [← List.range_add, show n.toNat + (8 - n.toNat) = 8 by omega]
  rw [e8, List.filter_append]
  have h2 : ((List.range (8 - n.toNat)).map (fun k => n.toNat + k)).filter (fun j => s.toNat.testBit j) = [] := by
    rw [List.filter_eq_nil_iff]
    intro a ha hb
    obtain ⟨k, hk, rfl⟩ := List.mem_map.mp ha
    have hk2 := List.mem_range.mp hk
    have h3 := (hs ((n.toNat + k : Nat) : Int) (by omega) (by omega)).mp (by unfold mb; rw [Int.toNat_natCast]; exact hb)
    have h4 := h3.1
    omega
  rw [h2, List.append_nil]
  congr 1
  apply List.filter_congr
  intro a ha
  have ha2 := List.mem_range.mp ha
  have h5 := hs (a : Int) (by omega) (by omega)
  rw [ht line d hd hl (a : Int) (by omega) (by omega)] at h5
  unfold mb at h5
  rw [Int.toNat_natCast] at h5
  by_cases q : K (preL line d) (a : Int)
  · rw [h5.mpr q]
    simp [q]
  · have q2 : s.toNat.testBit a = false := by
      cases hz : s.toNat.testBit a
      · rfl
      · exact absurd (h5.mp hz) q
    rw [q2]
    simp [q]
