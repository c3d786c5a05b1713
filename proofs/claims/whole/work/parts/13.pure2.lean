-- rows about bits and rests
theorem zI_nI {a : Int} (h : 0 ≤ a ∧ a ≤ 2147483647) : zI a = nI a.toNat := by
  rw [← Int32.toInt_inj, zI_toInt ⟨by omega, by omega⟩, nI_toInt (by omega)]
  omega
theorem z_rem {a d : Int} (ha : 0 ≤ a ∧ a ≤ 2147483647) (hd : 0 < d ∧ d ≤ 2147483647) : zI a - zI a / zI d * zI d = zI (a % d) := by
  have h3 : 0 ≤ a % d := Int.emod_nonneg a (by omega)
  have h4 : a % d < d := Int.emod_lt_of_pos a hd.1
  rw [zI_nI ha, zI_nI (a := d) ⟨by omega, by omega⟩, pk_rem (by omega) (by omega) (by omega), zI_nI (a := a % d) ⟨h3, by omega⟩]
  congr 1
  have h5 : (a.toNat % d.toNat : Nat) = (a % d).toNat := by
    have h6 : ((a.toNat % d.toNat : Nat) : Int) = a % d := by
      rw [Int.natCast_emod, Int.toNat_of_nonneg ha.1, Int.toNat_of_nonneg (by omega)]
    omega
  exact h5
-- a run, a step
theorem room_end {le : Int → Int} {gap : Int} {line : Int → Int} {p i : Int} {heads out : Int → Int} {r : Int} (h : ∀ k, i < k → k < p → ¬ out (line k) = -1) (h0 : 0 ≤ i) (h1 : i < p) (ho : out (line i) = -1) (hr : (gap < heads (line i) - le (line i) + 1 - (heads (line p) + 1) ∧ r = 1) ∨ (heads (line i) - le (line i) + 1 - (heads (line p) + 1) ≤ gap ∧ r = 0)) : (roomP le gap line p heads out ∧ r = 1) ∨ (¬ roomP le gap line p heads out ∧ r = 0) := by
  rcases hr with ⟨q, hr⟩ | ⟨q, hr⟩
  · exact Or.inl ⟨Or.inr ⟨i, h0, h1, ho, h, q⟩, hr⟩
  · refine Or.inr ⟨fun z => ?_, hr⟩
    rcases z with z | ⟨j, j0, j1, j2, j3, j4⟩
    · exact z i h0 h1 ho
    · rcases Int.lt_trichotomy i j with q1 | q1 | q1
      · exact h j q1 j1 j2
      · subst q1; omega
      · exact j3 i q1 h1 ho
section
variable {ki le : Int → Int} {cells gap : Int} {stands line : Int → Int} {now : Int} {h b c o h' b' c' o' : Int → Int} {i : Int} {s : PS}
theorem step_act (hi : 0 ≤ i) (ht : (h, b, c, o) = stepK ki le cells gap stands line now i.toNat s) (ho : o (line i) = -1) (ha : (h', b', c', o') = actF ki le cells gap stands line now i (h, b, c, o)) : (h', b', c', o') = stepK ki le cells gap stands line now (i + 1).toNat s := by
  have e : ((i.toNat : Nat) : Int) = i := by omega
  rw [show (i + 1).toNat = i.toNat + 1 by omega]
  unfold stepK
  rw [← ht, e, ifP_t ho]
  exact ha
theorem step_no (hi : 0 ≤ i) (ht : (h, b, c, o) = stepK ki le cells gap stands line now i.toNat s) (ho : ¬ o (line i) = -1) : (h, b, c, o) = stepK ki le cells gap stands line now (i + 1).toNat s := by
  have e : ((i.toNat : Nat) : Int) = i := by omega
  rw [show (i + 1).toNat = i.toNat + 1 by omega]
  unfold stepK
  rw [← ht, e, ifP_f ho]
theorem JP_act (hj : JP le cells h o) (ha : (h', b', c', o') = actF ki le cells gap stands line now i (h, b, c, o)) (hn : 0 ≤ now) : JP le cells h' o' := by
  unfold actF at ha
  by_cases h1 : 0 < b (line i)
  · rw [if_pos h1] at ha
    injection ha with e1 e2; injection e2 with e2 e3; injection e3 with e3 e4
    rw [e1, e4]; exact hj
  · rw [if_neg h1] at ha
    by_cases h2 : goP now (ki (line i)) ∧ roomP le gap line i h o
    · rw [ifP_t h2] at ha
      unfold arrF at ha
      injection ha with e1 e2; injection e2 with e2 e3; injection e3 with e3 e4
      dsimp only at e1 e4
      intro g g0 g1 hg
      by_cases q : g = line i
      · subst q
        rw [e1, uZ_s]
        simp only [uZ_s] at e4
        by_cases w : cells ≤ h (line i) + 1 - le (line i) + 1
        · rw [if_pos w] at e4; rw [e4, uZ_s] at hg; omega
        · omega
      · have k1 : h' g = h g := by rw [e1, uZ_n q]
        have k2 : o' g = o g := by
          rw [e4]
          split
          · rw [uZ_n q]
          · rfl
        rw [k1]
        exact hj g g0 g1 (by rw [← k2]; exact hg)
    · rw [ifP_f h2] at ha
      injection ha with e1 e2; injection e2 with e2 e3; injection e3 with e3 e4
      rw [e1, e4]; exact hj
end
