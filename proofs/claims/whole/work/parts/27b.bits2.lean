-- bits of whole numbers
theorem zI_bv (z : Int) : (zI z).toBitVec.toNat = (z % 4294967296).toNat := by
  show (BitVec.ofInt 32 z).toNat = _
  rw [BitVec.toNat_ofInt]
  rfl
theorem nx_or (a b : Nat) : nI a ||| nI b = nI (a ||| b) := by
  apply Int32.toBitVec_inj.1
  show BitVec.ofNat 32 a ||| BitVec.ofNat 32 b = BitVec.ofNat 32 (a ||| b)
  apply BitVec.eq_of_getLsbD_eq
  intro i hi
  simp [hi]
theorem or16 {a b : Nat} (ha : a < 65536) (hb : b < 65536) : a ||| b < 65536 := Nat.or_lt_two_pow (n := 16) ha hb
theorem z_orG {a b : Int} (ha : 0 ≤ a ∧ a ≤ 65535) (hb : 0 ≤ b ∧ b ≤ 65535) : zI a ||| zI b = zI (sOr a b) := by
  have h := or16 (a := a.toNat) (b := b.toNat) (by omega) (by omega)
  rw [zI_nI (a := a) ⟨by omega, by omega⟩, zI_nI (a := b) ⟨by omega, by omega⟩, nx_or]
  unfold sOr
  rw [zI_nI ⟨by omega, by omega⟩, Int.toNat_natCast]
theorem sOr_rG {a b : Int} (ha : 0 ≤ a ∧ a ≤ 65535) (hb : 0 ≤ b ∧ b ≤ 65535) : 0 ≤ sOr a b ∧ sOr a b ≤ 65535 := by
  have h := or16 (a := a.toNat) (b := b.toNat) (by omega) (by omega)
  unfold sOr
  omega
theorem bx_shl16 : ∀ j, j < 16 → (zI 1 <<< (zI ((j : Nat) : Int) &&& 31)) = zI ((2 ^ j : Nat) : Int) ∧ (2 ^ j : Nat) < 65536 := by decide +kernel
theorem z_shlG {j : Int} (h : 0 ≤ j ∧ j ≤ 15) : zI 1 <<< (zI j &&& 31) = zI (sBit j) := by
  obtain ⟨k, rfl⟩ : ∃ k : Nat, j = (k : Int) := ⟨j.toNat, by omega⟩
  exact (bx_shl16 k (by omega)).1
theorem sBit_rG {j : Int} (h : 0 ≤ j ∧ j ≤ 15) : 0 ≤ sBit j ∧ sBit j ≤ 65535 := by
  have q := (bx_shl16 j.toNat (by omega)).2
  have h2 : ((2 ^ j.toNat : Nat) : Int) ≤ ((65535 : Nat) : Int) := Int.ofNat_le.mpr (Nat.le_of_lt_succ q)
  exact ⟨Int.natCast_nonneg _, h2⟩
theorem z_15 (v : Int) : zI v &&& zI 15 = zI (v % 16) := by
  rw [pk_and (zI v) (m := zI 15) 4 (by decide), zI_bv, zI_nI (a := v % 16) ⟨by omega, by omega⟩]
  congr 1
  omega
theorem bx_us : ∀ j, j < 32 → (((zI ((j : Nat) : Int)).toUInt32 &&& Int32.toUInt32 31).toBitVec % 32).toNat = j := by decide +kernel
theorem bx_ss : ∀ j, j < 32 → ((zI ((j : Nat) : Int) &&& 31).toBitVec.smod 32).toNat = j := by decide +kernel
def ushF (v k : Int) : Int := (((v % 4294967296).toNat / 2 ^ k.toNat : Nat) : Int)
theorem z_ushr {v k : Int} (hk : 0 ≤ k ∧ k ≤ 31) : ((zI v).toUInt32 >>> ((zI k).toUInt32 &&& Int32.toUInt32 31)).toInt32 = zI (ushF v k) := by
  apply Int32.toBitVec_inj.1
  apply BitVec.eq_of_toNat_eq
  have e : zI k = zI ((k.toNat : Nat) : Int) := by rw [Int.toNat_of_nonneg hk.1]
  rw [e, pk_ushr (zI v) (zI ((k.toNat : Nat) : Int)) k.toNat (bx_us k.toNat (by omega)), zI_bv, zI_bv]
  unfold ushF
  have h := Nat.div_le_self (v % 4294967296).toNat (2 ^ k.toNat)
  generalize (v % 4294967296).toNat / 2 ^ k.toNat = x at h ⊢
  omega
def shrF (v k : Int) : Int := v / ((2 ^ k.toNat : Nat) : Int)
theorem z_ishr {v k : Int} (hv : -2147483648 ≤ v ∧ v ≤ 2147483647) (hk : 0 ≤ k ∧ k ≤ 31) : zI v >>> (zI k &&& 31) = zI (shrF v k) := by
  apply Int32.toInt_inj.mp
  have e : zI k = zI ((k.toNat : Nat) : Int) := by rw [Int.toNat_of_nonneg hk.1]
  rw [e, pk_shr (zI v) (zI ((k.toNat : Nat) : Int) &&& 31) k.toNat (bx_ss k.toNat (by omega)), zI_toInt hv, Int.shiftRight_eq_div_pow]
  unfold shrF
  have h1 : (0 : Int) < ((2 ^ k.toNat : Nat) : Int) := by
    have := Nat.two_pow_pos k.toNat
    omega
  have h2 : -2147483648 ≤ v / ((2 ^ k.toNat : Nat) : Int) ∧ v / ((2 ^ k.toNat : Nat) : Int) ≤ 2147483647 := by
    generalize ((2 ^ k.toNat : Nat) : Int) = d at h1 ⊢
    have h3 : -2147483648 ≤ v / d := (Int.le_ediv_iff_mul_le h1).mpr (by omega)
    have h4 : v / d < 2147483648 := (Int.ediv_lt_iff_lt_mul h1).mpr (by omega)
    omega
  rw [zI_toInt h2]
/-- four bits of a number -/
def nib (v i : Int) : Int := shrF v (4 * i) % 16
theorem nib_r {v i : Int} : 0 ≤ nib v i ∧ nib v i ≤ 15 := by
  unfold nib
  omega
theorem pw_pos (k : Nat) : (0 : Int) < ((2 ^ k : Nat) : Int) := by
  have := Nat.two_pow_pos k
  omega
theorem ush_nib {v i : Int} (hi : 0 ≤ i ∧ i ≤ 7) : ushF v (4 * i) % 16 = nib v i := by
  unfold nib ushF shrF
  obtain ⟨k, rfl⟩ : ∃ k : Nat, i = (k : Int) := ⟨i.toNat, by omega⟩
  have hk : k = 0 ∨ k = 1 ∨ k = 2 ∨ k = 3 ∨ k = 4 ∨ k = 5 ∨ k = 6 ∨ k = 7 := by omega
  rcases hk with rfl | rfl | rfl | rfl | rfl | rfl | rfl | rfl
  · show (((v % 4294967296).toNat / 1 : Nat) : Int) % 16 = v / 1 % 16
    omega
  · show (((v % 4294967296).toNat / 16 : Nat) : Int) % 16 = v / 16 % 16
    omega
  · show (((v % 4294967296).toNat / 256 : Nat) : Int) % 16 = v / 256 % 16
    omega
  · show (((v % 4294967296).toNat / 4096 : Nat) : Int) % 16 = v / 4096 % 16
    omega
  · show (((v % 4294967296).toNat / 65536 : Nat) : Int) % 16 = v / 65536 % 16
    omega
  · show (((v % 4294967296).toNat / 1048576 : Nat) : Int) % 16 = v / 1048576 % 16
    omega
  · show (((v % 4294967296).toNat / 16777216 : Nat) : Int) % 16 = v / 16777216 % 16
    omega
  · show (((v % 4294967296).toNat / 268435456 : Nat) : Int) % 16 = v / 268435456 % 16
    omega
/-- a number lays a row: each guest once -/
def layP (n v : Int) : Prop := (∀ i, 0 ≤ i → i < n → nib v i < n) ∧ (∀ i j, 0 ≤ i → i < j → j < n → ¬ nib v i = nib v j)
theorem lay_hit {n : Int} {f : Int → Int} (h0 : ∀ i, 0 ≤ i → i < n → 0 ≤ f i) (h1 : ∀ i, 0 ≤ i → i < n → f i < n) (h2 : ∀ i j, 0 ≤ i → i < j → j < n → ¬ f i = f j) : ∀ k, 0 ≤ k → k < n → ∃ i, 0 ≤ i ∧ i < n ∧ f i = k := fun k k0 k1 => by
  apply Classical.byContradiction
  intro hx
  have hn : (k :: preL f n.toNat).Nodup := by
    rw [List.nodup_cons]
    refine ⟨fun q => ?_, preL_nodup (fun d d0 d1 i i0 i1 q => h2 i d i0 i1 (by omega) q.symm)⟩
    unfold preL at q
    obtain ⟨i, hi, e⟩ := List.mem_map.mp q
    have hi2 := List.mem_range.mp hi
    exact hx ⟨(i : Int), by omega, by omega, e⟩
  have hs : (k :: preL f n.toNat) ⊆ (List.range n.toNat).map (fun j : Nat => (j : Int)) := by
    intro a ha
    have q : 0 ≤ a ∧ a < n := by
      rcases List.mem_cons.mp ha with rfl | ha
      · exact ⟨k0, k1⟩
      · unfold preL at ha
        obtain ⟨i, hi, rfl⟩ := List.mem_map.mp ha
        have hi2 := List.mem_range.mp hi
        exact ⟨h0 _ (by omega) (by omega), h1 _ (by omega) (by omega)⟩
    exact List.mem_map.mpr ⟨a.toNat, List.mem_range.mpr (by omega), by omega⟩
  have h3 := List.Nodup.length_le_of_subset hn hs
  rw [List.length_cons, preL_len, List.length_map, List.length_range] at h3
  omega
theorem lay_inj {n : Int} {f : Int → Int} (h : ∀ k, 0 ≤ k → k < n → ∃ i, 0 ≤ i ∧ i < n ∧ f i = k) : (∀ i, 0 ≤ i → i < n → f i < n) ∧ (∀ i j, 0 ≤ i → i < j → j < n → ¬ f i = f j) := by
  have key : ∀ a, 0 ≤ a → a < n → (∀ k, 0 ≤ k → k < n → ∃ i, 0 ≤ i ∧ i < n ∧ ¬ i = a ∧ f i = k) → False := fun a a0 a1 hk => by
    have hs : (List.range n.toNat).map (fun j : Nat => (j : Int)) ⊆ (((List.range n.toNat).filter (fun j => !(j == a.toNat))).map (fun i : Nat => f (i : Int))) := by
      intro k hkm
      obtain ⟨j, hj, rfl⟩ := List.mem_map.mp hkm
      have hj2 := List.mem_range.mp hj
      obtain ⟨i, i0, i1, i2, i3⟩ := hk (j : Int) (by omega) (by omega)
      refine List.mem_map.mpr ⟨i.toNat, List.mem_filter.mpr ⟨List.mem_range.mpr (by omega), ?_⟩, ?_⟩
      · have : ¬ i.toNat = a.toNat := by omega
        simp [this]
      · rw [show ((i.toNat : Nat) : Int) = i by omega]; exact i3
    have hn : ((List.range n.toNat).map (fun j : Nat => (j : Int))).Nodup := List.Pairwise.map (S := fun a b : Int => a ≠ b) (fun j : Nat => (j : Int)) (fun a b h => by show (a : Int) ≠ (b : Int); omega) List.pairwise_lt_range
    have h3 := List.Nodup.length_le_of_subset hn hs
    rw [List.length_map, List.length_map, List.length_range] at h3
    have h4 : a.toNat :: (List.range n.toNat).filter (fun j => !(j == a.toNat)) ⊆ List.range n.toNat := by
      intro x hx
      rcases List.mem_cons.mp hx with rfl | hx
      · exact List.mem_range.mpr (by omega)
      · exact (List.mem_filter.mp hx).1
    have h5 : (a.toNat :: (List.range n.toNat).filter (fun j => !(j == a.toNat))).Nodup := by
      rw [List.nodup_cons]
      refine ⟨fun q => ?_, List.Pairwise.filter _ List.nodup_range⟩
      have q2 := (List.mem_filter.mp q).2
      simp at q2
    have h6 := List.Nodup.length_le_of_subset h5 h4
    rw [List.length_cons, List.length_range] at h6
    omega
  constructor
  · intro i i0 i1
    apply Classical.byContradiction
    intro q
    refine key i i0 i1 (fun k k0 k1 => ?_)
    obtain ⟨j, j0, j1, j2⟩ := h k k0 k1
    exact ⟨j, j0, j1, fun e => by subst e; omega, j2⟩
  · intro i j i0 ij j1 e
    refine key j (by omega) j1 (fun k k0 k1 => ?_)
    obtain ⟨a, a0, a1, a2⟩ := h k k0 k1
    by_cases z : a = j
    · exact ⟨i, i0, by omega, by omega, by rw [e, ← z]; exact a2⟩
    · exact ⟨a, a0, a1, z, a2⟩
theorem lay_eq {n v seen : Int} (hn : 0 ≤ n ∧ n ≤ 8) (hs : 0 ≤ seen ∧ seen ≤ 65535) (h : ∀ j, 0 ≤ j → j ≤ 15 → (mb seen j ↔ ∃ k, 0 ≤ k ∧ k < n ∧ nib v k = j)) : seen = sBit n - 1 ↔ layP n v := by
  have hb : ∀ j : Nat, (sBit n - 1).toNat.testBit j = decide (j < n.toNat) := fun j => by
    unfold sBit
    have e : (((2 ^ n.toNat : Nat) : Int) - 1).toNat = 2 ^ n.toNat - 1 := by omega
    rw [e, Nat.testBit_two_pow_sub_one]
  have h8 := sBit_8 n hn
  constructor
  · intro e
    have hm : ∀ j, 0 ≤ j → j ≤ 15 → (mb seen j ↔ j < n) := fun j j0 j1 => by
      unfold mb
      rw [e, hb, decide_eq_true_iff]
      omega
    exact lay_inj (fun k k0 k1 => (h k k0 (by omega)).mp ((hm k k0 (by omega)).mpr k1))
  · intro hl
    have hh := lay_hit (n := n) (f := fun i => nib v i) (fun i _ _ => nib_r.1) hl.1 hl.2
    have e : seen.toNat = (sBit n - 1).toNat := by
      apply Nat.eq_of_testBit_eq
      intro j
      rw [hb]
      by_cases hj : j ≤ 15
      · have q := h (j : Int) (by omega) (by omega)
        unfold mb at q
        rw [Int.toNat_natCast] at q
        by_cases hjn : j < n.toNat
        · rw [decide_eq_true hjn]
          exact q.mpr (hh (j : Int) (by omega) (by omega))
        · rw [decide_eq_false hjn]
          cases hz : seen.toNat.testBit j
          · rfl
          · obtain ⟨k, k0, k1, k2⟩ := q.mp hz
            have := hl.1 k k0 k1
            omega
      · have q : seen.toNat.testBit j = false := Nat.testBit_lt_two_pow (Nat.lt_of_lt_of_le (show seen.toNat < 2 ^ 16 by omega) (Nat.pow_le_pow_right (by omega) (by omega)))
        rw [q, decide_eq_false (by omega)]
    omega
theorem lay_next {n v i seen : Int} (h : ∀ j, 0 ≤ j → j ≤ 15 → (mb seen j ↔ ∃ k, 0 ≤ k ∧ k < i ∧ nib v k = j)) (hi : 0 ≤ i) : ∀ j, 0 ≤ j → j ≤ 15 → (mb (sOr seen (sBit (nib v i))) j ↔ ∃ k, 0 ≤ k ∧ k < i + 1 ∧ nib v k = j) := fun j j0 j1 => by
  rw [mb_or, mb_bit nib_r.1 j0, h j j0 j1]
  constructor
  · rintro (⟨k, k0, k1, k2⟩ | q)
    · exact ⟨k, k0, by omega, k2⟩
    · exact ⟨i, hi, by omega, q⟩
  · rintro ⟨k, k0, k1, k2⟩
    by_cases e : k = i
    · subst e; exact Or.inr k2
    · exact Or.inl ⟨k, k0, by omega, k2⟩
def passP (n : Int) (ta : Int → Int) (cells : Int) (wires : Int → Int) : Prop := ∀ g, 0 ≤ g → g < n → ∀ i, 0 ≤ i → i < cells → ¬ lowP wires (ta g) i
theorem bb_i {v i n seen : Int} (h : ∀ j, 0 ≤ j → j ≤ 15 → (mb seen j ↔ ∃ k, 0 ≤ k ∧ k < i ∧ nib v k = j)) (hi : i = n) : ∀ j, 0 ≤ j → j ≤ 15 → (mb seen j ↔ ∃ k, 0 ≤ k ∧ k < n ∧ nib v k = j) := hi ▸ h
theorem fst_m1 {P : Int → Prop} {n r : Int} (h : fstP P n r) (hr : r = -1) : ∀ i, 0 ≤ i → i < n → ¬ P i := by
  rcases h with h | h
  · exact h.2
  · omega
theorem fst_ne {P : Int → Prop} {n r : Int} (h : fstP P n r) (hr : ¬ r = -1) (hn : ∀ i, 0 ≤ i → i < n → ¬ P i) : False := by
  rcases h with h | ⟨h1, h2, h3, h4⟩
  · exact hr h.1
  · exact hn r h1 h2 h3
