-- sets of guests as numbers below 256
def mb (a j : Int) : Prop := a.toNat.testBit j.toNat = true
def sOr (a b : Int) : Int := ((a.toNat ||| b.toNat : Nat) : Int)
def sAnd (a b : Int) : Int := ((a.toNat &&& b.toNat : Nat) : Int)
def sDif (a b : Int) : Int := ((a.toNat &&& (b.toNat ^^^ 255) : Nat) : Int)
def sBit (j : Int) : Int := ((2 ^ j.toNat : Nat) : Int)
theorem b_lt {a : Int} (h : 0 ≤ a ∧ a ≤ 255) : ∃ k : Nat, k < 256 ∧ a = (k : Int) := ⟨a.toNat, by omega, by omega⟩
theorem z_or {a b : Int} (ha : 0 ≤ a ∧ a ≤ 255) (hb : 0 ≤ b ∧ b ≤ 255) : zI a ||| zI b = zI (sOr a b) := by
  obtain ⟨k, hk, rfl⟩ := b_lt ha
  obtain ⟨j, hj, rfl⟩ := b_lt hb
  exact bx_or k hk j hj
theorem z_and {a b : Int} (ha : 0 ≤ a ∧ a ≤ 255) (hb : 0 ≤ b ∧ b ≤ 255) : zI a &&& zI b = zI (sAnd a b) := by
  obtain ⟨k, hk, rfl⟩ := b_lt ha
  obtain ⟨j, hj, rfl⟩ := b_lt hb
  exact bx_and k hk j hj
theorem z_nn {a b : Int} (ha : 0 ≤ a ∧ a ≤ 255) (hb : 0 ≤ b ∧ b ≤ 255) : zI (-a - 1) &&& zI (-b - 1) = zI (-(sOr a b) - 1) := by
  obtain ⟨k, hk, rfl⟩ := b_lt ha
  obtain ⟨j, hj, rfl⟩ := b_lt hb
  exact bx_nn k hk j hj
theorem z_dn {a b : Int} (ha : 0 ≤ a ∧ a ≤ 255) (hb : 0 ≤ b ∧ b ≤ 255) : zI a &&& zI (-b - 1) = zI (sDif a b) := by
  obtain ⟨k, hk, rfl⟩ := b_lt ha
  obtain ⟨j, hj, rfl⟩ := b_lt hb
  exact bx_dn k hk j hj
theorem z_not {a : Int} (ha : 0 ≤ a ∧ a ≤ 255) : zI a ^^^ zI (-1) = zI (-a - 1) := by
  obtain ⟨k, hk, rfl⟩ := b_lt ha
  exact bx_not k hk
theorem z_shl1 {j : Int} (h : 0 ≤ j ∧ j ≤ 8) : zI 1 <<< (zI j &&& 31) = zI (sBit j) := by
  obtain ⟨k, rfl⟩ : ∃ k : Nat, j = (k : Int) := ⟨j.toNat, by omega⟩
  exact bx_shl k (by omega)
theorem z_shr {a j : Int} (ha : 0 ≤ a ∧ a ≤ 255) (h : 0 ≤ j ∧ j ≤ 7) : zI a >>> (zI j &&& 31) = zI ((a.toNat / 2 ^ j.toNat : Nat) : Int) := by
  obtain ⟨i, hi, rfl⟩ := b_lt ha
  obtain ⟨k, rfl⟩ : ∃ k : Nat, j = (k : Int) := ⟨j.toNat, by omega⟩
  exact bx_shr i hi k (by omega)
theorem sOr_r {a b : Int} (ha : 0 ≤ a ∧ a ≤ 255) (hb : 0 ≤ b ∧ b ≤ 255) : 0 ≤ sOr a b ∧ sOr a b ≤ 255 := by
  have h := (bx_lt a.toNat (by omega) b.toNat (by omega)).1
  unfold sOr; omega
theorem sAnd_r {a b : Int} (ha : 0 ≤ a ∧ a ≤ 255) (hb : 0 ≤ b ∧ b ≤ 255) : 0 ≤ sAnd a b ∧ sAnd a b ≤ 255 := by
  have h := (bx_lt a.toNat (by omega) b.toNat (by omega)).2.1
  unfold sAnd; omega
theorem sDif_r {a b : Int} (ha : 0 ≤ a ∧ a ≤ 255) (hb : 0 ≤ b ∧ b ≤ 255) : 0 ≤ sDif a b ∧ sDif a b ≤ 255 := by
  have h := (bx_lt a.toNat (by omega) b.toNat (by omega)).2.2
  unfold sDif; omega
theorem sBit_r {j : Int} (h : 0 ≤ j ∧ j ≤ 7) : 0 ≤ sBit j ∧ sBit j ≤ 255 := by
  have h := bx_pw j.toNat (by omega)
  have h2 : ((2 ^ j.toNat : Nat) : Int) ≤ ((255 : Nat) : Int) := Int.ofNat_le.mpr (Nat.le_of_lt_succ h)
  exact ⟨Int.natCast_nonneg _, h2⟩
theorem sBit_8 : ∀ n : Int, 0 ≤ n ∧ n ≤ 8 → 1 ≤ sBit n ∧ sBit n ≤ 256 := fun n h => by
  obtain ⟨k, rfl⟩ : ∃ k : Nat, n = (k : Int) := ⟨n.toNat, by omega⟩
  have q : ∀ k : Nat, k < 9 → (1 : Int) ≤ sBit (k : Int) ∧ sBit (k : Int) ≤ 256 := by decide +kernel
  exact q k (by omega)
theorem mb_or {a b j : Int} : mb (sOr a b) j ↔ mb a j ∨ mb b j := by
  unfold mb sOr
  rw [Int.toNat_natCast, Nat.testBit_or, Bool.or_eq_true]
theorem mb_and {a b j : Int} : mb (sAnd a b) j ↔ mb a j ∧ mb b j := by
  unfold mb sAnd
  rw [Int.toNat_natCast, Nat.testBit_and, Bool.and_eq_true]
theorem mb_dif {a b j : Int} (h : 0 ≤ j ∧ j ≤ 7) : mb (sDif a b) j ↔ mb a j ∧ ¬ mb b j := by
  unfold mb sDif
  rw [Int.toNat_natCast, Nat.testBit_and, Nat.testBit_xor, Bool.and_eq_true, bx_255 _ (by omega)]
  simp
theorem mb_bit {i j : Int} (hi : 0 ≤ i) (hj : 0 ≤ j) : mb (sBit i) j ↔ i = j := by
  unfold mb sBit
  rw [Int.toNat_natCast, Nat.testBit_two_pow]
  simp
  omega
theorem mb_0 {j : Int} : ¬ mb 0 j := by
  unfold mb
  simp
theorem mb_full {n j : Int} (hn : 0 ≤ n ∧ n ≤ 8) (hj : 0 ≤ j ∧ j ≤ 7) : mb (sBit n - 1) j ↔ j < n := by
  unfold mb sBit
  have e : (((2 ^ n.toNat : Nat) : Int) - 1).toNat = 2 ^ n.toNat - 1 := by omega
  rw [e, bx_full n.toNat (by omega) j.toNat (by omega)]
  omega
theorem mb_shr {a j : Int} : (((a.toNat / 2 ^ j.toNat : Nat) : Int) % 2 = 1) ↔ mb a j := by
  unfold mb
  rw [Nat.testBit_eq_decide_div_mod_eq, decide_eq_true_iff]
  generalize a.toNat / 2 ^ j.toNat = q
  omega
-- the members, in order
def elts (s : Int) : List Int := ((List.range 8).filter (fun j => s.toNat.testBit j)).map (fun j : Nat => (j : Int))
theorem elts_low {s r : Int} (hs : 0 ≤ s ∧ s ≤ 255) (hr : 0 ≤ r ∧ r ≤ 7) (h : mb s r) (hl : ∀ j, 0 ≤ j → j < r → ¬ mb s j) : elts s = r :: elts (sAnd s (s - 1)) := by
  have q := bx_low s.toNat (by omega) r.toNat (by omega) h (fun j hj => by
    have z := hl (j : Int) (by omega) (by omega)
    unfold mb at z
    rw [Int.toNat_natCast] at z
    simpa using z)
  unfold elts sAnd
  rw [q, List.map_cons, Int.toNat_natCast, show (s - 1).toNat = s.toNat - 1 by omega]
  congr 1
  omega
theorem elts_0 : elts 0 = [] := by decide
theorem mem_elts {s j : Int} : j ∈ elts s ↔ 0 ≤ j ∧ j ≤ 7 ∧ mb s j := by
  unfold elts mb
  constructor
  · intro h
    obtain ⟨k, hk, rfl⟩ := List.mem_map.mp h
    obtain ⟨h1, h2⟩ := List.mem_filter.mp hk
    have h3 := List.mem_range.mp h1
    exact ⟨by omega, by omega, by rw [Int.toNat_natCast]; exact h2⟩
  · intro h
    obtain ⟨h0, h1, h2⟩ := h
    exact List.mem_map.mpr ⟨j.toNat, List.mem_filter.mpr ⟨List.mem_range.mpr (by omega), h2⟩, by omega⟩
theorem mb_ex {s : Int} (hs : 0 ≤ s ∧ s ≤ 255) (h : ¬ s = 0) : ∃ r, 0 ≤ r ∧ r ≤ 7 ∧ mb s r := by
  obtain ⟨r, h1, h2⟩ := bx_ne s.toNat (by omega) (by omega)
  exact ⟨(r : Int), by omega, by omega, by unfold mb; rw [Int.toNat_natCast]; exact h2⟩
