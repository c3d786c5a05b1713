-- longs; the letters of a word in one
def zL (z : Int) : Int64 := Int64.ofInt z
theorem zL_bv (z : Int) : (zL z).toBitVec.toNat = (z % 18446744073709551616).toNat := by
  show (BitVec.ofInt 64 z).toNat = _
  rw [BitVec.toNat_ofInt]
  rfl
theorem zL_toInt {a : Int} (h : 0 ≤ a ∧ a ≤ 4611686018427387904) : (zL a).toInt = a := Int64.toInt_ofInt_of_le (by omega) (by omega)
theorem zL_lt {a b : Int} (ha : 0 ≤ a ∧ a ≤ 4611686018427387904) (hb : 0 ≤ b ∧ b ≤ 4611686018427387904) : zL a < zL b ↔ a < b := by rw [Int64.lt_iff_toInt_lt, zL_toInt ha, zL_toInt hb]
theorem zL_eq {a b : Int} (ha : 0 ≤ a ∧ a ≤ 4611686018427387904) (hb : 0 ≤ b ∧ b ≤ 4611686018427387904) : zL a = zL b ↔ a = b := by rw [← Int64.toInt_inj, zL_toInt ha, zL_toInt hb]
def cmpL (a b : Int) : Int := if b < a then 1 else if a = b then 0 else -1
theorem zL_cmp {a b : Int} (ha : 0 ≤ a ∧ a ≤ 4611686018427387904) (hb : 0 ≤ b ∧ b ≤ 4611686018427387904) : lg_cmp (zL a) (zL b) = zI (cmpL a b) := by
  unfold lg_cmp cmpL
  by_cases h : b < a
  · rw [if_pos (show zL a > zL b from (zL_lt hb ha).mpr h), if_pos h]; rfl
  · rw [if_neg (fun q : zL a > zL b => h ((zL_lt hb ha).mp q)), if_neg h]
    by_cases h2 : a = b
    · rw [if_pos ((zL_eq ha hb).mpr h2), if_pos h2]; rfl
    · rw [if_neg (fun q => h2 ((zL_eq ha hb).mp q)), if_neg h2]; rfl
theorem cmpL_f {a b : Int} : (a = b ∧ cmpL a b = 0) ∨ (¬ a = b ∧ (cmpL a b = 1 ∨ cmpL a b = -1)) := by
  unfold cmpL
  by_cases h : b < a
  · rw [if_pos h]; exact Or.inr ⟨by omega, Or.inl rfl⟩
  · rw [if_neg h]
    by_cases h2 : a = b
    · rw [if_pos h2]; exact Or.inl ⟨h2, rfl⟩
    · rw [if_neg h2]; exact Or.inr ⟨h2, Or.inr rfl⟩
theorem zL_of {a : Int} (h : 0 ≤ a ∧ a ≤ 255) : (zI a).toInt64 = zL a := by
  rw [← Int64.toInt_inj, zL_toInt (by omega), Int32.toInt_toInt64, zI_toInt (by omega)]
theorem zL_shl8 {a : Int} (h : 0 ≤ a ∧ a ≤ 281474976710656) : zL a <<< ((zI 8).toInt64 &&& 63) = zL (a * 256) := by
  apply Int64.toBitVec_inj.1
  apply BitVec.eq_of_toNat_eq
  rw [show (zI 8).toInt64 &&& 63 = (8 : Int64) by decide, Int64.toBitVec_shiftLeft, show ((8 : Int64).toBitVec.smod 64) = (8#64) by decide, BitVec.shiftLeft_eq', BitVec.toNat_shiftLeft, zL_bv, zL_bv, show (8#64).toNat = 8 from rfl, Nat.shiftLeft_eq]
  omega
theorem zL_or {a b : Int} (ha : 0 ≤ a ∧ a ≤ 72057594037927936) (hd : a % 256 = 0) (hb : 0 ≤ b ∧ b ≤ 255) : zL a ||| zL b = zL (a + b) := by
  apply Int64.toBitVec_inj.1
  apply BitVec.eq_of_toNat_eq
  rw [Int64.toBitVec_or, BitVec.toNat_or, zL_bv, zL_bv, zL_bv]
  have e1 : (a % 18446744073709551616).toNat = 2 ^ 8 * (a / 256).toNat := by omega
  have e2 : (b % 18446744073709551616).toNat = b.toNat := by omega
  rw [e1, e2, ← Nat.two_pow_add_eq_or_of_lt (show b.toNat < 2 ^ 8 by omega)]
  omega
section
variable {f : Int → Int} {a : Int} {n : Nat}
theorem nw_0 (hn : n ≤ 6) (hl : ∀ j, a ≤ j → j < a + (n : Int) → 65 ≤ f j ∧ f j ≤ 122) : numW f a n = 6709618 ↔ (a + (n : Int) - a = 3 ∧ f a = 102 ∧ f (a + 1) = 97 ∧ f (a + 2) = 114) := by
  rcases (show n = 0 ∨ n = 1 ∨ n = 2 ∨ n = 3 ∨ n = 4 ∨ n = 5 ∨ n = 6 by omega) with q | q | q | q | q | q | q <;> subst q
  · show 0 = 6709618 ↔ _
    constructor
    · intro q; omega
    · rintro ⟨q, _⟩; omega
  · show (0 * 256 + f (a + 0)) = 6709618 ↔ _
    have h0 := hl (a + 0) (by omega) (by omega)
    rw [Int.add_zero] at h0 ⊢
    constructor
    · intro q; omega
    · rintro q; omega
  · show ((0 * 256 + f (a + 0)) * 256 + f (a + 1)) = 6709618 ↔ _
    have h0 := hl (a + 0) (by omega) (by omega)
    have h1 := hl (a + 1) (by omega) (by omega)
    rw [Int.add_zero] at h0 ⊢
    constructor
    · intro q; omega
    · rintro q; omega
  · show (((0 * 256 + f (a + 0)) * 256 + f (a + 1)) * 256 + f (a + 2)) = 6709618 ↔ _
    have h0 := hl (a + 0) (by omega) (by omega)
    have h1 := hl (a + 1) (by omega) (by omega)
    have h2 := hl (a + 2) (by omega) (by omega)
    rw [Int.add_zero] at h0 ⊢
    constructor
    · intro q; omega
    · rintro q; omega
  · show ((((0 * 256 + f (a + 0)) * 256 + f (a + 1)) * 256 + f (a + 2)) * 256 + f (a + 3)) = 6709618 ↔ _
    have h0 := hl (a + 0) (by omega) (by omega)
    have h1 := hl (a + 1) (by omega) (by omega)
    have h2 := hl (a + 2) (by omega) (by omega)
    have h3 := hl (a + 3) (by omega) (by omega)
    rw [Int.add_zero] at h0 ⊢
    constructor
    · intro q; omega
    · rintro q; omega
  · show (((((0 * 256 + f (a + 0)) * 256 + f (a + 1)) * 256 + f (a + 2)) * 256 + f (a + 3)) * 256 + f (a + 4)) = 6709618 ↔ _
    have h0 := hl (a + 0) (by omega) (by omega)
    have h1 := hl (a + 1) (by omega) (by omega)
    have h2 := hl (a + 2) (by omega) (by omega)
    have h3 := hl (a + 3) (by omega) (by omega)
    have h4 := hl (a + 4) (by omega) (by omega)
    rw [Int.add_zero] at h0 ⊢
    constructor
    · intro q; omega
    · rintro q; omega
  · show ((((((0 * 256 + f (a + 0)) * 256 + f (a + 1)) * 256 + f (a + 2)) * 256 + f (a + 3)) * 256 + f (a + 4)) * 256 + f (a + 5)) = 6709618 ↔ _
    have h0 := hl (a + 0) (by omega) (by omega)
    have h1 := hl (a + 1) (by omega) (by omega)
    have h2 := hl (a + 2) (by omega) (by omega)
    have h3 := hl (a + 3) (by omega) (by omega)
    have h4 := hl (a + 4) (by omega) (by omega)
    have h5 := hl (a + 5) (by omega) (by omega)
    rw [Int.add_zero] at h0 ⊢
    constructor
    · intro q; omega
    · rintro q; omega
theorem nw_1 (hn : n ≤ 6) (hl : ∀ j, a ≤ j → j < a + (n : Int) → 65 ≤ f j ∧ f j ≤ 122) : numW f a n = 418363302244 ↔ (a + (n : Int) - a = 5 ∧ f a = 97 ∧ f (a + 1) = 104 ∧ f (a + 2) = 101 ∧ f (a + 3) = 97 ∧ f (a + 4) = 100) := by
  rcases (show n = 0 ∨ n = 1 ∨ n = 2 ∨ n = 3 ∨ n = 4 ∨ n = 5 ∨ n = 6 by omega) with q | q | q | q | q | q | q <;> subst q
  · show 0 = 418363302244 ↔ _
    constructor
    · intro q; omega
    · rintro ⟨q, _⟩; omega
  · show (0 * 256 + f (a + 0)) = 418363302244 ↔ _
    have h0 := hl (a + 0) (by omega) (by omega)
    rw [Int.add_zero] at h0 ⊢
    constructor
    · intro q; omega
    · rintro q; omega
  · show ((0 * 256 + f (a + 0)) * 256 + f (a + 1)) = 418363302244 ↔ _
    have h0 := hl (a + 0) (by omega) (by omega)
    have h1 := hl (a + 1) (by omega) (by omega)
    rw [Int.add_zero] at h0 ⊢
    constructor
    · intro q; omega
    · rintro q; omega
  · show (((0 * 256 + f (a + 0)) * 256 + f (a + 1)) * 256 + f (a + 2)) = 418363302244 ↔ _
    have h0 := hl (a + 0) (by omega) (by omega)
    have h1 := hl (a + 1) (by omega) (by omega)
    have h2 := hl (a + 2) (by omega) (by omega)
    rw [Int.add_zero] at h0 ⊢
    constructor
    · intro q; omega
    · rintro q; omega
  · show ((((0 * 256 + f (a + 0)) * 256 + f (a + 1)) * 256 + f (a + 2)) * 256 + f (a + 3)) = 418363302244 ↔ _
    have h0 := hl (a + 0) (by omega) (by omega)
    have h1 := hl (a + 1) (by omega) (by omega)
    have h2 := hl (a + 2) (by omega) (by omega)
    have h3 := hl (a + 3) (by omega) (by omega)
    rw [Int.add_zero] at h0 ⊢
    constructor
    · intro q; omega
    · rintro q; omega
  · show (((((0 * 256 + f (a + 0)) * 256 + f (a + 1)) * 256 + f (a + 2)) * 256 + f (a + 3)) * 256 + f (a + 4)) = 418363302244 ↔ _
    have h0 := hl (a + 0) (by omega) (by omega)
    have h1 := hl (a + 1) (by omega) (by omega)
    have h2 := hl (a + 2) (by omega) (by omega)
    have h3 := hl (a + 3) (by omega) (by omega)
    have h4 := hl (a + 4) (by omega) (by omega)
    rw [Int.add_zero] at h0 ⊢
    constructor
    · intro q; omega
    · rintro q; omega
  · show ((((((0 * 256 + f (a + 0)) * 256 + f (a + 1)) * 256 + f (a + 2)) * 256 + f (a + 3)) * 256 + f (a + 4)) * 256 + f (a + 5)) = 418363302244 ↔ _
    have h0 := hl (a + 0) (by omega) (by omega)
    have h1 := hl (a + 1) (by omega) (by omega)
    have h2 := hl (a + 2) (by omega) (by omega)
    have h3 := hl (a + 3) (by omega) (by omega)
    have h4 := hl (a + 4) (by omega) (by omega)
    have h5 := hl (a + 5) (by omega) (by omega)
    rw [Int.add_zero] at h0 ⊢
    constructor
    · intro q; omega
    · rintro q; omega
theorem nw_2 (hn : n ≤ 6) (hl : ∀ j, a ≤ j → j < a + (n : Int) → 65 ≤ f j ∧ f j ≤ 122) : numW f a n = 439855772532 ↔ (a + (n : Int) - a = 5 ∧ f a = 102 ∧ f (a + 1) = 105 ∧ f (a + 2) = 114 ∧ f (a + 3) = 115 ∧ f (a + 4) = 116) := by
  rcases (show n = 0 ∨ n = 1 ∨ n = 2 ∨ n = 3 ∨ n = 4 ∨ n = 5 ∨ n = 6 by omega) with q | q | q | q | q | q | q <;> subst q
  · show 0 = 439855772532 ↔ _
    constructor
    · intro q; omega
    · rintro ⟨q, _⟩; omega
  · show (0 * 256 + f (a + 0)) = 439855772532 ↔ _
    have h0 := hl (a + 0) (by omega) (by omega)
    rw [Int.add_zero] at h0 ⊢
    constructor
    · intro q; omega
    · rintro q; omega
  · show ((0 * 256 + f (a + 0)) * 256 + f (a + 1)) = 439855772532 ↔ _
    have h0 := hl (a + 0) (by omega) (by omega)
    have h1 := hl (a + 1) (by omega) (by omega)
    rw [Int.add_zero] at h0 ⊢
    constructor
    · intro q; omega
    · rintro q; omega
  · show (((0 * 256 + f (a + 0)) * 256 + f (a + 1)) * 256 + f (a + 2)) = 439855772532 ↔ _
    have h0 := hl (a + 0) (by omega) (by omega)
    have h1 := hl (a + 1) (by omega) (by omega)
    have h2 := hl (a + 2) (by omega) (by omega)
    rw [Int.add_zero] at h0 ⊢
    constructor
    · intro q; omega
    · rintro q; omega
  · show ((((0 * 256 + f (a + 0)) * 256 + f (a + 1)) * 256 + f (a + 2)) * 256 + f (a + 3)) = 439855772532 ↔ _
    have h0 := hl (a + 0) (by omega) (by omega)
    have h1 := hl (a + 1) (by omega) (by omega)
    have h2 := hl (a + 2) (by omega) (by omega)
    have h3 := hl (a + 3) (by omega) (by omega)
    rw [Int.add_zero] at h0 ⊢
    constructor
    · intro q; omega
    · rintro q; omega
  · show (((((0 * 256 + f (a + 0)) * 256 + f (a + 1)) * 256 + f (a + 2)) * 256 + f (a + 3)) * 256 + f (a + 4)) = 439855772532 ↔ _
    have h0 := hl (a + 0) (by omega) (by omega)
    have h1 := hl (a + 1) (by omega) (by omega)
    have h2 := hl (a + 2) (by omega) (by omega)
    have h3 := hl (a + 3) (by omega) (by omega)
    have h4 := hl (a + 4) (by omega) (by omega)
    rw [Int.add_zero] at h0 ⊢
    constructor
    · intro q; omega
    · rintro q; omega
  · show ((((((0 * 256 + f (a + 0)) * 256 + f (a + 1)) * 256 + f (a + 2)) * 256 + f (a + 3)) * 256 + f (a + 4)) * 256 + f (a + 5)) = 439855772532 ↔ _
    have h0 := hl (a + 0) (by omega) (by omega)
    have h1 := hl (a + 1) (by omega) (by omega)
    have h2 := hl (a + 2) (by omega) (by omega)
    have h3 := hl (a + 3) (by omega) (by omega)
    have h4 := hl (a + 4) (by omega) (by omega)
    have h5 := hl (a + 5) (by omega) (by omega)
    rw [Int.add_zero] at h0 ⊢
    constructor
    · intro q; omega
    · rintro q; omega
theorem nw_3 (hn : n ≤ 6) (hl : ∀ j, a ≤ j → j < a + (n : Int) → 65 ≤ f j ∧ f j ≤ 122) : numW f a n = 1818325876 ↔ (a + (n : Int) - a = 4 ∧ f a = 108 ∧ f (a + 1) = 97 ∧ f (a + 2) = 115 ∧ f (a + 3) = 116) := by
  rcases (show n = 0 ∨ n = 1 ∨ n = 2 ∨ n = 3 ∨ n = 4 ∨ n = 5 ∨ n = 6 by omega) with q | q | q | q | q | q | q <;> subst q
  · show 0 = 1818325876 ↔ _
    constructor
    · intro q; omega
    · rintro ⟨q, _⟩; omega
  · show (0 * 256 + f (a + 0)) = 1818325876 ↔ _
    have h0 := hl (a + 0) (by omega) (by omega)
    rw [Int.add_zero] at h0 ⊢
    constructor
    · intro q; omega
    · rintro q; omega
  · show ((0 * 256 + f (a + 0)) * 256 + f (a + 1)) = 1818325876 ↔ _
    have h0 := hl (a + 0) (by omega) (by omega)
    have h1 := hl (a + 1) (by omega) (by omega)
    rw [Int.add_zero] at h0 ⊢
    constructor
    · intro q; omega
    · rintro q; omega
  · show (((0 * 256 + f (a + 0)) * 256 + f (a + 1)) * 256 + f (a + 2)) = 1818325876 ↔ _
    have h0 := hl (a + 0) (by omega) (by omega)
    have h1 := hl (a + 1) (by omega) (by omega)
    have h2 := hl (a + 2) (by omega) (by omega)
    rw [Int.add_zero] at h0 ⊢
    constructor
    · intro q; omega
    · rintro q; omega
  · show ((((0 * 256 + f (a + 0)) * 256 + f (a + 1)) * 256 + f (a + 2)) * 256 + f (a + 3)) = 1818325876 ↔ _
    have h0 := hl (a + 0) (by omega) (by omega)
    have h1 := hl (a + 1) (by omega) (by omega)
    have h2 := hl (a + 2) (by omega) (by omega)
    have h3 := hl (a + 3) (by omega) (by omega)
    rw [Int.add_zero] at h0 ⊢
    constructor
    · intro q; omega
    · rintro q; omega
  · show (((((0 * 256 + f (a + 0)) * 256 + f (a + 1)) * 256 + f (a + 2)) * 256 + f (a + 3)) * 256 + f (a + 4)) = 1818325876 ↔ _
    have h0 := hl (a + 0) (by omega) (by omega)
    have h1 := hl (a + 1) (by omega) (by omega)
    have h2 := hl (a + 2) (by omega) (by omega)
    have h3 := hl (a + 3) (by omega) (by omega)
    have h4 := hl (a + 4) (by omega) (by omega)
    rw [Int.add_zero] at h0 ⊢
    constructor
    · intro q; omega
    · rintro q; omega
  · show ((((((0 * 256 + f (a + 0)) * 256 + f (a + 1)) * 256 + f (a + 2)) * 256 + f (a + 3)) * 256 + f (a + 4)) * 256 + f (a + 5)) = 1818325876 ↔ _
    have h0 := hl (a + 0) (by omega) (by omega)
    have h1 := hl (a + 1) (by omega) (by omega)
    have h2 := hl (a + 2) (by omega) (by omega)
    have h3 := hl (a + 3) (by omega) (by omega)
    have h4 := hl (a + 4) (by omega) (by omega)
    have h5 := hl (a + 5) (by omega) (by omega)
    rw [Int.add_zero] at h0 ⊢
    constructor
    · intro q; omega
    · rintro q; omega
theorem nw_4 (hn : n ≤ 6) (hl : ∀ j, a ≤ j → j < a + (n : Int) → 65 ≤ f j ∧ f j ≤ 122) : numW f a n = 1819243876 ↔ (a + (n : Int) - a = 4 ∧ f a = 108 ∧ f (a + 1) = 111 ∧ f (a + 2) = 117 ∧ f (a + 3) = 100) := by
  rcases (show n = 0 ∨ n = 1 ∨ n = 2 ∨ n = 3 ∨ n = 4 ∨ n = 5 ∨ n = 6 by omega) with q | q | q | q | q | q | q <;> subst q
  · show 0 = 1819243876 ↔ _
    constructor
    · intro q; omega
    · rintro ⟨q, _⟩; omega
  · show (0 * 256 + f (a + 0)) = 1819243876 ↔ _
    have h0 := hl (a + 0) (by omega) (by omega)
    rw [Int.add_zero] at h0 ⊢
    constructor
    · intro q; omega
    · rintro q; omega
  · show ((0 * 256 + f (a + 0)) * 256 + f (a + 1)) = 1819243876 ↔ _
    have h0 := hl (a + 0) (by omega) (by omega)
    have h1 := hl (a + 1) (by omega) (by omega)
    rw [Int.add_zero] at h0 ⊢
    constructor
    · intro q; omega
    · rintro q; omega
  · show (((0 * 256 + f (a + 0)) * 256 + f (a + 1)) * 256 + f (a + 2)) = 1819243876 ↔ _
    have h0 := hl (a + 0) (by omega) (by omega)
    have h1 := hl (a + 1) (by omega) (by omega)
    have h2 := hl (a + 2) (by omega) (by omega)
    rw [Int.add_zero] at h0 ⊢
    constructor
    · intro q; omega
    · rintro q; omega
  · show ((((0 * 256 + f (a + 0)) * 256 + f (a + 1)) * 256 + f (a + 2)) * 256 + f (a + 3)) = 1819243876 ↔ _
    have h0 := hl (a + 0) (by omega) (by omega)
    have h1 := hl (a + 1) (by omega) (by omega)
    have h2 := hl (a + 2) (by omega) (by omega)
    have h3 := hl (a + 3) (by omega) (by omega)
    rw [Int.add_zero] at h0 ⊢
    constructor
    · intro q; omega
    · rintro q; omega
  · show (((((0 * 256 + f (a + 0)) * 256 + f (a + 1)) * 256 + f (a + 2)) * 256 + f (a + 3)) * 256 + f (a + 4)) = 1819243876 ↔ _
    have h0 := hl (a + 0) (by omega) (by omega)
    have h1 := hl (a + 1) (by omega) (by omega)
    have h2 := hl (a + 2) (by omega) (by omega)
    have h3 := hl (a + 3) (by omega) (by omega)
    have h4 := hl (a + 4) (by omega) (by omega)
    rw [Int.add_zero] at h0 ⊢
    constructor
    · intro q; omega
    · rintro q; omega
  · show ((((((0 * 256 + f (a + 0)) * 256 + f (a + 1)) * 256 + f (a + 2)) * 256 + f (a + 3)) * 256 + f (a + 4)) * 256 + f (a + 5)) = 1819243876 ↔ _
    have h0 := hl (a + 0) (by omega) (by omega)
    have h1 := hl (a + 1) (by omega) (by omega)
    have h2 := hl (a + 2) (by omega) (by omega)
    have h3 := hl (a + 3) (by omega) (by omega)
    have h4 := hl (a + 4) (by omega) (by omega)
    have h5 := hl (a + 5) (by omega) (by omega)
    rw [Int.add_zero] at h0 ⊢
    constructor
    · intro q; omega
    · rintro q; omega
theorem nw_5 (hn : n ≤ 6) (hl : ∀ j, a ≤ j → j < a + (n : Int) → 65 ≤ f j ∧ f j ≤ 122) : numW f a n = 1802071652 ↔ (a + (n : Int) - a = 4 ∧ f a = 107 ∧ f (a + 1) = 105 ∧ f (a + 2) = 110 ∧ f (a + 3) = 100) := by
  rcases (show n = 0 ∨ n = 1 ∨ n = 2 ∨ n = 3 ∨ n = 4 ∨ n = 5 ∨ n = 6 by omega) with q | q | q | q | q | q | q <;> subst q
  · show 0 = 1802071652 ↔ _
    constructor
    · intro q; omega
    · rintro ⟨q, _⟩; omega
  · show (0 * 256 + f (a + 0)) = 1802071652 ↔ _
    have h0 := hl (a + 0) (by omega) (by omega)
    rw [Int.add_zero] at h0 ⊢
    constructor
    · intro q; omega
    · rintro q; omega
  · show ((0 * 256 + f (a + 0)) * 256 + f (a + 1)) = 1802071652 ↔ _
    have h0 := hl (a + 0) (by omega) (by omega)
    have h1 := hl (a + 1) (by omega) (by omega)
    rw [Int.add_zero] at h0 ⊢
    constructor
    · intro q; omega
    · rintro q; omega
  · show (((0 * 256 + f (a + 0)) * 256 + f (a + 1)) * 256 + f (a + 2)) = 1802071652 ↔ _
    have h0 := hl (a + 0) (by omega) (by omega)
    have h1 := hl (a + 1) (by omega) (by omega)
    have h2 := hl (a + 2) (by omega) (by omega)
    rw [Int.add_zero] at h0 ⊢
    constructor
    · intro q; omega
    · rintro q; omega
  · show ((((0 * 256 + f (a + 0)) * 256 + f (a + 1)) * 256 + f (a + 2)) * 256 + f (a + 3)) = 1802071652 ↔ _
    have h0 := hl (a + 0) (by omega) (by omega)
    have h1 := hl (a + 1) (by omega) (by omega)
    have h2 := hl (a + 2) (by omega) (by omega)
    have h3 := hl (a + 3) (by omega) (by omega)
    rw [Int.add_zero] at h0 ⊢
    constructor
    · intro q; omega
    · rintro q; omega
  · show (((((0 * 256 + f (a + 0)) * 256 + f (a + 1)) * 256 + f (a + 2)) * 256 + f (a + 3)) * 256 + f (a + 4)) = 1802071652 ↔ _
    have h0 := hl (a + 0) (by omega) (by omega)
    have h1 := hl (a + 1) (by omega) (by omega)
    have h2 := hl (a + 2) (by omega) (by omega)
    have h3 := hl (a + 3) (by omega) (by omega)
    have h4 := hl (a + 4) (by omega) (by omega)
    rw [Int.add_zero] at h0 ⊢
    constructor
    · intro q; omega
    · rintro q; omega
  · show ((((((0 * 256 + f (a + 0)) * 256 + f (a + 1)) * 256 + f (a + 2)) * 256 + f (a + 3)) * 256 + f (a + 4)) * 256 + f (a + 5)) = 1802071652 ↔ _
    have h0 := hl (a + 0) (by omega) (by omega)
    have h1 := hl (a + 1) (by omega) (by omega)
    have h2 := hl (a + 2) (by omega) (by omega)
    have h3 := hl (a + 3) (by omega) (by omega)
    have h4 := hl (a + 4) (by omega) (by omega)
    have h5 := hl (a + 5) (by omega) (by omega)
    rw [Int.add_zero] at h0 ⊢
    constructor
    · intro q; omega
    · rintro q; omega
theorem nw_word (hn : n ≤ 6) (hl : ∀ j, a ≤ j → j < a + (n : Int) → 65 ≤ f j ∧ f j ≤ 122) : wordM (numW f a n) = tkM (wordF f a (a + (n : Int))) := by
  unfold wordM wordF ifP
  by_cases h0 : numW f a n = 6709618
  · rw [if_pos h0, if_pos ((nw_0 hn hl).mp h0)]; decide
  by_cases h1 : numW f a n = 418363302244
  · rw [if_neg h0, if_pos h1, if_neg (fun q => h0 ((nw_0 hn hl).mpr q)), if_pos ((nw_1 hn hl).mp h1)]; decide
  by_cases h2 : numW f a n = 439855772532
  · rw [if_neg h0, if_neg h1, if_pos h2, if_neg (fun q => h0 ((nw_0 hn hl).mpr q)), if_neg (fun q => h1 ((nw_1 hn hl).mpr q)), if_pos ((nw_2 hn hl).mp h2)]; decide
  by_cases h3 : numW f a n = 1818325876
  · rw [if_neg h0, if_neg h1, if_neg h2, if_pos h3, if_neg (fun q => h0 ((nw_0 hn hl).mpr q)), if_neg (fun q => h1 ((nw_1 hn hl).mpr q)), if_neg (fun q => h2 ((nw_2 hn hl).mpr q)), if_pos ((nw_3 hn hl).mp h3)]; decide
  by_cases h4 : numW f a n = 1819243876
  · rw [if_neg h0, if_neg h1, if_neg h2, if_neg h3, if_pos h4, if_neg (fun q => h0 ((nw_0 hn hl).mpr q)), if_neg (fun q => h1 ((nw_1 hn hl).mpr q)), if_neg (fun q => h2 ((nw_2 hn hl).mpr q)), if_neg (fun q => h3 ((nw_3 hn hl).mpr q)), if_pos ((nw_4 hn hl).mp h4)]; decide
  by_cases h5 : numW f a n = 1802071652
  · rw [if_neg h0, if_neg h1, if_neg h2, if_neg h3, if_neg h4, if_pos h5, if_neg (fun q => h0 ((nw_0 hn hl).mpr q)), if_neg (fun q => h1 ((nw_1 hn hl).mpr q)), if_neg (fun q => h2 ((nw_2 hn hl).mpr q)), if_neg (fun q => h3 ((nw_3 hn hl).mpr q)), if_neg (fun q => h4 ((nw_4 hn hl).mpr q)), if_pos ((nw_5 hn hl).mp h5)]; decide
  rw [if_neg h0, if_neg h1, if_neg h2, if_neg h3, if_neg h4, if_neg h5, if_neg (fun q => h0 ((nw_0 hn hl).mpr q)), if_neg (fun q => h1 ((nw_1 hn hl).mpr q)), if_neg (fun q => h2 ((nw_2 hn hl).mpr q)), if_neg (fun q => h3 ((nw_3 hn hl).mpr q)), if_neg (fun q => h4 ((nw_4 hn hl).mpr q)), if_neg (fun q => h5 ((nw_5 hn hl).mpr q))]; decide
theorem wordF_long {e : Int} (h : 6 < e - a) : wordF f a e = 10 := by
  unfold wordF
  rw [ifP_f (fun q => by have := q.1; omega), ifP_f (fun q => by have := q.1; omega), ifP_f (fun q => by have := q.1; omega), ifP_f (fun q => by have := q.1; omega), ifP_f (fun q => by have := q.1; omega), ifP_f (fun q => by have := q.1; omega)]
end
theorem numW_congr {f g : Int → Int} {a : Int} : ∀ k : Nat, (∀ j, a ≤ j → j < a + (k : Int) → f j = g j) → numW f a k = numW g a k
  | 0, _ => rfl
  | k + 1, h => by
    show numW f a k * 256 + f (a + (k : Int)) = numW g a k * 256 + g (a + (k : Int))
    rw [numW_congr k (fun j j0 j1 => h j j0 (by omega)), h _ (by omega) (by omega)]
theorem numW_6 {f : Int → Int} {a : Int} {k : Nat} (hk : k ≤ 6) (h : ∀ j, 0 ≤ f j ∧ f j ≤ 255) : 0 ≤ numW f a k ∧ numW f a k ≤ 281474976710655 := by
  have q := numW_r (f := f) (a := a) k (fun j _ _ => h j)
  rcases (show k = 0 ∨ k = 1 ∨ k = 2 ∨ k = 3 ∨ k = 4 ∨ k = 5 ∨ k = 6 by omega) with e | e | e | e | e | e | e <;> subst e <;> omega
