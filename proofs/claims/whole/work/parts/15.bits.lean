-- small tables of bits, decided
theorem bx_or : ∀ a, a < 256 → ∀ b, b < 256 → (zI ((a : Nat) : Int) ||| zI ((b : Nat) : Int)) = zI ((a ||| b : Nat) : Int) := by decide +kernel
theorem bx_and : ∀ a, a < 256 → ∀ b, b < 256 → (zI ((a : Nat) : Int) &&& zI ((b : Nat) : Int)) = zI ((a &&& b : Nat) : Int) := by decide +kernel
theorem bx_nn : ∀ a, a < 256 → ∀ b, b < 256 → (zI (-((a : Nat) : Int) - 1) &&& zI (-((b : Nat) : Int) - 1)) = zI (-((a ||| b : Nat) : Int) - 1) := by decide +kernel
theorem bx_dn : ∀ a, a < 256 → ∀ b, b < 256 → (zI ((a : Nat) : Int) &&& zI (-((b : Nat) : Int) - 1)) = zI ((a &&& (b ^^^ 255) : Nat) : Int) := by decide +kernel
theorem bx_not : ∀ a, a < 256 → (zI ((a : Nat) : Int) ^^^ zI (-1)) = zI (-((a : Nat) : Int) - 1) := by decide +kernel
theorem bx_shl : ∀ j, j < 9 → (zI 1 <<< (zI ((j : Nat) : Int) &&& 31)) = zI ((2 ^ j : Nat) : Int) := by decide +kernel
theorem bx_shr : ∀ a, a < 256 → ∀ j, j < 8 → (zI ((a : Nat) : Int) >>> (zI ((j : Nat) : Int) &&& 31)) = zI ((a / 2 ^ j : Nat) : Int) := by decide +kernel
theorem bx_lt : ∀ a, a < 256 → ∀ b, b < 256 → (a ||| b) < 256 ∧ (a &&& b) < 256 ∧ (a &&& (b ^^^ 255)) < 256 := by decide +kernel
theorem bx_pw : ∀ j, j < 8 → (2 ^ j : Nat) < 256 := by decide +kernel
theorem bx_255 : ∀ j, j < 8 → Nat.testBit 255 j = true := by decide +kernel
theorem bx_full : ∀ n, n < 9 → ∀ j, j < 8 → (Nat.testBit (2 ^ n - 1) j = true ↔ j < n) := by decide +kernel
theorem bx_low : ∀ s, s < 256 → ∀ r, r < 8 → Nat.testBit s r = true → (∀ j, j < r → Nat.testBit s j = false) → ((List.range 8).filter (fun j => Nat.testBit s j)) = r :: ((List.range 8).filter (fun j => Nat.testBit (s &&& (s - 1)) j)) := by decide +kernel
theorem bx_ne : ∀ s, s < 256 → s ≠ 0 → ∃ r, r < 8 ∧ Nat.testBit s r = true := by decide +kernel
