-- what the methods answer, in plain numbers
def canBeP (k le lo ta sh : Int) : Prop := (0 ≤ k ∧ k ≤ 4) ∧ (1 ≤ le ∧ le ≤ 5) ∧ (0 ≤ lo ∧ lo ≤ 9) ∧ (1 ≤ ta ∧ ta ≤ 9) ∧ (0 ≤ sh ∧ sh ≤ 9)
def frP (ki lo sh : Int → Int) (g o : Int) : Prop := ki o = 2 ∧ sh o < lo g
def noiseS (lo f : Int → Int) : Nat → Int
  | 0 => 0
  | k + 1 => noiseS lo f k + lo (f (k : Int)) * lo (f ((k : Int) + 1))
theorem noise_step {lo f : Int → Int} {i : Int} (h : 1 ≤ i) : noiseS lo f (i + 1 - 1).toNat = noiseS lo f (i - 1).toNat + lo (f (i - 1)) * lo (f i) := by
  obtain ⟨k, rfl⟩ : ∃ k : Nat, i = (k : Int) + 1 := ⟨(i - 1).toNat, by omega⟩
  have e1 : ((k : Int) + 1 + 1 - 1).toNat = k + 1 := by omega
  have e2 : ((k : Int) + 1 - 1).toNat = k := by omega
  rw [e1, e2, show ((k : Int) + 1 - 1) = (k : Int) by omega]
  rfl
theorem mul9 {a b : Int} (ha : 0 ≤ a ∧ a ≤ 9) (hb : 0 ≤ b ∧ b ≤ 9) : 0 ≤ a * b ∧ a * b ≤ 81 := by
  have h1 : 0 ≤ a * b := Int.mul_nonneg ha.1 hb.1
  have h2 : a * b ≤ 9 * b := Int.mul_le_mul_of_nonneg_right ha.2 hb.1
  omega
theorem noise_rng {lo f : Int → Int} (h : RA lo 0 9) : ∀ k : Nat, 0 ≤ noiseS lo f k ∧ noiseS lo f k ≤ 81 * (k : Int)
  | 0 => ⟨Int.le_refl _, by show (0 : Int) ≤ _; omega⟩
  | k + 1 => by
    have ih := noise_rng (f := f) h k
    have hm := mul9 (h (f (k : Int))) (h (f ((k : Int) + 1)))
    show 0 ≤ noiseS lo f k + lo (f (k : Int)) * lo (f ((k : Int) + 1)) ∧ noiseS lo f k + lo (f (k : Int)) * lo (f ((k : Int) + 1)) ≤ 81 * ((k + 1 : Nat) : Int)
    omega
-- the first place below n at which P holds, or -1
def fstP (P : Int → Prop) (n r : Int) : Prop := (r = -1 ∧ ∀ i, 0 ≤ i → i < n → ¬ P i) ∨ (0 ≤ r ∧ r < n ∧ P r ∧ ∀ i, 0 ≤ i → i < r → ¬ P i)
theorem fstP_eq {P : Int → Prop} {n r r' : Int} (h : fstP P n r) (h' : fstP P n r') : r = r' := by
  rcases h with ⟨h1, h2⟩ | ⟨h1, h2, h3, h4⟩
  · rcases h' with ⟨k1, k2⟩ | ⟨k1, k2, k3, k4⟩
    · omega
    · exact absurd k3 (h2 _ k1 k2)
  · rcases h' with ⟨k1, k2⟩ | ⟨k1, k2, k3, k4⟩
    · exact absurd h3 (k2 _ h1 h2)
    · rcases Int.lt_trichotomy r r' with q | q | q
      · exact absurd h3 (k4 _ h1 q)
      · exact q
      · exact absurd k3 (h4 _ k1 q)
theorem all_s {P : Int → Prop} {i : Int} (h : ∀ k, 0 ≤ k → k < i → P k) (hi : P i) : ∀ k, 0 ≤ k → k < i + 1 → P k := fun k h0 h1 => by
  by_cases q : k = i
  · rw [q]; exact hi
  · exact h k h0 (by omega)
theorem all_0 {P : Int → Prop} : ∀ k : Int, 0 ≤ k → k < 0 → P k := fun k h0 h1 => absurd h0 (by omega)
def lowP (wires : Int → Int) (tall i : Int) : Prop := ¬ wires i = 0 ∧ wires i < tall
-- things, bars, frights
def isP (ki : Int → Int) (t g : Int) : Prop := (t < 8 ∧ t = g) ∨ (8 ≤ t ∧ t - 8 = ki g)
def brP (ki lo sh : Int → Int) (w o t u a b d : Int) : Prop := (w = 1 ∧ d < u ∧ ((isP ki o a ∧ isP ki t b) ∨ (isP ki o b ∧ isP ki t a))) ∨ (w = 2 ∧ isP ki o b ∧ isP ki t a) ∨ (w = 5 ∧ d = 1 ∧ u < lo a + lo b) ∨ (w = 11 ∧ d ≤ 2 ∧ (frP ki lo sh a b ∨ frP ki lo sh b a))
def brAt (ki lo sh wo on tw nu : Int → Int) (a b d k : Int) : Prop := brP ki lo sh (wo k) (on k) (tw k) (nu k) a b d
def anyB (ki lo sh wo on tw nu : Int → Int) (cnt a b d : Int) : Prop := (∃ k, 0 ≤ k ∧ k < cnt ∧ brAt ki lo sh wo on tw nu a b d k) ∨ brAt ki lo sh wo on tw nu a b d 10
theorem fst_none {P : Int → Prop} {n i r : Int} (h : ∀ k, 0 ≤ k → k < i → ¬ P k) (hn : n ≤ i) (hr : r = -1) : fstP P n r := Or.inl ⟨hr, fun k h0 h1 => h k h0 (by omega)⟩
theorem fst_some {P : Int → Prop} {n r : Int} (h : ∀ k, 0 ≤ k → k < r → ¬ P k) (hr : 0 ≤ r ∧ r < n) (hp : P r) : fstP P n r := Or.inr ⟨hr.1, hr.2, hp, h⟩
theorem all_le {P : Int → Prop} {n i : Int} (h : ∀ k, 0 ≤ k → k < i → P k) (hn : n ≤ i) : ∀ k, 0 ≤ k → k < n → P k := fun k h0 h1 => h k h0 (by omega)
-- a choice by a proposition
noncomputable def ifP {α : Type} (P : Prop) (a b : α) : α := @ite α P (Classical.propDecidable P) a b
theorem ifP_t {α : Type} {P : Prop} {a b : α} (h : P) : ifP P a b = a := @if_pos P (Classical.propDecidable P) h α a b
theorem ifP_f {α : Type} {P : Prop} {a b : α} (h : ¬ P) : ifP P a b = b := @if_neg P (Classical.propDecidable P) h α a b
-- a run: heads, busy, came, out
abbrev PS : Type := (Int → Int) × (Int → Int) × (Int → Int) × (Int → Int)
def playF (cells : Int) (stands : Int → Int) (c : Int) : Int := if 0 ≤ c ∧ c < cells then stands c else 0
def busyF (ki : Int → Int) (cells : Int) (stands : Int → Int) (g c : Int) : Int := (if ki g = 1 then 2 * playF cells stands c else playF cells stands c) + (if ki g = 4 ∧ (c + 1) % 10 = 0 then 3 else 0)
def arrF (ki le : Int → Int) (cells : Int) (stands : Int → Int) (now g : Int) (s : PS) : PS := (s.1, uZ s.2.1 g (busyF ki cells stands g (s.1 g)), (if s.1 g = 0 then uZ s.2.2.1 g now else s.2.2.1), (if cells ≤ s.1 g - le g + 1 then uZ s.2.2.2 g now else s.2.2.2))
def goP (now k : Int) : Prop := now % 2 = 0 ∨ (¬ k = 3 ∧ ¬ k = 4)
def roomP (le : Int → Int) (gap : Int) (line : Int → Int) (i : Int) (heads out : Int → Int) : Prop := (∀ j, 0 ≤ j → j < i → ¬ out (line j) = -1) ∨ ∃ j, 0 ≤ j ∧ j < i ∧ out (line j) = -1 ∧ (∀ k, j < k → k < i → ¬ out (line k) = -1) ∧ gap < heads (line j) - le (line j) + 1 - (heads (line i) + 1)
noncomputable def actF (ki le : Int → Int) (cells gap : Int) (stands line : Int → Int) (now i : Int) (s : PS) : PS := if 0 < s.2.1 (line i) then (s.1, uZ s.2.1 (line i) (s.2.1 (line i) - 1), s.2.2.1, s.2.2.2) else ifP (goP now (ki (line i)) ∧ roomP le gap line i s.1 s.2.2.2) (arrF ki le cells stands now (line i) (uZ s.1 (line i) (s.1 (line i) + 1), s.2.1, s.2.2.1, s.2.2.2)) s
noncomputable def stepK (ki le : Int → Int) (cells gap : Int) (stands line : Int → Int) (now : Int) : Nat → PS → PS
  | 0, s => s
  | k + 1, s => ifP ((stepK ki le cells gap stands line now k s).2.2.2 (line (k : Int)) = -1) (actF ki le cells gap stands line now (k : Int) (stepK ki le cells gap stands line now k s)) (stepK ki le cells gap stands line now k s)
noncomputable def runK (ki le : Int → Int) (cells gap : Int) (stands line : Int → Int) (size now : Int) (s : PS) : Nat → PS
  | 0 => s
  | k + 1 => stepK ki le cells gap stands line (now + (k : Int) + 1) size.toNat (runK ki le cells gap stands line size now s k)
def allP (line : Int → Int) (size : Int) (out : Int → Int) : Prop := ∀ i, 0 ≤ i → i < size → ¬ out (line i) = -1
def JP (le : Int → Int) (cells : Int) (heads out : Int → Int) : Prop := ∀ g, 0 ≤ g → g < 8 → out g = -1 → heads g - le g + 1 < cells
