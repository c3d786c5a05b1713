-- the model's words, in the class's
def isM (gu : Int → Int) (g t : Int) : Prop := (100 ≤ t ∧ gu (5 * g + 0) = t - 100) ∨ (t < 100 ∧ g = t)
def brM (gu : Int → Int) (w x y u a b i j : Int) : Prop := (w = 1 ∧ j - i < u ∧ ((isM gu a x ∧ isM gu b y) ∨ (isM gu b x ∧ isM gu a y))) ∨ (w = 2 ∧ isM gu b x ∧ isM gu a y) ∨ (w = 5 ∧ j = i + 1 ∧ u < gu (5 * a + 2) + gu (5 * b + 2))
def scM (gu : Int → Int) (a b : Int) : Prop := gu (5 * a + 0) = 2 ∧ gu (5 * a + 4) < gu (5 * b + 2)
/-- the model's guests are the class's -/
def gRel (n : Int) (ki le lo ta sh gu : Int → Int) : Prop := ∀ g, 0 ≤ g → g < n → gu (5 * g) = ki g ∧ gu (5 * g + 1) = le g ∧ gu (5 * g + 2) = lo g ∧ gu (5 * g + 3) = ta g ∧ gu (5 * g + 4) = sh g
def thM (t : Int) : Int := if t < 8 then t else t + 92
/-- the model's bars are the class's -/
def bRel (cnt : Int) (wo on tw nu ba : Int → Int) : Prop := wo 10 = 11 ∧ ∀ k, 0 ≤ k → k < cnt → (1 ≤ wo k ∧ wo k ≤ 5) ∧ (0 ≤ on k ∧ on k ≤ 12 ∧ 0 ≤ tw k ∧ tw k ≤ 12) ∧ ba (4 * k) = wo k ∧ (¬ wo k = 5 → ba (4 * k + 1) = thM (on k)) ∧ ((wo k = 1 ∨ wo k = 2) → ba (4 * k + 2) = thM (tw k)) ∧ ((wo k = 1 ∨ wo k = 5) → ba (4 * k + 3) = nu k)
theorem isM_iff {n : Int} {ki le lo ta sh gu : Int → Int} (h : gRel n ki le lo ta sh gu) {g t : Int} (hg : 0 ≤ g ∧ g < n ∧ n ≤ 8) (ht : 0 ≤ t ∧ t ≤ 12) : isM gu g (thM t) ↔ isP ki t g := by
  have q := (h g hg.1 hg.2.1).1
  unfold isM isP thM
  rw [show 5 * g + 0 = 5 * g by omega, q]
  split <;> omega
theorem brM_iff {n cnt : Int} {ki le lo ta sh gu wo on tw nu ba f : Int → Int} (hg : gRel n ki le lo ta sh gu) (hb : bRel cnt wo on tw nu ba) (hn : n ≤ 8) {k i j : Int} (hk : 0 ≤ k ∧ k < cnt) (hi : 0 ≤ i ∧ i < j ∧ j < n) (hf : ∀ a, 0 ≤ a → a < n → 0 ≤ f a ∧ f a < n) : brM gu (ba (4 * k)) (ba (4 * k + 1)) (ba (4 * k + 2)) (ba (4 * k + 3)) (f i) (f j) i j ↔ brk ki lo sh wo on tw nu f k i j := by
  obtain ⟨h1, h2, h3, h4, h5, h6⟩ := hb.2 k hk.1 hk.2
  have fi := hf i hi.1 (by omega)
  have fj := hf j (by omega) hi.2.2
  have gi := hg (f i) fi.1 fi.2
  have gj := hg (f j) fj.1 fj.2
  unfold brM brk brAt brP
  rw [h3]
  have hw : wo k = 1 ∨ wo k = 2 ∨ wo k = 3 ∨ wo k = 4 ∨ wo k = 5 := by omega
  rcases hw with hw | hw | hw | hw | hw
  · rw [h4 (by omega), h5 (by omega), h6 (by omega), isM_iff hg ⟨fi.1, fi.2, hn⟩ ⟨h2.1, h2.2.1⟩, isM_iff hg ⟨fj.1, fj.2, hn⟩ ⟨h2.1, h2.2.1⟩, isM_iff hg ⟨fi.1, fi.2, hn⟩ ⟨h2.2.2.1, h2.2.2.2⟩, isM_iff hg ⟨fj.1, fj.2, hn⟩ ⟨h2.2.2.1, h2.2.2.2⟩, hw]
    simp
  · rw [h4 (by omega), h5 (by omega), isM_iff hg ⟨fi.1, fi.2, hn⟩ ⟨h2.2.2.1, h2.2.2.2⟩, isM_iff hg ⟨fj.1, fj.2, hn⟩ ⟨h2.1, h2.2.1⟩, hw]
    simp
  · rw [hw]; simp
  · rw [hw]; simp
  · rw [h6 (by omega), gi.2.2.1, gj.2.2.1, hw]
    simp
    omega
theorem sc_iff {n cnt : Int} {ki le lo ta sh gu wo on tw nu ba f : Int → Int} (hg : gRel n ki le lo ta sh gu) (hb : bRel cnt wo on tw nu ba) {i j : Int} (hi : 0 ≤ i ∧ i < j ∧ j < n) (hf : ∀ a, 0 ≤ a → a < n → 0 ≤ f a ∧ f a < n) : brk ki lo sh wo on tw nu f 10 i j ↔ j < i + 3 ∧ (scM gu (f i) (f j) ∨ scM gu (f j) (f i)) := by
  have fi := hf i hi.1 (by omega)
  have fj := hf j (by omega) hi.2.2
  have gi := hg (f i) fi.1 fi.2
  have gj := hg (f j) fj.1 fj.2
  unfold brk brAt brP frP scM
  rw [hb.1, show 5 * f i + 0 = 5 * f i by omega, show 5 * f j + 0 = 5 * f j by omega, gi.1, gi.2.2.1, gi.2.2.2.2, gj.1, gj.2.2.1, gj.2.2.2.2]
  simp
  omega
theorem noise_step0 {lo f : Int → Int} {i : Int} (h : 0 ≤ i) : noiseS lo f (i + 1).toNat = noiseS lo f i.toNat + lo (f i) * lo (f (i + 1)) := by
  rw [show (i + 1).toNat = i.toNat + 1 by omega]
  show noiseS lo f i.toNat + lo (f ((i.toNat : Nat) : Int)) * lo (f (((i.toNat : Nat) : Int) + 1)) = _
  rw [show ((i.toNat : Nat) : Int) = i by omega]
theorem isrow_next {f g : Int → Int} {b b' i : Int} (h : (b = 1 ∧ ∀ k, 0 ≤ k → k < i → f k = g k) ∨ (b = 0 ∧ ¬ ∀ k, 0 ≤ k → k < i → f k = g k)) (hi : 0 ≤ i) (hb : (b = 0 ∧ b' = 0) ∨ (b = 1 ∧ f i = g i ∧ b' = 1) ∨ (b = 1 ∧ ¬ f i = g i ∧ b' = 0)) : (b' = 1 ∧ ∀ k, 0 ≤ k → k < i + 1 → f k = g k) ∨ (b' = 0 ∧ ¬ ∀ k, 0 ≤ k → k < i + 1 → f k = g k) := by
  rcases h with ⟨h1, h2⟩ | ⟨h1, h2⟩
  · rcases hb with hb | hb | hb
    · omega
    · exact Or.inl ⟨hb.2.2, all_s h2 hb.2.1⟩
    · exact Or.inr ⟨hb.2.2, fun q => hb.2.1 (q i hi (by omega))⟩
  · exact Or.inr ⟨by omega, fun q => h2 (fun k k0 k1 => q k k0 (by omega))⟩
theorem isrow_end {f g : Int → Int} {b i n : Int} (h : (b = 1 ∧ ∀ k, 0 ≤ k → k < i → f k = g k) ∨ (b = 0 ∧ ¬ ∀ k, 0 ≤ k → k < i → f k = g k)) (hi : i = n) : ((∀ k, 0 ≤ k → k < n → f k = g k) ∧ b = 1) ∨ (¬ (∀ k, 0 ≤ k → k < n → f k = g k) ∧ b = 0) := by
  subst hi
  rcases h with ⟨h1, h2⟩ | ⟨h1, h2⟩
  · exact Or.inl ⟨h2, h1⟩
  · exact Or.inr ⟨h2, h1⟩
/-- the next of all rows, as the model makes it: pivot i, the one j that it is changed for -/
def nextP (n : Int) (f g : Int → Int) (i j : Int) : Prop := 0 ≤ i ∧ i < j ∧ j < n ∧ (∀ k, i < k → k + 1 < n → f (k + 1) < f k) ∧ f i ≤ f (i + 1) ∧ f i ≤ f j ∧ (∀ k, j < k → k < n → f k < f i) ∧ (∀ k, 0 ≤ k → k < i → g k = f k) ∧ g i = f j ∧ (∀ k, i < k → k < n → g k = if n + i - k = j then f i else f (n + i - k))
theorem next_end {n a b si sj : Int} {f g : Int → Int} (hp : 0 ≤ si ∧ si < sj ∧ sj < n) (h1 : ∀ k, si < k → k + 1 < n → f (k + 1) < f k) (h2 : f si ≤ f (si + 1)) (h3 : f si ≤ f sj) (h4 : ∀ k, sj < k → k < n → f k < f si) (hab : a + b = n + si) (ha : si < a) (hd : b ≤ a) (ho : ∀ k, (si < k ∧ k < a) ∨ (b < k ∧ k < n) → g k = uZ (uZ f si (f sj)) sj (f si) (n + si - k)) (hi : ∀ k, k ≤ si ∨ (a ≤ k ∧ k ≤ b) → g k = uZ (uZ f si (f sj)) sj (f si) k) : nextP n f g si sj := by
  refine ⟨hp.1, hp.2.1, hp.2.2, h1, h2, h3, h4, fun k k0 k1 => ?_, ?_, fun k k0 k1 => ?_⟩
  · rw [hi k (Or.inl (by omega)), uZ_n (by omega), uZ_n (by omega)]
  · rw [hi si (Or.inl (by omega)), uZ_n (by omega), uZ_s]
  · have e : g k = uZ (uZ f si (f sj)) sj (f si) (n + si - k) := by
      by_cases q : k < a ∨ b < k
      · exact ho k (by omega)
      · rw [hi k (Or.inr (by omega)), show n + si - k = k by omega]
    rw [e]
    by_cases q : n + si - k = sj
    · rw [if_pos q, q, uZ_s]
    · rw [if_neg q, uZ_n q, uZ_n (by omega)]
theorem next_swap {n a b si sj t : Int} {f g : Int → Int} (hab : a + b = n + si) (ha : si < a ∧ a < b ∧ b < n) (ht : t = g a) (ho : ∀ k, (si < k ∧ k < a) ∨ (b < k ∧ k < n) → g k = uZ (uZ f si (f sj)) sj (f si) (n + si - k)) (hi : ∀ k, k ≤ si ∨ (a ≤ k ∧ k ≤ b) → g k = uZ (uZ f si (f sj)) sj (f si) k) : (∀ k, (si < k ∧ k < a + 1) ∨ (b - 1 < k ∧ k < n) → uZ (uZ g a (g b)) b t k = uZ (uZ f si (f sj)) sj (f si) (n + si - k)) ∧ (∀ k, k ≤ si ∨ (a + 1 ≤ k ∧ k ≤ b - 1) → uZ (uZ g a (g b)) b t k = uZ (uZ f si (f sj)) sj (f si) k) := by
  refine ⟨fun k hk => ?_, fun k hk => ?_⟩
  · by_cases e1 : k = b
    · rw [e1, uZ_s, ht, hi a (Or.inr (by omega)), show n + si - b = a by omega]
    · rw [uZ_n e1]
      by_cases e2 : k = a
      · rw [e2, uZ_s, hi b (Or.inr (by omega)), show n + si - a = b by omega]
      · rw [uZ_n e2]
        exact ho k (by omega)
  · rw [uZ_n (by omega), uZ_n (by omega)]
    exact hi k (by omega)
section
variable {n cnt k : Int} {ki le lo ta sh gu wo on tw nu ba f : Int → Int}
theorem ok_pair {i : Int} (hb : bRel cnt wo on tw nu ba) (hk : 0 ≤ k ∧ k < cnt) (h3 : ¬ ba (4 * k) = 3) (h4 : ¬ ba (4 * k) = 4) (hp : ∀ a, 0 ≤ a → a < i → ∀ b, a < b → b < n → ¬ brk ki lo sh wo on tw nu f k a b) (hi : n ≤ i) : okP ki lo sh wo on tw nu f n k := by
  have e := (hb.2 k hk.1 hk.2).2.2.1
  exact ⟨fun q => by omega, fun q => by omega, fun _ _ a b a0 a1 a2 => hp a a0 (by omega) b a1 a2⟩
theorem ok_end {p : Int} (hg : gRel n ki le lo ta sh gu) (hb : bRel cnt wo on tw nu ba) (hn : n ≤ 8) (hk : 0 ≤ k ∧ k < cnt) (hf : ∀ a, 0 ≤ a → a < n → 0 ≤ f a ∧ f a < n) (hi : isM gu (f p) (ba (4 * k + 1))) (hw : (ba (4 * k) = 3 ∧ p = 0) ∨ (ba (4 * k) = 4 ∧ p = n - 1)) (h0 : ¬ n = 0) (hp : 0 ≤ p ∧ p < n) : okP ki lo sh wo on tw nu f n k := by
  have e := hb.2 k hk.1 hk.2
  rw [e.2.2.2.1 (by omega), isM_iff hg ⟨(hf p hp.1 hp.2).1, (hf p hp.1 hp.2).2, hn⟩ ⟨e.2.1.1, e.2.1.2.1⟩] at hi
  refine ⟨fun q => ⟨h0, ?_⟩, fun q => ⟨h0, ?_⟩, fun q3 q4 => by omega⟩
  · rw [show (0 : Int) = p by omega]; exact hi
  · rw [show n - 1 = p by omega]; exact hi
theorem why_end {p t : Int} (hg : gRel n ki le lo ta sh gu) (hb : bRel cnt wo on tw nu ba) (hn : n ≤ 8) (hk : 0 ≤ k ∧ k < cnt) (hf : ∀ a, 0 ≤ a → a < n → 0 ≤ f a ∧ f a < n) (hok : ∀ a, 0 ≤ a → a < k → okP ki lo sh wo on tw nu f n a) (hw : (ba (4 * k) = 3 ∧ p = 0) ∨ (ba (4 * k) = 4 ∧ ((n = 0 ∧ p = 0) ∨ (¬ n = 0 ∧ p = n - 1)))) (hi : ¬ n = 0 → ¬ isM gu (f p) (ba (4 * k + 1))) (ht : t = p ∧ 0 ≤ n) : ∃ x y, whyP ki lo sh wo on tw nu f n cnt k x y ∧ (¬ k = -1 → x = p ∧ y = t) := by
  have e := hb.2 k hk.1 hk.2
  refine ⟨p, t, Or.inr ⟨hk.1, Or.inl hk.2, fun a a0 _ a1 => hok a a0 a1, ?_⟩, fun _ => ⟨rfl, rfl⟩⟩
  rw [ht.1]
  by_cases h0 : n = 0
  · rcases hw with hw | hw
    · exact Or.inl ⟨by omega, Or.inl (by omega)⟩
    · exact Or.inr (Or.inl ⟨by omega, Or.inl (by omega)⟩)
  · have hi2 := hi h0
    have hp : 0 ≤ p ∧ p < n := by omega
    rw [e.2.2.2.1 (by omega), isM_iff hg ⟨(hf p hp.1 hp.2).1, (hf p hp.1 hp.2).2, hn⟩ ⟨e.2.1.1, e.2.1.2.1⟩] at hi2
    rcases hw with hw | hw
    · exact Or.inl ⟨by omega, Or.inr ⟨h0, by rw [show (0 : Int) = p by omega]; exact hi2, by omega⟩⟩
    · exact Or.inr (Or.inl ⟨by omega, Or.inr ⟨h0, by rw [show n - 1 = p by omega]; exact hi2, by omega⟩⟩)
theorem why_pair {i j : Int} (hg : gRel n ki le lo ta sh gu) (hb : bRel cnt wo on tw nu ba) (hn : n ≤ 8) (hk : 0 ≤ k ∧ k < cnt) (hf : ∀ a, 0 ≤ a → a < n → 0 ≤ f a ∧ f a < n) (hok : ∀ a, 0 ≤ a → a < k → okP ki lo sh wo on tw nu f n a) (hbr : brM gu (ba (4 * k)) (ba (4 * k + 1)) (ba (4 * k + 2)) (ba (4 * k + 3)) (f i) (f j) i j) (h3 : ¬ ba (4 * k) = 3) (h4 : ¬ ba (4 * k) = 4) (hij : 0 ≤ i ∧ i < j ∧ j < n) (hp : ∀ a, 0 ≤ a → a < i → ∀ b, a < b → b < n → ¬ brk ki lo sh wo on tw nu f k a b) (hq : ∀ b, i < b → b < j → ¬ brk ki lo sh wo on tw nu f k i b) : ∃ x y, whyP ki lo sh wo on tw nu f n cnt k x y ∧ (¬ k = -1 → x = i ∧ y = j) := by
  have e := (hb.2 k hk.1 hk.2).2.2.1
  exact ⟨i, j, Or.inr ⟨hk.1, Or.inl hk.2, fun a a0 _ a1 => hok a a0 a1, Or.inr (Or.inr ⟨by omega, by omega, hij.1, hij.2.1, hij.2.2, (brM_iff hg hb hn hk hij hf).mp hbr, hp, hq⟩)⟩, fun _ => ⟨rfl, rfl⟩⟩
theorem why_horse {i j : Int} (hg : gRel n ki le lo ta sh gu) (hb : bRel cnt wo on tw nu ba) (hf : ∀ a, 0 ≤ a → a < n → 0 ≤ f a ∧ f a < n) (hok : ∀ a, 0 ≤ a → a < k → okP ki lo sh wo on tw nu f n a) (hp : ∀ a, 0 ≤ a → a < i → ∀ b, a < b → b < n → ¬ brk ki lo sh wo on tw nu f 10 a b) (hq : ∀ b, i < b → b < j → ¬ brk ki lo sh wo on tw nu f 10 i b) (hn : n ≤ 8 ∧ cnt ≤ k) (hc : cnt ≤ 10) (hj : j < i + 3) (hij : 0 ≤ i ∧ i < j ∧ j < n) (hbr : scM gu (f i) (f j) ∨ scM gu (f j) (f i)) : ∃ x y, whyP ki lo sh wo on tw nu f n cnt 10 x y ∧ (¬ (10 : Int) = -1 → x = i ∧ y = j) := by
  have e := hb.1
  exact ⟨i, j, Or.inr ⟨by omega, Or.inr rfl, fun a a0 a1 _ => hok a a0 (by omega), Or.inr (Or.inr ⟨by omega, by omega, hij.1, hij.2.1, hij.2.2, (sc_iff hg hb hij hf).mpr ⟨hj, hbr⟩, hp, hq⟩)⟩, fun _ => ⟨rfl, rfl⟩⟩
theorem why_none {i : Int} (hb : bRel cnt wo on tw nu ba) (hok : ∀ a, 0 ≤ a → a < k → okP ki lo sh wo on tw nu f n a) (hc : cnt ≤ k) (hp : ∀ a, 0 ≤ a → a < i → ∀ b, a < b → b < n → ¬ brk ki lo sh wo on tw nu f 10 a b) (hi : n ≤ i) {x y : Int} : ∃ x' y', whyP ki lo sh wo on tw nu f n cnt (-1) x' y' ∧ (¬ (-1 : Int) = -1 → x' = x ∧ y' = y) := by
  have e := hb.1
  exact ⟨-1, -1, Or.inl ⟨rfl, rfl, rfl, fun a a0 a1 => hok a a0 (by omega), ⟨fun q => by omega, fun q => by omega, fun _ _ a b a0 a1 a2 => hp a a0 (by omega) b a1 a2⟩⟩, fun q => absurd rfl q⟩
end
