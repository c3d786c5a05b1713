-- the class's way of reading: bytes, words, digits
def sgB (x : Int) : Int := (x + 128) % 256 - 128
theorem sgB_r {x : Int} : -128 ≤ sgB x ∧ sgB x ≤ 127 := by unfold sgB; omega
theorem z_i2b {x : Int} : (zI x).toInt8.toInt32 = zI (sgB x) := by
  rw [← Int32.toInt_inj, Int8.toInt_toInt32, zI_toInt (by have := @sgB_r x; omega)]
  unfold zI
  rw [Int32.toInt8_ofInt, Int8.toInt_ofInt]
  show Int.bmod x 256 = sgB x
  unfold sgB
  rw [Int.bmod_def]
  split <;> omega
def sgU (v j : Int) : Int := sgB (ushF v (24 - 8 * j))
def fedP (g : Int → Int → Int) (old new : Int → Int) (n a b c d e : Int) : Prop := (∀ k, 0 ≤ k → k < n → new k = old k) ∧ (∀ j, 0 ≤ j → j < 4 → new (n + j) = g a j) ∧ (∀ j, 0 ≤ j → j < 4 → new (n + 4 + j) = g b j) ∧ (∀ j, 0 ≤ j → j < 4 → new (n + 4 + 4 + j) = g c j) ∧ (∀ j, 0 ≤ j → j < 4 → new (n + 4 + 4 + 4 + j) = g d j) ∧ (∀ j, 0 ≤ j → j < 4 → new (n + 4 + 4 + 4 + 4 + j) = g e j)
theorem fed_5 {t0 t1 t2 t3 t4 t5 : Int → Int} {n0 n1 n2 n3 n4 n5 a b c d e : Int} (h0 : 0 ≤ n0) (l1 : n1 = n0 + 4) (f1 : ∀ k, 0 ≤ k → k < n0 → t1 k = t0 k) (g1 : ∀ j, 0 ≤ j → j < 4 → t1 (n0 + j) = sgB (ushF a (24 - 8 * j))) (l2 : n2 = n1 + 4) (f2 : ∀ k, 0 ≤ k → k < n1 → t2 k = t1 k) (g2 : ∀ j, 0 ≤ j → j < 4 → t2 (n1 + j) = sgB (ushF b (24 - 8 * j))) (l3 : n3 = n2 + 4) (f3 : ∀ k, 0 ≤ k → k < n2 → t3 k = t2 k) (g3 : ∀ j, 0 ≤ j → j < 4 → t3 (n2 + j) = sgB (ushF c (24 - 8 * j))) (l4 : n4 = n3 + 4) (f4 : ∀ k, 0 ≤ k → k < n3 → t4 k = t3 k) (g4 : ∀ j, 0 ≤ j → j < 4 → t4 (n3 + j) = sgB (ushF d (24 - 8 * j))) (l5 : n5 = n4 + 4) (f5 : ∀ k, 0 ≤ k → k < n4 → t5 k = t4 k) (g5 : ∀ j, 0 ≤ j → j < 4 → t5 (n4 + j) = sgB (ushF e (24 - 8 * j))) : fedP sgU t0 t5 n0 a b c d e := by
  subst l1 l2 l3 l4
  refine ⟨fun k k0 k1 => ?_, fun j j0 j1 => ?_, fun j j0 j1 => ?_, fun j j0 j1 => ?_, fun j j0 j1 => ?_, fun j j0 j1 => ?_⟩
  · rw [f5 k k0 (by omega), f4 k k0 (by omega), f3 k k0 (by omega), f2 k k0 (by omega), f1 k k0 k1]
  · rw [f5 _ (by omega) (by omega), f4 _ (by omega) (by omega), f3 _ (by omega) (by omega), f2 _ (by omega) (by omega), g1 j j0 j1]; rfl
  · rw [f5 _ (by omega) (by omega), f4 _ (by omega) (by omega), f3 _ (by omega) (by omega), g2 j j0 j1]; rfl
  · rw [f5 _ (by omega) (by omega), f4 _ (by omega) (by omega), g3 j j0 j1]; rfl
  · rw [f5 _ (by omega) (by omega), g4 j j0 j1]; rfl
  · rw [g5 j j0 j1]; rfl
theorem numF_0 {f : Int → Int} {a : Int} : numF f a a = 0 := if_pos (Int.le_refl a)
theorem num_s {f : Int → Int} {ts i v : Int} (h : i - ts ≤ 2 → v = numF f ts i ∧ 0 ≤ v ∧ (i ≤ ts + 1 → v ≤ 9)) (hi : ts ≤ i) (hd : 48 ≤ f i ∧ f i ≤ 57) : i + 1 - ts ≤ 2 → (v * 10 + f i - 48) % 1000 = numF f ts (i + 1) ∧ 0 ≤ (v * 10 + f i - 48) % 1000 ∧ (i + 1 ≤ ts + 1 → (v * 10 + f i - 48) % 1000 ≤ 9) := by
  intro q
  obtain ⟨e, v0, v9⟩ := h (by omega)
  have v9 := v9 (by omega)
  by_cases z : i = ts
  · subst z
    rw [numF_0] at e
    have e2 : numF f i (i + 1) = f i - 48 := by unfold numF; rw [if_neg (by omega), if_pos rfl]
    rw [e2]
    omega
  · have z2 : i = ts + 1 := by omega
    subst z2
    have e1 : numF f ts (ts + 1) = f ts - 48 := by unfold numF; rw [if_neg (by omega), if_pos rfl]
    have e2 : numF f ts (ts + 1 + 1) = 10 * (f ts - 48) + (f (ts + 1) - 48) := by unfold numF; rw [if_neg (by omega), if_neg (by omega)]
    rw [e2]
    omega
/-- a token is the word k -/
def isW (f : Int → Int) (a e : Int) (k : Nat) : Prop := e - a = lenI k ∧ ∀ j, 0 ≤ j → j < lenI k → f (a + j) = bytI k j
section
variable {f : Int → Int} {a e : Int} {k : Nat}
theorem isW_3 (hl : lenI k = 3) : isW f a e k ↔ e - a = 3 ∧ f a = bytI k 0 ∧ f (a + 1) = bytI k 1 ∧ f (a + 2) = bytI k 2 := by
  unfold isW
  rw [hl]
  constructor
  · rintro ⟨h1, h2⟩
    have q := h2 0 (by omega) (by omega)
    rw [Int.add_zero] at q
    exact ⟨h1, q, h2 1 (by omega) (by omega), h2 2 (by omega) (by omega)⟩
  · rintro ⟨h1, h2, h3, h4⟩
    refine ⟨h1, fun j j0 j1 => ?_⟩
    rcases (show j = 0 ∨ j = 1 ∨ j = 2 by omega) with z | z | z <;> subst z
    · rw [Int.add_zero]; exact h2
    · exact h3
    · exact h4
theorem isW_4 (hl : lenI k = 4) : isW f a e k ↔ e - a = 4 ∧ f a = bytI k 0 ∧ f (a + 1) = bytI k 1 ∧ f (a + 2) = bytI k 2 ∧ f (a + 3) = bytI k 3 := by
  unfold isW
  rw [hl]
  constructor
  · rintro ⟨h1, h2⟩
    have q := h2 0 (by omega) (by omega)
    rw [Int.add_zero] at q
    exact ⟨h1, q, h2 1 (by omega) (by omega), h2 2 (by omega) (by omega), h2 3 (by omega) (by omega)⟩
  · rintro ⟨h1, h2, h3, h4, h5⟩
    refine ⟨h1, fun j j0 j1 => ?_⟩
    rcases (show j = 0 ∨ j = 1 ∨ j = 2 ∨ j = 3 by omega) with z | z | z | z <;> subst z
    · rw [Int.add_zero]; exact h2
    · exact h3
    · exact h4
    · exact h5
theorem isW_5 (hl : lenI k = 5) : isW f a e k ↔ e - a = 5 ∧ f a = bytI k 0 ∧ f (a + 1) = bytI k 1 ∧ f (a + 2) = bytI k 2 ∧ f (a + 3) = bytI k 3 ∧ f (a + 4) = bytI k 4 := by
  unfold isW
  rw [hl]
  constructor
  · rintro ⟨h1, h2⟩
    have q := h2 0 (by omega) (by omega)
    rw [Int.add_zero] at q
    exact ⟨h1, q, h2 1 (by omega) (by omega), h2 2 (by omega) (by omega), h2 3 (by omega) (by omega), h2 4 (by omega) (by omega)⟩
  · rintro ⟨h1, h2, h3, h4, h5, h6⟩
    refine ⟨h1, fun j j0 j1 => ?_⟩
    rcases (show j = 0 ∨ j = 1 ∨ j = 2 ∨ j = 3 ∨ j = 4 by omega) with z | z | z | z | z <;> subst z
    · rw [Int.add_zero]; exact h2
    · exact h3
    · exact h4
    · exact h5
    · exact h6
theorem word_eq : wordF f a e = ifP (isW f a e 0) 1 (ifP (isW f a e 1) 2 (ifP (isW f a e 2) 3 (ifP (isW f a e 3) 4 (ifP (isW f a e 4) 5 (ifP (isW f a e 5) 6 10))))) := by
  rw [propext (isW_3 (k := 0) (by decide)), propext (isW_5 (k := 1) (by decide)), propext (isW_5 (k := 2) (by decide)), propext (isW_4 (k := 3) (by decide)), propext (isW_4 (k := 4) (by decide)), propext (isW_4 (k := 5) (by decide))]
  rfl
theorem isW_dis : ∀ i, i < 6 → ∀ j, j < 6 → lenI i = lenI j → bytI i 0 = bytI j 0 → bytI i 1 = bytI j 1 → i = j := by decide
theorem isW_one {i j : Nat} (hi : i < 6) (hj : j < 6) (h : isW f a e i) (h' : isW f a e j) : i = j := by
  have l1 := lenI_r i hi
  have l2 := lenI_r j hj
  exact isW_dis i hi j hj (h.1.symm.trans h'.1) ((h.2 0 (by omega) (by omega)).symm.trans (h'.2 0 (by omega) (by omega))) ((h.2 1 (by omega) (by omega)).symm.trans (h'.2 1 (by omega) (by omega)))
theorem word_on {tok w : Int} (hk : (k : Int) = w - 1) (hw : isW f a e k) : (w = 10 ∧ ∀ k : Nat, (k : Int) < w + 1 - 1 → ¬ isW f a e k) ∨ (∃ k : Nat, (k : Int) < w + 1 - 1 ∧ isW f a e k ∧ w = (k : Int) + 1) := Or.inr ⟨k, by omega, hw, by omega⟩
theorem word_off {tok w : Int} (h : (tok = 10 ∧ ∀ k : Nat, (k : Int) < w - 1 → ¬ isW f a e k) ∨ (∃ k : Nat, (k : Int) < w - 1 ∧ isW f a e k ∧ tok = (k : Int) + 1)) (hk : (k : Int) = w - 1) (hn : ¬ isW f a e k) : (tok = 10 ∧ ∀ k : Nat, (k : Int) < w + 1 - 1 → ¬ isW f a e k) ∨ (∃ k : Nat, (k : Int) < w + 1 - 1 ∧ isW f a e k ∧ tok = (k : Int) + 1) := by
  rcases h with ⟨h1, h2⟩ | ⟨j, h1, h2, h3⟩
  · refine Or.inl ⟨h1, fun j hj => ?_⟩
    by_cases z : j = k
    · rw [z]; exact hn
    · exact h2 j (by omega)
  · exact Or.inr ⟨j, by omega, h2, h3⟩
theorem word_end {tok w : Int} (h : (tok = 10 ∧ ∀ k : Nat, (k : Int) < w - 1 → ¬ isW f a e k) ∨ (∃ k : Nat, (k : Int) < w - 1 ∧ isW f a e k ∧ tok = (k : Int) + 1)) (hw : w = 7) : tok = wordF f a e := by
  rw [word_eq]
  rcases h with ⟨h1, h2⟩ | ⟨j, h1, h2, h3⟩
  · rw [ifP_f (h2 0 (by omega)), ifP_f (h2 1 (by omega)), ifP_f (h2 2 (by omega)), ifP_f (h2 3 (by omega)), ifP_f (h2 4 (by omega)), ifP_f (h2 5 (by omega))]
    exact h1
  · have hn : ∀ i : Nat, i < 6 → ¬ i = j → ¬ isW f a e i := fun i hi ne q => ne (isW_one hi (by omega) q h2)
    rcases (show j = 0 ∨ j = 1 ∨ j = 2 ∨ j = 3 ∨ j = 4 ∨ j = 5 by omega) with z | z | z | z | z | z <;> subst z
    · rw [ifP_t h2]; omega
    · rw [ifP_f (hn 0 (by omega) (by omega)), ifP_t h2]; omega
    · rw [ifP_f (hn 0 (by omega) (by omega)), ifP_f (hn 1 (by omega) (by omega)), ifP_t h2]; omega
    · rw [ifP_f (hn 0 (by omega) (by omega)), ifP_f (hn 1 (by omega) (by omega)), ifP_f (hn 2 (by omega) (by omega)), ifP_t h2]; omega
    · rw [ifP_f (hn 0 (by omega) (by omega)), ifP_f (hn 1 (by omega) (by omega)), ifP_f (hn 2 (by omega) (by omega)), ifP_f (hn 3 (by omega) (by omega)), ifP_t h2]; omega
    · rw [ifP_f (hn 0 (by omega) (by omega)), ifP_f (hn 1 (by omega) (by omega)), ifP_f (hn 2 (by omega) (by omega)), ifP_f (hn 3 (by omega) (by omega)), ifP_f (hn 4 (by omega) (by omega)), ifP_t h2]; omega
end
section
variable {f : Int → Int} {len i s : Int}
theorem lex_1 (hs : scanL blkP f len i = s) (h : len ≤ s) : lexF f len i = (9, s, s, 0) := by
  unfold lexF
  rw [hs, ifP_t h]
theorem lex_2 (hs : scanL blkP f len i = s) (h : ¬ len ≤ s) (h2 : letP (f s)) : lexF f len i = (wordF f s (scanL letP f len s), s, scanL letP f len s, 0) := by
  unfold lexF
  rw [hs, ifP_f h, ifP_t h2]
theorem lex_3 (hs : scanL blkP f len i = s) (h : ¬ len ≤ s) (h2 : ¬ letP (f s)) (h3 : digP (f s)) : lexF f len i = ((if scanL digP f len s - s ≤ 2 then 7 else 10), s, scanL digP f len s, numF f s (scanL digP f len s)) := by
  unfold lexF
  rw [hs, ifP_f h, ifP_f h2, ifP_t h3]
theorem lex_4 (hs : scanL blkP f len i = s) (h : ¬ len ≤ s) (h2 : ¬ letP (f s)) (h3 : ¬ digP (f s)) : lexF f len i = ((if f s = 59 then 8 else 10), s, s + 1, 0) := by
  unfold lexF
  rw [hs, ifP_f h, ifP_f h2, ifP_f h3]
theorem go_q {q : QS} {fn fp tok ts te val tok' ts' te' val' : Int} (h : qR q fn fp tok ts te val) (h2 : tok' = (lexF f len te).1 ∧ ts' = (lexF f len te).2.1 ∧ te' = (lexF f len te).2.2.1 ∧ (tok' = 7 → val' = (lexF f len te).2.2.2)) : qR (goF f len q) fn fp tok' ts' te' val' := by
  unfold qR at h
  unfold goF qR
  dsimp only
  rw [← h.2.2.2.2.1]
  exact ⟨h.1, h.2.1, h2.1, h2.2.1, h2.2.2.1, h2.2.2.2⟩
theorem ref_q {q : QS} {fn fp tok ts te val k : Int} (h : qR q fn fp tok ts te val) : qR (refF k q) k ts tok ts te val := by
  unfold qR at h
  unfold refF qR
  exact ⟨rfl, h.2.2.2.1, h.2.2.1, h.2.2.2.1, h.2.2.2.2.1, h.2.2.2.2.2⟩
theorem all_k {n : Int} {wo on tw nu : Int → Int} {k : Nat} (hk : k ≤ 11) (h : k = 11 ∨ ((parK f len n (goF f len (0, -1, 0, 0, 0, 0), (0, wo, on, tw, nu)) k).1.2.2.1 = 9 ∨ ¬ (parK f len n (goF f len (0, -1, 0, 0, 0, 0), (0, wo, on, tw, nu)) k).1.1 = 0)) : allQ f len n wo on tw nu = parK f len n (goF f len (0, -1, 0, 0, 0, 0), (0, wo, on, tw, nu)) k := by
  unfold allQ
  rcases h with h | h
  · rw [h]
  · have q := par_stay h (11 - k)
    rw [show k + (11 - k) = 11 by omega] at q
    exact q
end
theorem z_narB {v : Int} (h : -128 ≤ v ∧ v ≤ 127) : vp_nar .byte (zI v) = zI v := by
  rw [vp_nar_byte, z_i2b, show sgB v = v by unfold sgB; omega]
