-- the tape read: blanks, letters, digits; the words
def blkP (c : Int) : Prop := c = 32 ∨ c = 10
def letP (c : Int) : Prop := (97 ≤ c ∧ c ≤ 122) ∨ (65 ≤ c ∧ c ≤ 90)
def digP (c : Int) : Prop := 48 ≤ c ∧ c ≤ 57
/-- the first place from i on, within so many, at which it is not so -/
noncomputable def scanF (p : Int → Prop) (f : Int → Int) : Nat → Int → Int
  | 0, i => i
  | k + 1, i => ifP (p (f i)) (scanF p f k (i + 1)) i
noncomputable def scanL (p : Int → Prop) (f : Int → Int) (len i : Int) : Int := scanF p f (len - i).toNat i
theorem scan_end {p : Int → Prop} {f : Int → Int} {len i : Int} (h : len ≤ i) : scanL p f len i = i := by
  unfold scanL
  rw [show (len - i).toNat = 0 by omega]
  rfl
theorem scan_on {p : Int → Prop} {f : Int → Int} {len i : Int} (h : i < len) (hp : p (f i)) : scanL p f len i = scanL p f len (i + 1) := by
  unfold scanL
  rw [show (len - i).toNat = (len - (i + 1)).toNat + 1 by omega]
  show ifP (p (f i)) _ _ = _
  rw [ifP_t hp]
theorem scan_off {p : Int → Prop} {f : Int → Int} {len i : Int} (hp : ¬ p (f i)) : scanL p f len i = i := by
  unfold scanL
  cases (len - i).toNat with
  | zero => rfl
  | succ k =>
    show ifP (p (f i)) _ _ = _
    rw [ifP_f hp]
theorem scan_r {p : Int → Prop} {f : Int → Int} {len i : Int} (h : i ≤ len) : i ≤ scanL p f len i ∧ scanL p f len i ≤ len ∧ (∀ k, i ≤ k → k < scanL p f len i → p (f k)) ∧ (scanL p f len i < len → ¬ p (f (scanL p f len i))) := by
  have key : ∀ n : Nat, ∀ i, i ≤ len → (len - i).toNat = n → i ≤ scanL p f len i ∧ scanL p f len i ≤ len ∧ (∀ k, i ≤ k → k < scanL p f len i → p (f k)) ∧ (scanL p f len i < len → ¬ p (f (scanL p f len i))) := by
    intro n
    induction n with
    | zero =>
      intro i hi hn
      rw [scan_end (by omega)]
      exact ⟨by omega, hi, fun k _ _ => by omega, fun _ => by omega⟩
    | succ n ih =>
      intro i hi hn
      by_cases q : p (f i)
      · rw [scan_on (by omega) q]
        obtain ⟨a, b, c, d⟩ := ih (i + 1) (by omega) (by omega)
        refine ⟨by omega, b, fun k k0 k1 => ?_, d⟩
        by_cases e : k = i
        · rw [e]; exact q
        · exact c k (by omega) k1
      · rw [scan_off q]
        exact ⟨by omega, hi, fun k _ _ => by omega, fun _ => q⟩
  exact key _ i h rfl
/-- a token's word: 1 to 6, or 10: none -/
noncomputable def wordF (f : Int → Int) (a e : Int) : Int :=
  ifP (e - a = 3 ∧ f a = 102 ∧ f (a + 1) = 97 ∧ f (a + 2) = 114) 1 (
  ifP (e - a = 5 ∧ f a = 97 ∧ f (a + 1) = 104 ∧ f (a + 2) = 101 ∧ f (a + 3) = 97 ∧ f (a + 4) = 100) 2 (
  ifP (e - a = 5 ∧ f a = 102 ∧ f (a + 1) = 105 ∧ f (a + 2) = 114 ∧ f (a + 3) = 115 ∧ f (a + 4) = 116) 3 (
  ifP (e - a = 4 ∧ f a = 108 ∧ f (a + 1) = 97 ∧ f (a + 2) = 115 ∧ f (a + 3) = 116) 4 (
  ifP (e - a = 4 ∧ f a = 108 ∧ f (a + 1) = 111 ∧ f (a + 2) = 117 ∧ f (a + 3) = 100) 5 (
  ifP (e - a = 4 ∧ f a = 107 ∧ f (a + 1) = 105 ∧ f (a + 2) = 110 ∧ f (a + 3) = 100) 6 10)))))
theorem wordF_r {f : Int → Int} {a e : Int} : (1 ≤ wordF f a e ∧ wordF f a e ≤ 6) ∨ wordF f a e = 10 := by
  unfold wordF ifP
  repeat' split
  all_goals omega
/-- what the digits of a token say, of one or two -/
def numF (f : Int → Int) (a e : Int) : Int := if e ≤ a then 0 else if e = a + 1 then f a - 48 else 10 * (f a - 48) + (f (a + 1) - 48)
/-- a reading's state: fault's number, its place, token, its start, its end, its value -/
abbrev QS : Type := Int × Int × Int × Int × Int × Int
noncomputable def lexF (f : Int → Int) (len i : Int) : Int × Int × Int × Int :=
  ifP (len ≤ scanL blkP f len i) (9, scanL blkP f len i, scanL blkP f len i, 0) (
  ifP (letP (f (scanL blkP f len i))) (wordF f (scanL blkP f len i) (scanL letP f len (scanL blkP f len i)), scanL blkP f len i, scanL letP f len (scanL blkP f len i), 0) (
  ifP (digP (f (scanL blkP f len i))) ((if scanL digP f len (scanL blkP f len i) - scanL blkP f len i ≤ 2 then 7 else 10), scanL blkP f len i, scanL digP f len (scanL blkP f len i), numF f (scanL blkP f len i) (scanL digP f len (scanL blkP f len i))) ((if f (scanL blkP f len i) = 59 then 8 else 10), scanL blkP f len i, scanL blkP f len i + 1, 0)))
noncomputable def goF (f : Int → Int) (len : Int) (q : QS) : QS := (q.1, q.2.1, lexF f len q.2.2.2.2.1)
def refF (k : Int) (q : QS) : QS := (k, q.2.2.2.1, q.2.2)
/-- the reader's fields say this state -/
def qR (q : QS) (fn fp tok ts te val : Int) : Prop := fn = q.1 ∧ fp = q.2.1 ∧ tok = q.2.2.1 ∧ ts = q.2.2.2.1 ∧ te = q.2.2.2.2.1 ∧ (tok = 7 → val = q.2.2.2.2.2)
noncomputable def numQ (f : Int → Int) (len lo hi : Int) (q : QS) : Int × QS := if ¬ q.1 = 0 then (0, q) else if ¬ q.2.2.1 = 7 then (0, refF 1 q) else if q.2.2.2.2.2 < lo ∨ hi < q.2.2.2.2.2 then (0, refF 2 q) else (q.2.2.2.2.2, goF f len q)
noncomputable def thQ (f : Int → Int) (len n : Int) (q : QS) : Int × QS := if q.1 = 0 ∧ q.2.2.1 = 6 then (8 + (numQ f len 0 4 (goF f len q)).1, (numQ f len 0 4 (goF f len q)).2) else numQ f len 0 (n - 1) q
noncomputable def semQ (f : Int → Int) (len : Int) (q : QS) : QS := if ¬ q.1 = 0 then q else if ¬ q.2.2.1 = 8 then refF 1 q else goF f len q
noncomputable def oneQ (f : Int → Int) (len n : Int) (q : QS) : Int × QS := if q.2.2.1 = 5 then (0, goF f len q) else thQ f len n (goF f len q)
noncomputable def twoQ (f : Int → Int) (len n : Int) (q : QS) : Int × QS := if q.2.2.1 = 1 ∨ q.2.2.1 = 2 then thQ f len n (oneQ f len n q).2 else (0, (oneQ f len n q).2)
noncomputable def thrQ (f : Int → Int) (len n : Int) (q : QS) : Int × QS := if q.2.2.1 = 1 then numQ f len 1 7 (twoQ f len n q).2 else if q.2.2.1 = 5 then numQ f len 0 18 (twoQ f len n q).2 else (0, (twoQ f len n q).2)
/-- bars: how many, words, ones, twos, numbers -/
abbrev BS : Type := Int × (Int → Int) × (Int → Int) × (Int → Int) × (Int → Int)
noncomputable def barQ (f : Int → Int) (len n cnt : Int) (q : QS) : QS := if ¬ (1 ≤ q.2.2.1 ∧ q.2.2.1 ≤ 5) then refF 1 q else if 10 ≤ cnt then refF 3 q else semQ f len (thrQ f len n q).2
noncomputable def barB (f : Int → Int) (len n : Int) (q : QS) (b : BS) : BS := if (1 ≤ q.2.2.1 ∧ q.2.2.1 ≤ 5) ∧ b.1 < 10 ∧ (barQ f len n b.1 q).1 = 0 then (b.1 + 1, uZ b.2.1 b.1 q.2.2.1, uZ b.2.2.1 b.1 (oneQ f len n q).1, uZ b.2.2.2.1 b.1 (twoQ f len n q).1, uZ b.2.2.2.2 b.1 (thrQ f len n q).1) else b
noncomputable def parK (f : Int → Int) (len n : Int) (s : QS × BS) : Nat → QS × BS
  | 0 => s
  | k + 1 => if ¬ (parK f len n s k).1.2.2.1 = 9 ∧ (parK f len n s k).1.1 = 0 then (barQ f len n (parK f len n s k).2.1 (parK f len n s k).1, barB f len n (parK f len n s k).1 (parK f len n s k).2) else parK f len n s k
theorem par_stay {f : Int → Int} {len n : Int} {s : QS × BS} {k : Nat} (h : (parK f len n s k).1.2.2.1 = 9 ∨ ¬ (parK f len n s k).1.1 = 0) : ∀ m : Nat, parK f len n s (k + m) = parK f len n s k
  | 0 => rfl
  | m + 1 => by
    have ih := par_stay h m
    show (if ¬ (parK f len n s (k + m)).1.2.2.1 = 9 ∧ (parK f len n s (k + m)).1.1 = 0 then _ else parK f len n s (k + m)) = _
    rw [ih, if_neg]
    rintro ⟨a, b⟩
    rcases h with h | h
    · exact a h
    · exact h b
theorem par_go {f : Int → Int} {len n : Int} {s : QS × BS} {k : Nat} (h : ¬ (parK f len n s k).1.2.2.1 = 9 ∧ (parK f len n s k).1.1 = 0) : parK f len n s (k + 1) = (barQ f len n (parK f len n s k).2.1 (parK f len n s k).1, barB f len n (parK f len n s k).1 (parK f len n s k).2) := by
  show (if ¬ (parK f len n s k).1.2.2.1 = 9 ∧ (parK f len n s k).1.1 = 0 then _ else _) = _
  rw [if_pos h]
/-- a reading of all -/
noncomputable def allQ (f : Int → Int) (len n : Int) (wo on tw nu : Int → Int) : QS × BS := parK f len n (goF f len (0, -1, 0, 0, 0, 0), (0, wo, on, tw, nu)) 11
theorem lex_r {f : Int → Int} {len i : Int} (h : 0 ≤ i ∧ i ≤ len) : (1 ≤ (lexF f len i).1 ∧ (lexF f len i).1 ≤ 10) ∧ (i ≤ (lexF f len i).2.1 ∧ (lexF f len i).2.1 ≤ len) ∧ (i ≤ (lexF f len i).2.2.1 ∧ (lexF f len i).2.2.1 ≤ len) ∧ ((lexF f len i).1 = 7 → 0 ≤ (lexF f len i).2.2.2 ∧ (lexF f len i).2.2.2 ≤ 99) := by
  have r1 := scan_r (p := blkP) (f := f) h.2
  unfold lexF
  generalize hs : scanL blkP f len i = s at r1 ⊢
  by_cases h1 : len ≤ s
  · rw [ifP_t h1]
    exact ⟨by dsimp only; omega, by dsimp only; omega, by dsimp only; omega, fun z => by dsimp only at z; omega⟩
  · rw [ifP_f h1]
    by_cases h2 : letP (f s)
    · rw [ifP_t h2]
      have r2 := scan_r (p := letP) (f := f) r1.2.1
      have r3 := wordF_r (f := f) (a := s) (e := scanL letP f len s)
      exact ⟨by dsimp only; omega, by dsimp only; omega, by dsimp only; omega, fun z => by dsimp only at z; omega⟩
    · rw [ifP_f h2]
      by_cases h3 : digP (f s)
      · rw [ifP_t h3]
        have r2 := scan_r (p := digP) (f := f) r1.2.1
        refine ⟨by dsimp only; split <;> omega, by dsimp only; omega, by dsimp only; omega, fun z => ?_⟩
        dsimp only at z ⊢
        have d0 : s < scanL digP f len s → 48 ≤ f s ∧ f s ≤ 57 := r2.2.2.1 s (Int.le_refl _)
        have d1 : s + 1 < scanL digP f len s → 48 ≤ f (s + 1) ∧ f (s + 1) ≤ 57 := r2.2.2.1 (s + 1) (by omega)
        unfold numF
        split
        · omega
        · split
          · have := d0 (by omega); omega
          · have := d0 (by omega); have := d1 (by omega); omega
      · rw [ifP_f h3]
        exact ⟨by dsimp only; split <;> omega, by dsimp only; omega, by dsimp only; omega, fun z => by dsimp only at z; split at z <;> omega⟩
-- the model's
def tkM (t : Int) : Int := if t = 9 then 0 else if t = 10 then 1 else if t = 7 then 2 else if t = 8 then 3 else if t = 6 then 4 else t + 10
def qM (q : QS) (wr wat tok tat pos val : Int) : Prop := wr = q.1 ∧ (¬ q.1 = 0 → wat = q.2.1) ∧ tok = tkM q.2.2.1 ∧ tat = q.2.2.2.1 ∧ pos = q.2.2.2.2.1 ∧ (q.2.2.1 = 7 → val = q.2.2.2.2.2)
/-- the model's tape is the class's, without signs -/
def tpR (len : Int) (f m : Int → Int) : Prop := ∀ k, 0 ≤ k → k < len → (0 ≤ f k ∧ m k = f k) ∨ (f k < 0 ∧ -128 ≤ f k ∧ m k = f k + 256)
/-- the letters of a token in one number -/
def numW (f : Int → Int) (a : Int) : Nat → Int
  | 0 => 0
  | k + 1 => numW f a k * 256 + f (a + (k : Int))
theorem numW_r {f : Int → Int} {a : Int} : ∀ k : Nat, (∀ j, a ≤ j → j < a + (k : Int) → 0 ≤ f j ∧ f j ≤ 255) → 0 ≤ numW f a k ∧ numW f a k < 256 ^ k
  | 0, _ => ⟨Int.le_refl _, by show (0 : Int) < 256 ^ 0; decide⟩
  | k + 1, h => by
    have ih := numW_r k (fun j j0 j1 => h j j0 (by omega))
    have hk := h (a + (k : Int)) (by omega) (by omega)
    have e : (256 : Int) ^ (k + 1) = 256 ^ k * 256 := rfl
    rw [e]
    show 0 ≤ numW f a k * 256 + f (a + (k : Int)) ∧ numW f a k * 256 + f (a + (k : Int)) < _
    omega
/-- the number's word in the model's numbers -/
def wordM (w : Int) : Int := if w = 6709618 then 11 else if w = 418363302244 then 12 else if w = 439855772532 then 13 else if w = 1818325876 then 14 else if w = 1819243876 then 15 else if w = 1802071652 then 4 else 1
