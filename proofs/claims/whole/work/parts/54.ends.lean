-- one guest alone
def simG (base g : Int) (head plays rests went out h b o : Int → Int) : Prop := head (base + g) = h g ∧ plays (base + g) + rests (base + g) = b g ∧ (out (base + g) = 1 ↔ ¬ o g = -1) ∧ went (base + g) = h g + 1
def goPost1 (base g : Int) (head plays rests went out head' plays' rests' went' out' : Int → Int) (s' : PS) (r : Int) : Prop := simG base g head' plays' rests' went' out' s'.1 s'.2.1 s'.2.2.2 ∧ (∀ k, ¬ k = base + g → head' k = head k ∧ plays' k = plays k ∧ rests' k = rests k ∧ went' k = went k ∧ out' k = out k) ∧ ((r = 1 ∧ head' (base + g) = head (base + g) + 1) ∨ (r = 0 ∧ head' (base + g) = head (base + g) ∧ out' (base + g) = out (base + g)))
section
variable {base g cells now r : Int} {ki le stands head plays rests went out h b c o : Int → Int} {room : Prop}
theorem go1_out (q : simG base g head plays rests went out h b o) (ho : out (base + g) = 1) : goPost1 base g head plays rests went out head plays rests went out (goG ki le cells stands now g room (h, b, c, o)) 0 := by
  have q1 := q.2.2.1.mp ho
  unfold goG
  rw [ifP_f q1]
  exact ⟨q, fun k _ => ⟨rfl, rfl, rfl, rfl, rfl⟩, Or.inr ⟨rfl, rfl, rfl⟩⟩
theorem go1_wait {plays' rests' : Int → Int} (q : simG base g head plays rests went out h b o) (ho : ¬ out (base + g) = 1) (hb : 0 < plays (base + g) + rests (base + g)) (h1 : ∀ k, ¬ k = base + g → plays' k = plays k ∧ rests' k = rests k) (h2 : plays' (base + g) + rests' (base + g) = plays (base + g) + rests (base + g) - 1) : goPost1 base g head plays rests went out head plays' rests' went out (goG ki le cells stands now g room (h, b, c, o)) 0 := by
  unfold simG at q
  have qo : o g = -1 := Classical.byContradiction (fun z => ho (q.2.2.1.mpr z))
  unfold goG actG
  rw [ifP_t qo, if_pos (by show 0 < b g; omega)]
  refine ⟨⟨q.1, ?_, q.2.2.1, q.2.2.2⟩, fun k hk => ⟨rfl, (h1 k hk).1, (h1 k hk).2, rfl, rfl⟩, Or.inr ⟨rfl, rfl, rfl⟩⟩
  show _ = uZ b g (b g - 1) g
  rw [uZ_s]; omega
theorem go1_stay (q : simG base g head plays rests went out h b o) (ho : ¬ out (base + g) = 1) (hb : plays (base + g) + rests (base + g) ≤ 0) (hn : ¬ (goP now (ki g) ∧ room)) : goPost1 base g head plays rests went out head plays rests went out (goG ki le cells stands now g room (h, b, c, o)) 0 := by
  have q' := q
  unfold simG at q'
  have qo : o g = -1 := Classical.byContradiction (fun z => ho (q'.2.2.1.mpr z))
  unfold goG actG
  rw [ifP_t qo, if_neg (by show ¬ 0 < b g; omega), ifP_f hn]
  exact ⟨q, fun k _ => ⟨rfl, rfl, rfl, rfl, rfl⟩, Or.inr ⟨rfl, rfl, rfl⟩⟩
theorem go1_move {plays' rests' out' : Int → Int} (q : simG base g head plays rests went out h b o) (ho : ¬ out (base + g) = 1) (hb : plays (base + g) + rests (base + g) ≤ 0) (hgo : goP now (ki g)) (hro : room) (hnow : 0 ≤ now) (h1 : ∀ k, ¬ k = base + g → plays' k = plays k ∧ rests' k = rests k ∧ out' k = out k) (h2 : plays' (base + g) + rests' (base + g) = busyF ki cells stands g (head (base + g) + 1)) (h3 : (cells ≤ head (base + g) + 1 - le g + 1 ∧ out' (base + g) = 1) ∨ (head (base + g) + 1 - le g + 1 < cells ∧ ¬ out' (base + g) = 1)) : goPost1 base g head plays rests went out (uZ head (base + g) (head (base + g) + 1)) plays' rests' (uZ went (base + g) (went (base + g) + 1)) out' (goG ki le cells stands now g room (h, b, c, o)) 1 := by
  unfold simG at q
  have qo : o g = -1 := Classical.byContradiction (fun z => ho (q.2.2.1.mpr z))
  unfold goG actG
  rw [ifP_t qo, if_neg (by show ¬ 0 < b g; omega), ifP_t ⟨hgo, hro⟩]
  unfold arrF
  dsimp only
  refine ⟨?_, fun k hk => ⟨uZ_n hk, (h1 k hk).1, (h1 k hk).2.1, uZ_n hk, (h1 k hk).2.2⟩, Or.inl ⟨rfl, uZ_s⟩⟩
  unfold simG
  dsimp only
  simp only [uZ_s]
  refine ⟨by omega, by rw [h2, q.1], ?_, by omega⟩
  rcases h3 with ⟨z1, z2⟩ | ⟨z1, z2⟩
  · rw [if_pos (by omega), uZ_s]
    exact ⟨fun _ => by omega, fun _ => z2⟩
  · rw [if_neg (by omega)]
    exact ⟨fun z => absurd z z2, fun z => absurd qo z⟩
end
def s00 : PS := (fun _ => -1, fun _ => 0, fun _ => -1, fun _ => -1)
/-- one alone, its minutes -/
noncomputable def soloK (ki le : Int → Int) (cells gap : Int) (stands : Int → Int) (g : Int) (k : Nat) : PS := runK ki le cells gap stands (fun _ => g) 1 0 s00 k
def soloE (ki le : Int → Int) (cells gap : Int) (stands : Int → Int) (g : Int) (t : Nat) : Prop := ¬ (soloK ki le cells gap stands g t).2.2.2 g = -1 ∧ ∀ j : Nat, j < t → (soloK ki le cells gap stands g j).2.2.2 g = -1
def soloM (ki le : Int → Int) (cells gap : Int) (stands : Int → Int) (n r : Int) : Prop := 0 ≤ r ∧ (∀ g, 0 ≤ g → g < n → ∀ t : Nat, soloE ki le cells gap stands g t → (t : Int) ≤ r) ∧ (r = 0 ∨ ∃ g, 0 ≤ g ∧ g < n ∧ ∃ t : Nat, r = (t : Int) ∧ soloE ki le cells gap stands g t)
theorem soloM_one {ki le : Int → Int} {cells gap n r r' : Int} {stands : Int → Int} (h : soloM ki le cells gap stands n r) (h' : soloM ki le cells gap stands n r') : r = r' := by
  obtain ⟨h0, h1, h2⟩ := h
  obtain ⟨k0, k1, k2⟩ := h'
  have a : r ≤ r' := by
    rcases h2 with z | ⟨g, g0, g1, t, e, z⟩
    · omega
    · have := k1 g g0 g1 t z; omega
  have b : r' ≤ r := by
    rcases k2 with z | ⟨g, g0, g1, t, e, z⟩
    · omega
    · have := h1 g g0 g1 t z; omega
  omega
theorem room_none {le : Int → Int} {gap : Int} {line h o : Int → Int} : roomP le gap line 0 h o := Or.inl fun j j0 j1 => absurd j1 (by omega)
theorem solo_step {ki le : Int → Int} {cells gap : Int} {stands : Int → Int} {g : Int} {k : Nat} {room : Prop} (hr : room) : soloK ki le cells gap stands g (k + 1) = goG ki le cells stands ((k : Int) + 1) g room (soloK ki le cells gap stands g k) := by
  have e : room = roomP le gap (fun _ => g) 0 (soloK ki le cells gap stands g k).1 (soloK ki le cells gap stands g k).2.2.2 := propext ⟨fun _ => room_none, fun _ => hr⟩
  rw [e]
  unfold soloK
  show stepK ki le cells gap stands (fun _ => g) (0 + (k : Int) + 1) (1 : Int).toNat _ = _
  rw [show (0 : Int) + (k : Int) + 1 = (k : Int) + 1 by omega]
  rfl
theorem solo_grow {ki le : Int → Int} {cells gap n : Int} {stands row : Int → Int} {i m m0 : Int} {t : Nat} (h : 0 ≤ m0 ∧ (∀ a, 0 ≤ a → a < i → ∀ t : Nat, soloE ki le cells gap stands (row a) t → (t : Int) ≤ m0) ∧ (m0 = 0 ∨ ∃ g, 0 ≤ g ∧ g < n ∧ ∃ t : Nat, m0 = (t : Int) ∧ soloE ki le cells gap stands g t)) (hr : 0 ≤ row i ∧ row i < n) (ht : soloE ki le cells gap stands (row i) t) (hm : m = max m0 (t : Int)) : 0 ≤ m ∧ (∀ a, 0 ≤ a → a < i + 1 → ∀ t : Nat, soloE ki le cells gap stands (row a) t → (t : Int) ≤ m) ∧ (m = 0 ∨ ∃ g, 0 ≤ g ∧ g < n ∧ ∃ t : Nat, m = (t : Int) ∧ soloE ki le cells gap stands g t) := by
  obtain ⟨h0, h1, h2⟩ := h
  refine ⟨by omega, fun a a0 a1 u hu => ?_, ?_⟩
  · by_cases e : a = i
    · subst e
      have : u = t := by
        rcases Nat.lt_trichotomy u t with q | q | q
        · exact absurd (ht.2 u q) hu.1
        · exact q
        · exact absurd (hu.2 t q) ht.1
      omega
    · have := h1 a a0 (by omega) u hu; omega
  · by_cases q : m0 ≤ (t : Int)
    · have e9 : m = (t : Int) := by rw [hm]; exact Int.max_eq_right q
      exact Or.inr ⟨row i, hr.1, hr.2, t, e9, ht⟩
    · rcases h2 with z | ⟨g, g0, g1, u, e, z⟩
      · omega
      · exact Or.inr ⟨g, g0, g1, u, by omega, z⟩
-- every run ends: what is left to go
def leftF (le : Int → Int) (cells : Int) (s : PS) (g : Int) : Int := if s.2.2.2 g = -1 then 24 * (cells + le g - 1 - s.1 g) + s.2.1 g else 0
def sumF (f : Int → Int) : Nat → Int
  | 0 => 0
  | k + 1 => sumF f k + f (k : Int)
theorem sumF_le {f f' : Int → Int} {k : Nat} (h : ∀ i, 0 ≤ i → i < (k : Int) → f' i ≤ f i) : sumF f' k ≤ sumF f k := by
  induction k with
  | zero => exact Int.le_refl _
  | succ k ih =>
    have a := ih (fun i i0 i1 => h i i0 (by omega))
    have b := h (k : Int) (by omega) (by omega)
    show sumF f' k + f' _ ≤ sumF f k + f _
    omega
theorem sumF_lt {f f' : Int → Int} {k : Nat} {j : Int} (h : ∀ i, 0 ≤ i → i < (k : Int) → f' i ≤ f i) (hj : 0 ≤ j ∧ j < (k : Int)) (hl : f' j < f j) : sumF f' k < sumF f k := by
  induction k with
  | zero => omega
  | succ k ih =>
    have b := h (k : Int) (by omega) (by omega)
    show sumF f' k + f' _ < sumF f k + f _
    by_cases e : j = (k : Int)
    · subst e
      have a := sumF_le (f := f) (f' := f') (k := k) (fun i i0 i1 => h i i0 (by omega))
      omega
    · have a := ih (fun i i0 i1 => h i i0 (by omega)) (by omega)
      omega
theorem sumF_r {f : Int → Int} {k : Nat} {c : Int} (h : ∀ i, 0 ≤ i → i < (k : Int) → 0 ≤ f i ∧ f i ≤ c) : 0 ≤ sumF f k ∧ sumF f k ≤ (k : Int) * c := by
  induction k with
  | zero => exact ⟨Int.le_refl _, by show (0 : Int) ≤ _; omega⟩
  | succ k ih =>
    have a := ih (fun i i0 i1 => h i i0 (by omega))
    have b := h (k : Int) (by omega) (by omega)
    have e : ((k + 1 : Nat) : Int) * c = (k : Int) * c + c := by
      rw [Int.natCast_add, Int.add_mul]; omega
    show 0 ≤ sumF f k + f _ ∧ sumF f k + f _ ≤ _
    rw [e]
    omega
/-- what holds of every guest in a line all the way -/
def wgP (le : Int → Int) (cells : Int) (s : PS) (g : Int) : Prop := (s.2.2.2 g = -1 → s.1 g - le g + 1 < cells) ∧ -1 ≤ s.1 g ∧ 0 ≤ s.2.1 g ∧ s.2.1 g ≤ 21
section
variable {ki le : Int → Int} {cells gap now : Int} {stands : Int → Int} {g : Int} {room : Prop} {s : PS}
theorem busy_r (hs : ∀ c, 0 ≤ c → c < cells → 0 ≤ stands c ∧ stands c ≤ 9) (c : Int) : 0 ≤ busyF ki cells stands g c ∧ busyF ki cells stands g c ≤ 21 := by
  have q : 0 ≤ playF cells stands c ∧ playF cells stands c ≤ 9 := by
    unfold playF
    split
    · exact hs c (by omega) (by omega)
    · omega
  unfold busyF
  (repeat' split) <;> omega
theorem goG_other {a : Int} (h : ¬ a = g) : (goG ki le cells stands now g room s).1 a = s.1 a ∧ (goG ki le cells stands now g room s).2.1 a = s.2.1 a ∧ (goG ki le cells stands now g room s).2.2.1 a = s.2.2.1 a ∧ (goG ki le cells stands now g room s).2.2.2 a = s.2.2.2 a := by
  rcases goG_cases (ki := ki) (le := le) (cells := cells) (stands := stands) (now := now) (g := g) (room := room) (s := s) with e | e | ⟨_, e⟩
  · rw [e]; exact ⟨rfl, rfl, rfl, rfl⟩
  · rw [e]; exact ⟨rfl, uZ_n h, rfl, rfl⟩
  · rw [e]
    unfold arrF
    dsimp only
    refine ⟨uZ_n h, uZ_n h, ?_, ?_⟩
    · split
      · exact uZ_n h
      · rfl
    · split
      · exact uZ_n h
      · rfl
theorem goG_self (hw : wgP le cells s g) (hs : ∀ c, 0 ≤ c → c < cells → 0 ≤ stands c ∧ stands c ≤ 9) (hn : 0 ≤ now) : wgP le cells (goG ki le cells stands now g room s) g ∧ leftF le cells (goG ki le cells stands now g room s) g ≤ leftF le cells s g ∧ (s.2.2.2 g = -1 → goP now (ki g) → room → leftF le cells (goG ki le cells stands now g room s) g < leftF le cells s g) := by
  unfold wgP at hw
  by_cases h1 : s.2.2.2 g = -1
  · have hj := hw.1 h1
    by_cases h2 : 0 < s.2.1 g
    · have e : goG ki le cells stands now g room s = (s.1, uZ s.2.1 g (s.2.1 g - 1), s.2.2.1, s.2.2.2) := by
        unfold goG actG
        rw [ifP_t h1, if_pos h2]
      rw [e]
      unfold wgP leftF
      dsimp only
      rw [uZ_s, if_pos h1, if_pos h1]
      exact ⟨⟨fun _ => hj, hw.2.1, by omega, by omega⟩, by omega, fun _ _ _ => by omega⟩
    · by_cases h3 : goP now (ki g) ∧ room
      · have e : goG ki le cells stands now g room s = arrF ki le cells stands now g (uZ s.1 g (s.1 g + 1), s.2.1, s.2.2.1, s.2.2.2) := by
          unfold goG actG
          rw [ifP_t h1, if_neg h2, ifP_t h3]
        have hb := busy_r (ki := ki) (g := g) hs (s.1 g + 1)
        rw [e]
        unfold wgP leftF arrF
        dsimp only
        simp only [uZ_s]
        rw [if_pos h1]
        by_cases w : cells ≤ s.1 g + 1 - le g + 1
        · rw [if_pos w, uZ_s, if_neg (by omega)]
          exact ⟨⟨fun z => by omega, by omega, hb.1, hb.2⟩, by omega, fun _ _ _ => by omega⟩
        · rw [if_neg w, if_pos h1]
          exact ⟨⟨fun z => by omega, by omega, hb.1, hb.2⟩, by omega, fun _ _ _ => by omega⟩
      · have e : goG ki le cells stands now g room s = s := by
          unfold goG actG
          rw [ifP_t h1, if_neg h2, ifP_f h3]
        rw [e]
        exact ⟨hw, Int.le_refl _, fun _ a b => absurd ⟨a, b⟩ h3⟩
  · have e : goG ki le cells stands now g room s = s := by
      unfold goG
      rw [ifP_f h1]
    rw [e]
    exact ⟨hw, Int.le_refl _, fun a => absurd a h1⟩
theorem left_congr {s' : PS} {a : Int} (h : s'.1 a = s.1 a ∧ s'.2.1 a = s.2.1 a ∧ s'.2.2.1 a = s.2.2.1 a ∧ s'.2.2.2 a = s.2.2.2 a) : leftF le cells s' a = leftF le cells s a ∧ (wgP le cells s a → wgP le cells s' a) := by
  unfold leftF wgP
  rw [h.1, h.2.1, h.2.2.2]
  exact ⟨rfl, id⟩
end
section
variable {ki le : Int → Int} {cells gap now : Int} {stands line : Int → Int} {size : Int} {s : PS}
theorem step_left (hinj : ∀ i j, 0 ≤ i → i < j → j < size → ¬ line i = line j) (hs : ∀ c, 0 ≤ c → c < cells → 0 ≤ stands c ∧ stands c ≤ 9) (hn : 0 ≤ now) (hw : ∀ i, 0 ≤ i → i < size → wgP le cells s (line i)) (k : Nat) (hk : (k : Int) ≤ size) : (∀ i, 0 ≤ i → i < size → wgP le cells (stepK ki le cells gap stands line now k s) (line i) ∧ leftF le cells (stepK ki le cells gap stands line now k s) (line i) ≤ leftF le cells s (line i)) ∧ (∀ i, (k : Int) ≤ i → i < size → (stepK ki le cells gap stands line now k s).2.2.2 (line i) = s.2.2.2 (line i)) ∧ (∀ i, 0 ≤ i → i < (k : Int) → ¬ s.2.2.2 (line i) = -1 → ¬ (stepK ki le cells gap stands line now k s).2.2.2 (line i) = -1) ∧ (now % 2 = 0 → ∀ p, 0 ≤ p → p < (k : Int) → s.2.2.2 (line p) = -1 → (∀ i, 0 ≤ i → i < p → ¬ s.2.2.2 (line i) = -1) → ∃ j, 0 ≤ j ∧ j < size ∧ leftF le cells (stepK ki le cells gap stands line now k s) (line j) < leftF le cells s (line j)) := by
  induction k with
  | zero => exact ⟨fun i i0 i1 => ⟨hw i i0 i1, Int.le_refl _⟩, fun i _ _ => rfl, fun i i0 i1 => absurd i1 (by omega), fun _ p p0 p1 => absurd p1 (by omega)⟩
  | succ k ih =>
    obtain ⟨a1, a2, a3, a4⟩ := ih (by omega)
    rw [step_go]
    generalize hq : stepK ki le cells gap stands line now k s = q at a1 a2 a3 a4 ⊢
    have hself := goG_self (ki := ki) (now := now) (room := roomP le gap line (k : Int) q.1 q.2.2.2) (a1 (k : Int) (by omega) (by omega)).1 hs hn
    have hoth : ∀ i, 0 ≤ i → i < size → ¬ i = (k : Int) → ¬ line i = line (k : Int) := fun i i0 i1 ne => by
      rcases Int.lt_or_gt_of_ne ne with z | z
      · exact hinj i (k : Int) i0 z (by omega)
      · exact fun e => hinj (k : Int) i (by omega) z i1 e.symm
    refine ⟨fun i i0 i1 => ?_, fun i i0 i1 => ?_, fun i i0 i1 hi => ?_, fun hev p p0 p1 hp hall => ?_⟩
    · by_cases e : i = (k : Int)
      · subst e
        exact ⟨hself.1, Int.le_trans hself.2.1 (a1 _ i0 i1).2⟩
      · have c := left_congr (le := le) (cells := cells) (goG_other (ki := ki) (le := le) (cells := cells) (stands := stands) (now := now) (room := roomP le gap line (k : Int) q.1 q.2.2.2) (s := q) (hoth i i0 i1 e))
        rw [c.1]
        exact ⟨c.2 (a1 i i0 i1).1, (a1 i i0 i1).2⟩
    · rw [(goG_other (hoth i (by omega) i1 (by omega))).2.2.2]
      exact a2 i (by omega) i1
    · by_cases e : i = (k : Int)
      · subst e
        have z : ¬ q.2.2.2 (line (k : Int)) = -1 := by rw [a2 _ (Int.le_refl _) (by omega)]; exact hi
        unfold goG
        rw [ifP_f z]; exact z
      · rw [(goG_other (hoth i i0 (by omega) e)).2.2.2]
        exact a3 i i0 (by omega) hi
    · by_cases e : p = (k : Int)
      · subst e
        refine ⟨(k : Int), by omega, by omega, ?_⟩
        have z : q.2.2.2 (line (k : Int)) = -1 := by rw [a2 _ (Int.le_refl _) (by omega)]; exact hp
        have hr : roomP le gap line (k : Int) q.1 q.2.2.2 := Or.inl fun j j0 j1 => a3 j j0 j1 (hall j j0 j1)
        exact Int.lt_of_lt_of_le (hself.2.2 z (Or.inl hev) hr) (a1 _ (by omega) (by omega)).2
      · obtain ⟨j, j0, j1, hj⟩ := a4 hev p p0 (by omega) hp hall
        refine ⟨j, j0, j1, ?_⟩
        by_cases e2 : j = (k : Int)
        · subst e2
          exact Int.lt_of_le_of_lt hself.2.1 hj
        · have c := left_congr (le := le) (cells := cells) (goG_other (ki := ki) (le := le) (cells := cells) (stands := stands) (now := now) (room := roomP le gap line (k : Int) q.1 q.2.2.2) (s := q) (hoth j j0 j1 e2))
          rw [c.1]; exact hj
theorem first_of {P : Int → Prop} {n : Int} (h : ∃ i, 0 ≤ i ∧ i < n ∧ P i) : ∃ i, 0 ≤ i ∧ i < n ∧ P i ∧ ∀ j, 0 ≤ j → j < i → ¬ P j := by
  obtain ⟨i, i0, i1, hi⟩ := h
  have key : ∀ k : Nat, ∀ i, 0 ≤ i → i < n → P i → i.toNat ≤ k → ∃ i, 0 ≤ i ∧ i < n ∧ P i ∧ ∀ j, 0 ≤ j → j < i → ¬ P j := by
    intro k
    induction k with
    | zero => exact fun i i0 i1 hi hk => ⟨i, i0, i1, hi, fun j j0 j1 => absurd j1 (by omega)⟩
    | succ k ih =>
      intro i i0 i1 hi hk
      by_cases e : ∃ j, 0 ≤ j ∧ j < i ∧ P j
      · obtain ⟨j, j0, j1, hj⟩ := e
        exact ih j j0 (by omega) hj (by omega)
      · exact ⟨i, i0, i1, hi, fun j j0 j1 hj => e ⟨j, j0, j1, hj⟩⟩
  exact key i.toNat i i0 i1 hi (Nat.le_refl _)
theorem run_left (hinj : ∀ i j, 0 ≤ i → i < j → j < size → ¬ line i = line j) (hz : 0 ≤ size) (hs : ∀ c, 0 ≤ c → c < cells → 0 ≤ stands c ∧ stands c ≤ 9) (hn : 0 ≤ now) (hw : ∀ i, 0 ≤ i → i < size → wgP le cells s (line i)) (k : Nat) : (∀ i, 0 ≤ i → i < size → wgP le cells (runK ki le cells gap stands line size now s k) (line i)) ∧ ((∃ j : Nat, j ≤ k ∧ allP line size (runK ki le cells gap stands line size now s j).2.2.2) ∨ 2 * sumF (fun i => leftF le cells (runK ki le cells gap stands line size now s k) (line i)) size.toNat + (k : Int) ≤ 2 * sumF (fun i => leftF le cells s (line i)) size.toNat + ((now + (k : Int)) % 2 + 1)) := by
  induction k with
  | zero =>
    refine ⟨hw, Or.inr ?_⟩
    show 2 * sumF (fun i => leftF le cells s (line i)) size.toNat + ((0 : Nat) : Int) ≤ _
    omega
  | succ k ih =>
    obtain ⟨b1, b2⟩ := ih
    have st := step_left (ki := ki) (gap := gap) (now := now + (k : Int) + 1) hinj hs (by omega) b1 size.toNat (by omega)
    have hrw : runK ki le cells gap stands line size now s (k + 1) = stepK ki le cells gap stands line (now + (k : Int) + 1) size.toNat (runK ki le cells gap stands line size now s k) := rfl
    rw [hrw]
    refine ⟨fun i i0 i1 => (st.1 i i0 i1).1, ?_⟩
    rcases b2 with ⟨j, j1, hj⟩ | b2
    · exact Or.inl ⟨j, by omega, hj⟩
    · by_cases hall : allP line size (runK ki le cells gap stands line size now s k).2.2.2
      · exact Or.inl ⟨k, by omega, hall⟩
      · right
        have hle := sumF_le (f := fun i => leftF le cells (runK ki le cells gap stands line size now s k) (line i)) (f' := fun i => leftF le cells (stepK ki le cells gap stands line (now + (k : Int) + 1) size.toNat (runK ki le cells gap stands line size now s k)) (line i)) (k := size.toNat) (fun i i0 i1 => (st.1 i i0 (by omega)).2)
        by_cases hev : (now + (k : Int) + 1) % 2 = 0
        · have hex : ∃ i, 0 ≤ i ∧ i < size ∧ (runK ki le cells gap stands line size now s k).2.2.2 (line i) = -1 := by
            apply Classical.byContradiction
            intro z
            exact hall fun i i0 i1 hi => z ⟨i, i0, i1, hi⟩
          obtain ⟨p, p0, p1, hp, hpp⟩ := first_of hex
          obtain ⟨j, j0, j1, hj⟩ := st.2.2.2 hev p p0 (by omega) hp hpp
          have hlt := sumF_lt (f := fun i => leftF le cells (runK ki le cells gap stands line size now s k) (line i)) (f' := fun i => leftF le cells (stepK ki le cells gap stands line (now + (k : Int) + 1) size.toNat (runK ki le cells gap stands line size now s k)) (line i)) (k := size.toNat) (j := j) (fun i i0 i1 => (st.1 i i0 (by omega)).2) ⟨j0, by omega⟩ hj
          omega
        · omega
theorem run_ends (hinj : ∀ i j, 0 ≤ i → i < j → j < size → ¬ line i = line j) (hz : 0 ≤ size ∧ size ≤ 8) (hc : 1 ≤ cells ∧ cells ≤ 50) (hle : ∀ i, 0 ≤ i → i < size → le (line i) ≤ 5) (hs : ∀ c, 0 ≤ c → c < cells → 0 ≤ stands c ∧ stands c ≤ 9) (hn : 0 ≤ now) (hw : ∀ i, 0 ≤ i → i < size → wgP le cells s (line i)) : ∃ B : Nat, B ≤ 30000 ∧ allP line size (runK ki le cells gap stands line size now s B).2.2.2 := by
  have q := run_left (ki := ki) (gap := gap) hinj hz.1 hs hn hw 30000
  have hr : ∀ s' : PS, (∀ i, 0 ≤ i → i < size → wgP le cells s' (line i)) → 0 ≤ sumF (fun i => leftF le cells s' (line i)) size.toNat ∧ sumF (fun i => leftF le cells s' (line i)) size.toNat ≤ ((size.toNat : Nat) : Int) * 1400 := fun s' h => sumF_r (c := 1400) (fun i i0 i1 => by
    have w := h i i0 (by omega)
    have l5 := hle i i0 (by omega)
    unfold wgP at w
    unfold leftF
    split
    · have := w.1 (by assumption); omega
    · omega)
  rcases q.2 with ⟨j, j1, hj⟩ | z
  · exact ⟨j, j1, hj⟩
  · exfalso
    have a := hr _ q.1
    have b := hr _ hw
    have c : ((size.toNat : Nat) : Int) * 1400 ≤ 11200 := by omega
    omega
theorem solo_ends {g : Int} (hc : 1 ≤ cells ∧ cells ≤ 50) (hle : 0 ≤ le g ∧ le g ≤ 5) (hs : ∀ c, 0 ≤ c → c < cells → 0 ≤ stands c ∧ stands c ≤ 9) : ∃ B : Nat, B ≤ 30000 ∧ ¬ (soloK ki le cells gap stands g B).2.2.2 g = -1 := by
  obtain ⟨B, b1, b2⟩ := run_ends (ki := ki) (le := le) (gap := gap) (line := fun _ => g) (size := 1) (now := 0) (s := s00) (fun i j i0 i1 i2 => by omega) (by omega) hc (fun i _ _ => hle.2) hs (Int.le_refl _) (fun i i0 i1 => ⟨fun _ => by show (-1 : Int) - le g + 1 < cells; omega, by show (-1 : Int) ≤ -1; omega, by show (0 : Int) ≤ 0; omega, by show (0 : Int) ≤ 21; omega⟩)
  exact ⟨B, b1, b2 0 (Int.le_refl _) (by omega)⟩
end
theorem run_sim {n t cells gap minute base : Int} {ki le stn ln head plays rests went out : Int → Int} {s q0 q : PS} {k i : Nat} (hq0 : q0 = runK ki le cells gap stn ln n minute s k) (hq : q = stepK ki le cells gap stn ln t i q0) (hi : i = n.toNat) (ht : t = minute + (k : Int) + 1) (hs : simR n base head plays rests went out q.1 q.2.1 q.2.2.2) : simR n base head plays rests went out (runK ki le cells gap stn ln n minute s (k + 1)).1 (runK ki le cells gap stn ln n minute s (k + 1)).2.1 (runK ki le cells gap stn ln n minute s (k + 1)).2.2.2 := by
  have e : runK ki le cells gap stn ln n minute s (k + 1) = q := by
    rw [hq, hq0, ht, hi]; rfl
  rw [e]; exact hs
theorem run_jp {n t cells gap minute : Int} {ki le stn ln : Int → Int} {s q0 q : PS} {k i : Nat} (hq0 : q0 = runK ki le cells gap stn ln n minute s k) (hq : q = stepK ki le cells gap stn ln t i q0) (hi : i = n.toNat) (ht : t = minute + (k : Int) + 1) (hs : jpN n le cells q.1 q.2.2.2) : jpN n le cells (runK ki le cells gap stn ln n minute s (k + 1)).1 (runK ki le cells gap stn ln n minute s (k + 1)).2.2.2 := by
  have e : runK ki le cells gap stn ln n minute s (k + 1) = q := by
    rw [hq, hq0, ht, hi]; rfl
  rw [e]; exact hs
