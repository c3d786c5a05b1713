-- a minute of the model, a minute of the class
section
variable {n g cells gap now r : Int} {ki le stands stn line ln : Int → Int} {room : Prop} {s : PS}
theorem goG_cases : goG ki le cells stands now g room s = s ∨ goG ki le cells stands now g room s = (s.1, uZ s.2.1 g (s.2.1 g - 1), s.2.2.1, s.2.2.2) ∨ (s.2.2.2 g = -1 ∧ goG ki le cells stands now g room s = arrF ki le cells stands now g (uZ s.1 g (s.1 g + 1), s.2.1, s.2.2.1, s.2.2.2)) := by
  unfold goG actG
  by_cases h1 : s.2.2.2 g = -1
  · rw [ifP_t h1]
    by_cases h2 : 0 < s.2.1 g
    · rw [if_pos h2]; exact Or.inr (Or.inl rfl)
    · rw [if_neg h2]
      by_cases h3 : goP now (ki g) ∧ room
      · rw [ifP_t h3]; exact Or.inr (Or.inr ⟨h1, rfl⟩)
      · rw [ifP_f h3]; exact Or.inl rfl
  · rw [ifP_f h1]; exact Or.inl rfl
theorem play_congr {c : Int} (h : ∀ c, 0 ≤ c → c < cells → stands c = stn c) : playF cells stands c = playF cells stn c := by
  unfold playF
  split
  · exact h c (by omega) (by omega)
  · rfl
theorem goG_congr {room' : Prop} (h : ∀ c, 0 ≤ c → c < cells → stands c = stn c) (hr : room ↔ room') : goG ki le cells stands now g room s = goG ki le cells stn now g room' s := by
  have e : room = room' := propext hr
  subst e
  unfold goG actG arrF busyF
  simp only [play_congr h]
theorem room_congr {p : Int} {h o : Int → Int} (hp : 0 ≤ p) (hl : ∀ i, 0 ≤ i → i ≤ p → line i = ln i) : roomP le gap line p h o ↔ roomP le gap ln p h o := by
  unfold roomP
  constructor
  · rintro (z | ⟨j, j0, j1, j2, j3, j4⟩)
    · exact Or.inl fun j j0 j1 => by rw [← hl j j0 (by omega)]; exact z j j0 j1
    · exact Or.inr ⟨j, j0, j1, by rw [← hl j j0 (by omega)]; exact j2, fun k k0 k1 => by rw [← hl k (by omega) (by omega)]; exact j3 k k0 k1, by rw [← hl j j0 (by omega), ← hl p hp (by omega)]; exact j4⟩
  · rintro (z | ⟨j, j0, j1, j2, j3, j4⟩)
    · exact Or.inl fun j j0 j1 => by rw [hl j j0 (by omega)]; exact z j j0 j1
    · exact Or.inr ⟨j, j0, j1, by rw [hl j j0 (by omega)]; exact j2, fun k k0 k1 => by rw [hl k (by omega) (by omega)]; exact j3 k k0 k1, by rw [hl j j0 (by omega), hl p hp (by omega)]; exact j4⟩
theorem go_conv {p alone : Int} (ha : ¬ alone = 1) (hp : 0 ≤ p ∧ p < n) (hl : ∀ i, 0 ≤ i → i < n → line i = ln i) (hs : ∀ c, 0 ≤ c → c < cells → stands c = stn c) : goG ki le cells stands now (line p) (alone = 1 ∨ roomP le gap line p s.1 s.2.2.2) s = goG ki le cells stn now (ln p) (roomP le gap ln p s.1 s.2.2.2) s := by
  rw [hl p hp.1 hp.2]
  refine goG_congr hs ?_
  rw [← room_congr hp.1 (fun i i0 i1 => hl i i0 (by omega))]
  exact ⟨fun z => z.resolve_left ha, Or.inr⟩
theorem step_go {k : Nat} : stepK ki le cells gap stn ln now (k + 1) s = goG ki le cells stn now (ln (k : Int)) (roomP le gap ln (k : Int) (stepK ki le cells gap stn ln now k s).1 (stepK ki le cells gap stn ln now k s).2.2.2) (stepK ki le cells gap stn ln now k s) := rfl
def jpN (n : Int) (le : Int → Int) (cells : Int) (h o : Int → Int) : Prop := ∀ g, 0 ≤ g → g < n → o g = -1 → h g - le g + 1 < cells
theorem jpN_go (hj : jpN n le cells s.1 s.2.2.2) (hn : 0 ≤ now) : jpN n le cells (goG ki le cells stands now g room s).1 (goG ki le cells stands now g room s).2.2.2 := by
  rcases goG_cases (ki := ki) (le := le) (cells := cells) (stands := stands) (now := now) (g := g) (room := room) (s := s) with e | e | ⟨h1, e⟩
  · rw [e]; exact hj
  · rw [e]; exact hj
  · rw [e]
    unfold arrF
    dsimp only
    intro a a0 a1 ha
    by_cases q : a = g
    · subst q
      simp only [uZ_s] at ha ⊢
      by_cases w : cells ≤ s.1 a + 1 - le a + 1
      · rw [if_pos w, uZ_s] at ha; omega
      · omega
    · rw [uZ_n q]
      apply hj a a0 a1
      split at ha
      · rw [uZ_n q] at ha; exact ha
      · exact ha
theorem go_run {head plays rests went out head' plays' rests' went' out' came gone came' gone' : Int → Int} {last last' : Int} (hs : simR n 0 head plays rests went out s.1 s.2.1 s.2.2.2) (hg : 0 ≤ g ∧ g < n) (hcg : ∀ a, 0 ≤ a → a < n → came a = s.2.2.1 a ∧ gone a = s.2.2.2 a) (hp : goPost n 0 g head plays rests went out head' plays' rests' went' out' (goG ki le cells stands now g room s) r) (hnow : 0 ≤ now)
    (hc : (r = 0 ∧ came' = came ∧ gone' = gone ∧ last' = last) ∨ (r = 1 ∧ ((head' g = 0 ∧ came' = uZ came g now) ∨ (¬ head' g = 0 ∧ came' = came)) ∧ ((out' g = 1 ∧ gone' = uZ gone g now ∧ last' = now) ∨ (¬ out' g = 1 ∧ gone' = gone ∧ last' = last)))) : (∀ a, 0 ≤ a → a < n → came' a = (goG ki le cells stands now g room s).2.2.1 a ∧ gone' a = (goG ki le cells stands now g room s).2.2.2 a) ∧ (((goG ki le cells stands now g room s).2.2.2 = s.2.2.2 ∧ last' = last) ∨ last' = now) := by
  obtain ⟨h1, h2, h3⟩ := hp
  have q1 := hs g hg.1 hg.2
  have q2 := h1 g hg.1 hg.2
  have z0 : (0 : Int) + g = g := Int.zero_add g
  rw [z0] at q1 q2 h3
  rcases goG_cases (ki := ki) (le := le) (cells := cells) (stands := stands) (now := now) (g := g) (room := room) (s := s) with e | e | ⟨he, e⟩
  · rw [e] at q2 ⊢
    have hr : r = 0 := by omega
    rcases hc with ⟨_, c1, c2, c3⟩ | ⟨c0, _⟩
    · rw [c1, c2]; exact ⟨hcg, Or.inl ⟨rfl, c3⟩⟩
    · omega
  · rw [e] at q2 ⊢
    dsimp only at q2 ⊢
    have hr : r = 0 := by omega
    rcases hc with ⟨_, c1, c2, c3⟩ | ⟨c0, _⟩
    · rw [c1, c2]; exact ⟨hcg, Or.inl ⟨rfl, c3⟩⟩
    · omega
  · rw [e] at q2 ⊢
    unfold arrF at q2 ⊢
    dsimp only at q2 ⊢
    simp only [uZ_s] at q2 ⊢
    have hr : r = 1 := by omega
    rcases hc with ⟨c0, _⟩ | ⟨_, c1, c2⟩
    · omega
    · refine ⟨fun a a0 a1 => ⟨?_, ?_⟩, ?_⟩
      · rcases c1 with ⟨c1, c1'⟩ | ⟨c1, c1'⟩
        · rw [c1', if_pos (by omega)]
          by_cases w : a = g
          · subst w; rw [uZ_s, uZ_s]
          · rw [uZ_n w, uZ_n w]; exact (hcg a a0 a1).1
        · rw [c1', if_neg (by omega)]; exact (hcg a a0 a1).1
      · rcases c2 with ⟨c2, c2', _⟩ | ⟨c2, c2', _⟩
        · have w : cells ≤ s.1 g + 1 - le g + 1 := by
            apply Classical.byContradiction
            intro w
            rw [if_neg w] at q2
            exact q2.2.2.1.mp c2 he
          rw [c2', if_pos w]
          by_cases v : a = g
          · subst v; rw [uZ_s, uZ_s]
          · rw [uZ_n v, uZ_n v]; exact (hcg a a0 a1).2
        · have w : ¬ cells ≤ s.1 g + 1 - le g + 1 := by
            intro w
            rw [if_pos w, uZ_s] at q2
            exact c2 (q2.2.2.1.mpr (by omega))
          rw [c2', if_neg w]; exact (hcg a a0 a1).2
      · rcases c2 with ⟨c2, _, c3⟩ | ⟨c2, _, c3⟩
        · exact Or.inr c3
        · refine Or.inl ⟨?_, c3⟩
          have w : ¬ cells ≤ s.1 g + 1 - le g + 1 := by
            intro w
            rw [if_pos w, uZ_s] at q2
            exact c2 (q2.2.2.1.mpr (by omega))
          rw [if_neg w]
end
/-- the model's run is the class's -/
def runR (n : Int) (le : Int → Int) (cells : Int) (line head plays rests went out came gone : Int → Int) (last minute : Int) (s : PS) : Prop := simR n 0 head plays rests went out s.1 s.2.1 s.2.2.2 ∧ (∀ g, 0 ≤ g → g < n → came g = s.2.2.1 g ∧ gone g = s.2.2.2 g) ∧ jpN n le cells s.1 s.2.2.2 ∧ (allP line n s.2.2.2 → last = minute)
theorem over_iff {n : Int} {head plays rests went out line : Int → Int} {base : Int} {s : PS} (hs : simR n base head plays rests went out s.1 s.2.1 s.2.2.2) (hp : permP n line) : (∀ g, 0 ≤ g → g < n → out (base + g) = 1) ↔ allP line n s.2.2.2 := by
  constructor
  · intro h i i0 i1
    have q := hp.1 i i0 i1
    exact ((hs (line i) q.1 q.2).2.2.1).mp (h (line i) q.1 q.2)
  · intro h g g0 g1
    obtain ⟨i, i0, i1, e⟩ := perm_hit hp g g0 g1
    exact ((hs g g0 g1).2.2.1).mpr (by rw [← e]; exact h i i0 i1)
theorem run_in {n t cells gap minute last : Int} {ki le stn ln line head plays rests went out came gone : Int → Int} {s q0 q : PS} {k : Nat} (hq0 : q0 = runK ki le cells gap stn ln n minute s k) (hq : q = stepK ki le cells gap stn ln t n.toNat q0) (ht : t = minute + (k : Int) + 1) (hs : simR n 0 head plays rests went out q.1 q.2.1 q.2.2.2) (hcg : ∀ g, 0 ≤ g → g < n → came g = q.2.2.1 g ∧ gone g = q.2.2.2 g) (hj : jpN n le cells q.1 q.2.2.2) (hl : (q.2.2.2 = q0.2.2.2 ∨ last = t)) (hno : ¬ allP ln n q0.2.2.2) (hll : ∀ i, 0 ≤ i → i < n → line i = ln i) : runR n le cells line head plays rests went out came gone last t (runK ki le cells gap stn ln n minute s (k + 1)) := by
  have e : runK ki le cells gap stn ln n minute s (k + 1) = q := by
    rw [hq, hq0, ht]; rfl
  rw [e]
  refine ⟨hs, hcg, hj, fun z => ?_⟩
  rcases hl with hl | hl
  · exfalso
    rw [hl] at z
    exact hno (fun i i0 i1 => by rw [← hll i i0 i1]; exact z i i0 i1)
  · exact hl
theorem all_congr {line ln o : Int → Int} {n : Int} (h : ∀ i, 0 ≤ i → i < n → line i = ln i) : allP line n o ↔ allP ln n o := ⟨fun z i i0 i1 => by rw [← h i i0 i1]; exact z i i0 i1, fun z i i0 i1 => by rw [h i i0 i1]; exact z i i0 i1⟩
