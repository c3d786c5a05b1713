-- a run on a copy
def ag8 (s s' : PS) : Prop := ∀ g, 0 ≤ g → g < 8 → agG g s s'
theorem goG_ag {ki le : Int → Int} {cells : Int} {stands : Int → Int} {now g : Int} {room room' : Prop} {s s' : PS} (h : ag8 s s') (hg : 0 ≤ g ∧ g < 8) (hr : room ↔ room') : ag8 (goG ki le cells stands now g room s) (goG ki le cells stands now g room' s') := by
  intro a a0 a1
  by_cases e : a = g
  · subst e
    by_cases q : room
    · exact goG_at (h a a0 a1) q (hr.mp q)
    · have q' : ¬ room' := fun z => q (hr.mpr z)
      obtain ⟨h1, h2, h3, h4⟩ := h a a0 a1
      unfold goG actG
      by_cases c1 : s.2.2.2 a = -1
      · have c1' : s'.2.2.2 a = -1 := by rw [← h4]; exact c1
        rw [ifP_t c1, ifP_t c1']
        by_cases c2 : 0 < s.2.1 a
        · have c2' : 0 < s'.2.1 a := by rw [← h2]; exact c2
          rw [if_pos c2, if_pos c2']
          refine ⟨h1, ?_, h3, h4⟩
          dsimp only
          rw [uZ_s, uZ_s, h2]
        · have c2' : ¬ 0 < s'.2.1 a := by rw [← h2]; exact c2
          have c4 : ¬ (goP now (ki a) ∧ room) := fun z => q z.2
          have c5 : ¬ (goP now (ki a) ∧ room') := fun z => q' z.2
          rw [if_neg c2, if_neg c2', ifP_f c4, ifP_f c5]
          exact ⟨h1, h2, h3, h4⟩
      · have c1' : ¬ s'.2.2.2 a = -1 := by rw [← h4]; exact c1
        rw [ifP_f c1, ifP_f c1']
        exact ⟨h1, h2, h3, h4⟩
  · obtain ⟨p1, p2, p3, p4⟩ := goG_other (ki := ki) (le := le) (cells := cells) (stands := stands) (now := now) (room := room) (s := s) e
    obtain ⟨q1, q2, q3, q4⟩ := goG_other (ki := ki) (le := le) (cells := cells) (stands := stands) (now := now) (room := room') (s := s') e
    obtain ⟨h1, h2, h3, h4⟩ := h a a0 a1
    exact ⟨by rw [p1, q1]; exact h1, by rw [p2, q2]; exact h2, by rw [p3, q3]; exact h3, by rw [p4, q4]; exact h4⟩
theorem room_ag {le : Int → Int} {gap : Int} {line line' : Int → Int} {p : Int} {s s' : PS} (h : ag8 s s') (hp : 0 ≤ p) (hl : ∀ i, 0 ≤ i → i ≤ p → line i = line' i ∧ 0 ≤ line i ∧ line i < 8) : roomP le gap line p s.1 s.2.2.2 ↔ roomP le gap line' p s'.1 s'.2.2.2 := by
  have eo : ∀ i, 0 ≤ i → i ≤ p → s.2.2.2 (line i) = s'.2.2.2 (line' i) := fun i i0 i1 => by
    have q := hl i i0 i1
    rw [← q.1]; exact (h _ q.2.1 q.2.2).2.2.2
  have eh : ∀ i, 0 ≤ i → i ≤ p → s.1 (line i) = s'.1 (line' i) := fun i i0 i1 => by
    have q := hl i i0 i1
    rw [← q.1]; exact (h _ q.2.1 q.2.2).1
  unfold roomP
  constructor
  · rintro (z | ⟨j, j0, j1, j2, j3, j4⟩)
    · exact Or.inl fun j j0 j1 => by rw [← eo j j0 (by omega)]; exact z j j0 j1
    · exact Or.inr ⟨j, j0, j1, by rw [← eo j j0 (by omega)]; exact j2, fun k k0 k1 => by rw [← eo k (by omega) (by omega)]; exact j3 k k0 k1, by rw [← eh j j0 (by omega), ← eh p hp (by omega), ← (hl j j0 (by omega)).1]; exact j4⟩
  · rintro (z | ⟨j, j0, j1, j2, j3, j4⟩)
    · exact Or.inl fun j j0 j1 => by rw [eo j j0 (by omega)]; exact z j j0 j1
    · exact Or.inr ⟨j, j0, j1, by rw [eo j j0 (by omega)]; exact j2, fun k k0 k1 => by rw [eo k (by omega) (by omega)]; exact j3 k k0 k1, by rw [eh j j0 (by omega), eh p hp (by omega), (hl j j0 (by omega)).1]; exact j4⟩
section
variable {ki le : Int → Int} {cells gap : Int} {stands line line' : Int → Int} {size now : Int} {s s' : PS}
theorem step_ag (hl : ∀ i, 0 ≤ i → i < size → line i = line' i ∧ 0 ≤ line i ∧ line i < 8) (h : ag8 s s') : ∀ k : Nat, (k : Int) ≤ size → ag8 (stepK ki le cells gap stands line now k s) (stepK ki le cells gap stands line' now k s')
  | 0, _ => h
  | k + 1, hk => by
    have ih := step_ag hl h k (by omega)
    rw [step_go, step_go, ← (hl (k : Int) (by omega) (by omega)).1]
    refine goG_ag ih (hl (k : Int) (by omega) (by omega)).2 ?_
    exact room_ag ih (by omega) (fun i i0 i1 => hl i i0 (by omega))
theorem run_ag (hz : 0 ≤ size) (hl : ∀ i, 0 ≤ i → i < size → line i = line' i ∧ 0 ≤ line i ∧ line i < 8) (h : ag8 s s') : ∀ k : Nat, ag8 (runK ki le cells gap stands line size now s k) (runK ki le cells gap stands line' size now s' k)
  | 0 => h
  | k + 1 => step_ag hl (run_ag hz hl h k) size.toNat (by omega)
theorem all_ag {o o' : Int → Int} (hl : ∀ i, 0 ≤ i → i < size → line i = line' i ∧ 0 ≤ line i ∧ line i < 8) (h : ∀ g, 0 ≤ g → g < 8 → o g = o' g) : allP line size o ↔ allP line' size o' := by
  constructor
  · intro z i i0 i1
    have q := hl i i0 i1
    rw [← q.1, ← h _ q.2.1 q.2.2]; exact z i i0 i1
  · intro z i i0 i1
    have q := hl i i0 i1
    rw [h _ q.2.1 q.2.2, q.1]; exact z i i0 i1
end
theorem z_perm {H H0 : Heap} {locs : List Loc} {D : va_G} {A : Nat → Prop} {ws ws2 : va_W} (hw : HW D A H0 ws H locs) (is : List Nat) (hn : va_nd is = true) (h2 : is.map (fun i => ws[i]?) = ws2.map some) : HW D A H0 ws2 H locs := ⟨hw.1.sub is (z_fm h2), hw.2.1.sub is hn h2, hw.2.2⟩
