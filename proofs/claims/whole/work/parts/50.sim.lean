-- the model's run and the class's
noncomputable def actG (ki le : Int → Int) (cells : Int) (stands : Int → Int) (now g : Int) (room : Prop) (s : PS) : PS := if 0 < s.2.1 g then (s.1, uZ s.2.1 g (s.2.1 g - 1), s.2.2.1, s.2.2.2) else ifP (goP now (ki g) ∧ room) (arrF ki le cells stands now g (uZ s.1 g (s.1 g + 1), s.2.1, s.2.2.1, s.2.2.2)) s
theorem actF_G {ki le : Int → Int} {cells gap : Int} {stands line : Int → Int} {now i : Int} {s : PS} : actF ki le cells gap stands line now i s = actG ki le cells stands now (line i) (roomP le gap line i s.1 s.2.2.2) s := rfl
noncomputable def goG (ki le : Int → Int) (cells : Int) (stands : Int → Int) (now g : Int) (room : Prop) (s : PS) : PS := ifP (s.2.2.2 g = -1) (actG ki le cells stands now g room s) s
def simR (n base : Int) (head plays rests went out h b o : Int → Int) : Prop := ∀ g, 0 ≤ g → g < n → head (base + g) = h g ∧ plays (base + g) + rests (base + g) = b g ∧ (out (base + g) = 1 ↔ ¬ o g = -1) ∧ went (base + g) = h g + 1
def goPost (n base g : Int) (head plays rests went out head' plays' rests' went' out' : Int → Int) (s' : PS) (r : Int) : Prop := simR n base head' plays' rests' went' out' s'.1 s'.2.1 s'.2.2.2 ∧ (∀ k, ¬ k = base + g → head' k = head k ∧ plays' k = plays k ∧ rests' k = rests k ∧ went' k = went k ∧ out' k = out k) ∧ ((r = 1 ∧ head' (base + g) = head (base + g) + 1) ∨ (r = 0 ∧ head' (base + g) = head (base + g) ∧ out' (base + g) = out (base + g)))
section
variable {n base g p cells gap now r : Int} {ki le stands head plays rests went out h b c o line : Int → Int} {room : Prop}
theorem go_out (hs : simR n base head plays rests went out h b o) (hg : 0 ≤ g ∧ g < n) (ho : out (base + g) = 1) : goPost n base g head plays rests went out head plays rests went out (goG ki le cells stands now g room (h, b, c, o)) 0 := by
  have q := ((hs g hg.1 hg.2).2.2.1).mp ho
  unfold goG
  rw [ifP_f q]
  exact ⟨hs, fun k _ => ⟨rfl, rfl, rfl, rfl, rfl⟩, Or.inr ⟨rfl, rfl, rfl⟩⟩
theorem go_wait {plays' rests' : Int → Int} (hs : simR n base head plays rests went out h b o) (hg : 0 ≤ g ∧ g < n) (ho : ¬ out (base + g) = 1) (hb : 0 < plays (base + g) + rests (base + g)) (h1 : ∀ k, ¬ k = base + g → plays' k = plays k ∧ rests' k = rests k) (h2 : plays' (base + g) + rests' (base + g) = plays (base + g) + rests (base + g) - 1) : goPost n base g head plays rests went out head plays' rests' went out (goG ki le cells stands now g room (h, b, c, o)) 0 := by
  have q := hs g hg.1 hg.2
  have qo : o g = -1 := Classical.byContradiction (fun z => ho (q.2.2.1.mpr z))
  unfold goG actG
  rw [ifP_t qo, if_pos (by show 0 < b g; omega)]
  refine ⟨fun a a0 a1 => ?_, fun k hk => ⟨rfl, (h1 k hk).1, (h1 k hk).2, rfl, rfl⟩, Or.inr ⟨rfl, rfl, rfl⟩⟩
  have qa := hs a a0 a1
  by_cases e : a = g
  · subst e
    refine ⟨qa.1, ?_, qa.2.2.1, qa.2.2.2⟩
    show _ = uZ b a (b a - 1) a
    rw [uZ_s]; omega
  · refine ⟨qa.1, ?_, qa.2.2.1, qa.2.2.2⟩
    show _ = uZ b g (b g - 1) a
    rw [uZ_n e, (h1 (base + a) (by omega)).1, (h1 (base + a) (by omega)).2]
    exact qa.2.1
theorem go_stay (hs : simR n base head plays rests went out h b o) (hg : 0 ≤ g ∧ g < n) (ho : ¬ out (base + g) = 1) (hb : plays (base + g) + rests (base + g) ≤ 0) (hn : ¬ (goP now (ki g) ∧ room)) : goPost n base g head plays rests went out head plays rests went out (goG ki le cells stands now g room (h, b, c, o)) 0 := by
  have q := hs g hg.1 hg.2
  have qo : o g = -1 := Classical.byContradiction (fun z => ho (q.2.2.1.mpr z))
  unfold goG actG
  rw [ifP_t qo, if_neg (by show ¬ 0 < b g; omega), ifP_f hn]
  exact ⟨hs, fun k _ => ⟨rfl, rfl, rfl, rfl, rfl⟩, Or.inr ⟨rfl, rfl, rfl⟩⟩
theorem go_move {plays' rests' out' : Int → Int} (hs : simR n base head plays rests went out h b o) (hg : 0 ≤ g ∧ g < n) (ho : ¬ out (base + g) = 1) (hb : plays (base + g) + rests (base + g) ≤ 0) (hgo : goP now (ki g)) (hro : room) (hnow : 0 ≤ now) (h1 : ∀ k, ¬ k = base + g → plays' k = plays k ∧ rests' k = rests k ∧ out' k = out k) (h2 : plays' (base + g) + rests' (base + g) = busyF ki cells stands g (head (base + g) + 1)) (h3 : (cells ≤ head (base + g) + 1 - le g + 1 ∧ out' (base + g) = 1) ∨ (head (base + g) + 1 - le g + 1 < cells ∧ ¬ out' (base + g) = 1)) : goPost n base g head plays rests went out (uZ head (base + g) (head (base + g) + 1)) plays' rests' (uZ went (base + g) (went (base + g) + 1)) out' (goG ki le cells stands now g room (h, b, c, o)) 1 := by
  have q := hs g hg.1 hg.2
  have qo : o g = -1 := Classical.byContradiction (fun z => ho (q.2.2.1.mpr z))
  unfold goG actG
  rw [ifP_t qo, if_neg (by show ¬ 0 < b g; omega), ifP_t ⟨hgo, hro⟩]
  unfold arrF
  dsimp only
  refine ⟨fun a a0 a1 => ?_, fun k hk => ⟨uZ_n hk, (h1 k hk).1, (h1 k hk).2.1, uZ_n hk, (h1 k hk).2.2⟩, Or.inl ⟨rfl, uZ_s⟩⟩
  have qa := hs a a0 a1
  dsimp only
  by_cases e : a = g
  · subst e
    simp only [uZ_s]
    refine ⟨by omega, by rw [h2, q.1], ?_, by omega⟩
    rcases h3 with ⟨z1, z2⟩ | ⟨z1, z2⟩
    · rw [if_pos (by omega), uZ_s]
      exact ⟨fun _ => by omega, fun _ => z2⟩
    · rw [if_neg (by omega)]
      exact ⟨fun z => absurd z z2, fun z => absurd qo z⟩
  · have hne : ¬ base + a = base + g := by omega
    have e1 : uZ head (base + g) (head (base + g) + 1) (base + a) = head (base + a) := uZ_n hne
    have e2 : uZ h g (h g + 1) a = h a := uZ_n e
    have e4 : uZ went (base + g) (went (base + g) + 1) (base + a) = went (base + a) := uZ_n hne
    rw [e1, e2, e4, (h1 (base + a) hne).1, (h1 (base + a) hne).2.1, (h1 (base + a) hne).2.2]
    have e3 : ∀ v : Int, uZ b g v a = b a := fun v => uZ_n e
    rw [e3]
    refine ⟨qa.1, qa.2.1, ?_, qa.2.2.2⟩
    rw [qa.2.2.1]
    split
    · rw [uZ_n e]
    · exact Iff.rfl
theorem go_roomT {nx : Int} (hs : simR n base head plays rests went out h b o) (hl : ∀ i, 0 ≤ i → i < n → 0 ≤ line i ∧ line i < n) (hp : 0 ≤ p ∧ p < n) (hx : ∀ j, nx < j → j < p → out (base + line j) = 1) (hd : nx < 0 ∨ ((0 ≤ nx ∧ nx < p) ∧ ¬ out (base + line nx) = 1 ∧ head (base + line p) + 1 + gap < head (base + line nx) - le (line nx) + 1)) : roomP le gap line p h o := by
  have hout : ∀ j, 0 ≤ j → j < n → (out (base + line j) = 1 ↔ ¬ o (line j) = -1) := fun j j0 j1 => (hs (line j) (hl j j0 j1).1 (hl j j0 j1).2).2.2.1
  rcases hd with hd | ⟨h0, h1, h2⟩
  · exact Or.inl fun j j0 j1 => (hout j j0 (by omega)).mp (hx j (by omega) j1)
  · refine Or.inr ⟨nx, h0.1, h0.2, ?_, fun k k0 k1 => (hout k (by omega) (by omega)).mp (hx k k0 k1), ?_⟩
    · exact Classical.byContradiction (fun z => h1 ((hout nx h0.1 (by omega)).mpr z))
    · have e1 := (hs (line nx) (hl nx h0.1 (by omega)).1 (hl nx h0.1 (by omega)).2).1
      have e2 := (hs (line p) (hl p hp.1 hp.2).1 (hl p hp.1 hp.2).2).1
      omega
theorem go_roomF {nx : Int} (hs : simR n base head plays rests went out h b o) (hl : ∀ i, 0 ≤ i → i < n → 0 ≤ line i ∧ line i < n) (hp : 0 ≤ p ∧ p < n) (hx : ∀ j, nx < j → j < p → out (base + line j) = 1) (h0 : 0 ≤ nx ∧ nx < p) (h1 : ¬ out (base + line nx) = 1) (h2 : head (base + line nx) - le (line nx) + 1 ≤ head (base + line p) + 1 + gap) : ¬ roomP le gap line p h o := by
  have hout : ∀ j, 0 ≤ j → j < n → (out (base + line j) = 1 ↔ ¬ o (line j) = -1) := fun j j0 j1 => (hs (line j) (hl j j0 j1).1 (hl j j0 j1).2).2.2.1
  have e1 := (hs (line nx) (hl nx h0.1 (by omega)).1 (hl nx h0.1 (by omega)).2).1
  have e2 := (hs (line p) (hl p hp.1 hp.2).1 (hl p hp.1 hp.2).2).1
  rintro (z | ⟨j, j0, j1, j2, j3, j4⟩)
  · exact h1 ((hout nx h0.1 (by omega)).mpr (z nx h0.1 h0.2))
  · rcases Int.lt_trichotomy j nx with q | q | q
    · exact h1 ((hout nx h0.1 (by omega)).mpr (j3 nx q h0.2))
    · subst q; omega
    · exact (hout j j0 (by omega)).mp (hx j q j1) j2
end
