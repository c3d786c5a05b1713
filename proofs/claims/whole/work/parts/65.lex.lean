-- the model's way of reading
section
variable {f m : Int → Int} {len n : Int} {q : QS}
theorem go_m {wr wat tok tat pos val tok' tat' pos' val' : Int} (h : qM q wr wat tok tat pos val) (h2 : tok' = tkM (lexF f len pos).1 ∧ tat' = (lexF f len pos).2.1 ∧ pos' = (lexF f len pos).2.2.1 ∧ ((lexF f len pos).1 = 7 → val' = (lexF f len pos).2.2.2)) : qM (goF f len q) wr wat tok' tat' pos' val' := by
  unfold qM at h
  unfold goF qM
  dsimp only
  rw [← h.2.2.2.2.1]
  exact ⟨h.1, h.2.1, h2.1, h2.2.1, h2.2.2.1, h2.2.2.2⟩
theorem ref_m {wr wat tok tat pos val k : Int} (h : qM q wr wat tok tat pos val) : qM (refF k q) k tat tok tat pos val := by
  unfold qM at h
  unfold refF qM
  exact ⟨rfl, fun _ => h.2.2.2.1, h.2.2.1, h.2.2.2.1, h.2.2.2.2.1, h.2.2.2.2.2⟩
theorem num_m {ts i v : Int} (h : i - ts ≤ 2 → v = numF f ts i ∧ 0 ≤ v ∧ (i ≤ ts + 1 → v ≤ 9)) (hi : ts ≤ i) (hd : 48 ≤ f i ∧ f i ≤ 57) (h2 : i - ts < 2) {v' : Int} (hv : v' = 10 * v + f i - 48) : i + 1 - ts ≤ 2 → v' = numF f ts (i + 1) ∧ 0 ≤ v' ∧ (i + 1 ≤ ts + 1 → v' ≤ 9) := by
  intro q
  have e := num_s h hi hd q
  have h3 := h (by omega)
  have h4 := h3.2.2 (by omega)
  rw [show (v * 10 + f i - 48) % 1000 = v' by omega] at e
  exact e
theorem tk_r (h : 1 ≤ q.2.2.1 ∧ q.2.2.1 ≤ 10) : (tkM q.2.2.1 = 0 ↔ q.2.2.1 = 9) ∧ (tkM q.2.2.1 = 2 ↔ q.2.2.1 = 7) ∧ (tkM q.2.2.1 = 3 ↔ q.2.2.1 = 8) ∧ (tkM q.2.2.1 = 4 ↔ q.2.2.1 = 6) ∧ (10 ≤ tkM q.2.2.1 ↔ q.2.2.1 ≤ 5) ∧ (q.2.2.1 ≤ 5 → tkM q.2.2.1 = q.2.2.1 + 10) := by
  unfold tkM
  repeat' split
  all_goals omega
/-- a state's numbers are in their bounds -/
def okQ (len : Int) (q : QS) : Prop := (1 ≤ q.2.2.1 ∧ q.2.2.1 ≤ 10) ∧ (0 ≤ q.2.2.2.2.1 ∧ q.2.2.2.2.1 ≤ len) ∧ (q.2.2.1 = 7 → 0 ≤ q.2.2.2.2.2 ∧ q.2.2.2.2.2 ≤ 99)
theorem ok_go (h : 0 ≤ q.2.2.2.2.1 ∧ q.2.2.2.2.1 ≤ len) : okQ len (goF f len q) := by
  have r := lex_r (f := f) h
  exact ⟨r.1, ⟨by show 0 ≤ (lexF f len q.2.2.2.2.1).2.2.1; omega, r.2.2.1.2⟩, r.2.2.2⟩
theorem ok_ref {k : Int} (h : okQ len q) : okQ len (refF k q) := h
theorem ok_num {lo hi : Int} (h : okQ len q) : okQ len (numQ f len lo hi q).2 := by
  unfold numQ
  split
  · exact h
  · split
    · exact h
    · split
      · exact h
      · exact ok_go h.2.1
theorem ok_th (h : okQ len q) : okQ len (thQ f len n q).2 := by
  unfold thQ
  split
  · exact ok_num (ok_go h.2.1)
  · exact ok_num h
theorem ok_sem (h : okQ len q) : okQ len (semQ f len q) := by
  unfold semQ
  split
  · exact h
  · split
    · exact h
    · exact ok_go h.2.1
theorem ok_one (h : okQ len q) : okQ len (oneQ f len n q).2 := by
  unfold oneQ
  split
  · exact ok_go h.2.1
  · exact ok_th (ok_go h.2.1)
theorem ok_two (h : okQ len q) : okQ len (twoQ f len n q).2 := by
  unfold twoQ
  split
  · exact ok_th (ok_one h)
  · exact ok_one h
theorem ok_thr (h : okQ len q) : okQ len (thrQ f len n q).2 := by
  unfold thrQ
  split
  · exact ok_num (ok_two h)
  · split
    · exact ok_num (ok_two h)
    · exact ok_two h
theorem ok_bar {c : Int} (h : okQ len q) : okQ len (barQ f len n c q) := by
  unfold barQ
  split
  · exact h
  · split
    · exact h
    · exact ok_sem (ok_thr h)
theorem ok_par {s : QS × BS} (h : okQ len s.1) : ∀ k : Nat, okQ len (parK f len n s k).1
  | 0 => h
  | k + 1 => by
    have ih := ok_par h k
    show okQ len (if _ then _ else _ : QS × BS).1
    split
    · exact ok_bar ih
    · exact ih
/-- a fault stays, and none before means its place unchanged -/
def kpQ (q q' : QS) : Prop := (¬ q.1 = 0 → q' = q) ∧ (q'.1 = 0 → q'.2.1 = q.2.1)
theorem kp_num {lo hi : Int} : kpQ q (numQ f len lo hi q).2 := by
  unfold numQ
  split
  · exact ⟨fun _ => rfl, fun _ => rfl⟩
  · rename_i h
    refine ⟨fun z => absurd z h, ?_⟩
    split
    · intro z; exact absurd z (by show ¬ (1 : Int) = 0; decide)
    · split
      · intro z; exact absurd z (by show ¬ (2 : Int) = 0; decide)
      · intro _; rfl
theorem kp_th : kpQ q (thQ f len n q).2 := by
  unfold thQ
  split
  · rename_i h
    exact ⟨fun z => absurd h.1 z, fun z => (kp_num (q := goF f len q)).2 z⟩
  · exact kp_num
theorem kp_sem : kpQ q (semQ f len q) := by
  unfold semQ
  split
  · exact ⟨fun _ => rfl, fun _ => rfl⟩
  · rename_i h
    refine ⟨fun z => absurd z h, ?_⟩
    split
    · intro z; exact absurd z (by show ¬ (1 : Int) = 0; decide)
    · intro _; rfl
theorem kp_one (h : q.1 = 0) : (oneQ f len n q).2.1 = 0 → (oneQ f len n q).2.2.1 = q.2.1 := by
  unfold oneQ
  split
  · intro _; rfl
  · intro z; exact (kp_th (q := goF f len q)).2 z
theorem kp_two (h : q.1 = 0) : ((twoQ f len n q).2.1 = 0 → (oneQ f len n q).2.1 = 0 ∧ (twoQ f len n q).2.2.1 = q.2.1) ∧ (¬ (oneQ f len n q).2.1 = 0 → (twoQ f len n q).2 = (oneQ f len n q).2) := by
  have k := kp_th (f := f) (len := len) (n := n) (q := (oneQ f len n q).2)
  have k1 := kp_one (f := f) (len := len) (n := n) h
  unfold twoQ
  split
  · refine ⟨fun z => ?_, k.1⟩
    by_cases w : (oneQ f len n q).2.1 = 0
    · exact ⟨w, (k.2 z).trans (k1 w)⟩
    · rw [k.1 w] at z; exact absurd z w
  · exact ⟨fun z => ⟨z, k1 z⟩, fun _ => rfl⟩
theorem kp_thr (h : q.1 = 0) : ((thrQ f len n q).2.1 = 0 → (twoQ f len n q).2.1 = 0 ∧ (thrQ f len n q).2.2.1 = q.2.1) ∧ (¬ (twoQ f len n q).2.1 = 0 → (thrQ f len n q).2 = (twoQ f len n q).2) := by
  have k1 := (kp_two (f := f) (len := len) (n := n) h).1
  have k : ∀ lo hi : Int, kpQ (twoQ f len n q).2 (numQ f len lo hi (twoQ f len n q).2).2 := fun lo hi => kp_num
  have go : ∀ lo hi : Int, ((numQ f len lo hi (twoQ f len n q).2).2.1 = 0 → (twoQ f len n q).2.1 = 0 ∧ (numQ f len lo hi (twoQ f len n q).2).2.2.1 = q.2.1) ∧ (¬ (twoQ f len n q).2.1 = 0 → (numQ f len lo hi (twoQ f len n q).2).2 = (twoQ f len n q).2) := fun lo hi => by
    refine ⟨fun z => ?_, (k lo hi).1⟩
    by_cases w : (twoQ f len n q).2.1 = 0
    · exact ⟨w, ((k lo hi).2 z).trans (k1 w).2⟩
    · rw [(k lo hi).1 w] at z; exact absurd z w
  unfold thrQ
  split
  · exact go 1 7
  · split
    · exact go 0 18
    · exact ⟨fun z => ⟨z, (k1 z).2⟩, fun _ => rfl⟩
theorem kp_bar {c : Int} (h : q.1 = 0) : (barQ f len n c q).1 = 0 → (barQ f len n c q).2.1 = q.2.1 := by
  unfold barQ
  split
  · intro z; exact absurd z (by show ¬ (1 : Int) = 0; decide)
  · split
    · intro z; exact absurd z (by show ¬ (3 : Int) = 0; decide)
    · intro z
      have k := kp_sem (f := f) (len := len) (q := (thrQ f len n q).2)
      by_cases w : (thrQ f len n q).2.1 = 0
      · exact (k.2 z).trans ((kp_thr h).1 w).2
      · rw [k.1 w] at z; exact absurd z w
theorem bar_wo {b : BS} : (barB f len n q b).2.1 10 = b.2.1 10 := by
  unfold barB
  split
  · rename_i h
    exact uZ_n (by have := h.2.1; omega)
  · rfl
theorem par_keep {s : QS × BS} (h : s.1.1 = 0) : ∀ k : Nat, ((parK f len n s k).1.1 = 0 → (parK f len n s k).1.2.1 = s.1.2.1) ∧ (parK f len n s k).2.2.1 10 = s.2.2.1 10
  | 0 => ⟨fun _ => rfl, rfl⟩
  | k + 1 => by
    have ih := par_keep h k
    by_cases g : ¬ (parK f len n s k).1.2.2.1 = 9 ∧ (parK f len n s k).1.1 = 0
    · rw [par_go g]
      exact ⟨fun z => (kp_bar g.2 z).trans (ih.1 g.2), bar_wo.trans ih.2⟩
    · rw [show parK f len n s (k + 1) = parK f len n s k from if_neg g]
      exact ih
/-- the model's row of numbers of a bar -/
def frR (fr : Int → Int) (k w o t u : Int) : Prop := fr (4 * k) = w ∧ (¬ w = 5 → fr (4 * k + 1) = thM o) ∧ ((w = 1 ∨ w = 2) → fr (4 * k + 2) = thM t) ∧ ((w = 1 ∨ w = 5) → fr (4 * k + 3) = u)
end
