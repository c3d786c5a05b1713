-- a bar of the model's
section
variable {f : Int → Int} {len n : Int} {q : QS}
theorem loud_q (h : q.2.2.1 = 5) : oneQ f len n q = (0, goF f len q) ∧ twoQ f len n q = (0, goF f len q) ∧ thrQ f len n q = numQ f len 0 18 (goF f len q) := by
  have a : oneQ f len n q = (0, goF f len q) := by unfold oneQ; rw [if_pos h]
  have b : twoQ f len n q = (0, goF f len q) := by unfold twoQ; rw [if_neg (by omega), a]
  have c : thrQ f len n q = numQ f len 0 18 (goF f len q) := by unfold thrQ; rw [if_neg (by omega), if_pos h, b]
  exact ⟨a, b, c⟩
theorem one_n (h : ¬ q.2.2.1 = 5) : oneQ f len n q = thQ f len n (goF f len q) := by unfold oneQ; rw [if_neg h]
theorem two_y (h : q.2.2.1 = 1 ∨ q.2.2.1 = 2) : twoQ f len n q = thQ f len n (oneQ f len n q).2 := by unfold twoQ; rw [if_pos h]
theorem two_n (h : ¬ (q.2.2.1 = 1 ∨ q.2.2.1 = 2)) : twoQ f len n q = (0, (oneQ f len n q).2) := by unfold twoQ; rw [if_neg h]
theorem thr_y (h : q.2.2.1 = 1) : thrQ f len n q = numQ f len 1 7 (twoQ f len n q).2 := by unfold thrQ; rw [if_pos h]
theorem thr_n (h : ¬ q.2.2.1 = 1) (h5 : ¬ q.2.2.1 = 5) : thrQ f len n q = (0, (twoQ f len n q).2) := by unfold thrQ; rw [if_neg h, if_neg h5]
theorem fail_thr (z : ¬ (thrQ f len n q).2.1 = 0) : semQ f len (thrQ f len n q).2 = (thrQ f len n q).2 := kp_sem.1 z
theorem fail_two (h : q.1 = 0) (z : ¬ (twoQ f len n q).2.1 = 0) : semQ f len (thrQ f len n q).2 = (twoQ f len n q).2 := by
  rw [(kp_thr h).2 z]
  exact kp_sem.1 z
theorem fail_one (h : q.1 = 0) (z : ¬ (oneQ f len n q).2.1 = 0) : semQ f len (thrQ f len n q).2 = (oneQ f len n q).2 := by
  have e := (kp_two (f := f) (len := len) (n := n) h).2 z
  rw [← e] at z ⊢
  exact fail_two h z
theorem sem_n (h : q.1 = 0) (z : ¬ q.2.2.1 = 8) : semQ f len q = refF 1 q := by unfold semQ; rw [if_neg (by omega), if_pos z]
theorem sem_y (h : q.1 = 0) (z : q.2.2.1 = 8) : semQ f len q = goF f len q := by unfold semQ; rw [if_neg (by omega), if_neg (by omega)]
/-- the model's rows of the first n bars -/
def frA (fr : Int → Int) (n : Int) (b : BS) : Prop := b.1 = n ∧ ∀ k, 0 ≤ k → k < n → frR fr k (b.2.1 k) (b.2.2.1 k) (b.2.2.2.1 k) (b.2.2.2.2 k)
theorem fr_copy {fr ba : Int → Int} {b : BS} (h : frA fr n b) (hc : ∀ j, 0 ≤ j → j < 4 * n → ba j = fr j) : frA ba n b := by
  refine ⟨h.1, fun k k0 k1 => ?_⟩
  have q := h.2 k k0 k1
  unfold frR at q ⊢
  rw [hc (4 * k) (by omega) (by omega), hc (4 * k + 1) (by omega) (by omega), hc (4 * k + 2) (by omega) (by omega), hc (4 * k + 3) (by omega) (by omega)]
  exact q
theorem fr_bar {fr fr' : Int → Int} {b : BS} {c : Int} (h : frA fr c b) (hc : 0 ≤ c) (hq : 1 ≤ q.2.2.1 ∧ q.2.2.1 ≤ 5) (hb : c < 10) (h0 : (barQ f len n b.1 q).1 = 0) (hk : ∀ j, 0 ≤ j → j < 4 * c → fr' j = fr j) (hf : frR fr' c q.2.2.1 (oneQ f len n q).1 (twoQ f len n q).1 (thrQ f len n q).1) : frA fr' (c + 1) (barB f len n q b) := by
  unfold barB
  rw [if_pos ⟨hq, by rw [h.1]; exact hb, h0⟩, h.1]
  refine ⟨rfl, fun k k0 k1 => ?_⟩
  dsimp only
  by_cases e : k = c
  · subst e
    rw [uZ_s, uZ_s, uZ_s, uZ_s]
    exact hf
  · rw [uZ_n e, uZ_n e, uZ_n e, uZ_n e]
    have q2 := h.2 k k0 (by omega)
    unfold frR at q2 ⊢
    rw [hk (4 * k) (by omega) (by omega), hk (4 * k + 1) (by omega) (by omega), hk (4 * k + 2) (by omega) (by omega), hk (4 * k + 3) (by omega) (by omega)]
    exact q2
theorem bar_bad {c : Int} (h : ¬ (1 ≤ q.2.2.1 ∧ q.2.2.1 ≤ 5)) : barQ f len n c q = refF 1 q := by unfold barQ; rw [if_pos h]
theorem bar_many {c : Int} (h : 1 ≤ q.2.2.1 ∧ q.2.2.1 ≤ 5) (hc : 10 ≤ c) : barQ f len n c q = refF 3 q := by unfold barQ; rw [if_neg (by omega), if_pos hc]
theorem bar_one {c : Int} (h : 1 ≤ q.2.2.1 ∧ q.2.2.1 ≤ 5) (hc : c < 10) : barQ f len n c q = semQ f len (thrQ f len n q).2 := by unfold barQ; rw [if_neg (by omega), if_neg (by omega)]
end
def invT (m : Int) : Int := if m = 0 then 9 else if m = 1 then 10 else if m = 2 then 7 else if m = 3 then 8 else if m = 4 then 6 else m - 10
theorem invT_e {m : Int} (h : 0 ≤ m ∧ m ≤ 15) : m = tkM (invT m) := by
  rcases (show m = 0 ∨ m = 1 ∨ m = 2 ∨ m = 3 ∨ m = 4 ∨ m = 5 ∨ m = 6 ∨ m = 7 ∨ m = 8 ∨ m = 9 ∨ m = 10 ∨ m = 11 ∨ m = 12 ∨ m = 13 ∨ m = 14 ∨ m = 15 by omega) with e | e | e | e | e | e | e | e | e | e | e | e | e | e | e | e <;> subst e <;> decide
