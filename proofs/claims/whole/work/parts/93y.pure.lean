-- the tables of the bars after a load; a run begun, a guest taken ill
theorem bRel_of {fr : Int → Int} {n : Int} {b : BS} (h : frA fr n b) (h10 : b.2.1 10 = 11) (hw : ∀ k, 0 ≤ k → k < n → 1 ≤ b.2.1 k ∧ b.2.1 k ≤ 5) (ho : RA b.2.2.1 0 12) (ht : RA b.2.2.2.1 0 12) : bRel n b.2.1 b.2.2.1 b.2.2.2.1 b.2.2.2.2 fr :=
  ⟨h10, fun k k0 k1 => ⟨hw k k0 k1, ⟨(ho k).1, (ho k).2, (ht k).1, (ht k).2⟩, h.2 k k0 k1⟩⟩
section
variable {f : Int → Int} {len n : Int}
theorem bar_w5 {q : QS} {b : BS} (h0 : 0 ≤ b.1) (h : ∀ k, 0 ≤ k → k < b.1 → 1 ≤ b.2.1 k ∧ b.2.1 k ≤ 5) : 0 ≤ (barB f len n q b).1 ∧ ∀ k, 0 ≤ k → k < (barB f len n q b).1 → 1 ≤ (barB f len n q b).2.1 k ∧ (barB f len n q b).2.1 k ≤ 5 := by
  unfold barB
  by_cases c : (1 ≤ q.2.2.1 ∧ q.2.2.1 ≤ 5) ∧ b.1 < 10 ∧ (barQ f len n b.1 q).1 = 0
  · rw [if_pos c]
    refine ⟨by show 0 ≤ b.1 + 1; omega, fun k k0 k1 => ?_⟩
    have k1' : k < b.1 + 1 := k1
    show 1 ≤ uZ b.2.1 b.1 q.2.2.1 k ∧ uZ b.2.1 b.1 q.2.2.1 k ≤ 5
    by_cases e : k = b.1
    · rw [e, uZ_s]; exact c.1
    · rw [uZ_n e]; exact h k k0 (by omega)
  · rw [if_neg c]
    exact ⟨h0, h⟩
theorem par_w5 {s : QS × BS} (h0 : 0 ≤ s.2.1) (h : ∀ k, 0 ≤ k → k < s.2.1 → 1 ≤ s.2.2.1 k ∧ s.2.2.1 k ≤ 5) : ∀ k : Nat, 0 ≤ (parK f len n s k).2.1 ∧ ∀ j, 0 ≤ j → j < (parK f len n s k).2.1 → 1 ≤ (parK f len n s k).2.2.1 j ∧ (parK f len n s k).2.2.1 j ≤ 5
  | 0 => ⟨h0, h⟩
  | k + 1 => by
    have ih := par_w5 h0 h k
    by_cases g : ¬ (parK f len n s k).1.2.2.1 = 9 ∧ (parK f len n s k).1.1 = 0
    · rw [par_go g]
      exact bar_w5 ih.1 ih.2
    · rw [show parK f len n s (k + 1) = parK f len n s k from if_neg g]
      exact ih
theorem all_keep {wo on tw nu : Int → Int} : ((allQ f len n wo on tw nu).1.1 = 0 → (allQ f len n wo on tw nu).1.2.1 = -1) ∧ (allQ f len n wo on tw nu).2.2.1 10 = wo 10 := par_keep (f := f) (len := len) (n := n) (s := (goF f len (0, -1, 0, 0, 0, 0), (0, wo, on, tw, nu))) rfl 11
theorem all_w5 {wo on tw nu : Int → Int} : ∀ j, 0 ≤ j → j < (allQ f len n wo on tw nu).2.1 → 1 ≤ (allQ f len n wo on tw nu).2.2.1 j ∧ (allQ f len n wo on tw nu).2.2.1 j ≤ 5 := (par_w5 (f := f) (len := len) (n := n) (s := (goF f len (0, -1, 0, 0, 0, 0), (0, wo, on, tw, nu))) (by show (0 : Int) ≤ 0; omega) (fun k k0 k1 => by have q : k < (0 : Int) := k1; omega) 11).2
end
theorem ill_run {n : Int} {le : Int → Int} {cells : Int} {line head plays rests went out came gone : Int → Int} {last minute now g : Int} {h b c o : Int → Int} (hr : runR n le cells line head plays rests went out came gone last minute (h, b, c, o)) (hm : minute = now) (hn : 0 ≤ now) : runR n le cells line head plays rests went (uZ out g 1) came (uZ gone g minute) minute minute (h, b, c, uZ o g now) := by
  obtain ⟨r1, r2, r3, r4⟩ := hr
  refine ⟨fun x x0 x1 => ?_, fun x x0 x1 => ?_, fun x x0 x1 xo => ?_, fun _ => rfl⟩
  · obtain ⟨v1, v2, v3, v4⟩ := r1 x x0 x1
    refine ⟨v1, v2, ?_, v4⟩
    rw [Int.zero_add] at v3 ⊢
    show uZ out g 1 x = 1 ↔ ¬ uZ o g now x = -1
    by_cases e : x = g
    · rw [e, uZ_s, uZ_s]; omega
    · rw [uZ_n e, uZ_n e]; exact v3
  · obtain ⟨v1, v2⟩ := r2 x x0 x1
    refine ⟨v1, ?_⟩
    show uZ gone g minute x = uZ o g now x
    by_cases e : x = g
    · rw [e, uZ_s, uZ_s, hm]
    · rw [uZ_n e, uZ_n e]; exact v2
  · have xo' : uZ o g now x = -1 := xo
    by_cases e : x = g
    · rw [e, uZ_s] at xo'; omega
    · rw [uZ_n e] at xo'; exact r3 x x0 x1 xo'
theorem ill_JP {le : Int → Int} {cells g now : Int} {h o : Int → Int} (hj : JP le cells h o) (hn : 0 ≤ now) : JP le cells h (uZ o g now) := fun x x0 x1 xo => by
  by_cases e : x = g
  · rw [e, uZ_s] at xo; omega
  · rw [uZ_n e] at xo; exact hj x x0 x1 xo
theorem begin_run {n : Int} {le : Int → Int} {cells : Int} {line head plays rests went out came gone : Int → Int} {h b c o : Int → Int} (hn : n ≤ 8) (hle : ∀ g, 0 ≤ le g) (hc : 1 ≤ cells) (hk : ∀ k, 0 ≤ k → k < 8 → h k = -1 ∧ b k = 0 ∧ c k = -1 ∧ o k = -1) (hM : ∀ g, 0 ≤ g → g < n → head g = -1 ∧ plays g = 0 ∧ rests g = 0 ∧ went g = 0 ∧ out g = 0 ∧ came g = -1 ∧ gone g = -1) : runR n le cells line head plays rests went out came gone 0 0 (h, b, c, o) := by
  refine ⟨fun x x0 x1 => ?_, fun x x0 x1 => ?_, fun x x0 x1 xo => ?_, fun _ => rfl⟩
  · obtain ⟨v1, v2, v3, v4⟩ := hk x x0 (by omega)
    obtain ⟨w1, w2, w3, w4, w5, w6, w7⟩ := hM x x0 x1
    rw [Int.zero_add]
    show head x = h x ∧ plays x + rests x = b x ∧ (out x = 1 ↔ ¬ o x = -1) ∧ went x = h x + 1
    refine ⟨by omega, by omega, by omega, by omega⟩
  · obtain ⟨v1, v2, v3, v4⟩ := hk x x0 (by omega)
    obtain ⟨w1, w2, w3, w4, w5, w6, w7⟩ := hM x x0 x1
    exact ⟨by show came x = c x; omega, by show gone x = o x; omega⟩
  · have v := hk x x0 (by omega)
    have w := hle x
    show h x - le x + 1 < cells
    omega
theorem begin_JP {le : Int → Int} {cells : Int} {h o : Int → Int} (hle : ∀ g, 0 ≤ le g) (hc : 1 ≤ cells) (hk : ∀ k, 0 ≤ k → k < 8 → h k = -1) : JP le cells h o := fun x x0 x1 xo => by
  have v := hk x x0 x1
  have w := hle x
  omega
