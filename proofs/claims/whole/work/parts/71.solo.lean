-- bytes that come, of the model; one alone, of the class
theorem z_255 (v : Int) : zI v &&& zI 255 = zI (v % 256) := by
  rw [pk_and (zI v) (m := zI 255) 8 (by decide), zI_bv, zI_nI (a := v % 256) ⟨by omega, by omega⟩]
  congr 1
  omega
def uB (v j : Int) : Int := shrF v (24 - 8 * j) % 256
theorem uB_r {v j : Int} : 0 ≤ uB v j ∧ uB v j ≤ 255 := by unfold uB; omega
def fdB (a b c d e j : Int) : Int := if j < 4 then uB a j else if j < 8 then uB b (j - 4) else if j < 12 then uB c (j - 8) else if j < 16 then uB d (j - 12) else uB e (j - 16)
theorem fdB_s {a b c d e k v : Int} (hk : 0 ≤ k ∧ k < 20) (h : (k < 4 ∧ v = a) ∨ (4 ≤ k ∧ k < 8 ∧ v = b) ∨ (8 ≤ k ∧ k < 12 ∧ v = c) ∨ (12 ≤ k ∧ k < 16 ∧ v = d) ∨ (16 ≤ k ∧ v = e)) : shrF v (24 - 8 * (k % 4)) % 256 = fdB a b c d e k := by
  unfold fdB uB
  rcases h with ⟨h1, h2⟩ | ⟨h1, h2, h3⟩ | ⟨h1, h2, h3⟩ | ⟨h1, h2, h3⟩ | ⟨h1, h2⟩
  · rw [if_pos h1, h2, show k % 4 = k by omega]
  · rw [if_neg (by omega), if_pos h2, h3, show k % 4 = k - 4 by omega]
  · rw [if_neg (by omega), if_neg (by omega), if_pos h2, h3, show k % 4 = k - 8 by omega]
  · rw [if_neg (by omega), if_neg (by omega), if_neg (by omega), if_pos h2, h3, show k % 4 = k - 12 by omega]
  · rw [if_neg (by omega), if_neg (by omega), if_neg (by omega), if_neg (by omega), h2, show k % 4 = k - 16 by omega]
theorem fed_of {old new : Int → Int} {n a b c d e : Int} (hk : ∀ k, 0 ≤ k → k < n → new k = old k) (h : ∀ j, 0 ≤ j → j < 20 → new (n + j) = fdB a b c d e j) : fedP uB old new n a b c d e := by
  refine ⟨hk, fun j j0 j1 => ?_, fun j j0 j1 => ?_, fun j j0 j1 => ?_, fun j j0 j1 => ?_, fun j j0 j1 => ?_⟩
  · rw [h j j0 (by omega)]; unfold fdB; rw [if_pos j1]
  · rw [show n + 4 + j = n + (4 + j) by omega, h (4 + j) (by omega) (by omega)]; unfold fdB; rw [if_neg (by omega), if_pos (by omega), show 4 + j - 4 = j by omega]
  · rw [show n + 4 + 4 + j = n + (8 + j) by omega, h (8 + j) (by omega) (by omega)]; unfold fdB; rw [if_neg (by omega), if_neg (by omega), if_pos (by omega), show 8 + j - 8 = j by omega]
  · rw [show n + 4 + 4 + 4 + j = n + (12 + j) by omega, h (12 + j) (by omega) (by omega)]; unfold fdB; rw [if_neg (by omega), if_neg (by omega), if_neg (by omega), if_pos (by omega), show 12 + j - 12 = j by omega]
  · rw [show n + 4 + 4 + 4 + 4 + j = n + (16 + j) by omega, h (16 + j) (by omega) (by omega)]; unfold fdB; rw [if_neg (by omega), if_neg (by omega), if_neg (by omega), if_neg (by omega), show 16 + j - 16 = j by omega]
theorem sg_u {v j : Int} (hj : 0 ≤ j ∧ j < 4) : (0 ≤ sgU v j ∧ uB v j = sgU v j) ∨ (sgU v j < 0 ∧ -128 ≤ sgU v j ∧ uB v j = sgU v j + 256) := by
  have e : ushF v (24 - 8 * j) % 256 = uB v j := by
    unfold uB ushF shrF
    rcases (show j = 0 ∨ j = 1 ∨ j = 2 ∨ j = 3 by omega) with q | q | q | q <;> subst q
    · show (((v % 4294967296).toNat / 16777216 : Nat) : Int) % 256 = v / 16777216 % 256
      omega
    · show (((v % 4294967296).toNat / 65536 : Nat) : Int) % 256 = v / 65536 % 256
      omega
    · show (((v % 4294967296).toNat / 256 : Nat) : Int) % 256 = v / 256 % 256
      omega
    · show (((v % 4294967296).toNat / 1 : Nat) : Int) % 256 = v / 1 % 256
      omega
  unfold sgU sgB
  omega
theorem fed_tp {f f' m m' : Int → Int} {n a b c d e : Int} (hn : 0 ≤ n) (h : tpR n f m) (h1 : fedP sgU f f' n a b c d e) (h2 : fedP uB m m' n a b c d e) : tpR (n + 20) f' m' := by
  intro k k0 k1
  by_cases c0 : k < n
  · rw [h1.1 k k0 c0, h2.1 k k0 c0]; exact h k k0 c0
  · by_cases c1 : k < n + 4
    · have p := h1.2.1 (k - n) (by omega) (by omega)
      have q := h2.2.1 (k - n) (by omega) (by omega)
      rw [show n + (k - n) = k by omega] at p q
      rw [p, q]; exact sg_u (by omega)
    · by_cases c2 : k < n + 8
      · have p := h1.2.2.1 (k - n - 4) (by omega) (by omega)
        have q := h2.2.2.1 (k - n - 4) (by omega) (by omega)
        rw [show n + 4 + (k - n - 4) = k by omega] at p q
        rw [p, q]; exact sg_u (by omega)
      · by_cases c3 : k < n + 12
        · have p := h1.2.2.2.1 (k - n - 8) (by omega) (by omega)
          have q := h2.2.2.2.1 (k - n - 8) (by omega) (by omega)
          rw [show n + 4 + 4 + (k - n - 8) = k by omega] at p q
          rw [p, q]; exact sg_u (by omega)
        · by_cases c4 : k < n + 16
          · have p := h1.2.2.2.2.1 (k - n - 12) (by omega) (by omega)
            have q := h2.2.2.2.2.1 (k - n - 12) (by omega) (by omega)
            rw [show n + 4 + 4 + 4 + (k - n - 12) = k by omega] at p q
            rw [p, q]; exact sg_u (by omega)
          · have p := h1.2.2.2.2.2 (k - n - 16) (by omega) (by omega)
            have q := h2.2.2.2.2.2 (k - n - 16) (by omega) (by omega)
            rw [show n + 4 + 4 + 4 + 4 + (k - n - 16) = k by omega] at p q
            rw [p, q]; exact sg_u (by omega)
def agG (g : Int) (s s' : PS) : Prop := s.1 g = s'.1 g ∧ s.2.1 g = s'.2.1 g ∧ s.2.2.1 g = s'.2.2.1 g ∧ s.2.2.2 g = s'.2.2.2 g
theorem goG_at {ki le : Int → Int} {cells : Int} {stands : Int → Int} {now g : Int} {room room' : Prop} {s s' : PS} (h : agG g s s') (hr : room) (hr' : room') : agG g (goG ki le cells stands now g room s) (goG ki le cells stands now g room' s') := by
  obtain ⟨h1, h2, h3, h4⟩ := h
  unfold goG actG
  by_cases c1 : s.2.2.2 g = -1
  · have c1' : s'.2.2.2 g = -1 := by rw [← h4]; exact c1
    rw [ifP_t c1, ifP_t c1']
    by_cases c2 : 0 < s.2.1 g
    · have c2' : 0 < s'.2.1 g := by rw [← h2]; exact c2
      rw [if_pos c2, if_pos c2']
      refine ⟨h1, ?_, h3, h4⟩
      dsimp only
      rw [uZ_s, uZ_s, h2]
    · have c2' : ¬ 0 < s'.2.1 g := by rw [← h2]; exact c2
      rw [if_neg c2, if_neg c2']
      by_cases c3 : goP now (ki g)
      · have c4 : goP now (ki g) ∧ room := ⟨c3, hr⟩
        have c5 : goP now (ki g) ∧ room' := ⟨c3, hr'⟩
        rw [ifP_t c4, ifP_t c5]
        unfold arrF agG
        dsimp only
        simp only [uZ_s]
        rw [h1]
        refine ⟨rfl, rfl, ?_, ?_⟩
        · split
          · rw [uZ_s, uZ_s]
          · exact h3
        · split
          · rw [uZ_s, uZ_s]
          · exact h4
      · have c4 : ¬ (goP now (ki g) ∧ room) := fun q => c3 q.1
        have c5 : ¬ (goP now (ki g) ∧ room') := fun q => c3 q.1
        rw [ifP_f c4, ifP_f c5]
        exact ⟨h1, h2, h3, h4⟩
  · have c1' : ¬ s'.2.2.2 g = -1 := by rw [← h4]; exact c1
    rw [ifP_f c1, ifP_f c1']
    exact ⟨h1, h2, h3, h4⟩
theorem solo_at {ki le : Int → Int} {cells gap : Int} {stands line : Int → Int} {g : Int} {s : PS} (h0 : line 0 = g) (hs : agG g s s00) : ∀ k : Nat, agG g (runK ki le cells gap stands line 1 0 s k) (soloK ki le cells gap stands g k)
  | 0 => hs
  | k + 1 => by
    have ih := solo_at (ki := ki) (le := le) (cells := cells) (gap := gap) (stands := stands) h0 hs k
    rw [solo_step (room := True) trivial]
    show agG g (goG ki le cells stands (0 + (k : Int) + 1) (line 0) (roomP le gap line 0 (runK ki le cells gap stands line 1 0 s k).1 (runK ki le cells gap stands line 1 0 s k).2.2.2) (runK ki le cells gap stands line 1 0 s k)) _
    rw [h0, show (0 : Int) + (k : Int) + 1 = (k : Int) + 1 by omega]
    exact goG_at ih room_none trivial
theorem all_one {line o : Int → Int} {g : Int} (h0 : line 0 = g) : allP line 1 o ↔ ¬ o g = -1 := by
  constructor
  · intro h; rw [← h0]; exact h 0 (by omega) (by omega)
  · intro h i i0 i1
    rw [show i = 0 by omega, h0]
    exact h
