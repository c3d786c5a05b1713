set_option maxRecDepth 100000 in
set_option maxHeartbeats 4000000 in
theorem c_X6_has (l : Launch) (D : va_G) (cI cB cZ : ClassId) (oT : Nat → Nat) (sz : Nat) (Tcells : Int) (Tgap : Int) (Twires : Int → Int) (Tstands : Int → Int) (c : Int) (qTcells : 1 ≤ Tcells ∧ Tcells ≤ 50) (qTgap : 0 ≤ Tgap ∧ Tgap ≤ 3) (qTwires : RA Twires (0) 9) (qTstands : RA Tstands (0) 9) (qc : -2147483648 ≤ c ∧ c ≤ 2147483647) : Met l yX6_has wsX6_has ({ frames := 0, cells := 0, slots := 0, locals := 0 }) (va_Pc [.ref (oT 0), .int (zI c)] (zPre D cI cB cZ sz (kT cI cB cZ oT Tcells Tgap Twires Tstands))) (va_Qi (fun (r9 : Int32) (u9 : Int) => r9 = zI u9 ∧ ((((0 ≤ c ∧ c < Tcells) ∧ u9 = 1) ∨ (¬ (0 ≤ c ∧ c < Tcells) ∧ u9 = 0)))) (fun u9 t9 => zAt D cI cB cZ (va_A (kT cI cB cZ oT Tcells Tgap Twires Tstands) sz) (kT cI cB cZ oT Tcells Tgap Twires Tstands) t9) (va_A (kT cI cB cZ oT Tcells Tgap Twires Tstands) sz)) 0 0 (va_A (kT cI cB cZ oT Tcells Tgap Twires Tstands) sz) := by
  refine Met.ofW (cc := cX6_has) (maxL := 2) (ret := (some .boolean)) (by decide) rfl ?_
  intro pp ee s mm aa bw mt cd s₁ BL hml hv
  obtain ⟨rfl, hsz, hP, hK, hD0⟩ := hv
  have hx := BL.exec
  have hb := BL.bytes
  have hr := BL.returns
  have hts := atoms_spec (ws := wsX6_has) BL.pre
  have hown : s.vm.findClass RX6 = some mm.cls := findClass_of_methodNamed BL.named
  have hlocks := BL.notSynchronized
  subst hsz
  generalize hAe : va_A (kT cI cB cZ oT Tcells Tgap Twires Tstands) s.heap.size = A
  have hA : ∀ q : Nat, s.heap.size ≤ q → A q := fun q h => by rw [← hAe]; exact Or.inr h
  have hw : HW D A s.heap (kT cI cB cZ oT Tcells Tgap Twires Tstands) s.heap [] := z_start hAe hP hD0
  clear hP hD0
  have hl := lv_entry ([.ref (oT 0), .int (zI c)]) (n := 2) (Nat.le_of_ble_eq_true rfl)
  rw [lg_entry_eq]
  generalize (lg_sl ([.ref (oT 0), .int (zI c)]) ++ List.replicate (2 - (lg_sl ([.ref (oT 0), .int (zI c)])).length) Slot.unset).toArray = ls at hl ⊢
  have hl : lv_has ls 2 [(0, .ref (oT 0)), (1, .int (zI c))] := hl
  have hinX6 : ∀ w ∈ wsX60, w ∈ wsX6_has := by decide +kernel
  refine lv_iload_n hx hb dX6_has_0 rfl (lv_at hl 1 rfl) ?_
  refine z_if_lt (tgt := 16) hx hb dX6_has_1 (by decide) (by omega) (fun hc_1 => ?_) (fun hc_1 => ?_)
  · skip
    refine z_iconst hx hb dX6_has_16 ?_
    have hv_2 : ((0 ≤ c ∧ c < Tcells) ∧ (0 : Int) = 1) ∨ (¬ (0 ≤ c ∧ c < Tcells) ∧ (0 : Int) = 0) := by
      first | assumption | omega | grind
    exact W.zret (v := zI 0) hx hb hr rfl (fun t9 ht hW => ⟨⟨zI 0, 0, rfl, ⟨rfl, hv_2⟩, by subst hAe; exact z_end hK hw ht hW⟩, by subst hAe; exact hw.2.2.F ht⟩) (by subst hAe; exact hw.2.2.2.2) dX6_has_17
  · skip
    refine lv_iload_n hx hb dX6_has_4 rfl (lv_at hl 1 rfl) ?_
    refine lv_aload_n hx hb dX6_has_5 rfl (lv_at hl 0 rfl) ?_
    refine va_get (D := D) (ci := 6) (v := .int (zI Tcells)) (C := RX6) (T := TX6) (N := 4) hx hb hts hinX6 hown hK hw.1 0 rfl rfl 0 (by decide) (hts (.fieldLink RX6 9 "CarnivalRoad$Street" "cells" "I") (by decide +kernel)) (fun _ h9 => h9) rfl dX6_has_6 ?_
    refine z_icmp_ge (tgt := 16) hx hb dX6_has_9 (by decide) (by omega) (fun hc_3 => ?_) (fun hc_3 => ?_)
    · skip
      refine z_iconst hx hb dX6_has_16 ?_
      have hv_4 : ((0 ≤ c ∧ c < Tcells) ∧ (0 : Int) = 1) ∨ (¬ (0 ≤ c ∧ c < Tcells) ∧ (0 : Int) = 0) := by
        first | assumption | omega | grind
      exact W.zret (v := zI 0) hx hb hr rfl (fun t9 ht hW => ⟨⟨zI 0, 0, rfl, ⟨rfl, hv_4⟩, by subst hAe; exact z_end hK hw ht hW⟩, by subst hAe; exact hw.2.2.F ht⟩) (by subst hAe; exact hw.2.2.2.2) dX6_has_17
    · skip
      refine z_iconst hx hb dX6_has_12 ?_
      refine lv_goto (tgt := 17) hx hb dX6_has_13 (by decide) ?_
      have hv_5 : ((0 ≤ c ∧ c < Tcells) ∧ (1 : Int) = 1) ∨ (¬ (0 ≤ c ∧ c < Tcells) ∧ (1 : Int) = 0) := by
        first | assumption | omega | grind
      exact W.zret (v := zI 1) hx hb hr rfl (fun t9 ht hW => ⟨⟨zI 1, 1, rfl, ⟨rfl, hv_5⟩, by subst hAe; exact z_end hK hw ht hW⟩, by subst hAe; exact hw.2.2.F ht⟩) (by subst hAe; exact hw.2.2.2.2) dX6_has_17
set_option maxRecDepth 100000 in
set_option maxHeartbeats 4000000 in
theorem c_X6_minutesAt (l : Launch) (D : va_G) (cI cB cZ : ClassId) (oT : Nat → Nat) (sz : Nat) (Tcells : Int) (Tgap : Int) (Twires : Int → Int) (Tstands : Int → Int) (c : Int) (qTcells : 1 ≤ Tcells ∧ Tcells ≤ 50) (qTgap : 0 ≤ Tgap ∧ Tgap ≤ 3) (qTwires : RA Twires (0) 9) (qTstands : RA Tstands (0) 9) (qc : -2147483648 ≤ c ∧ c ≤ 2147483647) : Met l yX6_minutesAt wsX6_minutesAt ({ frames := 0, cells := 0, slots := 0, locals := 0 }) (va_Pc [.ref (oT 0), .int (zI c)] (zPre D cI cB cZ sz (kT cI cB cZ oT Tcells Tgap Twires Tstands))) (va_Qi (fun (r9 : Int32) (u9 : Int) => r9 = zI u9 ∧ ((u9 = playF Tcells Tstands c) ∧ (0 ≤ u9 ∧ u9 ≤ 9))) (fun u9 t9 => zAt D cI cB cZ (va_A (kT cI cB cZ oT Tcells Tgap Twires Tstands) sz) (kT cI cB cZ oT Tcells Tgap Twires Tstands) t9) (va_A (kT cI cB cZ oT Tcells Tgap Twires Tstands) sz)) 0 0 (va_A (kT cI cB cZ oT Tcells Tgap Twires Tstands) sz) := by
  refine Met.ofW (cc := cX6_minutesAt) (maxL := 2) (ret := (some .int)) (by decide) rfl ?_
  intro pp ee s mm aa bw mt cd s₁ BL hml hv
  obtain ⟨rfl, hsz, hP, hK, hD0⟩ := hv
  have hx := BL.exec
  have hb := BL.bytes
  have hr := BL.returns
  have hts := atoms_spec (ws := wsX6_minutesAt) BL.pre
  have hown : s.vm.findClass RX6 = some mm.cls := findClass_of_methodNamed BL.named
  have hlocks := BL.notSynchronized
  subst hsz
  generalize hAe : va_A (kT cI cB cZ oT Tcells Tgap Twires Tstands) s.heap.size = A
  have hA : ∀ q : Nat, s.heap.size ≤ q → A q := fun q h => by rw [← hAe]; exact Or.inr h
  have hw : HW D A s.heap (kT cI cB cZ oT Tcells Tgap Twires Tstands) s.heap [] := z_start hAe hP hD0
  clear hP hD0
  have hl := lv_entry ([.ref (oT 0), .int (zI c)]) (n := 2) (Nat.le_of_ble_eq_true rfl)
  rw [lg_entry_eq]
  generalize (lg_sl ([.ref (oT 0), .int (zI c)]) ++ List.replicate (2 - (lg_sl ([.ref (oT 0), .int (zI c)])).length) Slot.unset).toArray = ls at hl ⊢
  have hl : lv_has ls 2 [(0, .ref (oT 0)), (1, .int (zI c))] := hl
  have hinX6 : ∀ w ∈ wsX60, w ∈ wsX6_minutesAt := by decide +kernel
  refine lv_iload_n hx hb dX6_minutesAt_0 rfl (lv_at hl 1 rfl) ?_
  refine z_if_lt (tgt := 21) hx hb dX6_minutesAt_1 (by decide) (by omega) (fun hc_1 => ?_) (fun hc_1 => ?_)
  · skip
    refine z_iconst hx hb dX6_minutesAt_21 ?_
    have hv_2 : (0 : Int) = playF Tcells Tstands c := by
      unfold playF; first | (rw [if_pos (by omega)]; done) | (rw [if_neg (by omega)]; done)
    have hv_3 : 0 ≤ (0 : Int) ∧ (0 : Int) ≤ 9 := by
      first | assumption | omega | grind
    exact W.iret (v := zI 0) hx hb hr (fun t9 ht hW => ⟨⟨zI 0, 0, rfl, ⟨rfl, ⟨hv_2, hv_3⟩⟩, by subst hAe; exact z_end hK hw ht hW⟩, by subst hAe; exact hw.2.2.F ht⟩) (by subst hAe; exact hw.2.2.2.2) dX6_minutesAt_22
  · skip
    refine lv_iload_n hx hb dX6_minutesAt_4 rfl (lv_at hl 1 rfl) ?_
    refine lv_aload_n hx hb dX6_minutesAt_5 rfl (lv_at hl 0 rfl) ?_
    refine va_get (D := D) (ci := 6) (v := .int (zI Tcells)) (C := RX6) (T := TX6) (N := 4) hx hb hts hinX6 hown hK hw.1 0 rfl rfl 0 (by decide) (hts (.fieldLink RX6 9 "CarnivalRoad$Street" "cells" "I") (by decide +kernel)) (fun _ h9 => h9) rfl dX6_minutesAt_6 ?_
    refine z_icmp_ge (tgt := 21) hx hb dX6_minutesAt_9 (by decide) (by omega) (fun hc_4 => ?_) (fun hc_4 => ?_)
    · skip
      refine z_iconst hx hb dX6_minutesAt_21 ?_
      have hv_5 : (0 : Int) = playF Tcells Tstands c := by
        unfold playF; first | (rw [if_pos (by omega)]; done) | (rw [if_neg (by omega)]; done)
      have hv_6 : 0 ≤ (0 : Int) ∧ (0 : Int) ≤ 9 := by
        first | assumption | omega | grind
      exact W.iret (v := zI 0) hx hb hr (fun t9 ht hW => ⟨⟨zI 0, 0, rfl, ⟨rfl, ⟨hv_5, hv_6⟩⟩, by subst hAe; exact z_end hK hw ht hW⟩, by subst hAe; exact hw.2.2.F ht⟩) (by subst hAe; exact hw.2.2.2.2) dX6_minutesAt_22
    · skip
      refine lv_aload_n hx hb dX6_minutesAt_12 rfl (lv_at hl 0 rfl) ?_
      refine va_get (D := D) (ci := 6) (v := .ref (oT 2)) (C := RX6) (T := TX6) (N := 4) hx hb hts hinX6 hown hK hw.1 0 rfl rfl 3 (by decide) (hts (.fieldLink RX6 22 "CarnivalRoad$Street" "stands" "[I") (by decide +kernel)) (fun _ h9 => h9) rfl dX6_minutesAt_13 ?_
      refine lv_iload_n hx hb dX6_minutesAt_16 rfl (lv_at hl 1 rfl) ?_
      have hi_7 : (0 : Int) ≤ c ∧ c < ((50 : Nat) : Int) := by
        first | assumption | omega | grind
      refine z_iald (n := 50) (f := Tstands) hx hb hK hw 2 rfl (by decide) hi_7 dX6_minutesAt_17 ?_
      have hq_8 : 0 ≤ Tstands c ∧ Tstands c ≤ 9 := qTstands c
      refine lv_goto (tgt := 22) hx hb dX6_minutesAt_18 (by decide) ?_
      have hv_9 : (Tstands c) = playF Tcells Tstands c := by
        unfold playF; first | (rw [if_pos (by omega)]; done) | (rw [if_neg (by omega)]; done)
      have hv_10 : 0 ≤ (Tstands c) ∧ (Tstands c) ≤ 9 := by
        first | assumption | omega | grind
      exact W.iret (v := zI (Tstands c)) hx hb hr (fun t9 ht hW => ⟨⟨zI (Tstands c), (Tstands c), rfl, ⟨rfl, ⟨hv_9, hv_10⟩⟩, by subst hAe; exact z_end hK hw ht hW⟩, by subst hAe; exact hw.2.2.F ht⟩) (by subst hAe; exact hw.2.2.2.2) dX6_minutesAt_22
set_option maxRecDepth 100000 in
set_option maxHeartbeats 4000000 in
theorem c_X6_firstTooLow (l : Launch) (D : va_G) (cI cB cZ : ClassId) (oT : Nat → Nat) (sz : Nat) (Tcells : Int) (Tgap : Int) (Twires : Int → Int) (Tstands : Int → Int) (tall : Int) (qTcells : 1 ≤ Tcells ∧ Tcells ≤ 50) (qTgap : 0 ≤ Tgap ∧ Tgap ≤ 3) (qTwires : RA Twires (0) 9) (qTstands : RA Tstands (0) 9) (qtall : 0 ≤ tall ∧ tall ≤ 9) : Met l yX6_firstTooLow wsX6_firstTooLow ({ frames := 0, cells := 0, slots := 0, locals := 0 }) (va_Pc [.ref (oT 0), .int (zI tall)] (zPre D cI cB cZ sz (kT cI cB cZ oT Tcells Tgap Twires Tstands))) (va_Qi (fun (r9 : Int32) (u9 : Int) => r9 = zI u9 ∧ ((fstP (lowP Twires tall) Tcells u9) ∧ (-1 ≤ u9 ∧ u9 ≤ 49))) (fun u9 t9 => zAt D cI cB cZ (va_A (kT cI cB cZ oT Tcells Tgap Twires Tstands) sz) (kT cI cB cZ oT Tcells Tgap Twires Tstands) t9) (va_A (kT cI cB cZ oT Tcells Tgap Twires Tstands) sz)) 0 0 (va_A (kT cI cB cZ oT Tcells Tgap Twires Tstands) sz) := by
  refine Met.ofW (cc := cX6_firstTooLow) (maxL := 3) (ret := (some .int)) (by decide) rfl ?_
  intro pp ee s mm aa bw mt cd s₁ BL hml hv
  obtain ⟨rfl, hsz, hP, hK, hD0⟩ := hv
  have hx := BL.exec
  have hb := BL.bytes
  have hr := BL.returns
  have hts := atoms_spec (ws := wsX6_firstTooLow) BL.pre
  have hown : s.vm.findClass RX6 = some mm.cls := findClass_of_methodNamed BL.named
  have hlocks := BL.notSynchronized
  subst hsz
  generalize hAe : va_A (kT cI cB cZ oT Tcells Tgap Twires Tstands) s.heap.size = A
  have hA : ∀ q : Nat, s.heap.size ≤ q → A q := fun q h => by rw [← hAe]; exact Or.inr h
  have hw : HW D A s.heap (kT cI cB cZ oT Tcells Tgap Twires Tstands) s.heap [] := z_start hAe hP hD0
  clear hP hD0
  have hl := lv_entry ([.ref (oT 0), .int (zI tall)]) (n := 3) (Nat.le_of_ble_eq_true rfl)
  rw [lg_entry_eq]
  generalize (lg_sl ([.ref (oT 0), .int (zI tall)]) ++ List.replicate (3 - (lg_sl ([.ref (oT 0), .int (zI tall)])).length) Slot.unset).toArray = ls at hl ⊢
  have hl : lv_has ls 3 [(0, .ref (oT 0)), (1, .int (zI tall))] := hl
  have hinX6 : ∀ w ∈ wsX60, w ∈ wsX6_firstTooLow := by decide +kernel
  refine z_iconst hx hb dX6_firstTooLow_0 ?_
  refine lv_istore_n (lv' := [(2, .int (zI 0)), (0, .ref (oT 0)), (1, .int (zI tall))]) hx hb dX6_firstTooLow_1 rfl hl (by decide) rfl (fun ls hl => ?_)
  have hv_1 : 0 ≤ (0 : Int) ∧ (0 : Int) ≤ Tcells := by
    first | assumption | omega | grind
  have hv_2 : ∀ k, 0 ≤ k → k < (0 : Int) → ¬ lowP Twires tall k := by
    exact all_0
  refine z_loop (σ := Int) (μ := fun x9 => (50 - x9).toNat) (I := fun x9 H locs ls => (0 ≤ x9 ∧ x9 ≤ Tcells) ∧ (∀ k, 0 ≤ k → k < x9 → ¬ lowP Twires tall k) ∧ HW D A s.heap (kT cI cB cZ oT Tcells Tgap Twires Tstands) H locs ∧ lv_has ls 3 [(0, .ref (oT 0)), (1, .int (zI tall)), (2, .int (zI x9))]) 0 ⟨hv_1, hv_2, hw, lv_sub hl [1, 2, 0] rfl⟩ ?_
  clear hw hl
  intro i_4 H locs ls hI ih_3
  try dsimp only at hI
  obtain ⟨hI_5, hI_6, hw, hl⟩ := hI
  refine lv_iload_n hx hb dX6_firstTooLow_2 rfl (lv_at hl 2 rfl) ?_
  refine lv_aload_n hx hb dX6_firstTooLow_3 rfl (lv_at hl 0 rfl) ?_
  refine va_get (D := D) (ci := 6) (v := .int (zI Tcells)) (C := RX6) (T := TX6) (N := 4) hx hb hts hinX6 hown hK hw.1 0 rfl rfl 0 (by decide) (hts (.fieldLink RX6 9 "CarnivalRoad$Street" "cells" "I") (by decide +kernel)) (fun _ h9 => h9) rfl dX6_firstTooLow_4 ?_
  refine z_icmp_ge (tgt := 37) hx hb dX6_firstTooLow_7 (by decide) (by omega) (fun hc_7 => ?_) (fun hc_7 => ?_)
  · skip
    refine z_iconst hx hb dX6_firstTooLow_37 ?_
    have hv_8 : fstP (lowP Twires tall) Tcells ((-1) : Int) := by
      exact fst_none (by assumption) (by omega) rfl
    have hv_9 : -1 ≤ ((-1) : Int) ∧ ((-1) : Int) ≤ 49 := by
      first | assumption | omega | grind
    exact W.iret (v := zI (-1)) hx hb hr (fun t9 ht hW => ⟨⟨zI (-1), (-1), rfl, ⟨rfl, ⟨hv_8, hv_9⟩⟩, by subst hAe; exact z_end hK hw ht hW⟩, by subst hAe; exact hw.2.2.F ht⟩) (by subst hAe; exact hw.2.2.2.2) dX6_firstTooLow_38
  · skip
    refine lv_aload_n hx hb dX6_firstTooLow_10 rfl (lv_at hl 0 rfl) ?_
    refine va_get (D := D) (ci := 6) (v := .ref (oT 1)) (C := RX6) (T := TX6) (N := 4) hx hb hts hinX6 hown hK hw.1 0 rfl rfl 2 (by decide) (hts (.fieldLink RX6 18 "CarnivalRoad$Street" "wires" "[I") (by decide +kernel)) (fun _ h9 => h9) rfl dX6_firstTooLow_11 ?_
    refine lv_iload_n hx hb dX6_firstTooLow_14 rfl (lv_at hl 2 rfl) ?_
    have hi_10 : (0 : Int) ≤ i_4 ∧ i_4 < ((50 : Nat) : Int) := by
      first | assumption | omega | grind
    refine z_iald (n := 50) (f := Twires) hx hb hK hw 1 rfl (by decide) hi_10 dX6_firstTooLow_15 ?_
    have hq_11 : 0 ≤ Twires i_4 ∧ Twires i_4 ≤ 9 := qTwires i_4
    refine z_if_eq (tgt := 31) hx hb dX6_firstTooLow_16 (by decide) (by omega) (fun hc_12 => ?_) (fun hc_12 => ?_)
    · skip
      refine z_iinc (k := 2) (lv' := [(2, .int (zI (i_4 + 1))), (0, .ref (oT 0)), (1, .int (zI tall))]) hx hb dX6_firstTooLow_31 hl rfl (by decide) rfl (fun ls hl => ?_)
      refine lv_goto (tgt := 2) hx hb dX6_firstTooLow_34 (by decide) ?_
      have hv_13 : 0 ≤ (i_4 + 1) ∧ (i_4 + 1) ≤ Tcells := by
        first | assumption | omega | grind
      have hv_14 : ∀ k, 0 ≤ k → k < (i_4 + 1) → ¬ lowP Twires tall k := by
        refine all_s (by assumption) ?_; unfold lowP; omega
      have hm_15 : (50 - (i_4 + 1)).toNat < (50 - i_4).toNat := by
        first | assumption | omega | grind
      exact ih_3 (i_4 + 1) _ _ _ ⟨hv_13, hv_14, hw, lv_sub hl [1, 2, 0] rfl⟩ hm_15
    · skip
      refine lv_iload_n hx hb dX6_firstTooLow_19 rfl (lv_at hl 1 rfl) ?_
      refine lv_aload_n hx hb dX6_firstTooLow_20 rfl (lv_at hl 0 rfl) ?_
      refine va_get (D := D) (ci := 6) (v := .ref (oT 1)) (C := RX6) (T := TX6) (N := 4) hx hb hts hinX6 hown hK hw.1 0 rfl rfl 2 (by decide) (hts (.fieldLink RX6 18 "CarnivalRoad$Street" "wires" "[I") (by decide +kernel)) (fun _ h9 => h9) rfl dX6_firstTooLow_21 ?_
      refine lv_iload_n hx hb dX6_firstTooLow_24 rfl (lv_at hl 2 rfl) ?_
      have hi_16 : (0 : Int) ≤ i_4 ∧ i_4 < ((50 : Nat) : Int) := by
        first | assumption | omega | grind
      refine z_iald (n := 50) (f := Twires) hx hb hK hw 1 rfl (by decide) hi_16 dX6_firstTooLow_25 ?_
      have hq_17 : 0 ≤ Twires i_4 ∧ Twires i_4 ≤ 9 := qTwires i_4
      refine z_icmp_le (tgt := 31) hx hb dX6_firstTooLow_26 (by decide) (by omega) (fun hc_18 => ?_) (fun hc_18 => ?_)
      · skip
        refine z_iinc (k := 2) (lv' := [(2, .int (zI (i_4 + 1))), (0, .ref (oT 0)), (1, .int (zI tall))]) hx hb dX6_firstTooLow_31 hl rfl (by decide) rfl (fun ls hl => ?_)
        refine lv_goto (tgt := 2) hx hb dX6_firstTooLow_34 (by decide) ?_
        have hv_19 : 0 ≤ (i_4 + 1) ∧ (i_4 + 1) ≤ Tcells := by
          first | assumption | omega | grind
        have hv_20 : ∀ k, 0 ≤ k → k < (i_4 + 1) → ¬ lowP Twires tall k := by
          refine all_s (by assumption) ?_; unfold lowP; omega
        have hm_21 : (50 - (i_4 + 1)).toNat < (50 - i_4).toNat := by
          first | assumption | omega | grind
        exact ih_3 (i_4 + 1) _ _ _ ⟨hv_19, hv_20, hw, lv_sub hl [1, 2, 0] rfl⟩ hm_21
      · skip
        refine lv_iload_n hx hb dX6_firstTooLow_29 rfl (lv_at hl 2 rfl) ?_
        have hv_22 : fstP (lowP Twires tall) Tcells i_4 := by
          exact fst_some (by assumption) (by omega) (by unfold lowP; omega)
        have hv_23 : -1 ≤ i_4 ∧ i_4 ≤ 49 := by
          first | assumption | omega | grind
        exact W.iret (v := zI i_4) hx hb hr (fun t9 ht hW => ⟨⟨zI i_4, i_4, rfl, ⟨rfl, ⟨hv_22, hv_23⟩⟩, by subst hAe; exact z_end hK hw ht hW⟩, by subst hAe; exact hw.2.2.F ht⟩) (by subst hAe; exact hw.2.2.2.2) dX6_firstTooLow_30
set_option maxRecDepth 100000 in
set_option maxHeartbeats 4000000 in
theorem c_X6_clear (l : Launch) (D : va_G) (cI cB cZ : ClassId) (oT : Nat → Nat) (sz : Nat) (Tcells : Int) (Tgap : Int) (Twires : Int → Int) (Tstands : Int → Int) (c : Int) (gp : Int) (qTcells : 1 ≤ Tcells ∧ Tcells ≤ 50) (qTgap : 0 ≤ Tgap ∧ Tgap ≤ 3) (qTwires : RA Twires (0) 9) (qTstands : RA Tstands (0) 9) (qc : 1 ≤ c ∧ c ≤ 50) (qgp : 0 ≤ gp ∧ gp ≤ 3) : Met l yX6_clear wsX6_clear ({ frames := 0, cells := 0, slots := 0, locals := 0 }) (va_Pc [.ref (oT 0), .int (zI c), .int (zI gp)] (zPre D cI cB cZ sz (kT cI cB cZ oT Tcells Tgap Twires Tstands))) (va_Qv (fun (u9 : Int × Int × (Int → Int) × (Int → Int)) => ((1 : Int) ≤ u9.1 ∧ u9.1 ≤ 50) ∧ ((0 : Int) ≤ u9.2.1 ∧ u9.2.1 ≤ 3) ∧ (RA u9.2.2.1 (0) 9) ∧ (RA u9.2.2.2 (0) 9) ∧ (u9.1 = c) ∧ (u9.2.1 = gp) ∧ (∀ k, 0 ≤ k → k < 50 → u9.2.2.1 k = 0 ∧ u9.2.2.2 k = 0)) (fun u9 t9 => zAt D cI cB cZ (va_A (kT cI cB cZ oT Tcells Tgap Twires Tstands) sz) (kT cI cB cZ oT (u9.1) (u9.2.1) (u9.2.2.1) (u9.2.2.2)) t9) (va_A (kT cI cB cZ oT Tcells Tgap Twires Tstands) sz)) 0 0 (va_A (kT cI cB cZ oT Tcells Tgap Twires Tstands) sz) := by
  refine Met.ofW (cc := cX6_clear) (maxL := 4) (ret := none) (by decide) rfl ?_
  intro pp ee s mm aa bw mt cd s₁ BL hml hv
  obtain ⟨rfl, hsz, hP, hK, hD0⟩ := hv
  have hx := BL.exec
  have hb := BL.bytes
  have hr := BL.returns
  have hts := atoms_spec (ws := wsX6_clear) BL.pre
  have hown : s.vm.findClass RX6 = some mm.cls := findClass_of_methodNamed BL.named
  have hlocks := BL.notSynchronized
  subst hsz
  generalize hAe : va_A (kT cI cB cZ oT Tcells Tgap Twires Tstands) s.heap.size = A
  have hA : ∀ q : Nat, s.heap.size ≤ q → A q := fun q h => by rw [← hAe]; exact Or.inr h
  have hw : HW D A s.heap (kT cI cB cZ oT Tcells Tgap Twires Tstands) s.heap [] := z_start hAe hP hD0
  clear hP hD0
  have hl := lv_entry ([.ref (oT 0), .int (zI c), .int (zI gp)]) (n := 4) (Nat.le_of_ble_eq_true rfl)
  rw [lg_entry_eq]
  generalize (lg_sl ([.ref (oT 0), .int (zI c), .int (zI gp)]) ++ List.replicate (4 - (lg_sl ([.ref (oT 0), .int (zI c), .int (zI gp)])).length) Slot.unset).toArray = ls at hl ⊢
  have hl : lv_has ls 4 [(0, .ref (oT 0)), (1, .int (zI c)), (2, .int (zI gp))] := hl
  have hinX6 : ∀ w ∈ wsX60, w ∈ wsX6_clear := by decide +kernel
  refine lv_aload_n hx hb dX6_clear_0 rfl (lv_at hl 0 rfl) ?_
  refine lv_iload_n hx hb dX6_clear_1 rfl (lv_at hl 1 rfl) ?_
  refine z_put (D := D) (ci := 6) (v := .int (zI c)) (ty := .int) (C := RX6) (T := TX6) (N := 4) (ws2 := kT cI cB cZ oT c Tgap Twires Tstands) hx hb hts hinX6 tyX6 tyX6_ok nmX6 hown hK hw 0 rfl rfl 0 (by decide) (hts (.fieldLink RX6 9 "CarnivalRoad$Street" "cells" "I") (by decide +kernel)) (fun _ h9 => h9) rfl (by decide +kernel) rfl rfl (Nat.le_of_ble_eq_true rfl) dX6_clear_2 rfl (fun H locs hw => ?_)
  refine lv_aload_n hx hb dX6_clear_5 rfl (lv_at hl 0 rfl) ?_
  refine lv_iload_n hx hb dX6_clear_6 rfl (lv_at hl 2 rfl) ?_
  refine z_put (D := D) (ci := 6) (v := .int (zI gp)) (ty := .int) (C := RX6) (T := TX6) (N := 4) (ws2 := kT cI cB cZ oT c gp Twires Tstands) hx hb hts hinX6 tyX6 tyX6_ok nmX6 hown hK hw 0 rfl rfl 1 (by decide) (hts (.fieldLink RX6 15 "CarnivalRoad$Street" "gap" "I") (by decide +kernel)) (fun _ h9 => h9) rfl (by decide +kernel) rfl rfl (Nat.le_of_ble_eq_true rfl) dX6_clear_7 rfl (fun H locs hw => ?_)
  refine z_iconst hx hb dX6_clear_10 ?_
  refine lv_istore_n (lv' := [(3, .int (zI 0)), (0, .ref (oT 0)), (1, .int (zI c)), (2, .int (zI gp))]) hx hb dX6_clear_11 rfl hl (by decide) rfl (fun ls hl => ?_)
  have hv_1 : 0 ≤ (0 : Int) ∧ (0 : Int) ≤ 50 := by
    first | assumption | omega | grind
  have hv_2 : ∀ k, 0 ≤ k → k < (0 : Int) → Twires k = 0 ∧ Tstands k = 0 := by
    exact all_0
  refine z_loop (σ := Int × (Int → Int) × (Int → Int)) (μ := fun x9 => (50 - (x9.1)).toNat) (I := fun x9 H locs ls => (RA (x9.2.1) (0) 9) ∧ (RA (x9.2.2) (0) 9) ∧ (0 ≤ (x9.1) ∧ (x9.1) ≤ 50) ∧ (∀ k, 0 ≤ k → k < (x9.1) → (x9.2.1) k = 0 ∧ (x9.2.2) k = 0) ∧ HW D A s.heap (kT cI cB cZ oT c gp (x9.2.1) (x9.2.2)) H locs ∧ lv_has ls 4 [(0, .ref (oT 0)), (3, .int (zI (x9.1)))]) (0, Twires, Tstands) ⟨qTwires, qTstands, hv_1, hv_2, hw, lv_sub hl [1, 0] rfl⟩ ?_
  clear hw hl
  intro x9 H locs ls hI ih_3
  obtain ⟨i_4, Twires_5, Tstands_6⟩ := x9
  try dsimp only at hI
  obtain ⟨hR_7, hR_8, hI_9, hI_10, hw, hl⟩ := hI
  refine lv_iload_n hx hb dX6_clear_12 rfl (lv_at hl 1 rfl) ?_
  refine z_bipush hx hb dX6_clear_13 (by decide) ?_
  refine z_icmp_ge (tgt := 38) hx hb dX6_clear_15 (by decide) (by omega) (fun hc_11 => ?_) (fun hc_11 => ?_)
  · skip
    have hv_12 : (1 : Int) ≤ c ∧ c ≤ 50 := by
      first | assumption | omega | grind
    have hv_13 : (0 : Int) ≤ gp ∧ gp ≤ 3 := by
      first | assumption | omega | grind
    have hv_14 : c = c := by
      rfl
    have hv_15 : gp = gp := by
      rfl
    have hv_16 : ∀ k, 0 ≤ k → k < 50 → Twires_5 k = 0 ∧ Tstands_6 k = 0 := by
      exact all_le (by assumption) (by omega)
    exact W.vret hx hb hr (fun t9 ht hW => ⟨⟨(c, gp, Twires_5, Tstands_6), rfl, ⟨hv_12, hv_13, hR_7, hR_8, hv_14, hv_15, hv_16⟩, by subst hAe; exact z_end hK hw ht hW⟩, by subst hAe; exact hw.2.2.F ht⟩) (by subst hAe; exact hw.2.2.2.2) dX6_clear_38
  · skip
    refine lv_aload_n hx hb dX6_clear_18 rfl (lv_at hl 0 rfl) ?_
    refine va_get (D := D) (ci := 6) (v := .ref (oT 1)) (C := RX6) (T := TX6) (N := 4) hx hb hts hinX6 hown hK hw.1 0 rfl rfl 2 (by decide) (hts (.fieldLink RX6 18 "CarnivalRoad$Street" "wires" "[I") (by decide +kernel)) (fun _ h9 => h9) rfl dX6_clear_19 ?_
    refine lv_iload_n hx hb dX6_clear_22 rfl (lv_at hl 1 rfl) ?_
    refine z_iconst hx hb dX6_clear_23 ?_
    have hi_17 : (0 : Int) ≤ i_4 ∧ i_4 < ((50 : Nat) : Int) := by
      first | assumption | omega | grind
    have hv_18 : (0 : Int) ≤ (0 : Int) ∧ (0 : Int) ≤ 9 := by
      first | assumption | omega | grind
    have hR_19 : RA (uZ Twires_5 i_4 0) (0) 9 := RA_up hR_7 hv_18
    refine z_iast (n := 50) (f := Twires_5) (ws2 := kT cI cB cZ oT c gp (uZ Twires_5 i_4 0) Tstands_6) hx hb hK hw 1 rfl (by decide) hi_17 dX6_clear_24 rfl (fun H locs hw => ?_)
    refine lv_aload_n hx hb dX6_clear_25 rfl (lv_at hl 0 rfl) ?_
    refine va_get (D := D) (ci := 6) (v := .ref (oT 2)) (C := RX6) (T := TX6) (N := 4) hx hb hts hinX6 hown hK hw.1 0 rfl rfl 3 (by decide) (hts (.fieldLink RX6 22 "CarnivalRoad$Street" "stands" "[I") (by decide +kernel)) (fun _ h9 => h9) rfl dX6_clear_26 ?_
    refine lv_iload_n hx hb dX6_clear_29 rfl (lv_at hl 1 rfl) ?_
    refine z_iconst hx hb dX6_clear_30 ?_
    have hi_20 : (0 : Int) ≤ i_4 ∧ i_4 < ((50 : Nat) : Int) := by
      first | assumption | omega | grind
    have hv_21 : (0 : Int) ≤ (0 : Int) ∧ (0 : Int) ≤ 9 := by
      first | assumption | omega | grind
    have hR_22 : RA (uZ Tstands_6 i_4 0) (0) 9 := RA_up hR_8 hv_21
    refine z_iast (n := 50) (f := Tstands_6) (ws2 := kT cI cB cZ oT c gp (uZ Twires_5 i_4 0) (uZ Tstands_6 i_4 0)) hx hb hK hw 2 rfl (by decide) hi_20 dX6_clear_31 rfl (fun H locs hw => ?_)
    refine z_iinc (k := 1) (lv' := [(3, .int (zI (i_4 + 1))), (0, .ref (oT 0))]) hx hb dX6_clear_32 hl rfl (by decide) rfl (fun ls hl => ?_)
    refine lv_goto (tgt := 12) hx hb dX6_clear_35 (by decide) ?_
    have hv_23 : 0 ≤ (i_4 + 1) ∧ (i_4 + 1) ≤ 50 := by
      first | assumption | omega | grind
    have hv_24 : ∀ k, 0 ≤ k → k < (i_4 + 1) → (uZ Twires_5 i_4 0) k = 0 ∧ (uZ Tstands_6 i_4 0) k = 0 := by
      refine all_s (fun k h0 h1 => ?_) ⟨uZ_s, uZ_s⟩
      rw [uZ_n (by omega), uZ_n (by omega)]
      revert h1
      revert h0
      revert k
      assumption
    have hm_25 : (50 - (i_4 + 1)).toNat < (50 - i_4).toNat := by
      first | assumption | omega | grind
    exact ih_3 ((i_4 + 1), (uZ Twires_5 i_4 0), (uZ Tstands_6 i_4 0)) _ _ _ ⟨hR_19, hR_22, hv_23, hv_24, hw, lv_sub hl [1, 0] rfl⟩ hm_25
