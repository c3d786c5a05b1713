set_option maxRecDepth 100000 in
set_option maxHeartbeats 4000000 in
theorem c_X0_barAt (l : Launch) (D : va_G) (cI cB cZ : ClassId) (oB : Nat → Nat) (aBguests : Nat) (sz : Nat) (Bcnt : Int) (Bwo : Int → Int) (Bon : Int → Int) (Btw : Int → Int) (Bnu : Int → Int) (i : Int) (qBcnt : 0 ≤ Bcnt ∧ Bcnt ≤ 10) (qBwo : RA Bwo (0) 11) (qBon : RA Bon (0) 12) (qBtw : RA Btw (0) 12) (qBnu : RA Bnu (0) 18) (qi : 0 ≤ i ∧ i ≤ 10) : Met l yX0_barAt wsX0_barAt ({ frames := 0, cells := 0, slots := 0, locals := 0 }) (va_Pc [.ref (oB 0), .int (zI i)] (zPre D cI cB cZ sz (kB cI cB cZ oB aBguests Bcnt Bwo Bon Btw Bnu))) (va_Qi (fun (r9 : Int32) (u9 : Int) => r9 = zI u9 ∧ (((i < Bcnt ∧ u9 = i) ∨ (Bcnt ≤ i ∧ u9 = 10)))) (fun u9 t9 => zAt D cI cB cZ (va_A (kB cI cB cZ oB aBguests Bcnt Bwo Bon Btw Bnu) sz) (kB cI cB cZ oB aBguests Bcnt Bwo Bon Btw Bnu) t9) (va_A (kB cI cB cZ oB aBguests Bcnt Bwo Bon Btw Bnu) sz)) 0 0 (va_A (kB cI cB cZ oB aBguests Bcnt Bwo Bon Btw Bnu) sz) := by
  refine Met.ofW (cc := cX0_barAt) (maxL := 2) (ret := (some .int)) (by decide) rfl ?_
  intro pp ee s mm aa bw mt cd s₁ BL hml hv
  obtain ⟨rfl, hsz, hP, hK, hD0⟩ := hv
  have hx := BL.exec
  have hb := BL.bytes
  have hr := BL.returns
  have hts := atoms_spec (ws := wsX0_barAt) BL.pre
  have hown : s.vm.findClass RX0 = some mm.cls := findClass_of_methodNamed BL.named
  have hlocks := BL.notSynchronized
  subst hsz
  generalize hAe : va_A (kB cI cB cZ oB aBguests Bcnt Bwo Bon Btw Bnu) s.heap.size = A
  have hA : ∀ q : Nat, s.heap.size ≤ q → A q := fun q h => by rw [← hAe]; exact Or.inr h
  have hw : HW D A s.heap (kB cI cB cZ oB aBguests Bcnt Bwo Bon Btw Bnu) s.heap [] := z_start hAe hP hD0
  clear hP hD0
  have hl := lv_entry ([.ref (oB 0), .int (zI i)]) (n := 2) (Nat.le_of_ble_eq_true rfl)
  rw [lg_entry_eq]
  generalize (lg_sl ([.ref (oB 0), .int (zI i)]) ++ List.replicate (2 - (lg_sl ([.ref (oB 0), .int (zI i)])).length) Slot.unset).toArray = ls at hl ⊢
  have hl : lv_has ls 2 [(0, .ref (oB 0)), (1, .int (zI i))] := hl
  have hinX0 : ∀ w ∈ wsX00, w ∈ wsX0_barAt := by decide +kernel
  refine lv_iload_n hx hb dX0_barAt_0 rfl (lv_at hl 1 rfl) ?_
  refine lv_aload_n hx hb dX0_barAt_1 rfl (lv_at hl 0 rfl) ?_
  refine va_get (D := D) (ci := 0) (v := .int (zI Bcnt)) (C := RX0) (T := TX0) (N := 6) hx hb hts hinX0 hown hK hw.1 0 rfl rfl 1 (by decide) (hts (.fieldLink RX0 9 "CarnivalRoad$Bars" "count" "I") (by decide +kernel)) (fun _ h9 => h9) rfl dX0_barAt_2 ?_
  refine z_icmp_ge (tgt := 12) hx hb dX0_barAt_5 (by decide) (by omega) (fun hc_1 => ?_) (fun hc_1 => ?_)
  · skip
    refine z_bipush hx hb dX0_barAt_12 (by decide) ?_
    have hv_2 : (i < Bcnt ∧ (10 : Int) = i) ∨ (Bcnt ≤ i ∧ (10 : Int) = 10) := by
      first | assumption | omega | grind
    exact W.iret (v := zI 10) hx hb hr (fun t9 ht hW => ⟨⟨zI 10, 10, rfl, ⟨rfl, hv_2⟩, by subst hAe; exact z_end hK hw ht hW⟩, by subst hAe; exact hw.2.2.F ht⟩) (by subst hAe; exact hw.2.2.2.2) dX0_barAt_14
  · skip
    refine lv_iload_n hx hb dX0_barAt_8 rfl (lv_at hl 1 rfl) ?_
    refine lv_goto (tgt := 14) hx hb dX0_barAt_9 (by decide) ?_
    have hv_3 : (i < Bcnt ∧ i = i) ∨ (Bcnt ≤ i ∧ i = 10) := by
      first | assumption | omega | grind
    exact W.iret (v := zI i) hx hb hr (fun t9 ht hW => ⟨⟨zI i, i, rfl, ⟨rfl, hv_3⟩, by subst hAe; exact z_end hK hw ht hW⟩, by subst hAe; exact hw.2.2.F ht⟩) (by subst hAe; exact hw.2.2.2.2) dX0_barAt_14
set_option maxRecDepth 100000 in
set_option maxHeartbeats 4000000 in
theorem c_X0_isOne (l : Launch) (D : va_G) (cI cB cZ : ClassId) (oG : Nat → Nat) (oB : Nat → Nat) (sz : Nat) (Gn : Int) (Gki : Int → Int) (Gle : Int → Int) (Glo : Int → Int) (Gta : Int → Int) (Gsh : Int → Int) (Bcnt : Int) (Bwo : Int → Int) (Bon : Int → Int) (Btw : Int → Int) (Bnu : Int → Int) (t : Int) (g : Int) (qGn : 0 ≤ Gn ∧ Gn ≤ 8) (qGki : RA Gki (0) 4) (qGle : RA Gle (0) 5) (qGlo : RA Glo (0) 9) (qGta : RA Gta (0) 9) (qGsh : RA Gsh (0) 9) (qBcnt : 0 ≤ Bcnt ∧ Bcnt ≤ 10) (qBwo : RA Bwo (0) 11) (qBon : RA Bon (0) 12) (qBtw : RA Btw (0) 12) (qBnu : RA Bnu (0) 18) (qt : 0 ≤ t ∧ t ≤ 12) (qg : 0 ≤ g ∧ g ≤ 7) : Met l yX0_isOne wsX0_isOne ({ frames := 0, cells := 0, slots := 0, locals := 0 }) (va_Pc [.ref (oB 0), .int (zI t), .int (zI g)] (zPre D cI cB cZ sz (kG cI cB cZ oG Gn Gki Gle Glo Gta Gsh ++ kB cI cB cZ oB (oG 0) Bcnt Bwo Bon Btw Bnu))) (va_Qi (fun (r9 : Int32) (u9 : Int) => r9 = zI u9 ∧ (((isP Gki t g ∧ u9 = 1) ∨ (¬ isP Gki t g ∧ u9 = 0)))) (fun u9 t9 => zAt D cI cB cZ (va_A (kG cI cB cZ oG Gn Gki Gle Glo Gta Gsh ++ kB cI cB cZ oB (oG 0) Bcnt Bwo Bon Btw Bnu) sz) (kG cI cB cZ oG Gn Gki Gle Glo Gta Gsh ++ kB cI cB cZ oB (oG 0) Bcnt Bwo Bon Btw Bnu) t9) (va_A (kG cI cB cZ oG Gn Gki Gle Glo Gta Gsh ++ kB cI cB cZ oB (oG 0) Bcnt Bwo Bon Btw Bnu) sz)) 0 0 (va_A (kG cI cB cZ oG Gn Gki Gle Glo Gta Gsh ++ kB cI cB cZ oB (oG 0) Bcnt Bwo Bon Btw Bnu) sz) := by
  refine Met.ofW (cc := cX0_isOne) (maxL := 3) (ret := (some .boolean)) (by decide) rfl ?_
  intro pp ee s mm aa bw mt cd s₁ BL hml hv
  obtain ⟨rfl, hsz, hP, hK, hD0⟩ := hv
  have hx := BL.exec
  have hb := BL.bytes
  have hr := BL.returns
  have hts := atoms_spec (ws := wsX0_isOne) BL.pre
  have hown : s.vm.findClass RX0 = some mm.cls := findClass_of_methodNamed BL.named
  have hlocks := BL.notSynchronized
  subst hsz
  generalize hAe : va_A (kG cI cB cZ oG Gn Gki Gle Glo Gta Gsh ++ kB cI cB cZ oB (oG 0) Bcnt Bwo Bon Btw Bnu) s.heap.size = A
  have hA : ∀ q : Nat, s.heap.size ≤ q → A q := fun q h => by rw [← hAe]; exact Or.inr h
  have hw : HW D A s.heap (kG cI cB cZ oG Gn Gki Gle Glo Gta Gsh ++ kB cI cB cZ oB (oG 0) Bcnt Bwo Bon Btw Bnu) s.heap [] := z_start hAe hP hD0
  clear hP hD0
  have hl := lv_entry ([.ref (oB 0), .int (zI t), .int (zI g)]) (n := 3) (Nat.le_of_ble_eq_true rfl)
  rw [lg_entry_eq]
  generalize (lg_sl ([.ref (oB 0), .int (zI t), .int (zI g)]) ++ List.replicate (3 - (lg_sl ([.ref (oB 0), .int (zI t), .int (zI g)])).length) Slot.unset).toArray = ls at hl ⊢
  have hl : lv_has ls 3 [(0, .ref (oB 0)), (1, .int (zI t)), (2, .int (zI g))] := hl
  have hinX0 : ∀ w ∈ wsX00, w ∈ wsX0_isOne := by decide +kernel
  have hinX2 : ∀ w ∈ wsX20, w ∈ wsX0_isOne := by decide +kernel
  refine lv_iload_n hx hb dX0_isOne_0 rfl (lv_at hl 1 rfl) ?_
  refine z_bipush hx hb dX0_isOne_1 (by decide) ?_
  refine z_icmp_ge (tgt := 19) hx hb dX0_isOne_3 (by decide) (by omega) (fun hc_1 => ?_) (fun hc_1 => ?_)
  · skip
    refine lv_iload_n hx hb dX0_isOne_19 rfl (lv_at hl 1 rfl) ?_
    refine z_bipush hx hb dX0_isOne_20 (by decide) ?_
    refine z_isub hx hb dX0_isOne_22 ?_
    refine lv_aload_n hx hb dX0_isOne_23 rfl (lv_at hl 0 rfl) ?_
    refine va_get (D := D) (ci := 0) (v := .ref (oG 0)) (C := RX0) (T := TX0) (N := 6) hx hb hts hinX0 hown hK hw.1 6 rfl rfl 0 (by decide) (hts (.fieldLink RX0 28 "CarnivalRoad$Bars" "guests" "LCarnivalRoad$Guests;") (by decide +kernel)) (fun _ h9 => h9) rfl dX0_isOne_24 ?_
    refine va_get (D := D) (ci := 2) (v := .ref (oG 1)) (C := RX2) (T := TX2) (N := 6) hx hb hts hinX2 hown hK hw.1 0 rfl rfl 1 (by decide) (hts (.fieldLink RX0 32 "CarnivalRoad$Guests" "kinds" "[I") (by decide +kernel)) (fun _ h9 => h9) rfl dX0_isOne_27 ?_
    refine lv_iload_n hx hb dX0_isOne_30 rfl (lv_at hl 2 rfl) ?_
    have hi_2 : (0 : Int) ≤ g ∧ g < ((8 : Nat) : Int) := by
      first | assumption | omega | grind
    refine z_iald (n := 8) (f := Gki) hx hb hK hw 1 rfl (by decide) hi_2 dX0_isOne_31 ?_
    have hq_3 : 0 ≤ Gki g ∧ Gki g ≤ 4 := qGki g
    refine z_icmp_ne (tgt := 39) hx hb dX0_isOne_32 (by decide) (by omega) (fun hc_4 => ?_) (fun hc_4 => ?_)
    · skip
      refine z_iconst hx hb dX0_isOne_39 ?_
      have hv_5 : (isP Gki t g ∧ (0 : Int) = 1) ∨ (¬ isP Gki t g ∧ (0 : Int) = 0) := by
        unfold isP; omega
      exact W.zret (v := zI 0) hx hb hr rfl (fun t9 ht hW => ⟨⟨zI 0, 0, rfl, ⟨rfl, hv_5⟩, by subst hAe; exact z_end hK hw ht hW⟩, by subst hAe; exact hw.2.2.F ht⟩) (by subst hAe; exact hw.2.2.2.2) dX0_isOne_40
    · skip
      refine z_iconst hx hb dX0_isOne_35 ?_
      refine lv_goto (tgt := 40) hx hb dX0_isOne_36 (by decide) ?_
      have hv_6 : (isP Gki t g ∧ (1 : Int) = 1) ∨ (¬ isP Gki t g ∧ (1 : Int) = 0) := by
        unfold isP; omega
      exact W.zret (v := zI 1) hx hb hr rfl (fun t9 ht hW => ⟨⟨zI 1, 1, rfl, ⟨rfl, hv_6⟩, by subst hAe; exact z_end hK hw ht hW⟩, by subst hAe; exact hw.2.2.F ht⟩) (by subst hAe; exact hw.2.2.2.2) dX0_isOne_40
  · skip
    refine lv_iload_n hx hb dX0_isOne_6 rfl (lv_at hl 1 rfl) ?_
    refine lv_iload_n hx hb dX0_isOne_7 rfl (lv_at hl 2 rfl) ?_
    refine z_icmp_ne (tgt := 15) hx hb dX0_isOne_8 (by decide) (by omega) (fun hc_7 => ?_) (fun hc_7 => ?_)
    · skip
      refine z_iconst hx hb dX0_isOne_15 ?_
      refine lv_goto (tgt := 40) hx hb dX0_isOne_16 (by decide) ?_
      have hv_8 : (isP Gki t g ∧ (0 : Int) = 1) ∨ (¬ isP Gki t g ∧ (0 : Int) = 0) := by
        unfold isP; omega
      exact W.zret (v := zI 0) hx hb hr rfl (fun t9 ht hW => ⟨⟨zI 0, 0, rfl, ⟨rfl, hv_8⟩, by subst hAe; exact z_end hK hw ht hW⟩, by subst hAe; exact hw.2.2.F ht⟩) (by subst hAe; exact hw.2.2.2.2) dX0_isOne_40
    · skip
      refine z_iconst hx hb dX0_isOne_11 ?_
      refine lv_goto (tgt := 40) hx hb dX0_isOne_12 (by decide) ?_
      have hv_9 : (isP Gki t g ∧ (1 : Int) = 1) ∨ (¬ isP Gki t g ∧ (1 : Int) = 0) := by
        unfold isP; omega
      exact W.zret (v := zI 1) hx hb hr rfl (fun t9 ht hW => ⟨⟨zI 1, 1, rfl, ⟨rfl, hv_9⟩, by subst hAe; exact z_end hK hw ht hW⟩, by subst hAe; exact hw.2.2.F ht⟩) (by subst hAe; exact hw.2.2.2.2) dX0_isOne_40
set_option maxRecDepth 100000 in
set_option maxHeartbeats 4000000 in
theorem c_X0_add (l : Launch) (D : va_G) (cI cB cZ : ClassId) (oB : Nat → Nat) (aBguests : Nat) (sz : Nat) (Bcnt : Int) (Bwo : Int → Int) (Bon : Int → Int) (Btw : Int → Int) (Bnu : Int → Int) (w : Int) (o : Int) (t : Int) (u : Int) (qBcnt : 0 ≤ Bcnt ∧ Bcnt ≤ 10) (qBwo : RA Bwo (0) 11) (qBon : RA Bon (0) 12) (qBtw : RA Btw (0) 12) (qBnu : RA Bnu (0) 18) (qw : 0 ≤ w ∧ w ≤ 11) (qo : 0 ≤ o ∧ o ≤ 12) (qt : 0 ≤ t ∧ t ≤ 12) (qu : 0 ≤ u ∧ u ≤ 18) (hp0 : Bcnt < 10) : Met l yX0_add wsX0_add ({ frames := 0, cells := 0, slots := 0, locals := 0 }) (va_Pc [.ref (oB 0), .int (zI w), .int (zI o), .int (zI t), .int (zI u)] (zPre D cI cB cZ sz (kB cI cB cZ oB aBguests Bcnt Bwo Bon Btw Bnu))) (va_Qv (fun (u9 : Int × (Int → Int) × (Int → Int) × (Int → Int) × (Int → Int)) => ((0 : Int) ≤ u9.1 ∧ u9.1 ≤ 10) ∧ (RA u9.2.1 (0) 11) ∧ (RA u9.2.2.1 (0) 12) ∧ (RA u9.2.2.2.1 (0) 12) ∧ (RA u9.2.2.2.2 (0) 18) ∧ (u9.1 = Bcnt + 1) ∧ (u9.2.1 = uZ Bwo Bcnt w) ∧ (u9.2.2.1 = uZ Bon Bcnt o) ∧ (u9.2.2.2.1 = uZ Btw Bcnt t) ∧ (u9.2.2.2.2 = uZ Bnu Bcnt u)) (fun u9 t9 => zAt D cI cB cZ (va_A (kB cI cB cZ oB aBguests Bcnt Bwo Bon Btw Bnu) sz) (kB cI cB cZ oB aBguests (u9.1) (u9.2.1) (u9.2.2.1) (u9.2.2.2.1) (u9.2.2.2.2)) t9) (va_A (kB cI cB cZ oB aBguests Bcnt Bwo Bon Btw Bnu) sz)) 0 0 (va_A (kB cI cB cZ oB aBguests Bcnt Bwo Bon Btw Bnu) sz) := by
  refine Met.ofW (cc := cX0_add) (maxL := 5) (ret := none) (by decide) rfl ?_
  intro pp ee s mm aa bw mt cd s₁ BL hml hv
  obtain ⟨rfl, hsz, hP, hK, hD0⟩ := hv
  have hx := BL.exec
  have hb := BL.bytes
  have hr := BL.returns
  have hts := atoms_spec (ws := wsX0_add) BL.pre
  have hown : s.vm.findClass RX0 = some mm.cls := findClass_of_methodNamed BL.named
  have hlocks := BL.notSynchronized
  subst hsz
  generalize hAe : va_A (kB cI cB cZ oB aBguests Bcnt Bwo Bon Btw Bnu) s.heap.size = A
  have hA : ∀ q : Nat, s.heap.size ≤ q → A q := fun q h => by rw [← hAe]; exact Or.inr h
  have hw : HW D A s.heap (kB cI cB cZ oB aBguests Bcnt Bwo Bon Btw Bnu) s.heap [] := z_start hAe hP hD0
  clear hP hD0
  have hl := lv_entry ([.ref (oB 0), .int (zI w), .int (zI o), .int (zI t), .int (zI u)]) (n := 5) (Nat.le_of_ble_eq_true rfl)
  rw [lg_entry_eq]
  generalize (lg_sl ([.ref (oB 0), .int (zI w), .int (zI o), .int (zI t), .int (zI u)]) ++ List.replicate (5 - (lg_sl ([.ref (oB 0), .int (zI w), .int (zI o), .int (zI t), .int (zI u)])).length) Slot.unset).toArray = ls at hl ⊢
  have hl : lv_has ls 5 [(0, .ref (oB 0)), (1, .int (zI w)), (2, .int (zI o)), (3, .int (zI t)), (4, .int (zI u))] := hl
  have hinX0 : ∀ w ∈ wsX00, w ∈ wsX0_add := by decide +kernel
  refine lv_aload_n hx hb dX0_add_0 rfl (lv_at hl 0 rfl) ?_
  refine va_get (D := D) (ci := 0) (v := .int (zI Bcnt)) (C := RX0) (T := TX0) (N := 6) hx hb hts hinX0 hown hK hw.1 0 rfl rfl 1 (by decide) (hts (.fieldLink RX0 9 "CarnivalRoad$Bars" "count" "I") (by decide +kernel)) (fun _ h9 => h9) rfl dX0_add_1 ?_
  refine z_bipush hx hb dX0_add_4 (by decide) ?_
  refine z_icmp_lt (tgt := 10) hx hb dX0_add_6 (by decide) (by omega) (fun hc_1 => ?_) (fun hc_1 => ?_)
  · skip
    refine lv_aload_n hx hb dX0_add_10 rfl (lv_at hl 0 rfl) ?_
    refine va_get (D := D) (ci := 0) (v := .ref (oB 1)) (C := RX0) (T := TX0) (N := 6) hx hb hts hinX0 hown hK hw.1 0 rfl rfl 2 (by decide) (hts (.fieldLink RX0 15 "CarnivalRoad$Bars" "words" "[I") (by decide +kernel)) (fun _ h9 => h9) rfl dX0_add_11 ?_
    refine lv_aload_n hx hb dX0_add_14 rfl (lv_at hl 0 rfl) ?_
    refine va_get (D := D) (ci := 0) (v := .int (zI Bcnt)) (C := RX0) (T := TX0) (N := 6) hx hb hts hinX0 hown hK hw.1 0 rfl rfl 1 (by decide) (hts (.fieldLink RX0 9 "CarnivalRoad$Bars" "count" "I") (by decide +kernel)) (fun _ h9 => h9) rfl dX0_add_15 ?_
    refine lv_iload_n hx hb dX0_add_18 rfl (lv_at hl 1 rfl) ?_
    have hi_2 : (0 : Int) ≤ Bcnt ∧ Bcnt < ((11 : Nat) : Int) := by
      first | rfl | omega
    have hv_3 : (0 : Int) ≤ w ∧ w ≤ 11 := by
      first | rfl | omega
    have hR_4 : RA (uZ Bwo Bcnt w) (0) 11 := RA_up qBwo hv_3
    refine z_iast (n := 11) (f := Bwo) (ws2 := kB cI cB cZ oB aBguests Bcnt (uZ Bwo Bcnt w) Bon Btw Bnu) hx hb hK hw 1 rfl (by decide) hi_2 dX0_add_19 rfl (fun H locs hw => ?_)
    refine lv_aload_n hx hb dX0_add_20 rfl (lv_at hl 0 rfl) ?_
    refine va_get (D := D) (ci := 0) (v := .ref (oB 2)) (C := RX0) (T := TX0) (N := 6) hx hb hts hinX0 hown hK hw.1 0 rfl rfl 3 (by decide) (hts (.fieldLink RX0 19 "CarnivalRoad$Bars" "ones" "[I") (by decide +kernel)) (fun _ h9 => h9) rfl dX0_add_21 ?_
    refine lv_aload_n hx hb dX0_add_24 rfl (lv_at hl 0 rfl) ?_
    refine va_get (D := D) (ci := 0) (v := .int (zI Bcnt)) (C := RX0) (T := TX0) (N := 6) hx hb hts hinX0 hown hK hw.1 0 rfl rfl 1 (by decide) (hts (.fieldLink RX0 9 "CarnivalRoad$Bars" "count" "I") (by decide +kernel)) (fun _ h9 => h9) rfl dX0_add_25 ?_
    refine lv_iload_n hx hb dX0_add_28 rfl (lv_at hl 2 rfl) ?_
    have hi_5 : (0 : Int) ≤ Bcnt ∧ Bcnt < ((11 : Nat) : Int) := by
      first | rfl | omega
    have hv_6 : (0 : Int) ≤ o ∧ o ≤ 12 := by
      first | rfl | omega
    have hR_7 : RA (uZ Bon Bcnt o) (0) 12 := RA_up qBon hv_6
    refine z_iast (n := 11) (f := Bon) (ws2 := kB cI cB cZ oB aBguests Bcnt (uZ Bwo Bcnt w) (uZ Bon Bcnt o) Btw Bnu) hx hb hK hw 2 rfl (by decide) hi_5 dX0_add_29 rfl (fun H locs hw => ?_)
    refine lv_aload_n hx hb dX0_add_30 rfl (lv_at hl 0 rfl) ?_
    refine va_get (D := D) (ci := 0) (v := .ref (oB 3)) (C := RX0) (T := TX0) (N := 6) hx hb hts hinX0 hown hK hw.1 0 rfl rfl 4 (by decide) (hts (.fieldLink RX0 22 "CarnivalRoad$Bars" "twos" "[I") (by decide +kernel)) (fun _ h9 => h9) rfl dX0_add_31 ?_
    refine lv_aload_n hx hb dX0_add_34 rfl (lv_at hl 0 rfl) ?_
    refine va_get (D := D) (ci := 0) (v := .int (zI Bcnt)) (C := RX0) (T := TX0) (N := 6) hx hb hts hinX0 hown hK hw.1 0 rfl rfl 1 (by decide) (hts (.fieldLink RX0 9 "CarnivalRoad$Bars" "count" "I") (by decide +kernel)) (fun _ h9 => h9) rfl dX0_add_35 ?_
    refine lv_iload_n hx hb dX0_add_38 rfl (lv_at hl 3 rfl) ?_
    have hi_8 : (0 : Int) ≤ Bcnt ∧ Bcnt < ((11 : Nat) : Int) := by
      first | rfl | omega
    have hv_9 : (0 : Int) ≤ t ∧ t ≤ 12 := by
      first | rfl | omega
    have hR_10 : RA (uZ Btw Bcnt t) (0) 12 := RA_up qBtw hv_9
    refine z_iast (n := 11) (f := Btw) (ws2 := kB cI cB cZ oB aBguests Bcnt (uZ Bwo Bcnt w) (uZ Bon Bcnt o) (uZ Btw Bcnt t) Bnu) hx hb hK hw 3 rfl (by decide) hi_8 dX0_add_39 rfl (fun H locs hw => ?_)
    refine lv_aload_n hx hb dX0_add_40 rfl (lv_at hl 0 rfl) ?_
    refine va_get (D := D) (ci := 0) (v := .ref (oB 4)) (C := RX0) (T := TX0) (N := 6) hx hb hts hinX0 hown hK hw.1 0 rfl rfl 5 (by decide) (hts (.fieldLink RX0 25 "CarnivalRoad$Bars" "numbers" "[I") (by decide +kernel)) (fun _ h9 => h9) rfl dX0_add_41 ?_
    refine lv_aload_n hx hb dX0_add_44 rfl (lv_at hl 0 rfl) ?_
    refine va_get (D := D) (ci := 0) (v := .int (zI Bcnt)) (C := RX0) (T := TX0) (N := 6) hx hb hts hinX0 hown hK hw.1 0 rfl rfl 1 (by decide) (hts (.fieldLink RX0 9 "CarnivalRoad$Bars" "count" "I") (by decide +kernel)) (fun _ h9 => h9) rfl dX0_add_45 ?_
    refine lv_iload hx hb dX0_add_48 (lv_at hl 4 rfl) ?_
    have hi_11 : (0 : Int) ≤ Bcnt ∧ Bcnt < ((11 : Nat) : Int) := by
      first | rfl | omega
    have hv_12 : (0 : Int) ≤ u ∧ u ≤ 18 := by
      first | rfl | omega
    have hR_13 : RA (uZ Bnu Bcnt u) (0) 18 := RA_up qBnu hv_12
    refine z_iast (n := 11) (f := Bnu) (ws2 := kB cI cB cZ oB aBguests Bcnt (uZ Bwo Bcnt w) (uZ Bon Bcnt o) (uZ Btw Bcnt t) (uZ Bnu Bcnt u)) hx hb hK hw 4 rfl (by decide) hi_11 dX0_add_50 rfl (fun H locs hw => ?_)
    refine lv_aload_n hx hb dX0_add_51 rfl (lv_at hl 0 rfl) ?_
    refine lv_dup hx hb dX0_add_52 rfl ?_
    refine va_get (D := D) (ci := 0) (v := .int (zI Bcnt)) (C := RX0) (T := TX0) (N := 6) hx hb hts hinX0 hown hK hw.1 0 rfl rfl 1 (by decide) (hts (.fieldLink RX0 9 "CarnivalRoad$Bars" "count" "I") (by decide +kernel)) (fun _ h9 => h9) rfl dX0_add_53 ?_
    refine z_iconst hx hb dX0_add_56 ?_
    refine z_iadd hx hb dX0_add_57 ?_
    refine z_put (D := D) (ci := 0) (v := .int (zI (Bcnt + 1))) (ty := .int) (C := RX0) (T := TX0) (N := 6) (ws2 := kB cI cB cZ oB aBguests (Bcnt + 1) (uZ Bwo Bcnt w) (uZ Bon Bcnt o) (uZ Btw Bcnt t) (uZ Bnu Bcnt u)) hx hb hts hinX0 tyX0 tyX0_ok nmX0 hown hK hw 0 rfl rfl 1 (by decide) (hts (.fieldLink RX0 9 "CarnivalRoad$Bars" "count" "I") (by decide +kernel)) (fun _ h9 => h9) rfl (by decide +kernel) rfl rfl (Nat.le_of_ble_eq_true rfl) dX0_add_58 rfl (fun H locs hw => ?_)
    have hv_14 : (0 : Int) ≤ (Bcnt + 1) ∧ (Bcnt + 1) ≤ 10 := by
      first | rfl | omega
    have hv_15 : (Bcnt + 1) = Bcnt + 1 := by
      first | rfl | omega
    have hv_16 : (uZ Bwo Bcnt w) = uZ Bwo Bcnt w := by
      first | rfl | omega
    have hv_17 : (uZ Bon Bcnt o) = uZ Bon Bcnt o := by
      first | rfl | omega
    have hv_18 : (uZ Btw Bcnt t) = uZ Btw Bcnt t := by
      first | rfl | omega
    have hv_19 : (uZ Bnu Bcnt u) = uZ Bnu Bcnt u := by
      first | rfl | omega
    exact W.vret hx hb hr (fun t9 ht hW => ⟨⟨((Bcnt + 1), (uZ Bwo Bcnt w), (uZ Bon Bcnt o), (uZ Btw Bcnt t), (uZ Bnu Bcnt u)), rfl, ⟨hv_14, hR_4, hR_7, hR_10, hR_13, hv_15, hv_16, hv_17, hv_18, hv_19⟩, by subst hAe; exact z_end hK hw ht hW⟩, by subst hAe; exact hw.2.2.F ht⟩) (by subst hAe; exact hw.2.2.2.2) dX0_add_61
  · skip
    have hv_20 : (0 : Int) ≤ Bcnt ∧ Bcnt ≤ 10 := by
      first | rfl | omega
    have hv_21 : Bcnt = Bcnt + 1 := by
      first | rfl | omega
    have hv_22 : Bwo = uZ Bwo Bcnt w := by
      first | rfl | omega
    have hv_23 : Bon = uZ Bon Bcnt o := by
      first | rfl | omega
    have hv_24 : Btw = uZ Btw Bcnt t := by
      first | rfl | omega
    have hv_25 : Bnu = uZ Bnu Bcnt u := by
      first | rfl | omega
    exact W.vret hx hb hr (fun t9 ht hW => ⟨⟨(Bcnt, Bwo, Bon, Btw, Bnu), rfl, ⟨hv_20, qBwo, qBon, qBtw, qBnu, hv_21, hv_22, hv_23, hv_24, hv_25⟩, by subst hAe; exact z_end hK hw ht hW⟩, by subst hAe; exact hw.2.2.F ht⟩) (by subst hAe; exact hw.2.2.2.2) dX0_add_9
set_option maxRecDepth 100000 in
set_option maxHeartbeats 4000000 in
theorem c_X0_breaks (l : Launch) (D : va_G) (cI cB cZ : ClassId) (oG : Nat → Nat) (oB : Nat → Nat) (sz : Nat) (Gn : Int) (Gki : Int → Int) (Gle : Int → Int) (Glo : Int → Int) (Gta : Int → Int) (Gsh : Int → Int) (Bcnt : Int) (Bwo : Int → Int) (Bon : Int → Int) (Btw : Int → Int) (Bnu : Int → Int) (k : Int) (a : Int) (b : Int) (d : Int) (qGn : 0 ≤ Gn ∧ Gn ≤ 8) (qGki : RA Gki (0) 4) (qGle : RA Gle (0) 5) (qGlo : RA Glo (0) 9) (qGta : RA Gta (0) 9) (qGsh : RA Gsh (0) 9) (qBcnt : 0 ≤ Bcnt ∧ Bcnt ≤ 10) (qBwo : RA Bwo (0) 11) (qBon : RA Bon (0) 12) (qBtw : RA Btw (0) 12) (qBnu : RA Bnu (0) 18) (qk : 0 ≤ k ∧ k ≤ 10) (qa : 0 ≤ a ∧ a ≤ 7) (qb : 0 ≤ b ∧ b ≤ 7) (qd : 0 ≤ d ∧ d ≤ 7) : Met l yX0_breaks wsX0_breaks ({ frames := 1, cells := 0, slots := 0, locals := 22 }) (va_Pc [.ref (oB 0), .int (zI k), .int (zI a), .int (zI b), .int (zI d)] (zPre D cI cB cZ sz (kG cI cB cZ oG Gn Gki Gle Glo Gta Gsh ++ kB cI cB cZ oB (oG 0) Bcnt Bwo Bon Btw Bnu))) (va_Qi (fun (r9 : Int32) (u9 : Int) => r9 = zI u9 ∧ (((brAt Gki Glo Gsh Bwo Bon Btw Bnu a b d k ∧ u9 = 1) ∨ (¬ brAt Gki Glo Gsh Bwo Bon Btw Bnu a b d k ∧ u9 = 0)))) (fun u9 t9 => zAt D cI cB cZ (va_A (kG cI cB cZ oG Gn Gki Gle Glo Gta Gsh ++ kB cI cB cZ oB (oG 0) Bcnt Bwo Bon Btw Bnu) sz) (kG cI cB cZ oG Gn Gki Gle Glo Gta Gsh ++ kB cI cB cZ oB (oG 0) Bcnt Bwo Bon Btw Bnu) t9) (va_A (kG cI cB cZ oG Gn Gki Gle Glo Gta Gsh ++ kB cI cB cZ oB (oG 0) Bcnt Bwo Bon Btw Bnu) sz)) 0 0 (va_A (kG cI cB cZ oG Gn Gki Gle Glo Gta Gsh ++ kB cI cB cZ oB (oG 0) Bcnt Bwo Bon Btw Bnu) sz) := by
  refine Met.ofW (cc := cX0_breaks) (maxL := 5) (ret := (some .boolean)) (by decide) rfl ?_
  intro pp ee s mm aa bw mt cd s₁ BL hml hv
  obtain ⟨rfl, hsz, hP, hK, hD0⟩ := hv
  have hx := BL.exec
  have hb := BL.bytes
  have hr := BL.returns
  have hts := atoms_spec (ws := wsX0_breaks) BL.pre
  have hown : s.vm.findClass RX0 = some mm.cls := findClass_of_methodNamed BL.named
  have hlocks := BL.notSynchronized
  subst hsz
  generalize hAe : va_A (kG cI cB cZ oG Gn Gki Gle Glo Gta Gsh ++ kB cI cB cZ oB (oG 0) Bcnt Bwo Bon Btw Bnu) s.heap.size = A
  have hA : ∀ q : Nat, s.heap.size ≤ q → A q := fun q h => by rw [← hAe]; exact Or.inr h
  have hw : HW D A s.heap (kG cI cB cZ oG Gn Gki Gle Glo Gta Gsh ++ kB cI cB cZ oB (oG 0) Bcnt Bwo Bon Btw Bnu) s.heap [] := z_start hAe hP hD0
  clear hP hD0
  have hl := lv_entry ([.ref (oB 0), .int (zI k), .int (zI a), .int (zI b), .int (zI d)]) (n := 5) (Nat.le_of_ble_eq_true rfl)
  rw [lg_entry_eq]
  generalize (lg_sl ([.ref (oB 0), .int (zI k), .int (zI a), .int (zI b), .int (zI d)]) ++ List.replicate (5 - (lg_sl ([.ref (oB 0), .int (zI k), .int (zI a), .int (zI b), .int (zI d)])).length) Slot.unset).toArray = ls at hl ⊢
  have hl : lv_has ls 5 [(0, .ref (oB 0)), (1, .int (zI k)), (2, .int (zI a)), (3, .int (zI b)), (4, .int (zI d))] := hl
  have hinX0 : ∀ w ∈ wsX00, w ∈ wsX0_breaks := by decide +kernel
  have hinX2 : ∀ w ∈ wsX20, w ∈ wsX0_breaks := by decide +kernel
  refine lv_aload_n hx hb dX0_breaks_0 rfl (lv_at hl 0 rfl) ?_
  refine va_get (D := D) (ci := 0) (v := .ref (oB 1)) (C := RX0) (T := TX0) (N := 6) hx hb hts hinX0 hown hK hw.1 6 rfl rfl 2 (by decide) (hts (.fieldLink RX0 15 "CarnivalRoad$Bars" "words" "[I") (by decide +kernel)) (fun _ h9 => h9) rfl dX0_breaks_1 ?_
  refine lv_iload_n hx hb dX0_breaks_4 rfl (lv_at hl 1 rfl) ?_
  have hi_1 : (0 : Int) ≤ k ∧ k < ((11 : Nat) : Int) := by
    first | assumption | omega | grind
  refine z_iald (n := 11) (f := Bwo) hx hb hK hw 7 rfl (by decide) hi_1 dX0_breaks_5 ?_
  have hq_2 : 0 ≤ Bwo k ∧ Bwo k ≤ 11 := qBwo k
  rcases (show (¬ (Bwo k) = 1 ∧ ¬ (Bwo k) = 2 ∧ ¬ (Bwo k) = 5 ∧ ¬ (Bwo k) = 11) ∨ (Bwo k) = 1 ∨ (Bwo k) = 2 ∨ (Bwo k) = 5 ∨ (Bwo k) = 11 by omega) with hc_3 | hc_3 | hc_3 | hc_3 | hc_3
  · skip
    refine z_lookupOut (tgt := 231) hx hb (by omega) dX0_breaks_6 (by decide) (by show Op.lookupswitch.offset [(1, 42), (2, 115), (5, 149), (11, 189)] 225 (Bwo k) = 225; rw [Op.lookupswitch.offset_cons, if_neg (by omega), Op.lookupswitch.offset_cons, if_neg (by omega), Op.lookupswitch.offset_cons, if_neg (by omega), Op.lookupswitch.offset_cons, if_neg (by omega), Op.lookupswitch.offset_nil]) (by decide) ?_
    refine z_iconst hx hb dX0_breaks_231 ?_
    have hv_4 : (brAt Gki Glo Gsh Bwo Bon Btw Bnu a b d k ∧ (0 : Int) = 1) ∨ (¬ brAt Gki Glo Gsh Bwo Bon Btw Bnu a b d k ∧ (0 : Int) = 0) := by
      unfold brAt brP; grind
    exact W.zret (v := zI 0) hx hb hr rfl (fun t9 ht hW => ⟨⟨zI 0, 0, rfl, ⟨rfl, hv_4⟩, by subst hAe; exact z_end hK hw ht hW⟩, by subst hAe; exact hw.2.2.F ht⟩) (by subst hAe; exact hw.2.2.2.2) dX0_breaks_232
  · skip
    refine z_lookupIn (k := 1) (off := 42) (tgt := 48) hx hb hc_3 dX0_breaks_6 (by decide) (by decide) (by decide) ?_
    refine lv_iload hx hb dX0_breaks_48 (lv_at hl 4 rfl) ?_
    refine lv_aload_n hx hb dX0_breaks_50 rfl (lv_at hl 0 rfl) ?_
    refine va_get (D := D) (ci := 0) (v := .ref (oB 4)) (C := RX0) (T := TX0) (N := 6) hx hb hts hinX0 hown hK hw.1 6 rfl rfl 5 (by decide) (hts (.fieldLink RX0 25 "CarnivalRoad$Bars" "numbers" "[I") (by decide +kernel)) (fun _ h9 => h9) rfl dX0_breaks_51 ?_
    refine lv_iload_n hx hb dX0_breaks_54 rfl (lv_at hl 1 rfl) ?_
    have hi_5 : (0 : Int) ≤ k ∧ k < ((11 : Nat) : Int) := by
      first | assumption | omega | grind
    refine z_iald (n := 11) (f := Bnu) hx hb hK hw 10 rfl (by decide) hi_5 dX0_breaks_55 ?_
    have hq_6 : 0 ≤ Bnu k ∧ Bnu k ≤ 18 := qBnu k
    refine z_icmp_ge (tgt := 119) hx hb dX0_breaks_56 (by decide) (by omega) (fun hc_7 => ?_) (fun hc_7 => ?_)
    · skip
      refine z_iconst hx hb dX0_breaks_119 ?_
      have hv_8 : (brAt Gki Glo Gsh Bwo Bon Btw Bnu a b d k ∧ (0 : Int) = 1) ∨ (¬ brAt Gki Glo Gsh Bwo Bon Btw Bnu a b d k ∧ (0 : Int) = 0) := by
        unfold brAt brP; grind
      exact W.zret (v := zI 0) hx hb hr rfl (fun t9 ht hW => ⟨⟨zI 0, 0, rfl, ⟨rfl, hv_8⟩, by subst hAe; exact z_end hK hw ht hW⟩, by subst hAe; exact hw.2.2.F ht⟩) (by subst hAe; exact hw.2.2.2.2) dX0_breaks_120
    · skip
      refine lv_aload_n hx hb dX0_breaks_59 rfl (lv_at hl 0 rfl) ?_
      refine lv_aload_n hx hb dX0_breaks_60 rfl (lv_at hl 0 rfl) ?_
      refine va_get (D := D) (ci := 0) (v := .ref (oB 2)) (C := RX0) (T := TX0) (N := 6) hx hb hts hinX0 hown hK hw.1 6 rfl rfl 3 (by decide) (hts (.fieldLink RX0 19 "CarnivalRoad$Bars" "ones" "[I") (by decide +kernel)) (fun _ h9 => h9) rfl dX0_breaks_61 ?_
      refine lv_iload_n hx hb dX0_breaks_64 rfl (lv_at hl 1 rfl) ?_
      have hi_9 : (0 : Int) ≤ k ∧ k < ((11 : Nat) : Int) := by
        first | assumption | omega | grind
      refine z_iald (n := 11) (f := Bon) hx hb hK hw 8 rfl (by decide) hi_9 dX0_breaks_65 ?_
      have hq_10 : 0 ≤ Bon k ∧ Bon k ≤ 12 := qBon k
      refine lv_iload_n hx hb dX0_breaks_66 rfl (lv_at hl 2 rfl) ?_
      have hF9 := z_free (wc := kG cI cB cZ oG Gn Gki Gle Glo Gta Gsh ++ kB cI cB cZ oB (oG 0) Bcnt Bwo Bon Btw Bnu) hw hA [0, 1, 2, 3, 4, 5, 6, 7, 8, 9, 10] rfl
      refine va_calli (va_runV (As := [.int (zI (Bon k)), .int (zI a)]) (rest := []) ⟨hx, hb, hml, hown, hts⟩ (c_X0_isOne l D cI cB cZ oG oB s.heap.size Gn Gki Gle Glo Gta Gsh Bcnt Bwo Bon Btw Bnu (Bon k) a (by omega) qGki qGle qGlo qGta qGsh (by omega) qBwo qBon qBtw qBnu (by omega) (by omega)) (cwV 2 hts gX0_breaks_X0_isOne rfl rfl rfl (by decide +kernel) ⟨Nat.le_of_ble_eq_true rfl, Nat.le_of_ble_eq_true rfl⟩) ⟨zPre_blind, va_recv hK hw.1 (ci := 0) (q0 := 6) rfl rfl, z_pre hK hw [0, 1, 2, 3, 4, 5, 6, 7, 8, 9, 10] (by decide) rfl⟩ rfl rfl hl.1 rfl (lv_room (Nat.le_of_ble_eq_true rfl)) dX0_breaks_67 ⟨Nat.zero_le _, Nat.zero_le _⟩) hw.2.2 (fun q _ h => hF9 q h) hF9 (fun r9 u9 t9 H_11 locs9 ht9 hvm9 hq9 hB9 hz9 hk9 hS9 => ?_)
      obtain ⟨r_12, rfl⟩ : ∃ z, z = u9 := ⟨_, rfl⟩
      try dsimp only at hq9 hB9
      obtain ⟨rfl, hq9⟩ := hq9
      have hq_13 := hq9
      have hw : HW D A s.heap (kG cI cB cZ oG Gn Gki Gle Glo Gta Gsh ++ kB cI cB cZ oB (oG 0) Bcnt Bwo Bon Btw Bnu) H_11 locs9 := z_after (wc := kG cI cB cZ oG Gn Gki Gle Glo Gta Gsh ++ kB cI cB cZ oB (oG 0) Bcnt Bwo Bon Btw Bnu) hw [0, 1, 2, 3, 4, 5, 6, 7, 8, 9, 10] [] rfl rfl (by decide) (by decide) hF9 hk9 ht9 hB9 hS9 [0, 1, 2, 3, 4, 5, 6, 7, 8, 9, 10] (by decide) rfl
      clear hF9 ht9 hvm9 hB9 hz9 hk9 hS9 hq9
      rcases hq_13 with ⟨hc_14, rfl⟩ | ⟨hc_14, rfl⟩
      · skip
        refine z_if_eq (tgt := 87) hx hb dX0_breaks_70 (by decide) (by omega) (fun hc_15 => absurd hc_15 (by omega)) (fun hc_15 => ?_)
        refine lv_aload_n hx hb dX0_breaks_73 rfl (lv_at hl 0 rfl) ?_
        refine lv_aload_n hx hb dX0_breaks_74 rfl (lv_at hl 0 rfl) ?_
        refine va_get (D := D) (ci := 0) (v := .ref (oB 3)) (C := RX0) (T := TX0) (N := 6) hx hb hts hinX0 hown hK hw.1 6 rfl rfl 4 (by decide) (hts (.fieldLink RX0 22 "CarnivalRoad$Bars" "twos" "[I") (by decide +kernel)) (fun _ h9 => h9) rfl dX0_breaks_75 ?_
        refine lv_iload_n hx hb dX0_breaks_78 rfl (lv_at hl 1 rfl) ?_
        have hi_16 : (0 : Int) ≤ k ∧ k < ((11 : Nat) : Int) := by
          first | assumption | omega | grind
        refine z_iald (n := 11) (f := Btw) hx hb hK hw 9 rfl (by decide) hi_16 dX0_breaks_79 ?_
        have hq_17 : 0 ≤ Btw k ∧ Btw k ≤ 12 := qBtw k
        refine lv_iload_n hx hb dX0_breaks_80 rfl (lv_at hl 3 rfl) ?_
        have hF9 := z_free (wc := kG cI cB cZ oG Gn Gki Gle Glo Gta Gsh ++ kB cI cB cZ oB (oG 0) Bcnt Bwo Bon Btw Bnu) hw hA [0, 1, 2, 3, 4, 5, 6, 7, 8, 9, 10] rfl
        refine va_calli (va_runV (As := [.int (zI (Btw k)), .int (zI b)]) (rest := []) ⟨hx, hb, hml, hown, hts⟩ (c_X0_isOne l D cI cB cZ oG oB H_11.size Gn Gki Gle Glo Gta Gsh Bcnt Bwo Bon Btw Bnu (Btw k) b (by omega) qGki qGle qGlo qGta qGsh (by omega) qBwo qBon qBtw qBnu (by omega) (by omega)) (cwV 2 hts gX0_breaks_X0_isOne rfl rfl rfl (by decide +kernel) ⟨Nat.le_of_ble_eq_true rfl, Nat.le_of_ble_eq_true rfl⟩) ⟨zPre_blind, va_recv hK hw.1 (ci := 0) (q0 := 6) rfl rfl, z_pre hK hw [0, 1, 2, 3, 4, 5, 6, 7, 8, 9, 10] (by decide) rfl⟩ rfl rfl hl.1 rfl (lv_room (Nat.le_of_ble_eq_true rfl)) dX0_breaks_81 ⟨Nat.zero_le _, Nat.zero_le _⟩) hw.2.2 (fun q _ h => hF9 q h) hF9 (fun r9 u9 t9 H_18 locs9 ht9 hvm9 hq9 hB9 hz9 hk9 hS9 => ?_)
        obtain ⟨r_19, rfl⟩ : ∃ z, z = u9 := ⟨_, rfl⟩
        try dsimp only at hq9 hB9
        obtain ⟨rfl, hq9⟩ := hq9
        have hq_20 := hq9
        have hw : HW D A s.heap (kG cI cB cZ oG Gn Gki Gle Glo Gta Gsh ++ kB cI cB cZ oB (oG 0) Bcnt Bwo Bon Btw Bnu) H_18 locs9 := z_after (wc := kG cI cB cZ oG Gn Gki Gle Glo Gta Gsh ++ kB cI cB cZ oB (oG 0) Bcnt Bwo Bon Btw Bnu) hw [0, 1, 2, 3, 4, 5, 6, 7, 8, 9, 10] [] rfl rfl (by decide) (by decide) hF9 hk9 ht9 hB9 hS9 [0, 1, 2, 3, 4, 5, 6, 7, 8, 9, 10] (by decide) rfl
        clear hF9 ht9 hvm9 hB9 hz9 hk9 hS9 hq9
        rcases hq_20 with ⟨hc_21, rfl⟩ | ⟨hc_21, rfl⟩
        · skip
          refine z_if_ne (tgt := 115) hx hb dX0_breaks_84 (by decide) (by omega) (fun hc_22 => ?_) (fun hc_22 => absurd hc_22 (by omega))
          refine z_iconst hx hb dX0_breaks_115 ?_
          refine lv_goto (tgt := 120) hx hb dX0_breaks_116 (by decide) ?_
          have hv_23 : (brAt Gki Glo Gsh Bwo Bon Btw Bnu a b d k ∧ (1 : Int) = 1) ∨ (¬ brAt Gki Glo Gsh Bwo Bon Btw Bnu a b d k ∧ (1 : Int) = 0) := by
            unfold brAt brP; grind
          exact W.zret (v := zI 1) hx hb hr rfl (fun t9 ht hW => ⟨⟨zI 1, 1, rfl, ⟨rfl, hv_23⟩, by subst hAe; exact z_end hK hw ht hW⟩, by subst hAe; exact hw.2.2.F ht⟩) (by subst hAe; exact hw.2.2.2.2) dX0_breaks_120
        · skip
          refine z_if_ne (tgt := 115) hx hb dX0_breaks_84 (by decide) (by omega) (fun hc_24 => absurd hc_24 (by omega)) (fun hc_24 => ?_)
          refine lv_aload_n hx hb dX0_breaks_87 rfl (lv_at hl 0 rfl) ?_
          refine lv_aload_n hx hb dX0_breaks_88 rfl (lv_at hl 0 rfl) ?_
          refine va_get (D := D) (ci := 0) (v := .ref (oB 2)) (C := RX0) (T := TX0) (N := 6) hx hb hts hinX0 hown hK hw.1 6 rfl rfl 3 (by decide) (hts (.fieldLink RX0 19 "CarnivalRoad$Bars" "ones" "[I") (by decide +kernel)) (fun _ h9 => h9) rfl dX0_breaks_89 ?_
          refine lv_iload_n hx hb dX0_breaks_92 rfl (lv_at hl 1 rfl) ?_
          have hi_25 : (0 : Int) ≤ k ∧ k < ((11 : Nat) : Int) := by
            first | assumption | omega | grind
          refine z_iald (n := 11) (f := Bon) hx hb hK hw 8 rfl (by decide) hi_25 dX0_breaks_93 ?_
          have hq_26 : 0 ≤ Bon k ∧ Bon k ≤ 12 := qBon k
          refine lv_iload_n hx hb dX0_breaks_94 rfl (lv_at hl 3 rfl) ?_
          have hF9 := z_free (wc := kG cI cB cZ oG Gn Gki Gle Glo Gta Gsh ++ kB cI cB cZ oB (oG 0) Bcnt Bwo Bon Btw Bnu) hw hA [0, 1, 2, 3, 4, 5, 6, 7, 8, 9, 10] rfl
          refine va_calli (va_runV (As := [.int (zI (Bon k)), .int (zI b)]) (rest := []) ⟨hx, hb, hml, hown, hts⟩ (c_X0_isOne l D cI cB cZ oG oB H_18.size Gn Gki Gle Glo Gta Gsh Bcnt Bwo Bon Btw Bnu (Bon k) b (by omega) qGki qGle qGlo qGta qGsh (by omega) qBwo qBon qBtw qBnu (by omega) (by omega)) (cwV 2 hts gX0_breaks_X0_isOne rfl rfl rfl (by decide +kernel) ⟨Nat.le_of_ble_eq_true rfl, Nat.le_of_ble_eq_true rfl⟩) ⟨zPre_blind, va_recv hK hw.1 (ci := 0) (q0 := 6) rfl rfl, z_pre hK hw [0, 1, 2, 3, 4, 5, 6, 7, 8, 9, 10] (by decide) rfl⟩ rfl rfl hl.1 rfl (lv_room (Nat.le_of_ble_eq_true rfl)) dX0_breaks_95 ⟨Nat.zero_le _, Nat.zero_le _⟩) hw.2.2 (fun q _ h => hF9 q h) hF9 (fun r9 u9 t9 H_27 locs9 ht9 hvm9 hq9 hB9 hz9 hk9 hS9 => ?_)
          obtain ⟨r_28, rfl⟩ : ∃ z, z = u9 := ⟨_, rfl⟩
          try dsimp only at hq9 hB9
          obtain ⟨rfl, hq9⟩ := hq9
          have hq_29 := hq9
          have hw : HW D A s.heap (kG cI cB cZ oG Gn Gki Gle Glo Gta Gsh ++ kB cI cB cZ oB (oG 0) Bcnt Bwo Bon Btw Bnu) H_27 locs9 := z_after (wc := kG cI cB cZ oG Gn Gki Gle Glo Gta Gsh ++ kB cI cB cZ oB (oG 0) Bcnt Bwo Bon Btw Bnu) hw [0, 1, 2, 3, 4, 5, 6, 7, 8, 9, 10] [] rfl rfl (by decide) (by decide) hF9 hk9 ht9 hB9 hS9 [0, 1, 2, 3, 4, 5, 6, 7, 8, 9, 10] (by decide) rfl
          clear hF9 ht9 hvm9 hB9 hz9 hk9 hS9 hq9
          rcases hq_29 with ⟨hc_30, rfl⟩ | ⟨hc_30, rfl⟩
          · skip
            refine z_if_eq (tgt := 119) hx hb dX0_breaks_98 (by decide) (by omega) (fun hc_31 => absurd hc_31 (by omega)) (fun hc_31 => ?_)
            refine lv_aload_n hx hb dX0_breaks_101 rfl (lv_at hl 0 rfl) ?_
            refine lv_aload_n hx hb dX0_breaks_102 rfl (lv_at hl 0 rfl) ?_
            refine va_get (D := D) (ci := 0) (v := .ref (oB 3)) (C := RX0) (T := TX0) (N := 6) hx hb hts hinX0 hown hK hw.1 6 rfl rfl 4 (by decide) (hts (.fieldLink RX0 22 "CarnivalRoad$Bars" "twos" "[I") (by decide +kernel)) (fun _ h9 => h9) rfl dX0_breaks_103 ?_
            refine lv_iload_n hx hb dX0_breaks_106 rfl (lv_at hl 1 rfl) ?_
            have hi_32 : (0 : Int) ≤ k ∧ k < ((11 : Nat) : Int) := by
              first | assumption | omega | grind
            refine z_iald (n := 11) (f := Btw) hx hb hK hw 9 rfl (by decide) hi_32 dX0_breaks_107 ?_
            have hq_33 : 0 ≤ Btw k ∧ Btw k ≤ 12 := qBtw k
            refine lv_iload_n hx hb dX0_breaks_108 rfl (lv_at hl 2 rfl) ?_
            have hF9 := z_free (wc := kG cI cB cZ oG Gn Gki Gle Glo Gta Gsh ++ kB cI cB cZ oB (oG 0) Bcnt Bwo Bon Btw Bnu) hw hA [0, 1, 2, 3, 4, 5, 6, 7, 8, 9, 10] rfl
            refine va_calli (va_runV (As := [.int (zI (Btw k)), .int (zI a)]) (rest := []) ⟨hx, hb, hml, hown, hts⟩ (c_X0_isOne l D cI cB cZ oG oB H_27.size Gn Gki Gle Glo Gta Gsh Bcnt Bwo Bon Btw Bnu (Btw k) a (by omega) qGki qGle qGlo qGta qGsh (by omega) qBwo qBon qBtw qBnu (by omega) (by omega)) (cwV 2 hts gX0_breaks_X0_isOne rfl rfl rfl (by decide +kernel) ⟨Nat.le_of_ble_eq_true rfl, Nat.le_of_ble_eq_true rfl⟩) ⟨zPre_blind, va_recv hK hw.1 (ci := 0) (q0 := 6) rfl rfl, z_pre hK hw [0, 1, 2, 3, 4, 5, 6, 7, 8, 9, 10] (by decide) rfl⟩ rfl rfl hl.1 rfl (lv_room (Nat.le_of_ble_eq_true rfl)) dX0_breaks_109 ⟨Nat.zero_le _, Nat.zero_le _⟩) hw.2.2 (fun q _ h => hF9 q h) hF9 (fun r9 u9 t9 H_34 locs9 ht9 hvm9 hq9 hB9 hz9 hk9 hS9 => ?_)
            obtain ⟨r_35, rfl⟩ : ∃ z, z = u9 := ⟨_, rfl⟩
            try dsimp only at hq9 hB9
            obtain ⟨rfl, hq9⟩ := hq9
            have hq_36 := hq9
            have hw : HW D A s.heap (kG cI cB cZ oG Gn Gki Gle Glo Gta Gsh ++ kB cI cB cZ oB (oG 0) Bcnt Bwo Bon Btw Bnu) H_34 locs9 := z_after (wc := kG cI cB cZ oG Gn Gki Gle Glo Gta Gsh ++ kB cI cB cZ oB (oG 0) Bcnt Bwo Bon Btw Bnu) hw [0, 1, 2, 3, 4, 5, 6, 7, 8, 9, 10] [] rfl rfl (by decide) (by decide) hF9 hk9 ht9 hB9 hS9 [0, 1, 2, 3, 4, 5, 6, 7, 8, 9, 10] (by decide) rfl
            clear hF9 ht9 hvm9 hB9 hz9 hk9 hS9 hq9
            rcases hq_36 with ⟨hc_37, rfl⟩ | ⟨hc_37, rfl⟩
            · skip
              refine z_if_eq (tgt := 119) hx hb dX0_breaks_112 (by decide) (by omega) (fun hc_38 => absurd hc_38 (by omega)) (fun hc_38 => ?_)
              refine z_iconst hx hb dX0_breaks_115 ?_
              refine lv_goto (tgt := 120) hx hb dX0_breaks_116 (by decide) ?_
              have hv_39 : (brAt Gki Glo Gsh Bwo Bon Btw Bnu a b d k ∧ (1 : Int) = 1) ∨ (¬ brAt Gki Glo Gsh Bwo Bon Btw Bnu a b d k ∧ (1 : Int) = 0) := by
                unfold brAt brP; grind
              exact W.zret (v := zI 1) hx hb hr rfl (fun t9 ht hW => ⟨⟨zI 1, 1, rfl, ⟨rfl, hv_39⟩, by subst hAe; exact z_end hK hw ht hW⟩, by subst hAe; exact hw.2.2.F ht⟩) (by subst hAe; exact hw.2.2.2.2) dX0_breaks_120
            · skip
              refine z_if_eq (tgt := 119) hx hb dX0_breaks_112 (by decide) (by omega) (fun hc_40 => ?_) (fun hc_40 => absurd hc_40 (by omega))
              refine z_iconst hx hb dX0_breaks_119 ?_
              have hv_41 : (brAt Gki Glo Gsh Bwo Bon Btw Bnu a b d k ∧ (0 : Int) = 1) ∨ (¬ brAt Gki Glo Gsh Bwo Bon Btw Bnu a b d k ∧ (0 : Int) = 0) := by
                unfold brAt brP; grind
              exact W.zret (v := zI 0) hx hb hr rfl (fun t9 ht hW => ⟨⟨zI 0, 0, rfl, ⟨rfl, hv_41⟩, by subst hAe; exact z_end hK hw ht hW⟩, by subst hAe; exact hw.2.2.F ht⟩) (by subst hAe; exact hw.2.2.2.2) dX0_breaks_120
          · skip
            refine z_if_eq (tgt := 119) hx hb dX0_breaks_98 (by decide) (by omega) (fun hc_42 => ?_) (fun hc_42 => absurd hc_42 (by omega))
            refine z_iconst hx hb dX0_breaks_119 ?_
            have hv_43 : (brAt Gki Glo Gsh Bwo Bon Btw Bnu a b d k ∧ (0 : Int) = 1) ∨ (¬ brAt Gki Glo Gsh Bwo Bon Btw Bnu a b d k ∧ (0 : Int) = 0) := by
              unfold brAt brP; grind
            exact W.zret (v := zI 0) hx hb hr rfl (fun t9 ht hW => ⟨⟨zI 0, 0, rfl, ⟨rfl, hv_43⟩, by subst hAe; exact z_end hK hw ht hW⟩, by subst hAe; exact hw.2.2.F ht⟩) (by subst hAe; exact hw.2.2.2.2) dX0_breaks_120
      · skip
        refine z_if_eq (tgt := 87) hx hb dX0_breaks_70 (by decide) (by omega) (fun hc_44 => ?_) (fun hc_44 => absurd hc_44 (by omega))
        refine lv_aload_n hx hb dX0_breaks_87 rfl (lv_at hl 0 rfl) ?_
        refine lv_aload_n hx hb dX0_breaks_88 rfl (lv_at hl 0 rfl) ?_
        refine va_get (D := D) (ci := 0) (v := .ref (oB 2)) (C := RX0) (T := TX0) (N := 6) hx hb hts hinX0 hown hK hw.1 6 rfl rfl 3 (by decide) (hts (.fieldLink RX0 19 "CarnivalRoad$Bars" "ones" "[I") (by decide +kernel)) (fun _ h9 => h9) rfl dX0_breaks_89 ?_
        refine lv_iload_n hx hb dX0_breaks_92 rfl (lv_at hl 1 rfl) ?_
        have hi_45 : (0 : Int) ≤ k ∧ k < ((11 : Nat) : Int) := by
          first | assumption | omega | grind
        refine z_iald (n := 11) (f := Bon) hx hb hK hw 8 rfl (by decide) hi_45 dX0_breaks_93 ?_
        have hq_46 : 0 ≤ Bon k ∧ Bon k ≤ 12 := qBon k
        refine lv_iload_n hx hb dX0_breaks_94 rfl (lv_at hl 3 rfl) ?_
        have hF9 := z_free (wc := kG cI cB cZ oG Gn Gki Gle Glo Gta Gsh ++ kB cI cB cZ oB (oG 0) Bcnt Bwo Bon Btw Bnu) hw hA [0, 1, 2, 3, 4, 5, 6, 7, 8, 9, 10] rfl
        refine va_calli (va_runV (As := [.int (zI (Bon k)), .int (zI b)]) (rest := []) ⟨hx, hb, hml, hown, hts⟩ (c_X0_isOne l D cI cB cZ oG oB H_11.size Gn Gki Gle Glo Gta Gsh Bcnt Bwo Bon Btw Bnu (Bon k) b (by omega) qGki qGle qGlo qGta qGsh (by omega) qBwo qBon qBtw qBnu (by omega) (by omega)) (cwV 2 hts gX0_breaks_X0_isOne rfl rfl rfl (by decide +kernel) ⟨Nat.le_of_ble_eq_true rfl, Nat.le_of_ble_eq_true rfl⟩) ⟨zPre_blind, va_recv hK hw.1 (ci := 0) (q0 := 6) rfl rfl, z_pre hK hw [0, 1, 2, 3, 4, 5, 6, 7, 8, 9, 10] (by decide) rfl⟩ rfl rfl hl.1 rfl (lv_room (Nat.le_of_ble_eq_true rfl)) dX0_breaks_95 ⟨Nat.zero_le _, Nat.zero_le _⟩) hw.2.2 (fun q _ h => hF9 q h) hF9 (fun r9 u9 t9 H_47 locs9 ht9 hvm9 hq9 hB9 hz9 hk9 hS9 => ?_)
        obtain ⟨r_48, rfl⟩ : ∃ z, z = u9 := ⟨_, rfl⟩
        try dsimp only at hq9 hB9
        obtain ⟨rfl, hq9⟩ := hq9
        have hq_49 := hq9
        have hw : HW D A s.heap (kG cI cB cZ oG Gn Gki Gle Glo Gta Gsh ++ kB cI cB cZ oB (oG 0) Bcnt Bwo Bon Btw Bnu) H_47 locs9 := z_after (wc := kG cI cB cZ oG Gn Gki Gle Glo Gta Gsh ++ kB cI cB cZ oB (oG 0) Bcnt Bwo Bon Btw Bnu) hw [0, 1, 2, 3, 4, 5, 6, 7, 8, 9, 10] [] rfl rfl (by decide) (by decide) hF9 hk9 ht9 hB9 hS9 [0, 1, 2, 3, 4, 5, 6, 7, 8, 9, 10] (by decide) rfl
        clear hF9 ht9 hvm9 hB9 hz9 hk9 hS9 hq9
        rcases hq_49 with ⟨hc_50, rfl⟩ | ⟨hc_50, rfl⟩
        · skip
          refine z_if_eq (tgt := 119) hx hb dX0_breaks_98 (by decide) (by omega) (fun hc_51 => absurd hc_51 (by omega)) (fun hc_51 => ?_)
          refine lv_aload_n hx hb dX0_breaks_101 rfl (lv_at hl 0 rfl) ?_
          refine lv_aload_n hx hb dX0_breaks_102 rfl (lv_at hl 0 rfl) ?_
          refine va_get (D := D) (ci := 0) (v := .ref (oB 3)) (C := RX0) (T := TX0) (N := 6) hx hb hts hinX0 hown hK hw.1 6 rfl rfl 4 (by decide) (hts (.fieldLink RX0 22 "CarnivalRoad$Bars" "twos" "[I") (by decide +kernel)) (fun _ h9 => h9) rfl dX0_breaks_103 ?_
          refine lv_iload_n hx hb dX0_breaks_106 rfl (lv_at hl 1 rfl) ?_
          have hi_52 : (0 : Int) ≤ k ∧ k < ((11 : Nat) : Int) := by
            first | assumption | omega | grind
          refine z_iald (n := 11) (f := Btw) hx hb hK hw 9 rfl (by decide) hi_52 dX0_breaks_107 ?_
          have hq_53 : 0 ≤ Btw k ∧ Btw k ≤ 12 := qBtw k
          refine lv_iload_n hx hb dX0_breaks_108 rfl (lv_at hl 2 rfl) ?_
          have hF9 := z_free (wc := kG cI cB cZ oG Gn Gki Gle Glo Gta Gsh ++ kB cI cB cZ oB (oG 0) Bcnt Bwo Bon Btw Bnu) hw hA [0, 1, 2, 3, 4, 5, 6, 7, 8, 9, 10] rfl
          refine va_calli (va_runV (As := [.int (zI (Btw k)), .int (zI a)]) (rest := []) ⟨hx, hb, hml, hown, hts⟩ (c_X0_isOne l D cI cB cZ oG oB H_47.size Gn Gki Gle Glo Gta Gsh Bcnt Bwo Bon Btw Bnu (Btw k) a (by omega) qGki qGle qGlo qGta qGsh (by omega) qBwo qBon qBtw qBnu (by omega) (by omega)) (cwV 2 hts gX0_breaks_X0_isOne rfl rfl rfl (by decide +kernel) ⟨Nat.le_of_ble_eq_true rfl, Nat.le_of_ble_eq_true rfl⟩) ⟨zPre_blind, va_recv hK hw.1 (ci := 0) (q0 := 6) rfl rfl, z_pre hK hw [0, 1, 2, 3, 4, 5, 6, 7, 8, 9, 10] (by decide) rfl⟩ rfl rfl hl.1 rfl (lv_room (Nat.le_of_ble_eq_true rfl)) dX0_breaks_109 ⟨Nat.zero_le _, Nat.zero_le _⟩) hw.2.2 (fun q _ h => hF9 q h) hF9 (fun r9 u9 t9 H_54 locs9 ht9 hvm9 hq9 hB9 hz9 hk9 hS9 => ?_)
          obtain ⟨r_55, rfl⟩ : ∃ z, z = u9 := ⟨_, rfl⟩
          try dsimp only at hq9 hB9
          obtain ⟨rfl, hq9⟩ := hq9
          have hq_56 := hq9
          have hw : HW D A s.heap (kG cI cB cZ oG Gn Gki Gle Glo Gta Gsh ++ kB cI cB cZ oB (oG 0) Bcnt Bwo Bon Btw Bnu) H_54 locs9 := z_after (wc := kG cI cB cZ oG Gn Gki Gle Glo Gta Gsh ++ kB cI cB cZ oB (oG 0) Bcnt Bwo Bon Btw Bnu) hw [0, 1, 2, 3, 4, 5, 6, 7, 8, 9, 10] [] rfl rfl (by decide) (by decide) hF9 hk9 ht9 hB9 hS9 [0, 1, 2, 3, 4, 5, 6, 7, 8, 9, 10] (by decide) rfl
          clear hF9 ht9 hvm9 hB9 hz9 hk9 hS9 hq9
          rcases hq_56 with ⟨hc_57, rfl⟩ | ⟨hc_57, rfl⟩
          · skip
            refine z_if_eq (tgt := 119) hx hb dX0_breaks_112 (by decide) (by omega) (fun hc_58 => absurd hc_58 (by omega)) (fun hc_58 => ?_)
            refine z_iconst hx hb dX0_breaks_115 ?_
            refine lv_goto (tgt := 120) hx hb dX0_breaks_116 (by decide) ?_
            have hv_59 : (brAt Gki Glo Gsh Bwo Bon Btw Bnu a b d k ∧ (1 : Int) = 1) ∨ (¬ brAt Gki Glo Gsh Bwo Bon Btw Bnu a b d k ∧ (1 : Int) = 0) := by
              unfold brAt brP; grind
            exact W.zret (v := zI 1) hx hb hr rfl (fun t9 ht hW => ⟨⟨zI 1, 1, rfl, ⟨rfl, hv_59⟩, by subst hAe; exact z_end hK hw ht hW⟩, by subst hAe; exact hw.2.2.F ht⟩) (by subst hAe; exact hw.2.2.2.2) dX0_breaks_120
          · skip
            refine z_if_eq (tgt := 119) hx hb dX0_breaks_112 (by decide) (by omega) (fun hc_60 => ?_) (fun hc_60 => absurd hc_60 (by omega))
            refine z_iconst hx hb dX0_breaks_119 ?_
            have hv_61 : (brAt Gki Glo Gsh Bwo Bon Btw Bnu a b d k ∧ (0 : Int) = 1) ∨ (¬ brAt Gki Glo Gsh Bwo Bon Btw Bnu a b d k ∧ (0 : Int) = 0) := by
              unfold brAt brP; grind
            exact W.zret (v := zI 0) hx hb hr rfl (fun t9 ht hW => ⟨⟨zI 0, 0, rfl, ⟨rfl, hv_61⟩, by subst hAe; exact z_end hK hw ht hW⟩, by subst hAe; exact hw.2.2.F ht⟩) (by subst hAe; exact hw.2.2.2.2) dX0_breaks_120
        · skip
          refine z_if_eq (tgt := 119) hx hb dX0_breaks_98 (by decide) (by omega) (fun hc_62 => ?_) (fun hc_62 => absurd hc_62 (by omega))
          refine z_iconst hx hb dX0_breaks_119 ?_
          have hv_63 : (brAt Gki Glo Gsh Bwo Bon Btw Bnu a b d k ∧ (0 : Int) = 1) ∨ (¬ brAt Gki Glo Gsh Bwo Bon Btw Bnu a b d k ∧ (0 : Int) = 0) := by
            unfold brAt brP; grind
          exact W.zret (v := zI 0) hx hb hr rfl (fun t9 ht hW => ⟨⟨zI 0, 0, rfl, ⟨rfl, hv_63⟩, by subst hAe; exact z_end hK hw ht hW⟩, by subst hAe; exact hw.2.2.F ht⟩) (by subst hAe; exact hw.2.2.2.2) dX0_breaks_120
  · skip
    refine z_lookupIn (k := 2) (off := 115) (tgt := 121) hx hb hc_3 dX0_breaks_6 (by decide) (by decide) (by decide) ?_
    refine lv_aload_n hx hb dX0_breaks_121 rfl (lv_at hl 0 rfl) ?_
    refine lv_aload_n hx hb dX0_breaks_122 rfl (lv_at hl 0 rfl) ?_
    refine va_get (D := D) (ci := 0) (v := .ref (oB 2)) (C := RX0) (T := TX0) (N := 6) hx hb hts hinX0 hown hK hw.1 6 rfl rfl 3 (by decide) (hts (.fieldLink RX0 19 "CarnivalRoad$Bars" "ones" "[I") (by decide +kernel)) (fun _ h9 => h9) rfl dX0_breaks_123 ?_
    refine lv_iload_n hx hb dX0_breaks_126 rfl (lv_at hl 1 rfl) ?_
    have hi_64 : (0 : Int) ≤ k ∧ k < ((11 : Nat) : Int) := by
      first | assumption | omega | grind
    refine z_iald (n := 11) (f := Bon) hx hb hK hw 8 rfl (by decide) hi_64 dX0_breaks_127 ?_
    have hq_65 : 0 ≤ Bon k ∧ Bon k ≤ 12 := qBon k
    refine lv_iload_n hx hb dX0_breaks_128 rfl (lv_at hl 3 rfl) ?_
    have hF9 := z_free (wc := kG cI cB cZ oG Gn Gki Gle Glo Gta Gsh ++ kB cI cB cZ oB (oG 0) Bcnt Bwo Bon Btw Bnu) hw hA [0, 1, 2, 3, 4, 5, 6, 7, 8, 9, 10] rfl
    refine va_calli (va_runV (As := [.int (zI (Bon k)), .int (zI b)]) (rest := []) ⟨hx, hb, hml, hown, hts⟩ (c_X0_isOne l D cI cB cZ oG oB s.heap.size Gn Gki Gle Glo Gta Gsh Bcnt Bwo Bon Btw Bnu (Bon k) b (by omega) qGki qGle qGlo qGta qGsh (by omega) qBwo qBon qBtw qBnu (by omega) (by omega)) (cwV 2 hts gX0_breaks_X0_isOne rfl rfl rfl (by decide +kernel) ⟨Nat.le_of_ble_eq_true rfl, Nat.le_of_ble_eq_true rfl⟩) ⟨zPre_blind, va_recv hK hw.1 (ci := 0) (q0 := 6) rfl rfl, z_pre hK hw [0, 1, 2, 3, 4, 5, 6, 7, 8, 9, 10] (by decide) rfl⟩ rfl rfl hl.1 rfl (lv_room (Nat.le_of_ble_eq_true rfl)) dX0_breaks_129 ⟨Nat.zero_le _, Nat.zero_le _⟩) hw.2.2 (fun q _ h => hF9 q h) hF9 (fun r9 u9 t9 H_66 locs9 ht9 hvm9 hq9 hB9 hz9 hk9 hS9 => ?_)
    obtain ⟨r_67, rfl⟩ : ∃ z, z = u9 := ⟨_, rfl⟩
    try dsimp only at hq9 hB9
    obtain ⟨rfl, hq9⟩ := hq9
    have hq_68 := hq9
    have hw : HW D A s.heap (kG cI cB cZ oG Gn Gki Gle Glo Gta Gsh ++ kB cI cB cZ oB (oG 0) Bcnt Bwo Bon Btw Bnu) H_66 locs9 := z_after (wc := kG cI cB cZ oG Gn Gki Gle Glo Gta Gsh ++ kB cI cB cZ oB (oG 0) Bcnt Bwo Bon Btw Bnu) hw [0, 1, 2, 3, 4, 5, 6, 7, 8, 9, 10] [] rfl rfl (by decide) (by decide) hF9 hk9 ht9 hB9 hS9 [0, 1, 2, 3, 4, 5, 6, 7, 8, 9, 10] (by decide) rfl
    clear hF9 ht9 hvm9 hB9 hz9 hk9 hS9 hq9
    rcases hq_68 with ⟨hc_69, rfl⟩ | ⟨hc_69, rfl⟩
    · skip
      refine z_if_eq (tgt := 153) hx hb dX0_breaks_132 (by decide) (by omega) (fun hc_70 => absurd hc_70 (by omega)) (fun hc_70 => ?_)
      refine lv_aload_n hx hb dX0_breaks_135 rfl (lv_at hl 0 rfl) ?_
      refine lv_aload_n hx hb dX0_breaks_136 rfl (lv_at hl 0 rfl) ?_
      refine va_get (D := D) (ci := 0) (v := .ref (oB 3)) (C := RX0) (T := TX0) (N := 6) hx hb hts hinX0 hown hK hw.1 6 rfl rfl 4 (by decide) (hts (.fieldLink RX0 22 "CarnivalRoad$Bars" "twos" "[I") (by decide +kernel)) (fun _ h9 => h9) rfl dX0_breaks_137 ?_
      refine lv_iload_n hx hb dX0_breaks_140 rfl (lv_at hl 1 rfl) ?_
      have hi_71 : (0 : Int) ≤ k ∧ k < ((11 : Nat) : Int) := by
        first | assumption | omega | grind
      refine z_iald (n := 11) (f := Btw) hx hb hK hw 9 rfl (by decide) hi_71 dX0_breaks_141 ?_
      have hq_72 : 0 ≤ Btw k ∧ Btw k ≤ 12 := qBtw k
      refine lv_iload_n hx hb dX0_breaks_142 rfl (lv_at hl 2 rfl) ?_
      have hF9 := z_free (wc := kG cI cB cZ oG Gn Gki Gle Glo Gta Gsh ++ kB cI cB cZ oB (oG 0) Bcnt Bwo Bon Btw Bnu) hw hA [0, 1, 2, 3, 4, 5, 6, 7, 8, 9, 10] rfl
      refine va_calli (va_runV (As := [.int (zI (Btw k)), .int (zI a)]) (rest := []) ⟨hx, hb, hml, hown, hts⟩ (c_X0_isOne l D cI cB cZ oG oB H_66.size Gn Gki Gle Glo Gta Gsh Bcnt Bwo Bon Btw Bnu (Btw k) a (by omega) qGki qGle qGlo qGta qGsh (by omega) qBwo qBon qBtw qBnu (by omega) (by omega)) (cwV 2 hts gX0_breaks_X0_isOne rfl rfl rfl (by decide +kernel) ⟨Nat.le_of_ble_eq_true rfl, Nat.le_of_ble_eq_true rfl⟩) ⟨zPre_blind, va_recv hK hw.1 (ci := 0) (q0 := 6) rfl rfl, z_pre hK hw [0, 1, 2, 3, 4, 5, 6, 7, 8, 9, 10] (by decide) rfl⟩ rfl rfl hl.1 rfl (lv_room (Nat.le_of_ble_eq_true rfl)) dX0_breaks_143 ⟨Nat.zero_le _, Nat.zero_le _⟩) hw.2.2 (fun q _ h => hF9 q h) hF9 (fun r9 u9 t9 H_73 locs9 ht9 hvm9 hq9 hB9 hz9 hk9 hS9 => ?_)
      obtain ⟨r_74, rfl⟩ : ∃ z, z = u9 := ⟨_, rfl⟩
      try dsimp only at hq9 hB9
      obtain ⟨rfl, hq9⟩ := hq9
      have hq_75 := hq9
      have hw : HW D A s.heap (kG cI cB cZ oG Gn Gki Gle Glo Gta Gsh ++ kB cI cB cZ oB (oG 0) Bcnt Bwo Bon Btw Bnu) H_73 locs9 := z_after (wc := kG cI cB cZ oG Gn Gki Gle Glo Gta Gsh ++ kB cI cB cZ oB (oG 0) Bcnt Bwo Bon Btw Bnu) hw [0, 1, 2, 3, 4, 5, 6, 7, 8, 9, 10] [] rfl rfl (by decide) (by decide) hF9 hk9 ht9 hB9 hS9 [0, 1, 2, 3, 4, 5, 6, 7, 8, 9, 10] (by decide) rfl
      clear hF9 ht9 hvm9 hB9 hz9 hk9 hS9 hq9
      rcases hq_75 with ⟨hc_76, rfl⟩ | ⟨hc_76, rfl⟩
      · skip
        refine z_if_eq (tgt := 153) hx hb dX0_breaks_146 (by decide) (by omega) (fun hc_77 => absurd hc_77 (by omega)) (fun hc_77 => ?_)
        refine z_iconst hx hb dX0_breaks_149 ?_
        refine lv_goto (tgt := 154) hx hb dX0_breaks_150 (by decide) ?_
        have hv_78 : (brAt Gki Glo Gsh Bwo Bon Btw Bnu a b d k ∧ (1 : Int) = 1) ∨ (¬ brAt Gki Glo Gsh Bwo Bon Btw Bnu a b d k ∧ (1 : Int) = 0) := by
          unfold brAt brP; grind
        exact W.zret (v := zI 1) hx hb hr rfl (fun t9 ht hW => ⟨⟨zI 1, 1, rfl, ⟨rfl, hv_78⟩, by subst hAe; exact z_end hK hw ht hW⟩, by subst hAe; exact hw.2.2.F ht⟩) (by subst hAe; exact hw.2.2.2.2) dX0_breaks_154
      · skip
        refine z_if_eq (tgt := 153) hx hb dX0_breaks_146 (by decide) (by omega) (fun hc_79 => ?_) (fun hc_79 => absurd hc_79 (by omega))
        refine z_iconst hx hb dX0_breaks_153 ?_
        have hv_80 : (brAt Gki Glo Gsh Bwo Bon Btw Bnu a b d k ∧ (0 : Int) = 1) ∨ (¬ brAt Gki Glo Gsh Bwo Bon Btw Bnu a b d k ∧ (0 : Int) = 0) := by
          unfold brAt brP; grind
        exact W.zret (v := zI 0) hx hb hr rfl (fun t9 ht hW => ⟨⟨zI 0, 0, rfl, ⟨rfl, hv_80⟩, by subst hAe; exact z_end hK hw ht hW⟩, by subst hAe; exact hw.2.2.F ht⟩) (by subst hAe; exact hw.2.2.2.2) dX0_breaks_154
    · skip
      refine z_if_eq (tgt := 153) hx hb dX0_breaks_132 (by decide) (by omega) (fun hc_81 => ?_) (fun hc_81 => absurd hc_81 (by omega))
      refine z_iconst hx hb dX0_breaks_153 ?_
      have hv_82 : (brAt Gki Glo Gsh Bwo Bon Btw Bnu a b d k ∧ (0 : Int) = 1) ∨ (¬ brAt Gki Glo Gsh Bwo Bon Btw Bnu a b d k ∧ (0 : Int) = 0) := by
        unfold brAt brP; grind
      exact W.zret (v := zI 0) hx hb hr rfl (fun t9 ht hW => ⟨⟨zI 0, 0, rfl, ⟨rfl, hv_82⟩, by subst hAe; exact z_end hK hw ht hW⟩, by subst hAe; exact hw.2.2.F ht⟩) (by subst hAe; exact hw.2.2.2.2) dX0_breaks_154
  · skip
    refine z_lookupIn (k := 5) (off := 149) (tgt := 155) hx hb hc_3 dX0_breaks_6 (by decide) (by decide) (by decide) ?_
    refine lv_iload hx hb dX0_breaks_155 (lv_at hl 4 rfl) ?_
    refine z_iconst hx hb dX0_breaks_157 ?_
    refine z_icmp_ne (tgt := 193) hx hb dX0_breaks_158 (by decide) (by omega) (fun hc_83 => ?_) (fun hc_83 => ?_)
    · skip
      refine z_iconst hx hb dX0_breaks_193 ?_
      have hv_84 : (brAt Gki Glo Gsh Bwo Bon Btw Bnu a b d k ∧ (0 : Int) = 1) ∨ (¬ brAt Gki Glo Gsh Bwo Bon Btw Bnu a b d k ∧ (0 : Int) = 0) := by
        unfold brAt brP; grind
      exact W.zret (v := zI 0) hx hb hr rfl (fun t9 ht hW => ⟨⟨zI 0, 0, rfl, ⟨rfl, hv_84⟩, by subst hAe; exact z_end hK hw ht hW⟩, by subst hAe; exact hw.2.2.F ht⟩) (by subst hAe; exact hw.2.2.2.2) dX0_breaks_194
    · skip
      refine lv_aload_n hx hb dX0_breaks_161 rfl (lv_at hl 0 rfl) ?_
      refine va_get (D := D) (ci := 0) (v := .ref (oG 0)) (C := RX0) (T := TX0) (N := 6) hx hb hts hinX0 hown hK hw.1 6 rfl rfl 0 (by decide) (hts (.fieldLink RX0 28 "CarnivalRoad$Bars" "guests" "LCarnivalRoad$Guests;") (by decide +kernel)) (fun _ h9 => h9) rfl dX0_breaks_162 ?_
      refine va_get (D := D) (ci := 2) (v := .ref (oG 3)) (C := RX2) (T := TX2) (N := 6) hx hb hts hinX2 hown hK hw.1 0 rfl rfl 3 (by decide) (hts (.fieldLink RX0 41 "CarnivalRoad$Guests" "louds" "[I") (by decide +kernel)) (fun _ h9 => h9) rfl dX0_breaks_165 ?_
      refine lv_iload_n hx hb dX0_breaks_168 rfl (lv_at hl 2 rfl) ?_
      have hi_85 : (0 : Int) ≤ a ∧ a < ((8 : Nat) : Int) := by
        first | assumption | omega | grind
      refine z_iald (n := 8) (f := Glo) hx hb hK hw 3 rfl (by decide) hi_85 dX0_breaks_169 ?_
      have hq_86 : 0 ≤ Glo a ∧ Glo a ≤ 9 := qGlo a
      refine lv_aload_n hx hb dX0_breaks_170 rfl (lv_at hl 0 rfl) ?_
      refine va_get (D := D) (ci := 0) (v := .ref (oG 0)) (C := RX0) (T := TX0) (N := 6) hx hb hts hinX0 hown hK hw.1 6 rfl rfl 0 (by decide) (hts (.fieldLink RX0 28 "CarnivalRoad$Bars" "guests" "LCarnivalRoad$Guests;") (by decide +kernel)) (fun _ h9 => h9) rfl dX0_breaks_171 ?_
      refine va_get (D := D) (ci := 2) (v := .ref (oG 3)) (C := RX2) (T := TX2) (N := 6) hx hb hts hinX2 hown hK hw.1 0 rfl rfl 3 (by decide) (hts (.fieldLink RX0 41 "CarnivalRoad$Guests" "louds" "[I") (by decide +kernel)) (fun _ h9 => h9) rfl dX0_breaks_174 ?_
      refine lv_iload_n hx hb dX0_breaks_177 rfl (lv_at hl 3 rfl) ?_
      have hi_87 : (0 : Int) ≤ b ∧ b < ((8 : Nat) : Int) := by
        first | assumption | omega | grind
      refine z_iald (n := 8) (f := Glo) hx hb hK hw 3 rfl (by decide) hi_87 dX0_breaks_178 ?_
      have hq_88 : 0 ≤ Glo b ∧ Glo b ≤ 9 := qGlo b
      refine z_iadd hx hb dX0_breaks_179 ?_
      refine lv_aload_n hx hb dX0_breaks_180 rfl (lv_at hl 0 rfl) ?_
      refine va_get (D := D) (ci := 0) (v := .ref (oB 4)) (C := RX0) (T := TX0) (N := 6) hx hb hts hinX0 hown hK hw.1 6 rfl rfl 5 (by decide) (hts (.fieldLink RX0 25 "CarnivalRoad$Bars" "numbers" "[I") (by decide +kernel)) (fun _ h9 => h9) rfl dX0_breaks_181 ?_
      refine lv_iload_n hx hb dX0_breaks_184 rfl (lv_at hl 1 rfl) ?_
      have hi_89 : (0 : Int) ≤ k ∧ k < ((11 : Nat) : Int) := by
        first | assumption | omega | grind
      refine z_iald (n := 11) (f := Bnu) hx hb hK hw 10 rfl (by decide) hi_89 dX0_breaks_185 ?_
      have hq_90 : 0 ≤ Bnu k ∧ Bnu k ≤ 18 := qBnu k
      refine z_icmp_le (tgt := 193) hx hb dX0_breaks_186 (by decide) (by omega) (fun hc_91 => ?_) (fun hc_91 => ?_)
      · skip
        refine z_iconst hx hb dX0_breaks_193 ?_
        have hv_92 : (brAt Gki Glo Gsh Bwo Bon Btw Bnu a b d k ∧ (0 : Int) = 1) ∨ (¬ brAt Gki Glo Gsh Bwo Bon Btw Bnu a b d k ∧ (0 : Int) = 0) := by
          unfold brAt brP; grind
        exact W.zret (v := zI 0) hx hb hr rfl (fun t9 ht hW => ⟨⟨zI 0, 0, rfl, ⟨rfl, hv_92⟩, by subst hAe; exact z_end hK hw ht hW⟩, by subst hAe; exact hw.2.2.F ht⟩) (by subst hAe; exact hw.2.2.2.2) dX0_breaks_194
      · skip
        refine z_iconst hx hb dX0_breaks_189 ?_
        refine lv_goto (tgt := 194) hx hb dX0_breaks_190 (by decide) ?_
        have hv_93 : (brAt Gki Glo Gsh Bwo Bon Btw Bnu a b d k ∧ (1 : Int) = 1) ∨ (¬ brAt Gki Glo Gsh Bwo Bon Btw Bnu a b d k ∧ (1 : Int) = 0) := by
          unfold brAt brP; grind
        exact W.zret (v := zI 1) hx hb hr rfl (fun t9 ht hW => ⟨⟨zI 1, 1, rfl, ⟨rfl, hv_93⟩, by subst hAe; exact z_end hK hw ht hW⟩, by subst hAe; exact hw.2.2.F ht⟩) (by subst hAe; exact hw.2.2.2.2) dX0_breaks_194
  · skip
    refine z_lookupIn (k := 11) (off := 189) (tgt := 195) hx hb hc_3 dX0_breaks_6 (by decide) (by decide) (by decide) ?_
    refine lv_iload hx hb dX0_breaks_195 (lv_at hl 4 rfl) ?_
    refine z_iconst hx hb dX0_breaks_197 ?_
    refine z_icmp_gt (tgt := 229) hx hb dX0_breaks_198 (by decide) (by omega) (fun hc_94 => ?_) (fun hc_94 => ?_)
    · skip
      refine z_iconst hx hb dX0_breaks_229 ?_
      have hv_95 : (brAt Gki Glo Gsh Bwo Bon Btw Bnu a b d k ∧ (0 : Int) = 1) ∨ (¬ brAt Gki Glo Gsh Bwo Bon Btw Bnu a b d k ∧ (0 : Int) = 0) := by
        unfold brAt brP; grind
      exact W.zret (v := zI 0) hx hb hr rfl (fun t9 ht hW => ⟨⟨zI 0, 0, rfl, ⟨rfl, hv_95⟩, by subst hAe; exact z_end hK hw ht hW⟩, by subst hAe; exact hw.2.2.F ht⟩) (by subst hAe; exact hw.2.2.2.2) dX0_breaks_230
    · skip
      refine lv_aload_n hx hb dX0_breaks_201 rfl (lv_at hl 0 rfl) ?_
      refine va_get (D := D) (ci := 0) (v := .ref (oG 0)) (C := RX0) (T := TX0) (N := 6) hx hb hts hinX0 hown hK hw.1 6 rfl rfl 0 (by decide) (hts (.fieldLink RX0 28 "CarnivalRoad$Bars" "guests" "LCarnivalRoad$Guests;") (by decide +kernel)) (fun _ h9 => h9) rfl dX0_breaks_202 ?_
      refine lv_iload_n hx hb dX0_breaks_205 rfl (lv_at hl 2 rfl) ?_
      refine lv_iload_n hx hb dX0_breaks_206 rfl (lv_at hl 3 rfl) ?_
      have hF9 := z_free (wc := kG cI cB cZ oG Gn Gki Gle Glo Gta Gsh) hw hA [0, 1, 2, 3, 4, 5] rfl
      refine va_calli (va_runV (As := [.int (zI a), .int (zI b)]) (rest := []) ⟨hx, hb, hml, hown, hts⟩ (c_X2_frightens l D cI cB cZ oG s.heap.size Gn Gki Gle Glo Gta Gsh a b (by omega) qGki qGle qGlo qGta qGsh (by omega) (by omega)) (cwV 2 hts gX0_breaks_X2_frightens rfl rfl rfl (by decide +kernel) ⟨Nat.le_of_ble_eq_true rfl, Nat.le_of_ble_eq_true rfl⟩) ⟨zPre_blind, va_recv hK hw.1 (ci := 2) (q0 := 0) rfl rfl, z_pre hK hw [0, 1, 2, 3, 4, 5] (by decide) rfl⟩ rfl rfl hl.1 rfl (lv_room (Nat.le_of_ble_eq_true rfl)) dX0_breaks_207 ⟨Nat.zero_le _, Nat.zero_le _⟩) hw.2.2 (fun q _ h => hF9 q h) hF9 (fun r9 u9 t9 H_96 locs9 ht9 hvm9 hq9 hB9 hz9 hk9 hS9 => ?_)
      obtain ⟨r_97, rfl⟩ : ∃ z, z = u9 := ⟨_, rfl⟩
      try dsimp only at hq9 hB9
      obtain ⟨rfl, hq9⟩ := hq9
      have hq_98 := hq9
      have hw : HW D A s.heap (kG cI cB cZ oG Gn Gki Gle Glo Gta Gsh ++ kB cI cB cZ oB (oG 0) Bcnt Bwo Bon Btw Bnu) H_96 locs9 := z_after (wc := kG cI cB cZ oG Gn Gki Gle Glo Gta Gsh) hw [0, 1, 2, 3, 4, 5] [6, 7, 8, 9, 10] rfl rfl (by decide) (by decide) hF9 hk9 ht9 hB9 hS9 [5, 6, 7, 8, 9, 10, 0, 1, 2, 3, 4] (by decide) rfl
      clear hF9 ht9 hvm9 hB9 hz9 hk9 hS9 hq9
      rcases hq_98 with ⟨hc_99, rfl⟩ | ⟨hc_99, rfl⟩
      · skip
        refine z_if_ne (tgt := 225) hx hb dX0_breaks_210 (by decide) (by omega) (fun hc_100 => ?_) (fun hc_100 => absurd hc_100 (by omega))
        refine z_iconst hx hb dX0_breaks_225 ?_
        refine lv_goto (tgt := 230) hx hb dX0_breaks_226 (by decide) ?_
        have hv_101 : (brAt Gki Glo Gsh Bwo Bon Btw Bnu a b d k ∧ (1 : Int) = 1) ∨ (¬ brAt Gki Glo Gsh Bwo Bon Btw Bnu a b d k ∧ (1 : Int) = 0) := by
          unfold brAt brP; grind
        exact W.zret (v := zI 1) hx hb hr rfl (fun t9 ht hW => ⟨⟨zI 1, 1, rfl, ⟨rfl, hv_101⟩, by subst hAe; exact z_end hK hw ht hW⟩, by subst hAe; exact hw.2.2.F ht⟩) (by subst hAe; exact hw.2.2.2.2) dX0_breaks_230
      · skip
        refine z_if_ne (tgt := 225) hx hb dX0_breaks_210 (by decide) (by omega) (fun hc_102 => absurd hc_102 (by omega)) (fun hc_102 => ?_)
        refine lv_aload_n hx hb dX0_breaks_213 rfl (lv_at hl 0 rfl) ?_
        refine va_get (D := D) (ci := 0) (v := .ref (oG 0)) (C := RX0) (T := TX0) (N := 6) hx hb hts hinX0 hown hK hw.1 6 rfl rfl 0 (by decide) (hts (.fieldLink RX0 28 "CarnivalRoad$Bars" "guests" "LCarnivalRoad$Guests;") (by decide +kernel)) (fun _ h9 => h9) rfl dX0_breaks_214 ?_
        refine lv_iload_n hx hb dX0_breaks_217 rfl (lv_at hl 3 rfl) ?_
        refine lv_iload_n hx hb dX0_breaks_218 rfl (lv_at hl 2 rfl) ?_
        have hF9 := z_free (wc := kG cI cB cZ oG Gn Gki Gle Glo Gta Gsh) hw hA [0, 1, 2, 3, 4, 5] rfl
        refine va_calli (va_runV (As := [.int (zI b), .int (zI a)]) (rest := []) ⟨hx, hb, hml, hown, hts⟩ (c_X2_frightens l D cI cB cZ oG H_96.size Gn Gki Gle Glo Gta Gsh b a (by omega) qGki qGle qGlo qGta qGsh (by omega) (by omega)) (cwV 2 hts gX0_breaks_X2_frightens rfl rfl rfl (by decide +kernel) ⟨Nat.le_of_ble_eq_true rfl, Nat.le_of_ble_eq_true rfl⟩) ⟨zPre_blind, va_recv hK hw.1 (ci := 2) (q0 := 0) rfl rfl, z_pre hK hw [0, 1, 2, 3, 4, 5] (by decide) rfl⟩ rfl rfl hl.1 rfl (lv_room (Nat.le_of_ble_eq_true rfl)) dX0_breaks_219 ⟨Nat.zero_le _, Nat.zero_le _⟩) hw.2.2 (fun q _ h => hF9 q h) hF9 (fun r9 u9 t9 H_103 locs9 ht9 hvm9 hq9 hB9 hz9 hk9 hS9 => ?_)
        obtain ⟨r_104, rfl⟩ : ∃ z, z = u9 := ⟨_, rfl⟩
        try dsimp only at hq9 hB9
        obtain ⟨rfl, hq9⟩ := hq9
        have hq_105 := hq9
        have hw : HW D A s.heap (kG cI cB cZ oG Gn Gki Gle Glo Gta Gsh ++ kB cI cB cZ oB (oG 0) Bcnt Bwo Bon Btw Bnu) H_103 locs9 := z_after (wc := kG cI cB cZ oG Gn Gki Gle Glo Gta Gsh) hw [0, 1, 2, 3, 4, 5] [6, 7, 8, 9, 10] rfl rfl (by decide) (by decide) hF9 hk9 ht9 hB9 hS9 [5, 6, 7, 8, 9, 10, 0, 1, 2, 3, 4] (by decide) rfl
        clear hF9 ht9 hvm9 hB9 hz9 hk9 hS9 hq9
        rcases hq_105 with ⟨hc_106, rfl⟩ | ⟨hc_106, rfl⟩
        · skip
          refine z_if_eq (tgt := 229) hx hb dX0_breaks_222 (by decide) (by omega) (fun hc_107 => absurd hc_107 (by omega)) (fun hc_107 => ?_)
          refine z_iconst hx hb dX0_breaks_225 ?_
          refine lv_goto (tgt := 230) hx hb dX0_breaks_226 (by decide) ?_
          have hv_108 : (brAt Gki Glo Gsh Bwo Bon Btw Bnu a b d k ∧ (1 : Int) = 1) ∨ (¬ brAt Gki Glo Gsh Bwo Bon Btw Bnu a b d k ∧ (1 : Int) = 0) := by
            unfold brAt brP; grind
          exact W.zret (v := zI 1) hx hb hr rfl (fun t9 ht hW => ⟨⟨zI 1, 1, rfl, ⟨rfl, hv_108⟩, by subst hAe; exact z_end hK hw ht hW⟩, by subst hAe; exact hw.2.2.F ht⟩) (by subst hAe; exact hw.2.2.2.2) dX0_breaks_230
        · skip
          refine z_if_eq (tgt := 229) hx hb dX0_breaks_222 (by decide) (by omega) (fun hc_109 => ?_) (fun hc_109 => absurd hc_109 (by omega))
          refine z_iconst hx hb dX0_breaks_229 ?_
          have hv_110 : (brAt Gki Glo Gsh Bwo Bon Btw Bnu a b d k ∧ (0 : Int) = 1) ∨ (¬ brAt Gki Glo Gsh Bwo Bon Btw Bnu a b d k ∧ (0 : Int) = 0) := by
            unfold brAt brP; grind
          exact W.zret (v := zI 0) hx hb hr rfl (fun t9 ht hW => ⟨⟨zI 0, 0, rfl, ⟨rfl, hv_110⟩, by subst hAe; exact z_end hK hw ht hW⟩, by subst hAe; exact hw.2.2.F ht⟩) (by subst hAe; exact hw.2.2.2.2) dX0_breaks_230
set_option maxRecDepth 100000 in
set_option maxHeartbeats 4000000 in
theorem c_X0_anyBreaks (l : Launch) (D : va_G) (cI cB cZ : ClassId) (oG : Nat → Nat) (oB : Nat → Nat) (sz : Nat) (Gn : Int) (Gki : Int → Int) (Gle : Int → Int) (Glo : Int → Int) (Gta : Int → Int) (Gsh : Int → Int) (Bcnt : Int) (Bwo : Int → Int) (Bon : Int → Int) (Btw : Int → Int) (Bnu : Int → Int) (a : Int) (b : Int) (d : Int) (qGn : 0 ≤ Gn ∧ Gn ≤ 8) (qGki : RA Gki (0) 4) (qGle : RA Gle (0) 5) (qGlo : RA Glo (0) 9) (qGta : RA Gta (0) 9) (qGsh : RA Gsh (0) 9) (qBcnt : 0 ≤ Bcnt ∧ Bcnt ≤ 10) (qBwo : RA Bwo (0) 11) (qBon : RA Bon (0) 12) (qBtw : RA Btw (0) 12) (qBnu : RA Bnu (0) 18) (qa : 0 ≤ a ∧ a ≤ 7) (qb : 0 ≤ b ∧ b ≤ 7) (qd : 0 ≤ d ∧ d ≤ 7) : Met l yX0_anyBreaks wsX0_anyBreaks ({ frames := 2, cells := 0, slots := 0, locals := 46 }) (va_Pc [.ref (oB 0), .int (zI a), .int (zI b), .int (zI d)] (zPre D cI cB cZ sz (kG cI cB cZ oG Gn Gki Gle Glo Gta Gsh ++ kB cI cB cZ oB (oG 0) Bcnt Bwo Bon Btw Bnu))) (va_Qi (fun (r9 : Int32) (u9 : Int) => r9 = zI u9 ∧ (((anyB Gki Glo Gsh Bwo Bon Btw Bnu Bcnt a b d ∧ u9 = 1) ∨ (¬ anyB Gki Glo Gsh Bwo Bon Btw Bnu Bcnt a b d ∧ u9 = 0)))) (fun u9 t9 => zAt D cI cB cZ (va_A (kG cI cB cZ oG Gn Gki Gle Glo Gta Gsh ++ kB cI cB cZ oB (oG 0) Bcnt Bwo Bon Btw Bnu) sz) (kG cI cB cZ oG Gn Gki Gle Glo Gta Gsh ++ kB cI cB cZ oB (oG 0) Bcnt Bwo Bon Btw Bnu) t9) (va_A (kG cI cB cZ oG Gn Gki Gle Glo Gta Gsh ++ kB cI cB cZ oB (oG 0) Bcnt Bwo Bon Btw Bnu) sz)) 0 0 (va_A (kG cI cB cZ oG Gn Gki Gle Glo Gta Gsh ++ kB cI cB cZ oB (oG 0) Bcnt Bwo Bon Btw Bnu) sz) := by
  refine Met.ofW (cc := cX0_anyBreaks) (maxL := 5) (ret := (some .boolean)) (by decide) rfl ?_
  intro pp ee s mm aa bw mt cd s₁ BL hml hv
  obtain ⟨rfl, hsz, hP, hK, hD0⟩ := hv
  have hx := BL.exec
  have hb := BL.bytes
  have hr := BL.returns
  have hts := atoms_spec (ws := wsX0_anyBreaks) BL.pre
  have hown : s.vm.findClass RX0 = some mm.cls := findClass_of_methodNamed BL.named
  have hlocks := BL.notSynchronized
  subst hsz
  generalize hAe : va_A (kG cI cB cZ oG Gn Gki Gle Glo Gta Gsh ++ kB cI cB cZ oB (oG 0) Bcnt Bwo Bon Btw Bnu) s.heap.size = A
  have hA : ∀ q : Nat, s.heap.size ≤ q → A q := fun q h => by rw [← hAe]; exact Or.inr h
  have hw : HW D A s.heap (kG cI cB cZ oG Gn Gki Gle Glo Gta Gsh ++ kB cI cB cZ oB (oG 0) Bcnt Bwo Bon Btw Bnu) s.heap [] := z_start hAe hP hD0
  clear hP hD0
  have hl := lv_entry ([.ref (oB 0), .int (zI a), .int (zI b), .int (zI d)]) (n := 5) (Nat.le_of_ble_eq_true rfl)
  rw [lg_entry_eq]
  generalize (lg_sl ([.ref (oB 0), .int (zI a), .int (zI b), .int (zI d)]) ++ List.replicate (5 - (lg_sl ([.ref (oB 0), .int (zI a), .int (zI b), .int (zI d)])).length) Slot.unset).toArray = ls at hl ⊢
  have hl : lv_has ls 5 [(0, .ref (oB 0)), (1, .int (zI a)), (2, .int (zI b)), (3, .int (zI d))] := hl
  have hinX0 : ∀ w ∈ wsX00, w ∈ wsX0_anyBreaks := by decide +kernel
  refine z_iconst hx hb dX0_anyBreaks_0 ?_
  refine lv_istore (lv' := [(4, .int (zI 0)), (0, .ref (oB 0)), (1, .int (zI a)), (2, .int (zI b)), (3, .int (zI d))]) hx hb dX0_anyBreaks_1 hl (by decide) rfl (fun ls hl => ?_)
  have hv_1 : 0 ≤ (0 : Int) ∧ (0 : Int) ≤ Bcnt + 1 := by
    first | assumption | omega | grind
  have hv_2 : ∀ k, 0 ≤ k → k < (0 : Int) → k < Bcnt → ¬ brAt Gki Glo Gsh Bwo Bon Btw Bnu a b d k := by
    exact all_0
  have hv_3 : Bcnt < (0 : Int) → ¬ brAt Gki Glo Gsh Bwo Bon Btw Bnu a b d 10 := by
    intro q; omega
  refine z_loop (σ := Int) (μ := fun x9 => (12 - x9).toNat) (I := fun x9 H locs ls => (0 ≤ x9 ∧ x9 ≤ Bcnt + 1) ∧ (∀ k, 0 ≤ k → k < x9 → k < Bcnt → ¬ brAt Gki Glo Gsh Bwo Bon Btw Bnu a b d k) ∧ (Bcnt < x9 → ¬ brAt Gki Glo Gsh Bwo Bon Btw Bnu a b d 10) ∧ HW D A s.heap (kG cI cB cZ oG Gn Gki Gle Glo Gta Gsh ++ kB cI cB cZ oB (oG 0) Bcnt Bwo Bon Btw Bnu) H locs ∧ lv_has ls 5 [(0, .ref (oB 0)), (1, .int (zI a)), (2, .int (zI b)), (3, .int (zI d)), (4, .int (zI x9))]) 0 ⟨hv_1, hv_2, hv_3, hw, lv_sub hl [1, 2, 3, 4, 0] rfl⟩ ?_
  clear hw hl
  intro i_5 H locs ls hI ih_4
  try dsimp only at hI
  obtain ⟨hI_6, hI_7, hI_8, hw, hl⟩ := hI
  refine lv_iload hx hb dX0_anyBreaks_3 (lv_at hl 4 rfl) ?_
  refine lv_aload_n hx hb dX0_anyBreaks_5 rfl (lv_at hl 0 rfl) ?_
  refine va_get (D := D) (ci := 0) (v := .int (zI Bcnt)) (C := RX0) (T := TX0) (N := 6) hx hb hts hinX0 hown hK hw.1 6 rfl rfl 1 (by decide) (hts (.fieldLink RX0 9 "CarnivalRoad$Bars" "count" "I") (by decide +kernel)) (fun _ h9 => h9) rfl dX0_anyBreaks_6 ?_
  refine z_icmp_gt (tgt := 36) hx hb dX0_anyBreaks_9 (by decide) (by omega) (fun hc_9 => ?_) (fun hc_9 => ?_)
  · skip
    refine z_iconst hx hb dX0_anyBreaks_36 ?_
    have hv_10 : (anyB Gki Glo Gsh Bwo Bon Btw Bnu Bcnt a b d ∧ (0 : Int) = 1) ∨ (¬ anyB Gki Glo Gsh Bwo Bon Btw Bnu Bcnt a b d ∧ (0 : Int) = 0) := by
      refine Or.inr ⟨?_, rfl⟩
      unfold anyB
      grind
    exact W.zret (v := zI 0) hx hb hr rfl (fun t9 ht hW => ⟨⟨zI 0, 0, rfl, ⟨rfl, hv_10⟩, by subst hAe; exact z_end hK hw ht hW⟩, by subst hAe; exact hw.2.2.F ht⟩) (by subst hAe; exact hw.2.2.2.2) dX0_anyBreaks_37
  · skip
    refine lv_aload_n hx hb dX0_anyBreaks_12 rfl (lv_at hl 0 rfl) ?_
    refine lv_aload_n hx hb dX0_anyBreaks_13 rfl (lv_at hl 0 rfl) ?_
    refine lv_iload hx hb dX0_anyBreaks_14 (lv_at hl 4 rfl) ?_
    have hF9 := z_free (wc := kB cI cB cZ oB (oG 0) Bcnt Bwo Bon Btw Bnu) hw hA [6, 7, 8, 9, 10] rfl
    refine va_calli (va_runV (As := [.int (zI i_5)]) (rest := [.ref (oB 0)]) ⟨hx, hb, hml, hown, hts⟩ (c_X0_barAt l D cI cB cZ oB (oG 0) H.size Bcnt Bwo Bon Btw Bnu i_5 (by omega) qBwo qBon qBtw qBnu (by omega)) (cwV 1 hts gX0_anyBreaks_X0_barAt rfl rfl rfl (by decide +kernel) ⟨Nat.le_of_ble_eq_true rfl, Nat.le_of_ble_eq_true rfl⟩) ⟨zPre_blind, va_recv hK hw.1 (ci := 0) (q0 := 6) rfl rfl, z_pre hK hw [6, 7, 8, 9, 10] (by decide) rfl⟩ rfl rfl hl.1 rfl (lv_room (Nat.le_of_ble_eq_true rfl)) dX0_anyBreaks_16 ⟨Nat.zero_le _, Nat.zero_le _⟩) hw.2.2 (fun q _ h => hF9 q h) hF9 (fun r9 u9 t9 H_11 locs9 ht9 hvm9 hq9 hB9 hz9 hk9 hS9 => ?_)
    obtain ⟨r_12, rfl⟩ : ∃ z, z = u9 := ⟨_, rfl⟩
    try dsimp only at hq9 hB9
    obtain ⟨rfl, hq9⟩ := hq9
    have hq_13 := hq9
    have hw : HW D A s.heap (kG cI cB cZ oG Gn Gki Gle Glo Gta Gsh ++ kB cI cB cZ oB (oG 0) Bcnt Bwo Bon Btw Bnu) H_11 locs9 := z_after (wc := kB cI cB cZ oB (oG 0) Bcnt Bwo Bon Btw Bnu) hw [6, 7, 8, 9, 10] [0, 1, 2, 3, 4, 5] rfl rfl (by decide) (by decide) hF9 hk9 ht9 hB9 hS9 [0, 1, 2, 3, 4, 5, 6, 7, 8, 9, 10] (by decide) rfl
    clear hF9 ht9 hvm9 hB9 hz9 hk9 hS9 hq9
    refine lv_iload_n hx hb dX0_anyBreaks_19 rfl (lv_at hl 1 rfl) ?_
    refine lv_iload_n hx hb dX0_anyBreaks_20 rfl (lv_at hl 2 rfl) ?_
    refine lv_iload_n hx hb dX0_anyBreaks_21 rfl (lv_at hl 3 rfl) ?_
    have hF9 := z_free (wc := kG cI cB cZ oG Gn Gki Gle Glo Gta Gsh ++ kB cI cB cZ oB (oG 0) Bcnt Bwo Bon Btw Bnu) hw hA [0, 1, 2, 3, 4, 5, 6, 7, 8, 9, 10] rfl
    refine va_calli (va_runV (As := [.int (zI r_12), .int (zI a), .int (zI b), .int (zI d)]) (rest := []) ⟨hx, hb, hml, hown, hts⟩ (c_X0_breaks l D cI cB cZ oG oB H_11.size Gn Gki Gle Glo Gta Gsh Bcnt Bwo Bon Btw Bnu r_12 a b d (by omega) qGki qGle qGlo qGta qGsh (by omega) qBwo qBon qBtw qBnu (by omega) (by omega) (by omega) (by omega)) (cwV 4 hts gX0_anyBreaks_X0_breaks rfl rfl rfl (by decide +kernel) ⟨Nat.le_of_ble_eq_true rfl, Nat.le_of_ble_eq_true rfl⟩) ⟨zPre_blind, va_recv hK hw.1 (ci := 0) (q0 := 6) rfl rfl, z_pre hK hw [0, 1, 2, 3, 4, 5, 6, 7, 8, 9, 10] (by decide) rfl⟩ rfl rfl hl.1 rfl (lv_room (Nat.le_of_ble_eq_true rfl)) dX0_anyBreaks_22 ⟨Nat.zero_le _, Nat.zero_le _⟩) hw.2.2 (fun q _ h => hF9 q h) hF9 (fun r9 u9 t9 H_14 locs9 ht9 hvm9 hq9 hB9 hz9 hk9 hS9 => ?_)
    obtain ⟨r_15, rfl⟩ : ∃ z, z = u9 := ⟨_, rfl⟩
    try dsimp only at hq9 hB9
    obtain ⟨rfl, hq9⟩ := hq9
    have hq_16 := hq9
    have hw : HW D A s.heap (kG cI cB cZ oG Gn Gki Gle Glo Gta Gsh ++ kB cI cB cZ oB (oG 0) Bcnt Bwo Bon Btw Bnu) H_14 locs9 := z_after (wc := kG cI cB cZ oG Gn Gki Gle Glo Gta Gsh ++ kB cI cB cZ oB (oG 0) Bcnt Bwo Bon Btw Bnu) hw [0, 1, 2, 3, 4, 5, 6, 7, 8, 9, 10] [] rfl rfl (by decide) (by decide) hF9 hk9 ht9 hB9 hS9 [0, 1, 2, 3, 4, 5, 6, 7, 8, 9, 10] (by decide) rfl
    clear hF9 ht9 hvm9 hB9 hz9 hk9 hS9 hq9
    rcases hq_16 with ⟨hc_17, rfl⟩ | ⟨hc_17, rfl⟩
    · skip
      refine z_if_eq (tgt := 30) hx hb dX0_anyBreaks_25 (by decide) (by omega) (fun hc_18 => absurd hc_18 (by omega)) (fun hc_18 => ?_)
      refine z_iconst hx hb dX0_anyBreaks_28 ?_
      have hv_19 : (anyB Gki Glo Gsh Bwo Bon Btw Bnu Bcnt a b d ∧ (1 : Int) = 1) ∨ (¬ anyB Gki Glo Gsh Bwo Bon Btw Bnu Bcnt a b d ∧ (1 : Int) = 0) := by
        refine Or.inl ⟨?_, rfl⟩
        unfold anyB
        grind
      exact W.zret (v := zI 1) hx hb hr rfl (fun t9 ht hW => ⟨⟨zI 1, 1, rfl, ⟨rfl, hv_19⟩, by subst hAe; exact z_end hK hw ht hW⟩, by subst hAe; exact hw.2.2.F ht⟩) (by subst hAe; exact hw.2.2.2.2) dX0_anyBreaks_29
    · skip
      refine z_if_eq (tgt := 30) hx hb dX0_anyBreaks_25 (by decide) (by omega) (fun hc_20 => ?_) (fun hc_20 => absurd hc_20 (by omega))
      refine z_iinc (k := 4) (lv' := [(4, .int (zI (i_5 + 1))), (0, .ref (oB 0)), (1, .int (zI a)), (2, .int (zI b)), (3, .int (zI d))]) hx hb dX0_anyBreaks_30 hl rfl (by decide) rfl (fun ls hl => ?_)
      refine lv_goto (tgt := 3) hx hb dX0_anyBreaks_33 (by decide) ?_
      have hv_21 : 0 ≤ (i_5 + 1) ∧ (i_5 + 1) ≤ Bcnt + 1 := by
        first | assumption | omega | grind
      have hv_22 : ∀ k, 0 ≤ k → k < (i_5 + 1) → k < Bcnt → ¬ brAt Gki Glo Gsh Bwo Bon Btw Bnu a b d k := by
        refine all_s (by assumption) ?_
        grind
      have hv_23 : Bcnt < (i_5 + 1) → ¬ brAt Gki Glo Gsh Bwo Bon Btw Bnu a b d 10 := by
        grind
      have hm_24 : (12 - (i_5 + 1)).toNat < (12 - i_5).toNat := by
        first | assumption | omega | grind
      exact ih_4 (i_5 + 1) _ _ _ ⟨hv_21, hv_22, hv_23, hw, lv_sub hl [1, 2, 3, 4, 0] rfl⟩ hm_24
set_option maxRecDepth 100000 in
set_option maxHeartbeats 4000000 in
theorem c_X0_mayEnd (l : Launch) (D : va_G) (cI cB cZ : ClassId) (oG : Nat → Nat) (oB : Nat → Nat) (sz : Nat) (Gn : Int) (Gki : Int → Int) (Gle : Int → Int) (Glo : Int → Int) (Gta : Int → Int) (Gsh : Int → Int) (Bcnt : Int) (Bwo : Int → Int) (Bon : Int → Int) (Btw : Int → Int) (Bnu : Int → Int) (w : Int) (g : Int) (qGn : 0 ≤ Gn ∧ Gn ≤ 8) (qGki : RA Gki (0) 4) (qGle : RA Gle (0) 5) (qGlo : RA Glo (0) 9) (qGta : RA Gta (0) 9) (qGsh : RA Gsh (0) 9) (qBcnt : 0 ≤ Bcnt ∧ Bcnt ≤ 10) (qBwo : RA Bwo (0) 11) (qBon : RA Bon (0) 12) (qBtw : RA Btw (0) 12) (qBnu : RA Bnu (0) 18) (qw : 0 ≤ w ∧ w ≤ 11) (qg : 0 ≤ g ∧ g ≤ 7) : Met l yX0_mayEnd wsX0_mayEnd ({ frames := 1, cells := 0, slots := 0, locals := 22 }) (va_Pc [.ref (oB 0), .int (zI w), .int (zI g)] (zPre D cI cB cZ sz (kG cI cB cZ oG Gn Gki Gle Glo Gta Gsh ++ kB cI cB cZ oB (oG 0) Bcnt Bwo Bon Btw Bnu))) (va_Qi (fun (r9 : Int32) (u9 : Int) => r9 = zI u9 ∧ ((((∀ k, 0 ≤ k → k < Bcnt → Bwo k = w → isP Gki (Bon k) g) ∧ u9 = 1) ∨ (¬ (∀ k, 0 ≤ k → k < Bcnt → Bwo k = w → isP Gki (Bon k) g) ∧ u9 = 0)))) (fun u9 t9 => zAt D cI cB cZ (va_A (kG cI cB cZ oG Gn Gki Gle Glo Gta Gsh ++ kB cI cB cZ oB (oG 0) Bcnt Bwo Bon Btw Bnu) sz) (kG cI cB cZ oG Gn Gki Gle Glo Gta Gsh ++ kB cI cB cZ oB (oG 0) Bcnt Bwo Bon Btw Bnu) t9) (va_A (kG cI cB cZ oG Gn Gki Gle Glo Gta Gsh ++ kB cI cB cZ oB (oG 0) Bcnt Bwo Bon Btw Bnu) sz)) 0 0 (va_A (kG cI cB cZ oG Gn Gki Gle Glo Gta Gsh ++ kB cI cB cZ oB (oG 0) Bcnt Bwo Bon Btw Bnu) sz) := by
  refine Met.ofW (cc := cX0_mayEnd) (maxL := 4) (ret := (some .boolean)) (by decide) rfl ?_
  intro pp ee s mm aa bw mt cd s₁ BL hml hv
  obtain ⟨rfl, hsz, hP, hK, hD0⟩ := hv
  have hx := BL.exec
  have hb := BL.bytes
  have hr := BL.returns
  have hts := atoms_spec (ws := wsX0_mayEnd) BL.pre
  have hown : s.vm.findClass RX0 = some mm.cls := findClass_of_methodNamed BL.named
  have hlocks := BL.notSynchronized
  subst hsz
  generalize hAe : va_A (kG cI cB cZ oG Gn Gki Gle Glo Gta Gsh ++ kB cI cB cZ oB (oG 0) Bcnt Bwo Bon Btw Bnu) s.heap.size = A
  have hA : ∀ q : Nat, s.heap.size ≤ q → A q := fun q h => by rw [← hAe]; exact Or.inr h
  have hw : HW D A s.heap (kG cI cB cZ oG Gn Gki Gle Glo Gta Gsh ++ kB cI cB cZ oB (oG 0) Bcnt Bwo Bon Btw Bnu) s.heap [] := z_start hAe hP hD0
  clear hP hD0
  have hl := lv_entry ([.ref (oB 0), .int (zI w), .int (zI g)]) (n := 4) (Nat.le_of_ble_eq_true rfl)
  rw [lg_entry_eq]
  generalize (lg_sl ([.ref (oB 0), .int (zI w), .int (zI g)]) ++ List.replicate (4 - (lg_sl ([.ref (oB 0), .int (zI w), .int (zI g)])).length) Slot.unset).toArray = ls at hl ⊢
  have hl : lv_has ls 4 [(0, .ref (oB 0)), (1, .int (zI w)), (2, .int (zI g))] := hl
  have hinX0 : ∀ w ∈ wsX00, w ∈ wsX0_mayEnd := by decide +kernel
  refine z_iconst hx hb dX0_mayEnd_0 ?_
  refine lv_istore_n (lv' := [(3, .int (zI 0)), (0, .ref (oB 0)), (1, .int (zI w)), (2, .int (zI g))]) hx hb dX0_mayEnd_1 rfl hl (by decide) rfl (fun ls hl => ?_)
  have hv_1 : 0 ≤ (0 : Int) ∧ (0 : Int) ≤ Bcnt := by
    first | assumption | omega | grind
  have hv_2 : ∀ k, 0 ≤ k → k < (0 : Int) → Bwo k = w → isP Gki (Bon k) g := by
    exact all_0
  refine z_loop (σ := Int) (μ := fun x9 => (12 - x9).toNat) (I := fun x9 H locs ls => (0 ≤ x9 ∧ x9 ≤ Bcnt) ∧ (∀ k, 0 ≤ k → k < x9 → Bwo k = w → isP Gki (Bon k) g) ∧ HW D A s.heap (kG cI cB cZ oG Gn Gki Gle Glo Gta Gsh ++ kB cI cB cZ oB (oG 0) Bcnt Bwo Bon Btw Bnu) H locs ∧ lv_has ls 4 [(0, .ref (oB 0)), (1, .int (zI w)), (2, .int (zI g)), (3, .int (zI x9))]) 0 ⟨hv_1, hv_2, hw, lv_sub hl [1, 2, 3, 0] rfl⟩ ?_
  clear hw hl
  intro i_4 H locs ls hI ih_3
  try dsimp only at hI
  obtain ⟨hI_5, hI_6, hw, hl⟩ := hI
  refine lv_iload_n hx hb dX0_mayEnd_2 rfl (lv_at hl 3 rfl) ?_
  refine lv_aload_n hx hb dX0_mayEnd_3 rfl (lv_at hl 0 rfl) ?_
  refine va_get (D := D) (ci := 0) (v := .int (zI Bcnt)) (C := RX0) (T := TX0) (N := 6) hx hb hts hinX0 hown hK hw.1 6 rfl rfl 1 (by decide) (hts (.fieldLink RX0 9 "CarnivalRoad$Bars" "count" "I") (by decide +kernel)) (fun _ h9 => h9) rfl dX0_mayEnd_4 ?_
  refine z_icmp_ge (tgt := 42) hx hb dX0_mayEnd_7 (by decide) (by omega) (fun hc_7 => ?_) (fun hc_7 => ?_)
  · skip
    refine z_iconst hx hb dX0_mayEnd_42 ?_
    have hv_8 : ((∀ k, 0 ≤ k → k < Bcnt → Bwo k = w → isP Gki (Bon k) g) ∧ (1 : Int) = 1) ∨ (¬ (∀ k, 0 ≤ k → k < Bcnt → Bwo k = w → isP Gki (Bon k) g) ∧ (1 : Int) = 0) := by
      exact Or.inl ⟨all_le (by assumption) (by omega), rfl⟩
    exact W.zret (v := zI 1) hx hb hr rfl (fun t9 ht hW => ⟨⟨zI 1, 1, rfl, ⟨rfl, hv_8⟩, by subst hAe; exact z_end hK hw ht hW⟩, by subst hAe; exact hw.2.2.F ht⟩) (by subst hAe; exact hw.2.2.2.2) dX0_mayEnd_43
  · skip
    refine lv_aload_n hx hb dX0_mayEnd_10 rfl (lv_at hl 0 rfl) ?_
    refine va_get (D := D) (ci := 0) (v := .ref (oB 1)) (C := RX0) (T := TX0) (N := 6) hx hb hts hinX0 hown hK hw.1 6 rfl rfl 2 (by decide) (hts (.fieldLink RX0 15 "CarnivalRoad$Bars" "words" "[I") (by decide +kernel)) (fun _ h9 => h9) rfl dX0_mayEnd_11 ?_
    refine lv_iload_n hx hb dX0_mayEnd_14 rfl (lv_at hl 3 rfl) ?_
    have hi_9 : (0 : Int) ≤ i_4 ∧ i_4 < ((11 : Nat) : Int) := by
      first | assumption | omega | grind
    refine z_iald (n := 11) (f := Bwo) hx hb hK hw 7 rfl (by decide) hi_9 dX0_mayEnd_15 ?_
    have hq_10 : 0 ≤ Bwo i_4 ∧ Bwo i_4 ≤ 11 := qBwo i_4
    refine lv_iload_n hx hb dX0_mayEnd_16 rfl (lv_at hl 1 rfl) ?_
    refine z_icmp_ne (tgt := 36) hx hb dX0_mayEnd_17 (by decide) (by omega) (fun hc_11 => ?_) (fun hc_11 => ?_)
    · skip
      refine z_iinc (k := 3) (lv' := [(3, .int (zI (i_4 + 1))), (0, .ref (oB 0)), (1, .int (zI w)), (2, .int (zI g))]) hx hb dX0_mayEnd_36 hl rfl (by decide) rfl (fun ls hl => ?_)
      refine lv_goto (tgt := 2) hx hb dX0_mayEnd_39 (by decide) ?_
      have hv_12 : 0 ≤ (i_4 + 1) ∧ (i_4 + 1) ≤ Bcnt := by
        first | assumption | omega | grind
      have hv_13 : ∀ k, 0 ≤ k → k < (i_4 + 1) → Bwo k = w → isP Gki (Bon k) g := by
        refine all_s (by assumption) ?_
        intro q; first | assumption | omega | (exact absurd q (by assumption))
      have hm_14 : (12 - (i_4 + 1)).toNat < (12 - i_4).toNat := by
        first | assumption | omega | grind
      exact ih_3 (i_4 + 1) _ _ _ ⟨hv_12, hv_13, hw, lv_sub hl [1, 2, 3, 0] rfl⟩ hm_14
    · skip
      refine lv_aload_n hx hb dX0_mayEnd_20 rfl (lv_at hl 0 rfl) ?_
      refine lv_aload_n hx hb dX0_mayEnd_21 rfl (lv_at hl 0 rfl) ?_
      refine va_get (D := D) (ci := 0) (v := .ref (oB 2)) (C := RX0) (T := TX0) (N := 6) hx hb hts hinX0 hown hK hw.1 6 rfl rfl 3 (by decide) (hts (.fieldLink RX0 19 "CarnivalRoad$Bars" "ones" "[I") (by decide +kernel)) (fun _ h9 => h9) rfl dX0_mayEnd_22 ?_
      refine lv_iload_n hx hb dX0_mayEnd_25 rfl (lv_at hl 3 rfl) ?_
      have hi_15 : (0 : Int) ≤ i_4 ∧ i_4 < ((11 : Nat) : Int) := by
        first | assumption | omega | grind
      refine z_iald (n := 11) (f := Bon) hx hb hK hw 8 rfl (by decide) hi_15 dX0_mayEnd_26 ?_
      have hq_16 : 0 ≤ Bon i_4 ∧ Bon i_4 ≤ 12 := qBon i_4
      refine lv_iload_n hx hb dX0_mayEnd_27 rfl (lv_at hl 2 rfl) ?_
      have hF9 := z_free (wc := kG cI cB cZ oG Gn Gki Gle Glo Gta Gsh ++ kB cI cB cZ oB (oG 0) Bcnt Bwo Bon Btw Bnu) hw hA [0, 1, 2, 3, 4, 5, 6, 7, 8, 9, 10] rfl
      refine va_calli (va_runV (As := [.int (zI (Bon i_4)), .int (zI g)]) (rest := []) ⟨hx, hb, hml, hown, hts⟩ (c_X0_isOne l D cI cB cZ oG oB H.size Gn Gki Gle Glo Gta Gsh Bcnt Bwo Bon Btw Bnu (Bon i_4) g (by omega) qGki qGle qGlo qGta qGsh (by omega) qBwo qBon qBtw qBnu (by omega) (by omega)) (cwV 2 hts gX0_mayEnd_X0_isOne rfl rfl rfl (by decide +kernel) ⟨Nat.le_of_ble_eq_true rfl, Nat.le_of_ble_eq_true rfl⟩) ⟨zPre_blind, va_recv hK hw.1 (ci := 0) (q0 := 6) rfl rfl, z_pre hK hw [0, 1, 2, 3, 4, 5, 6, 7, 8, 9, 10] (by decide) rfl⟩ rfl rfl hl.1 rfl (lv_room (Nat.le_of_ble_eq_true rfl)) dX0_mayEnd_28 ⟨Nat.zero_le _, Nat.zero_le _⟩) hw.2.2 (fun q _ h => hF9 q h) hF9 (fun r9 u9 t9 H_17 locs9 ht9 hvm9 hq9 hB9 hz9 hk9 hS9 => ?_)
      obtain ⟨r_18, rfl⟩ : ∃ z, z = u9 := ⟨_, rfl⟩
      try dsimp only at hq9 hB9
      obtain ⟨rfl, hq9⟩ := hq9
      have hq_19 := hq9
      have hw : HW D A s.heap (kG cI cB cZ oG Gn Gki Gle Glo Gta Gsh ++ kB cI cB cZ oB (oG 0) Bcnt Bwo Bon Btw Bnu) H_17 locs9 := z_after (wc := kG cI cB cZ oG Gn Gki Gle Glo Gta Gsh ++ kB cI cB cZ oB (oG 0) Bcnt Bwo Bon Btw Bnu) hw [0, 1, 2, 3, 4, 5, 6, 7, 8, 9, 10] [] rfl rfl (by decide) (by decide) hF9 hk9 ht9 hB9 hS9 [0, 1, 2, 3, 4, 5, 6, 7, 8, 9, 10] (by decide) rfl
      clear hF9 ht9 hvm9 hB9 hz9 hk9 hS9 hq9
      rcases hq_19 with ⟨hc_20, rfl⟩ | ⟨hc_20, rfl⟩
      · skip
        refine z_if_ne (tgt := 36) hx hb dX0_mayEnd_31 (by decide) (by omega) (fun hc_21 => ?_) (fun hc_21 => absurd hc_21 (by omega))
        refine z_iinc (k := 3) (lv' := [(3, .int (zI (i_4 + 1))), (0, .ref (oB 0)), (1, .int (zI w)), (2, .int (zI g))]) hx hb dX0_mayEnd_36 hl rfl (by decide) rfl (fun ls hl => ?_)
        refine lv_goto (tgt := 2) hx hb dX0_mayEnd_39 (by decide) ?_
        have hv_22 : 0 ≤ (i_4 + 1) ∧ (i_4 + 1) ≤ Bcnt := by
          first | assumption | omega | grind
        have hv_23 : ∀ k, 0 ≤ k → k < (i_4 + 1) → Bwo k = w → isP Gki (Bon k) g := by
          refine all_s (by assumption) ?_
          intro q; first | assumption | omega | (exact absurd q (by assumption))
        have hm_24 : (12 - (i_4 + 1)).toNat < (12 - i_4).toNat := by
          first | assumption | omega | grind
        exact ih_3 (i_4 + 1) _ _ _ ⟨hv_22, hv_23, hw, lv_sub hl [1, 2, 3, 0] rfl⟩ hm_24
      · skip
        refine z_if_ne (tgt := 36) hx hb dX0_mayEnd_31 (by decide) (by omega) (fun hc_25 => absurd hc_25 (by omega)) (fun hc_25 => ?_)
        refine z_iconst hx hb dX0_mayEnd_34 ?_
        have hv_26 : ((∀ k, 0 ≤ k → k < Bcnt → Bwo k = w → isP Gki (Bon k) g) ∧ (0 : Int) = 1) ∨ (¬ (∀ k, 0 ≤ k → k < Bcnt → Bwo k = w → isP Gki (Bon k) g) ∧ (0 : Int) = 0) := by
          refine Or.inr ⟨fun q => ?_, rfl⟩
          have q2 := q i_4 (by omega) (by omega) (by assumption)
          contradiction
        exact W.zret (v := zI 0) hx hb hr rfl (fun t9 ht hW => ⟨⟨zI 0, 0, rfl, ⟨rfl, hv_26⟩, by subst hAe; exact z_end hK hw ht hW⟩, by subst hAe; exact hw.2.2.F ht⟩) (by subst hAe; exact hw.2.2.2.2) dX0_mayEnd_35
set_option maxRecDepth 100000 in
set_option maxHeartbeats 4000000 in
theorem c_X0_hasWord (l : Launch) (D : va_G) (cI cB cZ : ClassId) (oB : Nat → Nat) (aBguests : Nat) (sz : Nat) (Bcnt : Int) (Bwo : Int → Int) (Bon : Int → Int) (Btw : Int → Int) (Bnu : Int → Int) (w : Int) (qBcnt : 0 ≤ Bcnt ∧ Bcnt ≤ 10) (qBwo : RA Bwo (0) 11) (qBon : RA Bon (0) 12) (qBtw : RA Btw (0) 12) (qBnu : RA Bnu (0) 18) (qw : 0 ≤ w ∧ w ≤ 11) : Met l yX0_hasWord wsX0_hasWord ({ frames := 0, cells := 0, slots := 0, locals := 0 }) (va_Pc [.ref (oB 0), .int (zI w)] (zPre D cI cB cZ sz (kB cI cB cZ oB aBguests Bcnt Bwo Bon Btw Bnu))) (va_Qi (fun (r9 : Int32) (u9 : Int) => r9 = zI u9 ∧ ((((∃ k, 0 ≤ k ∧ k < Bcnt ∧ Bwo k = w) ∧ u9 = 1) ∨ (¬ (∃ k, 0 ≤ k ∧ k < Bcnt ∧ Bwo k = w) ∧ u9 = 0)))) (fun u9 t9 => zAt D cI cB cZ (va_A (kB cI cB cZ oB aBguests Bcnt Bwo Bon Btw Bnu) sz) (kB cI cB cZ oB aBguests Bcnt Bwo Bon Btw Bnu) t9) (va_A (kB cI cB cZ oB aBguests Bcnt Bwo Bon Btw Bnu) sz)) 0 0 (va_A (kB cI cB cZ oB aBguests Bcnt Bwo Bon Btw Bnu) sz) := by
  refine Met.ofW (cc := cX0_hasWord) (maxL := 3) (ret := (some .boolean)) (by decide) rfl ?_
  intro pp ee s mm aa bw mt cd s₁ BL hml hv
  obtain ⟨rfl, hsz, hP, hK, hD0⟩ := hv
  have hx := BL.exec
  have hb := BL.bytes
  have hr := BL.returns
  have hts := atoms_spec (ws := wsX0_hasWord) BL.pre
  have hown : s.vm.findClass RX0 = some mm.cls := findClass_of_methodNamed BL.named
  have hlocks := BL.notSynchronized
  subst hsz
  generalize hAe : va_A (kB cI cB cZ oB aBguests Bcnt Bwo Bon Btw Bnu) s.heap.size = A
  have hA : ∀ q : Nat, s.heap.size ≤ q → A q := fun q h => by rw [← hAe]; exact Or.inr h
  have hw : HW D A s.heap (kB cI cB cZ oB aBguests Bcnt Bwo Bon Btw Bnu) s.heap [] := z_start hAe hP hD0
  clear hP hD0
  have hl := lv_entry ([.ref (oB 0), .int (zI w)]) (n := 3) (Nat.le_of_ble_eq_true rfl)
  rw [lg_entry_eq]
  generalize (lg_sl ([.ref (oB 0), .int (zI w)]) ++ List.replicate (3 - (lg_sl ([.ref (oB 0), .int (zI w)])).length) Slot.unset).toArray = ls at hl ⊢
  have hl : lv_has ls 3 [(0, .ref (oB 0)), (1, .int (zI w))] := hl
  have hinX0 : ∀ w ∈ wsX00, w ∈ wsX0_hasWord := by decide +kernel
  refine z_iconst hx hb dX0_hasWord_0 ?_
  refine lv_istore_n (lv' := [(2, .int (zI 0)), (0, .ref (oB 0)), (1, .int (zI w))]) hx hb dX0_hasWord_1 rfl hl (by decide) rfl (fun ls hl => ?_)
  have hv_1 : 0 ≤ (0 : Int) ∧ (0 : Int) ≤ Bcnt := by
    first | assumption | omega | grind
  have hv_2 : ∀ k, 0 ≤ k → k < (0 : Int) → ¬ Bwo k = w := by
    exact all_0
  refine z_loop (σ := Int) (μ := fun x9 => (12 - x9).toNat) (I := fun x9 H locs ls => (0 ≤ x9 ∧ x9 ≤ Bcnt) ∧ (∀ k, 0 ≤ k → k < x9 → ¬ Bwo k = w) ∧ HW D A s.heap (kB cI cB cZ oB aBguests Bcnt Bwo Bon Btw Bnu) H locs ∧ lv_has ls 3 [(0, .ref (oB 0)), (1, .int (zI w)), (2, .int (zI x9))]) 0 ⟨hv_1, hv_2, hw, lv_sub hl [1, 2, 0] rfl⟩ ?_
  clear hw hl
  intro i_4 H locs ls hI ih_3
  try dsimp only at hI
  obtain ⟨hI_5, hI_6, hw, hl⟩ := hI
  refine lv_iload_n hx hb dX0_hasWord_2 rfl (lv_at hl 2 rfl) ?_
  refine lv_aload_n hx hb dX0_hasWord_3 rfl (lv_at hl 0 rfl) ?_
  refine va_get (D := D) (ci := 0) (v := .int (zI Bcnt)) (C := RX0) (T := TX0) (N := 6) hx hb hts hinX0 hown hK hw.1 0 rfl rfl 1 (by decide) (hts (.fieldLink RX0 9 "CarnivalRoad$Bars" "count" "I") (by decide +kernel)) (fun _ h9 => h9) rfl dX0_hasWord_4 ?_
  refine z_icmp_ge (tgt := 28) hx hb dX0_hasWord_7 (by decide) (by omega) (fun hc_7 => ?_) (fun hc_7 => ?_)
  · skip
    refine z_iconst hx hb dX0_hasWord_28 ?_
    have hv_8 : ((∃ k, 0 ≤ k ∧ k < Bcnt ∧ Bwo k = w) ∧ (0 : Int) = 1) ∨ (¬ (∃ k, 0 ≤ k ∧ k < Bcnt ∧ Bwo k = w) ∧ (0 : Int) = 0) := by
      refine Or.inr ⟨?_, rfl⟩
      rintro ⟨k, h0, h1, h2⟩
      exact absurd h2 (all_le (by assumption) (by omega) k h0 h1)
    exact W.zret (v := zI 0) hx hb hr rfl (fun t9 ht hW => ⟨⟨zI 0, 0, rfl, ⟨rfl, hv_8⟩, by subst hAe; exact z_end hK hw ht hW⟩, by subst hAe; exact hw.2.2.F ht⟩) (by subst hAe; exact hw.2.2.2.2) dX0_hasWord_29
  · skip
    refine lv_aload_n hx hb dX0_hasWord_10 rfl (lv_at hl 0 rfl) ?_
    refine va_get (D := D) (ci := 0) (v := .ref (oB 1)) (C := RX0) (T := TX0) (N := 6) hx hb hts hinX0 hown hK hw.1 0 rfl rfl 2 (by decide) (hts (.fieldLink RX0 15 "CarnivalRoad$Bars" "words" "[I") (by decide +kernel)) (fun _ h9 => h9) rfl dX0_hasWord_11 ?_
    refine lv_iload_n hx hb dX0_hasWord_14 rfl (lv_at hl 2 rfl) ?_
    have hi_9 : (0 : Int) ≤ i_4 ∧ i_4 < ((11 : Nat) : Int) := by
      first | assumption | omega | grind
    refine z_iald (n := 11) (f := Bwo) hx hb hK hw 1 rfl (by decide) hi_9 dX0_hasWord_15 ?_
    have hq_10 : 0 ≤ Bwo i_4 ∧ Bwo i_4 ≤ 11 := qBwo i_4
    refine lv_iload_n hx hb dX0_hasWord_16 rfl (lv_at hl 1 rfl) ?_
    refine z_icmp_ne (tgt := 22) hx hb dX0_hasWord_17 (by decide) (by omega) (fun hc_11 => ?_) (fun hc_11 => ?_)
    · skip
      refine z_iinc (k := 2) (lv' := [(2, .int (zI (i_4 + 1))), (0, .ref (oB 0)), (1, .int (zI w))]) hx hb dX0_hasWord_22 hl rfl (by decide) rfl (fun ls hl => ?_)
      refine lv_goto (tgt := 2) hx hb dX0_hasWord_25 (by decide) ?_
      have hv_12 : 0 ≤ (i_4 + 1) ∧ (i_4 + 1) ≤ Bcnt := by
        first | assumption | omega | grind
      have hv_13 : ∀ k, 0 ≤ k → k < (i_4 + 1) → ¬ Bwo k = w := by
        exact all_s (by assumption) (by assumption)
      have hm_14 : (12 - (i_4 + 1)).toNat < (12 - i_4).toNat := by
        first | assumption | omega | grind
      exact ih_3 (i_4 + 1) _ _ _ ⟨hv_12, hv_13, hw, lv_sub hl [1, 2, 0] rfl⟩ hm_14
    · skip
      refine z_iconst hx hb dX0_hasWord_20 ?_
      have hv_15 : ((∃ k, 0 ≤ k ∧ k < Bcnt ∧ Bwo k = w) ∧ (1 : Int) = 1) ∨ (¬ (∃ k, 0 ≤ k ∧ k < Bcnt ∧ Bwo k = w) ∧ (1 : Int) = 0) := by
        exact Or.inl ⟨⟨i_4, by omega, by omega, by assumption⟩, rfl⟩
      exact W.zret (v := zI 1) hx hb hr rfl (fun t9 ht hW => ⟨⟨zI 1, 1, rfl, ⟨rfl, hv_15⟩, by subst hAe; exact z_end hK hw ht hW⟩, by subst hAe; exact hw.2.2.F ht⟩) (by subst hAe; exact hw.2.2.2.2) dX0_hasWord_21
