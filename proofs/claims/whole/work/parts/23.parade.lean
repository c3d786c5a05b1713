set_option maxRecDepth 100000 in
set_option maxHeartbeats 4000000 in
theorem c_X3_tailOf (l : Launch) (D : va_G) (cI cB cZ : ClassId) (oG : Nat → Nat) (oT : Nat → Nat) (oP : Nat → Nat) (sz : Nat) (Gn : Int) (Gki : Int → Int) (Gle : Int → Int) (Glo : Int → Int) (Gta : Int → Int) (Gsh : Int → Int) (Tcells : Int) (Tgap : Int) (Twires : Int → Int) (Tstands : Int → Int) (Pline : Int → Int) (Psize : Int) (Pnow : Int) (Pheads : Int → Int) (Pbusy : Int → Int) (Pcame : Int → Int) (Pout : Int → Int) (g : Int) (qGn : 0 ≤ Gn ∧ Gn ≤ 8) (qGki : RA Gki (0) 4) (qGle : RA Gle (0) 5) (qGlo : RA Glo (0) 9) (qGta : RA Gta (0) 9) (qGsh : RA Gsh (0) 9) (qTcells : 1 ≤ Tcells ∧ Tcells ≤ 50) (qTgap : 0 ≤ Tgap ∧ Tgap ≤ 3) (qTwires : RA Twires (0) 9) (qTstands : RA Tstands (0) 9) (qPline : RA Pline (0) 7) (qPsize : 0 ≤ Psize ∧ Psize ≤ 8) (qPnow : 0 ≤ Pnow ∧ Pnow ≤ 1000000) (qPheads : RA Pheads (-1) 60) (qPbusy : RA Pbusy (0) 30) (qPcame : RA Pcame (-1) 1000000) (qPout : RA Pout (-1) 1000000) (qg : 0 ≤ g ∧ g ≤ 7) : Met l yX3_tailOf wsX3_tailOf ({ frames := 0, cells := 0, slots := 0, locals := 0 }) (va_Pc [.ref (oP 0), .int (zI g)] (zPre D cI cB cZ sz (kG cI cB cZ oG Gn Gki Gle Glo Gta Gsh ++ kT cI cB cZ oT Tcells Tgap Twires Tstands ++ kP cI cB cZ oP (oG 0) (oT 0) Pline Psize Pnow Pheads Pbusy Pcame Pout))) (va_Qi (fun (r9 : Int32) (u9 : Int) => r9 = zI u9 ∧ ((u9 = Pheads g - Gle g + 1) ∧ (-5 ≤ u9 ∧ u9 ≤ 61))) (fun u9 t9 => zAt D cI cB cZ (va_A (kG cI cB cZ oG Gn Gki Gle Glo Gta Gsh ++ kT cI cB cZ oT Tcells Tgap Twires Tstands ++ kP cI cB cZ oP (oG 0) (oT 0) Pline Psize Pnow Pheads Pbusy Pcame Pout) sz) (kG cI cB cZ oG Gn Gki Gle Glo Gta Gsh ++ kT cI cB cZ oT Tcells Tgap Twires Tstands ++ kP cI cB cZ oP (oG 0) (oT 0) Pline Psize Pnow Pheads Pbusy Pcame Pout) t9) (va_A (kG cI cB cZ oG Gn Gki Gle Glo Gta Gsh ++ kT cI cB cZ oT Tcells Tgap Twires Tstands ++ kP cI cB cZ oP (oG 0) (oT 0) Pline Psize Pnow Pheads Pbusy Pcame Pout) sz)) 0 0 (va_A (kG cI cB cZ oG Gn Gki Gle Glo Gta Gsh ++ kT cI cB cZ oT Tcells Tgap Twires Tstands ++ kP cI cB cZ oP (oG 0) (oT 0) Pline Psize Pnow Pheads Pbusy Pcame Pout) sz) := by
  refine Met.ofW (cc := cX3_tailOf) (maxL := 2) (ret := (some .int)) (by decide) rfl ?_
  intro pp ee s mm aa bw mt cd s₁ BL hml hv
  obtain ⟨rfl, hsz, hP, hK, hD0⟩ := hv
  have hx := BL.exec
  have hb := BL.bytes
  have hr := BL.returns
  have hts := atoms_spec (ws := wsX3_tailOf) BL.pre
  have hown : s.vm.findClass RX3 = some mm.cls := findClass_of_methodNamed BL.named
  have hlocks := BL.notSynchronized
  subst hsz
  generalize hAe : va_A (kG cI cB cZ oG Gn Gki Gle Glo Gta Gsh ++ kT cI cB cZ oT Tcells Tgap Twires Tstands ++ kP cI cB cZ oP (oG 0) (oT 0) Pline Psize Pnow Pheads Pbusy Pcame Pout) s.heap.size = A
  have hA : ∀ q : Nat, s.heap.size ≤ q → A q := fun q h => by rw [← hAe]; exact Or.inr h
  have hw : HW D A s.heap (kG cI cB cZ oG Gn Gki Gle Glo Gta Gsh ++ kT cI cB cZ oT Tcells Tgap Twires Tstands ++ kP cI cB cZ oP (oG 0) (oT 0) Pline Psize Pnow Pheads Pbusy Pcame Pout) s.heap [] := z_start hAe hP hD0
  clear hP hD0
  have hl := lv_entry ([.ref (oP 0), .int (zI g)]) (n := 2) (Nat.le_of_ble_eq_true rfl)
  rw [lg_entry_eq]
  generalize (lg_sl ([.ref (oP 0), .int (zI g)]) ++ List.replicate (2 - (lg_sl ([.ref (oP 0), .int (zI g)])).length) Slot.unset).toArray = ls at hl ⊢
  have hl : lv_has ls 2 [(0, .ref (oP 0)), (1, .int (zI g))] := hl
  have hinX2 : ∀ w ∈ wsX20, w ∈ wsX3_tailOf := by decide +kernel
  have hinX3 : ∀ w ∈ wsX30, w ∈ wsX3_tailOf := by decide +kernel
  refine lv_aload_n hx hb dX3_tailOf_0 rfl (lv_at hl 0 rfl) ?_
  refine va_get (D := D) (ci := 3) (v := .ref (oP 2)) (C := RX3) (T := TX3) (N := 9) hx hb hts hinX3 hown hK hw.1 9 rfl rfl 5 (by decide) (hts (.fieldLink RX3 22 "CarnivalRoad$Parade" "heads" "[I") (by decide +kernel)) (fun _ h9 => h9) rfl dX3_tailOf_1 ?_
  refine lv_iload_n hx hb dX3_tailOf_4 rfl (lv_at hl 1 rfl) ?_
  have hi_1 : (0 : Int) ≤ g ∧ g < ((8 : Nat) : Int) := by
    first | rfl | omega
  refine z_iald (n := 8) (f := Pheads) hx hb hK hw 11 rfl (by decide) hi_1 dX3_tailOf_5 ?_
  have hq_2 : -1 ≤ Pheads g ∧ Pheads g ≤ 60 := qPheads g
  refine lv_aload_n hx hb dX3_tailOf_6 rfl (lv_at hl 0 rfl) ?_
  refine va_get (D := D) (ci := 3) (v := .ref (oG 0)) (C := RX3) (T := TX3) (N := 9) hx hb hts hinX3 hown hK hw.1 9 rfl rfl 0 (by decide) (hts (.fieldLink RX3 34 "CarnivalRoad$Parade" "guests" "LCarnivalRoad$Guests;") (by decide +kernel)) (fun _ h9 => h9) rfl dX3_tailOf_7 ?_
  refine va_get (D := D) (ci := 2) (v := .ref (oG 2)) (C := RX2) (T := TX2) (N := 6) hx hb hts hinX2 hown hK hw.1 0 rfl rfl 2 (by decide) (hts (.fieldLink RX3 99 "CarnivalRoad$Guests" "lengths" "[I") (by decide +kernel)) (fun _ h9 => h9) rfl dX3_tailOf_10 ?_
  refine lv_iload_n hx hb dX3_tailOf_13 rfl (lv_at hl 1 rfl) ?_
  have hi_3 : (0 : Int) ≤ g ∧ g < ((8 : Nat) : Int) := by
    first | rfl | omega
  refine z_iald (n := 8) (f := Gle) hx hb hK hw 2 rfl (by decide) hi_3 dX3_tailOf_14 ?_
  have hq_4 : 0 ≤ Gle g ∧ Gle g ≤ 5 := qGle g
  refine z_isub hx hb dX3_tailOf_15 ?_
  refine z_iconst hx hb dX3_tailOf_16 ?_
  refine z_iadd hx hb dX3_tailOf_17 ?_
  have hv_5 : (((Pheads g) - (Gle g)) + 1) = Pheads g - Gle g + 1 := by
    first | rfl | omega
  have hv_6 : -5 ≤ (((Pheads g) - (Gle g)) + 1) ∧ (((Pheads g) - (Gle g)) + 1) ≤ 61 := by
    first | rfl | omega
  exact W.iret (v := zI (((Pheads g) - (Gle g)) + 1)) hx hb hr (fun t9 ht hW => ⟨⟨zI (((Pheads g) - (Gle g)) + 1), (((Pheads g) - (Gle g)) + 1), rfl, ⟨rfl, ⟨hv_5, hv_6⟩⟩, by subst hAe; exact z_end hK hw ht hW⟩, by subst hAe; exact hw.2.2.F ht⟩) (by subst hAe; exact hw.2.2.2.2) dX3_tailOf_18
set_option maxRecDepth 100000 in
set_option maxHeartbeats 4000000 in
theorem c_X3_isOut (l : Launch) (D : va_G) (cI cB cZ : ClassId) (oG : Nat → Nat) (oT : Nat → Nat) (oP : Nat → Nat) (sz : Nat) (Gn : Int) (Gki : Int → Int) (Gle : Int → Int) (Glo : Int → Int) (Gta : Int → Int) (Gsh : Int → Int) (Tcells : Int) (Tgap : Int) (Twires : Int → Int) (Tstands : Int → Int) (Pline : Int → Int) (Psize : Int) (Pnow : Int) (Pheads : Int → Int) (Pbusy : Int → Int) (Pcame : Int → Int) (Pout : Int → Int) (g : Int) (qGn : 0 ≤ Gn ∧ Gn ≤ 8) (qGki : RA Gki (0) 4) (qGle : RA Gle (0) 5) (qGlo : RA Glo (0) 9) (qGta : RA Gta (0) 9) (qGsh : RA Gsh (0) 9) (qTcells : 1 ≤ Tcells ∧ Tcells ≤ 50) (qTgap : 0 ≤ Tgap ∧ Tgap ≤ 3) (qTwires : RA Twires (0) 9) (qTstands : RA Tstands (0) 9) (qPline : RA Pline (0) 7) (qPsize : 0 ≤ Psize ∧ Psize ≤ 8) (qPnow : 0 ≤ Pnow ∧ Pnow ≤ 1000000) (qPheads : RA Pheads (-1) 60) (qPbusy : RA Pbusy (0) 30) (qPcame : RA Pcame (-1) 1000000) (qPout : RA Pout (-1) 1000000) (qg : 0 ≤ g ∧ g ≤ 7) : Met l yX3_isOut wsX3_isOut ({ frames := 0, cells := 0, slots := 0, locals := 0 }) (va_Pc [.ref (oP 0), .int (zI g)] (zPre D cI cB cZ sz (kG cI cB cZ oG Gn Gki Gle Glo Gta Gsh ++ kT cI cB cZ oT Tcells Tgap Twires Tstands ++ kP cI cB cZ oP (oG 0) (oT 0) Pline Psize Pnow Pheads Pbusy Pcame Pout))) (va_Qi (fun (r9 : Int32) (u9 : Int) => r9 = zI u9 ∧ (((¬ Pout g = -1 ∧ u9 = 1) ∨ (¬ ¬ Pout g = -1 ∧ u9 = 0)))) (fun u9 t9 => zAt D cI cB cZ (va_A (kG cI cB cZ oG Gn Gki Gle Glo Gta Gsh ++ kT cI cB cZ oT Tcells Tgap Twires Tstands ++ kP cI cB cZ oP (oG 0) (oT 0) Pline Psize Pnow Pheads Pbusy Pcame Pout) sz) (kG cI cB cZ oG Gn Gki Gle Glo Gta Gsh ++ kT cI cB cZ oT Tcells Tgap Twires Tstands ++ kP cI cB cZ oP (oG 0) (oT 0) Pline Psize Pnow Pheads Pbusy Pcame Pout) t9) (va_A (kG cI cB cZ oG Gn Gki Gle Glo Gta Gsh ++ kT cI cB cZ oT Tcells Tgap Twires Tstands ++ kP cI cB cZ oP (oG 0) (oT 0) Pline Psize Pnow Pheads Pbusy Pcame Pout) sz)) 0 0 (va_A (kG cI cB cZ oG Gn Gki Gle Glo Gta Gsh ++ kT cI cB cZ oT Tcells Tgap Twires Tstands ++ kP cI cB cZ oP (oG 0) (oT 0) Pline Psize Pnow Pheads Pbusy Pcame Pout) sz) := by
  refine Met.ofW (cc := cX3_isOut) (maxL := 2) (ret := (some .boolean)) (by decide) rfl ?_
  intro pp ee s mm aa bw mt cd s₁ BL hml hv
  obtain ⟨rfl, hsz, hP, hK, hD0⟩ := hv
  have hx := BL.exec
  have hb := BL.bytes
  have hr := BL.returns
  have hts := atoms_spec (ws := wsX3_isOut) BL.pre
  have hown : s.vm.findClass RX3 = some mm.cls := findClass_of_methodNamed BL.named
  have hlocks := BL.notSynchronized
  subst hsz
  generalize hAe : va_A (kG cI cB cZ oG Gn Gki Gle Glo Gta Gsh ++ kT cI cB cZ oT Tcells Tgap Twires Tstands ++ kP cI cB cZ oP (oG 0) (oT 0) Pline Psize Pnow Pheads Pbusy Pcame Pout) s.heap.size = A
  have hA : ∀ q : Nat, s.heap.size ≤ q → A q := fun q h => by rw [← hAe]; exact Or.inr h
  have hw : HW D A s.heap (kG cI cB cZ oG Gn Gki Gle Glo Gta Gsh ++ kT cI cB cZ oT Tcells Tgap Twires Tstands ++ kP cI cB cZ oP (oG 0) (oT 0) Pline Psize Pnow Pheads Pbusy Pcame Pout) s.heap [] := z_start hAe hP hD0
  clear hP hD0
  have hl := lv_entry ([.ref (oP 0), .int (zI g)]) (n := 2) (Nat.le_of_ble_eq_true rfl)
  rw [lg_entry_eq]
  generalize (lg_sl ([.ref (oP 0), .int (zI g)]) ++ List.replicate (2 - (lg_sl ([.ref (oP 0), .int (zI g)])).length) Slot.unset).toArray = ls at hl ⊢
  have hl : lv_has ls 2 [(0, .ref (oP 0)), (1, .int (zI g))] := hl
  have hinX3 : ∀ w ∈ wsX30, w ∈ wsX3_isOut := by decide +kernel
  refine lv_aload_n hx hb dX3_isOut_0 rfl (lv_at hl 0 rfl) ?_
  refine va_get (D := D) (ci := 3) (v := .ref (oP 5)) (C := RX3) (T := TX3) (N := 9) hx hb hts hinX3 hown hK hw.1 9 rfl rfl 8 (by decide) (hts (.fieldLink RX3 31 "CarnivalRoad$Parade" "outAt" "[I") (by decide +kernel)) (fun _ h9 => h9) rfl dX3_isOut_1 ?_
  refine lv_iload_n hx hb dX3_isOut_4 rfl (lv_at hl 1 rfl) ?_
  have hi_1 : (0 : Int) ≤ g ∧ g < ((8 : Nat) : Int) := by
    first | assumption | omega | grind
  refine z_iald (n := 8) (f := Pout) hx hb hK hw 14 rfl (by decide) hi_1 dX3_isOut_5 ?_
  have hq_2 : -1 ≤ Pout g ∧ Pout g ≤ 1000000 := qPout g
  refine z_iconst hx hb dX3_isOut_6 ?_
  refine z_icmp_eq (tgt := 14) hx hb dX3_isOut_7 (by decide) (by omega) (fun hc_3 => ?_) (fun hc_3 => ?_)
  · skip
    refine z_iconst hx hb dX3_isOut_14 ?_
    have hv_4 : (¬ Pout g = -1 ∧ (0 : Int) = 1) ∨ (¬ ¬ Pout g = -1 ∧ (0 : Int) = 0) := by
      first | assumption | omega | grind
    exact W.zret (v := zI 0) hx hb hr rfl (fun t9 ht hW => ⟨⟨zI 0, 0, rfl, ⟨rfl, hv_4⟩, by subst hAe; exact z_end hK hw ht hW⟩, by subst hAe; exact hw.2.2.F ht⟩) (by subst hAe; exact hw.2.2.2.2) dX3_isOut_15
  · skip
    refine z_iconst hx hb dX3_isOut_10 ?_
    refine lv_goto (tgt := 15) hx hb dX3_isOut_11 (by decide) ?_
    have hv_5 : (¬ Pout g = -1 ∧ (1 : Int) = 1) ∨ (¬ ¬ Pout g = -1 ∧ (1 : Int) = 0) := by
      first | assumption | omega | grind
    exact W.zret (v := zI 1) hx hb hr rfl (fun t9 ht hW => ⟨⟨zI 1, 1, rfl, ⟨rfl, hv_5⟩, by subst hAe; exact z_end hK hw ht hW⟩, by subst hAe; exact hw.2.2.F ht⟩) (by subst hAe; exact hw.2.2.2.2) dX3_isOut_15
set_option maxRecDepth 100000 in
set_option maxHeartbeats 4000000 in
theorem c_X3_allOut (l : Launch) (D : va_G) (cI cB cZ : ClassId) (oG : Nat → Nat) (oT : Nat → Nat) (oP : Nat → Nat) (sz : Nat) (Gn : Int) (Gki : Int → Int) (Gle : Int → Int) (Glo : Int → Int) (Gta : Int → Int) (Gsh : Int → Int) (Tcells : Int) (Tgap : Int) (Twires : Int → Int) (Tstands : Int → Int) (Pline : Int → Int) (Psize : Int) (Pnow : Int) (Pheads : Int → Int) (Pbusy : Int → Int) (Pcame : Int → Int) (Pout : Int → Int) (qGn : 0 ≤ Gn ∧ Gn ≤ 8) (qGki : RA Gki (0) 4) (qGle : RA Gle (0) 5) (qGlo : RA Glo (0) 9) (qGta : RA Gta (0) 9) (qGsh : RA Gsh (0) 9) (qTcells : 1 ≤ Tcells ∧ Tcells ≤ 50) (qTgap : 0 ≤ Tgap ∧ Tgap ≤ 3) (qTwires : RA Twires (0) 9) (qTstands : RA Tstands (0) 9) (qPline : RA Pline (0) 7) (qPsize : 0 ≤ Psize ∧ Psize ≤ 8) (qPnow : 0 ≤ Pnow ∧ Pnow ≤ 1000000) (qPheads : RA Pheads (-1) 60) (qPbusy : RA Pbusy (0) 30) (qPcame : RA Pcame (-1) 1000000) (qPout : RA Pout (-1) 1000000) : Met l yX3_allOut wsX3_allOut ({ frames := 1, cells := 0, slots := 0, locals := 21 }) (va_Pc [.ref (oP 0)] (zPre D cI cB cZ sz (kG cI cB cZ oG Gn Gki Gle Glo Gta Gsh ++ kT cI cB cZ oT Tcells Tgap Twires Tstands ++ kP cI cB cZ oP (oG 0) (oT 0) Pline Psize Pnow Pheads Pbusy Pcame Pout))) (va_Qi (fun (r9 : Int32) (u9 : Int) => r9 = zI u9 ∧ (((allP Pline Psize Pout ∧ u9 = 1) ∨ (¬ allP Pline Psize Pout ∧ u9 = 0)))) (fun u9 t9 => zAt D cI cB cZ (va_A (kG cI cB cZ oG Gn Gki Gle Glo Gta Gsh ++ kT cI cB cZ oT Tcells Tgap Twires Tstands ++ kP cI cB cZ oP (oG 0) (oT 0) Pline Psize Pnow Pheads Pbusy Pcame Pout) sz) (kG cI cB cZ oG Gn Gki Gle Glo Gta Gsh ++ kT cI cB cZ oT Tcells Tgap Twires Tstands ++ kP cI cB cZ oP (oG 0) (oT 0) Pline Psize Pnow Pheads Pbusy Pcame Pout) t9) (va_A (kG cI cB cZ oG Gn Gki Gle Glo Gta Gsh ++ kT cI cB cZ oT Tcells Tgap Twires Tstands ++ kP cI cB cZ oP (oG 0) (oT 0) Pline Psize Pnow Pheads Pbusy Pcame Pout) sz)) 0 0 (va_A (kG cI cB cZ oG Gn Gki Gle Glo Gta Gsh ++ kT cI cB cZ oT Tcells Tgap Twires Tstands ++ kP cI cB cZ oP (oG 0) (oT 0) Pline Psize Pnow Pheads Pbusy Pcame Pout) sz) := by
  refine Met.ofW (cc := cX3_allOut) (maxL := 2) (ret := (some .boolean)) (by decide) rfl ?_
  intro pp ee s mm aa bw mt cd s₁ BL hml hv
  obtain ⟨rfl, hsz, hP, hK, hD0⟩ := hv
  have hx := BL.exec
  have hb := BL.bytes
  have hr := BL.returns
  have hts := atoms_spec (ws := wsX3_allOut) BL.pre
  have hown : s.vm.findClass RX3 = some mm.cls := findClass_of_methodNamed BL.named
  have hlocks := BL.notSynchronized
  subst hsz
  generalize hAe : va_A (kG cI cB cZ oG Gn Gki Gle Glo Gta Gsh ++ kT cI cB cZ oT Tcells Tgap Twires Tstands ++ kP cI cB cZ oP (oG 0) (oT 0) Pline Psize Pnow Pheads Pbusy Pcame Pout) s.heap.size = A
  have hA : ∀ q : Nat, s.heap.size ≤ q → A q := fun q h => by rw [← hAe]; exact Or.inr h
  have hw : HW D A s.heap (kG cI cB cZ oG Gn Gki Gle Glo Gta Gsh ++ kT cI cB cZ oT Tcells Tgap Twires Tstands ++ kP cI cB cZ oP (oG 0) (oT 0) Pline Psize Pnow Pheads Pbusy Pcame Pout) s.heap [] := z_start hAe hP hD0
  clear hP hD0
  have hl := lv_entry ([.ref (oP 0)]) (n := 2) (Nat.le_of_ble_eq_true rfl)
  rw [lg_entry_eq]
  generalize (lg_sl ([.ref (oP 0)]) ++ List.replicate (2 - (lg_sl ([.ref (oP 0)])).length) Slot.unset).toArray = ls at hl ⊢
  have hl : lv_has ls 2 [(0, .ref (oP 0))] := hl
  have hinX3 : ∀ w ∈ wsX30, w ∈ wsX3_allOut := by decide +kernel
  refine z_iconst hx hb dX3_allOut_0 ?_
  refine lv_istore_n (lv' := [(1, .int (zI 0)), (0, .ref (oP 0))]) hx hb dX3_allOut_1 rfl hl (by decide) rfl (fun ls hl => ?_)
  have hv_1 : 0 ≤ (0 : Int) ∧ (0 : Int) ≤ Psize := by
    first | assumption | omega | grind
  have hv_2 : ∀ k, 0 ≤ k → k < (0 : Int) → ¬ Pout (Pline k) = -1 := by
    exact all_0
  refine z_loop (σ := Int) (μ := fun x9 => (9 - x9).toNat) (I := fun x9 H locs ls => (0 ≤ x9 ∧ x9 ≤ Psize) ∧ (∀ k, 0 ≤ k → k < x9 → ¬ Pout (Pline k) = -1) ∧ HW D A s.heap (kG cI cB cZ oG Gn Gki Gle Glo Gta Gsh ++ kT cI cB cZ oT Tcells Tgap Twires Tstands ++ kP cI cB cZ oP (oG 0) (oT 0) Pline Psize Pnow Pheads Pbusy Pcame Pout) H locs ∧ lv_has ls 2 [(0, .ref (oP 0)), (1, .int (zI x9))]) 0 ⟨hv_1, hv_2, hw, lv_sub hl [1, 0] rfl⟩ ?_
  clear hw hl
  intro i_4 H locs ls hI ih_3
  try dsimp only at hI
  obtain ⟨hI_5, hI_6, hw, hl⟩ := hI
  refine lv_iload_n hx hb dX3_allOut_2 rfl (lv_at hl 1 rfl) ?_
  refine lv_aload_n hx hb dX3_allOut_3 rfl (lv_at hl 0 rfl) ?_
  refine va_get (D := D) (ci := 3) (v := .int (zI Psize)) (C := RX3) (T := TX3) (N := 9) hx hb hts hinX3 hown hK hw.1 9 rfl rfl 3 (by decide) (hts (.fieldLink RX3 15 "CarnivalRoad$Parade" "size" "I") (by decide +kernel)) (fun _ h9 => h9) rfl dX3_allOut_4 ?_
  refine z_icmp_ge (tgt := 31) hx hb dX3_allOut_7 (by decide) (by omega) (fun hc_7 => ?_) (fun hc_7 => ?_)
  · skip
    refine z_iconst hx hb dX3_allOut_31 ?_
    have hv_8 : (allP Pline Psize Pout ∧ (1 : Int) = 1) ∨ (¬ allP Pline Psize Pout ∧ (1 : Int) = 0) := by
      exact Or.inl ⟨all_le (by assumption) (by omega), rfl⟩
    exact W.zret (v := zI 1) hx hb hr rfl (fun t9 ht hW => ⟨⟨zI 1, 1, rfl, ⟨rfl, hv_8⟩, by subst hAe; exact z_end hK hw ht hW⟩, by subst hAe; exact hw.2.2.F ht⟩) (by subst hAe; exact hw.2.2.2.2) dX3_allOut_32
  · skip
    refine lv_aload_n hx hb dX3_allOut_10 rfl (lv_at hl 0 rfl) ?_
    refine lv_aload_n hx hb dX3_allOut_11 rfl (lv_at hl 0 rfl) ?_
    refine va_get (D := D) (ci := 3) (v := .ref (oP 1)) (C := RX3) (T := TX3) (N := 9) hx hb hts hinX3 hown hK hw.1 9 rfl rfl 2 (by decide) (hts (.fieldLink RX3 9 "CarnivalRoad$Parade" "line" "[I") (by decide +kernel)) (fun _ h9 => h9) rfl dX3_allOut_12 ?_
    refine lv_iload_n hx hb dX3_allOut_15 rfl (lv_at hl 1 rfl) ?_
    have hi_9 : (0 : Int) ≤ i_4 ∧ i_4 < ((8 : Nat) : Int) := by
      first | assumption | omega | grind
    refine z_iald (n := 8) (f := Pline) hx hb hK hw 10 rfl (by decide) hi_9 dX3_allOut_16 ?_
    have hq_10 : 0 ≤ Pline i_4 ∧ Pline i_4 ≤ 7 := qPline i_4
    have hF9 := z_free (wc := kG cI cB cZ oG Gn Gki Gle Glo Gta Gsh ++ kT cI cB cZ oT Tcells Tgap Twires Tstands ++ kP cI cB cZ oP (oG 0) (oT 0) Pline Psize Pnow Pheads Pbusy Pcame Pout) hw hA [0, 1, 2, 3, 4, 5, 6, 7, 8, 9, 10, 11, 12, 13, 14] rfl
    refine va_calli (va_runV (As := [.int (zI (Pline i_4))]) (rest := []) ⟨hx, hb, hml, hown, hts⟩ (c_X3_isOut l D cI cB cZ oG oT oP H.size Gn Gki Gle Glo Gta Gsh Tcells Tgap Twires Tstands Pline Psize Pnow Pheads Pbusy Pcame Pout (Pline i_4) (by omega) qGki qGle qGlo qGta qGsh (by omega) (by omega) qTwires qTstands qPline (by omega) (by omega) qPheads qPbusy qPcame qPout (by omega)) (cwV 1 hts gX3_allOut_X3_isOut rfl rfl rfl (by decide +kernel) ⟨Nat.le_of_ble_eq_true rfl, Nat.le_of_ble_eq_true rfl⟩) ⟨zPre_blind, va_recv hK hw.1 (ci := 3) (q0 := 9) rfl rfl, z_pre hK hw [0, 1, 2, 3, 4, 5, 6, 7, 8, 9, 10, 11, 12, 13, 14] (by decide) rfl⟩ rfl rfl hl.1 rfl (lv_room (Nat.le_of_ble_eq_true rfl)) dX3_allOut_17 ⟨Nat.zero_le _, Nat.zero_le _⟩) hw.2.2 (fun q _ h => hF9 q h) hF9 (fun r9 u9 t9 H_11 locs9 ht9 hvm9 hq9 hB9 hz9 hk9 hS9 => ?_)
    obtain ⟨r_12, rfl⟩ : ∃ z, z = u9 := ⟨_, rfl⟩
    try dsimp only at hq9 hB9
    obtain ⟨rfl, hq9⟩ := hq9
    have hq_13 := hq9
    have hw : HW D A s.heap (kG cI cB cZ oG Gn Gki Gle Glo Gta Gsh ++ kT cI cB cZ oT Tcells Tgap Twires Tstands ++ kP cI cB cZ oP (oG 0) (oT 0) Pline Psize Pnow Pheads Pbusy Pcame Pout) H_11 locs9 := z_after (wc := kG cI cB cZ oG Gn Gki Gle Glo Gta Gsh ++ kT cI cB cZ oT Tcells Tgap Twires Tstands ++ kP cI cB cZ oP (oG 0) (oT 0) Pline Psize Pnow Pheads Pbusy Pcame Pout) hw [0, 1, 2, 3, 4, 5, 6, 7, 8, 9, 10, 11, 12, 13, 14] [] rfl rfl (by decide) (by decide) hF9 hk9 ht9 hB9 hS9 [0, 1, 2, 3, 4, 5, 6, 7, 8, 9, 10, 11, 12, 13, 14] (by decide) rfl
    clear hF9 ht9 hvm9 hB9 hz9 hk9 hS9 hq9
    rcases hq_13 with ⟨hc_14, rfl⟩ | ⟨hc_14, rfl⟩
    · skip
      refine z_if_ne (tgt := 25) hx hb dX3_allOut_20 (by decide) (by omega) (fun hc_15 => ?_) (fun hc_15 => absurd hc_15 (by omega))
      refine z_iinc (k := 1) (lv' := [(1, .int (zI (i_4 + 1))), (0, .ref (oP 0))]) hx hb dX3_allOut_25 hl rfl (by decide) rfl (fun ls hl => ?_)
      refine lv_goto (tgt := 2) hx hb dX3_allOut_28 (by decide) ?_
      have hv_16 : 0 ≤ (i_4 + 1) ∧ (i_4 + 1) ≤ Psize := by
        first | assumption | omega | grind
      have hv_17 : ∀ k, 0 ≤ k → k < (i_4 + 1) → ¬ Pout (Pline k) = -1 := by
        exact all_s (by assumption) (by assumption)
      have hm_18 : (9 - (i_4 + 1)).toNat < (9 - i_4).toNat := by
        first | assumption | omega | grind
      exact ih_3 (i_4 + 1) _ _ _ ⟨hv_16, hv_17, hw, lv_sub hl [1, 0] rfl⟩ hm_18
    · skip
      refine z_if_ne (tgt := 25) hx hb dX3_allOut_20 (by decide) (by omega) (fun hc_19 => absurd hc_19 (by omega)) (fun hc_19 => ?_)
      refine z_iconst hx hb dX3_allOut_23 ?_
      have hv_20 : (allP Pline Psize Pout ∧ (0 : Int) = 1) ∨ (¬ allP Pline Psize Pout ∧ (0 : Int) = 0) := by
        refine Or.inr ⟨fun q => ?_, rfl⟩
        have q2 := q i_4 (by omega) (by omega)
        exact absurd q2 (by assumption)
      exact W.zret (v := zI 0) hx hb hr rfl (fun t9 ht hW => ⟨⟨zI 0, 0, rfl, ⟨rfl, hv_20⟩, by subst hAe; exact z_end hK hw ht hW⟩, by subst hAe; exact hw.2.2.F ht⟩) (by subst hAe; exact hw.2.2.2.2) dX3_allOut_24
set_option maxRecDepth 100000 in
set_option maxHeartbeats 4000000 in
theorem c_X3_goesNow (l : Launch) (D : va_G) (cI cB cZ : ClassId) (oG : Nat → Nat) (oT : Nat → Nat) (oP : Nat → Nat) (sz : Nat) (Gn : Int) (Gki : Int → Int) (Gle : Int → Int) (Glo : Int → Int) (Gta : Int → Int) (Gsh : Int → Int) (Tcells : Int) (Tgap : Int) (Twires : Int → Int) (Tstands : Int → Int) (Pline : Int → Int) (Psize : Int) (Pnow : Int) (Pheads : Int → Int) (Pbusy : Int → Int) (Pcame : Int → Int) (Pout : Int → Int) (k : Int) (qGn : 0 ≤ Gn ∧ Gn ≤ 8) (qGki : RA Gki (0) 4) (qGle : RA Gle (0) 5) (qGlo : RA Glo (0) 9) (qGta : RA Gta (0) 9) (qGsh : RA Gsh (0) 9) (qTcells : 1 ≤ Tcells ∧ Tcells ≤ 50) (qTgap : 0 ≤ Tgap ∧ Tgap ≤ 3) (qTwires : RA Twires (0) 9) (qTstands : RA Tstands (0) 9) (qPline : RA Pline (0) 7) (qPsize : 0 ≤ Psize ∧ Psize ≤ 8) (qPnow : 0 ≤ Pnow ∧ Pnow ≤ 1000000) (qPheads : RA Pheads (-1) 60) (qPbusy : RA Pbusy (0) 30) (qPcame : RA Pcame (-1) 1000000) (qPout : RA Pout (-1) 1000000) (qk : 0 ≤ k ∧ k ≤ 4) : Met l yX3_goesNow wsX3_goesNow ({ frames := 0, cells := 0, slots := 0, locals := 0 }) (va_Pc [.ref (oP 0), .int (zI k)] (zPre D cI cB cZ sz (kG cI cB cZ oG Gn Gki Gle Glo Gta Gsh ++ kT cI cB cZ oT Tcells Tgap Twires Tstands ++ kP cI cB cZ oP (oG 0) (oT 0) Pline Psize Pnow Pheads Pbusy Pcame Pout))) (va_Qi (fun (r9 : Int32) (u9 : Int) => r9 = zI u9 ∧ (((goP Pnow k ∧ u9 = 1) ∨ (¬ goP Pnow k ∧ u9 = 0)))) (fun u9 t9 => zAt D cI cB cZ (va_A (kG cI cB cZ oG Gn Gki Gle Glo Gta Gsh ++ kT cI cB cZ oT Tcells Tgap Twires Tstands ++ kP cI cB cZ oP (oG 0) (oT 0) Pline Psize Pnow Pheads Pbusy Pcame Pout) sz) (kG cI cB cZ oG Gn Gki Gle Glo Gta Gsh ++ kT cI cB cZ oT Tcells Tgap Twires Tstands ++ kP cI cB cZ oP (oG 0) (oT 0) Pline Psize Pnow Pheads Pbusy Pcame Pout) t9) (va_A (kG cI cB cZ oG Gn Gki Gle Glo Gta Gsh ++ kT cI cB cZ oT Tcells Tgap Twires Tstands ++ kP cI cB cZ oP (oG 0) (oT 0) Pline Psize Pnow Pheads Pbusy Pcame Pout) sz)) 0 0 (va_A (kG cI cB cZ oG Gn Gki Gle Glo Gta Gsh ++ kT cI cB cZ oT Tcells Tgap Twires Tstands ++ kP cI cB cZ oP (oG 0) (oT 0) Pline Psize Pnow Pheads Pbusy Pcame Pout) sz) := by
  refine Met.ofW (cc := cX3_goesNow) (maxL := 2) (ret := (some .boolean)) (by decide) rfl ?_
  intro pp ee s mm aa bw mt cd s₁ BL hml hv
  obtain ⟨rfl, hsz, hP, hK, hD0⟩ := hv
  have hx := BL.exec
  have hb := BL.bytes
  have hr := BL.returns
  have hts := atoms_spec (ws := wsX3_goesNow) BL.pre
  have hown : s.vm.findClass RX3 = some mm.cls := findClass_of_methodNamed BL.named
  have hlocks := BL.notSynchronized
  subst hsz
  generalize hAe : va_A (kG cI cB cZ oG Gn Gki Gle Glo Gta Gsh ++ kT cI cB cZ oT Tcells Tgap Twires Tstands ++ kP cI cB cZ oP (oG 0) (oT 0) Pline Psize Pnow Pheads Pbusy Pcame Pout) s.heap.size = A
  have hA : ∀ q : Nat, s.heap.size ≤ q → A q := fun q h => by rw [← hAe]; exact Or.inr h
  have hw : HW D A s.heap (kG cI cB cZ oG Gn Gki Gle Glo Gta Gsh ++ kT cI cB cZ oT Tcells Tgap Twires Tstands ++ kP cI cB cZ oP (oG 0) (oT 0) Pline Psize Pnow Pheads Pbusy Pcame Pout) s.heap [] := z_start hAe hP hD0
  clear hP hD0
  have hl := lv_entry ([.ref (oP 0), .int (zI k)]) (n := 2) (Nat.le_of_ble_eq_true rfl)
  rw [lg_entry_eq]
  generalize (lg_sl ([.ref (oP 0), .int (zI k)]) ++ List.replicate (2 - (lg_sl ([.ref (oP 0), .int (zI k)])).length) Slot.unset).toArray = ls at hl ⊢
  have hl : lv_has ls 2 [(0, .ref (oP 0)), (1, .int (zI k))] := hl
  have hinX3 : ∀ w ∈ wsX30, w ∈ wsX3_goesNow := by decide +kernel
  refine lv_aload_n hx hb dX3_goesNow_0 rfl (lv_at hl 0 rfl) ?_
  refine va_get (D := D) (ci := 3) (v := .int (zI Pnow)) (C := RX3) (T := TX3) (N := 9) hx hb hts hinX3 hown hK hw.1 9 rfl rfl 4 (by decide) (hts (.fieldLink RX3 19 "CarnivalRoad$Parade" "now" "I") (by decide +kernel)) (fun _ h9 => h9) rfl dX3_goesNow_1 ?_
  refine z_iconst hx hb dX3_goesNow_4 ?_
  have hbit_1 : zI Pnow - zI Pnow / zI 2 * zI 2 = zI (Pnow % (2 : Int)) := by
    exact z_rem (by omega) (by omega)
  refine lv_irem hx hb dX3_goesNow_5 (fun q => by have q2 := (zI_eq (by omega) (by omega)).mp (show zI 2 = zI 0 from q); omega) ?_
  rw [hbit_1]
  clear hbit_1
  refine z_if_eq (tgt := 19) hx hb dX3_goesNow_6 (by decide) (by omega) (fun hc_2 => ?_) (fun hc_2 => ?_)
  · skip
    refine z_iconst hx hb dX3_goesNow_19 ?_
    refine lv_goto (tgt := 24) hx hb dX3_goesNow_20 (by decide) ?_
    have hv_3 : (goP Pnow k ∧ (1 : Int) = 1) ∨ (¬ goP Pnow k ∧ (1 : Int) = 0) := by
      unfold goP; omega
    exact W.zret (v := zI 1) hx hb hr rfl (fun t9 ht hW => ⟨⟨zI 1, 1, rfl, ⟨rfl, hv_3⟩, by subst hAe; exact z_end hK hw ht hW⟩, by subst hAe; exact hw.2.2.F ht⟩) (by subst hAe; exact hw.2.2.2.2) dX3_goesNow_24
  · skip
    refine lv_iload_n hx hb dX3_goesNow_9 rfl (lv_at hl 1 rfl) ?_
    refine z_iconst hx hb dX3_goesNow_10 ?_
    refine z_icmp_eq (tgt := 23) hx hb dX3_goesNow_11 (by decide) (by omega) (fun hc_4 => ?_) (fun hc_4 => ?_)
    · skip
      refine z_iconst hx hb dX3_goesNow_23 ?_
      have hv_5 : (goP Pnow k ∧ (0 : Int) = 1) ∨ (¬ goP Pnow k ∧ (0 : Int) = 0) := by
        unfold goP; omega
      exact W.zret (v := zI 0) hx hb hr rfl (fun t9 ht hW => ⟨⟨zI 0, 0, rfl, ⟨rfl, hv_5⟩, by subst hAe; exact z_end hK hw ht hW⟩, by subst hAe; exact hw.2.2.F ht⟩) (by subst hAe; exact hw.2.2.2.2) dX3_goesNow_24
    · skip
      refine lv_iload_n hx hb dX3_goesNow_14 rfl (lv_at hl 1 rfl) ?_
      refine z_iconst hx hb dX3_goesNow_15 ?_
      refine z_icmp_eq (tgt := 23) hx hb dX3_goesNow_16 (by decide) (by omega) (fun hc_6 => ?_) (fun hc_6 => ?_)
      · skip
        refine z_iconst hx hb dX3_goesNow_23 ?_
        have hv_7 : (goP Pnow k ∧ (0 : Int) = 1) ∨ (¬ goP Pnow k ∧ (0 : Int) = 0) := by
          unfold goP; omega
        exact W.zret (v := zI 0) hx hb hr rfl (fun t9 ht hW => ⟨⟨zI 0, 0, rfl, ⟨rfl, hv_7⟩, by subst hAe; exact z_end hK hw ht hW⟩, by subst hAe; exact hw.2.2.F ht⟩) (by subst hAe; exact hw.2.2.2.2) dX3_goesNow_24
      · skip
        refine z_iconst hx hb dX3_goesNow_19 ?_
        refine lv_goto (tgt := 24) hx hb dX3_goesNow_20 (by decide) ?_
        have hv_8 : (goP Pnow k ∧ (1 : Int) = 1) ∨ (¬ goP Pnow k ∧ (1 : Int) = 0) := by
          unfold goP; omega
        exact W.zret (v := zI 1) hx hb hr rfl (fun t9 ht hW => ⟨⟨zI 1, 1, rfl, ⟨rfl, hv_8⟩, by subst hAe; exact z_end hK hw ht hW⟩, by subst hAe; exact hw.2.2.F ht⟩) (by subst hAe; exact hw.2.2.2.2) dX3_goesNow_24
set_option maxRecDepth 100000 in
set_option maxHeartbeats 4000000 in
theorem c_X3_hasRoom (l : Launch) (D : va_G) (cI cB cZ : ClassId) (oG : Nat → Nat) (oT : Nat → Nat) (oP : Nat → Nat) (sz : Nat) (Gn : Int) (Gki : Int → Int) (Gle : Int → Int) (Glo : Int → Int) (Gta : Int → Int) (Gsh : Int → Int) (Tcells : Int) (Tgap : Int) (Twires : Int → Int) (Tstands : Int → Int) (Pline : Int → Int) (Psize : Int) (Pnow : Int) (Pheads : Int → Int) (Pbusy : Int → Int) (Pcame : Int → Int) (Pout : Int → Int) (p : Int) (qGn : 0 ≤ Gn ∧ Gn ≤ 8) (qGki : RA Gki (0) 4) (qGle : RA Gle (0) 5) (qGlo : RA Glo (0) 9) (qGta : RA Gta (0) 9) (qGsh : RA Gsh (0) 9) (qTcells : 1 ≤ Tcells ∧ Tcells ≤ 50) (qTgap : 0 ≤ Tgap ∧ Tgap ≤ 3) (qTwires : RA Twires (0) 9) (qTstands : RA Tstands (0) 9) (qPline : RA Pline (0) 7) (qPsize : 0 ≤ Psize ∧ Psize ≤ 8) (qPnow : 0 ≤ Pnow ∧ Pnow ≤ 1000000) (qPheads : RA Pheads (-1) 60) (qPbusy : RA Pbusy (0) 30) (qPcame : RA Pcame (-1) 1000000) (qPout : RA Pout (-1) 1000000) (qp : 0 ≤ p ∧ p ≤ 7) : Met l yX3_hasRoom wsX3_hasRoom ({ frames := 1, cells := 0, slots := 0, locals := 21 }) (va_Pc [.ref (oP 0), .int (zI p)] (zPre D cI cB cZ sz (kG cI cB cZ oG Gn Gki Gle Glo Gta Gsh ++ kT cI cB cZ oT Tcells Tgap Twires Tstands ++ kP cI cB cZ oP (oG 0) (oT 0) Pline Psize Pnow Pheads Pbusy Pcame Pout))) (va_Qi (fun (r9 : Int32) (u9 : Int) => r9 = zI u9 ∧ (((roomP Gle Tgap Pline p Pheads Pout ∧ u9 = 1) ∨ (¬ roomP Gle Tgap Pline p Pheads Pout ∧ u9 = 0)))) (fun u9 t9 => zAt D cI cB cZ (va_A (kG cI cB cZ oG Gn Gki Gle Glo Gta Gsh ++ kT cI cB cZ oT Tcells Tgap Twires Tstands ++ kP cI cB cZ oP (oG 0) (oT 0) Pline Psize Pnow Pheads Pbusy Pcame Pout) sz) (kG cI cB cZ oG Gn Gki Gle Glo Gta Gsh ++ kT cI cB cZ oT Tcells Tgap Twires Tstands ++ kP cI cB cZ oP (oG 0) (oT 0) Pline Psize Pnow Pheads Pbusy Pcame Pout) t9) (va_A (kG cI cB cZ oG Gn Gki Gle Glo Gta Gsh ++ kT cI cB cZ oT Tcells Tgap Twires Tstands ++ kP cI cB cZ oP (oG 0) (oT 0) Pline Psize Pnow Pheads Pbusy Pcame Pout) sz)) 0 0 (va_A (kG cI cB cZ oG Gn Gki Gle Glo Gta Gsh ++ kT cI cB cZ oT Tcells Tgap Twires Tstands ++ kP cI cB cZ oP (oG 0) (oT 0) Pline Psize Pnow Pheads Pbusy Pcame Pout) sz) := by
  refine Met.ofW (cc := cX3_hasRoom) (maxL := 4) (ret := (some .boolean)) (by decide) rfl ?_
  intro pp ee s mm aa bw mt cd s₁ BL hml hv
  obtain ⟨rfl, hsz, hP, hK, hD0⟩ := hv
  have hx := BL.exec
  have hb := BL.bytes
  have hr := BL.returns
  have hts := atoms_spec (ws := wsX3_hasRoom) BL.pre
  have hown : s.vm.findClass RX3 = some mm.cls := findClass_of_methodNamed BL.named
  have hlocks := BL.notSynchronized
  subst hsz
  generalize hAe : va_A (kG cI cB cZ oG Gn Gki Gle Glo Gta Gsh ++ kT cI cB cZ oT Tcells Tgap Twires Tstands ++ kP cI cB cZ oP (oG 0) (oT 0) Pline Psize Pnow Pheads Pbusy Pcame Pout) s.heap.size = A
  have hA : ∀ q : Nat, s.heap.size ≤ q → A q := fun q h => by rw [← hAe]; exact Or.inr h
  have hw : HW D A s.heap (kG cI cB cZ oG Gn Gki Gle Glo Gta Gsh ++ kT cI cB cZ oT Tcells Tgap Twires Tstands ++ kP cI cB cZ oP (oG 0) (oT 0) Pline Psize Pnow Pheads Pbusy Pcame Pout) s.heap [] := z_start hAe hP hD0
  clear hP hD0
  have hl := lv_entry ([.ref (oP 0), .int (zI p)]) (n := 4) (Nat.le_of_ble_eq_true rfl)
  rw [lg_entry_eq]
  generalize (lg_sl ([.ref (oP 0), .int (zI p)]) ++ List.replicate (4 - (lg_sl ([.ref (oP 0), .int (zI p)])).length) Slot.unset).toArray = ls at hl ⊢
  have hl : lv_has ls 4 [(0, .ref (oP 0)), (1, .int (zI p))] := hl
  have hinX3 : ∀ w ∈ wsX30, w ∈ wsX3_hasRoom := by decide +kernel
  have hinX6 : ∀ w ∈ wsX60, w ∈ wsX3_hasRoom := by decide +kernel
  refine lv_aload_n hx hb dX3_hasRoom_0 rfl (lv_at hl 0 rfl) ?_
  refine va_get (D := D) (ci := 3) (v := .ref (oP 2)) (C := RX3) (T := TX3) (N := 9) hx hb hts hinX3 hown hK hw.1 9 rfl rfl 5 (by decide) (hts (.fieldLink RX3 22 "CarnivalRoad$Parade" "heads" "[I") (by decide +kernel)) (fun _ h9 => h9) rfl dX3_hasRoom_1 ?_
  refine lv_aload_n hx hb dX3_hasRoom_4 rfl (lv_at hl 0 rfl) ?_
  refine va_get (D := D) (ci := 3) (v := .ref (oP 1)) (C := RX3) (T := TX3) (N := 9) hx hb hts hinX3 hown hK hw.1 9 rfl rfl 2 (by decide) (hts (.fieldLink RX3 9 "CarnivalRoad$Parade" "line" "[I") (by decide +kernel)) (fun _ h9 => h9) rfl dX3_hasRoom_5 ?_
  refine lv_iload_n hx hb dX3_hasRoom_8 rfl (lv_at hl 1 rfl) ?_
  have hi_1 : (0 : Int) ≤ p ∧ p < ((8 : Nat) : Int) := by
    first | assumption | omega | grind
  refine z_iald (n := 8) (f := Pline) hx hb hK hw 10 rfl (by decide) hi_1 dX3_hasRoom_9 ?_
  have hq_2 : 0 ≤ Pline p ∧ Pline p ≤ 7 := qPline p
  have hi_3 : (0 : Int) ≤ (Pline p) ∧ (Pline p) < ((8 : Nat) : Int) := by
    first | assumption | omega | grind
  refine z_iald (n := 8) (f := Pheads) hx hb hK hw 11 rfl (by decide) hi_3 dX3_hasRoom_10 ?_
  have hq_4 : -1 ≤ Pheads (Pline p) ∧ Pheads (Pline p) ≤ 60 := qPheads (Pline p)
  refine z_iconst hx hb dX3_hasRoom_11 ?_
  refine z_iadd hx hb dX3_hasRoom_12 ?_
  refine lv_istore_n (lv' := [(2, .int (zI ((Pheads (Pline p)) + 1))), (0, .ref (oP 0)), (1, .int (zI p))]) hx hb dX3_hasRoom_13 rfl hl (by decide) rfl (fun ls hl => ?_)
  refine lv_iload_n hx hb dX3_hasRoom_14 rfl (lv_at hl 2 rfl) ?_
  refine z_iconst hx hb dX3_hasRoom_15 ?_
  refine z_isub hx hb dX3_hasRoom_16 ?_
  refine lv_istore_n (lv' := [(3, .int (zI (p - 1))), (2, .int (zI ((Pheads (Pline p)) + 1))), (0, .ref (oP 0)), (1, .int (zI p))]) hx hb dX3_hasRoom_17 rfl hl (by decide) rfl (fun ls hl => ?_)
  have hv_5 : -1 ≤ (p - 1) ∧ (p - 1) < p := by
    first | assumption | omega | grind
  have hv_6 : ∀ k, (p - 1) < k → k < p → ¬ Pout (Pline k) = -1 := by
    intro k h0 h1; omega
  refine z_loop (σ := Int) (μ := fun x9 => (x9 + 1).toNat) (I := fun x9 H locs ls => (-1 ≤ x9 ∧ x9 < p) ∧ (∀ k, x9 < k → k < p → ¬ Pout (Pline k) = -1) ∧ HW D A s.heap (kG cI cB cZ oG Gn Gki Gle Glo Gta Gsh ++ kT cI cB cZ oT Tcells Tgap Twires Tstands ++ kP cI cB cZ oP (oG 0) (oT 0) Pline Psize Pnow Pheads Pbusy Pcame Pout) H locs ∧ lv_has ls 4 [(0, .ref (oP 0)), (2, .int (zI ((Pheads (Pline p)) + 1))), (3, .int (zI x9))]) (p - 1) ⟨hv_5, hv_6, hw, lv_sub hl [2, 1, 0] rfl⟩ ?_
  clear hw hl
  intro i_8 H locs ls hI ih_7
  try dsimp only at hI
  obtain ⟨hI_9, hI_10, hw, hl⟩ := hI
  refine lv_iload_n hx hb dX3_hasRoom_18 rfl (lv_at hl 2 rfl) ?_
  refine z_if_lt (tgt := 69) hx hb dX3_hasRoom_19 (by decide) (by omega) (fun hc_11 => ?_) (fun hc_11 => ?_)
  · skip
    refine z_iconst hx hb dX3_hasRoom_69 ?_
    have hv_12 : (roomP Gle Tgap Pline p Pheads Pout ∧ (1 : Int) = 1) ∨ (¬ roomP Gle Tgap Pline p Pheads Pout ∧ (1 : Int) = 0) := by
      refine Or.inl ⟨Or.inl fun k h0 h1 => ?_, rfl⟩
      exact (by assumption : ∀ k, i_8 < k → k < p → ¬ Pout (Pline k) = -1) k (by omega) h1
    exact W.zret (v := zI 1) hx hb hr rfl (fun t9 ht hW => ⟨⟨zI 1, 1, rfl, ⟨rfl, hv_12⟩, by subst hAe; exact z_end hK hw ht hW⟩, by subst hAe; exact hw.2.2.F ht⟩) (by subst hAe; exact hw.2.2.2.2) dX3_hasRoom_70
  · skip
    refine lv_aload_n hx hb dX3_hasRoom_22 rfl (lv_at hl 0 rfl) ?_
    refine lv_aload_n hx hb dX3_hasRoom_23 rfl (lv_at hl 0 rfl) ?_
    refine va_get (D := D) (ci := 3) (v := .ref (oP 1)) (C := RX3) (T := TX3) (N := 9) hx hb hts hinX3 hown hK hw.1 9 rfl rfl 2 (by decide) (hts (.fieldLink RX3 9 "CarnivalRoad$Parade" "line" "[I") (by decide +kernel)) (fun _ h9 => h9) rfl dX3_hasRoom_24 ?_
    refine lv_iload_n hx hb dX3_hasRoom_27 rfl (lv_at hl 2 rfl) ?_
    have hi_13 : (0 : Int) ≤ i_8 ∧ i_8 < ((8 : Nat) : Int) := by
      first | assumption | omega | grind
    refine z_iald (n := 8) (f := Pline) hx hb hK hw 10 rfl (by decide) hi_13 dX3_hasRoom_28 ?_
    have hq_14 : 0 ≤ Pline i_8 ∧ Pline i_8 ≤ 7 := qPline i_8
    have hF9 := z_free (wc := kG cI cB cZ oG Gn Gki Gle Glo Gta Gsh ++ kT cI cB cZ oT Tcells Tgap Twires Tstands ++ kP cI cB cZ oP (oG 0) (oT 0) Pline Psize Pnow Pheads Pbusy Pcame Pout) hw hA [0, 1, 2, 3, 4, 5, 6, 7, 8, 9, 10, 11, 12, 13, 14] rfl
    refine va_calli (va_runV (As := [.int (zI (Pline i_8))]) (rest := []) ⟨hx, hb, hml, hown, hts⟩ (c_X3_isOut l D cI cB cZ oG oT oP H.size Gn Gki Gle Glo Gta Gsh Tcells Tgap Twires Tstands Pline Psize Pnow Pheads Pbusy Pcame Pout (Pline i_8) (by omega) qGki qGle qGlo qGta qGsh (by omega) (by omega) qTwires qTstands qPline (by omega) (by omega) qPheads qPbusy qPcame qPout (by omega)) (cwV 1 hts gX3_hasRoom_X3_isOut rfl rfl rfl (by decide +kernel) ⟨Nat.le_of_ble_eq_true rfl, Nat.le_of_ble_eq_true rfl⟩) ⟨zPre_blind, va_recv hK hw.1 (ci := 3) (q0 := 9) rfl rfl, z_pre hK hw [0, 1, 2, 3, 4, 5, 6, 7, 8, 9, 10, 11, 12, 13, 14] (by decide) rfl⟩ rfl rfl hl.1 rfl (lv_room (Nat.le_of_ble_eq_true rfl)) dX3_hasRoom_29 ⟨Nat.zero_le _, Nat.zero_le _⟩) hw.2.2 (fun q _ h => hF9 q h) hF9 (fun r9 u9 t9 H_15 locs9 ht9 hvm9 hq9 hB9 hz9 hk9 hS9 => ?_)
    obtain ⟨r_16, rfl⟩ : ∃ z, z = u9 := ⟨_, rfl⟩
    try dsimp only at hq9 hB9
    obtain ⟨rfl, hq9⟩ := hq9
    have hq_17 := hq9
    have hw : HW D A s.heap (kG cI cB cZ oG Gn Gki Gle Glo Gta Gsh ++ kT cI cB cZ oT Tcells Tgap Twires Tstands ++ kP cI cB cZ oP (oG 0) (oT 0) Pline Psize Pnow Pheads Pbusy Pcame Pout) H_15 locs9 := z_after (wc := kG cI cB cZ oG Gn Gki Gle Glo Gta Gsh ++ kT cI cB cZ oT Tcells Tgap Twires Tstands ++ kP cI cB cZ oP (oG 0) (oT 0) Pline Psize Pnow Pheads Pbusy Pcame Pout) hw [0, 1, 2, 3, 4, 5, 6, 7, 8, 9, 10, 11, 12, 13, 14] [] rfl rfl (by decide) (by decide) hF9 hk9 ht9 hB9 hS9 [0, 1, 2, 3, 4, 5, 6, 7, 8, 9, 10, 11, 12, 13, 14] (by decide) rfl
    clear hF9 ht9 hvm9 hB9 hz9 hk9 hS9 hq9
    rcases hq_17 with ⟨hc_18, rfl⟩ | ⟨hc_18, rfl⟩
    · skip
      refine z_if_ne (tgt := 63) hx hb dX3_hasRoom_32 (by decide) (by omega) (fun hc_19 => ?_) (fun hc_19 => absurd hc_19 (by omega))
      refine z_iinc (k := 2) (lv' := [(3, .int (zI (i_8 + (-1)))), (0, .ref (oP 0)), (2, .int (zI ((Pheads (Pline p)) + 1)))]) hx hb dX3_hasRoom_63 hl rfl (by decide) rfl (fun ls hl => ?_)
      refine lv_goto (tgt := 18) hx hb dX3_hasRoom_66 (by decide) ?_
      have hv_20 : -1 ≤ (i_8 + (-1)) ∧ (i_8 + (-1)) < p := by
        first | assumption | omega | grind
      have hv_21 : ∀ k, (i_8 + (-1)) < k → k < p → ¬ Pout (Pline k) = -1 := by
        intro k h0 h1
        by_cases q : k = i_8
        · rw [q]; assumption
        · exact (by assumption : ∀ k, i_8 < k → k < p → ¬ Pout (Pline k) = -1) k (by omega) h1
      have hm_22 : ((i_8 + (-1)) + 1).toNat < (i_8 + 1).toNat := by
        first | assumption | omega | grind
      exact ih_7 (i_8 + (-1)) _ _ _ ⟨hv_20, hv_21, hw, lv_sub hl [1, 2, 0] rfl⟩ hm_22
    · skip
      refine z_if_ne (tgt := 63) hx hb dX3_hasRoom_32 (by decide) (by omega) (fun hc_23 => absurd hc_23 (by omega)) (fun hc_23 => ?_)
      refine lv_aload_n hx hb dX3_hasRoom_35 rfl (lv_at hl 0 rfl) ?_
      refine lv_aload_n hx hb dX3_hasRoom_36 rfl (lv_at hl 0 rfl) ?_
      refine va_get (D := D) (ci := 3) (v := .ref (oP 1)) (C := RX3) (T := TX3) (N := 9) hx hb hts hinX3 hown hK hw.1 9 rfl rfl 2 (by decide) (hts (.fieldLink RX3 9 "CarnivalRoad$Parade" "line" "[I") (by decide +kernel)) (fun _ h9 => h9) rfl dX3_hasRoom_37 ?_
      refine lv_iload_n hx hb dX3_hasRoom_40 rfl (lv_at hl 2 rfl) ?_
      have hi_24 : (0 : Int) ≤ i_8 ∧ i_8 < ((8 : Nat) : Int) := by
        first | assumption | omega | grind
      refine z_iald (n := 8) (f := Pline) hx hb hK hw 10 rfl (by decide) hi_24 dX3_hasRoom_41 ?_
      have hq_25 : 0 ≤ Pline i_8 ∧ Pline i_8 ≤ 7 := qPline i_8
      have hF9 := z_free (wc := kG cI cB cZ oG Gn Gki Gle Glo Gta Gsh ++ kT cI cB cZ oT Tcells Tgap Twires Tstands ++ kP cI cB cZ oP (oG 0) (oT 0) Pline Psize Pnow Pheads Pbusy Pcame Pout) hw hA [0, 1, 2, 3, 4, 5, 6, 7, 8, 9, 10, 11, 12, 13, 14] rfl
      refine va_calli (va_runV (As := [.int (zI (Pline i_8))]) (rest := []) ⟨hx, hb, hml, hown, hts⟩ (c_X3_tailOf l D cI cB cZ oG oT oP H_15.size Gn Gki Gle Glo Gta Gsh Tcells Tgap Twires Tstands Pline Psize Pnow Pheads Pbusy Pcame Pout (Pline i_8) (by omega) qGki qGle qGlo qGta qGsh (by omega) (by omega) qTwires qTstands qPline (by omega) (by omega) qPheads qPbusy qPcame qPout (by omega)) (cwV 1 hts gX3_hasRoom_X3_tailOf rfl rfl rfl (by decide +kernel) ⟨Nat.le_of_ble_eq_true rfl, Nat.le_of_ble_eq_true rfl⟩) ⟨zPre_blind, va_recv hK hw.1 (ci := 3) (q0 := 9) rfl rfl, z_pre hK hw [0, 1, 2, 3, 4, 5, 6, 7, 8, 9, 10, 11, 12, 13, 14] (by decide) rfl⟩ rfl rfl hl.1 rfl (lv_room (Nat.le_of_ble_eq_true rfl)) dX3_hasRoom_42 ⟨Nat.zero_le _, Nat.zero_le _⟩) hw.2.2 (fun q _ h => hF9 q h) hF9 (fun r9 u9 t9 H_26 locs9 ht9 hvm9 hq9 hB9 hz9 hk9 hS9 => ?_)
      obtain ⟨r_27, rfl⟩ : ∃ z, z = u9 := ⟨_, rfl⟩
      try dsimp only at hq9 hB9
      obtain ⟨rfl, hq9⟩ := hq9
      obtain ⟨hq_28, hq_29⟩ := hq9
      have hw : HW D A s.heap (kG cI cB cZ oG Gn Gki Gle Glo Gta Gsh ++ kT cI cB cZ oT Tcells Tgap Twires Tstands ++ kP cI cB cZ oP (oG 0) (oT 0) Pline Psize Pnow Pheads Pbusy Pcame Pout) H_26 locs9 := z_after (wc := kG cI cB cZ oG Gn Gki Gle Glo Gta Gsh ++ kT cI cB cZ oT Tcells Tgap Twires Tstands ++ kP cI cB cZ oP (oG 0) (oT 0) Pline Psize Pnow Pheads Pbusy Pcame Pout) hw [0, 1, 2, 3, 4, 5, 6, 7, 8, 9, 10, 11, 12, 13, 14] [] rfl rfl (by decide) (by decide) hF9 hk9 ht9 hB9 hS9 [0, 1, 2, 3, 4, 5, 6, 7, 8, 9, 10, 11, 12, 13, 14] (by decide) rfl
      clear hF9 ht9 hvm9 hB9 hz9 hk9 hS9
      refine lv_iload_n hx hb dX3_hasRoom_45 rfl (lv_at hl 1 rfl) ?_
      refine z_isub hx hb dX3_hasRoom_46 ?_
      refine lv_aload_n hx hb dX3_hasRoom_47 rfl (lv_at hl 0 rfl) ?_
      refine va_get (D := D) (ci := 3) (v := .ref (oT 0)) (C := RX3) (T := TX3) (N := 9) hx hb hts hinX3 hown hK hw.1 9 rfl rfl 1 (by decide) (hts (.fieldLink RX3 38 "CarnivalRoad$Parade" "street" "LCarnivalRoad$Street;") (by decide +kernel)) (fun _ h9 => h9) rfl dX3_hasRoom_48 ?_
      refine va_get (D := D) (ci := 6) (v := .int (zI Tgap)) (C := RX6) (T := TX6) (N := 4) hx hb hts hinX6 hown hK hw.1 6 rfl rfl 1 (by decide) (hts (.fieldLink RX3 88 "CarnivalRoad$Street" "gap" "I") (by decide +kernel)) (fun _ h9 => h9) rfl dX3_hasRoom_51 ?_
      refine z_icmp_le (tgt := 61) hx hb dX3_hasRoom_54 (by decide) (by omega) (fun hc_30 => ?_) (fun hc_30 => ?_)
      · skip
        refine z_iconst hx hb dX3_hasRoom_61 ?_
        have hv_31 : (roomP Gle Tgap Pline p Pheads Pout ∧ (0 : Int) = 1) ∨ (¬ roomP Gle Tgap Pline p Pheads Pout ∧ (0 : Int) = 0) := by
          exact room_end (by assumption) (by omega) (by omega) (by omega) (by omega)
        exact W.zret (v := zI 0) hx hb hr rfl (fun t9 ht hW => ⟨⟨zI 0, 0, rfl, ⟨rfl, hv_31⟩, by subst hAe; exact z_end hK hw ht hW⟩, by subst hAe; exact hw.2.2.F ht⟩) (by subst hAe; exact hw.2.2.2.2) dX3_hasRoom_62
      · skip
        refine z_iconst hx hb dX3_hasRoom_57 ?_
        refine lv_goto (tgt := 62) hx hb dX3_hasRoom_58 (by decide) ?_
        have hv_32 : (roomP Gle Tgap Pline p Pheads Pout ∧ (1 : Int) = 1) ∨ (¬ roomP Gle Tgap Pline p Pheads Pout ∧ (1 : Int) = 0) := by
          exact room_end (by assumption) (by omega) (by omega) (by omega) (by omega)
        exact W.zret (v := zI 1) hx hb hr rfl (fun t9 ht hW => ⟨⟨zI 1, 1, rfl, ⟨rfl, hv_32⟩, by subst hAe; exact z_end hK hw ht hW⟩, by subst hAe; exact hw.2.2.F ht⟩) (by subst hAe; exact hw.2.2.2.2) dX3_hasRoom_62
set_option maxRecDepth 100000 in
set_option maxHeartbeats 4000000 in
theorem c_X3_arrive (l : Launch) (D : va_G) (cI cB cZ : ClassId) (oG : Nat → Nat) (oT : Nat → Nat) (oP : Nat → Nat) (sz : Nat) (Gn : Int) (Gki : Int → Int) (Gle : Int → Int) (Glo : Int → Int) (Gta : Int → Int) (Gsh : Int → Int) (Tcells : Int) (Tgap : Int) (Twires : Int → Int) (Tstands : Int → Int) (Pline : Int → Int) (Psize : Int) (Pnow : Int) (Pheads : Int → Int) (Pbusy : Int → Int) (Pcame : Int → Int) (Pout : Int → Int) (g : Int) (qGn : 0 ≤ Gn ∧ Gn ≤ 8) (qGki : RA Gki (0) 4) (qGle : RA Gle (0) 5) (qGlo : RA Glo (0) 9) (qGta : RA Gta (0) 9) (qGsh : RA Gsh (0) 9) (qTcells : 1 ≤ Tcells ∧ Tcells ≤ 50) (qTgap : 0 ≤ Tgap ∧ Tgap ≤ 3) (qTwires : RA Twires (0) 9) (qTstands : RA Tstands (0) 9) (qPline : RA Pline (0) 7) (qPsize : 0 ≤ Psize ∧ Psize ≤ 8) (qPnow : 0 ≤ Pnow ∧ Pnow ≤ 1000000) (qPheads : RA Pheads (-1) 60) (qPbusy : RA Pbusy (0) 30) (qPcame : RA Pcame (-1) 1000000) (qPout : RA Pout (-1) 1000000) (qg : 0 ≤ g ∧ g ≤ 7) (hp0 : 0 ≤ Pheads g) : Met l yX3_arrive wsX3_arrive ({ frames := 1, cells := 0, slots := 0, locals := 21 }) (va_Pc [.ref (oP 0), .int (zI g)] (zPre D cI cB cZ sz (kG cI cB cZ oG Gn Gki Gle Glo Gta Gsh ++ kT cI cB cZ oT Tcells Tgap Twires Tstands ++ kP cI cB cZ oP (oG 0) (oT 0) Pline Psize Pnow Pheads Pbusy Pcame Pout))) (va_Qv (fun (u9 : (Int → Int) × (Int → Int) × (Int → Int)) => (RA u9.1 (0) 30) ∧ (RA u9.2.1 (-1) 1000000) ∧ (RA u9.2.2 (-1) 1000000) ∧ ((Pheads, u9.1, u9.2.1, u9.2.2) = arrF Gki Gle Tcells Tstands Pnow g (Pheads, Pbusy, Pcame, Pout))) (fun u9 t9 => zAt D cI cB cZ (va_A (kG cI cB cZ oG Gn Gki Gle Glo Gta Gsh ++ kT cI cB cZ oT Tcells Tgap Twires Tstands ++ kP cI cB cZ oP (oG 0) (oT 0) Pline Psize Pnow Pheads Pbusy Pcame Pout) sz) (kG cI cB cZ oG Gn Gki Gle Glo Gta Gsh ++ kT cI cB cZ oT Tcells Tgap Twires Tstands ++ kP cI cB cZ oP (oG 0) (oT 0) Pline Psize Pnow Pheads (u9.1) (u9.2.1) (u9.2.2)) t9) (va_A (kG cI cB cZ oG Gn Gki Gle Glo Gta Gsh ++ kT cI cB cZ oT Tcells Tgap Twires Tstands ++ kP cI cB cZ oP (oG 0) (oT 0) Pline Psize Pnow Pheads Pbusy Pcame Pout) sz)) 0 0 (va_A (kG cI cB cZ oG Gn Gki Gle Glo Gta Gsh ++ kT cI cB cZ oT Tcells Tgap Twires Tstands ++ kP cI cB cZ oP (oG 0) (oT 0) Pline Psize Pnow Pheads Pbusy Pcame Pout) sz) := by
  refine Met.ofW (cc := cX3_arrive) (maxL := 4) (ret := none) (by decide) rfl ?_
  intro pp ee s mm aa bw mt cd s₁ BL hml hv
  obtain ⟨rfl, hsz, hP, hK, hD0⟩ := hv
  have hx := BL.exec
  have hb := BL.bytes
  have hr := BL.returns
  have hts := atoms_spec (ws := wsX3_arrive) BL.pre
  have hown : s.vm.findClass RX3 = some mm.cls := findClass_of_methodNamed BL.named
  have hlocks := BL.notSynchronized
  subst hsz
  generalize hAe : va_A (kG cI cB cZ oG Gn Gki Gle Glo Gta Gsh ++ kT cI cB cZ oT Tcells Tgap Twires Tstands ++ kP cI cB cZ oP (oG 0) (oT 0) Pline Psize Pnow Pheads Pbusy Pcame Pout) s.heap.size = A
  have hA : ∀ q : Nat, s.heap.size ≤ q → A q := fun q h => by rw [← hAe]; exact Or.inr h
  have hw : HW D A s.heap (kG cI cB cZ oG Gn Gki Gle Glo Gta Gsh ++ kT cI cB cZ oT Tcells Tgap Twires Tstands ++ kP cI cB cZ oP (oG 0) (oT 0) Pline Psize Pnow Pheads Pbusy Pcame Pout) s.heap [] := z_start hAe hP hD0
  clear hP hD0
  have hl := lv_entry ([.ref (oP 0), .int (zI g)]) (n := 4) (Nat.le_of_ble_eq_true rfl)
  rw [lg_entry_eq]
  generalize (lg_sl ([.ref (oP 0), .int (zI g)]) ++ List.replicate (4 - (lg_sl ([.ref (oP 0), .int (zI g)])).length) Slot.unset).toArray = ls at hl ⊢
  have hl : lv_has ls 4 [(0, .ref (oP 0)), (1, .int (zI g))] := hl
  have hinX2 : ∀ w ∈ wsX20, w ∈ wsX3_arrive := by decide +kernel
  have hinX3 : ∀ w ∈ wsX30, w ∈ wsX3_arrive := by decide +kernel
  have hinX6 : ∀ w ∈ wsX60, w ∈ wsX3_arrive := by decide +kernel
  refine lv_aload_n hx hb dX3_arrive_0 rfl (lv_at hl 0 rfl) ?_
  refine va_get (D := D) (ci := 3) (v := .ref (oP 2)) (C := RX3) (T := TX3) (N := 9) hx hb hts hinX3 hown hK hw.1 9 rfl rfl 5 (by decide) (hts (.fieldLink RX3 22 "CarnivalRoad$Parade" "heads" "[I") (by decide +kernel)) (fun _ h9 => h9) rfl dX3_arrive_1 ?_
  refine lv_iload_n hx hb dX3_arrive_4 rfl (lv_at hl 1 rfl) ?_
  have hi_1 : (0 : Int) ≤ g ∧ g < ((8 : Nat) : Int) := by
    first | assumption | omega | grind
  refine z_iald (n := 8) (f := Pheads) hx hb hK hw 11 rfl (by decide) hi_1 dX3_arrive_5 ?_
  have hq_2 : -1 ≤ Pheads g ∧ Pheads g ≤ 60 := qPheads g
  refine z_if_ne (tgt := 19) hx hb dX3_arrive_6 (by decide) (by omega) (fun hc_3 => ?_) (fun hc_3 => ?_)
  · skip
    refine lv_aload_n hx hb dX3_arrive_19 rfl (lv_at hl 0 rfl) ?_
    refine lv_iload_n hx hb dX3_arrive_20 rfl (lv_at hl 1 rfl) ?_
    have hF9 := z_free (wc := kG cI cB cZ oG Gn Gki Gle Glo Gta Gsh ++ kT cI cB cZ oT Tcells Tgap Twires Tstands ++ kP cI cB cZ oP (oG 0) (oT 0) Pline Psize Pnow Pheads Pbusy Pcame Pout) hw hA [0, 1, 2, 3, 4, 5, 6, 7, 8, 9, 10, 11, 12, 13, 14] rfl
    refine va_calli (va_runV (As := [.int (zI g)]) (rest := []) ⟨hx, hb, hml, hown, hts⟩ (c_X3_tailOf l D cI cB cZ oG oT oP s.heap.size Gn Gki Gle Glo Gta Gsh Tcells Tgap Twires Tstands Pline Psize Pnow Pheads Pbusy Pcame Pout g (by omega) qGki qGle qGlo qGta qGsh (by omega) (by omega) qTwires qTstands qPline (by omega) (by omega) qPheads qPbusy qPcame qPout (by omega)) (cwV 1 hts gX3_arrive_X3_tailOf rfl rfl rfl (by decide +kernel) ⟨Nat.le_of_ble_eq_true rfl, Nat.le_of_ble_eq_true rfl⟩) ⟨zPre_blind, va_recv hK hw.1 (ci := 3) (q0 := 9) rfl rfl, z_pre hK hw [0, 1, 2, 3, 4, 5, 6, 7, 8, 9, 10, 11, 12, 13, 14] (by decide) rfl⟩ rfl rfl hl.1 rfl (lv_room (Nat.le_of_ble_eq_true rfl)) dX3_arrive_21 ⟨Nat.zero_le _, Nat.zero_le _⟩) hw.2.2 (fun q _ h => hF9 q h) hF9 (fun r9 u9 t9 H_4 locs9 ht9 hvm9 hq9 hB9 hz9 hk9 hS9 => ?_)
    obtain ⟨r_5, rfl⟩ : ∃ z, z = u9 := ⟨_, rfl⟩
    try dsimp only at hq9 hB9
    obtain ⟨rfl, hq9⟩ := hq9
    obtain ⟨hq_6, hq_7⟩ := hq9
    have hw : HW D A s.heap (kG cI cB cZ oG Gn Gki Gle Glo Gta Gsh ++ kT cI cB cZ oT Tcells Tgap Twires Tstands ++ kP cI cB cZ oP (oG 0) (oT 0) Pline Psize Pnow Pheads Pbusy Pcame Pout) H_4 locs9 := z_after (wc := kG cI cB cZ oG Gn Gki Gle Glo Gta Gsh ++ kT cI cB cZ oT Tcells Tgap Twires Tstands ++ kP cI cB cZ oP (oG 0) (oT 0) Pline Psize Pnow Pheads Pbusy Pcame Pout) hw [0, 1, 2, 3, 4, 5, 6, 7, 8, 9, 10, 11, 12, 13, 14] [] rfl rfl (by decide) (by decide) hF9 hk9 ht9 hB9 hS9 [0, 1, 2, 3, 4, 5, 6, 7, 8, 9, 10, 11, 12, 13, 14] (by decide) rfl
    clear hF9 ht9 hvm9 hB9 hz9 hk9 hS9
    refine lv_aload_n hx hb dX3_arrive_24 rfl (lv_at hl 0 rfl) ?_
    refine va_get (D := D) (ci := 3) (v := .ref (oT 0)) (C := RX3) (T := TX3) (N := 9) hx hb hts hinX3 hown hK hw.1 9 rfl rfl 1 (by decide) (hts (.fieldLink RX3 38 "CarnivalRoad$Parade" "street" "LCarnivalRoad$Street;") (by decide +kernel)) (fun _ h9 => h9) rfl dX3_arrive_25 ?_
    refine va_get (D := D) (ci := 6) (v := .int (zI Tcells)) (C := RX6) (T := TX6) (N := 4) hx hb hts hinX6 hown hK hw.1 6 rfl rfl 0 (by decide) (hts (.fieldLink RX3 93 "CarnivalRoad$Street" "cells" "I") (by decide +kernel)) (fun _ h9 => h9) rfl dX3_arrive_28 ?_
    refine z_icmp_lt (tgt := 44) hx hb dX3_arrive_31 (by decide) (by omega) (fun hc_8 => ?_) (fun hc_8 => ?_)
    · skip
      refine lv_aload_n hx hb dX3_arrive_44 rfl (lv_at hl 0 rfl) ?_
      refine va_get (D := D) (ci := 3) (v := .ref (oT 0)) (C := RX3) (T := TX3) (N := 9) hx hb hts hinX3 hown hK hw.1 9 rfl rfl 1 (by decide) (hts (.fieldLink RX3 38 "CarnivalRoad$Parade" "street" "LCarnivalRoad$Street;") (by decide +kernel)) (fun _ h9 => h9) rfl dX3_arrive_45 ?_
      refine lv_aload_n hx hb dX3_arrive_48 rfl (lv_at hl 0 rfl) ?_
      refine va_get (D := D) (ci := 3) (v := .ref (oP 2)) (C := RX3) (T := TX3) (N := 9) hx hb hts hinX3 hown hK hw.1 9 rfl rfl 5 (by decide) (hts (.fieldLink RX3 22 "CarnivalRoad$Parade" "heads" "[I") (by decide +kernel)) (fun _ h9 => h9) rfl dX3_arrive_49 ?_
      refine lv_iload_n hx hb dX3_arrive_52 rfl (lv_at hl 1 rfl) ?_
      have hi_9 : (0 : Int) ≤ g ∧ g < ((8 : Nat) : Int) := by
        first | assumption | omega | grind
      refine z_iald (n := 8) (f := Pheads) hx hb hK hw 11 rfl (by decide) hi_9 dX3_arrive_53 ?_
      have hq_10 : -1 ≤ Pheads g ∧ Pheads g ≤ 60 := qPheads g
      have hF9 := z_free (wc := kT cI cB cZ oT Tcells Tgap Twires Tstands) hw hA [6, 7, 8] rfl
      refine va_calli (va_runV (As := [.int (zI (Pheads g))]) (rest := []) ⟨hx, hb, hml, hown, hts⟩ (c_X6_minutesAt l D cI cB cZ oT H_4.size Tcells Tgap Twires Tstands (Pheads g) (by omega) (by omega) qTwires qTstands (by omega)) (cwV 1 hts gX3_arrive_X6_minutesAt rfl rfl rfl (by decide +kernel) ⟨Nat.le_of_ble_eq_true rfl, Nat.le_of_ble_eq_true rfl⟩) ⟨zPre_blind, va_recv hK hw.1 (ci := 6) (q0 := 6) rfl rfl, z_pre hK hw [6, 7, 8] (by decide) rfl⟩ rfl rfl hl.1 rfl (lv_room (Nat.le_of_ble_eq_true rfl)) dX3_arrive_54 ⟨Nat.zero_le _, Nat.zero_le _⟩) hw.2.2 (fun q _ h => hF9 q h) hF9 (fun r9 u9 t9 H_11 locs9 ht9 hvm9 hq9 hB9 hz9 hk9 hS9 => ?_)
      obtain ⟨r_12, rfl⟩ : ∃ z, z = u9 := ⟨_, rfl⟩
      try dsimp only at hq9 hB9
      obtain ⟨rfl, hq9⟩ := hq9
      obtain ⟨hq_13, hq_14⟩ := hq9
      have hw : HW D A s.heap (kG cI cB cZ oG Gn Gki Gle Glo Gta Gsh ++ kT cI cB cZ oT Tcells Tgap Twires Tstands ++ kP cI cB cZ oP (oG 0) (oT 0) Pline Psize Pnow Pheads Pbusy Pcame Pout) H_11 locs9 := z_after (wc := kT cI cB cZ oT Tcells Tgap Twires Tstands) hw [6, 7, 8] [0, 1, 2, 3, 4, 5, 9, 10, 11, 12, 13, 14] rfl rfl (by decide) (by decide) hF9 hk9 ht9 hB9 hS9 [0, 1, 2, 3, 4, 5, 12, 13, 14, 6, 7, 8, 9, 10, 11] (by decide) rfl
      clear hF9 ht9 hvm9 hB9 hz9 hk9 hS9
      refine lv_istore_n (lv' := [(2, .int (zI r_12)), (0, .ref (oP 0)), (1, .int (zI g))]) hx hb dX3_arrive_57 rfl hl (by decide) rfl (fun ls hl => ?_)
      refine lv_aload_n hx hb dX3_arrive_58 rfl (lv_at hl 1 rfl) ?_
      refine va_get (D := D) (ci := 3) (v := .ref (oG 0)) (C := RX3) (T := TX3) (N := 9) hx hb hts hinX3 hown hK hw.1 9 rfl rfl 0 (by decide) (hts (.fieldLink RX3 34 "CarnivalRoad$Parade" "guests" "LCarnivalRoad$Guests;") (by decide +kernel)) (fun _ h9 => h9) rfl dX3_arrive_59 ?_
      refine va_get (D := D) (ci := 2) (v := .ref (oG 1)) (C := RX2) (T := TX2) (N := 6) hx hb hts hinX2 hown hK hw.1 0 rfl rfl 1 (by decide) (hts (.fieldLink RX3 72 "CarnivalRoad$Guests" "kinds" "[I") (by decide +kernel)) (fun _ h9 => h9) rfl dX3_arrive_62 ?_
      refine lv_iload_n hx hb dX3_arrive_65 rfl (lv_at hl 2 rfl) ?_
      have hi_15 : (0 : Int) ≤ g ∧ g < ((8 : Nat) : Int) := by
        first | assumption | omega | grind
      refine z_iald (n := 8) (f := Gki) hx hb hK hw 1 rfl (by decide) hi_15 dX3_arrive_66 ?_
      have hq_16 : 0 ≤ Gki g ∧ Gki g ≤ 4 := qGki g
      refine z_iconst hx hb dX3_arrive_67 ?_
      refine z_icmp_ne (tgt := 89) hx hb dX3_arrive_68 (by decide) (by omega) (fun hc_17 => ?_) (fun hc_17 => ?_)
      · skip
        refine z_iconst hx hb dX3_arrive_89 ?_
        refine lv_istore_n (lv' := [(3, .int (zI 0)), (2, .int (zI r_12)), (0, .ref (oP 0)), (1, .int (zI g))]) hx hb dX3_arrive_90 rfl hl (by decide) rfl (fun ls hl => ?_)
        refine lv_aload_n hx hb dX3_arrive_91 rfl (lv_at hl 2 rfl) ?_
        refine va_get (D := D) (ci := 3) (v := .ref (oP 3)) (C := RX3) (T := TX3) (N := 9) hx hb hts hinX3 hown hK hw.1 9 rfl rfl 6 (by decide) (hts (.fieldLink RX3 25 "CarnivalRoad$Parade" "busy" "[I") (by decide +kernel)) (fun _ h9 => h9) rfl dX3_arrive_92 ?_
        refine lv_iload_n hx hb dX3_arrive_95 rfl (lv_at hl 3 rfl) ?_
        refine lv_aload_n hx hb dX3_arrive_96 rfl (lv_at hl 2 rfl) ?_
        refine va_get (D := D) (ci := 3) (v := .ref (oG 0)) (C := RX3) (T := TX3) (N := 9) hx hb hts hinX3 hown hK hw.1 9 rfl rfl 0 (by decide) (hts (.fieldLink RX3 34 "CarnivalRoad$Parade" "guests" "LCarnivalRoad$Guests;") (by decide +kernel)) (fun _ h9 => h9) rfl dX3_arrive_97 ?_
        refine va_get (D := D) (ci := 2) (v := .ref (oG 1)) (C := RX2) (T := TX2) (N := 6) hx hb hts hinX2 hown hK hw.1 0 rfl rfl 1 (by decide) (hts (.fieldLink RX3 72 "CarnivalRoad$Guests" "kinds" "[I") (by decide +kernel)) (fun _ h9 => h9) rfl dX3_arrive_100 ?_
        refine lv_iload_n hx hb dX3_arrive_103 rfl (lv_at hl 3 rfl) ?_
        have hi_18 : (0 : Int) ≤ g ∧ g < ((8 : Nat) : Int) := by
          first | assumption | omega | grind
        refine z_iald (n := 8) (f := Gki) hx hb hK hw 1 rfl (by decide) hi_18 dX3_arrive_104 ?_
        have hq_19 : 0 ≤ Gki g ∧ Gki g ≤ 4 := qGki g
        refine z_iconst hx hb dX3_arrive_105 ?_
        refine z_icmp_ne (tgt := 115) hx hb dX3_arrive_106 (by decide) (by omega) (fun hc_20 => ?_) (fun hc_20 => ?_)
        · skip
          refine lv_iload_n hx hb dX3_arrive_115 rfl (lv_at hl 1 rfl) ?_
          refine lv_iload_n hx hb dX3_arrive_116 rfl (lv_at hl 0 rfl) ?_
          refine z_iadd hx hb dX3_arrive_117 ?_
          have hi_21 : (0 : Int) ≤ g ∧ g < ((8 : Nat) : Int) := by
            first | assumption | omega | grind
          have hv_22 : (0 : Int) ≤ (r_12 + 0) ∧ (r_12 + 0) ≤ 30 := by
            first | assumption | omega | grind
          have hR_23 : RA (uZ Pbusy g (r_12 + 0)) (0) 30 := RA_up qPbusy hv_22
          refine z_iast (n := 8) (f := Pbusy) (ws2 := kG cI cB cZ oG Gn Gki Gle Glo Gta Gsh ++ kT cI cB cZ oT Tcells Tgap Twires Tstands ++ kP cI cB cZ oP (oG 0) (oT 0) Pline Psize Pnow Pheads (uZ Pbusy g (r_12 + 0)) Pcame Pout) hx hb hK hw 12 rfl (by decide) hi_21 dX3_arrive_118 rfl (fun H locs hw => ?_)
          have hv_24 : (Pheads, (uZ Pbusy g (r_12 + 0)), Pcame, Pout) = arrF Gki Gle Tcells Tstands Pnow g (Pheads, Pbusy, Pcame, Pout) := by
            unfold arrF
            dsimp only
            refine Prod.ext rfl (Prod.ext ?_ (Prod.ext ?_ ?_)) <;> dsimp only
            · congr 1; unfold busyF; (try subst_vars); split <;> split <;> omega
            · first | (rw [if_pos (by omega)]; done) | (rw [if_neg (by omega)]; done)
            · first | (rw [if_pos (by omega)]; done) | (rw [if_neg (by omega)]; done)
          exact W.vret hx hb hr (fun t9 ht hW => ⟨⟨((uZ Pbusy g (r_12 + 0)), Pcame, Pout), rfl, ⟨hR_23, qPcame, qPout, hv_24⟩, by subst hAe; exact z_end hK hw ht hW⟩, by subst hAe; exact hw.2.2.F ht⟩) (by subst hAe; exact hw.2.2.2.2) dX3_arrive_119
        · skip
          refine z_iconst hx hb dX3_arrive_109 ?_
          refine lv_iload_n hx hb dX3_arrive_110 rfl (lv_at hl 1 rfl) ?_
          refine z_imul hx hb dX3_arrive_111 ?_
          refine lv_goto (tgt := 116) hx hb dX3_arrive_112 (by decide) ?_
          refine lv_iload_n hx hb dX3_arrive_116 rfl (lv_at hl 0 rfl) ?_
          refine z_iadd hx hb dX3_arrive_117 ?_
          have hi_25 : (0 : Int) ≤ g ∧ g < ((8 : Nat) : Int) := by
            first | assumption | omega | grind
          have hv_26 : (0 : Int) ≤ ((2 * r_12) + 0) ∧ ((2 * r_12) + 0) ≤ 30 := by
            first | assumption | omega | grind
          have hR_27 : RA (uZ Pbusy g ((2 * r_12) + 0)) (0) 30 := RA_up qPbusy hv_26
          refine z_iast (n := 8) (f := Pbusy) (ws2 := kG cI cB cZ oG Gn Gki Gle Glo Gta Gsh ++ kT cI cB cZ oT Tcells Tgap Twires Tstands ++ kP cI cB cZ oP (oG 0) (oT 0) Pline Psize Pnow Pheads (uZ Pbusy g ((2 * r_12) + 0)) Pcame Pout) hx hb hK hw 12 rfl (by decide) hi_25 dX3_arrive_118 rfl (fun H locs hw => ?_)
          have hv_28 : (Pheads, (uZ Pbusy g ((2 * r_12) + 0)), Pcame, Pout) = arrF Gki Gle Tcells Tstands Pnow g (Pheads, Pbusy, Pcame, Pout) := by
            unfold arrF
            dsimp only
            refine Prod.ext rfl (Prod.ext ?_ (Prod.ext ?_ ?_)) <;> dsimp only
            · congr 1; unfold busyF; (try subst_vars); split <;> split <;> omega
            · first | (rw [if_pos (by omega)]; done) | (rw [if_neg (by omega)]; done)
            · first | (rw [if_pos (by omega)]; done) | (rw [if_neg (by omega)]; done)
          exact W.vret hx hb hr (fun t9 ht hW => ⟨⟨((uZ Pbusy g ((2 * r_12) + 0)), Pcame, Pout), rfl, ⟨hR_27, qPcame, qPout, hv_28⟩, by subst hAe; exact z_end hK hw ht hW⟩, by subst hAe; exact hw.2.2.F ht⟩) (by subst hAe; exact hw.2.2.2.2) dX3_arrive_119
      · skip
        refine lv_aload_n hx hb dX3_arrive_71 rfl (lv_at hl 1 rfl) ?_
        refine va_get (D := D) (ci := 3) (v := .ref (oP 2)) (C := RX3) (T := TX3) (N := 9) hx hb hts hinX3 hown hK hw.1 9 rfl rfl 5 (by decide) (hts (.fieldLink RX3 22 "CarnivalRoad$Parade" "heads" "[I") (by decide +kernel)) (fun _ h9 => h9) rfl dX3_arrive_72 ?_
        refine lv_iload_n hx hb dX3_arrive_75 rfl (lv_at hl 2 rfl) ?_
        have hi_29 : (0 : Int) ≤ g ∧ g < ((8 : Nat) : Int) := by
          first | assumption | omega | grind
        refine z_iald (n := 8) (f := Pheads) hx hb hK hw 11 rfl (by decide) hi_29 dX3_arrive_76 ?_
        have hq_30 : -1 ≤ Pheads g ∧ Pheads g ≤ 60 := qPheads g
        refine z_iconst hx hb dX3_arrive_77 ?_
        refine z_iadd hx hb dX3_arrive_78 ?_
        refine z_bipush hx hb dX3_arrive_79 (by decide) ?_
        have hbit_31 : zI ((Pheads g) + 1) - zI ((Pheads g) + 1) / zI 10 * zI 10 = zI (((Pheads g) + 1) % (10 : Int)) := by
          exact z_rem (by omega) (by omega)
        refine lv_irem hx hb dX3_arrive_81 (fun q => by have q2 := (zI_eq (by omega) (by omega)).mp (show zI 10 = zI 0 from q); omega) ?_
        rw [hbit_31]
        clear hbit_31
        refine z_if_ne (tgt := 89) hx hb dX3_arrive_82 (by decide) (by omega) (fun hc_32 => ?_) (fun hc_32 => ?_)
        · skip
          refine z_iconst hx hb dX3_arrive_89 ?_
          refine lv_istore_n (lv' := [(3, .int (zI 0)), (2, .int (zI r_12)), (0, .ref (oP 0)), (1, .int (zI g))]) hx hb dX3_arrive_90 rfl hl (by decide) rfl (fun ls hl => ?_)
          refine lv_aload_n hx hb dX3_arrive_91 rfl (lv_at hl 2 rfl) ?_
          refine va_get (D := D) (ci := 3) (v := .ref (oP 3)) (C := RX3) (T := TX3) (N := 9) hx hb hts hinX3 hown hK hw.1 9 rfl rfl 6 (by decide) (hts (.fieldLink RX3 25 "CarnivalRoad$Parade" "busy" "[I") (by decide +kernel)) (fun _ h9 => h9) rfl dX3_arrive_92 ?_
          refine lv_iload_n hx hb dX3_arrive_95 rfl (lv_at hl 3 rfl) ?_
          refine lv_aload_n hx hb dX3_arrive_96 rfl (lv_at hl 2 rfl) ?_
          refine va_get (D := D) (ci := 3) (v := .ref (oG 0)) (C := RX3) (T := TX3) (N := 9) hx hb hts hinX3 hown hK hw.1 9 rfl rfl 0 (by decide) (hts (.fieldLink RX3 34 "CarnivalRoad$Parade" "guests" "LCarnivalRoad$Guests;") (by decide +kernel)) (fun _ h9 => h9) rfl dX3_arrive_97 ?_
          refine va_get (D := D) (ci := 2) (v := .ref (oG 1)) (C := RX2) (T := TX2) (N := 6) hx hb hts hinX2 hown hK hw.1 0 rfl rfl 1 (by decide) (hts (.fieldLink RX3 72 "CarnivalRoad$Guests" "kinds" "[I") (by decide +kernel)) (fun _ h9 => h9) rfl dX3_arrive_100 ?_
          refine lv_iload_n hx hb dX3_arrive_103 rfl (lv_at hl 3 rfl) ?_
          have hi_33 : (0 : Int) ≤ g ∧ g < ((8 : Nat) : Int) := by
            first | assumption | omega | grind
          refine z_iald (n := 8) (f := Gki) hx hb hK hw 1 rfl (by decide) hi_33 dX3_arrive_104 ?_
          have hq_34 : 0 ≤ Gki g ∧ Gki g ≤ 4 := qGki g
          refine z_iconst hx hb dX3_arrive_105 ?_
          refine z_icmp_ne (tgt := 115) hx hb dX3_arrive_106 (by decide) (by omega) (fun hc_35 => ?_) (fun hc_35 => ?_)
          · skip
            refine lv_iload_n hx hb dX3_arrive_115 rfl (lv_at hl 1 rfl) ?_
            refine lv_iload_n hx hb dX3_arrive_116 rfl (lv_at hl 0 rfl) ?_
            refine z_iadd hx hb dX3_arrive_117 ?_
            have hi_36 : (0 : Int) ≤ g ∧ g < ((8 : Nat) : Int) := by
              first | assumption | omega | grind
            have hv_37 : (0 : Int) ≤ (r_12 + 0) ∧ (r_12 + 0) ≤ 30 := by
              first | assumption | omega | grind
            have hR_38 : RA (uZ Pbusy g (r_12 + 0)) (0) 30 := RA_up qPbusy hv_37
            refine z_iast (n := 8) (f := Pbusy) (ws2 := kG cI cB cZ oG Gn Gki Gle Glo Gta Gsh ++ kT cI cB cZ oT Tcells Tgap Twires Tstands ++ kP cI cB cZ oP (oG 0) (oT 0) Pline Psize Pnow Pheads (uZ Pbusy g (r_12 + 0)) Pcame Pout) hx hb hK hw 12 rfl (by decide) hi_36 dX3_arrive_118 rfl (fun H locs hw => ?_)
            have hv_39 : (Pheads, (uZ Pbusy g (r_12 + 0)), Pcame, Pout) = arrF Gki Gle Tcells Tstands Pnow g (Pheads, Pbusy, Pcame, Pout) := by
              unfold arrF
              dsimp only
              refine Prod.ext rfl (Prod.ext ?_ (Prod.ext ?_ ?_)) <;> dsimp only
              · congr 1; unfold busyF; (try subst_vars); split <;> split <;> omega
              · first | (rw [if_pos (by omega)]; done) | (rw [if_neg (by omega)]; done)
              · first | (rw [if_pos (by omega)]; done) | (rw [if_neg (by omega)]; done)
            exact W.vret hx hb hr (fun t9 ht hW => ⟨⟨((uZ Pbusy g (r_12 + 0)), Pcame, Pout), rfl, ⟨hR_38, qPcame, qPout, hv_39⟩, by subst hAe; exact z_end hK hw ht hW⟩, by subst hAe; exact hw.2.2.F ht⟩) (by subst hAe; exact hw.2.2.2.2) dX3_arrive_119
          · skip
            refine z_iconst hx hb dX3_arrive_109 ?_
            refine lv_iload_n hx hb dX3_arrive_110 rfl (lv_at hl 1 rfl) ?_
            refine z_imul hx hb dX3_arrive_111 ?_
            refine lv_goto (tgt := 116) hx hb dX3_arrive_112 (by decide) ?_
            refine lv_iload_n hx hb dX3_arrive_116 rfl (lv_at hl 0 rfl) ?_
            refine z_iadd hx hb dX3_arrive_117 ?_
            have hi_40 : (0 : Int) ≤ g ∧ g < ((8 : Nat) : Int) := by
              first | assumption | omega | grind
            have hv_41 : (0 : Int) ≤ ((2 * r_12) + 0) ∧ ((2 * r_12) + 0) ≤ 30 := by
              first | assumption | omega | grind
            have hR_42 : RA (uZ Pbusy g ((2 * r_12) + 0)) (0) 30 := RA_up qPbusy hv_41
            refine z_iast (n := 8) (f := Pbusy) (ws2 := kG cI cB cZ oG Gn Gki Gle Glo Gta Gsh ++ kT cI cB cZ oT Tcells Tgap Twires Tstands ++ kP cI cB cZ oP (oG 0) (oT 0) Pline Psize Pnow Pheads (uZ Pbusy g ((2 * r_12) + 0)) Pcame Pout) hx hb hK hw 12 rfl (by decide) hi_40 dX3_arrive_118 rfl (fun H locs hw => ?_)
            have hv_43 : (Pheads, (uZ Pbusy g ((2 * r_12) + 0)), Pcame, Pout) = arrF Gki Gle Tcells Tstands Pnow g (Pheads, Pbusy, Pcame, Pout) := by
              unfold arrF
              dsimp only
              refine Prod.ext rfl (Prod.ext ?_ (Prod.ext ?_ ?_)) <;> dsimp only
              · congr 1; unfold busyF; (try subst_vars); split <;> split <;> omega
              · first | (rw [if_pos (by omega)]; done) | (rw [if_neg (by omega)]; done)
              · first | (rw [if_pos (by omega)]; done) | (rw [if_neg (by omega)]; done)
            exact W.vret hx hb hr (fun t9 ht hW => ⟨⟨((uZ Pbusy g ((2 * r_12) + 0)), Pcame, Pout), rfl, ⟨hR_42, qPcame, qPout, hv_43⟩, by subst hAe; exact z_end hK hw ht hW⟩, by subst hAe; exact hw.2.2.F ht⟩) (by subst hAe; exact hw.2.2.2.2) dX3_arrive_119
        · skip
          refine z_iconst hx hb dX3_arrive_85 ?_
          refine lv_goto (tgt := 90) hx hb dX3_arrive_86 (by decide) ?_
          refine lv_istore_n (lv' := [(3, .int (zI 3)), (2, .int (zI r_12)), (0, .ref (oP 0)), (1, .int (zI g))]) hx hb dX3_arrive_90 rfl hl (by decide) rfl (fun ls hl => ?_)
          refine lv_aload_n hx hb dX3_arrive_91 rfl (lv_at hl 2 rfl) ?_
          refine va_get (D := D) (ci := 3) (v := .ref (oP 3)) (C := RX3) (T := TX3) (N := 9) hx hb hts hinX3 hown hK hw.1 9 rfl rfl 6 (by decide) (hts (.fieldLink RX3 25 "CarnivalRoad$Parade" "busy" "[I") (by decide +kernel)) (fun _ h9 => h9) rfl dX3_arrive_92 ?_
          refine lv_iload_n hx hb dX3_arrive_95 rfl (lv_at hl 3 rfl) ?_
          refine lv_aload_n hx hb dX3_arrive_96 rfl (lv_at hl 2 rfl) ?_
          refine va_get (D := D) (ci := 3) (v := .ref (oG 0)) (C := RX3) (T := TX3) (N := 9) hx hb hts hinX3 hown hK hw.1 9 rfl rfl 0 (by decide) (hts (.fieldLink RX3 34 "CarnivalRoad$Parade" "guests" "LCarnivalRoad$Guests;") (by decide +kernel)) (fun _ h9 => h9) rfl dX3_arrive_97 ?_
          refine va_get (D := D) (ci := 2) (v := .ref (oG 1)) (C := RX2) (T := TX2) (N := 6) hx hb hts hinX2 hown hK hw.1 0 rfl rfl 1 (by decide) (hts (.fieldLink RX3 72 "CarnivalRoad$Guests" "kinds" "[I") (by decide +kernel)) (fun _ h9 => h9) rfl dX3_arrive_100 ?_
          refine lv_iload_n hx hb dX3_arrive_103 rfl (lv_at hl 3 rfl) ?_
          have hi_44 : (0 : Int) ≤ g ∧ g < ((8 : Nat) : Int) := by
            first | assumption | omega | grind
          refine z_iald (n := 8) (f := Gki) hx hb hK hw 1 rfl (by decide) hi_44 dX3_arrive_104 ?_
          have hq_45 : 0 ≤ Gki g ∧ Gki g ≤ 4 := qGki g
          refine z_iconst hx hb dX3_arrive_105 ?_
          refine z_icmp_ne (tgt := 115) hx hb dX3_arrive_106 (by decide) (by omega) (fun hc_46 => ?_) (fun hc_46 => ?_)
          · skip
            refine lv_iload_n hx hb dX3_arrive_115 rfl (lv_at hl 1 rfl) ?_
            refine lv_iload_n hx hb dX3_arrive_116 rfl (lv_at hl 0 rfl) ?_
            refine z_iadd hx hb dX3_arrive_117 ?_
            have hi_47 : (0 : Int) ≤ g ∧ g < ((8 : Nat) : Int) := by
              first | assumption | omega | grind
            have hv_48 : (0 : Int) ≤ (r_12 + 3) ∧ (r_12 + 3) ≤ 30 := by
              first | assumption | omega | grind
            have hR_49 : RA (uZ Pbusy g (r_12 + 3)) (0) 30 := RA_up qPbusy hv_48
            refine z_iast (n := 8) (f := Pbusy) (ws2 := kG cI cB cZ oG Gn Gki Gle Glo Gta Gsh ++ kT cI cB cZ oT Tcells Tgap Twires Tstands ++ kP cI cB cZ oP (oG 0) (oT 0) Pline Psize Pnow Pheads (uZ Pbusy g (r_12 + 3)) Pcame Pout) hx hb hK hw 12 rfl (by decide) hi_47 dX3_arrive_118 rfl (fun H locs hw => ?_)
            have hv_50 : (Pheads, (uZ Pbusy g (r_12 + 3)), Pcame, Pout) = arrF Gki Gle Tcells Tstands Pnow g (Pheads, Pbusy, Pcame, Pout) := by
              unfold arrF
              dsimp only
              refine Prod.ext rfl (Prod.ext ?_ (Prod.ext ?_ ?_)) <;> dsimp only
              · congr 1; unfold busyF; (try subst_vars); split <;> split <;> omega
              · first | (rw [if_pos (by omega)]; done) | (rw [if_neg (by omega)]; done)
              · first | (rw [if_pos (by omega)]; done) | (rw [if_neg (by omega)]; done)
            exact W.vret hx hb hr (fun t9 ht hW => ⟨⟨((uZ Pbusy g (r_12 + 3)), Pcame, Pout), rfl, ⟨hR_49, qPcame, qPout, hv_50⟩, by subst hAe; exact z_end hK hw ht hW⟩, by subst hAe; exact hw.2.2.F ht⟩) (by subst hAe; exact hw.2.2.2.2) dX3_arrive_119
          · skip
            refine z_iconst hx hb dX3_arrive_109 ?_
            refine lv_iload_n hx hb dX3_arrive_110 rfl (lv_at hl 1 rfl) ?_
            refine z_imul hx hb dX3_arrive_111 ?_
            refine lv_goto (tgt := 116) hx hb dX3_arrive_112 (by decide) ?_
            refine lv_iload_n hx hb dX3_arrive_116 rfl (lv_at hl 0 rfl) ?_
            refine z_iadd hx hb dX3_arrive_117 ?_
            have hi_51 : (0 : Int) ≤ g ∧ g < ((8 : Nat) : Int) := by
              first | assumption | omega | grind
            have hv_52 : (0 : Int) ≤ ((2 * r_12) + 3) ∧ ((2 * r_12) + 3) ≤ 30 := by
              first | assumption | omega | grind
            have hR_53 : RA (uZ Pbusy g ((2 * r_12) + 3)) (0) 30 := RA_up qPbusy hv_52
            refine z_iast (n := 8) (f := Pbusy) (ws2 := kG cI cB cZ oG Gn Gki Gle Glo Gta Gsh ++ kT cI cB cZ oT Tcells Tgap Twires Tstands ++ kP cI cB cZ oP (oG 0) (oT 0) Pline Psize Pnow Pheads (uZ Pbusy g ((2 * r_12) + 3)) Pcame Pout) hx hb hK hw 12 rfl (by decide) hi_51 dX3_arrive_118 rfl (fun H locs hw => ?_)
            have hv_54 : (Pheads, (uZ Pbusy g ((2 * r_12) + 3)), Pcame, Pout) = arrF Gki Gle Tcells Tstands Pnow g (Pheads, Pbusy, Pcame, Pout) := by
              unfold arrF
              dsimp only
              refine Prod.ext rfl (Prod.ext ?_ (Prod.ext ?_ ?_)) <;> dsimp only
              · congr 1; unfold busyF; (try subst_vars); split <;> split <;> omega
              · first | (rw [if_pos (by omega)]; done) | (rw [if_neg (by omega)]; done)
              · first | (rw [if_pos (by omega)]; done) | (rw [if_neg (by omega)]; done)
            exact W.vret hx hb hr (fun t9 ht hW => ⟨⟨((uZ Pbusy g ((2 * r_12) + 3)), Pcame, Pout), rfl, ⟨hR_53, qPcame, qPout, hv_54⟩, by subst hAe; exact z_end hK hw ht hW⟩, by subst hAe; exact hw.2.2.F ht⟩) (by subst hAe; exact hw.2.2.2.2) dX3_arrive_119
    · skip
      refine lv_aload_n hx hb dX3_arrive_34 rfl (lv_at hl 0 rfl) ?_
      refine va_get (D := D) (ci := 3) (v := .ref (oP 5)) (C := RX3) (T := TX3) (N := 9) hx hb hts hinX3 hown hK hw.1 9 rfl rfl 8 (by decide) (hts (.fieldLink RX3 31 "CarnivalRoad$Parade" "outAt" "[I") (by decide +kernel)) (fun _ h9 => h9) rfl dX3_arrive_35 ?_
      refine lv_iload_n hx hb dX3_arrive_38 rfl (lv_at hl 1 rfl) ?_
      refine lv_aload_n hx hb dX3_arrive_39 rfl (lv_at hl 0 rfl) ?_
      refine va_get (D := D) (ci := 3) (v := .int (zI Pnow)) (C := RX3) (T := TX3) (N := 9) hx hb hts hinX3 hown hK hw.1 9 rfl rfl 4 (by decide) (hts (.fieldLink RX3 19 "CarnivalRoad$Parade" "now" "I") (by decide +kernel)) (fun _ h9 => h9) rfl dX3_arrive_40 ?_
      have hi_55 : (0 : Int) ≤ g ∧ g < ((8 : Nat) : Int) := by
        first | assumption | omega | grind
      have hv_56 : (-1 : Int) ≤ Pnow ∧ Pnow ≤ 1000000 := by
        first | assumption | omega | grind
      have hR_57 : RA (uZ Pout g Pnow) (-1) 1000000 := RA_up qPout hv_56
      refine z_iast (n := 8) (f := Pout) (ws2 := kG cI cB cZ oG Gn Gki Gle Glo Gta Gsh ++ kT cI cB cZ oT Tcells Tgap Twires Tstands ++ kP cI cB cZ oP (oG 0) (oT 0) Pline Psize Pnow Pheads Pbusy Pcame (uZ Pout g Pnow)) hx hb hK hw 14 rfl (by decide) hi_55 dX3_arrive_43 rfl (fun H locs hw => ?_)
      refine lv_aload_n hx hb dX3_arrive_44 rfl (lv_at hl 0 rfl) ?_
      refine va_get (D := D) (ci := 3) (v := .ref (oT 0)) (C := RX3) (T := TX3) (N := 9) hx hb hts hinX3 hown hK hw.1 9 rfl rfl 1 (by decide) (hts (.fieldLink RX3 38 "CarnivalRoad$Parade" "street" "LCarnivalRoad$Street;") (by decide +kernel)) (fun _ h9 => h9) rfl dX3_arrive_45 ?_
      refine lv_aload_n hx hb dX3_arrive_48 rfl (lv_at hl 0 rfl) ?_
      refine va_get (D := D) (ci := 3) (v := .ref (oP 2)) (C := RX3) (T := TX3) (N := 9) hx hb hts hinX3 hown hK hw.1 9 rfl rfl 5 (by decide) (hts (.fieldLink RX3 22 "CarnivalRoad$Parade" "heads" "[I") (by decide +kernel)) (fun _ h9 => h9) rfl dX3_arrive_49 ?_
      refine lv_iload_n hx hb dX3_arrive_52 rfl (lv_at hl 1 rfl) ?_
      have hi_58 : (0 : Int) ≤ g ∧ g < ((8 : Nat) : Int) := by
        first | assumption | omega | grind
      refine z_iald (n := 8) (f := Pheads) hx hb hK hw 11 rfl (by decide) hi_58 dX3_arrive_53 ?_
      have hq_59 : -1 ≤ Pheads g ∧ Pheads g ≤ 60 := qPheads g
      have hF9 := z_free (wc := kT cI cB cZ oT Tcells Tgap Twires Tstands) hw hA [6, 7, 8] rfl
      refine va_calli (va_runV (As := [.int (zI (Pheads g))]) (rest := []) ⟨hx, hb, hml, hown, hts⟩ (c_X6_minutesAt l D cI cB cZ oT H.size Tcells Tgap Twires Tstands (Pheads g) (by omega) (by omega) qTwires qTstands (by omega)) (cwV 1 hts gX3_arrive_X6_minutesAt rfl rfl rfl (by decide +kernel) ⟨Nat.le_of_ble_eq_true rfl, Nat.le_of_ble_eq_true rfl⟩) ⟨zPre_blind, va_recv hK hw.1 (ci := 6) (q0 := 6) rfl rfl, z_pre hK hw [6, 7, 8] (by decide) rfl⟩ rfl rfl hl.1 rfl (lv_room (Nat.le_of_ble_eq_true rfl)) dX3_arrive_54 ⟨Nat.zero_le _, Nat.zero_le _⟩) hw.2.2 (fun q _ h => hF9 q h) hF9 (fun r9 u9 t9 H_60 locs9 ht9 hvm9 hq9 hB9 hz9 hk9 hS9 => ?_)
      obtain ⟨r_61, rfl⟩ : ∃ z, z = u9 := ⟨_, rfl⟩
      try dsimp only at hq9 hB9
      obtain ⟨rfl, hq9⟩ := hq9
      obtain ⟨hq_62, hq_63⟩ := hq9
      have hw : HW D A s.heap (kG cI cB cZ oG Gn Gki Gle Glo Gta Gsh ++ kT cI cB cZ oT Tcells Tgap Twires Tstands ++ kP cI cB cZ oP (oG 0) (oT 0) Pline Psize Pnow Pheads Pbusy Pcame (uZ Pout g Pnow)) H_60 locs9 := z_after (wc := kT cI cB cZ oT Tcells Tgap Twires Tstands) hw [6, 7, 8] [0, 1, 2, 3, 4, 5, 9, 10, 11, 12, 13, 14] rfl rfl (by decide) (by decide) hF9 hk9 ht9 hB9 hS9 [0, 1, 2, 3, 4, 5, 12, 13, 14, 6, 7, 8, 9, 10, 11] (by decide) rfl
      clear hF9 ht9 hvm9 hB9 hz9 hk9 hS9
      refine lv_istore_n (lv' := [(2, .int (zI r_61)), (0, .ref (oP 0)), (1, .int (zI g))]) hx hb dX3_arrive_57 rfl hl (by decide) rfl (fun ls hl => ?_)
      refine lv_aload_n hx hb dX3_arrive_58 rfl (lv_at hl 1 rfl) ?_
      refine va_get (D := D) (ci := 3) (v := .ref (oG 0)) (C := RX3) (T := TX3) (N := 9) hx hb hts hinX3 hown hK hw.1 9 rfl rfl 0 (by decide) (hts (.fieldLink RX3 34 "CarnivalRoad$Parade" "guests" "LCarnivalRoad$Guests;") (by decide +kernel)) (fun _ h9 => h9) rfl dX3_arrive_59 ?_
      refine va_get (D := D) (ci := 2) (v := .ref (oG 1)) (C := RX2) (T := TX2) (N := 6) hx hb hts hinX2 hown hK hw.1 0 rfl rfl 1 (by decide) (hts (.fieldLink RX3 72 "CarnivalRoad$Guests" "kinds" "[I") (by decide +kernel)) (fun _ h9 => h9) rfl dX3_arrive_62 ?_
      refine lv_iload_n hx hb dX3_arrive_65 rfl (lv_at hl 2 rfl) ?_
      have hi_64 : (0 : Int) ≤ g ∧ g < ((8 : Nat) : Int) := by
        first | assumption | omega | grind
      refine z_iald (n := 8) (f := Gki) hx hb hK hw 1 rfl (by decide) hi_64 dX3_arrive_66 ?_
      have hq_65 : 0 ≤ Gki g ∧ Gki g ≤ 4 := qGki g
      refine z_iconst hx hb dX3_arrive_67 ?_
      refine z_icmp_ne (tgt := 89) hx hb dX3_arrive_68 (by decide) (by omega) (fun hc_66 => ?_) (fun hc_66 => ?_)
      · skip
        refine z_iconst hx hb dX3_arrive_89 ?_
        refine lv_istore_n (lv' := [(3, .int (zI 0)), (2, .int (zI r_61)), (0, .ref (oP 0)), (1, .int (zI g))]) hx hb dX3_arrive_90 rfl hl (by decide) rfl (fun ls hl => ?_)
        refine lv_aload_n hx hb dX3_arrive_91 rfl (lv_at hl 2 rfl) ?_
        refine va_get (D := D) (ci := 3) (v := .ref (oP 3)) (C := RX3) (T := TX3) (N := 9) hx hb hts hinX3 hown hK hw.1 9 rfl rfl 6 (by decide) (hts (.fieldLink RX3 25 "CarnivalRoad$Parade" "busy" "[I") (by decide +kernel)) (fun _ h9 => h9) rfl dX3_arrive_92 ?_
        refine lv_iload_n hx hb dX3_arrive_95 rfl (lv_at hl 3 rfl) ?_
        refine lv_aload_n hx hb dX3_arrive_96 rfl (lv_at hl 2 rfl) ?_
        refine va_get (D := D) (ci := 3) (v := .ref (oG 0)) (C := RX3) (T := TX3) (N := 9) hx hb hts hinX3 hown hK hw.1 9 rfl rfl 0 (by decide) (hts (.fieldLink RX3 34 "CarnivalRoad$Parade" "guests" "LCarnivalRoad$Guests;") (by decide +kernel)) (fun _ h9 => h9) rfl dX3_arrive_97 ?_
        refine va_get (D := D) (ci := 2) (v := .ref (oG 1)) (C := RX2) (T := TX2) (N := 6) hx hb hts hinX2 hown hK hw.1 0 rfl rfl 1 (by decide) (hts (.fieldLink RX3 72 "CarnivalRoad$Guests" "kinds" "[I") (by decide +kernel)) (fun _ h9 => h9) rfl dX3_arrive_100 ?_
        refine lv_iload_n hx hb dX3_arrive_103 rfl (lv_at hl 3 rfl) ?_
        have hi_67 : (0 : Int) ≤ g ∧ g < ((8 : Nat) : Int) := by
          first | assumption | omega | grind
        refine z_iald (n := 8) (f := Gki) hx hb hK hw 1 rfl (by decide) hi_67 dX3_arrive_104 ?_
        have hq_68 : 0 ≤ Gki g ∧ Gki g ≤ 4 := qGki g
        refine z_iconst hx hb dX3_arrive_105 ?_
        refine z_icmp_ne (tgt := 115) hx hb dX3_arrive_106 (by decide) (by omega) (fun hc_69 => ?_) (fun hc_69 => ?_)
        · skip
          refine lv_iload_n hx hb dX3_arrive_115 rfl (lv_at hl 1 rfl) ?_
          refine lv_iload_n hx hb dX3_arrive_116 rfl (lv_at hl 0 rfl) ?_
          refine z_iadd hx hb dX3_arrive_117 ?_
          have hi_70 : (0 : Int) ≤ g ∧ g < ((8 : Nat) : Int) := by
            first | assumption | omega | grind
          have hv_71 : (0 : Int) ≤ (r_61 + 0) ∧ (r_61 + 0) ≤ 30 := by
            first | assumption | omega | grind
          have hR_72 : RA (uZ Pbusy g (r_61 + 0)) (0) 30 := RA_up qPbusy hv_71
          refine z_iast (n := 8) (f := Pbusy) (ws2 := kG cI cB cZ oG Gn Gki Gle Glo Gta Gsh ++ kT cI cB cZ oT Tcells Tgap Twires Tstands ++ kP cI cB cZ oP (oG 0) (oT 0) Pline Psize Pnow Pheads (uZ Pbusy g (r_61 + 0)) Pcame (uZ Pout g Pnow)) hx hb hK hw 12 rfl (by decide) hi_70 dX3_arrive_118 rfl (fun H locs hw => ?_)
          have hv_73 : (Pheads, (uZ Pbusy g (r_61 + 0)), Pcame, (uZ Pout g Pnow)) = arrF Gki Gle Tcells Tstands Pnow g (Pheads, Pbusy, Pcame, Pout) := by
            unfold arrF
            dsimp only
            refine Prod.ext rfl (Prod.ext ?_ (Prod.ext ?_ ?_)) <;> dsimp only
            · congr 1; unfold busyF; (try subst_vars); split <;> split <;> omega
            · first | (rw [if_pos (by omega)]; done) | (rw [if_neg (by omega)]; done)
            · first | (rw [if_pos (by omega)]; done) | (rw [if_neg (by omega)]; done)
          exact W.vret hx hb hr (fun t9 ht hW => ⟨⟨((uZ Pbusy g (r_61 + 0)), Pcame, (uZ Pout g Pnow)), rfl, ⟨hR_72, qPcame, hR_57, hv_73⟩, by subst hAe; exact z_end hK hw ht hW⟩, by subst hAe; exact hw.2.2.F ht⟩) (by subst hAe; exact hw.2.2.2.2) dX3_arrive_119
        · skip
          refine z_iconst hx hb dX3_arrive_109 ?_
          refine lv_iload_n hx hb dX3_arrive_110 rfl (lv_at hl 1 rfl) ?_
          refine z_imul hx hb dX3_arrive_111 ?_
          refine lv_goto (tgt := 116) hx hb dX3_arrive_112 (by decide) ?_
          refine lv_iload_n hx hb dX3_arrive_116 rfl (lv_at hl 0 rfl) ?_
          refine z_iadd hx hb dX3_arrive_117 ?_
          have hi_74 : (0 : Int) ≤ g ∧ g < ((8 : Nat) : Int) := by
            first | assumption | omega | grind
          have hv_75 : (0 : Int) ≤ ((2 * r_61) + 0) ∧ ((2 * r_61) + 0) ≤ 30 := by
            first | assumption | omega | grind
          have hR_76 : RA (uZ Pbusy g ((2 * r_61) + 0)) (0) 30 := RA_up qPbusy hv_75
          refine z_iast (n := 8) (f := Pbusy) (ws2 := kG cI cB cZ oG Gn Gki Gle Glo Gta Gsh ++ kT cI cB cZ oT Tcells Tgap Twires Tstands ++ kP cI cB cZ oP (oG 0) (oT 0) Pline Psize Pnow Pheads (uZ Pbusy g ((2 * r_61) + 0)) Pcame (uZ Pout g Pnow)) hx hb hK hw 12 rfl (by decide) hi_74 dX3_arrive_118 rfl (fun H locs hw => ?_)
          have hv_77 : (Pheads, (uZ Pbusy g ((2 * r_61) + 0)), Pcame, (uZ Pout g Pnow)) = arrF Gki Gle Tcells Tstands Pnow g (Pheads, Pbusy, Pcame, Pout) := by
            unfold arrF
            dsimp only
            refine Prod.ext rfl (Prod.ext ?_ (Prod.ext ?_ ?_)) <;> dsimp only
            · congr 1; unfold busyF; (try subst_vars); split <;> split <;> omega
            · first | (rw [if_pos (by omega)]; done) | (rw [if_neg (by omega)]; done)
            · first | (rw [if_pos (by omega)]; done) | (rw [if_neg (by omega)]; done)
          exact W.vret hx hb hr (fun t9 ht hW => ⟨⟨((uZ Pbusy g ((2 * r_61) + 0)), Pcame, (uZ Pout g Pnow)), rfl, ⟨hR_76, qPcame, hR_57, hv_77⟩, by subst hAe; exact z_end hK hw ht hW⟩, by subst hAe; exact hw.2.2.F ht⟩) (by subst hAe; exact hw.2.2.2.2) dX3_arrive_119
      · skip
        refine lv_aload_n hx hb dX3_arrive_71 rfl (lv_at hl 1 rfl) ?_
        refine va_get (D := D) (ci := 3) (v := .ref (oP 2)) (C := RX3) (T := TX3) (N := 9) hx hb hts hinX3 hown hK hw.1 9 rfl rfl 5 (by decide) (hts (.fieldLink RX3 22 "CarnivalRoad$Parade" "heads" "[I") (by decide +kernel)) (fun _ h9 => h9) rfl dX3_arrive_72 ?_
        refine lv_iload_n hx hb dX3_arrive_75 rfl (lv_at hl 2 rfl) ?_
        have hi_78 : (0 : Int) ≤ g ∧ g < ((8 : Nat) : Int) := by
          first | assumption | omega | grind
        refine z_iald (n := 8) (f := Pheads) hx hb hK hw 11 rfl (by decide) hi_78 dX3_arrive_76 ?_
        have hq_79 : -1 ≤ Pheads g ∧ Pheads g ≤ 60 := qPheads g
        refine z_iconst hx hb dX3_arrive_77 ?_
        refine z_iadd hx hb dX3_arrive_78 ?_
        refine z_bipush hx hb dX3_arrive_79 (by decide) ?_
        have hbit_80 : zI ((Pheads g) + 1) - zI ((Pheads g) + 1) / zI 10 * zI 10 = zI (((Pheads g) + 1) % (10 : Int)) := by
          exact z_rem (by omega) (by omega)
        refine lv_irem hx hb dX3_arrive_81 (fun q => by have q2 := (zI_eq (by omega) (by omega)).mp (show zI 10 = zI 0 from q); omega) ?_
        rw [hbit_80]
        clear hbit_80
        refine z_if_ne (tgt := 89) hx hb dX3_arrive_82 (by decide) (by omega) (fun hc_81 => ?_) (fun hc_81 => ?_)
        · skip
          refine z_iconst hx hb dX3_arrive_89 ?_
          refine lv_istore_n (lv' := [(3, .int (zI 0)), (2, .int (zI r_61)), (0, .ref (oP 0)), (1, .int (zI g))]) hx hb dX3_arrive_90 rfl hl (by decide) rfl (fun ls hl => ?_)
          refine lv_aload_n hx hb dX3_arrive_91 rfl (lv_at hl 2 rfl) ?_
          refine va_get (D := D) (ci := 3) (v := .ref (oP 3)) (C := RX3) (T := TX3) (N := 9) hx hb hts hinX3 hown hK hw.1 9 rfl rfl 6 (by decide) (hts (.fieldLink RX3 25 "CarnivalRoad$Parade" "busy" "[I") (by decide +kernel)) (fun _ h9 => h9) rfl dX3_arrive_92 ?_
          refine lv_iload_n hx hb dX3_arrive_95 rfl (lv_at hl 3 rfl) ?_
          refine lv_aload_n hx hb dX3_arrive_96 rfl (lv_at hl 2 rfl) ?_
          refine va_get (D := D) (ci := 3) (v := .ref (oG 0)) (C := RX3) (T := TX3) (N := 9) hx hb hts hinX3 hown hK hw.1 9 rfl rfl 0 (by decide) (hts (.fieldLink RX3 34 "CarnivalRoad$Parade" "guests" "LCarnivalRoad$Guests;") (by decide +kernel)) (fun _ h9 => h9) rfl dX3_arrive_97 ?_
          refine va_get (D := D) (ci := 2) (v := .ref (oG 1)) (C := RX2) (T := TX2) (N := 6) hx hb hts hinX2 hown hK hw.1 0 rfl rfl 1 (by decide) (hts (.fieldLink RX3 72 "CarnivalRoad$Guests" "kinds" "[I") (by decide +kernel)) (fun _ h9 => h9) rfl dX3_arrive_100 ?_
          refine lv_iload_n hx hb dX3_arrive_103 rfl (lv_at hl 3 rfl) ?_
          have hi_82 : (0 : Int) ≤ g ∧ g < ((8 : Nat) : Int) := by
            first | assumption | omega | grind
          refine z_iald (n := 8) (f := Gki) hx hb hK hw 1 rfl (by decide) hi_82 dX3_arrive_104 ?_
          have hq_83 : 0 ≤ Gki g ∧ Gki g ≤ 4 := qGki g
          refine z_iconst hx hb dX3_arrive_105 ?_
          refine z_icmp_ne (tgt := 115) hx hb dX3_arrive_106 (by decide) (by omega) (fun hc_84 => ?_) (fun hc_84 => ?_)
          · skip
            refine lv_iload_n hx hb dX3_arrive_115 rfl (lv_at hl 1 rfl) ?_
            refine lv_iload_n hx hb dX3_arrive_116 rfl (lv_at hl 0 rfl) ?_
            refine z_iadd hx hb dX3_arrive_117 ?_
            have hi_85 : (0 : Int) ≤ g ∧ g < ((8 : Nat) : Int) := by
              first | assumption | omega | grind
            have hv_86 : (0 : Int) ≤ (r_61 + 0) ∧ (r_61 + 0) ≤ 30 := by
              first | assumption | omega | grind
            have hR_87 : RA (uZ Pbusy g (r_61 + 0)) (0) 30 := RA_up qPbusy hv_86
            refine z_iast (n := 8) (f := Pbusy) (ws2 := kG cI cB cZ oG Gn Gki Gle Glo Gta Gsh ++ kT cI cB cZ oT Tcells Tgap Twires Tstands ++ kP cI cB cZ oP (oG 0) (oT 0) Pline Psize Pnow Pheads (uZ Pbusy g (r_61 + 0)) Pcame (uZ Pout g Pnow)) hx hb hK hw 12 rfl (by decide) hi_85 dX3_arrive_118 rfl (fun H locs hw => ?_)
            have hv_88 : (Pheads, (uZ Pbusy g (r_61 + 0)), Pcame, (uZ Pout g Pnow)) = arrF Gki Gle Tcells Tstands Pnow g (Pheads, Pbusy, Pcame, Pout) := by
              unfold arrF
              dsimp only
              refine Prod.ext rfl (Prod.ext ?_ (Prod.ext ?_ ?_)) <;> dsimp only
              · congr 1; unfold busyF; (try subst_vars); split <;> split <;> omega
              · first | (rw [if_pos (by omega)]; done) | (rw [if_neg (by omega)]; done)
              · first | (rw [if_pos (by omega)]; done) | (rw [if_neg (by omega)]; done)
            exact W.vret hx hb hr (fun t9 ht hW => ⟨⟨((uZ Pbusy g (r_61 + 0)), Pcame, (uZ Pout g Pnow)), rfl, ⟨hR_87, qPcame, hR_57, hv_88⟩, by subst hAe; exact z_end hK hw ht hW⟩, by subst hAe; exact hw.2.2.F ht⟩) (by subst hAe; exact hw.2.2.2.2) dX3_arrive_119
          · skip
            refine z_iconst hx hb dX3_arrive_109 ?_
            refine lv_iload_n hx hb dX3_arrive_110 rfl (lv_at hl 1 rfl) ?_
            refine z_imul hx hb dX3_arrive_111 ?_
            refine lv_goto (tgt := 116) hx hb dX3_arrive_112 (by decide) ?_
            refine lv_iload_n hx hb dX3_arrive_116 rfl (lv_at hl 0 rfl) ?_
            refine z_iadd hx hb dX3_arrive_117 ?_
            have hi_89 : (0 : Int) ≤ g ∧ g < ((8 : Nat) : Int) := by
              first | assumption | omega | grind
            have hv_90 : (0 : Int) ≤ ((2 * r_61) + 0) ∧ ((2 * r_61) + 0) ≤ 30 := by
              first | assumption | omega | grind
            have hR_91 : RA (uZ Pbusy g ((2 * r_61) + 0)) (0) 30 := RA_up qPbusy hv_90
            refine z_iast (n := 8) (f := Pbusy) (ws2 := kG cI cB cZ oG Gn Gki Gle Glo Gta Gsh ++ kT cI cB cZ oT Tcells Tgap Twires Tstands ++ kP cI cB cZ oP (oG 0) (oT 0) Pline Psize Pnow Pheads (uZ Pbusy g ((2 * r_61) + 0)) Pcame (uZ Pout g Pnow)) hx hb hK hw 12 rfl (by decide) hi_89 dX3_arrive_118 rfl (fun H locs hw => ?_)
            have hv_92 : (Pheads, (uZ Pbusy g ((2 * r_61) + 0)), Pcame, (uZ Pout g Pnow)) = arrF Gki Gle Tcells Tstands Pnow g (Pheads, Pbusy, Pcame, Pout) := by
              unfold arrF
              dsimp only
              refine Prod.ext rfl (Prod.ext ?_ (Prod.ext ?_ ?_)) <;> dsimp only
              · congr 1; unfold busyF; (try subst_vars); split <;> split <;> omega
              · first | (rw [if_pos (by omega)]; done) | (rw [if_neg (by omega)]; done)
              · first | (rw [if_pos (by omega)]; done) | (rw [if_neg (by omega)]; done)
            exact W.vret hx hb hr (fun t9 ht hW => ⟨⟨((uZ Pbusy g ((2 * r_61) + 0)), Pcame, (uZ Pout g Pnow)), rfl, ⟨hR_91, qPcame, hR_57, hv_92⟩, by subst hAe; exact z_end hK hw ht hW⟩, by subst hAe; exact hw.2.2.F ht⟩) (by subst hAe; exact hw.2.2.2.2) dX3_arrive_119
        · skip
          refine z_iconst hx hb dX3_arrive_85 ?_
          refine lv_goto (tgt := 90) hx hb dX3_arrive_86 (by decide) ?_
          refine lv_istore_n (lv' := [(3, .int (zI 3)), (2, .int (zI r_61)), (0, .ref (oP 0)), (1, .int (zI g))]) hx hb dX3_arrive_90 rfl hl (by decide) rfl (fun ls hl => ?_)
          refine lv_aload_n hx hb dX3_arrive_91 rfl (lv_at hl 2 rfl) ?_
          refine va_get (D := D) (ci := 3) (v := .ref (oP 3)) (C := RX3) (T := TX3) (N := 9) hx hb hts hinX3 hown hK hw.1 9 rfl rfl 6 (by decide) (hts (.fieldLink RX3 25 "CarnivalRoad$Parade" "busy" "[I") (by decide +kernel)) (fun _ h9 => h9) rfl dX3_arrive_92 ?_
          refine lv_iload_n hx hb dX3_arrive_95 rfl (lv_at hl 3 rfl) ?_
          refine lv_aload_n hx hb dX3_arrive_96 rfl (lv_at hl 2 rfl) ?_
          refine va_get (D := D) (ci := 3) (v := .ref (oG 0)) (C := RX3) (T := TX3) (N := 9) hx hb hts hinX3 hown hK hw.1 9 rfl rfl 0 (by decide) (hts (.fieldLink RX3 34 "CarnivalRoad$Parade" "guests" "LCarnivalRoad$Guests;") (by decide +kernel)) (fun _ h9 => h9) rfl dX3_arrive_97 ?_
          refine va_get (D := D) (ci := 2) (v := .ref (oG 1)) (C := RX2) (T := TX2) (N := 6) hx hb hts hinX2 hown hK hw.1 0 rfl rfl 1 (by decide) (hts (.fieldLink RX3 72 "CarnivalRoad$Guests" "kinds" "[I") (by decide +kernel)) (fun _ h9 => h9) rfl dX3_arrive_100 ?_
          refine lv_iload_n hx hb dX3_arrive_103 rfl (lv_at hl 3 rfl) ?_
          have hi_93 : (0 : Int) ≤ g ∧ g < ((8 : Nat) : Int) := by
            first | assumption | omega | grind
          refine z_iald (n := 8) (f := Gki) hx hb hK hw 1 rfl (by decide) hi_93 dX3_arrive_104 ?_
          have hq_94 : 0 ≤ Gki g ∧ Gki g ≤ 4 := qGki g
          refine z_iconst hx hb dX3_arrive_105 ?_
          refine z_icmp_ne (tgt := 115) hx hb dX3_arrive_106 (by decide) (by omega) (fun hc_95 => ?_) (fun hc_95 => ?_)
          · skip
            refine lv_iload_n hx hb dX3_arrive_115 rfl (lv_at hl 1 rfl) ?_
            refine lv_iload_n hx hb dX3_arrive_116 rfl (lv_at hl 0 rfl) ?_
            refine z_iadd hx hb dX3_arrive_117 ?_
            have hi_96 : (0 : Int) ≤ g ∧ g < ((8 : Nat) : Int) := by
              first | assumption | omega | grind
            have hv_97 : (0 : Int) ≤ (r_61 + 3) ∧ (r_61 + 3) ≤ 30 := by
              first | assumption | omega | grind
            have hR_98 : RA (uZ Pbusy g (r_61 + 3)) (0) 30 := RA_up qPbusy hv_97
            refine z_iast (n := 8) (f := Pbusy) (ws2 := kG cI cB cZ oG Gn Gki Gle Glo Gta Gsh ++ kT cI cB cZ oT Tcells Tgap Twires Tstands ++ kP cI cB cZ oP (oG 0) (oT 0) Pline Psize Pnow Pheads (uZ Pbusy g (r_61 + 3)) Pcame (uZ Pout g Pnow)) hx hb hK hw 12 rfl (by decide) hi_96 dX3_arrive_118 rfl (fun H locs hw => ?_)
            have hv_99 : (Pheads, (uZ Pbusy g (r_61 + 3)), Pcame, (uZ Pout g Pnow)) = arrF Gki Gle Tcells Tstands Pnow g (Pheads, Pbusy, Pcame, Pout) := by
              unfold arrF
              dsimp only
              refine Prod.ext rfl (Prod.ext ?_ (Prod.ext ?_ ?_)) <;> dsimp only
              · congr 1; unfold busyF; (try subst_vars); split <;> split <;> omega
              · first | (rw [if_pos (by omega)]; done) | (rw [if_neg (by omega)]; done)
              · first | (rw [if_pos (by omega)]; done) | (rw [if_neg (by omega)]; done)
            exact W.vret hx hb hr (fun t9 ht hW => ⟨⟨((uZ Pbusy g (r_61 + 3)), Pcame, (uZ Pout g Pnow)), rfl, ⟨hR_98, qPcame, hR_57, hv_99⟩, by subst hAe; exact z_end hK hw ht hW⟩, by subst hAe; exact hw.2.2.F ht⟩) (by subst hAe; exact hw.2.2.2.2) dX3_arrive_119
          · skip
            refine z_iconst hx hb dX3_arrive_109 ?_
            refine lv_iload_n hx hb dX3_arrive_110 rfl (lv_at hl 1 rfl) ?_
            refine z_imul hx hb dX3_arrive_111 ?_
            refine lv_goto (tgt := 116) hx hb dX3_arrive_112 (by decide) ?_
            refine lv_iload_n hx hb dX3_arrive_116 rfl (lv_at hl 0 rfl) ?_
            refine z_iadd hx hb dX3_arrive_117 ?_
            have hi_100 : (0 : Int) ≤ g ∧ g < ((8 : Nat) : Int) := by
              first | assumption | omega | grind
            have hv_101 : (0 : Int) ≤ ((2 * r_61) + 3) ∧ ((2 * r_61) + 3) ≤ 30 := by
              first | assumption | omega | grind
            have hR_102 : RA (uZ Pbusy g ((2 * r_61) + 3)) (0) 30 := RA_up qPbusy hv_101
            refine z_iast (n := 8) (f := Pbusy) (ws2 := kG cI cB cZ oG Gn Gki Gle Glo Gta Gsh ++ kT cI cB cZ oT Tcells Tgap Twires Tstands ++ kP cI cB cZ oP (oG 0) (oT 0) Pline Psize Pnow Pheads (uZ Pbusy g ((2 * r_61) + 3)) Pcame (uZ Pout g Pnow)) hx hb hK hw 12 rfl (by decide) hi_100 dX3_arrive_118 rfl (fun H locs hw => ?_)
            have hv_103 : (Pheads, (uZ Pbusy g ((2 * r_61) + 3)), Pcame, (uZ Pout g Pnow)) = arrF Gki Gle Tcells Tstands Pnow g (Pheads, Pbusy, Pcame, Pout) := by
              unfold arrF
              dsimp only
              refine Prod.ext rfl (Prod.ext ?_ (Prod.ext ?_ ?_)) <;> dsimp only
              · congr 1; unfold busyF; (try subst_vars); split <;> split <;> omega
              · first | (rw [if_pos (by omega)]; done) | (rw [if_neg (by omega)]; done)
              · first | (rw [if_pos (by omega)]; done) | (rw [if_neg (by omega)]; done)
            exact W.vret hx hb hr (fun t9 ht hW => ⟨⟨((uZ Pbusy g ((2 * r_61) + 3)), Pcame, (uZ Pout g Pnow)), rfl, ⟨hR_102, qPcame, hR_57, hv_103⟩, by subst hAe; exact z_end hK hw ht hW⟩, by subst hAe; exact hw.2.2.F ht⟩) (by subst hAe; exact hw.2.2.2.2) dX3_arrive_119
  · skip
    refine lv_aload_n hx hb dX3_arrive_9 rfl (lv_at hl 0 rfl) ?_
    refine va_get (D := D) (ci := 3) (v := .ref (oP 4)) (C := RX3) (T := TX3) (N := 9) hx hb hts hinX3 hown hK hw.1 9 rfl rfl 7 (by decide) (hts (.fieldLink RX3 28 "CarnivalRoad$Parade" "cameAt" "[I") (by decide +kernel)) (fun _ h9 => h9) rfl dX3_arrive_10 ?_
    refine lv_iload_n hx hb dX3_arrive_13 rfl (lv_at hl 1 rfl) ?_
    refine lv_aload_n hx hb dX3_arrive_14 rfl (lv_at hl 0 rfl) ?_
    refine va_get (D := D) (ci := 3) (v := .int (zI Pnow)) (C := RX3) (T := TX3) (N := 9) hx hb hts hinX3 hown hK hw.1 9 rfl rfl 4 (by decide) (hts (.fieldLink RX3 19 "CarnivalRoad$Parade" "now" "I") (by decide +kernel)) (fun _ h9 => h9) rfl dX3_arrive_15 ?_
    have hi_104 : (0 : Int) ≤ g ∧ g < ((8 : Nat) : Int) := by
      first | assumption | omega | grind
    have hv_105 : (-1 : Int) ≤ Pnow ∧ Pnow ≤ 1000000 := by
      first | assumption | omega | grind
    have hR_106 : RA (uZ Pcame g Pnow) (-1) 1000000 := RA_up qPcame hv_105
    refine z_iast (n := 8) (f := Pcame) (ws2 := kG cI cB cZ oG Gn Gki Gle Glo Gta Gsh ++ kT cI cB cZ oT Tcells Tgap Twires Tstands ++ kP cI cB cZ oP (oG 0) (oT 0) Pline Psize Pnow Pheads Pbusy (uZ Pcame g Pnow) Pout) hx hb hK hw 13 rfl (by decide) hi_104 dX3_arrive_18 rfl (fun H locs hw => ?_)
    refine lv_aload_n hx hb dX3_arrive_19 rfl (lv_at hl 0 rfl) ?_
    refine lv_iload_n hx hb dX3_arrive_20 rfl (lv_at hl 1 rfl) ?_
    have hF9 := z_free (wc := kG cI cB cZ oG Gn Gki Gle Glo Gta Gsh ++ kT cI cB cZ oT Tcells Tgap Twires Tstands ++ kP cI cB cZ oP (oG 0) (oT 0) Pline Psize Pnow Pheads Pbusy (uZ Pcame g Pnow) Pout) hw hA [0, 1, 2, 3, 4, 5, 6, 7, 8, 9, 10, 11, 12, 13, 14] rfl
    refine va_calli (va_runV (As := [.int (zI g)]) (rest := []) ⟨hx, hb, hml, hown, hts⟩ (c_X3_tailOf l D cI cB cZ oG oT oP H.size Gn Gki Gle Glo Gta Gsh Tcells Tgap Twires Tstands Pline Psize Pnow Pheads Pbusy (uZ Pcame g Pnow) Pout g (by omega) qGki qGle qGlo qGta qGsh (by omega) (by omega) qTwires qTstands qPline (by omega) (by omega) qPheads qPbusy hR_106 qPout (by omega)) (cwV 1 hts gX3_arrive_X3_tailOf rfl rfl rfl (by decide +kernel) ⟨Nat.le_of_ble_eq_true rfl, Nat.le_of_ble_eq_true rfl⟩) ⟨zPre_blind, va_recv hK hw.1 (ci := 3) (q0 := 9) rfl rfl, z_pre hK hw [0, 1, 2, 3, 4, 5, 6, 7, 8, 9, 10, 11, 12, 13, 14] (by decide) rfl⟩ rfl rfl hl.1 rfl (lv_room (Nat.le_of_ble_eq_true rfl)) dX3_arrive_21 ⟨Nat.zero_le _, Nat.zero_le _⟩) hw.2.2 (fun q _ h => hF9 q h) hF9 (fun r9 u9 t9 H_107 locs9 ht9 hvm9 hq9 hB9 hz9 hk9 hS9 => ?_)
    obtain ⟨r_108, rfl⟩ : ∃ z, z = u9 := ⟨_, rfl⟩
    try dsimp only at hq9 hB9
    obtain ⟨rfl, hq9⟩ := hq9
    obtain ⟨hq_109, hq_110⟩ := hq9
    have hw : HW D A s.heap (kG cI cB cZ oG Gn Gki Gle Glo Gta Gsh ++ kT cI cB cZ oT Tcells Tgap Twires Tstands ++ kP cI cB cZ oP (oG 0) (oT 0) Pline Psize Pnow Pheads Pbusy (uZ Pcame g Pnow) Pout) H_107 locs9 := z_after (wc := kG cI cB cZ oG Gn Gki Gle Glo Gta Gsh ++ kT cI cB cZ oT Tcells Tgap Twires Tstands ++ kP cI cB cZ oP (oG 0) (oT 0) Pline Psize Pnow Pheads Pbusy (uZ Pcame g Pnow) Pout) hw [0, 1, 2, 3, 4, 5, 6, 7, 8, 9, 10, 11, 12, 13, 14] [] rfl rfl (by decide) (by decide) hF9 hk9 ht9 hB9 hS9 [0, 1, 2, 3, 4, 5, 6, 7, 8, 9, 10, 11, 12, 13, 14] (by decide) rfl
    clear hF9 ht9 hvm9 hB9 hz9 hk9 hS9
    refine lv_aload_n hx hb dX3_arrive_24 rfl (lv_at hl 0 rfl) ?_
    refine va_get (D := D) (ci := 3) (v := .ref (oT 0)) (C := RX3) (T := TX3) (N := 9) hx hb hts hinX3 hown hK hw.1 9 rfl rfl 1 (by decide) (hts (.fieldLink RX3 38 "CarnivalRoad$Parade" "street" "LCarnivalRoad$Street;") (by decide +kernel)) (fun _ h9 => h9) rfl dX3_arrive_25 ?_
    refine va_get (D := D) (ci := 6) (v := .int (zI Tcells)) (C := RX6) (T := TX6) (N := 4) hx hb hts hinX6 hown hK hw.1 6 rfl rfl 0 (by decide) (hts (.fieldLink RX3 93 "CarnivalRoad$Street" "cells" "I") (by decide +kernel)) (fun _ h9 => h9) rfl dX3_arrive_28 ?_
    refine z_icmp_lt (tgt := 44) hx hb dX3_arrive_31 (by decide) (by omega) (fun hc_111 => ?_) (fun hc_111 => ?_)
    · skip
      refine lv_aload_n hx hb dX3_arrive_44 rfl (lv_at hl 0 rfl) ?_
      refine va_get (D := D) (ci := 3) (v := .ref (oT 0)) (C := RX3) (T := TX3) (N := 9) hx hb hts hinX3 hown hK hw.1 9 rfl rfl 1 (by decide) (hts (.fieldLink RX3 38 "CarnivalRoad$Parade" "street" "LCarnivalRoad$Street;") (by decide +kernel)) (fun _ h9 => h9) rfl dX3_arrive_45 ?_
      refine lv_aload_n hx hb dX3_arrive_48 rfl (lv_at hl 0 rfl) ?_
      refine va_get (D := D) (ci := 3) (v := .ref (oP 2)) (C := RX3) (T := TX3) (N := 9) hx hb hts hinX3 hown hK hw.1 9 rfl rfl 5 (by decide) (hts (.fieldLink RX3 22 "CarnivalRoad$Parade" "heads" "[I") (by decide +kernel)) (fun _ h9 => h9) rfl dX3_arrive_49 ?_
      refine lv_iload_n hx hb dX3_arrive_52 rfl (lv_at hl 1 rfl) ?_
      have hi_112 : (0 : Int) ≤ g ∧ g < ((8 : Nat) : Int) := by
        first | assumption | omega | grind
      refine z_iald (n := 8) (f := Pheads) hx hb hK hw 11 rfl (by decide) hi_112 dX3_arrive_53 ?_
      have hq_113 : -1 ≤ Pheads g ∧ Pheads g ≤ 60 := qPheads g
      have hF9 := z_free (wc := kT cI cB cZ oT Tcells Tgap Twires Tstands) hw hA [6, 7, 8] rfl
      refine va_calli (va_runV (As := [.int (zI (Pheads g))]) (rest := []) ⟨hx, hb, hml, hown, hts⟩ (c_X6_minutesAt l D cI cB cZ oT H_107.size Tcells Tgap Twires Tstands (Pheads g) (by omega) (by omega) qTwires qTstands (by omega)) (cwV 1 hts gX3_arrive_X6_minutesAt rfl rfl rfl (by decide +kernel) ⟨Nat.le_of_ble_eq_true rfl, Nat.le_of_ble_eq_true rfl⟩) ⟨zPre_blind, va_recv hK hw.1 (ci := 6) (q0 := 6) rfl rfl, z_pre hK hw [6, 7, 8] (by decide) rfl⟩ rfl rfl hl.1 rfl (lv_room (Nat.le_of_ble_eq_true rfl)) dX3_arrive_54 ⟨Nat.zero_le _, Nat.zero_le _⟩) hw.2.2 (fun q _ h => hF9 q h) hF9 (fun r9 u9 t9 H_114 locs9 ht9 hvm9 hq9 hB9 hz9 hk9 hS9 => ?_)
      obtain ⟨r_115, rfl⟩ : ∃ z, z = u9 := ⟨_, rfl⟩
      try dsimp only at hq9 hB9
      obtain ⟨rfl, hq9⟩ := hq9
      obtain ⟨hq_116, hq_117⟩ := hq9
      have hw : HW D A s.heap (kG cI cB cZ oG Gn Gki Gle Glo Gta Gsh ++ kT cI cB cZ oT Tcells Tgap Twires Tstands ++ kP cI cB cZ oP (oG 0) (oT 0) Pline Psize Pnow Pheads Pbusy (uZ Pcame g Pnow) Pout) H_114 locs9 := z_after (wc := kT cI cB cZ oT Tcells Tgap Twires Tstands) hw [6, 7, 8] [0, 1, 2, 3, 4, 5, 9, 10, 11, 12, 13, 14] rfl rfl (by decide) (by decide) hF9 hk9 ht9 hB9 hS9 [0, 1, 2, 3, 4, 5, 12, 13, 14, 6, 7, 8, 9, 10, 11] (by decide) rfl
      clear hF9 ht9 hvm9 hB9 hz9 hk9 hS9
      refine lv_istore_n (lv' := [(2, .int (zI r_115)), (0, .ref (oP 0)), (1, .int (zI g))]) hx hb dX3_arrive_57 rfl hl (by decide) rfl (fun ls hl => ?_)
      refine lv_aload_n hx hb dX3_arrive_58 rfl (lv_at hl 1 rfl) ?_
      refine va_get (D := D) (ci := 3) (v := .ref (oG 0)) (C := RX3) (T := TX3) (N := 9) hx hb hts hinX3 hown hK hw.1 9 rfl rfl 0 (by decide) (hts (.fieldLink RX3 34 "CarnivalRoad$Parade" "guests" "LCarnivalRoad$Guests;") (by decide +kernel)) (fun _ h9 => h9) rfl dX3_arrive_59 ?_
      refine va_get (D := D) (ci := 2) (v := .ref (oG 1)) (C := RX2) (T := TX2) (N := 6) hx hb hts hinX2 hown hK hw.1 0 rfl rfl 1 (by decide) (hts (.fieldLink RX3 72 "CarnivalRoad$Guests" "kinds" "[I") (by decide +kernel)) (fun _ h9 => h9) rfl dX3_arrive_62 ?_
      refine lv_iload_n hx hb dX3_arrive_65 rfl (lv_at hl 2 rfl) ?_
      have hi_118 : (0 : Int) ≤ g ∧ g < ((8 : Nat) : Int) := by
        first | assumption | omega | grind
      refine z_iald (n := 8) (f := Gki) hx hb hK hw 1 rfl (by decide) hi_118 dX3_arrive_66 ?_
      have hq_119 : 0 ≤ Gki g ∧ Gki g ≤ 4 := qGki g
      refine z_iconst hx hb dX3_arrive_67 ?_
      refine z_icmp_ne (tgt := 89) hx hb dX3_arrive_68 (by decide) (by omega) (fun hc_120 => ?_) (fun hc_120 => ?_)
      · skip
        refine z_iconst hx hb dX3_arrive_89 ?_
        refine lv_istore_n (lv' := [(3, .int (zI 0)), (2, .int (zI r_115)), (0, .ref (oP 0)), (1, .int (zI g))]) hx hb dX3_arrive_90 rfl hl (by decide) rfl (fun ls hl => ?_)
        refine lv_aload_n hx hb dX3_arrive_91 rfl (lv_at hl 2 rfl) ?_
        refine va_get (D := D) (ci := 3) (v := .ref (oP 3)) (C := RX3) (T := TX3) (N := 9) hx hb hts hinX3 hown hK hw.1 9 rfl rfl 6 (by decide) (hts (.fieldLink RX3 25 "CarnivalRoad$Parade" "busy" "[I") (by decide +kernel)) (fun _ h9 => h9) rfl dX3_arrive_92 ?_
        refine lv_iload_n hx hb dX3_arrive_95 rfl (lv_at hl 3 rfl) ?_
        refine lv_aload_n hx hb dX3_arrive_96 rfl (lv_at hl 2 rfl) ?_
        refine va_get (D := D) (ci := 3) (v := .ref (oG 0)) (C := RX3) (T := TX3) (N := 9) hx hb hts hinX3 hown hK hw.1 9 rfl rfl 0 (by decide) (hts (.fieldLink RX3 34 "CarnivalRoad$Parade" "guests" "LCarnivalRoad$Guests;") (by decide +kernel)) (fun _ h9 => h9) rfl dX3_arrive_97 ?_
        refine va_get (D := D) (ci := 2) (v := .ref (oG 1)) (C := RX2) (T := TX2) (N := 6) hx hb hts hinX2 hown hK hw.1 0 rfl rfl 1 (by decide) (hts (.fieldLink RX3 72 "CarnivalRoad$Guests" "kinds" "[I") (by decide +kernel)) (fun _ h9 => h9) rfl dX3_arrive_100 ?_
        refine lv_iload_n hx hb dX3_arrive_103 rfl (lv_at hl 3 rfl) ?_
        have hi_121 : (0 : Int) ≤ g ∧ g < ((8 : Nat) : Int) := by
          first | assumption | omega | grind
        refine z_iald (n := 8) (f := Gki) hx hb hK hw 1 rfl (by decide) hi_121 dX3_arrive_104 ?_
        have hq_122 : 0 ≤ Gki g ∧ Gki g ≤ 4 := qGki g
        refine z_iconst hx hb dX3_arrive_105 ?_
        refine z_icmp_ne (tgt := 115) hx hb dX3_arrive_106 (by decide) (by omega) (fun hc_123 => ?_) (fun hc_123 => ?_)
        · skip
          refine lv_iload_n hx hb dX3_arrive_115 rfl (lv_at hl 1 rfl) ?_
          refine lv_iload_n hx hb dX3_arrive_116 rfl (lv_at hl 0 rfl) ?_
          refine z_iadd hx hb dX3_arrive_117 ?_
          have hi_124 : (0 : Int) ≤ g ∧ g < ((8 : Nat) : Int) := by
            first | assumption | omega | grind
          have hv_125 : (0 : Int) ≤ (r_115 + 0) ∧ (r_115 + 0) ≤ 30 := by
            first | assumption | omega | grind
          have hR_126 : RA (uZ Pbusy g (r_115 + 0)) (0) 30 := RA_up qPbusy hv_125
          refine z_iast (n := 8) (f := Pbusy) (ws2 := kG cI cB cZ oG Gn Gki Gle Glo Gta Gsh ++ kT cI cB cZ oT Tcells Tgap Twires Tstands ++ kP cI cB cZ oP (oG 0) (oT 0) Pline Psize Pnow Pheads (uZ Pbusy g (r_115 + 0)) (uZ Pcame g Pnow) Pout) hx hb hK hw 12 rfl (by decide) hi_124 dX3_arrive_118 rfl (fun H locs hw => ?_)
          have hv_127 : (Pheads, (uZ Pbusy g (r_115 + 0)), (uZ Pcame g Pnow), Pout) = arrF Gki Gle Tcells Tstands Pnow g (Pheads, Pbusy, Pcame, Pout) := by
            unfold arrF
            dsimp only
            refine Prod.ext rfl (Prod.ext ?_ (Prod.ext ?_ ?_)) <;> dsimp only
            · congr 1; unfold busyF; (try subst_vars); split <;> split <;> omega
            · first | (rw [if_pos (by omega)]; done) | (rw [if_neg (by omega)]; done)
            · first | (rw [if_pos (by omega)]; done) | (rw [if_neg (by omega)]; done)
          exact W.vret hx hb hr (fun t9 ht hW => ⟨⟨((uZ Pbusy g (r_115 + 0)), (uZ Pcame g Pnow), Pout), rfl, ⟨hR_126, hR_106, qPout, hv_127⟩, by subst hAe; exact z_end hK hw ht hW⟩, by subst hAe; exact hw.2.2.F ht⟩) (by subst hAe; exact hw.2.2.2.2) dX3_arrive_119
        · skip
          refine z_iconst hx hb dX3_arrive_109 ?_
          refine lv_iload_n hx hb dX3_arrive_110 rfl (lv_at hl 1 rfl) ?_
          refine z_imul hx hb dX3_arrive_111 ?_
          refine lv_goto (tgt := 116) hx hb dX3_arrive_112 (by decide) ?_
          refine lv_iload_n hx hb dX3_arrive_116 rfl (lv_at hl 0 rfl) ?_
          refine z_iadd hx hb dX3_arrive_117 ?_
          have hi_128 : (0 : Int) ≤ g ∧ g < ((8 : Nat) : Int) := by
            first | assumption | omega | grind
          have hv_129 : (0 : Int) ≤ ((2 * r_115) + 0) ∧ ((2 * r_115) + 0) ≤ 30 := by
            first | assumption | omega | grind
          have hR_130 : RA (uZ Pbusy g ((2 * r_115) + 0)) (0) 30 := RA_up qPbusy hv_129
          refine z_iast (n := 8) (f := Pbusy) (ws2 := kG cI cB cZ oG Gn Gki Gle Glo Gta Gsh ++ kT cI cB cZ oT Tcells Tgap Twires Tstands ++ kP cI cB cZ oP (oG 0) (oT 0) Pline Psize Pnow Pheads (uZ Pbusy g ((2 * r_115) + 0)) (uZ Pcame g Pnow) Pout) hx hb hK hw 12 rfl (by decide) hi_128 dX3_arrive_118 rfl (fun H locs hw => ?_)
          have hv_131 : (Pheads, (uZ Pbusy g ((2 * r_115) + 0)), (uZ Pcame g Pnow), Pout) = arrF Gki Gle Tcells Tstands Pnow g (Pheads, Pbusy, Pcame, Pout) := by
            unfold arrF
            dsimp only
            refine Prod.ext rfl (Prod.ext ?_ (Prod.ext ?_ ?_)) <;> dsimp only
            · congr 1; unfold busyF; (try subst_vars); split <;> split <;> omega
            · first | (rw [if_pos (by omega)]; done) | (rw [if_neg (by omega)]; done)
            · first | (rw [if_pos (by omega)]; done) | (rw [if_neg (by omega)]; done)
          exact W.vret hx hb hr (fun t9 ht hW => ⟨⟨((uZ Pbusy g ((2 * r_115) + 0)), (uZ Pcame g Pnow), Pout), rfl, ⟨hR_130, hR_106, qPout, hv_131⟩, by subst hAe; exact z_end hK hw ht hW⟩, by subst hAe; exact hw.2.2.F ht⟩) (by subst hAe; exact hw.2.2.2.2) dX3_arrive_119
      · skip
        refine lv_aload_n hx hb dX3_arrive_71 rfl (lv_at hl 1 rfl) ?_
        refine va_get (D := D) (ci := 3) (v := .ref (oP 2)) (C := RX3) (T := TX3) (N := 9) hx hb hts hinX3 hown hK hw.1 9 rfl rfl 5 (by decide) (hts (.fieldLink RX3 22 "CarnivalRoad$Parade" "heads" "[I") (by decide +kernel)) (fun _ h9 => h9) rfl dX3_arrive_72 ?_
        refine lv_iload_n hx hb dX3_arrive_75 rfl (lv_at hl 2 rfl) ?_
        have hi_132 : (0 : Int) ≤ g ∧ g < ((8 : Nat) : Int) := by
          first | assumption | omega | grind
        refine z_iald (n := 8) (f := Pheads) hx hb hK hw 11 rfl (by decide) hi_132 dX3_arrive_76 ?_
        have hq_133 : -1 ≤ Pheads g ∧ Pheads g ≤ 60 := qPheads g
        refine z_iconst hx hb dX3_arrive_77 ?_
        refine z_iadd hx hb dX3_arrive_78 ?_
        refine z_bipush hx hb dX3_arrive_79 (by decide) ?_
        have hbit_134 : zI ((Pheads g) + 1) - zI ((Pheads g) + 1) / zI 10 * zI 10 = zI (((Pheads g) + 1) % (10 : Int)) := by
          exact z_rem (by omega) (by omega)
        refine lv_irem hx hb dX3_arrive_81 (fun q => by have q2 := (zI_eq (by omega) (by omega)).mp (show zI 10 = zI 0 from q); omega) ?_
        rw [hbit_134]
        clear hbit_134
        refine z_if_ne (tgt := 89) hx hb dX3_arrive_82 (by decide) (by omega) (fun hc_135 => ?_) (fun hc_135 => ?_)
        · skip
          refine z_iconst hx hb dX3_arrive_89 ?_
          refine lv_istore_n (lv' := [(3, .int (zI 0)), (2, .int (zI r_115)), (0, .ref (oP 0)), (1, .int (zI g))]) hx hb dX3_arrive_90 rfl hl (by decide) rfl (fun ls hl => ?_)
          refine lv_aload_n hx hb dX3_arrive_91 rfl (lv_at hl 2 rfl) ?_
          refine va_get (D := D) (ci := 3) (v := .ref (oP 3)) (C := RX3) (T := TX3) (N := 9) hx hb hts hinX3 hown hK hw.1 9 rfl rfl 6 (by decide) (hts (.fieldLink RX3 25 "CarnivalRoad$Parade" "busy" "[I") (by decide +kernel)) (fun _ h9 => h9) rfl dX3_arrive_92 ?_
          refine lv_iload_n hx hb dX3_arrive_95 rfl (lv_at hl 3 rfl) ?_
          refine lv_aload_n hx hb dX3_arrive_96 rfl (lv_at hl 2 rfl) ?_
          refine va_get (D := D) (ci := 3) (v := .ref (oG 0)) (C := RX3) (T := TX3) (N := 9) hx hb hts hinX3 hown hK hw.1 9 rfl rfl 0 (by decide) (hts (.fieldLink RX3 34 "CarnivalRoad$Parade" "guests" "LCarnivalRoad$Guests;") (by decide +kernel)) (fun _ h9 => h9) rfl dX3_arrive_97 ?_
          refine va_get (D := D) (ci := 2) (v := .ref (oG 1)) (C := RX2) (T := TX2) (N := 6) hx hb hts hinX2 hown hK hw.1 0 rfl rfl 1 (by decide) (hts (.fieldLink RX3 72 "CarnivalRoad$Guests" "kinds" "[I") (by decide +kernel)) (fun _ h9 => h9) rfl dX3_arrive_100 ?_
          refine lv_iload_n hx hb dX3_arrive_103 rfl (lv_at hl 3 rfl) ?_
          have hi_136 : (0 : Int) ≤ g ∧ g < ((8 : Nat) : Int) := by
            first | assumption | omega | grind
          refine z_iald (n := 8) (f := Gki) hx hb hK hw 1 rfl (by decide) hi_136 dX3_arrive_104 ?_
          have hq_137 : 0 ≤ Gki g ∧ Gki g ≤ 4 := qGki g
          refine z_iconst hx hb dX3_arrive_105 ?_
          refine z_icmp_ne (tgt := 115) hx hb dX3_arrive_106 (by decide) (by omega) (fun hc_138 => ?_) (fun hc_138 => ?_)
          · skip
            refine lv_iload_n hx hb dX3_arrive_115 rfl (lv_at hl 1 rfl) ?_
            refine lv_iload_n hx hb dX3_arrive_116 rfl (lv_at hl 0 rfl) ?_
            refine z_iadd hx hb dX3_arrive_117 ?_
            have hi_139 : (0 : Int) ≤ g ∧ g < ((8 : Nat) : Int) := by
              first | assumption | omega | grind
            have hv_140 : (0 : Int) ≤ (r_115 + 0) ∧ (r_115 + 0) ≤ 30 := by
              first | assumption | omega | grind
            have hR_141 : RA (uZ Pbusy g (r_115 + 0)) (0) 30 := RA_up qPbusy hv_140
            refine z_iast (n := 8) (f := Pbusy) (ws2 := kG cI cB cZ oG Gn Gki Gle Glo Gta Gsh ++ kT cI cB cZ oT Tcells Tgap Twires Tstands ++ kP cI cB cZ oP (oG 0) (oT 0) Pline Psize Pnow Pheads (uZ Pbusy g (r_115 + 0)) (uZ Pcame g Pnow) Pout) hx hb hK hw 12 rfl (by decide) hi_139 dX3_arrive_118 rfl (fun H locs hw => ?_)
            have hv_142 : (Pheads, (uZ Pbusy g (r_115 + 0)), (uZ Pcame g Pnow), Pout) = arrF Gki Gle Tcells Tstands Pnow g (Pheads, Pbusy, Pcame, Pout) := by
              unfold arrF
              dsimp only
              refine Prod.ext rfl (Prod.ext ?_ (Prod.ext ?_ ?_)) <;> dsimp only
              · congr 1; unfold busyF; (try subst_vars); split <;> split <;> omega
              · first | (rw [if_pos (by omega)]; done) | (rw [if_neg (by omega)]; done)
              · first | (rw [if_pos (by omega)]; done) | (rw [if_neg (by omega)]; done)
            exact W.vret hx hb hr (fun t9 ht hW => ⟨⟨((uZ Pbusy g (r_115 + 0)), (uZ Pcame g Pnow), Pout), rfl, ⟨hR_141, hR_106, qPout, hv_142⟩, by subst hAe; exact z_end hK hw ht hW⟩, by subst hAe; exact hw.2.2.F ht⟩) (by subst hAe; exact hw.2.2.2.2) dX3_arrive_119
          · skip
            refine z_iconst hx hb dX3_arrive_109 ?_
            refine lv_iload_n hx hb dX3_arrive_110 rfl (lv_at hl 1 rfl) ?_
            refine z_imul hx hb dX3_arrive_111 ?_
            refine lv_goto (tgt := 116) hx hb dX3_arrive_112 (by decide) ?_
            refine lv_iload_n hx hb dX3_arrive_116 rfl (lv_at hl 0 rfl) ?_
            refine z_iadd hx hb dX3_arrive_117 ?_
            have hi_143 : (0 : Int) ≤ g ∧ g < ((8 : Nat) : Int) := by
              first | assumption | omega | grind
            have hv_144 : (0 : Int) ≤ ((2 * r_115) + 0) ∧ ((2 * r_115) + 0) ≤ 30 := by
              first | assumption | omega | grind
            have hR_145 : RA (uZ Pbusy g ((2 * r_115) + 0)) (0) 30 := RA_up qPbusy hv_144
            refine z_iast (n := 8) (f := Pbusy) (ws2 := kG cI cB cZ oG Gn Gki Gle Glo Gta Gsh ++ kT cI cB cZ oT Tcells Tgap Twires Tstands ++ kP cI cB cZ oP (oG 0) (oT 0) Pline Psize Pnow Pheads (uZ Pbusy g ((2 * r_115) + 0)) (uZ Pcame g Pnow) Pout) hx hb hK hw 12 rfl (by decide) hi_143 dX3_arrive_118 rfl (fun H locs hw => ?_)
            have hv_146 : (Pheads, (uZ Pbusy g ((2 * r_115) + 0)), (uZ Pcame g Pnow), Pout) = arrF Gki Gle Tcells Tstands Pnow g (Pheads, Pbusy, Pcame, Pout) := by
              unfold arrF
              dsimp only
              refine Prod.ext rfl (Prod.ext ?_ (Prod.ext ?_ ?_)) <;> dsimp only
              · congr 1; unfold busyF; (try subst_vars); split <;> split <;> omega
              · first | (rw [if_pos (by omega)]; done) | (rw [if_neg (by omega)]; done)
              · first | (rw [if_pos (by omega)]; done) | (rw [if_neg (by omega)]; done)
            exact W.vret hx hb hr (fun t9 ht hW => ⟨⟨((uZ Pbusy g ((2 * r_115) + 0)), (uZ Pcame g Pnow), Pout), rfl, ⟨hR_145, hR_106, qPout, hv_146⟩, by subst hAe; exact z_end hK hw ht hW⟩, by subst hAe; exact hw.2.2.F ht⟩) (by subst hAe; exact hw.2.2.2.2) dX3_arrive_119
        · skip
          refine z_iconst hx hb dX3_arrive_85 ?_
          refine lv_goto (tgt := 90) hx hb dX3_arrive_86 (by decide) ?_
          refine lv_istore_n (lv' := [(3, .int (zI 3)), (2, .int (zI r_115)), (0, .ref (oP 0)), (1, .int (zI g))]) hx hb dX3_arrive_90 rfl hl (by decide) rfl (fun ls hl => ?_)
          refine lv_aload_n hx hb dX3_arrive_91 rfl (lv_at hl 2 rfl) ?_
          refine va_get (D := D) (ci := 3) (v := .ref (oP 3)) (C := RX3) (T := TX3) (N := 9) hx hb hts hinX3 hown hK hw.1 9 rfl rfl 6 (by decide) (hts (.fieldLink RX3 25 "CarnivalRoad$Parade" "busy" "[I") (by decide +kernel)) (fun _ h9 => h9) rfl dX3_arrive_92 ?_
          refine lv_iload_n hx hb dX3_arrive_95 rfl (lv_at hl 3 rfl) ?_
          refine lv_aload_n hx hb dX3_arrive_96 rfl (lv_at hl 2 rfl) ?_
          refine va_get (D := D) (ci := 3) (v := .ref (oG 0)) (C := RX3) (T := TX3) (N := 9) hx hb hts hinX3 hown hK hw.1 9 rfl rfl 0 (by decide) (hts (.fieldLink RX3 34 "CarnivalRoad$Parade" "guests" "LCarnivalRoad$Guests;") (by decide +kernel)) (fun _ h9 => h9) rfl dX3_arrive_97 ?_
          refine va_get (D := D) (ci := 2) (v := .ref (oG 1)) (C := RX2) (T := TX2) (N := 6) hx hb hts hinX2 hown hK hw.1 0 rfl rfl 1 (by decide) (hts (.fieldLink RX3 72 "CarnivalRoad$Guests" "kinds" "[I") (by decide +kernel)) (fun _ h9 => h9) rfl dX3_arrive_100 ?_
          refine lv_iload_n hx hb dX3_arrive_103 rfl (lv_at hl 3 rfl) ?_
          have hi_147 : (0 : Int) ≤ g ∧ g < ((8 : Nat) : Int) := by
            first | assumption | omega | grind
          refine z_iald (n := 8) (f := Gki) hx hb hK hw 1 rfl (by decide) hi_147 dX3_arrive_104 ?_
          have hq_148 : 0 ≤ Gki g ∧ Gki g ≤ 4 := qGki g
          refine z_iconst hx hb dX3_arrive_105 ?_
          refine z_icmp_ne (tgt := 115) hx hb dX3_arrive_106 (by decide) (by omega) (fun hc_149 => ?_) (fun hc_149 => ?_)
          · skip
            refine lv_iload_n hx hb dX3_arrive_115 rfl (lv_at hl 1 rfl) ?_
            refine lv_iload_n hx hb dX3_arrive_116 rfl (lv_at hl 0 rfl) ?_
            refine z_iadd hx hb dX3_arrive_117 ?_
            have hi_150 : (0 : Int) ≤ g ∧ g < ((8 : Nat) : Int) := by
              first | assumption | omega | grind
            have hv_151 : (0 : Int) ≤ (r_115 + 3) ∧ (r_115 + 3) ≤ 30 := by
              first | assumption | omega | grind
            have hR_152 : RA (uZ Pbusy g (r_115 + 3)) (0) 30 := RA_up qPbusy hv_151
            refine z_iast (n := 8) (f := Pbusy) (ws2 := kG cI cB cZ oG Gn Gki Gle Glo Gta Gsh ++ kT cI cB cZ oT Tcells Tgap Twires Tstands ++ kP cI cB cZ oP (oG 0) (oT 0) Pline Psize Pnow Pheads (uZ Pbusy g (r_115 + 3)) (uZ Pcame g Pnow) Pout) hx hb hK hw 12 rfl (by decide) hi_150 dX3_arrive_118 rfl (fun H locs hw => ?_)
            have hv_153 : (Pheads, (uZ Pbusy g (r_115 + 3)), (uZ Pcame g Pnow), Pout) = arrF Gki Gle Tcells Tstands Pnow g (Pheads, Pbusy, Pcame, Pout) := by
              unfold arrF
              dsimp only
              refine Prod.ext rfl (Prod.ext ?_ (Prod.ext ?_ ?_)) <;> dsimp only
              · congr 1; unfold busyF; (try subst_vars); split <;> split <;> omega
              · first | (rw [if_pos (by omega)]; done) | (rw [if_neg (by omega)]; done)
              · first | (rw [if_pos (by omega)]; done) | (rw [if_neg (by omega)]; done)
            exact W.vret hx hb hr (fun t9 ht hW => ⟨⟨((uZ Pbusy g (r_115 + 3)), (uZ Pcame g Pnow), Pout), rfl, ⟨hR_152, hR_106, qPout, hv_153⟩, by subst hAe; exact z_end hK hw ht hW⟩, by subst hAe; exact hw.2.2.F ht⟩) (by subst hAe; exact hw.2.2.2.2) dX3_arrive_119
          · skip
            refine z_iconst hx hb dX3_arrive_109 ?_
            refine lv_iload_n hx hb dX3_arrive_110 rfl (lv_at hl 1 rfl) ?_
            refine z_imul hx hb dX3_arrive_111 ?_
            refine lv_goto (tgt := 116) hx hb dX3_arrive_112 (by decide) ?_
            refine lv_iload_n hx hb dX3_arrive_116 rfl (lv_at hl 0 rfl) ?_
            refine z_iadd hx hb dX3_arrive_117 ?_
            have hi_154 : (0 : Int) ≤ g ∧ g < ((8 : Nat) : Int) := by
              first | assumption | omega | grind
            have hv_155 : (0 : Int) ≤ ((2 * r_115) + 3) ∧ ((2 * r_115) + 3) ≤ 30 := by
              first | assumption | omega | grind
            have hR_156 : RA (uZ Pbusy g ((2 * r_115) + 3)) (0) 30 := RA_up qPbusy hv_155
            refine z_iast (n := 8) (f := Pbusy) (ws2 := kG cI cB cZ oG Gn Gki Gle Glo Gta Gsh ++ kT cI cB cZ oT Tcells Tgap Twires Tstands ++ kP cI cB cZ oP (oG 0) (oT 0) Pline Psize Pnow Pheads (uZ Pbusy g ((2 * r_115) + 3)) (uZ Pcame g Pnow) Pout) hx hb hK hw 12 rfl (by decide) hi_154 dX3_arrive_118 rfl (fun H locs hw => ?_)
            have hv_157 : (Pheads, (uZ Pbusy g ((2 * r_115) + 3)), (uZ Pcame g Pnow), Pout) = arrF Gki Gle Tcells Tstands Pnow g (Pheads, Pbusy, Pcame, Pout) := by
              unfold arrF
              dsimp only
              refine Prod.ext rfl (Prod.ext ?_ (Prod.ext ?_ ?_)) <;> dsimp only
              · congr 1; unfold busyF; (try subst_vars); split <;> split <;> omega
              · first | (rw [if_pos (by omega)]; done) | (rw [if_neg (by omega)]; done)
              · first | (rw [if_pos (by omega)]; done) | (rw [if_neg (by omega)]; done)
            exact W.vret hx hb hr (fun t9 ht hW => ⟨⟨((uZ Pbusy g ((2 * r_115) + 3)), (uZ Pcame g Pnow), Pout), rfl, ⟨hR_156, hR_106, qPout, hv_157⟩, by subst hAe; exact z_end hK hw ht hW⟩, by subst hAe; exact hw.2.2.F ht⟩) (by subst hAe; exact hw.2.2.2.2) dX3_arrive_119
    · skip
      refine lv_aload_n hx hb dX3_arrive_34 rfl (lv_at hl 0 rfl) ?_
      refine va_get (D := D) (ci := 3) (v := .ref (oP 5)) (C := RX3) (T := TX3) (N := 9) hx hb hts hinX3 hown hK hw.1 9 rfl rfl 8 (by decide) (hts (.fieldLink RX3 31 "CarnivalRoad$Parade" "outAt" "[I") (by decide +kernel)) (fun _ h9 => h9) rfl dX3_arrive_35 ?_
      refine lv_iload_n hx hb dX3_arrive_38 rfl (lv_at hl 1 rfl) ?_
      refine lv_aload_n hx hb dX3_arrive_39 rfl (lv_at hl 0 rfl) ?_
      refine va_get (D := D) (ci := 3) (v := .int (zI Pnow)) (C := RX3) (T := TX3) (N := 9) hx hb hts hinX3 hown hK hw.1 9 rfl rfl 4 (by decide) (hts (.fieldLink RX3 19 "CarnivalRoad$Parade" "now" "I") (by decide +kernel)) (fun _ h9 => h9) rfl dX3_arrive_40 ?_
      have hi_158 : (0 : Int) ≤ g ∧ g < ((8 : Nat) : Int) := by
        first | assumption | omega | grind
      have hv_159 : (-1 : Int) ≤ Pnow ∧ Pnow ≤ 1000000 := by
        first | assumption | omega | grind
      have hR_160 : RA (uZ Pout g Pnow) (-1) 1000000 := RA_up qPout hv_159
      refine z_iast (n := 8) (f := Pout) (ws2 := kG cI cB cZ oG Gn Gki Gle Glo Gta Gsh ++ kT cI cB cZ oT Tcells Tgap Twires Tstands ++ kP cI cB cZ oP (oG 0) (oT 0) Pline Psize Pnow Pheads Pbusy (uZ Pcame g Pnow) (uZ Pout g Pnow)) hx hb hK hw 14 rfl (by decide) hi_158 dX3_arrive_43 rfl (fun H locs hw => ?_)
      refine lv_aload_n hx hb dX3_arrive_44 rfl (lv_at hl 0 rfl) ?_
      refine va_get (D := D) (ci := 3) (v := .ref (oT 0)) (C := RX3) (T := TX3) (N := 9) hx hb hts hinX3 hown hK hw.1 9 rfl rfl 1 (by decide) (hts (.fieldLink RX3 38 "CarnivalRoad$Parade" "street" "LCarnivalRoad$Street;") (by decide +kernel)) (fun _ h9 => h9) rfl dX3_arrive_45 ?_
      refine lv_aload_n hx hb dX3_arrive_48 rfl (lv_at hl 0 rfl) ?_
      refine va_get (D := D) (ci := 3) (v := .ref (oP 2)) (C := RX3) (T := TX3) (N := 9) hx hb hts hinX3 hown hK hw.1 9 rfl rfl 5 (by decide) (hts (.fieldLink RX3 22 "CarnivalRoad$Parade" "heads" "[I") (by decide +kernel)) (fun _ h9 => h9) rfl dX3_arrive_49 ?_
      refine lv_iload_n hx hb dX3_arrive_52 rfl (lv_at hl 1 rfl) ?_
      have hi_161 : (0 : Int) ≤ g ∧ g < ((8 : Nat) : Int) := by
        first | assumption | omega | grind
      refine z_iald (n := 8) (f := Pheads) hx hb hK hw 11 rfl (by decide) hi_161 dX3_arrive_53 ?_
      have hq_162 : -1 ≤ Pheads g ∧ Pheads g ≤ 60 := qPheads g
      have hF9 := z_free (wc := kT cI cB cZ oT Tcells Tgap Twires Tstands) hw hA [6, 7, 8] rfl
      refine va_calli (va_runV (As := [.int (zI (Pheads g))]) (rest := []) ⟨hx, hb, hml, hown, hts⟩ (c_X6_minutesAt l D cI cB cZ oT H.size Tcells Tgap Twires Tstands (Pheads g) (by omega) (by omega) qTwires qTstands (by omega)) (cwV 1 hts gX3_arrive_X6_minutesAt rfl rfl rfl (by decide +kernel) ⟨Nat.le_of_ble_eq_true rfl, Nat.le_of_ble_eq_true rfl⟩) ⟨zPre_blind, va_recv hK hw.1 (ci := 6) (q0 := 6) rfl rfl, z_pre hK hw [6, 7, 8] (by decide) rfl⟩ rfl rfl hl.1 rfl (lv_room (Nat.le_of_ble_eq_true rfl)) dX3_arrive_54 ⟨Nat.zero_le _, Nat.zero_le _⟩) hw.2.2 (fun q _ h => hF9 q h) hF9 (fun r9 u9 t9 H_163 locs9 ht9 hvm9 hq9 hB9 hz9 hk9 hS9 => ?_)
      obtain ⟨r_164, rfl⟩ : ∃ z, z = u9 := ⟨_, rfl⟩
      try dsimp only at hq9 hB9
      obtain ⟨rfl, hq9⟩ := hq9
      obtain ⟨hq_165, hq_166⟩ := hq9
      have hw : HW D A s.heap (kG cI cB cZ oG Gn Gki Gle Glo Gta Gsh ++ kT cI cB cZ oT Tcells Tgap Twires Tstands ++ kP cI cB cZ oP (oG 0) (oT 0) Pline Psize Pnow Pheads Pbusy (uZ Pcame g Pnow) (uZ Pout g Pnow)) H_163 locs9 := z_after (wc := kT cI cB cZ oT Tcells Tgap Twires Tstands) hw [6, 7, 8] [0, 1, 2, 3, 4, 5, 9, 10, 11, 12, 13, 14] rfl rfl (by decide) (by decide) hF9 hk9 ht9 hB9 hS9 [0, 1, 2, 3, 4, 5, 12, 13, 14, 6, 7, 8, 9, 10, 11] (by decide) rfl
      clear hF9 ht9 hvm9 hB9 hz9 hk9 hS9
      refine lv_istore_n (lv' := [(2, .int (zI r_164)), (0, .ref (oP 0)), (1, .int (zI g))]) hx hb dX3_arrive_57 rfl hl (by decide) rfl (fun ls hl => ?_)
      refine lv_aload_n hx hb dX3_arrive_58 rfl (lv_at hl 1 rfl) ?_
      refine va_get (D := D) (ci := 3) (v := .ref (oG 0)) (C := RX3) (T := TX3) (N := 9) hx hb hts hinX3 hown hK hw.1 9 rfl rfl 0 (by decide) (hts (.fieldLink RX3 34 "CarnivalRoad$Parade" "guests" "LCarnivalRoad$Guests;") (by decide +kernel)) (fun _ h9 => h9) rfl dX3_arrive_59 ?_
      refine va_get (D := D) (ci := 2) (v := .ref (oG 1)) (C := RX2) (T := TX2) (N := 6) hx hb hts hinX2 hown hK hw.1 0 rfl rfl 1 (by decide) (hts (.fieldLink RX3 72 "CarnivalRoad$Guests" "kinds" "[I") (by decide +kernel)) (fun _ h9 => h9) rfl dX3_arrive_62 ?_
      refine lv_iload_n hx hb dX3_arrive_65 rfl (lv_at hl 2 rfl) ?_
      have hi_167 : (0 : Int) ≤ g ∧ g < ((8 : Nat) : Int) := by
        first | assumption | omega | grind
      refine z_iald (n := 8) (f := Gki) hx hb hK hw 1 rfl (by decide) hi_167 dX3_arrive_66 ?_
      have hq_168 : 0 ≤ Gki g ∧ Gki g ≤ 4 := qGki g
      refine z_iconst hx hb dX3_arrive_67 ?_
      refine z_icmp_ne (tgt := 89) hx hb dX3_arrive_68 (by decide) (by omega) (fun hc_169 => ?_) (fun hc_169 => ?_)
      · skip
        refine z_iconst hx hb dX3_arrive_89 ?_
        refine lv_istore_n (lv' := [(3, .int (zI 0)), (2, .int (zI r_164)), (0, .ref (oP 0)), (1, .int (zI g))]) hx hb dX3_arrive_90 rfl hl (by decide) rfl (fun ls hl => ?_)
        refine lv_aload_n hx hb dX3_arrive_91 rfl (lv_at hl 2 rfl) ?_
        refine va_get (D := D) (ci := 3) (v := .ref (oP 3)) (C := RX3) (T := TX3) (N := 9) hx hb hts hinX3 hown hK hw.1 9 rfl rfl 6 (by decide) (hts (.fieldLink RX3 25 "CarnivalRoad$Parade" "busy" "[I") (by decide +kernel)) (fun _ h9 => h9) rfl dX3_arrive_92 ?_
        refine lv_iload_n hx hb dX3_arrive_95 rfl (lv_at hl 3 rfl) ?_
        refine lv_aload_n hx hb dX3_arrive_96 rfl (lv_at hl 2 rfl) ?_
        refine va_get (D := D) (ci := 3) (v := .ref (oG 0)) (C := RX3) (T := TX3) (N := 9) hx hb hts hinX3 hown hK hw.1 9 rfl rfl 0 (by decide) (hts (.fieldLink RX3 34 "CarnivalRoad$Parade" "guests" "LCarnivalRoad$Guests;") (by decide +kernel)) (fun _ h9 => h9) rfl dX3_arrive_97 ?_
        refine va_get (D := D) (ci := 2) (v := .ref (oG 1)) (C := RX2) (T := TX2) (N := 6) hx hb hts hinX2 hown hK hw.1 0 rfl rfl 1 (by decide) (hts (.fieldLink RX3 72 "CarnivalRoad$Guests" "kinds" "[I") (by decide +kernel)) (fun _ h9 => h9) rfl dX3_arrive_100 ?_
        refine lv_iload_n hx hb dX3_arrive_103 rfl (lv_at hl 3 rfl) ?_
        have hi_170 : (0 : Int) ≤ g ∧ g < ((8 : Nat) : Int) := by
          first | assumption | omega | grind
        refine z_iald (n := 8) (f := Gki) hx hb hK hw 1 rfl (by decide) hi_170 dX3_arrive_104 ?_
        have hq_171 : 0 ≤ Gki g ∧ Gki g ≤ 4 := qGki g
        refine z_iconst hx hb dX3_arrive_105 ?_
        refine z_icmp_ne (tgt := 115) hx hb dX3_arrive_106 (by decide) (by omega) (fun hc_172 => ?_) (fun hc_172 => ?_)
        · skip
          refine lv_iload_n hx hb dX3_arrive_115 rfl (lv_at hl 1 rfl) ?_
          refine lv_iload_n hx hb dX3_arrive_116 rfl (lv_at hl 0 rfl) ?_
          refine z_iadd hx hb dX3_arrive_117 ?_
          have hi_173 : (0 : Int) ≤ g ∧ g < ((8 : Nat) : Int) := by
            first | assumption | omega | grind
          have hv_174 : (0 : Int) ≤ (r_164 + 0) ∧ (r_164 + 0) ≤ 30 := by
            first | assumption | omega | grind
          have hR_175 : RA (uZ Pbusy g (r_164 + 0)) (0) 30 := RA_up qPbusy hv_174
          refine z_iast (n := 8) (f := Pbusy) (ws2 := kG cI cB cZ oG Gn Gki Gle Glo Gta Gsh ++ kT cI cB cZ oT Tcells Tgap Twires Tstands ++ kP cI cB cZ oP (oG 0) (oT 0) Pline Psize Pnow Pheads (uZ Pbusy g (r_164 + 0)) (uZ Pcame g Pnow) (uZ Pout g Pnow)) hx hb hK hw 12 rfl (by decide) hi_173 dX3_arrive_118 rfl (fun H locs hw => ?_)
          have hv_176 : (Pheads, (uZ Pbusy g (r_164 + 0)), (uZ Pcame g Pnow), (uZ Pout g Pnow)) = arrF Gki Gle Tcells Tstands Pnow g (Pheads, Pbusy, Pcame, Pout) := by
            unfold arrF
            dsimp only
            refine Prod.ext rfl (Prod.ext ?_ (Prod.ext ?_ ?_)) <;> dsimp only
            · congr 1; unfold busyF; (try subst_vars); split <;> split <;> omega
            · first | (rw [if_pos (by omega)]; done) | (rw [if_neg (by omega)]; done)
            · first | (rw [if_pos (by omega)]; done) | (rw [if_neg (by omega)]; done)
          exact W.vret hx hb hr (fun t9 ht hW => ⟨⟨((uZ Pbusy g (r_164 + 0)), (uZ Pcame g Pnow), (uZ Pout g Pnow)), rfl, ⟨hR_175, hR_106, hR_160, hv_176⟩, by subst hAe; exact z_end hK hw ht hW⟩, by subst hAe; exact hw.2.2.F ht⟩) (by subst hAe; exact hw.2.2.2.2) dX3_arrive_119
        · skip
          refine z_iconst hx hb dX3_arrive_109 ?_
          refine lv_iload_n hx hb dX3_arrive_110 rfl (lv_at hl 1 rfl) ?_
          refine z_imul hx hb dX3_arrive_111 ?_
          refine lv_goto (tgt := 116) hx hb dX3_arrive_112 (by decide) ?_
          refine lv_iload_n hx hb dX3_arrive_116 rfl (lv_at hl 0 rfl) ?_
          refine z_iadd hx hb dX3_arrive_117 ?_
          have hi_177 : (0 : Int) ≤ g ∧ g < ((8 : Nat) : Int) := by
            first | assumption | omega | grind
          have hv_178 : (0 : Int) ≤ ((2 * r_164) + 0) ∧ ((2 * r_164) + 0) ≤ 30 := by
            first | assumption | omega | grind
          have hR_179 : RA (uZ Pbusy g ((2 * r_164) + 0)) (0) 30 := RA_up qPbusy hv_178
          refine z_iast (n := 8) (f := Pbusy) (ws2 := kG cI cB cZ oG Gn Gki Gle Glo Gta Gsh ++ kT cI cB cZ oT Tcells Tgap Twires Tstands ++ kP cI cB cZ oP (oG 0) (oT 0) Pline Psize Pnow Pheads (uZ Pbusy g ((2 * r_164) + 0)) (uZ Pcame g Pnow) (uZ Pout g Pnow)) hx hb hK hw 12 rfl (by decide) hi_177 dX3_arrive_118 rfl (fun H locs hw => ?_)
          have hv_180 : (Pheads, (uZ Pbusy g ((2 * r_164) + 0)), (uZ Pcame g Pnow), (uZ Pout g Pnow)) = arrF Gki Gle Tcells Tstands Pnow g (Pheads, Pbusy, Pcame, Pout) := by
            unfold arrF
            dsimp only
            refine Prod.ext rfl (Prod.ext ?_ (Prod.ext ?_ ?_)) <;> dsimp only
            · congr 1; unfold busyF; (try subst_vars); split <;> split <;> omega
            · first | (rw [if_pos (by omega)]; done) | (rw [if_neg (by omega)]; done)
            · first | (rw [if_pos (by omega)]; done) | (rw [if_neg (by omega)]; done)
          exact W.vret hx hb hr (fun t9 ht hW => ⟨⟨((uZ Pbusy g ((2 * r_164) + 0)), (uZ Pcame g Pnow), (uZ Pout g Pnow)), rfl, ⟨hR_179, hR_106, hR_160, hv_180⟩, by subst hAe; exact z_end hK hw ht hW⟩, by subst hAe; exact hw.2.2.F ht⟩) (by subst hAe; exact hw.2.2.2.2) dX3_arrive_119
      · skip
        refine lv_aload_n hx hb dX3_arrive_71 rfl (lv_at hl 1 rfl) ?_
        refine va_get (D := D) (ci := 3) (v := .ref (oP 2)) (C := RX3) (T := TX3) (N := 9) hx hb hts hinX3 hown hK hw.1 9 rfl rfl 5 (by decide) (hts (.fieldLink RX3 22 "CarnivalRoad$Parade" "heads" "[I") (by decide +kernel)) (fun _ h9 => h9) rfl dX3_arrive_72 ?_
        refine lv_iload_n hx hb dX3_arrive_75 rfl (lv_at hl 2 rfl) ?_
        have hi_181 : (0 : Int) ≤ g ∧ g < ((8 : Nat) : Int) := by
          first | assumption | omega | grind
        refine z_iald (n := 8) (f := Pheads) hx hb hK hw 11 rfl (by decide) hi_181 dX3_arrive_76 ?_
        have hq_182 : -1 ≤ Pheads g ∧ Pheads g ≤ 60 := qPheads g
        refine z_iconst hx hb dX3_arrive_77 ?_
        refine z_iadd hx hb dX3_arrive_78 ?_
        refine z_bipush hx hb dX3_arrive_79 (by decide) ?_
        have hbit_183 : zI ((Pheads g) + 1) - zI ((Pheads g) + 1) / zI 10 * zI 10 = zI (((Pheads g) + 1) % (10 : Int)) := by
          exact z_rem (by omega) (by omega)
        refine lv_irem hx hb dX3_arrive_81 (fun q => by have q2 := (zI_eq (by omega) (by omega)).mp (show zI 10 = zI 0 from q); omega) ?_
        rw [hbit_183]
        clear hbit_183
        refine z_if_ne (tgt := 89) hx hb dX3_arrive_82 (by decide) (by omega) (fun hc_184 => ?_) (fun hc_184 => ?_)
        · skip
          refine z_iconst hx hb dX3_arrive_89 ?_
          refine lv_istore_n (lv' := [(3, .int (zI 0)), (2, .int (zI r_164)), (0, .ref (oP 0)), (1, .int (zI g))]) hx hb dX3_arrive_90 rfl hl (by decide) rfl (fun ls hl => ?_)
          refine lv_aload_n hx hb dX3_arrive_91 rfl (lv_at hl 2 rfl) ?_
          refine va_get (D := D) (ci := 3) (v := .ref (oP 3)) (C := RX3) (T := TX3) (N := 9) hx hb hts hinX3 hown hK hw.1 9 rfl rfl 6 (by decide) (hts (.fieldLink RX3 25 "CarnivalRoad$Parade" "busy" "[I") (by decide +kernel)) (fun _ h9 => h9) rfl dX3_arrive_92 ?_
          refine lv_iload_n hx hb dX3_arrive_95 rfl (lv_at hl 3 rfl) ?_
          refine lv_aload_n hx hb dX3_arrive_96 rfl (lv_at hl 2 rfl) ?_
          refine va_get (D := D) (ci := 3) (v := .ref (oG 0)) (C := RX3) (T := TX3) (N := 9) hx hb hts hinX3 hown hK hw.1 9 rfl rfl 0 (by decide) (hts (.fieldLink RX3 34 "CarnivalRoad$Parade" "guests" "LCarnivalRoad$Guests;") (by decide +kernel)) (fun _ h9 => h9) rfl dX3_arrive_97 ?_
          refine va_get (D := D) (ci := 2) (v := .ref (oG 1)) (C := RX2) (T := TX2) (N := 6) hx hb hts hinX2 hown hK hw.1 0 rfl rfl 1 (by decide) (hts (.fieldLink RX3 72 "CarnivalRoad$Guests" "kinds" "[I") (by decide +kernel)) (fun _ h9 => h9) rfl dX3_arrive_100 ?_
          refine lv_iload_n hx hb dX3_arrive_103 rfl (lv_at hl 3 rfl) ?_
          have hi_185 : (0 : Int) ≤ g ∧ g < ((8 : Nat) : Int) := by
            first | assumption | omega | grind
          refine z_iald (n := 8) (f := Gki) hx hb hK hw 1 rfl (by decide) hi_185 dX3_arrive_104 ?_
          have hq_186 : 0 ≤ Gki g ∧ Gki g ≤ 4 := qGki g
          refine z_iconst hx hb dX3_arrive_105 ?_
          refine z_icmp_ne (tgt := 115) hx hb dX3_arrive_106 (by decide) (by omega) (fun hc_187 => ?_) (fun hc_187 => ?_)
          · skip
            refine lv_iload_n hx hb dX3_arrive_115 rfl (lv_at hl 1 rfl) ?_
            refine lv_iload_n hx hb dX3_arrive_116 rfl (lv_at hl 0 rfl) ?_
            refine z_iadd hx hb dX3_arrive_117 ?_
            have hi_188 : (0 : Int) ≤ g ∧ g < ((8 : Nat) : Int) := by
              first | assumption | omega | grind
            have hv_189 : (0 : Int) ≤ (r_164 + 0) ∧ (r_164 + 0) ≤ 30 := by
              first | assumption | omega | grind
            have hR_190 : RA (uZ Pbusy g (r_164 + 0)) (0) 30 := RA_up qPbusy hv_189
            refine z_iast (n := 8) (f := Pbusy) (ws2 := kG cI cB cZ oG Gn Gki Gle Glo Gta Gsh ++ kT cI cB cZ oT Tcells Tgap Twires Tstands ++ kP cI cB cZ oP (oG 0) (oT 0) Pline Psize Pnow Pheads (uZ Pbusy g (r_164 + 0)) (uZ Pcame g Pnow) (uZ Pout g Pnow)) hx hb hK hw 12 rfl (by decide) hi_188 dX3_arrive_118 rfl (fun H locs hw => ?_)
            have hv_191 : (Pheads, (uZ Pbusy g (r_164 + 0)), (uZ Pcame g Pnow), (uZ Pout g Pnow)) = arrF Gki Gle Tcells Tstands Pnow g (Pheads, Pbusy, Pcame, Pout) := by
              unfold arrF
              dsimp only
              refine Prod.ext rfl (Prod.ext ?_ (Prod.ext ?_ ?_)) <;> dsimp only
              · congr 1; unfold busyF; (try subst_vars); split <;> split <;> omega
              · first | (rw [if_pos (by omega)]; done) | (rw [if_neg (by omega)]; done)
              · first | (rw [if_pos (by omega)]; done) | (rw [if_neg (by omega)]; done)
            exact W.vret hx hb hr (fun t9 ht hW => ⟨⟨((uZ Pbusy g (r_164 + 0)), (uZ Pcame g Pnow), (uZ Pout g Pnow)), rfl, ⟨hR_190, hR_106, hR_160, hv_191⟩, by subst hAe; exact z_end hK hw ht hW⟩, by subst hAe; exact hw.2.2.F ht⟩) (by subst hAe; exact hw.2.2.2.2) dX3_arrive_119
          · skip
            refine z_iconst hx hb dX3_arrive_109 ?_
            refine lv_iload_n hx hb dX3_arrive_110 rfl (lv_at hl 1 rfl) ?_
            refine z_imul hx hb dX3_arrive_111 ?_
            refine lv_goto (tgt := 116) hx hb dX3_arrive_112 (by decide) ?_
            refine lv_iload_n hx hb dX3_arrive_116 rfl (lv_at hl 0 rfl) ?_
            refine z_iadd hx hb dX3_arrive_117 ?_
            have hi_192 : (0 : Int) ≤ g ∧ g < ((8 : Nat) : Int) := by
              first | assumption | omega | grind
            have hv_193 : (0 : Int) ≤ ((2 * r_164) + 0) ∧ ((2 * r_164) + 0) ≤ 30 := by
              first | assumption | omega | grind
            have hR_194 : RA (uZ Pbusy g ((2 * r_164) + 0)) (0) 30 := RA_up qPbusy hv_193
            refine z_iast (n := 8) (f := Pbusy) (ws2 := kG cI cB cZ oG Gn Gki Gle Glo Gta Gsh ++ kT cI cB cZ oT Tcells Tgap Twires Tstands ++ kP cI cB cZ oP (oG 0) (oT 0) Pline Psize Pnow Pheads (uZ Pbusy g ((2 * r_164) + 0)) (uZ Pcame g Pnow) (uZ Pout g Pnow)) hx hb hK hw 12 rfl (by decide) hi_192 dX3_arrive_118 rfl (fun H locs hw => ?_)
            have hv_195 : (Pheads, (uZ Pbusy g ((2 * r_164) + 0)), (uZ Pcame g Pnow), (uZ Pout g Pnow)) = arrF Gki Gle Tcells Tstands Pnow g (Pheads, Pbusy, Pcame, Pout) := by
              unfold arrF
              dsimp only
              refine Prod.ext rfl (Prod.ext ?_ (Prod.ext ?_ ?_)) <;> dsimp only
              · congr 1; unfold busyF; (try subst_vars); split <;> split <;> omega
              · first | (rw [if_pos (by omega)]; done) | (rw [if_neg (by omega)]; done)
              · first | (rw [if_pos (by omega)]; done) | (rw [if_neg (by omega)]; done)
            exact W.vret hx hb hr (fun t9 ht hW => ⟨⟨((uZ Pbusy g ((2 * r_164) + 0)), (uZ Pcame g Pnow), (uZ Pout g Pnow)), rfl, ⟨hR_194, hR_106, hR_160, hv_195⟩, by subst hAe; exact z_end hK hw ht hW⟩, by subst hAe; exact hw.2.2.F ht⟩) (by subst hAe; exact hw.2.2.2.2) dX3_arrive_119
        · skip
          refine z_iconst hx hb dX3_arrive_85 ?_
          refine lv_goto (tgt := 90) hx hb dX3_arrive_86 (by decide) ?_
          refine lv_istore_n (lv' := [(3, .int (zI 3)), (2, .int (zI r_164)), (0, .ref (oP 0)), (1, .int (zI g))]) hx hb dX3_arrive_90 rfl hl (by decide) rfl (fun ls hl => ?_)
          refine lv_aload_n hx hb dX3_arrive_91 rfl (lv_at hl 2 rfl) ?_
          refine va_get (D := D) (ci := 3) (v := .ref (oP 3)) (C := RX3) (T := TX3) (N := 9) hx hb hts hinX3 hown hK hw.1 9 rfl rfl 6 (by decide) (hts (.fieldLink RX3 25 "CarnivalRoad$Parade" "busy" "[I") (by decide +kernel)) (fun _ h9 => h9) rfl dX3_arrive_92 ?_
          refine lv_iload_n hx hb dX3_arrive_95 rfl (lv_at hl 3 rfl) ?_
          refine lv_aload_n hx hb dX3_arrive_96 rfl (lv_at hl 2 rfl) ?_
          refine va_get (D := D) (ci := 3) (v := .ref (oG 0)) (C := RX3) (T := TX3) (N := 9) hx hb hts hinX3 hown hK hw.1 9 rfl rfl 0 (by decide) (hts (.fieldLink RX3 34 "CarnivalRoad$Parade" "guests" "LCarnivalRoad$Guests;") (by decide +kernel)) (fun _ h9 => h9) rfl dX3_arrive_97 ?_
          refine va_get (D := D) (ci := 2) (v := .ref (oG 1)) (C := RX2) (T := TX2) (N := 6) hx hb hts hinX2 hown hK hw.1 0 rfl rfl 1 (by decide) (hts (.fieldLink RX3 72 "CarnivalRoad$Guests" "kinds" "[I") (by decide +kernel)) (fun _ h9 => h9) rfl dX3_arrive_100 ?_
          refine lv_iload_n hx hb dX3_arrive_103 rfl (lv_at hl 3 rfl) ?_
          have hi_196 : (0 : Int) ≤ g ∧ g < ((8 : Nat) : Int) := by
            first | assumption | omega | grind
          refine z_iald (n := 8) (f := Gki) hx hb hK hw 1 rfl (by decide) hi_196 dX3_arrive_104 ?_
          have hq_197 : 0 ≤ Gki g ∧ Gki g ≤ 4 := qGki g
          refine z_iconst hx hb dX3_arrive_105 ?_
          refine z_icmp_ne (tgt := 115) hx hb dX3_arrive_106 (by decide) (by omega) (fun hc_198 => ?_) (fun hc_198 => ?_)
          · skip
            refine lv_iload_n hx hb dX3_arrive_115 rfl (lv_at hl 1 rfl) ?_
            refine lv_iload_n hx hb dX3_arrive_116 rfl (lv_at hl 0 rfl) ?_
            refine z_iadd hx hb dX3_arrive_117 ?_
            have hi_199 : (0 : Int) ≤ g ∧ g < ((8 : Nat) : Int) := by
              first | assumption | omega | grind
            have hv_200 : (0 : Int) ≤ (r_164 + 3) ∧ (r_164 + 3) ≤ 30 := by
              first | assumption | omega | grind
            have hR_201 : RA (uZ Pbusy g (r_164 + 3)) (0) 30 := RA_up qPbusy hv_200
            refine z_iast (n := 8) (f := Pbusy) (ws2 := kG cI cB cZ oG Gn Gki Gle Glo Gta Gsh ++ kT cI cB cZ oT Tcells Tgap Twires Tstands ++ kP cI cB cZ oP (oG 0) (oT 0) Pline Psize Pnow Pheads (uZ Pbusy g (r_164 + 3)) (uZ Pcame g Pnow) (uZ Pout g Pnow)) hx hb hK hw 12 rfl (by decide) hi_199 dX3_arrive_118 rfl (fun H locs hw => ?_)
            have hv_202 : (Pheads, (uZ Pbusy g (r_164 + 3)), (uZ Pcame g Pnow), (uZ Pout g Pnow)) = arrF Gki Gle Tcells Tstands Pnow g (Pheads, Pbusy, Pcame, Pout) := by
              unfold arrF
              dsimp only
              refine Prod.ext rfl (Prod.ext ?_ (Prod.ext ?_ ?_)) <;> dsimp only
              · congr 1; unfold busyF; (try subst_vars); split <;> split <;> omega
              · first | (rw [if_pos (by omega)]; done) | (rw [if_neg (by omega)]; done)
              · first | (rw [if_pos (by omega)]; done) | (rw [if_neg (by omega)]; done)
            exact W.vret hx hb hr (fun t9 ht hW => ⟨⟨((uZ Pbusy g (r_164 + 3)), (uZ Pcame g Pnow), (uZ Pout g Pnow)), rfl, ⟨hR_201, hR_106, hR_160, hv_202⟩, by subst hAe; exact z_end hK hw ht hW⟩, by subst hAe; exact hw.2.2.F ht⟩) (by subst hAe; exact hw.2.2.2.2) dX3_arrive_119
          · skip
            refine z_iconst hx hb dX3_arrive_109 ?_
            refine lv_iload_n hx hb dX3_arrive_110 rfl (lv_at hl 1 rfl) ?_
            refine z_imul hx hb dX3_arrive_111 ?_
            refine lv_goto (tgt := 116) hx hb dX3_arrive_112 (by decide) ?_
            refine lv_iload_n hx hb dX3_arrive_116 rfl (lv_at hl 0 rfl) ?_
            refine z_iadd hx hb dX3_arrive_117 ?_
            have hi_203 : (0 : Int) ≤ g ∧ g < ((8 : Nat) : Int) := by
              first | assumption | omega | grind
            have hv_204 : (0 : Int) ≤ ((2 * r_164) + 3) ∧ ((2 * r_164) + 3) ≤ 30 := by
              first | assumption | omega | grind
            have hR_205 : RA (uZ Pbusy g ((2 * r_164) + 3)) (0) 30 := RA_up qPbusy hv_204
            refine z_iast (n := 8) (f := Pbusy) (ws2 := kG cI cB cZ oG Gn Gki Gle Glo Gta Gsh ++ kT cI cB cZ oT Tcells Tgap Twires Tstands ++ kP cI cB cZ oP (oG 0) (oT 0) Pline Psize Pnow Pheads (uZ Pbusy g ((2 * r_164) + 3)) (uZ Pcame g Pnow) (uZ Pout g Pnow)) hx hb hK hw 12 rfl (by decide) hi_203 dX3_arrive_118 rfl (fun H locs hw => ?_)
            have hv_206 : (Pheads, (uZ Pbusy g ((2 * r_164) + 3)), (uZ Pcame g Pnow), (uZ Pout g Pnow)) = arrF Gki Gle Tcells Tstands Pnow g (Pheads, Pbusy, Pcame, Pout) := by
              unfold arrF
              dsimp only
              refine Prod.ext rfl (Prod.ext ?_ (Prod.ext ?_ ?_)) <;> dsimp only
              · congr 1; unfold busyF; (try subst_vars); split <;> split <;> omega
              · first | (rw [if_pos (by omega)]; done) | (rw [if_neg (by omega)]; done)
              · first | (rw [if_pos (by omega)]; done) | (rw [if_neg (by omega)]; done)
            exact W.vret hx hb hr (fun t9 ht hW => ⟨⟨((uZ Pbusy g ((2 * r_164) + 3)), (uZ Pcame g Pnow), (uZ Pout g Pnow)), rfl, ⟨hR_205, hR_106, hR_160, hv_206⟩, by subst hAe; exact z_end hK hw ht hW⟩, by subst hAe; exact hw.2.2.F ht⟩) (by subst hAe; exact hw.2.2.2.2) dX3_arrive_119
set_option maxRecDepth 100000 in
set_option maxHeartbeats 4000000 in
theorem c_X3_act (l : Launch) (D : va_G) (cI cB cZ : ClassId) (oG : Nat → Nat) (oT : Nat → Nat) (oP : Nat → Nat) (sz : Nat) (Gn : Int) (Gki : Int → Int) (Gle : Int → Int) (Glo : Int → Int) (Gta : Int → Int) (Gsh : Int → Int) (Tcells : Int) (Tgap : Int) (Twires : Int → Int) (Tstands : Int → Int) (Pline : Int → Int) (Psize : Int) (Pnow : Int) (Pheads : Int → Int) (Pbusy : Int → Int) (Pcame : Int → Int) (Pout : Int → Int) (p : Int) (qGn : 0 ≤ Gn ∧ Gn ≤ 8) (qGki : RA Gki (0) 4) (qGle : RA Gle (0) 5) (qGlo : RA Glo (0) 9) (qGta : RA Gta (0) 9) (qGsh : RA Gsh (0) 9) (qTcells : 1 ≤ Tcells ∧ Tcells ≤ 50) (qTgap : 0 ≤ Tgap ∧ Tgap ≤ 3) (qTwires : RA Twires (0) 9) (qTstands : RA Tstands (0) 9) (qPline : RA Pline (0) 7) (qPsize : 0 ≤ Psize ∧ Psize ≤ 8) (qPnow : 0 ≤ Pnow ∧ Pnow ≤ 1000000) (qPheads : RA Pheads (-1) 60) (qPbusy : RA Pbusy (0) 30) (qPcame : RA Pcame (-1) 1000000) (qPout : RA Pout (-1) 1000000) (qp : 0 ≤ p ∧ p ≤ 7) (hp0 : Pheads (Pline p) ≤ 58) : Met l yX3_act wsX3_act ({ frames := 2, cells := 0, slots := 0, locals := 44 }) (va_Pc [.ref (oP 0), .int (zI p)] (zPre D cI cB cZ sz (kG cI cB cZ oG Gn Gki Gle Glo Gta Gsh ++ kT cI cB cZ oT Tcells Tgap Twires Tstands ++ kP cI cB cZ oP (oG 0) (oT 0) Pline Psize Pnow Pheads Pbusy Pcame Pout))) (va_Qv (fun (u9 : (Int → Int) × (Int → Int) × (Int → Int) × (Int → Int)) => (RA u9.1 (-1) 60) ∧ (RA u9.2.1 (0) 30) ∧ (RA u9.2.2.1 (-1) 1000000) ∧ (RA u9.2.2.2 (-1) 1000000) ∧ ((u9.1, u9.2.1, u9.2.2.1, u9.2.2.2) = actF Gki Gle Tcells Tgap Tstands Pline Pnow p (Pheads, Pbusy, Pcame, Pout))) (fun u9 t9 => zAt D cI cB cZ (va_A (kG cI cB cZ oG Gn Gki Gle Glo Gta Gsh ++ kT cI cB cZ oT Tcells Tgap Twires Tstands ++ kP cI cB cZ oP (oG 0) (oT 0) Pline Psize Pnow Pheads Pbusy Pcame Pout) sz) (kG cI cB cZ oG Gn Gki Gle Glo Gta Gsh ++ kT cI cB cZ oT Tcells Tgap Twires Tstands ++ kP cI cB cZ oP (oG 0) (oT 0) Pline Psize Pnow (u9.1) (u9.2.1) (u9.2.2.1) (u9.2.2.2)) t9) (va_A (kG cI cB cZ oG Gn Gki Gle Glo Gta Gsh ++ kT cI cB cZ oT Tcells Tgap Twires Tstands ++ kP cI cB cZ oP (oG 0) (oT 0) Pline Psize Pnow Pheads Pbusy Pcame Pout) sz)) 0 0 (va_A (kG cI cB cZ oG Gn Gki Gle Glo Gta Gsh ++ kT cI cB cZ oT Tcells Tgap Twires Tstands ++ kP cI cB cZ oP (oG 0) (oT 0) Pline Psize Pnow Pheads Pbusy Pcame Pout) sz) := by
  refine Met.ofW (cc := cX3_act) (maxL := 3) (ret := none) (by decide) rfl ?_
  intro pp ee s mm aa bw mt cd s₁ BL hml hv
  obtain ⟨rfl, hsz, hP, hK, hD0⟩ := hv
  have hx := BL.exec
  have hb := BL.bytes
  have hr := BL.returns
  have hts := atoms_spec (ws := wsX3_act) BL.pre
  have hown : s.vm.findClass RX3 = some mm.cls := findClass_of_methodNamed BL.named
  have hlocks := BL.notSynchronized
  subst hsz
  generalize hAe : va_A (kG cI cB cZ oG Gn Gki Gle Glo Gta Gsh ++ kT cI cB cZ oT Tcells Tgap Twires Tstands ++ kP cI cB cZ oP (oG 0) (oT 0) Pline Psize Pnow Pheads Pbusy Pcame Pout) s.heap.size = A
  have hA : ∀ q : Nat, s.heap.size ≤ q → A q := fun q h => by rw [← hAe]; exact Or.inr h
  have hw : HW D A s.heap (kG cI cB cZ oG Gn Gki Gle Glo Gta Gsh ++ kT cI cB cZ oT Tcells Tgap Twires Tstands ++ kP cI cB cZ oP (oG 0) (oT 0) Pline Psize Pnow Pheads Pbusy Pcame Pout) s.heap [] := z_start hAe hP hD0
  clear hP hD0
  have hl := lv_entry ([.ref (oP 0), .int (zI p)]) (n := 3) (Nat.le_of_ble_eq_true rfl)
  rw [lg_entry_eq]
  generalize (lg_sl ([.ref (oP 0), .int (zI p)]) ++ List.replicate (3 - (lg_sl ([.ref (oP 0), .int (zI p)])).length) Slot.unset).toArray = ls at hl ⊢
  have hl : lv_has ls 3 [(0, .ref (oP 0)), (1, .int (zI p))] := hl
  have hinX2 : ∀ w ∈ wsX20, w ∈ wsX3_act := by decide +kernel
  have hinX3 : ∀ w ∈ wsX30, w ∈ wsX3_act := by decide +kernel
  refine lv_aload_n hx hb dX3_act_0 rfl (lv_at hl 0 rfl) ?_
  refine va_get (D := D) (ci := 3) (v := .ref (oP 1)) (C := RX3) (T := TX3) (N := 9) hx hb hts hinX3 hown hK hw.1 9 rfl rfl 2 (by decide) (hts (.fieldLink RX3 9 "CarnivalRoad$Parade" "line" "[I") (by decide +kernel)) (fun _ h9 => h9) rfl dX3_act_1 ?_
  refine lv_iload_n hx hb dX3_act_4 rfl (lv_at hl 1 rfl) ?_
  have hi_1 : (0 : Int) ≤ p ∧ p < ((8 : Nat) : Int) := by
    first | assumption | omega | grind
  refine z_iald (n := 8) (f := Pline) hx hb hK hw 10 rfl (by decide) hi_1 dX3_act_5 ?_
  have hq_2 : 0 ≤ Pline p ∧ Pline p ≤ 7 := qPline p
  refine lv_istore_n (lv' := [(2, .int (zI (Pline p))), (0, .ref (oP 0)), (1, .int (zI p))]) hx hb dX3_act_6 rfl hl (by decide) rfl (fun ls hl => ?_)
  refine lv_aload_n hx hb dX3_act_7 rfl (lv_at hl 1 rfl) ?_
  refine va_get (D := D) (ci := 3) (v := .ref (oP 3)) (C := RX3) (T := TX3) (N := 9) hx hb hts hinX3 hown hK hw.1 9 rfl rfl 6 (by decide) (hts (.fieldLink RX3 25 "CarnivalRoad$Parade" "busy" "[I") (by decide +kernel)) (fun _ h9 => h9) rfl dX3_act_8 ?_
  refine lv_iload_n hx hb dX3_act_11 rfl (lv_at hl 0 rfl) ?_
  have hi_3 : (0 : Int) ≤ (Pline p) ∧ (Pline p) < ((8 : Nat) : Int) := by
    first | assumption | omega | grind
  refine z_iald (n := 8) (f := Pbusy) hx hb hK hw 12 rfl (by decide) hi_3 dX3_act_12 ?_
  have hq_4 : 0 ≤ Pbusy (Pline p) ∧ Pbusy (Pline p) ≤ 30 := qPbusy (Pline p)
  refine z_if_le (tgt := 29) hx hb dX3_act_13 (by decide) (by omega) (fun hc_5 => ?_) (fun hc_5 => ?_)
  · skip
    refine lv_aload_n hx hb dX3_act_29 rfl (lv_at hl 1 rfl) ?_
    refine lv_aload_n hx hb dX3_act_30 rfl (lv_at hl 1 rfl) ?_
    refine va_get (D := D) (ci := 3) (v := .ref (oG 0)) (C := RX3) (T := TX3) (N := 9) hx hb hts hinX3 hown hK hw.1 9 rfl rfl 0 (by decide) (hts (.fieldLink RX3 34 "CarnivalRoad$Parade" "guests" "LCarnivalRoad$Guests;") (by decide +kernel)) (fun _ h9 => h9) rfl dX3_act_31 ?_
    refine va_get (D := D) (ci := 2) (v := .ref (oG 1)) (C := RX2) (T := TX2) (N := 6) hx hb hts hinX2 hown hK hw.1 0 rfl rfl 1 (by decide) (hts (.fieldLink RX3 72 "CarnivalRoad$Guests" "kinds" "[I") (by decide +kernel)) (fun _ h9 => h9) rfl dX3_act_34 ?_
    refine lv_iload_n hx hb dX3_act_37 rfl (lv_at hl 0 rfl) ?_
    have hi_6 : (0 : Int) ≤ (Pline p) ∧ (Pline p) < ((8 : Nat) : Int) := by
      first | assumption | omega | grind
    refine z_iald (n := 8) (f := Gki) hx hb hK hw 1 rfl (by decide) hi_6 dX3_act_38 ?_
    have hq_7 : 0 ≤ Gki (Pline p) ∧ Gki (Pline p) ≤ 4 := qGki (Pline p)
    have hF9 := z_free (wc := kG cI cB cZ oG Gn Gki Gle Glo Gta Gsh ++ kT cI cB cZ oT Tcells Tgap Twires Tstands ++ kP cI cB cZ oP (oG 0) (oT 0) Pline Psize Pnow Pheads Pbusy Pcame Pout) hw hA [0, 1, 2, 3, 4, 5, 6, 7, 8, 9, 10, 11, 12, 13, 14] rfl
    refine va_calli (va_runV (As := [.int (zI (Gki (Pline p)))]) (rest := []) ⟨hx, hb, hml, hown, hts⟩ (c_X3_goesNow l D cI cB cZ oG oT oP s.heap.size Gn Gki Gle Glo Gta Gsh Tcells Tgap Twires Tstands Pline Psize Pnow Pheads Pbusy Pcame Pout (Gki (Pline p)) (by omega) qGki qGle qGlo qGta qGsh (by omega) (by omega) qTwires qTstands qPline (by omega) (by omega) qPheads qPbusy qPcame qPout (by omega)) (cwV 1 hts gX3_act_X3_goesNow rfl rfl rfl (by decide +kernel) ⟨Nat.le_of_ble_eq_true rfl, Nat.le_of_ble_eq_true rfl⟩) ⟨zPre_blind, va_recv hK hw.1 (ci := 3) (q0 := 9) rfl rfl, z_pre hK hw [0, 1, 2, 3, 4, 5, 6, 7, 8, 9, 10, 11, 12, 13, 14] (by decide) rfl⟩ rfl rfl hl.1 rfl (lv_room (Nat.le_of_ble_eq_true rfl)) dX3_act_39 ⟨Nat.zero_le _, Nat.zero_le _⟩) hw.2.2 (fun q _ h => hF9 q h) hF9 (fun r9 u9 t9 H_8 locs9 ht9 hvm9 hq9 hB9 hz9 hk9 hS9 => ?_)
    obtain ⟨r_9, rfl⟩ : ∃ z, z = u9 := ⟨_, rfl⟩
    try dsimp only at hq9 hB9
    obtain ⟨rfl, hq9⟩ := hq9
    have hq_10 := hq9
    have hw : HW D A s.heap (kG cI cB cZ oG Gn Gki Gle Glo Gta Gsh ++ kT cI cB cZ oT Tcells Tgap Twires Tstands ++ kP cI cB cZ oP (oG 0) (oT 0) Pline Psize Pnow Pheads Pbusy Pcame Pout) H_8 locs9 := z_after (wc := kG cI cB cZ oG Gn Gki Gle Glo Gta Gsh ++ kT cI cB cZ oT Tcells Tgap Twires Tstands ++ kP cI cB cZ oP (oG 0) (oT 0) Pline Psize Pnow Pheads Pbusy Pcame Pout) hw [0, 1, 2, 3, 4, 5, 6, 7, 8, 9, 10, 11, 12, 13, 14] [] rfl rfl (by decide) (by decide) hF9 hk9 ht9 hB9 hS9 [0, 1, 2, 3, 4, 5, 6, 7, 8, 9, 10, 11, 12, 13, 14] (by decide) rfl
    clear hF9 ht9 hvm9 hB9 hz9 hk9 hS9 hq9
    rcases hq_10 with ⟨hc_11, rfl⟩ | ⟨hc_11, rfl⟩
    · skip
      refine z_if_eq (tgt := 68) hx hb dX3_act_42 (by decide) (by omega) (fun hc_12 => absurd hc_12 (by omega)) (fun hc_12 => ?_)
      refine lv_aload_n hx hb dX3_act_45 rfl (lv_at hl 1 rfl) ?_
      refine lv_iload_n hx hb dX3_act_46 rfl (lv_at hl 2 rfl) ?_
      have hF9 := z_free (wc := kG cI cB cZ oG Gn Gki Gle Glo Gta Gsh ++ kT cI cB cZ oT Tcells Tgap Twires Tstands ++ kP cI cB cZ oP (oG 0) (oT 0) Pline Psize Pnow Pheads Pbusy Pcame Pout) hw hA [0, 1, 2, 3, 4, 5, 6, 7, 8, 9, 10, 11, 12, 13, 14] rfl
      refine va_calli (va_runV (As := [.int (zI p)]) (rest := []) ⟨hx, hb, hml, hown, hts⟩ (c_X3_hasRoom l D cI cB cZ oG oT oP H_8.size Gn Gki Gle Glo Gta Gsh Tcells Tgap Twires Tstands Pline Psize Pnow Pheads Pbusy Pcame Pout p (by omega) qGki qGle qGlo qGta qGsh (by omega) (by omega) qTwires qTstands qPline (by omega) (by omega) qPheads qPbusy qPcame qPout (by omega)) (cwV 1 hts gX3_act_X3_hasRoom rfl rfl rfl (by decide +kernel) ⟨Nat.le_of_ble_eq_true rfl, Nat.le_of_ble_eq_true rfl⟩) ⟨zPre_blind, va_recv hK hw.1 (ci := 3) (q0 := 9) rfl rfl, z_pre hK hw [0, 1, 2, 3, 4, 5, 6, 7, 8, 9, 10, 11, 12, 13, 14] (by decide) rfl⟩ rfl rfl hl.1 rfl (lv_room (Nat.le_of_ble_eq_true rfl)) dX3_act_47 ⟨Nat.zero_le _, Nat.zero_le _⟩) hw.2.2 (fun q _ h => hF9 q h) hF9 (fun r9 u9 t9 H_13 locs9 ht9 hvm9 hq9 hB9 hz9 hk9 hS9 => ?_)
      obtain ⟨r_14, rfl⟩ : ∃ z, z = u9 := ⟨_, rfl⟩
      try dsimp only at hq9 hB9
      obtain ⟨rfl, hq9⟩ := hq9
      have hq_15 := hq9
      have hw : HW D A s.heap (kG cI cB cZ oG Gn Gki Gle Glo Gta Gsh ++ kT cI cB cZ oT Tcells Tgap Twires Tstands ++ kP cI cB cZ oP (oG 0) (oT 0) Pline Psize Pnow Pheads Pbusy Pcame Pout) H_13 locs9 := z_after (wc := kG cI cB cZ oG Gn Gki Gle Glo Gta Gsh ++ kT cI cB cZ oT Tcells Tgap Twires Tstands ++ kP cI cB cZ oP (oG 0) (oT 0) Pline Psize Pnow Pheads Pbusy Pcame Pout) hw [0, 1, 2, 3, 4, 5, 6, 7, 8, 9, 10, 11, 12, 13, 14] [] rfl rfl (by decide) (by decide) hF9 hk9 ht9 hB9 hS9 [0, 1, 2, 3, 4, 5, 6, 7, 8, 9, 10, 11, 12, 13, 14] (by decide) rfl
      clear hF9 ht9 hvm9 hB9 hz9 hk9 hS9 hq9
      rcases hq_15 with ⟨hc_16, rfl⟩ | ⟨hc_16, rfl⟩
      · skip
        refine z_if_eq (tgt := 68) hx hb dX3_act_50 (by decide) (by omega) (fun hc_17 => absurd hc_17 (by omega)) (fun hc_17 => ?_)
        refine lv_aload_n hx hb dX3_act_53 rfl (lv_at hl 1 rfl) ?_
        refine va_get (D := D) (ci := 3) (v := .ref (oP 2)) (C := RX3) (T := TX3) (N := 9) hx hb hts hinX3 hown hK hw.1 9 rfl rfl 5 (by decide) (hts (.fieldLink RX3 22 "CarnivalRoad$Parade" "heads" "[I") (by decide +kernel)) (fun _ h9 => h9) rfl dX3_act_54 ?_
        refine lv_iload_n hx hb dX3_act_57 rfl (lv_at hl 0 rfl) ?_
        refine lv_dup2_11 hx hb dX3_act_58 rfl rfl ?_
        have hi_18 : (0 : Int) ≤ (Pline p) ∧ (Pline p) < ((8 : Nat) : Int) := by
          first | assumption | omega | grind
        refine z_iald (n := 8) (f := Pheads) hx hb hK hw 11 rfl (by decide) hi_18 dX3_act_59 ?_
        have hq_19 : -1 ≤ Pheads (Pline p) ∧ Pheads (Pline p) ≤ 60 := qPheads (Pline p)
        refine z_iconst hx hb dX3_act_60 ?_
        refine z_iadd hx hb dX3_act_61 ?_
        have hi_20 : (0 : Int) ≤ (Pline p) ∧ (Pline p) < ((8 : Nat) : Int) := by
          first | assumption | omega | grind
        have hv_21 : (-1 : Int) ≤ ((Pheads (Pline p)) + 1) ∧ ((Pheads (Pline p)) + 1) ≤ 60 := by
          first | assumption | omega | grind
        have hR_22 : RA (uZ Pheads (Pline p) ((Pheads (Pline p)) + 1)) (-1) 60 := RA_up qPheads hv_21
        refine z_iast (n := 8) (f := Pheads) (ws2 := kG cI cB cZ oG Gn Gki Gle Glo Gta Gsh ++ kT cI cB cZ oT Tcells Tgap Twires Tstands ++ kP cI cB cZ oP (oG 0) (oT 0) Pline Psize Pnow (uZ Pheads (Pline p) ((Pheads (Pline p)) + 1)) Pbusy Pcame Pout) hx hb hK hw 11 rfl (by decide) hi_20 dX3_act_62 rfl (fun H locs hw => ?_)
        refine lv_aload_n hx hb dX3_act_63 rfl (lv_at hl 1 rfl) ?_
        refine lv_iload_n hx hb dX3_act_64 rfl (lv_at hl 0 rfl) ?_
        have hpre_23 : 0 ≤ (uZ Pheads (Pline p) ((Pheads (Pline p)) + 1)) (Pline p) := by
          rw [uZ_s]; omega
        have hF9 := z_free (wc := kG cI cB cZ oG Gn Gki Gle Glo Gta Gsh ++ kT cI cB cZ oT Tcells Tgap Twires Tstands ++ kP cI cB cZ oP (oG 0) (oT 0) Pline Psize Pnow (uZ Pheads (Pline p) ((Pheads (Pline p)) + 1)) Pbusy Pcame Pout) hw hA [0, 1, 2, 3, 4, 5, 6, 7, 8, 9, 10, 11, 12, 13, 14] rfl
        refine va_callv (va_runV (As := [.int (zI (Pline p))]) (rest := []) ⟨hx, hb, hml, hown, hts⟩ (c_X3_arrive l D cI cB cZ oG oT oP H.size Gn Gki Gle Glo Gta Gsh Tcells Tgap Twires Tstands Pline Psize Pnow (uZ Pheads (Pline p) ((Pheads (Pline p)) + 1)) Pbusy Pcame Pout (Pline p) (by omega) qGki qGle qGlo qGta qGsh (by omega) (by omega) qTwires qTstands qPline (by omega) (by omega) hR_22 qPbusy qPcame qPout (by omega) hpre_23) (cwV 1 hts gX3_act_X3_arrive rfl rfl rfl (by decide +kernel) ⟨Nat.le_of_ble_eq_true rfl, Nat.le_of_ble_eq_true rfl⟩) ⟨zPre_blind, va_recv hK hw.1 (ci := 3) (q0 := 9) rfl rfl, z_pre hK hw [0, 1, 2, 3, 4, 5, 6, 7, 8, 9, 10, 11, 12, 13, 14] (by decide) rfl⟩ rfl rfl hl.1 rfl (lv_room (Nat.le_of_ble_eq_true rfl)) dX3_act_65 ⟨Nat.zero_le _, Nat.zero_le _⟩) hw.2.2 (fun q _ h => hF9 q h) hF9 (fun u9 t9 H_24 locs9 ht9 hvm9 hq9 hB9 hz9 hk9 hS9 => ?_)
        obtain ⟨Pbusy_25, Pcame_26, Pout_27⟩ := u9
        try dsimp only at hq9 hB9
        obtain ⟨hq_28, hq_29, hq_30, hq_31⟩ := hq9
        have hw : HW D A s.heap (kG cI cB cZ oG Gn Gki Gle Glo Gta Gsh ++ kT cI cB cZ oT Tcells Tgap Twires Tstands ++ kP cI cB cZ oP (oG 0) (oT 0) Pline Psize Pnow (uZ Pheads (Pline p) ((Pheads (Pline p)) + 1)) Pbusy_25 Pcame_26 Pout_27) H_24 locs9 := z_after (wc := kG cI cB cZ oG Gn Gki Gle Glo Gta Gsh ++ kT cI cB cZ oT Tcells Tgap Twires Tstands ++ kP cI cB cZ oP (oG 0) (oT 0) Pline Psize Pnow (uZ Pheads (Pline p) ((Pheads (Pline p)) + 1)) Pbusy Pcame Pout) hw [0, 1, 2, 3, 4, 5, 6, 7, 8, 9, 10, 11, 12, 13, 14] [] rfl rfl (by decide) (by decide) hF9 hk9 ht9 hB9 hS9 [0, 1, 2, 3, 4, 5, 6, 7, 8, 9, 10, 11, 12, 13, 14] (by decide) rfl
        clear hF9 ht9 hvm9 hB9 hz9 hk9 hS9
        have hv_32 : ((uZ Pheads (Pline p) ((Pheads (Pline p)) + 1)), Pbusy_25, Pcame_26, Pout_27) = actF Gki Gle Tcells Tgap Tstands Pline Pnow p (Pheads, Pbusy, Pcame, Pout) := by
          unfold actF
          dsimp only
          first | (rw [if_pos (by omega)]; done) | (rw [if_neg (by omega), ifP_t ⟨by assumption, by assumption⟩]; assumption) | (rw [if_neg (by omega), ifP_f (fun q => absurd q.1 (by assumption))]; done) | (rw [if_neg (by omega), ifP_f (fun q => absurd q.2 (by assumption))]; done)
        exact W.vret hx hb hr (fun t9 ht hW => ⟨⟨((uZ Pheads (Pline p) ((Pheads (Pline p)) + 1)), Pbusy_25, Pcame_26, Pout_27), rfl, ⟨hR_22, hq_28, hq_29, hq_30, hv_32⟩, by subst hAe; exact z_end hK hw ht hW⟩, by subst hAe; exact hw.2.2.F ht⟩) (by subst hAe; exact hw.2.2.2.2) dX3_act_68
      · skip
        refine z_if_eq (tgt := 68) hx hb dX3_act_50 (by decide) (by omega) (fun hc_33 => ?_) (fun hc_33 => absurd hc_33 (by omega))
        have hv_34 : (Pheads, Pbusy, Pcame, Pout) = actF Gki Gle Tcells Tgap Tstands Pline Pnow p (Pheads, Pbusy, Pcame, Pout) := by
          unfold actF
          dsimp only
          first | (rw [if_pos (by omega)]; done) | (rw [if_neg (by omega), ifP_t ⟨by assumption, by assumption⟩]; assumption) | (rw [if_neg (by omega), ifP_f (fun q => absurd q.1 (by assumption))]; done) | (rw [if_neg (by omega), ifP_f (fun q => absurd q.2 (by assumption))]; done)
        exact W.vret hx hb hr (fun t9 ht hW => ⟨⟨(Pheads, Pbusy, Pcame, Pout), rfl, ⟨qPheads, qPbusy, qPcame, qPout, hv_34⟩, by subst hAe; exact z_end hK hw ht hW⟩, by subst hAe; exact hw.2.2.F ht⟩) (by subst hAe; exact hw.2.2.2.2) dX3_act_68
    · skip
      refine z_if_eq (tgt := 68) hx hb dX3_act_42 (by decide) (by omega) (fun hc_35 => ?_) (fun hc_35 => absurd hc_35 (by omega))
      have hv_36 : (Pheads, Pbusy, Pcame, Pout) = actF Gki Gle Tcells Tgap Tstands Pline Pnow p (Pheads, Pbusy, Pcame, Pout) := by
        unfold actF
        dsimp only
        first | (rw [if_pos (by omega)]; done) | (rw [if_neg (by omega), ifP_t ⟨by assumption, by assumption⟩]; assumption) | (rw [if_neg (by omega), ifP_f (fun q => absurd q.1 (by assumption))]; done) | (rw [if_neg (by omega), ifP_f (fun q => absurd q.2 (by assumption))]; done)
      exact W.vret hx hb hr (fun t9 ht hW => ⟨⟨(Pheads, Pbusy, Pcame, Pout), rfl, ⟨qPheads, qPbusy, qPcame, qPout, hv_36⟩, by subst hAe; exact z_end hK hw ht hW⟩, by subst hAe; exact hw.2.2.F ht⟩) (by subst hAe; exact hw.2.2.2.2) dX3_act_68
  · skip
    refine lv_aload_n hx hb dX3_act_16 rfl (lv_at hl 1 rfl) ?_
    refine va_get (D := D) (ci := 3) (v := .ref (oP 3)) (C := RX3) (T := TX3) (N := 9) hx hb hts hinX3 hown hK hw.1 9 rfl rfl 6 (by decide) (hts (.fieldLink RX3 25 "CarnivalRoad$Parade" "busy" "[I") (by decide +kernel)) (fun _ h9 => h9) rfl dX3_act_17 ?_
    refine lv_iload_n hx hb dX3_act_20 rfl (lv_at hl 0 rfl) ?_
    refine lv_dup2_11 hx hb dX3_act_21 rfl rfl ?_
    have hi_37 : (0 : Int) ≤ (Pline p) ∧ (Pline p) < ((8 : Nat) : Int) := by
      first | assumption | omega | grind
    refine z_iald (n := 8) (f := Pbusy) hx hb hK hw 12 rfl (by decide) hi_37 dX3_act_22 ?_
    have hq_38 : 0 ≤ Pbusy (Pline p) ∧ Pbusy (Pline p) ≤ 30 := qPbusy (Pline p)
    refine z_iconst hx hb dX3_act_23 ?_
    refine z_isub hx hb dX3_act_24 ?_
    have hi_39 : (0 : Int) ≤ (Pline p) ∧ (Pline p) < ((8 : Nat) : Int) := by
      first | assumption | omega | grind
    have hv_40 : (0 : Int) ≤ ((Pbusy (Pline p)) - 1) ∧ ((Pbusy (Pline p)) - 1) ≤ 30 := by
      first | assumption | omega | grind
    have hR_41 : RA (uZ Pbusy (Pline p) ((Pbusy (Pline p)) - 1)) (0) 30 := RA_up qPbusy hv_40
    refine z_iast (n := 8) (f := Pbusy) (ws2 := kG cI cB cZ oG Gn Gki Gle Glo Gta Gsh ++ kT cI cB cZ oT Tcells Tgap Twires Tstands ++ kP cI cB cZ oP (oG 0) (oT 0) Pline Psize Pnow Pheads (uZ Pbusy (Pline p) ((Pbusy (Pline p)) - 1)) Pcame Pout) hx hb hK hw 12 rfl (by decide) hi_39 dX3_act_25 rfl (fun H locs hw => ?_)
    refine lv_goto (tgt := 68) hx hb dX3_act_26 (by decide) ?_
    have hv_42 : (Pheads, (uZ Pbusy (Pline p) ((Pbusy (Pline p)) - 1)), Pcame, Pout) = actF Gki Gle Tcells Tgap Tstands Pline Pnow p (Pheads, Pbusy, Pcame, Pout) := by
      unfold actF
      dsimp only
      first | (rw [if_pos (by omega)]; done) | (rw [if_neg (by omega), ifP_t ⟨by assumption, by assumption⟩]; assumption) | (rw [if_neg (by omega), ifP_f (fun q => absurd q.1 (by assumption))]; done) | (rw [if_neg (by omega), ifP_f (fun q => absurd q.2 (by assumption))]; done)
    exact W.vret hx hb hr (fun t9 ht hW => ⟨⟨(Pheads, (uZ Pbusy (Pline p) ((Pbusy (Pline p)) - 1)), Pcame, Pout), rfl, ⟨qPheads, hR_41, qPcame, qPout, hv_42⟩, by subst hAe; exact z_end hK hw ht hW⟩, by subst hAe; exact hw.2.2.F ht⟩) (by subst hAe; exact hw.2.2.2.2) dX3_act_68
set_option maxRecDepth 100000 in
set_option maxHeartbeats 4000000 in
theorem c_X3_step (l : Launch) (D : va_G) (cI cB cZ : ClassId) (oG : Nat → Nat) (oT : Nat → Nat) (oP : Nat → Nat) (sz : Nat) (Gn : Int) (Gki : Int → Int) (Gle : Int → Int) (Glo : Int → Int) (Gta : Int → Int) (Gsh : Int → Int) (Tcells : Int) (Tgap : Int) (Twires : Int → Int) (Tstands : Int → Int) (Pline : Int → Int) (Psize : Int) (Pnow : Int) (Pheads : Int → Int) (Pbusy : Int → Int) (Pcame : Int → Int) (Pout : Int → Int) (qGn : 0 ≤ Gn ∧ Gn ≤ 8) (qGki : RA Gki (0) 4) (qGle : RA Gle (0) 5) (qGlo : RA Glo (0) 9) (qGta : RA Gta (0) 9) (qGsh : RA Gsh (0) 9) (qTcells : 1 ≤ Tcells ∧ Tcells ≤ 50) (qTgap : 0 ≤ Tgap ∧ Tgap ≤ 3) (qTwires : RA Twires (0) 9) (qTstands : RA Tstands (0) 9) (qPline : RA Pline (0) 7) (qPsize : 0 ≤ Psize ∧ Psize ≤ 8) (qPnow : 0 ≤ Pnow ∧ Pnow ≤ 1000000) (qPheads : RA Pheads (-1) 60) (qPbusy : RA Pbusy (0) 30) (qPcame : RA Pcame (-1) 1000000) (qPout : RA Pout (-1) 1000000) (hp0 : Pnow ≤ 999999) (hp1 : JP Gle Tcells Pheads Pout) : Met l yX3_step wsX3_step ({ frames := 3, cells := 0, slots := 0, locals := 66 }) (va_Pc [.ref (oP 0)] (zPre D cI cB cZ sz (kG cI cB cZ oG Gn Gki Gle Glo Gta Gsh ++ kT cI cB cZ oT Tcells Tgap Twires Tstands ++ kP cI cB cZ oP (oG 0) (oT 0) Pline Psize Pnow Pheads Pbusy Pcame Pout))) (va_Qv (fun (u9 : Int × (Int → Int) × (Int → Int) × (Int → Int) × (Int → Int)) => ((0 : Int) ≤ u9.1 ∧ u9.1 ≤ 1000000) ∧ (RA u9.2.1 (-1) 60) ∧ (RA u9.2.2.1 (0) 30) ∧ (RA u9.2.2.2.1 (-1) 1000000) ∧ (RA u9.2.2.2.2 (-1) 1000000) ∧ (u9.1 = Pnow + 1) ∧ ((u9.2.1, u9.2.2.1, u9.2.2.2.1, u9.2.2.2.2) = stepK Gki Gle Tcells Tgap Tstands Pline (Pnow + 1) Psize.toNat (Pheads, Pbusy, Pcame, Pout)) ∧ (JP Gle Tcells u9.2.1 u9.2.2.2.2)) (fun u9 t9 => zAt D cI cB cZ (va_A (kG cI cB cZ oG Gn Gki Gle Glo Gta Gsh ++ kT cI cB cZ oT Tcells Tgap Twires Tstands ++ kP cI cB cZ oP (oG 0) (oT 0) Pline Psize Pnow Pheads Pbusy Pcame Pout) sz) (kG cI cB cZ oG Gn Gki Gle Glo Gta Gsh ++ kT cI cB cZ oT Tcells Tgap Twires Tstands ++ kP cI cB cZ oP (oG 0) (oT 0) Pline Psize (u9.1) (u9.2.1) (u9.2.2.1) (u9.2.2.2.1) (u9.2.2.2.2)) t9) (va_A (kG cI cB cZ oG Gn Gki Gle Glo Gta Gsh ++ kT cI cB cZ oT Tcells Tgap Twires Tstands ++ kP cI cB cZ oP (oG 0) (oT 0) Pline Psize Pnow Pheads Pbusy Pcame Pout) sz)) 0 0 (va_A (kG cI cB cZ oG Gn Gki Gle Glo Gta Gsh ++ kT cI cB cZ oT Tcells Tgap Twires Tstands ++ kP cI cB cZ oP (oG 0) (oT 0) Pline Psize Pnow Pheads Pbusy Pcame Pout) sz) := by
  refine Met.ofW (cc := cX3_step) (maxL := 2) (ret := none) (by decide) rfl ?_
  intro pp ee s mm aa bw mt cd s₁ BL hml hv
  obtain ⟨rfl, hsz, hP, hK, hD0⟩ := hv
  have hx := BL.exec
  have hb := BL.bytes
  have hr := BL.returns
  have hts := atoms_spec (ws := wsX3_step) BL.pre
  have hown : s.vm.findClass RX3 = some mm.cls := findClass_of_methodNamed BL.named
  have hlocks := BL.notSynchronized
  subst hsz
  generalize hAe : va_A (kG cI cB cZ oG Gn Gki Gle Glo Gta Gsh ++ kT cI cB cZ oT Tcells Tgap Twires Tstands ++ kP cI cB cZ oP (oG 0) (oT 0) Pline Psize Pnow Pheads Pbusy Pcame Pout) s.heap.size = A
  have hA : ∀ q : Nat, s.heap.size ≤ q → A q := fun q h => by rw [← hAe]; exact Or.inr h
  have hw : HW D A s.heap (kG cI cB cZ oG Gn Gki Gle Glo Gta Gsh ++ kT cI cB cZ oT Tcells Tgap Twires Tstands ++ kP cI cB cZ oP (oG 0) (oT 0) Pline Psize Pnow Pheads Pbusy Pcame Pout) s.heap [] := z_start hAe hP hD0
  clear hP hD0
  have hl := lv_entry ([.ref (oP 0)]) (n := 2) (Nat.le_of_ble_eq_true rfl)
  rw [lg_entry_eq]
  generalize (lg_sl ([.ref (oP 0)]) ++ List.replicate (2 - (lg_sl ([.ref (oP 0)])).length) Slot.unset).toArray = ls at hl ⊢
  have hl : lv_has ls 2 [(0, .ref (oP 0))] := hl
  have hinX3 : ∀ w ∈ wsX30, w ∈ wsX3_step := by decide +kernel
  refine lv_aload_n hx hb dX3_step_0 rfl (lv_at hl 0 rfl) ?_
  refine lv_dup hx hb dX3_step_1 rfl ?_
  refine va_get (D := D) (ci := 3) (v := .int (zI Pnow)) (C := RX3) (T := TX3) (N := 9) hx hb hts hinX3 hown hK hw.1 9 rfl rfl 4 (by decide) (hts (.fieldLink RX3 19 "CarnivalRoad$Parade" "now" "I") (by decide +kernel)) (fun _ h9 => h9) rfl dX3_step_2 ?_
  refine z_iconst hx hb dX3_step_5 ?_
  refine z_iadd hx hb dX3_step_6 ?_
  refine z_put (D := D) (ci := 3) (v := .int (zI (Pnow + 1))) (ty := .int) (C := RX3) (T := TX3) (N := 9) (ws2 := kG cI cB cZ oG Gn Gki Gle Glo Gta Gsh ++ kT cI cB cZ oT Tcells Tgap Twires Tstands ++ kP cI cB cZ oP (oG 0) (oT 0) Pline Psize (Pnow + 1) Pheads Pbusy Pcame Pout) hx hb hts hinX3 tyX3 tyX3_ok nmX3 hown hK hw 9 rfl rfl 4 (by decide) (hts (.fieldLink RX3 19 "CarnivalRoad$Parade" "now" "I") (by decide +kernel)) (fun _ h9 => h9) rfl (by decide +kernel) rfl rfl (Nat.le_of_ble_eq_true rfl) dX3_step_7 rfl (fun H locs hw => ?_)
  refine z_iconst hx hb dX3_step_10 ?_
  refine lv_istore_n (lv' := [(1, .int (zI 0)), (0, .ref (oP 0))]) hx hb dX3_step_11 rfl hl (by decide) rfl (fun ls hl => ?_)
  have hv_1 : 0 ≤ (0 : Int) ∧ (0 : Int) ≤ Psize := by
    first | assumption | omega | grind
  have hv_2 : (Pheads, Pbusy, Pcame, Pout) = stepK Gki Gle Tcells Tgap Tstands Pline (Pnow + 1) (0 : Int).toNat (Pheads, Pbusy, Pcame, Pout) := by
    rfl
  have hv_3 : JP Gle Tcells Pheads Pout := by
    first | assumption | omega | grind
  refine z_loop (σ := Int × (Int → Int) × (Int → Int) × (Int → Int) × (Int → Int)) (μ := fun x9 => (9 - (x9.1)).toNat) (I := fun x9 H locs ls => (RA (x9.2.1) (-1) 60) ∧ (RA (x9.2.2.1) (0) 30) ∧ (RA (x9.2.2.2.1) (-1) 1000000) ∧ (RA (x9.2.2.2.2) (-1) 1000000) ∧ (0 ≤ (x9.1) ∧ (x9.1) ≤ Psize) ∧ (((x9.2.1), (x9.2.2.1), (x9.2.2.2.1), (x9.2.2.2.2)) = stepK Gki Gle Tcells Tgap Tstands Pline (Pnow + 1) (x9.1).toNat (Pheads, Pbusy, Pcame, Pout)) ∧ (JP Gle Tcells (x9.2.1) (x9.2.2.2.2)) ∧ HW D A s.heap (kG cI cB cZ oG Gn Gki Gle Glo Gta Gsh ++ kT cI cB cZ oT Tcells Tgap Twires Tstands ++ kP cI cB cZ oP (oG 0) (oT 0) Pline Psize (Pnow + 1) (x9.2.1) (x9.2.2.1) (x9.2.2.2.1) (x9.2.2.2.2)) H locs ∧ lv_has ls 2 [(0, .ref (oP 0)), (1, .int (zI (x9.1)))]) (0, Pheads, Pbusy, Pcame, Pout) ⟨qPheads, qPbusy, qPcame, qPout, hv_1, hv_2, hv_3, hw, lv_sub hl [1, 0] rfl⟩ ?_
  clear hw hl
  intro x9 H locs ls hI ih_4
  obtain ⟨i_5, Pheads_6, Pbusy_7, Pcame_8, Pout_9⟩ := x9
  try dsimp only at hI
  obtain ⟨hR_10, hR_11, hR_12, hR_13, hI_14, hI_15, hI_16, hw, hl⟩ := hI
  refine lv_iload_n hx hb dX3_step_12 rfl (lv_at hl 1 rfl) ?_
  refine lv_aload_n hx hb dX3_step_13 rfl (lv_at hl 0 rfl) ?_
  refine va_get (D := D) (ci := 3) (v := .int (zI Psize)) (C := RX3) (T := TX3) (N := 9) hx hb hts hinX3 hown hK hw.1 9 rfl rfl 3 (by decide) (hts (.fieldLink RX3 15 "CarnivalRoad$Parade" "size" "I") (by decide +kernel)) (fun _ h9 => h9) rfl dX3_step_14 ?_
  refine z_icmp_ge (tgt := 44) hx hb dX3_step_17 (by decide) (by omega) (fun hc_17 => ?_) (fun hc_17 => ?_)
  · skip
    have hv_18 : (0 : Int) ≤ (Pnow + 1) ∧ (Pnow + 1) ≤ 1000000 := by
      first | assumption | omega | grind
    have hv_19 : (Pnow + 1) = Pnow + 1 := by
      first | assumption | omega | grind
    have hv_20 : (Pheads_6, Pbusy_7, Pcame_8, Pout_9) = stepK Gki Gle Tcells Tgap Tstands Pline (Pnow + 1) Psize.toNat (Pheads, Pbusy, Pcame, Pout) := by
      rw [show Psize.toNat = i_5.toNat by omega]; assumption
    have hv_21 : JP Gle Tcells Pheads_6 Pout_9 := by
      assumption
    exact W.vret hx hb hr (fun t9 ht hW => ⟨⟨((Pnow + 1), Pheads_6, Pbusy_7, Pcame_8, Pout_9), rfl, ⟨hv_18, hR_10, hR_11, hR_12, hR_13, hv_19, hv_20, hv_21⟩, by subst hAe; exact z_end hK hw ht hW⟩, by subst hAe; exact hw.2.2.F ht⟩) (by subst hAe; exact hw.2.2.2.2) dX3_step_44
  · skip
    refine lv_aload_n hx hb dX3_step_20 rfl (lv_at hl 0 rfl) ?_
    refine lv_aload_n hx hb dX3_step_21 rfl (lv_at hl 0 rfl) ?_
    refine va_get (D := D) (ci := 3) (v := .ref (oP 1)) (C := RX3) (T := TX3) (N := 9) hx hb hts hinX3 hown hK hw.1 9 rfl rfl 2 (by decide) (hts (.fieldLink RX3 9 "CarnivalRoad$Parade" "line" "[I") (by decide +kernel)) (fun _ h9 => h9) rfl dX3_step_22 ?_
    refine lv_iload_n hx hb dX3_step_25 rfl (lv_at hl 1 rfl) ?_
    have hi_22 : (0 : Int) ≤ i_5 ∧ i_5 < ((8 : Nat) : Int) := by
      first | assumption | omega | grind
    refine z_iald (n := 8) (f := Pline) hx hb hK hw 10 rfl (by decide) hi_22 dX3_step_26 ?_
    have hq_23 : 0 ≤ Pline i_5 ∧ Pline i_5 ≤ 7 := qPline i_5
    have hF9 := z_free (wc := kG cI cB cZ oG Gn Gki Gle Glo Gta Gsh ++ kT cI cB cZ oT Tcells Tgap Twires Tstands ++ kP cI cB cZ oP (oG 0) (oT 0) Pline Psize (Pnow + 1) Pheads_6 Pbusy_7 Pcame_8 Pout_9) hw hA [0, 1, 2, 3, 4, 5, 6, 7, 8, 9, 10, 11, 12, 13, 14] rfl
    refine va_calli (va_runV (As := [.int (zI (Pline i_5))]) (rest := []) ⟨hx, hb, hml, hown, hts⟩ (c_X3_isOut l D cI cB cZ oG oT oP H.size Gn Gki Gle Glo Gta Gsh Tcells Tgap Twires Tstands Pline Psize (Pnow + 1) Pheads_6 Pbusy_7 Pcame_8 Pout_9 (Pline i_5) (by omega) qGki qGle qGlo qGta qGsh (by omega) (by omega) qTwires qTstands qPline (by omega) (by omega) hR_10 hR_11 hR_12 hR_13 (by omega)) (cwV 1 hts gX3_step_X3_isOut rfl rfl rfl (by decide +kernel) ⟨Nat.le_of_ble_eq_true rfl, Nat.le_of_ble_eq_true rfl⟩) ⟨zPre_blind, va_recv hK hw.1 (ci := 3) (q0 := 9) rfl rfl, z_pre hK hw [0, 1, 2, 3, 4, 5, 6, 7, 8, 9, 10, 11, 12, 13, 14] (by decide) rfl⟩ rfl rfl hl.1 rfl (lv_room (Nat.le_of_ble_eq_true rfl)) dX3_step_27 ⟨Nat.zero_le _, Nat.zero_le _⟩) hw.2.2 (fun q _ h => hF9 q h) hF9 (fun r9 u9 t9 H_24 locs9 ht9 hvm9 hq9 hB9 hz9 hk9 hS9 => ?_)
    obtain ⟨r_25, rfl⟩ : ∃ z, z = u9 := ⟨_, rfl⟩
    try dsimp only at hq9 hB9
    obtain ⟨rfl, hq9⟩ := hq9
    have hq_26 := hq9
    have hw : HW D A s.heap (kG cI cB cZ oG Gn Gki Gle Glo Gta Gsh ++ kT cI cB cZ oT Tcells Tgap Twires Tstands ++ kP cI cB cZ oP (oG 0) (oT 0) Pline Psize (Pnow + 1) Pheads_6 Pbusy_7 Pcame_8 Pout_9) H_24 locs9 := z_after (wc := kG cI cB cZ oG Gn Gki Gle Glo Gta Gsh ++ kT cI cB cZ oT Tcells Tgap Twires Tstands ++ kP cI cB cZ oP (oG 0) (oT 0) Pline Psize (Pnow + 1) Pheads_6 Pbusy_7 Pcame_8 Pout_9) hw [0, 1, 2, 3, 4, 5, 6, 7, 8, 9, 10, 11, 12, 13, 14] [] rfl rfl (by decide) (by decide) hF9 hk9 ht9 hB9 hS9 [0, 1, 2, 3, 4, 5, 6, 7, 8, 9, 10, 11, 12, 13, 14] (by decide) rfl
    clear hF9 ht9 hvm9 hB9 hz9 hk9 hS9 hq9
    rcases hq_26 with ⟨hc_27, rfl⟩ | ⟨hc_27, rfl⟩
    · skip
      refine z_if_ne (tgt := 38) hx hb dX3_step_30 (by decide) (by omega) (fun hc_28 => ?_) (fun hc_28 => absurd hc_28 (by omega))
      refine z_iinc (k := 1) (lv' := [(1, .int (zI (i_5 + 1))), (0, .ref (oP 0))]) hx hb dX3_step_38 hl rfl (by decide) rfl (fun ls hl => ?_)
      refine lv_goto (tgt := 12) hx hb dX3_step_41 (by decide) ?_
      have hv_29 : 0 ≤ (i_5 + 1) ∧ (i_5 + 1) ≤ Psize := by
        first | assumption | omega | grind
      have hv_30 : (Pheads_6, Pbusy_7, Pcame_8, Pout_9) = stepK Gki Gle Tcells Tgap Tstands Pline (Pnow + 1) (i_5 + 1).toNat (Pheads, Pbusy, Pcame, Pout) := by
        first | exact step_act (by omega) (by assumption) (by omega) (by assumption) | exact step_no (by omega) (by assumption) (by assumption)
      have hv_31 : JP Gle Tcells Pheads_6 Pout_9 := by
        first | assumption | exact JP_act (by assumption) (by assumption) (by omega)
      have hm_32 : (9 - (i_5 + 1)).toNat < (9 - i_5).toNat := by
        first | assumption | omega | grind
      exact ih_4 ((i_5 + 1), Pheads_6, Pbusy_7, Pcame_8, Pout_9) _ _ _ ⟨hR_10, hR_11, hR_12, hR_13, hv_29, hv_30, hv_31, hw, lv_sub hl [1, 0] rfl⟩ hm_32
    · skip
      refine z_if_ne (tgt := 38) hx hb dX3_step_30 (by decide) (by omega) (fun hc_33 => absurd hc_33 (by omega)) (fun hc_33 => ?_)
      refine lv_aload_n hx hb dX3_step_33 rfl (lv_at hl 0 rfl) ?_
      refine lv_iload_n hx hb dX3_step_34 rfl (lv_at hl 1 rfl) ?_
      have hpre_34 : Pheads_6 (Pline i_5) ≤ 58 := by
        have q9 : 0 ≤ Gle (Pline i_5) ∧ Gle (Pline i_5) ≤ 5 := qGle _
        have q := (by assumption : JP Gle Tcells Pheads_6 Pout_9) (Pline i_5) (by omega) (by omega) (by omega)
        omega
      have hF9 := z_free (wc := kG cI cB cZ oG Gn Gki Gle Glo Gta Gsh ++ kT cI cB cZ oT Tcells Tgap Twires Tstands ++ kP cI cB cZ oP (oG 0) (oT 0) Pline Psize (Pnow + 1) Pheads_6 Pbusy_7 Pcame_8 Pout_9) hw hA [0, 1, 2, 3, 4, 5, 6, 7, 8, 9, 10, 11, 12, 13, 14] rfl
      refine va_callv (va_runV (As := [.int (zI i_5)]) (rest := []) ⟨hx, hb, hml, hown, hts⟩ (c_X3_act l D cI cB cZ oG oT oP H_24.size Gn Gki Gle Glo Gta Gsh Tcells Tgap Twires Tstands Pline Psize (Pnow + 1) Pheads_6 Pbusy_7 Pcame_8 Pout_9 i_5 (by omega) qGki qGle qGlo qGta qGsh (by omega) (by omega) qTwires qTstands qPline (by omega) (by omega) hR_10 hR_11 hR_12 hR_13 (by omega) hpre_34) (cwV 1 hts gX3_step_X3_act rfl rfl rfl (by decide +kernel) ⟨Nat.le_of_ble_eq_true rfl, Nat.le_of_ble_eq_true rfl⟩) ⟨zPre_blind, va_recv hK hw.1 (ci := 3) (q0 := 9) rfl rfl, z_pre hK hw [0, 1, 2, 3, 4, 5, 6, 7, 8, 9, 10, 11, 12, 13, 14] (by decide) rfl⟩ rfl rfl hl.1 rfl (lv_room (Nat.le_of_ble_eq_true rfl)) dX3_step_35 ⟨Nat.zero_le _, Nat.zero_le _⟩) hw.2.2 (fun q _ h => hF9 q h) hF9 (fun u9 t9 H_35 locs9 ht9 hvm9 hq9 hB9 hz9 hk9 hS9 => ?_)
      obtain ⟨Pheads_36, Pbusy_37, Pcame_38, Pout_39⟩ := u9
      try dsimp only at hq9 hB9
      obtain ⟨hq_40, hq_41, hq_42, hq_43, hq_44⟩ := hq9
      have hw : HW D A s.heap (kG cI cB cZ oG Gn Gki Gle Glo Gta Gsh ++ kT cI cB cZ oT Tcells Tgap Twires Tstands ++ kP cI cB cZ oP (oG 0) (oT 0) Pline Psize (Pnow + 1) Pheads_36 Pbusy_37 Pcame_38 Pout_39) H_35 locs9 := z_after (wc := kG cI cB cZ oG Gn Gki Gle Glo Gta Gsh ++ kT cI cB cZ oT Tcells Tgap Twires Tstands ++ kP cI cB cZ oP (oG 0) (oT 0) Pline Psize (Pnow + 1) Pheads_6 Pbusy_7 Pcame_8 Pout_9) hw [0, 1, 2, 3, 4, 5, 6, 7, 8, 9, 10, 11, 12, 13, 14] [] rfl rfl (by decide) (by decide) hF9 hk9 ht9 hB9 hS9 [0, 1, 2, 3, 4, 5, 6, 7, 8, 9, 10, 11, 12, 13, 14] (by decide) rfl
      clear hF9 ht9 hvm9 hB9 hz9 hk9 hS9
      refine z_iinc (k := 1) (lv' := [(1, .int (zI (i_5 + 1))), (0, .ref (oP 0))]) hx hb dX3_step_38 hl rfl (by decide) rfl (fun ls hl => ?_)
      refine lv_goto (tgt := 12) hx hb dX3_step_41 (by decide) ?_
      have hv_45 : 0 ≤ (i_5 + 1) ∧ (i_5 + 1) ≤ Psize := by
        first | assumption | omega | grind
      have hv_46 : (Pheads_36, Pbusy_37, Pcame_38, Pout_39) = stepK Gki Gle Tcells Tgap Tstands Pline (Pnow + 1) (i_5 + 1).toNat (Pheads, Pbusy, Pcame, Pout) := by
        first | exact step_act (by omega) (by assumption) (by omega) (by assumption) | exact step_no (by omega) (by assumption) (by assumption)
      have hv_47 : JP Gle Tcells Pheads_36 Pout_39 := by
        first | assumption | exact JP_act (by assumption) (by assumption) (by omega)
      have hm_48 : (9 - (i_5 + 1)).toNat < (9 - i_5).toNat := by
        first | assumption | omega | grind
      exact ih_4 ((i_5 + 1), Pheads_36, Pbusy_37, Pcame_38, Pout_39) _ _ _ ⟨hq_40, hq_41, hq_42, hq_43, hv_45, hv_46, hv_47, hw, lv_sub hl [1, 0] rfl⟩ hm_48
