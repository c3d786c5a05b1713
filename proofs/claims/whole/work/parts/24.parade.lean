set_option maxRecDepth 100000 in
set_option maxHeartbeats 4000000 in
theorem c_X3_isOnRoad (l : Launch) (D : va_G) (cI cB cZ : ClassId) (oG : Nat → Nat) (oT : Nat → Nat) (oP : Nat → Nat) (sz : Nat) (Gn : Int) (Gki : Int → Int) (Gle : Int → Int) (Glo : Int → Int) (Gta : Int → Int) (Gsh : Int → Int) (Tcells : Int) (Tgap : Int) (Twires : Int → Int) (Tstands : Int → Int) (Pline : Int → Int) (Psize : Int) (Pnow : Int) (Pheads : Int → Int) (Pbusy : Int → Int) (Pcame : Int → Int) (Pout : Int → Int) (g : Int) (qGn : 0 ≤ Gn ∧ Gn ≤ 8) (qGki : RA Gki (0) 4) (qGle : RA Gle (0) 5) (qGlo : RA Glo (0) 9) (qGta : RA Gta (0) 9) (qGsh : RA Gsh (0) 9) (qTcells : 1 ≤ Tcells ∧ Tcells ≤ 50) (qTgap : 0 ≤ Tgap ∧ Tgap ≤ 3) (qTwires : RA Twires (0) 9) (qTstands : RA Tstands (0) 9) (qPline : RA Pline (0) 7) (qPsize : 0 ≤ Psize ∧ Psize ≤ 8) (qPnow : 0 ≤ Pnow ∧ Pnow ≤ 1000000) (qPheads : RA Pheads (-1) 60) (qPbusy : RA Pbusy (0) 30) (qPcame : RA Pcame (-1) 1000000) (qPout : RA Pout (-1) 1000000) (qg : 0 ≤ g ∧ g ≤ 7) : Met l yX3_isOnRoad wsX3_isOnRoad ({ frames := 1, cells := 0, slots := 0, locals := 21 }) (va_Pc [.ref (oP 0), .int (zI g)] (zPre D cI cB cZ sz (kG cI cB cZ oG Gn Gki Gle Glo Gta Gsh ++ kT cI cB cZ oT Tcells Tgap Twires Tstands ++ kP cI cB cZ oP (oG 0) (oT 0) Pline Psize Pnow Pheads Pbusy Pcame Pout))) (va_Qi (fun (r9 : Int32) (u9 : Int) => r9 = zI u9 ∧ (((onP Pheads Pout g ∧ u9 = 1) ∨ (¬ onP Pheads Pout g ∧ u9 = 0)))) (fun u9 t9 => zAt D cI cB cZ (va_A (kG cI cB cZ oG Gn Gki Gle Glo Gta Gsh ++ kT cI cB cZ oT Tcells Tgap Twires Tstands ++ kP cI cB cZ oP (oG 0) (oT 0) Pline Psize Pnow Pheads Pbusy Pcame Pout) sz) (kG cI cB cZ oG Gn Gki Gle Glo Gta Gsh ++ kT cI cB cZ oT Tcells Tgap Twires Tstands ++ kP cI cB cZ oP (oG 0) (oT 0) Pline Psize Pnow Pheads Pbusy Pcame Pout) t9) (va_A (kG cI cB cZ oG Gn Gki Gle Glo Gta Gsh ++ kT cI cB cZ oT Tcells Tgap Twires Tstands ++ kP cI cB cZ oP (oG 0) (oT 0) Pline Psize Pnow Pheads Pbusy Pcame Pout) sz)) 0 0 (va_A (kG cI cB cZ oG Gn Gki Gle Glo Gta Gsh ++ kT cI cB cZ oT Tcells Tgap Twires Tstands ++ kP cI cB cZ oP (oG 0) (oT 0) Pline Psize Pnow Pheads Pbusy Pcame Pout) sz) := by
  refine Met.ofW (cc := cX3_isOnRoad) (maxL := 2) (ret := (some .boolean)) (by decide) rfl ?_
  intro pp ee s mm aa bw mt cd s₁ BL hml hv
  obtain ⟨rfl, hsz, hP, hK, hD0⟩ := hv
  have hx := BL.exec
  have hb := BL.bytes
  have hr := BL.returns
  have hts := atoms_spec (ws := wsX3_isOnRoad) BL.pre
  have hown : s.vm.findClass RX3 = some mm.cls := findClass_of_methodNamed BL.named
  have hlocks := BL.notSynchronized
  subst hsz
  generalize hAe : va_A (kG cI cB cZ oG Gn Gki Gle Glo Gta Gsh ++ kT cI cB cZ oT Tcells Tgap Twires Tstands ++ kP cI cB cZ oP (oG 0) (oT 0) Pline Psize Pnow Pheads Pbusy Pcame Pout) s.heap.size = A
  have hA : ∀ q : Nat, s.heap.size ≤ q → A q := fun q h => by rw [← hAe]; exact Or.inr h
  have hw : HW D A s.heap (kG cI cB cZ oG Gn Gki Gle Glo Gta Gsh ++ kT cI cB cZ oT Tcells Tgap Twires Tstands ++ kP cI cB cZ oP (oG 0) (oT 0) Pline Psize Pnow Pheads Pbusy Pcame Pout) s.heap [] := z_start hAe hP hD0
  clear hP hD0
  have hl := lv_entry ([.ref (oP 0), .int (zI g)]) (n := 2) (Nat.le_of_ble_eq_true rfl)
  rw [lg_entry_eq]
  generalize (lg_sl ([.ref (oP 0), .int (zI g)]) ++ List.replicate (2 - (lg_sl ([.ref (oP 0), .int (zI g)])).length) Slot.unset).toArray = ls at hl ⊢
  have hl : lv_has ls 2 [(0, .ref (oP 0)), (1, .int (zI g))] := hl
  have hinX3 : ∀ w ∈ wsX30, w ∈ wsX3_isOnRoad := by decide +kernel
  refine lv_aload_n hx hb dX3_isOnRoad_0 rfl (lv_at hl 0 rfl) ?_
  refine va_get (D := D) (ci := 3) (v := .ref (oP 2)) (C := RX3) (T := TX3) (N := 9) hx hb hts hinX3 hown hK hw.1 9 rfl rfl 5 (by decide) (hts (.fieldLink RX3 22 "CarnivalRoad$Parade" "heads" "[I") (by decide +kernel)) (fun _ h9 => h9) rfl dX3_isOnRoad_1 ?_
  refine lv_iload_n hx hb dX3_isOnRoad_4 rfl (lv_at hl 1 rfl) ?_
  have hi_1 : (0 : Int) ≤ g ∧ g < ((8 : Nat) : Int) := by
    first | assumption | omega | grind
  refine z_iald (n := 8) (f := Pheads) hx hb hK hw 11 rfl (by decide) hi_1 dX3_isOnRoad_5 ?_
  have hq_2 : -1 ≤ Pheads g ∧ Pheads g ≤ 60 := qPheads g
  refine z_if_lt (tgt := 21) hx hb dX3_isOnRoad_6 (by decide) (by omega) (fun hc_3 => ?_) (fun hc_3 => ?_)
  · skip
    refine z_iconst hx hb dX3_isOnRoad_21 ?_
    have hv_4 : (onP Pheads Pout g ∧ (0 : Int) = 1) ∨ (¬ onP Pheads Pout g ∧ (0 : Int) = 0) := by
      unfold onP; omega
    exact W.zret (v := zI 0) hx hb hr rfl (fun t9 ht hW => ⟨⟨zI 0, 0, rfl, ⟨rfl, hv_4⟩, by subst hAe; exact z_end hK hw ht hW⟩, by subst hAe; exact hw.2.2.F ht⟩) (by subst hAe; exact hw.2.2.2.2) dX3_isOnRoad_22
  · skip
    refine lv_aload_n hx hb dX3_isOnRoad_9 rfl (lv_at hl 0 rfl) ?_
    refine lv_iload_n hx hb dX3_isOnRoad_10 rfl (lv_at hl 1 rfl) ?_
    have hF9 := z_free (wc := kG cI cB cZ oG Gn Gki Gle Glo Gta Gsh ++ kT cI cB cZ oT Tcells Tgap Twires Tstands ++ kP cI cB cZ oP (oG 0) (oT 0) Pline Psize Pnow Pheads Pbusy Pcame Pout) hw hA [0, 1, 2, 3, 4, 5, 6, 7, 8, 9, 10, 11, 12, 13, 14] rfl
    refine va_calli (va_runV (As := [.int (zI g)]) (rest := []) ⟨hx, hb, hml, hown, hts⟩ (c_X3_isOut l D cI cB cZ oG oT oP s.heap.size Gn Gki Gle Glo Gta Gsh Tcells Tgap Twires Tstands Pline Psize Pnow Pheads Pbusy Pcame Pout g (by omega) qGki qGle qGlo qGta qGsh (by omega) (by omega) qTwires qTstands qPline (by omega) (by omega) qPheads qPbusy qPcame qPout (by omega)) (cwV 1 hts gX3_isOnRoad_X3_isOut rfl rfl rfl (by decide +kernel) ⟨Nat.le_of_ble_eq_true rfl, Nat.le_of_ble_eq_true rfl⟩) ⟨zPre_blind, va_recv hK hw.1 (ci := 3) (q0 := 9) rfl rfl, z_pre hK hw [0, 1, 2, 3, 4, 5, 6, 7, 8, 9, 10, 11, 12, 13, 14] (by decide) rfl⟩ rfl rfl hl.1 rfl (lv_room (Nat.le_of_ble_eq_true rfl)) dX3_isOnRoad_11 ⟨Nat.zero_le _, Nat.zero_le _⟩) hw.2.2 (fun q _ h => hF9 q h) hF9 (fun r9 u9 t9 H_5 locs9 ht9 hvm9 hq9 hB9 hz9 hk9 hS9 => ?_)
    obtain ⟨r_6, rfl⟩ : ∃ z, z = u9 := ⟨_, rfl⟩
    try dsimp only at hq9 hB9
    obtain ⟨rfl, hq9⟩ := hq9
    have hq_7 := hq9
    have hw : HW D A s.heap (kG cI cB cZ oG Gn Gki Gle Glo Gta Gsh ++ kT cI cB cZ oT Tcells Tgap Twires Tstands ++ kP cI cB cZ oP (oG 0) (oT 0) Pline Psize Pnow Pheads Pbusy Pcame Pout) H_5 locs9 := z_after (wc := kG cI cB cZ oG Gn Gki Gle Glo Gta Gsh ++ kT cI cB cZ oT Tcells Tgap Twires Tstands ++ kP cI cB cZ oP (oG 0) (oT 0) Pline Psize Pnow Pheads Pbusy Pcame Pout) hw [0, 1, 2, 3, 4, 5, 6, 7, 8, 9, 10, 11, 12, 13, 14] [] rfl rfl (by decide) (by decide) hF9 hk9 ht9 hB9 hS9 [0, 1, 2, 3, 4, 5, 6, 7, 8, 9, 10, 11, 12, 13, 14] (by decide) rfl
    clear hF9 ht9 hvm9 hB9 hz9 hk9 hS9 hq9
    rcases hq_7 with ⟨hc_8, rfl⟩ | ⟨hc_8, rfl⟩
    · skip
      refine z_if_ne (tgt := 21) hx hb dX3_isOnRoad_14 (by decide) (by omega) (fun hc_9 => ?_) (fun hc_9 => absurd hc_9 (by omega))
      refine z_iconst hx hb dX3_isOnRoad_21 ?_
      have hv_10 : (onP Pheads Pout g ∧ (0 : Int) = 1) ∨ (¬ onP Pheads Pout g ∧ (0 : Int) = 0) := by
        unfold onP; omega
      exact W.zret (v := zI 0) hx hb hr rfl (fun t9 ht hW => ⟨⟨zI 0, 0, rfl, ⟨rfl, hv_10⟩, by subst hAe; exact z_end hK hw ht hW⟩, by subst hAe; exact hw.2.2.F ht⟩) (by subst hAe; exact hw.2.2.2.2) dX3_isOnRoad_22
    · skip
      refine z_if_ne (tgt := 21) hx hb dX3_isOnRoad_14 (by decide) (by omega) (fun hc_11 => absurd hc_11 (by omega)) (fun hc_11 => ?_)
      refine z_iconst hx hb dX3_isOnRoad_17 ?_
      refine lv_goto (tgt := 22) hx hb dX3_isOnRoad_18 (by decide) ?_
      have hv_12 : (onP Pheads Pout g ∧ (1 : Int) = 1) ∨ (¬ onP Pheads Pout g ∧ (1 : Int) = 0) := by
        unfold onP; omega
      exact W.zret (v := zI 1) hx hb hr rfl (fun t9 ht hW => ⟨⟨zI 1, 1, rfl, ⟨rfl, hv_12⟩, by subst hAe; exact z_end hK hw ht hW⟩, by subst hAe; exact hw.2.2.F ht⟩) (by subst hAe; exact hw.2.2.2.2) dX3_isOnRoad_22
set_option maxRecDepth 100000 in
set_option maxHeartbeats 4000000 in
theorem c_X3_stateOf (l : Launch) (D : va_G) (cI cB cZ : ClassId) (oG : Nat → Nat) (oT : Nat → Nat) (oP : Nat → Nat) (sz : Nat) (Gn : Int) (Gki : Int → Int) (Gle : Int → Int) (Glo : Int → Int) (Gta : Int → Int) (Gsh : Int → Int) (Tcells : Int) (Tgap : Int) (Twires : Int → Int) (Tstands : Int → Int) (Pline : Int → Int) (Psize : Int) (Pnow : Int) (Pheads : Int → Int) (Pbusy : Int → Int) (Pcame : Int → Int) (Pout : Int → Int) (g : Int) (qGn : 0 ≤ Gn ∧ Gn ≤ 8) (qGki : RA Gki (0) 4) (qGle : RA Gle (0) 5) (qGlo : RA Glo (0) 9) (qGta : RA Gta (0) 9) (qGsh : RA Gsh (0) 9) (qTcells : 1 ≤ Tcells ∧ Tcells ≤ 50) (qTgap : 0 ≤ Tgap ∧ Tgap ≤ 3) (qTwires : RA Twires (0) 9) (qTstands : RA Tstands (0) 9) (qPline : RA Pline (0) 7) (qPsize : 0 ≤ Psize ∧ Psize ≤ 8) (qPnow : 0 ≤ Pnow ∧ Pnow ≤ 1000000) (qPheads : RA Pheads (-1) 60) (qPbusy : RA Pbusy (0) 30) (qPcame : RA Pcame (-1) 1000000) (qPout : RA Pout (-1) 1000000) (qg : 0 ≤ g ∧ g ≤ 7) : Met l yX3_stateOf wsX3_stateOf ({ frames := 1, cells := 0, slots := 0, locals := 21 }) (va_Pc [.ref (oP 0), .int (zI g)] (zPre D cI cB cZ sz (kG cI cB cZ oG Gn Gki Gle Glo Gta Gsh ++ kT cI cB cZ oT Tcells Tgap Twires Tstands ++ kP cI cB cZ oP (oG 0) (oT 0) Pline Psize Pnow Pheads Pbusy Pcame Pout))) (va_Qi (fun (r9 : Int32) (u9 : Int) => r9 = zI u9 ∧ ((u9 = stF (Pheads g) (Pbusy g) (Pout g)))) (fun u9 t9 => zAt D cI cB cZ (va_A (kG cI cB cZ oG Gn Gki Gle Glo Gta Gsh ++ kT cI cB cZ oT Tcells Tgap Twires Tstands ++ kP cI cB cZ oP (oG 0) (oT 0) Pline Psize Pnow Pheads Pbusy Pcame Pout) sz) (kG cI cB cZ oG Gn Gki Gle Glo Gta Gsh ++ kT cI cB cZ oT Tcells Tgap Twires Tstands ++ kP cI cB cZ oP (oG 0) (oT 0) Pline Psize Pnow Pheads Pbusy Pcame Pout) t9) (va_A (kG cI cB cZ oG Gn Gki Gle Glo Gta Gsh ++ kT cI cB cZ oT Tcells Tgap Twires Tstands ++ kP cI cB cZ oP (oG 0) (oT 0) Pline Psize Pnow Pheads Pbusy Pcame Pout) sz)) 0 0 (va_A (kG cI cB cZ oG Gn Gki Gle Glo Gta Gsh ++ kT cI cB cZ oT Tcells Tgap Twires Tstands ++ kP cI cB cZ oP (oG 0) (oT 0) Pline Psize Pnow Pheads Pbusy Pcame Pout) sz) := by
  refine Met.ofW (cc := cX3_stateOf) (maxL := 2) (ret := (some .int)) (by decide) rfl ?_
  intro pp ee s mm aa bw mt cd s₁ BL hml hv
  obtain ⟨rfl, hsz, hP, hK, hD0⟩ := hv
  have hx := BL.exec
  have hb := BL.bytes
  have hr := BL.returns
  have hts := atoms_spec (ws := wsX3_stateOf) BL.pre
  have hown : s.vm.findClass RX3 = some mm.cls := findClass_of_methodNamed BL.named
  have hlocks := BL.notSynchronized
  subst hsz
  generalize hAe : va_A (kG cI cB cZ oG Gn Gki Gle Glo Gta Gsh ++ kT cI cB cZ oT Tcells Tgap Twires Tstands ++ kP cI cB cZ oP (oG 0) (oT 0) Pline Psize Pnow Pheads Pbusy Pcame Pout) s.heap.size = A
  have hA : ∀ q : Nat, s.heap.size ≤ q → A q := fun q h => by rw [← hAe]; exact Or.inr h
  have hw : HW D A s.heap (kG cI cB cZ oG Gn Gki Gle Glo Gta Gsh ++ kT cI cB cZ oT Tcells Tgap Twires Tstands ++ kP cI cB cZ oP (oG 0) (oT 0) Pline Psize Pnow Pheads Pbusy Pcame Pout) s.heap [] := z_start hAe hP hD0
  clear hP hD0
  have hl := lv_entry ([.ref (oP 0), .int (zI g)]) (n := 2) (Nat.le_of_ble_eq_true rfl)
  rw [lg_entry_eq]
  generalize (lg_sl ([.ref (oP 0), .int (zI g)]) ++ List.replicate (2 - (lg_sl ([.ref (oP 0), .int (zI g)])).length) Slot.unset).toArray = ls at hl ⊢
  have hl : lv_has ls 2 [(0, .ref (oP 0)), (1, .int (zI g))] := hl
  have hinX3 : ∀ w ∈ wsX30, w ∈ wsX3_stateOf := by decide +kernel
  refine lv_aload_n hx hb dX3_stateOf_0 rfl (lv_at hl 0 rfl) ?_
  refine lv_iload_n hx hb dX3_stateOf_1 rfl (lv_at hl 1 rfl) ?_
  have hF9 := z_free (wc := kG cI cB cZ oG Gn Gki Gle Glo Gta Gsh ++ kT cI cB cZ oT Tcells Tgap Twires Tstands ++ kP cI cB cZ oP (oG 0) (oT 0) Pline Psize Pnow Pheads Pbusy Pcame Pout) hw hA [0, 1, 2, 3, 4, 5, 6, 7, 8, 9, 10, 11, 12, 13, 14] rfl
  refine va_calli (va_runV (As := [.int (zI g)]) (rest := []) ⟨hx, hb, hml, hown, hts⟩ (c_X3_isOut l D cI cB cZ oG oT oP s.heap.size Gn Gki Gle Glo Gta Gsh Tcells Tgap Twires Tstands Pline Psize Pnow Pheads Pbusy Pcame Pout g (by omega) qGki qGle qGlo qGta qGsh (by omega) (by omega) qTwires qTstands qPline (by omega) (by omega) qPheads qPbusy qPcame qPout (by omega)) (cwV 1 hts gX3_stateOf_X3_isOut rfl rfl rfl (by decide +kernel) ⟨Nat.le_of_ble_eq_true rfl, Nat.le_of_ble_eq_true rfl⟩) ⟨zPre_blind, va_recv hK hw.1 (ci := 3) (q0 := 9) rfl rfl, z_pre hK hw [0, 1, 2, 3, 4, 5, 6, 7, 8, 9, 10, 11, 12, 13, 14] (by decide) rfl⟩ rfl rfl hl.1 rfl (lv_room (Nat.le_of_ble_eq_true rfl)) dX3_stateOf_2 ⟨Nat.zero_le _, Nat.zero_le _⟩) hw.2.2 (fun q _ h => hF9 q h) hF9 (fun r9 u9 t9 H_1 locs9 ht9 hvm9 hq9 hB9 hz9 hk9 hS9 => ?_)
  obtain ⟨r_2, rfl⟩ : ∃ z, z = u9 := ⟨_, rfl⟩
  try dsimp only at hq9 hB9
  obtain ⟨rfl, hq9⟩ := hq9
  have hq_3 := hq9
  have hw : HW D A s.heap (kG cI cB cZ oG Gn Gki Gle Glo Gta Gsh ++ kT cI cB cZ oT Tcells Tgap Twires Tstands ++ kP cI cB cZ oP (oG 0) (oT 0) Pline Psize Pnow Pheads Pbusy Pcame Pout) H_1 locs9 := z_after (wc := kG cI cB cZ oG Gn Gki Gle Glo Gta Gsh ++ kT cI cB cZ oT Tcells Tgap Twires Tstands ++ kP cI cB cZ oP (oG 0) (oT 0) Pline Psize Pnow Pheads Pbusy Pcame Pout) hw [0, 1, 2, 3, 4, 5, 6, 7, 8, 9, 10, 11, 12, 13, 14] [] rfl rfl (by decide) (by decide) hF9 hk9 ht9 hB9 hS9 [0, 1, 2, 3, 4, 5, 6, 7, 8, 9, 10, 11, 12, 13, 14] (by decide) rfl
  clear hF9 ht9 hvm9 hB9 hz9 hk9 hS9 hq9
  rcases hq_3 with ⟨hc_4, rfl⟩ | ⟨hc_4, rfl⟩
  · skip
    refine z_if_eq (tgt := 10) hx hb dX3_stateOf_5 (by decide) (by omega) (fun hc_5 => absurd hc_5 (by omega)) (fun hc_5 => ?_)
    refine z_iconst hx hb dX3_stateOf_8 ?_
    have hv_6 : (3 : Int) = stF (Pheads g) (Pbusy g) (Pout g) := by
      unfold stF
      (repeat' split) <;> omega
    exact W.iret (v := zI 3) hx hb hr (fun t9 ht hW => ⟨⟨zI 3, 3, rfl, ⟨rfl, hv_6⟩, by subst hAe; exact z_end hK hw ht hW⟩, by subst hAe; exact hw.2.2.F ht⟩) (by subst hAe; exact hw.2.2.2.2) dX3_stateOf_9
  · skip
    refine z_if_eq (tgt := 10) hx hb dX3_stateOf_5 (by decide) (by omega) (fun hc_7 => ?_) (fun hc_7 => absurd hc_7 (by omega))
    refine lv_aload_n hx hb dX3_stateOf_10 rfl (lv_at hl 0 rfl) ?_
    refine va_get (D := D) (ci := 3) (v := .ref (oP 2)) (C := RX3) (T := TX3) (N := 9) hx hb hts hinX3 hown hK hw.1 9 rfl rfl 5 (by decide) (hts (.fieldLink RX3 22 "CarnivalRoad$Parade" "heads" "[I") (by decide +kernel)) (fun _ h9 => h9) rfl dX3_stateOf_11 ?_
    refine lv_iload_n hx hb dX3_stateOf_14 rfl (lv_at hl 1 rfl) ?_
    have hi_8 : (0 : Int) ≤ g ∧ g < ((8 : Nat) : Int) := by
      first | assumption | omega | grind
    refine z_iald (n := 8) (f := Pheads) hx hb hK hw 11 rfl (by decide) hi_8 dX3_stateOf_15 ?_
    have hq_9 : -1 ≤ Pheads g ∧ Pheads g ≤ 60 := qPheads g
    refine z_if_ge (tgt := 21) hx hb dX3_stateOf_16 (by decide) (by omega) (fun hc_10 => ?_) (fun hc_10 => ?_)
    · skip
      refine lv_aload_n hx hb dX3_stateOf_21 rfl (lv_at hl 0 rfl) ?_
      refine va_get (D := D) (ci := 3) (v := .ref (oP 3)) (C := RX3) (T := TX3) (N := 9) hx hb hts hinX3 hown hK hw.1 9 rfl rfl 6 (by decide) (hts (.fieldLink RX3 25 "CarnivalRoad$Parade" "busy" "[I") (by decide +kernel)) (fun _ h9 => h9) rfl dX3_stateOf_22 ?_
      refine lv_iload_n hx hb dX3_stateOf_25 rfl (lv_at hl 1 rfl) ?_
      have hi_11 : (0 : Int) ≤ g ∧ g < ((8 : Nat) : Int) := by
        first | assumption | omega | grind
      refine z_iald (n := 8) (f := Pbusy) hx hb hK hw 12 rfl (by decide) hi_11 dX3_stateOf_26 ?_
      have hq_12 : 0 ≤ Pbusy g ∧ Pbusy g ≤ 30 := qPbusy g
      refine z_if_le (tgt := 34) hx hb dX3_stateOf_27 (by decide) (by omega) (fun hc_13 => ?_) (fun hc_13 => ?_)
      · skip
        refine z_iconst hx hb dX3_stateOf_34 ?_
        have hv_14 : (1 : Int) = stF (Pheads g) (Pbusy g) (Pout g) := by
          unfold stF
          (repeat' split) <;> omega
        exact W.iret (v := zI 1) hx hb hr (fun t9 ht hW => ⟨⟨zI 1, 1, rfl, ⟨rfl, hv_14⟩, by subst hAe; exact z_end hK hw ht hW⟩, by subst hAe; exact hw.2.2.F ht⟩) (by subst hAe; exact hw.2.2.2.2) dX3_stateOf_35
      · skip
        refine z_iconst hx hb dX3_stateOf_30 ?_
        refine lv_goto (tgt := 35) hx hb dX3_stateOf_31 (by decide) ?_
        have hv_15 : (2 : Int) = stF (Pheads g) (Pbusy g) (Pout g) := by
          unfold stF
          (repeat' split) <;> omega
        exact W.iret (v := zI 2) hx hb hr (fun t9 ht hW => ⟨⟨zI 2, 2, rfl, ⟨rfl, hv_15⟩, by subst hAe; exact z_end hK hw ht hW⟩, by subst hAe; exact hw.2.2.F ht⟩) (by subst hAe; exact hw.2.2.2.2) dX3_stateOf_35
    · skip
      refine z_iconst hx hb dX3_stateOf_19 ?_
      have hv_16 : (0 : Int) = stF (Pheads g) (Pbusy g) (Pout g) := by
        unfold stF
        (repeat' split) <;> omega
      exact W.iret (v := zI 0) hx hb hr (fun t9 ht hW => ⟨⟨zI 0, 0, rfl, ⟨rfl, hv_16⟩, by subst hAe; exact z_end hK hw ht hW⟩, by subst hAe; exact hw.2.2.F ht⟩) (by subst hAe; exact hw.2.2.2.2) dX3_stateOf_20
set_option maxRecDepth 100000 in
set_option maxHeartbeats 4000000 in
theorem c_X3_allWait (l : Launch) (D : va_G) (cI cB cZ : ClassId) (oG : Nat → Nat) (oT : Nat → Nat) (oP : Nat → Nat) (sz : Nat) (Gn : Int) (Gki : Int → Int) (Gle : Int → Int) (Glo : Int → Int) (Gta : Int → Int) (Gsh : Int → Int) (Tcells : Int) (Tgap : Int) (Twires : Int → Int) (Tstands : Int → Int) (Pline : Int → Int) (Psize : Int) (Pnow : Int) (Pheads : Int → Int) (Pbusy : Int → Int) (Pcame : Int → Int) (Pout : Int → Int) (qGn : 0 ≤ Gn ∧ Gn ≤ 8) (qGki : RA Gki (0) 4) (qGle : RA Gle (0) 5) (qGlo : RA Glo (0) 9) (qGta : RA Gta (0) 9) (qGsh : RA Gsh (0) 9) (qTcells : 1 ≤ Tcells ∧ Tcells ≤ 50) (qTgap : 0 ≤ Tgap ∧ Tgap ≤ 3) (qTwires : RA Twires (0) 9) (qTstands : RA Tstands (0) 9) (qPline : RA Pline (0) 7) (qPsize : 0 ≤ Psize ∧ Psize ≤ 8) (qPnow : 0 ≤ Pnow ∧ Pnow ≤ 1000000) (qPheads : RA Pheads (-1) 60) (qPbusy : RA Pbusy (0) 30) (qPcame : RA Pcame (-1) 1000000) (qPout : RA Pout (-1) 1000000) : Met l yX3_allWait wsX3_allWait ({ frames := 0, cells := 0, slots := 0, locals := 0 }) (va_Pc [.ref (oP 0)] (zPre D cI cB cZ sz (kG cI cB cZ oG Gn Gki Gle Glo Gta Gsh ++ kT cI cB cZ oT Tcells Tgap Twires Tstands ++ kP cI cB cZ oP (oG 0) (oT 0) Pline Psize Pnow Pheads Pbusy Pcame Pout))) (va_Qv (fun (u9 : Int × (Int → Int) × (Int → Int) × (Int → Int) × (Int → Int)) => ((0 : Int) ≤ u9.1 ∧ u9.1 ≤ 1000000) ∧ (RA u9.2.1 (-1) 60) ∧ (RA u9.2.2.1 (0) 30) ∧ (RA u9.2.2.2.1 (-1) 1000000) ∧ (RA u9.2.2.2.2 (-1) 1000000) ∧ (u9.1 = 0) ∧ (∀ k, 0 ≤ k → k < 8 → u9.2.1 k = -1 ∧ u9.2.2.1 k = 0 ∧ u9.2.2.2.1 k = -1 ∧ u9.2.2.2.2 k = -1)) (fun u9 t9 => zAt D cI cB cZ (va_A (kG cI cB cZ oG Gn Gki Gle Glo Gta Gsh ++ kT cI cB cZ oT Tcells Tgap Twires Tstands ++ kP cI cB cZ oP (oG 0) (oT 0) Pline Psize Pnow Pheads Pbusy Pcame Pout) sz) (kG cI cB cZ oG Gn Gki Gle Glo Gta Gsh ++ kT cI cB cZ oT Tcells Tgap Twires Tstands ++ kP cI cB cZ oP (oG 0) (oT 0) Pline Psize (u9.1) (u9.2.1) (u9.2.2.1) (u9.2.2.2.1) (u9.2.2.2.2)) t9) (va_A (kG cI cB cZ oG Gn Gki Gle Glo Gta Gsh ++ kT cI cB cZ oT Tcells Tgap Twires Tstands ++ kP cI cB cZ oP (oG 0) (oT 0) Pline Psize Pnow Pheads Pbusy Pcame Pout) sz)) 0 0 (va_A (kG cI cB cZ oG Gn Gki Gle Glo Gta Gsh ++ kT cI cB cZ oT Tcells Tgap Twires Tstands ++ kP cI cB cZ oP (oG 0) (oT 0) Pline Psize Pnow Pheads Pbusy Pcame Pout) sz) := by
  refine Met.ofW (cc := cX3_allWait) (maxL := 2) (ret := none) (by decide) rfl ?_
  intro pp ee s mm aa bw mt cd s₁ BL hml hv
  obtain ⟨rfl, hsz, hP, hK, hD0⟩ := hv
  have hx := BL.exec
  have hb := BL.bytes
  have hr := BL.returns
  have hts := atoms_spec (ws := wsX3_allWait) BL.pre
  have hown : s.vm.findClass RX3 = some mm.cls := findClass_of_methodNamed BL.named
  have hlocks := BL.notSynchronized
  subst hsz
  generalize hAe : va_A (kG cI cB cZ oG Gn Gki Gle Glo Gta Gsh ++ kT cI cB cZ oT Tcells Tgap Twires Tstands ++ kP cI cB cZ oP (oG 0) (oT 0) Pline Psize Pnow Pheads Pbusy Pcame Pout) s.heap.size = A
  have hA : ∀ q : Nat, s.heap.size ≤ q → A q := fun q h => by rw [← hAe]; exact Or.inr h
  have hw : HW D A s.heap (kG cI cB cZ oG Gn Gki Gle Glo Gta Gsh ++ kT cI cB cZ oT Tcells Tgap Twires Tstands ++ kP cI cB cZ oP (oG 0) (oT 0) Pline Psize Pnow Pheads Pbusy Pcame Pout) s.heap [] := z_start hAe hP hD0
  clear hP hD0
  have hl := lv_entry ([.ref (oP 0)]) (n := 2) (Nat.le_of_ble_eq_true rfl)
  rw [lg_entry_eq]
  generalize (lg_sl ([.ref (oP 0)]) ++ List.replicate (2 - (lg_sl ([.ref (oP 0)])).length) Slot.unset).toArray = ls at hl ⊢
  have hl : lv_has ls 2 [(0, .ref (oP 0))] := hl
  have hinX3 : ∀ w ∈ wsX30, w ∈ wsX3_allWait := by decide +kernel
  refine lv_aload_n hx hb dX3_allWait_0 rfl (lv_at hl 0 rfl) ?_
  refine z_iconst hx hb dX3_allWait_1 ?_
  refine z_put (D := D) (ci := 3) (v := .int (zI 0)) (ty := .int) (C := RX3) (T := TX3) (N := 9) (ws2 := kG cI cB cZ oG Gn Gki Gle Glo Gta Gsh ++ kT cI cB cZ oT Tcells Tgap Twires Tstands ++ kP cI cB cZ oP (oG 0) (oT 0) Pline Psize 0 Pheads Pbusy Pcame Pout) hx hb hts hinX3 tyX3 tyX3_ok nmX3 hown hK hw 9 rfl rfl 4 (by decide) (hts (.fieldLink RX3 19 "CarnivalRoad$Parade" "now" "I") (by decide +kernel)) (fun _ h9 => h9) rfl (by decide +kernel) rfl rfl (Nat.le_of_ble_eq_true rfl) dX3_allWait_2 rfl (fun H locs hw => ?_)
  refine z_iconst hx hb dX3_allWait_5 ?_
  refine lv_istore_n (lv' := [(1, .int (zI 0)), (0, .ref (oP 0))]) hx hb dX3_allWait_6 rfl hl (by decide) rfl (fun ls hl => ?_)
  have hv_1 : 0 ≤ (0 : Int) ∧ (0 : Int) ≤ 8 := by
    first | assumption | omega | grind
  have hv_2 : ∀ k, 0 ≤ k → k < (0 : Int) → Pheads k = -1 ∧ Pbusy k = 0 ∧ Pcame k = -1 ∧ Pout k = -1 := by
    exact all_0
  refine z_loop (σ := Int × (Int → Int) × (Int → Int) × (Int → Int) × (Int → Int)) (μ := fun x9 => (8 - (x9.1)).toNat) (I := fun x9 H locs ls => (RA (x9.2.1) (-1) 60) ∧ (RA (x9.2.2.1) (0) 30) ∧ (RA (x9.2.2.2.1) (-1) 1000000) ∧ (RA (x9.2.2.2.2) (-1) 1000000) ∧ (0 ≤ (x9.1) ∧ (x9.1) ≤ 8) ∧ (∀ k, 0 ≤ k → k < (x9.1) → (x9.2.1) k = -1 ∧ (x9.2.2.1) k = 0 ∧ (x9.2.2.2.1) k = -1 ∧ (x9.2.2.2.2) k = -1) ∧ HW D A s.heap (kG cI cB cZ oG Gn Gki Gle Glo Gta Gsh ++ kT cI cB cZ oT Tcells Tgap Twires Tstands ++ kP cI cB cZ oP (oG 0) (oT 0) Pline Psize 0 (x9.2.1) (x9.2.2.1) (x9.2.2.2.1) (x9.2.2.2.2)) H locs ∧ lv_has ls 2 [(0, .ref (oP 0)), (1, .int (zI (x9.1)))]) (0, Pheads, Pbusy, Pcame, Pout) ⟨qPheads, qPbusy, qPcame, qPout, hv_1, hv_2, hw, lv_sub hl [1, 0] rfl⟩ ?_
  clear hw hl
  intro x9 H locs ls hI ih_3
  obtain ⟨i_4, Pheads_5, Pbusy_6, Pcame_7, Pout_8⟩ := x9
  try dsimp only at hI
  obtain ⟨hR_9, hR_10, hR_11, hR_12, hI_13, hI_14, hw, hl⟩ := hI
  refine lv_iload_n hx hb dX3_allWait_7 rfl (lv_at hl 1 rfl) ?_
  refine z_bipush hx hb dX3_allWait_8 (by decide) ?_
  refine z_icmp_ge (tgt := 47) hx hb dX3_allWait_10 (by decide) (by omega) (fun hc_15 => ?_) (fun hc_15 => ?_)
  · skip
    have hv_16 : (0 : Int) ≤ (0 : Int) ∧ (0 : Int) ≤ 1000000 := by
      first | assumption | omega | grind
    have hv_17 : (0 : Int) = 0 := by
      rfl
    have hv_18 : ∀ k, 0 ≤ k → k < 8 → Pheads_5 k = -1 ∧ Pbusy_6 k = 0 ∧ Pcame_7 k = -1 ∧ Pout_8 k = -1 := by
      exact all_le (by assumption) (by omega)
    exact W.vret hx hb hr (fun t9 ht hW => ⟨⟨(0, Pheads_5, Pbusy_6, Pcame_7, Pout_8), rfl, ⟨hv_16, hR_9, hR_10, hR_11, hR_12, hv_17, hv_18⟩, by subst hAe; exact z_end hK hw ht hW⟩, by subst hAe; exact hw.2.2.F ht⟩) (by subst hAe; exact hw.2.2.2.2) dX3_allWait_47
  · skip
    refine lv_aload_n hx hb dX3_allWait_13 rfl (lv_at hl 0 rfl) ?_
    refine va_get (D := D) (ci := 3) (v := .ref (oP 2)) (C := RX3) (T := TX3) (N := 9) hx hb hts hinX3 hown hK hw.1 9 rfl rfl 5 (by decide) (hts (.fieldLink RX3 22 "CarnivalRoad$Parade" "heads" "[I") (by decide +kernel)) (fun _ h9 => h9) rfl dX3_allWait_14 ?_
    refine lv_iload_n hx hb dX3_allWait_17 rfl (lv_at hl 1 rfl) ?_
    refine z_iconst hx hb dX3_allWait_18 ?_
    have hi_19 : (0 : Int) ≤ i_4 ∧ i_4 < ((8 : Nat) : Int) := by
      first | assumption | omega | grind
    have hv_20 : (-1 : Int) ≤ (-1 : Int) ∧ (-1 : Int) ≤ 60 := by
      first | assumption | omega | grind
    have hR_21 : RA (uZ Pheads_5 i_4 (-1)) (-1) 60 := RA_up hR_9 hv_20
    refine z_iast (n := 8) (f := Pheads_5) (ws2 := kG cI cB cZ oG Gn Gki Gle Glo Gta Gsh ++ kT cI cB cZ oT Tcells Tgap Twires Tstands ++ kP cI cB cZ oP (oG 0) (oT 0) Pline Psize 0 (uZ Pheads_5 i_4 (-1)) Pbusy_6 Pcame_7 Pout_8) hx hb hK hw 11 rfl (by decide) hi_19 dX3_allWait_19 rfl (fun H locs hw => ?_)
    refine lv_aload_n hx hb dX3_allWait_20 rfl (lv_at hl 0 rfl) ?_
    refine va_get (D := D) (ci := 3) (v := .ref (oP 3)) (C := RX3) (T := TX3) (N := 9) hx hb hts hinX3 hown hK hw.1 9 rfl rfl 6 (by decide) (hts (.fieldLink RX3 25 "CarnivalRoad$Parade" "busy" "[I") (by decide +kernel)) (fun _ h9 => h9) rfl dX3_allWait_21 ?_
    refine lv_iload_n hx hb dX3_allWait_24 rfl (lv_at hl 1 rfl) ?_
    refine z_iconst hx hb dX3_allWait_25 ?_
    have hi_22 : (0 : Int) ≤ i_4 ∧ i_4 < ((8 : Nat) : Int) := by
      first | assumption | omega | grind
    have hv_23 : (0 : Int) ≤ (0 : Int) ∧ (0 : Int) ≤ 30 := by
      first | assumption | omega | grind
    have hR_24 : RA (uZ Pbusy_6 i_4 0) (0) 30 := RA_up hR_10 hv_23
    refine z_iast (n := 8) (f := Pbusy_6) (ws2 := kG cI cB cZ oG Gn Gki Gle Glo Gta Gsh ++ kT cI cB cZ oT Tcells Tgap Twires Tstands ++ kP cI cB cZ oP (oG 0) (oT 0) Pline Psize 0 (uZ Pheads_5 i_4 (-1)) (uZ Pbusy_6 i_4 0) Pcame_7 Pout_8) hx hb hK hw 12 rfl (by decide) hi_22 dX3_allWait_26 rfl (fun H locs hw => ?_)
    refine lv_aload_n hx hb dX3_allWait_27 rfl (lv_at hl 0 rfl) ?_
    refine va_get (D := D) (ci := 3) (v := .ref (oP 4)) (C := RX3) (T := TX3) (N := 9) hx hb hts hinX3 hown hK hw.1 9 rfl rfl 7 (by decide) (hts (.fieldLink RX3 28 "CarnivalRoad$Parade" "cameAt" "[I") (by decide +kernel)) (fun _ h9 => h9) rfl dX3_allWait_28 ?_
    refine lv_iload_n hx hb dX3_allWait_31 rfl (lv_at hl 1 rfl) ?_
    refine z_iconst hx hb dX3_allWait_32 ?_
    have hi_25 : (0 : Int) ≤ i_4 ∧ i_4 < ((8 : Nat) : Int) := by
      first | assumption | omega | grind
    have hv_26 : (-1 : Int) ≤ (-1 : Int) ∧ (-1 : Int) ≤ 1000000 := by
      first | assumption | omega | grind
    have hR_27 : RA (uZ Pcame_7 i_4 (-1)) (-1) 1000000 := RA_up hR_11 hv_26
    refine z_iast (n := 8) (f := Pcame_7) (ws2 := kG cI cB cZ oG Gn Gki Gle Glo Gta Gsh ++ kT cI cB cZ oT Tcells Tgap Twires Tstands ++ kP cI cB cZ oP (oG 0) (oT 0) Pline Psize 0 (uZ Pheads_5 i_4 (-1)) (uZ Pbusy_6 i_4 0) (uZ Pcame_7 i_4 (-1)) Pout_8) hx hb hK hw 13 rfl (by decide) hi_25 dX3_allWait_33 rfl (fun H locs hw => ?_)
    refine lv_aload_n hx hb dX3_allWait_34 rfl (lv_at hl 0 rfl) ?_
    refine va_get (D := D) (ci := 3) (v := .ref (oP 5)) (C := RX3) (T := TX3) (N := 9) hx hb hts hinX3 hown hK hw.1 9 rfl rfl 8 (by decide) (hts (.fieldLink RX3 31 "CarnivalRoad$Parade" "outAt" "[I") (by decide +kernel)) (fun _ h9 => h9) rfl dX3_allWait_35 ?_
    refine lv_iload_n hx hb dX3_allWait_38 rfl (lv_at hl 1 rfl) ?_
    refine z_iconst hx hb dX3_allWait_39 ?_
    have hi_28 : (0 : Int) ≤ i_4 ∧ i_4 < ((8 : Nat) : Int) := by
      first | assumption | omega | grind
    have hv_29 : (-1 : Int) ≤ (-1 : Int) ∧ (-1 : Int) ≤ 1000000 := by
      first | assumption | omega | grind
    have hR_30 : RA (uZ Pout_8 i_4 (-1)) (-1) 1000000 := RA_up hR_12 hv_29
    refine z_iast (n := 8) (f := Pout_8) (ws2 := kG cI cB cZ oG Gn Gki Gle Glo Gta Gsh ++ kT cI cB cZ oT Tcells Tgap Twires Tstands ++ kP cI cB cZ oP (oG 0) (oT 0) Pline Psize 0 (uZ Pheads_5 i_4 (-1)) (uZ Pbusy_6 i_4 0) (uZ Pcame_7 i_4 (-1)) (uZ Pout_8 i_4 (-1))) hx hb hK hw 14 rfl (by decide) hi_28 dX3_allWait_40 rfl (fun H locs hw => ?_)
    refine z_iinc (k := 1) (lv' := [(1, .int (zI (i_4 + 1))), (0, .ref (oP 0))]) hx hb dX3_allWait_41 hl rfl (by decide) rfl (fun ls hl => ?_)
    refine lv_goto (tgt := 7) hx hb dX3_allWait_44 (by decide) ?_
    have hv_31 : 0 ≤ (i_4 + 1) ∧ (i_4 + 1) ≤ 8 := by
      first | assumption | omega | grind
    have hv_32 : ∀ k, 0 ≤ k → k < (i_4 + 1) → (uZ Pheads_5 i_4 (-1)) k = -1 ∧ (uZ Pbusy_6 i_4 0) k = 0 ∧ (uZ Pcame_7 i_4 (-1)) k = -1 ∧ (uZ Pout_8 i_4 (-1)) k = -1 := by
      refine all_s (fun k h0 h1 => ?_) ⟨uZ_s, uZ_s, uZ_s, uZ_s⟩
      rw [uZ_n (by omega), uZ_n (by omega), uZ_n (by omega), uZ_n (by omega)]
      revert h1
      revert h0
      revert k
      assumption
    have hm_33 : (8 - (i_4 + 1)).toNat < (8 - i_4).toNat := by
      first | assumption | omega | grind
    exact ih_3 ((i_4 + 1), (uZ Pheads_5 i_4 (-1)), (uZ Pbusy_6 i_4 0), (uZ Pcame_7 i_4 (-1)), (uZ Pout_8 i_4 (-1))) _ _ _ ⟨hR_21, hR_24, hR_27, hR_30, hv_31, hv_32, hw, lv_sub hl [1, 0] rfl⟩ hm_33
set_option maxRecDepth 100000 in
set_option maxHeartbeats 4000000 in
theorem c_X3_startRow (l : Launch) (D : va_G) (cI cB cZ : ClassId) (oG : Nat → Nat) (oT : Nat → Nat) (oP : Nat → Nat) (aL : Nat) (sz : Nat) (Gn : Int) (Gki : Int → Int) (Gle : Int → Int) (Glo : Int → Int) (Gta : Int → Int) (Gsh : Int → Int) (Tcells : Int) (Tgap : Int) (Twires : Int → Int) (Tstands : Int → Int) (Pline : Int → Int) (Psize : Int) (Pnow : Int) (Pheads : Int → Int) (Pbusy : Int → Int) (Pcame : Int → Int) (Pout : Int → Int) (fL : Int → Int) (qGn : 0 ≤ Gn ∧ Gn ≤ 8) (qGki : RA Gki (0) 4) (qGle : RA Gle (0) 5) (qGlo : RA Glo (0) 9) (qGta : RA Gta (0) 9) (qGsh : RA Gsh (0) 9) (qTcells : 1 ≤ Tcells ∧ Tcells ≤ 50) (qTgap : 0 ≤ Tgap ∧ Tgap ≤ 3) (qTwires : RA Twires (0) 9) (qTstands : RA Tstands (0) 9) (qPline : RA Pline (0) 7) (qPsize : 0 ≤ Psize ∧ Psize ≤ 8) (qPnow : 0 ≤ Pnow ∧ Pnow ≤ 1000000) (qPheads : RA Pheads (-1) 60) (qPbusy : RA Pbusy (0) 30) (qPcame : RA Pcame (-1) 1000000) (qPout : RA Pout (-1) 1000000) (qfL : RA fL (0) 7) : Met l yX3_startRow wsX3_startRow ({ frames := 1, cells := 0, slots := 0, locals := 40 }) (va_Pc [.ref (oP 0), .ref aL] (zPre D cI cB cZ sz (kG cI cB cZ oG Gn Gki Gle Glo Gta Gsh ++ kT cI cB cZ oT Tcells Tgap Twires Tstands ++ kP cI cB cZ oP (oG 0) (oT 0) Pline Psize Pnow Pheads Pbusy Pcame Pout ++ [(aL, .inl (cI, 8, .inl (zA fL)))]))) (va_Qv (fun (u9 : (Int → Int) × Int × Int × (Int → Int) × (Int → Int) × (Int → Int) × (Int → Int)) => (RA u9.1 (0) 7) ∧ ((0 : Int) ≤ u9.2.1 ∧ u9.2.1 ≤ 8) ∧ ((0 : Int) ≤ u9.2.2.1 ∧ u9.2.2.1 ≤ 1000000) ∧ (RA u9.2.2.2.1 (-1) 60) ∧ (RA u9.2.2.2.2.1 (0) 30) ∧ (RA u9.2.2.2.2.2.1 (-1) 1000000) ∧ (RA u9.2.2.2.2.2.2 (-1) 1000000) ∧ (u9.1 = cpZ fL Pline) ∧ (u9.2.1 = Gn) ∧ (u9.2.2.1 = 0) ∧ (∀ k, 0 ≤ k → k < 8 → u9.2.2.2.1 k = -1 ∧ u9.2.2.2.2.1 k = 0 ∧ u9.2.2.2.2.2.1 k = -1 ∧ u9.2.2.2.2.2.2 k = -1)) (fun u9 t9 => zAt D cI cB cZ (va_A (kG cI cB cZ oG Gn Gki Gle Glo Gta Gsh ++ kT cI cB cZ oT Tcells Tgap Twires Tstands ++ kP cI cB cZ oP (oG 0) (oT 0) Pline Psize Pnow Pheads Pbusy Pcame Pout ++ [(aL, .inl (cI, 8, .inl (zA fL)))]) sz) (kG cI cB cZ oG Gn Gki Gle Glo Gta Gsh ++ kT cI cB cZ oT Tcells Tgap Twires Tstands ++ kP cI cB cZ oP (oG 0) (oT 0) (u9.1) (u9.2.1) (u9.2.2.1) (u9.2.2.2.1) (u9.2.2.2.2.1) (u9.2.2.2.2.2.1) (u9.2.2.2.2.2.2) ++ [(aL, .inl (cI, 8, .inl (zA fL)))]) t9) (va_A (kG cI cB cZ oG Gn Gki Gle Glo Gta Gsh ++ kT cI cB cZ oT Tcells Tgap Twires Tstands ++ kP cI cB cZ oP (oG 0) (oT 0) Pline Psize Pnow Pheads Pbusy Pcame Pout ++ [(aL, .inl (cI, 8, .inl (zA fL)))]) sz)) 0 0 (va_A (kG cI cB cZ oG Gn Gki Gle Glo Gta Gsh ++ kT cI cB cZ oT Tcells Tgap Twires Tstands ++ kP cI cB cZ oP (oG 0) (oT 0) Pline Psize Pnow Pheads Pbusy Pcame Pout ++ [(aL, .inl (cI, 8, .inl (zA fL)))]) sz) := by
  refine Met.ofW (cc := cX3_startRow) (maxL := 2) (ret := none) (by decide) rfl ?_
  intro pp ee s mm aa bw mt cd s₁ BL hml hv
  obtain ⟨rfl, hsz, hP, hK, hD0⟩ := hv
  have hx := BL.exec
  have hb := BL.bytes
  have hr := BL.returns
  have hts := atoms_spec (ws := wsX3_startRow) BL.pre
  have hown : s.vm.findClass RX3 = some mm.cls := findClass_of_methodNamed BL.named
  have hlocks := BL.notSynchronized
  subst hsz
  generalize hAe : va_A (kG cI cB cZ oG Gn Gki Gle Glo Gta Gsh ++ kT cI cB cZ oT Tcells Tgap Twires Tstands ++ kP cI cB cZ oP (oG 0) (oT 0) Pline Psize Pnow Pheads Pbusy Pcame Pout ++ [(aL, .inl (cI, 8, .inl (zA fL)))]) s.heap.size = A
  have hA : ∀ q : Nat, s.heap.size ≤ q → A q := fun q h => by rw [← hAe]; exact Or.inr h
  have hw : HW D A s.heap (kG cI cB cZ oG Gn Gki Gle Glo Gta Gsh ++ kT cI cB cZ oT Tcells Tgap Twires Tstands ++ kP cI cB cZ oP (oG 0) (oT 0) Pline Psize Pnow Pheads Pbusy Pcame Pout ++ [(aL, .inl (cI, 8, .inl (zA fL)))]) s.heap [] := z_start hAe hP hD0
  clear hP hD0
  have hl := lv_entry ([.ref (oP 0), .ref aL]) (n := 2) (Nat.le_of_ble_eq_true rfl)
  rw [lg_entry_eq]
  generalize (lg_sl ([.ref (oP 0), .ref aL]) ++ List.replicate (2 - (lg_sl ([.ref (oP 0), .ref aL])).length) Slot.unset).toArray = ls at hl ⊢
  have hl : lv_has ls 2 [(0, .ref (oP 0)), (1, .ref aL)] := hl
  have hinX2 : ∀ w ∈ wsX20, w ∈ wsX3_startRow := by decide +kernel
  have hinX3 : ∀ w ∈ wsX30, w ∈ wsX3_startRow := by decide +kernel
  refine lv_aload_n hx hb dX3_startRow_0 rfl (lv_at hl 1 rfl) ?_
  refine z_iconst hx hb dX3_startRow_1 ?_
  refine lv_aload_n hx hb dX3_startRow_2 rfl (lv_at hl 0 rfl) ?_
  refine va_get (D := D) (ci := 3) (v := .ref (oP 1)) (C := RX3) (T := TX3) (N := 9) hx hb hts hinX3 hown hK hw.1 9 rfl rfl 2 (by decide) (hts (.fieldLink RX3 9 "CarnivalRoad$Parade" "line" "[I") (by decide +kernel)) (fun _ h9 => h9) rfl dX3_startRow_3 ?_
  refine z_iconst hx hb dX3_startRow_6 ?_
  refine z_bipush hx hb dX3_startRow_7 (by decide) ?_
  have hR_1 : RA (cpZ fL Pline) (0) 7 := cpZ_rng qfL qPline
  refine z_copy (f := fL) (g := Pline) (ws2 := kG cI cB cZ oG Gn Gki Gle Glo Gta Gsh ++ kT cI cB cZ oT Tcells Tgap Twires Tstands ++ kP cI cB cZ oP (oG 0) (oT 0) (cpZ fL Pline) Psize Pnow Pheads Pbusy Pcame Pout ++ [(aL, .inl (cI, 8, .inl (zA fL)))]) hx hb (hml.trans hl.1.symm) hown (hts (.methodLink RX3 42 arraycopyName) (by decide +kernel)) (hts (.native arraycopyName) (by decide +kernel)) (hts (.static arraycopyName) (by decide +kernel)) (hts (.initialized "java/lang/System") (by decide +kernel)) hK hw 15 10 rfl rfl (Nat.le_of_ble_eq_true rfl) (Nat.le_of_ble_eq_true rfl) dX3_startRow_9 rfl (fun H locs hw => ?_)
  refine lv_aload_n hx hb dX3_startRow_12 rfl (lv_at hl 0 rfl) ?_
  refine lv_aload_n hx hb dX3_startRow_13 rfl (lv_at hl 0 rfl) ?_
  refine va_get (D := D) (ci := 3) (v := .ref (oG 0)) (C := RX3) (T := TX3) (N := 9) hx hb hts hinX3 hown hK hw.1 9 rfl rfl 0 (by decide) (hts (.fieldLink RX3 34 "CarnivalRoad$Parade" "guests" "LCarnivalRoad$Guests;") (by decide +kernel)) (fun _ h9 => h9) rfl dX3_startRow_14 ?_
  refine va_get (D := D) (ci := 2) (v := .int (zI Gn)) (C := RX2) (T := TX2) (N := 6) hx hb hts hinX2 hown hK hw.1 0 rfl rfl 0 (by decide) (hts (.fieldLink RX3 48 "CarnivalRoad$Guests" "count" "I") (by decide +kernel)) (fun _ h9 => h9) rfl dX3_startRow_17 ?_
  refine z_put (D := D) (ci := 3) (v := .int (zI Gn)) (ty := .int) (C := RX3) (T := TX3) (N := 9) (ws2 := kG cI cB cZ oG Gn Gki Gle Glo Gta Gsh ++ kT cI cB cZ oT Tcells Tgap Twires Tstands ++ kP cI cB cZ oP (oG 0) (oT 0) (cpZ fL Pline) Gn Pnow Pheads Pbusy Pcame Pout ++ [(aL, .inl (cI, 8, .inl (zA fL)))]) hx hb hts hinX3 tyX3 tyX3_ok nmX3 hown hK hw 9 rfl rfl 3 (by decide) (hts (.fieldLink RX3 15 "CarnivalRoad$Parade" "size" "I") (by decide +kernel)) (fun _ h9 => h9) rfl (by decide +kernel) rfl rfl (Nat.le_of_ble_eq_true rfl) dX3_startRow_20 rfl (fun H locs hw => ?_)
  refine lv_aload_n hx hb dX3_startRow_23 rfl (lv_at hl 0 rfl) ?_
  have hF9 := z_free (wc := kG cI cB cZ oG Gn Gki Gle Glo Gta Gsh ++ kT cI cB cZ oT Tcells Tgap Twires Tstands ++ kP cI cB cZ oP (oG 0) (oT 0) (cpZ fL Pline) Gn Pnow Pheads Pbusy Pcame Pout) hw hA [0, 1, 2, 3, 4, 5, 6, 7, 8, 9, 10, 11, 12, 13, 14] rfl
  refine va_callv (va_runV (As := []) (rest := []) ⟨hx, hb, hml, hown, hts⟩ (c_X3_allWait l D cI cB cZ oG oT oP H.size Gn Gki Gle Glo Gta Gsh Tcells Tgap Twires Tstands (cpZ fL Pline) Gn Pnow Pheads Pbusy Pcame Pout (by omega) qGki qGle qGlo qGta qGsh (by omega) (by omega) qTwires qTstands hR_1 (by omega) (by omega) qPheads qPbusy qPcame qPout) (cwV 0 hts gX3_startRow_X3_allWait rfl rfl rfl (by decide +kernel) ⟨Nat.le_of_ble_eq_true rfl, Nat.le_of_ble_eq_true rfl⟩) ⟨zPre_blind, va_recv hK hw.1 (ci := 3) (q0 := 9) rfl rfl, z_pre hK hw [0, 1, 2, 3, 4, 5, 6, 7, 8, 9, 10, 11, 12, 13, 14] (by decide) rfl⟩ rfl rfl hl.1 rfl (lv_room (Nat.le_of_ble_eq_true rfl)) dX3_startRow_24 ⟨Nat.zero_le _, Nat.zero_le _⟩) hw.2.2 (fun q _ h => hF9 q h) hF9 (fun u9 t9 H_2 locs9 ht9 hvm9 hq9 hB9 hz9 hk9 hS9 => ?_)
  obtain ⟨Pnow_3, Pheads_4, Pbusy_5, Pcame_6, Pout_7⟩ := u9
  try dsimp only at hq9 hB9
  obtain ⟨hq_8, hq_9, hq_10, hq_11, hq_12, hq_13, hq_14⟩ := hq9
  have hw : HW D A s.heap (kG cI cB cZ oG Gn Gki Gle Glo Gta Gsh ++ kT cI cB cZ oT Tcells Tgap Twires Tstands ++ kP cI cB cZ oP (oG 0) (oT 0) (cpZ fL Pline) Gn Pnow_3 Pheads_4 Pbusy_5 Pcame_6 Pout_7 ++ [(aL, .inl (cI, 8, .inl (zA fL)))]) H_2 locs9 := z_after (wc := kG cI cB cZ oG Gn Gki Gle Glo Gta Gsh ++ kT cI cB cZ oT Tcells Tgap Twires Tstands ++ kP cI cB cZ oP (oG 0) (oT 0) (cpZ fL Pline) Gn Pnow Pheads Pbusy Pcame Pout) hw [0, 1, 2, 3, 4, 5, 6, 7, 8, 9, 10, 11, 12, 13, 14] [15] rfl rfl (by decide) (by decide) hF9 hk9 ht9 hB9 hS9 [1, 2, 3, 4, 5, 6, 7, 8, 9, 10, 11, 12, 13, 14, 15, 0] (by decide) rfl
  clear hF9 ht9 hvm9 hB9 hz9 hk9 hS9
  have hv_15 : (0 : Int) ≤ Gn ∧ Gn ≤ 8 := by
    first | rfl | assumption | omega
  have hv_16 : (0 : Int) ≤ Pnow_3 ∧ Pnow_3 ≤ 1000000 := by
    first | rfl | assumption | omega
  have hv_17 : (cpZ fL Pline) = cpZ fL Pline := by
    first | rfl | assumption | omega
  have hv_18 : Gn = Gn := by
    first | rfl | assumption | omega
  have hv_19 : Pnow_3 = 0 := by
    first | rfl | assumption | omega
  have hv_20 : ∀ k, 0 ≤ k → k < 8 → Pheads_4 k = -1 ∧ Pbusy_5 k = 0 ∧ Pcame_6 k = -1 ∧ Pout_7 k = -1 := by
    first | rfl | assumption | omega
  exact W.vret hx hb hr (fun t9 ht hW => ⟨⟨((cpZ fL Pline), Gn, Pnow_3, Pheads_4, Pbusy_5, Pcame_6, Pout_7), rfl, ⟨hR_1, hv_15, hv_16, hq_9, hq_10, hq_11, hq_12, hv_17, hv_18, hv_19, hv_20⟩, by subst hAe; exact z_end hK hw ht hW⟩, by subst hAe; exact hw.2.2.F ht⟩) (by subst hAe; exact hw.2.2.2.2) dX3_startRow_27
set_option maxRecDepth 100000 in
set_option maxHeartbeats 4000000 in
theorem c_X3_startAlone (l : Launch) (D : va_G) (cI cB cZ : ClassId) (oG : Nat → Nat) (oT : Nat → Nat) (oP : Nat → Nat) (sz : Nat) (Gn : Int) (Gki : Int → Int) (Gle : Int → Int) (Glo : Int → Int) (Gta : Int → Int) (Gsh : Int → Int) (Tcells : Int) (Tgap : Int) (Twires : Int → Int) (Tstands : Int → Int) (Pline : Int → Int) (Psize : Int) (Pnow : Int) (Pheads : Int → Int) (Pbusy : Int → Int) (Pcame : Int → Int) (Pout : Int → Int) (g : Int) (qGn : 0 ≤ Gn ∧ Gn ≤ 8) (qGki : RA Gki (0) 4) (qGle : RA Gle (0) 5) (qGlo : RA Glo (0) 9) (qGta : RA Gta (0) 9) (qGsh : RA Gsh (0) 9) (qTcells : 1 ≤ Tcells ∧ Tcells ≤ 50) (qTgap : 0 ≤ Tgap ∧ Tgap ≤ 3) (qTwires : RA Twires (0) 9) (qTstands : RA Tstands (0) 9) (qPline : RA Pline (0) 7) (qPsize : 0 ≤ Psize ∧ Psize ≤ 8) (qPnow : 0 ≤ Pnow ∧ Pnow ≤ 1000000) (qPheads : RA Pheads (-1) 60) (qPbusy : RA Pbusy (0) 30) (qPcame : RA Pcame (-1) 1000000) (qPout : RA Pout (-1) 1000000) (qg : 0 ≤ g ∧ g ≤ 7) : Met l yX3_startAlone wsX3_startAlone ({ frames := 1, cells := 0, slots := 0, locals := 21 }) (va_Pc [.ref (oP 0), .int (zI g)] (zPre D cI cB cZ sz (kG cI cB cZ oG Gn Gki Gle Glo Gta Gsh ++ kT cI cB cZ oT Tcells Tgap Twires Tstands ++ kP cI cB cZ oP (oG 0) (oT 0) Pline Psize Pnow Pheads Pbusy Pcame Pout))) (va_Qv (fun (u9 : (Int → Int) × Int × Int × (Int → Int) × (Int → Int) × (Int → Int) × (Int → Int)) => (RA u9.1 (0) 7) ∧ ((0 : Int) ≤ u9.2.1 ∧ u9.2.1 ≤ 8) ∧ ((0 : Int) ≤ u9.2.2.1 ∧ u9.2.2.1 ≤ 1000000) ∧ (RA u9.2.2.2.1 (-1) 60) ∧ (RA u9.2.2.2.2.1 (0) 30) ∧ (RA u9.2.2.2.2.2.1 (-1) 1000000) ∧ (RA u9.2.2.2.2.2.2 (-1) 1000000) ∧ (u9.1 = uZ Pline 0 g) ∧ (u9.2.1 = 1) ∧ (u9.2.2.1 = 0) ∧ (∀ k, 0 ≤ k → k < 8 → u9.2.2.2.1 k = -1 ∧ u9.2.2.2.2.1 k = 0 ∧ u9.2.2.2.2.2.1 k = -1 ∧ u9.2.2.2.2.2.2 k = -1)) (fun u9 t9 => zAt D cI cB cZ (va_A (kG cI cB cZ oG Gn Gki Gle Glo Gta Gsh ++ kT cI cB cZ oT Tcells Tgap Twires Tstands ++ kP cI cB cZ oP (oG 0) (oT 0) Pline Psize Pnow Pheads Pbusy Pcame Pout) sz) (kG cI cB cZ oG Gn Gki Gle Glo Gta Gsh ++ kT cI cB cZ oT Tcells Tgap Twires Tstands ++ kP cI cB cZ oP (oG 0) (oT 0) (u9.1) (u9.2.1) (u9.2.2.1) (u9.2.2.2.1) (u9.2.2.2.2.1) (u9.2.2.2.2.2.1) (u9.2.2.2.2.2.2)) t9) (va_A (kG cI cB cZ oG Gn Gki Gle Glo Gta Gsh ++ kT cI cB cZ oT Tcells Tgap Twires Tstands ++ kP cI cB cZ oP (oG 0) (oT 0) Pline Psize Pnow Pheads Pbusy Pcame Pout) sz)) 0 0 (va_A (kG cI cB cZ oG Gn Gki Gle Glo Gta Gsh ++ kT cI cB cZ oT Tcells Tgap Twires Tstands ++ kP cI cB cZ oP (oG 0) (oT 0) Pline Psize Pnow Pheads Pbusy Pcame Pout) sz) := by
  refine Met.ofW (cc := cX3_startAlone) (maxL := 2) (ret := none) (by decide) rfl ?_
  intro pp ee s mm aa bw mt cd s₁ BL hml hv
  obtain ⟨rfl, hsz, hP, hK, hD0⟩ := hv
  have hx := BL.exec
  have hb := BL.bytes
  have hr := BL.returns
  have hts := atoms_spec (ws := wsX3_startAlone) BL.pre
  have hown : s.vm.findClass RX3 = some mm.cls := findClass_of_methodNamed BL.named
  have hlocks := BL.notSynchronized
  subst hsz
  generalize hAe : va_A (kG cI cB cZ oG Gn Gki Gle Glo Gta Gsh ++ kT cI cB cZ oT Tcells Tgap Twires Tstands ++ kP cI cB cZ oP (oG 0) (oT 0) Pline Psize Pnow Pheads Pbusy Pcame Pout) s.heap.size = A
  have hA : ∀ q : Nat, s.heap.size ≤ q → A q := fun q h => by rw [← hAe]; exact Or.inr h
  have hw : HW D A s.heap (kG cI cB cZ oG Gn Gki Gle Glo Gta Gsh ++ kT cI cB cZ oT Tcells Tgap Twires Tstands ++ kP cI cB cZ oP (oG 0) (oT 0) Pline Psize Pnow Pheads Pbusy Pcame Pout) s.heap [] := z_start hAe hP hD0
  clear hP hD0
  have hl := lv_entry ([.ref (oP 0), .int (zI g)]) (n := 2) (Nat.le_of_ble_eq_true rfl)
  rw [lg_entry_eq]
  generalize (lg_sl ([.ref (oP 0), .int (zI g)]) ++ List.replicate (2 - (lg_sl ([.ref (oP 0), .int (zI g)])).length) Slot.unset).toArray = ls at hl ⊢
  have hl : lv_has ls 2 [(0, .ref (oP 0)), (1, .int (zI g))] := hl
  have hinX3 : ∀ w ∈ wsX30, w ∈ wsX3_startAlone := by decide +kernel
  refine lv_aload_n hx hb dX3_startAlone_0 rfl (lv_at hl 0 rfl) ?_
  refine va_get (D := D) (ci := 3) (v := .ref (oP 1)) (C := RX3) (T := TX3) (N := 9) hx hb hts hinX3 hown hK hw.1 9 rfl rfl 2 (by decide) (hts (.fieldLink RX3 9 "CarnivalRoad$Parade" "line" "[I") (by decide +kernel)) (fun _ h9 => h9) rfl dX3_startAlone_1 ?_
  refine z_iconst hx hb dX3_startAlone_4 ?_
  refine lv_iload_n hx hb dX3_startAlone_5 rfl (lv_at hl 1 rfl) ?_
  have hi_1 : (0 : Int) ≤ (0 : Int) ∧ (0 : Int) < ((8 : Nat) : Int) := by
    first | rfl | assumption | omega
  have hv_2 : (0 : Int) ≤ g ∧ g ≤ 7 := by
    first | rfl | assumption | omega
  have hR_3 : RA (uZ Pline 0 g) (0) 7 := RA_up qPline hv_2
  refine z_iast (n := 8) (f := Pline) (ws2 := kG cI cB cZ oG Gn Gki Gle Glo Gta Gsh ++ kT cI cB cZ oT Tcells Tgap Twires Tstands ++ kP cI cB cZ oP (oG 0) (oT 0) (uZ Pline 0 g) Psize Pnow Pheads Pbusy Pcame Pout) hx hb hK hw 10 rfl (by decide) hi_1 dX3_startAlone_6 rfl (fun H locs hw => ?_)
  refine lv_aload_n hx hb dX3_startAlone_7 rfl (lv_at hl 0 rfl) ?_
  refine z_iconst hx hb dX3_startAlone_8 ?_
  refine z_put (D := D) (ci := 3) (v := .int (zI 1)) (ty := .int) (C := RX3) (T := TX3) (N := 9) (ws2 := kG cI cB cZ oG Gn Gki Gle Glo Gta Gsh ++ kT cI cB cZ oT Tcells Tgap Twires Tstands ++ kP cI cB cZ oP (oG 0) (oT 0) (uZ Pline 0 g) 1 Pnow Pheads Pbusy Pcame Pout) hx hb hts hinX3 tyX3 tyX3_ok nmX3 hown hK hw 9 rfl rfl 3 (by decide) (hts (.fieldLink RX3 15 "CarnivalRoad$Parade" "size" "I") (by decide +kernel)) (fun _ h9 => h9) rfl (by decide +kernel) rfl rfl (Nat.le_of_ble_eq_true rfl) dX3_startAlone_9 rfl (fun H locs hw => ?_)
  refine lv_aload_n hx hb dX3_startAlone_12 rfl (lv_at hl 0 rfl) ?_
  have hF9 := z_free (wc := kG cI cB cZ oG Gn Gki Gle Glo Gta Gsh ++ kT cI cB cZ oT Tcells Tgap Twires Tstands ++ kP cI cB cZ oP (oG 0) (oT 0) (uZ Pline 0 g) 1 Pnow Pheads Pbusy Pcame Pout) hw hA [0, 1, 2, 3, 4, 5, 6, 7, 8, 9, 10, 11, 12, 13, 14] rfl
  refine va_callv (va_runV (As := []) (rest := []) ⟨hx, hb, hml, hown, hts⟩ (c_X3_allWait l D cI cB cZ oG oT oP H.size Gn Gki Gle Glo Gta Gsh Tcells Tgap Twires Tstands (uZ Pline 0 g) 1 Pnow Pheads Pbusy Pcame Pout (by omega) qGki qGle qGlo qGta qGsh (by omega) (by omega) qTwires qTstands hR_3 (by omega) (by omega) qPheads qPbusy qPcame qPout) (cwV 0 hts gX3_startAlone_X3_allWait rfl rfl rfl (by decide +kernel) ⟨Nat.le_of_ble_eq_true rfl, Nat.le_of_ble_eq_true rfl⟩) ⟨zPre_blind, va_recv hK hw.1 (ci := 3) (q0 := 9) rfl rfl, z_pre hK hw [0, 1, 2, 3, 4, 5, 6, 7, 8, 9, 10, 11, 12, 13, 14] (by decide) rfl⟩ rfl rfl hl.1 rfl (lv_room (Nat.le_of_ble_eq_true rfl)) dX3_startAlone_13 ⟨Nat.zero_le _, Nat.zero_le _⟩) hw.2.2 (fun q _ h => hF9 q h) hF9 (fun u9 t9 H_4 locs9 ht9 hvm9 hq9 hB9 hz9 hk9 hS9 => ?_)
  obtain ⟨Pnow_5, Pheads_6, Pbusy_7, Pcame_8, Pout_9⟩ := u9
  try dsimp only at hq9 hB9
  obtain ⟨hq_10, hq_11, hq_12, hq_13, hq_14, hq_15, hq_16⟩ := hq9
  have hw : HW D A s.heap (kG cI cB cZ oG Gn Gki Gle Glo Gta Gsh ++ kT cI cB cZ oT Tcells Tgap Twires Tstands ++ kP cI cB cZ oP (oG 0) (oT 0) (uZ Pline 0 g) 1 Pnow_5 Pheads_6 Pbusy_7 Pcame_8 Pout_9) H_4 locs9 := z_after (wc := kG cI cB cZ oG Gn Gki Gle Glo Gta Gsh ++ kT cI cB cZ oT Tcells Tgap Twires Tstands ++ kP cI cB cZ oP (oG 0) (oT 0) (uZ Pline 0 g) 1 Pnow Pheads Pbusy Pcame Pout) hw [0, 1, 2, 3, 4, 5, 6, 7, 8, 9, 10, 11, 12, 13, 14] [] rfl rfl (by decide) (by decide) hF9 hk9 ht9 hB9 hS9 [0, 1, 2, 3, 4, 5, 6, 7, 8, 9, 10, 11, 12, 13, 14] (by decide) rfl
  clear hF9 ht9 hvm9 hB9 hz9 hk9 hS9
  have hv_17 : (0 : Int) ≤ (1 : Int) ∧ (1 : Int) ≤ 8 := by
    first | rfl | assumption | omega
  have hv_18 : (0 : Int) ≤ Pnow_5 ∧ Pnow_5 ≤ 1000000 := by
    first | rfl | assumption | omega
  have hv_19 : (uZ Pline 0 g) = uZ Pline 0 g := by
    first | rfl | assumption | omega
  have hv_20 : (1 : Int) = 1 := by
    first | rfl | assumption | omega
  have hv_21 : Pnow_5 = 0 := by
    first | rfl | assumption | omega
  have hv_22 : ∀ k, 0 ≤ k → k < 8 → Pheads_6 k = -1 ∧ Pbusy_7 k = 0 ∧ Pcame_8 k = -1 ∧ Pout_9 k = -1 := by
    first | rfl | assumption | omega
  exact W.vret hx hb hr (fun t9 ht hW => ⟨⟨((uZ Pline 0 g), 1, Pnow_5, Pheads_6, Pbusy_7, Pcame_8, Pout_9), rfl, ⟨hR_3, hv_17, hv_18, hq_11, hq_12, hq_13, hq_14, hv_19, hv_20, hv_21, hv_22⟩, by subst hAe; exact z_end hK hw ht hW⟩, by subst hAe; exact hw.2.2.F ht⟩) (by subst hAe; exact hw.2.2.2.2) dX3_startAlone_16
set_option maxRecDepth 100000 in
set_option maxHeartbeats 4000000 in
theorem c_X3_copyOf (l : Launch) (D : va_G) (cI cB cZ : ClassId) (oP : Nat → Nat) (oQ : Nat → Nat) (aPguests : Nat) (aPstreet : Nat) (aQguests : Nat) (aQstreet : Nat) (sz : Nat) (Pline : Int → Int) (Psize : Int) (Pnow : Int) (Pheads : Int → Int) (Pbusy : Int → Int) (Pcame : Int → Int) (Pout : Int → Int) (Qline : Int → Int) (Qsize : Int) (Qnow : Int) (Qheads : Int → Int) (Qbusy : Int → Int) (Qcame : Int → Int) (Qout : Int → Int) (qPline : RA Pline (0) 7) (qPsize : 0 ≤ Psize ∧ Psize ≤ 8) (qPnow : 0 ≤ Pnow ∧ Pnow ≤ 1000000) (qPheads : RA Pheads (-1) 60) (qPbusy : RA Pbusy (0) 30) (qPcame : RA Pcame (-1) 1000000) (qPout : RA Pout (-1) 1000000) (qQline : RA Qline (0) 7) (qQsize : 0 ≤ Qsize ∧ Qsize ≤ 8) (qQnow : 0 ≤ Qnow ∧ Qnow ≤ 1000000) (qQheads : RA Qheads (-1) 60) (qQbusy : RA Qbusy (0) 30) (qQcame : RA Qcame (-1) 1000000) (qQout : RA Qout (-1) 1000000) : Met l yX3_copyOf wsX3_copyOf ({ frames := 1, cells := 0, slots := 0, locals := 40 }) (va_Pc [.ref (oP 0), .ref (oQ 0)] (zPre D cI cB cZ sz (kP cI cB cZ oP aPguests aPstreet Pline Psize Pnow Pheads Pbusy Pcame Pout ++ kP cI cB cZ oQ aQguests aQstreet Qline Qsize Qnow Qheads Qbusy Qcame Qout))) (va_Qv (fun (u9 : (Int → Int) × Int × Int × (Int → Int) × (Int → Int) × (Int → Int) × (Int → Int)) => (RA u9.1 (0) 7) ∧ ((0 : Int) ≤ u9.2.1 ∧ u9.2.1 ≤ 8) ∧ ((0 : Int) ≤ u9.2.2.1 ∧ u9.2.2.1 ≤ 1000000) ∧ (RA u9.2.2.2.1 (-1) 60) ∧ (RA u9.2.2.2.2.1 (0) 30) ∧ (RA u9.2.2.2.2.2.1 (-1) 1000000) ∧ (RA u9.2.2.2.2.2.2 (-1) 1000000) ∧ (u9.1 = cpZ Qline Pline) ∧ (u9.2.1 = Qsize) ∧ (u9.2.2.1 = Qnow) ∧ (u9.2.2.2.1 = cpZ Qheads Pheads) ∧ (u9.2.2.2.2.1 = cpZ Qbusy Pbusy) ∧ (u9.2.2.2.2.2.1 = cpZ Qcame Pcame) ∧ (u9.2.2.2.2.2.2 = cpZ Qout Pout)) (fun u9 t9 => zAt D cI cB cZ (va_A (kP cI cB cZ oP aPguests aPstreet Pline Psize Pnow Pheads Pbusy Pcame Pout ++ kP cI cB cZ oQ aQguests aQstreet Qline Qsize Qnow Qheads Qbusy Qcame Qout) sz) (kP cI cB cZ oP aPguests aPstreet (u9.1) (u9.2.1) (u9.2.2.1) (u9.2.2.2.1) (u9.2.2.2.2.1) (u9.2.2.2.2.2.1) (u9.2.2.2.2.2.2) ++ kP cI cB cZ oQ aQguests aQstreet Qline Qsize Qnow Qheads Qbusy Qcame Qout) t9) (va_A (kP cI cB cZ oP aPguests aPstreet Pline Psize Pnow Pheads Pbusy Pcame Pout ++ kP cI cB cZ oQ aQguests aQstreet Qline Qsize Qnow Qheads Qbusy Qcame Qout) sz)) 0 0 (va_A (kP cI cB cZ oP aPguests aPstreet Pline Psize Pnow Pheads Pbusy Pcame Pout ++ kP cI cB cZ oQ aQguests aQstreet Qline Qsize Qnow Qheads Qbusy Qcame Qout) sz) := by
  refine Met.ofW (cc := cX3_copyOf) (maxL := 2) (ret := none) (by decide) rfl ?_
  intro pp ee s mm aa bw mt cd s₁ BL hml hv
  obtain ⟨rfl, hsz, hP, hK, hD0⟩ := hv
  have hx := BL.exec
  have hb := BL.bytes
  have hr := BL.returns
  have hts := atoms_spec (ws := wsX3_copyOf) BL.pre
  have hown : s.vm.findClass RX3 = some mm.cls := findClass_of_methodNamed BL.named
  have hlocks := BL.notSynchronized
  subst hsz
  generalize hAe : va_A (kP cI cB cZ oP aPguests aPstreet Pline Psize Pnow Pheads Pbusy Pcame Pout ++ kP cI cB cZ oQ aQguests aQstreet Qline Qsize Qnow Qheads Qbusy Qcame Qout) s.heap.size = A
  have hA : ∀ q : Nat, s.heap.size ≤ q → A q := fun q h => by rw [← hAe]; exact Or.inr h
  have hw : HW D A s.heap (kP cI cB cZ oP aPguests aPstreet Pline Psize Pnow Pheads Pbusy Pcame Pout ++ kP cI cB cZ oQ aQguests aQstreet Qline Qsize Qnow Qheads Qbusy Qcame Qout) s.heap [] := z_start hAe hP hD0
  clear hP hD0
  have hl := lv_entry ([.ref (oP 0), .ref (oQ 0)]) (n := 2) (Nat.le_of_ble_eq_true rfl)
  rw [lg_entry_eq]
  generalize (lg_sl ([.ref (oP 0), .ref (oQ 0)]) ++ List.replicate (2 - (lg_sl ([.ref (oP 0), .ref (oQ 0)])).length) Slot.unset).toArray = ls at hl ⊢
  have hl : lv_has ls 2 [(0, .ref (oP 0)), (1, .ref (oQ 0))] := hl
  have hinX3 : ∀ w ∈ wsX30, w ∈ wsX3_copyOf := by decide +kernel
  refine lv_aload_n hx hb dX3_copyOf_0 rfl (lv_at hl 1 rfl) ?_
  refine va_get (D := D) (ci := 3) (v := .ref (oQ 1)) (C := RX3) (T := TX3) (N := 9) hx hb hts hinX3 hown hK hw.1 6 rfl rfl 2 (by decide) (hts (.fieldLink RX3 9 "CarnivalRoad$Parade" "line" "[I") (by decide +kernel)) (fun _ h9 => h9) rfl dX3_copyOf_1 ?_
  refine z_iconst hx hb dX3_copyOf_4 ?_
  refine lv_aload_n hx hb dX3_copyOf_5 rfl (lv_at hl 0 rfl) ?_
  refine va_get (D := D) (ci := 3) (v := .ref (oP 1)) (C := RX3) (T := TX3) (N := 9) hx hb hts hinX3 hown hK hw.1 0 rfl rfl 2 (by decide) (hts (.fieldLink RX3 9 "CarnivalRoad$Parade" "line" "[I") (by decide +kernel)) (fun _ h9 => h9) rfl dX3_copyOf_6 ?_
  refine z_iconst hx hb dX3_copyOf_9 ?_
  refine z_bipush hx hb dX3_copyOf_10 (by decide) ?_
  have hR_1 : RA (cpZ Qline Pline) (0) 7 := cpZ_rng qQline qPline
  refine z_copy (f := Qline) (g := Pline) (ws2 := kP cI cB cZ oP aPguests aPstreet (cpZ Qline Pline) Psize Pnow Pheads Pbusy Pcame Pout ++ kP cI cB cZ oQ aQguests aQstreet Qline Qsize Qnow Qheads Qbusy Qcame Qout) hx hb (hml.trans hl.1.symm) hown (hts (.methodLink RX3 42 arraycopyName) (by decide +kernel)) (hts (.native arraycopyName) (by decide +kernel)) (hts (.static arraycopyName) (by decide +kernel)) (hts (.initialized "java/lang/System") (by decide +kernel)) hK hw 7 1 rfl rfl (Nat.le_of_ble_eq_true rfl) (Nat.le_of_ble_eq_true rfl) dX3_copyOf_12 rfl (fun H locs hw => ?_)
  refine lv_aload_n hx hb dX3_copyOf_15 rfl (lv_at hl 1 rfl) ?_
  refine va_get (D := D) (ci := 3) (v := .ref (oQ 2)) (C := RX3) (T := TX3) (N := 9) hx hb hts hinX3 hown hK hw.1 6 rfl rfl 5 (by decide) (hts (.fieldLink RX3 22 "CarnivalRoad$Parade" "heads" "[I") (by decide +kernel)) (fun _ h9 => h9) rfl dX3_copyOf_16 ?_
  refine z_iconst hx hb dX3_copyOf_19 ?_
  refine lv_aload_n hx hb dX3_copyOf_20 rfl (lv_at hl 0 rfl) ?_
  refine va_get (D := D) (ci := 3) (v := .ref (oP 2)) (C := RX3) (T := TX3) (N := 9) hx hb hts hinX3 hown hK hw.1 0 rfl rfl 5 (by decide) (hts (.fieldLink RX3 22 "CarnivalRoad$Parade" "heads" "[I") (by decide +kernel)) (fun _ h9 => h9) rfl dX3_copyOf_21 ?_
  refine z_iconst hx hb dX3_copyOf_24 ?_
  refine z_bipush hx hb dX3_copyOf_25 (by decide) ?_
  have hR_2 : RA (cpZ Qheads Pheads) (-1) 60 := cpZ_rng qQheads qPheads
  refine z_copy (f := Qheads) (g := Pheads) (ws2 := kP cI cB cZ oP aPguests aPstreet (cpZ Qline Pline) Psize Pnow (cpZ Qheads Pheads) Pbusy Pcame Pout ++ kP cI cB cZ oQ aQguests aQstreet Qline Qsize Qnow Qheads Qbusy Qcame Qout) hx hb (hml.trans hl.1.symm) hown (hts (.methodLink RX3 42 arraycopyName) (by decide +kernel)) (hts (.native arraycopyName) (by decide +kernel)) (hts (.static arraycopyName) (by decide +kernel)) (hts (.initialized "java/lang/System") (by decide +kernel)) hK hw 8 2 rfl rfl (Nat.le_of_ble_eq_true rfl) (Nat.le_of_ble_eq_true rfl) dX3_copyOf_27 rfl (fun H locs hw => ?_)
  refine lv_aload_n hx hb dX3_copyOf_30 rfl (lv_at hl 1 rfl) ?_
  refine va_get (D := D) (ci := 3) (v := .ref (oQ 3)) (C := RX3) (T := TX3) (N := 9) hx hb hts hinX3 hown hK hw.1 6 rfl rfl 6 (by decide) (hts (.fieldLink RX3 25 "CarnivalRoad$Parade" "busy" "[I") (by decide +kernel)) (fun _ h9 => h9) rfl dX3_copyOf_31 ?_
  refine z_iconst hx hb dX3_copyOf_34 ?_
  refine lv_aload_n hx hb dX3_copyOf_35 rfl (lv_at hl 0 rfl) ?_
  refine va_get (D := D) (ci := 3) (v := .ref (oP 3)) (C := RX3) (T := TX3) (N := 9) hx hb hts hinX3 hown hK hw.1 0 rfl rfl 6 (by decide) (hts (.fieldLink RX3 25 "CarnivalRoad$Parade" "busy" "[I") (by decide +kernel)) (fun _ h9 => h9) rfl dX3_copyOf_36 ?_
  refine z_iconst hx hb dX3_copyOf_39 ?_
  refine z_bipush hx hb dX3_copyOf_40 (by decide) ?_
  have hR_3 : RA (cpZ Qbusy Pbusy) (0) 30 := cpZ_rng qQbusy qPbusy
  refine z_copy (f := Qbusy) (g := Pbusy) (ws2 := kP cI cB cZ oP aPguests aPstreet (cpZ Qline Pline) Psize Pnow (cpZ Qheads Pheads) (cpZ Qbusy Pbusy) Pcame Pout ++ kP cI cB cZ oQ aQguests aQstreet Qline Qsize Qnow Qheads Qbusy Qcame Qout) hx hb (hml.trans hl.1.symm) hown (hts (.methodLink RX3 42 arraycopyName) (by decide +kernel)) (hts (.native arraycopyName) (by decide +kernel)) (hts (.static arraycopyName) (by decide +kernel)) (hts (.initialized "java/lang/System") (by decide +kernel)) hK hw 9 3 rfl rfl (Nat.le_of_ble_eq_true rfl) (Nat.le_of_ble_eq_true rfl) dX3_copyOf_42 rfl (fun H locs hw => ?_)
  refine lv_aload_n hx hb dX3_copyOf_45 rfl (lv_at hl 1 rfl) ?_
  refine va_get (D := D) (ci := 3) (v := .ref (oQ 4)) (C := RX3) (T := TX3) (N := 9) hx hb hts hinX3 hown hK hw.1 6 rfl rfl 7 (by decide) (hts (.fieldLink RX3 28 "CarnivalRoad$Parade" "cameAt" "[I") (by decide +kernel)) (fun _ h9 => h9) rfl dX3_copyOf_46 ?_
  refine z_iconst hx hb dX3_copyOf_49 ?_
  refine lv_aload_n hx hb dX3_copyOf_50 rfl (lv_at hl 0 rfl) ?_
  refine va_get (D := D) (ci := 3) (v := .ref (oP 4)) (C := RX3) (T := TX3) (N := 9) hx hb hts hinX3 hown hK hw.1 0 rfl rfl 7 (by decide) (hts (.fieldLink RX3 28 "CarnivalRoad$Parade" "cameAt" "[I") (by decide +kernel)) (fun _ h9 => h9) rfl dX3_copyOf_51 ?_
  refine z_iconst hx hb dX3_copyOf_54 ?_
  refine z_bipush hx hb dX3_copyOf_55 (by decide) ?_
  have hR_4 : RA (cpZ Qcame Pcame) (-1) 1000000 := cpZ_rng qQcame qPcame
  refine z_copy (f := Qcame) (g := Pcame) (ws2 := kP cI cB cZ oP aPguests aPstreet (cpZ Qline Pline) Psize Pnow (cpZ Qheads Pheads) (cpZ Qbusy Pbusy) (cpZ Qcame Pcame) Pout ++ kP cI cB cZ oQ aQguests aQstreet Qline Qsize Qnow Qheads Qbusy Qcame Qout) hx hb (hml.trans hl.1.symm) hown (hts (.methodLink RX3 42 arraycopyName) (by decide +kernel)) (hts (.native arraycopyName) (by decide +kernel)) (hts (.static arraycopyName) (by decide +kernel)) (hts (.initialized "java/lang/System") (by decide +kernel)) hK hw 10 4 rfl rfl (Nat.le_of_ble_eq_true rfl) (Nat.le_of_ble_eq_true rfl) dX3_copyOf_57 rfl (fun H locs hw => ?_)
  refine lv_aload_n hx hb dX3_copyOf_60 rfl (lv_at hl 1 rfl) ?_
  refine va_get (D := D) (ci := 3) (v := .ref (oQ 5)) (C := RX3) (T := TX3) (N := 9) hx hb hts hinX3 hown hK hw.1 6 rfl rfl 8 (by decide) (hts (.fieldLink RX3 31 "CarnivalRoad$Parade" "outAt" "[I") (by decide +kernel)) (fun _ h9 => h9) rfl dX3_copyOf_61 ?_
  refine z_iconst hx hb dX3_copyOf_64 ?_
  refine lv_aload_n hx hb dX3_copyOf_65 rfl (lv_at hl 0 rfl) ?_
  refine va_get (D := D) (ci := 3) (v := .ref (oP 5)) (C := RX3) (T := TX3) (N := 9) hx hb hts hinX3 hown hK hw.1 0 rfl rfl 8 (by decide) (hts (.fieldLink RX3 31 "CarnivalRoad$Parade" "outAt" "[I") (by decide +kernel)) (fun _ h9 => h9) rfl dX3_copyOf_66 ?_
  refine z_iconst hx hb dX3_copyOf_69 ?_
  refine z_bipush hx hb dX3_copyOf_70 (by decide) ?_
  have hR_5 : RA (cpZ Qout Pout) (-1) 1000000 := cpZ_rng qQout qPout
  refine z_copy (f := Qout) (g := Pout) (ws2 := kP cI cB cZ oP aPguests aPstreet (cpZ Qline Pline) Psize Pnow (cpZ Qheads Pheads) (cpZ Qbusy Pbusy) (cpZ Qcame Pcame) (cpZ Qout Pout) ++ kP cI cB cZ oQ aQguests aQstreet Qline Qsize Qnow Qheads Qbusy Qcame Qout) hx hb (hml.trans hl.1.symm) hown (hts (.methodLink RX3 42 arraycopyName) (by decide +kernel)) (hts (.native arraycopyName) (by decide +kernel)) (hts (.static arraycopyName) (by decide +kernel)) (hts (.initialized "java/lang/System") (by decide +kernel)) hK hw 11 5 rfl rfl (Nat.le_of_ble_eq_true rfl) (Nat.le_of_ble_eq_true rfl) dX3_copyOf_72 rfl (fun H locs hw => ?_)
  refine lv_aload_n hx hb dX3_copyOf_75 rfl (lv_at hl 0 rfl) ?_
  refine lv_aload_n hx hb dX3_copyOf_76 rfl (lv_at hl 1 rfl) ?_
  refine va_get (D := D) (ci := 3) (v := .int (zI Qsize)) (C := RX3) (T := TX3) (N := 9) hx hb hts hinX3 hown hK hw.1 6 rfl rfl 3 (by decide) (hts (.fieldLink RX3 15 "CarnivalRoad$Parade" "size" "I") (by decide +kernel)) (fun _ h9 => h9) rfl dX3_copyOf_77 ?_
  refine z_put (D := D) (ci := 3) (v := .int (zI Qsize)) (ty := .int) (C := RX3) (T := TX3) (N := 9) (ws2 := kP cI cB cZ oP aPguests aPstreet (cpZ Qline Pline) Qsize Pnow (cpZ Qheads Pheads) (cpZ Qbusy Pbusy) (cpZ Qcame Pcame) (cpZ Qout Pout) ++ kP cI cB cZ oQ aQguests aQstreet Qline Qsize Qnow Qheads Qbusy Qcame Qout) hx hb hts hinX3 tyX3 tyX3_ok nmX3 hown hK hw 0 rfl rfl 3 (by decide) (hts (.fieldLink RX3 15 "CarnivalRoad$Parade" "size" "I") (by decide +kernel)) (fun _ h9 => h9) rfl (by decide +kernel) rfl rfl (Nat.le_of_ble_eq_true rfl) dX3_copyOf_80 rfl (fun H locs hw => ?_)
  refine lv_aload_n hx hb dX3_copyOf_83 rfl (lv_at hl 0 rfl) ?_
  refine lv_aload_n hx hb dX3_copyOf_84 rfl (lv_at hl 1 rfl) ?_
  refine va_get (D := D) (ci := 3) (v := .int (zI Qnow)) (C := RX3) (T := TX3) (N := 9) hx hb hts hinX3 hown hK hw.1 6 rfl rfl 4 (by decide) (hts (.fieldLink RX3 19 "CarnivalRoad$Parade" "now" "I") (by decide +kernel)) (fun _ h9 => h9) rfl dX3_copyOf_85 ?_
  refine z_put (D := D) (ci := 3) (v := .int (zI Qnow)) (ty := .int) (C := RX3) (T := TX3) (N := 9) (ws2 := kP cI cB cZ oP aPguests aPstreet (cpZ Qline Pline) Qsize Qnow (cpZ Qheads Pheads) (cpZ Qbusy Pbusy) (cpZ Qcame Pcame) (cpZ Qout Pout) ++ kP cI cB cZ oQ aQguests aQstreet Qline Qsize Qnow Qheads Qbusy Qcame Qout) hx hb hts hinX3 tyX3 tyX3_ok nmX3 hown hK hw 0 rfl rfl 4 (by decide) (hts (.fieldLink RX3 19 "CarnivalRoad$Parade" "now" "I") (by decide +kernel)) (fun _ h9 => h9) rfl (by decide +kernel) rfl rfl (Nat.le_of_ble_eq_true rfl) dX3_copyOf_88 rfl (fun H locs hw => ?_)
  have hv_6 : (0 : Int) ≤ Qsize ∧ Qsize ≤ 8 := by
    first | rfl | assumption | omega
  have hv_7 : (0 : Int) ≤ Qnow ∧ Qnow ≤ 1000000 := by
    first | rfl | assumption | omega
  have hv_8 : (cpZ Qline Pline) = cpZ Qline Pline := by
    first | rfl | assumption | omega
  have hv_9 : Qsize = Qsize := by
    first | rfl | assumption | omega
  have hv_10 : Qnow = Qnow := by
    first | rfl | assumption | omega
  have hv_11 : (cpZ Qheads Pheads) = cpZ Qheads Pheads := by
    first | rfl | assumption | omega
  have hv_12 : (cpZ Qbusy Pbusy) = cpZ Qbusy Pbusy := by
    first | rfl | assumption | omega
  have hv_13 : (cpZ Qcame Pcame) = cpZ Qcame Pcame := by
    first | rfl | assumption | omega
  have hv_14 : (cpZ Qout Pout) = cpZ Qout Pout := by
    first | rfl | assumption | omega
  exact W.vret hx hb hr (fun t9 ht hW => ⟨⟨((cpZ Qline Pline), Qsize, Qnow, (cpZ Qheads Pheads), (cpZ Qbusy Pbusy), (cpZ Qcame Pcame), (cpZ Qout Pout)), rfl, ⟨hR_1, hv_6, hv_7, hR_2, hR_3, hR_4, hR_5, hv_8, hv_9, hv_10, hv_11, hv_12, hv_13, hv_14⟩, by subst hAe; exact z_end hK hw ht hW⟩, by subst hAe; exact hw.2.2.F ht⟩) (by subst hAe; exact hw.2.2.2.2) dX3_copyOf_91
set_option maxRecDepth 100000 in
set_option maxHeartbeats 4000000 in
theorem c_X3_goToEnd (l : Launch) (D : va_G) (cI cB cZ : ClassId) (oG : Nat → Nat) (oT : Nat → Nat) (oP : Nat → Nat) (sz : Nat) (Gn : Int) (Gki : Int → Int) (Gle : Int → Int) (Glo : Int → Int) (Gta : Int → Int) (Gsh : Int → Int) (Tcells : Int) (Tgap : Int) (Twires : Int → Int) (Tstands : Int → Int) (Pline : Int → Int) (Psize : Int) (Pnow : Int) (Pheads : Int → Int) (Pbusy : Int → Int) (Pcame : Int → Int) (Pout : Int → Int) (B : Nat) (qGn : 0 ≤ Gn ∧ Gn ≤ 8) (qGki : RA Gki (0) 4) (qGle : RA Gle (0) 5) (qGlo : RA Glo (0) 9) (qGta : RA Gta (0) 9) (qGsh : RA Gsh (0) 9) (qTcells : 1 ≤ Tcells ∧ Tcells ≤ 50) (qTgap : 0 ≤ Tgap ∧ Tgap ≤ 3) (qTwires : RA Twires (0) 9) (qTstands : RA Tstands (0) 9) (qPline : RA Pline (0) 7) (qPsize : 0 ≤ Psize ∧ Psize ≤ 8) (qPnow : 0 ≤ Pnow ∧ Pnow ≤ 1000000) (qPheads : RA Pheads (-1) 60) (qPbusy : RA Pbusy (0) 30) (qPcame : RA Pcame (-1) 1000000) (qPout : RA Pout (-1) 1000000) (hp0 : JP Gle Tcells Pheads Pout) (hp1 : Pnow + (B : Int) ≤ 999999) (hp2 : allP Pline Psize (runK Gki Gle Tcells Tgap Tstands Pline Psize Pnow (Pheads, Pbusy, Pcame, Pout) B).2.2.2) : Met l yX3_goToEnd wsX3_goToEnd ({ frames := 4, cells := 0, slots := 0, locals := 87 }) (va_Pc [.ref (oP 0)] (zPre D cI cB cZ sz (kG cI cB cZ oG Gn Gki Gle Glo Gta Gsh ++ kT cI cB cZ oT Tcells Tgap Twires Tstands ++ kP cI cB cZ oP (oG 0) (oT 0) Pline Psize Pnow Pheads Pbusy Pcame Pout))) (va_Qv (fun (u9 : Int × (Int → Int) × (Int → Int) × (Int → Int) × (Int → Int)) => ((0 : Int) ≤ u9.1 ∧ u9.1 ≤ 1000000) ∧ (RA u9.2.1 (-1) 60) ∧ (RA u9.2.2.1 (0) 30) ∧ (RA u9.2.2.2.1 (-1) 1000000) ∧ (RA u9.2.2.2.2 (-1) 1000000) ∧ (∃ k : Nat, k ≤ B ∧ u9.1 = Pnow + (k : Int) ∧ (u9.2.1, u9.2.2.1, u9.2.2.2.1, u9.2.2.2.2) = runK Gki Gle Tcells Tgap Tstands Pline Psize Pnow (Pheads, Pbusy, Pcame, Pout) k ∧ allP Pline Psize u9.2.2.2.2 ∧ ∀ j : Nat, j < k → ¬ allP Pline Psize (runK Gki Gle Tcells Tgap Tstands Pline Psize Pnow (Pheads, Pbusy, Pcame, Pout) j).2.2.2)) (fun u9 t9 => zAt D cI cB cZ (va_A (kG cI cB cZ oG Gn Gki Gle Glo Gta Gsh ++ kT cI cB cZ oT Tcells Tgap Twires Tstands ++ kP cI cB cZ oP (oG 0) (oT 0) Pline Psize Pnow Pheads Pbusy Pcame Pout) sz) (kG cI cB cZ oG Gn Gki Gle Glo Gta Gsh ++ kT cI cB cZ oT Tcells Tgap Twires Tstands ++ kP cI cB cZ oP (oG 0) (oT 0) Pline Psize (u9.1) (u9.2.1) (u9.2.2.1) (u9.2.2.2.1) (u9.2.2.2.2)) t9) (va_A (kG cI cB cZ oG Gn Gki Gle Glo Gta Gsh ++ kT cI cB cZ oT Tcells Tgap Twires Tstands ++ kP cI cB cZ oP (oG 0) (oT 0) Pline Psize Pnow Pheads Pbusy Pcame Pout) sz)) 0 0 (va_A (kG cI cB cZ oG Gn Gki Gle Glo Gta Gsh ++ kT cI cB cZ oT Tcells Tgap Twires Tstands ++ kP cI cB cZ oP (oG 0) (oT 0) Pline Psize Pnow Pheads Pbusy Pcame Pout) sz) := by
  refine Met.ofW (cc := cX3_goToEnd) (maxL := 2) (ret := none) (by decide) rfl ?_
  intro pp ee s mm aa bw mt cd s₁ BL hml hv
  obtain ⟨rfl, hsz, hP, hK, hD0⟩ := hv
  have hx := BL.exec
  have hb := BL.bytes
  have hr := BL.returns
  have hts := atoms_spec (ws := wsX3_goToEnd) BL.pre
  have hown : s.vm.findClass RX3 = some mm.cls := findClass_of_methodNamed BL.named
  have hlocks := BL.notSynchronized
  subst hsz
  generalize hAe : va_A (kG cI cB cZ oG Gn Gki Gle Glo Gta Gsh ++ kT cI cB cZ oT Tcells Tgap Twires Tstands ++ kP cI cB cZ oP (oG 0) (oT 0) Pline Psize Pnow Pheads Pbusy Pcame Pout) s.heap.size = A
  have hA : ∀ q : Nat, s.heap.size ≤ q → A q := fun q h => by rw [← hAe]; exact Or.inr h
  have hw : HW D A s.heap (kG cI cB cZ oG Gn Gki Gle Glo Gta Gsh ++ kT cI cB cZ oT Tcells Tgap Twires Tstands ++ kP cI cB cZ oP (oG 0) (oT 0) Pline Psize Pnow Pheads Pbusy Pcame Pout) s.heap [] := z_start hAe hP hD0
  clear hP hD0
  have hl := lv_entry ([.ref (oP 0)]) (n := 2) (Nat.le_of_ble_eq_true rfl)
  rw [lg_entry_eq]
  generalize (lg_sl ([.ref (oP 0)]) ++ List.replicate (2 - (lg_sl ([.ref (oP 0)])).length) Slot.unset).toArray = ls at hl ⊢
  have hl : lv_has ls 2 [(0, .ref (oP 0))] := hl
  refine z_iconst hx hb dX3_goToEnd_0 ?_
  refine lv_istore_n (lv' := [(1, .int (zI 0)), (0, .ref (oP 0))]) hx hb dX3_goToEnd_1 rfl hl (by decide) rfl (fun ls hl => ?_)
  have hv_1 : (0 : Int) ≤ Pnow ∧ Pnow ≤ 1000000 := by
    first | assumption | omega | grind
  have hv_2 : 0 ≤ (0 : Int) ∧ (0 : Int) ≤ (B : Int) := by
    first | assumption | omega | grind
  have hv_3 : Pnow = Pnow + (0 : Int) := by
    first | assumption | omega | grind
  have hv_4 : (Pheads, Pbusy, Pcame, Pout) = runK Gki Gle Tcells Tgap Tstands Pline Psize Pnow (Pheads, Pbusy, Pcame, Pout) (0 : Int).toNat := by
    rfl
  have hv_5 : ∀ j : Nat, j < (0 : Int).toNat → ¬ allP Pline Psize (runK Gki Gle Tcells Tgap Tstands Pline Psize Pnow (Pheads, Pbusy, Pcame, Pout) j).2.2.2 := by
    intro j hj; omega
  have hv_6 : JP Gle Tcells Pheads Pout := by
    first | assumption | omega | grind
  refine z_loop (σ := Int × Int × (Int → Int) × (Int → Int) × (Int → Int) × (Int → Int)) (μ := fun x9 => ((B : Int) - (x9.1)).toNat) (I := fun x9 H locs ls => ((0 : Int) ≤ (x9.2.1) ∧ (x9.2.1) ≤ 1000000) ∧ (RA (x9.2.2.1) (-1) 60) ∧ (RA (x9.2.2.2.1) (0) 30) ∧ (RA (x9.2.2.2.2.1) (-1) 1000000) ∧ (RA (x9.2.2.2.2.2) (-1) 1000000) ∧ (0 ≤ (x9.1) ∧ (x9.1) ≤ (B : Int)) ∧ ((x9.2.1) = Pnow + (x9.1)) ∧ (((x9.2.2.1), (x9.2.2.2.1), (x9.2.2.2.2.1), (x9.2.2.2.2.2)) = runK Gki Gle Tcells Tgap Tstands Pline Psize Pnow (Pheads, Pbusy, Pcame, Pout) (x9.1).toNat) ∧ (∀ j : Nat, j < (x9.1).toNat → ¬ allP Pline Psize (runK Gki Gle Tcells Tgap Tstands Pline Psize Pnow (Pheads, Pbusy, Pcame, Pout) j).2.2.2) ∧ (JP Gle Tcells (x9.2.2.1) (x9.2.2.2.2.2)) ∧ HW D A s.heap (kG cI cB cZ oG Gn Gki Gle Glo Gta Gsh ++ kT cI cB cZ oT Tcells Tgap Twires Tstands ++ kP cI cB cZ oP (oG 0) (oT 0) Pline Psize (x9.2.1) (x9.2.2.1) (x9.2.2.2.1) (x9.2.2.2.2.1) (x9.2.2.2.2.2)) H locs ∧ lv_has ls 2 [(0, .ref (oP 0)), (1, .int (zI (x9.1)))]) (0, Pnow, Pheads, Pbusy, Pcame, Pout) ⟨hv_1, qPheads, qPbusy, qPcame, qPout, hv_2, hv_3, hv_4, hv_5, hv_6, hw, lv_sub hl [1, 0] rfl⟩ ?_
  clear hw hl
  intro x9 H locs ls hI ih_7
  obtain ⟨i_8, Pnow_9, Pheads_10, Pbusy_11, Pcame_12, Pout_13⟩ := x9
  try dsimp only at hI
  obtain ⟨hq_14, hR_15, hR_16, hR_17, hR_18, hI_19, hI_20, hI_21, hI_22, hI_23, hw, hl⟩ := hI
  refine lv_iload_n hx hb dX3_goToEnd_2 rfl (lv_at hl 1 rfl) ?_
  refine lv_ldc (v := zI 1000000) hx hb hown (hts (.constant RX3 56 (1000000)) (by decide +kernel)) dX3_goToEnd_3 ?_
  refine z_icmp_ge (tgt := 25) hx hb dX3_goToEnd_5 (by decide) (by omega) (fun hc_24 => ?_) (fun hc_24 => ?_)
  · skip
    have hv_25 : (0 : Int) ≤ Pnow_9 ∧ Pnow_9 ≤ 1000000 := by
      first | assumption | omega | grind
    have hv_26 : ∃ k : Nat, k ≤ B ∧ Pnow_9 = Pnow + (k : Int) ∧ (Pheads_10, Pbusy_11, Pcame_12, Pout_13) = runK Gki Gle Tcells Tgap Tstands Pline Psize Pnow (Pheads, Pbusy, Pcame, Pout) k ∧ allP Pline Psize Pout_13 ∧ ∀ j : Nat, j < k → ¬ allP Pline Psize (runK Gki Gle Tcells Tgap Tstands Pline Psize Pnow (Pheads, Pbusy, Pcame, Pout) j).2.2.2 := by
      first | (exfalso; omega) | exact ⟨i_8.toNat, by omega, by omega, by assumption, by assumption, by assumption⟩
    exact W.vret hx hb hr (fun t9 ht hW => ⟨⟨(Pnow_9, Pheads_10, Pbusy_11, Pcame_12, Pout_13), rfl, ⟨hv_25, hR_15, hR_16, hR_17, hR_18, hv_26⟩, by subst hAe; exact z_end hK hw ht hW⟩, by subst hAe; exact hw.2.2.F ht⟩) (by subst hAe; exact hw.2.2.2.2) dX3_goToEnd_25
  · skip
    refine lv_aload_n hx hb dX3_goToEnd_8 rfl (lv_at hl 0 rfl) ?_
    have hF9 := z_free (wc := kG cI cB cZ oG Gn Gki Gle Glo Gta Gsh ++ kT cI cB cZ oT Tcells Tgap Twires Tstands ++ kP cI cB cZ oP (oG 0) (oT 0) Pline Psize Pnow_9 Pheads_10 Pbusy_11 Pcame_12 Pout_13) hw hA [0, 1, 2, 3, 4, 5, 6, 7, 8, 9, 10, 11, 12, 13, 14] rfl
    refine va_calli (va_runV (As := []) (rest := []) ⟨hx, hb, hml, hown, hts⟩ (c_X3_allOut l D cI cB cZ oG oT oP H.size Gn Gki Gle Glo Gta Gsh Tcells Tgap Twires Tstands Pline Psize Pnow_9 Pheads_10 Pbusy_11 Pcame_12 Pout_13 (by omega) qGki qGle qGlo qGta qGsh (by omega) (by omega) qTwires qTstands qPline (by omega) (by omega) hR_15 hR_16 hR_17 hR_18) (cwV 0 hts gX3_goToEnd_X3_allOut rfl rfl rfl (by decide +kernel) ⟨Nat.le_of_ble_eq_true rfl, Nat.le_of_ble_eq_true rfl⟩) ⟨zPre_blind, va_recv hK hw.1 (ci := 3) (q0 := 9) rfl rfl, z_pre hK hw [0, 1, 2, 3, 4, 5, 6, 7, 8, 9, 10, 11, 12, 13, 14] (by decide) rfl⟩ rfl rfl hl.1 rfl (lv_room (Nat.le_of_ble_eq_true rfl)) dX3_goToEnd_9 ⟨Nat.zero_le _, Nat.zero_le _⟩) hw.2.2 (fun q _ h => hF9 q h) hF9 (fun r9 u9 t9 H_27 locs9 ht9 hvm9 hq9 hB9 hz9 hk9 hS9 => ?_)
    obtain ⟨r_28, rfl⟩ : ∃ z, z = u9 := ⟨_, rfl⟩
    try dsimp only at hq9 hB9
    obtain ⟨rfl, hq9⟩ := hq9
    have hq_29 := hq9
    have hw : HW D A s.heap (kG cI cB cZ oG Gn Gki Gle Glo Gta Gsh ++ kT cI cB cZ oT Tcells Tgap Twires Tstands ++ kP cI cB cZ oP (oG 0) (oT 0) Pline Psize Pnow_9 Pheads_10 Pbusy_11 Pcame_12 Pout_13) H_27 locs9 := z_after (wc := kG cI cB cZ oG Gn Gki Gle Glo Gta Gsh ++ kT cI cB cZ oT Tcells Tgap Twires Tstands ++ kP cI cB cZ oP (oG 0) (oT 0) Pline Psize Pnow_9 Pheads_10 Pbusy_11 Pcame_12 Pout_13) hw [0, 1, 2, 3, 4, 5, 6, 7, 8, 9, 10, 11, 12, 13, 14] [] rfl rfl (by decide) (by decide) hF9 hk9 ht9 hB9 hS9 [0, 1, 2, 3, 4, 5, 6, 7, 8, 9, 10, 11, 12, 13, 14] (by decide) rfl
    clear hF9 ht9 hvm9 hB9 hz9 hk9 hS9 hq9
    rcases hq_29 with ⟨hc_30, rfl⟩ | ⟨hc_30, rfl⟩
    · skip
      refine z_if_ne (tgt := 25) hx hb dX3_goToEnd_12 (by decide) (by omega) (fun hc_31 => ?_) (fun hc_31 => absurd hc_31 (by omega))
      have hv_32 : (0 : Int) ≤ Pnow_9 ∧ Pnow_9 ≤ 1000000 := by
        first | assumption | omega | grind
      have hv_33 : ∃ k : Nat, k ≤ B ∧ Pnow_9 = Pnow + (k : Int) ∧ (Pheads_10, Pbusy_11, Pcame_12, Pout_13) = runK Gki Gle Tcells Tgap Tstands Pline Psize Pnow (Pheads, Pbusy, Pcame, Pout) k ∧ allP Pline Psize Pout_13 ∧ ∀ j : Nat, j < k → ¬ allP Pline Psize (runK Gki Gle Tcells Tgap Tstands Pline Psize Pnow (Pheads, Pbusy, Pcame, Pout) j).2.2.2 := by
        first | (exfalso; omega) | exact ⟨i_8.toNat, by omega, by omega, by assumption, by assumption, by assumption⟩
      exact W.vret hx hb hr (fun t9 ht hW => ⟨⟨(Pnow_9, Pheads_10, Pbusy_11, Pcame_12, Pout_13), rfl, ⟨hv_32, hR_15, hR_16, hR_17, hR_18, hv_33⟩, by subst hAe; exact z_end hK hw ht hW⟩, by subst hAe; exact hw.2.2.F ht⟩) (by subst hAe; exact hw.2.2.2.2) dX3_goToEnd_25
    · skip
      refine z_if_ne (tgt := 25) hx hb dX3_goToEnd_12 (by decide) (by omega) (fun hc_34 => absurd hc_34 (by omega)) (fun hc_34 => ?_)
      refine lv_aload_n hx hb dX3_goToEnd_15 rfl (lv_at hl 0 rfl) ?_
      have hpre_35 : Pnow_9 ≤ 999999 := by
        omega
      have hpre_36 : JP Gle Tcells Pheads_10 Pout_13 := by
        first | assumption | omega | grind
      have hF9 := z_free (wc := kG cI cB cZ oG Gn Gki Gle Glo Gta Gsh ++ kT cI cB cZ oT Tcells Tgap Twires Tstands ++ kP cI cB cZ oP (oG 0) (oT 0) Pline Psize Pnow_9 Pheads_10 Pbusy_11 Pcame_12 Pout_13) hw hA [0, 1, 2, 3, 4, 5, 6, 7, 8, 9, 10, 11, 12, 13, 14] rfl
      refine va_callv (va_runV (As := []) (rest := []) ⟨hx, hb, hml, hown, hts⟩ (c_X3_step l D cI cB cZ oG oT oP H_27.size Gn Gki Gle Glo Gta Gsh Tcells Tgap Twires Tstands Pline Psize Pnow_9 Pheads_10 Pbusy_11 Pcame_12 Pout_13 (by omega) qGki qGle qGlo qGta qGsh (by omega) (by omega) qTwires qTstands qPline (by omega) (by omega) hR_15 hR_16 hR_17 hR_18 hpre_35 hpre_36) (cwV 0 hts gX3_goToEnd_X3_step rfl rfl rfl (by decide +kernel) ⟨Nat.le_of_ble_eq_true rfl, Nat.le_of_ble_eq_true rfl⟩) ⟨zPre_blind, va_recv hK hw.1 (ci := 3) (q0 := 9) rfl rfl, z_pre hK hw [0, 1, 2, 3, 4, 5, 6, 7, 8, 9, 10, 11, 12, 13, 14] (by decide) rfl⟩ rfl rfl hl.1 rfl (lv_room (Nat.le_of_ble_eq_true rfl)) dX3_goToEnd_16 ⟨Nat.zero_le _, Nat.zero_le _⟩) hw.2.2 (fun q _ h => hF9 q h) hF9 (fun u9 t9 H_37 locs9 ht9 hvm9 hq9 hB9 hz9 hk9 hS9 => ?_)
      obtain ⟨Pnow_38, Pheads_39, Pbusy_40, Pcame_41, Pout_42⟩ := u9
      try dsimp only at hq9 hB9
      obtain ⟨hq_43, hq_44, hq_45, hq_46, hq_47, hq_48, hq_49, hq_50⟩ := hq9
      have hw : HW D A s.heap (kG cI cB cZ oG Gn Gki Gle Glo Gta Gsh ++ kT cI cB cZ oT Tcells Tgap Twires Tstands ++ kP cI cB cZ oP (oG 0) (oT 0) Pline Psize Pnow_38 Pheads_39 Pbusy_40 Pcame_41 Pout_42) H_37 locs9 := z_after (wc := kG cI cB cZ oG Gn Gki Gle Glo Gta Gsh ++ kT cI cB cZ oT Tcells Tgap Twires Tstands ++ kP cI cB cZ oP (oG 0) (oT 0) Pline Psize Pnow_9 Pheads_10 Pbusy_11 Pcame_12 Pout_13) hw [0, 1, 2, 3, 4, 5, 6, 7, 8, 9, 10, 11, 12, 13, 14] [] rfl rfl (by decide) (by decide) hF9 hk9 ht9 hB9 hS9 [0, 1, 2, 3, 4, 5, 6, 7, 8, 9, 10, 11, 12, 13, 14] (by decide) rfl
      clear hF9 ht9 hvm9 hB9 hz9 hk9 hS9
      refine z_iinc (k := 1) (lv' := [(1, .int (zI (i_8 + 1))), (0, .ref (oP 0))]) hx hb dX3_goToEnd_19 hl rfl (by decide) rfl (fun ls hl => ?_)
      refine lv_goto (tgt := 2) hx hb dX3_goToEnd_22 (by decide) ?_
      have hv_51 : (0 : Int) ≤ Pnow_38 ∧ Pnow_38 ≤ 1000000 := by
        first | assumption | omega | grind
      have hv_52 : 0 ≤ (i_8 + 1) ∧ (i_8 + 1) ≤ (B : Int) := by
        have hq := end_lt (by assumption) hp2 (by assumption) (by omega) (by omega)
        omega
      have hv_53 : Pnow_38 = Pnow + (i_8 + 1) := by
        first | assumption | omega | grind
      have hv_54 : (Pheads_39, Pbusy_40, Pcame_41, Pout_42) = runK Gki Gle Tcells Tgap Tstands Pline Psize Pnow (Pheads, Pbusy, Pcame, Pout) (i_8 + 1).toNat := by
        exact run_step (by omega) (by assumption) (by assumption) (by omega)
      have hv_55 : ∀ j : Nat, j < (i_8 + 1).toNat → ¬ allP Pline Psize (runK Gki Gle Tcells Tgap Tstands Pline Psize Pnow (Pheads, Pbusy, Pcame, Pout) j).2.2.2 := by
        exact run_not (P := fun s => allP Pline Psize s.2.2.2) (by omega) (by assumption) (by rw [← (by assumption : (Pheads_10, Pbusy_11, Pcame_12, Pout_13) = runK Gki Gle Tcells Tgap Tstands Pline Psize Pnow (Pheads, Pbusy, Pcame, Pout) i_8.toNat)]; assumption)
      have hv_56 : JP Gle Tcells Pheads_39 Pout_42 := by
        first | assumption | omega | grind
      have hm_57 : ((B : Int) - (i_8 + 1)).toNat < ((B : Int) - i_8).toNat := by
        omega
      exact ih_7 ((i_8 + 1), Pnow_38, Pheads_39, Pbusy_40, Pcame_41, Pout_42) _ _ _ ⟨hv_51, hq_44, hq_45, hq_46, hq_47, hv_52, hv_53, hv_54, hv_55, hv_56, hw, lv_sub hl [1, 0] rfl⟩ hm_57
set_option maxRecDepth 100000 in
set_option maxHeartbeats 4000000 in
theorem c_X3_standsOn (l : Launch) (D : va_G) (cI cB cZ : ClassId) (oG : Nat → Nat) (oT : Nat → Nat) (oP : Nat → Nat) (sz : Nat) (Gn : Int) (Gki : Int → Int) (Gle : Int → Int) (Glo : Int → Int) (Gta : Int → Int) (Gsh : Int → Int) (Tcells : Int) (Tgap : Int) (Twires : Int → Int) (Tstands : Int → Int) (Pline : Int → Int) (Psize : Int) (Pnow : Int) (Pheads : Int → Int) (Pbusy : Int → Int) (Pcame : Int → Int) (Pout : Int → Int) (c : Int) (qGn : 0 ≤ Gn ∧ Gn ≤ 8) (qGki : RA Gki (0) 4) (qGle : RA Gle (0) 5) (qGlo : RA Glo (0) 9) (qGta : RA Gta (0) 9) (qGsh : RA Gsh (0) 9) (qTcells : 1 ≤ Tcells ∧ Tcells ≤ 50) (qTgap : 0 ≤ Tgap ∧ Tgap ≤ 3) (qTwires : RA Twires (0) 9) (qTstands : RA Tstands (0) 9) (qPline : RA Pline (0) 7) (qPsize : 0 ≤ Psize ∧ Psize ≤ 8) (qPnow : 0 ≤ Pnow ∧ Pnow ≤ 1000000) (qPheads : RA Pheads (-1) 60) (qPbusy : RA Pbusy (0) 30) (qPcame : RA Pcame (-1) 1000000) (qPout : RA Pout (-1) 1000000) (qc : -2147483648 ≤ c ∧ c ≤ 2147483647) : Met l yX3_standsOn wsX3_standsOn ({ frames := 2, cells := 0, slots := 0, locals := 42 }) (va_Pc [.ref (oP 0), .int (zI c)] (zPre D cI cB cZ sz (kG cI cB cZ oG Gn Gki Gle Glo Gta Gsh ++ kT cI cB cZ oT Tcells Tgap Twires Tstands ++ kP cI cB cZ oP (oG 0) (oT 0) Pline Psize Pnow Pheads Pbusy Pcame Pout))) (va_Qi (fun (r9 : Int32) (u9 : Int) => r9 = zI u9 ∧ (((u9 = -1 ∧ ∀ i, 0 ≤ i → i < Psize → ¬ covP Gle Pheads Pout c (Pline i)) ∨ (∃ i, 0 ≤ i ∧ i < Psize ∧ u9 = Pline i ∧ covP Gle Pheads Pout c (Pline i))))) (fun u9 t9 => zAt D cI cB cZ (va_A (kG cI cB cZ oG Gn Gki Gle Glo Gta Gsh ++ kT cI cB cZ oT Tcells Tgap Twires Tstands ++ kP cI cB cZ oP (oG 0) (oT 0) Pline Psize Pnow Pheads Pbusy Pcame Pout) sz) (kG cI cB cZ oG Gn Gki Gle Glo Gta Gsh ++ kT cI cB cZ oT Tcells Tgap Twires Tstands ++ kP cI cB cZ oP (oG 0) (oT 0) Pline Psize Pnow Pheads Pbusy Pcame Pout) t9) (va_A (kG cI cB cZ oG Gn Gki Gle Glo Gta Gsh ++ kT cI cB cZ oT Tcells Tgap Twires Tstands ++ kP cI cB cZ oP (oG 0) (oT 0) Pline Psize Pnow Pheads Pbusy Pcame Pout) sz)) 0 0 (va_A (kG cI cB cZ oG Gn Gki Gle Glo Gta Gsh ++ kT cI cB cZ oT Tcells Tgap Twires Tstands ++ kP cI cB cZ oP (oG 0) (oT 0) Pline Psize Pnow Pheads Pbusy Pcame Pout) sz) := by
  refine Met.ofW (cc := cX3_standsOn) (maxL := 4) (ret := (some .int)) (by decide) rfl ?_
  intro pp ee s mm aa bw mt cd s₁ BL hml hv
  obtain ⟨rfl, hsz, hP, hK, hD0⟩ := hv
  have hx := BL.exec
  have hb := BL.bytes
  have hr := BL.returns
  have hts := atoms_spec (ws := wsX3_standsOn) BL.pre
  have hown : s.vm.findClass RX3 = some mm.cls := findClass_of_methodNamed BL.named
  have hlocks := BL.notSynchronized
  subst hsz
  generalize hAe : va_A (kG cI cB cZ oG Gn Gki Gle Glo Gta Gsh ++ kT cI cB cZ oT Tcells Tgap Twires Tstands ++ kP cI cB cZ oP (oG 0) (oT 0) Pline Psize Pnow Pheads Pbusy Pcame Pout) s.heap.size = A
  have hA : ∀ q : Nat, s.heap.size ≤ q → A q := fun q h => by rw [← hAe]; exact Or.inr h
  have hw : HW D A s.heap (kG cI cB cZ oG Gn Gki Gle Glo Gta Gsh ++ kT cI cB cZ oT Tcells Tgap Twires Tstands ++ kP cI cB cZ oP (oG 0) (oT 0) Pline Psize Pnow Pheads Pbusy Pcame Pout) s.heap [] := z_start hAe hP hD0
  clear hP hD0
  have hl := lv_entry ([.ref (oP 0), .int (zI c)]) (n := 4) (Nat.le_of_ble_eq_true rfl)
  rw [lg_entry_eq]
  generalize (lg_sl ([.ref (oP 0), .int (zI c)]) ++ List.replicate (4 - (lg_sl ([.ref (oP 0), .int (zI c)])).length) Slot.unset).toArray = ls at hl ⊢
  have hl : lv_has ls 4 [(0, .ref (oP 0)), (1, .int (zI c))] := hl
  have hinX3 : ∀ w ∈ wsX30, w ∈ wsX3_standsOn := by decide +kernel
  refine z_iconst hx hb dX3_standsOn_0 ?_
  refine lv_istore_n (lv' := [(2, .int (zI 0)), (0, .ref (oP 0)), (1, .int (zI c))]) hx hb dX3_standsOn_1 rfl hl (by decide) rfl (fun ls hl => ?_)
  have hv_1 : 0 ≤ (0 : Int) ∧ (0 : Int) ≤ Psize := by
    first | assumption | omega | grind
  have hv_2 : ∀ k, 0 ≤ k → k < (0 : Int) → ¬ covP Gle Pheads Pout c (Pline k) := by
    exact all_0
  refine z_loop (σ := Int) (μ := fun x9 => (9 - x9).toNat) (I := fun x9 H locs ls => (0 ≤ x9 ∧ x9 ≤ Psize) ∧ (∀ k, 0 ≤ k → k < x9 → ¬ covP Gle Pheads Pout c (Pline k)) ∧ HW D A s.heap (kG cI cB cZ oG Gn Gki Gle Glo Gta Gsh ++ kT cI cB cZ oT Tcells Tgap Twires Tstands ++ kP cI cB cZ oP (oG 0) (oT 0) Pline Psize Pnow Pheads Pbusy Pcame Pout) H locs ∧ lv_has ls 4 [(0, .ref (oP 0)), (1, .int (zI c)), (2, .int (zI x9))]) 0 ⟨hv_1, hv_2, hw, lv_sub hl [1, 2, 0] rfl⟩ ?_
  clear hw hl
  intro i_4 H locs ls hI ih_3
  try dsimp only at hI
  obtain ⟨hI_5, hI_6, hw, hl⟩ := hI
  refine lv_iload_n hx hb dX3_standsOn_2 rfl (lv_at hl 2 rfl) ?_
  refine lv_aload_n hx hb dX3_standsOn_3 rfl (lv_at hl 0 rfl) ?_
  refine va_get (D := D) (ci := 3) (v := .int (zI Psize)) (C := RX3) (T := TX3) (N := 9) hx hb hts hinX3 hown hK hw.1 9 rfl rfl 3 (by decide) (hts (.fieldLink RX3 15 "CarnivalRoad$Parade" "size" "I") (by decide +kernel)) (fun _ h9 => h9) rfl dX3_standsOn_4 ?_
  refine z_icmp_ge (tgt := 52) hx hb dX3_standsOn_7 (by decide) (by omega) (fun hc_7 => ?_) (fun hc_7 => ?_)
  · skip
    refine z_iconst hx hb dX3_standsOn_52 ?_
    have hv_8 : (((-1) : Int) = -1 ∧ ∀ i, 0 ≤ i → i < Psize → ¬ covP Gle Pheads Pout c (Pline i)) ∨ (∃ i, 0 ≤ i ∧ i < Psize ∧ ((-1) : Int) = Pline i ∧ covP Gle Pheads Pout c (Pline i)) := by
      exact Or.inl ⟨rfl, all_le (by assumption) (by omega)⟩
    exact W.iret (v := zI (-1)) hx hb hr (fun t9 ht hW => ⟨⟨zI (-1), (-1), rfl, ⟨rfl, hv_8⟩, by subst hAe; exact z_end hK hw ht hW⟩, by subst hAe; exact hw.2.2.F ht⟩) (by subst hAe; exact hw.2.2.2.2) dX3_standsOn_53
  · skip
    refine lv_aload_n hx hb dX3_standsOn_10 rfl (lv_at hl 0 rfl) ?_
    refine va_get (D := D) (ci := 3) (v := .ref (oP 1)) (C := RX3) (T := TX3) (N := 9) hx hb hts hinX3 hown hK hw.1 9 rfl rfl 2 (by decide) (hts (.fieldLink RX3 9 "CarnivalRoad$Parade" "line" "[I") (by decide +kernel)) (fun _ h9 => h9) rfl dX3_standsOn_11 ?_
    refine lv_iload_n hx hb dX3_standsOn_14 rfl (lv_at hl 2 rfl) ?_
    have hi_9 : (0 : Int) ≤ i_4 ∧ i_4 < ((8 : Nat) : Int) := by
      first | assumption | omega | grind
    refine z_iald (n := 8) (f := Pline) hx hb hK hw 10 rfl (by decide) hi_9 dX3_standsOn_15 ?_
    have hq_10 : 0 ≤ Pline i_4 ∧ Pline i_4 ≤ 7 := qPline i_4
    refine lv_istore_n (lv' := [(3, .int (zI (Pline i_4))), (0, .ref (oP 0)), (1, .int (zI c)), (2, .int (zI i_4))]) hx hb dX3_standsOn_16 rfl hl (by decide) rfl (fun ls hl => ?_)
    refine lv_aload_n hx hb dX3_standsOn_17 rfl (lv_at hl 1 rfl) ?_
    refine lv_iload_n hx hb dX3_standsOn_18 rfl (lv_at hl 0 rfl) ?_
    have hF9 := z_free (wc := kG cI cB cZ oG Gn Gki Gle Glo Gta Gsh ++ kT cI cB cZ oT Tcells Tgap Twires Tstands ++ kP cI cB cZ oP (oG 0) (oT 0) Pline Psize Pnow Pheads Pbusy Pcame Pout) hw hA [0, 1, 2, 3, 4, 5, 6, 7, 8, 9, 10, 11, 12, 13, 14] rfl
    refine va_calli (va_runV (As := [.int (zI (Pline i_4))]) (rest := []) ⟨hx, hb, hml, hown, hts⟩ (c_X3_isOnRoad l D cI cB cZ oG oT oP H.size Gn Gki Gle Glo Gta Gsh Tcells Tgap Twires Tstands Pline Psize Pnow Pheads Pbusy Pcame Pout (Pline i_4) (by omega) qGki qGle qGlo qGta qGsh (by omega) (by omega) qTwires qTstands qPline (by omega) (by omega) qPheads qPbusy qPcame qPout (by omega)) (cwV 1 hts gX3_standsOn_X3_isOnRoad rfl rfl rfl (by decide +kernel) ⟨Nat.le_of_ble_eq_true rfl, Nat.le_of_ble_eq_true rfl⟩) ⟨zPre_blind, va_recv hK hw.1 (ci := 3) (q0 := 9) rfl rfl, z_pre hK hw [0, 1, 2, 3, 4, 5, 6, 7, 8, 9, 10, 11, 12, 13, 14] (by decide) rfl⟩ rfl rfl hl.1 rfl (lv_room (Nat.le_of_ble_eq_true rfl)) dX3_standsOn_19 ⟨Nat.zero_le _, Nat.zero_le _⟩) hw.2.2 (fun q _ h => hF9 q h) hF9 (fun r9 u9 t9 H_11 locs9 ht9 hvm9 hq9 hB9 hz9 hk9 hS9 => ?_)
    obtain ⟨r_12, rfl⟩ : ∃ z, z = u9 := ⟨_, rfl⟩
    try dsimp only at hq9 hB9
    obtain ⟨rfl, hq9⟩ := hq9
    have hq_13 := hq9
    have hw : HW D A s.heap (kG cI cB cZ oG Gn Gki Gle Glo Gta Gsh ++ kT cI cB cZ oT Tcells Tgap Twires Tstands ++ kP cI cB cZ oP (oG 0) (oT 0) Pline Psize Pnow Pheads Pbusy Pcame Pout) H_11 locs9 := z_after (wc := kG cI cB cZ oG Gn Gki Gle Glo Gta Gsh ++ kT cI cB cZ oT Tcells Tgap Twires Tstands ++ kP cI cB cZ oP (oG 0) (oT 0) Pline Psize Pnow Pheads Pbusy Pcame Pout) hw [0, 1, 2, 3, 4, 5, 6, 7, 8, 9, 10, 11, 12, 13, 14] [] rfl rfl (by decide) (by decide) hF9 hk9 ht9 hB9 hS9 [0, 1, 2, 3, 4, 5, 6, 7, 8, 9, 10, 11, 12, 13, 14] (by decide) rfl
    clear hF9 ht9 hvm9 hB9 hz9 hk9 hS9 hq9
    rcases hq_13 with ⟨hc_14, rfl⟩ | ⟨hc_14, rfl⟩
    · skip
      refine z_if_eq (tgt := 46) hx hb dX3_standsOn_22 (by decide) (by omega) (fun hc_15 => absurd hc_15 (by omega)) (fun hc_15 => ?_)
      refine lv_aload_n hx hb dX3_standsOn_25 rfl (lv_at hl 1 rfl) ?_
      refine lv_iload_n hx hb dX3_standsOn_26 rfl (lv_at hl 0 rfl) ?_
      have hF9 := z_free (wc := kG cI cB cZ oG Gn Gki Gle Glo Gta Gsh ++ kT cI cB cZ oT Tcells Tgap Twires Tstands ++ kP cI cB cZ oP (oG 0) (oT 0) Pline Psize Pnow Pheads Pbusy Pcame Pout) hw hA [0, 1, 2, 3, 4, 5, 6, 7, 8, 9, 10, 11, 12, 13, 14] rfl
      refine va_calli (va_runV (As := [.int (zI (Pline i_4))]) (rest := []) ⟨hx, hb, hml, hown, hts⟩ (c_X3_tailOf l D cI cB cZ oG oT oP H_11.size Gn Gki Gle Glo Gta Gsh Tcells Tgap Twires Tstands Pline Psize Pnow Pheads Pbusy Pcame Pout (Pline i_4) (by omega) qGki qGle qGlo qGta qGsh (by omega) (by omega) qTwires qTstands qPline (by omega) (by omega) qPheads qPbusy qPcame qPout (by omega)) (cwV 1 hts gX3_standsOn_X3_tailOf rfl rfl rfl (by decide +kernel) ⟨Nat.le_of_ble_eq_true rfl, Nat.le_of_ble_eq_true rfl⟩) ⟨zPre_blind, va_recv hK hw.1 (ci := 3) (q0 := 9) rfl rfl, z_pre hK hw [0, 1, 2, 3, 4, 5, 6, 7, 8, 9, 10, 11, 12, 13, 14] (by decide) rfl⟩ rfl rfl hl.1 rfl (lv_room (Nat.le_of_ble_eq_true rfl)) dX3_standsOn_27 ⟨Nat.zero_le _, Nat.zero_le _⟩) hw.2.2 (fun q _ h => hF9 q h) hF9 (fun r9 u9 t9 H_16 locs9 ht9 hvm9 hq9 hB9 hz9 hk9 hS9 => ?_)
      obtain ⟨r_17, rfl⟩ : ∃ z, z = u9 := ⟨_, rfl⟩
      try dsimp only at hq9 hB9
      obtain ⟨rfl, hq9⟩ := hq9
      obtain ⟨hq_18, hq_19⟩ := hq9
      have hw : HW D A s.heap (kG cI cB cZ oG Gn Gki Gle Glo Gta Gsh ++ kT cI cB cZ oT Tcells Tgap Twires Tstands ++ kP cI cB cZ oP (oG 0) (oT 0) Pline Psize Pnow Pheads Pbusy Pcame Pout) H_16 locs9 := z_after (wc := kG cI cB cZ oG Gn Gki Gle Glo Gta Gsh ++ kT cI cB cZ oT Tcells Tgap Twires Tstands ++ kP cI cB cZ oP (oG 0) (oT 0) Pline Psize Pnow Pheads Pbusy Pcame Pout) hw [0, 1, 2, 3, 4, 5, 6, 7, 8, 9, 10, 11, 12, 13, 14] [] rfl rfl (by decide) (by decide) hF9 hk9 ht9 hB9 hS9 [0, 1, 2, 3, 4, 5, 6, 7, 8, 9, 10, 11, 12, 13, 14] (by decide) rfl
      clear hF9 ht9 hvm9 hB9 hz9 hk9 hS9
      refine lv_iload_n hx hb dX3_standsOn_30 rfl (lv_at hl 2 rfl) ?_
      refine z_icmp_gt (tgt := 46) hx hb dX3_standsOn_31 (by decide) (by omega) (fun hc_20 => ?_) (fun hc_20 => ?_)
      · skip
        refine z_iinc (k := 3) (lv' := [(2, .int (zI (i_4 + 1))), (3, .int (zI (Pline i_4))), (0, .ref (oP 0)), (1, .int (zI c))]) hx hb dX3_standsOn_46 hl rfl (by decide) rfl (fun ls hl => ?_)
        refine lv_goto (tgt := 2) hx hb dX3_standsOn_49 (by decide) ?_
        have hv_21 : 0 ≤ (i_4 + 1) ∧ (i_4 + 1) ≤ Psize := by
          first | assumption | omega | grind
        have hv_22 : ∀ k, 0 ≤ k → k < (i_4 + 1) → ¬ covP Gle Pheads Pout c (Pline k) := by
          refine all_s (by assumption) ?_
          intro q
          first | exact absurd q.1 (by assumption) | (have q2 := q.2; omega)
        have hm_23 : (9 - (i_4 + 1)).toNat < (9 - i_4).toNat := by
          first | assumption | omega | grind
        exact ih_3 (i_4 + 1) _ _ _ ⟨hv_21, hv_22, hw, lv_sub hl [2, 3, 0] rfl⟩ hm_23
      · skip
        refine lv_iload_n hx hb dX3_standsOn_34 rfl (lv_at hl 2 rfl) ?_
        refine lv_aload_n hx hb dX3_standsOn_35 rfl (lv_at hl 1 rfl) ?_
        refine va_get (D := D) (ci := 3) (v := .ref (oP 2)) (C := RX3) (T := TX3) (N := 9) hx hb hts hinX3 hown hK hw.1 9 rfl rfl 5 (by decide) (hts (.fieldLink RX3 22 "CarnivalRoad$Parade" "heads" "[I") (by decide +kernel)) (fun _ h9 => h9) rfl dX3_standsOn_36 ?_
        refine lv_iload_n hx hb dX3_standsOn_39 rfl (lv_at hl 0 rfl) ?_
        have hi_24 : (0 : Int) ≤ (Pline i_4) ∧ (Pline i_4) < ((8 : Nat) : Int) := by
          first | assumption | omega | grind
        refine z_iald (n := 8) (f := Pheads) hx hb hK hw 11 rfl (by decide) hi_24 dX3_standsOn_40 ?_
        have hq_25 : -1 ≤ Pheads (Pline i_4) ∧ Pheads (Pline i_4) ≤ 60 := qPheads (Pline i_4)
        refine z_icmp_gt (tgt := 46) hx hb dX3_standsOn_41 (by decide) (by omega) (fun hc_26 => ?_) (fun hc_26 => ?_)
        · skip
          refine z_iinc (k := 3) (lv' := [(2, .int (zI (i_4 + 1))), (3, .int (zI (Pline i_4))), (0, .ref (oP 0)), (1, .int (zI c))]) hx hb dX3_standsOn_46 hl rfl (by decide) rfl (fun ls hl => ?_)
          refine lv_goto (tgt := 2) hx hb dX3_standsOn_49 (by decide) ?_
          have hv_27 : 0 ≤ (i_4 + 1) ∧ (i_4 + 1) ≤ Psize := by
            first | assumption | omega | grind
          have hv_28 : ∀ k, 0 ≤ k → k < (i_4 + 1) → ¬ covP Gle Pheads Pout c (Pline k) := by
            refine all_s (by assumption) ?_
            intro q
            first | exact absurd q.1 (by assumption) | (have q2 := q.2; omega)
          have hm_29 : (9 - (i_4 + 1)).toNat < (9 - i_4).toNat := by
            first | assumption | omega | grind
          exact ih_3 (i_4 + 1) _ _ _ ⟨hv_27, hv_28, hw, lv_sub hl [2, 3, 0] rfl⟩ hm_29
        · skip
          refine lv_iload_n hx hb dX3_standsOn_44 rfl (lv_at hl 0 rfl) ?_
          have hv_30 : ((Pline i_4) = -1 ∧ ∀ i, 0 ≤ i → i < Psize → ¬ covP Gle Pheads Pout c (Pline i)) ∨ (∃ i, 0 ≤ i ∧ i < Psize ∧ (Pline i_4) = Pline i ∧ covP Gle Pheads Pout c (Pline i)) := by
            exact Or.inr ⟨i_4, by omega, by omega, rfl, ⟨by assumption, by omega⟩⟩
          exact W.iret (v := zI (Pline i_4)) hx hb hr (fun t9 ht hW => ⟨⟨zI (Pline i_4), (Pline i_4), rfl, ⟨rfl, hv_30⟩, by subst hAe; exact z_end hK hw ht hW⟩, by subst hAe; exact hw.2.2.F ht⟩) (by subst hAe; exact hw.2.2.2.2) dX3_standsOn_45
    · skip
      refine z_if_eq (tgt := 46) hx hb dX3_standsOn_22 (by decide) (by omega) (fun hc_31 => ?_) (fun hc_31 => absurd hc_31 (by omega))
      refine z_iinc (k := 3) (lv' := [(2, .int (zI (i_4 + 1))), (3, .int (zI (Pline i_4))), (0, .ref (oP 0)), (1, .int (zI c))]) hx hb dX3_standsOn_46 hl rfl (by decide) rfl (fun ls hl => ?_)
      refine lv_goto (tgt := 2) hx hb dX3_standsOn_49 (by decide) ?_
      have hv_32 : 0 ≤ (i_4 + 1) ∧ (i_4 + 1) ≤ Psize := by
        first | assumption | omega | grind
      have hv_33 : ∀ k, 0 ≤ k → k < (i_4 + 1) → ¬ covP Gle Pheads Pout c (Pline k) := by
        refine all_s (by assumption) ?_
        intro q
        first | exact absurd q.1 (by assumption) | (have q2 := q.2; omega)
      have hm_34 : (9 - (i_4 + 1)).toNat < (9 - i_4).toNat := by
        first | assumption | omega | grind
      exact ih_3 (i_4 + 1) _ _ _ ⟨hv_32, hv_33, hw, lv_sub hl [2, 3, 0] rfl⟩ hm_34
set_option maxRecDepth 100000 in
set_option maxHeartbeats 4000000 in
theorem c_X3_widestHole (l : Launch) (D : va_G) (cI cB cZ : ClassId) (oG : Nat → Nat) (oT : Nat → Nat) (oP : Nat → Nat) (sz : Nat) (Gn : Int) (Gki : Int → Int) (Gle : Int → Int) (Glo : Int → Int) (Gta : Int → Int) (Gsh : Int → Int) (Tcells : Int) (Tgap : Int) (Twires : Int → Int) (Tstands : Int → Int) (Pline : Int → Int) (Psize : Int) (Pnow : Int) (Pheads : Int → Int) (Pbusy : Int → Int) (Pcame : Int → Int) (Pout : Int → Int) (qGn : 0 ≤ Gn ∧ Gn ≤ 8) (qGki : RA Gki (0) 4) (qGle : RA Gle (0) 5) (qGlo : RA Glo (0) 9) (qGta : RA Gta (0) 9) (qGsh : RA Gsh (0) 9) (qTcells : 1 ≤ Tcells ∧ Tcells ≤ 50) (qTgap : 0 ≤ Tgap ∧ Tgap ≤ 3) (qTwires : RA Twires (0) 9) (qTstands : RA Tstands (0) 9) (qPline : RA Pline (0) 7) (qPsize : 0 ≤ Psize ∧ Psize ≤ 8) (qPnow : 0 ≤ Pnow ∧ Pnow ≤ 1000000) (qPheads : RA Pheads (-1) 60) (qPbusy : RA Pbusy (0) 30) (qPcame : RA Pcame (-1) 1000000) (qPout : RA Pout (-1) 1000000) : Met l yX3_widestHole wsX3_widestHole ({ frames := 2, cells := 0, slots := 0, locals := 42 }) (va_Pc [.ref (oP 0)] (zPre D cI cB cZ sz (kG cI cB cZ oG Gn Gki Gle Glo Gta Gsh ++ kT cI cB cZ oT Tcells Tgap Twires Tstands ++ kP cI cB cZ oP (oG 0) (oT 0) Pline Psize Pnow Pheads Pbusy Pcame Pout))) (va_Qi (fun (r9 : Int32) (u9 : Int) => r9 = zI u9 ∧ ((u9 = (holeK Gle Pline Pheads Pout Psize.toNat).1) ∧ (0 ≤ u9 ∧ u9 ≤ 1000))) (fun u9 t9 => zAt D cI cB cZ (va_A (kG cI cB cZ oG Gn Gki Gle Glo Gta Gsh ++ kT cI cB cZ oT Tcells Tgap Twires Tstands ++ kP cI cB cZ oP (oG 0) (oT 0) Pline Psize Pnow Pheads Pbusy Pcame Pout) sz) (kG cI cB cZ oG Gn Gki Gle Glo Gta Gsh ++ kT cI cB cZ oT Tcells Tgap Twires Tstands ++ kP cI cB cZ oP (oG 0) (oT 0) Pline Psize Pnow Pheads Pbusy Pcame Pout) t9) (va_A (kG cI cB cZ oG Gn Gki Gle Glo Gta Gsh ++ kT cI cB cZ oT Tcells Tgap Twires Tstands ++ kP cI cB cZ oP (oG 0) (oT 0) Pline Psize Pnow Pheads Pbusy Pcame Pout) sz)) 0 0 (va_A (kG cI cB cZ oG Gn Gki Gle Glo Gta Gsh ++ kT cI cB cZ oT Tcells Tgap Twires Tstands ++ kP cI cB cZ oP (oG 0) (oT 0) Pline Psize Pnow Pheads Pbusy Pcame Pout) sz) := by
  refine Met.ofW (cc := cX3_widestHole) (maxL := 5) (ret := (some .int)) (by decide) rfl ?_
  intro pp ee s mm aa bw mt cd s₁ BL hml hv
  obtain ⟨rfl, hsz, hP, hK, hD0⟩ := hv
  have hx := BL.exec
  have hb := BL.bytes
  have hr := BL.returns
  have hts := atoms_spec (ws := wsX3_widestHole) BL.pre
  have hown : s.vm.findClass RX3 = some mm.cls := findClass_of_methodNamed BL.named
  have hlocks := BL.notSynchronized
  subst hsz
  generalize hAe : va_A (kG cI cB cZ oG Gn Gki Gle Glo Gta Gsh ++ kT cI cB cZ oT Tcells Tgap Twires Tstands ++ kP cI cB cZ oP (oG 0) (oT 0) Pline Psize Pnow Pheads Pbusy Pcame Pout) s.heap.size = A
  have hA : ∀ q : Nat, s.heap.size ≤ q → A q := fun q h => by rw [← hAe]; exact Or.inr h
  have hw : HW D A s.heap (kG cI cB cZ oG Gn Gki Gle Glo Gta Gsh ++ kT cI cB cZ oT Tcells Tgap Twires Tstands ++ kP cI cB cZ oP (oG 0) (oT 0) Pline Psize Pnow Pheads Pbusy Pcame Pout) s.heap [] := z_start hAe hP hD0
  clear hP hD0
  have hl := lv_entry ([.ref (oP 0)]) (n := 5) (Nat.le_of_ble_eq_true rfl)
  rw [lg_entry_eq]
  generalize (lg_sl ([.ref (oP 0)]) ++ List.replicate (5 - (lg_sl ([.ref (oP 0)])).length) Slot.unset).toArray = ls at hl ⊢
  have hl : lv_has ls 5 [(0, .ref (oP 0))] := hl
  have hinX3 : ∀ w ∈ wsX30, w ∈ wsX3_widestHole := by decide +kernel
  refine z_iconst hx hb dX3_widestHole_0 ?_
  refine lv_istore_n (lv' := [(1, .int (zI 0)), (0, .ref (oP 0))]) hx hb dX3_widestHole_1 rfl hl (by decide) rfl (fun ls hl => ?_)
  refine z_iconst hx hb dX3_widestHole_2 ?_
  refine lv_istore_n (lv' := [(2, .int (zI (-1))), (1, .int (zI 0)), (0, .ref (oP 0))]) hx hb dX3_widestHole_3 rfl hl (by decide) rfl (fun ls hl => ?_)
  refine z_iconst hx hb dX3_widestHole_4 ?_
  refine lv_istore_n (lv' := [(3, .int (zI 0)), (2, .int (zI (-1))), (1, .int (zI 0)), (0, .ref (oP 0))]) hx hb dX3_widestHole_5 rfl hl (by decide) rfl (fun ls hl => ?_)
  have hv_1 : 0 ≤ (0 : Int) ∧ (0 : Int) ≤ Psize := by
    first | assumption | omega | grind
  have hv_2 : ((0 : Int), ((-1) : Int)) = holeK Gle Pline Pheads Pout (0 : Int).toNat := by
    rfl
  have hv_3 : 0 ≤ (0 : Int) ∧ (0 : Int) ≤ 1000 ∧ -1 ≤ ((-1) : Int) ∧ ((-1) : Int) ≤ 7 := by
    first | assumption | omega | grind
  refine z_loop (σ := Int × Int × Int) (μ := fun x9 => (9 - (x9.2.2)).toNat) (I := fun x9 H locs ls => (0 ≤ (x9.2.2) ∧ (x9.2.2) ≤ Psize) ∧ (((x9.1), (x9.2.1)) = holeK Gle Pline Pheads Pout (x9.2.2).toNat) ∧ (0 ≤ (x9.1) ∧ (x9.1) ≤ 1000 ∧ -1 ≤ (x9.2.1) ∧ (x9.2.1) ≤ 7) ∧ HW D A s.heap (kG cI cB cZ oG Gn Gki Gle Glo Gta Gsh ++ kT cI cB cZ oT Tcells Tgap Twires Tstands ++ kP cI cB cZ oP (oG 0) (oT 0) Pline Psize Pnow Pheads Pbusy Pcame Pout) H locs ∧ lv_has ls 5 [(0, .ref (oP 0)), (1, .int (zI (x9.1))), (2, .int (zI (x9.2.1))), (3, .int (zI (x9.2.2)))]) (0, (-1), 0) ⟨hv_1, hv_2, hv_3, hw, lv_sub hl [3, 2, 1, 0] rfl⟩ ?_
  clear hw hl
  intro x9 H locs ls hI ih_4
  obtain ⟨wd_5, ah_6, i_7⟩ := x9
  try dsimp only at hI
  obtain ⟨hI_8, hI_9, hI_10, hw, hl⟩ := hI
  refine lv_iload_n hx hb dX3_widestHole_6 rfl (lv_at hl 3 rfl) ?_
  refine lv_aload_n hx hb dX3_widestHole_7 rfl (lv_at hl 0 rfl) ?_
  refine va_get (D := D) (ci := 3) (v := .int (zI Psize)) (C := RX3) (T := TX3) (N := 9) hx hb hts hinX3 hown hK hw.1 9 rfl rfl 3 (by decide) (hts (.fieldLink RX3 15 "CarnivalRoad$Parade" "size" "I") (by decide +kernel)) (fun _ h9 => h9) rfl dX3_widestHole_8 ?_
  refine z_icmp_ge (tgt := 65) hx hb dX3_widestHole_11 (by decide) (by omega) (fun hc_11 => ?_) (fun hc_11 => ?_)
  · skip
    refine lv_iload_n hx hb dX3_widestHole_65 rfl (lv_at hl 1 rfl) ?_
    have hv_12 : wd_5 = (holeK Gle Pline Pheads Pout Psize.toNat).1 := by
      rw [show Psize.toNat = i_7.toNat by omega, ← (by assumption : (wd_5, ah_6) = holeK Gle Pline Pheads Pout i_7.toNat)]
    have hv_13 : 0 ≤ wd_5 ∧ wd_5 ≤ 1000 := by
      first | assumption | omega | grind
    exact W.iret (v := zI wd_5) hx hb hr (fun t9 ht hW => ⟨⟨zI wd_5, wd_5, rfl, ⟨rfl, ⟨hv_12, hv_13⟩⟩, by subst hAe; exact z_end hK hw ht hW⟩, by subst hAe; exact hw.2.2.F ht⟩) (by subst hAe; exact hw.2.2.2.2) dX3_widestHole_66
  · skip
    refine lv_aload_n hx hb dX3_widestHole_14 rfl (lv_at hl 0 rfl) ?_
    refine va_get (D := D) (ci := 3) (v := .ref (oP 1)) (C := RX3) (T := TX3) (N := 9) hx hb hts hinX3 hown hK hw.1 9 rfl rfl 2 (by decide) (hts (.fieldLink RX3 9 "CarnivalRoad$Parade" "line" "[I") (by decide +kernel)) (fun _ h9 => h9) rfl dX3_widestHole_15 ?_
    refine lv_iload_n hx hb dX3_widestHole_18 rfl (lv_at hl 3 rfl) ?_
    have hi_14 : (0 : Int) ≤ i_7 ∧ i_7 < ((8 : Nat) : Int) := by
      first | assumption | omega | grind
    refine z_iald (n := 8) (f := Pline) hx hb hK hw 10 rfl (by decide) hi_14 dX3_widestHole_19 ?_
    have hq_15 : 0 ≤ Pline i_7 ∧ Pline i_7 ≤ 7 := qPline i_7
    refine lv_istore (lv' := [(4, .int (zI (Pline i_7))), (0, .ref (oP 0)), (1, .int (zI wd_5)), (2, .int (zI ah_6)), (3, .int (zI i_7))]) hx hb dX3_widestHole_20 hl (by decide) rfl (fun ls hl => ?_)
    refine lv_aload_n hx hb dX3_widestHole_22 rfl (lv_at hl 1 rfl) ?_
    refine lv_iload hx hb dX3_widestHole_23 (lv_at hl 0 rfl) ?_
    have hF9 := z_free (wc := kG cI cB cZ oG Gn Gki Gle Glo Gta Gsh ++ kT cI cB cZ oT Tcells Tgap Twires Tstands ++ kP cI cB cZ oP (oG 0) (oT 0) Pline Psize Pnow Pheads Pbusy Pcame Pout) hw hA [0, 1, 2, 3, 4, 5, 6, 7, 8, 9, 10, 11, 12, 13, 14] rfl
    refine va_calli (va_runV (As := [.int (zI (Pline i_7))]) (rest := []) ⟨hx, hb, hml, hown, hts⟩ (c_X3_isOnRoad l D cI cB cZ oG oT oP H.size Gn Gki Gle Glo Gta Gsh Tcells Tgap Twires Tstands Pline Psize Pnow Pheads Pbusy Pcame Pout (Pline i_7) (by omega) qGki qGle qGlo qGta qGsh (by omega) (by omega) qTwires qTstands qPline (by omega) (by omega) qPheads qPbusy qPcame qPout (by omega)) (cwV 1 hts gX3_widestHole_X3_isOnRoad rfl rfl rfl (by decide +kernel) ⟨Nat.le_of_ble_eq_true rfl, Nat.le_of_ble_eq_true rfl⟩) ⟨zPre_blind, va_recv hK hw.1 (ci := 3) (q0 := 9) rfl rfl, z_pre hK hw [0, 1, 2, 3, 4, 5, 6, 7, 8, 9, 10, 11, 12, 13, 14] (by decide) rfl⟩ rfl rfl hl.1 rfl (lv_room (Nat.le_of_ble_eq_true rfl)) dX3_widestHole_25 ⟨Nat.zero_le _, Nat.zero_le _⟩) hw.2.2 (fun q _ h => hF9 q h) hF9 (fun r9 u9 t9 H_16 locs9 ht9 hvm9 hq9 hB9 hz9 hk9 hS9 => ?_)
    obtain ⟨r_17, rfl⟩ : ∃ z, z = u9 := ⟨_, rfl⟩
    try dsimp only at hq9 hB9
    obtain ⟨rfl, hq9⟩ := hq9
    have hq_18 := hq9
    have hw : HW D A s.heap (kG cI cB cZ oG Gn Gki Gle Glo Gta Gsh ++ kT cI cB cZ oT Tcells Tgap Twires Tstands ++ kP cI cB cZ oP (oG 0) (oT 0) Pline Psize Pnow Pheads Pbusy Pcame Pout) H_16 locs9 := z_after (wc := kG cI cB cZ oG Gn Gki Gle Glo Gta Gsh ++ kT cI cB cZ oT Tcells Tgap Twires Tstands ++ kP cI cB cZ oP (oG 0) (oT 0) Pline Psize Pnow Pheads Pbusy Pcame Pout) hw [0, 1, 2, 3, 4, 5, 6, 7, 8, 9, 10, 11, 12, 13, 14] [] rfl rfl (by decide) (by decide) hF9 hk9 ht9 hB9 hS9 [0, 1, 2, 3, 4, 5, 6, 7, 8, 9, 10, 11, 12, 13, 14] (by decide) rfl
    clear hF9 ht9 hvm9 hB9 hz9 hk9 hS9 hq9
    rcases hq_18 with ⟨hc_19, rfl⟩ | ⟨hc_19, rfl⟩
    · skip
      refine z_if_eq (tgt := 59) hx hb dX3_widestHole_28 (by decide) (by omega) (fun hc_20 => absurd hc_20 (by omega)) (fun hc_20 => ?_)
      refine lv_iload_n hx hb dX3_widestHole_31 rfl (lv_at hl 3 rfl) ?_
      refine z_iconst hx hb dX3_widestHole_32 ?_
      refine z_icmp_eq (tgt := 56) hx hb dX3_widestHole_33 (by decide) (by omega) (fun hc_21 => ?_) (fun hc_21 => ?_)
      · skip
        refine lv_iload hx hb dX3_widestHole_56 (lv_at hl 0 rfl) ?_
        refine lv_istore_n (lv' := [(2, .int (zI (Pline i_7))), (4, .int (zI (Pline i_7))), (0, .ref (oP 0)), (1, .int (zI wd_5)), (3, .int (zI i_7))]) hx hb dX3_widestHole_58 rfl hl (by decide) rfl (fun ls hl => ?_)
        refine z_iinc (k := 4) (lv' := [(3, .int (zI (i_7 + 1))), (2, .int (zI (Pline i_7))), (4, .int (zI (Pline i_7))), (0, .ref (oP 0)), (1, .int (zI wd_5))]) hx hb dX3_widestHole_59 hl rfl (by decide) rfl (fun ls hl => ?_)
        refine lv_goto (tgt := 6) hx hb dX3_widestHole_62 (by decide) ?_
        have hv_22 : 0 ≤ (i_7 + 1) ∧ (i_7 + 1) ≤ Psize := by
          first | assumption | omega | grind
        have hv_23 : (wd_5, (Pline i_7)) = holeK Gle Pline Pheads Pout (i_7 + 1).toNat := by
          first | exact hole_off (by omega) (by assumption) (by assumption) | (have q := hole_on (by omega) (by assumption) (by assumption : onP Pheads Pout (Pline i_7)); first | (rw [if_pos (by omega)] at q; exact q) | (rw [if_neg (by omega)] at q; rw [← q]; congr 1; omega))
        have hv_24 : 0 ≤ wd_5 ∧ wd_5 ≤ 1000 ∧ -1 ≤ (Pline i_7) ∧ (Pline i_7) ≤ 7 := by
          first | assumption | omega | grind
        have hm_25 : (9 - (i_7 + 1)).toNat < (9 - i_7).toNat := by
          first | assumption | omega | grind
        exact ih_4 (wd_5, (Pline i_7), (i_7 + 1)) _ _ _ ⟨hv_22, hv_23, hv_24, hw, lv_sub hl [3, 4, 1, 0] rfl⟩ hm_25
      · skip
        refine lv_iload_n hx hb dX3_widestHole_36 rfl (lv_at hl 2 rfl) ?_
        refine lv_aload_n hx hb dX3_widestHole_37 rfl (lv_at hl 1 rfl) ?_
        refine lv_iload_n hx hb dX3_widestHole_38 rfl (lv_at hl 3 rfl) ?_
        have hF9 := z_free (wc := kG cI cB cZ oG Gn Gki Gle Glo Gta Gsh ++ kT cI cB cZ oT Tcells Tgap Twires Tstands ++ kP cI cB cZ oP (oG 0) (oT 0) Pline Psize Pnow Pheads Pbusy Pcame Pout) hw hA [0, 1, 2, 3, 4, 5, 6, 7, 8, 9, 10, 11, 12, 13, 14] rfl
        refine va_calli (va_runV (As := [.int (zI ah_6)]) (rest := [.int (zI wd_5)]) ⟨hx, hb, hml, hown, hts⟩ (c_X3_tailOf l D cI cB cZ oG oT oP H_16.size Gn Gki Gle Glo Gta Gsh Tcells Tgap Twires Tstands Pline Psize Pnow Pheads Pbusy Pcame Pout ah_6 (by omega) qGki qGle qGlo qGta qGsh (by omega) (by omega) qTwires qTstands qPline (by omega) (by omega) qPheads qPbusy qPcame qPout (by omega)) (cwV 1 hts gX3_widestHole_X3_tailOf rfl rfl rfl (by decide +kernel) ⟨Nat.le_of_ble_eq_true rfl, Nat.le_of_ble_eq_true rfl⟩) ⟨zPre_blind, va_recv hK hw.1 (ci := 3) (q0 := 9) rfl rfl, z_pre hK hw [0, 1, 2, 3, 4, 5, 6, 7, 8, 9, 10, 11, 12, 13, 14] (by decide) rfl⟩ rfl rfl hl.1 rfl (lv_room (Nat.le_of_ble_eq_true rfl)) dX3_widestHole_39 ⟨Nat.zero_le _, Nat.zero_le _⟩) hw.2.2 (fun q _ h => hF9 q h) hF9 (fun r9 u9 t9 H_26 locs9 ht9 hvm9 hq9 hB9 hz9 hk9 hS9 => ?_)
        obtain ⟨r_27, rfl⟩ : ∃ z, z = u9 := ⟨_, rfl⟩
        try dsimp only at hq9 hB9
        obtain ⟨rfl, hq9⟩ := hq9
        obtain ⟨hq_28, hq_29⟩ := hq9
        have hw : HW D A s.heap (kG cI cB cZ oG Gn Gki Gle Glo Gta Gsh ++ kT cI cB cZ oT Tcells Tgap Twires Tstands ++ kP cI cB cZ oP (oG 0) (oT 0) Pline Psize Pnow Pheads Pbusy Pcame Pout) H_26 locs9 := z_after (wc := kG cI cB cZ oG Gn Gki Gle Glo Gta Gsh ++ kT cI cB cZ oT Tcells Tgap Twires Tstands ++ kP cI cB cZ oP (oG 0) (oT 0) Pline Psize Pnow Pheads Pbusy Pcame Pout) hw [0, 1, 2, 3, 4, 5, 6, 7, 8, 9, 10, 11, 12, 13, 14] [] rfl rfl (by decide) (by decide) hF9 hk9 ht9 hB9 hS9 [0, 1, 2, 3, 4, 5, 6, 7, 8, 9, 10, 11, 12, 13, 14] (by decide) rfl
        clear hF9 ht9 hvm9 hB9 hz9 hk9 hS9
        refine lv_aload_n hx hb dX3_widestHole_42 rfl (lv_at hl 1 rfl) ?_
        refine va_get (D := D) (ci := 3) (v := .ref (oP 2)) (C := RX3) (T := TX3) (N := 9) hx hb hts hinX3 hown hK hw.1 9 rfl rfl 5 (by decide) (hts (.fieldLink RX3 22 "CarnivalRoad$Parade" "heads" "[I") (by decide +kernel)) (fun _ h9 => h9) rfl dX3_widestHole_43 ?_
        refine lv_iload hx hb dX3_widestHole_46 (lv_at hl 0 rfl) ?_
        have hi_30 : (0 : Int) ≤ (Pline i_7) ∧ (Pline i_7) < ((8 : Nat) : Int) := by
          first | assumption | omega | grind
        refine z_iald (n := 8) (f := Pheads) hx hb hK hw 11 rfl (by decide) hi_30 dX3_widestHole_48 ?_
        have hq_31 : -1 ≤ Pheads (Pline i_7) ∧ Pheads (Pline i_7) ≤ 60 := qPheads (Pline i_7)
        refine z_isub hx hb dX3_widestHole_49 ?_
        refine z_iconst hx hb dX3_widestHole_50 ?_
        refine z_isub hx hb dX3_widestHole_51 ?_
        refine z_max hx hb (hml.trans hl.1.symm) hown (hts (.methodLink RX3 105 Lib.Math.max.name) (by decide +kernel)) (hts (.static Lib.Math.max.name) (by decide +kernel)) (hts (.initialized "java/lang/Math") (by decide +kernel)) (hts (.code Lib.Math.max.name Lib.Math.max.code 2 (some .int)) (by decide +kernel)) (Nat.le_of_ble_eq_true rfl) (Nat.le_of_ble_eq_true rfl) (Nat.zero_le _) (Nat.zero_le _) (by omega) dX3_widestHole_52 ?_
        refine lv_istore_n (lv' := [(1, .int (zI (max wd_5 ((r_27 - (Pheads (Pline i_7))) - 1)))), (4, .int (zI (Pline i_7))), (0, .ref (oP 0)), (2, .int (zI ah_6)), (3, .int (zI i_7))]) hx hb dX3_widestHole_55 rfl hl (by decide) rfl (fun ls hl => ?_)
        refine lv_iload hx hb dX3_widestHole_56 (lv_at hl 1 rfl) ?_
        refine lv_istore_n (lv' := [(2, .int (zI (Pline i_7))), (1, .int (zI (max wd_5 ((r_27 - (Pheads (Pline i_7))) - 1)))), (4, .int (zI (Pline i_7))), (0, .ref (oP 0)), (3, .int (zI i_7))]) hx hb dX3_widestHole_58 rfl hl (by decide) rfl (fun ls hl => ?_)
        refine z_iinc (k := 4) (lv' := [(3, .int (zI (i_7 + 1))), (2, .int (zI (Pline i_7))), (1, .int (zI (max wd_5 ((r_27 - (Pheads (Pline i_7))) - 1)))), (4, .int (zI (Pline i_7))), (0, .ref (oP 0))]) hx hb dX3_widestHole_59 hl rfl (by decide) rfl (fun ls hl => ?_)
        refine lv_goto (tgt := 6) hx hb dX3_widestHole_62 (by decide) ?_
        have hv_32 : 0 ≤ (i_7 + 1) ∧ (i_7 + 1) ≤ Psize := by
          first | assumption | omega | grind
        have hv_33 : ((max wd_5 ((r_27 - (Pheads (Pline i_7))) - 1)), (Pline i_7)) = holeK Gle Pline Pheads Pout (i_7 + 1).toNat := by
          first | exact hole_off (by omega) (by assumption) (by assumption) | (have q := hole_on (by omega) (by assumption) (by assumption : onP Pheads Pout (Pline i_7)); first | (rw [if_pos (by omega)] at q; exact q) | (rw [if_neg (by omega)] at q; rw [← q]; congr 1; omega))
        have hv_34 : 0 ≤ (max wd_5 ((r_27 - (Pheads (Pline i_7))) - 1)) ∧ (max wd_5 ((r_27 - (Pheads (Pline i_7))) - 1)) ≤ 1000 ∧ -1 ≤ (Pline i_7) ∧ (Pline i_7) ≤ 7 := by
          first | assumption | omega | grind
        have hm_35 : (9 - (i_7 + 1)).toNat < (9 - i_7).toNat := by
          first | assumption | omega | grind
        exact ih_4 ((max wd_5 ((r_27 - (Pheads (Pline i_7))) - 1)), (Pline i_7), (i_7 + 1)) _ _ _ ⟨hv_32, hv_33, hv_34, hw, lv_sub hl [4, 2, 1, 0] rfl⟩ hm_35
    · skip
      refine z_if_eq (tgt := 59) hx hb dX3_widestHole_28 (by decide) (by omega) (fun hc_36 => ?_) (fun hc_36 => absurd hc_36 (by omega))
      refine z_iinc (k := 4) (lv' := [(3, .int (zI (i_7 + 1))), (4, .int (zI (Pline i_7))), (0, .ref (oP 0)), (1, .int (zI wd_5)), (2, .int (zI ah_6))]) hx hb dX3_widestHole_59 hl rfl (by decide) rfl (fun ls hl => ?_)
      refine lv_goto (tgt := 6) hx hb dX3_widestHole_62 (by decide) ?_
      have hv_37 : 0 ≤ (i_7 + 1) ∧ (i_7 + 1) ≤ Psize := by
        first | assumption | omega | grind
      have hv_38 : (wd_5, ah_6) = holeK Gle Pline Pheads Pout (i_7 + 1).toNat := by
        first | exact hole_off (by omega) (by assumption) (by assumption) | (have q := hole_on (by omega) (by assumption) (by assumption : onP Pheads Pout (Pline i_7)); first | (rw [if_pos (by omega)] at q; exact q) | (rw [if_neg (by omega)] at q; rw [← q]; congr 1; omega))
      have hv_39 : 0 ≤ wd_5 ∧ wd_5 ≤ 1000 ∧ -1 ≤ ah_6 ∧ ah_6 ≤ 7 := by
        first | assumption | omega | grind
      have hm_40 : (9 - (i_7 + 1)).toNat < (9 - i_7).toNat := by
        first | assumption | omega | grind
      exact ih_4 (wd_5, ah_6, (i_7 + 1)) _ _ _ ⟨hv_37, hv_38, hv_39, hw, lv_sub hl [2, 3, 4, 0] rfl⟩ hm_40
set_option maxRecDepth 100000 in
set_option maxHeartbeats 4000000 in
theorem c_X3_cellsTaken (l : Launch) (D : va_G) (cI cB cZ : ClassId) (oG : Nat → Nat) (oT : Nat → Nat) (oP : Nat → Nat) (sz : Nat) (Gn : Int) (Gki : Int → Int) (Gle : Int → Int) (Glo : Int → Int) (Gta : Int → Int) (Gsh : Int → Int) (Tcells : Int) (Tgap : Int) (Twires : Int → Int) (Tstands : Int → Int) (Pline : Int → Int) (Psize : Int) (Pnow : Int) (Pheads : Int → Int) (Pbusy : Int → Int) (Pcame : Int → Int) (Pout : Int → Int) (qGn : 0 ≤ Gn ∧ Gn ≤ 8) (qGki : RA Gki (0) 4) (qGle : RA Gle (0) 5) (qGlo : RA Glo (0) 9) (qGta : RA Gta (0) 9) (qGsh : RA Gsh (0) 9) (qTcells : 1 ≤ Tcells ∧ Tcells ≤ 50) (qTgap : 0 ≤ Tgap ∧ Tgap ≤ 3) (qTwires : RA Twires (0) 9) (qTstands : RA Tstands (0) 9) (qPline : RA Pline (0) 7) (qPsize : 0 ≤ Psize ∧ Psize ≤ 8) (qPnow : 0 ≤ Pnow ∧ Pnow ≤ 1000000) (qPheads : RA Pheads (-1) 60) (qPbusy : RA Pbusy (0) 30) (qPcame : RA Pcame (-1) 1000000) (qPout : RA Pout (-1) 1000000) : Met l yX3_cellsTaken wsX3_cellsTaken ({ frames := 2, cells := 0, slots := 0, locals := 42 }) (va_Pc [.ref (oP 0)] (zPre D cI cB cZ sz (kG cI cB cZ oG Gn Gki Gle Glo Gta Gsh ++ kT cI cB cZ oT Tcells Tgap Twires Tstands ++ kP cI cB cZ oP (oG 0) (oT 0) Pline Psize Pnow Pheads Pbusy Pcame Pout))) (va_Qi (fun (r9 : Int32) (u9 : Int) => r9 = zI u9 ∧ ((u9 = rowLongF Gle Tcells Pheads (endsK Pline Pheads Pout Psize.toNat)))) (fun u9 t9 => zAt D cI cB cZ (va_A (kG cI cB cZ oG Gn Gki Gle Glo Gta Gsh ++ kT cI cB cZ oT Tcells Tgap Twires Tstands ++ kP cI cB cZ oP (oG 0) (oT 0) Pline Psize Pnow Pheads Pbusy Pcame Pout) sz) (kG cI cB cZ oG Gn Gki Gle Glo Gta Gsh ++ kT cI cB cZ oT Tcells Tgap Twires Tstands ++ kP cI cB cZ oP (oG 0) (oT 0) Pline Psize Pnow Pheads Pbusy Pcame Pout) t9) (va_A (kG cI cB cZ oG Gn Gki Gle Glo Gta Gsh ++ kT cI cB cZ oT Tcells Tgap Twires Tstands ++ kP cI cB cZ oP (oG 0) (oT 0) Pline Psize Pnow Pheads Pbusy Pcame Pout) sz)) 0 0 (va_A (kG cI cB cZ oG Gn Gki Gle Glo Gta Gsh ++ kT cI cB cZ oT Tcells Tgap Twires Tstands ++ kP cI cB cZ oP (oG 0) (oT 0) Pline Psize Pnow Pheads Pbusy Pcame Pout) sz) := by
  refine Met.ofW (cc := cX3_cellsTaken) (maxL := 4) (ret := (some .int)) (by decide) rfl ?_
  intro pp ee s mm aa bw mt cd s₁ BL hml hv
  obtain ⟨rfl, hsz, hP, hK, hD0⟩ := hv
  have hx := BL.exec
  have hb := BL.bytes
  have hr := BL.returns
  have hts := atoms_spec (ws := wsX3_cellsTaken) BL.pre
  have hown : s.vm.findClass RX3 = some mm.cls := findClass_of_methodNamed BL.named
  have hlocks := BL.notSynchronized
  subst hsz
  generalize hAe : va_A (kG cI cB cZ oG Gn Gki Gle Glo Gta Gsh ++ kT cI cB cZ oT Tcells Tgap Twires Tstands ++ kP cI cB cZ oP (oG 0) (oT 0) Pline Psize Pnow Pheads Pbusy Pcame Pout) s.heap.size = A
  have hA : ∀ q : Nat, s.heap.size ≤ q → A q := fun q h => by rw [← hAe]; exact Or.inr h
  have hw : HW D A s.heap (kG cI cB cZ oG Gn Gki Gle Glo Gta Gsh ++ kT cI cB cZ oT Tcells Tgap Twires Tstands ++ kP cI cB cZ oP (oG 0) (oT 0) Pline Psize Pnow Pheads Pbusy Pcame Pout) s.heap [] := z_start hAe hP hD0
  clear hP hD0
  have hl := lv_entry ([.ref (oP 0)]) (n := 4) (Nat.le_of_ble_eq_true rfl)
  rw [lg_entry_eq]
  generalize (lg_sl ([.ref (oP 0)]) ++ List.replicate (4 - (lg_sl ([.ref (oP 0)])).length) Slot.unset).toArray = ls at hl ⊢
  have hl : lv_has ls 4 [(0, .ref (oP 0))] := hl
  have hinX3 : ∀ w ∈ wsX30, w ∈ wsX3_cellsTaken := by decide +kernel
  have hinX6 : ∀ w ∈ wsX60, w ∈ wsX3_cellsTaken := by decide +kernel
  refine z_iconst hx hb dX3_cellsTaken_0 ?_
  refine lv_istore_n (lv' := [(1, .int (zI (-1))), (0, .ref (oP 0))]) hx hb dX3_cellsTaken_1 rfl hl (by decide) rfl (fun ls hl => ?_)
  refine z_iconst hx hb dX3_cellsTaken_2 ?_
  refine lv_istore_n (lv' := [(2, .int (zI (-1))), (1, .int (zI (-1))), (0, .ref (oP 0))]) hx hb dX3_cellsTaken_3 rfl hl (by decide) rfl (fun ls hl => ?_)
  refine z_iconst hx hb dX3_cellsTaken_4 ?_
  refine lv_istore_n (lv' := [(3, .int (zI 0)), (2, .int (zI (-1))), (1, .int (zI (-1))), (0, .ref (oP 0))]) hx hb dX3_cellsTaken_5 rfl hl (by decide) rfl (fun ls hl => ?_)
  have hv_1 : 0 ≤ (0 : Int) ∧ (0 : Int) ≤ Psize := by
    first | assumption | omega | grind
  have hv_2 : (((-1) : Int), ((-1) : Int)) = endsK Pline Pheads Pout (0 : Int).toNat := by
    rfl
  have hv_3 : -1 ≤ ((-1) : Int) ∧ ((-1) : Int) ≤ 7 ∧ -1 ≤ ((-1) : Int) ∧ ((-1) : Int) ≤ 7 ∧ (((-1) : Int) = -1 ↔ ((-1) : Int) = -1) := by
    first | assumption | omega | grind
  refine z_loop (σ := Int × Int × Int) (μ := fun x9 => (9 - (x9.2.2)).toNat) (I := fun x9 H locs ls => (0 ≤ (x9.2.2) ∧ (x9.2.2) ≤ Psize) ∧ (((x9.1), (x9.2.1)) = endsK Pline Pheads Pout (x9.2.2).toNat) ∧ (-1 ≤ (x9.1) ∧ (x9.1) ≤ 7 ∧ -1 ≤ (x9.2.1) ∧ (x9.2.1) ≤ 7 ∧ ((x9.1) = -1 ↔ (x9.2.1) = -1)) ∧ HW D A s.heap (kG cI cB cZ oG Gn Gki Gle Glo Gta Gsh ++ kT cI cB cZ oT Tcells Tgap Twires Tstands ++ kP cI cB cZ oP (oG 0) (oT 0) Pline Psize Pnow Pheads Pbusy Pcame Pout) H locs ∧ lv_has ls 4 [(0, .ref (oP 0)), (1, .int (zI (x9.1))), (2, .int (zI (x9.2.1))), (3, .int (zI (x9.2.2)))]) ((-1), (-1), 0) ⟨hv_1, hv_2, hv_3, hw, lv_sub hl [3, 2, 1, 0] rfl⟩ ?_
  clear hw hl
  intro x9 H locs ls hI ih_4
  obtain ⟨fi_5, la_6, i_7⟩ := x9
  try dsimp only at hI
  obtain ⟨hI_8, hI_9, hI_10, hw, hl⟩ := hI
  refine lv_iload_n hx hb dX3_cellsTaken_6 rfl (lv_at hl 3 rfl) ?_
  refine lv_aload_n hx hb dX3_cellsTaken_7 rfl (lv_at hl 0 rfl) ?_
  refine va_get (D := D) (ci := 3) (v := .int (zI Psize)) (C := RX3) (T := TX3) (N := 9) hx hb hts hinX3 hown hK hw.1 9 rfl rfl 3 (by decide) (hts (.fieldLink RX3 15 "CarnivalRoad$Parade" "size" "I") (by decide +kernel)) (fun _ h9 => h9) rfl dX3_cellsTaken_8 ?_
  refine z_icmp_ge (tgt := 56) hx hb dX3_cellsTaken_11 (by decide) (by omega) (fun hc_11 => ?_) (fun hc_11 => ?_)
  · skip
    refine lv_iload_n hx hb dX3_cellsTaken_56 rfl (lv_at hl 1 rfl) ?_
    refine z_iconst hx hb dX3_cellsTaken_57 ?_
    refine z_icmp_ne (tgt := 63) hx hb dX3_cellsTaken_58 (by decide) (by omega) (fun hc_12 => ?_) (fun hc_12 => ?_)
    · skip
      refine lv_aload_n hx hb dX3_cellsTaken_63 rfl (lv_at hl 0 rfl) ?_
      refine va_get (D := D) (ci := 3) (v := .ref (oP 2)) (C := RX3) (T := TX3) (N := 9) hx hb hts hinX3 hown hK hw.1 9 rfl rfl 5 (by decide) (hts (.fieldLink RX3 22 "CarnivalRoad$Parade" "heads" "[I") (by decide +kernel)) (fun _ h9 => h9) rfl dX3_cellsTaken_64 ?_
      refine lv_iload_n hx hb dX3_cellsTaken_67 rfl (lv_at hl 1 rfl) ?_
      have hi_13 : (0 : Int) ≤ fi_5 ∧ fi_5 < ((8 : Nat) : Int) := by
        first | assumption | omega | grind
      refine z_iald (n := 8) (f := Pheads) hx hb hK hw 11 rfl (by decide) hi_13 dX3_cellsTaken_68 ?_
      have hq_14 : -1 ≤ Pheads fi_5 ∧ Pheads fi_5 ≤ 60 := qPheads fi_5
      refine lv_aload_n hx hb dX3_cellsTaken_69 rfl (lv_at hl 0 rfl) ?_
      refine va_get (D := D) (ci := 3) (v := .ref (oT 0)) (C := RX3) (T := TX3) (N := 9) hx hb hts hinX3 hown hK hw.1 9 rfl rfl 1 (by decide) (hts (.fieldLink RX3 38 "CarnivalRoad$Parade" "street" "LCarnivalRoad$Street;") (by decide +kernel)) (fun _ h9 => h9) rfl dX3_cellsTaken_70 ?_
      refine va_get (D := D) (ci := 6) (v := .int (zI Tcells)) (C := RX6) (T := TX6) (N := 4) hx hb hts hinX6 hown hK hw.1 6 rfl rfl 0 (by decide) (hts (.fieldLink RX3 93 "CarnivalRoad$Street" "cells" "I") (by decide +kernel)) (fun _ h9 => h9) rfl dX3_cellsTaken_73 ?_
      refine z_iconst hx hb dX3_cellsTaken_76 ?_
      refine z_isub hx hb dX3_cellsTaken_77 ?_
      refine z_min hx hb (hml.trans hl.1.symm) hown (hts (.methodLink RX3 111 Lib.Math.min.name) (by decide +kernel)) (hts (.static Lib.Math.min.name) (by decide +kernel)) (hts (.initialized "java/lang/Math") (by decide +kernel)) (hts (.code Lib.Math.min.name Lib.Math.min.code 2 (some .int)) (by decide +kernel)) (Nat.le_of_ble_eq_true rfl) (Nat.le_of_ble_eq_true rfl) (Nat.zero_le _) (Nat.zero_le _) (by omega) dX3_cellsTaken_78 ?_
      refine lv_aload_n hx hb dX3_cellsTaken_81 rfl (lv_at hl 0 rfl) ?_
      refine lv_iload_n hx hb dX3_cellsTaken_82 rfl (lv_at hl 2 rfl) ?_
      have hF9 := z_free (wc := kG cI cB cZ oG Gn Gki Gle Glo Gta Gsh ++ kT cI cB cZ oT Tcells Tgap Twires Tstands ++ kP cI cB cZ oP (oG 0) (oT 0) Pline Psize Pnow Pheads Pbusy Pcame Pout) hw hA [0, 1, 2, 3, 4, 5, 6, 7, 8, 9, 10, 11, 12, 13, 14] rfl
      refine va_calli (va_runV (As := [.int (zI la_6)]) (rest := [.int (zI (min (Pheads fi_5) (Tcells - 1)))]) ⟨hx, hb, hml, hown, hts⟩ (c_X3_tailOf l D cI cB cZ oG oT oP H.size Gn Gki Gle Glo Gta Gsh Tcells Tgap Twires Tstands Pline Psize Pnow Pheads Pbusy Pcame Pout la_6 (by omega) qGki qGle qGlo qGta qGsh (by omega) (by omega) qTwires qTstands qPline (by omega) (by omega) qPheads qPbusy qPcame qPout (by omega)) (cwV 1 hts gX3_cellsTaken_X3_tailOf rfl rfl rfl (by decide +kernel) ⟨Nat.le_of_ble_eq_true rfl, Nat.le_of_ble_eq_true rfl⟩) ⟨zPre_blind, va_recv hK hw.1 (ci := 3) (q0 := 9) rfl rfl, z_pre hK hw [0, 1, 2, 3, 4, 5, 6, 7, 8, 9, 10, 11, 12, 13, 14] (by decide) rfl⟩ rfl rfl hl.1 rfl (lv_room (Nat.le_of_ble_eq_true rfl)) dX3_cellsTaken_83 ⟨Nat.zero_le _, Nat.zero_le _⟩) hw.2.2 (fun q _ h => hF9 q h) hF9 (fun r9 u9 t9 H_15 locs9 ht9 hvm9 hq9 hB9 hz9 hk9 hS9 => ?_)
      obtain ⟨r_16, rfl⟩ : ∃ z, z = u9 := ⟨_, rfl⟩
      try dsimp only at hq9 hB9
      obtain ⟨rfl, hq9⟩ := hq9
      obtain ⟨hq_17, hq_18⟩ := hq9
      have hw : HW D A s.heap (kG cI cB cZ oG Gn Gki Gle Glo Gta Gsh ++ kT cI cB cZ oT Tcells Tgap Twires Tstands ++ kP cI cB cZ oP (oG 0) (oT 0) Pline Psize Pnow Pheads Pbusy Pcame Pout) H_15 locs9 := z_after (wc := kG cI cB cZ oG Gn Gki Gle Glo Gta Gsh ++ kT cI cB cZ oT Tcells Tgap Twires Tstands ++ kP cI cB cZ oP (oG 0) (oT 0) Pline Psize Pnow Pheads Pbusy Pcame Pout) hw [0, 1, 2, 3, 4, 5, 6, 7, 8, 9, 10, 11, 12, 13, 14] [] rfl rfl (by decide) (by decide) hF9 hk9 ht9 hB9 hS9 [0, 1, 2, 3, 4, 5, 6, 7, 8, 9, 10, 11, 12, 13, 14] (by decide) rfl
      clear hF9 ht9 hvm9 hB9 hz9 hk9 hS9
      refine z_iconst hx hb dX3_cellsTaken_86 ?_
      refine z_max hx hb (hml.trans hl.1.symm) hown (hts (.methodLink RX3 105 Lib.Math.max.name) (by decide +kernel)) (hts (.static Lib.Math.max.name) (by decide +kernel)) (hts (.initialized "java/lang/Math") (by decide +kernel)) (hts (.code Lib.Math.max.name Lib.Math.max.code 2 (some .int)) (by decide +kernel)) (Nat.le_of_ble_eq_true rfl) (Nat.le_of_ble_eq_true rfl) (Nat.zero_le _) (Nat.zero_le _) (by omega) dX3_cellsTaken_87 ?_
      refine z_isub hx hb dX3_cellsTaken_90 ?_
      refine z_iconst hx hb dX3_cellsTaken_91 ?_
      refine z_iadd hx hb dX3_cellsTaken_92 ?_
      have hv_19 : (((min (Pheads fi_5) (Tcells - 1)) - (max r_16 0)) + 1) = rowLongF Gle Tcells Pheads (endsK Pline Pheads Pout Psize.toNat) := by
        rw [show Psize.toNat = i_7.toNat by omega, ← (by assumption : (fi_5, la_6) = endsK Pline Pheads Pout i_7.toNat)]
        unfold rowLongF
        dsimp only
        first | (rw [if_pos (by omega)]; done) | (rw [if_neg (by omega)]; omega)
      exact W.iret (v := zI (((min (Pheads fi_5) (Tcells - 1)) - (max r_16 0)) + 1)) hx hb hr (fun t9 ht hW => ⟨⟨zI (((min (Pheads fi_5) (Tcells - 1)) - (max r_16 0)) + 1), (((min (Pheads fi_5) (Tcells - 1)) - (max r_16 0)) + 1), rfl, ⟨rfl, hv_19⟩, by subst hAe; exact z_end hK hw ht hW⟩, by subst hAe; exact hw.2.2.F ht⟩) (by subst hAe; exact hw.2.2.2.2) dX3_cellsTaken_93
    · skip
      refine z_iconst hx hb dX3_cellsTaken_61 ?_
      have hv_20 : (0 : Int) = rowLongF Gle Tcells Pheads (endsK Pline Pheads Pout Psize.toNat) := by
        rw [show Psize.toNat = i_7.toNat by omega, ← (by assumption : (fi_5, la_6) = endsK Pline Pheads Pout i_7.toNat)]
        unfold rowLongF
        dsimp only
        first | (rw [if_pos (by omega)]; done) | (rw [if_neg (by omega)]; omega)
      exact W.iret (v := zI 0) hx hb hr (fun t9 ht hW => ⟨⟨zI 0, 0, rfl, ⟨rfl, hv_20⟩, by subst hAe; exact z_end hK hw ht hW⟩, by subst hAe; exact hw.2.2.F ht⟩) (by subst hAe; exact hw.2.2.2.2) dX3_cellsTaken_62
  · skip
    refine lv_aload_n hx hb dX3_cellsTaken_14 rfl (lv_at hl 0 rfl) ?_
    refine lv_aload_n hx hb dX3_cellsTaken_15 rfl (lv_at hl 0 rfl) ?_
    refine va_get (D := D) (ci := 3) (v := .ref (oP 1)) (C := RX3) (T := TX3) (N := 9) hx hb hts hinX3 hown hK hw.1 9 rfl rfl 2 (by decide) (hts (.fieldLink RX3 9 "CarnivalRoad$Parade" "line" "[I") (by decide +kernel)) (fun _ h9 => h9) rfl dX3_cellsTaken_16 ?_
    refine lv_iload_n hx hb dX3_cellsTaken_19 rfl (lv_at hl 3 rfl) ?_
    have hi_21 : (0 : Int) ≤ i_7 ∧ i_7 < ((8 : Nat) : Int) := by
      first | assumption | omega | grind
    refine z_iald (n := 8) (f := Pline) hx hb hK hw 10 rfl (by decide) hi_21 dX3_cellsTaken_20 ?_
    have hq_22 : 0 ≤ Pline i_7 ∧ Pline i_7 ≤ 7 := qPline i_7
    have hF9 := z_free (wc := kG cI cB cZ oG Gn Gki Gle Glo Gta Gsh ++ kT cI cB cZ oT Tcells Tgap Twires Tstands ++ kP cI cB cZ oP (oG 0) (oT 0) Pline Psize Pnow Pheads Pbusy Pcame Pout) hw hA [0, 1, 2, 3, 4, 5, 6, 7, 8, 9, 10, 11, 12, 13, 14] rfl
    refine va_calli (va_runV (As := [.int (zI (Pline i_7))]) (rest := []) ⟨hx, hb, hml, hown, hts⟩ (c_X3_isOnRoad l D cI cB cZ oG oT oP H.size Gn Gki Gle Glo Gta Gsh Tcells Tgap Twires Tstands Pline Psize Pnow Pheads Pbusy Pcame Pout (Pline i_7) (by omega) qGki qGle qGlo qGta qGsh (by omega) (by omega) qTwires qTstands qPline (by omega) (by omega) qPheads qPbusy qPcame qPout (by omega)) (cwV 1 hts gX3_cellsTaken_X3_isOnRoad rfl rfl rfl (by decide +kernel) ⟨Nat.le_of_ble_eq_true rfl, Nat.le_of_ble_eq_true rfl⟩) ⟨zPre_blind, va_recv hK hw.1 (ci := 3) (q0 := 9) rfl rfl, z_pre hK hw [0, 1, 2, 3, 4, 5, 6, 7, 8, 9, 10, 11, 12, 13, 14] (by decide) rfl⟩ rfl rfl hl.1 rfl (lv_room (Nat.le_of_ble_eq_true rfl)) dX3_cellsTaken_21 ⟨Nat.zero_le _, Nat.zero_le _⟩) hw.2.2 (fun q _ h => hF9 q h) hF9 (fun r9 u9 t9 H_23 locs9 ht9 hvm9 hq9 hB9 hz9 hk9 hS9 => ?_)
    obtain ⟨r_24, rfl⟩ : ∃ z, z = u9 := ⟨_, rfl⟩
    try dsimp only at hq9 hB9
    obtain ⟨rfl, hq9⟩ := hq9
    have hq_25 := hq9
    have hw : HW D A s.heap (kG cI cB cZ oG Gn Gki Gle Glo Gta Gsh ++ kT cI cB cZ oT Tcells Tgap Twires Tstands ++ kP cI cB cZ oP (oG 0) (oT 0) Pline Psize Pnow Pheads Pbusy Pcame Pout) H_23 locs9 := z_after (wc := kG cI cB cZ oG Gn Gki Gle Glo Gta Gsh ++ kT cI cB cZ oT Tcells Tgap Twires Tstands ++ kP cI cB cZ oP (oG 0) (oT 0) Pline Psize Pnow Pheads Pbusy Pcame Pout) hw [0, 1, 2, 3, 4, 5, 6, 7, 8, 9, 10, 11, 12, 13, 14] [] rfl rfl (by decide) (by decide) hF9 hk9 ht9 hB9 hS9 [0, 1, 2, 3, 4, 5, 6, 7, 8, 9, 10, 11, 12, 13, 14] (by decide) rfl
    clear hF9 ht9 hvm9 hB9 hz9 hk9 hS9 hq9
    rcases hq_25 with ⟨hc_26, rfl⟩ | ⟨hc_26, rfl⟩
    · skip
      refine z_if_eq (tgt := 50) hx hb dX3_cellsTaken_24 (by decide) (by omega) (fun hc_27 => absurd hc_27 (by omega)) (fun hc_27 => ?_)
      refine lv_iload_n hx hb dX3_cellsTaken_27 rfl (lv_at hl 1 rfl) ?_
      refine z_iconst hx hb dX3_cellsTaken_28 ?_
      refine z_icmp_ne (tgt := 41) hx hb dX3_cellsTaken_29 (by decide) (by omega) (fun hc_28 => ?_) (fun hc_28 => ?_)
      · skip
        refine lv_iload_n hx hb dX3_cellsTaken_41 rfl (lv_at hl 1 rfl) ?_
        refine lv_istore_n (lv' := [(1, .int (zI fi_5)), (0, .ref (oP 0)), (2, .int (zI la_6)), (3, .int (zI i_7))]) hx hb dX3_cellsTaken_42 rfl hl (by decide) rfl (fun ls hl => ?_)
        refine lv_aload_n hx hb dX3_cellsTaken_43 rfl (lv_at hl 1 rfl) ?_
        refine va_get (D := D) (ci := 3) (v := .ref (oP 1)) (C := RX3) (T := TX3) (N := 9) hx hb hts hinX3 hown hK hw.1 9 rfl rfl 2 (by decide) (hts (.fieldLink RX3 9 "CarnivalRoad$Parade" "line" "[I") (by decide +kernel)) (fun _ h9 => h9) rfl dX3_cellsTaken_44 ?_
        refine lv_iload_n hx hb dX3_cellsTaken_47 rfl (lv_at hl 3 rfl) ?_
        have hi_29 : (0 : Int) ≤ i_7 ∧ i_7 < ((8 : Nat) : Int) := by
          first | assumption | omega | grind
        refine z_iald (n := 8) (f := Pline) hx hb hK hw 10 rfl (by decide) hi_29 dX3_cellsTaken_48 ?_
        have hq_30 : 0 ≤ Pline i_7 ∧ Pline i_7 ≤ 7 := qPline i_7
        refine lv_istore_n (lv' := [(2, .int (zI (Pline i_7))), (1, .int (zI fi_5)), (0, .ref (oP 0)), (3, .int (zI i_7))]) hx hb dX3_cellsTaken_49 rfl hl (by decide) rfl (fun ls hl => ?_)
        refine z_iinc (k := 3) (lv' := [(3, .int (zI (i_7 + 1))), (2, .int (zI (Pline i_7))), (1, .int (zI fi_5)), (0, .ref (oP 0))]) hx hb dX3_cellsTaken_50 hl rfl (by decide) rfl (fun ls hl => ?_)
        refine lv_goto (tgt := 6) hx hb dX3_cellsTaken_53 (by decide) ?_
        have hv_31 : 0 ≤ (i_7 + 1) ∧ (i_7 + 1) ≤ Psize := by
          first | assumption | omega | grind
        have hv_32 : (fi_5, (Pline i_7)) = endsK Pline Pheads Pout (i_7 + 1).toNat := by
          first | exact ends_off (by omega) (by assumption) (by assumption) | (have q := ends_on (by omega) (by assumption) (by assumption : onP Pheads Pout (Pline i_7)); first | (rw [if_pos (by omega)] at q; exact q) | (rw [if_neg (by omega)] at q; exact q))
        have hv_33 : -1 ≤ fi_5 ∧ fi_5 ≤ 7 ∧ -1 ≤ (Pline i_7) ∧ (Pline i_7) ≤ 7 ∧ (fi_5 = -1 ↔ (Pline i_7) = -1) := by
          first | assumption | omega | grind
        have hm_34 : (9 - (i_7 + 1)).toNat < (9 - i_7).toNat := by
          first | assumption | omega | grind
        exact ih_4 (fi_5, (Pline i_7), (i_7 + 1)) _ _ _ ⟨hv_31, hv_32, hv_33, hw, lv_sub hl [3, 2, 1, 0] rfl⟩ hm_34
      · skip
        refine lv_aload_n hx hb dX3_cellsTaken_32 rfl (lv_at hl 0 rfl) ?_
        refine va_get (D := D) (ci := 3) (v := .ref (oP 1)) (C := RX3) (T := TX3) (N := 9) hx hb hts hinX3 hown hK hw.1 9 rfl rfl 2 (by decide) (hts (.fieldLink RX3 9 "CarnivalRoad$Parade" "line" "[I") (by decide +kernel)) (fun _ h9 => h9) rfl dX3_cellsTaken_33 ?_
        refine lv_iload_n hx hb dX3_cellsTaken_36 rfl (lv_at hl 3 rfl) ?_
        have hi_35 : (0 : Int) ≤ i_7 ∧ i_7 < ((8 : Nat) : Int) := by
          first | assumption | omega | grind
        refine z_iald (n := 8) (f := Pline) hx hb hK hw 10 rfl (by decide) hi_35 dX3_cellsTaken_37 ?_
        have hq_36 : 0 ≤ Pline i_7 ∧ Pline i_7 ≤ 7 := qPline i_7
        refine lv_goto (tgt := 42) hx hb dX3_cellsTaken_38 (by decide) ?_
        refine lv_istore_n (lv' := [(1, .int (zI (Pline i_7))), (0, .ref (oP 0)), (2, .int (zI la_6)), (3, .int (zI i_7))]) hx hb dX3_cellsTaken_42 rfl hl (by decide) rfl (fun ls hl => ?_)
        refine lv_aload_n hx hb dX3_cellsTaken_43 rfl (lv_at hl 1 rfl) ?_
        refine va_get (D := D) (ci := 3) (v := .ref (oP 1)) (C := RX3) (T := TX3) (N := 9) hx hb hts hinX3 hown hK hw.1 9 rfl rfl 2 (by decide) (hts (.fieldLink RX3 9 "CarnivalRoad$Parade" "line" "[I") (by decide +kernel)) (fun _ h9 => h9) rfl dX3_cellsTaken_44 ?_
        refine lv_iload_n hx hb dX3_cellsTaken_47 rfl (lv_at hl 3 rfl) ?_
        have hi_37 : (0 : Int) ≤ i_7 ∧ i_7 < ((8 : Nat) : Int) := by
          first | assumption | omega | grind
        refine z_iald (n := 8) (f := Pline) hx hb hK hw 10 rfl (by decide) hi_37 dX3_cellsTaken_48 ?_
        have hq_38 : 0 ≤ Pline i_7 ∧ Pline i_7 ≤ 7 := qPline i_7
        refine lv_istore_n (lv' := [(2, .int (zI (Pline i_7))), (1, .int (zI (Pline i_7))), (0, .ref (oP 0)), (3, .int (zI i_7))]) hx hb dX3_cellsTaken_49 rfl hl (by decide) rfl (fun ls hl => ?_)
        refine z_iinc (k := 3) (lv' := [(3, .int (zI (i_7 + 1))), (2, .int (zI (Pline i_7))), (1, .int (zI (Pline i_7))), (0, .ref (oP 0))]) hx hb dX3_cellsTaken_50 hl rfl (by decide) rfl (fun ls hl => ?_)
        refine lv_goto (tgt := 6) hx hb dX3_cellsTaken_53 (by decide) ?_
        have hv_39 : 0 ≤ (i_7 + 1) ∧ (i_7 + 1) ≤ Psize := by
          first | assumption | omega | grind
        have hv_40 : ((Pline i_7), (Pline i_7)) = endsK Pline Pheads Pout (i_7 + 1).toNat := by
          first | exact ends_off (by omega) (by assumption) (by assumption) | (have q := ends_on (by omega) (by assumption) (by assumption : onP Pheads Pout (Pline i_7)); first | (rw [if_pos (by omega)] at q; exact q) | (rw [if_neg (by omega)] at q; exact q))
        have hv_41 : -1 ≤ (Pline i_7) ∧ (Pline i_7) ≤ 7 ∧ -1 ≤ (Pline i_7) ∧ (Pline i_7) ≤ 7 ∧ ((Pline i_7) = -1 ↔ (Pline i_7) = -1) := by
          first | assumption | omega | grind
        have hm_42 : (9 - (i_7 + 1)).toNat < (9 - i_7).toNat := by
          first | assumption | omega | grind
        exact ih_4 ((Pline i_7), (Pline i_7), (i_7 + 1)) _ _ _ ⟨hv_39, hv_40, hv_41, hw, lv_sub hl [3, 2, 1, 0] rfl⟩ hm_42
    · skip
      refine z_if_eq (tgt := 50) hx hb dX3_cellsTaken_24 (by decide) (by omega) (fun hc_43 => ?_) (fun hc_43 => absurd hc_43 (by omega))
      refine z_iinc (k := 3) (lv' := [(3, .int (zI (i_7 + 1))), (0, .ref (oP 0)), (1, .int (zI fi_5)), (2, .int (zI la_6))]) hx hb dX3_cellsTaken_50 hl rfl (by decide) rfl (fun ls hl => ?_)
      refine lv_goto (tgt := 6) hx hb dX3_cellsTaken_53 (by decide) ?_
      have hv_44 : 0 ≤ (i_7 + 1) ∧ (i_7 + 1) ≤ Psize := by
        first | assumption | omega | grind
      have hv_45 : (fi_5, la_6) = endsK Pline Pheads Pout (i_7 + 1).toNat := by
        first | exact ends_off (by omega) (by assumption) (by assumption) | (have q := ends_on (by omega) (by assumption) (by assumption : onP Pheads Pout (Pline i_7)); first | (rw [if_pos (by omega)] at q; exact q) | (rw [if_neg (by omega)] at q; exact q))
      have hv_46 : -1 ≤ fi_5 ∧ fi_5 ≤ 7 ∧ -1 ≤ la_6 ∧ la_6 ≤ 7 ∧ (fi_5 = -1 ↔ la_6 = -1) := by
        first | assumption | omega | grind
      have hm_47 : (9 - (i_7 + 1)).toNat < (9 - i_7).toNat := by
        first | assumption | omega | grind
      exact ih_4 (fi_5, la_6, (i_7 + 1)) _ _ _ ⟨hv_44, hv_45, hv_46, hw, lv_sub hl [1, 2, 3, 0] rfl⟩ hm_47
