set_option maxRecDepth 100000 in
set_option maxHeartbeats 4000000 in
theorem c_X7_ends (l : Launch) (D : va_G) (cI cB cZ : ClassId) (hst : l.stackTraces = false) (sa sb : Nat) (oG : Nat → Nat) (oT : Nat → Nat) (oP : Nat → Nat) (oQ : Nat → Nat) (oC : Nat → Nat) (aCreader : Nat) (aCbars : Nat) (aCspare : Nat) (aCsearch : Nat) (aCbreach : Nat) (sz : Nat) (Gn : Int) (Gki : Int → Int) (Gle : Int → Int) (Glo : Int → Int) (Gta : Int → Int) (Gsh : Int → Int) (Tcells : Int) (Tgap : Int) (Twires : Int → Int) (Tstands : Int → Int) (Pline : Int → Int) (Psize : Int) (Pnow : Int) (Pheads : Int → Int) (Pbusy : Int → Int) (Pcame : Int → Int) (Pout : Int → Int) (Qline : Int → Int) (Qsize : Int) (Qnow : Int) (Qheads : Int → Int) (Qbusy : Int → Int) (Qcame : Int → Int) (Qout : Int → Int) (Crow : Int → Int) (Cquiet : Int → Int) (Crun : Int) (w : Int) (B : Nat) (qGn : 0 ≤ Gn ∧ Gn ≤ 8) (qGki : RA Gki (0) 4) (qGle : RA Gle (0) 5) (qGlo : RA Glo (0) 9) (qGta : RA Gta (0) 9) (qGsh : RA Gsh (0) 9) (qTcells : 1 ≤ Tcells ∧ Tcells ≤ 50) (qTgap : 0 ≤ Tgap ∧ Tgap ≤ 3) (qTwires : RA Twires (0) 9) (qTstands : RA Tstands (0) 9) (qPline : RA Pline (0) 7) (qPsize : 0 ≤ Psize ∧ Psize ≤ 8) (qPnow : 0 ≤ Pnow ∧ Pnow ≤ 1000000) (qPheads : RA Pheads (-1) 60) (qPbusy : RA Pbusy (0) 30) (qPcame : RA Pcame (-1) 1000000) (qPout : RA Pout (-1) 1000000) (qQline : RA Qline (0) 7) (qQsize : 0 ≤ Qsize ∧ Qsize ≤ 8) (qQnow : 0 ≤ Qnow ∧ Qnow ≤ 1000000) (qQheads : RA Qheads (-1) 60) (qQbusy : RA Qbusy (0) 30) (qQcame : RA Qcame (-1) 1000000) (qQout : RA Qout (-1) 1000000) (qCrow : RA Crow (0) 7) (qCquiet : RA Cquiet (0) 7) (qCrun : 0 ≤ Crun ∧ Crun ≤ 1) (qw : -2147483648 ≤ w ∧ w ≤ 2147483647) (hp0 : Crun = 1 → JP Gle Tcells Pheads Pout ∧ Pnow + (B : Int) ≤ 999999 ∧ allP Pline Psize (runK Gki Gle Tcells Tgap Tstands Pline Psize Pnow (Pheads, Pbusy, Pcame, Pout) B).2.2.2) (hp1 : ∀ g, 0 ≤ g → g < Gn → 0 ≤ Gle g ∧ Gle g ≤ 5) : vx_Met l yX7_ends wsX7_ends ({ frames := 7, cells := 1, slots := 6, locals := 130 }) (va_Pc [.ref (oC 0), .int (zI w)] (zPreE sa sb D cI cB cZ sz (kG cI cB cZ oG Gn Gki Gle Glo Gta Gsh ++ kT cI cB cZ oT Tcells Tgap Twires Tstands ++ kP cI cB cZ oP (oG 0) (oT 0) Pline Psize Pnow Pheads Pbusy Pcame Pout ++ kP cI cB cZ oQ (oG 0) (oT 0) Qline Qsize Qnow Qheads Qbusy Qcame Qout ++ kC cI cB cZ oC (oG 0) Crow Cquiet aCreader aCbars aCspare aCsearch aCbreach (oT 0) (oP 0) (oQ 0) Crun))) (va_Qi (fun (r9 : Int32) (u9 : Int × (Int → Int) × Int × Int × (Int → Int) × (Int → Int) × (Int → Int) × (Int → Int)) => r9 = zI u9.1 ∧ ((RA u9.2.1 (0) 7) ∧ ((0 : Int) ≤ u9.2.2.1 ∧ u9.2.2.1 ≤ 8) ∧ ((0 : Int) ≤ u9.2.2.2.1 ∧ u9.2.2.2.1 ≤ 1000000) ∧ (RA u9.2.2.2.2.1 (-1) 60) ∧ (RA u9.2.2.2.2.2.1 (0) 30) ∧ (RA u9.2.2.2.2.2.2.1 (-1) 1000000) ∧ (RA u9.2.2.2.2.2.2.2 (-1) 1000000) ∧ (Crun = 1) ∧ ((w = 0 ∧ ∃ k : Nat, u9.1 = Pnow + (k : Int) ∧ allP Pline Psize (runK Gki Gle Tcells Tgap Tstands Pline Psize Pnow (Pheads, Pbusy, Pcame, Pout) k).2.2.2 ∧ ∀ j : Nat, j < k → ¬ allP Pline Psize (runK Gki Gle Tcells Tgap Tstands Pline Psize Pnow (Pheads, Pbusy, Pcame, Pout) j).2.2.2) ∨ (w = 1 ∧ soloM Gki Gle Tcells Tgap Tstands Gn u9.1) ∨ (¬ w = 0 ∧ ¬ w = 1 ∧ u9.1 = -1)))) (fun u9 t9 => zAt D cI cB cZ (va_A (kG cI cB cZ oG Gn Gki Gle Glo Gta Gsh ++ kT cI cB cZ oT Tcells Tgap Twires Tstands ++ kP cI cB cZ oP (oG 0) (oT 0) Pline Psize Pnow Pheads Pbusy Pcame Pout ++ kP cI cB cZ oQ (oG 0) (oT 0) Qline Qsize Qnow Qheads Qbusy Qcame Qout ++ kC cI cB cZ oC (oG 0) Crow Cquiet aCreader aCbars aCspare aCsearch aCbreach (oT 0) (oP 0) (oQ 0) Crun) sz) (kG cI cB cZ oG Gn Gki Gle Glo Gta Gsh ++ kT cI cB cZ oT Tcells Tgap Twires Tstands ++ kP cI cB cZ oP (oG 0) (oT 0) Pline Psize Pnow Pheads Pbusy Pcame Pout ++ kP cI cB cZ oQ (oG 0) (oT 0) (u9.2.1) (u9.2.2.1) (u9.2.2.2.1) (u9.2.2.2.2.1) (u9.2.2.2.2.2.1) (u9.2.2.2.2.2.2.1) (u9.2.2.2.2.2.2.2) ++ kC cI cB cZ oC (oG 0) Crow Cquiet aCreader aCbars aCspare aCsearch aCbreach (oT 0) (oP 0) (oQ 0) Crun) t9) (va_A (kG cI cB cZ oG Gn Gki Gle Glo Gta Gsh ++ kT cI cB cZ oT Tcells Tgap Twires Tstands ++ kP cI cB cZ oP (oG 0) (oT 0) Pline Psize Pnow Pheads Pbusy Pcame Pout ++ kP cI cB cZ oQ (oG 0) (oT 0) Qline Qsize Qnow Qheads Qbusy Qcame Qout ++ kC cI cB cZ oC (oG 0) Crow Cquiet aCreader aCbars aCspare aCsearch aCbreach (oT 0) (oP 0) (oQ 0) Crun) sz)) (vx_X (fun _ : Unit => True) (fun E9 _ t9 => (Crun = 0 ∧ E9 = "java/util/NoSuchElementException") ∧ zAt D cI cB cZ (va_A (kG cI cB cZ oG Gn Gki Gle Glo Gta Gsh ++ kT cI cB cZ oT Tcells Tgap Twires Tstands ++ kP cI cB cZ oP (oG 0) (oT 0) Pline Psize Pnow Pheads Pbusy Pcame Pout ++ kP cI cB cZ oQ (oG 0) (oT 0) Qline Qsize Qnow Qheads Qbusy Qcame Qout ++ kC cI cB cZ oC (oG 0) Crow Cquiet aCreader aCbars aCspare aCsearch aCbreach (oT 0) (oP 0) (oQ 0) Crun) sz) (kG cI cB cZ oG Gn Gki Gle Glo Gta Gsh ++ kT cI cB cZ oT Tcells Tgap Twires Tstands ++ kP cI cB cZ oP (oG 0) (oT 0) Pline Psize Pnow Pheads Pbusy Pcame Pout ++ kP cI cB cZ oQ (oG 0) (oT 0) Qline Qsize Qnow Qheads Qbusy Qcame Qout ++ kC cI cB cZ oC (oG 0) Crow Cquiet aCreader aCbars aCspare aCsearch aCbreach (oT 0) (oP 0) (oQ 0) Crun) t9) (va_A (kG cI cB cZ oG Gn Gki Gle Glo Gta Gsh ++ kT cI cB cZ oT Tcells Tgap Twires Tstands ++ kP cI cB cZ oP (oG 0) (oT 0) Pline Psize Pnow Pheads Pbusy Pcame Pout ++ kP cI cB cZ oQ (oG 0) (oT 0) Qline Qsize Qnow Qheads Qbusy Qcame Qout ++ kC cI cB cZ oC (oG 0) Crow Cquiet aCreader aCbars aCspare aCsearch aCbreach (oT 0) (oP 0) (oQ 0) Crun) sz)) 1 6 (va_A (kG cI cB cZ oG Gn Gki Gle Glo Gta Gsh ++ kT cI cB cZ oT Tcells Tgap Twires Tstands ++ kP cI cB cZ oP (oG 0) (oT 0) Pline Psize Pnow Pheads Pbusy Pcame Pout ++ kP cI cB cZ oQ (oG 0) (oT 0) Qline Qsize Qnow Qheads Qbusy Qcame Qout ++ kC cI cB cZ oC (oG 0) Crow Cquiet aCreader aCbars aCspare aCsearch aCbreach (oT 0) (oP 0) (oQ 0) Crun) sz) := by
  refine vx_ofW (cc := cX7_ends) (maxL := 2) (ret := (some .int)) (by decide) rfl ?_
  intro pp ee s mm aa bw mt cd s₁ BL hml hnt hv
  obtain ⟨rfl, ⟨hsz, hP, hK, hD0⟩, hZE⟩ := hv
  have hx := BL.exec
  have hb := BL.bytes
  have hr := BL.returns
  have hts := atoms_spec (ws := wsX7_ends) BL.pre
  have hown : s.vm.findClass RX7 = some mm.cls := findClass_of_methodNamed BL.named
  have hlocks := BL.notSynchronized
  subst hsz
  generalize hAe : va_A (kG cI cB cZ oG Gn Gki Gle Glo Gta Gsh ++ kT cI cB cZ oT Tcells Tgap Twires Tstands ++ kP cI cB cZ oP (oG 0) (oT 0) Pline Psize Pnow Pheads Pbusy Pcame Pout ++ kP cI cB cZ oQ (oG 0) (oT 0) Qline Qsize Qnow Qheads Qbusy Qcame Qout ++ kC cI cB cZ oC (oG 0) Crow Cquiet aCreader aCbars aCspare aCsearch aCbreach (oT 0) (oP 0) (oQ 0) Crun) s.heap.size = A at hZE ⊢
  have hA : ∀ q : Nat, s.heap.size ≤ q → A q := fun q h => by rw [← hAe]; exact Or.inr h
  have hw : HW D A s.heap (kG cI cB cZ oG Gn Gki Gle Glo Gta Gsh ++ kT cI cB cZ oT Tcells Tgap Twires Tstands ++ kP cI cB cZ oP (oG 0) (oT 0) Pline Psize Pnow Pheads Pbusy Pcame Pout ++ kP cI cB cZ oQ (oG 0) (oT 0) Qline Qsize Qnow Qheads Qbusy Qcame Qout ++ kC cI cB cZ oC (oG 0) Crow Cquiet aCreader aCbars aCspare aCsearch aCbreach (oT 0) (oP 0) (oQ 0) Crun) s.heap [] := z_start hAe hP hD0
  clear hP hD0
  have hl := lv_entry ([.ref (oC 0), .int (zI w)]) (n := 2) (Nat.le_of_ble_eq_true rfl)
  rw [lg_entry_eq]
  generalize (lg_sl ([.ref (oC 0), .int (zI w)]) ++ List.replicate (2 - (lg_sl ([.ref (oC 0), .int (zI w)])).length) Slot.unset).toArray = ls at hl ⊢
  have hl : lv_has ls 2 [(0, .ref (oC 0)), (1, .int (zI w))] := hl
  have hinX3 : ∀ w ∈ wsX30, w ∈ wsX7_ends := by decide +kernel
  have hinX7 : ∀ w ∈ wsX70, w ∈ wsX7_ends := by decide +kernel
  refine lv_aload_n hx hb dX7_ends_0 rfl (lv_at hl 0 rfl) ?_
  have hF9 := z_free (wc := kC cI cB cZ oC (oG 0) Crow Cquiet aCreader aCbars aCspare aCsearch aCbreach (oT 0) (oP 0) (oQ 0) Crun) hw hA [21, 22, 23] rfl
  refine vx_callv (vx_runV (As := []) (rest := []) ⟨hx, hb, hml, hown, hts⟩ (c_X7_needRun l D cI cB cZ hst sa sb oC (oG 0) aCreader aCbars aCspare aCsearch aCbreach (oT 0) (oP 0) (oQ 0) s.heap.size Crow Cquiet Crun qCrow qCquiet (by omega)) (cwV 0 hts gX7_ends_X7_needRun rfl rfl rfl (by decide +kernel) ⟨Nat.le_of_ble_eq_true rfl, Nat.le_of_ble_eq_true rfl⟩) ⟨zPreE_blind, va_recv hK hw.1 (ci := 7) (q0 := 21) rfl rfl, z_preE hK hw [21, 22, 23] (by decide) rfl hZE hF9⟩ rfl rfl hl.1 rfl (lv_room (Nat.le_of_ble_eq_true rfl)) dX7_ends_1 ⟨Nat.le_of_ble_eq_true rfl, Nat.le_of_ble_eq_true rfl⟩) hw.2.2 (fun q _ h => hF9 q h) hF9 (fun q _ h => hF9 q h) (fun E9 ce9 q9 u9 t9 H9 locs9 ht9 hvm9 hp9 hB9 hz9 hk9 hS9 hce9 hcv9 hcl9 => ?_) (fun u9 t9 H_1 locs9 ht9 hvm9 hq9 hB9 hz9 hk9 hS9 => ?_)
  · obtain ⟨hx9, hB9⟩ := hB9
    have hw : HW D A s.heap (kG cI cB cZ oG Gn Gki Gle Glo Gta Gsh ++ kT cI cB cZ oT Tcells Tgap Twires Tstands ++ kP cI cB cZ oP (oG 0) (oT 0) Pline Psize Pnow Pheads Pbusy Pcame Pout ++ kP cI cB cZ oQ (oG 0) (oT 0) Qline Qsize Qnow Qheads Qbusy Qcame Qout ++ kC cI cB cZ oC (oG 0) Crow Cquiet aCreader aCbars aCspare aCsearch aCbreach (oT 0) (oP 0) (oQ 0) Crun) H9 locs9 := z_after (wc := kC cI cB cZ oC (oG 0) Crow Cquiet aCreader aCbars aCspare aCsearch aCbreach (oT 0) (oP 0) (oQ 0) Crun) hw [21, 22, 23] [0, 1, 2, 3, 4, 5, 6, 7, 8, 9, 10, 11, 12, 13, 14, 15, 16, 17, 18, 19, 20] rfl rfl (by decide) (by decide) hF9 hk9 ht9 hB9 hS9 [0, 1, 2, 3, 4, 5, 6, 7, 8, 9, 10, 11, 12, 13, 14, 15, 16, 17, 18, 19, 20, 21, 22, 23] (by decide) rfl
    exact vx_out (fun x hx => (hnt x hx).elim) hlocks hce9 hcv9 hcl9 (fun t ht hAl => ⟨(), trivial, ⟨by first | exact hx9 | exact Or.inl hx9 | exact Or.inr hx9, by subst hAe; exact z_alike hK hw ht hAl⟩, by subst hAe; exact hw.2.2.F ht⟩) (by subst hAe; exact hw.2.2.2.2) (Nat.le_of_ble_eq_true rfl) (Nat.le_of_ble_eq_true rfl)
  try dsimp only at hq9 hB9
  have hq_2 := hq9
  have hw : HW D A s.heap (kG cI cB cZ oG Gn Gki Gle Glo Gta Gsh ++ kT cI cB cZ oT Tcells Tgap Twires Tstands ++ kP cI cB cZ oP (oG 0) (oT 0) Pline Psize Pnow Pheads Pbusy Pcame Pout ++ kP cI cB cZ oQ (oG 0) (oT 0) Qline Qsize Qnow Qheads Qbusy Qcame Qout ++ kC cI cB cZ oC (oG 0) Crow Cquiet aCreader aCbars aCspare aCsearch aCbreach (oT 0) (oP 0) (oQ 0) Crun) H_1 locs9 := z_after (wc := kC cI cB cZ oC (oG 0) Crow Cquiet aCreader aCbars aCspare aCsearch aCbreach (oT 0) (oP 0) (oQ 0) Crun) hw [21, 22, 23] [0, 1, 2, 3, 4, 5, 6, 7, 8, 9, 10, 11, 12, 13, 14, 15, 16, 17, 18, 19, 20] rfl rfl (by decide) (by decide) hF9 hk9 ht9 hB9 hS9 [0, 1, 2, 3, 4, 5, 6, 7, 8, 9, 10, 11, 12, 13, 14, 15, 16, 17, 18, 19, 20, 21, 22, 23] (by decide) rfl
  clear hF9 ht9 hvm9 hB9 hz9 hk9 hS9 hq9
  refine lv_iload_n hx hb dX7_ends_4 rfl (lv_at hl 1 rfl) ?_
  rcases (show (¬ w = 0 ∧ ¬ w = 1) ∨ w = 0 ∨ w = 1 by omega) with hc_3 | hc_3 | hc_3
  · skip
    refine z_lookupOut (tgt := 63) hx hb (by omega) dX7_ends_5 (by decide) (by show Op.lookupswitch.offset [(0, 27), (1, 53)] 58 w = 58; rw [Op.lookupswitch.offset_cons, if_neg (by omega), Op.lookupswitch.offset_cons, if_neg (by omega), Op.lookupswitch.offset_nil]) (by decide) ?_
    refine z_iconst hx hb dX7_ends_63 ?_
    have hv_4 : (0 : Int) ≤ Qsize ∧ Qsize ≤ 8 := by
      first | assumption | omega | grind
    have hv_5 : (0 : Int) ≤ Qnow ∧ Qnow ≤ 1000000 := by
      first | assumption | omega | grind
    have hv_6 : Crun = 1 := by
      first | assumption | omega | grind
    have hv_7 : (w = 0 ∧ ∃ k : Nat, ((-1) : Int) = Pnow + (k : Int) ∧ allP Pline Psize (runK Gki Gle Tcells Tgap Tstands Pline Psize Pnow (Pheads, Pbusy, Pcame, Pout) k).2.2.2 ∧ ∀ j : Nat, j < k → ¬ allP Pline Psize (runK Gki Gle Tcells Tgap Tstands Pline Psize Pnow (Pheads, Pbusy, Pcame, Pout) j).2.2.2) ∨ (w = 1 ∧ soloM Gki Gle Tcells Tgap Tstands Gn ((-1) : Int)) ∨ (¬ w = 0 ∧ ¬ w = 1 ∧ ((-1) : Int) = -1) := by
      exact Or.inr (Or.inr ⟨by omega, by omega, rfl⟩)
    refine vx_ret ?_
    exact W.iret (v := zI (-1)) hx hb hr (fun t9 ht hW => ⟨⟨zI (-1), ((-1), Qline, Qsize, Qnow, Qheads, Qbusy, Qcame, Qout), rfl, ⟨rfl, ⟨qQline, hv_4, hv_5, qQheads, qQbusy, qQcame, qQout, hv_6, hv_7⟩⟩, by subst hAe; exact z_end hK hw ht hW⟩, by subst hAe; exact hw.2.2.F ht⟩) (by subst hAe; exact hw.2.2.2.2) dX7_ends_64
  · skip
    refine z_lookupIn (k := 0) (off := 27) (tgt := 32) hx hb hc_3 dX7_ends_5 (by decide) (by decide) (by decide) ?_
    refine lv_aload_n hx hb dX7_ends_32 rfl (lv_at hl 0 rfl) ?_
    refine va_get (D := D) (ci := 7) (v := .ref (oQ 0)) (C := RX7) (T := TX7) (N := 12) hx hb hts hinX7 hown hK hw.1 21 rfl rfl 10 (by decide) (hts (.fieldLink RX7 72 "CarnivalRoad" "trial" "LCarnivalRoad$Parade;") (by decide +kernel)) (fun _ h9 => h9) rfl dX7_ends_33 ?_
    refine lv_aload_n hx hb dX7_ends_36 rfl (lv_at hl 0 rfl) ?_
    refine va_get (D := D) (ci := 7) (v := .ref (oP 0)) (C := RX7) (T := TX7) (N := 12) hx hb hts hinX7 hown hK hw.1 21 rfl rfl 9 (by decide) (hts (.fieldLink RX7 68 "CarnivalRoad" "parade" "LCarnivalRoad$Parade;") (by decide +kernel)) (fun _ h9 => h9) rfl dX7_ends_37 ?_
    have hF9 := z_free (wc := kP cI cB cZ oQ (oG 0) (oT 0) Qline Qsize Qnow Qheads Qbusy Qcame Qout ++ kP cI cB cZ oP (oG 0) (oT 0) Pline Psize Pnow Pheads Pbusy Pcame Pout) hw hA [15, 16, 17, 18, 19, 20, 9, 10, 11, 12, 13, 14] rfl
    refine va_callv (va_runV (As := [.ref (oP 0)]) (rest := []) ⟨hx, hb, hml, hown, hts⟩ (c_X3_copyOf l D cI cB cZ oQ oP (oG 0) (oT 0) (oG 0) (oT 0) H_1.size Qline Qsize Qnow Qheads Qbusy Qcame Qout Pline Psize Pnow Pheads Pbusy Pcame Pout qQline (by omega) (by omega) qQheads qQbusy qQcame qQout qPline (by omega) (by omega) qPheads qPbusy qPcame qPout) (cwV 1 hts gX7_ends_X3_copyOf rfl rfl rfl (by decide +kernel) ⟨Nat.le_of_ble_eq_true rfl, Nat.le_of_ble_eq_true rfl⟩) ⟨zPre_blind, va_recv hK hw.1 (ci := 3) (q0 := 15) rfl rfl, z_pre hK hw [15, 16, 17, 18, 19, 20, 9, 10, 11, 12, 13, 14] (by decide) rfl⟩ rfl rfl hl.1 rfl (lv_room (Nat.le_of_ble_eq_true rfl)) dX7_ends_40 ⟨Nat.le_of_ble_eq_true rfl, Nat.le_of_ble_eq_true rfl⟩) hw.2.2 (fun q _ h => hF9 q h) hF9 (fun u9 t9 H_8 locs9 ht9 hvm9 hq9 hB9 hz9 hk9 hS9 => ?_)
    obtain ⟨Pline_9, Psize_10, Pnow_11, Pheads_12, Pbusy_13, Pcame_14, Pout_15⟩ := u9
    try dsimp only at hq9 hB9
    obtain ⟨hq_16, hq_17, hq_18, hq_19, hq_20, hq_21, hq_22, hq_23, hq_24, hq_25, hq_26, hq_27, hq_28, hq_29⟩ := hq9
    have hw : HW D A s.heap (kG cI cB cZ oG Gn Gki Gle Glo Gta Gsh ++ kT cI cB cZ oT Tcells Tgap Twires Tstands ++ kP cI cB cZ oP (oG 0) (oT 0) Pline Psize Pnow Pheads Pbusy Pcame Pout ++ kP cI cB cZ oQ (oG 0) (oT 0) Pline_9 Psize_10 Pnow_11 Pheads_12 Pbusy_13 Pcame_14 Pout_15 ++ kC cI cB cZ oC (oG 0) Crow Cquiet aCreader aCbars aCspare aCsearch aCbreach (oT 0) (oP 0) (oQ 0) Crun) H_8 locs9 := z_after (wc := kP cI cB cZ oQ (oG 0) (oT 0) Qline Qsize Qnow Qheads Qbusy Qcame Qout ++ kP cI cB cZ oP (oG 0) (oT 0) Pline Psize Pnow Pheads Pbusy Pcame Pout) hw [15, 16, 17, 18, 19, 20, 9, 10, 11, 12, 13, 14] [0, 1, 2, 3, 4, 5, 6, 7, 8, 21, 22, 23] rfl rfl (by decide) (by decide) hF9 hk9 ht9 hB9 hS9 [0, 1, 2, 3, 4, 5, 6, 7, 8, 18, 19, 20, 21, 22, 23, 12, 13, 14, 15, 16, 17, 9, 10, 11] (by decide) rfl
    clear hF9 ht9 hvm9 hB9 hz9 hk9 hS9
    have cl := hq_23
    have cs := hq_24
    have cn := hq_25
    have ch := hq_26
    have cb := hq_27
    have cc := hq_28
    have co := hq_29
    have hl9 : ∀ i, 0 ≤ i → i < Psize → Pline_9 i = Pline i ∧ 0 ≤ Pline_9 i ∧ Pline_9 i < 8 := fun i i0 i1 => by
      rw [cl, cpZ_in i0 (by omega)]; have q := qPline i; exact ⟨rfl, by omega, by omega⟩
    have hs9 : ag8 (Pheads_12, Pbusy_13, Pcame_14, Pout_15) (Pheads, Pbusy, Pcame, Pout) := fun a a0 a1 => by
      rw [ch, cb, cc, co]; exact ⟨cpZ_in a0 a1, cpZ_in a0 a1, cpZ_in a0 a1, cpZ_in a0 a1⟩
    refine lv_aload_n hx hb dX7_ends_43 rfl (lv_at hl 0 rfl) ?_
    refine va_get (D := D) (ci := 7) (v := .ref (oQ 0)) (C := RX7) (T := TX7) (N := 12) hx hb hts hinX7 hown hK hw.1 21 rfl rfl 10 (by decide) (hts (.fieldLink RX7 72 "CarnivalRoad" "trial" "LCarnivalRoad$Parade;") (by decide +kernel)) (fun _ h9 => h9) rfl dX7_ends_44 ?_
    have hpre_30 : JP Gle Tcells Pheads_12 Pout_15 := by
      have hj := hp0 (by omega)
      intro a a0 a1 a2
      rw [co, cpZ_in a0 a1] at a2
      rw [ch, cpZ_in a0 a1]
      exact hj.1 a a0 a1 a2
    have hpre_31 : Pnow_11 + (B : Int) ≤ 999999 := by
      have hj := hp0 (by omega)
      omega
    have hpre_32 : allP Pline_9 Psize_10 (runK Gki Gle Tcells Tgap Tstands Pline_9 Psize_10 Pnow_11 (Pheads_12, Pbusy_13, Pcame_14, Pout_15) B).2.2.2 := by
      rw [cs, cn, all_ag hl9 (fun a a0 a1 => (run_ag (by omega) hl9 hs9 B a a0 a1).2.2.2)]
      exact (hp0 (by omega)).2.2
    have hF9 := z_free (wc := kG cI cB cZ oG Gn Gki Gle Glo Gta Gsh ++ kT cI cB cZ oT Tcells Tgap Twires Tstands ++ kP cI cB cZ oQ (oG 0) (oT 0) Pline_9 Psize_10 Pnow_11 Pheads_12 Pbusy_13 Pcame_14 Pout_15) hw hA [0, 1, 2, 3, 4, 5, 6, 7, 8, 15, 16, 17, 18, 19, 20] rfl
    refine va_callv (va_runV (As := []) (rest := []) ⟨hx, hb, hml, hown, hts⟩ (c_X3_goToEnd l D cI cB cZ oG oT oQ H_8.size Gn Gki Gle Glo Gta Gsh Tcells Tgap Twires Tstands Pline_9 Psize_10 Pnow_11 Pheads_12 Pbusy_13 Pcame_14 Pout_15 B (by omega) qGki qGle qGlo qGta qGsh (by omega) (by omega) qTwires qTstands hq_16 (by omega) (by omega) hq_19 hq_20 hq_21 hq_22 hpre_30 hpre_31 hpre_32) (cwV 0 hts gX7_ends_X3_goToEnd rfl rfl rfl (by decide +kernel) ⟨Nat.le_of_ble_eq_true rfl, Nat.le_of_ble_eq_true rfl⟩) ⟨zPre_blind, va_recv hK hw.1 (ci := 3) (q0 := 15) rfl rfl, z_pre hK hw [0, 1, 2, 3, 4, 5, 6, 7, 8, 15, 16, 17, 18, 19, 20] (by decide) rfl⟩ rfl rfl hl.1 rfl (lv_room (Nat.le_of_ble_eq_true rfl)) dX7_ends_47 ⟨Nat.le_of_ble_eq_true rfl, Nat.le_of_ble_eq_true rfl⟩) hw.2.2 (fun q _ h => hF9 q h) hF9 (fun u9 t9 H_33 locs9 ht9 hvm9 hq9 hB9 hz9 hk9 hS9 => ?_)
    obtain ⟨Pnow_34, Pheads_35, Pbusy_36, Pcame_37, Pout_38⟩ := u9
    try dsimp only at hq9 hB9
    obtain ⟨hq_39, hq_40, hq_41, hq_42, hq_43, hq_44⟩ := hq9
    have hw : HW D A s.heap (kG cI cB cZ oG Gn Gki Gle Glo Gta Gsh ++ kT cI cB cZ oT Tcells Tgap Twires Tstands ++ kP cI cB cZ oP (oG 0) (oT 0) Pline Psize Pnow Pheads Pbusy Pcame Pout ++ kP cI cB cZ oQ (oG 0) (oT 0) Pline_9 Psize_10 Pnow_34 Pheads_35 Pbusy_36 Pcame_37 Pout_38 ++ kC cI cB cZ oC (oG 0) Crow Cquiet aCreader aCbars aCspare aCsearch aCbreach (oT 0) (oP 0) (oQ 0) Crun) H_33 locs9 := z_after (wc := kG cI cB cZ oG Gn Gki Gle Glo Gta Gsh ++ kT cI cB cZ oT Tcells Tgap Twires Tstands ++ kP cI cB cZ oQ (oG 0) (oT 0) Pline_9 Psize_10 Pnow_11 Pheads_12 Pbusy_13 Pcame_14 Pout_15) hw [0, 1, 2, 3, 4, 5, 6, 7, 8, 15, 16, 17, 18, 19, 20] [9, 10, 11, 12, 13, 14, 21, 22, 23] rfl rfl (by decide) (by decide) hF9 hk9 ht9 hB9 hS9 [9, 10, 11, 12, 13, 14, 15, 16, 17, 0, 1, 2, 3, 4, 5, 18, 19, 20, 21, 22, 23, 6, 7, 8] (by decide) rfl
    clear hF9 ht9 hvm9 hB9 hz9 hk9 hS9
    obtain ⟨k9, k9b, k9n, k9e, k9a, k9j⟩ := hq_44
    refine lv_aload_n hx hb dX7_ends_50 rfl (lv_at hl 0 rfl) ?_
    refine va_get (D := D) (ci := 7) (v := .ref (oQ 0)) (C := RX7) (T := TX7) (N := 12) hx hb hts hinX7 hown hK hw.1 21 rfl rfl 10 (by decide) (hts (.fieldLink RX7 72 "CarnivalRoad" "trial" "LCarnivalRoad$Parade;") (by decide +kernel)) (fun _ h9 => h9) rfl dX7_ends_51 ?_
    refine va_get (D := D) (ci := 3) (v := .int (zI Pnow_34)) (C := RX3) (T := TX3) (N := 9) hx hb hts hinX3 hown hK hw.1 15 rfl rfl 4 (by decide) (hts (.fieldLink RX7 211 "CarnivalRoad$Parade" "now" "I") (by decide +kernel)) (fun _ h9 => h9) rfl dX7_ends_54 ?_
    have hv_45 : (0 : Int) ≤ Psize_10 ∧ Psize_10 ≤ 8 := by
      first | assumption | omega | grind
    have hv_46 : (0 : Int) ≤ Pnow_34 ∧ Pnow_34 ≤ 1000000 := by
      first | assumption | omega | grind
    have hv_47 : Crun = 1 := by
      first | assumption | omega | grind
    have hv_48 : (w = 0 ∧ ∃ k : Nat, Pnow_34 = Pnow + (k : Int) ∧ allP Pline Psize (runK Gki Gle Tcells Tgap Tstands Pline Psize Pnow (Pheads, Pbusy, Pcame, Pout) k).2.2.2 ∧ ∀ j : Nat, j < k → ¬ allP Pline Psize (runK Gki Gle Tcells Tgap Tstands Pline Psize Pnow (Pheads, Pbusy, Pcame, Pout) j).2.2.2) ∨ (w = 1 ∧ soloM Gki Gle Tcells Tgap Tstands Gn Pnow_34) ∨ (¬ w = 0 ∧ ¬ w = 1 ∧ Pnow_34 = -1) := by
      have e9 := congrArg (fun s : PS => s.2.2.2) k9e
      dsimp only at e9
      rw [e9, cs, cn, all_ag hl9 (fun a a0 a1 => (run_ag (by omega) hl9 hs9 k9 a a0 a1).2.2.2)] at k9a
      refine Or.inl ⟨by omega, k9, by omega, k9a, fun j hj => ?_⟩
      have q := k9j j hj
      rw [cs, cn, all_ag hl9 (fun a a0 a1 => (run_ag (by omega) hl9 hs9 j a a0 a1).2.2.2)] at q
      exact q
    refine vx_ret ?_
    exact W.iret (v := zI Pnow_34) hx hb hr (fun t9 ht hW => ⟨⟨zI Pnow_34, (Pnow_34, Pline_9, Psize_10, Pnow_34, Pheads_35, Pbusy_36, Pcame_37, Pout_38), rfl, ⟨rfl, ⟨hq_16, hv_45, hv_46, hq_40, hq_41, hq_42, hq_43, hv_47, hv_48⟩⟩, by subst hAe; exact z_end hK hw ht hW⟩, by subst hAe; exact hw.2.2.F ht⟩) (by subst hAe; exact hw.2.2.2.2) dX7_ends_57
  · skip
    refine z_lookupIn (k := 1) (off := 53) (tgt := 58) hx hb hc_3 dX7_ends_5 (by decide) (by decide) (by decide) ?_
    refine lv_aload_n hx hb dX7_ends_58 rfl (lv_at hl 0 rfl) ?_
    have hpre_49 : ∀ g, 0 ≤ g → g < Gn → 0 ≤ Gle g ∧ Gle g ≤ 5 := by
      exact hp1
    have hF9 := z_free (wc := kG cI cB cZ oG Gn Gki Gle Glo Gta Gsh ++ kT cI cB cZ oT Tcells Tgap Twires Tstands ++ kP cI cB cZ oQ (oG 0) (oT 0) Qline Qsize Qnow Qheads Qbusy Qcame Qout ++ kC cI cB cZ oC (oG 0) Crow Cquiet aCreader aCbars aCspare aCsearch aCbreach (oT 0) (oP 0) (oQ 0) Crun) hw hA [0, 1, 2, 3, 4, 5, 6, 7, 8, 15, 16, 17, 18, 19, 20, 21, 22, 23] rfl
    refine va_calli (va_runV (As := []) (rest := []) ⟨hx, hb, hml, hown, hts⟩ (c_X7_longestAlone l D cI cB cZ oG oT oQ oC aCreader aCbars aCspare aCsearch aCbreach (oP 0) H_1.size Gn Gki Gle Glo Gta Gsh Tcells Tgap Twires Tstands Qline Qsize Qnow Qheads Qbusy Qcame Qout Crow Cquiet Crun (by omega) qGki qGle qGlo qGta qGsh (by omega) (by omega) qTwires qTstands qQline (by omega) (by omega) qQheads qQbusy qQcame qQout qCrow qCquiet (by omega) hpre_49) (cwV 0 hts gX7_ends_X7_longestAlone rfl rfl rfl (by decide +kernel) ⟨Nat.le_of_ble_eq_true rfl, Nat.le_of_ble_eq_true rfl⟩) ⟨zPre_blind, va_recv hK hw.1 (ci := 7) (q0 := 21) rfl rfl, z_pre hK hw [0, 1, 2, 3, 4, 5, 6, 7, 8, 15, 16, 17, 18, 19, 20, 21, 22, 23] (by decide) rfl⟩ rfl rfl hl.1 rfl (lv_room (Nat.le_of_ble_eq_true rfl)) dX7_ends_59 ⟨Nat.le_of_ble_eq_true rfl, Nat.le_of_ble_eq_true rfl⟩) hw.2.2 (fun q _ h => hF9 q h) hF9 (fun r9 u9 t9 H_50 locs9 ht9 hvm9 hq9 hB9 hz9 hk9 hS9 => ?_)
    obtain ⟨r_51, Qline_52, Qsize_53, Qnow_54, Qheads_55, Qbusy_56, Qcame_57, Qout_58⟩ := u9
    try dsimp only at hq9 hB9
    obtain ⟨rfl, hq9⟩ := hq9
    obtain ⟨hq_59, hq_60, hq_61, hq_62, hq_63, hq_64, hq_65, hq_66, hq_67⟩ := hq9
    have hw : HW D A s.heap (kG cI cB cZ oG Gn Gki Gle Glo Gta Gsh ++ kT cI cB cZ oT Tcells Tgap Twires Tstands ++ kP cI cB cZ oP (oG 0) (oT 0) Pline Psize Pnow Pheads Pbusy Pcame Pout ++ kP cI cB cZ oQ (oG 0) (oT 0) Qline_52 Qsize_53 Qnow_54 Qheads_55 Qbusy_56 Qcame_57 Qout_58 ++ kC cI cB cZ oC (oG 0) Crow Cquiet aCreader aCbars aCspare aCsearch aCbreach (oT 0) (oP 0) (oQ 0) Crun) H_50 locs9 := z_after (wc := kG cI cB cZ oG Gn Gki Gle Glo Gta Gsh ++ kT cI cB cZ oT Tcells Tgap Twires Tstands ++ kP cI cB cZ oQ (oG 0) (oT 0) Qline Qsize Qnow Qheads Qbusy Qcame Qout ++ kC cI cB cZ oC (oG 0) Crow Cquiet aCreader aCbars aCspare aCsearch aCbreach (oT 0) (oP 0) (oQ 0) Crun) hw [0, 1, 2, 3, 4, 5, 6, 7, 8, 15, 16, 17, 18, 19, 20, 21, 22, 23] [9, 10, 11, 12, 13, 14] rfl rfl (by decide) (by decide) hF9 hk9 ht9 hB9 hS9 [6, 7, 8, 9, 10, 11, 12, 13, 14, 0, 1, 2, 3, 4, 5, 15, 16, 17, 18, 19, 20, 21, 22, 23] (by decide) rfl
    clear hF9 ht9 hvm9 hB9 hz9 hk9 hS9
    have hv_68 : (0 : Int) ≤ Qsize_53 ∧ Qsize_53 ≤ 8 := by
      first | assumption | omega | grind
    have hv_69 : (0 : Int) ≤ Qnow_54 ∧ Qnow_54 ≤ 1000000 := by
      first | assumption | omega | grind
    have hv_70 : Crun = 1 := by
      first | assumption | omega | grind
    have hv_71 : (w = 0 ∧ ∃ k : Nat, r_51 = Pnow + (k : Int) ∧ allP Pline Psize (runK Gki Gle Tcells Tgap Tstands Pline Psize Pnow (Pheads, Pbusy, Pcame, Pout) k).2.2.2 ∧ ∀ j : Nat, j < k → ¬ allP Pline Psize (runK Gki Gle Tcells Tgap Tstands Pline Psize Pnow (Pheads, Pbusy, Pcame, Pout) j).2.2.2) ∨ (w = 1 ∧ soloM Gki Gle Tcells Tgap Tstands Gn r_51) ∨ (¬ w = 0 ∧ ¬ w = 1 ∧ r_51 = -1) := by
      exact Or.inr (Or.inl ⟨by omega, by assumption⟩)
    refine vx_ret ?_
    exact W.iret (v := zI r_51) hx hb hr (fun t9 ht hW => ⟨⟨zI r_51, (r_51, Qline_52, Qsize_53, Qnow_54, Qheads_55, Qbusy_56, Qcame_57, Qout_58), rfl, ⟨rfl, ⟨hq_59, hv_68, hv_69, hq_62, hq_63, hq_64, hq_65, hv_70, hv_71⟩⟩, by subst hAe; exact z_end hK hw ht hW⟩, by subst hAe; exact hw.2.2.F ht⟩) (by subst hAe; exact hw.2.2.2.2) dX7_ends_62
