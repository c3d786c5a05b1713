set_option maxRecDepth 100000 in
set_option maxHeartbeats 4000000 in
theorem c_X7_longestAlone (l : Launch) (D : va_G) (cI cB cZ : ClassId) (oG : Nat → Nat) (oT : Nat → Nat) (oQ : Nat → Nat) (oC : Nat → Nat) (aCreader : Nat) (aCbars : Nat) (aCspare : Nat) (aCsearch : Nat) (aCbreach : Nat) (aCparade : Nat) (sz : Nat) (Gn : Int) (Gki : Int → Int) (Gle : Int → Int) (Glo : Int → Int) (Gta : Int → Int) (Gsh : Int → Int) (Tcells : Int) (Tgap : Int) (Twires : Int → Int) (Tstands : Int → Int) (Qline : Int → Int) (Qsize : Int) (Qnow : Int) (Qheads : Int → Int) (Qbusy : Int → Int) (Qcame : Int → Int) (Qout : Int → Int) (Crow : Int → Int) (Cquiet : Int → Int) (Crun : Int) (qGn : 0 ≤ Gn ∧ Gn ≤ 8) (qGki : RA Gki (0) 4) (qGle : RA Gle (0) 5) (qGlo : RA Glo (0) 9) (qGta : RA Gta (0) 9) (qGsh : RA Gsh (0) 9) (qTcells : 1 ≤ Tcells ∧ Tcells ≤ 50) (qTgap : 0 ≤ Tgap ∧ Tgap ≤ 3) (qTwires : RA Twires (0) 9) (qTstands : RA Tstands (0) 9) (qQline : RA Qline (0) 7) (qQsize : 0 ≤ Qsize ∧ Qsize ≤ 8) (qQnow : 0 ≤ Qnow ∧ Qnow ≤ 1000000) (qQheads : RA Qheads (-1) 60) (qQbusy : RA Qbusy (0) 30) (qQcame : RA Qcame (-1) 1000000) (qQout : RA Qout (-1) 1000000) (qCrow : RA Crow (0) 7) (qCquiet : RA Cquiet (0) 7) (qCrun : 0 ≤ Crun ∧ Crun ≤ 1) (hp0 : ∀ g, 0 ≤ g → g < Gn → 0 ≤ Gle g ∧ Gle g ≤ 5) : Met l yX7_longestAlone wsX7_longestAlone ({ frames := 5, cells := 0, slots := 0, locals := 108 }) (va_Pc [.ref (oC 0)] (zPre D cI cB cZ sz (kG cI cB cZ oG Gn Gki Gle Glo Gta Gsh ++ kT cI cB cZ oT Tcells Tgap Twires Tstands ++ kP cI cB cZ oQ (oG 0) (oT 0) Qline Qsize Qnow Qheads Qbusy Qcame Qout ++ kC cI cB cZ oC (oG 0) Crow Cquiet aCreader aCbars aCspare aCsearch aCbreach (oT 0) aCparade (oQ 0) Crun))) (va_Qi (fun (r9 : Int32) (u9 : Int × (Int → Int) × Int × Int × (Int → Int) × (Int → Int) × (Int → Int) × (Int → Int)) => r9 = zI u9.1 ∧ ((RA u9.2.1 (0) 7) ∧ ((0 : Int) ≤ u9.2.2.1 ∧ u9.2.2.1 ≤ 8) ∧ ((0 : Int) ≤ u9.2.2.2.1 ∧ u9.2.2.2.1 ≤ 1000000) ∧ (RA u9.2.2.2.2.1 (-1) 60) ∧ (RA u9.2.2.2.2.2.1 (0) 30) ∧ (RA u9.2.2.2.2.2.2.1 (-1) 1000000) ∧ (RA u9.2.2.2.2.2.2.2 (-1) 1000000) ∧ (soloM Gki Gle Tcells Tgap Tstands Gn u9.1) ∧ (0 ≤ u9.1 ∧ u9.1 ≤ 30000))) (fun u9 t9 => zAt D cI cB cZ (va_A (kG cI cB cZ oG Gn Gki Gle Glo Gta Gsh ++ kT cI cB cZ oT Tcells Tgap Twires Tstands ++ kP cI cB cZ oQ (oG 0) (oT 0) Qline Qsize Qnow Qheads Qbusy Qcame Qout ++ kC cI cB cZ oC (oG 0) Crow Cquiet aCreader aCbars aCspare aCsearch aCbreach (oT 0) aCparade (oQ 0) Crun) sz) (kG cI cB cZ oG Gn Gki Gle Glo Gta Gsh ++ kT cI cB cZ oT Tcells Tgap Twires Tstands ++ kP cI cB cZ oQ (oG 0) (oT 0) (u9.2.1) (u9.2.2.1) (u9.2.2.2.1) (u9.2.2.2.2.1) (u9.2.2.2.2.2.1) (u9.2.2.2.2.2.2.1) (u9.2.2.2.2.2.2.2) ++ kC cI cB cZ oC (oG 0) Crow Cquiet aCreader aCbars aCspare aCsearch aCbreach (oT 0) aCparade (oQ 0) Crun) t9) (va_A (kG cI cB cZ oG Gn Gki Gle Glo Gta Gsh ++ kT cI cB cZ oT Tcells Tgap Twires Tstands ++ kP cI cB cZ oQ (oG 0) (oT 0) Qline Qsize Qnow Qheads Qbusy Qcame Qout ++ kC cI cB cZ oC (oG 0) Crow Cquiet aCreader aCbars aCspare aCsearch aCbreach (oT 0) aCparade (oQ 0) Crun) sz)) 0 0 (va_A (kG cI cB cZ oG Gn Gki Gle Glo Gta Gsh ++ kT cI cB cZ oT Tcells Tgap Twires Tstands ++ kP cI cB cZ oQ (oG 0) (oT 0) Qline Qsize Qnow Qheads Qbusy Qcame Qout ++ kC cI cB cZ oC (oG 0) Crow Cquiet aCreader aCbars aCspare aCsearch aCbreach (oT 0) aCparade (oQ 0) Crun) sz) := by
  refine Met.ofW (cc := cX7_longestAlone) (maxL := 3) (ret := (some .int)) (by decide) rfl ?_
  intro pp ee s mm aa bw mt cd s₁ BL hml hv
  obtain ⟨rfl, hsz, hP, hK, hD0⟩ := hv
  have hx := BL.exec
  have hb := BL.bytes
  have hr := BL.returns
  have hts := atoms_spec (ws := wsX7_longestAlone) BL.pre
  have hown : s.vm.findClass RX7 = some mm.cls := findClass_of_methodNamed BL.named
  have hlocks := BL.notSynchronized
  subst hsz
  generalize hAe : va_A (kG cI cB cZ oG Gn Gki Gle Glo Gta Gsh ++ kT cI cB cZ oT Tcells Tgap Twires Tstands ++ kP cI cB cZ oQ (oG 0) (oT 0) Qline Qsize Qnow Qheads Qbusy Qcame Qout ++ kC cI cB cZ oC (oG 0) Crow Cquiet aCreader aCbars aCspare aCsearch aCbreach (oT 0) aCparade (oQ 0) Crun) s.heap.size = A
  have hA : ∀ q : Nat, s.heap.size ≤ q → A q := fun q h => by rw [← hAe]; exact Or.inr h
  have hw : HW D A s.heap (kG cI cB cZ oG Gn Gki Gle Glo Gta Gsh ++ kT cI cB cZ oT Tcells Tgap Twires Tstands ++ kP cI cB cZ oQ (oG 0) (oT 0) Qline Qsize Qnow Qheads Qbusy Qcame Qout ++ kC cI cB cZ oC (oG 0) Crow Cquiet aCreader aCbars aCspare aCsearch aCbreach (oT 0) aCparade (oQ 0) Crun) s.heap [] := z_start hAe hP hD0
  clear hP hD0
  have hl := lv_entry ([.ref (oC 0)]) (n := 3) (Nat.le_of_ble_eq_true rfl)
  rw [lg_entry_eq]
  generalize (lg_sl ([.ref (oC 0)]) ++ List.replicate (3 - (lg_sl ([.ref (oC 0)])).length) Slot.unset).toArray = ls at hl ⊢
  have hl : lv_has ls 3 [(0, .ref (oC 0))] := hl
  have hinX2 : ∀ w ∈ wsX20, w ∈ wsX7_longestAlone := by decide +kernel
  have hinX3 : ∀ w ∈ wsX30, w ∈ wsX7_longestAlone := by decide +kernel
  have hinX7 : ∀ w ∈ wsX70, w ∈ wsX7_longestAlone := by decide +kernel
  refine z_iconst hx hb dX7_longestAlone_0 ?_
  refine lv_istore_n (lv' := [(1, .int (zI 0)), (0, .ref (oC 0))]) hx hb dX7_longestAlone_1 rfl hl (by decide) rfl (fun ls hl => ?_)
  refine z_iconst hx hb dX7_longestAlone_2 ?_
  refine lv_istore_n (lv' := [(2, .int (zI 0)), (1, .int (zI 0)), (0, .ref (oC 0))]) hx hb dX7_longestAlone_3 rfl hl (by decide) rfl (fun ls hl => ?_)
  have hv_1 : (0 : Int) ≤ Qsize ∧ Qsize ≤ 8 := by
    first | assumption | omega | grind
  have hv_2 : (0 : Int) ≤ Qnow ∧ Qnow ≤ 1000000 := by
    first | assumption | omega | grind
  have hv_3 : 0 ≤ (0 : Int) ∧ (0 : Int) ≤ Gn := by
    first | assumption | omega | grind
  have hv_4 : (0 : Int) ≤ 30000 := by
    first | assumption | omega | grind
  have hv_5 : 0 ≤ (0 : Int) ∧ (∀ a, 0 ≤ a → a < (0 : Int) → ∀ t : Nat, soloE Gki Gle Tcells Tgap Tstands a t → (t : Int) ≤ (0 : Int)) ∧ ((0 : Int) = 0 ∨ ∃ g, 0 ≤ g ∧ g < Gn ∧ ∃ t : Nat, (0 : Int) = (t : Int) ∧ soloE Gki Gle Tcells Tgap Tstands g t) := by
    exact ⟨by omega, fun a a0 a1 => absurd a1 (by omega), Or.inl rfl⟩
  refine z_loop (σ := Int × Int × (Int → Int) × Int × Int × (Int → Int) × (Int → Int) × (Int → Int) × (Int → Int)) (μ := fun x9 => (9 - (x9.2.1)).toNat) (I := fun x9 H locs ls => (RA (x9.2.2.1) (0) 7) ∧ ((0 : Int) ≤ (x9.2.2.2.1) ∧ (x9.2.2.2.1) ≤ 8) ∧ ((0 : Int) ≤ (x9.2.2.2.2.1) ∧ (x9.2.2.2.2.1) ≤ 1000000) ∧ (RA (x9.2.2.2.2.2.1) (-1) 60) ∧ (RA (x9.2.2.2.2.2.2.1) (0) 30) ∧ (RA (x9.2.2.2.2.2.2.2.1) (-1) 1000000) ∧ (RA (x9.2.2.2.2.2.2.2.2) (-1) 1000000) ∧ (0 ≤ (x9.2.1) ∧ (x9.2.1) ≤ Gn) ∧ ((x9.1) ≤ 30000) ∧ (0 ≤ (x9.1) ∧ (∀ a, 0 ≤ a → a < (x9.2.1) → ∀ t : Nat, soloE Gki Gle Tcells Tgap Tstands a t → (t : Int) ≤ (x9.1)) ∧ ((x9.1) = 0 ∨ ∃ g, 0 ≤ g ∧ g < Gn ∧ ∃ t : Nat, (x9.1) = (t : Int) ∧ soloE Gki Gle Tcells Tgap Tstands g t)) ∧ HW D A s.heap (kG cI cB cZ oG Gn Gki Gle Glo Gta Gsh ++ kT cI cB cZ oT Tcells Tgap Twires Tstands ++ kP cI cB cZ oQ (oG 0) (oT 0) (x9.2.2.1) (x9.2.2.2.1) (x9.2.2.2.2.1) (x9.2.2.2.2.2.1) (x9.2.2.2.2.2.2.1) (x9.2.2.2.2.2.2.2.1) (x9.2.2.2.2.2.2.2.2) ++ kC cI cB cZ oC (oG 0) Crow Cquiet aCreader aCbars aCspare aCsearch aCbreach (oT 0) aCparade (oQ 0) Crun) H locs ∧ lv_has ls 3 [(0, .ref (oC 0)), (1, .int (zI (x9.1))), (2, .int (zI (x9.2.1)))]) (0, 0, Qline, Qsize, Qnow, Qheads, Qbusy, Qcame, Qout) ⟨qQline, hv_1, hv_2, qQheads, qQbusy, qQcame, qQout, hv_3, hv_4, hv_5, hw, lv_sub hl [2, 1, 0] rfl⟩ ?_
  clear hw hl
  intro x9 H locs ls hI ih_6
  obtain ⟨lg_7, g_8, Qline_9, Qsize_10, Qnow_11, Qheads_12, Qbusy_13, Qcame_14, Qout_15⟩ := x9
  try dsimp only at hI
  obtain ⟨hR_16, hq_17, hq_18, hR_19, hR_20, hR_21, hR_22, hI_23, hI_24, hI_25, hw, hl⟩ := hI
  refine lv_iload_n hx hb dX7_longestAlone_4 rfl (lv_at hl 2 rfl) ?_
  refine lv_aload_n hx hb dX7_longestAlone_5 rfl (lv_at hl 0 rfl) ?_
  refine va_get (D := D) (ci := 7) (v := .ref (oG 0)) (C := RX7) (T := TX7) (N := 12) hx hb hts hinX7 hown hK hw.1 15 rfl rfl 0 (by decide) (hts (.fieldLink RX7 10 "CarnivalRoad" "guests" "LCarnivalRoad$Guests;") (by decide +kernel)) (fun _ h9 => h9) rfl dX7_longestAlone_6 ?_
  refine va_get (D := D) (ci := 2) (v := .int (zI Gn)) (C := RX2) (T := TX2) (N := 6) hx hb hts hinX2 hown hK hw.1 0 rfl rfl 0 (by decide) (hts (.fieldLink RX7 79 "CarnivalRoad$Guests" "count" "I") (by decide +kernel)) (fun _ h9 => h9) rfl dX7_longestAlone_9 ?_
  refine z_icmp_ge (tgt := 48) hx hb dX7_longestAlone_12 (by decide) (by omega) (fun hc_26 => ?_) (fun hc_26 => ?_)
  · skip
    refine lv_iload_n hx hb dX7_longestAlone_48 rfl (lv_at hl 1 rfl) ?_
    have hv_27 : (0 : Int) ≤ Qsize_10 ∧ Qsize_10 ≤ 8 := by
      first | assumption | omega | grind
    have hv_28 : (0 : Int) ≤ Qnow_11 ∧ Qnow_11 ≤ 1000000 := by
      first | assumption | omega | grind
    have hv_29 : soloM Gki Gle Tcells Tgap Tstands Gn lg_7 := by
      have q := (by assumption : 0 ≤ lg_7 ∧ _ ∧ _)
      exact ⟨q.1, fun g g0 g1 t ht => q.2.1 g g0 (by omega) t ht, q.2.2⟩
    have hv_30 : 0 ≤ lg_7 ∧ lg_7 ≤ 30000 := by
      first | assumption | omega | grind
    exact W.iret (v := zI lg_7) hx hb hr (fun t9 ht hW => ⟨⟨zI lg_7, (lg_7, Qline_9, Qsize_10, Qnow_11, Qheads_12, Qbusy_13, Qcame_14, Qout_15), rfl, ⟨rfl, ⟨hR_16, hv_27, hv_28, hR_19, hR_20, hR_21, hR_22, hv_29, hv_30⟩⟩, by subst hAe; exact z_end hK hw ht hW⟩, by subst hAe; exact hw.2.2.F ht⟩) (by subst hAe; exact hw.2.2.2.2) dX7_longestAlone_49
  · skip
    refine lv_aload_n hx hb dX7_longestAlone_15 rfl (lv_at hl 0 rfl) ?_
    refine va_get (D := D) (ci := 7) (v := .ref (oQ 0)) (C := RX7) (T := TX7) (N := 12) hx hb hts hinX7 hown hK hw.1 15 rfl rfl 10 (by decide) (hts (.fieldLink RX7 72 "CarnivalRoad" "trial" "LCarnivalRoad$Parade;") (by decide +kernel)) (fun _ h9 => h9) rfl dX7_longestAlone_16 ?_
    refine lv_iload_n hx hb dX7_longestAlone_19 rfl (lv_at hl 2 rfl) ?_
    have hF9 := z_free (wc := kG cI cB cZ oG Gn Gki Gle Glo Gta Gsh ++ kT cI cB cZ oT Tcells Tgap Twires Tstands ++ kP cI cB cZ oQ (oG 0) (oT 0) Qline_9 Qsize_10 Qnow_11 Qheads_12 Qbusy_13 Qcame_14 Qout_15) hw hA [0, 1, 2, 3, 4, 5, 6, 7, 8, 9, 10, 11, 12, 13, 14] rfl
    refine va_callv (va_runV (As := [.int (zI g_8)]) (rest := []) ⟨hx, hb, hml, hown, hts⟩ (c_X3_startAlone l D cI cB cZ oG oT oQ H.size Gn Gki Gle Glo Gta Gsh Tcells Tgap Twires Tstands Qline_9 Qsize_10 Qnow_11 Qheads_12 Qbusy_13 Qcame_14 Qout_15 g_8 (by omega) qGki qGle qGlo qGta qGsh (by omega) (by omega) qTwires qTstands hR_16 (by omega) (by omega) hR_19 hR_20 hR_21 hR_22 (by omega)) (cwV 1 hts gX7_longestAlone_X3_startAlone rfl rfl rfl (by decide +kernel) ⟨Nat.le_of_ble_eq_true rfl, Nat.le_of_ble_eq_true rfl⟩) ⟨zPre_blind, va_recv hK hw.1 (ci := 3) (q0 := 9) rfl rfl, z_pre hK hw [0, 1, 2, 3, 4, 5, 6, 7, 8, 9, 10, 11, 12, 13, 14] (by decide) rfl⟩ rfl rfl hl.1 rfl (lv_room (Nat.le_of_ble_eq_true rfl)) dX7_longestAlone_20 ⟨Nat.zero_le _, Nat.zero_le _⟩) hw.2.2 (fun q _ h => hF9 q h) hF9 (fun u9 t9 H_31 locs9 ht9 hvm9 hq9 hB9 hz9 hk9 hS9 => ?_)
    obtain ⟨Pline_32, Psize_33, Pnow_34, Pheads_35, Pbusy_36, Pcame_37, Pout_38⟩ := u9
    try dsimp only at hq9 hB9
    obtain ⟨hq_39, hq_40, hq_41, hq_42, hq_43, hq_44, hq_45, hq_46, hq_47, hq_48, hq_49⟩ := hq9
    have hw : HW D A s.heap (kG cI cB cZ oG Gn Gki Gle Glo Gta Gsh ++ kT cI cB cZ oT Tcells Tgap Twires Tstands ++ kP cI cB cZ oQ (oG 0) (oT 0) Pline_32 Psize_33 Pnow_34 Pheads_35 Pbusy_36 Pcame_37 Pout_38 ++ kC cI cB cZ oC (oG 0) Crow Cquiet aCreader aCbars aCspare aCsearch aCbreach (oT 0) aCparade (oQ 0) Crun) H_31 locs9 := z_after (wc := kG cI cB cZ oG Gn Gki Gle Glo Gta Gsh ++ kT cI cB cZ oT Tcells Tgap Twires Tstands ++ kP cI cB cZ oQ (oG 0) (oT 0) Qline_9 Qsize_10 Qnow_11 Qheads_12 Qbusy_13 Qcame_14 Qout_15) hw [0, 1, 2, 3, 4, 5, 6, 7, 8, 9, 10, 11, 12, 13, 14] [15, 16, 17] rfl rfl (by decide) (by decide) hF9 hk9 ht9 hB9 hS9 [3, 4, 5, 6, 7, 8, 9, 10, 11, 12, 13, 14, 15, 16, 17, 0, 1, 2] (by decide) rfl
    clear hF9 ht9 hvm9 hB9 hz9 hk9 hS9
    have hl0 := hq_46
    have hs1 := hq_47
    have hn0 := hq_48
    have hw8 := hq_49
    obtain ⟨B9, hB9a, hB9b⟩ := solo_ends (ki := Gki) (le := Gle) (gap := Tgap) (cells := Tcells) (stands := Tstands) (g := g_8) (by omega) (by have q := hp0 g_8 (by omega) (by omega); omega) (fun c _ _ => qTstands c)
    have hag : agG g_8 (Pheads_35, Pbusy_36, Pcame_37, Pout_38) s00 := hw8 g_8 (by omega) (by omega)
    have hln : Pline_32 0 = g_8 := by rw [hl0]; exact uZ_s
    refine lv_aload_n hx hb dX7_longestAlone_23 rfl (lv_at hl 0 rfl) ?_
    refine va_get (D := D) (ci := 7) (v := .ref (oQ 0)) (C := RX7) (T := TX7) (N := 12) hx hb hts hinX7 hown hK hw.1 15 rfl rfl 10 (by decide) (hts (.fieldLink RX7 72 "CarnivalRoad" "trial" "LCarnivalRoad$Parade;") (by decide +kernel)) (fun _ h9 => h9) rfl dX7_longestAlone_24 ?_
    have hpre_50 : JP Gle Tcells Pheads_35 Pout_38 := by
      intro a a0 a1 _
      have q := hw8 a a0 (by omega)
      have q2 := qGle a
      rw [q.1]; omega
    have hpre_51 : Pnow_34 + (B9 : Int) ≤ 999999 := by
      omega
    have hpre_52 : allP Pline_32 Psize_33 (runK Gki Gle Tcells Tgap Tstands Pline_32 Psize_33 Pnow_34 (Pheads_35, Pbusy_36, Pcame_37, Pout_38) B9).2.2.2 := by
      rw [hs1, hn0, all_one hln]
      intro z
      rw [(solo_at hln hag B9).2.2.2] at z
      exact hB9b z
    have hF9 := z_free (wc := kG cI cB cZ oG Gn Gki Gle Glo Gta Gsh ++ kT cI cB cZ oT Tcells Tgap Twires Tstands ++ kP cI cB cZ oQ (oG 0) (oT 0) Pline_32 Psize_33 Pnow_34 Pheads_35 Pbusy_36 Pcame_37 Pout_38) hw hA [0, 1, 2, 3, 4, 5, 6, 7, 8, 9, 10, 11, 12, 13, 14] rfl
    refine va_callv (va_runV (As := []) (rest := []) ⟨hx, hb, hml, hown, hts⟩ (c_X3_goToEnd l D cI cB cZ oG oT oQ H_31.size Gn Gki Gle Glo Gta Gsh Tcells Tgap Twires Tstands Pline_32 Psize_33 Pnow_34 Pheads_35 Pbusy_36 Pcame_37 Pout_38 B9 (by omega) qGki qGle qGlo qGta qGsh (by omega) (by omega) qTwires qTstands hq_39 (by omega) (by omega) hq_42 hq_43 hq_44 hq_45 hpre_50 hpre_51 hpre_52) (cwV 0 hts gX7_longestAlone_X3_goToEnd rfl rfl rfl (by decide +kernel) ⟨Nat.le_of_ble_eq_true rfl, Nat.le_of_ble_eq_true rfl⟩) ⟨zPre_blind, va_recv hK hw.1 (ci := 3) (q0 := 9) rfl rfl, z_pre hK hw [0, 1, 2, 3, 4, 5, 6, 7, 8, 9, 10, 11, 12, 13, 14] (by decide) rfl⟩ rfl rfl hl.1 rfl (lv_room (Nat.le_of_ble_eq_true rfl)) dX7_longestAlone_27 ⟨Nat.zero_le _, Nat.zero_le _⟩) hw.2.2 (fun q _ h => hF9 q h) hF9 (fun u9 t9 H_53 locs9 ht9 hvm9 hq9 hB9 hz9 hk9 hS9 => ?_)
    obtain ⟨Pnow_54, Pheads_55, Pbusy_56, Pcame_57, Pout_58⟩ := u9
    try dsimp only at hq9 hB9
    obtain ⟨hq_59, hq_60, hq_61, hq_62, hq_63, hq_64⟩ := hq9
    have hw : HW D A s.heap (kG cI cB cZ oG Gn Gki Gle Glo Gta Gsh ++ kT cI cB cZ oT Tcells Tgap Twires Tstands ++ kP cI cB cZ oQ (oG 0) (oT 0) Pline_32 Psize_33 Pnow_54 Pheads_55 Pbusy_56 Pcame_57 Pout_58 ++ kC cI cB cZ oC (oG 0) Crow Cquiet aCreader aCbars aCspare aCsearch aCbreach (oT 0) aCparade (oQ 0) Crun) H_53 locs9 := z_after (wc := kG cI cB cZ oG Gn Gki Gle Glo Gta Gsh ++ kT cI cB cZ oT Tcells Tgap Twires Tstands ++ kP cI cB cZ oQ (oG 0) (oT 0) Pline_32 Psize_33 Pnow_34 Pheads_35 Pbusy_36 Pcame_37 Pout_38) hw [0, 1, 2, 3, 4, 5, 6, 7, 8, 9, 10, 11, 12, 13, 14] [15, 16, 17] rfl rfl (by decide) (by decide) hF9 hk9 ht9 hB9 hS9 [3, 4, 5, 6, 7, 8, 9, 10, 11, 12, 13, 14, 15, 16, 17, 0, 1, 2] (by decide) rfl
    clear hF9 ht9 hvm9 hB9 hz9 hk9 hS9
    obtain ⟨k9, k9b, k9n, k9e, k9a, k9j⟩ := hq_64
    refine lv_iload_n hx hb dX7_longestAlone_30 rfl (lv_at hl 1 rfl) ?_
    refine lv_aload_n hx hb dX7_longestAlone_31 rfl (lv_at hl 0 rfl) ?_
    refine va_get (D := D) (ci := 7) (v := .ref (oQ 0)) (C := RX7) (T := TX7) (N := 12) hx hb hts hinX7 hown hK hw.1 15 rfl rfl 10 (by decide) (hts (.fieldLink RX7 72 "CarnivalRoad" "trial" "LCarnivalRoad$Parade;") (by decide +kernel)) (fun _ h9 => h9) rfl dX7_longestAlone_32 ?_
    refine va_get (D := D) (ci := 3) (v := .int (zI Pnow_54)) (C := RX3) (T := TX3) (N := 9) hx hb hts hinX3 hown hK hw.1 9 rfl rfl 4 (by decide) (hts (.fieldLink RX7 211 "CarnivalRoad$Parade" "now" "I") (by decide +kernel)) (fun _ h9 => h9) rfl dX7_longestAlone_35 ?_
    refine z_max hx hb (hml.trans hl.1.symm) hown (hts (.methodLink RX7 267 Lib.Math.max.name) (by decide +kernel)) (hts (.static Lib.Math.max.name) (by decide +kernel)) (hts (.initialized "java/lang/Math") (by decide +kernel)) (hts (.code Lib.Math.max.name Lib.Math.max.code 2 (some .int)) (by decide +kernel)) (Nat.le_of_ble_eq_true rfl) (Nat.le_of_ble_eq_true rfl) (Nat.zero_le _) (Nat.zero_le _) (by omega) dX7_longestAlone_38 ?_
    refine lv_istore_n (lv' := [(1, .int (zI (max lg_7 Pnow_54))), (0, .ref (oC 0)), (2, .int (zI g_8))]) hx hb dX7_longestAlone_41 rfl hl (by decide) rfl (fun ls hl => ?_)
    refine z_iinc (k := 2) (lv' := [(2, .int (zI (g_8 + 1))), (1, .int (zI (max lg_7 Pnow_54))), (0, .ref (oC 0))]) hx hb dX7_longestAlone_42 hl rfl (by decide) rfl (fun ls hl => ?_)
    refine lv_goto (tgt := 4) hx hb dX7_longestAlone_45 (by decide) ?_
    have hv_65 : (0 : Int) ≤ Psize_33 ∧ Psize_33 ≤ 8 := by
      first | assumption | omega | grind
    have hv_66 : (0 : Int) ≤ Pnow_54 ∧ Pnow_54 ≤ 1000000 := by
      first | assumption | omega | grind
    have hv_67 : 0 ≤ (g_8 + 1) ∧ (g_8 + 1) ≤ Gn := by
      first | assumption | omega | grind
    have hv_68 : (max lg_7 Pnow_54) ≤ 30000 := by
      omega
    have hv_69 : 0 ≤ (max lg_7 Pnow_54) ∧ (∀ a, 0 ≤ a → a < (g_8 + 1) → ∀ t : Nat, soloE Gki Gle Tcells Tgap Tstands a t → (t : Int) ≤ (max lg_7 Pnow_54)) ∧ ((max lg_7 Pnow_54) = 0 ∨ ∃ g, 0 ≤ g ∧ g < Gn ∧ ∃ t : Nat, (max lg_7 Pnow_54) = (t : Int) ∧ soloE Gki Gle Tcells Tgap Tstands g t) := by
      have e9 := congrArg (fun s : PS => s.2.2.2 g_8) k9e
      rw [hs1, hn0] at e9
      dsimp only at e9
      rw [(solo_at hln hag k9).2.2.2] at e9
      rw [hs1, all_one hln, e9] at k9a
      exact solo_grow (row := fun a => a) (t := k9) (by assumption) (by omega) ⟨k9a, fun j hj => Classical.byContradiction fun z => by
        have q := k9j j hj
        rw [hs1, hn0, all_one hln, (solo_at hln hag j).2.2.2] at q
        exact q z⟩ (by omega)
    have hm_70 : (9 - (g_8 + 1)).toNat < (9 - g_8).toNat := by
      first | assumption | omega | grind
    exact ih_6 ((max lg_7 Pnow_54), (g_8 + 1), Pline_32, Psize_33, Pnow_54, Pheads_55, Pbusy_56, Pcame_57, Pout_58) _ _ _ ⟨hq_39, hv_65, hv_66, hq_60, hq_61, hq_62, hq_63, hv_67, hv_68, hv_69, hw, lv_sub hl [2, 1, 0] rfl⟩ hm_70
