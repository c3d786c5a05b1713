set_option maxRecDepth 100000 in
set_option maxHeartbeats 4000000 in
theorem c_X8_guest (l : Launch) (D : va_G) (cI cB cZ : ClassId) (oM : Nat → Nat) (sz : Nat) (Mthrown : Int) (Mmany : Int) (Mguest : Int → Int) (Mrow : Int → Int) (Mbars : Int) (Mbar : Int → Int) (Mfresh : Int → Int) (Mtape : Int → Int) (Mtaped : Int) (Mpos : Int) (Mtoken : Int) (MtokenAt : Int) (Mvalue : Int) (Mwrong : Int) (MwrongAt : Int) (MfaultKind : Int) (MfaultPlace : Int) (Mthing : Int) (Morder : Int → Int) (Mone : Int) (Mtwo : Int) (Mbest : Int → Int) (Mcells : Int) (Mgap : Int) (Mwire : Int → Int) (Mstand : Int → Int) (Mruns : Int) (Mminute : Int) (Mhead : Int → Int) (Mplays : Int → Int) (Mrests : Int → Int) (Mwent : Int → Int) (Mout : Int → Int) (Mcame : Int → Int) (Mgone : Int → Int) (MlastOut : Int) (k : Int) (le : Int) (lo : Int) (ta : Int) (sh : Int) (qMthrown : 0 ≤ Mthrown ∧ Mthrown ≤ 2) (qMmany : 0 ≤ Mmany ∧ Mmany ≤ 8) (qMguest : RA Mguest (0) 9) (qMrow : RA Mrow (0) 7) (qMbars : 0 ≤ Mbars ∧ Mbars ≤ 10) (qMbar : RA Mbar (0) 104) (qMfresh : RA Mfresh (0) 104) (qMtape : RA Mtape (0) 255) (qMtaped : 0 ≤ Mtaped ∧ Mtaped ≤ 400) (qMpos : 0 ≤ Mpos ∧ Mpos ≤ 400) (qMtoken : 0 ≤ Mtoken ∧ Mtoken ≤ 15) (qMtokenAt : 0 ≤ MtokenAt ∧ MtokenAt ≤ 400) (qMvalue : 0 ≤ Mvalue ∧ Mvalue ≤ 99) (qMwrong : 0 ≤ Mwrong ∧ Mwrong ≤ 3) (qMwrongAt : 0 ≤ MwrongAt ∧ MwrongAt ≤ 400) (qMfaultKind : 0 ≤ MfaultKind ∧ MfaultKind ≤ 3) (qMfaultPlace : -1 ≤ MfaultPlace ∧ MfaultPlace ≤ 400) (qMthing : 0 ≤ Mthing ∧ Mthing ≤ 104) (qMorder : RA Morder (0) 7) (qMone : 0 ≤ Mone ∧ Mone ≤ 8) (qMtwo : 0 ≤ Mtwo ∧ Mtwo ≤ 8) (qMbest : RA Mbest (0) 7) (qMcells : 1 ≤ Mcells ∧ Mcells ≤ 50) (qMgap : 0 ≤ Mgap ∧ Mgap ≤ 3) (qMwire : RA Mwire (0) 9) (qMstand : RA Mstand (0) 9) (qMruns : 0 ≤ Mruns ∧ Mruns ≤ 1) (qMminute : 0 ≤ Mminute ∧ Mminute ≤ 1000000) (qMhead : RA Mhead (-1) 60) (qMplays : RA Mplays (0) 18) (qMrests : RA Mrests (0) 3) (qMwent : RA Mwent (0) 61) (qMout : RA Mout (0) 1) (qMcame : RA Mcame (-1) 1000000) (qMgone : RA Mgone (-1) 1000000) (qMlastOut : 0 ≤ MlastOut ∧ MlastOut ≤ 1000000) (qk : -2147483648 ≤ k ∧ k ≤ 2147483647) (qle : -2147483648 ≤ le ∧ le ≤ 2147483647) (qlo : -2147483648 ≤ lo ∧ lo ≤ 2147483647) (qta : -2147483648 ≤ ta ∧ ta ≤ 2147483647) (qsh : -2147483648 ≤ sh ∧ sh ≤ 2147483647) : Met l yX8_guest wsX8_guest ({ frames := 1, cells := 0, slots := 0, locals := 22 }) (va_Pc [.ref (oM 0), .int (zI k), .int (zI le), .int (zI lo), .int (zI ta), .int (zI sh)] (zPre D cI cB cZ sz (kM cI cB cZ oM Mthrown Mmany Mguest Mrow Mbars Mbar Mfresh Mtape Mtaped Mpos Mtoken MtokenAt Mvalue Mwrong MwrongAt MfaultKind MfaultPlace Mthing Morder Mone Mtwo Mbest Mcells Mgap Mwire Mstand Mruns Mminute Mhead Mplays Mrests Mwent Mout Mcame Mgone MlastOut))) (va_Qi (fun (r9 : Int32) (u9 : Int × Int × Int × (Int → Int) × (Int → Int) × Int) => r9 = zI u9.1 ∧ (((0 : Int) ≤ u9.2.1 ∧ u9.2.1 ≤ 2) ∧ ((0 : Int) ≤ u9.2.2.1 ∧ u9.2.2.1 ≤ 8) ∧ (RA u9.2.2.2.1 (0) 9) ∧ (RA u9.2.2.2.2.1 (0) 7) ∧ ((0 : Int) ≤ u9.2.2.2.2.2 ∧ u9.2.2.2.2.2 ≤ 1) ∧ ((canBeP k le lo ta sh ∧ Mmany < 8 ∧ u9.1 = Mmany ∧ u9.2.2.1 = Mmany + 1 ∧ u9.2.2.2.1 = uZ (uZ (uZ (uZ (uZ Mguest (5 * Mmany) k) (5 * Mmany + 1) le) (5 * Mmany + 2) lo) (5 * Mmany + 3) ta) (5 * Mmany + 4) sh ∧ u9.2.2.2.2.2 = 0 ∧ ∀ i, 0 ≤ i → i < Mmany + 1 → u9.2.2.2.2.1 i = i) ∨ (¬ (canBeP k le lo ta sh ∧ Mmany < 8) ∧ u9.1 = -1 ∧ u9.2.2.1 = Mmany ∧ u9.2.2.2.1 = Mguest ∧ u9.2.2.2.2.1 = Mrow ∧ u9.2.2.2.2.2 = Mruns)) ∧ (u9.2.1 = 0))) (fun u9 t9 => zAt D cI cB cZ (va_A (kM cI cB cZ oM Mthrown Mmany Mguest Mrow Mbars Mbar Mfresh Mtape Mtaped Mpos Mtoken MtokenAt Mvalue Mwrong MwrongAt MfaultKind MfaultPlace Mthing Morder Mone Mtwo Mbest Mcells Mgap Mwire Mstand Mruns Mminute Mhead Mplays Mrests Mwent Mout Mcame Mgone MlastOut) sz) (kM cI cB cZ oM (u9.2.1) (u9.2.2.1) (u9.2.2.2.1) (u9.2.2.2.2.1) Mbars Mbar Mfresh Mtape Mtaped Mpos Mtoken MtokenAt Mvalue Mwrong MwrongAt MfaultKind MfaultPlace Mthing Morder Mone Mtwo Mbest Mcells Mgap Mwire Mstand (u9.2.2.2.2.2) Mminute Mhead Mplays Mrests Mwent Mout Mcame Mgone MlastOut) t9) (va_A (kM cI cB cZ oM Mthrown Mmany Mguest Mrow Mbars Mbar Mfresh Mtape Mtaped Mpos Mtoken MtokenAt Mvalue Mwrong MwrongAt MfaultKind MfaultPlace Mthing Morder Mone Mtwo Mbest Mcells Mgap Mwire Mstand Mruns Mminute Mhead Mplays Mrests Mwent Mout Mcame Mgone MlastOut) sz)) 0 0 (va_A (kM cI cB cZ oM Mthrown Mmany Mguest Mrow Mbars Mbar Mfresh Mtape Mtaped Mpos Mtoken MtokenAt Mvalue Mwrong MwrongAt MfaultKind MfaultPlace Mthing Morder Mone Mtwo Mbest Mcells Mgap Mwire Mstand Mruns Mminute Mhead Mplays Mrests Mwent Mout Mcame Mgone MlastOut) sz) := by
  refine Met.ofW (cc := cX8_guest) (maxL := 8) (ret := (some .int)) (by decide) rfl ?_
  intro pp ee s mm aa bw mt cd s₁ BL hml hv
  obtain ⟨rfl, hsz, hP, hK, hD0⟩ := hv
  have hx := BL.exec
  have hb := BL.bytes
  have hr := BL.returns
  have hts := atoms_spec (ws := wsX8_guest) BL.pre
  have hown : s.vm.findClass RX8 = some mm.cls := findClass_of_methodNamed BL.named
  have hlocks := BL.notSynchronized
  subst hsz
  generalize hAe : va_A (kM cI cB cZ oM Mthrown Mmany Mguest Mrow Mbars Mbar Mfresh Mtape Mtaped Mpos Mtoken MtokenAt Mvalue Mwrong MwrongAt MfaultKind MfaultPlace Mthing Morder Mone Mtwo Mbest Mcells Mgap Mwire Mstand Mruns Mminute Mhead Mplays Mrests Mwent Mout Mcame Mgone MlastOut) s.heap.size = A
  have hA : ∀ q : Nat, s.heap.size ≤ q → A q := fun q h => by rw [← hAe]; exact Or.inr h
  have hw : HW D A s.heap (kM cI cB cZ oM Mthrown Mmany Mguest Mrow Mbars Mbar Mfresh Mtape Mtaped Mpos Mtoken MtokenAt Mvalue Mwrong MwrongAt MfaultKind MfaultPlace Mthing Morder Mone Mtwo Mbest Mcells Mgap Mwire Mstand Mruns Mminute Mhead Mplays Mrests Mwent Mout Mcame Mgone MlastOut) s.heap [] := z_start hAe hP hD0
  clear hP hD0
  have hl := lv_entry ([.ref (oM 0), .int (zI k), .int (zI le), .int (zI lo), .int (zI ta), .int (zI sh)]) (n := 8) (Nat.le_of_ble_eq_true rfl)
  rw [lg_entry_eq]
  generalize (lg_sl ([.ref (oM 0), .int (zI k), .int (zI le), .int (zI lo), .int (zI ta), .int (zI sh)]) ++ List.replicate (8 - (lg_sl ([.ref (oM 0), .int (zI k), .int (zI le), .int (zI lo), .int (zI ta), .int (zI sh)])).length) Slot.unset).toArray = ls at hl ⊢
  have hl : lv_has ls 8 [(0, .ref (oM 0)), (1, .int (zI k)), (2, .int (zI le)), (3, .int (zI lo)), (4, .int (zI ta)), (5, .int (zI sh))] := hl
  have hinX8 : ∀ w ∈ wsX80, w ∈ wsX8_guest := by decide +kernel
  refine lv_aload_n hx hb dX8_guest_0 rfl (lv_at hl 0 rfl) ?_
  refine z_iconst hx hb dX8_guest_1 ?_
  refine z_put (D := D) (ci := 8) (v := .int (zI 0)) (ty := .int) (C := RX8) (T := TX8) (N := 36) (ws2 := kM cI cB cZ oM 0 Mmany Mguest Mrow Mbars Mbar Mfresh Mtape Mtaped Mpos Mtoken MtokenAt Mvalue Mwrong MwrongAt MfaultKind MfaultPlace Mthing Morder Mone Mtwo Mbest Mcells Mgap Mwire Mstand Mruns Mminute Mhead Mplays Mrests Mwent Mout Mcame Mgone MlastOut) hx hb hts hinX8 tyX8 tyX8_ok nmX8 hown hK hw 0 rfl rfl 0 (by decide) (hts (.fieldLink RX8 69 "CarnivalRoadModel" "thrown" "I") (by decide +kernel)) (fun _ h9 => h9) rfl (by decide +kernel) rfl rfl (Nat.le_of_ble_eq_true rfl) dX8_guest_2 rfl (fun H locs hw => ?_)
  refine lv_iload_n hx hb dX8_guest_5 rfl (lv_at hl 1 rfl) ?_
  refine z_iconst hx hb dX8_guest_6 ?_
  refine z_iconst hx hb dX8_guest_7 ?_
  have hF9 := z_free (wc := ([] : va_W)) hw hA [] rfl
  refine va_calli (va_runS (As := [.int (zI k), .int (zI 0), .int (zI 4)]) (rest := []) ⟨hx, hb, hml, hown, hts⟩ (c_X8_isIn l D cI cB cZ H.size k 0 4 (by omega) (by omega) (by omega)) (va_cwS 3 hts gX8_guest_X8_isIn rfl rfl rfl (by decide +kernel) ⟨Nat.le_of_ble_eq_true rfl, Nat.le_of_ble_eq_true rfl⟩) ⟨zPre_blind, z_pre hK hw [] (by decide) rfl⟩ rfl rfl hl.1 rfl (lv_room (Nat.le_of_ble_eq_true rfl)) dX8_guest_8 ⟨Nat.zero_le _, Nat.zero_le _⟩) hw.2.2 (fun q _ h => hF9 q h) hF9 (fun r9 u9 t9 H_1 locs9 ht9 hvm9 hq9 hB9 hz9 hk9 hS9 => ?_)
  obtain ⟨r_2, rfl⟩ : ∃ z, z = u9 := ⟨_, rfl⟩
  try dsimp only at hq9 hB9
  obtain ⟨rfl, hq9⟩ := hq9
  have hq_3 := hq9
  have hw : HW D A s.heap (kM cI cB cZ oM 0 Mmany Mguest Mrow Mbars Mbar Mfresh Mtape Mtaped Mpos Mtoken MtokenAt Mvalue Mwrong MwrongAt MfaultKind MfaultPlace Mthing Morder Mone Mtwo Mbest Mcells Mgap Mwire Mstand Mruns Mminute Mhead Mplays Mrests Mwent Mout Mcame Mgone MlastOut) H_1 locs9 := z_after (wc := ([] : va_W)) hw [] [0, 1, 2, 3, 4, 5, 6, 7, 8, 9, 10, 11, 12, 13, 14, 15, 16] rfl rfl (by decide) (by decide) hF9 hk9 ht9 hB9 hS9 [0, 1, 2, 3, 4, 5, 6, 7, 8, 9, 10, 11, 12, 13, 14, 15, 16] (by decide) rfl
  clear hF9 ht9 hvm9 hB9 hz9 hk9 hS9 hq9
  rcases hq_3 with ⟨hc_4, rfl⟩ | ⟨hc_4, rfl⟩
  · skip
    refine z_if_eq (tgt := 64) hx hb dX8_guest_11 (by decide) (by omega) (fun hc_5 => absurd hc_5 (by omega)) (fun hc_5 => ?_)
    refine lv_iload_n hx hb dX8_guest_14 rfl (lv_at hl 2 rfl) ?_
    refine z_iconst hx hb dX8_guest_15 ?_
    refine z_iconst hx hb dX8_guest_16 ?_
    have hF9 := z_free (wc := ([] : va_W)) hw hA [] rfl
    refine va_calli (va_runS (As := [.int (zI le), .int (zI 1), .int (zI 5)]) (rest := []) ⟨hx, hb, hml, hown, hts⟩ (c_X8_isIn l D cI cB cZ H_1.size le 1 5 (by omega) (by omega) (by omega)) (va_cwS 3 hts gX8_guest_X8_isIn rfl rfl rfl (by decide +kernel) ⟨Nat.le_of_ble_eq_true rfl, Nat.le_of_ble_eq_true rfl⟩) ⟨zPre_blind, z_pre hK hw [] (by decide) rfl⟩ rfl rfl hl.1 rfl (lv_room (Nat.le_of_ble_eq_true rfl)) dX8_guest_17 ⟨Nat.zero_le _, Nat.zero_le _⟩) hw.2.2 (fun q _ h => hF9 q h) hF9 (fun r9 u9 t9 H_6 locs9 ht9 hvm9 hq9 hB9 hz9 hk9 hS9 => ?_)
    obtain ⟨r_7, rfl⟩ : ∃ z, z = u9 := ⟨_, rfl⟩
    try dsimp only at hq9 hB9
    obtain ⟨rfl, hq9⟩ := hq9
    have hq_8 := hq9
    have hw : HW D A s.heap (kM cI cB cZ oM 0 Mmany Mguest Mrow Mbars Mbar Mfresh Mtape Mtaped Mpos Mtoken MtokenAt Mvalue Mwrong MwrongAt MfaultKind MfaultPlace Mthing Morder Mone Mtwo Mbest Mcells Mgap Mwire Mstand Mruns Mminute Mhead Mplays Mrests Mwent Mout Mcame Mgone MlastOut) H_6 locs9 := z_after (wc := ([] : va_W)) hw [] [0, 1, 2, 3, 4, 5, 6, 7, 8, 9, 10, 11, 12, 13, 14, 15, 16] rfl rfl (by decide) (by decide) hF9 hk9 ht9 hB9 hS9 [0, 1, 2, 3, 4, 5, 6, 7, 8, 9, 10, 11, 12, 13, 14, 15, 16] (by decide) rfl
    clear hF9 ht9 hvm9 hB9 hz9 hk9 hS9 hq9
    rcases hq_8 with ⟨hc_9, rfl⟩ | ⟨hc_9, rfl⟩
    · skip
      refine z_if_eq (tgt := 64) hx hb dX8_guest_20 (by decide) (by omega) (fun hc_10 => absurd hc_10 (by omega)) (fun hc_10 => ?_)
      refine lv_iload_n hx hb dX8_guest_23 rfl (lv_at hl 3 rfl) ?_
      refine z_iconst hx hb dX8_guest_24 ?_
      refine z_bipush hx hb dX8_guest_25 (by decide) ?_
      have hF9 := z_free (wc := ([] : va_W)) hw hA [] rfl
      refine va_calli (va_runS (As := [.int (zI lo), .int (zI 0), .int (zI 9)]) (rest := []) ⟨hx, hb, hml, hown, hts⟩ (c_X8_isIn l D cI cB cZ H_6.size lo 0 9 (by omega) (by omega) (by omega)) (va_cwS 3 hts gX8_guest_X8_isIn rfl rfl rfl (by decide +kernel) ⟨Nat.le_of_ble_eq_true rfl, Nat.le_of_ble_eq_true rfl⟩) ⟨zPre_blind, z_pre hK hw [] (by decide) rfl⟩ rfl rfl hl.1 rfl (lv_room (Nat.le_of_ble_eq_true rfl)) dX8_guest_27 ⟨Nat.zero_le _, Nat.zero_le _⟩) hw.2.2 (fun q _ h => hF9 q h) hF9 (fun r9 u9 t9 H_11 locs9 ht9 hvm9 hq9 hB9 hz9 hk9 hS9 => ?_)
      obtain ⟨r_12, rfl⟩ : ∃ z, z = u9 := ⟨_, rfl⟩
      try dsimp only at hq9 hB9
      obtain ⟨rfl, hq9⟩ := hq9
      have hq_13 := hq9
      have hw : HW D A s.heap (kM cI cB cZ oM 0 Mmany Mguest Mrow Mbars Mbar Mfresh Mtape Mtaped Mpos Mtoken MtokenAt Mvalue Mwrong MwrongAt MfaultKind MfaultPlace Mthing Morder Mone Mtwo Mbest Mcells Mgap Mwire Mstand Mruns Mminute Mhead Mplays Mrests Mwent Mout Mcame Mgone MlastOut) H_11 locs9 := z_after (wc := ([] : va_W)) hw [] [0, 1, 2, 3, 4, 5, 6, 7, 8, 9, 10, 11, 12, 13, 14, 15, 16] rfl rfl (by decide) (by decide) hF9 hk9 ht9 hB9 hS9 [0, 1, 2, 3, 4, 5, 6, 7, 8, 9, 10, 11, 12, 13, 14, 15, 16] (by decide) rfl
      clear hF9 ht9 hvm9 hB9 hz9 hk9 hS9 hq9
      rcases hq_13 with ⟨hc_14, rfl⟩ | ⟨hc_14, rfl⟩
      · skip
        refine z_if_eq (tgt := 64) hx hb dX8_guest_30 (by decide) (by omega) (fun hc_15 => absurd hc_15 (by omega)) (fun hc_15 => ?_)
        refine lv_iload hx hb dX8_guest_33 (lv_at hl 4 rfl) ?_
        refine z_iconst hx hb dX8_guest_35 ?_
        refine z_bipush hx hb dX8_guest_36 (by decide) ?_
        have hF9 := z_free (wc := ([] : va_W)) hw hA [] rfl
        refine va_calli (va_runS (As := [.int (zI ta), .int (zI 1), .int (zI 9)]) (rest := []) ⟨hx, hb, hml, hown, hts⟩ (c_X8_isIn l D cI cB cZ H_11.size ta 1 9 (by omega) (by omega) (by omega)) (va_cwS 3 hts gX8_guest_X8_isIn rfl rfl rfl (by decide +kernel) ⟨Nat.le_of_ble_eq_true rfl, Nat.le_of_ble_eq_true rfl⟩) ⟨zPre_blind, z_pre hK hw [] (by decide) rfl⟩ rfl rfl hl.1 rfl (lv_room (Nat.le_of_ble_eq_true rfl)) dX8_guest_38 ⟨Nat.zero_le _, Nat.zero_le _⟩) hw.2.2 (fun q _ h => hF9 q h) hF9 (fun r9 u9 t9 H_16 locs9 ht9 hvm9 hq9 hB9 hz9 hk9 hS9 => ?_)
        obtain ⟨r_17, rfl⟩ : ∃ z, z = u9 := ⟨_, rfl⟩
        try dsimp only at hq9 hB9
        obtain ⟨rfl, hq9⟩ := hq9
        have hq_18 := hq9
        have hw : HW D A s.heap (kM cI cB cZ oM 0 Mmany Mguest Mrow Mbars Mbar Mfresh Mtape Mtaped Mpos Mtoken MtokenAt Mvalue Mwrong MwrongAt MfaultKind MfaultPlace Mthing Morder Mone Mtwo Mbest Mcells Mgap Mwire Mstand Mruns Mminute Mhead Mplays Mrests Mwent Mout Mcame Mgone MlastOut) H_16 locs9 := z_after (wc := ([] : va_W)) hw [] [0, 1, 2, 3, 4, 5, 6, 7, 8, 9, 10, 11, 12, 13, 14, 15, 16] rfl rfl (by decide) (by decide) hF9 hk9 ht9 hB9 hS9 [0, 1, 2, 3, 4, 5, 6, 7, 8, 9, 10, 11, 12, 13, 14, 15, 16] (by decide) rfl
        clear hF9 ht9 hvm9 hB9 hz9 hk9 hS9 hq9
        rcases hq_18 with ⟨hc_19, rfl⟩ | ⟨hc_19, rfl⟩
        · skip
          refine z_if_eq (tgt := 64) hx hb dX8_guest_41 (by decide) (by omega) (fun hc_20 => absurd hc_20 (by omega)) (fun hc_20 => ?_)
          refine lv_iload hx hb dX8_guest_44 (lv_at hl 5 rfl) ?_
          refine z_iconst hx hb dX8_guest_46 ?_
          refine z_bipush hx hb dX8_guest_47 (by decide) ?_
          have hF9 := z_free (wc := ([] : va_W)) hw hA [] rfl
          refine va_calli (va_runS (As := [.int (zI sh), .int (zI 0), .int (zI 9)]) (rest := []) ⟨hx, hb, hml, hown, hts⟩ (c_X8_isIn l D cI cB cZ H_16.size sh 0 9 (by omega) (by omega) (by omega)) (va_cwS 3 hts gX8_guest_X8_isIn rfl rfl rfl (by decide +kernel) ⟨Nat.le_of_ble_eq_true rfl, Nat.le_of_ble_eq_true rfl⟩) ⟨zPre_blind, z_pre hK hw [] (by decide) rfl⟩ rfl rfl hl.1 rfl (lv_room (Nat.le_of_ble_eq_true rfl)) dX8_guest_49 ⟨Nat.zero_le _, Nat.zero_le _⟩) hw.2.2 (fun q _ h => hF9 q h) hF9 (fun r9 u9 t9 H_21 locs9 ht9 hvm9 hq9 hB9 hz9 hk9 hS9 => ?_)
          obtain ⟨r_22, rfl⟩ : ∃ z, z = u9 := ⟨_, rfl⟩
          try dsimp only at hq9 hB9
          obtain ⟨rfl, hq9⟩ := hq9
          have hq_23 := hq9
          have hw : HW D A s.heap (kM cI cB cZ oM 0 Mmany Mguest Mrow Mbars Mbar Mfresh Mtape Mtaped Mpos Mtoken MtokenAt Mvalue Mwrong MwrongAt MfaultKind MfaultPlace Mthing Morder Mone Mtwo Mbest Mcells Mgap Mwire Mstand Mruns Mminute Mhead Mplays Mrests Mwent Mout Mcame Mgone MlastOut) H_21 locs9 := z_after (wc := ([] : va_W)) hw [] [0, 1, 2, 3, 4, 5, 6, 7, 8, 9, 10, 11, 12, 13, 14, 15, 16] rfl rfl (by decide) (by decide) hF9 hk9 ht9 hB9 hS9 [0, 1, 2, 3, 4, 5, 6, 7, 8, 9, 10, 11, 12, 13, 14, 15, 16] (by decide) rfl
          clear hF9 ht9 hvm9 hB9 hz9 hk9 hS9 hq9
          rcases hq_23 with ⟨hc_24, rfl⟩ | ⟨hc_24, rfl⟩
          · skip
            refine z_if_eq (tgt := 64) hx hb dX8_guest_52 (by decide) (by omega) (fun hc_25 => absurd hc_25 (by omega)) (fun hc_25 => ?_)
            refine lv_aload_n hx hb dX8_guest_55 rfl (lv_at hl 0 rfl) ?_
            refine va_get (D := D) (ci := 8) (v := .int (zI Mmany)) (C := RX8) (T := TX8) (N := 36) hx hb hts hinX8 hown hK hw.1 0 rfl rfl 1 (by decide) (hts (.fieldLink RX8 72 "CarnivalRoadModel" "many" "I") (by decide +kernel)) (fun _ h9 => h9) rfl dX8_guest_56 ?_
            refine z_bipush hx hb dX8_guest_59 (by decide) ?_
            refine z_icmp_ne (tgt := 66) hx hb dX8_guest_61 (by decide) (by omega) (fun hc_26 => ?_) (fun hc_26 => ?_)
            · skip
              refine z_iconst hx hb dX8_guest_66 ?_
              refine lv_aload_n hx hb dX8_guest_67 rfl (lv_at hl 0 rfl) ?_
              refine va_get (D := D) (ci := 8) (v := .int (zI Mmany)) (C := RX8) (T := TX8) (N := 36) hx hb hts hinX8 hown hK hw.1 0 rfl rfl 1 (by decide) (hts (.fieldLink RX8 72 "CarnivalRoadModel" "many" "I") (by decide +kernel)) (fun _ h9 => h9) rfl dX8_guest_68 ?_
              refine z_imul hx hb dX8_guest_71 ?_
              refine lv_istore (lv' := [(6, .int (zI (5 * Mmany))), (0, .ref (oM 0)), (1, .int (zI k)), (2, .int (zI le)), (3, .int (zI lo)), (4, .int (zI ta)), (5, .int (zI sh))]) hx hb dX8_guest_72 hl (by decide) rfl (fun ls hl => ?_)
              refine lv_aload_n hx hb dX8_guest_74 rfl (lv_at hl 1 rfl) ?_
              refine va_get (D := D) (ci := 8) (v := .ref (oM 1)) (C := RX8) (T := TX8) (N := 36) hx hb hts hinX8 hown hK hw.1 0 rfl rfl 2 (by decide) (hts (.fieldLink RX8 7 "CarnivalRoadModel" "guest" "[I") (by decide +kernel)) (fun _ h9 => h9) rfl dX8_guest_75 ?_
              refine lv_iload hx hb dX8_guest_78 (lv_at hl 0 rfl) ?_
              refine lv_iload_n hx hb dX8_guest_80 rfl (lv_at hl 2 rfl) ?_
              have hi_27 : (0 : Int) ≤ (5 * Mmany) ∧ (5 * Mmany) < ((40 : Nat) : Int) := by
                first | assumption | omega | grind
              have hv_28 : (0 : Int) ≤ k ∧ k ≤ 9 := by
                first | assumption | omega | grind
              have hR_29 : RA (uZ Mguest (5 * Mmany) k) (0) 9 := RA_up qMguest hv_28
              refine z_iast (n := 40) (f := Mguest) (ws2 := kM cI cB cZ oM 0 Mmany (uZ Mguest (5 * Mmany) k) Mrow Mbars Mbar Mfresh Mtape Mtaped Mpos Mtoken MtokenAt Mvalue Mwrong MwrongAt MfaultKind MfaultPlace Mthing Morder Mone Mtwo Mbest Mcells Mgap Mwire Mstand Mruns Mminute Mhead Mplays Mrests Mwent Mout Mcame Mgone MlastOut) hx hb hK hw 1 rfl (by decide) hi_27 dX8_guest_81 rfl (fun H locs hw => ?_)
              refine lv_aload_n hx hb dX8_guest_82 rfl (lv_at hl 1 rfl) ?_
              refine va_get (D := D) (ci := 8) (v := .ref (oM 1)) (C := RX8) (T := TX8) (N := 36) hx hb hts hinX8 hown hK hw.1 0 rfl rfl 2 (by decide) (hts (.fieldLink RX8 7 "CarnivalRoadModel" "guest" "[I") (by decide +kernel)) (fun _ h9 => h9) rfl dX8_guest_83 ?_
              refine lv_iload hx hb dX8_guest_86 (lv_at hl 0 rfl) ?_
              refine z_iconst hx hb dX8_guest_88 ?_
              refine z_iadd hx hb dX8_guest_89 ?_
              refine lv_iload_n hx hb dX8_guest_90 rfl (lv_at hl 3 rfl) ?_
              have hi_30 : (0 : Int) ≤ ((5 * Mmany) + 1) ∧ ((5 * Mmany) + 1) < ((40 : Nat) : Int) := by
                first | assumption | omega | grind
              have hv_31 : (0 : Int) ≤ le ∧ le ≤ 9 := by
                first | assumption | omega | grind
              have hR_32 : RA (uZ (uZ Mguest (5 * Mmany) k) ((5 * Mmany) + 1) le) (0) 9 := RA_up hR_29 hv_31
              refine z_iast (n := 40) (f := (uZ Mguest (5 * Mmany) k)) (ws2 := kM cI cB cZ oM 0 Mmany (uZ (uZ Mguest (5 * Mmany) k) ((5 * Mmany) + 1) le) Mrow Mbars Mbar Mfresh Mtape Mtaped Mpos Mtoken MtokenAt Mvalue Mwrong MwrongAt MfaultKind MfaultPlace Mthing Morder Mone Mtwo Mbest Mcells Mgap Mwire Mstand Mruns Mminute Mhead Mplays Mrests Mwent Mout Mcame Mgone MlastOut) hx hb hK hw 1 rfl (by decide) hi_30 dX8_guest_91 rfl (fun H locs hw => ?_)
              refine lv_aload_n hx hb dX8_guest_92 rfl (lv_at hl 1 rfl) ?_
              refine va_get (D := D) (ci := 8) (v := .ref (oM 1)) (C := RX8) (T := TX8) (N := 36) hx hb hts hinX8 hown hK hw.1 0 rfl rfl 2 (by decide) (hts (.fieldLink RX8 7 "CarnivalRoadModel" "guest" "[I") (by decide +kernel)) (fun _ h9 => h9) rfl dX8_guest_93 ?_
              refine lv_iload hx hb dX8_guest_96 (lv_at hl 0 rfl) ?_
              refine z_iconst hx hb dX8_guest_98 ?_
              refine z_iadd hx hb dX8_guest_99 ?_
              refine lv_iload_n hx hb dX8_guest_100 rfl (lv_at hl 4 rfl) ?_
              have hi_33 : (0 : Int) ≤ ((5 * Mmany) + 2) ∧ ((5 * Mmany) + 2) < ((40 : Nat) : Int) := by
                first | assumption | omega | grind
              have hv_34 : (0 : Int) ≤ lo ∧ lo ≤ 9 := by
                first | assumption | omega | grind
              have hR_35 : RA (uZ (uZ (uZ Mguest (5 * Mmany) k) ((5 * Mmany) + 1) le) ((5 * Mmany) + 2) lo) (0) 9 := RA_up hR_32 hv_34
              refine z_iast (n := 40) (f := (uZ (uZ Mguest (5 * Mmany) k) ((5 * Mmany) + 1) le)) (ws2 := kM cI cB cZ oM 0 Mmany (uZ (uZ (uZ Mguest (5 * Mmany) k) ((5 * Mmany) + 1) le) ((5 * Mmany) + 2) lo) Mrow Mbars Mbar Mfresh Mtape Mtaped Mpos Mtoken MtokenAt Mvalue Mwrong MwrongAt MfaultKind MfaultPlace Mthing Morder Mone Mtwo Mbest Mcells Mgap Mwire Mstand Mruns Mminute Mhead Mplays Mrests Mwent Mout Mcame Mgone MlastOut) hx hb hK hw 1 rfl (by decide) hi_33 dX8_guest_101 rfl (fun H locs hw => ?_)
              refine lv_aload_n hx hb dX8_guest_102 rfl (lv_at hl 1 rfl) ?_
              refine va_get (D := D) (ci := 8) (v := .ref (oM 1)) (C := RX8) (T := TX8) (N := 36) hx hb hts hinX8 hown hK hw.1 0 rfl rfl 2 (by decide) (hts (.fieldLink RX8 7 "CarnivalRoadModel" "guest" "[I") (by decide +kernel)) (fun _ h9 => h9) rfl dX8_guest_103 ?_
              refine lv_iload hx hb dX8_guest_106 (lv_at hl 0 rfl) ?_
              refine z_iconst hx hb dX8_guest_108 ?_
              refine z_iadd hx hb dX8_guest_109 ?_
              refine lv_iload hx hb dX8_guest_110 (lv_at hl 5 rfl) ?_
              have hi_36 : (0 : Int) ≤ ((5 * Mmany) + 3) ∧ ((5 * Mmany) + 3) < ((40 : Nat) : Int) := by
                first | assumption | omega | grind
              have hv_37 : (0 : Int) ≤ ta ∧ ta ≤ 9 := by
                first | assumption | omega | grind
              have hR_38 : RA (uZ (uZ (uZ (uZ Mguest (5 * Mmany) k) ((5 * Mmany) + 1) le) ((5 * Mmany) + 2) lo) ((5 * Mmany) + 3) ta) (0) 9 := RA_up hR_35 hv_37
              refine z_iast (n := 40) (f := (uZ (uZ (uZ Mguest (5 * Mmany) k) ((5 * Mmany) + 1) le) ((5 * Mmany) + 2) lo)) (ws2 := kM cI cB cZ oM 0 Mmany (uZ (uZ (uZ (uZ Mguest (5 * Mmany) k) ((5 * Mmany) + 1) le) ((5 * Mmany) + 2) lo) ((5 * Mmany) + 3) ta) Mrow Mbars Mbar Mfresh Mtape Mtaped Mpos Mtoken MtokenAt Mvalue Mwrong MwrongAt MfaultKind MfaultPlace Mthing Morder Mone Mtwo Mbest Mcells Mgap Mwire Mstand Mruns Mminute Mhead Mplays Mrests Mwent Mout Mcame Mgone MlastOut) hx hb hK hw 1 rfl (by decide) hi_36 dX8_guest_112 rfl (fun H locs hw => ?_)
              refine lv_aload_n hx hb dX8_guest_113 rfl (lv_at hl 1 rfl) ?_
              refine va_get (D := D) (ci := 8) (v := .ref (oM 1)) (C := RX8) (T := TX8) (N := 36) hx hb hts hinX8 hown hK hw.1 0 rfl rfl 2 (by decide) (hts (.fieldLink RX8 7 "CarnivalRoadModel" "guest" "[I") (by decide +kernel)) (fun _ h9 => h9) rfl dX8_guest_114 ?_
              refine lv_iload hx hb dX8_guest_117 (lv_at hl 0 rfl) ?_
              refine z_iconst hx hb dX8_guest_119 ?_
              refine z_iadd hx hb dX8_guest_120 ?_
              refine lv_iload hx hb dX8_guest_121 (lv_at hl 6 rfl) ?_
              have hi_39 : (0 : Int) ≤ ((5 * Mmany) + 4) ∧ ((5 * Mmany) + 4) < ((40 : Nat) : Int) := by
                first | assumption | omega | grind
              have hv_40 : (0 : Int) ≤ sh ∧ sh ≤ 9 := by
                first | assumption | omega | grind
              have hR_41 : RA (uZ (uZ (uZ (uZ (uZ Mguest (5 * Mmany) k) ((5 * Mmany) + 1) le) ((5 * Mmany) + 2) lo) ((5 * Mmany) + 3) ta) ((5 * Mmany) + 4) sh) (0) 9 := RA_up hR_38 hv_40
              refine z_iast (n := 40) (f := (uZ (uZ (uZ (uZ Mguest (5 * Mmany) k) ((5 * Mmany) + 1) le) ((5 * Mmany) + 2) lo) ((5 * Mmany) + 3) ta)) (ws2 := kM cI cB cZ oM 0 Mmany (uZ (uZ (uZ (uZ (uZ Mguest (5 * Mmany) k) ((5 * Mmany) + 1) le) ((5 * Mmany) + 2) lo) ((5 * Mmany) + 3) ta) ((5 * Mmany) + 4) sh) Mrow Mbars Mbar Mfresh Mtape Mtaped Mpos Mtoken MtokenAt Mvalue Mwrong MwrongAt MfaultKind MfaultPlace Mthing Morder Mone Mtwo Mbest Mcells Mgap Mwire Mstand Mruns Mminute Mhead Mplays Mrests Mwent Mout Mcame Mgone MlastOut) hx hb hK hw 1 rfl (by decide) hi_39 dX8_guest_123 rfl (fun H locs hw => ?_)
              refine lv_aload_n hx hb dX8_guest_124 rfl (lv_at hl 1 rfl) ?_
              refine lv_dup hx hb dX8_guest_125 rfl ?_
              refine va_get (D := D) (ci := 8) (v := .int (zI Mmany)) (C := RX8) (T := TX8) (N := 36) hx hb hts hinX8 hown hK hw.1 0 rfl rfl 1 (by decide) (hts (.fieldLink RX8 72 "CarnivalRoadModel" "many" "I") (by decide +kernel)) (fun _ h9 => h9) rfl dX8_guest_126 ?_
              refine z_iconst hx hb dX8_guest_129 ?_
              refine z_iadd hx hb dX8_guest_130 ?_
              refine z_put (D := D) (ci := 8) (v := .int (zI (Mmany + 1))) (ty := .int) (C := RX8) (T := TX8) (N := 36) (ws2 := kM cI cB cZ oM 0 (Mmany + 1) (uZ (uZ (uZ (uZ (uZ Mguest (5 * Mmany) k) ((5 * Mmany) + 1) le) ((5 * Mmany) + 2) lo) ((5 * Mmany) + 3) ta) ((5 * Mmany) + 4) sh) Mrow Mbars Mbar Mfresh Mtape Mtaped Mpos Mtoken MtokenAt Mvalue Mwrong MwrongAt MfaultKind MfaultPlace Mthing Morder Mone Mtwo Mbest Mcells Mgap Mwire Mstand Mruns Mminute Mhead Mplays Mrests Mwent Mout Mcame Mgone MlastOut) hx hb hts hinX8 tyX8 tyX8_ok nmX8 hown hK hw 0 rfl rfl 1 (by decide) (hts (.fieldLink RX8 72 "CarnivalRoadModel" "many" "I") (by decide +kernel)) (fun _ h9 => h9) rfl (by decide +kernel) rfl rfl (Nat.le_of_ble_eq_true rfl) dX8_guest_131 rfl (fun H locs hw => ?_)
              refine z_iconst hx hb dX8_guest_134 ?_
              refine lv_istore (lv' := [(7, .int (zI 0)), (6, .int (zI (5 * Mmany))), (0, .ref (oM 0)), (1, .int (zI k)), (2, .int (zI le)), (3, .int (zI lo)), (4, .int (zI ta)), (5, .int (zI sh))]) hx hb dX8_guest_135 hl (by decide) rfl (fun ls hl => ?_)
              have hv_42 : 0 ≤ (0 : Int) ∧ (0 : Int) ≤ Mmany + 1 := by
                first | assumption | omega | grind
              have hv_43 : ∀ k, 0 ≤ k → k < (0 : Int) → Mrow k = k := by
                exact all_0
              refine z_loop (σ := Int × (Int → Int)) (μ := fun x9 => (10 - (x9.1)).toNat) (I := fun x9 H locs ls => (RA (x9.2) (0) 7) ∧ (0 ≤ (x9.1) ∧ (x9.1) ≤ Mmany + 1) ∧ (∀ k, 0 ≤ k → k < (x9.1) → (x9.2) k = k) ∧ HW D A s.heap (kM cI cB cZ oM 0 (Mmany + 1) (uZ (uZ (uZ (uZ (uZ Mguest (5 * Mmany) k) ((5 * Mmany) + 1) le) ((5 * Mmany) + 2) lo) ((5 * Mmany) + 3) ta) ((5 * Mmany) + 4) sh) (x9.2) Mbars Mbar Mfresh Mtape Mtaped Mpos Mtoken MtokenAt Mvalue Mwrong MwrongAt MfaultKind MfaultPlace Mthing Morder Mone Mtwo Mbest Mcells Mgap Mwire Mstand Mruns Mminute Mhead Mplays Mrests Mwent Mout Mcame Mgone MlastOut) H locs ∧ lv_has ls 8 [(0, .ref (oM 0)), (7, .int (zI (x9.1)))]) (0, Mrow) ⟨qMrow, hv_42, hv_43, hw, lv_sub hl [2, 0] rfl⟩ ?_
              clear hw hl
              intro x9 H locs ls hI ih_44
              obtain ⟨i_45, Mrow_46⟩ := x9
              try dsimp only at hI
              obtain ⟨hR_47, hI_48, hI_49, hw, hl⟩ := hI
              refine lv_iload hx hb dX8_guest_137 (lv_at hl 1 rfl) ?_
              refine lv_aload_n hx hb dX8_guest_139 rfl (lv_at hl 0 rfl) ?_
              refine va_get (D := D) (ci := 8) (v := .int (zI (Mmany + 1))) (C := RX8) (T := TX8) (N := 36) hx hb hts hinX8 hown hK hw.1 0 rfl rfl 1 (by decide) (hts (.fieldLink RX8 72 "CarnivalRoadModel" "many" "I") (by decide +kernel)) (fun _ h9 => h9) rfl dX8_guest_140 ?_
              refine z_icmp_ge (tgt := 161) hx hb dX8_guest_143 (by decide) (by omega) (fun hc_50 => ?_) (fun hc_50 => ?_)
              · skip
                refine lv_aload_n hx hb dX8_guest_161 rfl (lv_at hl 0 rfl) ?_
                refine z_iconst hx hb dX8_guest_162 ?_
                refine z_put (D := D) (ci := 8) (v := .int (zI 0)) (ty := .boolean) (C := RX8) (T := TX8) (N := 36) (ws2 := kM cI cB cZ oM 0 (Mmany + 1) (uZ (uZ (uZ (uZ (uZ Mguest (5 * Mmany) k) ((5 * Mmany) + 1) le) ((5 * Mmany) + 2) lo) ((5 * Mmany) + 3) ta) ((5 * Mmany) + 4) sh) Mrow_46 Mbars Mbar Mfresh Mtape Mtaped Mpos Mtoken MtokenAt Mvalue Mwrong MwrongAt MfaultKind MfaultPlace Mthing Morder Mone Mtwo Mbest Mcells Mgap Mwire Mstand 0 Mminute Mhead Mplays Mrests Mwent Mout Mcame Mgone MlastOut) hx hb hts hinX8 tyX8 tyX8_ok nmX8 hown hK hw 0 rfl rfl 26 (by decide) (hts (.fieldLink RX8 79 "CarnivalRoadModel" "runs" "Z") (by decide +kernel)) (fun _ h9 => h9) rfl (by decide +kernel) rfl rfl (Nat.le_of_ble_eq_true rfl) dX8_guest_163 rfl (fun H locs hw => ?_)
                refine lv_aload_n hx hb dX8_guest_166 rfl (lv_at hl 0 rfl) ?_
                refine va_get (D := D) (ci := 8) (v := .int (zI (Mmany + 1))) (C := RX8) (T := TX8) (N := 36) hx hb hts hinX8 hown hK hw.1 0 rfl rfl 1 (by decide) (hts (.fieldLink RX8 72 "CarnivalRoadModel" "many" "I") (by decide +kernel)) (fun _ h9 => h9) rfl dX8_guest_167 ?_
                refine z_iconst hx hb dX8_guest_170 ?_
                refine z_isub hx hb dX8_guest_171 ?_
                have hv_51 : (0 : Int) ≤ (0 : Int) ∧ (0 : Int) ≤ 2 := by
                  first | assumption | omega | grind
                have hv_52 : (0 : Int) ≤ (Mmany + 1) ∧ (Mmany + 1) ≤ 8 := by
                  first | assumption | omega | grind
                have hv_53 : (0 : Int) ≤ (0 : Int) ∧ (0 : Int) ≤ 1 := by
                  first | assumption | omega | grind
                have hv_54 : (canBeP k le lo ta sh ∧ Mmany < 8 ∧ ((Mmany + 1) - 1) = Mmany ∧ (Mmany + 1) = Mmany + 1 ∧ (uZ (uZ (uZ (uZ (uZ Mguest (5 * Mmany) k) ((5 * Mmany) + 1) le) ((5 * Mmany) + 2) lo) ((5 * Mmany) + 3) ta) ((5 * Mmany) + 4) sh) = uZ (uZ (uZ (uZ (uZ Mguest (5 * Mmany) k) (5 * Mmany + 1) le) (5 * Mmany + 2) lo) (5 * Mmany + 3) ta) (5 * Mmany + 4) sh ∧ (0 : Int) = 0 ∧ ∀ i, 0 ≤ i → i < Mmany + 1 → Mrow_46 i = i) ∨ (¬ (canBeP k le lo ta sh ∧ Mmany < 8) ∧ ((Mmany + 1) - 1) = -1 ∧ (Mmany + 1) = Mmany ∧ (uZ (uZ (uZ (uZ (uZ Mguest (5 * Mmany) k) ((5 * Mmany) + 1) le) ((5 * Mmany) + 2) lo) ((5 * Mmany) + 3) ta) ((5 * Mmany) + 4) sh) = Mguest ∧ Mrow_46 = Mrow ∧ (0 : Int) = Mruns) := by
                  exact Or.inl ⟨by unfold canBeP; omega, by omega, by omega, by omega, rfl, rfl, all_le (by assumption) (by omega)⟩
                have hv_55 : (0 : Int) = 0 := by
                  rfl
                exact W.iret (v := zI ((Mmany + 1) - 1)) hx hb hr (fun t9 ht hW => ⟨⟨zI ((Mmany + 1) - 1), (((Mmany + 1) - 1), 0, (Mmany + 1), (uZ (uZ (uZ (uZ (uZ Mguest (5 * Mmany) k) ((5 * Mmany) + 1) le) ((5 * Mmany) + 2) lo) ((5 * Mmany) + 3) ta) ((5 * Mmany) + 4) sh), Mrow_46, 0), rfl, ⟨rfl, ⟨hv_51, hv_52, hR_41, hR_47, hv_53, hv_54, hv_55⟩⟩, by subst hAe; exact z_end hK hw ht hW⟩, by subst hAe; exact hw.2.2.F ht⟩) (by subst hAe; exact hw.2.2.2.2) dX8_guest_172
              · skip
                refine lv_aload_n hx hb dX8_guest_146 rfl (lv_at hl 0 rfl) ?_
                refine va_get (D := D) (ci := 8) (v := .ref (oM 2)) (C := RX8) (T := TX8) (N := 36) hx hb hts hinX8 hown hK hw.1 0 rfl rfl 3 (by decide) (hts (.fieldLink RX8 13 "CarnivalRoadModel" "row" "[I") (by decide +kernel)) (fun _ h9 => h9) rfl dX8_guest_147 ?_
                refine lv_iload hx hb dX8_guest_150 (lv_at hl 1 rfl) ?_
                refine lv_iload hx hb dX8_guest_152 (lv_at hl 1 rfl) ?_
                have hi_56 : (0 : Int) ≤ i_45 ∧ i_45 < ((8 : Nat) : Int) := by
                  first | assumption | omega | grind
                have hv_57 : (0 : Int) ≤ i_45 ∧ i_45 ≤ 7 := by
                  first | assumption | omega | grind
                have hR_58 : RA (uZ Mrow_46 i_45 i_45) (0) 7 := RA_up hR_47 hv_57
                refine z_iast (n := 8) (f := Mrow_46) (ws2 := kM cI cB cZ oM 0 (Mmany + 1) (uZ (uZ (uZ (uZ (uZ Mguest (5 * Mmany) k) ((5 * Mmany) + 1) le) ((5 * Mmany) + 2) lo) ((5 * Mmany) + 3) ta) ((5 * Mmany) + 4) sh) (uZ Mrow_46 i_45 i_45) Mbars Mbar Mfresh Mtape Mtaped Mpos Mtoken MtokenAt Mvalue Mwrong MwrongAt MfaultKind MfaultPlace Mthing Morder Mone Mtwo Mbest Mcells Mgap Mwire Mstand Mruns Mminute Mhead Mplays Mrests Mwent Mout Mcame Mgone MlastOut) hx hb hK hw 2 rfl (by decide) hi_56 dX8_guest_154 rfl (fun H locs hw => ?_)
                refine z_iinc (k := 1) (lv' := [(7, .int (zI (i_45 + 1))), (0, .ref (oM 0))]) hx hb dX8_guest_155 hl rfl (by decide) rfl (fun ls hl => ?_)
                refine lv_goto (tgt := 137) hx hb dX8_guest_158 (by decide) ?_
                have hv_59 : 0 ≤ (i_45 + 1) ∧ (i_45 + 1) ≤ Mmany + 1 := by
                  first | assumption | omega | grind
                have hv_60 : ∀ k, 0 ≤ k → k < (i_45 + 1) → (uZ Mrow_46 i_45 i_45) k = k := by
                  refine all_s (fun k k0 k1 => ?_) uZ_s
                  rw [uZ_n (by omega)]
                  revert k1
                  revert k0
                  revert k
                  assumption
                have hm_61 : (10 - (i_45 + 1)).toNat < (10 - i_45).toNat := by
                  first | assumption | omega | grind
                exact ih_44 ((i_45 + 1), (uZ Mrow_46 i_45 i_45)) _ _ _ ⟨hR_58, hv_59, hv_60, hw, lv_sub hl [1, 0] rfl⟩ hm_61
            · skip
              refine z_iconst hx hb dX8_guest_64 ?_
              have hv_62 : (0 : Int) ≤ (0 : Int) ∧ (0 : Int) ≤ 2 := by
                first | assumption | omega | grind
              have hv_63 : (0 : Int) ≤ Mmany ∧ Mmany ≤ 8 := by
                first | assumption | omega | grind
              have hv_64 : (0 : Int) ≤ Mruns ∧ Mruns ≤ 1 := by
                first | assumption | omega | grind
              have hv_65 : (canBeP k le lo ta sh ∧ Mmany < 8 ∧ ((-1) : Int) = Mmany ∧ Mmany = Mmany + 1 ∧ Mguest = uZ (uZ (uZ (uZ (uZ Mguest (5 * Mmany) k) (5 * Mmany + 1) le) (5 * Mmany + 2) lo) (5 * Mmany + 3) ta) (5 * Mmany + 4) sh ∧ Mruns = 0 ∧ ∀ i, 0 ≤ i → i < Mmany + 1 → Mrow i = i) ∨ (¬ (canBeP k le lo ta sh ∧ Mmany < 8) ∧ ((-1) : Int) = -1 ∧ Mmany = Mmany ∧ Mguest = Mguest ∧ Mrow = Mrow ∧ Mruns = Mruns) := by
                exact Or.inr ⟨fun q => by have q1 := q.1; unfold canBeP at q1; omega, rfl, rfl, rfl, rfl, rfl⟩
              have hv_66 : (0 : Int) = 0 := by
                rfl
              exact W.iret (v := zI (-1)) hx hb hr (fun t9 ht hW => ⟨⟨zI (-1), ((-1), 0, Mmany, Mguest, Mrow, Mruns), rfl, ⟨rfl, ⟨hv_62, hv_63, qMguest, qMrow, hv_64, hv_65, hv_66⟩⟩, by subst hAe; exact z_end hK hw ht hW⟩, by subst hAe; exact hw.2.2.F ht⟩) (by subst hAe; exact hw.2.2.2.2) dX8_guest_65
          · skip
            refine z_if_eq (tgt := 64) hx hb dX8_guest_52 (by decide) (by omega) (fun hc_67 => ?_) (fun hc_67 => absurd hc_67 (by omega))
            refine z_iconst hx hb dX8_guest_64 ?_
            have hv_68 : (0 : Int) ≤ (0 : Int) ∧ (0 : Int) ≤ 2 := by
              first | assumption | omega | grind
            have hv_69 : (0 : Int) ≤ Mmany ∧ Mmany ≤ 8 := by
              first | assumption | omega | grind
            have hv_70 : (0 : Int) ≤ Mruns ∧ Mruns ≤ 1 := by
              first | assumption | omega | grind
            have hv_71 : (canBeP k le lo ta sh ∧ Mmany < 8 ∧ ((-1) : Int) = Mmany ∧ Mmany = Mmany + 1 ∧ Mguest = uZ (uZ (uZ (uZ (uZ Mguest (5 * Mmany) k) (5 * Mmany + 1) le) (5 * Mmany + 2) lo) (5 * Mmany + 3) ta) (5 * Mmany + 4) sh ∧ Mruns = 0 ∧ ∀ i, 0 ≤ i → i < Mmany + 1 → Mrow i = i) ∨ (¬ (canBeP k le lo ta sh ∧ Mmany < 8) ∧ ((-1) : Int) = -1 ∧ Mmany = Mmany ∧ Mguest = Mguest ∧ Mrow = Mrow ∧ Mruns = Mruns) := by
              exact Or.inr ⟨fun q => by have q1 := q.1; unfold canBeP at q1; omega, rfl, rfl, rfl, rfl, rfl⟩
            have hv_72 : (0 : Int) = 0 := by
              rfl
            exact W.iret (v := zI (-1)) hx hb hr (fun t9 ht hW => ⟨⟨zI (-1), ((-1), 0, Mmany, Mguest, Mrow, Mruns), rfl, ⟨rfl, ⟨hv_68, hv_69, qMguest, qMrow, hv_70, hv_71, hv_72⟩⟩, by subst hAe; exact z_end hK hw ht hW⟩, by subst hAe; exact hw.2.2.F ht⟩) (by subst hAe; exact hw.2.2.2.2) dX8_guest_65
        · skip
          refine z_if_eq (tgt := 64) hx hb dX8_guest_41 (by decide) (by omega) (fun hc_73 => ?_) (fun hc_73 => absurd hc_73 (by omega))
          refine z_iconst hx hb dX8_guest_64 ?_
          have hv_74 : (0 : Int) ≤ (0 : Int) ∧ (0 : Int) ≤ 2 := by
            first | assumption | omega | grind
          have hv_75 : (0 : Int) ≤ Mmany ∧ Mmany ≤ 8 := by
            first | assumption | omega | grind
          have hv_76 : (0 : Int) ≤ Mruns ∧ Mruns ≤ 1 := by
            first | assumption | omega | grind
          have hv_77 : (canBeP k le lo ta sh ∧ Mmany < 8 ∧ ((-1) : Int) = Mmany ∧ Mmany = Mmany + 1 ∧ Mguest = uZ (uZ (uZ (uZ (uZ Mguest (5 * Mmany) k) (5 * Mmany + 1) le) (5 * Mmany + 2) lo) (5 * Mmany + 3) ta) (5 * Mmany + 4) sh ∧ Mruns = 0 ∧ ∀ i, 0 ≤ i → i < Mmany + 1 → Mrow i = i) ∨ (¬ (canBeP k le lo ta sh ∧ Mmany < 8) ∧ ((-1) : Int) = -1 ∧ Mmany = Mmany ∧ Mguest = Mguest ∧ Mrow = Mrow ∧ Mruns = Mruns) := by
            exact Or.inr ⟨fun q => by have q1 := q.1; unfold canBeP at q1; omega, rfl, rfl, rfl, rfl, rfl⟩
          have hv_78 : (0 : Int) = 0 := by
            rfl
          exact W.iret (v := zI (-1)) hx hb hr (fun t9 ht hW => ⟨⟨zI (-1), ((-1), 0, Mmany, Mguest, Mrow, Mruns), rfl, ⟨rfl, ⟨hv_74, hv_75, qMguest, qMrow, hv_76, hv_77, hv_78⟩⟩, by subst hAe; exact z_end hK hw ht hW⟩, by subst hAe; exact hw.2.2.F ht⟩) (by subst hAe; exact hw.2.2.2.2) dX8_guest_65
      · skip
        refine z_if_eq (tgt := 64) hx hb dX8_guest_30 (by decide) (by omega) (fun hc_79 => ?_) (fun hc_79 => absurd hc_79 (by omega))
        refine z_iconst hx hb dX8_guest_64 ?_
        have hv_80 : (0 : Int) ≤ (0 : Int) ∧ (0 : Int) ≤ 2 := by
          first | assumption | omega | grind
        have hv_81 : (0 : Int) ≤ Mmany ∧ Mmany ≤ 8 := by
          first | assumption | omega | grind
        have hv_82 : (0 : Int) ≤ Mruns ∧ Mruns ≤ 1 := by
          first | assumption | omega | grind
        have hv_83 : (canBeP k le lo ta sh ∧ Mmany < 8 ∧ ((-1) : Int) = Mmany ∧ Mmany = Mmany + 1 ∧ Mguest = uZ (uZ (uZ (uZ (uZ Mguest (5 * Mmany) k) (5 * Mmany + 1) le) (5 * Mmany + 2) lo) (5 * Mmany + 3) ta) (5 * Mmany + 4) sh ∧ Mruns = 0 ∧ ∀ i, 0 ≤ i → i < Mmany + 1 → Mrow i = i) ∨ (¬ (canBeP k le lo ta sh ∧ Mmany < 8) ∧ ((-1) : Int) = -1 ∧ Mmany = Mmany ∧ Mguest = Mguest ∧ Mrow = Mrow ∧ Mruns = Mruns) := by
          exact Or.inr ⟨fun q => by have q1 := q.1; unfold canBeP at q1; omega, rfl, rfl, rfl, rfl, rfl⟩
        have hv_84 : (0 : Int) = 0 := by
          rfl
        exact W.iret (v := zI (-1)) hx hb hr (fun t9 ht hW => ⟨⟨zI (-1), ((-1), 0, Mmany, Mguest, Mrow, Mruns), rfl, ⟨rfl, ⟨hv_80, hv_81, qMguest, qMrow, hv_82, hv_83, hv_84⟩⟩, by subst hAe; exact z_end hK hw ht hW⟩, by subst hAe; exact hw.2.2.F ht⟩) (by subst hAe; exact hw.2.2.2.2) dX8_guest_65
    · skip
      refine z_if_eq (tgt := 64) hx hb dX8_guest_20 (by decide) (by omega) (fun hc_85 => ?_) (fun hc_85 => absurd hc_85 (by omega))
      refine z_iconst hx hb dX8_guest_64 ?_
      have hv_86 : (0 : Int) ≤ (0 : Int) ∧ (0 : Int) ≤ 2 := by
        first | assumption | omega | grind
      have hv_87 : (0 : Int) ≤ Mmany ∧ Mmany ≤ 8 := by
        first | assumption | omega | grind
      have hv_88 : (0 : Int) ≤ Mruns ∧ Mruns ≤ 1 := by
        first | assumption | omega | grind
      have hv_89 : (canBeP k le lo ta sh ∧ Mmany < 8 ∧ ((-1) : Int) = Mmany ∧ Mmany = Mmany + 1 ∧ Mguest = uZ (uZ (uZ (uZ (uZ Mguest (5 * Mmany) k) (5 * Mmany + 1) le) (5 * Mmany + 2) lo) (5 * Mmany + 3) ta) (5 * Mmany + 4) sh ∧ Mruns = 0 ∧ ∀ i, 0 ≤ i → i < Mmany + 1 → Mrow i = i) ∨ (¬ (canBeP k le lo ta sh ∧ Mmany < 8) ∧ ((-1) : Int) = -1 ∧ Mmany = Mmany ∧ Mguest = Mguest ∧ Mrow = Mrow ∧ Mruns = Mruns) := by
        exact Or.inr ⟨fun q => by have q1 := q.1; unfold canBeP at q1; omega, rfl, rfl, rfl, rfl, rfl⟩
      have hv_90 : (0 : Int) = 0 := by
        rfl
      exact W.iret (v := zI (-1)) hx hb hr (fun t9 ht hW => ⟨⟨zI (-1), ((-1), 0, Mmany, Mguest, Mrow, Mruns), rfl, ⟨rfl, ⟨hv_86, hv_87, qMguest, qMrow, hv_88, hv_89, hv_90⟩⟩, by subst hAe; exact z_end hK hw ht hW⟩, by subst hAe; exact hw.2.2.F ht⟩) (by subst hAe; exact hw.2.2.2.2) dX8_guest_65
  · skip
    refine z_if_eq (tgt := 64) hx hb dX8_guest_11 (by decide) (by omega) (fun hc_91 => ?_) (fun hc_91 => absurd hc_91 (by omega))
    refine z_iconst hx hb dX8_guest_64 ?_
    have hv_92 : (0 : Int) ≤ (0 : Int) ∧ (0 : Int) ≤ 2 := by
      first | assumption | omega | grind
    have hv_93 : (0 : Int) ≤ Mmany ∧ Mmany ≤ 8 := by
      first | assumption | omega | grind
    have hv_94 : (0 : Int) ≤ Mruns ∧ Mruns ≤ 1 := by
      first | assumption | omega | grind
    have hv_95 : (canBeP k le lo ta sh ∧ Mmany < 8 ∧ ((-1) : Int) = Mmany ∧ Mmany = Mmany + 1 ∧ Mguest = uZ (uZ (uZ (uZ (uZ Mguest (5 * Mmany) k) (5 * Mmany + 1) le) (5 * Mmany + 2) lo) (5 * Mmany + 3) ta) (5 * Mmany + 4) sh ∧ Mruns = 0 ∧ ∀ i, 0 ≤ i → i < Mmany + 1 → Mrow i = i) ∨ (¬ (canBeP k le lo ta sh ∧ Mmany < 8) ∧ ((-1) : Int) = -1 ∧ Mmany = Mmany ∧ Mguest = Mguest ∧ Mrow = Mrow ∧ Mruns = Mruns) := by
      exact Or.inr ⟨fun q => by have q1 := q.1; unfold canBeP at q1; omega, rfl, rfl, rfl, rfl, rfl⟩
    have hv_96 : (0 : Int) = 0 := by
      rfl
    exact W.iret (v := zI (-1)) hx hb hr (fun t9 ht hW => ⟨⟨zI (-1), ((-1), 0, Mmany, Mguest, Mrow, Mruns), rfl, ⟨rfl, ⟨hv_92, hv_93, qMguest, qMrow, hv_94, hv_95, hv_96⟩⟩, by subst hAe; exact z_end hK hw ht hW⟩, by subst hAe; exact hw.2.2.F ht⟩) (by subst hAe; exact hw.2.2.2.2) dX8_guest_65
set_option maxRecDepth 100000 in
set_option maxHeartbeats 4000000 in
theorem c_X8_of (l : Launch) (D : va_G) (cI cB cZ : ClassId) (oM : Nat → Nat) (sz : Nat) (Mthrown : Int) (Mmany : Int) (Mguest : Int → Int) (Mrow : Int → Int) (Mbars : Int) (Mbar : Int → Int) (Mfresh : Int → Int) (Mtape : Int → Int) (Mtaped : Int) (Mpos : Int) (Mtoken : Int) (MtokenAt : Int) (Mvalue : Int) (Mwrong : Int) (MwrongAt : Int) (MfaultKind : Int) (MfaultPlace : Int) (Mthing : Int) (Morder : Int → Int) (Mone : Int) (Mtwo : Int) (Mbest : Int → Int) (Mcells : Int) (Mgap : Int) (Mwire : Int → Int) (Mstand : Int → Int) (Mruns : Int) (Mminute : Int) (Mhead : Int → Int) (Mplays : Int → Int) (Mrests : Int → Int) (Mwent : Int → Int) (Mout : Int → Int) (Mcame : Int → Int) (Mgone : Int → Int) (MlastOut : Int) (g : Int) (w : Int) (qMthrown : 0 ≤ Mthrown ∧ Mthrown ≤ 2) (qMmany : 0 ≤ Mmany ∧ Mmany ≤ 8) (qMguest : RA Mguest (0) 9) (qMrow : RA Mrow (0) 7) (qMbars : 0 ≤ Mbars ∧ Mbars ≤ 10) (qMbar : RA Mbar (0) 104) (qMfresh : RA Mfresh (0) 104) (qMtape : RA Mtape (0) 255) (qMtaped : 0 ≤ Mtaped ∧ Mtaped ≤ 400) (qMpos : 0 ≤ Mpos ∧ Mpos ≤ 400) (qMtoken : 0 ≤ Mtoken ∧ Mtoken ≤ 15) (qMtokenAt : 0 ≤ MtokenAt ∧ MtokenAt ≤ 400) (qMvalue : 0 ≤ Mvalue ∧ Mvalue ≤ 99) (qMwrong : 0 ≤ Mwrong ∧ Mwrong ≤ 3) (qMwrongAt : 0 ≤ MwrongAt ∧ MwrongAt ≤ 400) (qMfaultKind : 0 ≤ MfaultKind ∧ MfaultKind ≤ 3) (qMfaultPlace : -1 ≤ MfaultPlace ∧ MfaultPlace ≤ 400) (qMthing : 0 ≤ Mthing ∧ Mthing ≤ 104) (qMorder : RA Morder (0) 7) (qMone : 0 ≤ Mone ∧ Mone ≤ 8) (qMtwo : 0 ≤ Mtwo ∧ Mtwo ≤ 8) (qMbest : RA Mbest (0) 7) (qMcells : 1 ≤ Mcells ∧ Mcells ≤ 50) (qMgap : 0 ≤ Mgap ∧ Mgap ≤ 3) (qMwire : RA Mwire (0) 9) (qMstand : RA Mstand (0) 9) (qMruns : 0 ≤ Mruns ∧ Mruns ≤ 1) (qMminute : 0 ≤ Mminute ∧ Mminute ≤ 1000000) (qMhead : RA Mhead (-1) 60) (qMplays : RA Mplays (0) 18) (qMrests : RA Mrests (0) 3) (qMwent : RA Mwent (0) 61) (qMout : RA Mout (0) 1) (qMcame : RA Mcame (-1) 1000000) (qMgone : RA Mgone (-1) 1000000) (qMlastOut : 0 ≤ MlastOut ∧ MlastOut ≤ 1000000) (qg : -2147483648 ≤ g ∧ g ≤ 2147483647) (qw : -2147483648 ≤ w ∧ w ≤ 2147483647) : Met l yX8_of wsX8_of ({ frames := 2, cells := 0, slots := 0, locals := 43 }) (va_Pc [.ref (oM 0), .int (zI g), .int (zI w)] (zPre D cI cB cZ sz (kM cI cB cZ oM Mthrown Mmany Mguest Mrow Mbars Mbar Mfresh Mtape Mtaped Mpos Mtoken MtokenAt Mvalue Mwrong MwrongAt MfaultKind MfaultPlace Mthing Morder Mone Mtwo Mbest Mcells Mgap Mwire Mstand Mruns Mminute Mhead Mplays Mrests Mwent Mout Mcame Mgone MlastOut))) (va_Qi (fun (r9 : Int32) (u9 : Int × Int) => r9 = zI u9.1 ∧ (((0 : Int) ≤ u9.2 ∧ u9.2 ≤ 2) ∧ ((¬ (0 ≤ g ∧ g < Mmany) ∧ u9.2 = 1) ∨ ((0 ≤ g ∧ g < Mmany) ∧ u9.2 = 0 ∧ (((0 ≤ w ∧ w ≤ 4) ∧ u9.1 = Mguest (5 * g + w)) ∨ (¬ (0 ≤ w ∧ w ≤ 4) ∧ u9.1 = -1)))))) (fun u9 t9 => zAt D cI cB cZ (va_A (kM cI cB cZ oM Mthrown Mmany Mguest Mrow Mbars Mbar Mfresh Mtape Mtaped Mpos Mtoken MtokenAt Mvalue Mwrong MwrongAt MfaultKind MfaultPlace Mthing Morder Mone Mtwo Mbest Mcells Mgap Mwire Mstand Mruns Mminute Mhead Mplays Mrests Mwent Mout Mcame Mgone MlastOut) sz) (kM cI cB cZ oM (u9.2) Mmany Mguest Mrow Mbars Mbar Mfresh Mtape Mtaped Mpos Mtoken MtokenAt Mvalue Mwrong MwrongAt MfaultKind MfaultPlace Mthing Morder Mone Mtwo Mbest Mcells Mgap Mwire Mstand Mruns Mminute Mhead Mplays Mrests Mwent Mout Mcame Mgone MlastOut) t9) (va_A (kM cI cB cZ oM Mthrown Mmany Mguest Mrow Mbars Mbar Mfresh Mtape Mtaped Mpos Mtoken MtokenAt Mvalue Mwrong MwrongAt MfaultKind MfaultPlace Mthing Morder Mone Mtwo Mbest Mcells Mgap Mwire Mstand Mruns Mminute Mhead Mplays Mrests Mwent Mout Mcame Mgone MlastOut) sz)) 0 0 (va_A (kM cI cB cZ oM Mthrown Mmany Mguest Mrow Mbars Mbar Mfresh Mtape Mtaped Mpos Mtoken MtokenAt Mvalue Mwrong MwrongAt MfaultKind MfaultPlace Mthing Morder Mone Mtwo Mbest Mcells Mgap Mwire Mstand Mruns Mminute Mhead Mplays Mrests Mwent Mout Mcame Mgone MlastOut) sz) := by
  refine Met.ofW (cc := cX8_of) (maxL := 3) (ret := (some .int)) (by decide) rfl ?_
  intro pp ee s mm aa bw mt cd s₁ BL hml hv
  obtain ⟨rfl, hsz, hP, hK, hD0⟩ := hv
  have hx := BL.exec
  have hb := BL.bytes
  have hr := BL.returns
  have hts := atoms_spec (ws := wsX8_of) BL.pre
  have hown : s.vm.findClass RX8 = some mm.cls := findClass_of_methodNamed BL.named
  have hlocks := BL.notSynchronized
  subst hsz
  generalize hAe : va_A (kM cI cB cZ oM Mthrown Mmany Mguest Mrow Mbars Mbar Mfresh Mtape Mtaped Mpos Mtoken MtokenAt Mvalue Mwrong MwrongAt MfaultKind MfaultPlace Mthing Morder Mone Mtwo Mbest Mcells Mgap Mwire Mstand Mruns Mminute Mhead Mplays Mrests Mwent Mout Mcame Mgone MlastOut) s.heap.size = A
  have hA : ∀ q : Nat, s.heap.size ≤ q → A q := fun q h => by rw [← hAe]; exact Or.inr h
  have hw : HW D A s.heap (kM cI cB cZ oM Mthrown Mmany Mguest Mrow Mbars Mbar Mfresh Mtape Mtaped Mpos Mtoken MtokenAt Mvalue Mwrong MwrongAt MfaultKind MfaultPlace Mthing Morder Mone Mtwo Mbest Mcells Mgap Mwire Mstand Mruns Mminute Mhead Mplays Mrests Mwent Mout Mcame Mgone MlastOut) s.heap [] := z_start hAe hP hD0
  clear hP hD0
  have hl := lv_entry ([.ref (oM 0), .int (zI g), .int (zI w)]) (n := 3) (Nat.le_of_ble_eq_true rfl)
  rw [lg_entry_eq]
  generalize (lg_sl ([.ref (oM 0), .int (zI g), .int (zI w)]) ++ List.replicate (3 - (lg_sl ([.ref (oM 0), .int (zI g), .int (zI w)])).length) Slot.unset).toArray = ls at hl ⊢
  have hl : lv_has ls 3 [(0, .ref (oM 0)), (1, .int (zI g)), (2, .int (zI w))] := hl
  refine lv_aload_n hx hb dX8_of_0 rfl (lv_at hl 0 rfl) ?_
  refine lv_aload_n hx hb dX8_of_1 rfl (lv_at hl 0 rfl) ?_
  refine lv_iload_n hx hb dX8_of_2 rfl (lv_at hl 1 rfl) ?_
  have hF9 := z_free (wc := kM cI cB cZ oM Mthrown Mmany Mguest Mrow Mbars Mbar Mfresh Mtape Mtaped Mpos Mtoken MtokenAt Mvalue Mwrong MwrongAt MfaultKind MfaultPlace Mthing Morder Mone Mtwo Mbest Mcells Mgap Mwire Mstand Mruns Mminute Mhead Mplays Mrests Mwent Mout Mcame Mgone MlastOut) hw hA [0, 1, 2, 3, 4, 5, 6, 7, 8, 9, 10, 11, 12, 13, 14, 15, 16] rfl
  refine va_calli (va_runV (As := [.int (zI g)]) (rest := [.ref (oM 0)]) ⟨hx, hb, hml, hown, hts⟩ (c_X8_isNo l D cI cB cZ oM s.heap.size Mthrown Mmany Mguest Mrow Mbars Mbar Mfresh Mtape Mtaped Mpos Mtoken MtokenAt Mvalue Mwrong MwrongAt MfaultKind MfaultPlace Mthing Morder Mone Mtwo Mbest Mcells Mgap Mwire Mstand Mruns Mminute Mhead Mplays Mrests Mwent Mout Mcame Mgone MlastOut g (by omega) (by omega) qMguest qMrow (by omega) qMbar qMfresh qMtape (by omega) (by omega) (by omega) (by omega) (by omega) (by omega) (by omega) (by omega) (by omega) (by omega) qMorder (by omega) (by omega) qMbest (by omega) (by omega) qMwire qMstand (by omega) (by omega) qMhead qMplays qMrests qMwent qMout qMcame qMgone (by omega) (by omega)) (cwV 1 hts gX8_of_X8_isNo rfl rfl rfl (by decide +kernel) ⟨Nat.le_of_ble_eq_true rfl, Nat.le_of_ble_eq_true rfl⟩) ⟨zPre_blind, va_recv hK hw.1 (ci := 8) (q0 := 0) rfl rfl, z_pre hK hw [0, 1, 2, 3, 4, 5, 6, 7, 8, 9, 10, 11, 12, 13, 14, 15, 16] (by decide) rfl⟩ rfl rfl hl.1 rfl (lv_room (Nat.le_of_ble_eq_true rfl)) dX8_of_3 ⟨Nat.zero_le _, Nat.zero_le _⟩) hw.2.2 (fun q _ h => hF9 q h) hF9 (fun r9 u9 t9 H_1 locs9 ht9 hvm9 hq9 hB9 hz9 hk9 hS9 => ?_)
  obtain ⟨r_2, rfl⟩ : ∃ z, z = u9 := ⟨_, rfl⟩
  try dsimp only at hq9 hB9
  obtain ⟨rfl, hq9⟩ := hq9
  have hq_3 := hq9
  have hw : HW D A s.heap (kM cI cB cZ oM Mthrown Mmany Mguest Mrow Mbars Mbar Mfresh Mtape Mtaped Mpos Mtoken MtokenAt Mvalue Mwrong MwrongAt MfaultKind MfaultPlace Mthing Morder Mone Mtwo Mbest Mcells Mgap Mwire Mstand Mruns Mminute Mhead Mplays Mrests Mwent Mout Mcame Mgone MlastOut) H_1 locs9 := z_after (wc := kM cI cB cZ oM Mthrown Mmany Mguest Mrow Mbars Mbar Mfresh Mtape Mtaped Mpos Mtoken MtokenAt Mvalue Mwrong MwrongAt MfaultKind MfaultPlace Mthing Morder Mone Mtwo Mbest Mcells Mgap Mwire Mstand Mruns Mminute Mhead Mplays Mrests Mwent Mout Mcame Mgone MlastOut) hw [0, 1, 2, 3, 4, 5, 6, 7, 8, 9, 10, 11, 12, 13, 14, 15, 16] [] rfl rfl (by decide) (by decide) hF9 hk9 ht9 hB9 hS9 [0, 1, 2, 3, 4, 5, 6, 7, 8, 9, 10, 11, 12, 13, 14, 15, 16] (by decide) rfl
  clear hF9 ht9 hvm9 hB9 hz9 hk9 hS9 hq9
  rcases hq_3 with ⟨hc_4, rfl⟩ | ⟨hc_4, rfl⟩
  · skip
    refine z_iconst hx hb dX8_of_6 ?_
    have hF9 := z_free (wc := kM cI cB cZ oM Mthrown Mmany Mguest Mrow Mbars Mbar Mfresh Mtape Mtaped Mpos Mtoken MtokenAt Mvalue Mwrong MwrongAt MfaultKind MfaultPlace Mthing Morder Mone Mtwo Mbest Mcells Mgap Mwire Mstand Mruns Mminute Mhead Mplays Mrests Mwent Mout Mcame Mgone MlastOut) hw hA [0, 1, 2, 3, 4, 5, 6, 7, 8, 9, 10, 11, 12, 13, 14, 15, 16] rfl
    refine va_calli (va_runV (As := [.int (zI 1), .int (zI 0)]) (rest := []) ⟨hx, hb, hml, hown, hts⟩ (c_X8_fails l D cI cB cZ oM H_1.size Mthrown Mmany Mguest Mrow Mbars Mbar Mfresh Mtape Mtaped Mpos Mtoken MtokenAt Mvalue Mwrong MwrongAt MfaultKind MfaultPlace Mthing Morder Mone Mtwo Mbest Mcells Mgap Mwire Mstand Mruns Mminute Mhead Mplays Mrests Mwent Mout Mcame Mgone MlastOut 1 0 (by omega) (by omega) qMguest qMrow (by omega) qMbar qMfresh qMtape (by omega) (by omega) (by omega) (by omega) (by omega) (by omega) (by omega) (by omega) (by omega) (by omega) qMorder (by omega) (by omega) qMbest (by omega) (by omega) qMwire qMstand (by omega) (by omega) qMhead qMplays qMrests qMwent qMout qMcame qMgone (by omega) (by omega) (by omega)) (cwV 2 hts gX8_of_X8_fails rfl rfl rfl (by decide +kernel) ⟨Nat.le_of_ble_eq_true rfl, Nat.le_of_ble_eq_true rfl⟩) ⟨zPre_blind, va_recv hK hw.1 (ci := 8) (q0 := 0) rfl rfl, z_pre hK hw [0, 1, 2, 3, 4, 5, 6, 7, 8, 9, 10, 11, 12, 13, 14, 15, 16] (by decide) rfl⟩ rfl rfl hl.1 rfl (lv_room (Nat.le_of_ble_eq_true rfl)) dX8_of_7 ⟨Nat.zero_le _, Nat.zero_le _⟩) hw.2.2 (fun q _ h => hF9 q h) hF9 (fun r9 u9 t9 H_5 locs9 ht9 hvm9 hq9 hB9 hz9 hk9 hS9 => ?_)
    obtain ⟨r_6, Mthrown_7⟩ := u9
    try dsimp only at hq9 hB9
    obtain ⟨rfl, hq9⟩ := hq9
    obtain ⟨hq_8, hq_9, hq_10⟩ := hq9
    have hw : HW D A s.heap (kM cI cB cZ oM Mthrown_7 Mmany Mguest Mrow Mbars Mbar Mfresh Mtape Mtaped Mpos Mtoken MtokenAt Mvalue Mwrong MwrongAt MfaultKind MfaultPlace Mthing Morder Mone Mtwo Mbest Mcells Mgap Mwire Mstand Mruns Mminute Mhead Mplays Mrests Mwent Mout Mcame Mgone MlastOut) H_5 locs9 := z_after (wc := kM cI cB cZ oM Mthrown Mmany Mguest Mrow Mbars Mbar Mfresh Mtape Mtaped Mpos Mtoken MtokenAt Mvalue Mwrong MwrongAt MfaultKind MfaultPlace Mthing Morder Mone Mtwo Mbest Mcells Mgap Mwire Mstand Mruns Mminute Mhead Mplays Mrests Mwent Mout Mcame Mgone MlastOut) hw [0, 1, 2, 3, 4, 5, 6, 7, 8, 9, 10, 11, 12, 13, 14, 15, 16] [] rfl rfl (by decide) (by decide) hF9 hk9 ht9 hB9 hS9 [0, 1, 2, 3, 4, 5, 6, 7, 8, 9, 10, 11, 12, 13, 14, 15, 16] (by decide) rfl
    clear hF9 ht9 hvm9 hB9 hz9 hk9 hS9
    rcases hq_9 with ⟨hc_11, rfl⟩ | ⟨hc_11, rfl⟩
    · skip
      refine z_if_eq (tgt := 15) hx hb dX8_of_10 (by decide) (by omega) (fun hc_12 => absurd hc_12 (by omega)) (fun hc_12 => ?_)
      refine z_iconst hx hb dX8_of_13 ?_
      have hv_13 : (0 : Int) ≤ Mthrown_7 ∧ Mthrown_7 ≤ 2 := by
        first | assumption | omega | grind
      have hv_14 : (¬ (0 ≤ g ∧ g < Mmany) ∧ Mthrown_7 = 1) ∨ ((0 ≤ g ∧ g < Mmany) ∧ Mthrown_7 = 0 ∧ (((0 ≤ w ∧ w ≤ 4) ∧ (0 : Int) = Mguest (5 * g + w)) ∨ (¬ (0 ≤ w ∧ w ≤ 4) ∧ (0 : Int) = -1))) := by
        first | assumption | omega | grind
      exact W.iret (v := zI 0) hx hb hr (fun t9 ht hW => ⟨⟨zI 0, (0, Mthrown_7), rfl, ⟨rfl, ⟨hv_13, hv_14⟩⟩, by subst hAe; exact z_end hK hw ht hW⟩, by subst hAe; exact hw.2.2.F ht⟩) (by subst hAe; exact hw.2.2.2.2) dX8_of_14
    · skip
      refine z_if_eq (tgt := 15) hx hb dX8_of_10 (by decide) (by omega) (fun hc_15 => ?_) (fun hc_15 => absurd hc_15 (by omega))
      refine lv_iload_n hx hb dX8_of_15 rfl (lv_at hl 2 rfl) ?_
      refine z_iconst hx hb dX8_of_16 ?_
      refine z_iconst hx hb dX8_of_17 ?_
      have hF9 := z_free (wc := ([] : va_W)) hw hA [] rfl
      refine va_calli (va_runS (As := [.int (zI w), .int (zI 0), .int (zI 4)]) (rest := []) ⟨hx, hb, hml, hown, hts⟩ (c_X8_isIn l D cI cB cZ H_5.size w 0 4 (by omega) (by omega) (by omega)) (va_cwS 3 hts gX8_of_X8_isIn rfl rfl rfl (by decide +kernel) ⟨Nat.le_of_ble_eq_true rfl, Nat.le_of_ble_eq_true rfl⟩) ⟨zPre_blind, z_pre hK hw [] (by decide) rfl⟩ rfl rfl hl.1 rfl (lv_room (Nat.le_of_ble_eq_true rfl)) dX8_of_18 ⟨Nat.zero_le _, Nat.zero_le _⟩) hw.2.2 (fun q _ h => hF9 q h) hF9 (fun r9 u9 t9 H_16 locs9 ht9 hvm9 hq9 hB9 hz9 hk9 hS9 => ?_)
      obtain ⟨r_17, rfl⟩ : ∃ z, z = u9 := ⟨_, rfl⟩
      try dsimp only at hq9 hB9
      obtain ⟨rfl, hq9⟩ := hq9
      have hq_18 := hq9
      have hw : HW D A s.heap (kM cI cB cZ oM Mthrown_7 Mmany Mguest Mrow Mbars Mbar Mfresh Mtape Mtaped Mpos Mtoken MtokenAt Mvalue Mwrong MwrongAt MfaultKind MfaultPlace Mthing Morder Mone Mtwo Mbest Mcells Mgap Mwire Mstand Mruns Mminute Mhead Mplays Mrests Mwent Mout Mcame Mgone MlastOut) H_16 locs9 := z_after (wc := ([] : va_W)) hw [] [0, 1, 2, 3, 4, 5, 6, 7, 8, 9, 10, 11, 12, 13, 14, 15, 16] rfl rfl (by decide) (by decide) hF9 hk9 ht9 hB9 hS9 [0, 1, 2, 3, 4, 5, 6, 7, 8, 9, 10, 11, 12, 13, 14, 15, 16] (by decide) rfl
      clear hF9 ht9 hvm9 hB9 hz9 hk9 hS9 hq9
      rcases hq_18 with ⟨hc_19, rfl⟩ | ⟨hc_19, rfl⟩
      · skip
        refine z_if_eq (tgt := 33) hx hb dX8_of_21 (by decide) (by omega) (fun hc_20 => absurd hc_20 (by omega)) (fun hc_20 => ?_)
        refine lv_aload_n hx hb dX8_of_24 rfl (lv_at hl 0 rfl) ?_
        refine lv_iload_n hx hb dX8_of_25 rfl (lv_at hl 1 rfl) ?_
        refine lv_iload_n hx hb dX8_of_26 rfl (lv_at hl 2 rfl) ?_
        have hF9 := z_free (wc := kM cI cB cZ oM Mthrown_7 Mmany Mguest Mrow Mbars Mbar Mfresh Mtape Mtaped Mpos Mtoken MtokenAt Mvalue Mwrong MwrongAt MfaultKind MfaultPlace Mthing Morder Mone Mtwo Mbest Mcells Mgap Mwire Mstand Mruns Mminute Mhead Mplays Mrests Mwent Mout Mcame Mgone MlastOut) hw hA [0, 1, 2, 3, 4, 5, 6, 7, 8, 9, 10, 11, 12, 13, 14, 15, 16] rfl
        refine va_calli (va_runV (As := [.int (zI g), .int (zI w)]) (rest := []) ⟨hx, hb, hml, hown, hts⟩ (c_X8_get l D cI cB cZ oM H_16.size Mthrown_7 Mmany Mguest Mrow Mbars Mbar Mfresh Mtape Mtaped Mpos Mtoken MtokenAt Mvalue Mwrong MwrongAt MfaultKind MfaultPlace Mthing Morder Mone Mtwo Mbest Mcells Mgap Mwire Mstand Mruns Mminute Mhead Mplays Mrests Mwent Mout Mcame Mgone MlastOut g w (by omega) (by omega) qMguest qMrow (by omega) qMbar qMfresh qMtape (by omega) (by omega) (by omega) (by omega) (by omega) (by omega) (by omega) (by omega) (by omega) (by omega) qMorder (by omega) (by omega) qMbest (by omega) (by omega) qMwire qMstand (by omega) (by omega) qMhead qMplays qMrests qMwent qMout qMcame qMgone (by omega) (by omega) (by omega)) (cwV 2 hts gX8_of_X8_get rfl rfl rfl (by decide +kernel) ⟨Nat.le_of_ble_eq_true rfl, Nat.le_of_ble_eq_true rfl⟩) ⟨zPre_blind, va_recv hK hw.1 (ci := 8) (q0 := 0) rfl rfl, z_pre hK hw [0, 1, 2, 3, 4, 5, 6, 7, 8, 9, 10, 11, 12, 13, 14, 15, 16] (by decide) rfl⟩ rfl rfl hl.1 rfl (lv_room (Nat.le_of_ble_eq_true rfl)) dX8_of_27 ⟨Nat.zero_le _, Nat.zero_le _⟩) hw.2.2 (fun q _ h => hF9 q h) hF9 (fun r9 u9 t9 H_21 locs9 ht9 hvm9 hq9 hB9 hz9 hk9 hS9 => ?_)
        obtain ⟨r_22, rfl⟩ : ∃ z, z = u9 := ⟨_, rfl⟩
        try dsimp only at hq9 hB9
        obtain ⟨rfl, hq9⟩ := hq9
        obtain ⟨hq_23, hq_24⟩ := hq9
        have hw : HW D A s.heap (kM cI cB cZ oM Mthrown_7 Mmany Mguest Mrow Mbars Mbar Mfresh Mtape Mtaped Mpos Mtoken MtokenAt Mvalue Mwrong MwrongAt MfaultKind MfaultPlace Mthing Morder Mone Mtwo Mbest Mcells Mgap Mwire Mstand Mruns Mminute Mhead Mplays Mrests Mwent Mout Mcame Mgone MlastOut) H_21 locs9 := z_after (wc := kM cI cB cZ oM Mthrown_7 Mmany Mguest Mrow Mbars Mbar Mfresh Mtape Mtaped Mpos Mtoken MtokenAt Mvalue Mwrong MwrongAt MfaultKind MfaultPlace Mthing Morder Mone Mtwo Mbest Mcells Mgap Mwire Mstand Mruns Mminute Mhead Mplays Mrests Mwent Mout Mcame Mgone MlastOut) hw [0, 1, 2, 3, 4, 5, 6, 7, 8, 9, 10, 11, 12, 13, 14, 15, 16] [] rfl rfl (by decide) (by decide) hF9 hk9 ht9 hB9 hS9 [0, 1, 2, 3, 4, 5, 6, 7, 8, 9, 10, 11, 12, 13, 14, 15, 16] (by decide) rfl
        clear hF9 ht9 hvm9 hB9 hz9 hk9 hS9
        refine lv_goto (tgt := 34) hx hb dX8_of_30 (by decide) ?_
        have hv_25 : (0 : Int) ≤ Mthrown_7 ∧ Mthrown_7 ≤ 2 := by
          first | assumption | omega | grind
        have hv_26 : (¬ (0 ≤ g ∧ g < Mmany) ∧ Mthrown_7 = 1) ∨ ((0 ≤ g ∧ g < Mmany) ∧ Mthrown_7 = 0 ∧ (((0 ≤ w ∧ w ≤ 4) ∧ r_22 = Mguest (5 * g + w)) ∨ (¬ (0 ≤ w ∧ w ≤ 4) ∧ r_22 = -1))) := by
          first | assumption | omega | grind
        exact W.iret (v := zI r_22) hx hb hr (fun t9 ht hW => ⟨⟨zI r_22, (r_22, Mthrown_7), rfl, ⟨rfl, ⟨hv_25, hv_26⟩⟩, by subst hAe; exact z_end hK hw ht hW⟩, by subst hAe; exact hw.2.2.F ht⟩) (by subst hAe; exact hw.2.2.2.2) dX8_of_34
      · skip
        refine z_if_eq (tgt := 33) hx hb dX8_of_21 (by decide) (by omega) (fun hc_27 => ?_) (fun hc_27 => absurd hc_27 (by omega))
        refine z_iconst hx hb dX8_of_33 ?_
        have hv_28 : (0 : Int) ≤ Mthrown_7 ∧ Mthrown_7 ≤ 2 := by
          first | assumption | omega | grind
        have hv_29 : (¬ (0 ≤ g ∧ g < Mmany) ∧ Mthrown_7 = 1) ∨ ((0 ≤ g ∧ g < Mmany) ∧ Mthrown_7 = 0 ∧ (((0 ≤ w ∧ w ≤ 4) ∧ ((-1) : Int) = Mguest (5 * g + w)) ∨ (¬ (0 ≤ w ∧ w ≤ 4) ∧ ((-1) : Int) = -1))) := by
          first | assumption | omega | grind
        exact W.iret (v := zI (-1)) hx hb hr (fun t9 ht hW => ⟨⟨zI (-1), ((-1), Mthrown_7), rfl, ⟨rfl, ⟨hv_28, hv_29⟩⟩, by subst hAe; exact z_end hK hw ht hW⟩, by subst hAe; exact hw.2.2.F ht⟩) (by subst hAe; exact hw.2.2.2.2) dX8_of_34
  · skip
    refine z_iconst hx hb dX8_of_6 ?_
    have hF9 := z_free (wc := kM cI cB cZ oM Mthrown Mmany Mguest Mrow Mbars Mbar Mfresh Mtape Mtaped Mpos Mtoken MtokenAt Mvalue Mwrong MwrongAt MfaultKind MfaultPlace Mthing Morder Mone Mtwo Mbest Mcells Mgap Mwire Mstand Mruns Mminute Mhead Mplays Mrests Mwent Mout Mcame Mgone MlastOut) hw hA [0, 1, 2, 3, 4, 5, 6, 7, 8, 9, 10, 11, 12, 13, 14, 15, 16] rfl
    refine va_calli (va_runV (As := [.int (zI 0), .int (zI 0)]) (rest := []) ⟨hx, hb, hml, hown, hts⟩ (c_X8_fails l D cI cB cZ oM H_1.size Mthrown Mmany Mguest Mrow Mbars Mbar Mfresh Mtape Mtaped Mpos Mtoken MtokenAt Mvalue Mwrong MwrongAt MfaultKind MfaultPlace Mthing Morder Mone Mtwo Mbest Mcells Mgap Mwire Mstand Mruns Mminute Mhead Mplays Mrests Mwent Mout Mcame Mgone MlastOut 0 0 (by omega) (by omega) qMguest qMrow (by omega) qMbar qMfresh qMtape (by omega) (by omega) (by omega) (by omega) (by omega) (by omega) (by omega) (by omega) (by omega) (by omega) qMorder (by omega) (by omega) qMbest (by omega) (by omega) qMwire qMstand (by omega) (by omega) qMhead qMplays qMrests qMwent qMout qMcame qMgone (by omega) (by omega) (by omega)) (cwV 2 hts gX8_of_X8_fails rfl rfl rfl (by decide +kernel) ⟨Nat.le_of_ble_eq_true rfl, Nat.le_of_ble_eq_true rfl⟩) ⟨zPre_blind, va_recv hK hw.1 (ci := 8) (q0 := 0) rfl rfl, z_pre hK hw [0, 1, 2, 3, 4, 5, 6, 7, 8, 9, 10, 11, 12, 13, 14, 15, 16] (by decide) rfl⟩ rfl rfl hl.1 rfl (lv_room (Nat.le_of_ble_eq_true rfl)) dX8_of_7 ⟨Nat.zero_le _, Nat.zero_le _⟩) hw.2.2 (fun q _ h => hF9 q h) hF9 (fun r9 u9 t9 H_30 locs9 ht9 hvm9 hq9 hB9 hz9 hk9 hS9 => ?_)
    obtain ⟨r_31, Mthrown_32⟩ := u9
    try dsimp only at hq9 hB9
    obtain ⟨rfl, hq9⟩ := hq9
    obtain ⟨hq_33, hq_34, hq_35⟩ := hq9
    have hw : HW D A s.heap (kM cI cB cZ oM Mthrown_32 Mmany Mguest Mrow Mbars Mbar Mfresh Mtape Mtaped Mpos Mtoken MtokenAt Mvalue Mwrong MwrongAt MfaultKind MfaultPlace Mthing Morder Mone Mtwo Mbest Mcells Mgap Mwire Mstand Mruns Mminute Mhead Mplays Mrests Mwent Mout Mcame Mgone MlastOut) H_30 locs9 := z_after (wc := kM cI cB cZ oM Mthrown Mmany Mguest Mrow Mbars Mbar Mfresh Mtape Mtaped Mpos Mtoken MtokenAt Mvalue Mwrong MwrongAt MfaultKind MfaultPlace Mthing Morder Mone Mtwo Mbest Mcells Mgap Mwire Mstand Mruns Mminute Mhead Mplays Mrests Mwent Mout Mcame Mgone MlastOut) hw [0, 1, 2, 3, 4, 5, 6, 7, 8, 9, 10, 11, 12, 13, 14, 15, 16] [] rfl rfl (by decide) (by decide) hF9 hk9 ht9 hB9 hS9 [0, 1, 2, 3, 4, 5, 6, 7, 8, 9, 10, 11, 12, 13, 14, 15, 16] (by decide) rfl
    clear hF9 ht9 hvm9 hB9 hz9 hk9 hS9
    rcases hq_34 with ⟨hc_36, rfl⟩ | ⟨hc_36, rfl⟩
    · skip
      refine z_if_eq (tgt := 15) hx hb dX8_of_10 (by decide) (by omega) (fun hc_37 => absurd hc_37 (by omega)) (fun hc_37 => ?_)
      refine z_iconst hx hb dX8_of_13 ?_
      have hv_38 : (0 : Int) ≤ Mthrown_32 ∧ Mthrown_32 ≤ 2 := by
        first | assumption | omega | grind
      have hv_39 : (¬ (0 ≤ g ∧ g < Mmany) ∧ Mthrown_32 = 1) ∨ ((0 ≤ g ∧ g < Mmany) ∧ Mthrown_32 = 0 ∧ (((0 ≤ w ∧ w ≤ 4) ∧ (0 : Int) = Mguest (5 * g + w)) ∨ (¬ (0 ≤ w ∧ w ≤ 4) ∧ (0 : Int) = -1))) := by
        first | assumption | omega | grind
      exact W.iret (v := zI 0) hx hb hr (fun t9 ht hW => ⟨⟨zI 0, (0, Mthrown_32), rfl, ⟨rfl, ⟨hv_38, hv_39⟩⟩, by subst hAe; exact z_end hK hw ht hW⟩, by subst hAe; exact hw.2.2.F ht⟩) (by subst hAe; exact hw.2.2.2.2) dX8_of_14
    · skip
      refine z_if_eq (tgt := 15) hx hb dX8_of_10 (by decide) (by omega) (fun hc_40 => ?_) (fun hc_40 => absurd hc_40 (by omega))
      refine lv_iload_n hx hb dX8_of_15 rfl (lv_at hl 2 rfl) ?_
      refine z_iconst hx hb dX8_of_16 ?_
      refine z_iconst hx hb dX8_of_17 ?_
      have hF9 := z_free (wc := ([] : va_W)) hw hA [] rfl
      refine va_calli (va_runS (As := [.int (zI w), .int (zI 0), .int (zI 4)]) (rest := []) ⟨hx, hb, hml, hown, hts⟩ (c_X8_isIn l D cI cB cZ H_30.size w 0 4 (by omega) (by omega) (by omega)) (va_cwS 3 hts gX8_of_X8_isIn rfl rfl rfl (by decide +kernel) ⟨Nat.le_of_ble_eq_true rfl, Nat.le_of_ble_eq_true rfl⟩) ⟨zPre_blind, z_pre hK hw [] (by decide) rfl⟩ rfl rfl hl.1 rfl (lv_room (Nat.le_of_ble_eq_true rfl)) dX8_of_18 ⟨Nat.zero_le _, Nat.zero_le _⟩) hw.2.2 (fun q _ h => hF9 q h) hF9 (fun r9 u9 t9 H_41 locs9 ht9 hvm9 hq9 hB9 hz9 hk9 hS9 => ?_)
      obtain ⟨r_42, rfl⟩ : ∃ z, z = u9 := ⟨_, rfl⟩
      try dsimp only at hq9 hB9
      obtain ⟨rfl, hq9⟩ := hq9
      have hq_43 := hq9
      have hw : HW D A s.heap (kM cI cB cZ oM Mthrown_32 Mmany Mguest Mrow Mbars Mbar Mfresh Mtape Mtaped Mpos Mtoken MtokenAt Mvalue Mwrong MwrongAt MfaultKind MfaultPlace Mthing Morder Mone Mtwo Mbest Mcells Mgap Mwire Mstand Mruns Mminute Mhead Mplays Mrests Mwent Mout Mcame Mgone MlastOut) H_41 locs9 := z_after (wc := ([] : va_W)) hw [] [0, 1, 2, 3, 4, 5, 6, 7, 8, 9, 10, 11, 12, 13, 14, 15, 16] rfl rfl (by decide) (by decide) hF9 hk9 ht9 hB9 hS9 [0, 1, 2, 3, 4, 5, 6, 7, 8, 9, 10, 11, 12, 13, 14, 15, 16] (by decide) rfl
      clear hF9 ht9 hvm9 hB9 hz9 hk9 hS9 hq9
      rcases hq_43 with ⟨hc_44, rfl⟩ | ⟨hc_44, rfl⟩
      · skip
        refine z_if_eq (tgt := 33) hx hb dX8_of_21 (by decide) (by omega) (fun hc_45 => absurd hc_45 (by omega)) (fun hc_45 => ?_)
        refine lv_aload_n hx hb dX8_of_24 rfl (lv_at hl 0 rfl) ?_
        refine lv_iload_n hx hb dX8_of_25 rfl (lv_at hl 1 rfl) ?_
        refine lv_iload_n hx hb dX8_of_26 rfl (lv_at hl 2 rfl) ?_
        have hF9 := z_free (wc := kM cI cB cZ oM Mthrown_32 Mmany Mguest Mrow Mbars Mbar Mfresh Mtape Mtaped Mpos Mtoken MtokenAt Mvalue Mwrong MwrongAt MfaultKind MfaultPlace Mthing Morder Mone Mtwo Mbest Mcells Mgap Mwire Mstand Mruns Mminute Mhead Mplays Mrests Mwent Mout Mcame Mgone MlastOut) hw hA [0, 1, 2, 3, 4, 5, 6, 7, 8, 9, 10, 11, 12, 13, 14, 15, 16] rfl
        refine va_calli (va_runV (As := [.int (zI g), .int (zI w)]) (rest := []) ⟨hx, hb, hml, hown, hts⟩ (c_X8_get l D cI cB cZ oM H_41.size Mthrown_32 Mmany Mguest Mrow Mbars Mbar Mfresh Mtape Mtaped Mpos Mtoken MtokenAt Mvalue Mwrong MwrongAt MfaultKind MfaultPlace Mthing Morder Mone Mtwo Mbest Mcells Mgap Mwire Mstand Mruns Mminute Mhead Mplays Mrests Mwent Mout Mcame Mgone MlastOut g w (by omega) (by omega) qMguest qMrow (by omega) qMbar qMfresh qMtape (by omega) (by omega) (by omega) (by omega) (by omega) (by omega) (by omega) (by omega) (by omega) (by omega) qMorder (by omega) (by omega) qMbest (by omega) (by omega) qMwire qMstand (by omega) (by omega) qMhead qMplays qMrests qMwent qMout qMcame qMgone (by omega) (by omega) (by omega)) (cwV 2 hts gX8_of_X8_get rfl rfl rfl (by decide +kernel) ⟨Nat.le_of_ble_eq_true rfl, Nat.le_of_ble_eq_true rfl⟩) ⟨zPre_blind, va_recv hK hw.1 (ci := 8) (q0 := 0) rfl rfl, z_pre hK hw [0, 1, 2, 3, 4, 5, 6, 7, 8, 9, 10, 11, 12, 13, 14, 15, 16] (by decide) rfl⟩ rfl rfl hl.1 rfl (lv_room (Nat.le_of_ble_eq_true rfl)) dX8_of_27 ⟨Nat.zero_le _, Nat.zero_le _⟩) hw.2.2 (fun q _ h => hF9 q h) hF9 (fun r9 u9 t9 H_46 locs9 ht9 hvm9 hq9 hB9 hz9 hk9 hS9 => ?_)
        obtain ⟨r_47, rfl⟩ : ∃ z, z = u9 := ⟨_, rfl⟩
        try dsimp only at hq9 hB9
        obtain ⟨rfl, hq9⟩ := hq9
        obtain ⟨hq_48, hq_49⟩ := hq9
        have hw : HW D A s.heap (kM cI cB cZ oM Mthrown_32 Mmany Mguest Mrow Mbars Mbar Mfresh Mtape Mtaped Mpos Mtoken MtokenAt Mvalue Mwrong MwrongAt MfaultKind MfaultPlace Mthing Morder Mone Mtwo Mbest Mcells Mgap Mwire Mstand Mruns Mminute Mhead Mplays Mrests Mwent Mout Mcame Mgone MlastOut) H_46 locs9 := z_after (wc := kM cI cB cZ oM Mthrown_32 Mmany Mguest Mrow Mbars Mbar Mfresh Mtape Mtaped Mpos Mtoken MtokenAt Mvalue Mwrong MwrongAt MfaultKind MfaultPlace Mthing Morder Mone Mtwo Mbest Mcells Mgap Mwire Mstand Mruns Mminute Mhead Mplays Mrests Mwent Mout Mcame Mgone MlastOut) hw [0, 1, 2, 3, 4, 5, 6, 7, 8, 9, 10, 11, 12, 13, 14, 15, 16] [] rfl rfl (by decide) (by decide) hF9 hk9 ht9 hB9 hS9 [0, 1, 2, 3, 4, 5, 6, 7, 8, 9, 10, 11, 12, 13, 14, 15, 16] (by decide) rfl
        clear hF9 ht9 hvm9 hB9 hz9 hk9 hS9
        refine lv_goto (tgt := 34) hx hb dX8_of_30 (by decide) ?_
        have hv_50 : (0 : Int) ≤ Mthrown_32 ∧ Mthrown_32 ≤ 2 := by
          first | assumption | omega | grind
        have hv_51 : (¬ (0 ≤ g ∧ g < Mmany) ∧ Mthrown_32 = 1) ∨ ((0 ≤ g ∧ g < Mmany) ∧ Mthrown_32 = 0 ∧ (((0 ≤ w ∧ w ≤ 4) ∧ r_47 = Mguest (5 * g + w)) ∨ (¬ (0 ≤ w ∧ w ≤ 4) ∧ r_47 = -1))) := by
          first | assumption | omega | grind
        exact W.iret (v := zI r_47) hx hb hr (fun t9 ht hW => ⟨⟨zI r_47, (r_47, Mthrown_32), rfl, ⟨rfl, ⟨hv_50, hv_51⟩⟩, by subst hAe; exact z_end hK hw ht hW⟩, by subst hAe; exact hw.2.2.F ht⟩) (by subst hAe; exact hw.2.2.2.2) dX8_of_34
      · skip
        refine z_if_eq (tgt := 33) hx hb dX8_of_21 (by decide) (by omega) (fun hc_52 => ?_) (fun hc_52 => absurd hc_52 (by omega))
        refine z_iconst hx hb dX8_of_33 ?_
        have hv_53 : (0 : Int) ≤ Mthrown_32 ∧ Mthrown_32 ≤ 2 := by
          first | assumption | omega | grind
        have hv_54 : (¬ (0 ≤ g ∧ g < Mmany) ∧ Mthrown_32 = 1) ∨ ((0 ≤ g ∧ g < Mmany) ∧ Mthrown_32 = 0 ∧ (((0 ≤ w ∧ w ≤ 4) ∧ ((-1) : Int) = Mguest (5 * g + w)) ∨ (¬ (0 ≤ w ∧ w ≤ 4) ∧ ((-1) : Int) = -1))) := by
          first | assumption | omega | grind
        exact W.iret (v := zI (-1)) hx hb hr (fun t9 ht hW => ⟨⟨zI (-1), ((-1), Mthrown_32), rfl, ⟨rfl, ⟨hv_53, hv_54⟩⟩, by subst hAe; exact z_end hK hw ht hW⟩, by subst hAe; exact hw.2.2.F ht⟩) (by subst hAe; exact hw.2.2.2.2) dX8_of_34
set_option maxRecDepth 100000 in
set_option maxHeartbeats 4000000 in
theorem c_X8_passes (l : Launch) (D : va_G) (cI cB cZ : ClassId) (oM : Nat → Nat) (sz : Nat) (Mthrown : Int) (Mmany : Int) (Mguest : Int → Int) (Mrow : Int → Int) (Mbars : Int) (Mbar : Int → Int) (Mfresh : Int → Int) (Mtape : Int → Int) (Mtaped : Int) (Mpos : Int) (Mtoken : Int) (MtokenAt : Int) (Mvalue : Int) (Mwrong : Int) (MwrongAt : Int) (MfaultKind : Int) (MfaultPlace : Int) (Mthing : Int) (Morder : Int → Int) (Mone : Int) (Mtwo : Int) (Mbest : Int → Int) (Mcells : Int) (Mgap : Int) (Mwire : Int → Int) (Mstand : Int → Int) (Mruns : Int) (Mminute : Int) (Mhead : Int → Int) (Mplays : Int → Int) (Mrests : Int → Int) (Mwent : Int → Int) (Mout : Int → Int) (Mcame : Int → Int) (Mgone : Int → Int) (MlastOut : Int) (g : Int) (qMthrown : 0 ≤ Mthrown ∧ Mthrown ≤ 2) (qMmany : 0 ≤ Mmany ∧ Mmany ≤ 8) (qMguest : RA Mguest (0) 9) (qMrow : RA Mrow (0) 7) (qMbars : 0 ≤ Mbars ∧ Mbars ≤ 10) (qMbar : RA Mbar (0) 104) (qMfresh : RA Mfresh (0) 104) (qMtape : RA Mtape (0) 255) (qMtaped : 0 ≤ Mtaped ∧ Mtaped ≤ 400) (qMpos : 0 ≤ Mpos ∧ Mpos ≤ 400) (qMtoken : 0 ≤ Mtoken ∧ Mtoken ≤ 15) (qMtokenAt : 0 ≤ MtokenAt ∧ MtokenAt ≤ 400) (qMvalue : 0 ≤ Mvalue ∧ Mvalue ≤ 99) (qMwrong : 0 ≤ Mwrong ∧ Mwrong ≤ 3) (qMwrongAt : 0 ≤ MwrongAt ∧ MwrongAt ≤ 400) (qMfaultKind : 0 ≤ MfaultKind ∧ MfaultKind ≤ 3) (qMfaultPlace : -1 ≤ MfaultPlace ∧ MfaultPlace ≤ 400) (qMthing : 0 ≤ Mthing ∧ Mthing ≤ 104) (qMorder : RA Morder (0) 7) (qMone : 0 ≤ Mone ∧ Mone ≤ 8) (qMtwo : 0 ≤ Mtwo ∧ Mtwo ≤ 8) (qMbest : RA Mbest (0) 7) (qMcells : 1 ≤ Mcells ∧ Mcells ≤ 50) (qMgap : 0 ≤ Mgap ∧ Mgap ≤ 3) (qMwire : RA Mwire (0) 9) (qMstand : RA Mstand (0) 9) (qMruns : 0 ≤ Mruns ∧ Mruns ≤ 1) (qMminute : 0 ≤ Mminute ∧ Mminute ≤ 1000000) (qMhead : RA Mhead (-1) 60) (qMplays : RA Mplays (0) 18) (qMrests : RA Mrests (0) 3) (qMwent : RA Mwent (0) 61) (qMout : RA Mout (0) 1) (qMcame : RA Mcame (-1) 1000000) (qMgone : RA Mgone (-1) 1000000) (qMlastOut : 0 ≤ MlastOut ∧ MlastOut ≤ 1000000) (qg : -2147483648 ≤ g ∧ g ≤ 2147483647) : Met l yX8_passes wsX8_passes ({ frames := 2, cells := 0, slots := 0, locals := 44 }) (va_Pc [.ref (oM 0), .int (zI g)] (zPre D cI cB cZ sz (kM cI cB cZ oM Mthrown Mmany Mguest Mrow Mbars Mbar Mfresh Mtape Mtaped Mpos Mtoken MtokenAt Mvalue Mwrong MwrongAt MfaultKind MfaultPlace Mthing Morder Mone Mtwo Mbest Mcells Mgap Mwire Mstand Mruns Mminute Mhead Mplays Mrests Mwent Mout Mcame Mgone MlastOut))) (va_Qi (fun (r9 : Int32) (u9 : Int × Int) => r9 = zI u9.1 ∧ (((0 : Int) ≤ u9.2 ∧ u9.2 ≤ 2) ∧ ((¬ (0 ≤ g ∧ g < Mmany) ∧ u9.2 = 1) ∨ ((0 ≤ g ∧ g < Mmany) ∧ u9.2 = 0 ∧ fstP (lowP Mwire (Mguest (5 * g + 3))) Mcells u9.1)))) (fun u9 t9 => zAt D cI cB cZ (va_A (kM cI cB cZ oM Mthrown Mmany Mguest Mrow Mbars Mbar Mfresh Mtape Mtaped Mpos Mtoken MtokenAt Mvalue Mwrong MwrongAt MfaultKind MfaultPlace Mthing Morder Mone Mtwo Mbest Mcells Mgap Mwire Mstand Mruns Mminute Mhead Mplays Mrests Mwent Mout Mcame Mgone MlastOut) sz) (kM cI cB cZ oM (u9.2) Mmany Mguest Mrow Mbars Mbar Mfresh Mtape Mtaped Mpos Mtoken MtokenAt Mvalue Mwrong MwrongAt MfaultKind MfaultPlace Mthing Morder Mone Mtwo Mbest Mcells Mgap Mwire Mstand Mruns Mminute Mhead Mplays Mrests Mwent Mout Mcame Mgone MlastOut) t9) (va_A (kM cI cB cZ oM Mthrown Mmany Mguest Mrow Mbars Mbar Mfresh Mtape Mtaped Mpos Mtoken MtokenAt Mvalue Mwrong MwrongAt MfaultKind MfaultPlace Mthing Morder Mone Mtwo Mbest Mcells Mgap Mwire Mstand Mruns Mminute Mhead Mplays Mrests Mwent Mout Mcame Mgone MlastOut) sz)) 0 0 (va_A (kM cI cB cZ oM Mthrown Mmany Mguest Mrow Mbars Mbar Mfresh Mtape Mtaped Mpos Mtoken MtokenAt Mvalue Mwrong MwrongAt MfaultKind MfaultPlace Mthing Morder Mone Mtwo Mbest Mcells Mgap Mwire Mstand Mruns Mminute Mhead Mplays Mrests Mwent Mout Mcame Mgone MlastOut) sz) := by
  refine Met.ofW (cc := cX8_passes) (maxL := 2) (ret := (some .int)) (by decide) rfl ?_
  intro pp ee s mm aa bw mt cd s₁ BL hml hv
  obtain ⟨rfl, hsz, hP, hK, hD0⟩ := hv
  have hx := BL.exec
  have hb := BL.bytes
  have hr := BL.returns
  have hts := atoms_spec (ws := wsX8_passes) BL.pre
  have hown : s.vm.findClass RX8 = some mm.cls := findClass_of_methodNamed BL.named
  have hlocks := BL.notSynchronized
  subst hsz
  generalize hAe : va_A (kM cI cB cZ oM Mthrown Mmany Mguest Mrow Mbars Mbar Mfresh Mtape Mtaped Mpos Mtoken MtokenAt Mvalue Mwrong MwrongAt MfaultKind MfaultPlace Mthing Morder Mone Mtwo Mbest Mcells Mgap Mwire Mstand Mruns Mminute Mhead Mplays Mrests Mwent Mout Mcame Mgone MlastOut) s.heap.size = A
  have hA : ∀ q : Nat, s.heap.size ≤ q → A q := fun q h => by rw [← hAe]; exact Or.inr h
  have hw : HW D A s.heap (kM cI cB cZ oM Mthrown Mmany Mguest Mrow Mbars Mbar Mfresh Mtape Mtaped Mpos Mtoken MtokenAt Mvalue Mwrong MwrongAt MfaultKind MfaultPlace Mthing Morder Mone Mtwo Mbest Mcells Mgap Mwire Mstand Mruns Mminute Mhead Mplays Mrests Mwent Mout Mcame Mgone MlastOut) s.heap [] := z_start hAe hP hD0
  clear hP hD0
  have hl := lv_entry ([.ref (oM 0), .int (zI g)]) (n := 2) (Nat.le_of_ble_eq_true rfl)
  rw [lg_entry_eq]
  generalize (lg_sl ([.ref (oM 0), .int (zI g)]) ++ List.replicate (2 - (lg_sl ([.ref (oM 0), .int (zI g)])).length) Slot.unset).toArray = ls at hl ⊢
  have hl : lv_has ls 2 [(0, .ref (oM 0)), (1, .int (zI g))] := hl
  refine lv_aload_n hx hb dX8_passes_0 rfl (lv_at hl 0 rfl) ?_
  refine lv_aload_n hx hb dX8_passes_1 rfl (lv_at hl 0 rfl) ?_
  refine lv_iload_n hx hb dX8_passes_2 rfl (lv_at hl 1 rfl) ?_
  have hF9 := z_free (wc := kM cI cB cZ oM Mthrown Mmany Mguest Mrow Mbars Mbar Mfresh Mtape Mtaped Mpos Mtoken MtokenAt Mvalue Mwrong MwrongAt MfaultKind MfaultPlace Mthing Morder Mone Mtwo Mbest Mcells Mgap Mwire Mstand Mruns Mminute Mhead Mplays Mrests Mwent Mout Mcame Mgone MlastOut) hw hA [0, 1, 2, 3, 4, 5, 6, 7, 8, 9, 10, 11, 12, 13, 14, 15, 16] rfl
  refine va_calli (va_runV (As := [.int (zI g)]) (rest := [.ref (oM 0)]) ⟨hx, hb, hml, hown, hts⟩ (c_X8_isNo l D cI cB cZ oM s.heap.size Mthrown Mmany Mguest Mrow Mbars Mbar Mfresh Mtape Mtaped Mpos Mtoken MtokenAt Mvalue Mwrong MwrongAt MfaultKind MfaultPlace Mthing Morder Mone Mtwo Mbest Mcells Mgap Mwire Mstand Mruns Mminute Mhead Mplays Mrests Mwent Mout Mcame Mgone MlastOut g (by omega) (by omega) qMguest qMrow (by omega) qMbar qMfresh qMtape (by omega) (by omega) (by omega) (by omega) (by omega) (by omega) (by omega) (by omega) (by omega) (by omega) qMorder (by omega) (by omega) qMbest (by omega) (by omega) qMwire qMstand (by omega) (by omega) qMhead qMplays qMrests qMwent qMout qMcame qMgone (by omega) (by omega)) (cwV 1 hts gX8_passes_X8_isNo rfl rfl rfl (by decide +kernel) ⟨Nat.le_of_ble_eq_true rfl, Nat.le_of_ble_eq_true rfl⟩) ⟨zPre_blind, va_recv hK hw.1 (ci := 8) (q0 := 0) rfl rfl, z_pre hK hw [0, 1, 2, 3, 4, 5, 6, 7, 8, 9, 10, 11, 12, 13, 14, 15, 16] (by decide) rfl⟩ rfl rfl hl.1 rfl (lv_room (Nat.le_of_ble_eq_true rfl)) dX8_passes_3 ⟨Nat.zero_le _, Nat.zero_le _⟩) hw.2.2 (fun q _ h => hF9 q h) hF9 (fun r9 u9 t9 H_1 locs9 ht9 hvm9 hq9 hB9 hz9 hk9 hS9 => ?_)
  obtain ⟨r_2, rfl⟩ : ∃ z, z = u9 := ⟨_, rfl⟩
  try dsimp only at hq9 hB9
  obtain ⟨rfl, hq9⟩ := hq9
  have hq_3 := hq9
  have hw : HW D A s.heap (kM cI cB cZ oM Mthrown Mmany Mguest Mrow Mbars Mbar Mfresh Mtape Mtaped Mpos Mtoken MtokenAt Mvalue Mwrong MwrongAt MfaultKind MfaultPlace Mthing Morder Mone Mtwo Mbest Mcells Mgap Mwire Mstand Mruns Mminute Mhead Mplays Mrests Mwent Mout Mcame Mgone MlastOut) H_1 locs9 := z_after (wc := kM cI cB cZ oM Mthrown Mmany Mguest Mrow Mbars Mbar Mfresh Mtape Mtaped Mpos Mtoken MtokenAt Mvalue Mwrong MwrongAt MfaultKind MfaultPlace Mthing Morder Mone Mtwo Mbest Mcells Mgap Mwire Mstand Mruns Mminute Mhead Mplays Mrests Mwent Mout Mcame Mgone MlastOut) hw [0, 1, 2, 3, 4, 5, 6, 7, 8, 9, 10, 11, 12, 13, 14, 15, 16] [] rfl rfl (by decide) (by decide) hF9 hk9 ht9 hB9 hS9 [0, 1, 2, 3, 4, 5, 6, 7, 8, 9, 10, 11, 12, 13, 14, 15, 16] (by decide) rfl
  clear hF9 ht9 hvm9 hB9 hz9 hk9 hS9 hq9
  rcases hq_3 with ⟨hc_4, rfl⟩ | ⟨hc_4, rfl⟩
  · skip
    refine z_iconst hx hb dX8_passes_6 ?_
    have hF9 := z_free (wc := kM cI cB cZ oM Mthrown Mmany Mguest Mrow Mbars Mbar Mfresh Mtape Mtaped Mpos Mtoken MtokenAt Mvalue Mwrong MwrongAt MfaultKind MfaultPlace Mthing Morder Mone Mtwo Mbest Mcells Mgap Mwire Mstand Mruns Mminute Mhead Mplays Mrests Mwent Mout Mcame Mgone MlastOut) hw hA [0, 1, 2, 3, 4, 5, 6, 7, 8, 9, 10, 11, 12, 13, 14, 15, 16] rfl
    refine va_calli (va_runV (As := [.int (zI 1), .int (zI 0)]) (rest := []) ⟨hx, hb, hml, hown, hts⟩ (c_X8_fails l D cI cB cZ oM H_1.size Mthrown Mmany Mguest Mrow Mbars Mbar Mfresh Mtape Mtaped Mpos Mtoken MtokenAt Mvalue Mwrong MwrongAt MfaultKind MfaultPlace Mthing Morder Mone Mtwo Mbest Mcells Mgap Mwire Mstand Mruns Mminute Mhead Mplays Mrests Mwent Mout Mcame Mgone MlastOut 1 0 (by omega) (by omega) qMguest qMrow (by omega) qMbar qMfresh qMtape (by omega) (by omega) (by omega) (by omega) (by omega) (by omega) (by omega) (by omega) (by omega) (by omega) qMorder (by omega) (by omega) qMbest (by omega) (by omega) qMwire qMstand (by omega) (by omega) qMhead qMplays qMrests qMwent qMout qMcame qMgone (by omega) (by omega) (by omega)) (cwV 2 hts gX8_passes_X8_fails rfl rfl rfl (by decide +kernel) ⟨Nat.le_of_ble_eq_true rfl, Nat.le_of_ble_eq_true rfl⟩) ⟨zPre_blind, va_recv hK hw.1 (ci := 8) (q0 := 0) rfl rfl, z_pre hK hw [0, 1, 2, 3, 4, 5, 6, 7, 8, 9, 10, 11, 12, 13, 14, 15, 16] (by decide) rfl⟩ rfl rfl hl.1 rfl (lv_room (Nat.le_of_ble_eq_true rfl)) dX8_passes_7 ⟨Nat.zero_le _, Nat.zero_le _⟩) hw.2.2 (fun q _ h => hF9 q h) hF9 (fun r9 u9 t9 H_5 locs9 ht9 hvm9 hq9 hB9 hz9 hk9 hS9 => ?_)
    obtain ⟨r_6, Mthrown_7⟩ := u9
    try dsimp only at hq9 hB9
    obtain ⟨rfl, hq9⟩ := hq9
    obtain ⟨hq_8, hq_9, hq_10⟩ := hq9
    have hw : HW D A s.heap (kM cI cB cZ oM Mthrown_7 Mmany Mguest Mrow Mbars Mbar Mfresh Mtape Mtaped Mpos Mtoken MtokenAt Mvalue Mwrong MwrongAt MfaultKind MfaultPlace Mthing Morder Mone Mtwo Mbest Mcells Mgap Mwire Mstand Mruns Mminute Mhead Mplays Mrests Mwent Mout Mcame Mgone MlastOut) H_5 locs9 := z_after (wc := kM cI cB cZ oM Mthrown Mmany Mguest Mrow Mbars Mbar Mfresh Mtape Mtaped Mpos Mtoken MtokenAt Mvalue Mwrong MwrongAt MfaultKind MfaultPlace Mthing Morder Mone Mtwo Mbest Mcells Mgap Mwire Mstand Mruns Mminute Mhead Mplays Mrests Mwent Mout Mcame Mgone MlastOut) hw [0, 1, 2, 3, 4, 5, 6, 7, 8, 9, 10, 11, 12, 13, 14, 15, 16] [] rfl rfl (by decide) (by decide) hF9 hk9 ht9 hB9 hS9 [0, 1, 2, 3, 4, 5, 6, 7, 8, 9, 10, 11, 12, 13, 14, 15, 16] (by decide) rfl
    clear hF9 ht9 hvm9 hB9 hz9 hk9 hS9
    rcases hq_9 with ⟨hc_11, rfl⟩ | ⟨hc_11, rfl⟩
    · skip
      refine z_if_eq (tgt := 15) hx hb dX8_passes_10 (by decide) (by omega) (fun hc_12 => absurd hc_12 (by omega)) (fun hc_12 => ?_)
      refine z_iconst hx hb dX8_passes_13 ?_
      have hv_13 : (0 : Int) ≤ Mthrown_7 ∧ Mthrown_7 ≤ 2 := by
        first | assumption | omega | grind
      have hv_14 : (¬ (0 ≤ g ∧ g < Mmany) ∧ Mthrown_7 = 1) ∨ ((0 ≤ g ∧ g < Mmany) ∧ Mthrown_7 = 0 ∧ fstP (lowP Mwire (Mguest (5 * g + 3))) Mcells (0 : Int)) := by
        first | omega | exact Or.inl ⟨by omega, by omega⟩ | exact Or.inr ⟨by omega, by omega, by assumption⟩
      exact W.iret (v := zI 0) hx hb hr (fun t9 ht hW => ⟨⟨zI 0, (0, Mthrown_7), rfl, ⟨rfl, ⟨hv_13, hv_14⟩⟩, by subst hAe; exact z_end hK hw ht hW⟩, by subst hAe; exact hw.2.2.F ht⟩) (by subst hAe; exact hw.2.2.2.2) dX8_passes_14
    · skip
      refine z_if_eq (tgt := 15) hx hb dX8_passes_10 (by decide) (by omega) (fun hc_15 => ?_) (fun hc_15 => absurd hc_15 (by omega))
      refine lv_aload_n hx hb dX8_passes_15 rfl (lv_at hl 0 rfl) ?_
      refine lv_iload_n hx hb dX8_passes_16 rfl (lv_at hl 1 rfl) ?_
      have hF9 := z_free (wc := kM cI cB cZ oM Mthrown_7 Mmany Mguest Mrow Mbars Mbar Mfresh Mtape Mtaped Mpos Mtoken MtokenAt Mvalue Mwrong MwrongAt MfaultKind MfaultPlace Mthing Morder Mone Mtwo Mbest Mcells Mgap Mwire Mstand Mruns Mminute Mhead Mplays Mrests Mwent Mout Mcame Mgone MlastOut) hw hA [0, 1, 2, 3, 4, 5, 6, 7, 8, 9, 10, 11, 12, 13, 14, 15, 16] rfl
      refine va_calli (va_runV (As := [.int (zI g)]) (rest := []) ⟨hx, hb, hml, hown, hts⟩ (c_X8_stops l D cI cB cZ oM H_5.size Mthrown_7 Mmany Mguest Mrow Mbars Mbar Mfresh Mtape Mtaped Mpos Mtoken MtokenAt Mvalue Mwrong MwrongAt MfaultKind MfaultPlace Mthing Morder Mone Mtwo Mbest Mcells Mgap Mwire Mstand Mruns Mminute Mhead Mplays Mrests Mwent Mout Mcame Mgone MlastOut g (by omega) (by omega) qMguest qMrow (by omega) qMbar qMfresh qMtape (by omega) (by omega) (by omega) (by omega) (by omega) (by omega) (by omega) (by omega) (by omega) (by omega) qMorder (by omega) (by omega) qMbest (by omega) (by omega) qMwire qMstand (by omega) (by omega) qMhead qMplays qMrests qMwent qMout qMcame qMgone (by omega) (by omega)) (cwV 1 hts gX8_passes_X8_stops rfl rfl rfl (by decide +kernel) ⟨Nat.le_of_ble_eq_true rfl, Nat.le_of_ble_eq_true rfl⟩) ⟨zPre_blind, va_recv hK hw.1 (ci := 8) (q0 := 0) rfl rfl, z_pre hK hw [0, 1, 2, 3, 4, 5, 6, 7, 8, 9, 10, 11, 12, 13, 14, 15, 16] (by decide) rfl⟩ rfl rfl hl.1 rfl (lv_room (Nat.le_of_ble_eq_true rfl)) dX8_passes_17 ⟨Nat.zero_le _, Nat.zero_le _⟩) hw.2.2 (fun q _ h => hF9 q h) hF9 (fun r9 u9 t9 H_16 locs9 ht9 hvm9 hq9 hB9 hz9 hk9 hS9 => ?_)
      obtain ⟨r_17, rfl⟩ : ∃ z, z = u9 := ⟨_, rfl⟩
      try dsimp only at hq9 hB9
      obtain ⟨rfl, hq9⟩ := hq9
      obtain ⟨hq_18, hq_19⟩ := hq9
      have hw : HW D A s.heap (kM cI cB cZ oM Mthrown_7 Mmany Mguest Mrow Mbars Mbar Mfresh Mtape Mtaped Mpos Mtoken MtokenAt Mvalue Mwrong MwrongAt MfaultKind MfaultPlace Mthing Morder Mone Mtwo Mbest Mcells Mgap Mwire Mstand Mruns Mminute Mhead Mplays Mrests Mwent Mout Mcame Mgone MlastOut) H_16 locs9 := z_after (wc := kM cI cB cZ oM Mthrown_7 Mmany Mguest Mrow Mbars Mbar Mfresh Mtape Mtaped Mpos Mtoken MtokenAt Mvalue Mwrong MwrongAt MfaultKind MfaultPlace Mthing Morder Mone Mtwo Mbest Mcells Mgap Mwire Mstand Mruns Mminute Mhead Mplays Mrests Mwent Mout Mcame Mgone MlastOut) hw [0, 1, 2, 3, 4, 5, 6, 7, 8, 9, 10, 11, 12, 13, 14, 15, 16] [] rfl rfl (by decide) (by decide) hF9 hk9 ht9 hB9 hS9 [0, 1, 2, 3, 4, 5, 6, 7, 8, 9, 10, 11, 12, 13, 14, 15, 16] (by decide) rfl
      clear hF9 ht9 hvm9 hB9 hz9 hk9 hS9
      have hv_20 : (0 : Int) ≤ Mthrown_7 ∧ Mthrown_7 ≤ 2 := by
        first | assumption | omega | grind
      have hv_21 : (¬ (0 ≤ g ∧ g < Mmany) ∧ Mthrown_7 = 1) ∨ ((0 ≤ g ∧ g < Mmany) ∧ Mthrown_7 = 0 ∧ fstP (lowP Mwire (Mguest (5 * g + 3))) Mcells r_17) := by
        first | omega | exact Or.inl ⟨by omega, by omega⟩ | exact Or.inr ⟨by omega, by omega, by assumption⟩
      exact W.iret (v := zI r_17) hx hb hr (fun t9 ht hW => ⟨⟨zI r_17, (r_17, Mthrown_7), rfl, ⟨rfl, ⟨hv_20, hv_21⟩⟩, by subst hAe; exact z_end hK hw ht hW⟩, by subst hAe; exact hw.2.2.F ht⟩) (by subst hAe; exact hw.2.2.2.2) dX8_passes_20
  · skip
    refine z_iconst hx hb dX8_passes_6 ?_
    have hF9 := z_free (wc := kM cI cB cZ oM Mthrown Mmany Mguest Mrow Mbars Mbar Mfresh Mtape Mtaped Mpos Mtoken MtokenAt Mvalue Mwrong MwrongAt MfaultKind MfaultPlace Mthing Morder Mone Mtwo Mbest Mcells Mgap Mwire Mstand Mruns Mminute Mhead Mplays Mrests Mwent Mout Mcame Mgone MlastOut) hw hA [0, 1, 2, 3, 4, 5, 6, 7, 8, 9, 10, 11, 12, 13, 14, 15, 16] rfl
    refine va_calli (va_runV (As := [.int (zI 0), .int (zI 0)]) (rest := []) ⟨hx, hb, hml, hown, hts⟩ (c_X8_fails l D cI cB cZ oM H_1.size Mthrown Mmany Mguest Mrow Mbars Mbar Mfresh Mtape Mtaped Mpos Mtoken MtokenAt Mvalue Mwrong MwrongAt MfaultKind MfaultPlace Mthing Morder Mone Mtwo Mbest Mcells Mgap Mwire Mstand Mruns Mminute Mhead Mplays Mrests Mwent Mout Mcame Mgone MlastOut 0 0 (by omega) (by omega) qMguest qMrow (by omega) qMbar qMfresh qMtape (by omega) (by omega) (by omega) (by omega) (by omega) (by omega) (by omega) (by omega) (by omega) (by omega) qMorder (by omega) (by omega) qMbest (by omega) (by omega) qMwire qMstand (by omega) (by omega) qMhead qMplays qMrests qMwent qMout qMcame qMgone (by omega) (by omega) (by omega)) (cwV 2 hts gX8_passes_X8_fails rfl rfl rfl (by decide +kernel) ⟨Nat.le_of_ble_eq_true rfl, Nat.le_of_ble_eq_true rfl⟩) ⟨zPre_blind, va_recv hK hw.1 (ci := 8) (q0 := 0) rfl rfl, z_pre hK hw [0, 1, 2, 3, 4, 5, 6, 7, 8, 9, 10, 11, 12, 13, 14, 15, 16] (by decide) rfl⟩ rfl rfl hl.1 rfl (lv_room (Nat.le_of_ble_eq_true rfl)) dX8_passes_7 ⟨Nat.zero_le _, Nat.zero_le _⟩) hw.2.2 (fun q _ h => hF9 q h) hF9 (fun r9 u9 t9 H_22 locs9 ht9 hvm9 hq9 hB9 hz9 hk9 hS9 => ?_)
    obtain ⟨r_23, Mthrown_24⟩ := u9
    try dsimp only at hq9 hB9
    obtain ⟨rfl, hq9⟩ := hq9
    obtain ⟨hq_25, hq_26, hq_27⟩ := hq9
    have hw : HW D A s.heap (kM cI cB cZ oM Mthrown_24 Mmany Mguest Mrow Mbars Mbar Mfresh Mtape Mtaped Mpos Mtoken MtokenAt Mvalue Mwrong MwrongAt MfaultKind MfaultPlace Mthing Morder Mone Mtwo Mbest Mcells Mgap Mwire Mstand Mruns Mminute Mhead Mplays Mrests Mwent Mout Mcame Mgone MlastOut) H_22 locs9 := z_after (wc := kM cI cB cZ oM Mthrown Mmany Mguest Mrow Mbars Mbar Mfresh Mtape Mtaped Mpos Mtoken MtokenAt Mvalue Mwrong MwrongAt MfaultKind MfaultPlace Mthing Morder Mone Mtwo Mbest Mcells Mgap Mwire Mstand Mruns Mminute Mhead Mplays Mrests Mwent Mout Mcame Mgone MlastOut) hw [0, 1, 2, 3, 4, 5, 6, 7, 8, 9, 10, 11, 12, 13, 14, 15, 16] [] rfl rfl (by decide) (by decide) hF9 hk9 ht9 hB9 hS9 [0, 1, 2, 3, 4, 5, 6, 7, 8, 9, 10, 11, 12, 13, 14, 15, 16] (by decide) rfl
    clear hF9 ht9 hvm9 hB9 hz9 hk9 hS9
    rcases hq_26 with ⟨hc_28, rfl⟩ | ⟨hc_28, rfl⟩
    · skip
      refine z_if_eq (tgt := 15) hx hb dX8_passes_10 (by decide) (by omega) (fun hc_29 => absurd hc_29 (by omega)) (fun hc_29 => ?_)
      refine z_iconst hx hb dX8_passes_13 ?_
      have hv_30 : (0 : Int) ≤ Mthrown_24 ∧ Mthrown_24 ≤ 2 := by
        first | assumption | omega | grind
      have hv_31 : (¬ (0 ≤ g ∧ g < Mmany) ∧ Mthrown_24 = 1) ∨ ((0 ≤ g ∧ g < Mmany) ∧ Mthrown_24 = 0 ∧ fstP (lowP Mwire (Mguest (5 * g + 3))) Mcells (0 : Int)) := by
        first | omega | exact Or.inl ⟨by omega, by omega⟩ | exact Or.inr ⟨by omega, by omega, by assumption⟩
      exact W.iret (v := zI 0) hx hb hr (fun t9 ht hW => ⟨⟨zI 0, (0, Mthrown_24), rfl, ⟨rfl, ⟨hv_30, hv_31⟩⟩, by subst hAe; exact z_end hK hw ht hW⟩, by subst hAe; exact hw.2.2.F ht⟩) (by subst hAe; exact hw.2.2.2.2) dX8_passes_14
    · skip
      refine z_if_eq (tgt := 15) hx hb dX8_passes_10 (by decide) (by omega) (fun hc_32 => ?_) (fun hc_32 => absurd hc_32 (by omega))
      refine lv_aload_n hx hb dX8_passes_15 rfl (lv_at hl 0 rfl) ?_
      refine lv_iload_n hx hb dX8_passes_16 rfl (lv_at hl 1 rfl) ?_
      have hF9 := z_free (wc := kM cI cB cZ oM Mthrown_24 Mmany Mguest Mrow Mbars Mbar Mfresh Mtape Mtaped Mpos Mtoken MtokenAt Mvalue Mwrong MwrongAt MfaultKind MfaultPlace Mthing Morder Mone Mtwo Mbest Mcells Mgap Mwire Mstand Mruns Mminute Mhead Mplays Mrests Mwent Mout Mcame Mgone MlastOut) hw hA [0, 1, 2, 3, 4, 5, 6, 7, 8, 9, 10, 11, 12, 13, 14, 15, 16] rfl
      refine va_calli (va_runV (As := [.int (zI g)]) (rest := []) ⟨hx, hb, hml, hown, hts⟩ (c_X8_stops l D cI cB cZ oM H_22.size Mthrown_24 Mmany Mguest Mrow Mbars Mbar Mfresh Mtape Mtaped Mpos Mtoken MtokenAt Mvalue Mwrong MwrongAt MfaultKind MfaultPlace Mthing Morder Mone Mtwo Mbest Mcells Mgap Mwire Mstand Mruns Mminute Mhead Mplays Mrests Mwent Mout Mcame Mgone MlastOut g (by omega) (by omega) qMguest qMrow (by omega) qMbar qMfresh qMtape (by omega) (by omega) (by omega) (by omega) (by omega) (by omega) (by omega) (by omega) (by omega) (by omega) qMorder (by omega) (by omega) qMbest (by omega) (by omega) qMwire qMstand (by omega) (by omega) qMhead qMplays qMrests qMwent qMout qMcame qMgone (by omega) (by omega)) (cwV 1 hts gX8_passes_X8_stops rfl rfl rfl (by decide +kernel) ⟨Nat.le_of_ble_eq_true rfl, Nat.le_of_ble_eq_true rfl⟩) ⟨zPre_blind, va_recv hK hw.1 (ci := 8) (q0 := 0) rfl rfl, z_pre hK hw [0, 1, 2, 3, 4, 5, 6, 7, 8, 9, 10, 11, 12, 13, 14, 15, 16] (by decide) rfl⟩ rfl rfl hl.1 rfl (lv_room (Nat.le_of_ble_eq_true rfl)) dX8_passes_17 ⟨Nat.zero_le _, Nat.zero_le _⟩) hw.2.2 (fun q _ h => hF9 q h) hF9 (fun r9 u9 t9 H_33 locs9 ht9 hvm9 hq9 hB9 hz9 hk9 hS9 => ?_)
      obtain ⟨r_34, rfl⟩ : ∃ z, z = u9 := ⟨_, rfl⟩
      try dsimp only at hq9 hB9
      obtain ⟨rfl, hq9⟩ := hq9
      obtain ⟨hq_35, hq_36⟩ := hq9
      have hw : HW D A s.heap (kM cI cB cZ oM Mthrown_24 Mmany Mguest Mrow Mbars Mbar Mfresh Mtape Mtaped Mpos Mtoken MtokenAt Mvalue Mwrong MwrongAt MfaultKind MfaultPlace Mthing Morder Mone Mtwo Mbest Mcells Mgap Mwire Mstand Mruns Mminute Mhead Mplays Mrests Mwent Mout Mcame Mgone MlastOut) H_33 locs9 := z_after (wc := kM cI cB cZ oM Mthrown_24 Mmany Mguest Mrow Mbars Mbar Mfresh Mtape Mtaped Mpos Mtoken MtokenAt Mvalue Mwrong MwrongAt MfaultKind MfaultPlace Mthing Morder Mone Mtwo Mbest Mcells Mgap Mwire Mstand Mruns Mminute Mhead Mplays Mrests Mwent Mout Mcame Mgone MlastOut) hw [0, 1, 2, 3, 4, 5, 6, 7, 8, 9, 10, 11, 12, 13, 14, 15, 16] [] rfl rfl (by decide) (by decide) hF9 hk9 ht9 hB9 hS9 [0, 1, 2, 3, 4, 5, 6, 7, 8, 9, 10, 11, 12, 13, 14, 15, 16] (by decide) rfl
      clear hF9 ht9 hvm9 hB9 hz9 hk9 hS9
      have hv_37 : (0 : Int) ≤ Mthrown_24 ∧ Mthrown_24 ≤ 2 := by
        first | assumption | omega | grind
      have hv_38 : (¬ (0 ≤ g ∧ g < Mmany) ∧ Mthrown_24 = 1) ∨ ((0 ≤ g ∧ g < Mmany) ∧ Mthrown_24 = 0 ∧ fstP (lowP Mwire (Mguest (5 * g + 3))) Mcells r_34) := by
        first | omega | exact Or.inl ⟨by omega, by omega⟩ | exact Or.inr ⟨by omega, by omega, by assumption⟩
      exact W.iret (v := zI r_34) hx hb hr (fun t9 ht hW => ⟨⟨zI r_34, (r_34, Mthrown_24), rfl, ⟨rfl, ⟨hv_37, hv_38⟩⟩, by subst hAe; exact z_end hK hw ht hW⟩, by subst hAe; exact hw.2.2.F ht⟩) (by subst hAe; exact hw.2.2.2.2) dX8_passes_20
set_option maxRecDepth 100000 in
set_option maxHeartbeats 4000000 in
theorem c_X8_lay (l : Launch) (D : va_G) (cI cB cZ : ClassId) (oM : Nat → Nat) (sz : Nat) (Mthrown : Int) (Mmany : Int) (Mguest : Int → Int) (Mrow : Int → Int) (Mbars : Int) (Mbar : Int → Int) (Mfresh : Int → Int) (Mtape : Int → Int) (Mtaped : Int) (Mpos : Int) (Mtoken : Int) (MtokenAt : Int) (Mvalue : Int) (Mwrong : Int) (MwrongAt : Int) (MfaultKind : Int) (MfaultPlace : Int) (Mthing : Int) (Morder : Int → Int) (Mone : Int) (Mtwo : Int) (Mbest : Int → Int) (Mcells : Int) (Mgap : Int) (Mwire : Int → Int) (Mstand : Int → Int) (Mruns : Int) (Mminute : Int) (Mhead : Int → Int) (Mplays : Int → Int) (Mrests : Int → Int) (Mwent : Int → Int) (Mout : Int → Int) (Mcame : Int → Int) (Mgone : Int → Int) (MlastOut : Int) (v : Int) (qMthrown : 0 ≤ Mthrown ∧ Mthrown ≤ 2) (qMmany : 0 ≤ Mmany ∧ Mmany ≤ 8) (qMguest : RA Mguest (0) 9) (qMrow : RA Mrow (0) 7) (qMbars : 0 ≤ Mbars ∧ Mbars ≤ 10) (qMbar : RA Mbar (0) 104) (qMfresh : RA Mfresh (0) 104) (qMtape : RA Mtape (0) 255) (qMtaped : 0 ≤ Mtaped ∧ Mtaped ≤ 400) (qMpos : 0 ≤ Mpos ∧ Mpos ≤ 400) (qMtoken : 0 ≤ Mtoken ∧ Mtoken ≤ 15) (qMtokenAt : 0 ≤ MtokenAt ∧ MtokenAt ≤ 400) (qMvalue : 0 ≤ Mvalue ∧ Mvalue ≤ 99) (qMwrong : 0 ≤ Mwrong ∧ Mwrong ≤ 3) (qMwrongAt : 0 ≤ MwrongAt ∧ MwrongAt ≤ 400) (qMfaultKind : 0 ≤ MfaultKind ∧ MfaultKind ≤ 3) (qMfaultPlace : -1 ≤ MfaultPlace ∧ MfaultPlace ≤ 400) (qMthing : 0 ≤ Mthing ∧ Mthing ≤ 104) (qMorder : RA Morder (0) 7) (qMone : 0 ≤ Mone ∧ Mone ≤ 8) (qMtwo : 0 ≤ Mtwo ∧ Mtwo ≤ 8) (qMbest : RA Mbest (0) 7) (qMcells : 1 ≤ Mcells ∧ Mcells ≤ 50) (qMgap : 0 ≤ Mgap ∧ Mgap ≤ 3) (qMwire : RA Mwire (0) 9) (qMstand : RA Mstand (0) 9) (qMruns : 0 ≤ Mruns ∧ Mruns ≤ 1) (qMminute : 0 ≤ Mminute ∧ Mminute ≤ 1000000) (qMhead : RA Mhead (-1) 60) (qMplays : RA Mplays (0) 18) (qMrests : RA Mrests (0) 3) (qMwent : RA Mwent (0) 61) (qMout : RA Mout (0) 1) (qMcame : RA Mcame (-1) 1000000) (qMgone : RA Mgone (-1) 1000000) (qMlastOut : 0 ≤ MlastOut ∧ MlastOut ≤ 1000000) (qv : -2147483648 ≤ v ∧ v ≤ 2147483647) : Met l yX8_lay wsX8_lay ({ frames := 0, cells := 0, slots := 0, locals := 0 }) (va_Pc [.ref (oM 0), .int (zI v)] (zPre D cI cB cZ sz (kM cI cB cZ oM Mthrown Mmany Mguest Mrow Mbars Mbar Mfresh Mtape Mtaped Mpos Mtoken MtokenAt Mvalue Mwrong MwrongAt MfaultKind MfaultPlace Mthing Morder Mone Mtwo Mbest Mcells Mgap Mwire Mstand Mruns Mminute Mhead Mplays Mrests Mwent Mout Mcame Mgone MlastOut))) (va_Qi (fun (r9 : Int32) (u9 : Int × Int × (Int → Int) × Int) => r9 = zI u9.1 ∧ (((0 : Int) ≤ u9.2.1 ∧ u9.2.1 ≤ 2) ∧ (RA u9.2.2.1 (0) 7) ∧ ((0 : Int) ≤ u9.2.2.2 ∧ u9.2.2.2 ≤ 1) ∧ ((layP Mmany v ∧ u9.1 = 1 ∧ u9.2.2.2 = 0 ∧ ∀ k, 0 ≤ k → k < Mmany → u9.2.2.1 k = nib v k) ∨ (¬ layP Mmany v ∧ u9.1 = 0 ∧ u9.2.2.1 = Mrow ∧ u9.2.2.2 = Mruns)) ∧ (u9.2.1 = 0))) (fun u9 t9 => zAt D cI cB cZ (va_A (kM cI cB cZ oM Mthrown Mmany Mguest Mrow Mbars Mbar Mfresh Mtape Mtaped Mpos Mtoken MtokenAt Mvalue Mwrong MwrongAt MfaultKind MfaultPlace Mthing Morder Mone Mtwo Mbest Mcells Mgap Mwire Mstand Mruns Mminute Mhead Mplays Mrests Mwent Mout Mcame Mgone MlastOut) sz) (kM cI cB cZ oM (u9.2.1) Mmany Mguest (u9.2.2.1) Mbars Mbar Mfresh Mtape Mtaped Mpos Mtoken MtokenAt Mvalue Mwrong MwrongAt MfaultKind MfaultPlace Mthing Morder Mone Mtwo Mbest Mcells Mgap Mwire Mstand (u9.2.2.2) Mminute Mhead Mplays Mrests Mwent Mout Mcame Mgone MlastOut) t9) (va_A (kM cI cB cZ oM Mthrown Mmany Mguest Mrow Mbars Mbar Mfresh Mtape Mtaped Mpos Mtoken MtokenAt Mvalue Mwrong MwrongAt MfaultKind MfaultPlace Mthing Morder Mone Mtwo Mbest Mcells Mgap Mwire Mstand Mruns Mminute Mhead Mplays Mrests Mwent Mout Mcame Mgone MlastOut) sz)) 0 0 (va_A (kM cI cB cZ oM Mthrown Mmany Mguest Mrow Mbars Mbar Mfresh Mtape Mtaped Mpos Mtoken MtokenAt Mvalue Mwrong MwrongAt MfaultKind MfaultPlace Mthing Morder Mone Mtwo Mbest Mcells Mgap Mwire Mstand Mruns Mminute Mhead Mplays Mrests Mwent Mout Mcame Mgone MlastOut) sz) := by
  refine Met.ofW (cc := cX8_lay) (maxL := 5) (ret := (some .boolean)) (by decide) rfl ?_
  intro pp ee s mm aa bw mt cd s₁ BL hml hv
  obtain ⟨rfl, hsz, hP, hK, hD0⟩ := hv
  have hx := BL.exec
  have hb := BL.bytes
  have hr := BL.returns
  have hts := atoms_spec (ws := wsX8_lay) BL.pre
  have hown : s.vm.findClass RX8 = some mm.cls := findClass_of_methodNamed BL.named
  have hlocks := BL.notSynchronized
  subst hsz
  generalize hAe : va_A (kM cI cB cZ oM Mthrown Mmany Mguest Mrow Mbars Mbar Mfresh Mtape Mtaped Mpos Mtoken MtokenAt Mvalue Mwrong MwrongAt MfaultKind MfaultPlace Mthing Morder Mone Mtwo Mbest Mcells Mgap Mwire Mstand Mruns Mminute Mhead Mplays Mrests Mwent Mout Mcame Mgone MlastOut) s.heap.size = A
  have hA : ∀ q : Nat, s.heap.size ≤ q → A q := fun q h => by rw [← hAe]; exact Or.inr h
  have hw : HW D A s.heap (kM cI cB cZ oM Mthrown Mmany Mguest Mrow Mbars Mbar Mfresh Mtape Mtaped Mpos Mtoken MtokenAt Mvalue Mwrong MwrongAt MfaultKind MfaultPlace Mthing Morder Mone Mtwo Mbest Mcells Mgap Mwire Mstand Mruns Mminute Mhead Mplays Mrests Mwent Mout Mcame Mgone MlastOut) s.heap [] := z_start hAe hP hD0
  clear hP hD0
  have hl := lv_entry ([.ref (oM 0), .int (zI v)]) (n := 5) (Nat.le_of_ble_eq_true rfl)
  rw [lg_entry_eq]
  generalize (lg_sl ([.ref (oM 0), .int (zI v)]) ++ List.replicate (5 - (lg_sl ([.ref (oM 0), .int (zI v)])).length) Slot.unset).toArray = ls at hl ⊢
  have hl : lv_has ls 5 [(0, .ref (oM 0)), (1, .int (zI v))] := hl
  have hinX8 : ∀ w ∈ wsX80, w ∈ wsX8_lay := by decide +kernel
  refine lv_aload_n hx hb dX8_lay_0 rfl (lv_at hl 0 rfl) ?_
  refine z_iconst hx hb dX8_lay_1 ?_
  refine z_put (D := D) (ci := 8) (v := .int (zI 0)) (ty := .int) (C := RX8) (T := TX8) (N := 36) (ws2 := kM cI cB cZ oM 0 Mmany Mguest Mrow Mbars Mbar Mfresh Mtape Mtaped Mpos Mtoken MtokenAt Mvalue Mwrong MwrongAt MfaultKind MfaultPlace Mthing Morder Mone Mtwo Mbest Mcells Mgap Mwire Mstand Mruns Mminute Mhead Mplays Mrests Mwent Mout Mcame Mgone MlastOut) hx hb hts hinX8 tyX8 tyX8_ok nmX8 hown hK hw 0 rfl rfl 0 (by decide) (hts (.fieldLink RX8 69 "CarnivalRoadModel" "thrown" "I") (by decide +kernel)) (fun _ h9 => h9) rfl (by decide +kernel) rfl rfl (Nat.le_of_ble_eq_true rfl) dX8_lay_2 rfl (fun H locs hw => ?_)
  refine z_iconst hx hb dX8_lay_5 ?_
  refine lv_istore_n (lv' := [(2, .int (zI 0)), (0, .ref (oM 0)), (1, .int (zI v))]) hx hb dX8_lay_6 rfl hl (by decide) rfl (fun ls hl => ?_)
  refine z_iconst hx hb dX8_lay_7 ?_
  refine lv_istore_n (lv' := [(3, .int (zI 0)), (2, .int (zI 0)), (0, .ref (oM 0)), (1, .int (zI v))]) hx hb dX8_lay_8 rfl hl (by decide) rfl (fun ls hl => ?_)
  have hv_1 : 0 ≤ (0 : Int) ∧ (0 : Int) ≤ Mmany := by
    first | assumption | omega | grind
  have hv_2 : 0 ≤ (0 : Int) ∧ (0 : Int) ≤ 255 := by
    first | assumption | omega | grind
  have hv_3 : ∀ j, 0 ≤ j → j ≤ 15 → (mb (0 : Int) j ↔ ∃ k, 0 ≤ k ∧ k < (0 : Int) ∧ nib v k = j) := by
    intro j j0 j1
    exact ⟨fun q => absurd q mb_0, fun ⟨k, k0, k1, _⟩ => absurd k1 (by omega)⟩
  have hv_4 : layQ (0 : Int) Mmany v := by
    exact ⟨fun k k0 k1 => absurd k1 (by omega), fun a b a0 a1 a2 => absurd a2 (by omega)⟩
  refine z_loop (σ := Int × Int) (μ := fun x9 => (9 - (x9.2)).toNat) (I := fun x9 H locs ls => (0 ≤ (x9.2) ∧ (x9.2) ≤ Mmany) ∧ (0 ≤ (x9.1) ∧ (x9.1) ≤ 255) ∧ (∀ j, 0 ≤ j → j ≤ 15 → (mb (x9.1) j ↔ ∃ k, 0 ≤ k ∧ k < (x9.2) ∧ nib v k = j)) ∧ (layQ (x9.2) Mmany v) ∧ HW D A s.heap (kM cI cB cZ oM 0 Mmany Mguest Mrow Mbars Mbar Mfresh Mtape Mtaped Mpos Mtoken MtokenAt Mvalue Mwrong MwrongAt MfaultKind MfaultPlace Mthing Morder Mone Mtwo Mbest Mcells Mgap Mwire Mstand Mruns Mminute Mhead Mplays Mrests Mwent Mout Mcame Mgone MlastOut) H locs ∧ lv_has ls 5 [(0, .ref (oM 0)), (1, .int (zI v)), (2, .int (zI (x9.1))), (3, .int (zI (x9.2)))]) (0, 0) ⟨hv_1, hv_2, hv_3, hv_4, hw, lv_sub hl [2, 3, 1, 0] rfl⟩ ?_
  clear hw hl
  intro x9 H locs ls hI ih_5
  obtain ⟨seen_6, i_7⟩ := x9
  try dsimp only at hI
  obtain ⟨hI_8, hI_9, hI_10, hI_11, hw, hl⟩ := hI
  refine lv_iload_n hx hb dX8_lay_9 rfl (lv_at hl 3 rfl) ?_
  refine lv_aload_n hx hb dX8_lay_10 rfl (lv_at hl 0 rfl) ?_
  refine va_get (D := D) (ci := 8) (v := .int (zI Mmany)) (C := RX8) (T := TX8) (N := 36) hx hb hts hinX8 hown hK hw.1 0 rfl rfl 1 (by decide) (hts (.fieldLink RX8 72 "CarnivalRoadModel" "many" "I") (by decide +kernel)) (fun _ h9 => h9) rfl dX8_lay_11 ?_
  refine z_icmp_ge (tgt := 61) hx hb dX8_lay_14 (by decide) (by omega) (fun hc_12 => ?_) (fun hc_12 => ?_)
  · skip
    refine z_iconst hx hb dX8_lay_61 ?_
    refine lv_istore_n (lv' := [(3, .int (zI 0)), (0, .ref (oM 0)), (1, .int (zI v)), (2, .int (zI seen_6))]) hx hb dX8_lay_62 rfl hl (by decide) rfl (fun ls hl => ?_)
    have hly := lay_all (by assumption : layQ (0 : Int) Mmany v) (show (0 : Int) = Mmany by omega)
    have hv_13 : 0 ≤ (0 : Int) ∧ (0 : Int) ≤ Mmany := by
      first | assumption | omega | grind
    have hv_14 : ∀ k, 0 ≤ k → k < (0 : Int) → Mrow k = nib v k := by
      exact all_0
    refine z_loop (σ := Int × (Int → Int)) (μ := fun x9 => (9 - (x9.1)).toNat) (I := fun x9 H locs ls => (RA (x9.2) (0) 7) ∧ (0 ≤ (x9.1) ∧ (x9.1) ≤ Mmany) ∧ (∀ k, 0 ≤ k → k < (x9.1) → (x9.2) k = nib v k) ∧ HW D A s.heap (kM cI cB cZ oM 0 Mmany Mguest (x9.2) Mbars Mbar Mfresh Mtape Mtaped Mpos Mtoken MtokenAt Mvalue Mwrong MwrongAt MfaultKind MfaultPlace Mthing Morder Mone Mtwo Mbest Mcells Mgap Mwire Mstand Mruns Mminute Mhead Mplays Mrests Mwent Mout Mcame Mgone MlastOut) H locs ∧ lv_has ls 5 [(0, .ref (oM 0)), (1, .int (zI v)), (3, .int (zI (x9.1)))]) (0, Mrow) ⟨qMrow, hv_13, hv_14, hw, lv_sub hl [1, 2, 0] rfl⟩ ?_
    clear hw hl
    intro x9 H locs ls hI ih_15
    obtain ⟨i_16, Mrow_17⟩ := x9
    try dsimp only at hI
    obtain ⟨hR_18, hI_19, hI_20, hw, hl⟩ := hI
    refine lv_iload_n hx hb dX8_lay_63 rfl (lv_at hl 2 rfl) ?_
    refine lv_aload_n hx hb dX8_lay_64 rfl (lv_at hl 0 rfl) ?_
    refine va_get (D := D) (ci := 8) (v := .int (zI Mmany)) (C := RX8) (T := TX8) (N := 36) hx hb hts hinX8 hown hK hw.1 0 rfl rfl 1 (by decide) (hts (.fieldLink RX8 72 "CarnivalRoadModel" "many" "I") (by decide +kernel)) (fun _ h9 => h9) rfl dX8_lay_65 ?_
    refine z_icmp_ge (tgt := 91) hx hb dX8_lay_68 (by decide) (by omega) (fun hc_21 => ?_) (fun hc_21 => ?_)
    · skip
      refine lv_aload_n hx hb dX8_lay_91 rfl (lv_at hl 0 rfl) ?_
      refine z_iconst hx hb dX8_lay_92 ?_
      refine z_put (D := D) (ci := 8) (v := .int (zI 0)) (ty := .boolean) (C := RX8) (T := TX8) (N := 36) (ws2 := kM cI cB cZ oM 0 Mmany Mguest Mrow_17 Mbars Mbar Mfresh Mtape Mtaped Mpos Mtoken MtokenAt Mvalue Mwrong MwrongAt MfaultKind MfaultPlace Mthing Morder Mone Mtwo Mbest Mcells Mgap Mwire Mstand 0 Mminute Mhead Mplays Mrests Mwent Mout Mcame Mgone MlastOut) hx hb hts hinX8 tyX8 tyX8_ok nmX8 hown hK hw 0 rfl rfl 26 (by decide) (hts (.fieldLink RX8 79 "CarnivalRoadModel" "runs" "Z") (by decide +kernel)) (fun _ h9 => h9) rfl (by decide +kernel) rfl rfl (Nat.le_of_ble_eq_true rfl) dX8_lay_93 rfl (fun H locs hw => ?_)
      refine z_iconst hx hb dX8_lay_96 ?_
      have hv_22 : (0 : Int) ≤ (0 : Int) ∧ (0 : Int) ≤ 2 := by
        first | assumption | omega | grind
      have hv_23 : (0 : Int) ≤ (0 : Int) ∧ (0 : Int) ≤ 1 := by
        first | assumption | omega | grind
      have hv_24 : (layP Mmany v ∧ (1 : Int) = 1 ∧ (0 : Int) = 0 ∧ ∀ k, 0 ≤ k → k < Mmany → Mrow_17 k = nib v k) ∨ (¬ layP Mmany v ∧ (1 : Int) = 0 ∧ Mrow_17 = Mrow ∧ (0 : Int) = Mruns) := by
        exact Or.inl ⟨hly, rfl, rfl, all_le (by assumption) (by omega)⟩
      have hv_25 : (0 : Int) = 0 := by
        rfl
      exact W.zret (v := zI 1) hx hb hr rfl (fun t9 ht hW => ⟨⟨zI 1, (1, 0, Mrow_17, 0), rfl, ⟨rfl, ⟨hv_22, hR_18, hv_23, hv_24, hv_25⟩⟩, by subst hAe; exact z_end hK hw ht hW⟩, by subst hAe; exact hw.2.2.F ht⟩) (by subst hAe; exact hw.2.2.2.2) dX8_lay_97
    · skip
      refine lv_aload_n hx hb dX8_lay_71 rfl (lv_at hl 0 rfl) ?_
      refine va_get (D := D) (ci := 8) (v := .ref (oM 2)) (C := RX8) (T := TX8) (N := 36) hx hb hts hinX8 hown hK hw.1 0 rfl rfl 3 (by decide) (hts (.fieldLink RX8 13 "CarnivalRoadModel" "row" "[I") (by decide +kernel)) (fun _ h9 => h9) rfl dX8_lay_72 ?_
      refine lv_iload_n hx hb dX8_lay_75 rfl (lv_at hl 2 rfl) ?_
      refine lv_iload_n hx hb dX8_lay_76 rfl (lv_at hl 1 rfl) ?_
      refine z_iconst hx hb dX8_lay_77 ?_
      refine lv_iload_n hx hb dX8_lay_78 rfl (lv_at hl 2 rfl) ?_
      refine z_imul hx hb dX8_lay_79 ?_
      have hbit_26 : zI v >>> (zI (4 * i_16) &&& 31) = zI (shrF v (4 * i_16)) := by
        exact z_ishr (by omega) (by omega)
      refine lv_ishr hx hb dX8_lay_80 ?_
      rw [hbit_26]
      clear hbit_26
      refine z_bipush hx hb dX8_lay_81 (by decide) ?_
      have hbit_27 : zI (shrF v (4 * i_16)) &&& zI 15 = zI (nib v i_16) := by
        rw [z_15]; rfl
      refine lv_iand hx hb dX8_lay_83 ?_
      rw [hbit_27]
      clear hbit_27
      have hq_28 : 0 ≤ nib v i_16 ∧ nib v i_16 ≤ 15 := by
        exact nib_r
      have hi_29 : (0 : Int) ≤ i_16 ∧ i_16 < ((8 : Nat) : Int) := by
        first | assumption | omega | grind
      have hv_30 : (0 : Int) ≤ (nib v i_16) ∧ (nib v i_16) ≤ 7 := by
        have q := hly.1 i_16 (by omega) (by omega)
        omega
      have hR_31 : RA (uZ Mrow_17 i_16 (nib v i_16)) (0) 7 := RA_up hR_18 hv_30
      refine z_iast (n := 8) (f := Mrow_17) (ws2 := kM cI cB cZ oM 0 Mmany Mguest (uZ Mrow_17 i_16 (nib v i_16)) Mbars Mbar Mfresh Mtape Mtaped Mpos Mtoken MtokenAt Mvalue Mwrong MwrongAt MfaultKind MfaultPlace Mthing Morder Mone Mtwo Mbest Mcells Mgap Mwire Mstand Mruns Mminute Mhead Mplays Mrests Mwent Mout Mcame Mgone MlastOut) hx hb hK hw 2 rfl (by decide) hi_29 dX8_lay_84 rfl (fun H locs hw => ?_)
      refine z_iinc (k := 2) (lv' := [(3, .int (zI (i_16 + 1))), (0, .ref (oM 0)), (1, .int (zI v))]) hx hb dX8_lay_85 hl rfl (by decide) rfl (fun ls hl => ?_)
      refine lv_goto (tgt := 63) hx hb dX8_lay_88 (by decide) ?_
      have hv_32 : 0 ≤ (i_16 + 1) ∧ (i_16 + 1) ≤ Mmany := by
        first | assumption | omega | grind
      have hv_33 : ∀ k, 0 ≤ k → k < (i_16 + 1) → (uZ Mrow_17 i_16 (nib v i_16)) k = nib v k := by
        refine all_s (fun k k0 k1 => ?_) uZ_s
        rw [uZ_n (by omega)]
        revert k1
        revert k0
        revert k
        assumption
      have hm_34 : (9 - (i_16 + 1)).toNat < (9 - i_16).toNat := by
        first | assumption | omega | grind
      exact ih_15 ((i_16 + 1), (uZ Mrow_17 i_16 (nib v i_16))) _ _ _ ⟨hR_31, hv_32, hv_33, hw, lv_sub hl [1, 2, 0] rfl⟩ hm_34
  · skip
    refine lv_iload_n hx hb dX8_lay_17 rfl (lv_at hl 1 rfl) ?_
    refine z_iconst hx hb dX8_lay_18 ?_
    refine lv_iload_n hx hb dX8_lay_19 rfl (lv_at hl 3 rfl) ?_
    refine z_imul hx hb dX8_lay_20 ?_
    have hbit_35 : zI v >>> (zI (4 * i_7) &&& 31) = zI (shrF v (4 * i_7)) := by
      exact z_ishr (by omega) (by omega)
    refine lv_ishr hx hb dX8_lay_21 ?_
    rw [hbit_35]
    clear hbit_35
    refine z_bipush hx hb dX8_lay_22 (by decide) ?_
    have hbit_36 : zI (shrF v (4 * i_7)) &&& zI 15 = zI (nib v i_7) := by
      rw [z_15]; rfl
    refine lv_iand hx hb dX8_lay_24 ?_
    rw [hbit_36]
    clear hbit_36
    have hq_37 : 0 ≤ nib v i_7 ∧ nib v i_7 ≤ 15 := by
      exact nib_r
    refine lv_istore (lv' := [(4, .int (zI (nib v i_7))), (0, .ref (oM 0)), (1, .int (zI v)), (2, .int (zI seen_6)), (3, .int (zI i_7))]) hx hb dX8_lay_25 hl (by decide) rfl (fun ls hl => ?_)
    refine lv_iload hx hb dX8_lay_27 (lv_at hl 0 rfl) ?_
    refine lv_aload_n hx hb dX8_lay_29 rfl (lv_at hl 1 rfl) ?_
    refine va_get (D := D) (ci := 8) (v := .int (zI Mmany)) (C := RX8) (T := TX8) (N := 36) hx hb hts hinX8 hown hK hw.1 0 rfl rfl 1 (by decide) (hts (.fieldLink RX8 72 "CarnivalRoadModel" "many" "I") (by decide +kernel)) (fun _ h9 => h9) rfl dX8_lay_30 ?_
    refine z_icmp_ge (tgt := 46) hx hb dX8_lay_33 (by decide) (by omega) (fun hc_38 => ?_) (fun hc_38 => ?_)
    · skip
      refine z_iconst hx hb dX8_lay_46 ?_
      have hv_39 : (0 : Int) ≤ (0 : Int) ∧ (0 : Int) ≤ 2 := by
        first | assumption | omega | grind
      have hv_40 : (0 : Int) ≤ Mruns ∧ Mruns ≤ 1 := by
        first | assumption | omega | grind
      have hv_41 : (layP Mmany v ∧ (0 : Int) = 1 ∧ Mruns = 0 ∧ ∀ k, 0 ≤ k → k < Mmany → Mrow k = nib v k) ∨ (¬ layP Mmany v ∧ (0 : Int) = 0 ∧ Mrow = Mrow ∧ Mruns = Mruns) := by
        refine Or.inr ⟨fun q => ?_, rfl, rfl, rfl⟩
        have q1 := q.1 i_7 (by omega) (by omega)
        first | omega | exact lay_dup (by assumption) q (by omega) (by rw [← mb_shr]; omega)
      have hv_42 : (0 : Int) = 0 := by
        rfl
      exact W.zret (v := zI 0) hx hb hr rfl (fun t9 ht hW => ⟨⟨zI 0, (0, 0, Mrow, Mruns), rfl, ⟨rfl, ⟨hv_39, qMrow, hv_40, hv_41, hv_42⟩⟩, by subst hAe; exact z_end hK hw ht hW⟩, by subst hAe; exact hw.2.2.F ht⟩) (by subst hAe; exact hw.2.2.2.2) dX8_lay_47
    · skip
      refine lv_iload_n hx hb dX8_lay_36 rfl (lv_at hl 3 rfl) ?_
      refine lv_iload hx hb dX8_lay_37 (lv_at hl 0 rfl) ?_
      have hbit_43 : zI seen_6 >>> (zI (nib v i_7) &&& 31) = zI ((seen_6.toNat / 2 ^ ((nib v i_7) : Int).toNat : Nat) : Int) := by
        exact z_shr (by omega) (by omega)
      refine lv_ishr hx hb dX8_lay_39 ?_
      rw [hbit_43]
      clear hbit_43
      have hq_44 : 0 ≤ ((seen_6.toNat / 2 ^ ((nib v i_7) : Int).toNat : Nat) : Int) ∧ ((seen_6.toNat / 2 ^ ((nib v i_7) : Int).toNat : Nat) : Int) ≤ 255 := by
        exact shr_r (by omega)
      refine z_iconst hx hb dX8_lay_40 ?_
      have hbit_45 : zI ((seen_6.toNat / 2 ^ ((nib v i_7) : Int).toNat : Nat) : Int) &&& zI 1 = zI (((seen_6.toNat / 2 ^ ((nib v i_7) : Int).toNat : Nat) : Int) % 2) := by
        exact z_and1 (by omega)
      refine lv_iand hx hb dX8_lay_41 ?_
      rw [hbit_45]
      clear hbit_45
      refine z_iconst hx hb dX8_lay_42 ?_
      refine z_icmp_ne (tgt := 48) hx hb dX8_lay_43 (by decide) (by omega) (fun hc_46 => ?_) (fun hc_46 => ?_)
      · skip
        refine lv_iload_n hx hb dX8_lay_48 rfl (lv_at hl 3 rfl) ?_
        refine z_iconst hx hb dX8_lay_49 ?_
        refine lv_iload hx hb dX8_lay_50 (lv_at hl 0 rfl) ?_
        have hbit_47 : zI 1 <<< (zI (nib v i_7) &&& 31) = zI (sBit (nib v i_7)) := by
          exact z_shl1 (by omega)
        refine lv_ishl hx hb dX8_lay_52 ?_
        rw [hbit_47]
        clear hbit_47
        have hq_48 : 0 ≤ (sBit (nib v i_7)) ∧ (sBit (nib v i_7)) ≤ 255 := by
          exact sBit_r (by omega)
        have hbit_49 : zI seen_6 ||| zI (sBit (nib v i_7)) = zI (sOr seen_6 (sBit (nib v i_7))) := by
          exact z_or (by omega) (by omega)
        refine lv_ior hx hb dX8_lay_53 ?_
        rw [hbit_49]
        clear hbit_49
        have hq_50 : 0 ≤ (sOr seen_6 (sBit (nib v i_7))) ∧ (sOr seen_6 (sBit (nib v i_7))) ≤ 255 := by
          exact sOr_r (by omega) (by omega)
        refine lv_istore_n (lv' := [(2, .int (zI (sOr seen_6 (sBit (nib v i_7))))), (4, .int (zI (nib v i_7))), (0, .ref (oM 0)), (1, .int (zI v)), (3, .int (zI i_7))]) hx hb dX8_lay_54 rfl hl (by decide) rfl (fun ls hl => ?_)
        refine z_iinc (k := 4) (lv' := [(3, .int (zI (i_7 + 1))), (2, .int (zI (sOr seen_6 (sBit (nib v i_7))))), (4, .int (zI (nib v i_7))), (0, .ref (oM 0)), (1, .int (zI v))]) hx hb dX8_lay_55 hl rfl (by decide) rfl (fun ls hl => ?_)
        refine lv_goto (tgt := 9) hx hb dX8_lay_58 (by decide) ?_
        have hv_51 : 0 ≤ (i_7 + 1) ∧ (i_7 + 1) ≤ Mmany := by
          first | assumption | omega | grind
        have hv_52 : 0 ≤ (sOr seen_6 (sBit (nib v i_7))) ∧ (sOr seen_6 (sBit (nib v i_7))) ≤ 255 := by
          first | assumption | omega | grind
        have hv_53 : ∀ j, 0 ≤ j → j ≤ 15 → (mb (sOr seen_6 (sBit (nib v i_7))) j ↔ ∃ k, 0 ≤ k ∧ k < (i_7 + 1) ∧ nib v k = j) := by
          exact lay_next (n := Mmany) (by assumption) (by omega)
        have hv_54 : layQ (i_7 + 1) Mmany v := by
          exact lay_grow (by assumption) (by assumption) (by omega) (by rw [← mb_shr]; omega)
        have hm_55 : (9 - (i_7 + 1)).toNat < (9 - i_7).toNat := by
          first | assumption | omega | grind
        exact ih_5 ((sOr seen_6 (sBit (nib v i_7))), (i_7 + 1)) _ _ _ ⟨hv_51, hv_52, hv_53, hv_54, hw, lv_sub hl [3, 4, 1, 0] rfl⟩ hm_55
      · skip
        refine z_iconst hx hb dX8_lay_46 ?_
        have hv_56 : (0 : Int) ≤ (0 : Int) ∧ (0 : Int) ≤ 2 := by
          first | assumption | omega | grind
        have hv_57 : (0 : Int) ≤ Mruns ∧ Mruns ≤ 1 := by
          first | assumption | omega | grind
        have hv_58 : (layP Mmany v ∧ (0 : Int) = 1 ∧ Mruns = 0 ∧ ∀ k, 0 ≤ k → k < Mmany → Mrow k = nib v k) ∨ (¬ layP Mmany v ∧ (0 : Int) = 0 ∧ Mrow = Mrow ∧ Mruns = Mruns) := by
          refine Or.inr ⟨fun q => ?_, rfl, rfl, rfl⟩
          have q1 := q.1 i_7 (by omega) (by omega)
          first | omega | exact lay_dup (by assumption) q (by omega) (by rw [← mb_shr]; omega)
        have hv_59 : (0 : Int) = 0 := by
          rfl
        exact W.zret (v := zI 0) hx hb hr rfl (fun t9 ht hW => ⟨⟨zI 0, (0, 0, Mrow, Mruns), rfl, ⟨rfl, ⟨hv_56, qMrow, hv_57, hv_58, hv_59⟩⟩, by subst hAe; exact z_end hK hw ht hW⟩, by subst hAe; exact hw.2.2.F ht⟩) (by subst hAe; exact hw.2.2.2.2) dX8_lay_47
set_option maxRecDepth 100000 in
set_option maxHeartbeats 4000000 in
theorem c_X8_clear (l : Launch) (D : va_G) (cI cB cZ : ClassId) (oM : Nat → Nat) (sz : Nat) (Mthrown : Int) (Mmany : Int) (Mguest : Int → Int) (Mrow : Int → Int) (Mbars : Int) (Mbar : Int → Int) (Mfresh : Int → Int) (Mtape : Int → Int) (Mtaped : Int) (Mpos : Int) (Mtoken : Int) (MtokenAt : Int) (Mvalue : Int) (Mwrong : Int) (MwrongAt : Int) (MfaultKind : Int) (MfaultPlace : Int) (Mthing : Int) (Morder : Int → Int) (Mone : Int) (Mtwo : Int) (Mbest : Int → Int) (Mcells : Int) (Mgap : Int) (Mwire : Int → Int) (Mstand : Int → Int) (Mruns : Int) (Mminute : Int) (Mhead : Int → Int) (Mplays : Int → Int) (Mrests : Int → Int) (Mwent : Int → Int) (Mout : Int → Int) (Mcame : Int → Int) (Mgone : Int → Int) (MlastOut : Int) (g : Int) (qMthrown : 0 ≤ Mthrown ∧ Mthrown ≤ 2) (qMmany : 0 ≤ Mmany ∧ Mmany ≤ 8) (qMguest : RA Mguest (0) 9) (qMrow : RA Mrow (0) 7) (qMbars : 0 ≤ Mbars ∧ Mbars ≤ 10) (qMbar : RA Mbar (0) 104) (qMfresh : RA Mfresh (0) 104) (qMtape : RA Mtape (0) 255) (qMtaped : 0 ≤ Mtaped ∧ Mtaped ≤ 400) (qMpos : 0 ≤ Mpos ∧ Mpos ≤ 400) (qMtoken : 0 ≤ Mtoken ∧ Mtoken ≤ 15) (qMtokenAt : 0 ≤ MtokenAt ∧ MtokenAt ≤ 400) (qMvalue : 0 ≤ Mvalue ∧ Mvalue ≤ 99) (qMwrong : 0 ≤ Mwrong ∧ Mwrong ≤ 3) (qMwrongAt : 0 ≤ MwrongAt ∧ MwrongAt ≤ 400) (qMfaultKind : 0 ≤ MfaultKind ∧ MfaultKind ≤ 3) (qMfaultPlace : -1 ≤ MfaultPlace ∧ MfaultPlace ≤ 400) (qMthing : 0 ≤ Mthing ∧ Mthing ≤ 104) (qMorder : RA Morder (0) 7) (qMone : 0 ≤ Mone ∧ Mone ≤ 8) (qMtwo : 0 ≤ Mtwo ∧ Mtwo ≤ 8) (qMbest : RA Mbest (0) 7) (qMcells : 1 ≤ Mcells ∧ Mcells ≤ 50) (qMgap : 0 ≤ Mgap ∧ Mgap ≤ 3) (qMwire : RA Mwire (0) 9) (qMstand : RA Mstand (0) 9) (qMruns : 0 ≤ Mruns ∧ Mruns ≤ 1) (qMminute : 0 ≤ Mminute ∧ Mminute ≤ 1000000) (qMhead : RA Mhead (-1) 60) (qMplays : RA Mplays (0) 18) (qMrests : RA Mrests (0) 3) (qMwent : RA Mwent (0) 61) (qMout : RA Mout (0) 1) (qMcame : RA Mcame (-1) 1000000) (qMgone : RA Mgone (-1) 1000000) (qMlastOut : 0 ≤ MlastOut ∧ MlastOut ≤ 1000000) (qg : 0 ≤ g ∧ g ≤ 15) : Met l yX8_clear wsX8_clear ({ frames := 0, cells := 0, slots := 0, locals := 0 }) (va_Pc [.ref (oM 0), .int (zI g)] (zPre D cI cB cZ sz (kM cI cB cZ oM Mthrown Mmany Mguest Mrow Mbars Mbar Mfresh Mtape Mtaped Mpos Mtoken MtokenAt Mvalue Mwrong MwrongAt MfaultKind MfaultPlace Mthing Morder Mone Mtwo Mbest Mcells Mgap Mwire Mstand Mruns Mminute Mhead Mplays Mrests Mwent Mout Mcame Mgone MlastOut))) (va_Qv (fun (u9 : (Int → Int) × (Int → Int) × (Int → Int) × (Int → Int) × (Int → Int)) => (RA u9.1 (-1) 60) ∧ (RA u9.2.1 (0) 18) ∧ (RA u9.2.2.1 (0) 3) ∧ (RA u9.2.2.2.1 (0) 61) ∧ (RA u9.2.2.2.2 (0) 1) ∧ (u9.1 = uZ Mhead g (-1)) ∧ (u9.2.1 = uZ Mplays g 0) ∧ (u9.2.2.1 = uZ Mrests g 0) ∧ (u9.2.2.2.1 = uZ Mwent g 0) ∧ (u9.2.2.2.2 = uZ Mout g 0)) (fun u9 t9 => zAt D cI cB cZ (va_A (kM cI cB cZ oM Mthrown Mmany Mguest Mrow Mbars Mbar Mfresh Mtape Mtaped Mpos Mtoken MtokenAt Mvalue Mwrong MwrongAt MfaultKind MfaultPlace Mthing Morder Mone Mtwo Mbest Mcells Mgap Mwire Mstand Mruns Mminute Mhead Mplays Mrests Mwent Mout Mcame Mgone MlastOut) sz) (kM cI cB cZ oM Mthrown Mmany Mguest Mrow Mbars Mbar Mfresh Mtape Mtaped Mpos Mtoken MtokenAt Mvalue Mwrong MwrongAt MfaultKind MfaultPlace Mthing Morder Mone Mtwo Mbest Mcells Mgap Mwire Mstand Mruns Mminute (u9.1) (u9.2.1) (u9.2.2.1) (u9.2.2.2.1) (u9.2.2.2.2) Mcame Mgone MlastOut) t9) (va_A (kM cI cB cZ oM Mthrown Mmany Mguest Mrow Mbars Mbar Mfresh Mtape Mtaped Mpos Mtoken MtokenAt Mvalue Mwrong MwrongAt MfaultKind MfaultPlace Mthing Morder Mone Mtwo Mbest Mcells Mgap Mwire Mstand Mruns Mminute Mhead Mplays Mrests Mwent Mout Mcame Mgone MlastOut) sz)) 0 0 (va_A (kM cI cB cZ oM Mthrown Mmany Mguest Mrow Mbars Mbar Mfresh Mtape Mtaped Mpos Mtoken MtokenAt Mvalue Mwrong MwrongAt MfaultKind MfaultPlace Mthing Morder Mone Mtwo Mbest Mcells Mgap Mwire Mstand Mruns Mminute Mhead Mplays Mrests Mwent Mout Mcame Mgone MlastOut) sz) := by
  refine Met.ofW (cc := cX8_clear) (maxL := 2) (ret := none) (by decide) rfl ?_
  intro pp ee s mm aa bw mt cd s₁ BL hml hv
  obtain ⟨rfl, hsz, hP, hK, hD0⟩ := hv
  have hx := BL.exec
  have hb := BL.bytes
  have hr := BL.returns
  have hts := atoms_spec (ws := wsX8_clear) BL.pre
  have hown : s.vm.findClass RX8 = some mm.cls := findClass_of_methodNamed BL.named
  have hlocks := BL.notSynchronized
  subst hsz
  generalize hAe : va_A (kM cI cB cZ oM Mthrown Mmany Mguest Mrow Mbars Mbar Mfresh Mtape Mtaped Mpos Mtoken MtokenAt Mvalue Mwrong MwrongAt MfaultKind MfaultPlace Mthing Morder Mone Mtwo Mbest Mcells Mgap Mwire Mstand Mruns Mminute Mhead Mplays Mrests Mwent Mout Mcame Mgone MlastOut) s.heap.size = A
  have hA : ∀ q : Nat, s.heap.size ≤ q → A q := fun q h => by rw [← hAe]; exact Or.inr h
  have hw : HW D A s.heap (kM cI cB cZ oM Mthrown Mmany Mguest Mrow Mbars Mbar Mfresh Mtape Mtaped Mpos Mtoken MtokenAt Mvalue Mwrong MwrongAt MfaultKind MfaultPlace Mthing Morder Mone Mtwo Mbest Mcells Mgap Mwire Mstand Mruns Mminute Mhead Mplays Mrests Mwent Mout Mcame Mgone MlastOut) s.heap [] := z_start hAe hP hD0
  clear hP hD0
  have hl := lv_entry ([.ref (oM 0), .int (zI g)]) (n := 2) (Nat.le_of_ble_eq_true rfl)
  rw [lg_entry_eq]
  generalize (lg_sl ([.ref (oM 0), .int (zI g)]) ++ List.replicate (2 - (lg_sl ([.ref (oM 0), .int (zI g)])).length) Slot.unset).toArray = ls at hl ⊢
  have hl : lv_has ls 2 [(0, .ref (oM 0)), (1, .int (zI g))] := hl
  have hinX8 : ∀ w ∈ wsX80, w ∈ wsX8_clear := by decide +kernel
  refine lv_aload_n hx hb dX8_clear_0 rfl (lv_at hl 0 rfl) ?_
  refine va_get (D := D) (ci := 8) (v := .ref (oM 10)) (C := RX8) (T := TX8) (N := 36) hx hb hts hinX8 hown hK hw.1 0 rfl rfl 28 (by decide) (hts (.fieldLink RX8 47 "CarnivalRoadModel" "head" "[I") (by decide +kernel)) (fun _ h9 => h9) rfl dX8_clear_1 ?_
  refine lv_iload_n hx hb dX8_clear_4 rfl (lv_at hl 1 rfl) ?_
  refine z_iconst hx hb dX8_clear_5 ?_
  have hi_1 : (0 : Int) ≤ g ∧ g < ((16 : Nat) : Int) := by
    first | rfl | omega
  have hv_2 : (-1 : Int) ≤ (-1 : Int) ∧ (-1 : Int) ≤ 60 := by
    first | rfl | omega
  have hR_3 : RA (uZ Mhead g (-1)) (-1) 60 := RA_up qMhead hv_2
  refine z_iast (n := 16) (f := Mhead) (ws2 := kM cI cB cZ oM Mthrown Mmany Mguest Mrow Mbars Mbar Mfresh Mtape Mtaped Mpos Mtoken MtokenAt Mvalue Mwrong MwrongAt MfaultKind MfaultPlace Mthing Morder Mone Mtwo Mbest Mcells Mgap Mwire Mstand Mruns Mminute (uZ Mhead g (-1)) Mplays Mrests Mwent Mout Mcame Mgone MlastOut) hx hb hK hw 10 rfl (by decide) hi_1 dX8_clear_6 rfl (fun H locs hw => ?_)
  refine lv_aload_n hx hb dX8_clear_7 rfl (lv_at hl 0 rfl) ?_
  refine va_get (D := D) (ci := 8) (v := .ref (oM 11)) (C := RX8) (T := TX8) (N := 36) hx hb hts hinX8 hown hK hw.1 0 rfl rfl 29 (by decide) (hts (.fieldLink RX8 50 "CarnivalRoadModel" "plays" "[I") (by decide +kernel)) (fun _ h9 => h9) rfl dX8_clear_8 ?_
  refine lv_iload_n hx hb dX8_clear_11 rfl (lv_at hl 1 rfl) ?_
  refine z_iconst hx hb dX8_clear_12 ?_
  have hi_4 : (0 : Int) ≤ g ∧ g < ((16 : Nat) : Int) := by
    first | rfl | omega
  have hv_5 : (0 : Int) ≤ (0 : Int) ∧ (0 : Int) ≤ 18 := by
    first | rfl | omega
  have hR_6 : RA (uZ Mplays g 0) (0) 18 := RA_up qMplays hv_5
  refine z_iast (n := 16) (f := Mplays) (ws2 := kM cI cB cZ oM Mthrown Mmany Mguest Mrow Mbars Mbar Mfresh Mtape Mtaped Mpos Mtoken MtokenAt Mvalue Mwrong MwrongAt MfaultKind MfaultPlace Mthing Morder Mone Mtwo Mbest Mcells Mgap Mwire Mstand Mruns Mminute (uZ Mhead g (-1)) (uZ Mplays g 0) Mrests Mwent Mout Mcame Mgone MlastOut) hx hb hK hw 11 rfl (by decide) hi_4 dX8_clear_13 rfl (fun H locs hw => ?_)
  refine lv_aload_n hx hb dX8_clear_14 rfl (lv_at hl 0 rfl) ?_
  refine va_get (D := D) (ci := 8) (v := .ref (oM 12)) (C := RX8) (T := TX8) (N := 36) hx hb hts hinX8 hown hK hw.1 0 rfl rfl 30 (by decide) (hts (.fieldLink RX8 53 "CarnivalRoadModel" "rests" "[I") (by decide +kernel)) (fun _ h9 => h9) rfl dX8_clear_15 ?_
  refine lv_iload_n hx hb dX8_clear_18 rfl (lv_at hl 1 rfl) ?_
  refine z_iconst hx hb dX8_clear_19 ?_
  have hi_7 : (0 : Int) ≤ g ∧ g < ((16 : Nat) : Int) := by
    first | rfl | omega
  have hv_8 : (0 : Int) ≤ (0 : Int) ∧ (0 : Int) ≤ 3 := by
    first | rfl | omega
  have hR_9 : RA (uZ Mrests g 0) (0) 3 := RA_up qMrests hv_8
  refine z_iast (n := 16) (f := Mrests) (ws2 := kM cI cB cZ oM Mthrown Mmany Mguest Mrow Mbars Mbar Mfresh Mtape Mtaped Mpos Mtoken MtokenAt Mvalue Mwrong MwrongAt MfaultKind MfaultPlace Mthing Morder Mone Mtwo Mbest Mcells Mgap Mwire Mstand Mruns Mminute (uZ Mhead g (-1)) (uZ Mplays g 0) (uZ Mrests g 0) Mwent Mout Mcame Mgone MlastOut) hx hb hK hw 12 rfl (by decide) hi_7 dX8_clear_20 rfl (fun H locs hw => ?_)
  refine lv_aload_n hx hb dX8_clear_21 rfl (lv_at hl 0 rfl) ?_
  refine va_get (D := D) (ci := 8) (v := .ref (oM 13)) (C := RX8) (T := TX8) (N := 36) hx hb hts hinX8 hown hK hw.1 0 rfl rfl 31 (by decide) (hts (.fieldLink RX8 56 "CarnivalRoadModel" "went" "[I") (by decide +kernel)) (fun _ h9 => h9) rfl dX8_clear_22 ?_
  refine lv_iload_n hx hb dX8_clear_25 rfl (lv_at hl 1 rfl) ?_
  refine z_iconst hx hb dX8_clear_26 ?_
  have hi_10 : (0 : Int) ≤ g ∧ g < ((16 : Nat) : Int) := by
    first | rfl | omega
  have hv_11 : (0 : Int) ≤ (0 : Int) ∧ (0 : Int) ≤ 61 := by
    first | rfl | omega
  have hR_12 : RA (uZ Mwent g 0) (0) 61 := RA_up qMwent hv_11
  refine z_iast (n := 16) (f := Mwent) (ws2 := kM cI cB cZ oM Mthrown Mmany Mguest Mrow Mbars Mbar Mfresh Mtape Mtaped Mpos Mtoken MtokenAt Mvalue Mwrong MwrongAt MfaultKind MfaultPlace Mthing Morder Mone Mtwo Mbest Mcells Mgap Mwire Mstand Mruns Mminute (uZ Mhead g (-1)) (uZ Mplays g 0) (uZ Mrests g 0) (uZ Mwent g 0) Mout Mcame Mgone MlastOut) hx hb hK hw 13 rfl (by decide) hi_10 dX8_clear_27 rfl (fun H locs hw => ?_)
  refine lv_aload_n hx hb dX8_clear_28 rfl (lv_at hl 0 rfl) ?_
  refine va_get (D := D) (ci := 8) (v := .ref (oM 14)) (C := RX8) (T := TX8) (N := 36) hx hb hts hinX8 hown hK hw.1 0 rfl rfl 32 (by decide) (hts (.fieldLink RX8 59 "CarnivalRoadModel" "out" "[Z") (by decide +kernel)) (fun _ h9 => h9) rfl dX8_clear_29 ?_
  refine lv_iload_n hx hb dX8_clear_32 rfl (lv_at hl 1 rfl) ?_
  refine z_iconst hx hb dX8_clear_33 ?_
  have hi_13 : (0 : Int) ≤ g ∧ g < ((16 : Nat) : Int) := by
    first | rfl | omega
  have hv_14 : (0 : Int) ≤ (0 : Int) ∧ (0 : Int) ≤ 1 := by
    first | rfl | omega
  have hR_15 : RA (uZ Mout g 0) (0) 1 := RA_up qMout hv_14
  refine z_zast (n := 16) (f := Mout) (ws2 := kM cI cB cZ oM Mthrown Mmany Mguest Mrow Mbars Mbar Mfresh Mtape Mtaped Mpos Mtoken MtokenAt Mvalue Mwrong MwrongAt MfaultKind MfaultPlace Mthing Morder Mone Mtwo Mbest Mcells Mgap Mwire Mstand Mruns Mminute (uZ Mhead g (-1)) (uZ Mplays g 0) (uZ Mrests g 0) (uZ Mwent g 0) (uZ Mout g 0) Mcame Mgone MlastOut) hx hb hK hw 14 rfl rfl (by decide) hi_13 dX8_clear_34 rfl (fun H locs hw => ?_)
  have hv_16 : (uZ Mhead g (-1)) = uZ Mhead g (-1) := by
    first | rfl | omega
  have hv_17 : (uZ Mplays g 0) = uZ Mplays g 0 := by
    first | rfl | omega
  have hv_18 : (uZ Mrests g 0) = uZ Mrests g 0 := by
    first | rfl | omega
  have hv_19 : (uZ Mwent g 0) = uZ Mwent g 0 := by
    first | rfl | omega
  have hv_20 : (uZ Mout g 0) = uZ Mout g 0 := by
    first | rfl | omega
  exact W.vret hx hb hr (fun t9 ht hW => ⟨⟨((uZ Mhead g (-1)), (uZ Mplays g 0), (uZ Mrests g 0), (uZ Mwent g 0), (uZ Mout g 0)), rfl, ⟨hR_3, hR_6, hR_9, hR_12, hR_15, hv_16, hv_17, hv_18, hv_19, hv_20⟩, by subst hAe; exact z_end hK hw ht hW⟩, by subst hAe; exact hw.2.2.F ht⟩) (by subst hAe; exact hw.2.2.2.2) dX8_clear_35
set_option maxRecDepth 100000 in
set_option maxHeartbeats 4000000 in
theorem c_X8_tail (l : Launch) (D : va_G) (cI cB cZ : ClassId) (oM : Nat → Nat) (sz : Nat) (Mthrown : Int) (Mmany : Int) (Mguest : Int → Int) (Mrow : Int → Int) (Mbars : Int) (Mbar : Int → Int) (Mfresh : Int → Int) (Mtape : Int → Int) (Mtaped : Int) (Mpos : Int) (Mtoken : Int) (MtokenAt : Int) (Mvalue : Int) (Mwrong : Int) (MwrongAt : Int) (MfaultKind : Int) (MfaultPlace : Int) (Mthing : Int) (Morder : Int → Int) (Mone : Int) (Mtwo : Int) (Mbest : Int → Int) (Mcells : Int) (Mgap : Int) (Mwire : Int → Int) (Mstand : Int → Int) (Mruns : Int) (Mminute : Int) (Mhead : Int → Int) (Mplays : Int → Int) (Mrests : Int → Int) (Mwent : Int → Int) (Mout : Int → Int) (Mcame : Int → Int) (Mgone : Int → Int) (MlastOut : Int) (b : Int) (g : Int) (qMthrown : 0 ≤ Mthrown ∧ Mthrown ≤ 2) (qMmany : 0 ≤ Mmany ∧ Mmany ≤ 8) (qMguest : RA Mguest (0) 9) (qMrow : RA Mrow (0) 7) (qMbars : 0 ≤ Mbars ∧ Mbars ≤ 10) (qMbar : RA Mbar (0) 104) (qMfresh : RA Mfresh (0) 104) (qMtape : RA Mtape (0) 255) (qMtaped : 0 ≤ Mtaped ∧ Mtaped ≤ 400) (qMpos : 0 ≤ Mpos ∧ Mpos ≤ 400) (qMtoken : 0 ≤ Mtoken ∧ Mtoken ≤ 15) (qMtokenAt : 0 ≤ MtokenAt ∧ MtokenAt ≤ 400) (qMvalue : 0 ≤ Mvalue ∧ Mvalue ≤ 99) (qMwrong : 0 ≤ Mwrong ∧ Mwrong ≤ 3) (qMwrongAt : 0 ≤ MwrongAt ∧ MwrongAt ≤ 400) (qMfaultKind : 0 ≤ MfaultKind ∧ MfaultKind ≤ 3) (qMfaultPlace : -1 ≤ MfaultPlace ∧ MfaultPlace ≤ 400) (qMthing : 0 ≤ Mthing ∧ Mthing ≤ 104) (qMorder : RA Morder (0) 7) (qMone : 0 ≤ Mone ∧ Mone ≤ 8) (qMtwo : 0 ≤ Mtwo ∧ Mtwo ≤ 8) (qMbest : RA Mbest (0) 7) (qMcells : 1 ≤ Mcells ∧ Mcells ≤ 50) (qMgap : 0 ≤ Mgap ∧ Mgap ≤ 3) (qMwire : RA Mwire (0) 9) (qMstand : RA Mstand (0) 9) (qMruns : 0 ≤ Mruns ∧ Mruns ≤ 1) (qMminute : 0 ≤ Mminute ∧ Mminute ≤ 1000000) (qMhead : RA Mhead (-1) 60) (qMplays : RA Mplays (0) 18) (qMrests : RA Mrests (0) 3) (qMwent : RA Mwent (0) 61) (qMout : RA Mout (0) 1) (qMcame : RA Mcame (-1) 1000000) (qMgone : RA Mgone (-1) 1000000) (qMlastOut : 0 ≤ MlastOut ∧ MlastOut ≤ 1000000) (qb : 0 ≤ b ∧ b ≤ 8) (qg : 0 ≤ g ∧ g ≤ 7) : Met l yX8_tail wsX8_tail ({ frames := 1, cells := 0, slots := 0, locals := 22 }) (va_Pc [.ref (oM 0), .int (zI b), .int (zI g)] (zPre D cI cB cZ sz (kM cI cB cZ oM Mthrown Mmany Mguest Mrow Mbars Mbar Mfresh Mtape Mtaped Mpos Mtoken MtokenAt Mvalue Mwrong MwrongAt MfaultKind MfaultPlace Mthing Morder Mone Mtwo Mbest Mcells Mgap Mwire Mstand Mruns Mminute Mhead Mplays Mrests Mwent Mout Mcame Mgone MlastOut))) (va_Qi (fun (r9 : Int32) (u9 : Int) => r9 = zI u9 ∧ ((u9 = Mhead (b + g) - Mguest (5 * g + 1) + 1) ∧ (-9 ≤ u9 ∧ u9 ≤ 61))) (fun u9 t9 => zAt D cI cB cZ (va_A (kM cI cB cZ oM Mthrown Mmany Mguest Mrow Mbars Mbar Mfresh Mtape Mtaped Mpos Mtoken MtokenAt Mvalue Mwrong MwrongAt MfaultKind MfaultPlace Mthing Morder Mone Mtwo Mbest Mcells Mgap Mwire Mstand Mruns Mminute Mhead Mplays Mrests Mwent Mout Mcame Mgone MlastOut) sz) (kM cI cB cZ oM Mthrown Mmany Mguest Mrow Mbars Mbar Mfresh Mtape Mtaped Mpos Mtoken MtokenAt Mvalue Mwrong MwrongAt MfaultKind MfaultPlace Mthing Morder Mone Mtwo Mbest Mcells Mgap Mwire Mstand Mruns Mminute Mhead Mplays Mrests Mwent Mout Mcame Mgone MlastOut) t9) (va_A (kM cI cB cZ oM Mthrown Mmany Mguest Mrow Mbars Mbar Mfresh Mtape Mtaped Mpos Mtoken MtokenAt Mvalue Mwrong MwrongAt MfaultKind MfaultPlace Mthing Morder Mone Mtwo Mbest Mcells Mgap Mwire Mstand Mruns Mminute Mhead Mplays Mrests Mwent Mout Mcame Mgone MlastOut) sz)) 0 0 (va_A (kM cI cB cZ oM Mthrown Mmany Mguest Mrow Mbars Mbar Mfresh Mtape Mtaped Mpos Mtoken MtokenAt Mvalue Mwrong MwrongAt MfaultKind MfaultPlace Mthing Morder Mone Mtwo Mbest Mcells Mgap Mwire Mstand Mruns Mminute Mhead Mplays Mrests Mwent Mout Mcame Mgone MlastOut) sz) := by
  refine Met.ofW (cc := cX8_tail) (maxL := 3) (ret := (some .int)) (by decide) rfl ?_
  intro pp ee s mm aa bw mt cd s₁ BL hml hv
  obtain ⟨rfl, hsz, hP, hK, hD0⟩ := hv
  have hx := BL.exec
  have hb := BL.bytes
  have hr := BL.returns
  have hts := atoms_spec (ws := wsX8_tail) BL.pre
  have hown : s.vm.findClass RX8 = some mm.cls := findClass_of_methodNamed BL.named
  have hlocks := BL.notSynchronized
  subst hsz
  generalize hAe : va_A (kM cI cB cZ oM Mthrown Mmany Mguest Mrow Mbars Mbar Mfresh Mtape Mtaped Mpos Mtoken MtokenAt Mvalue Mwrong MwrongAt MfaultKind MfaultPlace Mthing Morder Mone Mtwo Mbest Mcells Mgap Mwire Mstand Mruns Mminute Mhead Mplays Mrests Mwent Mout Mcame Mgone MlastOut) s.heap.size = A
  have hA : ∀ q : Nat, s.heap.size ≤ q → A q := fun q h => by rw [← hAe]; exact Or.inr h
  have hw : HW D A s.heap (kM cI cB cZ oM Mthrown Mmany Mguest Mrow Mbars Mbar Mfresh Mtape Mtaped Mpos Mtoken MtokenAt Mvalue Mwrong MwrongAt MfaultKind MfaultPlace Mthing Morder Mone Mtwo Mbest Mcells Mgap Mwire Mstand Mruns Mminute Mhead Mplays Mrests Mwent Mout Mcame Mgone MlastOut) s.heap [] := z_start hAe hP hD0
  clear hP hD0
  have hl := lv_entry ([.ref (oM 0), .int (zI b), .int (zI g)]) (n := 3) (Nat.le_of_ble_eq_true rfl)
  rw [lg_entry_eq]
  generalize (lg_sl ([.ref (oM 0), .int (zI b), .int (zI g)]) ++ List.replicate (3 - (lg_sl ([.ref (oM 0), .int (zI b), .int (zI g)])).length) Slot.unset).toArray = ls at hl ⊢
  have hl : lv_has ls 3 [(0, .ref (oM 0)), (1, .int (zI b)), (2, .int (zI g))] := hl
  have hinX8 : ∀ w ∈ wsX80, w ∈ wsX8_tail := by decide +kernel
  refine lv_aload_n hx hb dX8_tail_0 rfl (lv_at hl 0 rfl) ?_
  refine va_get (D := D) (ci := 8) (v := .ref (oM 10)) (C := RX8) (T := TX8) (N := 36) hx hb hts hinX8 hown hK hw.1 0 rfl rfl 28 (by decide) (hts (.fieldLink RX8 47 "CarnivalRoadModel" "head" "[I") (by decide +kernel)) (fun _ h9 => h9) rfl dX8_tail_1 ?_
  refine lv_iload_n hx hb dX8_tail_4 rfl (lv_at hl 1 rfl) ?_
  refine lv_iload_n hx hb dX8_tail_5 rfl (lv_at hl 2 rfl) ?_
  refine z_iadd hx hb dX8_tail_6 ?_
  have hi_1 : (0 : Int) ≤ (b + g) ∧ (b + g) < ((16 : Nat) : Int) := by
    first | rfl | omega
  refine z_iald (n := 16) (f := Mhead) hx hb hK hw 10 rfl (by decide) hi_1 dX8_tail_7 ?_
  have hq_2 : -1 ≤ Mhead (b + g) ∧ Mhead (b + g) ≤ 60 := qMhead (b + g)
  refine lv_aload_n hx hb dX8_tail_8 rfl (lv_at hl 0 rfl) ?_
  refine lv_iload_n hx hb dX8_tail_9 rfl (lv_at hl 2 rfl) ?_
  refine z_iconst hx hb dX8_tail_10 ?_
  have hF9 := z_free (wc := kM cI cB cZ oM Mthrown Mmany Mguest Mrow Mbars Mbar Mfresh Mtape Mtaped Mpos Mtoken MtokenAt Mvalue Mwrong MwrongAt MfaultKind MfaultPlace Mthing Morder Mone Mtwo Mbest Mcells Mgap Mwire Mstand Mruns Mminute Mhead Mplays Mrests Mwent Mout Mcame Mgone MlastOut) hw hA [0, 1, 2, 3, 4, 5, 6, 7, 8, 9, 10, 11, 12, 13, 14, 15, 16] rfl
  refine va_calli (va_runV (As := [.int (zI g), .int (zI 1)]) (rest := [.int (zI (Mhead (b + g)))]) ⟨hx, hb, hml, hown, hts⟩ (c_X8_get l D cI cB cZ oM s.heap.size Mthrown Mmany Mguest Mrow Mbars Mbar Mfresh Mtape Mtaped Mpos Mtoken MtokenAt Mvalue Mwrong MwrongAt MfaultKind MfaultPlace Mthing Morder Mone Mtwo Mbest Mcells Mgap Mwire Mstand Mruns Mminute Mhead Mplays Mrests Mwent Mout Mcame Mgone MlastOut g 1 (by omega) (by omega) qMguest qMrow (by omega) qMbar qMfresh qMtape (by omega) (by omega) (by omega) (by omega) (by omega) (by omega) (by omega) (by omega) (by omega) (by omega) qMorder (by omega) (by omega) qMbest (by omega) (by omega) qMwire qMstand (by omega) (by omega) qMhead qMplays qMrests qMwent qMout qMcame qMgone (by omega) (by omega) (by omega)) (cwV 2 hts gX8_tail_X8_get rfl rfl rfl (by decide +kernel) ⟨Nat.le_of_ble_eq_true rfl, Nat.le_of_ble_eq_true rfl⟩) ⟨zPre_blind, va_recv hK hw.1 (ci := 8) (q0 := 0) rfl rfl, z_pre hK hw [0, 1, 2, 3, 4, 5, 6, 7, 8, 9, 10, 11, 12, 13, 14, 15, 16] (by decide) rfl⟩ rfl rfl hl.1 rfl (lv_room (Nat.le_of_ble_eq_true rfl)) dX8_tail_11 ⟨Nat.zero_le _, Nat.zero_le _⟩) hw.2.2 (fun q _ h => hF9 q h) hF9 (fun r9 u9 t9 H_3 locs9 ht9 hvm9 hq9 hB9 hz9 hk9 hS9 => ?_)
  obtain ⟨r_4, rfl⟩ : ∃ z, z = u9 := ⟨_, rfl⟩
  try dsimp only at hq9 hB9
  obtain ⟨rfl, hq9⟩ := hq9
  obtain ⟨hq_5, hq_6⟩ := hq9
  have hw : HW D A s.heap (kM cI cB cZ oM Mthrown Mmany Mguest Mrow Mbars Mbar Mfresh Mtape Mtaped Mpos Mtoken MtokenAt Mvalue Mwrong MwrongAt MfaultKind MfaultPlace Mthing Morder Mone Mtwo Mbest Mcells Mgap Mwire Mstand Mruns Mminute Mhead Mplays Mrests Mwent Mout Mcame Mgone MlastOut) H_3 locs9 := z_after (wc := kM cI cB cZ oM Mthrown Mmany Mguest Mrow Mbars Mbar Mfresh Mtape Mtaped Mpos Mtoken MtokenAt Mvalue Mwrong MwrongAt MfaultKind MfaultPlace Mthing Morder Mone Mtwo Mbest Mcells Mgap Mwire Mstand Mruns Mminute Mhead Mplays Mrests Mwent Mout Mcame Mgone MlastOut) hw [0, 1, 2, 3, 4, 5, 6, 7, 8, 9, 10, 11, 12, 13, 14, 15, 16] [] rfl rfl (by decide) (by decide) hF9 hk9 ht9 hB9 hS9 [0, 1, 2, 3, 4, 5, 6, 7, 8, 9, 10, 11, 12, 13, 14, 15, 16] (by decide) rfl
  clear hF9 ht9 hvm9 hB9 hz9 hk9 hS9
  refine z_isub hx hb dX8_tail_14 ?_
  refine z_iconst hx hb dX8_tail_15 ?_
  refine z_iadd hx hb dX8_tail_16 ?_
  have hv_7 : (((Mhead (b + g)) - r_4) + 1) = Mhead (b + g) - Mguest (5 * g + 1) + 1 := by
    first | rfl | omega
  have hv_8 : -9 ≤ (((Mhead (b + g)) - r_4) + 1) ∧ (((Mhead (b + g)) - r_4) + 1) ≤ 61 := by
    first | rfl | omega
  exact W.iret (v := zI (((Mhead (b + g)) - r_4) + 1)) hx hb hr (fun t9 ht hW => ⟨⟨zI (((Mhead (b + g)) - r_4) + 1), (((Mhead (b + g)) - r_4) + 1), rfl, ⟨rfl, ⟨hv_7, hv_8⟩⟩, by subst hAe; exact z_end hK hw ht hW⟩, by subst hAe; exact hw.2.2.F ht⟩) (by subst hAe; exact hw.2.2.2.2) dX8_tail_17
set_option maxRecDepth 100000 in
set_option maxHeartbeats 4000000 in
theorem c_X8_isOn (l : Launch) (D : va_G) (cI cB cZ : ClassId) (oM : Nat → Nat) (sz : Nat) (Mthrown : Int) (Mmany : Int) (Mguest : Int → Int) (Mrow : Int → Int) (Mbars : Int) (Mbar : Int → Int) (Mfresh : Int → Int) (Mtape : Int → Int) (Mtaped : Int) (Mpos : Int) (Mtoken : Int) (MtokenAt : Int) (Mvalue : Int) (Mwrong : Int) (MwrongAt : Int) (MfaultKind : Int) (MfaultPlace : Int) (Mthing : Int) (Morder : Int → Int) (Mone : Int) (Mtwo : Int) (Mbest : Int → Int) (Mcells : Int) (Mgap : Int) (Mwire : Int → Int) (Mstand : Int → Int) (Mruns : Int) (Mminute : Int) (Mhead : Int → Int) (Mplays : Int → Int) (Mrests : Int → Int) (Mwent : Int → Int) (Mout : Int → Int) (Mcame : Int → Int) (Mgone : Int → Int) (MlastOut : Int) (g : Int) (qMthrown : 0 ≤ Mthrown ∧ Mthrown ≤ 2) (qMmany : 0 ≤ Mmany ∧ Mmany ≤ 8) (qMguest : RA Mguest (0) 9) (qMrow : RA Mrow (0) 7) (qMbars : 0 ≤ Mbars ∧ Mbars ≤ 10) (qMbar : RA Mbar (0) 104) (qMfresh : RA Mfresh (0) 104) (qMtape : RA Mtape (0) 255) (qMtaped : 0 ≤ Mtaped ∧ Mtaped ≤ 400) (qMpos : 0 ≤ Mpos ∧ Mpos ≤ 400) (qMtoken : 0 ≤ Mtoken ∧ Mtoken ≤ 15) (qMtokenAt : 0 ≤ MtokenAt ∧ MtokenAt ≤ 400) (qMvalue : 0 ≤ Mvalue ∧ Mvalue ≤ 99) (qMwrong : 0 ≤ Mwrong ∧ Mwrong ≤ 3) (qMwrongAt : 0 ≤ MwrongAt ∧ MwrongAt ≤ 400) (qMfaultKind : 0 ≤ MfaultKind ∧ MfaultKind ≤ 3) (qMfaultPlace : -1 ≤ MfaultPlace ∧ MfaultPlace ≤ 400) (qMthing : 0 ≤ Mthing ∧ Mthing ≤ 104) (qMorder : RA Morder (0) 7) (qMone : 0 ≤ Mone ∧ Mone ≤ 8) (qMtwo : 0 ≤ Mtwo ∧ Mtwo ≤ 8) (qMbest : RA Mbest (0) 7) (qMcells : 1 ≤ Mcells ∧ Mcells ≤ 50) (qMgap : 0 ≤ Mgap ∧ Mgap ≤ 3) (qMwire : RA Mwire (0) 9) (qMstand : RA Mstand (0) 9) (qMruns : 0 ≤ Mruns ∧ Mruns ≤ 1) (qMminute : 0 ≤ Mminute ∧ Mminute ≤ 1000000) (qMhead : RA Mhead (-1) 60) (qMplays : RA Mplays (0) 18) (qMrests : RA Mrests (0) 3) (qMwent : RA Mwent (0) 61) (qMout : RA Mout (0) 1) (qMcame : RA Mcame (-1) 1000000) (qMgone : RA Mgone (-1) 1000000) (qMlastOut : 0 ≤ MlastOut ∧ MlastOut ≤ 1000000) (qg : 0 ≤ g ∧ g ≤ 7) : Met l yX8_isOn wsX8_isOn ({ frames := 0, cells := 0, slots := 0, locals := 0 }) (va_Pc [.ref (oM 0), .int (zI g)] (zPre D cI cB cZ sz (kM cI cB cZ oM Mthrown Mmany Mguest Mrow Mbars Mbar Mfresh Mtape Mtaped Mpos Mtoken MtokenAt Mvalue Mwrong MwrongAt MfaultKind MfaultPlace Mthing Morder Mone Mtwo Mbest Mcells Mgap Mwire Mstand Mruns Mminute Mhead Mplays Mrests Mwent Mout Mcame Mgone MlastOut))) (va_Qi (fun (r9 : Int32) (u9 : Int) => r9 = zI u9 ∧ ((((Mout g = 0 ∧ 0 ≤ Mhead g) ∧ u9 = 1) ∨ (¬ (Mout g = 0 ∧ 0 ≤ Mhead g) ∧ u9 = 0)))) (fun u9 t9 => zAt D cI cB cZ (va_A (kM cI cB cZ oM Mthrown Mmany Mguest Mrow Mbars Mbar Mfresh Mtape Mtaped Mpos Mtoken MtokenAt Mvalue Mwrong MwrongAt MfaultKind MfaultPlace Mthing Morder Mone Mtwo Mbest Mcells Mgap Mwire Mstand Mruns Mminute Mhead Mplays Mrests Mwent Mout Mcame Mgone MlastOut) sz) (kM cI cB cZ oM Mthrown Mmany Mguest Mrow Mbars Mbar Mfresh Mtape Mtaped Mpos Mtoken MtokenAt Mvalue Mwrong MwrongAt MfaultKind MfaultPlace Mthing Morder Mone Mtwo Mbest Mcells Mgap Mwire Mstand Mruns Mminute Mhead Mplays Mrests Mwent Mout Mcame Mgone MlastOut) t9) (va_A (kM cI cB cZ oM Mthrown Mmany Mguest Mrow Mbars Mbar Mfresh Mtape Mtaped Mpos Mtoken MtokenAt Mvalue Mwrong MwrongAt MfaultKind MfaultPlace Mthing Morder Mone Mtwo Mbest Mcells Mgap Mwire Mstand Mruns Mminute Mhead Mplays Mrests Mwent Mout Mcame Mgone MlastOut) sz)) 0 0 (va_A (kM cI cB cZ oM Mthrown Mmany Mguest Mrow Mbars Mbar Mfresh Mtape Mtaped Mpos Mtoken MtokenAt Mvalue Mwrong MwrongAt MfaultKind MfaultPlace Mthing Morder Mone Mtwo Mbest Mcells Mgap Mwire Mstand Mruns Mminute Mhead Mplays Mrests Mwent Mout Mcame Mgone MlastOut) sz) := by
  refine Met.ofW (cc := cX8_isOn) (maxL := 2) (ret := (some .boolean)) (by decide) rfl ?_
  intro pp ee s mm aa bw mt cd s₁ BL hml hv
  obtain ⟨rfl, hsz, hP, hK, hD0⟩ := hv
  have hx := BL.exec
  have hb := BL.bytes
  have hr := BL.returns
  have hts := atoms_spec (ws := wsX8_isOn) BL.pre
  have hown : s.vm.findClass RX8 = some mm.cls := findClass_of_methodNamed BL.named
  have hlocks := BL.notSynchronized
  subst hsz
  generalize hAe : va_A (kM cI cB cZ oM Mthrown Mmany Mguest Mrow Mbars Mbar Mfresh Mtape Mtaped Mpos Mtoken MtokenAt Mvalue Mwrong MwrongAt MfaultKind MfaultPlace Mthing Morder Mone Mtwo Mbest Mcells Mgap Mwire Mstand Mruns Mminute Mhead Mplays Mrests Mwent Mout Mcame Mgone MlastOut) s.heap.size = A
  have hA : ∀ q : Nat, s.heap.size ≤ q → A q := fun q h => by rw [← hAe]; exact Or.inr h
  have hw : HW D A s.heap (kM cI cB cZ oM Mthrown Mmany Mguest Mrow Mbars Mbar Mfresh Mtape Mtaped Mpos Mtoken MtokenAt Mvalue Mwrong MwrongAt MfaultKind MfaultPlace Mthing Morder Mone Mtwo Mbest Mcells Mgap Mwire Mstand Mruns Mminute Mhead Mplays Mrests Mwent Mout Mcame Mgone MlastOut) s.heap [] := z_start hAe hP hD0
  clear hP hD0
  have hl := lv_entry ([.ref (oM 0), .int (zI g)]) (n := 2) (Nat.le_of_ble_eq_true rfl)
  rw [lg_entry_eq]
  generalize (lg_sl ([.ref (oM 0), .int (zI g)]) ++ List.replicate (2 - (lg_sl ([.ref (oM 0), .int (zI g)])).length) Slot.unset).toArray = ls at hl ⊢
  have hl : lv_has ls 2 [(0, .ref (oM 0)), (1, .int (zI g))] := hl
  have hinX8 : ∀ w ∈ wsX80, w ∈ wsX8_isOn := by decide +kernel
  refine lv_aload_n hx hb dX8_isOn_0 rfl (lv_at hl 0 rfl) ?_
  refine va_get (D := D) (ci := 8) (v := .ref (oM 14)) (C := RX8) (T := TX8) (N := 36) hx hb hts hinX8 hown hK hw.1 0 rfl rfl 32 (by decide) (hts (.fieldLink RX8 59 "CarnivalRoadModel" "out" "[Z") (by decide +kernel)) (fun _ h9 => h9) rfl dX8_isOn_1 ?_
  refine lv_iload_n hx hb dX8_isOn_4 rfl (lv_at hl 1 rfl) ?_
  have hi_1 : (0 : Int) ≤ g ∧ g < ((16 : Nat) : Int) := by
    first | assumption | omega | grind
  refine z_zald (n := 16) (f := Mout) hx hb hK hw 14 rfl (by decide) hi_1 dX8_isOn_5 ?_
  have hq_2 : 0 ≤ Mout g ∧ Mout g ≤ 1 := qMout g
  refine z_if_ne (tgt := 22) hx hb dX8_isOn_6 (by decide) (by omega) (fun hc_3 => ?_) (fun hc_3 => ?_)
  · skip
    refine z_iconst hx hb dX8_isOn_22 ?_
    have hv_4 : ((Mout g = 0 ∧ 0 ≤ Mhead g) ∧ (0 : Int) = 1) ∨ (¬ (Mout g = 0 ∧ 0 ≤ Mhead g) ∧ (0 : Int) = 0) := by
      first | assumption | omega | grind
    exact W.zret (v := zI 0) hx hb hr rfl (fun t9 ht hW => ⟨⟨zI 0, 0, rfl, ⟨rfl, hv_4⟩, by subst hAe; exact z_end hK hw ht hW⟩, by subst hAe; exact hw.2.2.F ht⟩) (by subst hAe; exact hw.2.2.2.2) dX8_isOn_23
  · skip
    refine lv_aload_n hx hb dX8_isOn_9 rfl (lv_at hl 0 rfl) ?_
    refine va_get (D := D) (ci := 8) (v := .ref (oM 10)) (C := RX8) (T := TX8) (N := 36) hx hb hts hinX8 hown hK hw.1 0 rfl rfl 28 (by decide) (hts (.fieldLink RX8 47 "CarnivalRoadModel" "head" "[I") (by decide +kernel)) (fun _ h9 => h9) rfl dX8_isOn_10 ?_
    refine lv_iload_n hx hb dX8_isOn_13 rfl (lv_at hl 1 rfl) ?_
    have hi_5 : (0 : Int) ≤ g ∧ g < ((16 : Nat) : Int) := by
      first | assumption | omega | grind
    refine z_iald (n := 16) (f := Mhead) hx hb hK hw 10 rfl (by decide) hi_5 dX8_isOn_14 ?_
    have hq_6 : -1 ≤ Mhead g ∧ Mhead g ≤ 60 := qMhead g
    refine z_if_lt (tgt := 22) hx hb dX8_isOn_15 (by decide) (by omega) (fun hc_7 => ?_) (fun hc_7 => ?_)
    · skip
      refine z_iconst hx hb dX8_isOn_22 ?_
      have hv_8 : ((Mout g = 0 ∧ 0 ≤ Mhead g) ∧ (0 : Int) = 1) ∨ (¬ (Mout g = 0 ∧ 0 ≤ Mhead g) ∧ (0 : Int) = 0) := by
        first | assumption | omega | grind
      exact W.zret (v := zI 0) hx hb hr rfl (fun t9 ht hW => ⟨⟨zI 0, 0, rfl, ⟨rfl, hv_8⟩, by subst hAe; exact z_end hK hw ht hW⟩, by subst hAe; exact hw.2.2.F ht⟩) (by subst hAe; exact hw.2.2.2.2) dX8_isOn_23
    · skip
      refine z_iconst hx hb dX8_isOn_18 ?_
      refine lv_goto (tgt := 23) hx hb dX8_isOn_19 (by decide) ?_
      have hv_9 : ((Mout g = 0 ∧ 0 ≤ Mhead g) ∧ (1 : Int) = 1) ∨ (¬ (Mout g = 0 ∧ 0 ≤ Mhead g) ∧ (1 : Int) = 0) := by
        first | assumption | omega | grind
      exact W.zret (v := zI 1) hx hb hr rfl (fun t9 ht hW => ⟨⟨zI 1, 1, rfl, ⟨rfl, hv_9⟩, by subst hAe; exact z_end hK hw ht hW⟩, by subst hAe; exact hw.2.2.F ht⟩) (by subst hAe; exact hw.2.2.2.2) dX8_isOn_23
set_option maxRecDepth 100000 in
set_option maxHeartbeats 4000000 in
theorem c_X8_isOver (l : Launch) (D : va_G) (cI cB cZ : ClassId) (oM : Nat → Nat) (sz : Nat) (Mthrown : Int) (Mmany : Int) (Mguest : Int → Int) (Mrow : Int → Int) (Mbars : Int) (Mbar : Int → Int) (Mfresh : Int → Int) (Mtape : Int → Int) (Mtaped : Int) (Mpos : Int) (Mtoken : Int) (MtokenAt : Int) (Mvalue : Int) (Mwrong : Int) (MwrongAt : Int) (MfaultKind : Int) (MfaultPlace : Int) (Mthing : Int) (Morder : Int → Int) (Mone : Int) (Mtwo : Int) (Mbest : Int → Int) (Mcells : Int) (Mgap : Int) (Mwire : Int → Int) (Mstand : Int → Int) (Mruns : Int) (Mminute : Int) (Mhead : Int → Int) (Mplays : Int → Int) (Mrests : Int → Int) (Mwent : Int → Int) (Mout : Int → Int) (Mcame : Int → Int) (Mgone : Int → Int) (MlastOut : Int) (b : Int) (qMthrown : 0 ≤ Mthrown ∧ Mthrown ≤ 2) (qMmany : 0 ≤ Mmany ∧ Mmany ≤ 8) (qMguest : RA Mguest (0) 9) (qMrow : RA Mrow (0) 7) (qMbars : 0 ≤ Mbars ∧ Mbars ≤ 10) (qMbar : RA Mbar (0) 104) (qMfresh : RA Mfresh (0) 104) (qMtape : RA Mtape (0) 255) (qMtaped : 0 ≤ Mtaped ∧ Mtaped ≤ 400) (qMpos : 0 ≤ Mpos ∧ Mpos ≤ 400) (qMtoken : 0 ≤ Mtoken ∧ Mtoken ≤ 15) (qMtokenAt : 0 ≤ MtokenAt ∧ MtokenAt ≤ 400) (qMvalue : 0 ≤ Mvalue ∧ Mvalue ≤ 99) (qMwrong : 0 ≤ Mwrong ∧ Mwrong ≤ 3) (qMwrongAt : 0 ≤ MwrongAt ∧ MwrongAt ≤ 400) (qMfaultKind : 0 ≤ MfaultKind ∧ MfaultKind ≤ 3) (qMfaultPlace : -1 ≤ MfaultPlace ∧ MfaultPlace ≤ 400) (qMthing : 0 ≤ Mthing ∧ Mthing ≤ 104) (qMorder : RA Morder (0) 7) (qMone : 0 ≤ Mone ∧ Mone ≤ 8) (qMtwo : 0 ≤ Mtwo ∧ Mtwo ≤ 8) (qMbest : RA Mbest (0) 7) (qMcells : 1 ≤ Mcells ∧ Mcells ≤ 50) (qMgap : 0 ≤ Mgap ∧ Mgap ≤ 3) (qMwire : RA Mwire (0) 9) (qMstand : RA Mstand (0) 9) (qMruns : 0 ≤ Mruns ∧ Mruns ≤ 1) (qMminute : 0 ≤ Mminute ∧ Mminute ≤ 1000000) (qMhead : RA Mhead (-1) 60) (qMplays : RA Mplays (0) 18) (qMrests : RA Mrests (0) 3) (qMwent : RA Mwent (0) 61) (qMout : RA Mout (0) 1) (qMcame : RA Mcame (-1) 1000000) (qMgone : RA Mgone (-1) 1000000) (qMlastOut : 0 ≤ MlastOut ∧ MlastOut ≤ 1000000) (qb : 0 ≤ b ∧ b ≤ 8) : Met l yX8_isOver wsX8_isOver ({ frames := 0, cells := 0, slots := 0, locals := 0 }) (va_Pc [.ref (oM 0), .int (zI b)] (zPre D cI cB cZ sz (kM cI cB cZ oM Mthrown Mmany Mguest Mrow Mbars Mbar Mfresh Mtape Mtaped Mpos Mtoken MtokenAt Mvalue Mwrong MwrongAt MfaultKind MfaultPlace Mthing Morder Mone Mtwo Mbest Mcells Mgap Mwire Mstand Mruns Mminute Mhead Mplays Mrests Mwent Mout Mcame Mgone MlastOut))) (va_Qi (fun (r9 : Int32) (u9 : Int) => r9 = zI u9 ∧ ((((∀ g, 0 ≤ g → g < Mmany → Mout (b + g) = 1) ∧ u9 = 1) ∨ (¬ (∀ g, 0 ≤ g → g < Mmany → Mout (b + g) = 1) ∧ u9 = 0)))) (fun u9 t9 => zAt D cI cB cZ (va_A (kM cI cB cZ oM Mthrown Mmany Mguest Mrow Mbars Mbar Mfresh Mtape Mtaped Mpos Mtoken MtokenAt Mvalue Mwrong MwrongAt MfaultKind MfaultPlace Mthing Morder Mone Mtwo Mbest Mcells Mgap Mwire Mstand Mruns Mminute Mhead Mplays Mrests Mwent Mout Mcame Mgone MlastOut) sz) (kM cI cB cZ oM Mthrown Mmany Mguest Mrow Mbars Mbar Mfresh Mtape Mtaped Mpos Mtoken MtokenAt Mvalue Mwrong MwrongAt MfaultKind MfaultPlace Mthing Morder Mone Mtwo Mbest Mcells Mgap Mwire Mstand Mruns Mminute Mhead Mplays Mrests Mwent Mout Mcame Mgone MlastOut) t9) (va_A (kM cI cB cZ oM Mthrown Mmany Mguest Mrow Mbars Mbar Mfresh Mtape Mtaped Mpos Mtoken MtokenAt Mvalue Mwrong MwrongAt MfaultKind MfaultPlace Mthing Morder Mone Mtwo Mbest Mcells Mgap Mwire Mstand Mruns Mminute Mhead Mplays Mrests Mwent Mout Mcame Mgone MlastOut) sz)) 0 0 (va_A (kM cI cB cZ oM Mthrown Mmany Mguest Mrow Mbars Mbar Mfresh Mtape Mtaped Mpos Mtoken MtokenAt Mvalue Mwrong MwrongAt MfaultKind MfaultPlace Mthing Morder Mone Mtwo Mbest Mcells Mgap Mwire Mstand Mruns Mminute Mhead Mplays Mrests Mwent Mout Mcame Mgone MlastOut) sz) := by
  refine Met.ofW (cc := cX8_isOver) (maxL := 4) (ret := (some .boolean)) (by decide) rfl ?_
  intro pp ee s mm aa bw mt cd s₁ BL hml hv
  obtain ⟨rfl, hsz, hP, hK, hD0⟩ := hv
  have hx := BL.exec
  have hb := BL.bytes
  have hr := BL.returns
  have hts := atoms_spec (ws := wsX8_isOver) BL.pre
  have hown : s.vm.findClass RX8 = some mm.cls := findClass_of_methodNamed BL.named
  have hlocks := BL.notSynchronized
  subst hsz
  generalize hAe : va_A (kM cI cB cZ oM Mthrown Mmany Mguest Mrow Mbars Mbar Mfresh Mtape Mtaped Mpos Mtoken MtokenAt Mvalue Mwrong MwrongAt MfaultKind MfaultPlace Mthing Morder Mone Mtwo Mbest Mcells Mgap Mwire Mstand Mruns Mminute Mhead Mplays Mrests Mwent Mout Mcame Mgone MlastOut) s.heap.size = A
  have hA : ∀ q : Nat, s.heap.size ≤ q → A q := fun q h => by rw [← hAe]; exact Or.inr h
  have hw : HW D A s.heap (kM cI cB cZ oM Mthrown Mmany Mguest Mrow Mbars Mbar Mfresh Mtape Mtaped Mpos Mtoken MtokenAt Mvalue Mwrong MwrongAt MfaultKind MfaultPlace Mthing Morder Mone Mtwo Mbest Mcells Mgap Mwire Mstand Mruns Mminute Mhead Mplays Mrests Mwent Mout Mcame Mgone MlastOut) s.heap [] := z_start hAe hP hD0
  clear hP hD0
  have hl := lv_entry ([.ref (oM 0), .int (zI b)]) (n := 4) (Nat.le_of_ble_eq_true rfl)
  rw [lg_entry_eq]
  generalize (lg_sl ([.ref (oM 0), .int (zI b)]) ++ List.replicate (4 - (lg_sl ([.ref (oM 0), .int (zI b)])).length) Slot.unset).toArray = ls at hl ⊢
  have hl : lv_has ls 4 [(0, .ref (oM 0)), (1, .int (zI b))] := hl
  have hinX8 : ∀ w ∈ wsX80, w ∈ wsX8_isOver := by decide +kernel
  refine z_iconst hx hb dX8_isOver_0 ?_
  refine lv_istore_n (lv' := [(2, .int (zI 1)), (0, .ref (oM 0)), (1, .int (zI b))]) hx hb dX8_isOver_1 rfl hl (by decide) rfl (fun ls hl => ?_)
  refine z_iconst hx hb dX8_isOver_2 ?_
  refine lv_istore_n (lv' := [(3, .int (zI 0)), (2, .int (zI 1)), (0, .ref (oM 0)), (1, .int (zI b))]) hx hb dX8_isOver_3 rfl hl (by decide) rfl (fun ls hl => ?_)
  have hv_1 : 0 ≤ (0 : Int) ∧ (0 : Int) ≤ Mmany := by
    first | assumption | omega | grind
  have hv_2 : ((1 : Int) = 1 ∧ ∀ k, 0 ≤ k → k < (0 : Int) → Mout (b + k) = (fun _ => 1) k) ∨ ((1 : Int) = 0 ∧ ¬ ∀ k, 0 ≤ k → k < (0 : Int) → Mout (b + k) = (fun _ => 1) k) := by
    exact Or.inl ⟨rfl, all_0⟩
  refine z_loop (σ := Int × Int) (μ := fun x9 => (9 - (x9.2)).toNat) (I := fun x9 H locs ls => (0 ≤ (x9.2) ∧ (x9.2) ≤ Mmany) ∧ (((x9.1) = 1 ∧ ∀ k, 0 ≤ k → k < (x9.2) → Mout (b + k) = (fun _ => 1) k) ∨ ((x9.1) = 0 ∧ ¬ ∀ k, 0 ≤ k → k < (x9.2) → Mout (b + k) = (fun _ => 1) k)) ∧ HW D A s.heap (kM cI cB cZ oM Mthrown Mmany Mguest Mrow Mbars Mbar Mfresh Mtape Mtaped Mpos Mtoken MtokenAt Mvalue Mwrong MwrongAt MfaultKind MfaultPlace Mthing Morder Mone Mtwo Mbest Mcells Mgap Mwire Mstand Mruns Mminute Mhead Mplays Mrests Mwent Mout Mcame Mgone MlastOut) H locs ∧ lv_has ls 4 [(0, .ref (oM 0)), (1, .int (zI b)), (2, .int (zI (x9.1))), (3, .int (zI (x9.2)))]) (1, 0) ⟨hv_1, hv_2, hw, lv_sub hl [2, 3, 1, 0] rfl⟩ ?_
  clear hw hl
  intro x9 H locs ls hI ih_3
  obtain ⟨is_4, g_5⟩ := x9
  try dsimp only at hI
  obtain ⟨hI_6, hI_7, hw, hl⟩ := hI
  refine lv_iload_n hx hb dX8_isOver_4 rfl (lv_at hl 3 rfl) ?_
  refine lv_aload_n hx hb dX8_isOver_5 rfl (lv_at hl 0 rfl) ?_
  refine va_get (D := D) (ci := 8) (v := .int (zI Mmany)) (C := RX8) (T := TX8) (N := 36) hx hb hts hinX8 hown hK hw.1 0 rfl rfl 1 (by decide) (hts (.fieldLink RX8 72 "CarnivalRoadModel" "many" "I") (by decide +kernel)) (fun _ h9 => h9) rfl dX8_isOver_6 ?_
  refine z_icmp_ge (tgt := 39) hx hb dX8_isOver_9 (by decide) (by omega) (fun hc_8 => ?_) (fun hc_8 => ?_)
  · skip
    refine lv_iload_n hx hb dX8_isOver_39 rfl (lv_at hl 2 rfl) ?_
    have hv_9 : ((∀ g, 0 ≤ g → g < Mmany → Mout (b + g) = 1) ∧ is_4 = 1) ∨ (¬ (∀ g, 0 ≤ g → g < Mmany → Mout (b + g) = 1) ∧ is_4 = 0) := by
      exact isrow_end (f := fun k => Mout (b + k)) (g := fun _ => 1) (by assumption) (by omega)
    exact W.zret (v := zI is_4) hx hb hr (z_narZ (by omega)) (fun t9 ht hW => ⟨⟨zI is_4, is_4, rfl, ⟨rfl, hv_9⟩, by subst hAe; exact z_end hK hw ht hW⟩, by subst hAe; exact hw.2.2.F ht⟩) (by subst hAe; exact hw.2.2.2.2) dX8_isOver_40
  · skip
    refine lv_iload_n hx hb dX8_isOver_12 rfl (lv_at hl 2 rfl) ?_
    refine z_if_eq (tgt := 31) hx hb dX8_isOver_13 (by decide) (by omega) (fun hc_10 => ?_) (fun hc_10 => ?_)
    · skip
      refine z_iconst hx hb dX8_isOver_31 ?_
      refine lv_istore_n (lv' := [(2, .int (zI 0)), (0, .ref (oM 0)), (1, .int (zI b)), (3, .int (zI g_5))]) hx hb dX8_isOver_32 rfl hl (by decide) rfl (fun ls hl => ?_)
      refine z_iinc (k := 3) (lv' := [(3, .int (zI (g_5 + 1))), (2, .int (zI 0)), (0, .ref (oM 0)), (1, .int (zI b))]) hx hb dX8_isOver_33 hl rfl (by decide) rfl (fun ls hl => ?_)
      refine lv_goto (tgt := 4) hx hb dX8_isOver_36 (by decide) ?_
      have hv_11 : 0 ≤ (g_5 + 1) ∧ (g_5 + 1) ≤ Mmany := by
        first | assumption | omega | grind
      have hv_12 : ((0 : Int) = 1 ∧ ∀ k, 0 ≤ k → k < (g_5 + 1) → Mout (b + k) = (fun _ => 1) k) ∨ ((0 : Int) = 0 ∧ ¬ ∀ k, 0 ≤ k → k < (g_5 + 1) → Mout (b + k) = (fun _ => 1) k) := by
        exact isrow_next (f := fun k => Mout (b + k)) (g := fun _ => 1) (by assumption) (by omega) (by dsimp only; omega)
      have hm_13 : (9 - (g_5 + 1)).toNat < (9 - g_5).toNat := by
        first | assumption | omega | grind
      exact ih_3 (0, (g_5 + 1)) _ _ _ ⟨hv_11, hv_12, hw, lv_sub hl [2, 3, 1, 0] rfl⟩ hm_13
    · skip
      refine lv_aload_n hx hb dX8_isOver_16 rfl (lv_at hl 0 rfl) ?_
      refine va_get (D := D) (ci := 8) (v := .ref (oM 14)) (C := RX8) (T := TX8) (N := 36) hx hb hts hinX8 hown hK hw.1 0 rfl rfl 32 (by decide) (hts (.fieldLink RX8 59 "CarnivalRoadModel" "out" "[Z") (by decide +kernel)) (fun _ h9 => h9) rfl dX8_isOver_17 ?_
      refine lv_iload_n hx hb dX8_isOver_20 rfl (lv_at hl 1 rfl) ?_
      refine lv_iload_n hx hb dX8_isOver_21 rfl (lv_at hl 3 rfl) ?_
      refine z_iadd hx hb dX8_isOver_22 ?_
      have hi_14 : (0 : Int) ≤ (b + g_5) ∧ (b + g_5) < ((16 : Nat) : Int) := by
        first | assumption | omega | grind
      refine z_zald (n := 16) (f := Mout) hx hb hK hw 14 rfl (by decide) hi_14 dX8_isOver_23 ?_
      have hq_15 : 0 ≤ Mout (b + g_5) ∧ Mout (b + g_5) ≤ 1 := qMout (b + g_5)
      refine z_if_eq (tgt := 31) hx hb dX8_isOver_24 (by decide) (by omega) (fun hc_16 => ?_) (fun hc_16 => ?_)
      · skip
        refine z_iconst hx hb dX8_isOver_31 ?_
        refine lv_istore_n (lv' := [(2, .int (zI 0)), (0, .ref (oM 0)), (1, .int (zI b)), (3, .int (zI g_5))]) hx hb dX8_isOver_32 rfl hl (by decide) rfl (fun ls hl => ?_)
        refine z_iinc (k := 3) (lv' := [(3, .int (zI (g_5 + 1))), (2, .int (zI 0)), (0, .ref (oM 0)), (1, .int (zI b))]) hx hb dX8_isOver_33 hl rfl (by decide) rfl (fun ls hl => ?_)
        refine lv_goto (tgt := 4) hx hb dX8_isOver_36 (by decide) ?_
        have hv_17 : 0 ≤ (g_5 + 1) ∧ (g_5 + 1) ≤ Mmany := by
          first | assumption | omega | grind
        have hv_18 : ((0 : Int) = 1 ∧ ∀ k, 0 ≤ k → k < (g_5 + 1) → Mout (b + k) = (fun _ => 1) k) ∨ ((0 : Int) = 0 ∧ ¬ ∀ k, 0 ≤ k → k < (g_5 + 1) → Mout (b + k) = (fun _ => 1) k) := by
          exact isrow_next (f := fun k => Mout (b + k)) (g := fun _ => 1) (by assumption) (by omega) (by dsimp only; omega)
        have hm_19 : (9 - (g_5 + 1)).toNat < (9 - g_5).toNat := by
          first | assumption | omega | grind
        exact ih_3 (0, (g_5 + 1)) _ _ _ ⟨hv_17, hv_18, hw, lv_sub hl [2, 3, 1, 0] rfl⟩ hm_19
      · skip
        refine z_iconst hx hb dX8_isOver_27 ?_
        refine lv_goto (tgt := 32) hx hb dX8_isOver_28 (by decide) ?_
        refine lv_istore_n (lv' := [(2, .int (zI 1)), (0, .ref (oM 0)), (1, .int (zI b)), (3, .int (zI g_5))]) hx hb dX8_isOver_32 rfl hl (by decide) rfl (fun ls hl => ?_)
        refine z_iinc (k := 3) (lv' := [(3, .int (zI (g_5 + 1))), (2, .int (zI 1)), (0, .ref (oM 0)), (1, .int (zI b))]) hx hb dX8_isOver_33 hl rfl (by decide) rfl (fun ls hl => ?_)
        refine lv_goto (tgt := 4) hx hb dX8_isOver_36 (by decide) ?_
        have hv_20 : 0 ≤ (g_5 + 1) ∧ (g_5 + 1) ≤ Mmany := by
          first | assumption | omega | grind
        have hv_21 : ((1 : Int) = 1 ∧ ∀ k, 0 ≤ k → k < (g_5 + 1) → Mout (b + k) = (fun _ => 1) k) ∨ ((1 : Int) = 0 ∧ ¬ ∀ k, 0 ≤ k → k < (g_5 + 1) → Mout (b + k) = (fun _ => 1) k) := by
          exact isrow_next (f := fun k => Mout (b + k)) (g := fun _ => 1) (by assumption) (by omega) (by dsimp only; omega)
        have hm_22 : (9 - (g_5 + 1)).toNat < (9 - g_5).toNat := by
          first | assumption | omega | grind
        exact ih_3 (1, (g_5 + 1)) _ _ _ ⟨hv_20, hv_21, hw, lv_sub hl [2, 3, 1, 0] rfl⟩ hm_22
set_option maxRecDepth 100000 in
set_option maxHeartbeats 4000000 in
theorem c_X8_begin (l : Launch) (D : va_G) (cI cB cZ : ClassId) (oM : Nat → Nat) (sz : Nat) (Mthrown : Int) (Mmany : Int) (Mguest : Int → Int) (Mrow : Int → Int) (Mbars : Int) (Mbar : Int → Int) (Mfresh : Int → Int) (Mtape : Int → Int) (Mtaped : Int) (Mpos : Int) (Mtoken : Int) (MtokenAt : Int) (Mvalue : Int) (Mwrong : Int) (MwrongAt : Int) (MfaultKind : Int) (MfaultPlace : Int) (Mthing : Int) (Morder : Int → Int) (Mone : Int) (Mtwo : Int) (Mbest : Int → Int) (Mcells : Int) (Mgap : Int) (Mwire : Int → Int) (Mstand : Int → Int) (Mruns : Int) (Mminute : Int) (Mhead : Int → Int) (Mplays : Int → Int) (Mrests : Int → Int) (Mwent : Int → Int) (Mout : Int → Int) (Mcame : Int → Int) (Mgone : Int → Int) (MlastOut : Int) (qMthrown : 0 ≤ Mthrown ∧ Mthrown ≤ 2) (qMmany : 0 ≤ Mmany ∧ Mmany ≤ 8) (qMguest : RA Mguest (0) 9) (qMrow : RA Mrow (0) 7) (qMbars : 0 ≤ Mbars ∧ Mbars ≤ 10) (qMbar : RA Mbar (0) 104) (qMfresh : RA Mfresh (0) 104) (qMtape : RA Mtape (0) 255) (qMtaped : 0 ≤ Mtaped ∧ Mtaped ≤ 400) (qMpos : 0 ≤ Mpos ∧ Mpos ≤ 400) (qMtoken : 0 ≤ Mtoken ∧ Mtoken ≤ 15) (qMtokenAt : 0 ≤ MtokenAt ∧ MtokenAt ≤ 400) (qMvalue : 0 ≤ Mvalue ∧ Mvalue ≤ 99) (qMwrong : 0 ≤ Mwrong ∧ Mwrong ≤ 3) (qMwrongAt : 0 ≤ MwrongAt ∧ MwrongAt ≤ 400) (qMfaultKind : 0 ≤ MfaultKind ∧ MfaultKind ≤ 3) (qMfaultPlace : -1 ≤ MfaultPlace ∧ MfaultPlace ≤ 400) (qMthing : 0 ≤ Mthing ∧ Mthing ≤ 104) (qMorder : RA Morder (0) 7) (qMone : 0 ≤ Mone ∧ Mone ≤ 8) (qMtwo : 0 ≤ Mtwo ∧ Mtwo ≤ 8) (qMbest : RA Mbest (0) 7) (qMcells : 1 ≤ Mcells ∧ Mcells ≤ 50) (qMgap : 0 ≤ Mgap ∧ Mgap ≤ 3) (qMwire : RA Mwire (0) 9) (qMstand : RA Mstand (0) 9) (qMruns : 0 ≤ Mruns ∧ Mruns ≤ 1) (qMminute : 0 ≤ Mminute ∧ Mminute ≤ 1000000) (qMhead : RA Mhead (-1) 60) (qMplays : RA Mplays (0) 18) (qMrests : RA Mrests (0) 3) (qMwent : RA Mwent (0) 61) (qMout : RA Mout (0) 1) (qMcame : RA Mcame (-1) 1000000) (qMgone : RA Mgone (-1) 1000000) (qMlastOut : 0 ≤ MlastOut ∧ MlastOut ≤ 1000000) : Met l yX8_begin wsX8_begin ({ frames := 2, cells := 0, slots := 0, locals := 44 }) (va_Pc [.ref (oM 0)] (zPre D cI cB cZ sz (kM cI cB cZ oM Mthrown Mmany Mguest Mrow Mbars Mbar Mfresh Mtape Mtaped Mpos Mtoken MtokenAt Mvalue Mwrong MwrongAt MfaultKind MfaultPlace Mthing Morder Mone Mtwo Mbest Mcells Mgap Mwire Mstand Mruns Mminute Mhead Mplays Mrests Mwent Mout Mcame Mgone MlastOut))) (va_Qi (fun (r9 : Int32) (u9 : Int × Int × Int × Int × (Int → Int) × (Int → Int) × (Int → Int) × (Int → Int) × (Int → Int) × (Int → Int) × (Int → Int) × Int) => r9 = zI u9.1 ∧ (((0 : Int) ≤ u9.2.1 ∧ u9.2.1 ≤ 2) ∧ ((0 : Int) ≤ u9.2.2.1 ∧ u9.2.2.1 ≤ 1) ∧ ((0 : Int) ≤ u9.2.2.2.1 ∧ u9.2.2.2.1 ≤ 1000000) ∧ (RA u9.2.2.2.2.1 (-1) 60) ∧ (RA u9.2.2.2.2.2.1 (0) 18) ∧ (RA u9.2.2.2.2.2.2.1 (0) 3) ∧ (RA u9.2.2.2.2.2.2.2.1 (0) 61) ∧ (RA u9.2.2.2.2.2.2.2.2.1 (0) 1) ∧ (RA u9.2.2.2.2.2.2.2.2.2.1 (-1) 1000000) ∧ (RA u9.2.2.2.2.2.2.2.2.2.2.1 (-1) 1000000) ∧ ((0 : Int) ≤ u9.2.2.2.2.2.2.2.2.2.2.2 ∧ u9.2.2.2.2.2.2.2.2.2.2.2 ≤ 1000000) ∧ (((0 < Mmany ∧ ∀ g, 0 ≤ g → g < Mmany → ∀ i, 0 ≤ i → i < Mcells → ¬ lowP Mwire (Mguest (5 * g + 3)) i) ∧ u9.1 = 1 ∧ u9.2.2.1 = 1 ∧ u9.2.2.2.1 = 0 ∧ u9.2.2.2.2.2.2.2.2.2.2.2 = 0 ∧ ∀ g, 0 ≤ g → g < Mmany → u9.2.2.2.2.1 g = -1 ∧ u9.2.2.2.2.2.1 g = 0 ∧ u9.2.2.2.2.2.2.1 g = 0 ∧ u9.2.2.2.2.2.2.2.1 g = 0 ∧ u9.2.2.2.2.2.2.2.2.1 g = 0 ∧ u9.2.2.2.2.2.2.2.2.2.1 g = -1 ∧ u9.2.2.2.2.2.2.2.2.2.2.1 g = -1) ∨ (¬ (0 < Mmany ∧ ∀ g, 0 ≤ g → g < Mmany → ∀ i, 0 ≤ i → i < Mcells → ¬ lowP Mwire (Mguest (5 * g + 3)) i) ∧ u9.1 = 0 ∧ u9.2.2.1 = Mruns ∧ u9.2.2.2.1 = Mminute ∧ u9.2.2.2.2.2.2.2.2.2.2.2 = MlastOut ∧ u9.2.2.2.2.1 = Mhead ∧ u9.2.2.2.2.2.1 = Mplays ∧ u9.2.2.2.2.2.2.1 = Mrests ∧ u9.2.2.2.2.2.2.2.1 = Mwent ∧ u9.2.2.2.2.2.2.2.2.1 = Mout ∧ u9.2.2.2.2.2.2.2.2.2.1 = Mcame ∧ u9.2.2.2.2.2.2.2.2.2.2.1 = Mgone)) ∧ (u9.2.1 = 0))) (fun u9 t9 => zAt D cI cB cZ (va_A (kM cI cB cZ oM Mthrown Mmany Mguest Mrow Mbars Mbar Mfresh Mtape Mtaped Mpos Mtoken MtokenAt Mvalue Mwrong MwrongAt MfaultKind MfaultPlace Mthing Morder Mone Mtwo Mbest Mcells Mgap Mwire Mstand Mruns Mminute Mhead Mplays Mrests Mwent Mout Mcame Mgone MlastOut) sz) (kM cI cB cZ oM (u9.2.1) Mmany Mguest Mrow Mbars Mbar Mfresh Mtape Mtaped Mpos Mtoken MtokenAt Mvalue Mwrong MwrongAt MfaultKind MfaultPlace Mthing Morder Mone Mtwo Mbest Mcells Mgap Mwire Mstand (u9.2.2.1) (u9.2.2.2.1) (u9.2.2.2.2.1) (u9.2.2.2.2.2.1) (u9.2.2.2.2.2.2.1) (u9.2.2.2.2.2.2.2.1) (u9.2.2.2.2.2.2.2.2.1) (u9.2.2.2.2.2.2.2.2.2.1) (u9.2.2.2.2.2.2.2.2.2.2.1) (u9.2.2.2.2.2.2.2.2.2.2.2)) t9) (va_A (kM cI cB cZ oM Mthrown Mmany Mguest Mrow Mbars Mbar Mfresh Mtape Mtaped Mpos Mtoken MtokenAt Mvalue Mwrong MwrongAt MfaultKind MfaultPlace Mthing Morder Mone Mtwo Mbest Mcells Mgap Mwire Mstand Mruns Mminute Mhead Mplays Mrests Mwent Mout Mcame Mgone MlastOut) sz)) 0 0 (va_A (kM cI cB cZ oM Mthrown Mmany Mguest Mrow Mbars Mbar Mfresh Mtape Mtaped Mpos Mtoken MtokenAt Mvalue Mwrong MwrongAt MfaultKind MfaultPlace Mthing Morder Mone Mtwo Mbest Mcells Mgap Mwire Mstand Mruns Mminute Mhead Mplays Mrests Mwent Mout Mcame Mgone MlastOut) sz) := by
  refine Met.ofW (cc := cX8_begin) (maxL := 2) (ret := (some .boolean)) (by decide) rfl ?_
  intro pp ee s mm aa bw mt cd s₁ BL hml hv
  obtain ⟨rfl, hsz, hP, hK, hD0⟩ := hv
  have hx := BL.exec
  have hb := BL.bytes
  have hr := BL.returns
  have hts := atoms_spec (ws := wsX8_begin) BL.pre
  have hown : s.vm.findClass RX8 = some mm.cls := findClass_of_methodNamed BL.named
  have hlocks := BL.notSynchronized
  subst hsz
  generalize hAe : va_A (kM cI cB cZ oM Mthrown Mmany Mguest Mrow Mbars Mbar Mfresh Mtape Mtaped Mpos Mtoken MtokenAt Mvalue Mwrong MwrongAt MfaultKind MfaultPlace Mthing Morder Mone Mtwo Mbest Mcells Mgap Mwire Mstand Mruns Mminute Mhead Mplays Mrests Mwent Mout Mcame Mgone MlastOut) s.heap.size = A
  have hA : ∀ q : Nat, s.heap.size ≤ q → A q := fun q h => by rw [← hAe]; exact Or.inr h
  have hw : HW D A s.heap (kM cI cB cZ oM Mthrown Mmany Mguest Mrow Mbars Mbar Mfresh Mtape Mtaped Mpos Mtoken MtokenAt Mvalue Mwrong MwrongAt MfaultKind MfaultPlace Mthing Morder Mone Mtwo Mbest Mcells Mgap Mwire Mstand Mruns Mminute Mhead Mplays Mrests Mwent Mout Mcame Mgone MlastOut) s.heap [] := z_start hAe hP hD0
  clear hP hD0
  have hl := lv_entry ([.ref (oM 0)]) (n := 2) (Nat.le_of_ble_eq_true rfl)
  rw [lg_entry_eq]
  generalize (lg_sl ([.ref (oM 0)]) ++ List.replicate (2 - (lg_sl ([.ref (oM 0)])).length) Slot.unset).toArray = ls at hl ⊢
  have hl : lv_has ls 2 [(0, .ref (oM 0))] := hl
  have hinX8 : ∀ w ∈ wsX80, w ∈ wsX8_begin := by decide +kernel
  refine lv_aload_n hx hb dX8_begin_0 rfl (lv_at hl 0 rfl) ?_
  refine z_iconst hx hb dX8_begin_1 ?_
  refine z_put (D := D) (ci := 8) (v := .int (zI 0)) (ty := .int) (C := RX8) (T := TX8) (N := 36) (ws2 := kM cI cB cZ oM 0 Mmany Mguest Mrow Mbars Mbar Mfresh Mtape Mtaped Mpos Mtoken MtokenAt Mvalue Mwrong MwrongAt MfaultKind MfaultPlace Mthing Morder Mone Mtwo Mbest Mcells Mgap Mwire Mstand Mruns Mminute Mhead Mplays Mrests Mwent Mout Mcame Mgone MlastOut) hx hb hts hinX8 tyX8 tyX8_ok nmX8 hown hK hw 0 rfl rfl 0 (by decide) (hts (.fieldLink RX8 69 "CarnivalRoadModel" "thrown" "I") (by decide +kernel)) (fun _ h9 => h9) rfl (by decide +kernel) rfl rfl (Nat.le_of_ble_eq_true rfl) dX8_begin_2 rfl (fun H locs hw => ?_)
  refine lv_aload_n hx hb dX8_begin_5 rfl (lv_at hl 0 rfl) ?_
  refine va_get (D := D) (ci := 8) (v := .int (zI Mmany)) (C := RX8) (T := TX8) (N := 36) hx hb hts hinX8 hown hK hw.1 0 rfl rfl 1 (by decide) (hts (.fieldLink RX8 72 "CarnivalRoadModel" "many" "I") (by decide +kernel)) (fun _ h9 => h9) rfl dX8_begin_6 ?_
  refine z_if_ne (tgt := 14) hx hb dX8_begin_9 (by decide) (by omega) (fun hc_1 => ?_) (fun hc_1 => ?_)
  · skip
    refine z_iconst hx hb dX8_begin_14 ?_
    refine lv_istore_n (lv' := [(1, .int (zI 0)), (0, .ref (oM 0))]) hx hb dX8_begin_15 rfl hl (by decide) rfl (fun ls hl => ?_)
    have hv_2 : 0 ≤ (0 : Int) ∧ (0 : Int) ≤ Mmany := by
      first | assumption | omega | grind
    have hv_3 : ∀ a, 0 ≤ a → a < (0 : Int) → ∀ i, 0 ≤ i → i < Mcells → ¬ lowP Mwire (Mguest (5 * a + 3)) i := by
      exact all_0
    refine z_loop (σ := Int) (μ := fun x9 => (9 - x9).toNat) (I := fun x9 H locs ls => (0 ≤ x9 ∧ x9 ≤ Mmany) ∧ (∀ a, 0 ≤ a → a < x9 → ∀ i, 0 ≤ i → i < Mcells → ¬ lowP Mwire (Mguest (5 * a + 3)) i) ∧ HW D A s.heap (kM cI cB cZ oM 0 Mmany Mguest Mrow Mbars Mbar Mfresh Mtape Mtaped Mpos Mtoken MtokenAt Mvalue Mwrong MwrongAt MfaultKind MfaultPlace Mthing Morder Mone Mtwo Mbest Mcells Mgap Mwire Mstand Mruns Mminute Mhead Mplays Mrests Mwent Mout Mcame Mgone MlastOut) H locs ∧ lv_has ls 2 [(0, .ref (oM 0)), (1, .int (zI x9))]) 0 ⟨hv_2, hv_3, hw, lv_sub hl [1, 0] rfl⟩ ?_
    clear hw hl
    intro g_5 H locs ls hI ih_4
    try dsimp only at hI
    obtain ⟨hI_6, hI_7, hw, hl⟩ := hI
    refine lv_iload_n hx hb dX8_begin_16 rfl (lv_at hl 1 rfl) ?_
    refine lv_aload_n hx hb dX8_begin_17 rfl (lv_at hl 0 rfl) ?_
    refine va_get (D := D) (ci := 8) (v := .int (zI Mmany)) (C := RX8) (T := TX8) (N := 36) hx hb hts hinX8 hown hK hw.1 0 rfl rfl 1 (by decide) (hts (.fieldLink RX8 72 "CarnivalRoadModel" "many" "I") (by decide +kernel)) (fun _ h9 => h9) rfl dX8_begin_18 ?_
    refine z_icmp_ge (tgt := 41) hx hb dX8_begin_21 (by decide) (by omega) (fun hc_8 => ?_) (fun hc_8 => ?_)
    · skip
      refine lv_aload_n hx hb dX8_begin_41 rfl (lv_at hl 0 rfl) ?_
      refine z_iconst hx hb dX8_begin_42 ?_
      refine z_put (D := D) (ci := 8) (v := .int (zI 1)) (ty := .boolean) (C := RX8) (T := TX8) (N := 36) (ws2 := kM cI cB cZ oM 0 Mmany Mguest Mrow Mbars Mbar Mfresh Mtape Mtaped Mpos Mtoken MtokenAt Mvalue Mwrong MwrongAt MfaultKind MfaultPlace Mthing Morder Mone Mtwo Mbest Mcells Mgap Mwire Mstand 1 Mminute Mhead Mplays Mrests Mwent Mout Mcame Mgone MlastOut) hx hb hts hinX8 tyX8 tyX8_ok nmX8 hown hK hw 0 rfl rfl 26 (by decide) (hts (.fieldLink RX8 79 "CarnivalRoadModel" "runs" "Z") (by decide +kernel)) (fun _ h9 => h9) rfl (by decide +kernel) rfl rfl (Nat.le_of_ble_eq_true rfl) dX8_begin_43 rfl (fun H locs hw => ?_)
      refine lv_aload_n hx hb dX8_begin_46 rfl (lv_at hl 0 rfl) ?_
      refine z_iconst hx hb dX8_begin_47 ?_
      refine z_put (D := D) (ci := 8) (v := .int (zI 0)) (ty := .int) (C := RX8) (T := TX8) (N := 36) (ws2 := kM cI cB cZ oM 0 Mmany Mguest Mrow Mbars Mbar Mfresh Mtape Mtaped Mpos Mtoken MtokenAt Mvalue Mwrong MwrongAt MfaultKind MfaultPlace Mthing Morder Mone Mtwo Mbest Mcells Mgap Mwire Mstand 1 0 Mhead Mplays Mrests Mwent Mout Mcame Mgone MlastOut) hx hb hts hinX8 tyX8 tyX8_ok nmX8 hown hK hw 0 rfl rfl 27 (by decide) (hts (.fieldLink RX8 208 "CarnivalRoadModel" "minute" "I") (by decide +kernel)) (fun _ h9 => h9) rfl (by decide +kernel) rfl rfl (Nat.le_of_ble_eq_true rfl) dX8_begin_48 rfl (fun H locs hw => ?_)
      refine lv_aload_n hx hb dX8_begin_51 rfl (lv_at hl 0 rfl) ?_
      refine z_iconst hx hb dX8_begin_52 ?_
      refine z_put (D := D) (ci := 8) (v := .int (zI 0)) (ty := .int) (C := RX8) (T := TX8) (N := 36) (ws2 := kM cI cB cZ oM 0 Mmany Mguest Mrow Mbars Mbar Mfresh Mtape Mtaped Mpos Mtoken MtokenAt Mvalue Mwrong MwrongAt MfaultKind MfaultPlace Mthing Morder Mone Mtwo Mbest Mcells Mgap Mwire Mstand 1 0 Mhead Mplays Mrests Mwent Mout Mcame Mgone 0) hx hb hts hinX8 tyX8 tyX8_ok nmX8 hown hK hw 0 rfl rfl 35 (by decide) (hts (.fieldLink RX8 211 "CarnivalRoadModel" "lastOut" "I") (by decide +kernel)) (fun _ h9 => h9) rfl (by decide +kernel) rfl rfl (Nat.le_of_ble_eq_true rfl) dX8_begin_53 rfl (fun H locs hw => ?_)
      refine z_iconst hx hb dX8_begin_56 ?_
      refine lv_istore_n (lv' := [(1, .int (zI 0)), (0, .ref (oM 0))]) hx hb dX8_begin_57 rfl hl (by decide) rfl (fun ls hl => ?_)
      have hv_9 : 0 ≤ (0 : Int) ∧ (0 : Int) ≤ Mmany := by
        first | assumption | omega | grind
      have hv_10 : ∀ a, 0 ≤ a → a < (0 : Int) → Mhead a = -1 ∧ Mplays a = 0 ∧ Mrests a = 0 ∧ Mwent a = 0 ∧ Mout a = 0 ∧ Mcame a = -1 ∧ Mgone a = -1 := by
        exact all_0
      refine z_loop (σ := Int × (Int → Int) × (Int → Int) × (Int → Int) × (Int → Int) × (Int → Int) × (Int → Int) × (Int → Int)) (μ := fun x9 => (9 - (x9.1)).toNat) (I := fun x9 H locs ls => (RA (x9.2.1) (-1) 60) ∧ (RA (x9.2.2.1) (0) 18) ∧ (RA (x9.2.2.2.1) (0) 3) ∧ (RA (x9.2.2.2.2.1) (0) 61) ∧ (RA (x9.2.2.2.2.2.1) (0) 1) ∧ (RA (x9.2.2.2.2.2.2.1) (-1) 1000000) ∧ (RA (x9.2.2.2.2.2.2.2) (-1) 1000000) ∧ (0 ≤ (x9.1) ∧ (x9.1) ≤ Mmany) ∧ (∀ a, 0 ≤ a → a < (x9.1) → (x9.2.1) a = -1 ∧ (x9.2.2.1) a = 0 ∧ (x9.2.2.2.1) a = 0 ∧ (x9.2.2.2.2.1) a = 0 ∧ (x9.2.2.2.2.2.1) a = 0 ∧ (x9.2.2.2.2.2.2.1) a = -1 ∧ (x9.2.2.2.2.2.2.2) a = -1) ∧ HW D A s.heap (kM cI cB cZ oM 0 Mmany Mguest Mrow Mbars Mbar Mfresh Mtape Mtaped Mpos Mtoken MtokenAt Mvalue Mwrong MwrongAt MfaultKind MfaultPlace Mthing Morder Mone Mtwo Mbest Mcells Mgap Mwire Mstand 1 0 (x9.2.1) (x9.2.2.1) (x9.2.2.2.1) (x9.2.2.2.2.1) (x9.2.2.2.2.2.1) (x9.2.2.2.2.2.2.1) (x9.2.2.2.2.2.2.2) 0) H locs ∧ lv_has ls 2 [(0, .ref (oM 0)), (1, .int (zI (x9.1)))]) (0, Mhead, Mplays, Mrests, Mwent, Mout, Mcame, Mgone) ⟨qMhead, qMplays, qMrests, qMwent, qMout, qMcame, qMgone, hv_9, hv_10, hw, lv_sub hl [1, 0] rfl⟩ ?_
      clear hw hl
      intro x9 H locs ls hI ih_11
      obtain ⟨g_12, Mhead_13, Mplays_14, Mrests_15, Mwent_16, Mout_17, Mcame_18, Mgone_19⟩ := x9
      try dsimp only at hI
      obtain ⟨hR_20, hR_21, hR_22, hR_23, hR_24, hR_25, hR_26, hI_27, hI_28, hw, hl⟩ := hI
      refine lv_iload_n hx hb dX8_begin_58 rfl (lv_at hl 1 rfl) ?_
      refine lv_aload_n hx hb dX8_begin_59 rfl (lv_at hl 0 rfl) ?_
      refine va_get (D := D) (ci := 8) (v := .int (zI Mmany)) (C := RX8) (T := TX8) (N := 36) hx hb hts hinX8 hown hK hw.1 0 rfl rfl 1 (by decide) (hts (.fieldLink RX8 72 "CarnivalRoadModel" "many" "I") (by decide +kernel)) (fun _ h9 => h9) rfl dX8_begin_60 ?_
      refine z_icmp_ge (tgt := 91) hx hb dX8_begin_63 (by decide) (by omega) (fun hc_29 => ?_) (fun hc_29 => ?_)
      · skip
        refine z_iconst hx hb dX8_begin_91 ?_
        have hv_30 : (0 : Int) ≤ (0 : Int) ∧ (0 : Int) ≤ 2 := by
          first | assumption | omega | grind
        have hv_31 : (0 : Int) ≤ (1 : Int) ∧ (1 : Int) ≤ 1 := by
          first | assumption | omega | grind
        have hv_32 : (0 : Int) ≤ (0 : Int) ∧ (0 : Int) ≤ 1000000 := by
          first | assumption | omega | grind
        have hv_33 : (0 : Int) ≤ (0 : Int) ∧ (0 : Int) ≤ 1000000 := by
          first | assumption | omega | grind
        have hv_34 : ((0 < Mmany ∧ ∀ g, 0 ≤ g → g < Mmany → ∀ i, 0 ≤ i → i < Mcells → ¬ lowP Mwire (Mguest (5 * g + 3)) i) ∧ (1 : Int) = 1 ∧ (1 : Int) = 1 ∧ (0 : Int) = 0 ∧ (0 : Int) = 0 ∧ ∀ g, 0 ≤ g → g < Mmany → Mhead_13 g = -1 ∧ Mplays_14 g = 0 ∧ Mrests_15 g = 0 ∧ Mwent_16 g = 0 ∧ Mout_17 g = 0 ∧ Mcame_18 g = -1 ∧ Mgone_19 g = -1) ∨ (¬ (0 < Mmany ∧ ∀ g, 0 ≤ g → g < Mmany → ∀ i, 0 ≤ i → i < Mcells → ¬ lowP Mwire (Mguest (5 * g + 3)) i) ∧ (1 : Int) = 0 ∧ (1 : Int) = Mruns ∧ (0 : Int) = Mminute ∧ (0 : Int) = MlastOut ∧ Mhead_13 = Mhead ∧ Mplays_14 = Mplays ∧ Mrests_15 = Mrests ∧ Mwent_16 = Mwent ∧ Mout_17 = Mout ∧ Mcame_18 = Mcame ∧ Mgone_19 = Mgone) := by
          exact Or.inl ⟨⟨by omega, all_le (P := fun a => ∀ i, 0 ≤ i → i < Mcells → ¬ lowP Mwire (Mguest (5 * a + 3)) i) (by assumption) (by omega)⟩, rfl, rfl, rfl, rfl, all_le (by assumption) (by omega)⟩
        have hv_35 : (0 : Int) = 0 := by
          rfl
        exact W.zret (v := zI 1) hx hb hr rfl (fun t9 ht hW => ⟨⟨zI 1, (1, 0, 1, 0, Mhead_13, Mplays_14, Mrests_15, Mwent_16, Mout_17, Mcame_18, Mgone_19, 0), rfl, ⟨rfl, ⟨hv_30, hv_31, hv_32, hR_20, hR_21, hR_22, hR_23, hR_24, hR_25, hR_26, hv_33, hv_34, hv_35⟩⟩, by subst hAe; exact z_end hK hw ht hW⟩, by subst hAe; exact hw.2.2.F ht⟩) (by subst hAe; exact hw.2.2.2.2) dX8_begin_92
      · skip
        refine lv_aload_n hx hb dX8_begin_66 rfl (lv_at hl 0 rfl) ?_
        refine lv_iload_n hx hb dX8_begin_67 rfl (lv_at hl 1 rfl) ?_
        have hF9 := z_free (wc := kM cI cB cZ oM 0 Mmany Mguest Mrow Mbars Mbar Mfresh Mtape Mtaped Mpos Mtoken MtokenAt Mvalue Mwrong MwrongAt MfaultKind MfaultPlace Mthing Morder Mone Mtwo Mbest Mcells Mgap Mwire Mstand 1 0 Mhead_13 Mplays_14 Mrests_15 Mwent_16 Mout_17 Mcame_18 Mgone_19 0) hw hA [0, 1, 2, 3, 4, 5, 6, 7, 8, 9, 10, 11, 12, 13, 14, 15, 16] rfl
        refine va_callv (va_runV (As := [.int (zI g_12)]) (rest := []) ⟨hx, hb, hml, hown, hts⟩ (c_X8_clear l D cI cB cZ oM H.size 0 Mmany Mguest Mrow Mbars Mbar Mfresh Mtape Mtaped Mpos Mtoken MtokenAt Mvalue Mwrong MwrongAt MfaultKind MfaultPlace Mthing Morder Mone Mtwo Mbest Mcells Mgap Mwire Mstand 1 0 Mhead_13 Mplays_14 Mrests_15 Mwent_16 Mout_17 Mcame_18 Mgone_19 0 g_12 (by omega) (by omega) qMguest qMrow (by omega) qMbar qMfresh qMtape (by omega) (by omega) (by omega) (by omega) (by omega) (by omega) (by omega) (by omega) (by omega) (by omega) qMorder (by omega) (by omega) qMbest (by omega) (by omega) qMwire qMstand (by omega) (by omega) hR_20 hR_21 hR_22 hR_23 hR_24 hR_25 hR_26 (by omega) (by omega)) (cwV 1 hts gX8_begin_X8_clear rfl rfl rfl (by decide +kernel) ⟨Nat.le_of_ble_eq_true rfl, Nat.le_of_ble_eq_true rfl⟩) ⟨zPre_blind, va_recv hK hw.1 (ci := 8) (q0 := 0) rfl rfl, z_pre hK hw [0, 1, 2, 3, 4, 5, 6, 7, 8, 9, 10, 11, 12, 13, 14, 15, 16] (by decide) rfl⟩ rfl rfl hl.1 rfl (lv_room (Nat.le_of_ble_eq_true rfl)) dX8_begin_68 ⟨Nat.zero_le _, Nat.zero_le _⟩) hw.2.2 (fun q _ h => hF9 q h) hF9 (fun u9 t9 H_36 locs9 ht9 hvm9 hq9 hB9 hz9 hk9 hS9 => ?_)
        obtain ⟨Mhead_37, Mplays_38, Mrests_39, Mwent_40, Mout_41⟩ := u9
        try dsimp only at hq9 hB9
        obtain ⟨hq_42, hq_43, hq_44, hq_45, hq_46, hq_47, hq_48, hq_49, hq_50, hq_51⟩ := hq9
        have hw : HW D A s.heap (kM cI cB cZ oM 0 Mmany Mguest Mrow Mbars Mbar Mfresh Mtape Mtaped Mpos Mtoken MtokenAt Mvalue Mwrong MwrongAt MfaultKind MfaultPlace Mthing Morder Mone Mtwo Mbest Mcells Mgap Mwire Mstand 1 0 Mhead_37 Mplays_38 Mrests_39 Mwent_40 Mout_41 Mcame_18 Mgone_19 0) H_36 locs9 := z_after (wc := kM cI cB cZ oM 0 Mmany Mguest Mrow Mbars Mbar Mfresh Mtape Mtaped Mpos Mtoken MtokenAt Mvalue Mwrong MwrongAt MfaultKind MfaultPlace Mthing Morder Mone Mtwo Mbest Mcells Mgap Mwire Mstand 1 0 Mhead_13 Mplays_14 Mrests_15 Mwent_16 Mout_17 Mcame_18 Mgone_19 0) hw [0, 1, 2, 3, 4, 5, 6, 7, 8, 9, 10, 11, 12, 13, 14, 15, 16] [] rfl rfl (by decide) (by decide) hF9 hk9 ht9 hB9 hS9 [0, 1, 2, 3, 4, 5, 6, 7, 8, 9, 10, 11, 12, 13, 14, 15, 16] (by decide) rfl
        clear hF9 ht9 hvm9 hB9 hz9 hk9 hS9
        refine lv_aload_n hx hb dX8_begin_71 rfl (lv_at hl 0 rfl) ?_
        refine va_get (D := D) (ci := 8) (v := .ref (oM 15)) (C := RX8) (T := TX8) (N := 36) hx hb hts hinX8 hown hK hw.1 0 rfl rfl 33 (by decide) (hts (.fieldLink RX8 63 "CarnivalRoadModel" "came" "[I") (by decide +kernel)) (fun _ h9 => h9) rfl dX8_begin_72 ?_
        refine lv_iload_n hx hb dX8_begin_75 rfl (lv_at hl 1 rfl) ?_
        refine z_iconst hx hb dX8_begin_76 ?_
        have hi_52 : (0 : Int) ≤ g_12 ∧ g_12 < ((8 : Nat) : Int) := by
          first | assumption | omega | grind
        have hv_53 : (-1 : Int) ≤ (-1 : Int) ∧ (-1 : Int) ≤ 1000000 := by
          first | assumption | omega | grind
        have hR_54 : RA (uZ Mcame_18 g_12 (-1)) (-1) 1000000 := RA_up hR_25 hv_53
        refine z_iast (n := 8) (f := Mcame_18) (ws2 := kM cI cB cZ oM 0 Mmany Mguest Mrow Mbars Mbar Mfresh Mtape Mtaped Mpos Mtoken MtokenAt Mvalue Mwrong MwrongAt MfaultKind MfaultPlace Mthing Morder Mone Mtwo Mbest Mcells Mgap Mwire Mstand 1 0 Mhead_37 Mplays_38 Mrests_39 Mwent_40 Mout_41 (uZ Mcame_18 g_12 (-1)) Mgone_19 0) hx hb hK hw 15 rfl (by decide) hi_52 dX8_begin_77 rfl (fun H locs hw => ?_)
        refine lv_aload_n hx hb dX8_begin_78 rfl (lv_at hl 0 rfl) ?_
        refine va_get (D := D) (ci := 8) (v := .ref (oM 16)) (C := RX8) (T := TX8) (N := 36) hx hb hts hinX8 hown hK hw.1 0 rfl rfl 34 (by decide) (hts (.fieldLink RX8 66 "CarnivalRoadModel" "gone" "[I") (by decide +kernel)) (fun _ h9 => h9) rfl dX8_begin_79 ?_
        refine lv_iload_n hx hb dX8_begin_82 rfl (lv_at hl 1 rfl) ?_
        refine z_iconst hx hb dX8_begin_83 ?_
        have hi_55 : (0 : Int) ≤ g_12 ∧ g_12 < ((8 : Nat) : Int) := by
          first | assumption | omega | grind
        have hv_56 : (-1 : Int) ≤ (-1 : Int) ∧ (-1 : Int) ≤ 1000000 := by
          first | assumption | omega | grind
        have hR_57 : RA (uZ Mgone_19 g_12 (-1)) (-1) 1000000 := RA_up hR_26 hv_56
        refine z_iast (n := 8) (f := Mgone_19) (ws2 := kM cI cB cZ oM 0 Mmany Mguest Mrow Mbars Mbar Mfresh Mtape Mtaped Mpos Mtoken MtokenAt Mvalue Mwrong MwrongAt MfaultKind MfaultPlace Mthing Morder Mone Mtwo Mbest Mcells Mgap Mwire Mstand 1 0 Mhead_37 Mplays_38 Mrests_39 Mwent_40 Mout_41 (uZ Mcame_18 g_12 (-1)) (uZ Mgone_19 g_12 (-1)) 0) hx hb hK hw 16 rfl (by decide) hi_55 dX8_begin_84 rfl (fun H locs hw => ?_)
        refine z_iinc (k := 1) (lv' := [(1, .int (zI (g_12 + 1))), (0, .ref (oM 0))]) hx hb dX8_begin_85 hl rfl (by decide) rfl (fun ls hl => ?_)
        refine lv_goto (tgt := 58) hx hb dX8_begin_88 (by decide) ?_
        have hv_58 : 0 ≤ (g_12 + 1) ∧ (g_12 + 1) ≤ Mmany := by
          first | assumption | omega | grind
        have hv_59 : ∀ a, 0 ≤ a → a < (g_12 + 1) → Mhead_37 a = -1 ∧ Mplays_38 a = 0 ∧ Mrests_39 a = 0 ∧ Mwent_40 a = 0 ∧ Mout_41 a = 0 ∧ (uZ Mcame_18 g_12 (-1)) a = -1 ∧ (uZ Mgone_19 g_12 (-1)) a = -1 := by
          subst_vars
          refine all_s (fun k k0 k1 => ?_) ⟨uZ_s, uZ_s, uZ_s, uZ_s, uZ_s, uZ_s, uZ_s⟩
          rw [uZ_n (by omega), uZ_n (by omega), uZ_n (by omega), uZ_n (by omega), uZ_n (by omega), uZ_n (by omega), uZ_n (by omega)]
          revert k1
          revert k0
          revert k
          assumption
        have hm_60 : (9 - (g_12 + 1)).toNat < (9 - g_12).toNat := by
          first | assumption | omega | grind
        exact ih_11 ((g_12 + 1), Mhead_37, Mplays_38, Mrests_39, Mwent_40, Mout_41, (uZ Mcame_18 g_12 (-1)), (uZ Mgone_19 g_12 (-1))) _ _ _ ⟨hq_42, hq_43, hq_44, hq_45, hq_46, hR_54, hR_57, hv_58, hv_59, hw, lv_sub hl [1, 0] rfl⟩ hm_60
    · skip
      refine lv_aload_n hx hb dX8_begin_24 rfl (lv_at hl 0 rfl) ?_
      refine lv_iload_n hx hb dX8_begin_25 rfl (lv_at hl 1 rfl) ?_
      have hF9 := z_free (wc := kM cI cB cZ oM 0 Mmany Mguest Mrow Mbars Mbar Mfresh Mtape Mtaped Mpos Mtoken MtokenAt Mvalue Mwrong MwrongAt MfaultKind MfaultPlace Mthing Morder Mone Mtwo Mbest Mcells Mgap Mwire Mstand Mruns Mminute Mhead Mplays Mrests Mwent Mout Mcame Mgone MlastOut) hw hA [0, 1, 2, 3, 4, 5, 6, 7, 8, 9, 10, 11, 12, 13, 14, 15, 16] rfl
      refine va_calli (va_runV (As := [.int (zI g_5)]) (rest := []) ⟨hx, hb, hml, hown, hts⟩ (c_X8_stops l D cI cB cZ oM H.size 0 Mmany Mguest Mrow Mbars Mbar Mfresh Mtape Mtaped Mpos Mtoken MtokenAt Mvalue Mwrong MwrongAt MfaultKind MfaultPlace Mthing Morder Mone Mtwo Mbest Mcells Mgap Mwire Mstand Mruns Mminute Mhead Mplays Mrests Mwent Mout Mcame Mgone MlastOut g_5 (by omega) (by omega) qMguest qMrow (by omega) qMbar qMfresh qMtape (by omega) (by omega) (by omega) (by omega) (by omega) (by omega) (by omega) (by omega) (by omega) (by omega) qMorder (by omega) (by omega) qMbest (by omega) (by omega) qMwire qMstand (by omega) (by omega) qMhead qMplays qMrests qMwent qMout qMcame qMgone (by omega) (by omega)) (cwV 1 hts gX8_begin_X8_stops rfl rfl rfl (by decide +kernel) ⟨Nat.le_of_ble_eq_true rfl, Nat.le_of_ble_eq_true rfl⟩) ⟨zPre_blind, va_recv hK hw.1 (ci := 8) (q0 := 0) rfl rfl, z_pre hK hw [0, 1, 2, 3, 4, 5, 6, 7, 8, 9, 10, 11, 12, 13, 14, 15, 16] (by decide) rfl⟩ rfl rfl hl.1 rfl (lv_room (Nat.le_of_ble_eq_true rfl)) dX8_begin_26 ⟨Nat.zero_le _, Nat.zero_le _⟩) hw.2.2 (fun q _ h => hF9 q h) hF9 (fun r9 u9 t9 H_61 locs9 ht9 hvm9 hq9 hB9 hz9 hk9 hS9 => ?_)
      obtain ⟨r_62, rfl⟩ : ∃ z, z = u9 := ⟨_, rfl⟩
      try dsimp only at hq9 hB9
      obtain ⟨rfl, hq9⟩ := hq9
      obtain ⟨hq_63, hq_64⟩ := hq9
      have hw : HW D A s.heap (kM cI cB cZ oM 0 Mmany Mguest Mrow Mbars Mbar Mfresh Mtape Mtaped Mpos Mtoken MtokenAt Mvalue Mwrong MwrongAt MfaultKind MfaultPlace Mthing Morder Mone Mtwo Mbest Mcells Mgap Mwire Mstand Mruns Mminute Mhead Mplays Mrests Mwent Mout Mcame Mgone MlastOut) H_61 locs9 := z_after (wc := kM cI cB cZ oM 0 Mmany Mguest Mrow Mbars Mbar Mfresh Mtape Mtaped Mpos Mtoken MtokenAt Mvalue Mwrong MwrongAt MfaultKind MfaultPlace Mthing Morder Mone Mtwo Mbest Mcells Mgap Mwire Mstand Mruns Mminute Mhead Mplays Mrests Mwent Mout Mcame Mgone MlastOut) hw [0, 1, 2, 3, 4, 5, 6, 7, 8, 9, 10, 11, 12, 13, 14, 15, 16] [] rfl rfl (by decide) (by decide) hF9 hk9 ht9 hB9 hS9 [0, 1, 2, 3, 4, 5, 6, 7, 8, 9, 10, 11, 12, 13, 14, 15, 16] (by decide) rfl
      clear hF9 ht9 hvm9 hB9 hz9 hk9 hS9
      refine z_iconst hx hb dX8_begin_29 ?_
      refine z_icmp_eq (tgt := 35) hx hb dX8_begin_30 (by decide) (by omega) (fun hc_65 => ?_) (fun hc_65 => ?_)
      · skip
        refine z_iinc (k := 1) (lv' := [(1, .int (zI (g_5 + 1))), (0, .ref (oM 0))]) hx hb dX8_begin_35 hl rfl (by decide) rfl (fun ls hl => ?_)
        refine lv_goto (tgt := 16) hx hb dX8_begin_38 (by decide) ?_
        have hv_66 : 0 ≤ (g_5 + 1) ∧ (g_5 + 1) ≤ Mmany := by
          first | assumption | omega | grind
        have hv_67 : ∀ a, 0 ≤ a → a < (g_5 + 1) → ∀ i, 0 ≤ i → i < Mcells → ¬ lowP Mwire (Mguest (5 * a + 3)) i := by
          refine all_s (P := fun a => ∀ i, 0 ≤ i → i < Mcells → ¬ lowP Mwire (Mguest (5 * a + 3)) i) (by assumption) ?_
          exact fst_m1 (by assumption) (by omega)
        have hm_68 : (9 - (g_5 + 1)).toNat < (9 - g_5).toNat := by
          first | assumption | omega | grind
        exact ih_4 (g_5 + 1) _ _ _ ⟨hv_66, hv_67, hw, lv_sub hl [1, 0] rfl⟩ hm_68
      · skip
        refine z_iconst hx hb dX8_begin_33 ?_
        have hv_69 : (0 : Int) ≤ (0 : Int) ∧ (0 : Int) ≤ 2 := by
          first | assumption | omega | grind
        have hv_70 : (0 : Int) ≤ Mruns ∧ Mruns ≤ 1 := by
          first | assumption | omega | grind
        have hv_71 : (0 : Int) ≤ Mminute ∧ Mminute ≤ 1000000 := by
          first | assumption | omega | grind
        have hv_72 : (0 : Int) ≤ MlastOut ∧ MlastOut ≤ 1000000 := by
          first | assumption | omega | grind
        have hv_73 : ((0 < Mmany ∧ ∀ g, 0 ≤ g → g < Mmany → ∀ i, 0 ≤ i → i < Mcells → ¬ lowP Mwire (Mguest (5 * g + 3)) i) ∧ (0 : Int) = 1 ∧ Mruns = 1 ∧ Mminute = 0 ∧ MlastOut = 0 ∧ ∀ g, 0 ≤ g → g < Mmany → Mhead g = -1 ∧ Mplays g = 0 ∧ Mrests g = 0 ∧ Mwent g = 0 ∧ Mout g = 0 ∧ Mcame g = -1 ∧ Mgone g = -1) ∨ (¬ (0 < Mmany ∧ ∀ g, 0 ≤ g → g < Mmany → ∀ i, 0 ≤ i → i < Mcells → ¬ lowP Mwire (Mguest (5 * g + 3)) i) ∧ (0 : Int) = 0 ∧ Mruns = Mruns ∧ Mminute = Mminute ∧ MlastOut = MlastOut ∧ Mhead = Mhead ∧ Mplays = Mplays ∧ Mrests = Mrests ∧ Mwent = Mwent ∧ Mout = Mout ∧ Mcame = Mcame ∧ Mgone = Mgone) := by
          refine Or.inr ⟨fun q => ?_, rfl, rfl, rfl, rfl, rfl, rfl, rfl, rfl, rfl, rfl, rfl⟩
          exact fst_ne (by assumption) (by omega) (q.2 g_5 (by omega) (by omega))
        have hv_74 : (0 : Int) = 0 := by
          rfl
        exact W.zret (v := zI 0) hx hb hr rfl (fun t9 ht hW => ⟨⟨zI 0, (0, 0, Mruns, Mminute, Mhead, Mplays, Mrests, Mwent, Mout, Mcame, Mgone, MlastOut), rfl, ⟨rfl, ⟨hv_69, hv_70, hv_71, qMhead, qMplays, qMrests, qMwent, qMout, qMcame, qMgone, hv_72, hv_73, hv_74⟩⟩, by subst hAe; exact z_end hK hw ht hW⟩, by subst hAe; exact hw.2.2.F ht⟩) (by subst hAe; exact hw.2.2.2.2) dX8_begin_34
  · skip
    refine z_iconst hx hb dX8_begin_12 ?_
    have hv_75 : (0 : Int) ≤ (0 : Int) ∧ (0 : Int) ≤ 2 := by
      first | assumption | omega | grind
    have hv_76 : (0 : Int) ≤ Mruns ∧ Mruns ≤ 1 := by
      first | assumption | omega | grind
    have hv_77 : (0 : Int) ≤ Mminute ∧ Mminute ≤ 1000000 := by
      first | assumption | omega | grind
    have hv_78 : (0 : Int) ≤ MlastOut ∧ MlastOut ≤ 1000000 := by
      first | assumption | omega | grind
    have hv_79 : ((0 < Mmany ∧ ∀ g, 0 ≤ g → g < Mmany → ∀ i, 0 ≤ i → i < Mcells → ¬ lowP Mwire (Mguest (5 * g + 3)) i) ∧ (0 : Int) = 1 ∧ Mruns = 1 ∧ Mminute = 0 ∧ MlastOut = 0 ∧ ∀ g, 0 ≤ g → g < Mmany → Mhead g = -1 ∧ Mplays g = 0 ∧ Mrests g = 0 ∧ Mwent g = 0 ∧ Mout g = 0 ∧ Mcame g = -1 ∧ Mgone g = -1) ∨ (¬ (0 < Mmany ∧ ∀ g, 0 ≤ g → g < Mmany → ∀ i, 0 ≤ i → i < Mcells → ¬ lowP Mwire (Mguest (5 * g + 3)) i) ∧ (0 : Int) = 0 ∧ Mruns = Mruns ∧ Mminute = Mminute ∧ MlastOut = MlastOut ∧ Mhead = Mhead ∧ Mplays = Mplays ∧ Mrests = Mrests ∧ Mwent = Mwent ∧ Mout = Mout ∧ Mcame = Mcame ∧ Mgone = Mgone) := by
      exact Or.inr ⟨fun q => absurd q.1 (by omega), rfl, rfl, rfl, rfl, rfl, rfl, rfl, rfl, rfl, rfl, rfl⟩
    have hv_80 : (0 : Int) = 0 := by
      rfl
    exact W.zret (v := zI 0) hx hb hr rfl (fun t9 ht hW => ⟨⟨zI 0, (0, 0, Mruns, Mminute, Mhead, Mplays, Mrests, Mwent, Mout, Mcame, Mgone, MlastOut), rfl, ⟨rfl, ⟨hv_75, hv_76, hv_77, qMhead, qMplays, qMrests, qMwent, qMout, qMcame, qMgone, hv_78, hv_79, hv_80⟩⟩, by subst hAe; exact z_end hK hw ht hW⟩, by subst hAe; exact hw.2.2.F ht⟩) (by subst hAe; exact hw.2.2.2.2) dX8_begin_13
set_option maxRecDepth 100000 in
set_option maxHeartbeats 4000000 in
theorem c_X8_minute (l : Launch) (D : va_G) (cI cB cZ : ClassId) (oM : Nat → Nat) (sz : Nat) (Mthrown : Int) (Mmany : Int) (Mguest : Int → Int) (Mrow : Int → Int) (Mbars : Int) (Mbar : Int → Int) (Mfresh : Int → Int) (Mtape : Int → Int) (Mtaped : Int) (Mpos : Int) (Mtoken : Int) (MtokenAt : Int) (Mvalue : Int) (Mwrong : Int) (MwrongAt : Int) (MfaultKind : Int) (MfaultPlace : Int) (Mthing : Int) (Morder : Int → Int) (Mone : Int) (Mtwo : Int) (Mbest : Int → Int) (Mcells : Int) (Mgap : Int) (Mwire : Int → Int) (Mstand : Int → Int) (Mruns : Int) (Mminute : Int) (Mhead : Int → Int) (Mplays : Int → Int) (Mrests : Int → Int) (Mwent : Int → Int) (Mout : Int → Int) (Mcame : Int → Int) (Mgone : Int → Int) (MlastOut : Int) (qMthrown : 0 ≤ Mthrown ∧ Mthrown ≤ 2) (qMmany : 0 ≤ Mmany ∧ Mmany ≤ 8) (qMguest : RA Mguest (0) 9) (qMrow : RA Mrow (0) 7) (qMbars : 0 ≤ Mbars ∧ Mbars ≤ 10) (qMbar : RA Mbar (0) 104) (qMfresh : RA Mfresh (0) 104) (qMtape : RA Mtape (0) 255) (qMtaped : 0 ≤ Mtaped ∧ Mtaped ≤ 400) (qMpos : 0 ≤ Mpos ∧ Mpos ≤ 400) (qMtoken : 0 ≤ Mtoken ∧ Mtoken ≤ 15) (qMtokenAt : 0 ≤ MtokenAt ∧ MtokenAt ≤ 400) (qMvalue : 0 ≤ Mvalue ∧ Mvalue ≤ 99) (qMwrong : 0 ≤ Mwrong ∧ Mwrong ≤ 3) (qMwrongAt : 0 ≤ MwrongAt ∧ MwrongAt ≤ 400) (qMfaultKind : 0 ≤ MfaultKind ∧ MfaultKind ≤ 3) (qMfaultPlace : -1 ≤ MfaultPlace ∧ MfaultPlace ≤ 400) (qMthing : 0 ≤ Mthing ∧ Mthing ≤ 104) (qMorder : RA Morder (0) 7) (qMone : 0 ≤ Mone ∧ Mone ≤ 8) (qMtwo : 0 ≤ Mtwo ∧ Mtwo ≤ 8) (qMbest : RA Mbest (0) 7) (qMcells : 1 ≤ Mcells ∧ Mcells ≤ 50) (qMgap : 0 ≤ Mgap ∧ Mgap ≤ 3) (qMwire : RA Mwire (0) 9) (qMstand : RA Mstand (0) 9) (qMruns : 0 ≤ Mruns ∧ Mruns ≤ 1) (qMminute : 0 ≤ Mminute ∧ Mminute ≤ 1000000) (qMhead : RA Mhead (-1) 60) (qMplays : RA Mplays (0) 18) (qMrests : RA Mrests (0) 3) (qMwent : RA Mwent (0) 61) (qMout : RA Mout (0) 1) (qMcame : RA Mcame (-1) 1000000) (qMgone : RA Mgone (-1) 1000000) (qMlastOut : 0 ≤ MlastOut ∧ MlastOut ≤ 1000000) : Met l yX8_minute wsX8_minute ({ frames := 1, cells := 0, slots := 0, locals := 22 }) (va_Pc [.ref (oM 0)] (zPre D cI cB cZ sz (kM cI cB cZ oM Mthrown Mmany Mguest Mrow Mbars Mbar Mfresh Mtape Mtaped Mpos Mtoken MtokenAt Mvalue Mwrong MwrongAt MfaultKind MfaultPlace Mthing Morder Mone Mtwo Mbest Mcells Mgap Mwire Mstand Mruns Mminute Mhead Mplays Mrests Mwent Mout Mcame Mgone MlastOut))) (va_Qi (fun (r9 : Int32) (u9 : Int × Int) => r9 = zI u9.1 ∧ (((0 : Int) ≤ u9.2 ∧ u9.2 ≤ 2) ∧ ((Mruns = 0 ∧ u9.2 = 1) ∨ (Mruns = 1 ∧ u9.2 = 0 ∧ u9.1 = Mminute)))) (fun u9 t9 => zAt D cI cB cZ (va_A (kM cI cB cZ oM Mthrown Mmany Mguest Mrow Mbars Mbar Mfresh Mtape Mtaped Mpos Mtoken MtokenAt Mvalue Mwrong MwrongAt MfaultKind MfaultPlace Mthing Morder Mone Mtwo Mbest Mcells Mgap Mwire Mstand Mruns Mminute Mhead Mplays Mrests Mwent Mout Mcame Mgone MlastOut) sz) (kM cI cB cZ oM (u9.2) Mmany Mguest Mrow Mbars Mbar Mfresh Mtape Mtaped Mpos Mtoken MtokenAt Mvalue Mwrong MwrongAt MfaultKind MfaultPlace Mthing Morder Mone Mtwo Mbest Mcells Mgap Mwire Mstand Mruns Mminute Mhead Mplays Mrests Mwent Mout Mcame Mgone MlastOut) t9) (va_A (kM cI cB cZ oM Mthrown Mmany Mguest Mrow Mbars Mbar Mfresh Mtape Mtaped Mpos Mtoken MtokenAt Mvalue Mwrong MwrongAt MfaultKind MfaultPlace Mthing Morder Mone Mtwo Mbest Mcells Mgap Mwire Mstand Mruns Mminute Mhead Mplays Mrests Mwent Mout Mcame Mgone MlastOut) sz)) 0 0 (va_A (kM cI cB cZ oM Mthrown Mmany Mguest Mrow Mbars Mbar Mfresh Mtape Mtaped Mpos Mtoken MtokenAt Mvalue Mwrong MwrongAt MfaultKind MfaultPlace Mthing Morder Mone Mtwo Mbest Mcells Mgap Mwire Mstand Mruns Mminute Mhead Mplays Mrests Mwent Mout Mcame Mgone MlastOut) sz) := by
  refine Met.ofW (cc := cX8_minute) (maxL := 1) (ret := (some .int)) (by decide) rfl ?_
  intro pp ee s mm aa bw mt cd s₁ BL hml hv
  obtain ⟨rfl, hsz, hP, hK, hD0⟩ := hv
  have hx := BL.exec
  have hb := BL.bytes
  have hr := BL.returns
  have hts := atoms_spec (ws := wsX8_minute) BL.pre
  have hown : s.vm.findClass RX8 = some mm.cls := findClass_of_methodNamed BL.named
  have hlocks := BL.notSynchronized
  subst hsz
  generalize hAe : va_A (kM cI cB cZ oM Mthrown Mmany Mguest Mrow Mbars Mbar Mfresh Mtape Mtaped Mpos Mtoken MtokenAt Mvalue Mwrong MwrongAt MfaultKind MfaultPlace Mthing Morder Mone Mtwo Mbest Mcells Mgap Mwire Mstand Mruns Mminute Mhead Mplays Mrests Mwent Mout Mcame Mgone MlastOut) s.heap.size = A
  have hA : ∀ q : Nat, s.heap.size ≤ q → A q := fun q h => by rw [← hAe]; exact Or.inr h
  have hw : HW D A s.heap (kM cI cB cZ oM Mthrown Mmany Mguest Mrow Mbars Mbar Mfresh Mtape Mtaped Mpos Mtoken MtokenAt Mvalue Mwrong MwrongAt MfaultKind MfaultPlace Mthing Morder Mone Mtwo Mbest Mcells Mgap Mwire Mstand Mruns Mminute Mhead Mplays Mrests Mwent Mout Mcame Mgone MlastOut) s.heap [] := z_start hAe hP hD0
  clear hP hD0
  have hl := lv_entry ([.ref (oM 0)]) (n := 1) (Nat.le_of_ble_eq_true rfl)
  rw [lg_entry_eq]
  generalize (lg_sl ([.ref (oM 0)]) ++ List.replicate (1 - (lg_sl ([.ref (oM 0)])).length) Slot.unset).toArray = ls at hl ⊢
  have hl : lv_has ls 1 [(0, .ref (oM 0))] := hl
  have hinX8 : ∀ w ∈ wsX80, w ∈ wsX8_minute := by decide +kernel
  refine lv_aload_n hx hb dX8_minute_0 rfl (lv_at hl 0 rfl) ?_
  refine lv_aload_n hx hb dX8_minute_1 rfl (lv_at hl 0 rfl) ?_
  refine va_get (D := D) (ci := 8) (v := .int (zI Mruns)) (C := RX8) (T := TX8) (N := 36) hx hb hts hinX8 hown hK hw.1 0 rfl rfl 26 (by decide) (hts (.fieldLink RX8 79 "CarnivalRoadModel" "runs" "Z") (by decide +kernel)) (fun _ h9 => h9) rfl dX8_minute_2 ?_
  refine z_if_ne (tgt := 12) hx hb dX8_minute_5 (by decide) (by omega) (fun hc_1 => ?_) (fun hc_1 => ?_)
  · skip
    refine z_iconst hx hb dX8_minute_12 ?_
    refine z_iconst hx hb dX8_minute_13 ?_
    have hF9 := z_free (wc := kM cI cB cZ oM Mthrown Mmany Mguest Mrow Mbars Mbar Mfresh Mtape Mtaped Mpos Mtoken MtokenAt Mvalue Mwrong MwrongAt MfaultKind MfaultPlace Mthing Morder Mone Mtwo Mbest Mcells Mgap Mwire Mstand Mruns Mminute Mhead Mplays Mrests Mwent Mout Mcame Mgone MlastOut) hw hA [0, 1, 2, 3, 4, 5, 6, 7, 8, 9, 10, 11, 12, 13, 14, 15, 16] rfl
    refine va_calli (va_runV (As := [.int (zI 0), .int (zI 0)]) (rest := []) ⟨hx, hb, hml, hown, hts⟩ (c_X8_fails l D cI cB cZ oM s.heap.size Mthrown Mmany Mguest Mrow Mbars Mbar Mfresh Mtape Mtaped Mpos Mtoken MtokenAt Mvalue Mwrong MwrongAt MfaultKind MfaultPlace Mthing Morder Mone Mtwo Mbest Mcells Mgap Mwire Mstand Mruns Mminute Mhead Mplays Mrests Mwent Mout Mcame Mgone MlastOut 0 0 (by omega) (by omega) qMguest qMrow (by omega) qMbar qMfresh qMtape (by omega) (by omega) (by omega) (by omega) (by omega) (by omega) (by omega) (by omega) (by omega) (by omega) qMorder (by omega) (by omega) qMbest (by omega) (by omega) qMwire qMstand (by omega) (by omega) qMhead qMplays qMrests qMwent qMout qMcame qMgone (by omega) (by omega) (by omega)) (cwV 2 hts gX8_minute_X8_fails rfl rfl rfl (by decide +kernel) ⟨Nat.le_of_ble_eq_true rfl, Nat.le_of_ble_eq_true rfl⟩) ⟨zPre_blind, va_recv hK hw.1 (ci := 8) (q0 := 0) rfl rfl, z_pre hK hw [0, 1, 2, 3, 4, 5, 6, 7, 8, 9, 10, 11, 12, 13, 14, 15, 16] (by decide) rfl⟩ rfl rfl hl.1 rfl (lv_room (Nat.le_of_ble_eq_true rfl)) dX8_minute_14 ⟨Nat.zero_le _, Nat.zero_le _⟩) hw.2.2 (fun q _ h => hF9 q h) hF9 (fun r9 u9 t9 H_2 locs9 ht9 hvm9 hq9 hB9 hz9 hk9 hS9 => ?_)
    obtain ⟨r_3, Mthrown_4⟩ := u9
    try dsimp only at hq9 hB9
    obtain ⟨rfl, hq9⟩ := hq9
    obtain ⟨hq_5, hq_6, hq_7⟩ := hq9
    have hw : HW D A s.heap (kM cI cB cZ oM Mthrown_4 Mmany Mguest Mrow Mbars Mbar Mfresh Mtape Mtaped Mpos Mtoken MtokenAt Mvalue Mwrong MwrongAt MfaultKind MfaultPlace Mthing Morder Mone Mtwo Mbest Mcells Mgap Mwire Mstand Mruns Mminute Mhead Mplays Mrests Mwent Mout Mcame Mgone MlastOut) H_2 locs9 := z_after (wc := kM cI cB cZ oM Mthrown Mmany Mguest Mrow Mbars Mbar Mfresh Mtape Mtaped Mpos Mtoken MtokenAt Mvalue Mwrong MwrongAt MfaultKind MfaultPlace Mthing Morder Mone Mtwo Mbest Mcells Mgap Mwire Mstand Mruns Mminute Mhead Mplays Mrests Mwent Mout Mcame Mgone MlastOut) hw [0, 1, 2, 3, 4, 5, 6, 7, 8, 9, 10, 11, 12, 13, 14, 15, 16] [] rfl rfl (by decide) (by decide) hF9 hk9 ht9 hB9 hS9 [0, 1, 2, 3, 4, 5, 6, 7, 8, 9, 10, 11, 12, 13, 14, 15, 16] (by decide) rfl
    clear hF9 ht9 hvm9 hB9 hz9 hk9 hS9
    rcases hq_6 with ⟨hc_8, rfl⟩ | ⟨hc_8, rfl⟩
    · skip
      refine z_if_eq (tgt := 22) hx hb dX8_minute_17 (by decide) (by omega) (fun hc_9 => absurd hc_9 (by omega)) (fun hc_9 => ?_)
      refine z_iconst hx hb dX8_minute_20 ?_
      have hv_10 : (0 : Int) ≤ Mthrown_4 ∧ Mthrown_4 ≤ 2 := by
        first | assumption | omega | grind
      have hv_11 : (Mruns = 0 ∧ Mthrown_4 = 1) ∨ (Mruns = 1 ∧ Mthrown_4 = 0 ∧ (0 : Int) = Mminute) := by
        first | assumption | omega | grind
      exact W.iret (v := zI 0) hx hb hr (fun t9 ht hW => ⟨⟨zI 0, (0, Mthrown_4), rfl, ⟨rfl, ⟨hv_10, hv_11⟩⟩, by subst hAe; exact z_end hK hw ht hW⟩, by subst hAe; exact hw.2.2.F ht⟩) (by subst hAe; exact hw.2.2.2.2) dX8_minute_21
    · skip
      refine z_if_eq (tgt := 22) hx hb dX8_minute_17 (by decide) (by omega) (fun hc_12 => ?_) (fun hc_12 => absurd hc_12 (by omega))
      refine lv_aload_n hx hb dX8_minute_22 rfl (lv_at hl 0 rfl) ?_
      refine va_get (D := D) (ci := 8) (v := .int (zI Mminute)) (C := RX8) (T := TX8) (N := 36) hx hb hts hinX8 hown hK hw.1 0 rfl rfl 27 (by decide) (hts (.fieldLink RX8 208 "CarnivalRoadModel" "minute" "I") (by decide +kernel)) (fun _ h9 => h9) rfl dX8_minute_23 ?_
      have hv_13 : (0 : Int) ≤ Mthrown_4 ∧ Mthrown_4 ≤ 2 := by
        first | assumption | omega | grind
      have hv_14 : (Mruns = 0 ∧ Mthrown_4 = 1) ∨ (Mruns = 1 ∧ Mthrown_4 = 0 ∧ Mminute = Mminute) := by
        first | assumption | omega | grind
      exact W.iret (v := zI Mminute) hx hb hr (fun t9 ht hW => ⟨⟨zI Mminute, (Mminute, Mthrown_4), rfl, ⟨rfl, ⟨hv_13, hv_14⟩⟩, by subst hAe; exact z_end hK hw ht hW⟩, by subst hAe; exact hw.2.2.F ht⟩) (by subst hAe; exact hw.2.2.2.2) dX8_minute_26
  · skip
    refine z_iconst hx hb dX8_minute_8 ?_
    refine lv_goto (tgt := 13) hx hb dX8_minute_9 (by decide) ?_
    refine z_iconst hx hb dX8_minute_13 ?_
    have hF9 := z_free (wc := kM cI cB cZ oM Mthrown Mmany Mguest Mrow Mbars Mbar Mfresh Mtape Mtaped Mpos Mtoken MtokenAt Mvalue Mwrong MwrongAt MfaultKind MfaultPlace Mthing Morder Mone Mtwo Mbest Mcells Mgap Mwire Mstand Mruns Mminute Mhead Mplays Mrests Mwent Mout Mcame Mgone MlastOut) hw hA [0, 1, 2, 3, 4, 5, 6, 7, 8, 9, 10, 11, 12, 13, 14, 15, 16] rfl
    refine va_calli (va_runV (As := [.int (zI 1), .int (zI 0)]) (rest := []) ⟨hx, hb, hml, hown, hts⟩ (c_X8_fails l D cI cB cZ oM s.heap.size Mthrown Mmany Mguest Mrow Mbars Mbar Mfresh Mtape Mtaped Mpos Mtoken MtokenAt Mvalue Mwrong MwrongAt MfaultKind MfaultPlace Mthing Morder Mone Mtwo Mbest Mcells Mgap Mwire Mstand Mruns Mminute Mhead Mplays Mrests Mwent Mout Mcame Mgone MlastOut 1 0 (by omega) (by omega) qMguest qMrow (by omega) qMbar qMfresh qMtape (by omega) (by omega) (by omega) (by omega) (by omega) (by omega) (by omega) (by omega) (by omega) (by omega) qMorder (by omega) (by omega) qMbest (by omega) (by omega) qMwire qMstand (by omega) (by omega) qMhead qMplays qMrests qMwent qMout qMcame qMgone (by omega) (by omega) (by omega)) (cwV 2 hts gX8_minute_X8_fails rfl rfl rfl (by decide +kernel) ⟨Nat.le_of_ble_eq_true rfl, Nat.le_of_ble_eq_true rfl⟩) ⟨zPre_blind, va_recv hK hw.1 (ci := 8) (q0 := 0) rfl rfl, z_pre hK hw [0, 1, 2, 3, 4, 5, 6, 7, 8, 9, 10, 11, 12, 13, 14, 15, 16] (by decide) rfl⟩ rfl rfl hl.1 rfl (lv_room (Nat.le_of_ble_eq_true rfl)) dX8_minute_14 ⟨Nat.zero_le _, Nat.zero_le _⟩) hw.2.2 (fun q _ h => hF9 q h) hF9 (fun r9 u9 t9 H_15 locs9 ht9 hvm9 hq9 hB9 hz9 hk9 hS9 => ?_)
    obtain ⟨r_16, Mthrown_17⟩ := u9
    try dsimp only at hq9 hB9
    obtain ⟨rfl, hq9⟩ := hq9
    obtain ⟨hq_18, hq_19, hq_20⟩ := hq9
    have hw : HW D A s.heap (kM cI cB cZ oM Mthrown_17 Mmany Mguest Mrow Mbars Mbar Mfresh Mtape Mtaped Mpos Mtoken MtokenAt Mvalue Mwrong MwrongAt MfaultKind MfaultPlace Mthing Morder Mone Mtwo Mbest Mcells Mgap Mwire Mstand Mruns Mminute Mhead Mplays Mrests Mwent Mout Mcame Mgone MlastOut) H_15 locs9 := z_after (wc := kM cI cB cZ oM Mthrown Mmany Mguest Mrow Mbars Mbar Mfresh Mtape Mtaped Mpos Mtoken MtokenAt Mvalue Mwrong MwrongAt MfaultKind MfaultPlace Mthing Morder Mone Mtwo Mbest Mcells Mgap Mwire Mstand Mruns Mminute Mhead Mplays Mrests Mwent Mout Mcame Mgone MlastOut) hw [0, 1, 2, 3, 4, 5, 6, 7, 8, 9, 10, 11, 12, 13, 14, 15, 16] [] rfl rfl (by decide) (by decide) hF9 hk9 ht9 hB9 hS9 [0, 1, 2, 3, 4, 5, 6, 7, 8, 9, 10, 11, 12, 13, 14, 15, 16] (by decide) rfl
    clear hF9 ht9 hvm9 hB9 hz9 hk9 hS9
    rcases hq_19 with ⟨hc_21, rfl⟩ | ⟨hc_21, rfl⟩
    · skip
      refine z_if_eq (tgt := 22) hx hb dX8_minute_17 (by decide) (by omega) (fun hc_22 => absurd hc_22 (by omega)) (fun hc_22 => ?_)
      refine z_iconst hx hb dX8_minute_20 ?_
      have hv_23 : (0 : Int) ≤ Mthrown_17 ∧ Mthrown_17 ≤ 2 := by
        first | assumption | omega | grind
      have hv_24 : (Mruns = 0 ∧ Mthrown_17 = 1) ∨ (Mruns = 1 ∧ Mthrown_17 = 0 ∧ (0 : Int) = Mminute) := by
        first | assumption | omega | grind
      exact W.iret (v := zI 0) hx hb hr (fun t9 ht hW => ⟨⟨zI 0, (0, Mthrown_17), rfl, ⟨rfl, ⟨hv_23, hv_24⟩⟩, by subst hAe; exact z_end hK hw ht hW⟩, by subst hAe; exact hw.2.2.F ht⟩) (by subst hAe; exact hw.2.2.2.2) dX8_minute_21
    · skip
      refine z_if_eq (tgt := 22) hx hb dX8_minute_17 (by decide) (by omega) (fun hc_25 => ?_) (fun hc_25 => absurd hc_25 (by omega))
      refine lv_aload_n hx hb dX8_minute_22 rfl (lv_at hl 0 rfl) ?_
      refine va_get (D := D) (ci := 8) (v := .int (zI Mminute)) (C := RX8) (T := TX8) (N := 36) hx hb hts hinX8 hown hK hw.1 0 rfl rfl 27 (by decide) (hts (.fieldLink RX8 208 "CarnivalRoadModel" "minute" "I") (by decide +kernel)) (fun _ h9 => h9) rfl dX8_minute_23 ?_
      have hv_26 : (0 : Int) ≤ Mthrown_17 ∧ Mthrown_17 ≤ 2 := by
        first | assumption | omega | grind
      have hv_27 : (Mruns = 0 ∧ Mthrown_17 = 1) ∨ (Mruns = 1 ∧ Mthrown_17 = 0 ∧ Mminute = Mminute) := by
        first | assumption | omega | grind
      exact W.iret (v := zI Mminute) hx hb hr (fun t9 ht hW => ⟨⟨zI Mminute, (Mminute, Mthrown_17), rfl, ⟨rfl, ⟨hv_26, hv_27⟩⟩, by subst hAe; exact z_end hK hw ht hW⟩, by subst hAe; exact hw.2.2.F ht⟩) (by subst hAe; exact hw.2.2.2.2) dX8_minute_26
set_option maxRecDepth 100000 in
set_option maxHeartbeats 4000000 in
theorem c_X8_at (l : Launch) (D : va_G) (cI cB cZ : ClassId) (oM : Nat → Nat) (sz : Nat) (Mthrown : Int) (Mmany : Int) (Mguest : Int → Int) (Mrow : Int → Int) (Mbars : Int) (Mbar : Int → Int) (Mfresh : Int → Int) (Mtape : Int → Int) (Mtaped : Int) (Mpos : Int) (Mtoken : Int) (MtokenAt : Int) (Mvalue : Int) (Mwrong : Int) (MwrongAt : Int) (MfaultKind : Int) (MfaultPlace : Int) (Mthing : Int) (Morder : Int → Int) (Mone : Int) (Mtwo : Int) (Mbest : Int → Int) (Mcells : Int) (Mgap : Int) (Mwire : Int → Int) (Mstand : Int → Int) (Mruns : Int) (Mminute : Int) (Mhead : Int → Int) (Mplays : Int → Int) (Mrests : Int → Int) (Mwent : Int → Int) (Mout : Int → Int) (Mcame : Int → Int) (Mgone : Int → Int) (MlastOut : Int) (g : Int) (w : Int) (qMthrown : 0 ≤ Mthrown ∧ Mthrown ≤ 2) (qMmany : 0 ≤ Mmany ∧ Mmany ≤ 8) (qMguest : RA Mguest (0) 9) (qMrow : RA Mrow (0) 7) (qMbars : 0 ≤ Mbars ∧ Mbars ≤ 10) (qMbar : RA Mbar (0) 104) (qMfresh : RA Mfresh (0) 104) (qMtape : RA Mtape (0) 255) (qMtaped : 0 ≤ Mtaped ∧ Mtaped ≤ 400) (qMpos : 0 ≤ Mpos ∧ Mpos ≤ 400) (qMtoken : 0 ≤ Mtoken ∧ Mtoken ≤ 15) (qMtokenAt : 0 ≤ MtokenAt ∧ MtokenAt ≤ 400) (qMvalue : 0 ≤ Mvalue ∧ Mvalue ≤ 99) (qMwrong : 0 ≤ Mwrong ∧ Mwrong ≤ 3) (qMwrongAt : 0 ≤ MwrongAt ∧ MwrongAt ≤ 400) (qMfaultKind : 0 ≤ MfaultKind ∧ MfaultKind ≤ 3) (qMfaultPlace : -1 ≤ MfaultPlace ∧ MfaultPlace ≤ 400) (qMthing : 0 ≤ Mthing ∧ Mthing ≤ 104) (qMorder : RA Morder (0) 7) (qMone : 0 ≤ Mone ∧ Mone ≤ 8) (qMtwo : 0 ≤ Mtwo ∧ Mtwo ≤ 8) (qMbest : RA Mbest (0) 7) (qMcells : 1 ≤ Mcells ∧ Mcells ≤ 50) (qMgap : 0 ≤ Mgap ∧ Mgap ≤ 3) (qMwire : RA Mwire (0) 9) (qMstand : RA Mstand (0) 9) (qMruns : 0 ≤ Mruns ∧ Mruns ≤ 1) (qMminute : 0 ≤ Mminute ∧ Mminute ≤ 1000000) (qMhead : RA Mhead (-1) 60) (qMplays : RA Mplays (0) 18) (qMrests : RA Mrests (0) 3) (qMwent : RA Mwent (0) 61) (qMout : RA Mout (0) 1) (qMcame : RA Mcame (-1) 1000000) (qMgone : RA Mgone (-1) 1000000) (qMlastOut : 0 ≤ MlastOut ∧ MlastOut ≤ 1000000) (qg : -2147483648 ≤ g ∧ g ≤ 2147483647) (qw : -2147483648 ≤ w ∧ w ≤ 2147483647) : Met l yX8_at wsX8_at ({ frames := 2, cells := 0, slots := 0, locals := 44 }) (va_Pc [.ref (oM 0), .int (zI g), .int (zI w)] (zPre D cI cB cZ sz (kM cI cB cZ oM Mthrown Mmany Mguest Mrow Mbars Mbar Mfresh Mtape Mtaped Mpos Mtoken MtokenAt Mvalue Mwrong MwrongAt MfaultKind MfaultPlace Mthing Morder Mone Mtwo Mbest Mcells Mgap Mwire Mstand Mruns Mminute Mhead Mplays Mrests Mwent Mout Mcame Mgone MlastOut))) (va_Qi (fun (r9 : Int32) (u9 : Int × Int) => r9 = zI u9.1 ∧ (((0 : Int) ≤ u9.2 ∧ u9.2 ≤ 2) ∧ ((¬ (0 ≤ g ∧ g < Mmany) ∧ u9.2 = 1) ∨ ((0 ≤ g ∧ g < Mmany) ∧ Mruns = 0 ∧ u9.2 = 2) ∨ ((0 ≤ g ∧ g < Mmany) ∧ Mruns = 1 ∧ u9.2 = 0 ∧ ((w = 0 ∧ u9.1 = Mhead g) ∨ (w = 1 ∧ u9.1 = Mhead (0 + g) - Mguest (5 * g + 1) + 1) ∨ (w = 2 ∧ ((Mout g = 1 ∧ u9.1 = 3) ∨ (Mout g = 0 ∧ Mhead g < 0 ∧ u9.1 = 0) ∨ (Mout g = 0 ∧ 0 ≤ Mhead g ∧ (0 < Mplays g ∨ 0 < Mrests g) ∧ u9.1 = 2) ∨ (Mout g = 0 ∧ 0 ≤ Mhead g ∧ ¬ (0 < Mplays g ∨ 0 < Mrests g) ∧ u9.1 = 1))) ∨ (w = 3 ∧ u9.1 = Mcame g) ∨ (w = 4 ∧ u9.1 = Mgone g) ∨ ((w < 0 ∨ 4 < w) ∧ u9.1 = -100)))))) (fun u9 t9 => zAt D cI cB cZ (va_A (kM cI cB cZ oM Mthrown Mmany Mguest Mrow Mbars Mbar Mfresh Mtape Mtaped Mpos Mtoken MtokenAt Mvalue Mwrong MwrongAt MfaultKind MfaultPlace Mthing Morder Mone Mtwo Mbest Mcells Mgap Mwire Mstand Mruns Mminute Mhead Mplays Mrests Mwent Mout Mcame Mgone MlastOut) sz) (kM cI cB cZ oM (u9.2) Mmany Mguest Mrow Mbars Mbar Mfresh Mtape Mtaped Mpos Mtoken MtokenAt Mvalue Mwrong MwrongAt MfaultKind MfaultPlace Mthing Morder Mone Mtwo Mbest Mcells Mgap Mwire Mstand Mruns Mminute Mhead Mplays Mrests Mwent Mout Mcame Mgone MlastOut) t9) (va_A (kM cI cB cZ oM Mthrown Mmany Mguest Mrow Mbars Mbar Mfresh Mtape Mtaped Mpos Mtoken MtokenAt Mvalue Mwrong MwrongAt MfaultKind MfaultPlace Mthing Morder Mone Mtwo Mbest Mcells Mgap Mwire Mstand Mruns Mminute Mhead Mplays Mrests Mwent Mout Mcame Mgone MlastOut) sz)) 0 0 (va_A (kM cI cB cZ oM Mthrown Mmany Mguest Mrow Mbars Mbar Mfresh Mtape Mtaped Mpos Mtoken MtokenAt Mvalue Mwrong MwrongAt MfaultKind MfaultPlace Mthing Morder Mone Mtwo Mbest Mcells Mgap Mwire Mstand Mruns Mminute Mhead Mplays Mrests Mwent Mout Mcame Mgone MlastOut) sz) := by
  refine Met.ofW (cc := cX8_at) (maxL := 3) (ret := (some .int)) (by decide) rfl ?_
  intro pp ee s mm aa bw mt cd s₁ BL hml hv
  obtain ⟨rfl, hsz, hP, hK, hD0⟩ := hv
  have hx := BL.exec
  have hb := BL.bytes
  have hr := BL.returns
  have hts := atoms_spec (ws := wsX8_at) BL.pre
  have hown : s.vm.findClass RX8 = some mm.cls := findClass_of_methodNamed BL.named
  have hlocks := BL.notSynchronized
  subst hsz
  generalize hAe : va_A (kM cI cB cZ oM Mthrown Mmany Mguest Mrow Mbars Mbar Mfresh Mtape Mtaped Mpos Mtoken MtokenAt Mvalue Mwrong MwrongAt MfaultKind MfaultPlace Mthing Morder Mone Mtwo Mbest Mcells Mgap Mwire Mstand Mruns Mminute Mhead Mplays Mrests Mwent Mout Mcame Mgone MlastOut) s.heap.size = A
  have hA : ∀ q : Nat, s.heap.size ≤ q → A q := fun q h => by rw [← hAe]; exact Or.inr h
  have hw : HW D A s.heap (kM cI cB cZ oM Mthrown Mmany Mguest Mrow Mbars Mbar Mfresh Mtape Mtaped Mpos Mtoken MtokenAt Mvalue Mwrong MwrongAt MfaultKind MfaultPlace Mthing Morder Mone Mtwo Mbest Mcells Mgap Mwire Mstand Mruns Mminute Mhead Mplays Mrests Mwent Mout Mcame Mgone MlastOut) s.heap [] := z_start hAe hP hD0
  clear hP hD0
  have hl := lv_entry ([.ref (oM 0), .int (zI g), .int (zI w)]) (n := 3) (Nat.le_of_ble_eq_true rfl)
  rw [lg_entry_eq]
  generalize (lg_sl ([.ref (oM 0), .int (zI g), .int (zI w)]) ++ List.replicate (3 - (lg_sl ([.ref (oM 0), .int (zI g), .int (zI w)])).length) Slot.unset).toArray = ls at hl ⊢
  have hl : lv_has ls 3 [(0, .ref (oM 0)), (1, .int (zI g)), (2, .int (zI w))] := hl
  have hinX8 : ∀ w ∈ wsX80, w ∈ wsX8_at := by decide +kernel
  refine lv_aload_n hx hb dX8_at_0 rfl (lv_at hl 0 rfl) ?_
  refine lv_aload_n hx hb dX8_at_1 rfl (lv_at hl 0 rfl) ?_
  refine lv_iload_n hx hb dX8_at_2 rfl (lv_at hl 1 rfl) ?_
  have hF9 := z_free (wc := kM cI cB cZ oM Mthrown Mmany Mguest Mrow Mbars Mbar Mfresh Mtape Mtaped Mpos Mtoken MtokenAt Mvalue Mwrong MwrongAt MfaultKind MfaultPlace Mthing Morder Mone Mtwo Mbest Mcells Mgap Mwire Mstand Mruns Mminute Mhead Mplays Mrests Mwent Mout Mcame Mgone MlastOut) hw hA [0, 1, 2, 3, 4, 5, 6, 7, 8, 9, 10, 11, 12, 13, 14, 15, 16] rfl
  refine va_calli (va_runV (As := [.int (zI g)]) (rest := [.ref (oM 0)]) ⟨hx, hb, hml, hown, hts⟩ (c_X8_isNo l D cI cB cZ oM s.heap.size Mthrown Mmany Mguest Mrow Mbars Mbar Mfresh Mtape Mtaped Mpos Mtoken MtokenAt Mvalue Mwrong MwrongAt MfaultKind MfaultPlace Mthing Morder Mone Mtwo Mbest Mcells Mgap Mwire Mstand Mruns Mminute Mhead Mplays Mrests Mwent Mout Mcame Mgone MlastOut g (by omega) (by omega) qMguest qMrow (by omega) qMbar qMfresh qMtape (by omega) (by omega) (by omega) (by omega) (by omega) (by omega) (by omega) (by omega) (by omega) (by omega) qMorder (by omega) (by omega) qMbest (by omega) (by omega) qMwire qMstand (by omega) (by omega) qMhead qMplays qMrests qMwent qMout qMcame qMgone (by omega) (by omega)) (cwV 1 hts gX8_at_X8_isNo rfl rfl rfl (by decide +kernel) ⟨Nat.le_of_ble_eq_true rfl, Nat.le_of_ble_eq_true rfl⟩) ⟨zPre_blind, va_recv hK hw.1 (ci := 8) (q0 := 0) rfl rfl, z_pre hK hw [0, 1, 2, 3, 4, 5, 6, 7, 8, 9, 10, 11, 12, 13, 14, 15, 16] (by decide) rfl⟩ rfl rfl hl.1 rfl (lv_room (Nat.le_of_ble_eq_true rfl)) dX8_at_3 ⟨Nat.zero_le _, Nat.zero_le _⟩) hw.2.2 (fun q _ h => hF9 q h) hF9 (fun r9 u9 t9 H_1 locs9 ht9 hvm9 hq9 hB9 hz9 hk9 hS9 => ?_)
  obtain ⟨r_2, rfl⟩ : ∃ z, z = u9 := ⟨_, rfl⟩
  try dsimp only at hq9 hB9
  obtain ⟨rfl, hq9⟩ := hq9
  have hq_3 := hq9
  have hw : HW D A s.heap (kM cI cB cZ oM Mthrown Mmany Mguest Mrow Mbars Mbar Mfresh Mtape Mtaped Mpos Mtoken MtokenAt Mvalue Mwrong MwrongAt MfaultKind MfaultPlace Mthing Morder Mone Mtwo Mbest Mcells Mgap Mwire Mstand Mruns Mminute Mhead Mplays Mrests Mwent Mout Mcame Mgone MlastOut) H_1 locs9 := z_after (wc := kM cI cB cZ oM Mthrown Mmany Mguest Mrow Mbars Mbar Mfresh Mtape Mtaped Mpos Mtoken MtokenAt Mvalue Mwrong MwrongAt MfaultKind MfaultPlace Mthing Morder Mone Mtwo Mbest Mcells Mgap Mwire Mstand Mruns Mminute Mhead Mplays Mrests Mwent Mout Mcame Mgone MlastOut) hw [0, 1, 2, 3, 4, 5, 6, 7, 8, 9, 10, 11, 12, 13, 14, 15, 16] [] rfl rfl (by decide) (by decide) hF9 hk9 ht9 hB9 hS9 [0, 1, 2, 3, 4, 5, 6, 7, 8, 9, 10, 11, 12, 13, 14, 15, 16] (by decide) rfl
  clear hF9 ht9 hvm9 hB9 hz9 hk9 hS9 hq9
  rcases hq_3 with ⟨hc_4, rfl⟩ | ⟨hc_4, rfl⟩
  · skip
    refine lv_aload_n hx hb dX8_at_6 rfl (lv_at hl 0 rfl) ?_
    refine va_get (D := D) (ci := 8) (v := .int (zI Mruns)) (C := RX8) (T := TX8) (N := 36) hx hb hts hinX8 hown hK hw.1 0 rfl rfl 26 (by decide) (hts (.fieldLink RX8 79 "CarnivalRoadModel" "runs" "Z") (by decide +kernel)) (fun _ h9 => h9) rfl dX8_at_7 ?_
    refine z_if_ne (tgt := 17) hx hb dX8_at_10 (by decide) (by omega) (fun hc_5 => ?_) (fun hc_5 => ?_)
    · skip
      refine z_iconst hx hb dX8_at_17 ?_
      have hF9 := z_free (wc := kM cI cB cZ oM Mthrown Mmany Mguest Mrow Mbars Mbar Mfresh Mtape Mtaped Mpos Mtoken MtokenAt Mvalue Mwrong MwrongAt MfaultKind MfaultPlace Mthing Morder Mone Mtwo Mbest Mcells Mgap Mwire Mstand Mruns Mminute Mhead Mplays Mrests Mwent Mout Mcame Mgone MlastOut) hw hA [0, 1, 2, 3, 4, 5, 6, 7, 8, 9, 10, 11, 12, 13, 14, 15, 16] rfl
      refine va_calli (va_runV (As := [.int (zI 1), .int (zI 0)]) (rest := []) ⟨hx, hb, hml, hown, hts⟩ (c_X8_fails l D cI cB cZ oM H_1.size Mthrown Mmany Mguest Mrow Mbars Mbar Mfresh Mtape Mtaped Mpos Mtoken MtokenAt Mvalue Mwrong MwrongAt MfaultKind MfaultPlace Mthing Morder Mone Mtwo Mbest Mcells Mgap Mwire Mstand Mruns Mminute Mhead Mplays Mrests Mwent Mout Mcame Mgone MlastOut 1 0 (by omega) (by omega) qMguest qMrow (by omega) qMbar qMfresh qMtape (by omega) (by omega) (by omega) (by omega) (by omega) (by omega) (by omega) (by omega) (by omega) (by omega) qMorder (by omega) (by omega) qMbest (by omega) (by omega) qMwire qMstand (by omega) (by omega) qMhead qMplays qMrests qMwent qMout qMcame qMgone (by omega) (by omega) (by omega)) (cwV 2 hts gX8_at_X8_fails rfl rfl rfl (by decide +kernel) ⟨Nat.le_of_ble_eq_true rfl, Nat.le_of_ble_eq_true rfl⟩) ⟨zPre_blind, va_recv hK hw.1 (ci := 8) (q0 := 0) rfl rfl, z_pre hK hw [0, 1, 2, 3, 4, 5, 6, 7, 8, 9, 10, 11, 12, 13, 14, 15, 16] (by decide) rfl⟩ rfl rfl hl.1 rfl (lv_room (Nat.le_of_ble_eq_true rfl)) dX8_at_18 ⟨Nat.zero_le _, Nat.zero_le _⟩) hw.2.2 (fun q _ h => hF9 q h) hF9 (fun r9 u9 t9 H_6 locs9 ht9 hvm9 hq9 hB9 hz9 hk9 hS9 => ?_)
      obtain ⟨r_7, Mthrown_8⟩ := u9
      try dsimp only at hq9 hB9
      obtain ⟨rfl, hq9⟩ := hq9
      obtain ⟨hq_9, hq_10, hq_11⟩ := hq9
      have hw : HW D A s.heap (kM cI cB cZ oM Mthrown_8 Mmany Mguest Mrow Mbars Mbar Mfresh Mtape Mtaped Mpos Mtoken MtokenAt Mvalue Mwrong MwrongAt MfaultKind MfaultPlace Mthing Morder Mone Mtwo Mbest Mcells Mgap Mwire Mstand Mruns Mminute Mhead Mplays Mrests Mwent Mout Mcame Mgone MlastOut) H_6 locs9 := z_after (wc := kM cI cB cZ oM Mthrown Mmany Mguest Mrow Mbars Mbar Mfresh Mtape Mtaped Mpos Mtoken MtokenAt Mvalue Mwrong MwrongAt MfaultKind MfaultPlace Mthing Morder Mone Mtwo Mbest Mcells Mgap Mwire Mstand Mruns Mminute Mhead Mplays Mrests Mwent Mout Mcame Mgone MlastOut) hw [0, 1, 2, 3, 4, 5, 6, 7, 8, 9, 10, 11, 12, 13, 14, 15, 16] [] rfl rfl (by decide) (by decide) hF9 hk9 ht9 hB9 hS9 [0, 1, 2, 3, 4, 5, 6, 7, 8, 9, 10, 11, 12, 13, 14, 15, 16] (by decide) rfl
      clear hF9 ht9 hvm9 hB9 hz9 hk9 hS9
      rcases hq_10 with ⟨hc_12, rfl⟩ | ⟨hc_12, rfl⟩
      · skip
        refine z_if_eq (tgt := 26) hx hb dX8_at_21 (by decide) (by omega) (fun hc_13 => absurd hc_13 (by omega)) (fun hc_13 => ?_)
        refine z_iconst hx hb dX8_at_24 ?_
        have hv_14 : (0 : Int) ≤ Mthrown_8 ∧ Mthrown_8 ≤ 2 := by
          first | omega | grind
        have hv_15 : (¬ (0 ≤ g ∧ g < Mmany) ∧ Mthrown_8 = 1) ∨ ((0 ≤ g ∧ g < Mmany) ∧ Mruns = 0 ∧ Mthrown_8 = 2) ∨ ((0 ≤ g ∧ g < Mmany) ∧ Mruns = 1 ∧ Mthrown_8 = 0 ∧ ((w = 0 ∧ (0 : Int) = Mhead g) ∨ (w = 1 ∧ (0 : Int) = Mhead (0 + g) - Mguest (5 * g + 1) + 1) ∨ (w = 2 ∧ ((Mout g = 1 ∧ (0 : Int) = 3) ∨ (Mout g = 0 ∧ Mhead g < 0 ∧ (0 : Int) = 0) ∨ (Mout g = 0 ∧ 0 ≤ Mhead g ∧ (0 < Mplays g ∨ 0 < Mrests g) ∧ (0 : Int) = 2) ∨ (Mout g = 0 ∧ 0 ≤ Mhead g ∧ ¬ (0 < Mplays g ∨ 0 < Mrests g) ∧ (0 : Int) = 1))) ∨ (w = 3 ∧ (0 : Int) = Mcame g) ∨ (w = 4 ∧ (0 : Int) = Mgone g) ∨ ((w < 0 ∨ 4 < w) ∧ (0 : Int) = -100))) := by
          first | omega | grind
        exact W.iret (v := zI 0) hx hb hr (fun t9 ht hW => ⟨⟨zI 0, (0, Mthrown_8), rfl, ⟨rfl, ⟨hv_14, hv_15⟩⟩, by subst hAe; exact z_end hK hw ht hW⟩, by subst hAe; exact hw.2.2.F ht⟩) (by subst hAe; exact hw.2.2.2.2) dX8_at_25
      · skip
        refine z_if_eq (tgt := 26) hx hb dX8_at_21 (by decide) (by omega) (fun hc_16 => ?_) (fun hc_16 => absurd hc_16 (by omega))
        refine lv_iload_n hx hb dX8_at_26 rfl (lv_at hl 2 rfl) ?_
        rcases (show (w < 0 ∨ 4 < w) ∨ w = 0 ∨ w = 1 ∨ w = 2 ∨ w = 3 ∨ w = 4 by omega) with hc_17 | hc_17 | hc_17 | hc_17 | hc_17 | hc_17
        · skip
          refine z_tableOut (tgt := 138) hx hb (by omega) hc_17 dX8_at_27 (by decide) ?_
          refine z_bipush hx hb dX8_at_138 (by decide) ?_
          have hv_18 : (0 : Int) ≤ Mthrown_8 ∧ Mthrown_8 ≤ 2 := by
            first | omega | grind
          have hv_19 : (¬ (0 ≤ g ∧ g < Mmany) ∧ Mthrown_8 = 1) ∨ ((0 ≤ g ∧ g < Mmany) ∧ Mruns = 0 ∧ Mthrown_8 = 2) ∨ ((0 ≤ g ∧ g < Mmany) ∧ Mruns = 1 ∧ Mthrown_8 = 0 ∧ ((w = 0 ∧ ((-100) : Int) = Mhead g) ∨ (w = 1 ∧ ((-100) : Int) = Mhead (0 + g) - Mguest (5 * g + 1) + 1) ∨ (w = 2 ∧ ((Mout g = 1 ∧ ((-100) : Int) = 3) ∨ (Mout g = 0 ∧ Mhead g < 0 ∧ ((-100) : Int) = 0) ∨ (Mout g = 0 ∧ 0 ≤ Mhead g ∧ (0 < Mplays g ∨ 0 < Mrests g) ∧ ((-100) : Int) = 2) ∨ (Mout g = 0 ∧ 0 ≤ Mhead g ∧ ¬ (0 < Mplays g ∨ 0 < Mrests g) ∧ ((-100) : Int) = 1))) ∨ (w = 3 ∧ ((-100) : Int) = Mcame g) ∨ (w = 4 ∧ ((-100) : Int) = Mgone g) ∨ ((w < 0 ∨ 4 < w) ∧ ((-100) : Int) = -100))) := by
            first | omega | grind
          exact W.iret (v := zI (-100)) hx hb hr (fun t9 ht hW => ⟨⟨zI (-100), ((-100), Mthrown_8), rfl, ⟨rfl, ⟨hv_18, hv_19⟩⟩, by subst hAe; exact z_end hK hw ht hW⟩, by subst hAe; exact hw.2.2.F ht⟩) (by subst hAe; exact hw.2.2.2.2) dX8_at_140
        · skip
          refine z_tableIn (k := 0) (off := 33) (tgt := 60) hx hb hc_17 dX8_at_27 (by decide) (by decide) rfl (by decide) ?_
          refine lv_aload_n hx hb dX8_at_60 rfl (lv_at hl 0 rfl) ?_
          refine va_get (D := D) (ci := 8) (v := .ref (oM 10)) (C := RX8) (T := TX8) (N := 36) hx hb hts hinX8 hown hK hw.1 0 rfl rfl 28 (by decide) (hts (.fieldLink RX8 47 "CarnivalRoadModel" "head" "[I") (by decide +kernel)) (fun _ h9 => h9) rfl dX8_at_61 ?_
          refine lv_iload_n hx hb dX8_at_64 rfl (lv_at hl 1 rfl) ?_
          have hi_20 : (0 : Int) ≤ g ∧ g < ((16 : Nat) : Int) := by
            first | omega | grind
          refine z_iald (n := 16) (f := Mhead) hx hb hK hw 10 rfl (by decide) hi_20 dX8_at_65 ?_
          have hq_21 : -1 ≤ Mhead g ∧ Mhead g ≤ 60 := qMhead g
          have hv_22 : (0 : Int) ≤ Mthrown_8 ∧ Mthrown_8 ≤ 2 := by
            first | omega | grind
          have hv_23 : (¬ (0 ≤ g ∧ g < Mmany) ∧ Mthrown_8 = 1) ∨ ((0 ≤ g ∧ g < Mmany) ∧ Mruns = 0 ∧ Mthrown_8 = 2) ∨ ((0 ≤ g ∧ g < Mmany) ∧ Mruns = 1 ∧ Mthrown_8 = 0 ∧ ((w = 0 ∧ (Mhead g) = Mhead g) ∨ (w = 1 ∧ (Mhead g) = Mhead (0 + g) - Mguest (5 * g + 1) + 1) ∨ (w = 2 ∧ ((Mout g = 1 ∧ (Mhead g) = 3) ∨ (Mout g = 0 ∧ Mhead g < 0 ∧ (Mhead g) = 0) ∨ (Mout g = 0 ∧ 0 ≤ Mhead g ∧ (0 < Mplays g ∨ 0 < Mrests g) ∧ (Mhead g) = 2) ∨ (Mout g = 0 ∧ 0 ≤ Mhead g ∧ ¬ (0 < Mplays g ∨ 0 < Mrests g) ∧ (Mhead g) = 1))) ∨ (w = 3 ∧ (Mhead g) = Mcame g) ∨ (w = 4 ∧ (Mhead g) = Mgone g) ∨ ((w < 0 ∨ 4 < w) ∧ (Mhead g) = -100))) := by
            first | omega | grind
          exact W.iret (v := zI (Mhead g)) hx hb hr (fun t9 ht hW => ⟨⟨zI (Mhead g), ((Mhead g), Mthrown_8), rfl, ⟨rfl, ⟨hv_22, hv_23⟩⟩, by subst hAe; exact z_end hK hw ht hW⟩, by subst hAe; exact hw.2.2.F ht⟩) (by subst hAe; exact hw.2.2.2.2) dX8_at_66
        · skip
          refine z_tableIn (k := 1) (off := 40) (tgt := 67) hx hb hc_17 dX8_at_27 (by decide) (by decide) rfl (by decide) ?_
          refine lv_aload_n hx hb dX8_at_67 rfl (lv_at hl 0 rfl) ?_
          refine z_iconst hx hb dX8_at_68 ?_
          refine lv_iload_n hx hb dX8_at_69 rfl (lv_at hl 1 rfl) ?_
          have hF9 := z_free (wc := kM cI cB cZ oM Mthrown_8 Mmany Mguest Mrow Mbars Mbar Mfresh Mtape Mtaped Mpos Mtoken MtokenAt Mvalue Mwrong MwrongAt MfaultKind MfaultPlace Mthing Morder Mone Mtwo Mbest Mcells Mgap Mwire Mstand Mruns Mminute Mhead Mplays Mrests Mwent Mout Mcame Mgone MlastOut) hw hA [0, 1, 2, 3, 4, 5, 6, 7, 8, 9, 10, 11, 12, 13, 14, 15, 16] rfl
          refine va_calli (va_runV (As := [.int (zI 0), .int (zI g)]) (rest := []) ⟨hx, hb, hml, hown, hts⟩ (c_X8_tail l D cI cB cZ oM H_6.size Mthrown_8 Mmany Mguest Mrow Mbars Mbar Mfresh Mtape Mtaped Mpos Mtoken MtokenAt Mvalue Mwrong MwrongAt MfaultKind MfaultPlace Mthing Morder Mone Mtwo Mbest Mcells Mgap Mwire Mstand Mruns Mminute Mhead Mplays Mrests Mwent Mout Mcame Mgone MlastOut 0 g (by omega) (by omega) qMguest qMrow (by omega) qMbar qMfresh qMtape (by omega) (by omega) (by omega) (by omega) (by omega) (by omega) (by omega) (by omega) (by omega) (by omega) qMorder (by omega) (by omega) qMbest (by omega) (by omega) qMwire qMstand (by omega) (by omega) qMhead qMplays qMrests qMwent qMout qMcame qMgone (by omega) (by omega) (by omega)) (cwV 2 hts gX8_at_X8_tail rfl rfl rfl (by decide +kernel) ⟨Nat.le_of_ble_eq_true rfl, Nat.le_of_ble_eq_true rfl⟩) ⟨zPre_blind, va_recv hK hw.1 (ci := 8) (q0 := 0) rfl rfl, z_pre hK hw [0, 1, 2, 3, 4, 5, 6, 7, 8, 9, 10, 11, 12, 13, 14, 15, 16] (by decide) rfl⟩ rfl rfl hl.1 rfl (lv_room (Nat.le_of_ble_eq_true rfl)) dX8_at_70 ⟨Nat.zero_le _, Nat.zero_le _⟩) hw.2.2 (fun q _ h => hF9 q h) hF9 (fun r9 u9 t9 H_24 locs9 ht9 hvm9 hq9 hB9 hz9 hk9 hS9 => ?_)
          obtain ⟨r_25, rfl⟩ : ∃ z, z = u9 := ⟨_, rfl⟩
          try dsimp only at hq9 hB9
          obtain ⟨rfl, hq9⟩ := hq9
          obtain ⟨hq_26, hq_27⟩ := hq9
          have hw : HW D A s.heap (kM cI cB cZ oM Mthrown_8 Mmany Mguest Mrow Mbars Mbar Mfresh Mtape Mtaped Mpos Mtoken MtokenAt Mvalue Mwrong MwrongAt MfaultKind MfaultPlace Mthing Morder Mone Mtwo Mbest Mcells Mgap Mwire Mstand Mruns Mminute Mhead Mplays Mrests Mwent Mout Mcame Mgone MlastOut) H_24 locs9 := z_after (wc := kM cI cB cZ oM Mthrown_8 Mmany Mguest Mrow Mbars Mbar Mfresh Mtape Mtaped Mpos Mtoken MtokenAt Mvalue Mwrong MwrongAt MfaultKind MfaultPlace Mthing Morder Mone Mtwo Mbest Mcells Mgap Mwire Mstand Mruns Mminute Mhead Mplays Mrests Mwent Mout Mcame Mgone MlastOut) hw [0, 1, 2, 3, 4, 5, 6, 7, 8, 9, 10, 11, 12, 13, 14, 15, 16] [] rfl rfl (by decide) (by decide) hF9 hk9 ht9 hB9 hS9 [0, 1, 2, 3, 4, 5, 6, 7, 8, 9, 10, 11, 12, 13, 14, 15, 16] (by decide) rfl
          clear hF9 ht9 hvm9 hB9 hz9 hk9 hS9
          have hv_28 : (0 : Int) ≤ Mthrown_8 ∧ Mthrown_8 ≤ 2 := by
            first | omega | grind
          have hv_29 : (¬ (0 ≤ g ∧ g < Mmany) ∧ Mthrown_8 = 1) ∨ ((0 ≤ g ∧ g < Mmany) ∧ Mruns = 0 ∧ Mthrown_8 = 2) ∨ ((0 ≤ g ∧ g < Mmany) ∧ Mruns = 1 ∧ Mthrown_8 = 0 ∧ ((w = 0 ∧ r_25 = Mhead g) ∨ (w = 1 ∧ r_25 = Mhead (0 + g) - Mguest (5 * g + 1) + 1) ∨ (w = 2 ∧ ((Mout g = 1 ∧ r_25 = 3) ∨ (Mout g = 0 ∧ Mhead g < 0 ∧ r_25 = 0) ∨ (Mout g = 0 ∧ 0 ≤ Mhead g ∧ (0 < Mplays g ∨ 0 < Mrests g) ∧ r_25 = 2) ∨ (Mout g = 0 ∧ 0 ≤ Mhead g ∧ ¬ (0 < Mplays g ∨ 0 < Mrests g) ∧ r_25 = 1))) ∨ (w = 3 ∧ r_25 = Mcame g) ∨ (w = 4 ∧ r_25 = Mgone g) ∨ ((w < 0 ∨ 4 < w) ∧ r_25 = -100))) := by
            first | omega | grind
          exact W.iret (v := zI r_25) hx hb hr (fun t9 ht hW => ⟨⟨zI r_25, (r_25, Mthrown_8), rfl, ⟨rfl, ⟨hv_28, hv_29⟩⟩, by subst hAe; exact z_end hK hw ht hW⟩, by subst hAe; exact hw.2.2.F ht⟩) (by subst hAe; exact hw.2.2.2.2) dX8_at_73
        · skip
          refine z_tableIn (k := 2) (off := 47) (tgt := 74) hx hb hc_17 dX8_at_27 (by decide) (by decide) rfl (by decide) ?_
          refine lv_aload_n hx hb dX8_at_74 rfl (lv_at hl 0 rfl) ?_
          refine va_get (D := D) (ci := 8) (v := .ref (oM 14)) (C := RX8) (T := TX8) (N := 36) hx hb hts hinX8 hown hK hw.1 0 rfl rfl 32 (by decide) (hts (.fieldLink RX8 59 "CarnivalRoadModel" "out" "[Z") (by decide +kernel)) (fun _ h9 => h9) rfl dX8_at_75 ?_
          refine lv_iload_n hx hb dX8_at_78 rfl (lv_at hl 1 rfl) ?_
          have hi_30 : (0 : Int) ≤ g ∧ g < ((16 : Nat) : Int) := by
            first | omega | grind
          refine z_zald (n := 16) (f := Mout) hx hb hK hw 14 rfl (by decide) hi_30 dX8_at_79 ?_
          have hq_31 : 0 ≤ Mout g ∧ Mout g ≤ 1 := qMout g
          refine z_if_eq (tgt := 87) hx hb dX8_at_80 (by decide) (by omega) (fun hc_32 => ?_) (fun hc_32 => ?_)
          · skip
            refine lv_aload_n hx hb dX8_at_87 rfl (lv_at hl 0 rfl) ?_
            refine va_get (D := D) (ci := 8) (v := .ref (oM 10)) (C := RX8) (T := TX8) (N := 36) hx hb hts hinX8 hown hK hw.1 0 rfl rfl 28 (by decide) (hts (.fieldLink RX8 47 "CarnivalRoadModel" "head" "[I") (by decide +kernel)) (fun _ h9 => h9) rfl dX8_at_88 ?_
            refine lv_iload_n hx hb dX8_at_91 rfl (lv_at hl 1 rfl) ?_
            have hi_33 : (0 : Int) ≤ g ∧ g < ((16 : Nat) : Int) := by
              first | omega | grind
            refine z_iald (n := 16) (f := Mhead) hx hb hK hw 10 rfl (by decide) hi_33 dX8_at_92 ?_
            have hq_34 : -1 ≤ Mhead g ∧ Mhead g ≤ 60 := qMhead g
            refine z_if_ge (tgt := 100) hx hb dX8_at_93 (by decide) (by omega) (fun hc_35 => ?_) (fun hc_35 => ?_)
            · skip
              refine lv_aload_n hx hb dX8_at_100 rfl (lv_at hl 0 rfl) ?_
              refine va_get (D := D) (ci := 8) (v := .ref (oM 11)) (C := RX8) (T := TX8) (N := 36) hx hb hts hinX8 hown hK hw.1 0 rfl rfl 29 (by decide) (hts (.fieldLink RX8 50 "CarnivalRoadModel" "plays" "[I") (by decide +kernel)) (fun _ h9 => h9) rfl dX8_at_101 ?_
              refine lv_iload_n hx hb dX8_at_104 rfl (lv_at hl 1 rfl) ?_
              have hi_36 : (0 : Int) ≤ g ∧ g < ((16 : Nat) : Int) := by
                first | omega | grind
              refine z_iald (n := 16) (f := Mplays) hx hb hK hw 11 rfl (by decide) hi_36 dX8_at_105 ?_
              have hq_37 : 0 ≤ Mplays g ∧ Mplays g ≤ 18 := qMplays g
              refine z_if_gt (tgt := 118) hx hb dX8_at_106 (by decide) (by omega) (fun hc_38 => ?_) (fun hc_38 => ?_)
              · skip
                refine z_iconst hx hb dX8_at_118 ?_
                refine lv_goto (tgt := 123) hx hb dX8_at_119 (by decide) ?_
                have hv_39 : (0 : Int) ≤ Mthrown_8 ∧ Mthrown_8 ≤ 2 := by
                  first | omega | grind
                have hv_40 : (¬ (0 ≤ g ∧ g < Mmany) ∧ Mthrown_8 = 1) ∨ ((0 ≤ g ∧ g < Mmany) ∧ Mruns = 0 ∧ Mthrown_8 = 2) ∨ ((0 ≤ g ∧ g < Mmany) ∧ Mruns = 1 ∧ Mthrown_8 = 0 ∧ ((w = 0 ∧ (2 : Int) = Mhead g) ∨ (w = 1 ∧ (2 : Int) = Mhead (0 + g) - Mguest (5 * g + 1) + 1) ∨ (w = 2 ∧ ((Mout g = 1 ∧ (2 : Int) = 3) ∨ (Mout g = 0 ∧ Mhead g < 0 ∧ (2 : Int) = 0) ∨ (Mout g = 0 ∧ 0 ≤ Mhead g ∧ (0 < Mplays g ∨ 0 < Mrests g) ∧ (2 : Int) = 2) ∨ (Mout g = 0 ∧ 0 ≤ Mhead g ∧ ¬ (0 < Mplays g ∨ 0 < Mrests g) ∧ (2 : Int) = 1))) ∨ (w = 3 ∧ (2 : Int) = Mcame g) ∨ (w = 4 ∧ (2 : Int) = Mgone g) ∨ ((w < 0 ∨ 4 < w) ∧ (2 : Int) = -100))) := by
                  first | omega | grind
                exact W.iret (v := zI 2) hx hb hr (fun t9 ht hW => ⟨⟨zI 2, (2, Mthrown_8), rfl, ⟨rfl, ⟨hv_39, hv_40⟩⟩, by subst hAe; exact z_end hK hw ht hW⟩, by subst hAe; exact hw.2.2.F ht⟩) (by subst hAe; exact hw.2.2.2.2) dX8_at_123
              · skip
                refine lv_aload_n hx hb dX8_at_109 rfl (lv_at hl 0 rfl) ?_
                refine va_get (D := D) (ci := 8) (v := .ref (oM 12)) (C := RX8) (T := TX8) (N := 36) hx hb hts hinX8 hown hK hw.1 0 rfl rfl 30 (by decide) (hts (.fieldLink RX8 53 "CarnivalRoadModel" "rests" "[I") (by decide +kernel)) (fun _ h9 => h9) rfl dX8_at_110 ?_
                refine lv_iload_n hx hb dX8_at_113 rfl (lv_at hl 1 rfl) ?_
                have hi_41 : (0 : Int) ≤ g ∧ g < ((16 : Nat) : Int) := by
                  first | omega | grind
                refine z_iald (n := 16) (f := Mrests) hx hb hK hw 12 rfl (by decide) hi_41 dX8_at_114 ?_
                have hq_42 : 0 ≤ Mrests g ∧ Mrests g ≤ 3 := qMrests g
                refine z_if_le (tgt := 122) hx hb dX8_at_115 (by decide) (by omega) (fun hc_43 => ?_) (fun hc_43 => ?_)
                · skip
                  refine z_iconst hx hb dX8_at_122 ?_
                  have hv_44 : (0 : Int) ≤ Mthrown_8 ∧ Mthrown_8 ≤ 2 := by
                    first | omega | grind
                  have hv_45 : (¬ (0 ≤ g ∧ g < Mmany) ∧ Mthrown_8 = 1) ∨ ((0 ≤ g ∧ g < Mmany) ∧ Mruns = 0 ∧ Mthrown_8 = 2) ∨ ((0 ≤ g ∧ g < Mmany) ∧ Mruns = 1 ∧ Mthrown_8 = 0 ∧ ((w = 0 ∧ (1 : Int) = Mhead g) ∨ (w = 1 ∧ (1 : Int) = Mhead (0 + g) - Mguest (5 * g + 1) + 1) ∨ (w = 2 ∧ ((Mout g = 1 ∧ (1 : Int) = 3) ∨ (Mout g = 0 ∧ Mhead g < 0 ∧ (1 : Int) = 0) ∨ (Mout g = 0 ∧ 0 ≤ Mhead g ∧ (0 < Mplays g ∨ 0 < Mrests g) ∧ (1 : Int) = 2) ∨ (Mout g = 0 ∧ 0 ≤ Mhead g ∧ ¬ (0 < Mplays g ∨ 0 < Mrests g) ∧ (1 : Int) = 1))) ∨ (w = 3 ∧ (1 : Int) = Mcame g) ∨ (w = 4 ∧ (1 : Int) = Mgone g) ∨ ((w < 0 ∨ 4 < w) ∧ (1 : Int) = -100))) := by
                    first | omega | grind
                  exact W.iret (v := zI 1) hx hb hr (fun t9 ht hW => ⟨⟨zI 1, (1, Mthrown_8), rfl, ⟨rfl, ⟨hv_44, hv_45⟩⟩, by subst hAe; exact z_end hK hw ht hW⟩, by subst hAe; exact hw.2.2.F ht⟩) (by subst hAe; exact hw.2.2.2.2) dX8_at_123
                · skip
                  refine z_iconst hx hb dX8_at_118 ?_
                  refine lv_goto (tgt := 123) hx hb dX8_at_119 (by decide) ?_
                  have hv_46 : (0 : Int) ≤ Mthrown_8 ∧ Mthrown_8 ≤ 2 := by
                    first | omega | grind
                  have hv_47 : (¬ (0 ≤ g ∧ g < Mmany) ∧ Mthrown_8 = 1) ∨ ((0 ≤ g ∧ g < Mmany) ∧ Mruns = 0 ∧ Mthrown_8 = 2) ∨ ((0 ≤ g ∧ g < Mmany) ∧ Mruns = 1 ∧ Mthrown_8 = 0 ∧ ((w = 0 ∧ (2 : Int) = Mhead g) ∨ (w = 1 ∧ (2 : Int) = Mhead (0 + g) - Mguest (5 * g + 1) + 1) ∨ (w = 2 ∧ ((Mout g = 1 ∧ (2 : Int) = 3) ∨ (Mout g = 0 ∧ Mhead g < 0 ∧ (2 : Int) = 0) ∨ (Mout g = 0 ∧ 0 ≤ Mhead g ∧ (0 < Mplays g ∨ 0 < Mrests g) ∧ (2 : Int) = 2) ∨ (Mout g = 0 ∧ 0 ≤ Mhead g ∧ ¬ (0 < Mplays g ∨ 0 < Mrests g) ∧ (2 : Int) = 1))) ∨ (w = 3 ∧ (2 : Int) = Mcame g) ∨ (w = 4 ∧ (2 : Int) = Mgone g) ∨ ((w < 0 ∨ 4 < w) ∧ (2 : Int) = -100))) := by
                    first | omega | grind
                  exact W.iret (v := zI 2) hx hb hr (fun t9 ht hW => ⟨⟨zI 2, (2, Mthrown_8), rfl, ⟨rfl, ⟨hv_46, hv_47⟩⟩, by subst hAe; exact z_end hK hw ht hW⟩, by subst hAe; exact hw.2.2.F ht⟩) (by subst hAe; exact hw.2.2.2.2) dX8_at_123
            · skip
              refine z_iconst hx hb dX8_at_96 ?_
              refine lv_goto (tgt := 123) hx hb dX8_at_97 (by decide) ?_
              have hv_48 : (0 : Int) ≤ Mthrown_8 ∧ Mthrown_8 ≤ 2 := by
                first | omega | grind
              have hv_49 : (¬ (0 ≤ g ∧ g < Mmany) ∧ Mthrown_8 = 1) ∨ ((0 ≤ g ∧ g < Mmany) ∧ Mruns = 0 ∧ Mthrown_8 = 2) ∨ ((0 ≤ g ∧ g < Mmany) ∧ Mruns = 1 ∧ Mthrown_8 = 0 ∧ ((w = 0 ∧ (0 : Int) = Mhead g) ∨ (w = 1 ∧ (0 : Int) = Mhead (0 + g) - Mguest (5 * g + 1) + 1) ∨ (w = 2 ∧ ((Mout g = 1 ∧ (0 : Int) = 3) ∨ (Mout g = 0 ∧ Mhead g < 0 ∧ (0 : Int) = 0) ∨ (Mout g = 0 ∧ 0 ≤ Mhead g ∧ (0 < Mplays g ∨ 0 < Mrests g) ∧ (0 : Int) = 2) ∨ (Mout g = 0 ∧ 0 ≤ Mhead g ∧ ¬ (0 < Mplays g ∨ 0 < Mrests g) ∧ (0 : Int) = 1))) ∨ (w = 3 ∧ (0 : Int) = Mcame g) ∨ (w = 4 ∧ (0 : Int) = Mgone g) ∨ ((w < 0 ∨ 4 < w) ∧ (0 : Int) = -100))) := by
                first | omega | grind
              exact W.iret (v := zI 0) hx hb hr (fun t9 ht hW => ⟨⟨zI 0, (0, Mthrown_8), rfl, ⟨rfl, ⟨hv_48, hv_49⟩⟩, by subst hAe; exact z_end hK hw ht hW⟩, by subst hAe; exact hw.2.2.F ht⟩) (by subst hAe; exact hw.2.2.2.2) dX8_at_123
          · skip
            refine z_iconst hx hb dX8_at_83 ?_
            refine lv_goto (tgt := 123) hx hb dX8_at_84 (by decide) ?_
            have hv_50 : (0 : Int) ≤ Mthrown_8 ∧ Mthrown_8 ≤ 2 := by
              first | omega | grind
            have hv_51 : (¬ (0 ≤ g ∧ g < Mmany) ∧ Mthrown_8 = 1) ∨ ((0 ≤ g ∧ g < Mmany) ∧ Mruns = 0 ∧ Mthrown_8 = 2) ∨ ((0 ≤ g ∧ g < Mmany) ∧ Mruns = 1 ∧ Mthrown_8 = 0 ∧ ((w = 0 ∧ (3 : Int) = Mhead g) ∨ (w = 1 ∧ (3 : Int) = Mhead (0 + g) - Mguest (5 * g + 1) + 1) ∨ (w = 2 ∧ ((Mout g = 1 ∧ (3 : Int) = 3) ∨ (Mout g = 0 ∧ Mhead g < 0 ∧ (3 : Int) = 0) ∨ (Mout g = 0 ∧ 0 ≤ Mhead g ∧ (0 < Mplays g ∨ 0 < Mrests g) ∧ (3 : Int) = 2) ∨ (Mout g = 0 ∧ 0 ≤ Mhead g ∧ ¬ (0 < Mplays g ∨ 0 < Mrests g) ∧ (3 : Int) = 1))) ∨ (w = 3 ∧ (3 : Int) = Mcame g) ∨ (w = 4 ∧ (3 : Int) = Mgone g) ∨ ((w < 0 ∨ 4 < w) ∧ (3 : Int) = -100))) := by
              first | omega | grind
            exact W.iret (v := zI 3) hx hb hr (fun t9 ht hW => ⟨⟨zI 3, (3, Mthrown_8), rfl, ⟨rfl, ⟨hv_50, hv_51⟩⟩, by subst hAe; exact z_end hK hw ht hW⟩, by subst hAe; exact hw.2.2.F ht⟩) (by subst hAe; exact hw.2.2.2.2) dX8_at_123
        · skip
          refine z_tableIn (k := 3) (off := 97) (tgt := 124) hx hb hc_17 dX8_at_27 (by decide) (by decide) rfl (by decide) ?_
          refine lv_aload_n hx hb dX8_at_124 rfl (lv_at hl 0 rfl) ?_
          refine va_get (D := D) (ci := 8) (v := .ref (oM 15)) (C := RX8) (T := TX8) (N := 36) hx hb hts hinX8 hown hK hw.1 0 rfl rfl 33 (by decide) (hts (.fieldLink RX8 63 "CarnivalRoadModel" "came" "[I") (by decide +kernel)) (fun _ h9 => h9) rfl dX8_at_125 ?_
          refine lv_iload_n hx hb dX8_at_128 rfl (lv_at hl 1 rfl) ?_
          have hi_52 : (0 : Int) ≤ g ∧ g < ((8 : Nat) : Int) := by
            first | omega | grind
          refine z_iald (n := 8) (f := Mcame) hx hb hK hw 15 rfl (by decide) hi_52 dX8_at_129 ?_
          have hq_53 : -1 ≤ Mcame g ∧ Mcame g ≤ 1000000 := qMcame g
          have hv_54 : (0 : Int) ≤ Mthrown_8 ∧ Mthrown_8 ≤ 2 := by
            first | omega | grind
          have hv_55 : (¬ (0 ≤ g ∧ g < Mmany) ∧ Mthrown_8 = 1) ∨ ((0 ≤ g ∧ g < Mmany) ∧ Mruns = 0 ∧ Mthrown_8 = 2) ∨ ((0 ≤ g ∧ g < Mmany) ∧ Mruns = 1 ∧ Mthrown_8 = 0 ∧ ((w = 0 ∧ (Mcame g) = Mhead g) ∨ (w = 1 ∧ (Mcame g) = Mhead (0 + g) - Mguest (5 * g + 1) + 1) ∨ (w = 2 ∧ ((Mout g = 1 ∧ (Mcame g) = 3) ∨ (Mout g = 0 ∧ Mhead g < 0 ∧ (Mcame g) = 0) ∨ (Mout g = 0 ∧ 0 ≤ Mhead g ∧ (0 < Mplays g ∨ 0 < Mrests g) ∧ (Mcame g) = 2) ∨ (Mout g = 0 ∧ 0 ≤ Mhead g ∧ ¬ (0 < Mplays g ∨ 0 < Mrests g) ∧ (Mcame g) = 1))) ∨ (w = 3 ∧ (Mcame g) = Mcame g) ∨ (w = 4 ∧ (Mcame g) = Mgone g) ∨ ((w < 0 ∨ 4 < w) ∧ (Mcame g) = -100))) := by
            first | omega | grind
          exact W.iret (v := zI (Mcame g)) hx hb hr (fun t9 ht hW => ⟨⟨zI (Mcame g), ((Mcame g), Mthrown_8), rfl, ⟨rfl, ⟨hv_54, hv_55⟩⟩, by subst hAe; exact z_end hK hw ht hW⟩, by subst hAe; exact hw.2.2.F ht⟩) (by subst hAe; exact hw.2.2.2.2) dX8_at_130
        · skip
          refine z_tableIn (k := 4) (off := 104) (tgt := 131) hx hb hc_17 dX8_at_27 (by decide) (by decide) rfl (by decide) ?_
          refine lv_aload_n hx hb dX8_at_131 rfl (lv_at hl 0 rfl) ?_
          refine va_get (D := D) (ci := 8) (v := .ref (oM 16)) (C := RX8) (T := TX8) (N := 36) hx hb hts hinX8 hown hK hw.1 0 rfl rfl 34 (by decide) (hts (.fieldLink RX8 66 "CarnivalRoadModel" "gone" "[I") (by decide +kernel)) (fun _ h9 => h9) rfl dX8_at_132 ?_
          refine lv_iload_n hx hb dX8_at_135 rfl (lv_at hl 1 rfl) ?_
          have hi_56 : (0 : Int) ≤ g ∧ g < ((8 : Nat) : Int) := by
            first | omega | grind
          refine z_iald (n := 8) (f := Mgone) hx hb hK hw 16 rfl (by decide) hi_56 dX8_at_136 ?_
          have hq_57 : -1 ≤ Mgone g ∧ Mgone g ≤ 1000000 := qMgone g
          have hv_58 : (0 : Int) ≤ Mthrown_8 ∧ Mthrown_8 ≤ 2 := by
            first | omega | grind
          have hv_59 : (¬ (0 ≤ g ∧ g < Mmany) ∧ Mthrown_8 = 1) ∨ ((0 ≤ g ∧ g < Mmany) ∧ Mruns = 0 ∧ Mthrown_8 = 2) ∨ ((0 ≤ g ∧ g < Mmany) ∧ Mruns = 1 ∧ Mthrown_8 = 0 ∧ ((w = 0 ∧ (Mgone g) = Mhead g) ∨ (w = 1 ∧ (Mgone g) = Mhead (0 + g) - Mguest (5 * g + 1) + 1) ∨ (w = 2 ∧ ((Mout g = 1 ∧ (Mgone g) = 3) ∨ (Mout g = 0 ∧ Mhead g < 0 ∧ (Mgone g) = 0) ∨ (Mout g = 0 ∧ 0 ≤ Mhead g ∧ (0 < Mplays g ∨ 0 < Mrests g) ∧ (Mgone g) = 2) ∨ (Mout g = 0 ∧ 0 ≤ Mhead g ∧ ¬ (0 < Mplays g ∨ 0 < Mrests g) ∧ (Mgone g) = 1))) ∨ (w = 3 ∧ (Mgone g) = Mcame g) ∨ (w = 4 ∧ (Mgone g) = Mgone g) ∨ ((w < 0 ∨ 4 < w) ∧ (Mgone g) = -100))) := by
            first | omega | grind
          exact W.iret (v := zI (Mgone g)) hx hb hr (fun t9 ht hW => ⟨⟨zI (Mgone g), ((Mgone g), Mthrown_8), rfl, ⟨rfl, ⟨hv_58, hv_59⟩⟩, by subst hAe; exact z_end hK hw ht hW⟩, by subst hAe; exact hw.2.2.F ht⟩) (by subst hAe; exact hw.2.2.2.2) dX8_at_137
    · skip
      refine z_iconst hx hb dX8_at_13 ?_
      refine lv_goto (tgt := 18) hx hb dX8_at_14 (by decide) ?_
      have hF9 := z_free (wc := kM cI cB cZ oM Mthrown Mmany Mguest Mrow Mbars Mbar Mfresh Mtape Mtaped Mpos Mtoken MtokenAt Mvalue Mwrong MwrongAt MfaultKind MfaultPlace Mthing Morder Mone Mtwo Mbest Mcells Mgap Mwire Mstand Mruns Mminute Mhead Mplays Mrests Mwent Mout Mcame Mgone MlastOut) hw hA [0, 1, 2, 3, 4, 5, 6, 7, 8, 9, 10, 11, 12, 13, 14, 15, 16] rfl
      refine va_calli (va_runV (As := [.int (zI 1), .int (zI 1)]) (rest := []) ⟨hx, hb, hml, hown, hts⟩ (c_X8_fails l D cI cB cZ oM H_1.size Mthrown Mmany Mguest Mrow Mbars Mbar Mfresh Mtape Mtaped Mpos Mtoken MtokenAt Mvalue Mwrong MwrongAt MfaultKind MfaultPlace Mthing Morder Mone Mtwo Mbest Mcells Mgap Mwire Mstand Mruns Mminute Mhead Mplays Mrests Mwent Mout Mcame Mgone MlastOut 1 1 (by omega) (by omega) qMguest qMrow (by omega) qMbar qMfresh qMtape (by omega) (by omega) (by omega) (by omega) (by omega) (by omega) (by omega) (by omega) (by omega) (by omega) qMorder (by omega) (by omega) qMbest (by omega) (by omega) qMwire qMstand (by omega) (by omega) qMhead qMplays qMrests qMwent qMout qMcame qMgone (by omega) (by omega) (by omega)) (cwV 2 hts gX8_at_X8_fails rfl rfl rfl (by decide +kernel) ⟨Nat.le_of_ble_eq_true rfl, Nat.le_of_ble_eq_true rfl⟩) ⟨zPre_blind, va_recv hK hw.1 (ci := 8) (q0 := 0) rfl rfl, z_pre hK hw [0, 1, 2, 3, 4, 5, 6, 7, 8, 9, 10, 11, 12, 13, 14, 15, 16] (by decide) rfl⟩ rfl rfl hl.1 rfl (lv_room (Nat.le_of_ble_eq_true rfl)) dX8_at_18 ⟨Nat.zero_le _, Nat.zero_le _⟩) hw.2.2 (fun q _ h => hF9 q h) hF9 (fun r9 u9 t9 H_60 locs9 ht9 hvm9 hq9 hB9 hz9 hk9 hS9 => ?_)
      obtain ⟨r_61, Mthrown_62⟩ := u9
      try dsimp only at hq9 hB9
      obtain ⟨rfl, hq9⟩ := hq9
      obtain ⟨hq_63, hq_64, hq_65⟩ := hq9
      have hw : HW D A s.heap (kM cI cB cZ oM Mthrown_62 Mmany Mguest Mrow Mbars Mbar Mfresh Mtape Mtaped Mpos Mtoken MtokenAt Mvalue Mwrong MwrongAt MfaultKind MfaultPlace Mthing Morder Mone Mtwo Mbest Mcells Mgap Mwire Mstand Mruns Mminute Mhead Mplays Mrests Mwent Mout Mcame Mgone MlastOut) H_60 locs9 := z_after (wc := kM cI cB cZ oM Mthrown Mmany Mguest Mrow Mbars Mbar Mfresh Mtape Mtaped Mpos Mtoken MtokenAt Mvalue Mwrong MwrongAt MfaultKind MfaultPlace Mthing Morder Mone Mtwo Mbest Mcells Mgap Mwire Mstand Mruns Mminute Mhead Mplays Mrests Mwent Mout Mcame Mgone MlastOut) hw [0, 1, 2, 3, 4, 5, 6, 7, 8, 9, 10, 11, 12, 13, 14, 15, 16] [] rfl rfl (by decide) (by decide) hF9 hk9 ht9 hB9 hS9 [0, 1, 2, 3, 4, 5, 6, 7, 8, 9, 10, 11, 12, 13, 14, 15, 16] (by decide) rfl
      clear hF9 ht9 hvm9 hB9 hz9 hk9 hS9
      rcases hq_64 with ⟨hc_66, rfl⟩ | ⟨hc_66, rfl⟩
      · skip
        refine z_if_eq (tgt := 26) hx hb dX8_at_21 (by decide) (by omega) (fun hc_67 => absurd hc_67 (by omega)) (fun hc_67 => ?_)
        refine z_iconst hx hb dX8_at_24 ?_
        have hv_68 : (0 : Int) ≤ Mthrown_62 ∧ Mthrown_62 ≤ 2 := by
          first | omega | grind
        have hv_69 : (¬ (0 ≤ g ∧ g < Mmany) ∧ Mthrown_62 = 1) ∨ ((0 ≤ g ∧ g < Mmany) ∧ Mruns = 0 ∧ Mthrown_62 = 2) ∨ ((0 ≤ g ∧ g < Mmany) ∧ Mruns = 1 ∧ Mthrown_62 = 0 ∧ ((w = 0 ∧ (0 : Int) = Mhead g) ∨ (w = 1 ∧ (0 : Int) = Mhead (0 + g) - Mguest (5 * g + 1) + 1) ∨ (w = 2 ∧ ((Mout g = 1 ∧ (0 : Int) = 3) ∨ (Mout g = 0 ∧ Mhead g < 0 ∧ (0 : Int) = 0) ∨ (Mout g = 0 ∧ 0 ≤ Mhead g ∧ (0 < Mplays g ∨ 0 < Mrests g) ∧ (0 : Int) = 2) ∨ (Mout g = 0 ∧ 0 ≤ Mhead g ∧ ¬ (0 < Mplays g ∨ 0 < Mrests g) ∧ (0 : Int) = 1))) ∨ (w = 3 ∧ (0 : Int) = Mcame g) ∨ (w = 4 ∧ (0 : Int) = Mgone g) ∨ ((w < 0 ∨ 4 < w) ∧ (0 : Int) = -100))) := by
          first | omega | grind
        exact W.iret (v := zI 0) hx hb hr (fun t9 ht hW => ⟨⟨zI 0, (0, Mthrown_62), rfl, ⟨rfl, ⟨hv_68, hv_69⟩⟩, by subst hAe; exact z_end hK hw ht hW⟩, by subst hAe; exact hw.2.2.F ht⟩) (by subst hAe; exact hw.2.2.2.2) dX8_at_25
      · skip
        refine z_if_eq (tgt := 26) hx hb dX8_at_21 (by decide) (by omega) (fun hc_70 => ?_) (fun hc_70 => absurd hc_70 (by omega))
        refine lv_iload_n hx hb dX8_at_26 rfl (lv_at hl 2 rfl) ?_
        rcases (show (w < 0 ∨ 4 < w) ∨ w = 0 ∨ w = 1 ∨ w = 2 ∨ w = 3 ∨ w = 4 by omega) with hc_71 | hc_71 | hc_71 | hc_71 | hc_71 | hc_71
        · skip
          refine z_tableOut (tgt := 138) hx hb (by omega) hc_71 dX8_at_27 (by decide) ?_
          refine z_bipush hx hb dX8_at_138 (by decide) ?_
          have hv_72 : (0 : Int) ≤ Mthrown_62 ∧ Mthrown_62 ≤ 2 := by
            first | omega | grind
          have hv_73 : (¬ (0 ≤ g ∧ g < Mmany) ∧ Mthrown_62 = 1) ∨ ((0 ≤ g ∧ g < Mmany) ∧ Mruns = 0 ∧ Mthrown_62 = 2) ∨ ((0 ≤ g ∧ g < Mmany) ∧ Mruns = 1 ∧ Mthrown_62 = 0 ∧ ((w = 0 ∧ ((-100) : Int) = Mhead g) ∨ (w = 1 ∧ ((-100) : Int) = Mhead (0 + g) - Mguest (5 * g + 1) + 1) ∨ (w = 2 ∧ ((Mout g = 1 ∧ ((-100) : Int) = 3) ∨ (Mout g = 0 ∧ Mhead g < 0 ∧ ((-100) : Int) = 0) ∨ (Mout g = 0 ∧ 0 ≤ Mhead g ∧ (0 < Mplays g ∨ 0 < Mrests g) ∧ ((-100) : Int) = 2) ∨ (Mout g = 0 ∧ 0 ≤ Mhead g ∧ ¬ (0 < Mplays g ∨ 0 < Mrests g) ∧ ((-100) : Int) = 1))) ∨ (w = 3 ∧ ((-100) : Int) = Mcame g) ∨ (w = 4 ∧ ((-100) : Int) = Mgone g) ∨ ((w < 0 ∨ 4 < w) ∧ ((-100) : Int) = -100))) := by
            first | omega | grind
          exact W.iret (v := zI (-100)) hx hb hr (fun t9 ht hW => ⟨⟨zI (-100), ((-100), Mthrown_62), rfl, ⟨rfl, ⟨hv_72, hv_73⟩⟩, by subst hAe; exact z_end hK hw ht hW⟩, by subst hAe; exact hw.2.2.F ht⟩) (by subst hAe; exact hw.2.2.2.2) dX8_at_140
        · skip
          refine z_tableIn (k := 0) (off := 33) (tgt := 60) hx hb hc_71 dX8_at_27 (by decide) (by decide) rfl (by decide) ?_
          refine lv_aload_n hx hb dX8_at_60 rfl (lv_at hl 0 rfl) ?_
          refine va_get (D := D) (ci := 8) (v := .ref (oM 10)) (C := RX8) (T := TX8) (N := 36) hx hb hts hinX8 hown hK hw.1 0 rfl rfl 28 (by decide) (hts (.fieldLink RX8 47 "CarnivalRoadModel" "head" "[I") (by decide +kernel)) (fun _ h9 => h9) rfl dX8_at_61 ?_
          refine lv_iload_n hx hb dX8_at_64 rfl (lv_at hl 1 rfl) ?_
          have hi_74 : (0 : Int) ≤ g ∧ g < ((16 : Nat) : Int) := by
            first | omega | grind
          refine z_iald (n := 16) (f := Mhead) hx hb hK hw 10 rfl (by decide) hi_74 dX8_at_65 ?_
          have hq_75 : -1 ≤ Mhead g ∧ Mhead g ≤ 60 := qMhead g
          have hv_76 : (0 : Int) ≤ Mthrown_62 ∧ Mthrown_62 ≤ 2 := by
            first | omega | grind
          have hv_77 : (¬ (0 ≤ g ∧ g < Mmany) ∧ Mthrown_62 = 1) ∨ ((0 ≤ g ∧ g < Mmany) ∧ Mruns = 0 ∧ Mthrown_62 = 2) ∨ ((0 ≤ g ∧ g < Mmany) ∧ Mruns = 1 ∧ Mthrown_62 = 0 ∧ ((w = 0 ∧ (Mhead g) = Mhead g) ∨ (w = 1 ∧ (Mhead g) = Mhead (0 + g) - Mguest (5 * g + 1) + 1) ∨ (w = 2 ∧ ((Mout g = 1 ∧ (Mhead g) = 3) ∨ (Mout g = 0 ∧ Mhead g < 0 ∧ (Mhead g) = 0) ∨ (Mout g = 0 ∧ 0 ≤ Mhead g ∧ (0 < Mplays g ∨ 0 < Mrests g) ∧ (Mhead g) = 2) ∨ (Mout g = 0 ∧ 0 ≤ Mhead g ∧ ¬ (0 < Mplays g ∨ 0 < Mrests g) ∧ (Mhead g) = 1))) ∨ (w = 3 ∧ (Mhead g) = Mcame g) ∨ (w = 4 ∧ (Mhead g) = Mgone g) ∨ ((w < 0 ∨ 4 < w) ∧ (Mhead g) = -100))) := by
            first | omega | grind
          exact W.iret (v := zI (Mhead g)) hx hb hr (fun t9 ht hW => ⟨⟨zI (Mhead g), ((Mhead g), Mthrown_62), rfl, ⟨rfl, ⟨hv_76, hv_77⟩⟩, by subst hAe; exact z_end hK hw ht hW⟩, by subst hAe; exact hw.2.2.F ht⟩) (by subst hAe; exact hw.2.2.2.2) dX8_at_66
        · skip
          refine z_tableIn (k := 1) (off := 40) (tgt := 67) hx hb hc_71 dX8_at_27 (by decide) (by decide) rfl (by decide) ?_
          refine lv_aload_n hx hb dX8_at_67 rfl (lv_at hl 0 rfl) ?_
          refine z_iconst hx hb dX8_at_68 ?_
          refine lv_iload_n hx hb dX8_at_69 rfl (lv_at hl 1 rfl) ?_
          have hF9 := z_free (wc := kM cI cB cZ oM Mthrown_62 Mmany Mguest Mrow Mbars Mbar Mfresh Mtape Mtaped Mpos Mtoken MtokenAt Mvalue Mwrong MwrongAt MfaultKind MfaultPlace Mthing Morder Mone Mtwo Mbest Mcells Mgap Mwire Mstand Mruns Mminute Mhead Mplays Mrests Mwent Mout Mcame Mgone MlastOut) hw hA [0, 1, 2, 3, 4, 5, 6, 7, 8, 9, 10, 11, 12, 13, 14, 15, 16] rfl
          refine va_calli (va_runV (As := [.int (zI 0), .int (zI g)]) (rest := []) ⟨hx, hb, hml, hown, hts⟩ (c_X8_tail l D cI cB cZ oM H_60.size Mthrown_62 Mmany Mguest Mrow Mbars Mbar Mfresh Mtape Mtaped Mpos Mtoken MtokenAt Mvalue Mwrong MwrongAt MfaultKind MfaultPlace Mthing Morder Mone Mtwo Mbest Mcells Mgap Mwire Mstand Mruns Mminute Mhead Mplays Mrests Mwent Mout Mcame Mgone MlastOut 0 g (by omega) (by omega) qMguest qMrow (by omega) qMbar qMfresh qMtape (by omega) (by omega) (by omega) (by omega) (by omega) (by omega) (by omega) (by omega) (by omega) (by omega) qMorder (by omega) (by omega) qMbest (by omega) (by omega) qMwire qMstand (by omega) (by omega) qMhead qMplays qMrests qMwent qMout qMcame qMgone (by omega) (by omega) (by omega)) (cwV 2 hts gX8_at_X8_tail rfl rfl rfl (by decide +kernel) ⟨Nat.le_of_ble_eq_true rfl, Nat.le_of_ble_eq_true rfl⟩) ⟨zPre_blind, va_recv hK hw.1 (ci := 8) (q0 := 0) rfl rfl, z_pre hK hw [0, 1, 2, 3, 4, 5, 6, 7, 8, 9, 10, 11, 12, 13, 14, 15, 16] (by decide) rfl⟩ rfl rfl hl.1 rfl (lv_room (Nat.le_of_ble_eq_true rfl)) dX8_at_70 ⟨Nat.zero_le _, Nat.zero_le _⟩) hw.2.2 (fun q _ h => hF9 q h) hF9 (fun r9 u9 t9 H_78 locs9 ht9 hvm9 hq9 hB9 hz9 hk9 hS9 => ?_)
          obtain ⟨r_79, rfl⟩ : ∃ z, z = u9 := ⟨_, rfl⟩
          try dsimp only at hq9 hB9
          obtain ⟨rfl, hq9⟩ := hq9
          obtain ⟨hq_80, hq_81⟩ := hq9
          have hw : HW D A s.heap (kM cI cB cZ oM Mthrown_62 Mmany Mguest Mrow Mbars Mbar Mfresh Mtape Mtaped Mpos Mtoken MtokenAt Mvalue Mwrong MwrongAt MfaultKind MfaultPlace Mthing Morder Mone Mtwo Mbest Mcells Mgap Mwire Mstand Mruns Mminute Mhead Mplays Mrests Mwent Mout Mcame Mgone MlastOut) H_78 locs9 := z_after (wc := kM cI cB cZ oM Mthrown_62 Mmany Mguest Mrow Mbars Mbar Mfresh Mtape Mtaped Mpos Mtoken MtokenAt Mvalue Mwrong MwrongAt MfaultKind MfaultPlace Mthing Morder Mone Mtwo Mbest Mcells Mgap Mwire Mstand Mruns Mminute Mhead Mplays Mrests Mwent Mout Mcame Mgone MlastOut) hw [0, 1, 2, 3, 4, 5, 6, 7, 8, 9, 10, 11, 12, 13, 14, 15, 16] [] rfl rfl (by decide) (by decide) hF9 hk9 ht9 hB9 hS9 [0, 1, 2, 3, 4, 5, 6, 7, 8, 9, 10, 11, 12, 13, 14, 15, 16] (by decide) rfl
          clear hF9 ht9 hvm9 hB9 hz9 hk9 hS9
          have hv_82 : (0 : Int) ≤ Mthrown_62 ∧ Mthrown_62 ≤ 2 := by
            first | omega | grind
          have hv_83 : (¬ (0 ≤ g ∧ g < Mmany) ∧ Mthrown_62 = 1) ∨ ((0 ≤ g ∧ g < Mmany) ∧ Mruns = 0 ∧ Mthrown_62 = 2) ∨ ((0 ≤ g ∧ g < Mmany) ∧ Mruns = 1 ∧ Mthrown_62 = 0 ∧ ((w = 0 ∧ r_79 = Mhead g) ∨ (w = 1 ∧ r_79 = Mhead (0 + g) - Mguest (5 * g + 1) + 1) ∨ (w = 2 ∧ ((Mout g = 1 ∧ r_79 = 3) ∨ (Mout g = 0 ∧ Mhead g < 0 ∧ r_79 = 0) ∨ (Mout g = 0 ∧ 0 ≤ Mhead g ∧ (0 < Mplays g ∨ 0 < Mrests g) ∧ r_79 = 2) ∨ (Mout g = 0 ∧ 0 ≤ Mhead g ∧ ¬ (0 < Mplays g ∨ 0 < Mrests g) ∧ r_79 = 1))) ∨ (w = 3 ∧ r_79 = Mcame g) ∨ (w = 4 ∧ r_79 = Mgone g) ∨ ((w < 0 ∨ 4 < w) ∧ r_79 = -100))) := by
            first | omega | grind
          exact W.iret (v := zI r_79) hx hb hr (fun t9 ht hW => ⟨⟨zI r_79, (r_79, Mthrown_62), rfl, ⟨rfl, ⟨hv_82, hv_83⟩⟩, by subst hAe; exact z_end hK hw ht hW⟩, by subst hAe; exact hw.2.2.F ht⟩) (by subst hAe; exact hw.2.2.2.2) dX8_at_73
        · skip
          refine z_tableIn (k := 2) (off := 47) (tgt := 74) hx hb hc_71 dX8_at_27 (by decide) (by decide) rfl (by decide) ?_
          refine lv_aload_n hx hb dX8_at_74 rfl (lv_at hl 0 rfl) ?_
          refine va_get (D := D) (ci := 8) (v := .ref (oM 14)) (C := RX8) (T := TX8) (N := 36) hx hb hts hinX8 hown hK hw.1 0 rfl rfl 32 (by decide) (hts (.fieldLink RX8 59 "CarnivalRoadModel" "out" "[Z") (by decide +kernel)) (fun _ h9 => h9) rfl dX8_at_75 ?_
          refine lv_iload_n hx hb dX8_at_78 rfl (lv_at hl 1 rfl) ?_
          have hi_84 : (0 : Int) ≤ g ∧ g < ((16 : Nat) : Int) := by
            first | omega | grind
          refine z_zald (n := 16) (f := Mout) hx hb hK hw 14 rfl (by decide) hi_84 dX8_at_79 ?_
          have hq_85 : 0 ≤ Mout g ∧ Mout g ≤ 1 := qMout g
          refine z_if_eq (tgt := 87) hx hb dX8_at_80 (by decide) (by omega) (fun hc_86 => ?_) (fun hc_86 => ?_)
          · skip
            refine lv_aload_n hx hb dX8_at_87 rfl (lv_at hl 0 rfl) ?_
            refine va_get (D := D) (ci := 8) (v := .ref (oM 10)) (C := RX8) (T := TX8) (N := 36) hx hb hts hinX8 hown hK hw.1 0 rfl rfl 28 (by decide) (hts (.fieldLink RX8 47 "CarnivalRoadModel" "head" "[I") (by decide +kernel)) (fun _ h9 => h9) rfl dX8_at_88 ?_
            refine lv_iload_n hx hb dX8_at_91 rfl (lv_at hl 1 rfl) ?_
            have hi_87 : (0 : Int) ≤ g ∧ g < ((16 : Nat) : Int) := by
              first | omega | grind
            refine z_iald (n := 16) (f := Mhead) hx hb hK hw 10 rfl (by decide) hi_87 dX8_at_92 ?_
            have hq_88 : -1 ≤ Mhead g ∧ Mhead g ≤ 60 := qMhead g
            refine z_if_ge (tgt := 100) hx hb dX8_at_93 (by decide) (by omega) (fun hc_89 => ?_) (fun hc_89 => ?_)
            · skip
              refine lv_aload_n hx hb dX8_at_100 rfl (lv_at hl 0 rfl) ?_
              refine va_get (D := D) (ci := 8) (v := .ref (oM 11)) (C := RX8) (T := TX8) (N := 36) hx hb hts hinX8 hown hK hw.1 0 rfl rfl 29 (by decide) (hts (.fieldLink RX8 50 "CarnivalRoadModel" "plays" "[I") (by decide +kernel)) (fun _ h9 => h9) rfl dX8_at_101 ?_
              refine lv_iload_n hx hb dX8_at_104 rfl (lv_at hl 1 rfl) ?_
              have hi_90 : (0 : Int) ≤ g ∧ g < ((16 : Nat) : Int) := by
                first | omega | grind
              refine z_iald (n := 16) (f := Mplays) hx hb hK hw 11 rfl (by decide) hi_90 dX8_at_105 ?_
              have hq_91 : 0 ≤ Mplays g ∧ Mplays g ≤ 18 := qMplays g
              refine z_if_gt (tgt := 118) hx hb dX8_at_106 (by decide) (by omega) (fun hc_92 => ?_) (fun hc_92 => ?_)
              · skip
                refine z_iconst hx hb dX8_at_118 ?_
                refine lv_goto (tgt := 123) hx hb dX8_at_119 (by decide) ?_
                have hv_93 : (0 : Int) ≤ Mthrown_62 ∧ Mthrown_62 ≤ 2 := by
                  first | omega | grind
                have hv_94 : (¬ (0 ≤ g ∧ g < Mmany) ∧ Mthrown_62 = 1) ∨ ((0 ≤ g ∧ g < Mmany) ∧ Mruns = 0 ∧ Mthrown_62 = 2) ∨ ((0 ≤ g ∧ g < Mmany) ∧ Mruns = 1 ∧ Mthrown_62 = 0 ∧ ((w = 0 ∧ (2 : Int) = Mhead g) ∨ (w = 1 ∧ (2 : Int) = Mhead (0 + g) - Mguest (5 * g + 1) + 1) ∨ (w = 2 ∧ ((Mout g = 1 ∧ (2 : Int) = 3) ∨ (Mout g = 0 ∧ Mhead g < 0 ∧ (2 : Int) = 0) ∨ (Mout g = 0 ∧ 0 ≤ Mhead g ∧ (0 < Mplays g ∨ 0 < Mrests g) ∧ (2 : Int) = 2) ∨ (Mout g = 0 ∧ 0 ≤ Mhead g ∧ ¬ (0 < Mplays g ∨ 0 < Mrests g) ∧ (2 : Int) = 1))) ∨ (w = 3 ∧ (2 : Int) = Mcame g) ∨ (w = 4 ∧ (2 : Int) = Mgone g) ∨ ((w < 0 ∨ 4 < w) ∧ (2 : Int) = -100))) := by
                  first | omega | grind
                exact W.iret (v := zI 2) hx hb hr (fun t9 ht hW => ⟨⟨zI 2, (2, Mthrown_62), rfl, ⟨rfl, ⟨hv_93, hv_94⟩⟩, by subst hAe; exact z_end hK hw ht hW⟩, by subst hAe; exact hw.2.2.F ht⟩) (by subst hAe; exact hw.2.2.2.2) dX8_at_123
              · skip
                refine lv_aload_n hx hb dX8_at_109 rfl (lv_at hl 0 rfl) ?_
                refine va_get (D := D) (ci := 8) (v := .ref (oM 12)) (C := RX8) (T := TX8) (N := 36) hx hb hts hinX8 hown hK hw.1 0 rfl rfl 30 (by decide) (hts (.fieldLink RX8 53 "CarnivalRoadModel" "rests" "[I") (by decide +kernel)) (fun _ h9 => h9) rfl dX8_at_110 ?_
                refine lv_iload_n hx hb dX8_at_113 rfl (lv_at hl 1 rfl) ?_
                have hi_95 : (0 : Int) ≤ g ∧ g < ((16 : Nat) : Int) := by
                  first | omega | grind
                refine z_iald (n := 16) (f := Mrests) hx hb hK hw 12 rfl (by decide) hi_95 dX8_at_114 ?_
                have hq_96 : 0 ≤ Mrests g ∧ Mrests g ≤ 3 := qMrests g
                refine z_if_le (tgt := 122) hx hb dX8_at_115 (by decide) (by omega) (fun hc_97 => ?_) (fun hc_97 => ?_)
                · skip
                  refine z_iconst hx hb dX8_at_122 ?_
                  have hv_98 : (0 : Int) ≤ Mthrown_62 ∧ Mthrown_62 ≤ 2 := by
                    first | omega | grind
                  have hv_99 : (¬ (0 ≤ g ∧ g < Mmany) ∧ Mthrown_62 = 1) ∨ ((0 ≤ g ∧ g < Mmany) ∧ Mruns = 0 ∧ Mthrown_62 = 2) ∨ ((0 ≤ g ∧ g < Mmany) ∧ Mruns = 1 ∧ Mthrown_62 = 0 ∧ ((w = 0 ∧ (1 : Int) = Mhead g) ∨ (w = 1 ∧ (1 : Int) = Mhead (0 + g) - Mguest (5 * g + 1) + 1) ∨ (w = 2 ∧ ((Mout g = 1 ∧ (1 : Int) = 3) ∨ (Mout g = 0 ∧ Mhead g < 0 ∧ (1 : Int) = 0) ∨ (Mout g = 0 ∧ 0 ≤ Mhead g ∧ (0 < Mplays g ∨ 0 < Mrests g) ∧ (1 : Int) = 2) ∨ (Mout g = 0 ∧ 0 ≤ Mhead g ∧ ¬ (0 < Mplays g ∨ 0 < Mrests g) ∧ (1 : Int) = 1))) ∨ (w = 3 ∧ (1 : Int) = Mcame g) ∨ (w = 4 ∧ (1 : Int) = Mgone g) ∨ ((w < 0 ∨ 4 < w) ∧ (1 : Int) = -100))) := by
                    first | omega | grind
                  exact W.iret (v := zI 1) hx hb hr (fun t9 ht hW => ⟨⟨zI 1, (1, Mthrown_62), rfl, ⟨rfl, ⟨hv_98, hv_99⟩⟩, by subst hAe; exact z_end hK hw ht hW⟩, by subst hAe; exact hw.2.2.F ht⟩) (by subst hAe; exact hw.2.2.2.2) dX8_at_123
                · skip
                  refine z_iconst hx hb dX8_at_118 ?_
                  refine lv_goto (tgt := 123) hx hb dX8_at_119 (by decide) ?_
                  have hv_100 : (0 : Int) ≤ Mthrown_62 ∧ Mthrown_62 ≤ 2 := by
                    first | omega | grind
                  have hv_101 : (¬ (0 ≤ g ∧ g < Mmany) ∧ Mthrown_62 = 1) ∨ ((0 ≤ g ∧ g < Mmany) ∧ Mruns = 0 ∧ Mthrown_62 = 2) ∨ ((0 ≤ g ∧ g < Mmany) ∧ Mruns = 1 ∧ Mthrown_62 = 0 ∧ ((w = 0 ∧ (2 : Int) = Mhead g) ∨ (w = 1 ∧ (2 : Int) = Mhead (0 + g) - Mguest (5 * g + 1) + 1) ∨ (w = 2 ∧ ((Mout g = 1 ∧ (2 : Int) = 3) ∨ (Mout g = 0 ∧ Mhead g < 0 ∧ (2 : Int) = 0) ∨ (Mout g = 0 ∧ 0 ≤ Mhead g ∧ (0 < Mplays g ∨ 0 < Mrests g) ∧ (2 : Int) = 2) ∨ (Mout g = 0 ∧ 0 ≤ Mhead g ∧ ¬ (0 < Mplays g ∨ 0 < Mrests g) ∧ (2 : Int) = 1))) ∨ (w = 3 ∧ (2 : Int) = Mcame g) ∨ (w = 4 ∧ (2 : Int) = Mgone g) ∨ ((w < 0 ∨ 4 < w) ∧ (2 : Int) = -100))) := by
                    first | omega | grind
                  exact W.iret (v := zI 2) hx hb hr (fun t9 ht hW => ⟨⟨zI 2, (2, Mthrown_62), rfl, ⟨rfl, ⟨hv_100, hv_101⟩⟩, by subst hAe; exact z_end hK hw ht hW⟩, by subst hAe; exact hw.2.2.F ht⟩) (by subst hAe; exact hw.2.2.2.2) dX8_at_123
            · skip
              refine z_iconst hx hb dX8_at_96 ?_
              refine lv_goto (tgt := 123) hx hb dX8_at_97 (by decide) ?_
              have hv_102 : (0 : Int) ≤ Mthrown_62 ∧ Mthrown_62 ≤ 2 := by
                first | omega | grind
              have hv_103 : (¬ (0 ≤ g ∧ g < Mmany) ∧ Mthrown_62 = 1) ∨ ((0 ≤ g ∧ g < Mmany) ∧ Mruns = 0 ∧ Mthrown_62 = 2) ∨ ((0 ≤ g ∧ g < Mmany) ∧ Mruns = 1 ∧ Mthrown_62 = 0 ∧ ((w = 0 ∧ (0 : Int) = Mhead g) ∨ (w = 1 ∧ (0 : Int) = Mhead (0 + g) - Mguest (5 * g + 1) + 1) ∨ (w = 2 ∧ ((Mout g = 1 ∧ (0 : Int) = 3) ∨ (Mout g = 0 ∧ Mhead g < 0 ∧ (0 : Int) = 0) ∨ (Mout g = 0 ∧ 0 ≤ Mhead g ∧ (0 < Mplays g ∨ 0 < Mrests g) ∧ (0 : Int) = 2) ∨ (Mout g = 0 ∧ 0 ≤ Mhead g ∧ ¬ (0 < Mplays g ∨ 0 < Mrests g) ∧ (0 : Int) = 1))) ∨ (w = 3 ∧ (0 : Int) = Mcame g) ∨ (w = 4 ∧ (0 : Int) = Mgone g) ∨ ((w < 0 ∨ 4 < w) ∧ (0 : Int) = -100))) := by
                first | omega | grind
              exact W.iret (v := zI 0) hx hb hr (fun t9 ht hW => ⟨⟨zI 0, (0, Mthrown_62), rfl, ⟨rfl, ⟨hv_102, hv_103⟩⟩, by subst hAe; exact z_end hK hw ht hW⟩, by subst hAe; exact hw.2.2.F ht⟩) (by subst hAe; exact hw.2.2.2.2) dX8_at_123
          · skip
            refine z_iconst hx hb dX8_at_83 ?_
            refine lv_goto (tgt := 123) hx hb dX8_at_84 (by decide) ?_
            have hv_104 : (0 : Int) ≤ Mthrown_62 ∧ Mthrown_62 ≤ 2 := by
              first | omega | grind
            have hv_105 : (¬ (0 ≤ g ∧ g < Mmany) ∧ Mthrown_62 = 1) ∨ ((0 ≤ g ∧ g < Mmany) ∧ Mruns = 0 ∧ Mthrown_62 = 2) ∨ ((0 ≤ g ∧ g < Mmany) ∧ Mruns = 1 ∧ Mthrown_62 = 0 ∧ ((w = 0 ∧ (3 : Int) = Mhead g) ∨ (w = 1 ∧ (3 : Int) = Mhead (0 + g) - Mguest (5 * g + 1) + 1) ∨ (w = 2 ∧ ((Mout g = 1 ∧ (3 : Int) = 3) ∨ (Mout g = 0 ∧ Mhead g < 0 ∧ (3 : Int) = 0) ∨ (Mout g = 0 ∧ 0 ≤ Mhead g ∧ (0 < Mplays g ∨ 0 < Mrests g) ∧ (3 : Int) = 2) ∨ (Mout g = 0 ∧ 0 ≤ Mhead g ∧ ¬ (0 < Mplays g ∨ 0 < Mrests g) ∧ (3 : Int) = 1))) ∨ (w = 3 ∧ (3 : Int) = Mcame g) ∨ (w = 4 ∧ (3 : Int) = Mgone g) ∨ ((w < 0 ∨ 4 < w) ∧ (3 : Int) = -100))) := by
              first | omega | grind
            exact W.iret (v := zI 3) hx hb hr (fun t9 ht hW => ⟨⟨zI 3, (3, Mthrown_62), rfl, ⟨rfl, ⟨hv_104, hv_105⟩⟩, by subst hAe; exact z_end hK hw ht hW⟩, by subst hAe; exact hw.2.2.F ht⟩) (by subst hAe; exact hw.2.2.2.2) dX8_at_123
        · skip
          refine z_tableIn (k := 3) (off := 97) (tgt := 124) hx hb hc_71 dX8_at_27 (by decide) (by decide) rfl (by decide) ?_
          refine lv_aload_n hx hb dX8_at_124 rfl (lv_at hl 0 rfl) ?_
          refine va_get (D := D) (ci := 8) (v := .ref (oM 15)) (C := RX8) (T := TX8) (N := 36) hx hb hts hinX8 hown hK hw.1 0 rfl rfl 33 (by decide) (hts (.fieldLink RX8 63 "CarnivalRoadModel" "came" "[I") (by decide +kernel)) (fun _ h9 => h9) rfl dX8_at_125 ?_
          refine lv_iload_n hx hb dX8_at_128 rfl (lv_at hl 1 rfl) ?_
          have hi_106 : (0 : Int) ≤ g ∧ g < ((8 : Nat) : Int) := by
            first | omega | grind
          refine z_iald (n := 8) (f := Mcame) hx hb hK hw 15 rfl (by decide) hi_106 dX8_at_129 ?_
          have hq_107 : -1 ≤ Mcame g ∧ Mcame g ≤ 1000000 := qMcame g
          have hv_108 : (0 : Int) ≤ Mthrown_62 ∧ Mthrown_62 ≤ 2 := by
            first | omega | grind
          have hv_109 : (¬ (0 ≤ g ∧ g < Mmany) ∧ Mthrown_62 = 1) ∨ ((0 ≤ g ∧ g < Mmany) ∧ Mruns = 0 ∧ Mthrown_62 = 2) ∨ ((0 ≤ g ∧ g < Mmany) ∧ Mruns = 1 ∧ Mthrown_62 = 0 ∧ ((w = 0 ∧ (Mcame g) = Mhead g) ∨ (w = 1 ∧ (Mcame g) = Mhead (0 + g) - Mguest (5 * g + 1) + 1) ∨ (w = 2 ∧ ((Mout g = 1 ∧ (Mcame g) = 3) ∨ (Mout g = 0 ∧ Mhead g < 0 ∧ (Mcame g) = 0) ∨ (Mout g = 0 ∧ 0 ≤ Mhead g ∧ (0 < Mplays g ∨ 0 < Mrests g) ∧ (Mcame g) = 2) ∨ (Mout g = 0 ∧ 0 ≤ Mhead g ∧ ¬ (0 < Mplays g ∨ 0 < Mrests g) ∧ (Mcame g) = 1))) ∨ (w = 3 ∧ (Mcame g) = Mcame g) ∨ (w = 4 ∧ (Mcame g) = Mgone g) ∨ ((w < 0 ∨ 4 < w) ∧ (Mcame g) = -100))) := by
            first | omega | grind
          exact W.iret (v := zI (Mcame g)) hx hb hr (fun t9 ht hW => ⟨⟨zI (Mcame g), ((Mcame g), Mthrown_62), rfl, ⟨rfl, ⟨hv_108, hv_109⟩⟩, by subst hAe; exact z_end hK hw ht hW⟩, by subst hAe; exact hw.2.2.F ht⟩) (by subst hAe; exact hw.2.2.2.2) dX8_at_130
        · skip
          refine z_tableIn (k := 4) (off := 104) (tgt := 131) hx hb hc_71 dX8_at_27 (by decide) (by decide) rfl (by decide) ?_
          refine lv_aload_n hx hb dX8_at_131 rfl (lv_at hl 0 rfl) ?_
          refine va_get (D := D) (ci := 8) (v := .ref (oM 16)) (C := RX8) (T := TX8) (N := 36) hx hb hts hinX8 hown hK hw.1 0 rfl rfl 34 (by decide) (hts (.fieldLink RX8 66 "CarnivalRoadModel" "gone" "[I") (by decide +kernel)) (fun _ h9 => h9) rfl dX8_at_132 ?_
          refine lv_iload_n hx hb dX8_at_135 rfl (lv_at hl 1 rfl) ?_
          have hi_110 : (0 : Int) ≤ g ∧ g < ((8 : Nat) : Int) := by
            first | omega | grind
          refine z_iald (n := 8) (f := Mgone) hx hb hK hw 16 rfl (by decide) hi_110 dX8_at_136 ?_
          have hq_111 : -1 ≤ Mgone g ∧ Mgone g ≤ 1000000 := qMgone g
          have hv_112 : (0 : Int) ≤ Mthrown_62 ∧ Mthrown_62 ≤ 2 := by
            first | omega | grind
          have hv_113 : (¬ (0 ≤ g ∧ g < Mmany) ∧ Mthrown_62 = 1) ∨ ((0 ≤ g ∧ g < Mmany) ∧ Mruns = 0 ∧ Mthrown_62 = 2) ∨ ((0 ≤ g ∧ g < Mmany) ∧ Mruns = 1 ∧ Mthrown_62 = 0 ∧ ((w = 0 ∧ (Mgone g) = Mhead g) ∨ (w = 1 ∧ (Mgone g) = Mhead (0 + g) - Mguest (5 * g + 1) + 1) ∨ (w = 2 ∧ ((Mout g = 1 ∧ (Mgone g) = 3) ∨ (Mout g = 0 ∧ Mhead g < 0 ∧ (Mgone g) = 0) ∨ (Mout g = 0 ∧ 0 ≤ Mhead g ∧ (0 < Mplays g ∨ 0 < Mrests g) ∧ (Mgone g) = 2) ∨ (Mout g = 0 ∧ 0 ≤ Mhead g ∧ ¬ (0 < Mplays g ∨ 0 < Mrests g) ∧ (Mgone g) = 1))) ∨ (w = 3 ∧ (Mgone g) = Mcame g) ∨ (w = 4 ∧ (Mgone g) = Mgone g) ∨ ((w < 0 ∨ 4 < w) ∧ (Mgone g) = -100))) := by
            first | omega | grind
          exact W.iret (v := zI (Mgone g)) hx hb hr (fun t9 ht hW => ⟨⟨zI (Mgone g), ((Mgone g), Mthrown_62), rfl, ⟨rfl, ⟨hv_112, hv_113⟩⟩, by subst hAe; exact z_end hK hw ht hW⟩, by subst hAe; exact hw.2.2.F ht⟩) (by subst hAe; exact hw.2.2.2.2) dX8_at_137
  · skip
    refine lv_aload_n hx hb dX8_at_6 rfl (lv_at hl 0 rfl) ?_
    refine va_get (D := D) (ci := 8) (v := .int (zI Mruns)) (C := RX8) (T := TX8) (N := 36) hx hb hts hinX8 hown hK hw.1 0 rfl rfl 26 (by decide) (hts (.fieldLink RX8 79 "CarnivalRoadModel" "runs" "Z") (by decide +kernel)) (fun _ h9 => h9) rfl dX8_at_7 ?_
    refine z_if_ne (tgt := 17) hx hb dX8_at_10 (by decide) (by omega) (fun hc_114 => ?_) (fun hc_114 => ?_)
    · skip
      refine z_iconst hx hb dX8_at_17 ?_
      have hF9 := z_free (wc := kM cI cB cZ oM Mthrown Mmany Mguest Mrow Mbars Mbar Mfresh Mtape Mtaped Mpos Mtoken MtokenAt Mvalue Mwrong MwrongAt MfaultKind MfaultPlace Mthing Morder Mone Mtwo Mbest Mcells Mgap Mwire Mstand Mruns Mminute Mhead Mplays Mrests Mwent Mout Mcame Mgone MlastOut) hw hA [0, 1, 2, 3, 4, 5, 6, 7, 8, 9, 10, 11, 12, 13, 14, 15, 16] rfl
      refine va_calli (va_runV (As := [.int (zI 0), .int (zI 0)]) (rest := []) ⟨hx, hb, hml, hown, hts⟩ (c_X8_fails l D cI cB cZ oM H_1.size Mthrown Mmany Mguest Mrow Mbars Mbar Mfresh Mtape Mtaped Mpos Mtoken MtokenAt Mvalue Mwrong MwrongAt MfaultKind MfaultPlace Mthing Morder Mone Mtwo Mbest Mcells Mgap Mwire Mstand Mruns Mminute Mhead Mplays Mrests Mwent Mout Mcame Mgone MlastOut 0 0 (by omega) (by omega) qMguest qMrow (by omega) qMbar qMfresh qMtape (by omega) (by omega) (by omega) (by omega) (by omega) (by omega) (by omega) (by omega) (by omega) (by omega) qMorder (by omega) (by omega) qMbest (by omega) (by omega) qMwire qMstand (by omega) (by omega) qMhead qMplays qMrests qMwent qMout qMcame qMgone (by omega) (by omega) (by omega)) (cwV 2 hts gX8_at_X8_fails rfl rfl rfl (by decide +kernel) ⟨Nat.le_of_ble_eq_true rfl, Nat.le_of_ble_eq_true rfl⟩) ⟨zPre_blind, va_recv hK hw.1 (ci := 8) (q0 := 0) rfl rfl, z_pre hK hw [0, 1, 2, 3, 4, 5, 6, 7, 8, 9, 10, 11, 12, 13, 14, 15, 16] (by decide) rfl⟩ rfl rfl hl.1 rfl (lv_room (Nat.le_of_ble_eq_true rfl)) dX8_at_18 ⟨Nat.zero_le _, Nat.zero_le _⟩) hw.2.2 (fun q _ h => hF9 q h) hF9 (fun r9 u9 t9 H_115 locs9 ht9 hvm9 hq9 hB9 hz9 hk9 hS9 => ?_)
      obtain ⟨r_116, Mthrown_117⟩ := u9
      try dsimp only at hq9 hB9
      obtain ⟨rfl, hq9⟩ := hq9
      obtain ⟨hq_118, hq_119, hq_120⟩ := hq9
      have hw : HW D A s.heap (kM cI cB cZ oM Mthrown_117 Mmany Mguest Mrow Mbars Mbar Mfresh Mtape Mtaped Mpos Mtoken MtokenAt Mvalue Mwrong MwrongAt MfaultKind MfaultPlace Mthing Morder Mone Mtwo Mbest Mcells Mgap Mwire Mstand Mruns Mminute Mhead Mplays Mrests Mwent Mout Mcame Mgone MlastOut) H_115 locs9 := z_after (wc := kM cI cB cZ oM Mthrown Mmany Mguest Mrow Mbars Mbar Mfresh Mtape Mtaped Mpos Mtoken MtokenAt Mvalue Mwrong MwrongAt MfaultKind MfaultPlace Mthing Morder Mone Mtwo Mbest Mcells Mgap Mwire Mstand Mruns Mminute Mhead Mplays Mrests Mwent Mout Mcame Mgone MlastOut) hw [0, 1, 2, 3, 4, 5, 6, 7, 8, 9, 10, 11, 12, 13, 14, 15, 16] [] rfl rfl (by decide) (by decide) hF9 hk9 ht9 hB9 hS9 [0, 1, 2, 3, 4, 5, 6, 7, 8, 9, 10, 11, 12, 13, 14, 15, 16] (by decide) rfl
      clear hF9 ht9 hvm9 hB9 hz9 hk9 hS9
      rcases hq_119 with ⟨hc_121, rfl⟩ | ⟨hc_121, rfl⟩
      · skip
        refine z_if_eq (tgt := 26) hx hb dX8_at_21 (by decide) (by omega) (fun hc_122 => absurd hc_122 (by omega)) (fun hc_122 => ?_)
        refine z_iconst hx hb dX8_at_24 ?_
        have hv_123 : (0 : Int) ≤ Mthrown_117 ∧ Mthrown_117 ≤ 2 := by
          first | omega | grind
        have hv_124 : (¬ (0 ≤ g ∧ g < Mmany) ∧ Mthrown_117 = 1) ∨ ((0 ≤ g ∧ g < Mmany) ∧ Mruns = 0 ∧ Mthrown_117 = 2) ∨ ((0 ≤ g ∧ g < Mmany) ∧ Mruns = 1 ∧ Mthrown_117 = 0 ∧ ((w = 0 ∧ (0 : Int) = Mhead g) ∨ (w = 1 ∧ (0 : Int) = Mhead (0 + g) - Mguest (5 * g + 1) + 1) ∨ (w = 2 ∧ ((Mout g = 1 ∧ (0 : Int) = 3) ∨ (Mout g = 0 ∧ Mhead g < 0 ∧ (0 : Int) = 0) ∨ (Mout g = 0 ∧ 0 ≤ Mhead g ∧ (0 < Mplays g ∨ 0 < Mrests g) ∧ (0 : Int) = 2) ∨ (Mout g = 0 ∧ 0 ≤ Mhead g ∧ ¬ (0 < Mplays g ∨ 0 < Mrests g) ∧ (0 : Int) = 1))) ∨ (w = 3 ∧ (0 : Int) = Mcame g) ∨ (w = 4 ∧ (0 : Int) = Mgone g) ∨ ((w < 0 ∨ 4 < w) ∧ (0 : Int) = -100))) := by
          first | omega | grind
        exact W.iret (v := zI 0) hx hb hr (fun t9 ht hW => ⟨⟨zI 0, (0, Mthrown_117), rfl, ⟨rfl, ⟨hv_123, hv_124⟩⟩, by subst hAe; exact z_end hK hw ht hW⟩, by subst hAe; exact hw.2.2.F ht⟩) (by subst hAe; exact hw.2.2.2.2) dX8_at_25
      · skip
        refine z_if_eq (tgt := 26) hx hb dX8_at_21 (by decide) (by omega) (fun hc_125 => ?_) (fun hc_125 => absurd hc_125 (by omega))
        refine lv_iload_n hx hb dX8_at_26 rfl (lv_at hl 2 rfl) ?_
        rcases (show (w < 0 ∨ 4 < w) ∨ w = 0 ∨ w = 1 ∨ w = 2 ∨ w = 3 ∨ w = 4 by omega) with hc_126 | hc_126 | hc_126 | hc_126 | hc_126 | hc_126
        · skip
          refine z_tableOut (tgt := 138) hx hb (by omega) hc_126 dX8_at_27 (by decide) ?_
          refine z_bipush hx hb dX8_at_138 (by decide) ?_
          have hv_127 : (0 : Int) ≤ Mthrown_117 ∧ Mthrown_117 ≤ 2 := by
            first | omega | grind
          have hv_128 : (¬ (0 ≤ g ∧ g < Mmany) ∧ Mthrown_117 = 1) ∨ ((0 ≤ g ∧ g < Mmany) ∧ Mruns = 0 ∧ Mthrown_117 = 2) ∨ ((0 ≤ g ∧ g < Mmany) ∧ Mruns = 1 ∧ Mthrown_117 = 0 ∧ ((w = 0 ∧ ((-100) : Int) = Mhead g) ∨ (w = 1 ∧ ((-100) : Int) = Mhead (0 + g) - Mguest (5 * g + 1) + 1) ∨ (w = 2 ∧ ((Mout g = 1 ∧ ((-100) : Int) = 3) ∨ (Mout g = 0 ∧ Mhead g < 0 ∧ ((-100) : Int) = 0) ∨ (Mout g = 0 ∧ 0 ≤ Mhead g ∧ (0 < Mplays g ∨ 0 < Mrests g) ∧ ((-100) : Int) = 2) ∨ (Mout g = 0 ∧ 0 ≤ Mhead g ∧ ¬ (0 < Mplays g ∨ 0 < Mrests g) ∧ ((-100) : Int) = 1))) ∨ (w = 3 ∧ ((-100) : Int) = Mcame g) ∨ (w = 4 ∧ ((-100) : Int) = Mgone g) ∨ ((w < 0 ∨ 4 < w) ∧ ((-100) : Int) = -100))) := by
            first | omega | grind
          exact W.iret (v := zI (-100)) hx hb hr (fun t9 ht hW => ⟨⟨zI (-100), ((-100), Mthrown_117), rfl, ⟨rfl, ⟨hv_127, hv_128⟩⟩, by subst hAe; exact z_end hK hw ht hW⟩, by subst hAe; exact hw.2.2.F ht⟩) (by subst hAe; exact hw.2.2.2.2) dX8_at_140
        · skip
          refine z_tableIn (k := 0) (off := 33) (tgt := 60) hx hb hc_126 dX8_at_27 (by decide) (by decide) rfl (by decide) ?_
          refine lv_aload_n hx hb dX8_at_60 rfl (lv_at hl 0 rfl) ?_
          refine va_get (D := D) (ci := 8) (v := .ref (oM 10)) (C := RX8) (T := TX8) (N := 36) hx hb hts hinX8 hown hK hw.1 0 rfl rfl 28 (by decide) (hts (.fieldLink RX8 47 "CarnivalRoadModel" "head" "[I") (by decide +kernel)) (fun _ h9 => h9) rfl dX8_at_61 ?_
          refine lv_iload_n hx hb dX8_at_64 rfl (lv_at hl 1 rfl) ?_
          have hi_129 : (0 : Int) ≤ g ∧ g < ((16 : Nat) : Int) := by
            first | omega | grind
          refine z_iald (n := 16) (f := Mhead) hx hb hK hw 10 rfl (by decide) hi_129 dX8_at_65 ?_
          have hq_130 : -1 ≤ Mhead g ∧ Mhead g ≤ 60 := qMhead g
          have hv_131 : (0 : Int) ≤ Mthrown_117 ∧ Mthrown_117 ≤ 2 := by
            first | omega | grind
          have hv_132 : (¬ (0 ≤ g ∧ g < Mmany) ∧ Mthrown_117 = 1) ∨ ((0 ≤ g ∧ g < Mmany) ∧ Mruns = 0 ∧ Mthrown_117 = 2) ∨ ((0 ≤ g ∧ g < Mmany) ∧ Mruns = 1 ∧ Mthrown_117 = 0 ∧ ((w = 0 ∧ (Mhead g) = Mhead g) ∨ (w = 1 ∧ (Mhead g) = Mhead (0 + g) - Mguest (5 * g + 1) + 1) ∨ (w = 2 ∧ ((Mout g = 1 ∧ (Mhead g) = 3) ∨ (Mout g = 0 ∧ Mhead g < 0 ∧ (Mhead g) = 0) ∨ (Mout g = 0 ∧ 0 ≤ Mhead g ∧ (0 < Mplays g ∨ 0 < Mrests g) ∧ (Mhead g) = 2) ∨ (Mout g = 0 ∧ 0 ≤ Mhead g ∧ ¬ (0 < Mplays g ∨ 0 < Mrests g) ∧ (Mhead g) = 1))) ∨ (w = 3 ∧ (Mhead g) = Mcame g) ∨ (w = 4 ∧ (Mhead g) = Mgone g) ∨ ((w < 0 ∨ 4 < w) ∧ (Mhead g) = -100))) := by
            first | omega | grind
          exact W.iret (v := zI (Mhead g)) hx hb hr (fun t9 ht hW => ⟨⟨zI (Mhead g), ((Mhead g), Mthrown_117), rfl, ⟨rfl, ⟨hv_131, hv_132⟩⟩, by subst hAe; exact z_end hK hw ht hW⟩, by subst hAe; exact hw.2.2.F ht⟩) (by subst hAe; exact hw.2.2.2.2) dX8_at_66
        · skip
          refine z_tableIn (k := 1) (off := 40) (tgt := 67) hx hb hc_126 dX8_at_27 (by decide) (by decide) rfl (by decide) ?_
          refine lv_aload_n hx hb dX8_at_67 rfl (lv_at hl 0 rfl) ?_
          refine z_iconst hx hb dX8_at_68 ?_
          refine lv_iload_n hx hb dX8_at_69 rfl (lv_at hl 1 rfl) ?_
          have hF9 := z_free (wc := kM cI cB cZ oM Mthrown_117 Mmany Mguest Mrow Mbars Mbar Mfresh Mtape Mtaped Mpos Mtoken MtokenAt Mvalue Mwrong MwrongAt MfaultKind MfaultPlace Mthing Morder Mone Mtwo Mbest Mcells Mgap Mwire Mstand Mruns Mminute Mhead Mplays Mrests Mwent Mout Mcame Mgone MlastOut) hw hA [0, 1, 2, 3, 4, 5, 6, 7, 8, 9, 10, 11, 12, 13, 14, 15, 16] rfl
          refine va_calli (va_runV (As := [.int (zI 0), .int (zI g)]) (rest := []) ⟨hx, hb, hml, hown, hts⟩ (c_X8_tail l D cI cB cZ oM H_115.size Mthrown_117 Mmany Mguest Mrow Mbars Mbar Mfresh Mtape Mtaped Mpos Mtoken MtokenAt Mvalue Mwrong MwrongAt MfaultKind MfaultPlace Mthing Morder Mone Mtwo Mbest Mcells Mgap Mwire Mstand Mruns Mminute Mhead Mplays Mrests Mwent Mout Mcame Mgone MlastOut 0 g (by omega) (by omega) qMguest qMrow (by omega) qMbar qMfresh qMtape (by omega) (by omega) (by omega) (by omega) (by omega) (by omega) (by omega) (by omega) (by omega) (by omega) qMorder (by omega) (by omega) qMbest (by omega) (by omega) qMwire qMstand (by omega) (by omega) qMhead qMplays qMrests qMwent qMout qMcame qMgone (by omega) (by omega) (by omega)) (cwV 2 hts gX8_at_X8_tail rfl rfl rfl (by decide +kernel) ⟨Nat.le_of_ble_eq_true rfl, Nat.le_of_ble_eq_true rfl⟩) ⟨zPre_blind, va_recv hK hw.1 (ci := 8) (q0 := 0) rfl rfl, z_pre hK hw [0, 1, 2, 3, 4, 5, 6, 7, 8, 9, 10, 11, 12, 13, 14, 15, 16] (by decide) rfl⟩ rfl rfl hl.1 rfl (lv_room (Nat.le_of_ble_eq_true rfl)) dX8_at_70 ⟨Nat.zero_le _, Nat.zero_le _⟩) hw.2.2 (fun q _ h => hF9 q h) hF9 (fun r9 u9 t9 H_133 locs9 ht9 hvm9 hq9 hB9 hz9 hk9 hS9 => ?_)
          obtain ⟨r_134, rfl⟩ : ∃ z, z = u9 := ⟨_, rfl⟩
          try dsimp only at hq9 hB9
          obtain ⟨rfl, hq9⟩ := hq9
          obtain ⟨hq_135, hq_136⟩ := hq9
          have hw : HW D A s.heap (kM cI cB cZ oM Mthrown_117 Mmany Mguest Mrow Mbars Mbar Mfresh Mtape Mtaped Mpos Mtoken MtokenAt Mvalue Mwrong MwrongAt MfaultKind MfaultPlace Mthing Morder Mone Mtwo Mbest Mcells Mgap Mwire Mstand Mruns Mminute Mhead Mplays Mrests Mwent Mout Mcame Mgone MlastOut) H_133 locs9 := z_after (wc := kM cI cB cZ oM Mthrown_117 Mmany Mguest Mrow Mbars Mbar Mfresh Mtape Mtaped Mpos Mtoken MtokenAt Mvalue Mwrong MwrongAt MfaultKind MfaultPlace Mthing Morder Mone Mtwo Mbest Mcells Mgap Mwire Mstand Mruns Mminute Mhead Mplays Mrests Mwent Mout Mcame Mgone MlastOut) hw [0, 1, 2, 3, 4, 5, 6, 7, 8, 9, 10, 11, 12, 13, 14, 15, 16] [] rfl rfl (by decide) (by decide) hF9 hk9 ht9 hB9 hS9 [0, 1, 2, 3, 4, 5, 6, 7, 8, 9, 10, 11, 12, 13, 14, 15, 16] (by decide) rfl
          clear hF9 ht9 hvm9 hB9 hz9 hk9 hS9
          have hv_137 : (0 : Int) ≤ Mthrown_117 ∧ Mthrown_117 ≤ 2 := by
            first | omega | grind
          have hv_138 : (¬ (0 ≤ g ∧ g < Mmany) ∧ Mthrown_117 = 1) ∨ ((0 ≤ g ∧ g < Mmany) ∧ Mruns = 0 ∧ Mthrown_117 = 2) ∨ ((0 ≤ g ∧ g < Mmany) ∧ Mruns = 1 ∧ Mthrown_117 = 0 ∧ ((w = 0 ∧ r_134 = Mhead g) ∨ (w = 1 ∧ r_134 = Mhead (0 + g) - Mguest (5 * g + 1) + 1) ∨ (w = 2 ∧ ((Mout g = 1 ∧ r_134 = 3) ∨ (Mout g = 0 ∧ Mhead g < 0 ∧ r_134 = 0) ∨ (Mout g = 0 ∧ 0 ≤ Mhead g ∧ (0 < Mplays g ∨ 0 < Mrests g) ∧ r_134 = 2) ∨ (Mout g = 0 ∧ 0 ≤ Mhead g ∧ ¬ (0 < Mplays g ∨ 0 < Mrests g) ∧ r_134 = 1))) ∨ (w = 3 ∧ r_134 = Mcame g) ∨ (w = 4 ∧ r_134 = Mgone g) ∨ ((w < 0 ∨ 4 < w) ∧ r_134 = -100))) := by
            first | omega | grind
          exact W.iret (v := zI r_134) hx hb hr (fun t9 ht hW => ⟨⟨zI r_134, (r_134, Mthrown_117), rfl, ⟨rfl, ⟨hv_137, hv_138⟩⟩, by subst hAe; exact z_end hK hw ht hW⟩, by subst hAe; exact hw.2.2.F ht⟩) (by subst hAe; exact hw.2.2.2.2) dX8_at_73
        · skip
          refine z_tableIn (k := 2) (off := 47) (tgt := 74) hx hb hc_126 dX8_at_27 (by decide) (by decide) rfl (by decide) ?_
          refine lv_aload_n hx hb dX8_at_74 rfl (lv_at hl 0 rfl) ?_
          refine va_get (D := D) (ci := 8) (v := .ref (oM 14)) (C := RX8) (T := TX8) (N := 36) hx hb hts hinX8 hown hK hw.1 0 rfl rfl 32 (by decide) (hts (.fieldLink RX8 59 "CarnivalRoadModel" "out" "[Z") (by decide +kernel)) (fun _ h9 => h9) rfl dX8_at_75 ?_
          refine lv_iload_n hx hb dX8_at_78 rfl (lv_at hl 1 rfl) ?_
          have hi_139 : (0 : Int) ≤ g ∧ g < ((16 : Nat) : Int) := by
            first | omega | grind
          refine z_zald (n := 16) (f := Mout) hx hb hK hw 14 rfl (by decide) hi_139 dX8_at_79 ?_
          have hq_140 : 0 ≤ Mout g ∧ Mout g ≤ 1 := qMout g
          refine z_if_eq (tgt := 87) hx hb dX8_at_80 (by decide) (by omega) (fun hc_141 => ?_) (fun hc_141 => ?_)
          · skip
            refine lv_aload_n hx hb dX8_at_87 rfl (lv_at hl 0 rfl) ?_
            refine va_get (D := D) (ci := 8) (v := .ref (oM 10)) (C := RX8) (T := TX8) (N := 36) hx hb hts hinX8 hown hK hw.1 0 rfl rfl 28 (by decide) (hts (.fieldLink RX8 47 "CarnivalRoadModel" "head" "[I") (by decide +kernel)) (fun _ h9 => h9) rfl dX8_at_88 ?_
            refine lv_iload_n hx hb dX8_at_91 rfl (lv_at hl 1 rfl) ?_
            have hi_142 : (0 : Int) ≤ g ∧ g < ((16 : Nat) : Int) := by
              first | omega | grind
            refine z_iald (n := 16) (f := Mhead) hx hb hK hw 10 rfl (by decide) hi_142 dX8_at_92 ?_
            have hq_143 : -1 ≤ Mhead g ∧ Mhead g ≤ 60 := qMhead g
            refine z_if_ge (tgt := 100) hx hb dX8_at_93 (by decide) (by omega) (fun hc_144 => ?_) (fun hc_144 => ?_)
            · skip
              refine lv_aload_n hx hb dX8_at_100 rfl (lv_at hl 0 rfl) ?_
              refine va_get (D := D) (ci := 8) (v := .ref (oM 11)) (C := RX8) (T := TX8) (N := 36) hx hb hts hinX8 hown hK hw.1 0 rfl rfl 29 (by decide) (hts (.fieldLink RX8 50 "CarnivalRoadModel" "plays" "[I") (by decide +kernel)) (fun _ h9 => h9) rfl dX8_at_101 ?_
              refine lv_iload_n hx hb dX8_at_104 rfl (lv_at hl 1 rfl) ?_
              have hi_145 : (0 : Int) ≤ g ∧ g < ((16 : Nat) : Int) := by
                first | omega | grind
              refine z_iald (n := 16) (f := Mplays) hx hb hK hw 11 rfl (by decide) hi_145 dX8_at_105 ?_
              have hq_146 : 0 ≤ Mplays g ∧ Mplays g ≤ 18 := qMplays g
              refine z_if_gt (tgt := 118) hx hb dX8_at_106 (by decide) (by omega) (fun hc_147 => ?_) (fun hc_147 => ?_)
              · skip
                refine z_iconst hx hb dX8_at_118 ?_
                refine lv_goto (tgt := 123) hx hb dX8_at_119 (by decide) ?_
                have hv_148 : (0 : Int) ≤ Mthrown_117 ∧ Mthrown_117 ≤ 2 := by
                  first | omega | grind
                have hv_149 : (¬ (0 ≤ g ∧ g < Mmany) ∧ Mthrown_117 = 1) ∨ ((0 ≤ g ∧ g < Mmany) ∧ Mruns = 0 ∧ Mthrown_117 = 2) ∨ ((0 ≤ g ∧ g < Mmany) ∧ Mruns = 1 ∧ Mthrown_117 = 0 ∧ ((w = 0 ∧ (2 : Int) = Mhead g) ∨ (w = 1 ∧ (2 : Int) = Mhead (0 + g) - Mguest (5 * g + 1) + 1) ∨ (w = 2 ∧ ((Mout g = 1 ∧ (2 : Int) = 3) ∨ (Mout g = 0 ∧ Mhead g < 0 ∧ (2 : Int) = 0) ∨ (Mout g = 0 ∧ 0 ≤ Mhead g ∧ (0 < Mplays g ∨ 0 < Mrests g) ∧ (2 : Int) = 2) ∨ (Mout g = 0 ∧ 0 ≤ Mhead g ∧ ¬ (0 < Mplays g ∨ 0 < Mrests g) ∧ (2 : Int) = 1))) ∨ (w = 3 ∧ (2 : Int) = Mcame g) ∨ (w = 4 ∧ (2 : Int) = Mgone g) ∨ ((w < 0 ∨ 4 < w) ∧ (2 : Int) = -100))) := by
                  first | omega | grind
                exact W.iret (v := zI 2) hx hb hr (fun t9 ht hW => ⟨⟨zI 2, (2, Mthrown_117), rfl, ⟨rfl, ⟨hv_148, hv_149⟩⟩, by subst hAe; exact z_end hK hw ht hW⟩, by subst hAe; exact hw.2.2.F ht⟩) (by subst hAe; exact hw.2.2.2.2) dX8_at_123
              · skip
                refine lv_aload_n hx hb dX8_at_109 rfl (lv_at hl 0 rfl) ?_
                refine va_get (D := D) (ci := 8) (v := .ref (oM 12)) (C := RX8) (T := TX8) (N := 36) hx hb hts hinX8 hown hK hw.1 0 rfl rfl 30 (by decide) (hts (.fieldLink RX8 53 "CarnivalRoadModel" "rests" "[I") (by decide +kernel)) (fun _ h9 => h9) rfl dX8_at_110 ?_
                refine lv_iload_n hx hb dX8_at_113 rfl (lv_at hl 1 rfl) ?_
                have hi_150 : (0 : Int) ≤ g ∧ g < ((16 : Nat) : Int) := by
                  first | omega | grind
                refine z_iald (n := 16) (f := Mrests) hx hb hK hw 12 rfl (by decide) hi_150 dX8_at_114 ?_
                have hq_151 : 0 ≤ Mrests g ∧ Mrests g ≤ 3 := qMrests g
                refine z_if_le (tgt := 122) hx hb dX8_at_115 (by decide) (by omega) (fun hc_152 => ?_) (fun hc_152 => ?_)
                · skip
                  refine z_iconst hx hb dX8_at_122 ?_
                  have hv_153 : (0 : Int) ≤ Mthrown_117 ∧ Mthrown_117 ≤ 2 := by
                    first | omega | grind
                  have hv_154 : (¬ (0 ≤ g ∧ g < Mmany) ∧ Mthrown_117 = 1) ∨ ((0 ≤ g ∧ g < Mmany) ∧ Mruns = 0 ∧ Mthrown_117 = 2) ∨ ((0 ≤ g ∧ g < Mmany) ∧ Mruns = 1 ∧ Mthrown_117 = 0 ∧ ((w = 0 ∧ (1 : Int) = Mhead g) ∨ (w = 1 ∧ (1 : Int) = Mhead (0 + g) - Mguest (5 * g + 1) + 1) ∨ (w = 2 ∧ ((Mout g = 1 ∧ (1 : Int) = 3) ∨ (Mout g = 0 ∧ Mhead g < 0 ∧ (1 : Int) = 0) ∨ (Mout g = 0 ∧ 0 ≤ Mhead g ∧ (0 < Mplays g ∨ 0 < Mrests g) ∧ (1 : Int) = 2) ∨ (Mout g = 0 ∧ 0 ≤ Mhead g ∧ ¬ (0 < Mplays g ∨ 0 < Mrests g) ∧ (1 : Int) = 1))) ∨ (w = 3 ∧ (1 : Int) = Mcame g) ∨ (w = 4 ∧ (1 : Int) = Mgone g) ∨ ((w < 0 ∨ 4 < w) ∧ (1 : Int) = -100))) := by
                    first | omega | grind
                  exact W.iret (v := zI 1) hx hb hr (fun t9 ht hW => ⟨⟨zI 1, (1, Mthrown_117), rfl, ⟨rfl, ⟨hv_153, hv_154⟩⟩, by subst hAe; exact z_end hK hw ht hW⟩, by subst hAe; exact hw.2.2.F ht⟩) (by subst hAe; exact hw.2.2.2.2) dX8_at_123
                · skip
                  refine z_iconst hx hb dX8_at_118 ?_
                  refine lv_goto (tgt := 123) hx hb dX8_at_119 (by decide) ?_
                  have hv_155 : (0 : Int) ≤ Mthrown_117 ∧ Mthrown_117 ≤ 2 := by
                    first | omega | grind
                  have hv_156 : (¬ (0 ≤ g ∧ g < Mmany) ∧ Mthrown_117 = 1) ∨ ((0 ≤ g ∧ g < Mmany) ∧ Mruns = 0 ∧ Mthrown_117 = 2) ∨ ((0 ≤ g ∧ g < Mmany) ∧ Mruns = 1 ∧ Mthrown_117 = 0 ∧ ((w = 0 ∧ (2 : Int) = Mhead g) ∨ (w = 1 ∧ (2 : Int) = Mhead (0 + g) - Mguest (5 * g + 1) + 1) ∨ (w = 2 ∧ ((Mout g = 1 ∧ (2 : Int) = 3) ∨ (Mout g = 0 ∧ Mhead g < 0 ∧ (2 : Int) = 0) ∨ (Mout g = 0 ∧ 0 ≤ Mhead g ∧ (0 < Mplays g ∨ 0 < Mrests g) ∧ (2 : Int) = 2) ∨ (Mout g = 0 ∧ 0 ≤ Mhead g ∧ ¬ (0 < Mplays g ∨ 0 < Mrests g) ∧ (2 : Int) = 1))) ∨ (w = 3 ∧ (2 : Int) = Mcame g) ∨ (w = 4 ∧ (2 : Int) = Mgone g) ∨ ((w < 0 ∨ 4 < w) ∧ (2 : Int) = -100))) := by
                    first | omega | grind
                  exact W.iret (v := zI 2) hx hb hr (fun t9 ht hW => ⟨⟨zI 2, (2, Mthrown_117), rfl, ⟨rfl, ⟨hv_155, hv_156⟩⟩, by subst hAe; exact z_end hK hw ht hW⟩, by subst hAe; exact hw.2.2.F ht⟩) (by subst hAe; exact hw.2.2.2.2) dX8_at_123
            · skip
              refine z_iconst hx hb dX8_at_96 ?_
              refine lv_goto (tgt := 123) hx hb dX8_at_97 (by decide) ?_
              have hv_157 : (0 : Int) ≤ Mthrown_117 ∧ Mthrown_117 ≤ 2 := by
                first | omega | grind
              have hv_158 : (¬ (0 ≤ g ∧ g < Mmany) ∧ Mthrown_117 = 1) ∨ ((0 ≤ g ∧ g < Mmany) ∧ Mruns = 0 ∧ Mthrown_117 = 2) ∨ ((0 ≤ g ∧ g < Mmany) ∧ Mruns = 1 ∧ Mthrown_117 = 0 ∧ ((w = 0 ∧ (0 : Int) = Mhead g) ∨ (w = 1 ∧ (0 : Int) = Mhead (0 + g) - Mguest (5 * g + 1) + 1) ∨ (w = 2 ∧ ((Mout g = 1 ∧ (0 : Int) = 3) ∨ (Mout g = 0 ∧ Mhead g < 0 ∧ (0 : Int) = 0) ∨ (Mout g = 0 ∧ 0 ≤ Mhead g ∧ (0 < Mplays g ∨ 0 < Mrests g) ∧ (0 : Int) = 2) ∨ (Mout g = 0 ∧ 0 ≤ Mhead g ∧ ¬ (0 < Mplays g ∨ 0 < Mrests g) ∧ (0 : Int) = 1))) ∨ (w = 3 ∧ (0 : Int) = Mcame g) ∨ (w = 4 ∧ (0 : Int) = Mgone g) ∨ ((w < 0 ∨ 4 < w) ∧ (0 : Int) = -100))) := by
                first | omega | grind
              exact W.iret (v := zI 0) hx hb hr (fun t9 ht hW => ⟨⟨zI 0, (0, Mthrown_117), rfl, ⟨rfl, ⟨hv_157, hv_158⟩⟩, by subst hAe; exact z_end hK hw ht hW⟩, by subst hAe; exact hw.2.2.F ht⟩) (by subst hAe; exact hw.2.2.2.2) dX8_at_123
          · skip
            refine z_iconst hx hb dX8_at_83 ?_
            refine lv_goto (tgt := 123) hx hb dX8_at_84 (by decide) ?_
            have hv_159 : (0 : Int) ≤ Mthrown_117 ∧ Mthrown_117 ≤ 2 := by
              first | omega | grind
            have hv_160 : (¬ (0 ≤ g ∧ g < Mmany) ∧ Mthrown_117 = 1) ∨ ((0 ≤ g ∧ g < Mmany) ∧ Mruns = 0 ∧ Mthrown_117 = 2) ∨ ((0 ≤ g ∧ g < Mmany) ∧ Mruns = 1 ∧ Mthrown_117 = 0 ∧ ((w = 0 ∧ (3 : Int) = Mhead g) ∨ (w = 1 ∧ (3 : Int) = Mhead (0 + g) - Mguest (5 * g + 1) + 1) ∨ (w = 2 ∧ ((Mout g = 1 ∧ (3 : Int) = 3) ∨ (Mout g = 0 ∧ Mhead g < 0 ∧ (3 : Int) = 0) ∨ (Mout g = 0 ∧ 0 ≤ Mhead g ∧ (0 < Mplays g ∨ 0 < Mrests g) ∧ (3 : Int) = 2) ∨ (Mout g = 0 ∧ 0 ≤ Mhead g ∧ ¬ (0 < Mplays g ∨ 0 < Mrests g) ∧ (3 : Int) = 1))) ∨ (w = 3 ∧ (3 : Int) = Mcame g) ∨ (w = 4 ∧ (3 : Int) = Mgone g) ∨ ((w < 0 ∨ 4 < w) ∧ (3 : Int) = -100))) := by
              first | omega | grind
            exact W.iret (v := zI 3) hx hb hr (fun t9 ht hW => ⟨⟨zI 3, (3, Mthrown_117), rfl, ⟨rfl, ⟨hv_159, hv_160⟩⟩, by subst hAe; exact z_end hK hw ht hW⟩, by subst hAe; exact hw.2.2.F ht⟩) (by subst hAe; exact hw.2.2.2.2) dX8_at_123
        · skip
          refine z_tableIn (k := 3) (off := 97) (tgt := 124) hx hb hc_126 dX8_at_27 (by decide) (by decide) rfl (by decide) ?_
          refine lv_aload_n hx hb dX8_at_124 rfl (lv_at hl 0 rfl) ?_
          refine va_get (D := D) (ci := 8) (v := .ref (oM 15)) (C := RX8) (T := TX8) (N := 36) hx hb hts hinX8 hown hK hw.1 0 rfl rfl 33 (by decide) (hts (.fieldLink RX8 63 "CarnivalRoadModel" "came" "[I") (by decide +kernel)) (fun _ h9 => h9) rfl dX8_at_125 ?_
          refine lv_iload_n hx hb dX8_at_128 rfl (lv_at hl 1 rfl) ?_
          have hi_161 : (0 : Int) ≤ g ∧ g < ((8 : Nat) : Int) := by
            first | omega | grind
          refine z_iald (n := 8) (f := Mcame) hx hb hK hw 15 rfl (by decide) hi_161 dX8_at_129 ?_
          have hq_162 : -1 ≤ Mcame g ∧ Mcame g ≤ 1000000 := qMcame g
          have hv_163 : (0 : Int) ≤ Mthrown_117 ∧ Mthrown_117 ≤ 2 := by
            first | omega | grind
          have hv_164 : (¬ (0 ≤ g ∧ g < Mmany) ∧ Mthrown_117 = 1) ∨ ((0 ≤ g ∧ g < Mmany) ∧ Mruns = 0 ∧ Mthrown_117 = 2) ∨ ((0 ≤ g ∧ g < Mmany) ∧ Mruns = 1 ∧ Mthrown_117 = 0 ∧ ((w = 0 ∧ (Mcame g) = Mhead g) ∨ (w = 1 ∧ (Mcame g) = Mhead (0 + g) - Mguest (5 * g + 1) + 1) ∨ (w = 2 ∧ ((Mout g = 1 ∧ (Mcame g) = 3) ∨ (Mout g = 0 ∧ Mhead g < 0 ∧ (Mcame g) = 0) ∨ (Mout g = 0 ∧ 0 ≤ Mhead g ∧ (0 < Mplays g ∨ 0 < Mrests g) ∧ (Mcame g) = 2) ∨ (Mout g = 0 ∧ 0 ≤ Mhead g ∧ ¬ (0 < Mplays g ∨ 0 < Mrests g) ∧ (Mcame g) = 1))) ∨ (w = 3 ∧ (Mcame g) = Mcame g) ∨ (w = 4 ∧ (Mcame g) = Mgone g) ∨ ((w < 0 ∨ 4 < w) ∧ (Mcame g) = -100))) := by
            first | omega | grind
          exact W.iret (v := zI (Mcame g)) hx hb hr (fun t9 ht hW => ⟨⟨zI (Mcame g), ((Mcame g), Mthrown_117), rfl, ⟨rfl, ⟨hv_163, hv_164⟩⟩, by subst hAe; exact z_end hK hw ht hW⟩, by subst hAe; exact hw.2.2.F ht⟩) (by subst hAe; exact hw.2.2.2.2) dX8_at_130
        · skip
          refine z_tableIn (k := 4) (off := 104) (tgt := 131) hx hb hc_126 dX8_at_27 (by decide) (by decide) rfl (by decide) ?_
          refine lv_aload_n hx hb dX8_at_131 rfl (lv_at hl 0 rfl) ?_
          refine va_get (D := D) (ci := 8) (v := .ref (oM 16)) (C := RX8) (T := TX8) (N := 36) hx hb hts hinX8 hown hK hw.1 0 rfl rfl 34 (by decide) (hts (.fieldLink RX8 66 "CarnivalRoadModel" "gone" "[I") (by decide +kernel)) (fun _ h9 => h9) rfl dX8_at_132 ?_
          refine lv_iload_n hx hb dX8_at_135 rfl (lv_at hl 1 rfl) ?_
          have hi_165 : (0 : Int) ≤ g ∧ g < ((8 : Nat) : Int) := by
            first | omega | grind
          refine z_iald (n := 8) (f := Mgone) hx hb hK hw 16 rfl (by decide) hi_165 dX8_at_136 ?_
          have hq_166 : -1 ≤ Mgone g ∧ Mgone g ≤ 1000000 := qMgone g
          have hv_167 : (0 : Int) ≤ Mthrown_117 ∧ Mthrown_117 ≤ 2 := by
            first | omega | grind
          have hv_168 : (¬ (0 ≤ g ∧ g < Mmany) ∧ Mthrown_117 = 1) ∨ ((0 ≤ g ∧ g < Mmany) ∧ Mruns = 0 ∧ Mthrown_117 = 2) ∨ ((0 ≤ g ∧ g < Mmany) ∧ Mruns = 1 ∧ Mthrown_117 = 0 ∧ ((w = 0 ∧ (Mgone g) = Mhead g) ∨ (w = 1 ∧ (Mgone g) = Mhead (0 + g) - Mguest (5 * g + 1) + 1) ∨ (w = 2 ∧ ((Mout g = 1 ∧ (Mgone g) = 3) ∨ (Mout g = 0 ∧ Mhead g < 0 ∧ (Mgone g) = 0) ∨ (Mout g = 0 ∧ 0 ≤ Mhead g ∧ (0 < Mplays g ∨ 0 < Mrests g) ∧ (Mgone g) = 2) ∨ (Mout g = 0 ∧ 0 ≤ Mhead g ∧ ¬ (0 < Mplays g ∨ 0 < Mrests g) ∧ (Mgone g) = 1))) ∨ (w = 3 ∧ (Mgone g) = Mcame g) ∨ (w = 4 ∧ (Mgone g) = Mgone g) ∨ ((w < 0 ∨ 4 < w) ∧ (Mgone g) = -100))) := by
            first | omega | grind
          exact W.iret (v := zI (Mgone g)) hx hb hr (fun t9 ht hW => ⟨⟨zI (Mgone g), ((Mgone g), Mthrown_117), rfl, ⟨rfl, ⟨hv_167, hv_168⟩⟩, by subst hAe; exact z_end hK hw ht hW⟩, by subst hAe; exact hw.2.2.F ht⟩) (by subst hAe; exact hw.2.2.2.2) dX8_at_137
    · skip
      refine z_iconst hx hb dX8_at_13 ?_
      refine lv_goto (tgt := 18) hx hb dX8_at_14 (by decide) ?_
      have hF9 := z_free (wc := kM cI cB cZ oM Mthrown Mmany Mguest Mrow Mbars Mbar Mfresh Mtape Mtaped Mpos Mtoken MtokenAt Mvalue Mwrong MwrongAt MfaultKind MfaultPlace Mthing Morder Mone Mtwo Mbest Mcells Mgap Mwire Mstand Mruns Mminute Mhead Mplays Mrests Mwent Mout Mcame Mgone MlastOut) hw hA [0, 1, 2, 3, 4, 5, 6, 7, 8, 9, 10, 11, 12, 13, 14, 15, 16] rfl
      refine va_calli (va_runV (As := [.int (zI 0), .int (zI 1)]) (rest := []) ⟨hx, hb, hml, hown, hts⟩ (c_X8_fails l D cI cB cZ oM H_1.size Mthrown Mmany Mguest Mrow Mbars Mbar Mfresh Mtape Mtaped Mpos Mtoken MtokenAt Mvalue Mwrong MwrongAt MfaultKind MfaultPlace Mthing Morder Mone Mtwo Mbest Mcells Mgap Mwire Mstand Mruns Mminute Mhead Mplays Mrests Mwent Mout Mcame Mgone MlastOut 0 1 (by omega) (by omega) qMguest qMrow (by omega) qMbar qMfresh qMtape (by omega) (by omega) (by omega) (by omega) (by omega) (by omega) (by omega) (by omega) (by omega) (by omega) qMorder (by omega) (by omega) qMbest (by omega) (by omega) qMwire qMstand (by omega) (by omega) qMhead qMplays qMrests qMwent qMout qMcame qMgone (by omega) (by omega) (by omega)) (cwV 2 hts gX8_at_X8_fails rfl rfl rfl (by decide +kernel) ⟨Nat.le_of_ble_eq_true rfl, Nat.le_of_ble_eq_true rfl⟩) ⟨zPre_blind, va_recv hK hw.1 (ci := 8) (q0 := 0) rfl rfl, z_pre hK hw [0, 1, 2, 3, 4, 5, 6, 7, 8, 9, 10, 11, 12, 13, 14, 15, 16] (by decide) rfl⟩ rfl rfl hl.1 rfl (lv_room (Nat.le_of_ble_eq_true rfl)) dX8_at_18 ⟨Nat.zero_le _, Nat.zero_le _⟩) hw.2.2 (fun q _ h => hF9 q h) hF9 (fun r9 u9 t9 H_169 locs9 ht9 hvm9 hq9 hB9 hz9 hk9 hS9 => ?_)
      obtain ⟨r_170, Mthrown_171⟩ := u9
      try dsimp only at hq9 hB9
      obtain ⟨rfl, hq9⟩ := hq9
      obtain ⟨hq_172, hq_173, hq_174⟩ := hq9
      have hw : HW D A s.heap (kM cI cB cZ oM Mthrown_171 Mmany Mguest Mrow Mbars Mbar Mfresh Mtape Mtaped Mpos Mtoken MtokenAt Mvalue Mwrong MwrongAt MfaultKind MfaultPlace Mthing Morder Mone Mtwo Mbest Mcells Mgap Mwire Mstand Mruns Mminute Mhead Mplays Mrests Mwent Mout Mcame Mgone MlastOut) H_169 locs9 := z_after (wc := kM cI cB cZ oM Mthrown Mmany Mguest Mrow Mbars Mbar Mfresh Mtape Mtaped Mpos Mtoken MtokenAt Mvalue Mwrong MwrongAt MfaultKind MfaultPlace Mthing Morder Mone Mtwo Mbest Mcells Mgap Mwire Mstand Mruns Mminute Mhead Mplays Mrests Mwent Mout Mcame Mgone MlastOut) hw [0, 1, 2, 3, 4, 5, 6, 7, 8, 9, 10, 11, 12, 13, 14, 15, 16] [] rfl rfl (by decide) (by decide) hF9 hk9 ht9 hB9 hS9 [0, 1, 2, 3, 4, 5, 6, 7, 8, 9, 10, 11, 12, 13, 14, 15, 16] (by decide) rfl
      clear hF9 ht9 hvm9 hB9 hz9 hk9 hS9
      rcases hq_173 with ⟨hc_175, rfl⟩ | ⟨hc_175, rfl⟩
      · skip
        refine z_if_eq (tgt := 26) hx hb dX8_at_21 (by decide) (by omega) (fun hc_176 => absurd hc_176 (by omega)) (fun hc_176 => ?_)
        refine z_iconst hx hb dX8_at_24 ?_
        have hv_177 : (0 : Int) ≤ Mthrown_171 ∧ Mthrown_171 ≤ 2 := by
          first | omega | grind
        have hv_178 : (¬ (0 ≤ g ∧ g < Mmany) ∧ Mthrown_171 = 1) ∨ ((0 ≤ g ∧ g < Mmany) ∧ Mruns = 0 ∧ Mthrown_171 = 2) ∨ ((0 ≤ g ∧ g < Mmany) ∧ Mruns = 1 ∧ Mthrown_171 = 0 ∧ ((w = 0 ∧ (0 : Int) = Mhead g) ∨ (w = 1 ∧ (0 : Int) = Mhead (0 + g) - Mguest (5 * g + 1) + 1) ∨ (w = 2 ∧ ((Mout g = 1 ∧ (0 : Int) = 3) ∨ (Mout g = 0 ∧ Mhead g < 0 ∧ (0 : Int) = 0) ∨ (Mout g = 0 ∧ 0 ≤ Mhead g ∧ (0 < Mplays g ∨ 0 < Mrests g) ∧ (0 : Int) = 2) ∨ (Mout g = 0 ∧ 0 ≤ Mhead g ∧ ¬ (0 < Mplays g ∨ 0 < Mrests g) ∧ (0 : Int) = 1))) ∨ (w = 3 ∧ (0 : Int) = Mcame g) ∨ (w = 4 ∧ (0 : Int) = Mgone g) ∨ ((w < 0 ∨ 4 < w) ∧ (0 : Int) = -100))) := by
          first | omega | grind
        exact W.iret (v := zI 0) hx hb hr (fun t9 ht hW => ⟨⟨zI 0, (0, Mthrown_171), rfl, ⟨rfl, ⟨hv_177, hv_178⟩⟩, by subst hAe; exact z_end hK hw ht hW⟩, by subst hAe; exact hw.2.2.F ht⟩) (by subst hAe; exact hw.2.2.2.2) dX8_at_25
      · skip
        refine z_if_eq (tgt := 26) hx hb dX8_at_21 (by decide) (by omega) (fun hc_179 => ?_) (fun hc_179 => absurd hc_179 (by omega))
        refine lv_iload_n hx hb dX8_at_26 rfl (lv_at hl 2 rfl) ?_
        rcases (show (w < 0 ∨ 4 < w) ∨ w = 0 ∨ w = 1 ∨ w = 2 ∨ w = 3 ∨ w = 4 by omega) with hc_180 | hc_180 | hc_180 | hc_180 | hc_180 | hc_180
        · skip
          refine z_tableOut (tgt := 138) hx hb (by omega) hc_180 dX8_at_27 (by decide) ?_
          refine z_bipush hx hb dX8_at_138 (by decide) ?_
          have hv_181 : (0 : Int) ≤ Mthrown_171 ∧ Mthrown_171 ≤ 2 := by
            first | omega | grind
          have hv_182 : (¬ (0 ≤ g ∧ g < Mmany) ∧ Mthrown_171 = 1) ∨ ((0 ≤ g ∧ g < Mmany) ∧ Mruns = 0 ∧ Mthrown_171 = 2) ∨ ((0 ≤ g ∧ g < Mmany) ∧ Mruns = 1 ∧ Mthrown_171 = 0 ∧ ((w = 0 ∧ ((-100) : Int) = Mhead g) ∨ (w = 1 ∧ ((-100) : Int) = Mhead (0 + g) - Mguest (5 * g + 1) + 1) ∨ (w = 2 ∧ ((Mout g = 1 ∧ ((-100) : Int) = 3) ∨ (Mout g = 0 ∧ Mhead g < 0 ∧ ((-100) : Int) = 0) ∨ (Mout g = 0 ∧ 0 ≤ Mhead g ∧ (0 < Mplays g ∨ 0 < Mrests g) ∧ ((-100) : Int) = 2) ∨ (Mout g = 0 ∧ 0 ≤ Mhead g ∧ ¬ (0 < Mplays g ∨ 0 < Mrests g) ∧ ((-100) : Int) = 1))) ∨ (w = 3 ∧ ((-100) : Int) = Mcame g) ∨ (w = 4 ∧ ((-100) : Int) = Mgone g) ∨ ((w < 0 ∨ 4 < w) ∧ ((-100) : Int) = -100))) := by
            first | omega | grind
          exact W.iret (v := zI (-100)) hx hb hr (fun t9 ht hW => ⟨⟨zI (-100), ((-100), Mthrown_171), rfl, ⟨rfl, ⟨hv_181, hv_182⟩⟩, by subst hAe; exact z_end hK hw ht hW⟩, by subst hAe; exact hw.2.2.F ht⟩) (by subst hAe; exact hw.2.2.2.2) dX8_at_140
        · skip
          refine z_tableIn (k := 0) (off := 33) (tgt := 60) hx hb hc_180 dX8_at_27 (by decide) (by decide) rfl (by decide) ?_
          refine lv_aload_n hx hb dX8_at_60 rfl (lv_at hl 0 rfl) ?_
          refine va_get (D := D) (ci := 8) (v := .ref (oM 10)) (C := RX8) (T := TX8) (N := 36) hx hb hts hinX8 hown hK hw.1 0 rfl rfl 28 (by decide) (hts (.fieldLink RX8 47 "CarnivalRoadModel" "head" "[I") (by decide +kernel)) (fun _ h9 => h9) rfl dX8_at_61 ?_
          refine lv_iload_n hx hb dX8_at_64 rfl (lv_at hl 1 rfl) ?_
          have hi_183 : (0 : Int) ≤ g ∧ g < ((16 : Nat) : Int) := by
            first | omega | grind
          refine z_iald (n := 16) (f := Mhead) hx hb hK hw 10 rfl (by decide) hi_183 dX8_at_65 ?_
          have hq_184 : -1 ≤ Mhead g ∧ Mhead g ≤ 60 := qMhead g
          have hv_185 : (0 : Int) ≤ Mthrown_171 ∧ Mthrown_171 ≤ 2 := by
            first | omega | grind
          have hv_186 : (¬ (0 ≤ g ∧ g < Mmany) ∧ Mthrown_171 = 1) ∨ ((0 ≤ g ∧ g < Mmany) ∧ Mruns = 0 ∧ Mthrown_171 = 2) ∨ ((0 ≤ g ∧ g < Mmany) ∧ Mruns = 1 ∧ Mthrown_171 = 0 ∧ ((w = 0 ∧ (Mhead g) = Mhead g) ∨ (w = 1 ∧ (Mhead g) = Mhead (0 + g) - Mguest (5 * g + 1) + 1) ∨ (w = 2 ∧ ((Mout g = 1 ∧ (Mhead g) = 3) ∨ (Mout g = 0 ∧ Mhead g < 0 ∧ (Mhead g) = 0) ∨ (Mout g = 0 ∧ 0 ≤ Mhead g ∧ (0 < Mplays g ∨ 0 < Mrests g) ∧ (Mhead g) = 2) ∨ (Mout g = 0 ∧ 0 ≤ Mhead g ∧ ¬ (0 < Mplays g ∨ 0 < Mrests g) ∧ (Mhead g) = 1))) ∨ (w = 3 ∧ (Mhead g) = Mcame g) ∨ (w = 4 ∧ (Mhead g) = Mgone g) ∨ ((w < 0 ∨ 4 < w) ∧ (Mhead g) = -100))) := by
            first | omega | grind
          exact W.iret (v := zI (Mhead g)) hx hb hr (fun t9 ht hW => ⟨⟨zI (Mhead g), ((Mhead g), Mthrown_171), rfl, ⟨rfl, ⟨hv_185, hv_186⟩⟩, by subst hAe; exact z_end hK hw ht hW⟩, by subst hAe; exact hw.2.2.F ht⟩) (by subst hAe; exact hw.2.2.2.2) dX8_at_66
        · skip
          refine z_tableIn (k := 1) (off := 40) (tgt := 67) hx hb hc_180 dX8_at_27 (by decide) (by decide) rfl (by decide) ?_
          refine lv_aload_n hx hb dX8_at_67 rfl (lv_at hl 0 rfl) ?_
          refine z_iconst hx hb dX8_at_68 ?_
          refine lv_iload_n hx hb dX8_at_69 rfl (lv_at hl 1 rfl) ?_
          have hF9 := z_free (wc := kM cI cB cZ oM Mthrown_171 Mmany Mguest Mrow Mbars Mbar Mfresh Mtape Mtaped Mpos Mtoken MtokenAt Mvalue Mwrong MwrongAt MfaultKind MfaultPlace Mthing Morder Mone Mtwo Mbest Mcells Mgap Mwire Mstand Mruns Mminute Mhead Mplays Mrests Mwent Mout Mcame Mgone MlastOut) hw hA [0, 1, 2, 3, 4, 5, 6, 7, 8, 9, 10, 11, 12, 13, 14, 15, 16] rfl
          refine va_calli (va_runV (As := [.int (zI 0), .int (zI g)]) (rest := []) ⟨hx, hb, hml, hown, hts⟩ (c_X8_tail l D cI cB cZ oM H_169.size Mthrown_171 Mmany Mguest Mrow Mbars Mbar Mfresh Mtape Mtaped Mpos Mtoken MtokenAt Mvalue Mwrong MwrongAt MfaultKind MfaultPlace Mthing Morder Mone Mtwo Mbest Mcells Mgap Mwire Mstand Mruns Mminute Mhead Mplays Mrests Mwent Mout Mcame Mgone MlastOut 0 g (by omega) (by omega) qMguest qMrow (by omega) qMbar qMfresh qMtape (by omega) (by omega) (by omega) (by omega) (by omega) (by omega) (by omega) (by omega) (by omega) (by omega) qMorder (by omega) (by omega) qMbest (by omega) (by omega) qMwire qMstand (by omega) (by omega) qMhead qMplays qMrests qMwent qMout qMcame qMgone (by omega) (by omega) (by omega)) (cwV 2 hts gX8_at_X8_tail rfl rfl rfl (by decide +kernel) ⟨Nat.le_of_ble_eq_true rfl, Nat.le_of_ble_eq_true rfl⟩) ⟨zPre_blind, va_recv hK hw.1 (ci := 8) (q0 := 0) rfl rfl, z_pre hK hw [0, 1, 2, 3, 4, 5, 6, 7, 8, 9, 10, 11, 12, 13, 14, 15, 16] (by decide) rfl⟩ rfl rfl hl.1 rfl (lv_room (Nat.le_of_ble_eq_true rfl)) dX8_at_70 ⟨Nat.zero_le _, Nat.zero_le _⟩) hw.2.2 (fun q _ h => hF9 q h) hF9 (fun r9 u9 t9 H_187 locs9 ht9 hvm9 hq9 hB9 hz9 hk9 hS9 => ?_)
          obtain ⟨r_188, rfl⟩ : ∃ z, z = u9 := ⟨_, rfl⟩
          try dsimp only at hq9 hB9
          obtain ⟨rfl, hq9⟩ := hq9
          obtain ⟨hq_189, hq_190⟩ := hq9
          have hw : HW D A s.heap (kM cI cB cZ oM Mthrown_171 Mmany Mguest Mrow Mbars Mbar Mfresh Mtape Mtaped Mpos Mtoken MtokenAt Mvalue Mwrong MwrongAt MfaultKind MfaultPlace Mthing Morder Mone Mtwo Mbest Mcells Mgap Mwire Mstand Mruns Mminute Mhead Mplays Mrests Mwent Mout Mcame Mgone MlastOut) H_187 locs9 := z_after (wc := kM cI cB cZ oM Mthrown_171 Mmany Mguest Mrow Mbars Mbar Mfresh Mtape Mtaped Mpos Mtoken MtokenAt Mvalue Mwrong MwrongAt MfaultKind MfaultPlace Mthing Morder Mone Mtwo Mbest Mcells Mgap Mwire Mstand Mruns Mminute Mhead Mplays Mrests Mwent Mout Mcame Mgone MlastOut) hw [0, 1, 2, 3, 4, 5, 6, 7, 8, 9, 10, 11, 12, 13, 14, 15, 16] [] rfl rfl (by decide) (by decide) hF9 hk9 ht9 hB9 hS9 [0, 1, 2, 3, 4, 5, 6, 7, 8, 9, 10, 11, 12, 13, 14, 15, 16] (by decide) rfl
          clear hF9 ht9 hvm9 hB9 hz9 hk9 hS9
          have hv_191 : (0 : Int) ≤ Mthrown_171 ∧ Mthrown_171 ≤ 2 := by
            first | omega | grind
          have hv_192 : (¬ (0 ≤ g ∧ g < Mmany) ∧ Mthrown_171 = 1) ∨ ((0 ≤ g ∧ g < Mmany) ∧ Mruns = 0 ∧ Mthrown_171 = 2) ∨ ((0 ≤ g ∧ g < Mmany) ∧ Mruns = 1 ∧ Mthrown_171 = 0 ∧ ((w = 0 ∧ r_188 = Mhead g) ∨ (w = 1 ∧ r_188 = Mhead (0 + g) - Mguest (5 * g + 1) + 1) ∨ (w = 2 ∧ ((Mout g = 1 ∧ r_188 = 3) ∨ (Mout g = 0 ∧ Mhead g < 0 ∧ r_188 = 0) ∨ (Mout g = 0 ∧ 0 ≤ Mhead g ∧ (0 < Mplays g ∨ 0 < Mrests g) ∧ r_188 = 2) ∨ (Mout g = 0 ∧ 0 ≤ Mhead g ∧ ¬ (0 < Mplays g ∨ 0 < Mrests g) ∧ r_188 = 1))) ∨ (w = 3 ∧ r_188 = Mcame g) ∨ (w = 4 ∧ r_188 = Mgone g) ∨ ((w < 0 ∨ 4 < w) ∧ r_188 = -100))) := by
            first | omega | grind
          exact W.iret (v := zI r_188) hx hb hr (fun t9 ht hW => ⟨⟨zI r_188, (r_188, Mthrown_171), rfl, ⟨rfl, ⟨hv_191, hv_192⟩⟩, by subst hAe; exact z_end hK hw ht hW⟩, by subst hAe; exact hw.2.2.F ht⟩) (by subst hAe; exact hw.2.2.2.2) dX8_at_73
        · skip
          refine z_tableIn (k := 2) (off := 47) (tgt := 74) hx hb hc_180 dX8_at_27 (by decide) (by decide) rfl (by decide) ?_
          refine lv_aload_n hx hb dX8_at_74 rfl (lv_at hl 0 rfl) ?_
          refine va_get (D := D) (ci := 8) (v := .ref (oM 14)) (C := RX8) (T := TX8) (N := 36) hx hb hts hinX8 hown hK hw.1 0 rfl rfl 32 (by decide) (hts (.fieldLink RX8 59 "CarnivalRoadModel" "out" "[Z") (by decide +kernel)) (fun _ h9 => h9) rfl dX8_at_75 ?_
          refine lv_iload_n hx hb dX8_at_78 rfl (lv_at hl 1 rfl) ?_
          have hi_193 : (0 : Int) ≤ g ∧ g < ((16 : Nat) : Int) := by
            first | omega | grind
          refine z_zald (n := 16) (f := Mout) hx hb hK hw 14 rfl (by decide) hi_193 dX8_at_79 ?_
          have hq_194 : 0 ≤ Mout g ∧ Mout g ≤ 1 := qMout g
          refine z_if_eq (tgt := 87) hx hb dX8_at_80 (by decide) (by omega) (fun hc_195 => ?_) (fun hc_195 => ?_)
          · skip
            refine lv_aload_n hx hb dX8_at_87 rfl (lv_at hl 0 rfl) ?_
            refine va_get (D := D) (ci := 8) (v := .ref (oM 10)) (C := RX8) (T := TX8) (N := 36) hx hb hts hinX8 hown hK hw.1 0 rfl rfl 28 (by decide) (hts (.fieldLink RX8 47 "CarnivalRoadModel" "head" "[I") (by decide +kernel)) (fun _ h9 => h9) rfl dX8_at_88 ?_
            refine lv_iload_n hx hb dX8_at_91 rfl (lv_at hl 1 rfl) ?_
            have hi_196 : (0 : Int) ≤ g ∧ g < ((16 : Nat) : Int) := by
              first | omega | grind
            refine z_iald (n := 16) (f := Mhead) hx hb hK hw 10 rfl (by decide) hi_196 dX8_at_92 ?_
            have hq_197 : -1 ≤ Mhead g ∧ Mhead g ≤ 60 := qMhead g
            refine z_if_ge (tgt := 100) hx hb dX8_at_93 (by decide) (by omega) (fun hc_198 => ?_) (fun hc_198 => ?_)
            · skip
              refine lv_aload_n hx hb dX8_at_100 rfl (lv_at hl 0 rfl) ?_
              refine va_get (D := D) (ci := 8) (v := .ref (oM 11)) (C := RX8) (T := TX8) (N := 36) hx hb hts hinX8 hown hK hw.1 0 rfl rfl 29 (by decide) (hts (.fieldLink RX8 50 "CarnivalRoadModel" "plays" "[I") (by decide +kernel)) (fun _ h9 => h9) rfl dX8_at_101 ?_
              refine lv_iload_n hx hb dX8_at_104 rfl (lv_at hl 1 rfl) ?_
              have hi_199 : (0 : Int) ≤ g ∧ g < ((16 : Nat) : Int) := by
                first | omega | grind
              refine z_iald (n := 16) (f := Mplays) hx hb hK hw 11 rfl (by decide) hi_199 dX8_at_105 ?_
              have hq_200 : 0 ≤ Mplays g ∧ Mplays g ≤ 18 := qMplays g
              refine z_if_gt (tgt := 118) hx hb dX8_at_106 (by decide) (by omega) (fun hc_201 => ?_) (fun hc_201 => ?_)
              · skip
                refine z_iconst hx hb dX8_at_118 ?_
                refine lv_goto (tgt := 123) hx hb dX8_at_119 (by decide) ?_
                have hv_202 : (0 : Int) ≤ Mthrown_171 ∧ Mthrown_171 ≤ 2 := by
                  first | omega | grind
                have hv_203 : (¬ (0 ≤ g ∧ g < Mmany) ∧ Mthrown_171 = 1) ∨ ((0 ≤ g ∧ g < Mmany) ∧ Mruns = 0 ∧ Mthrown_171 = 2) ∨ ((0 ≤ g ∧ g < Mmany) ∧ Mruns = 1 ∧ Mthrown_171 = 0 ∧ ((w = 0 ∧ (2 : Int) = Mhead g) ∨ (w = 1 ∧ (2 : Int) = Mhead (0 + g) - Mguest (5 * g + 1) + 1) ∨ (w = 2 ∧ ((Mout g = 1 ∧ (2 : Int) = 3) ∨ (Mout g = 0 ∧ Mhead g < 0 ∧ (2 : Int) = 0) ∨ (Mout g = 0 ∧ 0 ≤ Mhead g ∧ (0 < Mplays g ∨ 0 < Mrests g) ∧ (2 : Int) = 2) ∨ (Mout g = 0 ∧ 0 ≤ Mhead g ∧ ¬ (0 < Mplays g ∨ 0 < Mrests g) ∧ (2 : Int) = 1))) ∨ (w = 3 ∧ (2 : Int) = Mcame g) ∨ (w = 4 ∧ (2 : Int) = Mgone g) ∨ ((w < 0 ∨ 4 < w) ∧ (2 : Int) = -100))) := by
                  first | omega | grind
                exact W.iret (v := zI 2) hx hb hr (fun t9 ht hW => ⟨⟨zI 2, (2, Mthrown_171), rfl, ⟨rfl, ⟨hv_202, hv_203⟩⟩, by subst hAe; exact z_end hK hw ht hW⟩, by subst hAe; exact hw.2.2.F ht⟩) (by subst hAe; exact hw.2.2.2.2) dX8_at_123
              · skip
                refine lv_aload_n hx hb dX8_at_109 rfl (lv_at hl 0 rfl) ?_
                refine va_get (D := D) (ci := 8) (v := .ref (oM 12)) (C := RX8) (T := TX8) (N := 36) hx hb hts hinX8 hown hK hw.1 0 rfl rfl 30 (by decide) (hts (.fieldLink RX8 53 "CarnivalRoadModel" "rests" "[I") (by decide +kernel)) (fun _ h9 => h9) rfl dX8_at_110 ?_
                refine lv_iload_n hx hb dX8_at_113 rfl (lv_at hl 1 rfl) ?_
                have hi_204 : (0 : Int) ≤ g ∧ g < ((16 : Nat) : Int) := by
                  first | omega | grind
                refine z_iald (n := 16) (f := Mrests) hx hb hK hw 12 rfl (by decide) hi_204 dX8_at_114 ?_
                have hq_205 : 0 ≤ Mrests g ∧ Mrests g ≤ 3 := qMrests g
                refine z_if_le (tgt := 122) hx hb dX8_at_115 (by decide) (by omega) (fun hc_206 => ?_) (fun hc_206 => ?_)
                · skip
                  refine z_iconst hx hb dX8_at_122 ?_
                  have hv_207 : (0 : Int) ≤ Mthrown_171 ∧ Mthrown_171 ≤ 2 := by
                    first | omega | grind
                  have hv_208 : (¬ (0 ≤ g ∧ g < Mmany) ∧ Mthrown_171 = 1) ∨ ((0 ≤ g ∧ g < Mmany) ∧ Mruns = 0 ∧ Mthrown_171 = 2) ∨ ((0 ≤ g ∧ g < Mmany) ∧ Mruns = 1 ∧ Mthrown_171 = 0 ∧ ((w = 0 ∧ (1 : Int) = Mhead g) ∨ (w = 1 ∧ (1 : Int) = Mhead (0 + g) - Mguest (5 * g + 1) + 1) ∨ (w = 2 ∧ ((Mout g = 1 ∧ (1 : Int) = 3) ∨ (Mout g = 0 ∧ Mhead g < 0 ∧ (1 : Int) = 0) ∨ (Mout g = 0 ∧ 0 ≤ Mhead g ∧ (0 < Mplays g ∨ 0 < Mrests g) ∧ (1 : Int) = 2) ∨ (Mout g = 0 ∧ 0 ≤ Mhead g ∧ ¬ (0 < Mplays g ∨ 0 < Mrests g) ∧ (1 : Int) = 1))) ∨ (w = 3 ∧ (1 : Int) = Mcame g) ∨ (w = 4 ∧ (1 : Int) = Mgone g) ∨ ((w < 0 ∨ 4 < w) ∧ (1 : Int) = -100))) := by
                    first | omega | grind
                  exact W.iret (v := zI 1) hx hb hr (fun t9 ht hW => ⟨⟨zI 1, (1, Mthrown_171), rfl, ⟨rfl, ⟨hv_207, hv_208⟩⟩, by subst hAe; exact z_end hK hw ht hW⟩, by subst hAe; exact hw.2.2.F ht⟩) (by subst hAe; exact hw.2.2.2.2) dX8_at_123
                · skip
                  refine z_iconst hx hb dX8_at_118 ?_
                  refine lv_goto (tgt := 123) hx hb dX8_at_119 (by decide) ?_
                  have hv_209 : (0 : Int) ≤ Mthrown_171 ∧ Mthrown_171 ≤ 2 := by
                    first | omega | grind
                  have hv_210 : (¬ (0 ≤ g ∧ g < Mmany) ∧ Mthrown_171 = 1) ∨ ((0 ≤ g ∧ g < Mmany) ∧ Mruns = 0 ∧ Mthrown_171 = 2) ∨ ((0 ≤ g ∧ g < Mmany) ∧ Mruns = 1 ∧ Mthrown_171 = 0 ∧ ((w = 0 ∧ (2 : Int) = Mhead g) ∨ (w = 1 ∧ (2 : Int) = Mhead (0 + g) - Mguest (5 * g + 1) + 1) ∨ (w = 2 ∧ ((Mout g = 1 ∧ (2 : Int) = 3) ∨ (Mout g = 0 ∧ Mhead g < 0 ∧ (2 : Int) = 0) ∨ (Mout g = 0 ∧ 0 ≤ Mhead g ∧ (0 < Mplays g ∨ 0 < Mrests g) ∧ (2 : Int) = 2) ∨ (Mout g = 0 ∧ 0 ≤ Mhead g ∧ ¬ (0 < Mplays g ∨ 0 < Mrests g) ∧ (2 : Int) = 1))) ∨ (w = 3 ∧ (2 : Int) = Mcame g) ∨ (w = 4 ∧ (2 : Int) = Mgone g) ∨ ((w < 0 ∨ 4 < w) ∧ (2 : Int) = -100))) := by
                    first | omega | grind
                  exact W.iret (v := zI 2) hx hb hr (fun t9 ht hW => ⟨⟨zI 2, (2, Mthrown_171), rfl, ⟨rfl, ⟨hv_209, hv_210⟩⟩, by subst hAe; exact z_end hK hw ht hW⟩, by subst hAe; exact hw.2.2.F ht⟩) (by subst hAe; exact hw.2.2.2.2) dX8_at_123
            · skip
              refine z_iconst hx hb dX8_at_96 ?_
              refine lv_goto (tgt := 123) hx hb dX8_at_97 (by decide) ?_
              have hv_211 : (0 : Int) ≤ Mthrown_171 ∧ Mthrown_171 ≤ 2 := by
                first | omega | grind
              have hv_212 : (¬ (0 ≤ g ∧ g < Mmany) ∧ Mthrown_171 = 1) ∨ ((0 ≤ g ∧ g < Mmany) ∧ Mruns = 0 ∧ Mthrown_171 = 2) ∨ ((0 ≤ g ∧ g < Mmany) ∧ Mruns = 1 ∧ Mthrown_171 = 0 ∧ ((w = 0 ∧ (0 : Int) = Mhead g) ∨ (w = 1 ∧ (0 : Int) = Mhead (0 + g) - Mguest (5 * g + 1) + 1) ∨ (w = 2 ∧ ((Mout g = 1 ∧ (0 : Int) = 3) ∨ (Mout g = 0 ∧ Mhead g < 0 ∧ (0 : Int) = 0) ∨ (Mout g = 0 ∧ 0 ≤ Mhead g ∧ (0 < Mplays g ∨ 0 < Mrests g) ∧ (0 : Int) = 2) ∨ (Mout g = 0 ∧ 0 ≤ Mhead g ∧ ¬ (0 < Mplays g ∨ 0 < Mrests g) ∧ (0 : Int) = 1))) ∨ (w = 3 ∧ (0 : Int) = Mcame g) ∨ (w = 4 ∧ (0 : Int) = Mgone g) ∨ ((w < 0 ∨ 4 < w) ∧ (0 : Int) = -100))) := by
                first | omega | grind
              exact W.iret (v := zI 0) hx hb hr (fun t9 ht hW => ⟨⟨zI 0, (0, Mthrown_171), rfl, ⟨rfl, ⟨hv_211, hv_212⟩⟩, by subst hAe; exact z_end hK hw ht hW⟩, by subst hAe; exact hw.2.2.F ht⟩) (by subst hAe; exact hw.2.2.2.2) dX8_at_123
          · skip
            refine z_iconst hx hb dX8_at_83 ?_
            refine lv_goto (tgt := 123) hx hb dX8_at_84 (by decide) ?_
            have hv_213 : (0 : Int) ≤ Mthrown_171 ∧ Mthrown_171 ≤ 2 := by
              first | omega | grind
            have hv_214 : (¬ (0 ≤ g ∧ g < Mmany) ∧ Mthrown_171 = 1) ∨ ((0 ≤ g ∧ g < Mmany) ∧ Mruns = 0 ∧ Mthrown_171 = 2) ∨ ((0 ≤ g ∧ g < Mmany) ∧ Mruns = 1 ∧ Mthrown_171 = 0 ∧ ((w = 0 ∧ (3 : Int) = Mhead g) ∨ (w = 1 ∧ (3 : Int) = Mhead (0 + g) - Mguest (5 * g + 1) + 1) ∨ (w = 2 ∧ ((Mout g = 1 ∧ (3 : Int) = 3) ∨ (Mout g = 0 ∧ Mhead g < 0 ∧ (3 : Int) = 0) ∨ (Mout g = 0 ∧ 0 ≤ Mhead g ∧ (0 < Mplays g ∨ 0 < Mrests g) ∧ (3 : Int) = 2) ∨ (Mout g = 0 ∧ 0 ≤ Mhead g ∧ ¬ (0 < Mplays g ∨ 0 < Mrests g) ∧ (3 : Int) = 1))) ∨ (w = 3 ∧ (3 : Int) = Mcame g) ∨ (w = 4 ∧ (3 : Int) = Mgone g) ∨ ((w < 0 ∨ 4 < w) ∧ (3 : Int) = -100))) := by
              first | omega | grind
            exact W.iret (v := zI 3) hx hb hr (fun t9 ht hW => ⟨⟨zI 3, (3, Mthrown_171), rfl, ⟨rfl, ⟨hv_213, hv_214⟩⟩, by subst hAe; exact z_end hK hw ht hW⟩, by subst hAe; exact hw.2.2.F ht⟩) (by subst hAe; exact hw.2.2.2.2) dX8_at_123
        · skip
          refine z_tableIn (k := 3) (off := 97) (tgt := 124) hx hb hc_180 dX8_at_27 (by decide) (by decide) rfl (by decide) ?_
          refine lv_aload_n hx hb dX8_at_124 rfl (lv_at hl 0 rfl) ?_
          refine va_get (D := D) (ci := 8) (v := .ref (oM 15)) (C := RX8) (T := TX8) (N := 36) hx hb hts hinX8 hown hK hw.1 0 rfl rfl 33 (by decide) (hts (.fieldLink RX8 63 "CarnivalRoadModel" "came" "[I") (by decide +kernel)) (fun _ h9 => h9) rfl dX8_at_125 ?_
          refine lv_iload_n hx hb dX8_at_128 rfl (lv_at hl 1 rfl) ?_
          have hi_215 : (0 : Int) ≤ g ∧ g < ((8 : Nat) : Int) := by
            first | omega | grind
          refine z_iald (n := 8) (f := Mcame) hx hb hK hw 15 rfl (by decide) hi_215 dX8_at_129 ?_
          have hq_216 : -1 ≤ Mcame g ∧ Mcame g ≤ 1000000 := qMcame g
          have hv_217 : (0 : Int) ≤ Mthrown_171 ∧ Mthrown_171 ≤ 2 := by
            first | omega | grind
          have hv_218 : (¬ (0 ≤ g ∧ g < Mmany) ∧ Mthrown_171 = 1) ∨ ((0 ≤ g ∧ g < Mmany) ∧ Mruns = 0 ∧ Mthrown_171 = 2) ∨ ((0 ≤ g ∧ g < Mmany) ∧ Mruns = 1 ∧ Mthrown_171 = 0 ∧ ((w = 0 ∧ (Mcame g) = Mhead g) ∨ (w = 1 ∧ (Mcame g) = Mhead (0 + g) - Mguest (5 * g + 1) + 1) ∨ (w = 2 ∧ ((Mout g = 1 ∧ (Mcame g) = 3) ∨ (Mout g = 0 ∧ Mhead g < 0 ∧ (Mcame g) = 0) ∨ (Mout g = 0 ∧ 0 ≤ Mhead g ∧ (0 < Mplays g ∨ 0 < Mrests g) ∧ (Mcame g) = 2) ∨ (Mout g = 0 ∧ 0 ≤ Mhead g ∧ ¬ (0 < Mplays g ∨ 0 < Mrests g) ∧ (Mcame g) = 1))) ∨ (w = 3 ∧ (Mcame g) = Mcame g) ∨ (w = 4 ∧ (Mcame g) = Mgone g) ∨ ((w < 0 ∨ 4 < w) ∧ (Mcame g) = -100))) := by
            first | omega | grind
          exact W.iret (v := zI (Mcame g)) hx hb hr (fun t9 ht hW => ⟨⟨zI (Mcame g), ((Mcame g), Mthrown_171), rfl, ⟨rfl, ⟨hv_217, hv_218⟩⟩, by subst hAe; exact z_end hK hw ht hW⟩, by subst hAe; exact hw.2.2.F ht⟩) (by subst hAe; exact hw.2.2.2.2) dX8_at_130
        · skip
          refine z_tableIn (k := 4) (off := 104) (tgt := 131) hx hb hc_180 dX8_at_27 (by decide) (by decide) rfl (by decide) ?_
          refine lv_aload_n hx hb dX8_at_131 rfl (lv_at hl 0 rfl) ?_
          refine va_get (D := D) (ci := 8) (v := .ref (oM 16)) (C := RX8) (T := TX8) (N := 36) hx hb hts hinX8 hown hK hw.1 0 rfl rfl 34 (by decide) (hts (.fieldLink RX8 66 "CarnivalRoadModel" "gone" "[I") (by decide +kernel)) (fun _ h9 => h9) rfl dX8_at_132 ?_
          refine lv_iload_n hx hb dX8_at_135 rfl (lv_at hl 1 rfl) ?_
          have hi_219 : (0 : Int) ≤ g ∧ g < ((8 : Nat) : Int) := by
            first | omega | grind
          refine z_iald (n := 8) (f := Mgone) hx hb hK hw 16 rfl (by decide) hi_219 dX8_at_136 ?_
          have hq_220 : -1 ≤ Mgone g ∧ Mgone g ≤ 1000000 := qMgone g
          have hv_221 : (0 : Int) ≤ Mthrown_171 ∧ Mthrown_171 ≤ 2 := by
            first | omega | grind
          have hv_222 : (¬ (0 ≤ g ∧ g < Mmany) ∧ Mthrown_171 = 1) ∨ ((0 ≤ g ∧ g < Mmany) ∧ Mruns = 0 ∧ Mthrown_171 = 2) ∨ ((0 ≤ g ∧ g < Mmany) ∧ Mruns = 1 ∧ Mthrown_171 = 0 ∧ ((w = 0 ∧ (Mgone g) = Mhead g) ∨ (w = 1 ∧ (Mgone g) = Mhead (0 + g) - Mguest (5 * g + 1) + 1) ∨ (w = 2 ∧ ((Mout g = 1 ∧ (Mgone g) = 3) ∨ (Mout g = 0 ∧ Mhead g < 0 ∧ (Mgone g) = 0) ∨ (Mout g = 0 ∧ 0 ≤ Mhead g ∧ (0 < Mplays g ∨ 0 < Mrests g) ∧ (Mgone g) = 2) ∨ (Mout g = 0 ∧ 0 ≤ Mhead g ∧ ¬ (0 < Mplays g ∨ 0 < Mrests g) ∧ (Mgone g) = 1))) ∨ (w = 3 ∧ (Mgone g) = Mcame g) ∨ (w = 4 ∧ (Mgone g) = Mgone g) ∨ ((w < 0 ∨ 4 < w) ∧ (Mgone g) = -100))) := by
            first | omega | grind
          exact W.iret (v := zI (Mgone g)) hx hb hr (fun t9 ht hW => ⟨⟨zI (Mgone g), ((Mgone g), Mthrown_171), rfl, ⟨rfl, ⟨hv_221, hv_222⟩⟩, by subst hAe; exact z_end hK hw ht hW⟩, by subst hAe; exact hw.2.2.F ht⟩) (by subst hAe; exact hw.2.2.2.2) dX8_at_137
set_option maxRecDepth 100000 in
set_option maxHeartbeats 4000000 in
theorem c_X8_ill (l : Launch) (D : va_G) (cI cB cZ : ClassId) (oM : Nat → Nat) (sz : Nat) (Mthrown : Int) (Mmany : Int) (Mguest : Int → Int) (Mrow : Int → Int) (Mbars : Int) (Mbar : Int → Int) (Mfresh : Int → Int) (Mtape : Int → Int) (Mtaped : Int) (Mpos : Int) (Mtoken : Int) (MtokenAt : Int) (Mvalue : Int) (Mwrong : Int) (MwrongAt : Int) (MfaultKind : Int) (MfaultPlace : Int) (Mthing : Int) (Morder : Int → Int) (Mone : Int) (Mtwo : Int) (Mbest : Int → Int) (Mcells : Int) (Mgap : Int) (Mwire : Int → Int) (Mstand : Int → Int) (Mruns : Int) (Mminute : Int) (Mhead : Int → Int) (Mplays : Int → Int) (Mrests : Int → Int) (Mwent : Int → Int) (Mout : Int → Int) (Mcame : Int → Int) (Mgone : Int → Int) (MlastOut : Int) (g : Int) (qMthrown : 0 ≤ Mthrown ∧ Mthrown ≤ 2) (qMmany : 0 ≤ Mmany ∧ Mmany ≤ 8) (qMguest : RA Mguest (0) 9) (qMrow : RA Mrow (0) 7) (qMbars : 0 ≤ Mbars ∧ Mbars ≤ 10) (qMbar : RA Mbar (0) 104) (qMfresh : RA Mfresh (0) 104) (qMtape : RA Mtape (0) 255) (qMtaped : 0 ≤ Mtaped ∧ Mtaped ≤ 400) (qMpos : 0 ≤ Mpos ∧ Mpos ≤ 400) (qMtoken : 0 ≤ Mtoken ∧ Mtoken ≤ 15) (qMtokenAt : 0 ≤ MtokenAt ∧ MtokenAt ≤ 400) (qMvalue : 0 ≤ Mvalue ∧ Mvalue ≤ 99) (qMwrong : 0 ≤ Mwrong ∧ Mwrong ≤ 3) (qMwrongAt : 0 ≤ MwrongAt ∧ MwrongAt ≤ 400) (qMfaultKind : 0 ≤ MfaultKind ∧ MfaultKind ≤ 3) (qMfaultPlace : -1 ≤ MfaultPlace ∧ MfaultPlace ≤ 400) (qMthing : 0 ≤ Mthing ∧ Mthing ≤ 104) (qMorder : RA Morder (0) 7) (qMone : 0 ≤ Mone ∧ Mone ≤ 8) (qMtwo : 0 ≤ Mtwo ∧ Mtwo ≤ 8) (qMbest : RA Mbest (0) 7) (qMcells : 1 ≤ Mcells ∧ Mcells ≤ 50) (qMgap : 0 ≤ Mgap ∧ Mgap ≤ 3) (qMwire : RA Mwire (0) 9) (qMstand : RA Mstand (0) 9) (qMruns : 0 ≤ Mruns ∧ Mruns ≤ 1) (qMminute : 0 ≤ Mminute ∧ Mminute ≤ 1000000) (qMhead : RA Mhead (-1) 60) (qMplays : RA Mplays (0) 18) (qMrests : RA Mrests (0) 3) (qMwent : RA Mwent (0) 61) (qMout : RA Mout (0) 1) (qMcame : RA Mcame (-1) 1000000) (qMgone : RA Mgone (-1) 1000000) (qMlastOut : 0 ≤ MlastOut ∧ MlastOut ≤ 1000000) (qg : -2147483648 ≤ g ∧ g ≤ 2147483647) : Met l yX8_ill wsX8_ill ({ frames := 2, cells := 0, slots := 0, locals := 43 }) (va_Pc [.ref (oM 0), .int (zI g)] (zPre D cI cB cZ sz (kM cI cB cZ oM Mthrown Mmany Mguest Mrow Mbars Mbar Mfresh Mtape Mtaped Mpos Mtoken MtokenAt Mvalue Mwrong MwrongAt MfaultKind MfaultPlace Mthing Morder Mone Mtwo Mbest Mcells Mgap Mwire Mstand Mruns Mminute Mhead Mplays Mrests Mwent Mout Mcame Mgone MlastOut))) (va_Qi (fun (r9 : Int32) (u9 : Int × Int × (Int → Int) × (Int → Int) × Int) => r9 = zI u9.1 ∧ (((0 : Int) ≤ u9.2.1 ∧ u9.2.1 ≤ 2) ∧ (RA u9.2.2.1 (0) 1) ∧ (RA u9.2.2.2.1 (-1) 1000000) ∧ ((0 : Int) ≤ u9.2.2.2.2 ∧ u9.2.2.2.2 ≤ 1000000) ∧ ((¬ (0 ≤ g ∧ g < Mmany) ∧ u9.2.1 = 1 ∧ u9.2.2.1 = Mout ∧ u9.2.2.2.1 = Mgone ∧ u9.2.2.2.2 = MlastOut) ∨ ((0 ≤ g ∧ g < Mmany) ∧ Mruns = 0 ∧ u9.2.1 = 2 ∧ u9.2.2.1 = Mout ∧ u9.2.2.2.1 = Mgone ∧ u9.2.2.2.2 = MlastOut) ∨ ((0 ≤ g ∧ g < Mmany) ∧ Mruns = 1 ∧ u9.2.1 = 0 ∧ Mout g = 1 ∧ u9.1 = 0 ∧ u9.2.2.1 = Mout ∧ u9.2.2.2.1 = Mgone ∧ u9.2.2.2.2 = MlastOut) ∨ ((0 ≤ g ∧ g < Mmany) ∧ Mruns = 1 ∧ u9.2.1 = 0 ∧ Mout g = 0 ∧ u9.1 = 1 ∧ u9.2.2.1 = uZ Mout g 1 ∧ u9.2.2.2.1 = uZ Mgone g Mminute ∧ u9.2.2.2.2 = Mminute)))) (fun u9 t9 => zAt D cI cB cZ (va_A (kM cI cB cZ oM Mthrown Mmany Mguest Mrow Mbars Mbar Mfresh Mtape Mtaped Mpos Mtoken MtokenAt Mvalue Mwrong MwrongAt MfaultKind MfaultPlace Mthing Morder Mone Mtwo Mbest Mcells Mgap Mwire Mstand Mruns Mminute Mhead Mplays Mrests Mwent Mout Mcame Mgone MlastOut) sz) (kM cI cB cZ oM (u9.2.1) Mmany Mguest Mrow Mbars Mbar Mfresh Mtape Mtaped Mpos Mtoken MtokenAt Mvalue Mwrong MwrongAt MfaultKind MfaultPlace Mthing Morder Mone Mtwo Mbest Mcells Mgap Mwire Mstand Mruns Mminute Mhead Mplays Mrests Mwent (u9.2.2.1) Mcame (u9.2.2.2.1) (u9.2.2.2.2)) t9) (va_A (kM cI cB cZ oM Mthrown Mmany Mguest Mrow Mbars Mbar Mfresh Mtape Mtaped Mpos Mtoken MtokenAt Mvalue Mwrong MwrongAt MfaultKind MfaultPlace Mthing Morder Mone Mtwo Mbest Mcells Mgap Mwire Mstand Mruns Mminute Mhead Mplays Mrests Mwent Mout Mcame Mgone MlastOut) sz)) 0 0 (va_A (kM cI cB cZ oM Mthrown Mmany Mguest Mrow Mbars Mbar Mfresh Mtape Mtaped Mpos Mtoken MtokenAt Mvalue Mwrong MwrongAt MfaultKind MfaultPlace Mthing Morder Mone Mtwo Mbest Mcells Mgap Mwire Mstand Mruns Mminute Mhead Mplays Mrests Mwent Mout Mcame Mgone MlastOut) sz) := by
  refine Met.ofW (cc := cX8_ill) (maxL := 2) (ret := (some .boolean)) (by decide) rfl ?_
  intro pp ee s mm aa bw mt cd s₁ BL hml hv
  obtain ⟨rfl, hsz, hP, hK, hD0⟩ := hv
  have hx := BL.exec
  have hb := BL.bytes
  have hr := BL.returns
  have hts := atoms_spec (ws := wsX8_ill) BL.pre
  have hown : s.vm.findClass RX8 = some mm.cls := findClass_of_methodNamed BL.named
  have hlocks := BL.notSynchronized
  subst hsz
  generalize hAe : va_A (kM cI cB cZ oM Mthrown Mmany Mguest Mrow Mbars Mbar Mfresh Mtape Mtaped Mpos Mtoken MtokenAt Mvalue Mwrong MwrongAt MfaultKind MfaultPlace Mthing Morder Mone Mtwo Mbest Mcells Mgap Mwire Mstand Mruns Mminute Mhead Mplays Mrests Mwent Mout Mcame Mgone MlastOut) s.heap.size = A
  have hA : ∀ q : Nat, s.heap.size ≤ q → A q := fun q h => by rw [← hAe]; exact Or.inr h
  have hw : HW D A s.heap (kM cI cB cZ oM Mthrown Mmany Mguest Mrow Mbars Mbar Mfresh Mtape Mtaped Mpos Mtoken MtokenAt Mvalue Mwrong MwrongAt MfaultKind MfaultPlace Mthing Morder Mone Mtwo Mbest Mcells Mgap Mwire Mstand Mruns Mminute Mhead Mplays Mrests Mwent Mout Mcame Mgone MlastOut) s.heap [] := z_start hAe hP hD0
  clear hP hD0
  have hl := lv_entry ([.ref (oM 0), .int (zI g)]) (n := 2) (Nat.le_of_ble_eq_true rfl)
  rw [lg_entry_eq]
  generalize (lg_sl ([.ref (oM 0), .int (zI g)]) ++ List.replicate (2 - (lg_sl ([.ref (oM 0), .int (zI g)])).length) Slot.unset).toArray = ls at hl ⊢
  have hl : lv_has ls 2 [(0, .ref (oM 0)), (1, .int (zI g))] := hl
  have hinX8 : ∀ w ∈ wsX80, w ∈ wsX8_ill := by decide +kernel
  refine lv_aload_n hx hb dX8_ill_0 rfl (lv_at hl 0 rfl) ?_
  refine lv_aload_n hx hb dX8_ill_1 rfl (lv_at hl 0 rfl) ?_
  refine lv_iload_n hx hb dX8_ill_2 rfl (lv_at hl 1 rfl) ?_
  have hF9 := z_free (wc := kM cI cB cZ oM Mthrown Mmany Mguest Mrow Mbars Mbar Mfresh Mtape Mtaped Mpos Mtoken MtokenAt Mvalue Mwrong MwrongAt MfaultKind MfaultPlace Mthing Morder Mone Mtwo Mbest Mcells Mgap Mwire Mstand Mruns Mminute Mhead Mplays Mrests Mwent Mout Mcame Mgone MlastOut) hw hA [0, 1, 2, 3, 4, 5, 6, 7, 8, 9, 10, 11, 12, 13, 14, 15, 16] rfl
  refine va_calli (va_runV (As := [.int (zI g)]) (rest := [.ref (oM 0)]) ⟨hx, hb, hml, hown, hts⟩ (c_X8_isNo l D cI cB cZ oM s.heap.size Mthrown Mmany Mguest Mrow Mbars Mbar Mfresh Mtape Mtaped Mpos Mtoken MtokenAt Mvalue Mwrong MwrongAt MfaultKind MfaultPlace Mthing Morder Mone Mtwo Mbest Mcells Mgap Mwire Mstand Mruns Mminute Mhead Mplays Mrests Mwent Mout Mcame Mgone MlastOut g (by omega) (by omega) qMguest qMrow (by omega) qMbar qMfresh qMtape (by omega) (by omega) (by omega) (by omega) (by omega) (by omega) (by omega) (by omega) (by omega) (by omega) qMorder (by omega) (by omega) qMbest (by omega) (by omega) qMwire qMstand (by omega) (by omega) qMhead qMplays qMrests qMwent qMout qMcame qMgone (by omega) (by omega)) (cwV 1 hts gX8_ill_X8_isNo rfl rfl rfl (by decide +kernel) ⟨Nat.le_of_ble_eq_true rfl, Nat.le_of_ble_eq_true rfl⟩) ⟨zPre_blind, va_recv hK hw.1 (ci := 8) (q0 := 0) rfl rfl, z_pre hK hw [0, 1, 2, 3, 4, 5, 6, 7, 8, 9, 10, 11, 12, 13, 14, 15, 16] (by decide) rfl⟩ rfl rfl hl.1 rfl (lv_room (Nat.le_of_ble_eq_true rfl)) dX8_ill_3 ⟨Nat.zero_le _, Nat.zero_le _⟩) hw.2.2 (fun q _ h => hF9 q h) hF9 (fun r9 u9 t9 H_1 locs9 ht9 hvm9 hq9 hB9 hz9 hk9 hS9 => ?_)
  obtain ⟨r_2, rfl⟩ : ∃ z, z = u9 := ⟨_, rfl⟩
  try dsimp only at hq9 hB9
  obtain ⟨rfl, hq9⟩ := hq9
  have hq_3 := hq9
  have hw : HW D A s.heap (kM cI cB cZ oM Mthrown Mmany Mguest Mrow Mbars Mbar Mfresh Mtape Mtaped Mpos Mtoken MtokenAt Mvalue Mwrong MwrongAt MfaultKind MfaultPlace Mthing Morder Mone Mtwo Mbest Mcells Mgap Mwire Mstand Mruns Mminute Mhead Mplays Mrests Mwent Mout Mcame Mgone MlastOut) H_1 locs9 := z_after (wc := kM cI cB cZ oM Mthrown Mmany Mguest Mrow Mbars Mbar Mfresh Mtape Mtaped Mpos Mtoken MtokenAt Mvalue Mwrong MwrongAt MfaultKind MfaultPlace Mthing Morder Mone Mtwo Mbest Mcells Mgap Mwire Mstand Mruns Mminute Mhead Mplays Mrests Mwent Mout Mcame Mgone MlastOut) hw [0, 1, 2, 3, 4, 5, 6, 7, 8, 9, 10, 11, 12, 13, 14, 15, 16] [] rfl rfl (by decide) (by decide) hF9 hk9 ht9 hB9 hS9 [0, 1, 2, 3, 4, 5, 6, 7, 8, 9, 10, 11, 12, 13, 14, 15, 16] (by decide) rfl
  clear hF9 ht9 hvm9 hB9 hz9 hk9 hS9 hq9
  rcases hq_3 with ⟨hc_4, rfl⟩ | ⟨hc_4, rfl⟩
  · skip
    refine lv_aload_n hx hb dX8_ill_6 rfl (lv_at hl 0 rfl) ?_
    refine va_get (D := D) (ci := 8) (v := .int (zI Mruns)) (C := RX8) (T := TX8) (N := 36) hx hb hts hinX8 hown hK hw.1 0 rfl rfl 26 (by decide) (hts (.fieldLink RX8 79 "CarnivalRoadModel" "runs" "Z") (by decide +kernel)) (fun _ h9 => h9) rfl dX8_ill_7 ?_
    refine z_if_ne (tgt := 17) hx hb dX8_ill_10 (by decide) (by omega) (fun hc_5 => ?_) (fun hc_5 => ?_)
    · skip
      refine z_iconst hx hb dX8_ill_17 ?_
      have hF9 := z_free (wc := kM cI cB cZ oM Mthrown Mmany Mguest Mrow Mbars Mbar Mfresh Mtape Mtaped Mpos Mtoken MtokenAt Mvalue Mwrong MwrongAt MfaultKind MfaultPlace Mthing Morder Mone Mtwo Mbest Mcells Mgap Mwire Mstand Mruns Mminute Mhead Mplays Mrests Mwent Mout Mcame Mgone MlastOut) hw hA [0, 1, 2, 3, 4, 5, 6, 7, 8, 9, 10, 11, 12, 13, 14, 15, 16] rfl
      refine va_calli (va_runV (As := [.int (zI 1), .int (zI 0)]) (rest := []) ⟨hx, hb, hml, hown, hts⟩ (c_X8_fails l D cI cB cZ oM H_1.size Mthrown Mmany Mguest Mrow Mbars Mbar Mfresh Mtape Mtaped Mpos Mtoken MtokenAt Mvalue Mwrong MwrongAt MfaultKind MfaultPlace Mthing Morder Mone Mtwo Mbest Mcells Mgap Mwire Mstand Mruns Mminute Mhead Mplays Mrests Mwent Mout Mcame Mgone MlastOut 1 0 (by omega) (by omega) qMguest qMrow (by omega) qMbar qMfresh qMtape (by omega) (by omega) (by omega) (by omega) (by omega) (by omega) (by omega) (by omega) (by omega) (by omega) qMorder (by omega) (by omega) qMbest (by omega) (by omega) qMwire qMstand (by omega) (by omega) qMhead qMplays qMrests qMwent qMout qMcame qMgone (by omega) (by omega) (by omega)) (cwV 2 hts gX8_ill_X8_fails rfl rfl rfl (by decide +kernel) ⟨Nat.le_of_ble_eq_true rfl, Nat.le_of_ble_eq_true rfl⟩) ⟨zPre_blind, va_recv hK hw.1 (ci := 8) (q0 := 0) rfl rfl, z_pre hK hw [0, 1, 2, 3, 4, 5, 6, 7, 8, 9, 10, 11, 12, 13, 14, 15, 16] (by decide) rfl⟩ rfl rfl hl.1 rfl (lv_room (Nat.le_of_ble_eq_true rfl)) dX8_ill_18 ⟨Nat.zero_le _, Nat.zero_le _⟩) hw.2.2 (fun q _ h => hF9 q h) hF9 (fun r9 u9 t9 H_6 locs9 ht9 hvm9 hq9 hB9 hz9 hk9 hS9 => ?_)
      obtain ⟨r_7, Mthrown_8⟩ := u9
      try dsimp only at hq9 hB9
      obtain ⟨rfl, hq9⟩ := hq9
      obtain ⟨hq_9, hq_10, hq_11⟩ := hq9
      have hw : HW D A s.heap (kM cI cB cZ oM Mthrown_8 Mmany Mguest Mrow Mbars Mbar Mfresh Mtape Mtaped Mpos Mtoken MtokenAt Mvalue Mwrong MwrongAt MfaultKind MfaultPlace Mthing Morder Mone Mtwo Mbest Mcells Mgap Mwire Mstand Mruns Mminute Mhead Mplays Mrests Mwent Mout Mcame Mgone MlastOut) H_6 locs9 := z_after (wc := kM cI cB cZ oM Mthrown Mmany Mguest Mrow Mbars Mbar Mfresh Mtape Mtaped Mpos Mtoken MtokenAt Mvalue Mwrong MwrongAt MfaultKind MfaultPlace Mthing Morder Mone Mtwo Mbest Mcells Mgap Mwire Mstand Mruns Mminute Mhead Mplays Mrests Mwent Mout Mcame Mgone MlastOut) hw [0, 1, 2, 3, 4, 5, 6, 7, 8, 9, 10, 11, 12, 13, 14, 15, 16] [] rfl rfl (by decide) (by decide) hF9 hk9 ht9 hB9 hS9 [0, 1, 2, 3, 4, 5, 6, 7, 8, 9, 10, 11, 12, 13, 14, 15, 16] (by decide) rfl
      clear hF9 ht9 hvm9 hB9 hz9 hk9 hS9
      rcases hq_10 with ⟨hc_12, rfl⟩ | ⟨hc_12, rfl⟩
      · skip
        refine z_if_ne (tgt := 33) hx hb dX8_ill_21 (by decide) (by omega) (fun hc_13 => ?_) (fun hc_13 => absurd hc_13 (by omega))
        refine z_iconst hx hb dX8_ill_33 ?_
        have hv_14 : (0 : Int) ≤ Mthrown_8 ∧ Mthrown_8 ≤ 2 := by
          first | assumption | omega | grind
        have hv_15 : (0 : Int) ≤ MlastOut ∧ MlastOut ≤ 1000000 := by
          first | assumption | omega | grind
        have hv_16 : (¬ (0 ≤ g ∧ g < Mmany) ∧ Mthrown_8 = 1 ∧ Mout = Mout ∧ Mgone = Mgone ∧ MlastOut = MlastOut) ∨ ((0 ≤ g ∧ g < Mmany) ∧ Mruns = 0 ∧ Mthrown_8 = 2 ∧ Mout = Mout ∧ Mgone = Mgone ∧ MlastOut = MlastOut) ∨ ((0 ≤ g ∧ g < Mmany) ∧ Mruns = 1 ∧ Mthrown_8 = 0 ∧ Mout g = 1 ∧ (0 : Int) = 0 ∧ Mout = Mout ∧ Mgone = Mgone ∧ MlastOut = MlastOut) ∨ ((0 ≤ g ∧ g < Mmany) ∧ Mruns = 1 ∧ Mthrown_8 = 0 ∧ Mout g = 0 ∧ (0 : Int) = 1 ∧ Mout = uZ Mout g 1 ∧ Mgone = uZ Mgone g Mminute ∧ MlastOut = Mminute) := by
          first | exact Or.inl ⟨by omega, by omega, rfl, rfl, rfl⟩ | exact Or.inr (Or.inl ⟨by omega, by omega, by omega, rfl, rfl, rfl⟩) | exact Or.inr (Or.inr (Or.inl ⟨by omega, by omega, by omega, by omega, rfl, rfl, rfl, rfl⟩)) | exact Or.inr (Or.inr (Or.inr ⟨by omega, by omega, by omega, by omega, rfl, rfl, rfl, rfl⟩))
        exact W.zret (v := zI 0) hx hb hr rfl (fun t9 ht hW => ⟨⟨zI 0, (0, Mthrown_8, Mout, Mgone, MlastOut), rfl, ⟨rfl, ⟨hv_14, qMout, qMgone, hv_15, hv_16⟩⟩, by subst hAe; exact z_end hK hw ht hW⟩, by subst hAe; exact hw.2.2.F ht⟩) (by subst hAe; exact hw.2.2.2.2) dX8_ill_34
      · skip
        refine z_if_ne (tgt := 33) hx hb dX8_ill_21 (by decide) (by omega) (fun hc_17 => absurd hc_17 (by omega)) (fun hc_17 => ?_)
        refine lv_aload_n hx hb dX8_ill_24 rfl (lv_at hl 0 rfl) ?_
        refine va_get (D := D) (ci := 8) (v := .ref (oM 14)) (C := RX8) (T := TX8) (N := 36) hx hb hts hinX8 hown hK hw.1 0 rfl rfl 32 (by decide) (hts (.fieldLink RX8 59 "CarnivalRoadModel" "out" "[Z") (by decide +kernel)) (fun _ h9 => h9) rfl dX8_ill_25 ?_
        refine lv_iload_n hx hb dX8_ill_28 rfl (lv_at hl 1 rfl) ?_
        have hi_18 : (0 : Int) ≤ g ∧ g < ((16 : Nat) : Int) := by
          first | assumption | omega | grind
        refine z_zald (n := 16) (f := Mout) hx hb hK hw 14 rfl (by decide) hi_18 dX8_ill_29 ?_
        have hq_19 : 0 ≤ Mout g ∧ Mout g ≤ 1 := qMout g
        refine z_if_eq (tgt := 35) hx hb dX8_ill_30 (by decide) (by omega) (fun hc_20 => ?_) (fun hc_20 => ?_)
        · skip
          refine lv_aload_n hx hb dX8_ill_35 rfl (lv_at hl 0 rfl) ?_
          refine va_get (D := D) (ci := 8) (v := .ref (oM 14)) (C := RX8) (T := TX8) (N := 36) hx hb hts hinX8 hown hK hw.1 0 rfl rfl 32 (by decide) (hts (.fieldLink RX8 59 "CarnivalRoadModel" "out" "[Z") (by decide +kernel)) (fun _ h9 => h9) rfl dX8_ill_36 ?_
          refine lv_iload_n hx hb dX8_ill_39 rfl (lv_at hl 1 rfl) ?_
          refine z_iconst hx hb dX8_ill_40 ?_
          have hi_21 : (0 : Int) ≤ g ∧ g < ((16 : Nat) : Int) := by
            first | assumption | omega | grind
          have hv_22 : (0 : Int) ≤ (1 : Int) ∧ (1 : Int) ≤ 1 := by
            first | assumption | omega | grind
          have hR_23 : RA (uZ Mout g 1) (0) 1 := RA_up qMout hv_22
          refine z_zast (n := 16) (f := Mout) (ws2 := kM cI cB cZ oM Mthrown_8 Mmany Mguest Mrow Mbars Mbar Mfresh Mtape Mtaped Mpos Mtoken MtokenAt Mvalue Mwrong MwrongAt MfaultKind MfaultPlace Mthing Morder Mone Mtwo Mbest Mcells Mgap Mwire Mstand Mruns Mminute Mhead Mplays Mrests Mwent (uZ Mout g 1) Mcame Mgone MlastOut) hx hb hK hw 14 rfl rfl (by decide) hi_21 dX8_ill_41 rfl (fun H locs hw => ?_)
          refine lv_aload_n hx hb dX8_ill_42 rfl (lv_at hl 0 rfl) ?_
          refine va_get (D := D) (ci := 8) (v := .ref (oM 16)) (C := RX8) (T := TX8) (N := 36) hx hb hts hinX8 hown hK hw.1 0 rfl rfl 34 (by decide) (hts (.fieldLink RX8 66 "CarnivalRoadModel" "gone" "[I") (by decide +kernel)) (fun _ h9 => h9) rfl dX8_ill_43 ?_
          refine lv_iload_n hx hb dX8_ill_46 rfl (lv_at hl 1 rfl) ?_
          refine lv_aload_n hx hb dX8_ill_47 rfl (lv_at hl 0 rfl) ?_
          refine va_get (D := D) (ci := 8) (v := .int (zI Mminute)) (C := RX8) (T := TX8) (N := 36) hx hb hts hinX8 hown hK hw.1 0 rfl rfl 27 (by decide) (hts (.fieldLink RX8 208 "CarnivalRoadModel" "minute" "I") (by decide +kernel)) (fun _ h9 => h9) rfl dX8_ill_48 ?_
          have hi_24 : (0 : Int) ≤ g ∧ g < ((8 : Nat) : Int) := by
            first | assumption | omega | grind
          have hv_25 : (-1 : Int) ≤ Mminute ∧ Mminute ≤ 1000000 := by
            first | assumption | omega | grind
          have hR_26 : RA (uZ Mgone g Mminute) (-1) 1000000 := RA_up qMgone hv_25
          refine z_iast (n := 8) (f := Mgone) (ws2 := kM cI cB cZ oM Mthrown_8 Mmany Mguest Mrow Mbars Mbar Mfresh Mtape Mtaped Mpos Mtoken MtokenAt Mvalue Mwrong MwrongAt MfaultKind MfaultPlace Mthing Morder Mone Mtwo Mbest Mcells Mgap Mwire Mstand Mruns Mminute Mhead Mplays Mrests Mwent (uZ Mout g 1) Mcame (uZ Mgone g Mminute) MlastOut) hx hb hK hw 16 rfl (by decide) hi_24 dX8_ill_51 rfl (fun H locs hw => ?_)
          refine lv_aload_n hx hb dX8_ill_52 rfl (lv_at hl 0 rfl) ?_
          refine lv_aload_n hx hb dX8_ill_53 rfl (lv_at hl 0 rfl) ?_
          refine va_get (D := D) (ci := 8) (v := .int (zI Mminute)) (C := RX8) (T := TX8) (N := 36) hx hb hts hinX8 hown hK hw.1 0 rfl rfl 27 (by decide) (hts (.fieldLink RX8 208 "CarnivalRoadModel" "minute" "I") (by decide +kernel)) (fun _ h9 => h9) rfl dX8_ill_54 ?_
          refine z_put (D := D) (ci := 8) (v := .int (zI Mminute)) (ty := .int) (C := RX8) (T := TX8) (N := 36) (ws2 := kM cI cB cZ oM Mthrown_8 Mmany Mguest Mrow Mbars Mbar Mfresh Mtape Mtaped Mpos Mtoken MtokenAt Mvalue Mwrong MwrongAt MfaultKind MfaultPlace Mthing Morder Mone Mtwo Mbest Mcells Mgap Mwire Mstand Mruns Mminute Mhead Mplays Mrests Mwent (uZ Mout g 1) Mcame (uZ Mgone g Mminute) Mminute) hx hb hts hinX8 tyX8 tyX8_ok nmX8 hown hK hw 0 rfl rfl 35 (by decide) (hts (.fieldLink RX8 211 "CarnivalRoadModel" "lastOut" "I") (by decide +kernel)) (fun _ h9 => h9) rfl (by decide +kernel) rfl rfl (Nat.le_of_ble_eq_true rfl) dX8_ill_57 rfl (fun H locs hw => ?_)
          refine z_iconst hx hb dX8_ill_60 ?_
          have hv_27 : (0 : Int) ≤ Mthrown_8 ∧ Mthrown_8 ≤ 2 := by
            first | assumption | omega | grind
          have hv_28 : (0 : Int) ≤ Mminute ∧ Mminute ≤ 1000000 := by
            first | assumption | omega | grind
          have hv_29 : (¬ (0 ≤ g ∧ g < Mmany) ∧ Mthrown_8 = 1 ∧ (uZ Mout g 1) = Mout ∧ (uZ Mgone g Mminute) = Mgone ∧ Mminute = MlastOut) ∨ ((0 ≤ g ∧ g < Mmany) ∧ Mruns = 0 ∧ Mthrown_8 = 2 ∧ (uZ Mout g 1) = Mout ∧ (uZ Mgone g Mminute) = Mgone ∧ Mminute = MlastOut) ∨ ((0 ≤ g ∧ g < Mmany) ∧ Mruns = 1 ∧ Mthrown_8 = 0 ∧ Mout g = 1 ∧ (1 : Int) = 0 ∧ (uZ Mout g 1) = Mout ∧ (uZ Mgone g Mminute) = Mgone ∧ Mminute = MlastOut) ∨ ((0 ≤ g ∧ g < Mmany) ∧ Mruns = 1 ∧ Mthrown_8 = 0 ∧ Mout g = 0 ∧ (1 : Int) = 1 ∧ (uZ Mout g 1) = uZ Mout g 1 ∧ (uZ Mgone g Mminute) = uZ Mgone g Mminute ∧ Mminute = Mminute) := by
            first | exact Or.inl ⟨by omega, by omega, rfl, rfl, rfl⟩ | exact Or.inr (Or.inl ⟨by omega, by omega, by omega, rfl, rfl, rfl⟩) | exact Or.inr (Or.inr (Or.inl ⟨by omega, by omega, by omega, by omega, rfl, rfl, rfl, rfl⟩)) | exact Or.inr (Or.inr (Or.inr ⟨by omega, by omega, by omega, by omega, rfl, rfl, rfl, rfl⟩))
          exact W.zret (v := zI 1) hx hb hr rfl (fun t9 ht hW => ⟨⟨zI 1, (1, Mthrown_8, (uZ Mout g 1), (uZ Mgone g Mminute), Mminute), rfl, ⟨rfl, ⟨hv_27, hR_23, hR_26, hv_28, hv_29⟩⟩, by subst hAe; exact z_end hK hw ht hW⟩, by subst hAe; exact hw.2.2.F ht⟩) (by subst hAe; exact hw.2.2.2.2) dX8_ill_61
        · skip
          refine z_iconst hx hb dX8_ill_33 ?_
          have hv_30 : (0 : Int) ≤ Mthrown_8 ∧ Mthrown_8 ≤ 2 := by
            first | assumption | omega | grind
          have hv_31 : (0 : Int) ≤ MlastOut ∧ MlastOut ≤ 1000000 := by
            first | assumption | omega | grind
          have hv_32 : (¬ (0 ≤ g ∧ g < Mmany) ∧ Mthrown_8 = 1 ∧ Mout = Mout ∧ Mgone = Mgone ∧ MlastOut = MlastOut) ∨ ((0 ≤ g ∧ g < Mmany) ∧ Mruns = 0 ∧ Mthrown_8 = 2 ∧ Mout = Mout ∧ Mgone = Mgone ∧ MlastOut = MlastOut) ∨ ((0 ≤ g ∧ g < Mmany) ∧ Mruns = 1 ∧ Mthrown_8 = 0 ∧ Mout g = 1 ∧ (0 : Int) = 0 ∧ Mout = Mout ∧ Mgone = Mgone ∧ MlastOut = MlastOut) ∨ ((0 ≤ g ∧ g < Mmany) ∧ Mruns = 1 ∧ Mthrown_8 = 0 ∧ Mout g = 0 ∧ (0 : Int) = 1 ∧ Mout = uZ Mout g 1 ∧ Mgone = uZ Mgone g Mminute ∧ MlastOut = Mminute) := by
            first | exact Or.inl ⟨by omega, by omega, rfl, rfl, rfl⟩ | exact Or.inr (Or.inl ⟨by omega, by omega, by omega, rfl, rfl, rfl⟩) | exact Or.inr (Or.inr (Or.inl ⟨by omega, by omega, by omega, by omega, rfl, rfl, rfl, rfl⟩)) | exact Or.inr (Or.inr (Or.inr ⟨by omega, by omega, by omega, by omega, rfl, rfl, rfl, rfl⟩))
          exact W.zret (v := zI 0) hx hb hr rfl (fun t9 ht hW => ⟨⟨zI 0, (0, Mthrown_8, Mout, Mgone, MlastOut), rfl, ⟨rfl, ⟨hv_30, qMout, qMgone, hv_31, hv_32⟩⟩, by subst hAe; exact z_end hK hw ht hW⟩, by subst hAe; exact hw.2.2.F ht⟩) (by subst hAe; exact hw.2.2.2.2) dX8_ill_34
    · skip
      refine z_iconst hx hb dX8_ill_13 ?_
      refine lv_goto (tgt := 18) hx hb dX8_ill_14 (by decide) ?_
      have hF9 := z_free (wc := kM cI cB cZ oM Mthrown Mmany Mguest Mrow Mbars Mbar Mfresh Mtape Mtaped Mpos Mtoken MtokenAt Mvalue Mwrong MwrongAt MfaultKind MfaultPlace Mthing Morder Mone Mtwo Mbest Mcells Mgap Mwire Mstand Mruns Mminute Mhead Mplays Mrests Mwent Mout Mcame Mgone MlastOut) hw hA [0, 1, 2, 3, 4, 5, 6, 7, 8, 9, 10, 11, 12, 13, 14, 15, 16] rfl
      refine va_calli (va_runV (As := [.int (zI 1), .int (zI 1)]) (rest := []) ⟨hx, hb, hml, hown, hts⟩ (c_X8_fails l D cI cB cZ oM H_1.size Mthrown Mmany Mguest Mrow Mbars Mbar Mfresh Mtape Mtaped Mpos Mtoken MtokenAt Mvalue Mwrong MwrongAt MfaultKind MfaultPlace Mthing Morder Mone Mtwo Mbest Mcells Mgap Mwire Mstand Mruns Mminute Mhead Mplays Mrests Mwent Mout Mcame Mgone MlastOut 1 1 (by omega) (by omega) qMguest qMrow (by omega) qMbar qMfresh qMtape (by omega) (by omega) (by omega) (by omega) (by omega) (by omega) (by omega) (by omega) (by omega) (by omega) qMorder (by omega) (by omega) qMbest (by omega) (by omega) qMwire qMstand (by omega) (by omega) qMhead qMplays qMrests qMwent qMout qMcame qMgone (by omega) (by omega) (by omega)) (cwV 2 hts gX8_ill_X8_fails rfl rfl rfl (by decide +kernel) ⟨Nat.le_of_ble_eq_true rfl, Nat.le_of_ble_eq_true rfl⟩) ⟨zPre_blind, va_recv hK hw.1 (ci := 8) (q0 := 0) rfl rfl, z_pre hK hw [0, 1, 2, 3, 4, 5, 6, 7, 8, 9, 10, 11, 12, 13, 14, 15, 16] (by decide) rfl⟩ rfl rfl hl.1 rfl (lv_room (Nat.le_of_ble_eq_true rfl)) dX8_ill_18 ⟨Nat.zero_le _, Nat.zero_le _⟩) hw.2.2 (fun q _ h => hF9 q h) hF9 (fun r9 u9 t9 H_33 locs9 ht9 hvm9 hq9 hB9 hz9 hk9 hS9 => ?_)
      obtain ⟨r_34, Mthrown_35⟩ := u9
      try dsimp only at hq9 hB9
      obtain ⟨rfl, hq9⟩ := hq9
      obtain ⟨hq_36, hq_37, hq_38⟩ := hq9
      have hw : HW D A s.heap (kM cI cB cZ oM Mthrown_35 Mmany Mguest Mrow Mbars Mbar Mfresh Mtape Mtaped Mpos Mtoken MtokenAt Mvalue Mwrong MwrongAt MfaultKind MfaultPlace Mthing Morder Mone Mtwo Mbest Mcells Mgap Mwire Mstand Mruns Mminute Mhead Mplays Mrests Mwent Mout Mcame Mgone MlastOut) H_33 locs9 := z_after (wc := kM cI cB cZ oM Mthrown Mmany Mguest Mrow Mbars Mbar Mfresh Mtape Mtaped Mpos Mtoken MtokenAt Mvalue Mwrong MwrongAt MfaultKind MfaultPlace Mthing Morder Mone Mtwo Mbest Mcells Mgap Mwire Mstand Mruns Mminute Mhead Mplays Mrests Mwent Mout Mcame Mgone MlastOut) hw [0, 1, 2, 3, 4, 5, 6, 7, 8, 9, 10, 11, 12, 13, 14, 15, 16] [] rfl rfl (by decide) (by decide) hF9 hk9 ht9 hB9 hS9 [0, 1, 2, 3, 4, 5, 6, 7, 8, 9, 10, 11, 12, 13, 14, 15, 16] (by decide) rfl
      clear hF9 ht9 hvm9 hB9 hz9 hk9 hS9
      rcases hq_37 with ⟨hc_39, rfl⟩ | ⟨hc_39, rfl⟩
      · skip
        refine z_if_ne (tgt := 33) hx hb dX8_ill_21 (by decide) (by omega) (fun hc_40 => ?_) (fun hc_40 => absurd hc_40 (by omega))
        refine z_iconst hx hb dX8_ill_33 ?_
        have hv_41 : (0 : Int) ≤ Mthrown_35 ∧ Mthrown_35 ≤ 2 := by
          first | assumption | omega | grind
        have hv_42 : (0 : Int) ≤ MlastOut ∧ MlastOut ≤ 1000000 := by
          first | assumption | omega | grind
        have hv_43 : (¬ (0 ≤ g ∧ g < Mmany) ∧ Mthrown_35 = 1 ∧ Mout = Mout ∧ Mgone = Mgone ∧ MlastOut = MlastOut) ∨ ((0 ≤ g ∧ g < Mmany) ∧ Mruns = 0 ∧ Mthrown_35 = 2 ∧ Mout = Mout ∧ Mgone = Mgone ∧ MlastOut = MlastOut) ∨ ((0 ≤ g ∧ g < Mmany) ∧ Mruns = 1 ∧ Mthrown_35 = 0 ∧ Mout g = 1 ∧ (0 : Int) = 0 ∧ Mout = Mout ∧ Mgone = Mgone ∧ MlastOut = MlastOut) ∨ ((0 ≤ g ∧ g < Mmany) ∧ Mruns = 1 ∧ Mthrown_35 = 0 ∧ Mout g = 0 ∧ (0 : Int) = 1 ∧ Mout = uZ Mout g 1 ∧ Mgone = uZ Mgone g Mminute ∧ MlastOut = Mminute) := by
          first | exact Or.inl ⟨by omega, by omega, rfl, rfl, rfl⟩ | exact Or.inr (Or.inl ⟨by omega, by omega, by omega, rfl, rfl, rfl⟩) | exact Or.inr (Or.inr (Or.inl ⟨by omega, by omega, by omega, by omega, rfl, rfl, rfl, rfl⟩)) | exact Or.inr (Or.inr (Or.inr ⟨by omega, by omega, by omega, by omega, rfl, rfl, rfl, rfl⟩))
        exact W.zret (v := zI 0) hx hb hr rfl (fun t9 ht hW => ⟨⟨zI 0, (0, Mthrown_35, Mout, Mgone, MlastOut), rfl, ⟨rfl, ⟨hv_41, qMout, qMgone, hv_42, hv_43⟩⟩, by subst hAe; exact z_end hK hw ht hW⟩, by subst hAe; exact hw.2.2.F ht⟩) (by subst hAe; exact hw.2.2.2.2) dX8_ill_34
      · skip
        refine z_if_ne (tgt := 33) hx hb dX8_ill_21 (by decide) (by omega) (fun hc_44 => absurd hc_44 (by omega)) (fun hc_44 => ?_)
        refine lv_aload_n hx hb dX8_ill_24 rfl (lv_at hl 0 rfl) ?_
        refine va_get (D := D) (ci := 8) (v := .ref (oM 14)) (C := RX8) (T := TX8) (N := 36) hx hb hts hinX8 hown hK hw.1 0 rfl rfl 32 (by decide) (hts (.fieldLink RX8 59 "CarnivalRoadModel" "out" "[Z") (by decide +kernel)) (fun _ h9 => h9) rfl dX8_ill_25 ?_
        refine lv_iload_n hx hb dX8_ill_28 rfl (lv_at hl 1 rfl) ?_
        have hi_45 : (0 : Int) ≤ g ∧ g < ((16 : Nat) : Int) := by
          first | assumption | omega | grind
        refine z_zald (n := 16) (f := Mout) hx hb hK hw 14 rfl (by decide) hi_45 dX8_ill_29 ?_
        have hq_46 : 0 ≤ Mout g ∧ Mout g ≤ 1 := qMout g
        refine z_if_eq (tgt := 35) hx hb dX8_ill_30 (by decide) (by omega) (fun hc_47 => ?_) (fun hc_47 => ?_)
        · skip
          refine lv_aload_n hx hb dX8_ill_35 rfl (lv_at hl 0 rfl) ?_
          refine va_get (D := D) (ci := 8) (v := .ref (oM 14)) (C := RX8) (T := TX8) (N := 36) hx hb hts hinX8 hown hK hw.1 0 rfl rfl 32 (by decide) (hts (.fieldLink RX8 59 "CarnivalRoadModel" "out" "[Z") (by decide +kernel)) (fun _ h9 => h9) rfl dX8_ill_36 ?_
          refine lv_iload_n hx hb dX8_ill_39 rfl (lv_at hl 1 rfl) ?_
          refine z_iconst hx hb dX8_ill_40 ?_
          have hi_48 : (0 : Int) ≤ g ∧ g < ((16 : Nat) : Int) := by
            first | assumption | omega | grind
          have hv_49 : (0 : Int) ≤ (1 : Int) ∧ (1 : Int) ≤ 1 := by
            first | assumption | omega | grind
          have hR_50 : RA (uZ Mout g 1) (0) 1 := RA_up qMout hv_49
          refine z_zast (n := 16) (f := Mout) (ws2 := kM cI cB cZ oM Mthrown_35 Mmany Mguest Mrow Mbars Mbar Mfresh Mtape Mtaped Mpos Mtoken MtokenAt Mvalue Mwrong MwrongAt MfaultKind MfaultPlace Mthing Morder Mone Mtwo Mbest Mcells Mgap Mwire Mstand Mruns Mminute Mhead Mplays Mrests Mwent (uZ Mout g 1) Mcame Mgone MlastOut) hx hb hK hw 14 rfl rfl (by decide) hi_48 dX8_ill_41 rfl (fun H locs hw => ?_)
          refine lv_aload_n hx hb dX8_ill_42 rfl (lv_at hl 0 rfl) ?_
          refine va_get (D := D) (ci := 8) (v := .ref (oM 16)) (C := RX8) (T := TX8) (N := 36) hx hb hts hinX8 hown hK hw.1 0 rfl rfl 34 (by decide) (hts (.fieldLink RX8 66 "CarnivalRoadModel" "gone" "[I") (by decide +kernel)) (fun _ h9 => h9) rfl dX8_ill_43 ?_
          refine lv_iload_n hx hb dX8_ill_46 rfl (lv_at hl 1 rfl) ?_
          refine lv_aload_n hx hb dX8_ill_47 rfl (lv_at hl 0 rfl) ?_
          refine va_get (D := D) (ci := 8) (v := .int (zI Mminute)) (C := RX8) (T := TX8) (N := 36) hx hb hts hinX8 hown hK hw.1 0 rfl rfl 27 (by decide) (hts (.fieldLink RX8 208 "CarnivalRoadModel" "minute" "I") (by decide +kernel)) (fun _ h9 => h9) rfl dX8_ill_48 ?_
          have hi_51 : (0 : Int) ≤ g ∧ g < ((8 : Nat) : Int) := by
            first | assumption | omega | grind
          have hv_52 : (-1 : Int) ≤ Mminute ∧ Mminute ≤ 1000000 := by
            first | assumption | omega | grind
          have hR_53 : RA (uZ Mgone g Mminute) (-1) 1000000 := RA_up qMgone hv_52
          refine z_iast (n := 8) (f := Mgone) (ws2 := kM cI cB cZ oM Mthrown_35 Mmany Mguest Mrow Mbars Mbar Mfresh Mtape Mtaped Mpos Mtoken MtokenAt Mvalue Mwrong MwrongAt MfaultKind MfaultPlace Mthing Morder Mone Mtwo Mbest Mcells Mgap Mwire Mstand Mruns Mminute Mhead Mplays Mrests Mwent (uZ Mout g 1) Mcame (uZ Mgone g Mminute) MlastOut) hx hb hK hw 16 rfl (by decide) hi_51 dX8_ill_51 rfl (fun H locs hw => ?_)
          refine lv_aload_n hx hb dX8_ill_52 rfl (lv_at hl 0 rfl) ?_
          refine lv_aload_n hx hb dX8_ill_53 rfl (lv_at hl 0 rfl) ?_
          refine va_get (D := D) (ci := 8) (v := .int (zI Mminute)) (C := RX8) (T := TX8) (N := 36) hx hb hts hinX8 hown hK hw.1 0 rfl rfl 27 (by decide) (hts (.fieldLink RX8 208 "CarnivalRoadModel" "minute" "I") (by decide +kernel)) (fun _ h9 => h9) rfl dX8_ill_54 ?_
          refine z_put (D := D) (ci := 8) (v := .int (zI Mminute)) (ty := .int) (C := RX8) (T := TX8) (N := 36) (ws2 := kM cI cB cZ oM Mthrown_35 Mmany Mguest Mrow Mbars Mbar Mfresh Mtape Mtaped Mpos Mtoken MtokenAt Mvalue Mwrong MwrongAt MfaultKind MfaultPlace Mthing Morder Mone Mtwo Mbest Mcells Mgap Mwire Mstand Mruns Mminute Mhead Mplays Mrests Mwent (uZ Mout g 1) Mcame (uZ Mgone g Mminute) Mminute) hx hb hts hinX8 tyX8 tyX8_ok nmX8 hown hK hw 0 rfl rfl 35 (by decide) (hts (.fieldLink RX8 211 "CarnivalRoadModel" "lastOut" "I") (by decide +kernel)) (fun _ h9 => h9) rfl (by decide +kernel) rfl rfl (Nat.le_of_ble_eq_true rfl) dX8_ill_57 rfl (fun H locs hw => ?_)
          refine z_iconst hx hb dX8_ill_60 ?_
          have hv_54 : (0 : Int) ≤ Mthrown_35 ∧ Mthrown_35 ≤ 2 := by
            first | assumption | omega | grind
          have hv_55 : (0 : Int) ≤ Mminute ∧ Mminute ≤ 1000000 := by
            first | assumption | omega | grind
          have hv_56 : (¬ (0 ≤ g ∧ g < Mmany) ∧ Mthrown_35 = 1 ∧ (uZ Mout g 1) = Mout ∧ (uZ Mgone g Mminute) = Mgone ∧ Mminute = MlastOut) ∨ ((0 ≤ g ∧ g < Mmany) ∧ Mruns = 0 ∧ Mthrown_35 = 2 ∧ (uZ Mout g 1) = Mout ∧ (uZ Mgone g Mminute) = Mgone ∧ Mminute = MlastOut) ∨ ((0 ≤ g ∧ g < Mmany) ∧ Mruns = 1 ∧ Mthrown_35 = 0 ∧ Mout g = 1 ∧ (1 : Int) = 0 ∧ (uZ Mout g 1) = Mout ∧ (uZ Mgone g Mminute) = Mgone ∧ Mminute = MlastOut) ∨ ((0 ≤ g ∧ g < Mmany) ∧ Mruns = 1 ∧ Mthrown_35 = 0 ∧ Mout g = 0 ∧ (1 : Int) = 1 ∧ (uZ Mout g 1) = uZ Mout g 1 ∧ (uZ Mgone g Mminute) = uZ Mgone g Mminute ∧ Mminute = Mminute) := by
            first | exact Or.inl ⟨by omega, by omega, rfl, rfl, rfl⟩ | exact Or.inr (Or.inl ⟨by omega, by omega, by omega, rfl, rfl, rfl⟩) | exact Or.inr (Or.inr (Or.inl ⟨by omega, by omega, by omega, by omega, rfl, rfl, rfl, rfl⟩)) | exact Or.inr (Or.inr (Or.inr ⟨by omega, by omega, by omega, by omega, rfl, rfl, rfl, rfl⟩))
          exact W.zret (v := zI 1) hx hb hr rfl (fun t9 ht hW => ⟨⟨zI 1, (1, Mthrown_35, (uZ Mout g 1), (uZ Mgone g Mminute), Mminute), rfl, ⟨rfl, ⟨hv_54, hR_50, hR_53, hv_55, hv_56⟩⟩, by subst hAe; exact z_end hK hw ht hW⟩, by subst hAe; exact hw.2.2.F ht⟩) (by subst hAe; exact hw.2.2.2.2) dX8_ill_61
        · skip
          refine z_iconst hx hb dX8_ill_33 ?_
          have hv_57 : (0 : Int) ≤ Mthrown_35 ∧ Mthrown_35 ≤ 2 := by
            first | assumption | omega | grind
          have hv_58 : (0 : Int) ≤ MlastOut ∧ MlastOut ≤ 1000000 := by
            first | assumption | omega | grind
          have hv_59 : (¬ (0 ≤ g ∧ g < Mmany) ∧ Mthrown_35 = 1 ∧ Mout = Mout ∧ Mgone = Mgone ∧ MlastOut = MlastOut) ∨ ((0 ≤ g ∧ g < Mmany) ∧ Mruns = 0 ∧ Mthrown_35 = 2 ∧ Mout = Mout ∧ Mgone = Mgone ∧ MlastOut = MlastOut) ∨ ((0 ≤ g ∧ g < Mmany) ∧ Mruns = 1 ∧ Mthrown_35 = 0 ∧ Mout g = 1 ∧ (0 : Int) = 0 ∧ Mout = Mout ∧ Mgone = Mgone ∧ MlastOut = MlastOut) ∨ ((0 ≤ g ∧ g < Mmany) ∧ Mruns = 1 ∧ Mthrown_35 = 0 ∧ Mout g = 0 ∧ (0 : Int) = 1 ∧ Mout = uZ Mout g 1 ∧ Mgone = uZ Mgone g Mminute ∧ MlastOut = Mminute) := by
            first | exact Or.inl ⟨by omega, by omega, rfl, rfl, rfl⟩ | exact Or.inr (Or.inl ⟨by omega, by omega, by omega, rfl, rfl, rfl⟩) | exact Or.inr (Or.inr (Or.inl ⟨by omega, by omega, by omega, by omega, rfl, rfl, rfl, rfl⟩)) | exact Or.inr (Or.inr (Or.inr ⟨by omega, by omega, by omega, by omega, rfl, rfl, rfl, rfl⟩))
          exact W.zret (v := zI 0) hx hb hr rfl (fun t9 ht hW => ⟨⟨zI 0, (0, Mthrown_35, Mout, Mgone, MlastOut), rfl, ⟨rfl, ⟨hv_57, qMout, qMgone, hv_58, hv_59⟩⟩, by subst hAe; exact z_end hK hw ht hW⟩, by subst hAe; exact hw.2.2.F ht⟩) (by subst hAe; exact hw.2.2.2.2) dX8_ill_34
  · skip
    refine lv_aload_n hx hb dX8_ill_6 rfl (lv_at hl 0 rfl) ?_
    refine va_get (D := D) (ci := 8) (v := .int (zI Mruns)) (C := RX8) (T := TX8) (N := 36) hx hb hts hinX8 hown hK hw.1 0 rfl rfl 26 (by decide) (hts (.fieldLink RX8 79 "CarnivalRoadModel" "runs" "Z") (by decide +kernel)) (fun _ h9 => h9) rfl dX8_ill_7 ?_
    refine z_if_ne (tgt := 17) hx hb dX8_ill_10 (by decide) (by omega) (fun hc_60 => ?_) (fun hc_60 => ?_)
    · skip
      refine z_iconst hx hb dX8_ill_17 ?_
      have hF9 := z_free (wc := kM cI cB cZ oM Mthrown Mmany Mguest Mrow Mbars Mbar Mfresh Mtape Mtaped Mpos Mtoken MtokenAt Mvalue Mwrong MwrongAt MfaultKind MfaultPlace Mthing Morder Mone Mtwo Mbest Mcells Mgap Mwire Mstand Mruns Mminute Mhead Mplays Mrests Mwent Mout Mcame Mgone MlastOut) hw hA [0, 1, 2, 3, 4, 5, 6, 7, 8, 9, 10, 11, 12, 13, 14, 15, 16] rfl
      refine va_calli (va_runV (As := [.int (zI 0), .int (zI 0)]) (rest := []) ⟨hx, hb, hml, hown, hts⟩ (c_X8_fails l D cI cB cZ oM H_1.size Mthrown Mmany Mguest Mrow Mbars Mbar Mfresh Mtape Mtaped Mpos Mtoken MtokenAt Mvalue Mwrong MwrongAt MfaultKind MfaultPlace Mthing Morder Mone Mtwo Mbest Mcells Mgap Mwire Mstand Mruns Mminute Mhead Mplays Mrests Mwent Mout Mcame Mgone MlastOut 0 0 (by omega) (by omega) qMguest qMrow (by omega) qMbar qMfresh qMtape (by omega) (by omega) (by omega) (by omega) (by omega) (by omega) (by omega) (by omega) (by omega) (by omega) qMorder (by omega) (by omega) qMbest (by omega) (by omega) qMwire qMstand (by omega) (by omega) qMhead qMplays qMrests qMwent qMout qMcame qMgone (by omega) (by omega) (by omega)) (cwV 2 hts gX8_ill_X8_fails rfl rfl rfl (by decide +kernel) ⟨Nat.le_of_ble_eq_true rfl, Nat.le_of_ble_eq_true rfl⟩) ⟨zPre_blind, va_recv hK hw.1 (ci := 8) (q0 := 0) rfl rfl, z_pre hK hw [0, 1, 2, 3, 4, 5, 6, 7, 8, 9, 10, 11, 12, 13, 14, 15, 16] (by decide) rfl⟩ rfl rfl hl.1 rfl (lv_room (Nat.le_of_ble_eq_true rfl)) dX8_ill_18 ⟨Nat.zero_le _, Nat.zero_le _⟩) hw.2.2 (fun q _ h => hF9 q h) hF9 (fun r9 u9 t9 H_61 locs9 ht9 hvm9 hq9 hB9 hz9 hk9 hS9 => ?_)
      obtain ⟨r_62, Mthrown_63⟩ := u9
      try dsimp only at hq9 hB9
      obtain ⟨rfl, hq9⟩ := hq9
      obtain ⟨hq_64, hq_65, hq_66⟩ := hq9
      have hw : HW D A s.heap (kM cI cB cZ oM Mthrown_63 Mmany Mguest Mrow Mbars Mbar Mfresh Mtape Mtaped Mpos Mtoken MtokenAt Mvalue Mwrong MwrongAt MfaultKind MfaultPlace Mthing Morder Mone Mtwo Mbest Mcells Mgap Mwire Mstand Mruns Mminute Mhead Mplays Mrests Mwent Mout Mcame Mgone MlastOut) H_61 locs9 := z_after (wc := kM cI cB cZ oM Mthrown Mmany Mguest Mrow Mbars Mbar Mfresh Mtape Mtaped Mpos Mtoken MtokenAt Mvalue Mwrong MwrongAt MfaultKind MfaultPlace Mthing Morder Mone Mtwo Mbest Mcells Mgap Mwire Mstand Mruns Mminute Mhead Mplays Mrests Mwent Mout Mcame Mgone MlastOut) hw [0, 1, 2, 3, 4, 5, 6, 7, 8, 9, 10, 11, 12, 13, 14, 15, 16] [] rfl rfl (by decide) (by decide) hF9 hk9 ht9 hB9 hS9 [0, 1, 2, 3, 4, 5, 6, 7, 8, 9, 10, 11, 12, 13, 14, 15, 16] (by decide) rfl
      clear hF9 ht9 hvm9 hB9 hz9 hk9 hS9
      rcases hq_65 with ⟨hc_67, rfl⟩ | ⟨hc_67, rfl⟩
      · skip
        refine z_if_ne (tgt := 33) hx hb dX8_ill_21 (by decide) (by omega) (fun hc_68 => ?_) (fun hc_68 => absurd hc_68 (by omega))
        refine z_iconst hx hb dX8_ill_33 ?_
        have hv_69 : (0 : Int) ≤ Mthrown_63 ∧ Mthrown_63 ≤ 2 := by
          first | assumption | omega | grind
        have hv_70 : (0 : Int) ≤ MlastOut ∧ MlastOut ≤ 1000000 := by
          first | assumption | omega | grind
        have hv_71 : (¬ (0 ≤ g ∧ g < Mmany) ∧ Mthrown_63 = 1 ∧ Mout = Mout ∧ Mgone = Mgone ∧ MlastOut = MlastOut) ∨ ((0 ≤ g ∧ g < Mmany) ∧ Mruns = 0 ∧ Mthrown_63 = 2 ∧ Mout = Mout ∧ Mgone = Mgone ∧ MlastOut = MlastOut) ∨ ((0 ≤ g ∧ g < Mmany) ∧ Mruns = 1 ∧ Mthrown_63 = 0 ∧ Mout g = 1 ∧ (0 : Int) = 0 ∧ Mout = Mout ∧ Mgone = Mgone ∧ MlastOut = MlastOut) ∨ ((0 ≤ g ∧ g < Mmany) ∧ Mruns = 1 ∧ Mthrown_63 = 0 ∧ Mout g = 0 ∧ (0 : Int) = 1 ∧ Mout = uZ Mout g 1 ∧ Mgone = uZ Mgone g Mminute ∧ MlastOut = Mminute) := by
          first | exact Or.inl ⟨by omega, by omega, rfl, rfl, rfl⟩ | exact Or.inr (Or.inl ⟨by omega, by omega, by omega, rfl, rfl, rfl⟩) | exact Or.inr (Or.inr (Or.inl ⟨by omega, by omega, by omega, by omega, rfl, rfl, rfl, rfl⟩)) | exact Or.inr (Or.inr (Or.inr ⟨by omega, by omega, by omega, by omega, rfl, rfl, rfl, rfl⟩))
        exact W.zret (v := zI 0) hx hb hr rfl (fun t9 ht hW => ⟨⟨zI 0, (0, Mthrown_63, Mout, Mgone, MlastOut), rfl, ⟨rfl, ⟨hv_69, qMout, qMgone, hv_70, hv_71⟩⟩, by subst hAe; exact z_end hK hw ht hW⟩, by subst hAe; exact hw.2.2.F ht⟩) (by subst hAe; exact hw.2.2.2.2) dX8_ill_34
      · skip
        refine z_if_ne (tgt := 33) hx hb dX8_ill_21 (by decide) (by omega) (fun hc_72 => absurd hc_72 (by omega)) (fun hc_72 => ?_)
        refine lv_aload_n hx hb dX8_ill_24 rfl (lv_at hl 0 rfl) ?_
        refine va_get (D := D) (ci := 8) (v := .ref (oM 14)) (C := RX8) (T := TX8) (N := 36) hx hb hts hinX8 hown hK hw.1 0 rfl rfl 32 (by decide) (hts (.fieldLink RX8 59 "CarnivalRoadModel" "out" "[Z") (by decide +kernel)) (fun _ h9 => h9) rfl dX8_ill_25 ?_
        refine lv_iload_n hx hb dX8_ill_28 rfl (lv_at hl 1 rfl) ?_
        have hi_73 : (0 : Int) ≤ g ∧ g < ((16 : Nat) : Int) := by
          first | assumption | omega | grind
        refine z_zald (n := 16) (f := Mout) hx hb hK hw 14 rfl (by decide) hi_73 dX8_ill_29 ?_
        have hq_74 : 0 ≤ Mout g ∧ Mout g ≤ 1 := qMout g
        refine z_if_eq (tgt := 35) hx hb dX8_ill_30 (by decide) (by omega) (fun hc_75 => ?_) (fun hc_75 => ?_)
        · skip
          refine lv_aload_n hx hb dX8_ill_35 rfl (lv_at hl 0 rfl) ?_
          refine va_get (D := D) (ci := 8) (v := .ref (oM 14)) (C := RX8) (T := TX8) (N := 36) hx hb hts hinX8 hown hK hw.1 0 rfl rfl 32 (by decide) (hts (.fieldLink RX8 59 "CarnivalRoadModel" "out" "[Z") (by decide +kernel)) (fun _ h9 => h9) rfl dX8_ill_36 ?_
          refine lv_iload_n hx hb dX8_ill_39 rfl (lv_at hl 1 rfl) ?_
          refine z_iconst hx hb dX8_ill_40 ?_
          have hi_76 : (0 : Int) ≤ g ∧ g < ((16 : Nat) : Int) := by
            first | assumption | omega | grind
          have hv_77 : (0 : Int) ≤ (1 : Int) ∧ (1 : Int) ≤ 1 := by
            first | assumption | omega | grind
          have hR_78 : RA (uZ Mout g 1) (0) 1 := RA_up qMout hv_77
          refine z_zast (n := 16) (f := Mout) (ws2 := kM cI cB cZ oM Mthrown_63 Mmany Mguest Mrow Mbars Mbar Mfresh Mtape Mtaped Mpos Mtoken MtokenAt Mvalue Mwrong MwrongAt MfaultKind MfaultPlace Mthing Morder Mone Mtwo Mbest Mcells Mgap Mwire Mstand Mruns Mminute Mhead Mplays Mrests Mwent (uZ Mout g 1) Mcame Mgone MlastOut) hx hb hK hw 14 rfl rfl (by decide) hi_76 dX8_ill_41 rfl (fun H locs hw => ?_)
          refine lv_aload_n hx hb dX8_ill_42 rfl (lv_at hl 0 rfl) ?_
          refine va_get (D := D) (ci := 8) (v := .ref (oM 16)) (C := RX8) (T := TX8) (N := 36) hx hb hts hinX8 hown hK hw.1 0 rfl rfl 34 (by decide) (hts (.fieldLink RX8 66 "CarnivalRoadModel" "gone" "[I") (by decide +kernel)) (fun _ h9 => h9) rfl dX8_ill_43 ?_
          refine lv_iload_n hx hb dX8_ill_46 rfl (lv_at hl 1 rfl) ?_
          refine lv_aload_n hx hb dX8_ill_47 rfl (lv_at hl 0 rfl) ?_
          refine va_get (D := D) (ci := 8) (v := .int (zI Mminute)) (C := RX8) (T := TX8) (N := 36) hx hb hts hinX8 hown hK hw.1 0 rfl rfl 27 (by decide) (hts (.fieldLink RX8 208 "CarnivalRoadModel" "minute" "I") (by decide +kernel)) (fun _ h9 => h9) rfl dX8_ill_48 ?_
          have hi_79 : (0 : Int) ≤ g ∧ g < ((8 : Nat) : Int) := by
            first | assumption | omega | grind
          have hv_80 : (-1 : Int) ≤ Mminute ∧ Mminute ≤ 1000000 := by
            first | assumption | omega | grind
          have hR_81 : RA (uZ Mgone g Mminute) (-1) 1000000 := RA_up qMgone hv_80
          refine z_iast (n := 8) (f := Mgone) (ws2 := kM cI cB cZ oM Mthrown_63 Mmany Mguest Mrow Mbars Mbar Mfresh Mtape Mtaped Mpos Mtoken MtokenAt Mvalue Mwrong MwrongAt MfaultKind MfaultPlace Mthing Morder Mone Mtwo Mbest Mcells Mgap Mwire Mstand Mruns Mminute Mhead Mplays Mrests Mwent (uZ Mout g 1) Mcame (uZ Mgone g Mminute) MlastOut) hx hb hK hw 16 rfl (by decide) hi_79 dX8_ill_51 rfl (fun H locs hw => ?_)
          refine lv_aload_n hx hb dX8_ill_52 rfl (lv_at hl 0 rfl) ?_
          refine lv_aload_n hx hb dX8_ill_53 rfl (lv_at hl 0 rfl) ?_
          refine va_get (D := D) (ci := 8) (v := .int (zI Mminute)) (C := RX8) (T := TX8) (N := 36) hx hb hts hinX8 hown hK hw.1 0 rfl rfl 27 (by decide) (hts (.fieldLink RX8 208 "CarnivalRoadModel" "minute" "I") (by decide +kernel)) (fun _ h9 => h9) rfl dX8_ill_54 ?_
          refine z_put (D := D) (ci := 8) (v := .int (zI Mminute)) (ty := .int) (C := RX8) (T := TX8) (N := 36) (ws2 := kM cI cB cZ oM Mthrown_63 Mmany Mguest Mrow Mbars Mbar Mfresh Mtape Mtaped Mpos Mtoken MtokenAt Mvalue Mwrong MwrongAt MfaultKind MfaultPlace Mthing Morder Mone Mtwo Mbest Mcells Mgap Mwire Mstand Mruns Mminute Mhead Mplays Mrests Mwent (uZ Mout g 1) Mcame (uZ Mgone g Mminute) Mminute) hx hb hts hinX8 tyX8 tyX8_ok nmX8 hown hK hw 0 rfl rfl 35 (by decide) (hts (.fieldLink RX8 211 "CarnivalRoadModel" "lastOut" "I") (by decide +kernel)) (fun _ h9 => h9) rfl (by decide +kernel) rfl rfl (Nat.le_of_ble_eq_true rfl) dX8_ill_57 rfl (fun H locs hw => ?_)
          refine z_iconst hx hb dX8_ill_60 ?_
          have hv_82 : (0 : Int) ≤ Mthrown_63 ∧ Mthrown_63 ≤ 2 := by
            first | assumption | omega | grind
          have hv_83 : (0 : Int) ≤ Mminute ∧ Mminute ≤ 1000000 := by
            first | assumption | omega | grind
          have hv_84 : (¬ (0 ≤ g ∧ g < Mmany) ∧ Mthrown_63 = 1 ∧ (uZ Mout g 1) = Mout ∧ (uZ Mgone g Mminute) = Mgone ∧ Mminute = MlastOut) ∨ ((0 ≤ g ∧ g < Mmany) ∧ Mruns = 0 ∧ Mthrown_63 = 2 ∧ (uZ Mout g 1) = Mout ∧ (uZ Mgone g Mminute) = Mgone ∧ Mminute = MlastOut) ∨ ((0 ≤ g ∧ g < Mmany) ∧ Mruns = 1 ∧ Mthrown_63 = 0 ∧ Mout g = 1 ∧ (1 : Int) = 0 ∧ (uZ Mout g 1) = Mout ∧ (uZ Mgone g Mminute) = Mgone ∧ Mminute = MlastOut) ∨ ((0 ≤ g ∧ g < Mmany) ∧ Mruns = 1 ∧ Mthrown_63 = 0 ∧ Mout g = 0 ∧ (1 : Int) = 1 ∧ (uZ Mout g 1) = uZ Mout g 1 ∧ (uZ Mgone g Mminute) = uZ Mgone g Mminute ∧ Mminute = Mminute) := by
            first | exact Or.inl ⟨by omega, by omega, rfl, rfl, rfl⟩ | exact Or.inr (Or.inl ⟨by omega, by omega, by omega, rfl, rfl, rfl⟩) | exact Or.inr (Or.inr (Or.inl ⟨by omega, by omega, by omega, by omega, rfl, rfl, rfl, rfl⟩)) | exact Or.inr (Or.inr (Or.inr ⟨by omega, by omega, by omega, by omega, rfl, rfl, rfl, rfl⟩))
          exact W.zret (v := zI 1) hx hb hr rfl (fun t9 ht hW => ⟨⟨zI 1, (1, Mthrown_63, (uZ Mout g 1), (uZ Mgone g Mminute), Mminute), rfl, ⟨rfl, ⟨hv_82, hR_78, hR_81, hv_83, hv_84⟩⟩, by subst hAe; exact z_end hK hw ht hW⟩, by subst hAe; exact hw.2.2.F ht⟩) (by subst hAe; exact hw.2.2.2.2) dX8_ill_61
        · skip
          refine z_iconst hx hb dX8_ill_33 ?_
          have hv_85 : (0 : Int) ≤ Mthrown_63 ∧ Mthrown_63 ≤ 2 := by
            first | assumption | omega | grind
          have hv_86 : (0 : Int) ≤ MlastOut ∧ MlastOut ≤ 1000000 := by
            first | assumption | omega | grind
          have hv_87 : (¬ (0 ≤ g ∧ g < Mmany) ∧ Mthrown_63 = 1 ∧ Mout = Mout ∧ Mgone = Mgone ∧ MlastOut = MlastOut) ∨ ((0 ≤ g ∧ g < Mmany) ∧ Mruns = 0 ∧ Mthrown_63 = 2 ∧ Mout = Mout ∧ Mgone = Mgone ∧ MlastOut = MlastOut) ∨ ((0 ≤ g ∧ g < Mmany) ∧ Mruns = 1 ∧ Mthrown_63 = 0 ∧ Mout g = 1 ∧ (0 : Int) = 0 ∧ Mout = Mout ∧ Mgone = Mgone ∧ MlastOut = MlastOut) ∨ ((0 ≤ g ∧ g < Mmany) ∧ Mruns = 1 ∧ Mthrown_63 = 0 ∧ Mout g = 0 ∧ (0 : Int) = 1 ∧ Mout = uZ Mout g 1 ∧ Mgone = uZ Mgone g Mminute ∧ MlastOut = Mminute) := by
            first | exact Or.inl ⟨by omega, by omega, rfl, rfl, rfl⟩ | exact Or.inr (Or.inl ⟨by omega, by omega, by omega, rfl, rfl, rfl⟩) | exact Or.inr (Or.inr (Or.inl ⟨by omega, by omega, by omega, by omega, rfl, rfl, rfl, rfl⟩)) | exact Or.inr (Or.inr (Or.inr ⟨by omega, by omega, by omega, by omega, rfl, rfl, rfl, rfl⟩))
          exact W.zret (v := zI 0) hx hb hr rfl (fun t9 ht hW => ⟨⟨zI 0, (0, Mthrown_63, Mout, Mgone, MlastOut), rfl, ⟨rfl, ⟨hv_85, qMout, qMgone, hv_86, hv_87⟩⟩, by subst hAe; exact z_end hK hw ht hW⟩, by subst hAe; exact hw.2.2.F ht⟩) (by subst hAe; exact hw.2.2.2.2) dX8_ill_34
    · skip
      refine z_iconst hx hb dX8_ill_13 ?_
      refine lv_goto (tgt := 18) hx hb dX8_ill_14 (by decide) ?_
      have hF9 := z_free (wc := kM cI cB cZ oM Mthrown Mmany Mguest Mrow Mbars Mbar Mfresh Mtape Mtaped Mpos Mtoken MtokenAt Mvalue Mwrong MwrongAt MfaultKind MfaultPlace Mthing Morder Mone Mtwo Mbest Mcells Mgap Mwire Mstand Mruns Mminute Mhead Mplays Mrests Mwent Mout Mcame Mgone MlastOut) hw hA [0, 1, 2, 3, 4, 5, 6, 7, 8, 9, 10, 11, 12, 13, 14, 15, 16] rfl
      refine va_calli (va_runV (As := [.int (zI 0), .int (zI 1)]) (rest := []) ⟨hx, hb, hml, hown, hts⟩ (c_X8_fails l D cI cB cZ oM H_1.size Mthrown Mmany Mguest Mrow Mbars Mbar Mfresh Mtape Mtaped Mpos Mtoken MtokenAt Mvalue Mwrong MwrongAt MfaultKind MfaultPlace Mthing Morder Mone Mtwo Mbest Mcells Mgap Mwire Mstand Mruns Mminute Mhead Mplays Mrests Mwent Mout Mcame Mgone MlastOut 0 1 (by omega) (by omega) qMguest qMrow (by omega) qMbar qMfresh qMtape (by omega) (by omega) (by omega) (by omega) (by omega) (by omega) (by omega) (by omega) (by omega) (by omega) qMorder (by omega) (by omega) qMbest (by omega) (by omega) qMwire qMstand (by omega) (by omega) qMhead qMplays qMrests qMwent qMout qMcame qMgone (by omega) (by omega) (by omega)) (cwV 2 hts gX8_ill_X8_fails rfl rfl rfl (by decide +kernel) ⟨Nat.le_of_ble_eq_true rfl, Nat.le_of_ble_eq_true rfl⟩) ⟨zPre_blind, va_recv hK hw.1 (ci := 8) (q0 := 0) rfl rfl, z_pre hK hw [0, 1, 2, 3, 4, 5, 6, 7, 8, 9, 10, 11, 12, 13, 14, 15, 16] (by decide) rfl⟩ rfl rfl hl.1 rfl (lv_room (Nat.le_of_ble_eq_true rfl)) dX8_ill_18 ⟨Nat.zero_le _, Nat.zero_le _⟩) hw.2.2 (fun q _ h => hF9 q h) hF9 (fun r9 u9 t9 H_88 locs9 ht9 hvm9 hq9 hB9 hz9 hk9 hS9 => ?_)
      obtain ⟨r_89, Mthrown_90⟩ := u9
      try dsimp only at hq9 hB9
      obtain ⟨rfl, hq9⟩ := hq9
      obtain ⟨hq_91, hq_92, hq_93⟩ := hq9
      have hw : HW D A s.heap (kM cI cB cZ oM Mthrown_90 Mmany Mguest Mrow Mbars Mbar Mfresh Mtape Mtaped Mpos Mtoken MtokenAt Mvalue Mwrong MwrongAt MfaultKind MfaultPlace Mthing Morder Mone Mtwo Mbest Mcells Mgap Mwire Mstand Mruns Mminute Mhead Mplays Mrests Mwent Mout Mcame Mgone MlastOut) H_88 locs9 := z_after (wc := kM cI cB cZ oM Mthrown Mmany Mguest Mrow Mbars Mbar Mfresh Mtape Mtaped Mpos Mtoken MtokenAt Mvalue Mwrong MwrongAt MfaultKind MfaultPlace Mthing Morder Mone Mtwo Mbest Mcells Mgap Mwire Mstand Mruns Mminute Mhead Mplays Mrests Mwent Mout Mcame Mgone MlastOut) hw [0, 1, 2, 3, 4, 5, 6, 7, 8, 9, 10, 11, 12, 13, 14, 15, 16] [] rfl rfl (by decide) (by decide) hF9 hk9 ht9 hB9 hS9 [0, 1, 2, 3, 4, 5, 6, 7, 8, 9, 10, 11, 12, 13, 14, 15, 16] (by decide) rfl
      clear hF9 ht9 hvm9 hB9 hz9 hk9 hS9
      rcases hq_92 with ⟨hc_94, rfl⟩ | ⟨hc_94, rfl⟩
      · skip
        refine z_if_ne (tgt := 33) hx hb dX8_ill_21 (by decide) (by omega) (fun hc_95 => ?_) (fun hc_95 => absurd hc_95 (by omega))
        refine z_iconst hx hb dX8_ill_33 ?_
        have hv_96 : (0 : Int) ≤ Mthrown_90 ∧ Mthrown_90 ≤ 2 := by
          first | assumption | omega | grind
        have hv_97 : (0 : Int) ≤ MlastOut ∧ MlastOut ≤ 1000000 := by
          first | assumption | omega | grind
        have hv_98 : (¬ (0 ≤ g ∧ g < Mmany) ∧ Mthrown_90 = 1 ∧ Mout = Mout ∧ Mgone = Mgone ∧ MlastOut = MlastOut) ∨ ((0 ≤ g ∧ g < Mmany) ∧ Mruns = 0 ∧ Mthrown_90 = 2 ∧ Mout = Mout ∧ Mgone = Mgone ∧ MlastOut = MlastOut) ∨ ((0 ≤ g ∧ g < Mmany) ∧ Mruns = 1 ∧ Mthrown_90 = 0 ∧ Mout g = 1 ∧ (0 : Int) = 0 ∧ Mout = Mout ∧ Mgone = Mgone ∧ MlastOut = MlastOut) ∨ ((0 ≤ g ∧ g < Mmany) ∧ Mruns = 1 ∧ Mthrown_90 = 0 ∧ Mout g = 0 ∧ (0 : Int) = 1 ∧ Mout = uZ Mout g 1 ∧ Mgone = uZ Mgone g Mminute ∧ MlastOut = Mminute) := by
          first | exact Or.inl ⟨by omega, by omega, rfl, rfl, rfl⟩ | exact Or.inr (Or.inl ⟨by omega, by omega, by omega, rfl, rfl, rfl⟩) | exact Or.inr (Or.inr (Or.inl ⟨by omega, by omega, by omega, by omega, rfl, rfl, rfl, rfl⟩)) | exact Or.inr (Or.inr (Or.inr ⟨by omega, by omega, by omega, by omega, rfl, rfl, rfl, rfl⟩))
        exact W.zret (v := zI 0) hx hb hr rfl (fun t9 ht hW => ⟨⟨zI 0, (0, Mthrown_90, Mout, Mgone, MlastOut), rfl, ⟨rfl, ⟨hv_96, qMout, qMgone, hv_97, hv_98⟩⟩, by subst hAe; exact z_end hK hw ht hW⟩, by subst hAe; exact hw.2.2.F ht⟩) (by subst hAe; exact hw.2.2.2.2) dX8_ill_34
      · skip
        refine z_if_ne (tgt := 33) hx hb dX8_ill_21 (by decide) (by omega) (fun hc_99 => absurd hc_99 (by omega)) (fun hc_99 => ?_)
        refine lv_aload_n hx hb dX8_ill_24 rfl (lv_at hl 0 rfl) ?_
        refine va_get (D := D) (ci := 8) (v := .ref (oM 14)) (C := RX8) (T := TX8) (N := 36) hx hb hts hinX8 hown hK hw.1 0 rfl rfl 32 (by decide) (hts (.fieldLink RX8 59 "CarnivalRoadModel" "out" "[Z") (by decide +kernel)) (fun _ h9 => h9) rfl dX8_ill_25 ?_
        refine lv_iload_n hx hb dX8_ill_28 rfl (lv_at hl 1 rfl) ?_
        have hi_100 : (0 : Int) ≤ g ∧ g < ((16 : Nat) : Int) := by
          first | assumption | omega | grind
        refine z_zald (n := 16) (f := Mout) hx hb hK hw 14 rfl (by decide) hi_100 dX8_ill_29 ?_
        have hq_101 : 0 ≤ Mout g ∧ Mout g ≤ 1 := qMout g
        refine z_if_eq (tgt := 35) hx hb dX8_ill_30 (by decide) (by omega) (fun hc_102 => ?_) (fun hc_102 => ?_)
        · skip
          refine lv_aload_n hx hb dX8_ill_35 rfl (lv_at hl 0 rfl) ?_
          refine va_get (D := D) (ci := 8) (v := .ref (oM 14)) (C := RX8) (T := TX8) (N := 36) hx hb hts hinX8 hown hK hw.1 0 rfl rfl 32 (by decide) (hts (.fieldLink RX8 59 "CarnivalRoadModel" "out" "[Z") (by decide +kernel)) (fun _ h9 => h9) rfl dX8_ill_36 ?_
          refine lv_iload_n hx hb dX8_ill_39 rfl (lv_at hl 1 rfl) ?_
          refine z_iconst hx hb dX8_ill_40 ?_
          have hi_103 : (0 : Int) ≤ g ∧ g < ((16 : Nat) : Int) := by
            first | assumption | omega | grind
          have hv_104 : (0 : Int) ≤ (1 : Int) ∧ (1 : Int) ≤ 1 := by
            first | assumption | omega | grind
          have hR_105 : RA (uZ Mout g 1) (0) 1 := RA_up qMout hv_104
          refine z_zast (n := 16) (f := Mout) (ws2 := kM cI cB cZ oM Mthrown_90 Mmany Mguest Mrow Mbars Mbar Mfresh Mtape Mtaped Mpos Mtoken MtokenAt Mvalue Mwrong MwrongAt MfaultKind MfaultPlace Mthing Morder Mone Mtwo Mbest Mcells Mgap Mwire Mstand Mruns Mminute Mhead Mplays Mrests Mwent (uZ Mout g 1) Mcame Mgone MlastOut) hx hb hK hw 14 rfl rfl (by decide) hi_103 dX8_ill_41 rfl (fun H locs hw => ?_)
          refine lv_aload_n hx hb dX8_ill_42 rfl (lv_at hl 0 rfl) ?_
          refine va_get (D := D) (ci := 8) (v := .ref (oM 16)) (C := RX8) (T := TX8) (N := 36) hx hb hts hinX8 hown hK hw.1 0 rfl rfl 34 (by decide) (hts (.fieldLink RX8 66 "CarnivalRoadModel" "gone" "[I") (by decide +kernel)) (fun _ h9 => h9) rfl dX8_ill_43 ?_
          refine lv_iload_n hx hb dX8_ill_46 rfl (lv_at hl 1 rfl) ?_
          refine lv_aload_n hx hb dX8_ill_47 rfl (lv_at hl 0 rfl) ?_
          refine va_get (D := D) (ci := 8) (v := .int (zI Mminute)) (C := RX8) (T := TX8) (N := 36) hx hb hts hinX8 hown hK hw.1 0 rfl rfl 27 (by decide) (hts (.fieldLink RX8 208 "CarnivalRoadModel" "minute" "I") (by decide +kernel)) (fun _ h9 => h9) rfl dX8_ill_48 ?_
          have hi_106 : (0 : Int) ≤ g ∧ g < ((8 : Nat) : Int) := by
            first | assumption | omega | grind
          have hv_107 : (-1 : Int) ≤ Mminute ∧ Mminute ≤ 1000000 := by
            first | assumption | omega | grind
          have hR_108 : RA (uZ Mgone g Mminute) (-1) 1000000 := RA_up qMgone hv_107
          refine z_iast (n := 8) (f := Mgone) (ws2 := kM cI cB cZ oM Mthrown_90 Mmany Mguest Mrow Mbars Mbar Mfresh Mtape Mtaped Mpos Mtoken MtokenAt Mvalue Mwrong MwrongAt MfaultKind MfaultPlace Mthing Morder Mone Mtwo Mbest Mcells Mgap Mwire Mstand Mruns Mminute Mhead Mplays Mrests Mwent (uZ Mout g 1) Mcame (uZ Mgone g Mminute) MlastOut) hx hb hK hw 16 rfl (by decide) hi_106 dX8_ill_51 rfl (fun H locs hw => ?_)
          refine lv_aload_n hx hb dX8_ill_52 rfl (lv_at hl 0 rfl) ?_
          refine lv_aload_n hx hb dX8_ill_53 rfl (lv_at hl 0 rfl) ?_
          refine va_get (D := D) (ci := 8) (v := .int (zI Mminute)) (C := RX8) (T := TX8) (N := 36) hx hb hts hinX8 hown hK hw.1 0 rfl rfl 27 (by decide) (hts (.fieldLink RX8 208 "CarnivalRoadModel" "minute" "I") (by decide +kernel)) (fun _ h9 => h9) rfl dX8_ill_54 ?_
          refine z_put (D := D) (ci := 8) (v := .int (zI Mminute)) (ty := .int) (C := RX8) (T := TX8) (N := 36) (ws2 := kM cI cB cZ oM Mthrown_90 Mmany Mguest Mrow Mbars Mbar Mfresh Mtape Mtaped Mpos Mtoken MtokenAt Mvalue Mwrong MwrongAt MfaultKind MfaultPlace Mthing Morder Mone Mtwo Mbest Mcells Mgap Mwire Mstand Mruns Mminute Mhead Mplays Mrests Mwent (uZ Mout g 1) Mcame (uZ Mgone g Mminute) Mminute) hx hb hts hinX8 tyX8 tyX8_ok nmX8 hown hK hw 0 rfl rfl 35 (by decide) (hts (.fieldLink RX8 211 "CarnivalRoadModel" "lastOut" "I") (by decide +kernel)) (fun _ h9 => h9) rfl (by decide +kernel) rfl rfl (Nat.le_of_ble_eq_true rfl) dX8_ill_57 rfl (fun H locs hw => ?_)
          refine z_iconst hx hb dX8_ill_60 ?_
          have hv_109 : (0 : Int) ≤ Mthrown_90 ∧ Mthrown_90 ≤ 2 := by
            first | assumption | omega | grind
          have hv_110 : (0 : Int) ≤ Mminute ∧ Mminute ≤ 1000000 := by
            first | assumption | omega | grind
          have hv_111 : (¬ (0 ≤ g ∧ g < Mmany) ∧ Mthrown_90 = 1 ∧ (uZ Mout g 1) = Mout ∧ (uZ Mgone g Mminute) = Mgone ∧ Mminute = MlastOut) ∨ ((0 ≤ g ∧ g < Mmany) ∧ Mruns = 0 ∧ Mthrown_90 = 2 ∧ (uZ Mout g 1) = Mout ∧ (uZ Mgone g Mminute) = Mgone ∧ Mminute = MlastOut) ∨ ((0 ≤ g ∧ g < Mmany) ∧ Mruns = 1 ∧ Mthrown_90 = 0 ∧ Mout g = 1 ∧ (1 : Int) = 0 ∧ (uZ Mout g 1) = Mout ∧ (uZ Mgone g Mminute) = Mgone ∧ Mminute = MlastOut) ∨ ((0 ≤ g ∧ g < Mmany) ∧ Mruns = 1 ∧ Mthrown_90 = 0 ∧ Mout g = 0 ∧ (1 : Int) = 1 ∧ (uZ Mout g 1) = uZ Mout g 1 ∧ (uZ Mgone g Mminute) = uZ Mgone g Mminute ∧ Mminute = Mminute) := by
            first | exact Or.inl ⟨by omega, by omega, rfl, rfl, rfl⟩ | exact Or.inr (Or.inl ⟨by omega, by omega, by omega, rfl, rfl, rfl⟩) | exact Or.inr (Or.inr (Or.inl ⟨by omega, by omega, by omega, by omega, rfl, rfl, rfl, rfl⟩)) | exact Or.inr (Or.inr (Or.inr ⟨by omega, by omega, by omega, by omega, rfl, rfl, rfl, rfl⟩))
          exact W.zret (v := zI 1) hx hb hr rfl (fun t9 ht hW => ⟨⟨zI 1, (1, Mthrown_90, (uZ Mout g 1), (uZ Mgone g Mminute), Mminute), rfl, ⟨rfl, ⟨hv_109, hR_105, hR_108, hv_110, hv_111⟩⟩, by subst hAe; exact z_end hK hw ht hW⟩, by subst hAe; exact hw.2.2.F ht⟩) (by subst hAe; exact hw.2.2.2.2) dX8_ill_61
        · skip
          refine z_iconst hx hb dX8_ill_33 ?_
          have hv_112 : (0 : Int) ≤ Mthrown_90 ∧ Mthrown_90 ≤ 2 := by
            first | assumption | omega | grind
          have hv_113 : (0 : Int) ≤ MlastOut ∧ MlastOut ≤ 1000000 := by
            first | assumption | omega | grind
          have hv_114 : (¬ (0 ≤ g ∧ g < Mmany) ∧ Mthrown_90 = 1 ∧ Mout = Mout ∧ Mgone = Mgone ∧ MlastOut = MlastOut) ∨ ((0 ≤ g ∧ g < Mmany) ∧ Mruns = 0 ∧ Mthrown_90 = 2 ∧ Mout = Mout ∧ Mgone = Mgone ∧ MlastOut = MlastOut) ∨ ((0 ≤ g ∧ g < Mmany) ∧ Mruns = 1 ∧ Mthrown_90 = 0 ∧ Mout g = 1 ∧ (0 : Int) = 0 ∧ Mout = Mout ∧ Mgone = Mgone ∧ MlastOut = MlastOut) ∨ ((0 ≤ g ∧ g < Mmany) ∧ Mruns = 1 ∧ Mthrown_90 = 0 ∧ Mout g = 0 ∧ (0 : Int) = 1 ∧ Mout = uZ Mout g 1 ∧ Mgone = uZ Mgone g Mminute ∧ MlastOut = Mminute) := by
            first | exact Or.inl ⟨by omega, by omega, rfl, rfl, rfl⟩ | exact Or.inr (Or.inl ⟨by omega, by omega, by omega, rfl, rfl, rfl⟩) | exact Or.inr (Or.inr (Or.inl ⟨by omega, by omega, by omega, by omega, rfl, rfl, rfl, rfl⟩)) | exact Or.inr (Or.inr (Or.inr ⟨by omega, by omega, by omega, by omega, rfl, rfl, rfl, rfl⟩))
          exact W.zret (v := zI 0) hx hb hr rfl (fun t9 ht hW => ⟨⟨zI 0, (0, Mthrown_90, Mout, Mgone, MlastOut), rfl, ⟨rfl, ⟨hv_112, qMout, qMgone, hv_113, hv_114⟩⟩, by subst hAe; exact z_end hK hw ht hW⟩, by subst hAe; exact hw.2.2.F ht⟩) (by subst hAe; exact hw.2.2.2.2) dX8_ill_34
set_option maxRecDepth 100000 in
set_option maxHeartbeats 4000000 in
theorem c_X8_who (l : Launch) (D : va_G) (cI cB cZ : ClassId) (oM : Nat → Nat) (sz : Nat) (Mthrown : Int) (Mmany : Int) (Mguest : Int → Int) (Mrow : Int → Int) (Mbars : Int) (Mbar : Int → Int) (Mfresh : Int → Int) (Mtape : Int → Int) (Mtaped : Int) (Mpos : Int) (Mtoken : Int) (MtokenAt : Int) (Mvalue : Int) (Mwrong : Int) (MwrongAt : Int) (MfaultKind : Int) (MfaultPlace : Int) (Mthing : Int) (Morder : Int → Int) (Mone : Int) (Mtwo : Int) (Mbest : Int → Int) (Mcells : Int) (Mgap : Int) (Mwire : Int → Int) (Mstand : Int → Int) (Mruns : Int) (Mminute : Int) (Mhead : Int → Int) (Mplays : Int → Int) (Mrests : Int → Int) (Mwent : Int → Int) (Mout : Int → Int) (Mcame : Int → Int) (Mgone : Int → Int) (MlastOut : Int) (c : Int) (qMthrown : 0 ≤ Mthrown ∧ Mthrown ≤ 2) (qMmany : 0 ≤ Mmany ∧ Mmany ≤ 8) (qMguest : RA Mguest (0) 9) (qMrow : RA Mrow (0) 7) (qMbars : 0 ≤ Mbars ∧ Mbars ≤ 10) (qMbar : RA Mbar (0) 104) (qMfresh : RA Mfresh (0) 104) (qMtape : RA Mtape (0) 255) (qMtaped : 0 ≤ Mtaped ∧ Mtaped ≤ 400) (qMpos : 0 ≤ Mpos ∧ Mpos ≤ 400) (qMtoken : 0 ≤ Mtoken ∧ Mtoken ≤ 15) (qMtokenAt : 0 ≤ MtokenAt ∧ MtokenAt ≤ 400) (qMvalue : 0 ≤ Mvalue ∧ Mvalue ≤ 99) (qMwrong : 0 ≤ Mwrong ∧ Mwrong ≤ 3) (qMwrongAt : 0 ≤ MwrongAt ∧ MwrongAt ≤ 400) (qMfaultKind : 0 ≤ MfaultKind ∧ MfaultKind ≤ 3) (qMfaultPlace : -1 ≤ MfaultPlace ∧ MfaultPlace ≤ 400) (qMthing : 0 ≤ Mthing ∧ Mthing ≤ 104) (qMorder : RA Morder (0) 7) (qMone : 0 ≤ Mone ∧ Mone ≤ 8) (qMtwo : 0 ≤ Mtwo ∧ Mtwo ≤ 8) (qMbest : RA Mbest (0) 7) (qMcells : 1 ≤ Mcells ∧ Mcells ≤ 50) (qMgap : 0 ≤ Mgap ∧ Mgap ≤ 3) (qMwire : RA Mwire (0) 9) (qMstand : RA Mstand (0) 9) (qMruns : 0 ≤ Mruns ∧ Mruns ≤ 1) (qMminute : 0 ≤ Mminute ∧ Mminute ≤ 1000000) (qMhead : RA Mhead (-1) 60) (qMplays : RA Mplays (0) 18) (qMrests : RA Mrests (0) 3) (qMwent : RA Mwent (0) 61) (qMout : RA Mout (0) 1) (qMcame : RA Mcame (-1) 1000000) (qMgone : RA Mgone (-1) 1000000) (qMlastOut : 0 ≤ MlastOut ∧ MlastOut ≤ 1000000) (qc : -2147483648 ≤ c ∧ c ≤ 2147483647) : Met l yX8_who wsX8_who ({ frames := 2, cells := 0, slots := 0, locals := 44 }) (va_Pc [.ref (oM 0), .int (zI c)] (zPre D cI cB cZ sz (kM cI cB cZ oM Mthrown Mmany Mguest Mrow Mbars Mbar Mfresh Mtape Mtaped Mpos Mtoken MtokenAt Mvalue Mwrong MwrongAt MfaultKind MfaultPlace Mthing Morder Mone Mtwo Mbest Mcells Mgap Mwire Mstand Mruns Mminute Mhead Mplays Mrests Mwent Mout Mcame Mgone MlastOut))) (va_Qi (fun (r9 : Int32) (u9 : Int × Int) => r9 = zI u9.1 ∧ (((0 : Int) ≤ u9.2 ∧ u9.2 ≤ 2) ∧ ((Mruns = 0 ∧ u9.2 = 1) ∨ (Mruns = 1 ∧ u9.2 = 0 ∧ ((u9.1 = -1 ∧ (¬ (0 ≤ c ∧ c < Mcells) ∨ ∀ g, 0 ≤ g → g < Mmany → ¬ ((Mout (g) = 0 ∧ 0 ≤ Mhead (g)) ∧ Mhead (0 + g) - Mguest (5 * g + 1) + 1 ≤ c ∧ c ≤ Mhead (g)))) ∨ ((0 ≤ u9.1 ∧ u9.1 < Mmany) ∧ (0 ≤ c ∧ c < Mcells) ∧ ((Mout (u9.1) = 0 ∧ 0 ≤ Mhead (u9.1)) ∧ Mhead (0 + u9.1) - Mguest (5 * u9.1 + 1) + 1 ≤ c ∧ c ≤ Mhead (u9.1)))))))) (fun u9 t9 => zAt D cI cB cZ (va_A (kM cI cB cZ oM Mthrown Mmany Mguest Mrow Mbars Mbar Mfresh Mtape Mtaped Mpos Mtoken MtokenAt Mvalue Mwrong MwrongAt MfaultKind MfaultPlace Mthing Morder Mone Mtwo Mbest Mcells Mgap Mwire Mstand Mruns Mminute Mhead Mplays Mrests Mwent Mout Mcame Mgone MlastOut) sz) (kM cI cB cZ oM (u9.2) Mmany Mguest Mrow Mbars Mbar Mfresh Mtape Mtaped Mpos Mtoken MtokenAt Mvalue Mwrong MwrongAt MfaultKind MfaultPlace Mthing Morder Mone Mtwo Mbest Mcells Mgap Mwire Mstand Mruns Mminute Mhead Mplays Mrests Mwent Mout Mcame Mgone MlastOut) t9) (va_A (kM cI cB cZ oM Mthrown Mmany Mguest Mrow Mbars Mbar Mfresh Mtape Mtaped Mpos Mtoken MtokenAt Mvalue Mwrong MwrongAt MfaultKind MfaultPlace Mthing Morder Mone Mtwo Mbest Mcells Mgap Mwire Mstand Mruns Mminute Mhead Mplays Mrests Mwent Mout Mcame Mgone MlastOut) sz)) 0 0 (va_A (kM cI cB cZ oM Mthrown Mmany Mguest Mrow Mbars Mbar Mfresh Mtape Mtaped Mpos Mtoken MtokenAt Mvalue Mwrong MwrongAt MfaultKind MfaultPlace Mthing Morder Mone Mtwo Mbest Mcells Mgap Mwire Mstand Mruns Mminute Mhead Mplays Mrests Mwent Mout Mcame Mgone MlastOut) sz) := by
  refine Met.ofW (cc := cX8_who) (maxL := 3) (ret := (some .int)) (by decide) rfl ?_
  intro pp ee s mm aa bw mt cd s₁ BL hml hv
  obtain ⟨rfl, hsz, hP, hK, hD0⟩ := hv
  have hx := BL.exec
  have hb := BL.bytes
  have hr := BL.returns
  have hts := atoms_spec (ws := wsX8_who) BL.pre
  have hown : s.vm.findClass RX8 = some mm.cls := findClass_of_methodNamed BL.named
  have hlocks := BL.notSynchronized
  subst hsz
  generalize hAe : va_A (kM cI cB cZ oM Mthrown Mmany Mguest Mrow Mbars Mbar Mfresh Mtape Mtaped Mpos Mtoken MtokenAt Mvalue Mwrong MwrongAt MfaultKind MfaultPlace Mthing Morder Mone Mtwo Mbest Mcells Mgap Mwire Mstand Mruns Mminute Mhead Mplays Mrests Mwent Mout Mcame Mgone MlastOut) s.heap.size = A
  have hA : ∀ q : Nat, s.heap.size ≤ q → A q := fun q h => by rw [← hAe]; exact Or.inr h
  have hw : HW D A s.heap (kM cI cB cZ oM Mthrown Mmany Mguest Mrow Mbars Mbar Mfresh Mtape Mtaped Mpos Mtoken MtokenAt Mvalue Mwrong MwrongAt MfaultKind MfaultPlace Mthing Morder Mone Mtwo Mbest Mcells Mgap Mwire Mstand Mruns Mminute Mhead Mplays Mrests Mwent Mout Mcame Mgone MlastOut) s.heap [] := z_start hAe hP hD0
  clear hP hD0
  have hl := lv_entry ([.ref (oM 0), .int (zI c)]) (n := 3) (Nat.le_of_ble_eq_true rfl)
  rw [lg_entry_eq]
  generalize (lg_sl ([.ref (oM 0), .int (zI c)]) ++ List.replicate (3 - (lg_sl ([.ref (oM 0), .int (zI c)])).length) Slot.unset).toArray = ls at hl ⊢
  have hl : lv_has ls 3 [(0, .ref (oM 0)), (1, .int (zI c))] := hl
  have hinX8 : ∀ w ∈ wsX80, w ∈ wsX8_who := by decide +kernel
  refine lv_aload_n hx hb dX8_who_0 rfl (lv_at hl 0 rfl) ?_
  refine lv_aload_n hx hb dX8_who_1 rfl (lv_at hl 0 rfl) ?_
  refine va_get (D := D) (ci := 8) (v := .int (zI Mruns)) (C := RX8) (T := TX8) (N := 36) hx hb hts hinX8 hown hK hw.1 0 rfl rfl 26 (by decide) (hts (.fieldLink RX8 79 "CarnivalRoadModel" "runs" "Z") (by decide +kernel)) (fun _ h9 => h9) rfl dX8_who_2 ?_
  refine z_if_ne (tgt := 12) hx hb dX8_who_5 (by decide) (by omega) (fun hc_1 => ?_) (fun hc_1 => ?_)
  · skip
    refine z_iconst hx hb dX8_who_12 ?_
    refine z_iconst hx hb dX8_who_13 ?_
    have hF9 := z_free (wc := kM cI cB cZ oM Mthrown Mmany Mguest Mrow Mbars Mbar Mfresh Mtape Mtaped Mpos Mtoken MtokenAt Mvalue Mwrong MwrongAt MfaultKind MfaultPlace Mthing Morder Mone Mtwo Mbest Mcells Mgap Mwire Mstand Mruns Mminute Mhead Mplays Mrests Mwent Mout Mcame Mgone MlastOut) hw hA [0, 1, 2, 3, 4, 5, 6, 7, 8, 9, 10, 11, 12, 13, 14, 15, 16] rfl
    refine va_calli (va_runV (As := [.int (zI 0), .int (zI 0)]) (rest := []) ⟨hx, hb, hml, hown, hts⟩ (c_X8_fails l D cI cB cZ oM s.heap.size Mthrown Mmany Mguest Mrow Mbars Mbar Mfresh Mtape Mtaped Mpos Mtoken MtokenAt Mvalue Mwrong MwrongAt MfaultKind MfaultPlace Mthing Morder Mone Mtwo Mbest Mcells Mgap Mwire Mstand Mruns Mminute Mhead Mplays Mrests Mwent Mout Mcame Mgone MlastOut 0 0 (by omega) (by omega) qMguest qMrow (by omega) qMbar qMfresh qMtape (by omega) (by omega) (by omega) (by omega) (by omega) (by omega) (by omega) (by omega) (by omega) (by omega) qMorder (by omega) (by omega) qMbest (by omega) (by omega) qMwire qMstand (by omega) (by omega) qMhead qMplays qMrests qMwent qMout qMcame qMgone (by omega) (by omega) (by omega)) (cwV 2 hts gX8_who_X8_fails rfl rfl rfl (by decide +kernel) ⟨Nat.le_of_ble_eq_true rfl, Nat.le_of_ble_eq_true rfl⟩) ⟨zPre_blind, va_recv hK hw.1 (ci := 8) (q0 := 0) rfl rfl, z_pre hK hw [0, 1, 2, 3, 4, 5, 6, 7, 8, 9, 10, 11, 12, 13, 14, 15, 16] (by decide) rfl⟩ rfl rfl hl.1 rfl (lv_room (Nat.le_of_ble_eq_true rfl)) dX8_who_14 ⟨Nat.zero_le _, Nat.zero_le _⟩) hw.2.2 (fun q _ h => hF9 q h) hF9 (fun r9 u9 t9 H_2 locs9 ht9 hvm9 hq9 hB9 hz9 hk9 hS9 => ?_)
    obtain ⟨r_3, Mthrown_4⟩ := u9
    try dsimp only at hq9 hB9
    obtain ⟨rfl, hq9⟩ := hq9
    obtain ⟨hq_5, hq_6, hq_7⟩ := hq9
    have hw : HW D A s.heap (kM cI cB cZ oM Mthrown_4 Mmany Mguest Mrow Mbars Mbar Mfresh Mtape Mtaped Mpos Mtoken MtokenAt Mvalue Mwrong MwrongAt MfaultKind MfaultPlace Mthing Morder Mone Mtwo Mbest Mcells Mgap Mwire Mstand Mruns Mminute Mhead Mplays Mrests Mwent Mout Mcame Mgone MlastOut) H_2 locs9 := z_after (wc := kM cI cB cZ oM Mthrown Mmany Mguest Mrow Mbars Mbar Mfresh Mtape Mtaped Mpos Mtoken MtokenAt Mvalue Mwrong MwrongAt MfaultKind MfaultPlace Mthing Morder Mone Mtwo Mbest Mcells Mgap Mwire Mstand Mruns Mminute Mhead Mplays Mrests Mwent Mout Mcame Mgone MlastOut) hw [0, 1, 2, 3, 4, 5, 6, 7, 8, 9, 10, 11, 12, 13, 14, 15, 16] [] rfl rfl (by decide) (by decide) hF9 hk9 ht9 hB9 hS9 [0, 1, 2, 3, 4, 5, 6, 7, 8, 9, 10, 11, 12, 13, 14, 15, 16] (by decide) rfl
    clear hF9 ht9 hvm9 hB9 hz9 hk9 hS9
    rcases hq_6 with ⟨hc_8, rfl⟩ | ⟨hc_8, rfl⟩
    · skip
      refine z_if_eq (tgt := 22) hx hb dX8_who_17 (by decide) (by omega) (fun hc_9 => absurd hc_9 (by omega)) (fun hc_9 => ?_)
      refine z_iconst hx hb dX8_who_20 ?_
      have hv_10 : (0 : Int) ≤ Mthrown_4 ∧ Mthrown_4 ≤ 2 := by
        first | assumption | omega | grind
      have hv_11 : (Mruns = 0 ∧ Mthrown_4 = 1) ∨ (Mruns = 1 ∧ Mthrown_4 = 0 ∧ (((0 : Int) = -1 ∧ (¬ (0 ≤ c ∧ c < Mcells) ∨ ∀ g, 0 ≤ g → g < Mmany → ¬ ((Mout (g) = 0 ∧ 0 ≤ Mhead (g)) ∧ Mhead (0 + g) - Mguest (5 * g + 1) + 1 ≤ c ∧ c ≤ Mhead (g)))) ∨ ((0 ≤ (0 : Int) ∧ (0 : Int) < Mmany) ∧ (0 ≤ c ∧ c < Mcells) ∧ ((Mout ((0 : Int)) = 0 ∧ 0 ≤ Mhead ((0 : Int))) ∧ Mhead (0 + (0 : Int)) - Mguest (5 * (0 : Int) + 1) + 1 ≤ c ∧ c ≤ Mhead ((0 : Int)))))) := by
        exact Or.inl ⟨by omega, by omega⟩
      exact W.iret (v := zI 0) hx hb hr (fun t9 ht hW => ⟨⟨zI 0, (0, Mthrown_4), rfl, ⟨rfl, ⟨hv_10, hv_11⟩⟩, by subst hAe; exact z_end hK hw ht hW⟩, by subst hAe; exact hw.2.2.F ht⟩) (by subst hAe; exact hw.2.2.2.2) dX8_who_21
    · skip
      refine z_if_eq (tgt := 22) hx hb dX8_who_17 (by decide) (by omega) (fun hc_12 => ?_) (fun hc_12 => absurd hc_12 (by omega))
      refine z_iconst hx hb dX8_who_22 ?_
      refine lv_istore_n (lv' := [(2, .int (zI 0)), (0, .ref (oM 0)), (1, .int (zI c))]) hx hb dX8_who_23 rfl hl (by decide) rfl (fun ls hl => ?_)
      have hv_13 : 0 ≤ (0 : Int) ∧ (0 : Int) ≤ Mmany := by
        first | assumption | omega | grind
      have hv_14 : ∀ g, 0 ≤ g → g < (0 : Int) → ¬ ((Mout (g) = 0 ∧ 0 ≤ Mhead (g)) ∧ Mhead (0 + g) - Mguest (5 * g + 1) + 1 ≤ c ∧ c ≤ Mhead (g)) := by
        exact all_0
      refine z_loop (σ := Int) (μ := fun x9 => (9 - x9).toNat) (I := fun x9 H locs ls => (0 ≤ x9 ∧ x9 ≤ Mmany) ∧ (∀ g, 0 ≤ g → g < x9 → ¬ ((Mout (g) = 0 ∧ 0 ≤ Mhead (g)) ∧ Mhead (0 + g) - Mguest (5 * g + 1) + 1 ≤ c ∧ c ≤ Mhead (g))) ∧ HW D A s.heap (kM cI cB cZ oM Mthrown_4 Mmany Mguest Mrow Mbars Mbar Mfresh Mtape Mtaped Mpos Mtoken MtokenAt Mvalue Mwrong MwrongAt MfaultKind MfaultPlace Mthing Morder Mone Mtwo Mbest Mcells Mgap Mwire Mstand Mruns Mminute Mhead Mplays Mrests Mwent Mout Mcame Mgone MlastOut) H locs ∧ lv_has ls 3 [(0, .ref (oM 0)), (1, .int (zI c)), (2, .int (zI x9))]) 0 ⟨hv_13, hv_14, hw, lv_sub hl [1, 2, 0] rfl⟩ ?_
      clear hw hl
      intro g_16 H locs ls hI ih_15
      try dsimp only at hI
      obtain ⟨hI_17, hI_18, hw, hl⟩ := hI
      refine lv_iload_n hx hb dX8_who_24 rfl (lv_at hl 2 rfl) ?_
      refine lv_aload_n hx hb dX8_who_25 rfl (lv_at hl 0 rfl) ?_
      refine va_get (D := D) (ci := 8) (v := .int (zI Mmany)) (C := RX8) (T := TX8) (N := 36) hx hb hts hinX8 hown hK hw.1 0 rfl rfl 1 (by decide) (hts (.fieldLink RX8 72 "CarnivalRoadModel" "many" "I") (by decide +kernel)) (fun _ h9 => h9) rfl dX8_who_26 ?_
      refine z_icmp_ge (tgt := 76) hx hb dX8_who_29 (by decide) (by omega) (fun hc_19 => ?_) (fun hc_19 => ?_)
      · skip
        refine z_iconst hx hb dX8_who_76 ?_
        have hv_20 : (0 : Int) ≤ Mthrown_4 ∧ Mthrown_4 ≤ 2 := by
          first | assumption | omega | grind
        have hv_21 : (Mruns = 0 ∧ Mthrown_4 = 1) ∨ (Mruns = 1 ∧ Mthrown_4 = 0 ∧ ((((-1) : Int) = -1 ∧ (¬ (0 ≤ c ∧ c < Mcells) ∨ ∀ g, 0 ≤ g → g < Mmany → ¬ ((Mout (g) = 0 ∧ 0 ≤ Mhead (g)) ∧ Mhead (0 + g) - Mguest (5 * g + 1) + 1 ≤ c ∧ c ≤ Mhead (g)))) ∨ ((0 ≤ ((-1) : Int) ∧ ((-1) : Int) < Mmany) ∧ (0 ≤ c ∧ c < Mcells) ∧ ((Mout (((-1) : Int)) = 0 ∧ 0 ≤ Mhead (((-1) : Int))) ∧ Mhead (0 + ((-1) : Int)) - Mguest (5 * ((-1) : Int) + 1) + 1 ≤ c ∧ c ≤ Mhead (((-1) : Int)))))) := by
          first | exact Or.inr ⟨by omega, by omega, Or.inl ⟨rfl, Or.inl (by omega)⟩⟩ | exact Or.inr ⟨by omega, by omega, Or.inl ⟨rfl, Or.inr (all_le (by assumption) (by omega))⟩⟩
        exact W.iret (v := zI (-1)) hx hb hr (fun t9 ht hW => ⟨⟨zI (-1), ((-1), Mthrown_4), rfl, ⟨rfl, ⟨hv_20, hv_21⟩⟩, by subst hAe; exact z_end hK hw ht hW⟩, by subst hAe; exact hw.2.2.F ht⟩) (by subst hAe; exact hw.2.2.2.2) dX8_who_77
      · skip
        refine lv_aload_n hx hb dX8_who_32 rfl (lv_at hl 0 rfl) ?_
        refine lv_iload_n hx hb dX8_who_33 rfl (lv_at hl 1 rfl) ?_
        have hF9 := z_free (wc := kM cI cB cZ oM Mthrown_4 Mmany Mguest Mrow Mbars Mbar Mfresh Mtape Mtaped Mpos Mtoken MtokenAt Mvalue Mwrong MwrongAt MfaultKind MfaultPlace Mthing Morder Mone Mtwo Mbest Mcells Mgap Mwire Mstand Mruns Mminute Mhead Mplays Mrests Mwent Mout Mcame Mgone MlastOut) hw hA [0, 1, 2, 3, 4, 5, 6, 7, 8, 9, 10, 11, 12, 13, 14, 15, 16] rfl
        refine va_calli (va_runV (As := [.int (zI c)]) (rest := []) ⟨hx, hb, hml, hown, hts⟩ (c_X8_isCell l D cI cB cZ oM H.size Mthrown_4 Mmany Mguest Mrow Mbars Mbar Mfresh Mtape Mtaped Mpos Mtoken MtokenAt Mvalue Mwrong MwrongAt MfaultKind MfaultPlace Mthing Morder Mone Mtwo Mbest Mcells Mgap Mwire Mstand Mruns Mminute Mhead Mplays Mrests Mwent Mout Mcame Mgone MlastOut c (by omega) (by omega) qMguest qMrow (by omega) qMbar qMfresh qMtape (by omega) (by omega) (by omega) (by omega) (by omega) (by omega) (by omega) (by omega) (by omega) (by omega) qMorder (by omega) (by omega) qMbest (by omega) (by omega) qMwire qMstand (by omega) (by omega) qMhead qMplays qMrests qMwent qMout qMcame qMgone (by omega) (by omega)) (cwV 1 hts gX8_who_X8_isCell rfl rfl rfl (by decide +kernel) ⟨Nat.le_of_ble_eq_true rfl, Nat.le_of_ble_eq_true rfl⟩) ⟨zPre_blind, va_recv hK hw.1 (ci := 8) (q0 := 0) rfl rfl, z_pre hK hw [0, 1, 2, 3, 4, 5, 6, 7, 8, 9, 10, 11, 12, 13, 14, 15, 16] (by decide) rfl⟩ rfl rfl hl.1 rfl (lv_room (Nat.le_of_ble_eq_true rfl)) dX8_who_34 ⟨Nat.zero_le _, Nat.zero_le _⟩) hw.2.2 (fun q _ h => hF9 q h) hF9 (fun r9 u9 t9 H_22 locs9 ht9 hvm9 hq9 hB9 hz9 hk9 hS9 => ?_)
        obtain ⟨r_23, rfl⟩ : ∃ z, z = u9 := ⟨_, rfl⟩
        try dsimp only at hq9 hB9
        obtain ⟨rfl, hq9⟩ := hq9
        have hq_24 := hq9
        have hw : HW D A s.heap (kM cI cB cZ oM Mthrown_4 Mmany Mguest Mrow Mbars Mbar Mfresh Mtape Mtaped Mpos Mtoken MtokenAt Mvalue Mwrong MwrongAt MfaultKind MfaultPlace Mthing Morder Mone Mtwo Mbest Mcells Mgap Mwire Mstand Mruns Mminute Mhead Mplays Mrests Mwent Mout Mcame Mgone MlastOut) H_22 locs9 := z_after (wc := kM cI cB cZ oM Mthrown_4 Mmany Mguest Mrow Mbars Mbar Mfresh Mtape Mtaped Mpos Mtoken MtokenAt Mvalue Mwrong MwrongAt MfaultKind MfaultPlace Mthing Morder Mone Mtwo Mbest Mcells Mgap Mwire Mstand Mruns Mminute Mhead Mplays Mrests Mwent Mout Mcame Mgone MlastOut) hw [0, 1, 2, 3, 4, 5, 6, 7, 8, 9, 10, 11, 12, 13, 14, 15, 16] [] rfl rfl (by decide) (by decide) hF9 hk9 ht9 hB9 hS9 [0, 1, 2, 3, 4, 5, 6, 7, 8, 9, 10, 11, 12, 13, 14, 15, 16] (by decide) rfl
        clear hF9 ht9 hvm9 hB9 hz9 hk9 hS9 hq9
        rcases hq_24 with ⟨hc_25, rfl⟩ | ⟨hc_25, rfl⟩
        · skip
          refine z_if_eq (tgt := 76) hx hb dX8_who_37 (by decide) (by omega) (fun hc_26 => absurd hc_26 (by omega)) (fun hc_26 => ?_)
          refine lv_aload_n hx hb dX8_who_40 rfl (lv_at hl 0 rfl) ?_
          refine lv_iload_n hx hb dX8_who_41 rfl (lv_at hl 2 rfl) ?_
          have hF9 := z_free (wc := kM cI cB cZ oM Mthrown_4 Mmany Mguest Mrow Mbars Mbar Mfresh Mtape Mtaped Mpos Mtoken MtokenAt Mvalue Mwrong MwrongAt MfaultKind MfaultPlace Mthing Morder Mone Mtwo Mbest Mcells Mgap Mwire Mstand Mruns Mminute Mhead Mplays Mrests Mwent Mout Mcame Mgone MlastOut) hw hA [0, 1, 2, 3, 4, 5, 6, 7, 8, 9, 10, 11, 12, 13, 14, 15, 16] rfl
          refine va_calli (va_runV (As := [.int (zI g_16)]) (rest := []) ⟨hx, hb, hml, hown, hts⟩ (c_X8_isOn l D cI cB cZ oM H_22.size Mthrown_4 Mmany Mguest Mrow Mbars Mbar Mfresh Mtape Mtaped Mpos Mtoken MtokenAt Mvalue Mwrong MwrongAt MfaultKind MfaultPlace Mthing Morder Mone Mtwo Mbest Mcells Mgap Mwire Mstand Mruns Mminute Mhead Mplays Mrests Mwent Mout Mcame Mgone MlastOut g_16 (by omega) (by omega) qMguest qMrow (by omega) qMbar qMfresh qMtape (by omega) (by omega) (by omega) (by omega) (by omega) (by omega) (by omega) (by omega) (by omega) (by omega) qMorder (by omega) (by omega) qMbest (by omega) (by omega) qMwire qMstand (by omega) (by omega) qMhead qMplays qMrests qMwent qMout qMcame qMgone (by omega) (by omega)) (cwV 1 hts gX8_who_X8_isOn rfl rfl rfl (by decide +kernel) ⟨Nat.le_of_ble_eq_true rfl, Nat.le_of_ble_eq_true rfl⟩) ⟨zPre_blind, va_recv hK hw.1 (ci := 8) (q0 := 0) rfl rfl, z_pre hK hw [0, 1, 2, 3, 4, 5, 6, 7, 8, 9, 10, 11, 12, 13, 14, 15, 16] (by decide) rfl⟩ rfl rfl hl.1 rfl (lv_room (Nat.le_of_ble_eq_true rfl)) dX8_who_42 ⟨Nat.zero_le _, Nat.zero_le _⟩) hw.2.2 (fun q _ h => hF9 q h) hF9 (fun r9 u9 t9 H_27 locs9 ht9 hvm9 hq9 hB9 hz9 hk9 hS9 => ?_)
          obtain ⟨r_28, rfl⟩ : ∃ z, z = u9 := ⟨_, rfl⟩
          try dsimp only at hq9 hB9
          obtain ⟨rfl, hq9⟩ := hq9
          have hq_29 := hq9
          have hw : HW D A s.heap (kM cI cB cZ oM Mthrown_4 Mmany Mguest Mrow Mbars Mbar Mfresh Mtape Mtaped Mpos Mtoken MtokenAt Mvalue Mwrong MwrongAt MfaultKind MfaultPlace Mthing Morder Mone Mtwo Mbest Mcells Mgap Mwire Mstand Mruns Mminute Mhead Mplays Mrests Mwent Mout Mcame Mgone MlastOut) H_27 locs9 := z_after (wc := kM cI cB cZ oM Mthrown_4 Mmany Mguest Mrow Mbars Mbar Mfresh Mtape Mtaped Mpos Mtoken MtokenAt Mvalue Mwrong MwrongAt MfaultKind MfaultPlace Mthing Morder Mone Mtwo Mbest Mcells Mgap Mwire Mstand Mruns Mminute Mhead Mplays Mrests Mwent Mout Mcame Mgone MlastOut) hw [0, 1, 2, 3, 4, 5, 6, 7, 8, 9, 10, 11, 12, 13, 14, 15, 16] [] rfl rfl (by decide) (by decide) hF9 hk9 ht9 hB9 hS9 [0, 1, 2, 3, 4, 5, 6, 7, 8, 9, 10, 11, 12, 13, 14, 15, 16] (by decide) rfl
          clear hF9 ht9 hvm9 hB9 hz9 hk9 hS9 hq9
          rcases hq_29 with ⟨hc_30, rfl⟩ | ⟨hc_30, rfl⟩
          · skip
            refine z_if_eq (tgt := 70) hx hb dX8_who_45 (by decide) (by omega) (fun hc_31 => absurd hc_31 (by omega)) (fun hc_31 => ?_)
            refine lv_aload_n hx hb dX8_who_48 rfl (lv_at hl 0 rfl) ?_
            refine z_iconst hx hb dX8_who_49 ?_
            refine lv_iload_n hx hb dX8_who_50 rfl (lv_at hl 2 rfl) ?_
            have hF9 := z_free (wc := kM cI cB cZ oM Mthrown_4 Mmany Mguest Mrow Mbars Mbar Mfresh Mtape Mtaped Mpos Mtoken MtokenAt Mvalue Mwrong MwrongAt MfaultKind MfaultPlace Mthing Morder Mone Mtwo Mbest Mcells Mgap Mwire Mstand Mruns Mminute Mhead Mplays Mrests Mwent Mout Mcame Mgone MlastOut) hw hA [0, 1, 2, 3, 4, 5, 6, 7, 8, 9, 10, 11, 12, 13, 14, 15, 16] rfl
            refine va_calli (va_runV (As := [.int (zI 0), .int (zI g_16)]) (rest := []) ⟨hx, hb, hml, hown, hts⟩ (c_X8_tail l D cI cB cZ oM H_27.size Mthrown_4 Mmany Mguest Mrow Mbars Mbar Mfresh Mtape Mtaped Mpos Mtoken MtokenAt Mvalue Mwrong MwrongAt MfaultKind MfaultPlace Mthing Morder Mone Mtwo Mbest Mcells Mgap Mwire Mstand Mruns Mminute Mhead Mplays Mrests Mwent Mout Mcame Mgone MlastOut 0 g_16 (by omega) (by omega) qMguest qMrow (by omega) qMbar qMfresh qMtape (by omega) (by omega) (by omega) (by omega) (by omega) (by omega) (by omega) (by omega) (by omega) (by omega) qMorder (by omega) (by omega) qMbest (by omega) (by omega) qMwire qMstand (by omega) (by omega) qMhead qMplays qMrests qMwent qMout qMcame qMgone (by omega) (by omega) (by omega)) (cwV 2 hts gX8_who_X8_tail rfl rfl rfl (by decide +kernel) ⟨Nat.le_of_ble_eq_true rfl, Nat.le_of_ble_eq_true rfl⟩) ⟨zPre_blind, va_recv hK hw.1 (ci := 8) (q0 := 0) rfl rfl, z_pre hK hw [0, 1, 2, 3, 4, 5, 6, 7, 8, 9, 10, 11, 12, 13, 14, 15, 16] (by decide) rfl⟩ rfl rfl hl.1 rfl (lv_room (Nat.le_of_ble_eq_true rfl)) dX8_who_51 ⟨Nat.zero_le _, Nat.zero_le _⟩) hw.2.2 (fun q _ h => hF9 q h) hF9 (fun r9 u9 t9 H_32 locs9 ht9 hvm9 hq9 hB9 hz9 hk9 hS9 => ?_)
            obtain ⟨r_33, rfl⟩ : ∃ z, z = u9 := ⟨_, rfl⟩
            try dsimp only at hq9 hB9
            obtain ⟨rfl, hq9⟩ := hq9
            obtain ⟨hq_34, hq_35⟩ := hq9
            have hw : HW D A s.heap (kM cI cB cZ oM Mthrown_4 Mmany Mguest Mrow Mbars Mbar Mfresh Mtape Mtaped Mpos Mtoken MtokenAt Mvalue Mwrong MwrongAt MfaultKind MfaultPlace Mthing Morder Mone Mtwo Mbest Mcells Mgap Mwire Mstand Mruns Mminute Mhead Mplays Mrests Mwent Mout Mcame Mgone MlastOut) H_32 locs9 := z_after (wc := kM cI cB cZ oM Mthrown_4 Mmany Mguest Mrow Mbars Mbar Mfresh Mtape Mtaped Mpos Mtoken MtokenAt Mvalue Mwrong MwrongAt MfaultKind MfaultPlace Mthing Morder Mone Mtwo Mbest Mcells Mgap Mwire Mstand Mruns Mminute Mhead Mplays Mrests Mwent Mout Mcame Mgone MlastOut) hw [0, 1, 2, 3, 4, 5, 6, 7, 8, 9, 10, 11, 12, 13, 14, 15, 16] [] rfl rfl (by decide) (by decide) hF9 hk9 ht9 hB9 hS9 [0, 1, 2, 3, 4, 5, 6, 7, 8, 9, 10, 11, 12, 13, 14, 15, 16] (by decide) rfl
            clear hF9 ht9 hvm9 hB9 hz9 hk9 hS9
            refine lv_iload_n hx hb dX8_who_54 rfl (lv_at hl 1 rfl) ?_
            refine z_icmp_gt (tgt := 70) hx hb dX8_who_55 (by decide) (by omega) (fun hc_36 => ?_) (fun hc_36 => ?_)
            · skip
              refine z_iinc (k := 2) (lv' := [(2, .int (zI (g_16 + 1))), (0, .ref (oM 0)), (1, .int (zI c))]) hx hb dX8_who_70 hl rfl (by decide) rfl (fun ls hl => ?_)
              refine lv_goto (tgt := 24) hx hb dX8_who_73 (by decide) ?_
              have hv_37 : 0 ≤ (g_16 + 1) ∧ (g_16 + 1) ≤ Mmany := by
                first | assumption | omega | grind
              have hv_38 : ∀ g, 0 ≤ g → g < (g_16 + 1) → ¬ ((Mout (g) = 0 ∧ 0 ≤ Mhead (g)) ∧ Mhead (0 + g) - Mguest (5 * g + 1) + 1 ≤ c ∧ c ≤ Mhead (g)) := by
                refine all_s (by assumption) ?_
                omega
              have hm_39 : (9 - (g_16 + 1)).toNat < (9 - g_16).toNat := by
                first | assumption | omega | grind
              exact ih_15 (g_16 + 1) _ _ _ ⟨hv_37, hv_38, hw, lv_sub hl [1, 2, 0] rfl⟩ hm_39
            · skip
              refine lv_aload_n hx hb dX8_who_58 rfl (lv_at hl 0 rfl) ?_
              refine va_get (D := D) (ci := 8) (v := .ref (oM 10)) (C := RX8) (T := TX8) (N := 36) hx hb hts hinX8 hown hK hw.1 0 rfl rfl 28 (by decide) (hts (.fieldLink RX8 47 "CarnivalRoadModel" "head" "[I") (by decide +kernel)) (fun _ h9 => h9) rfl dX8_who_59 ?_
              refine lv_iload_n hx hb dX8_who_62 rfl (lv_at hl 2 rfl) ?_
              have hi_40 : (0 : Int) ≤ g_16 ∧ g_16 < ((16 : Nat) : Int) := by
                first | assumption | omega | grind
              refine z_iald (n := 16) (f := Mhead) hx hb hK hw 10 rfl (by decide) hi_40 dX8_who_63 ?_
              have hq_41 : -1 ≤ Mhead g_16 ∧ Mhead g_16 ≤ 60 := qMhead g_16
              refine lv_iload_n hx hb dX8_who_64 rfl (lv_at hl 1 rfl) ?_
              refine z_icmp_lt (tgt := 70) hx hb dX8_who_65 (by decide) (by omega) (fun hc_42 => ?_) (fun hc_42 => ?_)
              · skip
                refine z_iinc (k := 2) (lv' := [(2, .int (zI (g_16 + 1))), (0, .ref (oM 0)), (1, .int (zI c))]) hx hb dX8_who_70 hl rfl (by decide) rfl (fun ls hl => ?_)
                refine lv_goto (tgt := 24) hx hb dX8_who_73 (by decide) ?_
                have hv_43 : 0 ≤ (g_16 + 1) ∧ (g_16 + 1) ≤ Mmany := by
                  first | assumption | omega | grind
                have hv_44 : ∀ g, 0 ≤ g → g < (g_16 + 1) → ¬ ((Mout (g) = 0 ∧ 0 ≤ Mhead (g)) ∧ Mhead (0 + g) - Mguest (5 * g + 1) + 1 ≤ c ∧ c ≤ Mhead (g)) := by
                  refine all_s (by assumption) ?_
                  omega
                have hm_45 : (9 - (g_16 + 1)).toNat < (9 - g_16).toNat := by
                  first | assumption | omega | grind
                exact ih_15 (g_16 + 1) _ _ _ ⟨hv_43, hv_44, hw, lv_sub hl [1, 2, 0] rfl⟩ hm_45
              · skip
                refine lv_iload_n hx hb dX8_who_68 rfl (lv_at hl 2 rfl) ?_
                have hv_46 : (0 : Int) ≤ Mthrown_4 ∧ Mthrown_4 ≤ 2 := by
                  first | assumption | omega | grind
                have hv_47 : (Mruns = 0 ∧ Mthrown_4 = 1) ∨ (Mruns = 1 ∧ Mthrown_4 = 0 ∧ ((g_16 = -1 ∧ (¬ (0 ≤ c ∧ c < Mcells) ∨ ∀ g, 0 ≤ g → g < Mmany → ¬ ((Mout (g) = 0 ∧ 0 ≤ Mhead (g)) ∧ Mhead (0 + g) - Mguest (5 * g + 1) + 1 ≤ c ∧ c ≤ Mhead (g)))) ∨ ((0 ≤ g_16 ∧ g_16 < Mmany) ∧ (0 ≤ c ∧ c < Mcells) ∧ ((Mout (g_16) = 0 ∧ 0 ≤ Mhead (g_16)) ∧ Mhead (0 + g_16) - Mguest (5 * g_16 + 1) + 1 ≤ c ∧ c ≤ Mhead (g_16))))) := by
                  exact Or.inr ⟨by omega, by omega, Or.inr ⟨by omega, by omega, by omega⟩⟩
                exact W.iret (v := zI g_16) hx hb hr (fun t9 ht hW => ⟨⟨zI g_16, (g_16, Mthrown_4), rfl, ⟨rfl, ⟨hv_46, hv_47⟩⟩, by subst hAe; exact z_end hK hw ht hW⟩, by subst hAe; exact hw.2.2.F ht⟩) (by subst hAe; exact hw.2.2.2.2) dX8_who_69
          · skip
            refine z_if_eq (tgt := 70) hx hb dX8_who_45 (by decide) (by omega) (fun hc_48 => ?_) (fun hc_48 => absurd hc_48 (by omega))
            refine z_iinc (k := 2) (lv' := [(2, .int (zI (g_16 + 1))), (0, .ref (oM 0)), (1, .int (zI c))]) hx hb dX8_who_70 hl rfl (by decide) rfl (fun ls hl => ?_)
            refine lv_goto (tgt := 24) hx hb dX8_who_73 (by decide) ?_
            have hv_49 : 0 ≤ (g_16 + 1) ∧ (g_16 + 1) ≤ Mmany := by
              first | assumption | omega | grind
            have hv_50 : ∀ g, 0 ≤ g → g < (g_16 + 1) → ¬ ((Mout (g) = 0 ∧ 0 ≤ Mhead (g)) ∧ Mhead (0 + g) - Mguest (5 * g + 1) + 1 ≤ c ∧ c ≤ Mhead (g)) := by
              refine all_s (by assumption) ?_
              omega
            have hm_51 : (9 - (g_16 + 1)).toNat < (9 - g_16).toNat := by
              first | assumption | omega | grind
            exact ih_15 (g_16 + 1) _ _ _ ⟨hv_49, hv_50, hw, lv_sub hl [1, 2, 0] rfl⟩ hm_51
        · skip
          refine z_if_eq (tgt := 76) hx hb dX8_who_37 (by decide) (by omega) (fun hc_52 => ?_) (fun hc_52 => absurd hc_52 (by omega))
          refine z_iconst hx hb dX8_who_76 ?_
          have hv_53 : (0 : Int) ≤ Mthrown_4 ∧ Mthrown_4 ≤ 2 := by
            first | assumption | omega | grind
          have hv_54 : (Mruns = 0 ∧ Mthrown_4 = 1) ∨ (Mruns = 1 ∧ Mthrown_4 = 0 ∧ ((((-1) : Int) = -1 ∧ (¬ (0 ≤ c ∧ c < Mcells) ∨ ∀ g, 0 ≤ g → g < Mmany → ¬ ((Mout (g) = 0 ∧ 0 ≤ Mhead (g)) ∧ Mhead (0 + g) - Mguest (5 * g + 1) + 1 ≤ c ∧ c ≤ Mhead (g)))) ∨ ((0 ≤ ((-1) : Int) ∧ ((-1) : Int) < Mmany) ∧ (0 ≤ c ∧ c < Mcells) ∧ ((Mout (((-1) : Int)) = 0 ∧ 0 ≤ Mhead (((-1) : Int))) ∧ Mhead (0 + ((-1) : Int)) - Mguest (5 * ((-1) : Int) + 1) + 1 ≤ c ∧ c ≤ Mhead (((-1) : Int)))))) := by
            first | exact Or.inr ⟨by omega, by omega, Or.inl ⟨rfl, Or.inl (by omega)⟩⟩ | exact Or.inr ⟨by omega, by omega, Or.inl ⟨rfl, Or.inr (all_le (by assumption) (by omega))⟩⟩
          exact W.iret (v := zI (-1)) hx hb hr (fun t9 ht hW => ⟨⟨zI (-1), ((-1), Mthrown_4), rfl, ⟨rfl, ⟨hv_53, hv_54⟩⟩, by subst hAe; exact z_end hK hw ht hW⟩, by subst hAe; exact hw.2.2.F ht⟩) (by subst hAe; exact hw.2.2.2.2) dX8_who_77
  · skip
    refine z_iconst hx hb dX8_who_8 ?_
    refine lv_goto (tgt := 13) hx hb dX8_who_9 (by decide) ?_
    refine z_iconst hx hb dX8_who_13 ?_
    have hF9 := z_free (wc := kM cI cB cZ oM Mthrown Mmany Mguest Mrow Mbars Mbar Mfresh Mtape Mtaped Mpos Mtoken MtokenAt Mvalue Mwrong MwrongAt MfaultKind MfaultPlace Mthing Morder Mone Mtwo Mbest Mcells Mgap Mwire Mstand Mruns Mminute Mhead Mplays Mrests Mwent Mout Mcame Mgone MlastOut) hw hA [0, 1, 2, 3, 4, 5, 6, 7, 8, 9, 10, 11, 12, 13, 14, 15, 16] rfl
    refine va_calli (va_runV (As := [.int (zI 1), .int (zI 0)]) (rest := []) ⟨hx, hb, hml, hown, hts⟩ (c_X8_fails l D cI cB cZ oM s.heap.size Mthrown Mmany Mguest Mrow Mbars Mbar Mfresh Mtape Mtaped Mpos Mtoken MtokenAt Mvalue Mwrong MwrongAt MfaultKind MfaultPlace Mthing Morder Mone Mtwo Mbest Mcells Mgap Mwire Mstand Mruns Mminute Mhead Mplays Mrests Mwent Mout Mcame Mgone MlastOut 1 0 (by omega) (by omega) qMguest qMrow (by omega) qMbar qMfresh qMtape (by omega) (by omega) (by omega) (by omega) (by omega) (by omega) (by omega) (by omega) (by omega) (by omega) qMorder (by omega) (by omega) qMbest (by omega) (by omega) qMwire qMstand (by omega) (by omega) qMhead qMplays qMrests qMwent qMout qMcame qMgone (by omega) (by omega) (by omega)) (cwV 2 hts gX8_who_X8_fails rfl rfl rfl (by decide +kernel) ⟨Nat.le_of_ble_eq_true rfl, Nat.le_of_ble_eq_true rfl⟩) ⟨zPre_blind, va_recv hK hw.1 (ci := 8) (q0 := 0) rfl rfl, z_pre hK hw [0, 1, 2, 3, 4, 5, 6, 7, 8, 9, 10, 11, 12, 13, 14, 15, 16] (by decide) rfl⟩ rfl rfl hl.1 rfl (lv_room (Nat.le_of_ble_eq_true rfl)) dX8_who_14 ⟨Nat.zero_le _, Nat.zero_le _⟩) hw.2.2 (fun q _ h => hF9 q h) hF9 (fun r9 u9 t9 H_55 locs9 ht9 hvm9 hq9 hB9 hz9 hk9 hS9 => ?_)
    obtain ⟨r_56, Mthrown_57⟩ := u9
    try dsimp only at hq9 hB9
    obtain ⟨rfl, hq9⟩ := hq9
    obtain ⟨hq_58, hq_59, hq_60⟩ := hq9
    have hw : HW D A s.heap (kM cI cB cZ oM Mthrown_57 Mmany Mguest Mrow Mbars Mbar Mfresh Mtape Mtaped Mpos Mtoken MtokenAt Mvalue Mwrong MwrongAt MfaultKind MfaultPlace Mthing Morder Mone Mtwo Mbest Mcells Mgap Mwire Mstand Mruns Mminute Mhead Mplays Mrests Mwent Mout Mcame Mgone MlastOut) H_55 locs9 := z_after (wc := kM cI cB cZ oM Mthrown Mmany Mguest Mrow Mbars Mbar Mfresh Mtape Mtaped Mpos Mtoken MtokenAt Mvalue Mwrong MwrongAt MfaultKind MfaultPlace Mthing Morder Mone Mtwo Mbest Mcells Mgap Mwire Mstand Mruns Mminute Mhead Mplays Mrests Mwent Mout Mcame Mgone MlastOut) hw [0, 1, 2, 3, 4, 5, 6, 7, 8, 9, 10, 11, 12, 13, 14, 15, 16] [] rfl rfl (by decide) (by decide) hF9 hk9 ht9 hB9 hS9 [0, 1, 2, 3, 4, 5, 6, 7, 8, 9, 10, 11, 12, 13, 14, 15, 16] (by decide) rfl
    clear hF9 ht9 hvm9 hB9 hz9 hk9 hS9
    rcases hq_59 with ⟨hc_61, rfl⟩ | ⟨hc_61, rfl⟩
    · skip
      refine z_if_eq (tgt := 22) hx hb dX8_who_17 (by decide) (by omega) (fun hc_62 => absurd hc_62 (by omega)) (fun hc_62 => ?_)
      refine z_iconst hx hb dX8_who_20 ?_
      have hv_63 : (0 : Int) ≤ Mthrown_57 ∧ Mthrown_57 ≤ 2 := by
        first | assumption | omega | grind
      have hv_64 : (Mruns = 0 ∧ Mthrown_57 = 1) ∨ (Mruns = 1 ∧ Mthrown_57 = 0 ∧ (((0 : Int) = -1 ∧ (¬ (0 ≤ c ∧ c < Mcells) ∨ ∀ g, 0 ≤ g → g < Mmany → ¬ ((Mout (g) = 0 ∧ 0 ≤ Mhead (g)) ∧ Mhead (0 + g) - Mguest (5 * g + 1) + 1 ≤ c ∧ c ≤ Mhead (g)))) ∨ ((0 ≤ (0 : Int) ∧ (0 : Int) < Mmany) ∧ (0 ≤ c ∧ c < Mcells) ∧ ((Mout ((0 : Int)) = 0 ∧ 0 ≤ Mhead ((0 : Int))) ∧ Mhead (0 + (0 : Int)) - Mguest (5 * (0 : Int) + 1) + 1 ≤ c ∧ c ≤ Mhead ((0 : Int)))))) := by
        exact Or.inl ⟨by omega, by omega⟩
      exact W.iret (v := zI 0) hx hb hr (fun t9 ht hW => ⟨⟨zI 0, (0, Mthrown_57), rfl, ⟨rfl, ⟨hv_63, hv_64⟩⟩, by subst hAe; exact z_end hK hw ht hW⟩, by subst hAe; exact hw.2.2.F ht⟩) (by subst hAe; exact hw.2.2.2.2) dX8_who_21
    · skip
      refine z_if_eq (tgt := 22) hx hb dX8_who_17 (by decide) (by omega) (fun hc_65 => ?_) (fun hc_65 => absurd hc_65 (by omega))
      refine z_iconst hx hb dX8_who_22 ?_
      refine lv_istore_n (lv' := [(2, .int (zI 0)), (0, .ref (oM 0)), (1, .int (zI c))]) hx hb dX8_who_23 rfl hl (by decide) rfl (fun ls hl => ?_)
      have hv_66 : 0 ≤ (0 : Int) ∧ (0 : Int) ≤ Mmany := by
        first | assumption | omega | grind
      have hv_67 : ∀ g, 0 ≤ g → g < (0 : Int) → ¬ ((Mout (g) = 0 ∧ 0 ≤ Mhead (g)) ∧ Mhead (0 + g) - Mguest (5 * g + 1) + 1 ≤ c ∧ c ≤ Mhead (g)) := by
        exact all_0
      refine z_loop (σ := Int) (μ := fun x9 => (9 - x9).toNat) (I := fun x9 H locs ls => (0 ≤ x9 ∧ x9 ≤ Mmany) ∧ (∀ g, 0 ≤ g → g < x9 → ¬ ((Mout (g) = 0 ∧ 0 ≤ Mhead (g)) ∧ Mhead (0 + g) - Mguest (5 * g + 1) + 1 ≤ c ∧ c ≤ Mhead (g))) ∧ HW D A s.heap (kM cI cB cZ oM Mthrown_57 Mmany Mguest Mrow Mbars Mbar Mfresh Mtape Mtaped Mpos Mtoken MtokenAt Mvalue Mwrong MwrongAt MfaultKind MfaultPlace Mthing Morder Mone Mtwo Mbest Mcells Mgap Mwire Mstand Mruns Mminute Mhead Mplays Mrests Mwent Mout Mcame Mgone MlastOut) H locs ∧ lv_has ls 3 [(0, .ref (oM 0)), (1, .int (zI c)), (2, .int (zI x9))]) 0 ⟨hv_66, hv_67, hw, lv_sub hl [1, 2, 0] rfl⟩ ?_
      clear hw hl
      intro g_69 H locs ls hI ih_68
      try dsimp only at hI
      obtain ⟨hI_70, hI_71, hw, hl⟩ := hI
      refine lv_iload_n hx hb dX8_who_24 rfl (lv_at hl 2 rfl) ?_
      refine lv_aload_n hx hb dX8_who_25 rfl (lv_at hl 0 rfl) ?_
      refine va_get (D := D) (ci := 8) (v := .int (zI Mmany)) (C := RX8) (T := TX8) (N := 36) hx hb hts hinX8 hown hK hw.1 0 rfl rfl 1 (by decide) (hts (.fieldLink RX8 72 "CarnivalRoadModel" "many" "I") (by decide +kernel)) (fun _ h9 => h9) rfl dX8_who_26 ?_
      refine z_icmp_ge (tgt := 76) hx hb dX8_who_29 (by decide) (by omega) (fun hc_72 => ?_) (fun hc_72 => ?_)
      · skip
        refine z_iconst hx hb dX8_who_76 ?_
        have hv_73 : (0 : Int) ≤ Mthrown_57 ∧ Mthrown_57 ≤ 2 := by
          first | assumption | omega | grind
        have hv_74 : (Mruns = 0 ∧ Mthrown_57 = 1) ∨ (Mruns = 1 ∧ Mthrown_57 = 0 ∧ ((((-1) : Int) = -1 ∧ (¬ (0 ≤ c ∧ c < Mcells) ∨ ∀ g, 0 ≤ g → g < Mmany → ¬ ((Mout (g) = 0 ∧ 0 ≤ Mhead (g)) ∧ Mhead (0 + g) - Mguest (5 * g + 1) + 1 ≤ c ∧ c ≤ Mhead (g)))) ∨ ((0 ≤ ((-1) : Int) ∧ ((-1) : Int) < Mmany) ∧ (0 ≤ c ∧ c < Mcells) ∧ ((Mout (((-1) : Int)) = 0 ∧ 0 ≤ Mhead (((-1) : Int))) ∧ Mhead (0 + ((-1) : Int)) - Mguest (5 * ((-1) : Int) + 1) + 1 ≤ c ∧ c ≤ Mhead (((-1) : Int)))))) := by
          first | exact Or.inr ⟨by omega, by omega, Or.inl ⟨rfl, Or.inl (by omega)⟩⟩ | exact Or.inr ⟨by omega, by omega, Or.inl ⟨rfl, Or.inr (all_le (by assumption) (by omega))⟩⟩
        exact W.iret (v := zI (-1)) hx hb hr (fun t9 ht hW => ⟨⟨zI (-1), ((-1), Mthrown_57), rfl, ⟨rfl, ⟨hv_73, hv_74⟩⟩, by subst hAe; exact z_end hK hw ht hW⟩, by subst hAe; exact hw.2.2.F ht⟩) (by subst hAe; exact hw.2.2.2.2) dX8_who_77
      · skip
        refine lv_aload_n hx hb dX8_who_32 rfl (lv_at hl 0 rfl) ?_
        refine lv_iload_n hx hb dX8_who_33 rfl (lv_at hl 1 rfl) ?_
        have hF9 := z_free (wc := kM cI cB cZ oM Mthrown_57 Mmany Mguest Mrow Mbars Mbar Mfresh Mtape Mtaped Mpos Mtoken MtokenAt Mvalue Mwrong MwrongAt MfaultKind MfaultPlace Mthing Morder Mone Mtwo Mbest Mcells Mgap Mwire Mstand Mruns Mminute Mhead Mplays Mrests Mwent Mout Mcame Mgone MlastOut) hw hA [0, 1, 2, 3, 4, 5, 6, 7, 8, 9, 10, 11, 12, 13, 14, 15, 16] rfl
        refine va_calli (va_runV (As := [.int (zI c)]) (rest := []) ⟨hx, hb, hml, hown, hts⟩ (c_X8_isCell l D cI cB cZ oM H.size Mthrown_57 Mmany Mguest Mrow Mbars Mbar Mfresh Mtape Mtaped Mpos Mtoken MtokenAt Mvalue Mwrong MwrongAt MfaultKind MfaultPlace Mthing Morder Mone Mtwo Mbest Mcells Mgap Mwire Mstand Mruns Mminute Mhead Mplays Mrests Mwent Mout Mcame Mgone MlastOut c (by omega) (by omega) qMguest qMrow (by omega) qMbar qMfresh qMtape (by omega) (by omega) (by omega) (by omega) (by omega) (by omega) (by omega) (by omega) (by omega) (by omega) qMorder (by omega) (by omega) qMbest (by omega) (by omega) qMwire qMstand (by omega) (by omega) qMhead qMplays qMrests qMwent qMout qMcame qMgone (by omega) (by omega)) (cwV 1 hts gX8_who_X8_isCell rfl rfl rfl (by decide +kernel) ⟨Nat.le_of_ble_eq_true rfl, Nat.le_of_ble_eq_true rfl⟩) ⟨zPre_blind, va_recv hK hw.1 (ci := 8) (q0 := 0) rfl rfl, z_pre hK hw [0, 1, 2, 3, 4, 5, 6, 7, 8, 9, 10, 11, 12, 13, 14, 15, 16] (by decide) rfl⟩ rfl rfl hl.1 rfl (lv_room (Nat.le_of_ble_eq_true rfl)) dX8_who_34 ⟨Nat.zero_le _, Nat.zero_le _⟩) hw.2.2 (fun q _ h => hF9 q h) hF9 (fun r9 u9 t9 H_75 locs9 ht9 hvm9 hq9 hB9 hz9 hk9 hS9 => ?_)
        obtain ⟨r_76, rfl⟩ : ∃ z, z = u9 := ⟨_, rfl⟩
        try dsimp only at hq9 hB9
        obtain ⟨rfl, hq9⟩ := hq9
        have hq_77 := hq9
        have hw : HW D A s.heap (kM cI cB cZ oM Mthrown_57 Mmany Mguest Mrow Mbars Mbar Mfresh Mtape Mtaped Mpos Mtoken MtokenAt Mvalue Mwrong MwrongAt MfaultKind MfaultPlace Mthing Morder Mone Mtwo Mbest Mcells Mgap Mwire Mstand Mruns Mminute Mhead Mplays Mrests Mwent Mout Mcame Mgone MlastOut) H_75 locs9 := z_after (wc := kM cI cB cZ oM Mthrown_57 Mmany Mguest Mrow Mbars Mbar Mfresh Mtape Mtaped Mpos Mtoken MtokenAt Mvalue Mwrong MwrongAt MfaultKind MfaultPlace Mthing Morder Mone Mtwo Mbest Mcells Mgap Mwire Mstand Mruns Mminute Mhead Mplays Mrests Mwent Mout Mcame Mgone MlastOut) hw [0, 1, 2, 3, 4, 5, 6, 7, 8, 9, 10, 11, 12, 13, 14, 15, 16] [] rfl rfl (by decide) (by decide) hF9 hk9 ht9 hB9 hS9 [0, 1, 2, 3, 4, 5, 6, 7, 8, 9, 10, 11, 12, 13, 14, 15, 16] (by decide) rfl
        clear hF9 ht9 hvm9 hB9 hz9 hk9 hS9 hq9
        rcases hq_77 with ⟨hc_78, rfl⟩ | ⟨hc_78, rfl⟩
        · skip
          refine z_if_eq (tgt := 76) hx hb dX8_who_37 (by decide) (by omega) (fun hc_79 => absurd hc_79 (by omega)) (fun hc_79 => ?_)
          refine lv_aload_n hx hb dX8_who_40 rfl (lv_at hl 0 rfl) ?_
          refine lv_iload_n hx hb dX8_who_41 rfl (lv_at hl 2 rfl) ?_
          have hF9 := z_free (wc := kM cI cB cZ oM Mthrown_57 Mmany Mguest Mrow Mbars Mbar Mfresh Mtape Mtaped Mpos Mtoken MtokenAt Mvalue Mwrong MwrongAt MfaultKind MfaultPlace Mthing Morder Mone Mtwo Mbest Mcells Mgap Mwire Mstand Mruns Mminute Mhead Mplays Mrests Mwent Mout Mcame Mgone MlastOut) hw hA [0, 1, 2, 3, 4, 5, 6, 7, 8, 9, 10, 11, 12, 13, 14, 15, 16] rfl
          refine va_calli (va_runV (As := [.int (zI g_69)]) (rest := []) ⟨hx, hb, hml, hown, hts⟩ (c_X8_isOn l D cI cB cZ oM H_75.size Mthrown_57 Mmany Mguest Mrow Mbars Mbar Mfresh Mtape Mtaped Mpos Mtoken MtokenAt Mvalue Mwrong MwrongAt MfaultKind MfaultPlace Mthing Morder Mone Mtwo Mbest Mcells Mgap Mwire Mstand Mruns Mminute Mhead Mplays Mrests Mwent Mout Mcame Mgone MlastOut g_69 (by omega) (by omega) qMguest qMrow (by omega) qMbar qMfresh qMtape (by omega) (by omega) (by omega) (by omega) (by omega) (by omega) (by omega) (by omega) (by omega) (by omega) qMorder (by omega) (by omega) qMbest (by omega) (by omega) qMwire qMstand (by omega) (by omega) qMhead qMplays qMrests qMwent qMout qMcame qMgone (by omega) (by omega)) (cwV 1 hts gX8_who_X8_isOn rfl rfl rfl (by decide +kernel) ⟨Nat.le_of_ble_eq_true rfl, Nat.le_of_ble_eq_true rfl⟩) ⟨zPre_blind, va_recv hK hw.1 (ci := 8) (q0 := 0) rfl rfl, z_pre hK hw [0, 1, 2, 3, 4, 5, 6, 7, 8, 9, 10, 11, 12, 13, 14, 15, 16] (by decide) rfl⟩ rfl rfl hl.1 rfl (lv_room (Nat.le_of_ble_eq_true rfl)) dX8_who_42 ⟨Nat.zero_le _, Nat.zero_le _⟩) hw.2.2 (fun q _ h => hF9 q h) hF9 (fun r9 u9 t9 H_80 locs9 ht9 hvm9 hq9 hB9 hz9 hk9 hS9 => ?_)
          obtain ⟨r_81, rfl⟩ : ∃ z, z = u9 := ⟨_, rfl⟩
          try dsimp only at hq9 hB9
          obtain ⟨rfl, hq9⟩ := hq9
          have hq_82 := hq9
          have hw : HW D A s.heap (kM cI cB cZ oM Mthrown_57 Mmany Mguest Mrow Mbars Mbar Mfresh Mtape Mtaped Mpos Mtoken MtokenAt Mvalue Mwrong MwrongAt MfaultKind MfaultPlace Mthing Morder Mone Mtwo Mbest Mcells Mgap Mwire Mstand Mruns Mminute Mhead Mplays Mrests Mwent Mout Mcame Mgone MlastOut) H_80 locs9 := z_after (wc := kM cI cB cZ oM Mthrown_57 Mmany Mguest Mrow Mbars Mbar Mfresh Mtape Mtaped Mpos Mtoken MtokenAt Mvalue Mwrong MwrongAt MfaultKind MfaultPlace Mthing Morder Mone Mtwo Mbest Mcells Mgap Mwire Mstand Mruns Mminute Mhead Mplays Mrests Mwent Mout Mcame Mgone MlastOut) hw [0, 1, 2, 3, 4, 5, 6, 7, 8, 9, 10, 11, 12, 13, 14, 15, 16] [] rfl rfl (by decide) (by decide) hF9 hk9 ht9 hB9 hS9 [0, 1, 2, 3, 4, 5, 6, 7, 8, 9, 10, 11, 12, 13, 14, 15, 16] (by decide) rfl
          clear hF9 ht9 hvm9 hB9 hz9 hk9 hS9 hq9
          rcases hq_82 with ⟨hc_83, rfl⟩ | ⟨hc_83, rfl⟩
          · skip
            refine z_if_eq (tgt := 70) hx hb dX8_who_45 (by decide) (by omega) (fun hc_84 => absurd hc_84 (by omega)) (fun hc_84 => ?_)
            refine lv_aload_n hx hb dX8_who_48 rfl (lv_at hl 0 rfl) ?_
            refine z_iconst hx hb dX8_who_49 ?_
            refine lv_iload_n hx hb dX8_who_50 rfl (lv_at hl 2 rfl) ?_
            have hF9 := z_free (wc := kM cI cB cZ oM Mthrown_57 Mmany Mguest Mrow Mbars Mbar Mfresh Mtape Mtaped Mpos Mtoken MtokenAt Mvalue Mwrong MwrongAt MfaultKind MfaultPlace Mthing Morder Mone Mtwo Mbest Mcells Mgap Mwire Mstand Mruns Mminute Mhead Mplays Mrests Mwent Mout Mcame Mgone MlastOut) hw hA [0, 1, 2, 3, 4, 5, 6, 7, 8, 9, 10, 11, 12, 13, 14, 15, 16] rfl
            refine va_calli (va_runV (As := [.int (zI 0), .int (zI g_69)]) (rest := []) ⟨hx, hb, hml, hown, hts⟩ (c_X8_tail l D cI cB cZ oM H_80.size Mthrown_57 Mmany Mguest Mrow Mbars Mbar Mfresh Mtape Mtaped Mpos Mtoken MtokenAt Mvalue Mwrong MwrongAt MfaultKind MfaultPlace Mthing Morder Mone Mtwo Mbest Mcells Mgap Mwire Mstand Mruns Mminute Mhead Mplays Mrests Mwent Mout Mcame Mgone MlastOut 0 g_69 (by omega) (by omega) qMguest qMrow (by omega) qMbar qMfresh qMtape (by omega) (by omega) (by omega) (by omega) (by omega) (by omega) (by omega) (by omega) (by omega) (by omega) qMorder (by omega) (by omega) qMbest (by omega) (by omega) qMwire qMstand (by omega) (by omega) qMhead qMplays qMrests qMwent qMout qMcame qMgone (by omega) (by omega) (by omega)) (cwV 2 hts gX8_who_X8_tail rfl rfl rfl (by decide +kernel) ⟨Nat.le_of_ble_eq_true rfl, Nat.le_of_ble_eq_true rfl⟩) ⟨zPre_blind, va_recv hK hw.1 (ci := 8) (q0 := 0) rfl rfl, z_pre hK hw [0, 1, 2, 3, 4, 5, 6, 7, 8, 9, 10, 11, 12, 13, 14, 15, 16] (by decide) rfl⟩ rfl rfl hl.1 rfl (lv_room (Nat.le_of_ble_eq_true rfl)) dX8_who_51 ⟨Nat.zero_le _, Nat.zero_le _⟩) hw.2.2 (fun q _ h => hF9 q h) hF9 (fun r9 u9 t9 H_85 locs9 ht9 hvm9 hq9 hB9 hz9 hk9 hS9 => ?_)
            obtain ⟨r_86, rfl⟩ : ∃ z, z = u9 := ⟨_, rfl⟩
            try dsimp only at hq9 hB9
            obtain ⟨rfl, hq9⟩ := hq9
            obtain ⟨hq_87, hq_88⟩ := hq9
            have hw : HW D A s.heap (kM cI cB cZ oM Mthrown_57 Mmany Mguest Mrow Mbars Mbar Mfresh Mtape Mtaped Mpos Mtoken MtokenAt Mvalue Mwrong MwrongAt MfaultKind MfaultPlace Mthing Morder Mone Mtwo Mbest Mcells Mgap Mwire Mstand Mruns Mminute Mhead Mplays Mrests Mwent Mout Mcame Mgone MlastOut) H_85 locs9 := z_after (wc := kM cI cB cZ oM Mthrown_57 Mmany Mguest Mrow Mbars Mbar Mfresh Mtape Mtaped Mpos Mtoken MtokenAt Mvalue Mwrong MwrongAt MfaultKind MfaultPlace Mthing Morder Mone Mtwo Mbest Mcells Mgap Mwire Mstand Mruns Mminute Mhead Mplays Mrests Mwent Mout Mcame Mgone MlastOut) hw [0, 1, 2, 3, 4, 5, 6, 7, 8, 9, 10, 11, 12, 13, 14, 15, 16] [] rfl rfl (by decide) (by decide) hF9 hk9 ht9 hB9 hS9 [0, 1, 2, 3, 4, 5, 6, 7, 8, 9, 10, 11, 12, 13, 14, 15, 16] (by decide) rfl
            clear hF9 ht9 hvm9 hB9 hz9 hk9 hS9
            refine lv_iload_n hx hb dX8_who_54 rfl (lv_at hl 1 rfl) ?_
            refine z_icmp_gt (tgt := 70) hx hb dX8_who_55 (by decide) (by omega) (fun hc_89 => ?_) (fun hc_89 => ?_)
            · skip
              refine z_iinc (k := 2) (lv' := [(2, .int (zI (g_69 + 1))), (0, .ref (oM 0)), (1, .int (zI c))]) hx hb dX8_who_70 hl rfl (by decide) rfl (fun ls hl => ?_)
              refine lv_goto (tgt := 24) hx hb dX8_who_73 (by decide) ?_
              have hv_90 : 0 ≤ (g_69 + 1) ∧ (g_69 + 1) ≤ Mmany := by
                first | assumption | omega | grind
              have hv_91 : ∀ g, 0 ≤ g → g < (g_69 + 1) → ¬ ((Mout (g) = 0 ∧ 0 ≤ Mhead (g)) ∧ Mhead (0 + g) - Mguest (5 * g + 1) + 1 ≤ c ∧ c ≤ Mhead (g)) := by
                refine all_s (by assumption) ?_
                omega
              have hm_92 : (9 - (g_69 + 1)).toNat < (9 - g_69).toNat := by
                first | assumption | omega | grind
              exact ih_68 (g_69 + 1) _ _ _ ⟨hv_90, hv_91, hw, lv_sub hl [1, 2, 0] rfl⟩ hm_92
            · skip
              refine lv_aload_n hx hb dX8_who_58 rfl (lv_at hl 0 rfl) ?_
              refine va_get (D := D) (ci := 8) (v := .ref (oM 10)) (C := RX8) (T := TX8) (N := 36) hx hb hts hinX8 hown hK hw.1 0 rfl rfl 28 (by decide) (hts (.fieldLink RX8 47 "CarnivalRoadModel" "head" "[I") (by decide +kernel)) (fun _ h9 => h9) rfl dX8_who_59 ?_
              refine lv_iload_n hx hb dX8_who_62 rfl (lv_at hl 2 rfl) ?_
              have hi_93 : (0 : Int) ≤ g_69 ∧ g_69 < ((16 : Nat) : Int) := by
                first | assumption | omega | grind
              refine z_iald (n := 16) (f := Mhead) hx hb hK hw 10 rfl (by decide) hi_93 dX8_who_63 ?_
              have hq_94 : -1 ≤ Mhead g_69 ∧ Mhead g_69 ≤ 60 := qMhead g_69
              refine lv_iload_n hx hb dX8_who_64 rfl (lv_at hl 1 rfl) ?_
              refine z_icmp_lt (tgt := 70) hx hb dX8_who_65 (by decide) (by omega) (fun hc_95 => ?_) (fun hc_95 => ?_)
              · skip
                refine z_iinc (k := 2) (lv' := [(2, .int (zI (g_69 + 1))), (0, .ref (oM 0)), (1, .int (zI c))]) hx hb dX8_who_70 hl rfl (by decide) rfl (fun ls hl => ?_)
                refine lv_goto (tgt := 24) hx hb dX8_who_73 (by decide) ?_
                have hv_96 : 0 ≤ (g_69 + 1) ∧ (g_69 + 1) ≤ Mmany := by
                  first | assumption | omega | grind
                have hv_97 : ∀ g, 0 ≤ g → g < (g_69 + 1) → ¬ ((Mout (g) = 0 ∧ 0 ≤ Mhead (g)) ∧ Mhead (0 + g) - Mguest (5 * g + 1) + 1 ≤ c ∧ c ≤ Mhead (g)) := by
                  refine all_s (by assumption) ?_
                  omega
                have hm_98 : (9 - (g_69 + 1)).toNat < (9 - g_69).toNat := by
                  first | assumption | omega | grind
                exact ih_68 (g_69 + 1) _ _ _ ⟨hv_96, hv_97, hw, lv_sub hl [1, 2, 0] rfl⟩ hm_98
              · skip
                refine lv_iload_n hx hb dX8_who_68 rfl (lv_at hl 2 rfl) ?_
                have hv_99 : (0 : Int) ≤ Mthrown_57 ∧ Mthrown_57 ≤ 2 := by
                  first | assumption | omega | grind
                have hv_100 : (Mruns = 0 ∧ Mthrown_57 = 1) ∨ (Mruns = 1 ∧ Mthrown_57 = 0 ∧ ((g_69 = -1 ∧ (¬ (0 ≤ c ∧ c < Mcells) ∨ ∀ g, 0 ≤ g → g < Mmany → ¬ ((Mout (g) = 0 ∧ 0 ≤ Mhead (g)) ∧ Mhead (0 + g) - Mguest (5 * g + 1) + 1 ≤ c ∧ c ≤ Mhead (g)))) ∨ ((0 ≤ g_69 ∧ g_69 < Mmany) ∧ (0 ≤ c ∧ c < Mcells) ∧ ((Mout (g_69) = 0 ∧ 0 ≤ Mhead (g_69)) ∧ Mhead (0 + g_69) - Mguest (5 * g_69 + 1) + 1 ≤ c ∧ c ≤ Mhead (g_69))))) := by
                  exact Or.inr ⟨by omega, by omega, Or.inr ⟨by omega, by omega, by omega⟩⟩
                exact W.iret (v := zI g_69) hx hb hr (fun t9 ht hW => ⟨⟨zI g_69, (g_69, Mthrown_57), rfl, ⟨rfl, ⟨hv_99, hv_100⟩⟩, by subst hAe; exact z_end hK hw ht hW⟩, by subst hAe; exact hw.2.2.F ht⟩) (by subst hAe; exact hw.2.2.2.2) dX8_who_69
          · skip
            refine z_if_eq (tgt := 70) hx hb dX8_who_45 (by decide) (by omega) (fun hc_101 => ?_) (fun hc_101 => absurd hc_101 (by omega))
            refine z_iinc (k := 2) (lv' := [(2, .int (zI (g_69 + 1))), (0, .ref (oM 0)), (1, .int (zI c))]) hx hb dX8_who_70 hl rfl (by decide) rfl (fun ls hl => ?_)
            refine lv_goto (tgt := 24) hx hb dX8_who_73 (by decide) ?_
            have hv_102 : 0 ≤ (g_69 + 1) ∧ (g_69 + 1) ≤ Mmany := by
              first | assumption | omega | grind
            have hv_103 : ∀ g, 0 ≤ g → g < (g_69 + 1) → ¬ ((Mout (g) = 0 ∧ 0 ≤ Mhead (g)) ∧ Mhead (0 + g) - Mguest (5 * g + 1) + 1 ≤ c ∧ c ≤ Mhead (g)) := by
              refine all_s (by assumption) ?_
              omega
            have hm_104 : (9 - (g_69 + 1)).toNat < (9 - g_69).toNat := by
              first | assumption | omega | grind
            exact ih_68 (g_69 + 1) _ _ _ ⟨hv_102, hv_103, hw, lv_sub hl [1, 2, 0] rfl⟩ hm_104
        · skip
          refine z_if_eq (tgt := 76) hx hb dX8_who_37 (by decide) (by omega) (fun hc_105 => ?_) (fun hc_105 => absurd hc_105 (by omega))
          refine z_iconst hx hb dX8_who_76 ?_
          have hv_106 : (0 : Int) ≤ Mthrown_57 ∧ Mthrown_57 ≤ 2 := by
            first | assumption | omega | grind
          have hv_107 : (Mruns = 0 ∧ Mthrown_57 = 1) ∨ (Mruns = 1 ∧ Mthrown_57 = 0 ∧ ((((-1) : Int) = -1 ∧ (¬ (0 ≤ c ∧ c < Mcells) ∨ ∀ g, 0 ≤ g → g < Mmany → ¬ ((Mout (g) = 0 ∧ 0 ≤ Mhead (g)) ∧ Mhead (0 + g) - Mguest (5 * g + 1) + 1 ≤ c ∧ c ≤ Mhead (g)))) ∨ ((0 ≤ ((-1) : Int) ∧ ((-1) : Int) < Mmany) ∧ (0 ≤ c ∧ c < Mcells) ∧ ((Mout (((-1) : Int)) = 0 ∧ 0 ≤ Mhead (((-1) : Int))) ∧ Mhead (0 + ((-1) : Int)) - Mguest (5 * ((-1) : Int) + 1) + 1 ≤ c ∧ c ≤ Mhead (((-1) : Int)))))) := by
            first | exact Or.inr ⟨by omega, by omega, Or.inl ⟨rfl, Or.inl (by omega)⟩⟩ | exact Or.inr ⟨by omega, by omega, Or.inl ⟨rfl, Or.inr (all_le (by assumption) (by omega))⟩⟩
          exact W.iret (v := zI (-1)) hx hb hr (fun t9 ht hW => ⟨⟨zI (-1), ((-1), Mthrown_57), rfl, ⟨rfl, ⟨hv_106, hv_107⟩⟩, by subst hAe; exact z_end hK hw ht hW⟩, by subst hAe; exact hw.2.2.F ht⟩) (by subst hAe; exact hw.2.2.2.2) dX8_who_77
