set_option maxRecDepth 100000 in
set_option maxHeartbeats 4000000 in
theorem c_X8_guest (l : Launch) (D : va_G) (cI cB cZ : ClassId) (oM : Nat → Nat) (sz : Nat) (Mthrown : Int) (Mmany : Int) (Mguest : Int → Int) (Mrow : Int → Int) (Mbars : Int) (Mbar : Int → Int) (Mfresh : Int → Int) (Mtape : Int → Int) (Mtaped : Int) (Mpos : Int) (Mtoken : Int) (MtokenAt : Int) (Mvalue : Int) (Mwrong : Int) (MwrongAt : Int) (MfaultKind : Int) (MfaultPlace : Int) (Mthing : Int) (Morder : Int → Int) (Mone : Int) (Mtwo : Int) (Mbest : Int → Int) (Mcells : Int) (Mgap : Int) (Mwire : Int → Int) (Mstand : Int → Int) (Mruns : Int) (Mminute : Int) (Mhead : Int → Int) (Mplays : Int → Int) (Mrests : Int → Int) (Mwent : Int → Int) (Mout : Int → Int) (Mcame : Int → Int) (Mgone : Int → Int) (MlastOut : Int) (k : Int) (le : Int) (lo : Int) (ta : Int) (sh : Int) (qMthrown : 0 ≤ Mthrown ∧ Mthrown ≤ 2) (qMmany : 0 ≤ Mmany ∧ Mmany ≤ 8) (qMguest : RA Mguest (0) 9) (qMrow : RA Mrow (0) 7) (qMbars : 0 ≤ Mbars ∧ Mbars ≤ 10) (qMbar : RA Mbar (0) 104) (qMfresh : RA Mfresh (0) 104) (qMtape : RA Mtape (0) 255) (qMtaped : 0 ≤ Mtaped ∧ Mtaped ≤ 400) (qMpos : 0 ≤ Mpos ∧ Mpos ≤ 400) (qMtoken : 0 ≤ Mtoken ∧ Mtoken ≤ 15) (qMtokenAt : 0 ≤ MtokenAt ∧ MtokenAt ≤ 400) (qMvalue : 0 ≤ Mvalue ∧ Mvalue ≤ 99) (qMwrong : 0 ≤ Mwrong ∧ Mwrong ≤ 3) (qMwrongAt : 0 ≤ MwrongAt ∧ MwrongAt ≤ 400) (qMfaultKind : 0 ≤ MfaultKind ∧ MfaultKind ≤ 3) (qMfaultPlace : -1 ≤ MfaultPlace ∧ MfaultPlace ≤ 400) (qMthing : 0 ≤ Mthing ∧ Mthing ≤ 104) (qMorder : RA Morder (0) 7) (qMone : 0 ≤ Mone ∧ Mone ≤ 8) (qMtwo : 0 ≤ Mtwo ∧ Mtwo ≤ 8) (qMbest : RA Mbest (0) 7) (qMcells : 1 ≤ Mcells ∧ Mcells ≤ 50) (qMgap : 0 ≤ Mgap ∧ Mgap ≤ 3) (qMwire : RA Mwire (0) 9) (qMstand : RA Mstand (0) 9) (qMruns : 0 ≤ Mruns ∧ Mruns ≤ 1) (qMminute : 0 ≤ Mminute ∧ Mminute ≤ 1000000) (qMhead : RA Mhead (-1) 60) (qMplays : RA Mplays (0) 18) (qMrests : RA Mrests (0) 3) (qMwent : RA Mwent (0) 61) (qMout : RA Mout (0) 1) (qMcame : RA Mcame (-1) 1000000) (qMgone : RA Mgone (-1) 1000000) (qMlastOut : 0 ≤ MlastOut ∧ MlastOut ≤ 1000000) (qk : -2147483648 ≤ k ∧ k ≤ 2147483647) (qle : -2147483648 ≤ le ∧ le ≤ 2147483647) (qlo : -2147483648 ≤ lo ∧ lo ≤ 2147483647) (qta : -2147483648 ≤ ta ∧ ta ≤ 2147483647) (qsh : -2147483648 ≤ sh ∧ sh ≤ 2147483647) : Met l yX8_guest wsX8_guest ({ frames := 1, cells := 0, slots := 0, locals := 22 }) (va_Pc [.ref (oM 0), .int (zI k), .int (zI le), .int (zI lo), .int (zI ta), .int (zI sh)] (zPre D cI cB cZ sz (kM cI cB cZ oM Mthrown Mmany Mguest Mrow Mbars Mbar Mfresh Mtape Mtaped Mpos Mtoken MtokenAt Mvalue Mwrong MwrongAt MfaultKind MfaultPlace Mthing Morder Mone Mtwo Mbest Mcells Mgap Mwire Mstand Mruns Mminute Mhead Mplays Mrests Mwent Mout Mcame Mgone MlastOut))) (va_Qi (fun (r9 : Int32) (u9 : Int × Int × Int × (Int → Int) × (Int → Int) × Int) => r9 = zI u9.1 ∧ (((0 : Int) ≤ u9.2.1 ∧ u9.2.1 ≤ 2) ∧ ((0 : Int) ≤ u9.2.2.1 ∧ u9.2.2.1 ≤ 8) ∧ (RA u9.2.2.2.1 (0) 9) ∧ (RA u9.2.2.2.2.1 (0) 7) ∧ ((0 : Int) ≤ u9.2.2.2.2.2 ∧ u9.2.2.2.2.2 ≤ 1) ∧ ((canBeP k le lo ta sh ∧ Mmany < 8 ∧ u9.1 = Mmany ∧ u9.2.2.1 = Mmany + 1 ∧ u9.2.2.2.1 = uZ (uZ (uZ (uZ (uZ Mguest (5 * Mmany) k) (5 * Mmany + 1) le) (5 * Mmany + 2) lo) (5 * Mmany + 3) ta) (5 * Mmany + 4) sh ∧ u9.2.2.2.2.2 = 0 ∧ ∀ i, 0 ≤ i → i < Mmany + 1 → u9.2.2.2.2.1 i = i) ∨ (¬ (canBeP k le lo ta sh ∧ Mmany < 8) ∧ u9.1 = -1 ∧ u9.2.2.1 = Mmany ∧ u9.2.2.2.1 = Mguest ∧ u9.2.2.2.2.1 = Mrow ∧ u9.2.2.2.2.2 = Mruns)) ∧ (u9.2.1 = 0))) (fun u9 t9 => zAt D cI cB cZ (va_A (kM cI cB cZ oM Mthrown Mmany Mguest Mrow Mbars Mbar Mfresh Mtape Mtaped Mpos Mtoken MtokenAt Mvalue Mwrong MwrongAt MfaultKind MfaultPlace Mthing Morder Mone Mtwo Mbest Mcells Mgap Mwire Mstand Mruns Mminute Mhead Mplays Mrests Mwent Mout Mcame Mgone MlastOut) sz) (kM cI cB cZ oM (u9.2.1) (u9.2.2.1) (u9.2.2.2.1) (u9.2.2.2.2.1) Mbars Mbar Mfresh Mtape Mtaped Mpos Mtoken MtokenAt Mvalue Mwrong MwrongAt MfaultKind MfaultPlace Mthing Morder Mone Mtwo Mbest Mcells Mgap Mwire Mstand (u9.2.2.2.2.2) Mminute Mhead Mplays Mrests Mwent Mout Mcame Mgone MlastOut) t9) (va_A (kM cI cB cZ oM Mthrown Mmany Mguest Mrow Mbars Mbar Mfresh Mtape Mtaped Mpos Mtoken MtokenAt Mvalue Mwrong MwrongAt MfaultKind MfaultPlace Mthing Morder Mone Mtwo Mbest Mcells Mgap Mwire Mstand Mruns Mminute Mhead Mplays Mrests Mwent Mout Mcame Mgone MlastOut) sz)) 0 0 (va_A (kM cI cB cZ oM Mthrown Mmany Mguest Mrow Mbars Mbar Mfresh Mtape Mtaped Mpos Mtoken MtokenAt Mvalue Mwrong MwrongAt MfaultKind MfaultPlace Mthing Morder Mone Mtwo Mbest Mcells Mgap Mwire Mstand Mruns Mminute Mhead Mplays Mrests Mwent Mout Mcame Mgone MlastOut) sz) := by
  refine Met.ofW (cc := cX8_guest) (maxL := 8) (ret := (some .int)) (by decide) rfl ?_
  intro pp ee s mm aa bw mt cd s₁ BL hml hv
  obtain ⟨rfl, hsz, hP, hK, hD0⟩ := hv
  have hx := BL.exec
  have hb := BL.bytes
  have hr := BL.returns
  have hts := atoms_spec (ws := wsX8_guest) BL.pre
  have hown : s.vm.findClass RX8 = some mm.cls := findClass_of_methodNamed BL.named
  have hlocks := BL.notSynchronized
  subst hsz
  generalize hAe : va_A (kM cI cB cZ oM Mthrown Mmany Mguest Mrow Mbars Mbar Mfresh Mtape Mtaped Mpos Mtoken MtokenAt Mvalue Mwrong MwrongAt MfaultKind MfaultPlace Mthing Morder Mone Mtwo Mbest Mcells Mgap Mwire Mstand Mruns Mminute Mhead Mplays Mrests Mwent Mout Mcame Mgone MlastOut) s.heap.size = A
  have hA : ∀ q : Nat, s.heap.size ≤ q → A q := fun q h => by rw [← hAe]; exact Or.inr h
  have hw : HW D A s.heap (kM cI cB cZ oM Mthrown Mmany Mguest Mrow Mbars Mbar Mfresh Mtape Mtaped Mpos Mtoken MtokenAt Mvalue Mwrong MwrongAt MfaultKind MfaultPlace Mthing Morder Mone Mtwo Mbest Mcells Mgap Mwire Mstand Mruns Mminute Mhead Mplays Mrests Mwent Mout Mcame Mgone MlastOut) s.heap [] := z_start hAe hP hD0
  clear hP hD0
  have hl := lv_entry ([.ref (oM 0), .int (zI k), .int (zI le), .int (zI lo), .int (zI ta), .int (zI sh)]) (n := 8) (Nat.le_of_ble_eq_true rfl)
  rw [lg_entry_eq]
  generalize (lg_sl ([.ref (oM 0), .int (zI k), .int (zI le), .int (zI lo), .int (zI ta), .int (zI sh)]) ++ List.replicate (8 - (lg_sl ([.ref (oM 0), .int (zI k), .int (zI le), .int (zI lo), .int (zI ta), .int (zI sh)])).length) Slot.unset).toArray = ls at hl ⊢
  have hl : lv_has ls 8 [(0, .ref (oM 0)), (1, .int (zI k)), (2, .int (zI le)), (3, .int (zI lo)), (4, .int (zI ta)), (5, .int (zI sh))] := hl
  have hinX8 : ∀ w ∈ wsX80, w ∈ wsX8_guest := by decide +kernel
  refine lv_aload_n hx hb dX8_guest_0 rfl (lv_at hl 0 rfl) ?_
  refine z_iconst hx hb dX8_guest_1 ?_
  refine z_put (D := D) (ci := 8) (v := .int (zI 0)) (ty := .int) (C := RX8) (T := TX8) (N := 36) (ws2 := kM cI cB cZ oM 0 Mmany Mguest Mrow Mbars Mbar Mfresh Mtape Mtaped Mpos Mtoken MtokenAt Mvalue Mwrong MwrongAt MfaultKind MfaultPlace Mthing Morder Mone Mtwo Mbest Mcells Mgap Mwire Mstand Mruns Mminute Mhead Mplays Mrests Mwent Mout Mcame Mgone MlastOut) hx hb hts hinX8 tyX8 tyX8_ok nmX8 hown hK hw 0 rfl rfl 0 (by decide) (hts (.fieldLink RX8 69 "CarnivalRoadModel" "thrown" "I") (by decide +kernel)) (fun _ h9 => h9) rfl (by decide +kernel) rfl rfl (Nat.le_of_ble_eq_true rfl) dX8_guest_2 rfl (fun H locs hw => ?_)
  refine lv_iload_n hx hb dX8_guest_5 rfl (lv_at hl 1 rfl) ?_
  refine z_iconst hx hb dX8_guest_6 ?_
  refine z_iconst hx hb dX8_guest_7 ?_
  have hF9 := z_free (wc := ([] : va_W)) hw hA [] rfl
  refine va_calli (va_runS (As := [.int (zI k), .int (zI 0), .int (zI 4)]) (rest := []) ⟨hx, hb, hml, hown, hts⟩ (c_X8_isIn l D cI cB cZ H.size k 0 4 (by omega) (by omega) (by omega)) (va_cwS 3 hts gX8_guest_X8_isIn rfl rfl rfl (by decide +kernel) ⟨Nat.le_of_ble_eq_true rfl, Nat.le_of_ble_eq_true rfl⟩) ⟨zPre_blind, z_pre hK hw [] (by decide) rfl⟩ rfl rfl hl.1 rfl (lv_room (Nat.le_of_ble_eq_true rfl)) dX8_guest_8 ⟨Nat.zero_le _, Nat.zero_le _⟩) hw.2.2 (fun q _ h => hF9 q h) hF9 (fun r9 u9 t9 H_1 locs9 ht9 hvm9 hq9 hB9 hz9 hk9 hS9 => ?_)
  obtain ⟨r_2, rfl⟩ : ∃ z, z = u9 := ⟨_, rfl⟩
  try dsimp only at hq9 hB9
  obtain ⟨rfl, hq9⟩ := hq9
  have hq_3 := hq9
  have hw : HW D A s.heap (kM cI cB cZ oM 0 Mmany Mguest Mrow Mbars Mbar Mfresh Mtape Mtaped Mpos Mtoken MtokenAt Mvalue Mwrong MwrongAt MfaultKind MfaultPlace Mthing Morder Mone Mtwo Mbest Mcells Mgap Mwire Mstand Mruns Mminute Mhead Mplays Mrests Mwent Mout Mcame Mgone MlastOut) H_1 locs9 := z_after (wc := ([] : va_W)) hw [] [0, 1, 2, 3, 4, 5, 6, 7, 8, 9, 10, 11, 12, 13, 14, 15, 16] rfl rfl (by decide) (by decide) hF9 hk9 ht9 hB9 hS9 [0, 1, 2, 3, 4, 5, 6, 7, 8, 9, 10, 11, 12, 13, 14, 15, 16] (by decide) rfl
  clear hF9 ht9 hvm9 hB9 hz9 hk9 hS9 hq9
  rcases hq_3 with ⟨hc_4, rfl⟩ | ⟨hc_4, rfl⟩
  · skip
    refine z_if_eq (tgt := 64) hx hb dX8_guest_11 (by decide) (by omega) (fun hc_5 => absurd hc_5 (by omega)) (fun hc_5 => ?_)
    refine lv_iload_n hx hb dX8_guest_14 rfl (lv_at hl 2 rfl) ?_
    refine z_iconst hx hb dX8_guest_15 ?_
    refine z_iconst hx hb dX8_guest_16 ?_
    have hF9 := z_free (wc := ([] : va_W)) hw hA [] rfl
    refine va_calli (va_runS (As := [.int (zI le), .int (zI 1), .int (zI 5)]) (rest := []) ⟨hx, hb, hml, hown, hts⟩ (c_X8_isIn l D cI cB cZ H_1.size le 1 5 (by omega) (by omega) (by omega)) (va_cwS 3 hts gX8_guest_X8_isIn rfl rfl rfl (by decide +kernel) ⟨Nat.le_of_ble_eq_true rfl, Nat.le_of_ble_eq_true rfl⟩) ⟨zPre_blind, z_pre hK hw [] (by decide) rfl⟩ rfl rfl hl.1 rfl (lv_room (Nat.le_of_ble_eq_true rfl)) dX8_guest_17 ⟨Nat.zero_le _, Nat.zero_le _⟩) hw.2.2 (fun q _ h => hF9 q h) hF9 (fun r9 u9 t9 H_6 locs9 ht9 hvm9 hq9 hB9 hz9 hk9 hS9 => ?_)
    obtain ⟨r_7, rfl⟩ : ∃ z, z = u9 := ⟨_, rfl⟩
    try dsimp only at hq9 hB9
    obtain ⟨rfl, hq9⟩ := hq9
    have hq_8 := hq9
    have hw : HW D A s.heap (kM cI cB cZ oM 0 Mmany Mguest Mrow Mbars Mbar Mfresh Mtape Mtaped Mpos Mtoken MtokenAt Mvalue Mwrong MwrongAt MfaultKind MfaultPlace Mthing Morder Mone Mtwo Mbest Mcells Mgap Mwire Mstand Mruns Mminute Mhead Mplays Mrests Mwent Mout Mcame Mgone MlastOut) H_6 locs9 := z_after (wc := ([] : va_W)) hw [] [0, 1, 2, 3, 4, 5, 6, 7, 8, 9, 10, 11, 12, 13, 14, 15, 16] rfl rfl (by decide) (by decide) hF9 hk9 ht9 hB9 hS9 [0, 1, 2, 3, 4, 5, 6, 7, 8, 9, 10, 11, 12, 13, 14, 15, 16] (by decide) rfl
    clear hF9 ht9 hvm9 hB9 hz9 hk9 hS9 hq9
    rcases hq_8 with ⟨hc_9, rfl⟩ | ⟨hc_9, rfl⟩
    · skip
      refine z_if_eq (tgt := 64) hx hb dX8_guest_20 (by decide) (by omega) (fun hc_10 => absurd hc_10 (by omega)) (fun hc_10 => ?_)
      refine lv_iload_n hx hb dX8_guest_23 rfl (lv_at hl 3 rfl) ?_
      refine z_iconst hx hb dX8_guest_24 ?_
      refine z_bipush hx hb dX8_guest_25 (by decide) ?_
      have hF9 := z_free (wc := ([] : va_W)) hw hA [] rfl
      refine va_calli (va_runS (As := [.int (zI lo), .int (zI 0), .int (zI 9)]) (rest := []) ⟨hx, hb, hml, hown, hts⟩ (c_X8_isIn l D cI cB cZ H_6.size lo 0 9 (by omega) (by omega) (by omega)) (va_cwS 3 hts gX8_guest_X8_isIn rfl rfl rfl (by decide +kernel) ⟨Nat.le_of_ble_eq_true rfl, Nat.le_of_ble_eq_true rfl⟩) ⟨zPre_blind, z_pre hK hw [] (by decide) rfl⟩ rfl rfl hl.1 rfl (lv_room (Nat.le_of_ble_eq_true rfl)) dX8_guest_27 ⟨Nat.zero_le _, Nat.zero_le _⟩) hw.2.2 (fun q _ h => hF9 q h) hF9 (fun r9 u9 t9 H_11 locs9 ht9 hvm9 hq9 hB9 hz9 hk9 hS9 => ?_)
      obtain ⟨r_12, rfl⟩ : ∃ z, z = u9 := ⟨_, rfl⟩
      try dsimp only at hq9 hB9
      obtain ⟨rfl, hq9⟩ := hq9
      have hq_13 := hq9
      have hw : HW D A s.heap (kM cI cB cZ oM 0 Mmany Mguest Mrow Mbars Mbar Mfresh Mtape Mtaped Mpos Mtoken MtokenAt Mvalue Mwrong MwrongAt MfaultKind MfaultPlace Mthing Morder Mone Mtwo Mbest Mcells Mgap Mwire Mstand Mruns Mminute Mhead Mplays Mrests Mwent Mout Mcame Mgone MlastOut) H_11 locs9 := z_after (wc := ([] : va_W)) hw [] [0, 1, 2, 3, 4, 5, 6, 7, 8, 9, 10, 11, 12, 13, 14, 15, 16] rfl rfl (by decide) (by decide) hF9 hk9 ht9 hB9 hS9 [0, 1, 2, 3, 4, 5, 6, 7, 8, 9, 10, 11, 12, 13, 14, 15, 16] (by decide) rfl
      clear hF9 ht9 hvm9 hB9 hz9 hk9 hS9 hq9
      rcases hq_13 with ⟨hc_14, rfl⟩ | ⟨hc_14, rfl⟩
      · skip
        refine z_if_eq (tgt := 64) hx hb dX8_guest_30 (by decide) (by omega) (fun hc_15 => absurd hc_15 (by omega)) (fun hc_15 => ?_)
        refine lv_iload hx hb dX8_guest_33 (lv_at hl 4 rfl) ?_
        refine z_iconst hx hb dX8_guest_35 ?_
        refine z_bipush hx hb dX8_guest_36 (by decide) ?_
        have hF9 := z_free (wc := ([] : va_W)) hw hA [] rfl
        refine va_calli (va_runS (As := [.int (zI ta), .int (zI 1), .int (zI 9)]) (rest := []) ⟨hx, hb, hml, hown, hts⟩ (c_X8_isIn l D cI cB cZ H_11.size ta 1 9 (by omega) (by omega) (by omega)) (va_cwS 3 hts gX8_guest_X8_isIn rfl rfl rfl (by decide +kernel) ⟨Nat.le_of_ble_eq_true rfl, Nat.le_of_ble_eq_true rfl⟩) ⟨zPre_blind, z_pre hK hw [] (by decide) rfl⟩ rfl rfl hl.1 rfl (lv_room (Nat.le_of_ble_eq_true rfl)) dX8_guest_38 ⟨Nat.zero_le _, Nat.zero_le _⟩) hw.2.2 (fun q _ h => hF9 q h) hF9 (fun r9 u9 t9 H_16 locs9 ht9 hvm9 hq9 hB9 hz9 hk9 hS9 => ?_)
        obtain ⟨r_17, rfl⟩ : ∃ z, z = u9 := ⟨_, rfl⟩
        try dsimp only at hq9 hB9
        obtain ⟨rfl, hq9⟩ := hq9
        have hq_18 := hq9
        have hw : HW D A s.heap (kM cI cB cZ oM 0 Mmany Mguest Mrow Mbars Mbar Mfresh Mtape Mtaped Mpos Mtoken MtokenAt Mvalue Mwrong MwrongAt MfaultKind MfaultPlace Mthing Morder Mone Mtwo Mbest Mcells Mgap Mwire Mstand Mruns Mminute Mhead Mplays Mrests Mwent Mout Mcame Mgone MlastOut) H_16 locs9 := z_after (wc := ([] : va_W)) hw [] [0, 1, 2, 3, 4, 5, 6, 7, 8, 9, 10, 11, 12, 13, 14, 15, 16] rfl rfl (by decide) (by decide) hF9 hk9 ht9 hB9 hS9 [0, 1, 2, 3, 4, 5, 6, 7, 8, 9, 10, 11, 12, 13, 14, 15, 16] (by decide) rfl
        clear hF9 ht9 hvm9 hB9 hz9 hk9 hS9 hq9
        rcases hq_18 with ⟨hc_19, rfl⟩ | ⟨hc_19, rfl⟩
        · skip
          refine z_if_eq (tgt := 64) hx hb dX8_guest_41 (by decide) (by omega) (fun hc_20 => absurd hc_20 (by omega)) (fun hc_20 => ?_)
          refine lv_iload hx hb dX8_guest_44 (lv_at hl 5 rfl) ?_
          refine z_iconst hx hb dX8_guest_46 ?_
          refine z_bipush hx hb dX8_guest_47 (by decide) ?_
          have hF9 := z_free (wc := ([] : va_W)) hw hA [] rfl
          refine va_calli (va_runS (As := [.int (zI sh), .int (zI 0), .int (zI 9)]) (rest := []) ⟨hx, hb, hml, hown, hts⟩ (c_X8_isIn l D cI cB cZ H_16.size sh 0 9 (by omega) (by omega) (by omega)) (va_cwS 3 hts gX8_guest_X8_isIn rfl rfl rfl (by decide +kernel) ⟨Nat.le_of_ble_eq_true rfl, Nat.le_of_ble_eq_true rfl⟩) ⟨zPre_blind, z_pre hK hw [] (by decide) rfl⟩ rfl rfl hl.1 rfl (lv_room (Nat.le_of_ble_eq_true rfl)) dX8_guest_49 ⟨Nat.zero_le _, Nat.zero_le _⟩) hw.2.2 (fun q _ h => hF9 q h) hF9 (fun r9 u9 t9 H_21 locs9 ht9 hvm9 hq9 hB9 hz9 hk9 hS9 => ?_)
          obtain ⟨r_22, rfl⟩ : ∃ z, z = u9 := ⟨_, rfl⟩
          try dsimp only at hq9 hB9
          obtain ⟨rfl, hq9⟩ := hq9
          have hq_23 := hq9
          have hw : HW D A s.heap (kM cI cB cZ oM 0 Mmany Mguest Mrow Mbars Mbar Mfresh Mtape Mtaped Mpos Mtoken MtokenAt Mvalue Mwrong MwrongAt MfaultKind MfaultPlace Mthing Morder Mone Mtwo Mbest Mcells Mgap Mwire Mstand Mruns Mminute Mhead Mplays Mrests Mwent Mout Mcame Mgone MlastOut) H_21 locs9 := z_after (wc := ([] : va_W)) hw [] [0, 1, 2, 3, 4, 5, 6, 7, 8, 9, 10, 11, 12, 13, 14, 15, 16] rfl rfl (by decide) (by decide) hF9 hk9 ht9 hB9 hS9 [0, 1, 2, 3, 4, 5, 6, 7, 8, 9, 10, 11, 12, 13, 14, 15, 16] (by decide) rfl
          clear hF9 ht9 hvm9 hB9 hz9 hk9 hS9 hq9
          rcases hq_23 with ⟨hc_24, rfl⟩ | ⟨hc_24, rfl⟩
          · skip
            refine z_if_eq (tgt := 64) hx hb dX8_guest_52 (by decide) (by omega) (fun hc_25 => absurd hc_25 (by omega)) (fun hc_25 => ?_)
            refine lv_aload_n hx hb dX8_guest_55 rfl (lv_at hl 0 rfl) ?_
            refine va_get (D := D) (ci := 8) (v := .int (zI Mmany)) (C := RX8) (T := TX8) (N := 36) hx hb hts hinX8 hown hK hw.1 0 rfl rfl 1 (by decide) (hts (.fieldLink RX8 72 "CarnivalRoadModel" "many" "I") (by decide +kernel)) (fun _ h9 => h9) rfl dX8_guest_56 ?_
            refine z_bipush hx hb dX8_guest_59 (by decide) ?_
            refine z_icmp_ne (tgt := 66) hx hb dX8_guest_61 (by decide) (by omega) (fun hc_26 => ?_) (fun hc_26 => ?_)
            · skip
              refine z_iconst hx hb dX8_guest_66 ?_
              refine lv_aload_n hx hb dX8_guest_67 rfl (lv_at hl 0 rfl) ?_
              refine va_get (D := D) (ci := 8) (v := .int (zI Mmany)) (C := RX8) (T := TX8) (N := 36) hx hb hts hinX8 hown hK hw.1 0 rfl rfl 1 (by decide) (hts (.fieldLink RX8 72 "CarnivalRoadModel" "many" "I") (by decide +kernel)) (fun _ h9 => h9) rfl dX8_guest_68 ?_
              refine z_imul hx hb dX8_guest_71 ?_
              refine lv_istore (lv' := [(6, .int (zI (5 * Mmany))), (0, .ref (oM 0)), (1, .int (zI k)), (2, .int (zI le)), (3, .int (zI lo)), (4, .int (zI ta)), (5, .int (zI sh))]) hx hb dX8_guest_72 hl (by decide) rfl (fun ls hl => ?_)
              refine lv_aload_n hx hb dX8_guest_74 rfl (lv_at hl 1 rfl) ?_
              refine va_get (D := D) (ci := 8) (v := .ref (oM 1)) (C := RX8) (T := TX8) (N := 36) hx hb hts hinX8 hown hK hw.1 0 rfl rfl 2 (by decide) (hts (.fieldLink RX8 7 "CarnivalRoadModel" "guest" "[I") (by decide +kernel)) (fun _ h9 => h9) rfl dX8_guest_75 ?_
              refine lv_iload hx hb dX8_guest_78 (lv_at hl 0 rfl) ?_
              refine lv_iload_n hx hb dX8_guest_80 rfl (lv_at hl 2 rfl) ?_
              have hi_27 : (0 : Int) ≤ (5 * Mmany) ∧ (5 * Mmany) < ((40 : Nat) : Int) := by
                first | assumption | omega | grind
              have hv_28 : (0 : Int) ≤ k ∧ k ≤ 9 := by
                first | assumption | omega | grind
              have hR_29 : RA (uZ Mguest (5 * Mmany) k) (0) 9 := RA_up qMguest hv_28
              refine z_iast (n := 40) (f := Mguest) (ws2 := kM cI cB cZ oM 0 Mmany (uZ Mguest (5 * Mmany) k) Mrow Mbars Mbar Mfresh Mtape Mtaped Mpos Mtoken MtokenAt Mvalue Mwrong MwrongAt MfaultKind MfaultPlace Mthing Morder Mone Mtwo Mbest Mcells Mgap Mwire Mstand Mruns Mminute Mhead Mplays Mrests Mwent Mout Mcame Mgone MlastOut) hx hb hK hw 1 rfl (by decide) hi_27 dX8_guest_81 rfl (fun H locs hw => ?_)
              refine lv_aload_n hx hb dX8_guest_82 rfl (lv_at hl 1 rfl) ?_
              refine va_get (D := D) (ci := 8) (v := .ref (oM 1)) (C := RX8) (T := TX8) (N := 36) hx hb hts hinX8 hown hK hw.1 0 rfl rfl 2 (by decide) (hts (.fieldLink RX8 7 "CarnivalRoadModel" "guest" "[I") (by decide +kernel)) (fun _ h9 => h9) rfl dX8_guest_83 ?_
              refine lv_iload hx hb dX8_guest_86 (lv_at hl 0 rfl) ?_
              refine z_iconst hx hb dX8_guest_88 ?_
              refine z_iadd hx hb dX8_guest_89 ?_
              refine lv_iload_n hx hb dX8_guest_90 rfl (lv_at hl 3 rfl) ?_
              have hi_30 : (0 : Int) ≤ ((5 * Mmany) + 1) ∧ ((5 * Mmany) + 1) < ((40 : Nat) : Int) := by
                first | assumption | omega | grind
              have hv_31 : (0 : Int) ≤ le ∧ le ≤ 9 := by
                first | assumption | omega | grind
              have hR_32 : RA (uZ (uZ Mguest (5 * Mmany) k) ((5 * Mmany) + 1) le) (0) 9 := RA_up hR_29 hv_31
              refine z_iast (n := 40) (f := (uZ Mguest (5 * Mmany) k)) (ws2 := kM cI cB cZ oM 0 Mmany (uZ (uZ Mguest (5 * Mmany) k) ((5 * Mmany) + 1) le) Mrow Mbars Mbar Mfresh Mtape Mtaped Mpos Mtoken MtokenAt Mvalue Mwrong MwrongAt MfaultKind MfaultPlace Mthing Morder Mone Mtwo Mbest Mcells Mgap Mwire Mstand Mruns Mminute Mhead Mplays Mrests Mwent Mout Mcame Mgone MlastOut) hx hb hK hw 1 rfl (by decide) hi_30 dX8_guest_91 rfl (fun H locs hw => ?_)
              refine lv_aload_n hx hb dX8_guest_92 rfl (lv_at hl 1 rfl) ?_
              refine va_get (D := D) (ci := 8) (v := .ref (oM 1)) (C := RX8) (T := TX8) (N := 36) hx hb hts hinX8 hown hK hw.1 0 rfl rfl 2 (by decide) (hts (.fieldLink RX8 7 "CarnivalRoadModel" "guest" "[I") (by decide +kernel)) (fun _ h9 => h9) rfl dX8_guest_93 ?_
              refine lv_iload hx hb dX8_guest_96 (lv_at hl 0 rfl) ?_
              refine z_iconst hx hb dX8_guest_98 ?_
              refine z_iadd hx hb dX8_guest_99 ?_
              refine lv_iload_n hx hb dX8_guest_100 rfl (lv_at hl 4 rfl) ?_
              have hi_33 : (0 : Int) ≤ ((5 * Mmany) + 2) ∧ ((5 * Mmany) + 2) < ((40 : Nat) : Int) := by
                first | assumption | omega | grind
              have hv_34 : (0 : Int) ≤ lo ∧ lo ≤ 9 := by
                first | assumption | omega | grind
              have hR_35 : RA (uZ (uZ (uZ Mguest (5 * Mmany) k) ((5 * Mmany) + 1) le) ((5 * Mmany) + 2) lo) (0) 9 := RA_up hR_32 hv_34
              refine z_iast (n := 40) (f := (uZ (uZ Mguest (5 * Mmany) k) ((5 * Mmany) + 1) le)) (ws2 := kM cI cB cZ oM 0 Mmany (uZ (uZ (uZ Mguest (5 * Mmany) k) ((5 * Mmany) + 1) le) ((5 * Mmany) + 2) lo) Mrow Mbars Mbar Mfresh Mtape Mtaped Mpos Mtoken MtokenAt Mvalue Mwrong MwrongAt MfaultKind MfaultPlace Mthing Morder Mone Mtwo Mbest Mcells Mgap Mwire Mstand Mruns Mminute Mhead Mplays Mrests Mwent Mout Mcame Mgone MlastOut) hx hb hK hw 1 rfl (by decide) hi_33 dX8_guest_101 rfl (fun H locs hw => ?_)
              refine lv_aload_n hx hb dX8_guest_102 rfl (lv_at hl 1 rfl) ?_
              refine va_get (D := D) (ci := 8) (v := .ref (oM 1)) (C := RX8) (T := TX8) (N := 36) hx hb hts hinX8 hown hK hw.1 0 rfl rfl 2 (by decide) (hts (.fieldLink RX8 7 "CarnivalRoadModel" "guest" "[I") (by decide +kernel)) (fun _ h9 => h9) rfl dX8_guest_103 ?_
              refine lv_iload hx hb dX8_guest_106 (lv_at hl 0 rfl) ?_
              refine z_iconst hx hb dX8_guest_108 ?_
              refine z_iadd hx hb dX8_guest_109 ?_
              refine lv_iload hx hb dX8_guest_110 (lv_at hl 5 rfl) ?_
              have hi_36 : (0 : Int) ≤ ((5 * Mmany) + 3) ∧ ((5 * Mmany) + 3) < ((40 : Nat) : Int) := by
                first | assumption | omega | grind
              have hv_37 : (0 : Int) ≤ ta ∧ ta ≤ 9 := by
                first | assumption | omega | grind
              have hR_38 : RA (uZ (uZ (uZ (uZ Mguest (5 * Mmany) k) ((5 * Mmany) + 1) le) ((5 * Mmany) + 2) lo) ((5 * Mmany) + 3) ta) (0) 9 := RA_up hR_35 hv_37
              refine z_iast (n := 40) (f := (uZ (uZ (uZ Mguest (5 * Mmany) k) ((5 * Mmany) + 1) le) ((5 * Mmany) + 2) lo)) (ws2 := kM cI cB cZ oM 0 Mmany (uZ (uZ (uZ (uZ Mguest (5 * Mmany) k) ((5 * Mmany) + 1) le) ((5 * Mmany) + 2) lo) ((5 * Mmany) + 3) ta) Mrow Mbars Mbar Mfresh Mtape Mtaped Mpos Mtoken MtokenAt Mvalue Mwrong MwrongAt MfaultKind MfaultPlace Mthing Morder Mone Mtwo Mbest Mcells Mgap Mwire Mstand Mruns Mminute Mhead Mplays Mrests Mwent Mout Mcame Mgone MlastOut) hx hb hK hw 1 rfl (by decide) hi_36 dX8_guest_112 rfl (fun H locs hw => ?_)
              refine lv_aload_n hx hb dX8_guest_113 rfl (lv_at hl 1 rfl) ?_
              refine va_get (D := D) (ci := 8) (v := .ref (oM 1)) (C := RX8) (T := TX8) (N := 36) hx hb hts hinX8 hown hK hw.1 0 rfl rfl 2 (by decide) (hts (.fieldLink RX8 7 "CarnivalRoadModel" "guest" "[I") (by decide +kernel)) (fun _ h9 => h9) rfl dX8_guest_114 ?_
              refine lv_iload hx hb dX8_guest_117 (lv_at hl 0 rfl) ?_
              refine z_iconst hx hb dX8_guest_119 ?_
              refine z_iadd hx hb dX8_guest_120 ?_
              refine lv_iload hx hb dX8_guest_121 (lv_at hl 6 rfl) ?_
              have hi_39 : (0 : Int) ≤ ((5 * Mmany) + 4) ∧ ((5 * Mmany) + 4) < ((40 : Nat) : Int) := by
                first | assumption | omega | grind
              have hv_40 : (0 : Int) ≤ sh ∧ sh ≤ 9 := by
                first | assumption | omega | grind
              have hR_41 : RA (uZ (uZ (uZ (uZ (uZ Mguest (5 * Mmany) k) ((5 * Mmany) + 1) le) ((5 * Mmany) + 2) lo) ((5 * Mmany) + 3) ta) ((5 * Mmany) + 4) sh) (0) 9 := RA_up hR_38 hv_40
              refine z_iast (n := 40) (f := (uZ (uZ (uZ (uZ Mguest (5 * Mmany) k) ((5 * Mmany) + 1) le) ((5 * Mmany) + 2) lo) ((5 * Mmany) + 3) ta)) (ws2 := kM cI cB cZ oM 0 Mmany (uZ (uZ (uZ (uZ (uZ Mguest (5 * Mmany) k) ((5 * Mmany) + 1) le) ((5 * Mmany) + 2) lo) ((5 * Mmany) + 3) ta) ((5 * Mmany) + 4) sh) Mrow Mbars Mbar Mfresh Mtape Mtaped Mpos Mtoken MtokenAt Mvalue Mwrong MwrongAt MfaultKind MfaultPlace Mthing Morder Mone Mtwo Mbest Mcells Mgap Mwire Mstand Mruns Mminute Mhead Mplays Mrests Mwent Mout Mcame Mgone MlastOut) hx hb hK hw 1 rfl (by decide) hi_39 dX8_guest_123 rfl (fun H locs hw => ?_)
              refine lv_aload_n hx hb dX8_guest_124 rfl (lv_at hl 1 rfl) ?_
              refine lv_dup hx hb dX8_guest_125 rfl ?_
              refine va_get (D := D) (ci := 8) (v := .int (zI Mmany)) (C := RX8) (T := TX8) (N := 36) hx hb hts hinX8 hown hK hw.1 0 rfl rfl 1 (by decide) (hts (.fieldLink RX8 72 "CarnivalRoadModel" "many" "I") (by decide +kernel)) (fun _ h9 => h9) rfl dX8_guest_126 ?_
              refine z_iconst hx hb dX8_guest_129 ?_
              refine z_iadd hx hb dX8_guest_130 ?_
              refine z_put (D := D) (ci := 8) (v := .int (zI (Mmany + 1))) (ty := .int) (C := RX8) (T := TX8) (N := 36) (ws2 := kM cI cB cZ oM 0 (Mmany + 1) (uZ (uZ (uZ (uZ (uZ Mguest (5 * Mmany) k) ((5 * Mmany) + 1) le) ((5 * Mmany) + 2) lo) ((5 * Mmany) + 3) ta) ((5 * Mmany) + 4) sh) Mrow Mbars Mbar Mfresh Mtape Mtaped Mpos Mtoken MtokenAt Mvalue Mwrong MwrongAt MfaultKind MfaultPlace Mthing Morder Mone Mtwo Mbest Mcells Mgap Mwire Mstand Mruns Mminute Mhead Mplays Mrests Mwent Mout Mcame Mgone MlastOut) hx hb hts hinX8 tyX8 tyX8_ok nmX8 hown hK hw 0 rfl rfl 1 (by decide) (hts (.fieldLink RX8 72 "CarnivalRoadModel" "many" "I") (by decide +kernel)) (fun _ h9 => h9) rfl (by decide +kernel) rfl rfl (Nat.le_of_ble_eq_true rfl) dX8_guest_131 rfl (fun H locs hw => ?_)
              refine z_iconst hx hb dX8_guest_134 ?_
              refine lv_istore (lv' := [(7, .int (zI 0)), (6, .int (zI (5 * Mmany))), (0, .ref (oM 0)), (1, .int (zI k)), (2, .int (zI le)), (3, .int (zI lo)), (4, .int (zI ta)), (5, .int (zI sh))]) hx hb dX8_guest_135 hl (by decide) rfl (fun ls hl => ?_)
              have hv_42 : 0 ≤ (0 : Int) ∧ (0 : Int) ≤ Mmany + 1 := by
                first | assumption | omega | grind
              have hv_43 : ∀ k, 0 ≤ k → k < (0 : Int) → Mrow k = k := by
                exact all_0
              refine z_loop (σ := Int × (Int → Int)) (μ := fun x9 => (10 - (x9.1)).toNat) (I := fun x9 H locs ls => (RA (x9.2) (0) 7) ∧ (0 ≤ (x9.1) ∧ (x9.1) ≤ Mmany + 1) ∧ (∀ k, 0 ≤ k → k < (x9.1) → (x9.2) k = k) ∧ HW D A s.heap (kM cI cB cZ oM 0 (Mmany + 1) (uZ (uZ (uZ (uZ (uZ Mguest (5 * Mmany) k) ((5 * Mmany) + 1) le) ((5 * Mmany) + 2) lo) ((5 * Mmany) + 3) ta) ((5 * Mmany) + 4) sh) (x9.2) Mbars Mbar Mfresh Mtape Mtaped Mpos Mtoken MtokenAt Mvalue Mwrong MwrongAt MfaultKind MfaultPlace Mthing Morder Mone Mtwo Mbest Mcells Mgap Mwire Mstand Mruns Mminute Mhead Mplays Mrests Mwent Mout Mcame Mgone MlastOut) H locs ∧ lv_has ls 8 [(0, .ref (oM 0)), (7, .int (zI (x9.1)))]) (0, Mrow) ⟨qMrow, hv_42, hv_43, hw, lv_sub hl [2, 0] rfl⟩ ?_
              clear hw hl
              intro x9 H locs ls hI ih_44
              obtain ⟨i_45, Mrow_46⟩ := x9
              try dsimp only at hI
              obtain ⟨hR_47, hI_48, hI_49, hw, hl⟩ := hI
              refine lv_iload hx hb dX8_guest_137 (lv_at hl 1 rfl) ?_
              refine lv_aload_n hx hb dX8_guest_139 rfl (lv_at hl 0 rfl) ?_
              refine va_get (D := D) (ci := 8) (v := .int (zI (Mmany + 1))) (C := RX8) (T := TX8) (N := 36) hx hb hts hinX8 hown hK hw.1 0 rfl rfl 1 (by decide) (hts (.fieldLink RX8 72 "CarnivalRoadModel" "many" "I") (by decide +kernel)) (fun _ h9 => h9) rfl dX8_guest_140 ?_
              refine z_icmp_ge (tgt := 161) hx hb dX8_guest_143 (by decide) (by omega) (fun hc_50 => ?_) (fun hc_50 => ?_)
              · skip
                refine lv_aload_n hx hb dX8_guest_161 rfl (lv_at hl 0 rfl) ?_
                refine z_iconst hx hb dX8_guest_162 ?_
                refine z_put (D := D) (ci := 8) (v := .int (zI 0)) (ty := .boolean) (C := RX8) (T := TX8) (N := 36) (ws2 := kM cI cB cZ oM 0 (Mmany + 1) (uZ (uZ (uZ (uZ (uZ Mguest (5 * Mmany) k) ((5 * Mmany) + 1) le) ((5 * Mmany) + 2) lo) ((5 * Mmany) + 3) ta) ((5 * Mmany) + 4) sh) Mrow_46 Mbars Mbar Mfresh Mtape Mtaped Mpos Mtoken MtokenAt Mvalue Mwrong MwrongAt MfaultKind MfaultPlace Mthing Morder Mone Mtwo Mbest Mcells Mgap Mwire Mstand 0 Mminute Mhead Mplays Mrests Mwent Mout Mcame Mgone MlastOut) hx hb hts hinX8 tyX8 tyX8_ok nmX8 hown hK hw 0 rfl rfl 26 (by decide) (hts (.fieldLink RX8 79 "CarnivalRoadModel" "runs" "Z") (by decide +kernel)) (fun _ h9 => h9) rfl (by decide +kernel) rfl rfl (Nat.le_of_ble_eq_true rfl) dX8_guest_163 rfl (fun H locs hw => ?_)
                refine lv_aload_n hx hb dX8_guest_166 rfl (lv_at hl 0 rfl) ?_
                refine va_get (D := D) (ci := 8) (v := .int (zI (Mmany + 1))) (C := RX8) (T := TX8) (N := 36) hx hb hts hinX8 hown hK hw.1 0 rfl rfl 1 (by decide) (hts (.fieldLink RX8 72 "CarnivalRoadModel" "many" "I") (by decide +kernel)) (fun _ h9 => h9) rfl dX8_guest_167 ?_
                refine z_iconst hx hb dX8_guest_170 ?_
                refine z_isub hx hb dX8_guest_171 ?_
                have hv_51 : (0 : Int) ≤ (0 : Int) ∧ (0 : Int) ≤ 2 := by
                  first | assumption | omega | grind
                have hv_52 : (0 : Int) ≤ (Mmany + 1) ∧ (Mmany + 1) ≤ 8 := by
                  first | assumption | omega | grind
                have hv_53 : (0 : Int) ≤ (0 : Int) ∧ (0 : Int) ≤ 1 := by
                  first | assumption | omega | grind
                have hv_54 : (canBeP k le lo ta sh ∧ Mmany < 8 ∧ ((Mmany + 1) - 1) = Mmany ∧ (Mmany + 1) = Mmany + 1 ∧ (uZ (uZ (uZ (uZ (uZ Mguest (5 * Mmany) k) ((5 * Mmany) + 1) le) ((5 * Mmany) + 2) lo) ((5 * Mmany) + 3) ta) ((5 * Mmany) + 4) sh) = uZ (uZ (uZ (uZ (uZ Mguest (5 * Mmany) k) (5 * Mmany + 1) le) (5 * Mmany + 2) lo) (5 * Mmany + 3) ta) (5 * Mmany + 4) sh ∧ (0 : Int) = 0 ∧ ∀ i, 0 ≤ i → i < Mmany + 1 → Mrow_46 i = i) ∨ (¬ (canBeP k le lo ta sh ∧ Mmany < 8) ∧ ((Mmany + 1) - 1) = -1 ∧ (Mmany + 1) = Mmany ∧ (uZ (uZ (uZ (uZ (uZ Mguest (5 * Mmany) k) ((5 * Mmany) + 1) le) ((5 * Mmany) + 2) lo) ((5 * Mmany) + 3) ta) ((5 * Mmany) + 4) sh) = Mguest ∧ Mrow_46 = Mrow ∧ (0 : Int) = Mruns) := by
                  exact Or.inl ⟨by unfold canBeP; omega, by omega, by omega, by omega, rfl, rfl, all_le (by assumption) (by omega)⟩
                have hv_55 : (0 : Int) = 0 := by
                  rfl
                exact W.iret (v := zI ((Mmany + 1) - 1)) hx hb hr (fun t9 ht hW => ⟨⟨zI ((Mmany + 1) - 1), (((Mmany + 1) - 1), 0, (Mmany + 1), (uZ (uZ (uZ (uZ (uZ Mguest (5 * Mmany) k) ((5 * Mmany) + 1) le) ((5 * Mmany) + 2) lo) ((5 * Mmany) + 3) ta) ((5 * Mmany) + 4) sh), Mrow_46, 0), rfl, ⟨rfl, ⟨hv_51, hv_52, hR_41, hR_47, hv_53, hv_54, hv_55⟩⟩, by subst hAe; exact z_end hK hw ht hW⟩, by subst hAe; exact hw.2.2.F ht⟩) (by subst hAe; exact hw.2.2.2.2) dX8_guest_172
              · skip
                refine lv_aload_n hx hb dX8_guest_146 rfl (lv_at hl 0 rfl) ?_
                refine va_get (D := D) (ci := 8) (v := .ref (oM 2)) (C := RX8) (T := TX8) (N := 36) hx hb hts hinX8 hown hK hw.1 0 rfl rfl 3 (by decide) (hts (.fieldLink RX8 13 "CarnivalRoadModel" "row" "[I") (by decide +kernel)) (fun _ h9 => h9) rfl dX8_guest_147 ?_
                refine lv_iload hx hb dX8_guest_150 (lv_at hl 1 rfl) ?_
                refine lv_iload hx hb dX8_guest_152 (lv_at hl 1 rfl) ?_
                have hi_56 : (0 : Int) ≤ i_45 ∧ i_45 < ((8 : Nat) : Int) := by
                  first | assumption | omega | grind
                have hv_57 : (0 : Int) ≤ i_45 ∧ i_45 ≤ 7 := by
                  first | assumption | omega | grind
                have hR_58 : RA (uZ Mrow_46 i_45 i_45) (0) 7 := RA_up hR_47 hv_57
                refine z_iast (n := 8) (f := Mrow_46) (ws2 := kM cI cB cZ oM 0 (Mmany + 1) (uZ (uZ (uZ (uZ (uZ Mguest (5 * Mmany) k) ((5 * Mmany) + 1) le) ((5 * Mmany) + 2) lo) ((5 * Mmany) + 3) ta) ((5 * Mmany) + 4) sh) (uZ Mrow_46 i_45 i_45) Mbars Mbar Mfresh Mtape Mtaped Mpos Mtoken MtokenAt Mvalue Mwrong MwrongAt MfaultKind MfaultPlace Mthing Morder Mone Mtwo Mbest Mcells Mgap Mwire Mstand Mruns Mminute Mhead Mplays Mrests Mwent Mout Mcame Mgone MlastOut) hx hb hK hw 2 rfl (by decide) hi_56 dX8_guest_154 rfl (fun H locs hw => ?_)
                refine z_iinc (k := 1) (lv' := [(7, .int (zI (i_45 + 1))), (0, .ref (oM 0))]) hx hb dX8_guest_155 hl rfl (by decide) rfl (fun ls hl => ?_)
                refine lv_goto (tgt := 137) hx hb dX8_guest_158 (by decide) ?_
                have hv_59 : 0 ≤ (i_45 + 1) ∧ (i_45 + 1) ≤ Mmany + 1 := by
                  first | assumption | omega | grind
                have hv_60 : ∀ k, 0 ≤ k → k < (i_45 + 1) → (uZ Mrow_46 i_45 i_45) k = k := by
                  refine all_s (fun k k0 k1 => ?_) uZ_s
                  rw [uZ_n (by omega)]
                  revert k1
                  revert k0
                  revert k
                  assumption
                have hm_61 : (10 - (i_45 + 1)).toNat < (10 - i_45).toNat := by
                  first | assumption | omega | grind
                exact ih_44 ((i_45 + 1), (uZ Mrow_46 i_45 i_45)) _ _ _ ⟨hR_58, hv_59, hv_60, hw, lv_sub hl [1, 0] rfl⟩ hm_61
            · skip
              refine z_iconst hx hb dX8_guest_64 ?_
              have hv_62 : (0 : Int) ≤ (0 : Int) ∧ (0 : Int) ≤ 2 := by
                first | assumption | omega | grind
              have hv_63 : (0 : Int) ≤ Mmany ∧ Mmany ≤ 8 := by
                first | assumption | omega | grind
              have hv_64 : (0 : Int) ≤ Mruns ∧ Mruns ≤ 1 := by
                first | assumption | omega | grind
              have hv_65 : (canBeP k le lo ta sh ∧ Mmany < 8 ∧ ((-1) : Int) = Mmany ∧ Mmany = Mmany + 1 ∧ Mguest = uZ (uZ (uZ (uZ (uZ Mguest (5 * Mmany) k) (5 * Mmany + 1) le) (5 * Mmany + 2) lo) (5 * Mmany + 3) ta) (5 * Mmany + 4) sh ∧ Mruns = 0 ∧ ∀ i, 0 ≤ i → i < Mmany + 1 → Mrow i = i) ∨ (¬ (canBeP k le lo ta sh ∧ Mmany < 8) ∧ ((-1) : Int) = -1 ∧ Mmany = Mmany ∧ Mguest = Mguest ∧ Mrow = Mrow ∧ Mruns = Mruns) := by
                exact Or.inr ⟨fun q => by have q1 := q.1; unfold canBeP at q1; omega, rfl, rfl, rfl, rfl, rfl⟩
              have hv_66 : (0 : Int) = 0 := by
                rfl
              exact W.iret (v := zI (-1)) hx hb hr (fun t9 ht hW => ⟨⟨zI (-1), ((-1), 0, Mmany, Mguest, Mrow, Mruns), rfl, ⟨rfl, ⟨hv_62, hv_63, qMguest, qMrow, hv_64, hv_65, hv_66⟩⟩, by subst hAe; exact z_end hK hw ht hW⟩, by subst hAe; exact hw.2.2.F ht⟩) (by subst hAe; exact hw.2.2.2.2) dX8_guest_65
          · skip
            refine z_if_eq (tgt := 64) hx hb dX8_guest_52 (by decide) (by omega) (fun hc_67 => ?_) (fun hc_67 => absurd hc_67 (by omega))
            refine z_iconst hx hb dX8_guest_64 ?_
            have hv_68 : (0 : Int) ≤ (0 : Int) ∧ (0 : Int) ≤ 2 := by
              first | assumption | omega | grind
            have hv_69 : (0 : Int) ≤ Mmany ∧ Mmany ≤ 8 := by
              first | assumption | omega | grind
            have hv_70 : (0 : Int) ≤ Mruns ∧ Mruns ≤ 1 := by
              first | assumption | omega | grind
            have hv_71 : (canBeP k le lo ta sh ∧ Mmany < 8 ∧ ((-1) : Int) = Mmany ∧ Mmany = Mmany + 1 ∧ Mguest = uZ (uZ (uZ (uZ (uZ Mguest (5 * Mmany) k) (5 * Mmany + 1) le) (5 * Mmany + 2) lo) (5 * Mmany + 3) ta) (5 * Mmany + 4) sh ∧ Mruns = 0 ∧ ∀ i, 0 ≤ i → i < Mmany + 1 → Mrow i = i) ∨ (¬ (canBeP k le lo ta sh ∧ Mmany < 8) ∧ ((-1) : Int) = -1 ∧ Mmany = Mmany ∧ Mguest = Mguest ∧ Mrow = Mrow ∧ Mruns = Mruns) := by
              exact Or.inr ⟨fun q => by have q1 := q.1; unfold canBeP at q1; omega, rfl, rfl, rfl, rfl, rfl⟩
            have hv_72 : (0 : Int) = 0 := by
              rfl
            exact W.iret (v := zI (-1)) hx hb hr (fun t9 ht hW => ⟨⟨zI (-1), ((-1), 0, Mmany, Mguest, Mrow, Mruns), rfl, ⟨rfl, ⟨hv_68, hv_69, qMguest, qMrow, hv_70, hv_71, hv_72⟩⟩, by subst hAe; exact z_end hK hw ht hW⟩, by subst hAe; exact hw.2.2.F ht⟩) (by subst hAe; exact hw.2.2.2.2) dX8_guest_65
        · skip
          refine z_if_eq (tgt := 64) hx hb dX8_guest_41 (by decide) (by omega) (fun hc_73 => ?_) (fun hc_73 => absurd hc_73 (by omega))
          refine z_iconst hx hb dX8_guest_64 ?_
          have hv_74 : (0 : Int) ≤ (0 : Int) ∧ (0 : Int) ≤ 2 := by
            first | assumption | omega | grind
          have hv_75 : (0 : Int) ≤ Mmany ∧ Mmany ≤ 8 := by
            first | assumption | omega | grind
          have hv_76 : (0 : Int) ≤ Mruns ∧ Mruns ≤ 1 := by
            first | assumption | omega | grind
          have hv_77 : (canBeP k le lo ta sh ∧ Mmany < 8 ∧ ((-1) : Int) = Mmany ∧ Mmany = Mmany + 1 ∧ Mguest = uZ (uZ (uZ (uZ (uZ Mguest (5 * Mmany) k) (5 * Mmany + 1) le) (5 * Mmany + 2) lo) (5 * Mmany + 3) ta) (5 * Mmany + 4) sh ∧ Mruns = 0 ∧ ∀ i, 0 ≤ i → i < Mmany + 1 → Mrow i = i) ∨ (¬ (canBeP k le lo ta sh ∧ Mmany < 8) ∧ ((-1) : Int) = -1 ∧ Mmany = Mmany ∧ Mguest = Mguest ∧ Mrow = Mrow ∧ Mruns = Mruns) := by
            exact Or.inr ⟨fun q => by have q1 := q.1; unfold canBeP at q1; omega, rfl, rfl, rfl, rfl, rfl⟩
          have hv_78 : (0 : Int) = 0 := by
            rfl
          exact W.iret (v := zI (-1)) hx hb hr (fun t9 ht hW => ⟨⟨zI (-1), ((-1), 0, Mmany, Mguest, Mrow, Mruns), rfl, ⟨rfl, ⟨hv_74, hv_75, qMguest, qMrow, hv_76, hv_77, hv_78⟩⟩, by subst hAe; exact z_end hK hw ht hW⟩, by subst hAe; exact hw.2.2.F ht⟩) (by subst hAe; exact hw.2.2.2.2) dX8_guest_65
      · skip
        refine z_if_eq (tgt := 64) hx hb dX8_guest_30 (by decide) (by omega) (fun hc_79 => ?_) (fun hc_79 => absurd hc_79 (by omega))
        refine z_iconst hx hb dX8_guest_64 ?_
        have hv_80 : (0 : Int) ≤ (0 : Int) ∧ (0 : Int) ≤ 2 := by
          first | assumption | omega | grind
        have hv_81 : (0 : Int) ≤ Mmany ∧ Mmany ≤ 8 := by
          first | assumption | omega | grind
        have hv_82 : (0 : Int) ≤ Mruns ∧ Mruns ≤ 1 := by
          first | assumption | omega | grind
        have hv_83 : (canBeP k le lo ta sh ∧ Mmany < 8 ∧ ((-1) : Int) = Mmany ∧ Mmany = Mmany + 1 ∧ Mguest = uZ (uZ (uZ (uZ (uZ Mguest (5 * Mmany) k) (5 * Mmany + 1) le) (5 * Mmany + 2) lo) (5 * Mmany + 3) ta) (5 * Mmany + 4) sh ∧ Mruns = 0 ∧ ∀ i, 0 ≤ i → i < Mmany + 1 → Mrow i = i) ∨ (¬ (canBeP k le lo ta sh ∧ Mmany < 8) ∧ ((-1) : Int) = -1 ∧ Mmany = Mmany ∧ Mguest = Mguest ∧ Mrow = Mrow ∧ Mruns = Mruns) := by
          exact Or.inr ⟨fun q => by have q1 := q.1; unfold canBeP at q1; omega, rfl, rfl, rfl, rfl, rfl⟩
        have hv_84 : (0 : Int) = 0 := by
          rfl
        exact W.iret (v := zI (-1)) hx hb hr (fun t9 ht hW => ⟨⟨zI (-1), ((-1), 0, Mmany, Mguest, Mrow, Mruns), rfl, ⟨rfl, ⟨hv_80, hv_81, qMguest, qMrow, hv_82, hv_83, hv_84⟩⟩, by subst hAe; exact z_end hK hw ht hW⟩, by subst hAe; exact hw.2.2.F ht⟩) (by subst hAe; exact hw.2.2.2.2) dX8_guest_65
    · skip
      refine z_if_eq (tgt := 64) hx hb dX8_guest_20 (by decide) (by omega) (fun hc_85 => ?_) (fun hc_85 => absurd hc_85 (by omega))
      refine z_iconst hx hb dX8_guest_64 ?_
      have hv_86 : (0 : Int) ≤ (0 : Int) ∧ (0 : Int) ≤ 2 := by
        first | assumption | omega | grind
      have hv_87 : (0 : Int) ≤ Mmany ∧ Mmany ≤ 8 := by
        first | assumption | omega | grind
      have hv_88 : (0 : Int) ≤ Mruns ∧ Mruns ≤ 1 := by
        first | assumption | omega | grind
      have hv_89 : (canBeP k le lo ta sh ∧ Mmany < 8 ∧ ((-1) : Int) = Mmany ∧ Mmany = Mmany + 1 ∧ Mguest = uZ (uZ (uZ (uZ (uZ Mguest (5 * Mmany) k) (5 * Mmany + 1) le) (5 * Mmany + 2) lo) (5 * Mmany + 3) ta) (5 * Mmany + 4) sh ∧ Mruns = 0 ∧ ∀ i, 0 ≤ i → i < Mmany + 1 → Mrow i = i) ∨ (¬ (canBeP k le lo ta sh ∧ Mmany < 8) ∧ ((-1) : Int) = -1 ∧ Mmany = Mmany ∧ Mguest = Mguest ∧ Mrow = Mrow ∧ Mruns = Mruns) := by
        exact Or.inr ⟨fun q => by have q1 := q.1; unfold canBeP at q1; omega, rfl, rfl, rfl, rfl, rfl⟩
      have hv_90 : (0 : Int) = 0 := by
        rfl
      exact W.iret (v := zI (-1)) hx hb hr (fun t9 ht hW => ⟨⟨zI (-1), ((-1), 0, Mmany, Mguest, Mrow, Mruns), rfl, ⟨rfl, ⟨hv_86, hv_87, qMguest, qMrow, hv_88, hv_89, hv_90⟩⟩, by subst hAe; exact z_end hK hw ht hW⟩, by subst hAe; exact hw.2.2.F ht⟩) (by subst hAe; exact hw.2.2.2.2) dX8_guest_65
  · skip
    refine z_if_eq (tgt := 64) hx hb dX8_guest_11 (by decide) (by omega) (fun hc_91 => ?_) (fun hc_91 => absurd hc_91 (by omega))
    refine z_iconst hx hb dX8_guest_64 ?_
    have hv_92 : (0 : Int) ≤ (0 : Int) ∧ (0 : Int) ≤ 2 := by
      first | assumption | omega | grind
    have hv_93 : (0 : Int) ≤ Mmany ∧ Mmany ≤ 8 := by
      first | assumption | omega | grind
    have hv_94 : (0 : Int) ≤ Mruns ∧ Mruns ≤ 1 := by
      first | assumption | omega | grind
    have hv_95 : (canBeP k le lo ta sh ∧ Mmany < 8 ∧ ((-1) : Int) = Mmany ∧ Mmany = Mmany + 1 ∧ Mguest = uZ (uZ (uZ (uZ (uZ Mguest (5 * Mmany) k) (5 * Mmany + 1) le) (5 * Mmany + 2) lo) (5 * Mmany + 3) ta) (5 * Mmany + 4) sh ∧ Mruns = 0 ∧ ∀ i, 0 ≤ i → i < Mmany + 1 → Mrow i = i) ∨ (¬ (canBeP k le lo ta sh ∧ Mmany < 8) ∧ ((-1) : Int) = -1 ∧ Mmany = Mmany ∧ Mguest = Mguest ∧ Mrow = Mrow ∧ Mruns = Mruns) := by
      exact Or.inr ⟨fun q => by have q1 := q.1; unfold canBeP at q1; omega, rfl, rfl, rfl, rfl, rfl⟩
    have hv_96 : (0 : Int) = 0 := by
      rfl
    exact W.iret (v := zI (-1)) hx hb hr (fun t9 ht hW => ⟨⟨zI (-1), ((-1), 0, Mmany, Mguest, Mrow, Mruns), rfl, ⟨rfl, ⟨hv_92, hv_93, qMguest, qMrow, hv_94, hv_95, hv_96⟩⟩, by subst hAe; exact z_end hK hw ht hW⟩, by subst hAe; exact hw.2.2.F ht⟩) (by subst hAe; exact hw.2.2.2.2) dX8_guest_65
set_option maxRecDepth 100000 in
set_option maxHeartbeats 4000000 in
theorem c_X8_of (l : Launch) (D : va_G) (cI cB cZ : ClassId) (oM : Nat → Nat) (sz : Nat) (Mthrown : Int) (Mmany : Int) (Mguest : Int → Int) (Mrow : Int → Int) (Mbars : Int) (Mbar : Int → Int) (Mfresh : Int → Int) (Mtape : Int → Int) (Mtaped : Int) (Mpos : Int) (Mtoken : Int) (MtokenAt : Int) (Mvalue : Int) (Mwrong : Int) (MwrongAt : Int) (MfaultKind : Int) (MfaultPlace : Int) (Mthing : Int) (Morder : Int → Int) (Mone : Int) (Mtwo : Int) (Mbest : Int → Int) (Mcells : Int) (Mgap : Int) (Mwire : Int → Int) (Mstand : Int → Int) (Mruns : Int) (Mminute : Int) (Mhead : Int → Int) (Mplays : Int → Int) (Mrests : Int → Int) (Mwent : Int → Int) (Mout : Int → Int) (Mcame : Int → Int) (Mgone : Int → Int) (MlastOut : Int) (g : Int) (w : Int) (qMthrown : 0 ≤ Mthrown ∧ Mthrown ≤ 2) (qMmany : 0 ≤ Mmany ∧ Mmany ≤ 8) (qMguest : RA Mguest (0) 9) (qMrow : RA Mrow (0) 7) (qMbars : 0 ≤ Mbars ∧ Mbars ≤ 10) (qMbar : RA Mbar (0) 104) (qMfresh : RA Mfresh (0) 104) (qMtape : RA Mtape (0) 255) (qMtaped : 0 ≤ Mtaped ∧ Mtaped ≤ 400) (qMpos : 0 ≤ Mpos ∧ Mpos ≤ 400) (qMtoken : 0 ≤ Mtoken ∧ Mtoken ≤ 15) (qMtokenAt : 0 ≤ MtokenAt ∧ MtokenAt ≤ 400) (qMvalue : 0 ≤ Mvalue ∧ Mvalue ≤ 99) (qMwrong : 0 ≤ Mwrong ∧ Mwrong ≤ 3) (qMwrongAt : 0 ≤ MwrongAt ∧ MwrongAt ≤ 400) (qMfaultKind : 0 ≤ MfaultKind ∧ MfaultKind ≤ 3) (qMfaultPlace : -1 ≤ MfaultPlace ∧ MfaultPlace ≤ 400) (qMthing : 0 ≤ Mthing ∧ Mthing ≤ 104) (qMorder : RA Morder (0) 7) (qMone : 0 ≤ Mone ∧ Mone ≤ 8) (qMtwo : 0 ≤ Mtwo ∧ Mtwo ≤ 8) (qMbest : RA Mbest (0) 7) (qMcells : 1 ≤ Mcells ∧ Mcells ≤ 50) (qMgap : 0 ≤ Mgap ∧ Mgap ≤ 3) (qMwire : RA Mwire (0) 9) (qMstand : RA Mstand (0) 9) (qMruns : 0 ≤ Mruns ∧ Mruns ≤ 1) (qMminute : 0 ≤ Mminute ∧ Mminute ≤ 1000000) (qMhead : RA Mhead (-1) 60) (qMplays : RA Mplays (0) 18) (qMrests : RA Mrests (0) 3) (qMwent : RA Mwent (0) 61) (qMout : RA Mout (0) 1) (qMcame : RA Mcame (-1) 1000000) (qMgone : RA Mgone (-1) 1000000) (qMlastOut : 0 ≤ MlastOut ∧ MlastOut ≤ 1000000) (qg : -2147483648 ≤ g ∧ g ≤ 2147483647) (qw : -2147483648 ≤ w ∧ w ≤ 2147483647) : Met l yX8_of wsX8_of ({ frames := 2, cells := 0, slots := 0, locals := 43 }) (va_Pc [.ref (oM 0), .int (zI g), .int (zI w)] (zPre D cI cB cZ sz (kM cI cB cZ oM Mthrown Mmany Mguest Mrow Mbars Mbar Mfresh Mtape Mtaped Mpos Mtoken MtokenAt Mvalue Mwrong MwrongAt MfaultKind MfaultPlace Mthing Morder Mone Mtwo Mbest Mcells Mgap Mwire Mstand Mruns Mminute Mhead Mplays Mrests Mwent Mout Mcame Mgone MlastOut))) (va_Qi (fun (r9 : Int32) (u9 : Int × Int) => r9 = zI u9.1 ∧ (((0 : Int) ≤ u9.2 ∧ u9.2 ≤ 2) ∧ ((¬ (0 ≤ g ∧ g < Mmany) ∧ u9.2 = 1) ∨ ((0 ≤ g ∧ g < Mmany) ∧ u9.2 = 0 ∧ (((0 ≤ w ∧ w ≤ 4) ∧ u9.1 = Mguest (5 * g + w)) ∨ (¬ (0 ≤ w ∧ w ≤ 4) ∧ u9.1 = -1)))))) (fun u9 t9 => zAt D cI cB cZ (va_A (kM cI cB cZ oM Mthrown Mmany Mguest Mrow Mbars Mbar Mfresh Mtape Mtaped Mpos Mtoken MtokenAt Mvalue Mwrong MwrongAt MfaultKind MfaultPlace Mthing Morder Mone Mtwo Mbest Mcells Mgap Mwire Mstand Mruns Mminute Mhead Mplays Mrests Mwent Mout Mcame Mgone MlastOut) sz) (kM cI cB cZ oM (u9.2) Mmany Mguest Mrow Mbars Mbar Mfresh Mtape Mtaped Mpos Mtoken MtokenAt Mvalue Mwrong MwrongAt MfaultKind MfaultPlace Mthing Morder Mone Mtwo Mbest Mcells Mgap Mwire Mstand Mruns Mminute Mhead Mplays Mrests Mwent Mout Mcame Mgone MlastOut) t9) (va_A (kM cI cB cZ oM Mthrown Mmany Mguest Mrow Mbars Mbar Mfresh Mtape Mtaped Mpos Mtoken MtokenAt Mvalue Mwrong MwrongAt MfaultKind MfaultPlace Mthing Morder Mone Mtwo Mbest Mcells Mgap Mwire Mstand Mruns Mminute Mhead Mplays Mrests Mwent Mout Mcame Mgone MlastOut) sz)) 0 0 (va_A (kM cI cB cZ oM Mthrown Mmany Mguest Mrow Mbars Mbar Mfresh Mtape Mtaped Mpos Mtoken MtokenAt Mvalue Mwrong MwrongAt MfaultKind MfaultPlace Mthing Morder Mone Mtwo Mbest Mcells Mgap Mwire Mstand Mruns Mminute Mhead Mplays Mrests Mwent Mout Mcame Mgone MlastOut) sz) := by
  refine Met.ofW (cc := cX8_of) (maxL := 3) (ret := (some .int)) (by decide) rfl ?_
  intro pp ee s mm aa bw mt cd s₁ BL hml hv
  obtain ⟨rfl, hsz, hP, hK, hD0⟩ := hv
  have hx := BL.exec
  have hb := BL.bytes
  have hr := BL.returns
  have hts := atoms_spec (ws := wsX8_of) BL.pre
  have hown : s.vm.findClass RX8 = some mm.cls := findClass_of_methodNamed BL.named
  have hlocks := BL.notSynchronized
  subst hsz
  generalize hAe : va_A (kM cI cB cZ oM Mthrown Mmany Mguest Mrow Mbars Mbar Mfresh Mtape Mtaped Mpos Mtoken MtokenAt Mvalue Mwrong MwrongAt MfaultKind MfaultPlace Mthing Morder Mone Mtwo Mbest Mcells Mgap Mwire Mstand Mruns Mminute Mhead Mplays Mrests Mwent Mout Mcame Mgone MlastOut) s.heap.size = A
  have hA : ∀ q : Nat, s.heap.size ≤ q → A q := fun q h => by rw [← hAe]; exact Or.inr h
  have hw : HW D A s.heap (kM cI cB cZ oM Mthrown Mmany Mguest Mrow Mbars Mbar Mfresh Mtape Mtaped Mpos Mtoken MtokenAt Mvalue Mwrong MwrongAt MfaultKind MfaultPlace Mthing Morder Mone Mtwo Mbest Mcells Mgap Mwire Mstand Mruns Mminute Mhead Mplays Mrests Mwent Mout Mcame Mgone MlastOut) s.heap [] := z_start hAe hP hD0
  clear hP hD0
  have hl := lv_entry ([.ref (oM 0), .int (zI g), .int (zI w)]) (n := 3) (Nat.le_of_ble_eq_true rfl)
  rw [lg_entry_eq]
  generalize (lg_sl ([.ref (oM 0), .int (zI g), .int (zI w)]) ++ List.replicate (3 - (lg_sl ([.ref (oM 0), .int (zI g), .int (zI w)])).length) Slot.unset).toArray = ls at hl ⊢
  have hl : lv_has ls 3 [(0, .ref (oM 0)), (1, .int (zI g)), (2, .int (zI w))] := hl
  refine lv_aload_n hx hb dX8_of_0 rfl (lv_at hl 0 rfl) ?_
  refine lv_aload_n hx hb dX8_of_1 rfl (lv_at hl 0 rfl) ?_
  refine lv_iload_n hx hb dX8_of_2 rfl (lv_at hl 1 rfl) ?_
  have hF9 := z_free (wc := kM cI cB cZ oM Mthrown Mmany Mguest Mrow Mbars Mbar Mfresh Mtape Mtaped Mpos Mtoken MtokenAt Mvalue Mwrong MwrongAt MfaultKind MfaultPlace Mthing Morder Mone Mtwo Mbest Mcells Mgap Mwire Mstand Mruns Mminute Mhead Mplays Mrests Mwent Mout Mcame Mgone MlastOut) hw hA [0, 1, 2, 3, 4, 5, 6, 7, 8, 9, 10, 11, 12, 13, 14, 15, 16] rfl
  refine va_calli (va_runV (As := [.int (zI g)]) (rest := [.ref (oM 0)]) ⟨hx, hb, hml, hown, hts⟩ (c_X8_isNo l D cI cB cZ oM s.heap.size Mthrown Mmany Mguest Mrow Mbars Mbar Mfresh Mtape Mtaped Mpos Mtoken MtokenAt Mvalue Mwrong MwrongAt MfaultKind MfaultPlace Mthing Morder Mone Mtwo Mbest Mcells Mgap Mwire Mstand Mruns Mminute Mhead Mplays Mrests Mwent Mout Mcame Mgone MlastOut g (by omega) (by omega) qMguest qMrow (by omega) qMbar qMfresh qMtape (by omega) (by omega) (by omega) (by omega) (by omega) (by omega) (by omega) (by omega) (by omega) (by omega) qMorder (by omega) (by omega) qMbest (by omega) (by omega) qMwire qMstand (by omega) (by omega) qMhead qMplays qMrests qMwent qMout qMcame qMgone (by omega) (by omega)) (cwV 1 hts gX8_of_X8_isNo rfl rfl rfl (by decide +kernel) ⟨Nat.le_of_ble_eq_true rfl, Nat.le_of_ble_eq_true rfl⟩) ⟨zPre_blind, va_recv hK hw.1 (ci := 8) (q0 := 0) rfl rfl, z_pre hK hw [0, 1, 2, 3, 4, 5, 6, 7, 8, 9, 10, 11, 12, 13, 14, 15, 16] (by decide) rfl⟩ rfl rfl hl.1 rfl (lv_room (Nat.le_of_ble_eq_true rfl)) dX8_of_3 ⟨Nat.zero_le _, Nat.zero_le _⟩) hw.2.2 (fun q _ h => hF9 q h) hF9 (fun r9 u9 t9 H_1 locs9 ht9 hvm9 hq9 hB9 hz9 hk9 hS9 => ?_)
  obtain ⟨r_2, rfl⟩ : ∃ z, z = u9 := ⟨_, rfl⟩
  try dsimp only at hq9 hB9
  obtain ⟨rfl, hq9⟩ := hq9
  have hq_3 := hq9
  have hw : HW D A s.heap (kM cI cB cZ oM Mthrown Mmany Mguest Mrow Mbars Mbar Mfresh Mtape Mtaped Mpos Mtoken MtokenAt Mvalue Mwrong MwrongAt MfaultKind MfaultPlace Mthing Morder Mone Mtwo Mbest Mcells Mgap Mwire Mstand Mruns Mminute Mhead Mplays Mrests Mwent Mout Mcame Mgone MlastOut) H_1 locs9 := z_after (wc := kM cI cB cZ oM Mthrown Mmany Mguest Mrow Mbars Mbar Mfresh Mtape Mtaped Mpos Mtoken MtokenAt Mvalue Mwrong MwrongAt MfaultKind MfaultPlace Mthing Morder Mone Mtwo Mbest Mcells Mgap Mwire Mstand Mruns Mminute Mhead Mplays Mrests Mwent Mout Mcame Mgone MlastOut) hw [0, 1, 2, 3, 4, 5, 6, 7, 8, 9, 10, 11, 12, 13, 14, 15, 16] [] rfl rfl (by decide) (by decide) hF9 hk9 ht9 hB9 hS9 [0, 1, 2, 3, 4, 5, 6, 7, 8, 9, 10, 11, 12, 13, 14, 15, 16] (by decide) rfl
  clear hF9 ht9 hvm9 hB9 hz9 hk9 hS9 hq9
  rcases hq_3 with ⟨hc_4, rfl⟩ | ⟨hc_4, rfl⟩
  · skip
    refine z_iconst hx hb dX8_of_6 ?_
    have hF9 := z_free (wc := kM cI cB cZ oM Mthrown Mmany Mguest Mrow Mbars Mbar Mfresh Mtape Mtaped Mpos Mtoken MtokenAt Mvalue Mwrong MwrongAt MfaultKind MfaultPlace Mthing Morder Mone Mtwo Mbest Mcells Mgap Mwire Mstand Mruns Mminute Mhead Mplays Mrests Mwent Mout Mcame Mgone MlastOut) hw hA [0, 1, 2, 3, 4, 5, 6, 7, 8, 9, 10, 11, 12, 13, 14, 15, 16] rfl
    refine va_calli (va_runV (As := [.int (zI 1), .int (zI 0)]) (rest := []) ⟨hx, hb, hml, hown, hts⟩ (c_X8_fails l D cI cB cZ oM H_1.size Mthrown Mmany Mguest Mrow Mbars Mbar Mfresh Mtape Mtaped Mpos Mtoken MtokenAt Mvalue Mwrong MwrongAt MfaultKind MfaultPlace Mthing Morder Mone Mtwo Mbest Mcells Mgap Mwire Mstand Mruns Mminute Mhead Mplays Mrests Mwent Mout Mcame Mgone MlastOut 1 0 (by omega) (by omega) qMguest qMrow (by omega) qMbar qMfresh qMtape (by omega) (by omega) (by omega) (by omega) (by omega) (by omega) (by omega) (by omega) (by omega) (by omega) qMorder (by omega) (by omega) qMbest (by omega) (by omega) qMwire qMstand (by omega) (by omega) qMhead qMplays qMrests qMwent qMout qMcame qMgone (by omega) (by omega) (by omega)) (cwV 2 hts gX8_of_X8_fails rfl rfl rfl (by decide +kernel) ⟨Nat.le_of_ble_eq_true rfl, Nat.le_of_ble_eq_true rfl⟩) ⟨zPre_blind, va_recv hK hw.1 (ci := 8) (q0 := 0) rfl rfl, z_pre hK hw [0, 1, 2, 3, 4, 5, 6, 7, 8, 9, 10, 11, 12, 13, 14, 15, 16] (by decide) rfl⟩ rfl rfl hl.1 rfl (lv_room (Nat.le_of_ble_eq_true rfl)) dX8_of_7 ⟨Nat.zero_le _, Nat.zero_le _⟩) hw.2.2 (fun q _ h => hF9 q h) hF9 (fun r9 u9 t9 H_5 locs9 ht9 hvm9 hq9 hB9 hz9 hk9 hS9 => ?_)
    obtain ⟨r_6, Mthrown_7⟩ := u9
    try dsimp only at hq9 hB9
    obtain ⟨rfl, hq9⟩ := hq9
    obtain ⟨hq_8, hq_9, hq_10⟩ := hq9
    have hw : HW D A s.heap (kM cI cB cZ oM Mthrown_7 Mmany Mguest Mrow Mbars Mbar Mfresh Mtape Mtaped Mpos Mtoken MtokenAt Mvalue Mwrong MwrongAt MfaultKind MfaultPlace Mthing Morder Mone Mtwo Mbest Mcells Mgap Mwire Mstand Mruns Mminute Mhead Mplays Mrests Mwent Mout Mcame Mgone MlastOut) H_5 locs9 := z_after (wc := kM cI cB cZ oM Mthrown Mmany Mguest Mrow Mbars Mbar Mfresh Mtape Mtaped Mpos Mtoken MtokenAt Mvalue Mwrong MwrongAt MfaultKind MfaultPlace Mthing Morder Mone Mtwo Mbest Mcells Mgap Mwire Mstand Mruns Mminute Mhead Mplays Mrests Mwent Mout Mcame Mgone MlastOut) hw [0, 1, 2, 3, 4, 5, 6, 7, 8, 9, 10, 11, 12, 13, 14, 15, 16] [] rfl rfl (by decide) (by decide) hF9 hk9 ht9 hB9 hS9 [0, 1, 2, 3, 4, 5, 6, 7, 8, 9, 10, 11, 12, 13, 14, 15, 16] (by decide) rfl
    clear hF9 ht9 hvm9 hB9 hz9 hk9 hS9
    rcases hq_9 with ⟨hc_11, rfl⟩ | ⟨hc_11, rfl⟩
    · skip
      refine z_if_eq (tgt := 15) hx hb dX8_of_10 (by decide) (by omega) (fun hc_12 => absurd hc_12 (by omega)) (fun hc_12 => ?_)
      refine z_iconst hx hb dX8_of_13 ?_
      have hv_13 : (0 : Int) ≤ Mthrown_7 ∧ Mthrown_7 ≤ 2 := by
        first | assumption | omega | grind
      have hv_14 : (¬ (0 ≤ g ∧ g < Mmany) ∧ Mthrown_7 = 1) ∨ ((0 ≤ g ∧ g < Mmany) ∧ Mthrown_7 = 0 ∧ (((0 ≤ w ∧ w ≤ 4) ∧ (0 : Int) = Mguest (5 * g + w)) ∨ (¬ (0 ≤ w ∧ w ≤ 4) ∧ (0 : Int) = -1))) := by
        first | assumption | omega | grind
      exact W.iret (v := zI 0) hx hb hr (fun t9 ht hW => ⟨⟨zI 0, (0, Mthrown_7), rfl, ⟨rfl, ⟨hv_13, hv_14⟩⟩, by subst hAe; exact z_end hK hw ht hW⟩, by subst hAe; exact hw.2.2.F ht⟩) (by subst hAe; exact hw.2.2.2.2) dX8_of_14
    · skip
      refine z_if_eq (tgt := 15) hx hb dX8_of_10 (by decide) (by omega) (fun hc_15 => ?_) (fun hc_15 => absurd hc_15 (by omega))
      refine lv_iload_n hx hb dX8_of_15 rfl (lv_at hl 2 rfl) ?_
      refine z_iconst hx hb dX8_of_16 ?_
      refine z_iconst hx hb dX8_of_17 ?_
      have hF9 := z_free (wc := ([] : va_W)) hw hA [] rfl
      refine va_calli (va_runS (As := [.int (zI w), .int (zI 0), .int (zI 4)]) (rest := []) ⟨hx, hb, hml, hown, hts⟩ (c_X8_isIn l D cI cB cZ H_5.size w 0 4 (by omega) (by omega) (by omega)) (va_cwS 3 hts gX8_of_X8_isIn rfl rfl rfl (by decide +kernel) ⟨Nat.le_of_ble_eq_true rfl, Nat.le_of_ble_eq_true rfl⟩) ⟨zPre_blind, z_pre hK hw [] (by decide) rfl⟩ rfl rfl hl.1 rfl (lv_room (Nat.le_of_ble_eq_true rfl)) dX8_of_18 ⟨Nat.zero_le _, Nat.zero_le _⟩) hw.2.2 (fun q _ h => hF9 q h) hF9 (fun r9 u9 t9 H_16 locs9 ht9 hvm9 hq9 hB9 hz9 hk9 hS9 => ?_)
      obtain ⟨r_17, rfl⟩ : ∃ z, z = u9 := ⟨_, rfl⟩
      try dsimp only at hq9 hB9
      obtain ⟨rfl, hq9⟩ := hq9
      have hq_18 := hq9
      have hw : HW D A s.heap (kM cI cB cZ oM Mthrown_7 Mmany Mguest Mrow Mbars Mbar Mfresh Mtape Mtaped Mpos Mtoken MtokenAt Mvalue Mwrong MwrongAt MfaultKind MfaultPlace Mthing Morder Mone Mtwo Mbest Mcells Mgap Mwire Mstand Mruns Mminute Mhead Mplays Mrests Mwent Mout Mcame Mgone MlastOut) H_16 locs9 := z_after (wc := ([] : va_W)) hw [] [0, 1, 2, 3, 4, 5, 6, 7, 8, 9, 10, 11, 12, 13, 14, 15, 16] rfl rfl (by decide) (by decide) hF9 hk9 ht9 hB9 hS9 [0, 1, 2, 3, 4, 5, 6, 7, 8, 9, 10, 11, 12, 13, 14, 15, 16] (by decide) rfl
      clear hF9 ht9 hvm9 hB9 hz9 hk9 hS9 hq9
      rcases hq_18 with ⟨hc_19, rfl⟩ | ⟨hc_19, rfl⟩
      · skip
        refine z_if_eq (tgt := 33) hx hb dX8_of_21 (by decide) (by omega) (fun hc_20 => absurd hc_20 (by omega)) (fun hc_20 => ?_)
        refine lv_aload_n hx hb dX8_of_24 rfl (lv_at hl 0 rfl) ?_
        refine lv_iload_n hx hb dX8_of_25 rfl (lv_at hl 1 rfl) ?_
        refine lv_iload_n hx hb dX8_of_26 rfl (lv_at hl 2 rfl) ?_
        have hF9 := z_free (wc := kM cI cB cZ oM Mthrown_7 Mmany Mguest Mrow Mbars Mbar Mfresh Mtape Mtaped Mpos Mtoken MtokenAt Mvalue Mwrong MwrongAt MfaultKind MfaultPlace Mthing Morder Mone Mtwo Mbest Mcells Mgap Mwire Mstand Mruns Mminute Mhead Mplays Mrests Mwent Mout Mcame Mgone MlastOut) hw hA [0, 1, 2, 3, 4, 5, 6, 7, 8, 9, 10, 11, 12, 13, 14, 15, 16] rfl
        refine va_calli (va_runV (As := [.int (zI g), .int (zI w)]) (rest := []) ⟨hx, hb, hml, hown, hts⟩ (c_X8_get l D cI cB cZ oM H_16.size Mthrown_7 Mmany Mguest Mrow Mbars Mbar Mfresh Mtape Mtaped Mpos Mtoken MtokenAt Mvalue Mwrong MwrongAt MfaultKind MfaultPlace Mthing Morder Mone Mtwo Mbest Mcells Mgap Mwire Mstand Mruns Mminute Mhead Mplays Mrests Mwent Mout Mcame Mgone MlastOut g w (by omega) (by omega) qMguest qMrow (by omega) qMbar qMfresh qMtape (by omega) (by omega) (by omega) (by omega) (by omega) (by omega) (by omega) (by omega) (by omega) (by omega) qMorder (by omega) (by omega) qMbest (by omega) (by omega) qMwire qMstand (by omega) (by omega) qMhead qMplays qMrests qMwent qMout qMcame qMgone (by omega) (by omega) (by omega)) (cwV 2 hts gX8_of_X8_get rfl rfl rfl (by decide +kernel) ⟨Nat.le_of_ble_eq_true rfl, Nat.le_of_ble_eq_true rfl⟩) ⟨zPre_blind, va_recv hK hw.1 (ci := 8) (q0 := 0) rfl rfl, z_pre hK hw [0, 1, 2, 3, 4, 5, 6, 7, 8, 9, 10, 11, 12, 13, 14, 15, 16] (by decide) rfl⟩ rfl rfl hl.1 rfl (lv_room (Nat.le_of_ble_eq_true rfl)) dX8_of_27 ⟨Nat.zero_le _, Nat.zero_le _⟩) hw.2.2 (fun q _ h => hF9 q h) hF9 (fun r9 u9 t9 H_21 locs9 ht9 hvm9 hq9 hB9 hz9 hk9 hS9 => ?_)
        obtain ⟨r_22, rfl⟩ : ∃ z, z = u9 := ⟨_, rfl⟩
        try dsimp only at hq9 hB9
        obtain ⟨rfl, hq9⟩ := hq9
        obtain ⟨hq_23, hq_24⟩ := hq9
        have hw : HW D A s.heap (kM cI cB cZ oM Mthrown_7 Mmany Mguest Mrow Mbars Mbar Mfresh Mtape Mtaped Mpos Mtoken MtokenAt Mvalue Mwrong MwrongAt MfaultKind MfaultPlace Mthing Morder Mone Mtwo Mbest Mcells Mgap Mwire Mstand Mruns Mminute Mhead Mplays Mrests Mwent Mout Mcame Mgone MlastOut) H_21 locs9 := z_after (wc := kM cI cB cZ oM Mthrown_7 Mmany Mguest Mrow Mbars Mbar Mfresh Mtape Mtaped Mpos Mtoken MtokenAt Mvalue Mwrong MwrongAt MfaultKind MfaultPlace Mthing Morder Mone Mtwo Mbest Mcells Mgap Mwire Mstand Mruns Mminute Mhead Mplays Mrests Mwent Mout Mcame Mgone MlastOut) hw [0, 1, 2, 3, 4, 5, 6, 7, 8, 9, 10, 11, 12, 13, 14, 15, 16] [] rfl rfl (by decide) (by decide) hF9 hk9 ht9 hB9 hS9 [0, 1, 2, 3, 4, 5, 6, 7, 8, 9, 10, 11, 12, 13, 14, 15, 16] (by decide) rfl
        clear hF9 ht9 hvm9 hB9 hz9 hk9 hS9
        refine lv_goto (tgt := 34) hx hb dX8_of_30 (by decide) ?_
        have hv_25 : (0 : Int) ≤ Mthrown_7 ∧ Mthrown_7 ≤ 2 := by
          first | assumption | omega | grind
        have hv_26 : (¬ (0 ≤ g ∧ g < Mmany) ∧ Mthrown_7 = 1) ∨ ((0 ≤ g ∧ g < Mmany) ∧ Mthrown_7 = 0 ∧ (((0 ≤ w ∧ w ≤ 4) ∧ r_22 = Mguest (5 * g + w)) ∨ (¬ (0 ≤ w ∧ w ≤ 4) ∧ r_22 = -1))) := by
          first | assumption | omega | grind
        exact W.iret (v := zI r_22) hx hb hr (fun t9 ht hW => ⟨⟨zI r_22, (r_22, Mthrown_7), rfl, ⟨rfl, ⟨hv_25, hv_26⟩⟩, by subst hAe; exact z_end hK hw ht hW⟩, by subst hAe; exact hw.2.2.F ht⟩) (by subst hAe; exact hw.2.2.2.2) dX8_of_34
      · skip
        refine z_if_eq (tgt := 33) hx hb dX8_of_21 (by decide) (by omega) (fun hc_27 => ?_) (fun hc_27 => absurd hc_27 (by omega))
        refine z_iconst hx hb dX8_of_33 ?_
        have hv_28 : (0 : Int) ≤ Mthrown_7 ∧ Mthrown_7 ≤ 2 := by
          first | assumption | omega | grind
        have hv_29 : (¬ (0 ≤ g ∧ g < Mmany) ∧ Mthrown_7 = 1) ∨ ((0 ≤ g ∧ g < Mmany) ∧ Mthrown_7 = 0 ∧ (((0 ≤ w ∧ w ≤ 4) ∧ ((-1) : Int) = Mguest (5 * g + w)) ∨ (¬ (0 ≤ w ∧ w ≤ 4) ∧ ((-1) : Int) = -1))) := by
          first | assumption | omega | grind
        exact W.iret (v := zI (-1)) hx hb hr (fun t9 ht hW => ⟨⟨zI (-1), ((-1), Mthrown_7), rfl, ⟨rfl, ⟨hv_28, hv_29⟩⟩, by subst hAe; exact z_end hK hw ht hW⟩, by subst hAe; exact hw.2.2.F ht⟩) (by subst hAe; exact hw.2.2.2.2) dX8_of_34
  · skip
    refine z_iconst hx hb dX8_of_6 ?_
    have hF9 := z_free (wc := kM cI cB cZ oM Mthrown Mmany Mguest Mrow Mbars Mbar Mfresh Mtape Mtaped Mpos Mtoken MtokenAt Mvalue Mwrong MwrongAt MfaultKind MfaultPlace Mthing Morder Mone Mtwo Mbest Mcells Mgap Mwire Mstand Mruns Mminute Mhead Mplays Mrests Mwent Mout Mcame Mgone MlastOut) hw hA [0, 1, 2, 3, 4, 5, 6, 7, 8, 9, 10, 11, 12, 13, 14, 15, 16] rfl
    refine va_calli (va_runV (As := [.int (zI 0), .int (zI 0)]) (rest := []) ⟨hx, hb, hml, hown, hts⟩ (c_X8_fails l D cI cB cZ oM H_1.size Mthrown Mmany Mguest Mrow Mbars Mbar Mfresh Mtape Mtaped Mpos Mtoken MtokenAt Mvalue Mwrong MwrongAt MfaultKind MfaultPlace Mthing Morder Mone Mtwo Mbest Mcells Mgap Mwire Mstand Mruns Mminute Mhead Mplays Mrests Mwent Mout Mcame Mgone MlastOut 0 0 (by omega) (by omega) qMguest qMrow (by omega) qMbar qMfresh qMtape (by omega) (by omega) (by omega) (by omega) (by omega) (by omega) (by omega) (by omega) (by omega) (by omega) qMorder (by omega) (by omega) qMbest (by omega) (by omega) qMwire qMstand (by omega) (by omega) qMhead qMplays qMrests qMwent qMout qMcame qMgone (by omega) (by omega) (by omega)) (cwV 2 hts gX8_of_X8_fails rfl rfl rfl (by decide +kernel) ⟨Nat.le_of_ble_eq_true rfl, Nat.le_of_ble_eq_true rfl⟩) ⟨zPre_blind, va_recv hK hw.1 (ci := 8) (q0 := 0) rfl rfl, z_pre hK hw [0, 1, 2, 3, 4, 5, 6, 7, 8, 9, 10, 11, 12, 13, 14, 15, 16] (by decide) rfl⟩ rfl rfl hl.1 rfl (lv_room (Nat.le_of_ble_eq_true rfl)) dX8_of_7 ⟨Nat.zero_le _, Nat.zero_le _⟩) hw.2.2 (fun q _ h => hF9 q h) hF9 (fun r9 u9 t9 H_30 locs9 ht9 hvm9 hq9 hB9 hz9 hk9 hS9 => ?_)
    obtain ⟨r_31, Mthrown_32⟩ := u9
    try dsimp only at hq9 hB9
    obtain ⟨rfl, hq9⟩ := hq9
    obtain ⟨hq_33, hq_34, hq_35⟩ := hq9
    have hw : HW D A s.heap (kM cI cB cZ oM Mthrown_32 Mmany Mguest Mrow Mbars Mbar Mfresh Mtape Mtaped Mpos Mtoken MtokenAt Mvalue Mwrong MwrongAt MfaultKind MfaultPlace Mthing Morder Mone Mtwo Mbest Mcells Mgap Mwire Mstand Mruns Mminute Mhead Mplays Mrests Mwent Mout Mcame Mgone MlastOut) H_30 locs9 := z_after (wc := kM cI cB cZ oM Mthrown Mmany Mguest Mrow Mbars Mbar Mfresh Mtape Mtaped Mpos Mtoken MtokenAt Mvalue Mwrong MwrongAt MfaultKind MfaultPlace Mthing Morder Mone Mtwo Mbest Mcells Mgap Mwire Mstand Mruns Mminute Mhead Mplays Mrests Mwent Mout Mcame Mgone MlastOut) hw [0, 1, 2, 3, 4, 5, 6, 7, 8, 9, 10, 11, 12, 13, 14, 15, 16] [] rfl rfl (by decide) (by decide) hF9 hk9 ht9 hB9 hS9 [0, 1, 2, 3, 4, 5, 6, 7, 8, 9, 10, 11, 12, 13, 14, 15, 16] (by decide) rfl
    clear hF9 ht9 hvm9 hB9 hz9 hk9 hS9
    rcases hq_34 with ⟨hc_36, rfl⟩ | ⟨hc_36, rfl⟩
    · skip
      refine z_if_eq (tgt := 15) hx hb dX8_of_10 (by decide) (by omega) (fun hc_37 => absurd hc_37 (by omega)) (fun hc_37 => ?_)
      refine z_iconst hx hb dX8_of_13 ?_
      have hv_38 : (0 : Int) ≤ Mthrown_32 ∧ Mthrown_32 ≤ 2 := by
        first | assumption | omega | grind
      have hv_39 : (¬ (0 ≤ g ∧ g < Mmany) ∧ Mthrown_32 = 1) ∨ ((0 ≤ g ∧ g < Mmany) ∧ Mthrown_32 = 0 ∧ (((0 ≤ w ∧ w ≤ 4) ∧ (0 : Int) = Mguest (5 * g + w)) ∨ (¬ (0 ≤ w ∧ w ≤ 4) ∧ (0 : Int) = -1))) := by
        first | assumption | omega | grind
      exact W.iret (v := zI 0) hx hb hr (fun t9 ht hW => ⟨⟨zI 0, (0, Mthrown_32), rfl, ⟨rfl, ⟨hv_38, hv_39⟩⟩, by subst hAe; exact z_end hK hw ht hW⟩, by subst hAe; exact hw.2.2.F ht⟩) (by subst hAe; exact hw.2.2.2.2) dX8_of_14
    · skip
      refine z_if_eq (tgt := 15) hx hb dX8_of_10 (by decide) (by omega) (fun hc_40 => ?_) (fun hc_40 => absurd hc_40 (by omega))
      refine lv_iload_n hx hb dX8_of_15 rfl (lv_at hl 2 rfl) ?_
      refine z_iconst hx hb dX8_of_16 ?_
      refine z_iconst hx hb dX8_of_17 ?_
      have hF9 := z_free (wc := ([] : va_W)) hw hA [] rfl
      refine va_calli (va_runS (As := [.int (zI w), .int (zI 0), .int (zI 4)]) (rest := []) ⟨hx, hb, hml, hown, hts⟩ (c_X8_isIn l D cI cB cZ H_30.size w 0 4 (by omega) (by omega) (by omega)) (va_cwS 3 hts gX8_of_X8_isIn rfl rfl rfl (by decide +kernel) ⟨Nat.le_of_ble_eq_true rfl, Nat.le_of_ble_eq_true rfl⟩) ⟨zPre_blind, z_pre hK hw [] (by decide) rfl⟩ rfl rfl hl.1 rfl (lv_room (Nat.le_of_ble_eq_true rfl)) dX8_of_18 ⟨Nat.zero_le _, Nat.zero_le _⟩) hw.2.2 (fun q _ h => hF9 q h) hF9 (fun r9 u9 t9 H_41 locs9 ht9 hvm9 hq9 hB9 hz9 hk9 hS9 => ?_)
      obtain ⟨r_42, rfl⟩ : ∃ z, z = u9 := ⟨_, rfl⟩
      try dsimp only at hq9 hB9
      obtain ⟨rfl, hq9⟩ := hq9
      have hq_43 := hq9
      have hw : HW D A s.heap (kM cI cB cZ oM Mthrown_32 Mmany Mguest Mrow Mbars Mbar Mfresh Mtape Mtaped Mpos Mtoken MtokenAt Mvalue Mwrong MwrongAt MfaultKind MfaultPlace Mthing Morder Mone Mtwo Mbest Mcells Mgap Mwire Mstand Mruns Mminute Mhead Mplays Mrests Mwent Mout Mcame Mgone MlastOut) H_41 locs9 := z_after (wc := ([] : va_W)) hw [] [0, 1, 2, 3, 4, 5, 6, 7, 8, 9, 10, 11, 12, 13, 14, 15, 16] rfl rfl (by decide) (by decide) hF9 hk9 ht9 hB9 hS9 [0, 1, 2, 3, 4, 5, 6, 7, 8, 9, 10, 11, 12, 13, 14, 15, 16] (by decide) rfl
      clear hF9 ht9 hvm9 hB9 hz9 hk9 hS9 hq9
      rcases hq_43 with ⟨hc_44, rfl⟩ | ⟨hc_44, rfl⟩
      · skip
        refine z_if_eq (tgt := 33) hx hb dX8_of_21 (by decide) (by omega) (fun hc_45 => absurd hc_45 (by omega)) (fun hc_45 => ?_)
        refine lv_aload_n hx hb dX8_of_24 rfl (lv_at hl 0 rfl) ?_
        refine lv_iload_n hx hb dX8_of_25 rfl (lv_at hl 1 rfl) ?_
        refine lv_iload_n hx hb dX8_of_26 rfl (lv_at hl 2 rfl) ?_
        have hF9 := z_free (wc := kM cI cB cZ oM Mthrown_32 Mmany Mguest Mrow Mbars Mbar Mfresh Mtape Mtaped Mpos Mtoken MtokenAt Mvalue Mwrong MwrongAt MfaultKind MfaultPlace Mthing Morder Mone Mtwo Mbest Mcells Mgap Mwire Mstand Mruns Mminute Mhead Mplays Mrests Mwent Mout Mcame Mgone MlastOut) hw hA [0, 1, 2, 3, 4, 5, 6, 7, 8, 9, 10, 11, 12, 13, 14, 15, 16] rfl
        refine va_calli (va_runV (As := [.int (zI g), .int (zI w)]) (rest := []) ⟨hx, hb, hml, hown, hts⟩ (c_X8_get l D cI cB cZ oM H_41.size Mthrown_32 Mmany Mguest Mrow Mbars Mbar Mfresh Mtape Mtaped Mpos Mtoken MtokenAt Mvalue Mwrong MwrongAt MfaultKind MfaultPlace Mthing Morder Mone Mtwo Mbest Mcells Mgap Mwire Mstand Mruns Mminute Mhead Mplays Mrests Mwent Mout Mcame Mgone MlastOut g w (by omega) (by omega) qMguest qMrow (by omega) qMbar qMfresh qMtape (by omega) (by omega) (by omega) (by omega) (by omega) (by omega) (by omega) (by omega) (by omega) (by omega) qMorder (by omega) (by omega) qMbest (by omega) (by omega) qMwire qMstand (by omega) (by omega) qMhead qMplays qMrests qMwent qMout qMcame qMgone (by omega) (by omega) (by omega)) (cwV 2 hts gX8_of_X8_get rfl rfl rfl (by decide +kernel) ⟨Nat.le_of_ble_eq_true rfl, Nat.le_of_ble_eq_true rfl⟩) ⟨zPre_blind, va_recv hK hw.1 (ci := 8) (q0 := 0) rfl rfl, z_pre hK hw [0, 1, 2, 3, 4, 5, 6, 7, 8, 9, 10, 11, 12, 13, 14, 15, 16] (by decide) rfl⟩ rfl rfl hl.1 rfl (lv_room (Nat.le_of_ble_eq_true rfl)) dX8_of_27 ⟨Nat.zero_le _, Nat.zero_le _⟩) hw.2.2 (fun q _ h => hF9 q h) hF9 (fun r9 u9 t9 H_46 locs9 ht9 hvm9 hq9 hB9 hz9 hk9 hS9 => ?_)
        obtain ⟨r_47, rfl⟩ : ∃ z, z = u9 := ⟨_, rfl⟩
        try dsimp only at hq9 hB9
        obtain ⟨rfl, hq9⟩ := hq9
        obtain ⟨hq_48, hq_49⟩ := hq9
        have hw : HW D A s.heap (kM cI cB cZ oM Mthrown_32 Mmany Mguest Mrow Mbars Mbar Mfresh Mtape Mtaped Mpos Mtoken MtokenAt Mvalue Mwrong MwrongAt MfaultKind MfaultPlace Mthing Morder Mone Mtwo Mbest Mcells Mgap Mwire Mstand Mruns Mminute Mhead Mplays Mrests Mwent Mout Mcame Mgone MlastOut) H_46 locs9 := z_after (wc := kM cI cB cZ oM Mthrown_32 Mmany Mguest Mrow Mbars Mbar Mfresh Mtape Mtaped Mpos Mtoken MtokenAt Mvalue Mwrong MwrongAt MfaultKind MfaultPlace Mthing Morder Mone Mtwo Mbest Mcells Mgap Mwire Mstand Mruns Mminute Mhead Mplays Mrests Mwent Mout Mcame Mgone MlastOut) hw [0, 1, 2, 3, 4, 5, 6, 7, 8, 9, 10, 11, 12, 13, 14, 15, 16] [] rfl rfl (by decide) (by decide) hF9 hk9 ht9 hB9 hS9 [0, 1, 2, 3, 4, 5, 6, 7, 8, 9, 10, 11, 12, 13, 14, 15, 16] (by decide) rfl
        clear hF9 ht9 hvm9 hB9 hz9 hk9 hS9
        refine lv_goto (tgt := 34) hx hb dX8_of_30 (by decide) ?_
        have hv_50 : (0 : Int) ≤ Mthrown_32 ∧ Mthrown_32 ≤ 2 := by
          first | assumption | omega | grind
        have hv_51 : (¬ (0 ≤ g ∧ g < Mmany) ∧ Mthrown_32 = 1) ∨ ((0 ≤ g ∧ g < Mmany) ∧ Mthrown_32 = 0 ∧ (((0 ≤ w ∧ w ≤ 4) ∧ r_47 = Mguest (5 * g + w)) ∨ (¬ (0 ≤ w ∧ w ≤ 4) ∧ r_47 = -1))) := by
          first | assumption | omega | grind
        exact W.iret (v := zI r_47) hx hb hr (fun t9 ht hW => ⟨⟨zI r_47, (r_47, Mthrown_32), rfl, ⟨rfl, ⟨hv_50, hv_51⟩⟩, by subst hAe; exact z_end hK hw ht hW⟩, by subst hAe; exact hw.2.2.F ht⟩) (by subst hAe; exact hw.2.2.2.2) dX8_of_34
      · skip
        refine z_if_eq (tgt := 33) hx hb dX8_of_21 (by decide) (by omega) (fun hc_52 => ?_) (fun hc_52 => absurd hc_52 (by omega))
        refine z_iconst hx hb dX8_of_33 ?_
        have hv_53 : (0 : Int) ≤ Mthrown_32 ∧ Mthrown_32 ≤ 2 := by
          first | assumption | omega | grind
        have hv_54 : (¬ (0 ≤ g ∧ g < Mmany) ∧ Mthrown_32 = 1) ∨ ((0 ≤ g ∧ g < Mmany) ∧ Mthrown_32 = 0 ∧ (((0 ≤ w ∧ w ≤ 4) ∧ ((-1) : Int) = Mguest (5 * g + w)) ∨ (¬ (0 ≤ w ∧ w ≤ 4) ∧ ((-1) : Int) = -1))) := by
          first | assumption | omega | grind
        exact W.iret (v := zI (-1)) hx hb hr (fun t9 ht hW => ⟨⟨zI (-1), ((-1), Mthrown_32), rfl, ⟨rfl, ⟨hv_53, hv_54⟩⟩, by subst hAe; exact z_end hK hw ht hW⟩, by subst hAe; exact hw.2.2.F ht⟩) (by subst hAe; exact hw.2.2.2.2) dX8_of_34
set_option maxRecDepth 100000 in
set_option maxHeartbeats 4000000 in
theorem c_X8_passes (l : Launch) (D : va_G) (cI cB cZ : ClassId) (oM : Nat → Nat) (sz : Nat) (Mthrown : Int) (Mmany : Int) (Mguest : Int → Int) (Mrow : Int → Int) (Mbars : Int) (Mbar : Int → Int) (Mfresh : Int → Int) (Mtape : Int → Int) (Mtaped : Int) (Mpos : Int) (Mtoken : Int) (MtokenAt : Int) (Mvalue : Int) (Mwrong : Int) (MwrongAt : Int) (MfaultKind : Int) (MfaultPlace : Int) (Mthing : Int) (Morder : Int → Int) (Mone : Int) (Mtwo : Int) (Mbest : Int → Int) (Mcells : Int) (Mgap : Int) (Mwire : Int → Int) (Mstand : Int → Int) (Mruns : Int) (Mminute : Int) (Mhead : Int → Int) (Mplays : Int → Int) (Mrests : Int → Int) (Mwent : Int → Int) (Mout : Int → Int) (Mcame : Int → Int) (Mgone : Int → Int) (MlastOut : Int) (g : Int) (qMthrown : 0 ≤ Mthrown ∧ Mthrown ≤ 2) (qMmany : 0 ≤ Mmany ∧ Mmany ≤ 8) (qMguest : RA Mguest (0) 9) (qMrow : RA Mrow (0) 7) (qMbars : 0 ≤ Mbars ∧ Mbars ≤ 10) (qMbar : RA Mbar (0) 104) (qMfresh : RA Mfresh (0) 104) (qMtape : RA Mtape (0) 255) (qMtaped : 0 ≤ Mtaped ∧ Mtaped ≤ 400) (qMpos : 0 ≤ Mpos ∧ Mpos ≤ 400) (qMtoken : 0 ≤ Mtoken ∧ Mtoken ≤ 15) (qMtokenAt : 0 ≤ MtokenAt ∧ MtokenAt ≤ 400) (qMvalue : 0 ≤ Mvalue ∧ Mvalue ≤ 99) (qMwrong : 0 ≤ Mwrong ∧ Mwrong ≤ 3) (qMwrongAt : 0 ≤ MwrongAt ∧ MwrongAt ≤ 400) (qMfaultKind : 0 ≤ MfaultKind ∧ MfaultKind ≤ 3) (qMfaultPlace : -1 ≤ MfaultPlace ∧ MfaultPlace ≤ 400) (qMthing : 0 ≤ Mthing ∧ Mthing ≤ 104) (qMorder : RA Morder (0) 7) (qMone : 0 ≤ Mone ∧ Mone ≤ 8) (qMtwo : 0 ≤ Mtwo ∧ Mtwo ≤ 8) (qMbest : RA Mbest (0) 7) (qMcells : 1 ≤ Mcells ∧ Mcells ≤ 50) (qMgap : 0 ≤ Mgap ∧ Mgap ≤ 3) (qMwire : RA Mwire (0) 9) (qMstand : RA Mstand (0) 9) (qMruns : 0 ≤ Mruns ∧ Mruns ≤ 1) (qMminute : 0 ≤ Mminute ∧ Mminute ≤ 1000000) (qMhead : RA Mhead (-1) 60) (qMplays : RA Mplays (0) 18) (qMrests : RA Mrests (0) 3) (qMwent : RA Mwent (0) 61) (qMout : RA Mout (0) 1) (qMcame : RA Mcame (-1) 1000000) (qMgone : RA Mgone (-1) 1000000) (qMlastOut : 0 ≤ MlastOut ∧ MlastOut ≤ 1000000) (qg : -2147483648 ≤ g ∧ g ≤ 2147483647) : Met l yX8_passes wsX8_passes ({ frames := 2, cells := 0, slots := 0, locals := 44 }) (va_Pc [.ref (oM 0), .int (zI g)] (zPre D cI cB cZ sz (kM cI cB cZ oM Mthrown Mmany Mguest Mrow Mbars Mbar Mfresh Mtape Mtaped Mpos Mtoken MtokenAt Mvalue Mwrong MwrongAt MfaultKind MfaultPlace Mthing Morder Mone Mtwo Mbest Mcells Mgap Mwire Mstand Mruns Mminute Mhead Mplays Mrests Mwent Mout Mcame Mgone MlastOut))) (va_Qi (fun (r9 : Int32) (u9 : Int × Int) => r9 = zI u9.1 ∧ (((0 : Int) ≤ u9.2 ∧ u9.2 ≤ 2) ∧ ((¬ (0 ≤ g ∧ g < Mmany) ∧ u9.2 = 1) ∨ ((0 ≤ g ∧ g < Mmany) ∧ u9.2 = 0 ∧ fstP (lowP Mwire (Mguest (5 * g + 3))) Mcells u9.1)))) (fun u9 t9 => zAt D cI cB cZ (va_A (kM cI cB cZ oM Mthrown Mmany Mguest Mrow Mbars Mbar Mfresh Mtape Mtaped Mpos Mtoken MtokenAt Mvalue Mwrong MwrongAt MfaultKind MfaultPlace Mthing Morder Mone Mtwo Mbest Mcells Mgap Mwire Mstand Mruns Mminute Mhead Mplays Mrests Mwent Mout Mcame Mgone MlastOut) sz) (kM cI cB cZ oM (u9.2) Mmany Mguest Mrow Mbars Mbar Mfresh Mtape Mtaped Mpos Mtoken MtokenAt Mvalue Mwrong MwrongAt MfaultKind MfaultPlace Mthing Morder Mone Mtwo Mbest Mcells Mgap Mwire Mstand Mruns Mminute Mhead Mplays Mrests Mwent Mout Mcame Mgone MlastOut) t9) (va_A (kM cI cB cZ oM Mthrown Mmany Mguest Mrow Mbars Mbar Mfresh Mtape Mtaped Mpos Mtoken MtokenAt Mvalue Mwrong MwrongAt MfaultKind MfaultPlace Mthing Morder Mone Mtwo Mbest Mcells Mgap Mwire Mstand Mruns Mminute Mhead Mplays Mrests Mwent Mout Mcame Mgone MlastOut) sz)) 0 0 (va_A (kM cI cB cZ oM Mthrown Mmany Mguest Mrow Mbars Mbar Mfresh Mtape Mtaped Mpos Mtoken MtokenAt Mvalue Mwrong MwrongAt MfaultKind MfaultPlace Mthing Morder Mone Mtwo Mbest Mcells Mgap Mwire Mstand Mruns Mminute Mhead Mplays Mrests Mwent Mout Mcame Mgone MlastOut) sz) := by
  refine Met.ofW (cc := cX8_passes) (maxL := 2) (ret := (some .int)) (by decide) rfl ?_
  intro pp ee s mm aa bw mt cd s₁ BL hml hv
  obtain ⟨rfl, hsz, hP, hK, hD0⟩ := hv
  have hx := BL.exec
  have hb := BL.bytes
  have hr := BL.returns
  have hts := atoms_spec (ws := wsX8_passes) BL.pre
  have hown : s.vm.findClass RX8 = some mm.cls := findClass_of_methodNamed BL.named
  have hlocks := BL.notSynchronized
  subst hsz
  generalize hAe : va_A (kM cI cB cZ oM Mthrown Mmany Mguest Mrow Mbars Mbar Mfresh Mtape Mtaped Mpos Mtoken MtokenAt Mvalue Mwrong MwrongAt MfaultKind MfaultPlace Mthing Morder Mone Mtwo Mbest Mcells Mgap Mwire Mstand Mruns Mminute Mhead Mplays Mrests Mwent Mout Mcame Mgone MlastOut) s.heap.size = A
  have hA : ∀ q : Nat, s.heap.size ≤ q → A q := fun q h => by rw [← hAe]; exact Or.inr h
  have hw : HW D A s.heap (kM cI cB cZ oM Mthrown Mmany Mguest Mrow Mbars Mbar Mfresh Mtape Mtaped Mpos Mtoken MtokenAt Mvalue Mwrong MwrongAt MfaultKind MfaultPlace Mthing Morder Mone Mtwo Mbest Mcells Mgap Mwire Mstand Mruns Mminute Mhead Mplays Mrests Mwent Mout Mcame Mgone MlastOut) s.heap [] := z_start hAe hP hD0
  clear hP hD0
  have hl := lv_entry ([.ref (oM 0), .int (zI g)]) (n := 2) (Nat.le_of_ble_eq_true rfl)
  rw [lg_entry_eq]
  generalize (lg_sl ([.ref (oM 0), .int (zI g)]) ++ List.replicate (2 - (lg_sl ([.ref (oM 0), .int (zI g)])).length) Slot.unset).toArray = ls at hl ⊢
  have hl : lv_has ls 2 [(0, .ref (oM 0)), (1, .int (zI g))] := hl
  refine lv_aload_n hx hb dX8_passes_0 rfl (lv_at hl 0 rfl) ?_
  refine lv_aload_n hx hb dX8_passes_1 rfl (lv_at hl 0 rfl) ?_
  refine lv_iload_n hx hb dX8_passes_2 rfl (lv_at hl 1 rfl) ?_
  have hF9 := z_free (wc := kM cI cB cZ oM Mthrown Mmany Mguest Mrow Mbars Mbar Mfresh Mtape Mtaped Mpos Mtoken MtokenAt Mvalue Mwrong MwrongAt MfaultKind MfaultPlace Mthing Morder Mone Mtwo Mbest Mcells Mgap Mwire Mstand Mruns Mminute Mhead Mplays Mrests Mwent Mout Mcame Mgone MlastOut) hw hA [0, 1, 2, 3, 4, 5, 6, 7, 8, 9, 10, 11, 12, 13, 14, 15, 16] rfl
  refine va_calli (va_runV (As := [.int (zI g)]) (rest := [.ref (oM 0)]) ⟨hx, hb, hml, hown, hts⟩ (c_X8_isNo l D cI cB cZ oM s.heap.size Mthrown Mmany Mguest Mrow Mbars Mbar Mfresh Mtape Mtaped Mpos Mtoken MtokenAt Mvalue Mwrong MwrongAt MfaultKind MfaultPlace Mthing Morder Mone Mtwo Mbest Mcells Mgap Mwire Mstand Mruns Mminute Mhead Mplays Mrests Mwent Mout Mcame Mgone MlastOut g (by omega) (by omega) qMguest qMrow (by omega) qMbar qMfresh qMtape (by omega) (by omega) (by omega) (by omega) (by omega) (by omega) (by omega) (by omega) (by omega) (by omega) qMorder (by omega) (by omega) qMbest (by omega) (by omega) qMwire qMstand (by omega) (by omega) qMhead qMplays qMrests qMwent qMout qMcame qMgone (by omega) (by omega)) (cwV 1 hts gX8_passes_X8_isNo rfl rfl rfl (by decide +kernel) ⟨Nat.le_of_ble_eq_true rfl, Nat.le_of_ble_eq_true rfl⟩) ⟨zPre_blind, va_recv hK hw.1 (ci := 8) (q0 := 0) rfl rfl, z_pre hK hw [0, 1, 2, 3, 4, 5, 6, 7, 8, 9, 10, 11, 12, 13, 14, 15, 16] (by decide) rfl⟩ rfl rfl hl.1 rfl (lv_room (Nat.le_of_ble_eq_true rfl)) dX8_passes_3 ⟨Nat.zero_le _, Nat.zero_le _⟩) hw.2.2 (fun q _ h => hF9 q h) hF9 (fun r9 u9 t9 H_1 locs9 ht9 hvm9 hq9 hB9 hz9 hk9 hS9 => ?_)
  obtain ⟨r_2, rfl⟩ : ∃ z, z = u9 := ⟨_, rfl⟩
  try dsimp only at hq9 hB9
  obtain ⟨rfl, hq9⟩ := hq9
  have hq_3 := hq9
  have hw : HW D A s.heap (kM cI cB cZ oM Mthrown Mmany Mguest Mrow Mbars Mbar Mfresh Mtape Mtaped Mpos Mtoken MtokenAt Mvalue Mwrong MwrongAt MfaultKind MfaultPlace Mthing Morder Mone Mtwo Mbest Mcells Mgap Mwire Mstand Mruns Mminute Mhead Mplays Mrests Mwent Mout Mcame Mgone MlastOut) H_1 locs9 := z_after (wc := kM cI cB cZ oM Mthrown Mmany Mguest Mrow Mbars Mbar Mfresh Mtape Mtaped Mpos Mtoken MtokenAt Mvalue Mwrong MwrongAt MfaultKind MfaultPlace Mthing Morder Mone Mtwo Mbest Mcells Mgap Mwire Mstand Mruns Mminute Mhead Mplays Mrests Mwent Mout Mcame Mgone MlastOut) hw [0, 1, 2, 3, 4, 5, 6, 7, 8, 9, 10, 11, 12, 13, 14, 15, 16] [] rfl rfl (by decide) (by decide) hF9 hk9 ht9 hB9 hS9 [0, 1, 2, 3, 4, 5, 6, 7, 8, 9, 10, 11, 12, 13, 14, 15, 16] (by decide) rfl
  clear hF9 ht9 hvm9 hB9 hz9 hk9 hS9 hq9
  rcases hq_3 with ⟨hc_4, rfl⟩ | ⟨hc_4, rfl⟩
  · skip
    refine z_iconst hx hb dX8_passes_6 ?_
    have hF9 := z_free (wc := kM cI cB cZ oM Mthrown Mmany Mguest Mrow Mbars Mbar Mfresh Mtape Mtaped Mpos Mtoken MtokenAt Mvalue Mwrong MwrongAt MfaultKind MfaultPlace Mthing Morder Mone Mtwo Mbest Mcells Mgap Mwire Mstand Mruns Mminute Mhead Mplays Mrests Mwent Mout Mcame Mgone MlastOut) hw hA [0, 1, 2, 3, 4, 5, 6, 7, 8, 9, 10, 11, 12, 13, 14, 15, 16] rfl
    refine va_calli (va_runV (As := [.int (zI 1), .int (zI 0)]) (rest := []) ⟨hx, hb, hml, hown, hts⟩ (c_X8_fails l D cI cB cZ oM H_1.size Mthrown Mmany Mguest Mrow Mbars Mbar Mfresh Mtape Mtaped Mpos Mtoken MtokenAt Mvalue Mwrong MwrongAt MfaultKind MfaultPlace Mthing Morder Mone Mtwo Mbest Mcells Mgap Mwire Mstand Mruns Mminute Mhead Mplays Mrests Mwent Mout Mcame Mgone MlastOut 1 0 (by omega) (by omega) qMguest qMrow (by omega) qMbar qMfresh qMtape (by omega) (by omega) (by omega) (by omega) (by omega) (by omega) (by omega) (by omega) (by omega) (by omega) qMorder (by omega) (by omega) qMbest (by omega) (by omega) qMwire qMstand (by omega) (by omega) qMhead qMplays qMrests qMwent qMout qMcame qMgone (by omega) (by omega) (by omega)) (cwV 2 hts gX8_passes_X8_fails rfl rfl rfl (by decide +kernel) ⟨Nat.le_of_ble_eq_true rfl, Nat.le_of_ble_eq_true rfl⟩) ⟨zPre_blind, va_recv hK hw.1 (ci := 8) (q0 := 0) rfl rfl, z_pre hK hw [0, 1, 2, 3, 4, 5, 6, 7, 8, 9, 10, 11, 12, 13, 14, 15, 16] (by decide) rfl⟩ rfl rfl hl.1 rfl (lv_room (Nat.le_of_ble_eq_true rfl)) dX8_passes_7 ⟨Nat.zero_le _, Nat.zero_le _⟩) hw.2.2 (fun q _ h => hF9 q h) hF9 (fun r9 u9 t9 H_5 locs9 ht9 hvm9 hq9 hB9 hz9 hk9 hS9 => ?_)
    obtain ⟨r_6, Mthrown_7⟩ := u9
    try dsimp only at hq9 hB9
    obtain ⟨rfl, hq9⟩ := hq9
    obtain ⟨hq_8, hq_9, hq_10⟩ := hq9
    have hw : HW D A s.heap (kM cI cB cZ oM Mthrown_7 Mmany Mguest Mrow Mbars Mbar Mfresh Mtape Mtaped Mpos Mtoken MtokenAt Mvalue Mwrong MwrongAt MfaultKind MfaultPlace Mthing Morder Mone Mtwo Mbest Mcells Mgap Mwire Mstand Mruns Mminute Mhead Mplays Mrests Mwent Mout Mcame Mgone MlastOut) H_5 locs9 := z_after (wc := kM cI cB cZ oM Mthrown Mmany Mguest Mrow Mbars Mbar Mfresh Mtape Mtaped Mpos Mtoken MtokenAt Mvalue Mwrong MwrongAt MfaultKind MfaultPlace Mthing Morder Mone Mtwo Mbest Mcells Mgap Mwire Mstand Mruns Mminute Mhead Mplays Mrests Mwent Mout Mcame Mgone MlastOut) hw [0, 1, 2, 3, 4, 5, 6, 7, 8, 9, 10, 11, 12, 13, 14, 15, 16] [] rfl rfl (by decide) (by decide) hF9 hk9 ht9 hB9 hS9 [0, 1, 2, 3, 4, 5, 6, 7, 8, 9, 10, 11, 12, 13, 14, 15, 16] (by decide) rfl
    clear hF9 ht9 hvm9 hB9 hz9 hk9 hS9
    rcases hq_9 with ⟨hc_11, rfl⟩ | ⟨hc_11, rfl⟩
    · skip
      refine z_if_eq (tgt := 15) hx hb dX8_passes_10 (by decide) (by omega) (fun hc_12 => absurd hc_12 (by omega)) (fun hc_12 => ?_)
      refine z_iconst hx hb dX8_passes_13 ?_
      have hv_13 : (0 : Int) ≤ Mthrown_7 ∧ Mthrown_7 ≤ 2 := by
        first | assumption | omega | grind
      have hv_14 : (¬ (0 ≤ g ∧ g < Mmany) ∧ Mthrown_7 = 1) ∨ ((0 ≤ g ∧ g < Mmany) ∧ Mthrown_7 = 0 ∧ fstP (lowP Mwire (Mguest (5 * g + 3))) Mcells (0 : Int)) := by
        first | omega | exact Or.inl ⟨by omega, by omega⟩ | exact Or.inr ⟨by omega, by omega, by assumption⟩
      exact W.iret (v := zI 0) hx hb hr (fun t9 ht hW => ⟨⟨zI 0, (0, Mthrown_7), rfl, ⟨rfl, ⟨hv_13, hv_14⟩⟩, by subst hAe; exact z_end hK hw ht hW⟩, by subst hAe; exact hw.2.2.F ht⟩) (by subst hAe; exact hw.2.2.2.2) dX8_passes_14
    · skip
      refine z_if_eq (tgt := 15) hx hb dX8_passes_10 (by decide) (by omega) (fun hc_15 => ?_) (fun hc_15 => absurd hc_15 (by omega))
      refine lv_aload_n hx hb dX8_passes_15 rfl (lv_at hl 0 rfl) ?_
      refine lv_iload_n hx hb dX8_passes_16 rfl (lv_at hl 1 rfl) ?_
      have hF9 := z_free (wc := kM cI cB cZ oM Mthrown_7 Mmany Mguest Mrow Mbars Mbar Mfresh Mtape Mtaped Mpos Mtoken MtokenAt Mvalue Mwrong MwrongAt MfaultKind MfaultPlace Mthing Morder Mone Mtwo Mbest Mcells Mgap Mwire Mstand Mruns Mminute Mhead Mplays Mrests Mwent Mout Mcame Mgone MlastOut) hw hA [0, 1, 2, 3, 4, 5, 6, 7, 8, 9, 10, 11, 12, 13, 14, 15, 16] rfl
      refine va_calli (va_runV (As := [.int (zI g)]) (rest := []) ⟨hx, hb, hml, hown, hts⟩ (c_X8_stops l D cI cB cZ oM H_5.size Mthrown_7 Mmany Mguest Mrow Mbars Mbar Mfresh Mtape Mtaped Mpos Mtoken MtokenAt Mvalue Mwrong MwrongAt MfaultKind MfaultPlace Mthing Morder Mone Mtwo Mbest Mcells Mgap Mwire Mstand Mruns Mminute Mhead Mplays Mrests Mwent Mout Mcame Mgone MlastOut g (by omega) (by omega) qMguest qMrow (by omega) qMbar qMfresh qMtape (by omega) (by omega) (by omega) (by omega) (by omega) (by omega) (by omega) (by omega) (by omega) (by omega) qMorder (by omega) (by omega) qMbest (by omega) (by omega) qMwire qMstand (by omega) (by omega) qMhead qMplays qMrests qMwent qMout qMcame qMgone (by omega) (by omega)) (cwV 1 hts gX8_passes_X8_stops rfl rfl rfl (by decide +kernel) ⟨Nat.le_of_ble_eq_true rfl, Nat.le_of_ble_eq_true rfl⟩) ⟨zPre_blind, va_recv hK hw.1 (ci := 8) (q0 := 0) rfl rfl, z_pre hK hw [0, 1, 2, 3, 4, 5, 6, 7, 8, 9, 10, 11, 12, 13, 14, 15, 16] (by decide) rfl⟩ rfl rfl hl.1 rfl (lv_room (Nat.le_of_ble_eq_true rfl)) dX8_passes_17 ⟨Nat.zero_le _, Nat.zero_le _⟩) hw.2.2 (fun q _ h => hF9 q h) hF9 (fun r9 u9 t9 H_16 locs9 ht9 hvm9 hq9 hB9 hz9 hk9 hS9 => ?_)
      obtain ⟨r_17, rfl⟩ : ∃ z, z = u9 := ⟨_, rfl⟩
      try dsimp only at hq9 hB9
      obtain ⟨rfl, hq9⟩ := hq9
      obtain ⟨hq_18, hq_19⟩ := hq9
      have hw : HW D A s.heap (kM cI cB cZ oM Mthrown_7 Mmany Mguest Mrow Mbars Mbar Mfresh Mtape Mtaped Mpos Mtoken MtokenAt Mvalue Mwrong MwrongAt MfaultKind MfaultPlace Mthing Morder Mone Mtwo Mbest Mcells Mgap Mwire Mstand Mruns Mminute Mhead Mplays Mrests Mwent Mout Mcame Mgone MlastOut) H_16 locs9 := z_after (wc := kM cI cB cZ oM Mthrown_7 Mmany Mguest Mrow Mbars Mbar Mfresh Mtape Mtaped Mpos Mtoken MtokenAt Mvalue Mwrong MwrongAt MfaultKind MfaultPlace Mthing Morder Mone Mtwo Mbest Mcells Mgap Mwire Mstand Mruns Mminute Mhead Mplays Mrests Mwent Mout Mcame Mgone MlastOut) hw [0, 1, 2, 3, 4, 5, 6, 7, 8, 9, 10, 11, 12, 13, 14, 15, 16] [] rfl rfl (by decide) (by decide) hF9 hk9 ht9 hB9 hS9 [0, 1, 2, 3, 4, 5, 6, 7, 8, 9, 10, 11, 12, 13, 14, 15, 16] (by decide) rfl
      clear hF9 ht9 hvm9 hB9 hz9 hk9 hS9
      have hv_20 : (0 : Int) ≤ Mthrown_7 ∧ Mthrown_7 ≤ 2 := by
        first | assumption | omega | grind
      have hv_21 : (¬ (0 ≤ g ∧ g < Mmany) ∧ Mthrown_7 = 1) ∨ ((0 ≤ g ∧ g < Mmany) ∧ Mthrown_7 = 0 ∧ fstP (lowP Mwire (Mguest (5 * g + 3))) Mcells r_17) := by
        first | omega | exact Or.inl ⟨by omega, by omega⟩ | exact Or.inr ⟨by omega, by omega, by assumption⟩
      exact W.iret (v := zI r_17) hx hb hr (fun t9 ht hW => ⟨⟨zI r_17, (r_17, Mthrown_7), rfl, ⟨rfl, ⟨hv_20, hv_21⟩⟩, by subst hAe; exact z_end hK hw ht hW⟩, by subst hAe; exact hw.2.2.F ht⟩) (by subst hAe; exact hw.2.2.2.2) dX8_passes_20
  · skip
    refine z_iconst hx hb dX8_passes_6 ?_
    have hF9 := z_free (wc := kM cI cB cZ oM Mthrown Mmany Mguest Mrow Mbars Mbar Mfresh Mtape Mtaped Mpos Mtoken MtokenAt Mvalue Mwrong MwrongAt MfaultKind MfaultPlace Mthing Morder Mone Mtwo Mbest Mcells Mgap Mwire Mstand Mruns Mminute Mhead Mplays Mrests Mwent Mout Mcame Mgone MlastOut) hw hA [0, 1, 2, 3, 4, 5, 6, 7, 8, 9, 10, 11, 12, 13, 14, 15, 16] rfl
    refine va_calli (va_runV (As := [.int (zI 0), .int (zI 0)]) (rest := []) ⟨hx, hb, hml, hown, hts⟩ (c_X8_fails l D cI cB cZ oM H_1.size Mthrown Mmany Mguest Mrow Mbars Mbar Mfresh Mtape Mtaped Mpos Mtoken MtokenAt Mvalue Mwrong MwrongAt MfaultKind MfaultPlace Mthing Morder Mone Mtwo Mbest Mcells Mgap Mwire Mstand Mruns Mminute Mhead Mplays Mrests Mwent Mout Mcame Mgone MlastOut 0 0 (by omega) (by omega) qMguest qMrow (by omega) qMbar qMfresh qMtape (by omega) (by omega) (by omega) (by omega) (by omega) (by omega) (by omega) (by omega) (by omega) (by omega) qMorder (by omega) (by omega) qMbest (by omega) (by omega) qMwire qMstand (by omega) (by omega) qMhead qMplays qMrests qMwent qMout qMcame qMgone (by omega) (by omega) (by omega)) (cwV 2 hts gX8_passes_X8_fails rfl rfl rfl (by decide +kernel) ⟨Nat.le_of_ble_eq_true rfl, Nat.le_of_ble_eq_true rfl⟩) ⟨zPre_blind, va_recv hK hw.1 (ci := 8) (q0 := 0) rfl rfl, z_pre hK hw [0, 1, 2, 3, 4, 5, 6, 7, 8, 9, 10, 11, 12, 13, 14, 15, 16] (by decide) rfl⟩ rfl rfl hl.1 rfl (lv_room (Nat.le_of_ble_eq_true rfl)) dX8_passes_7 ⟨Nat.zero_le _, Nat.zero_le _⟩) hw.2.2 (fun q _ h => hF9 q h) hF9 (fun r9 u9 t9 H_22 locs9 ht9 hvm9 hq9 hB9 hz9 hk9 hS9 => ?_)
    obtain ⟨r_23, Mthrown_24⟩ := u9
    try dsimp only at hq9 hB9
    obtain ⟨rfl, hq9⟩ := hq9
    obtain ⟨hq_25, hq_26, hq_27⟩ := hq9
    have hw : HW D A s.heap (kM cI cB cZ oM Mthrown_24 Mmany Mguest Mrow Mbars Mbar Mfresh Mtape Mtaped Mpos Mtoken MtokenAt Mvalue Mwrong MwrongAt MfaultKind MfaultPlace Mthing Morder Mone Mtwo Mbest Mcells Mgap Mwire Mstand Mruns Mminute Mhead Mplays Mrests Mwent Mout Mcame Mgone MlastOut) H_22 locs9 := z_after (wc := kM cI cB cZ oM Mthrown Mmany Mguest Mrow Mbars Mbar Mfresh Mtape Mtaped Mpos Mtoken MtokenAt Mvalue Mwrong MwrongAt MfaultKind MfaultPlace Mthing Morder Mone Mtwo Mbest Mcells Mgap Mwire Mstand Mruns Mminute Mhead Mplays Mrests Mwent Mout Mcame Mgone MlastOut) hw [0, 1, 2, 3, 4, 5, 6, 7, 8, 9, 10, 11, 12, 13, 14, 15, 16] [] rfl rfl (by decide) (by decide) hF9 hk9 ht9 hB9 hS9 [0, 1, 2, 3, 4, 5, 6, 7, 8, 9, 10, 11, 12, 13, 14, 15, 16] (by decide) rfl
    clear hF9 ht9 hvm9 hB9 hz9 hk9 hS9
    rcases hq_26 with ⟨hc_28, rfl⟩ | ⟨hc_28, rfl⟩
    · skip
      refine z_if_eq (tgt := 15) hx hb dX8_passes_10 (by decide) (by omega) (fun hc_29 => absurd hc_29 (by omega)) (fun hc_29 => ?_)
      refine z_iconst hx hb dX8_passes_13 ?_
      have hv_30 : (0 : Int) ≤ Mthrown_24 ∧ Mthrown_24 ≤ 2 := by
        first | assumption | omega | grind
      have hv_31 : (¬ (0 ≤ g ∧ g < Mmany) ∧ Mthrown_24 = 1) ∨ ((0 ≤ g ∧ g < Mmany) ∧ Mthrown_24 = 0 ∧ fstP (lowP Mwire (Mguest (5 * g + 3))) Mcells (0 : Int)) := by
        first | omega | exact Or.inl ⟨by omega, by omega⟩ | exact Or.inr ⟨by omega, by omega, by assumption⟩
      exact W.iret (v := zI 0) hx hb hr (fun t9 ht hW => ⟨⟨zI 0, (0, Mthrown_24), rfl, ⟨rfl, ⟨hv_30, hv_31⟩⟩, by subst hAe; exact z_end hK hw ht hW⟩, by subst hAe; exact hw.2.2.F ht⟩) (by subst hAe; exact hw.2.2.2.2) dX8_passes_14
    · skip
      refine z_if_eq (tgt := 15) hx hb dX8_passes_10 (by decide) (by omega) (fun hc_32 => ?_) (fun hc_32 => absurd hc_32 (by omega))
      refine lv_aload_n hx hb dX8_passes_15 rfl (lv_at hl 0 rfl) ?_
      refine lv_iload_n hx hb dX8_passes_16 rfl (lv_at hl 1 rfl) ?_
      have hF9 := z_free (wc := kM cI cB cZ oM Mthrown_24 Mmany Mguest Mrow Mbars Mbar Mfresh Mtape Mtaped Mpos Mtoken MtokenAt Mvalue Mwrong MwrongAt MfaultKind MfaultPlace Mthing Morder Mone Mtwo Mbest Mcells Mgap Mwire Mstand Mruns Mminute Mhead Mplays Mrests Mwent Mout Mcame Mgone MlastOut) hw hA [0, 1, 2, 3, 4, 5, 6, 7, 8, 9, 10, 11, 12, 13, 14, 15, 16] rfl
      refine va_calli (va_runV (As := [.int (zI g)]) (rest := []) ⟨hx, hb, hml, hown, hts⟩ (c_X8_stops l D cI cB cZ oM H_22.size Mthrown_24 Mmany Mguest Mrow Mbars Mbar Mfresh Mtape Mtaped Mpos Mtoken MtokenAt Mvalue Mwrong MwrongAt MfaultKind MfaultPlace Mthing Morder Mone Mtwo Mbest Mcells Mgap Mwire Mstand Mruns Mminute Mhead Mplays Mrests Mwent Mout Mcame Mgone MlastOut g (by omega) (by omega) qMguest qMrow (by omega) qMbar qMfresh qMtape (by omega) (by omega) (by omega) (by omega) (by omega) (by omega) (by omega) (by omega) (by omega) (by omega) qMorder (by omega) (by omega) qMbest (by omega) (by omega) qMwire qMstand (by omega) (by omega) qMhead qMplays qMrests qMwent qMout qMcame qMgone (by omega) (by omega)) (cwV 1 hts gX8_passes_X8_stops rfl rfl rfl (by decide +kernel) ⟨Nat.le_of_ble_eq_true rfl, Nat.le_of_ble_eq_true rfl⟩) ⟨zPre_blind, va_recv hK hw.1 (ci := 8) (q0 := 0) rfl rfl, z_pre hK hw [0, 1, 2, 3, 4, 5, 6, 7, 8, 9, 10, 11, 12, 13, 14, 15, 16] (by decide) rfl⟩ rfl rfl hl.1 rfl (lv_room (Nat.le_of_ble_eq_true rfl)) dX8_passes_17 ⟨Nat.zero_le _, Nat.zero_le _⟩) hw.2.2 (fun q _ h => hF9 q h) hF9 (fun r9 u9 t9 H_33 locs9 ht9 hvm9 hq9 hB9 hz9 hk9 hS9 => ?_)
      obtain ⟨r_34, rfl⟩ : ∃ z, z = u9 := ⟨_, rfl⟩
      try dsimp only at hq9 hB9
      obtain ⟨rfl, hq9⟩ := hq9
      obtain ⟨hq_35, hq_36⟩ := hq9
      have hw : HW D A s.heap (kM cI cB cZ oM Mthrown_24 Mmany Mguest Mrow Mbars Mbar Mfresh Mtape Mtaped Mpos Mtoken MtokenAt Mvalue Mwrong MwrongAt MfaultKind MfaultPlace Mthing Morder Mone Mtwo Mbest Mcells Mgap Mwire Mstand Mruns Mminute Mhead Mplays Mrests Mwent Mout Mcame Mgone MlastOut) H_33 locs9 := z_after (wc := kM cI cB cZ oM Mthrown_24 Mmany Mguest Mrow Mbars Mbar Mfresh Mtape Mtaped Mpos Mtoken MtokenAt Mvalue Mwrong MwrongAt MfaultKind MfaultPlace Mthing Morder Mone Mtwo Mbest Mcells Mgap Mwire Mstand Mruns Mminute Mhead Mplays Mrests Mwent Mout Mcame Mgone MlastOut) hw [0, 1, 2, 3, 4, 5, 6, 7, 8, 9, 10, 11, 12, 13, 14, 15, 16] [] rfl rfl (by decide) (by decide) hF9 hk9 ht9 hB9 hS9 [0, 1, 2, 3, 4, 5, 6, 7, 8, 9, 10, 11, 12, 13, 14, 15, 16] (by decide) rfl
      clear hF9 ht9 hvm9 hB9 hz9 hk9 hS9
      have hv_37 : (0 : Int) ≤ Mthrown_24 ∧ Mthrown_24 ≤ 2 := by
        first | assumption | omega | grind
      have hv_38 : (¬ (0 ≤ g ∧ g < Mmany) ∧ Mthrown_24 = 1) ∨ ((0 ≤ g ∧ g < Mmany) ∧ Mthrown_24 = 0 ∧ fstP (lowP Mwire (Mguest (5 * g + 3))) Mcells r_34) := by
        first | omega | exact Or.inl ⟨by omega, by omega⟩ | exact Or.inr ⟨by omega, by omega, by assumption⟩
      exact W.iret (v := zI r_34) hx hb hr (fun t9 ht hW => ⟨⟨zI r_34, (r_34, Mthrown_24), rfl, ⟨rfl, ⟨hv_37, hv_38⟩⟩, by subst hAe; exact z_end hK hw ht hW⟩, by subst hAe; exact hw.2.2.F ht⟩) (by subst hAe; exact hw.2.2.2.2) dX8_passes_20
