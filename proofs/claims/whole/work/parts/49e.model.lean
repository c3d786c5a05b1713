set_option maxRecDepth 100000 in
set_option maxHeartbeats 4000000 in
theorem c_X8_ill (l : Launch) (D : va_G) (cI cB cZ : ClassId) (oM : Nat → Nat) (sz : Nat) (Mthrown : Int) (Mmany : Int) (Mguest : Int → Int) (Mrow : Int → Int) (Mbars : Int) (Mbar : Int → Int) (Mfresh : Int → Int) (Mtape : Int → Int) (Mtaped : Int) (Mpos : Int) (Mtoken : Int) (MtokenAt : Int) (Mvalue : Int) (Mwrong : Int) (MwrongAt : Int) (MfaultKind : Int) (MfaultPlace : Int) (Mthing : Int) (Morder : Int → Int) (Mone : Int) (Mtwo : Int) (Mbest : Int → Int) (Mcells : Int) (Mgap : Int) (Mwire : Int → Int) (Mstand : Int → Int) (Mruns : Int) (Mminute : Int) (Mhead : Int → Int) (Mplays : Int → Int) (Mrests : Int → Int) (Mwent : Int → Int) (Mout : Int → Int) (Mcame : Int → Int) (Mgone : Int → Int) (MlastOut : Int) (g : Int) (qMthrown : 0 ≤ Mthrown ∧ Mthrown ≤ 2) (qMmany : 0 ≤ Mmany ∧ Mmany ≤ 8) (qMguest : RA Mguest (0) 9) (qMrow : RA Mrow (0) 7) (qMbars : 0 ≤ Mbars ∧ Mbars ≤ 10) (qMbar : RA Mbar (0) 104) (qMfresh : RA Mfresh (0) 104) (qMtape : RA Mtape (0) 255) (qMtaped : 0 ≤ Mtaped ∧ Mtaped ≤ 400) (qMpos : 0 ≤ Mpos ∧ Mpos ≤ 400) (qMtoken : 0 ≤ Mtoken ∧ Mtoken ≤ 15) (qMtokenAt : 0 ≤ MtokenAt ∧ MtokenAt ≤ 400) (qMvalue : 0 ≤ Mvalue ∧ Mvalue ≤ 99) (qMwrong : 0 ≤ Mwrong ∧ Mwrong ≤ 3) (qMwrongAt : 0 ≤ MwrongAt ∧ MwrongAt ≤ 400) (qMfaultKind : 0 ≤ MfaultKind ∧ MfaultKind ≤ 3) (qMfaultPlace : -1 ≤ MfaultPlace ∧ MfaultPlace ≤ 400) (qMthing : 0 ≤ Mthing ∧ Mthing ≤ 104) (qMorder : RA Morder (0) 7) (qMone : 0 ≤ Mone ∧ Mone ≤ 8) (qMtwo : 0 ≤ Mtwo ∧ Mtwo ≤ 8) (qMbest : RA Mbest (0) 7) (qMcells : 1 ≤ Mcells ∧ Mcells ≤ 50) (qMgap : 0 ≤ Mgap ∧ Mgap ≤ 3) (qMwire : RA Mwire (0) 9) (qMstand : RA Mstand (0) 9) (qMruns : 0 ≤ Mruns ∧ Mruns ≤ 1) (qMminute : 0 ≤ Mminute ∧ Mminute ≤ 1000000) (qMhead : RA Mhead (-1) 60) (qMplays : RA Mplays (0) 18) (qMrests : RA Mrests (0) 3) (qMwent : RA Mwent (0) 61) (qMout : RA Mout (0) 1) (qMcame : RA Mcame (-1) 1000000) (qMgone : RA Mgone (-1) 1000000) (qMlastOut : 0 ≤ MlastOut ∧ MlastOut ≤ 1000000) (qg : -2147483648 ≤ g ∧ g ≤ 2147483647) : Met l yX8_ill wsX8_ill ({ frames := 2, cells := 0, slots := 0, locals := 43 }) (va_Pc [.ref (oM 0), .int (zI g)] (zPre D cI cB cZ sz (kM cI cB cZ oM Mthrown Mmany Mguest Mrow Mbars Mbar Mfresh Mtape Mtaped Mpos Mtoken MtokenAt Mvalue Mwrong MwrongAt MfaultKind MfaultPlace Mthing Morder Mone Mtwo Mbest Mcells Mgap Mwire Mstand Mruns Mminute Mhead Mplays Mrests Mwent Mout Mcame Mgone MlastOut))) (va_Qi (fun (r9 : Int32) (u9 : Int × Int × (Int → Int) × (Int → Int) × Int) => r9 = zI u9.1 ∧ (((0 : Int) ≤ u9.2.1 ∧ u9.2.1 ≤ 2) ∧ (RA u9.2.2.1 (0) 1) ∧ (RA u9.2.2.2.1 (-1) 1000000) ∧ ((0 : Int) ≤ u9.2.2.2.2 ∧ u9.2.2.2.2 ≤ 1000000) ∧ ((¬ (0 ≤ g ∧ g < Mmany) ∧ u9.2.1 = 1 ∧ u9.2.2.1 = Mout ∧ u9.2.2.2.1 = Mgone ∧ u9.2.2.2.2 = MlastOut) ∨ ((0 ≤ g ∧ g < Mmany) ∧ Mruns = 0 ∧ u9.2.1 = 2 ∧ u9.2.2.1 = Mout ∧ u9.2.2.2.1 = Mgone ∧ u9.2.2.2.2 = MlastOut) ∨ ((0 ≤ g ∧ g < Mmany) ∧ Mruns = 1 ∧ u9.2.1 = 0 ∧ Mout g = 1 ∧ u9.1 = 0 ∧ u9.2.2.1 = Mout ∧ u9.2.2.2.1 = Mgone ∧ u9.2.2.2.2 = MlastOut) ∨ ((0 ≤ g ∧ g < Mmany) ∧ Mruns = 1 ∧ u9.2.1 = 0 ∧ Mout g = 0 ∧ u9.1 = 1 ∧ u9.2.2.1 = uZ Mout g 1 ∧ u9.2.2.2.1 = uZ Mgone g Mminute ∧ u9.2.2.2.2 = Mminute)))) (fun u9 t9 => zAt D cI cB cZ (va_A (kM cI cB cZ oM Mthrown Mmany Mguest Mrow Mbars Mbar Mfresh Mtape Mtaped Mpos Mtoken MtokenAt Mvalue Mwrong MwrongAt MfaultKind MfaultPlace Mthing Morder Mone Mtwo Mbest Mcells Mgap Mwire Mstand Mruns Mminute Mhead Mplays Mrests Mwent Mout Mcame Mgone MlastOut) sz) (kM cI cB cZ oM (u9.2.1) Mmany Mguest Mrow Mbars Mbar Mfresh Mtape Mtaped Mpos Mtoken MtokenAt Mvalue Mwrong MwrongAt MfaultKind MfaultPlace Mthing Morder Mone Mtwo Mbest Mcells Mgap Mwire Mstand Mruns Mminute Mhead Mplays Mrests Mwent (u9.2.2.1) Mcame (u9.2.2.2.1) (u9.2.2.2.2)) t9) (va_A (kM cI cB cZ oM Mthrown Mmany Mguest Mrow Mbars Mbar Mfresh Mtape Mtaped Mpos Mtoken MtokenAt Mvalue Mwrong MwrongAt MfaultKind MfaultPlace Mthing Morder Mone Mtwo Mbest Mcells Mgap Mwire Mstand Mruns Mminute Mhead Mplays Mrests Mwent Mout Mcame Mgone MlastOut) sz)) 0 0 (va_A (kM cI cB cZ oM Mthrown Mmany Mguest Mrow Mbars Mbar Mfresh Mtape Mtaped Mpos Mtoken MtokenAt Mvalue Mwrong MwrongAt MfaultKind MfaultPlace Mthing Morder Mone Mtwo Mbest Mcells Mgap Mwire Mstand Mruns Mminute Mhead Mplays Mrests Mwent Mout Mcame Mgone MlastOut) sz) := by
  refine Met.ofW (cc := cX8_ill) (maxL := 2) (ret := (some .boolean)) (by decide) rfl ?_
  intro pp ee s mm aa bw mt cd s₁ BL hml hv
  obtain ⟨rfl, hsz, hP, hK, hD0⟩ := hv
  have hx := BL.exec
  have hb := BL.bytes
  have hr := BL.returns
  have hts := atoms_spec (ws := wsX8_ill) BL.pre
  have hown : s.vm.findClass RX8 = some mm.cls := findClass_of_methodNamed BL.named
  have hlocks := BL.notSynchronized
  subst hsz
  generalize hAe : va_A (kM cI cB cZ oM Mthrown Mmany Mguest Mrow Mbars Mbar Mfresh Mtape Mtaped Mpos Mtoken MtokenAt Mvalue Mwrong MwrongAt MfaultKind MfaultPlace Mthing Morder Mone Mtwo Mbest Mcells Mgap Mwire Mstand Mruns Mminute Mhead Mplays Mrests Mwent Mout Mcame Mgone MlastOut) s.heap.size = A
  have hA : ∀ q : Nat, s.heap.size ≤ q → A q := fun q h => by rw [← hAe]; exact Or.inr h
  have hw : HW D A s.heap (kM cI cB cZ oM Mthrown Mmany Mguest Mrow Mbars Mbar Mfresh Mtape Mtaped Mpos Mtoken MtokenAt Mvalue Mwrong MwrongAt MfaultKind MfaultPlace Mthing Morder Mone Mtwo Mbest Mcells Mgap Mwire Mstand Mruns Mminute Mhead Mplays Mrests Mwent Mout Mcame Mgone MlastOut) s.heap [] := z_start hAe hP hD0
  clear hP hD0
  have hl := lv_entry ([.ref (oM 0), .int (zI g)]) (n := 2) (Nat.le_of_ble_eq_true rfl)
  rw [lg_entry_eq]
  generalize (lg_sl ([.ref (oM 0), .int (zI g)]) ++ List.replicate (2 - (lg_sl ([.ref (oM 0), .int (zI g)])).length) Slot.unset).toArray = ls at hl ⊢
  have hl : lv_has ls 2 [(0, .ref (oM 0)), (1, .int (zI g))] := hl
  have hinX8 : ∀ w ∈ wsX80, w ∈ wsX8_ill := by decide +kernel
  refine lv_aload_n hx hb dX8_ill_0 rfl (lv_at hl 0 rfl) ?_
  refine lv_aload_n hx hb dX8_ill_1 rfl (lv_at hl 0 rfl) ?_
  refine lv_iload_n hx hb dX8_ill_2 rfl (lv_at hl 1 rfl) ?_
  have hF9 := z_free (wc := kM cI cB cZ oM Mthrown Mmany Mguest Mrow Mbars Mbar Mfresh Mtape Mtaped Mpos Mtoken MtokenAt Mvalue Mwrong MwrongAt MfaultKind MfaultPlace Mthing Morder Mone Mtwo Mbest Mcells Mgap Mwire Mstand Mruns Mminute Mhead Mplays Mrests Mwent Mout Mcame Mgone MlastOut) hw hA [0, 1, 2, 3, 4, 5, 6, 7, 8, 9, 10, 11, 12, 13, 14, 15, 16] rfl
  refine va_calli (va_runV (As := [.int (zI g)]) (rest := [.ref (oM 0)]) ⟨hx, hb, hml, hown, hts⟩ (c_X8_isNo l D cI cB cZ oM s.heap.size Mthrown Mmany Mguest Mrow Mbars Mbar Mfresh Mtape Mtaped Mpos Mtoken MtokenAt Mvalue Mwrong MwrongAt MfaultKind MfaultPlace Mthing Morder Mone Mtwo Mbest Mcells Mgap Mwire Mstand Mruns Mminute Mhead Mplays Mrests Mwent Mout Mcame Mgone MlastOut g (by omega) (by omega) qMguest qMrow (by omega) qMbar qMfresh qMtape (by omega) (by omega) (by omega) (by omega) (by omega) (by omega) (by omega) (by omega) (by omega) (by omega) qMorder (by omega) (by omega) qMbest (by omega) (by omega) qMwire qMstand (by omega) (by omega) qMhead qMplays qMrests qMwent qMout qMcame qMgone (by omega) (by omega)) (cwV 1 hts gX8_ill_X8_isNo rfl rfl rfl (by decide +kernel) ⟨Nat.le_of_ble_eq_true rfl, Nat.le_of_ble_eq_true rfl⟩) ⟨zPre_blind, va_recv hK hw.1 (ci := 8) (q0 := 0) rfl rfl, z_pre hK hw [0, 1, 2, 3, 4, 5, 6, 7, 8, 9, 10, 11, 12, 13, 14, 15, 16] (by decide) rfl⟩ rfl rfl hl.1 rfl (lv_room (Nat.le_of_ble_eq_true rfl)) dX8_ill_3 ⟨Nat.zero_le _, Nat.zero_le _⟩) hw.2.2 (fun q _ h => hF9 q h) hF9 (fun r9 u9 t9 H_1 locs9 ht9 hvm9 hq9 hB9 hz9 hk9 hS9 => ?_)
  obtain ⟨r_2, rfl⟩ : ∃ z, z = u9 := ⟨_, rfl⟩
  try dsimp only at hq9 hB9
  obtain ⟨rfl, hq9⟩ := hq9
  have hq_3 := hq9
  have hw : HW D A s.heap (kM cI cB cZ oM Mthrown Mmany Mguest Mrow Mbars Mbar Mfresh Mtape Mtaped Mpos Mtoken MtokenAt Mvalue Mwrong MwrongAt MfaultKind MfaultPlace Mthing Morder Mone Mtwo Mbest Mcells Mgap Mwire Mstand Mruns Mminute Mhead Mplays Mrests Mwent Mout Mcame Mgone MlastOut) H_1 locs9 := z_after (wc := kM cI cB cZ oM Mthrown Mmany Mguest Mrow Mbars Mbar Mfresh Mtape Mtaped Mpos Mtoken MtokenAt Mvalue Mwrong MwrongAt MfaultKind MfaultPlace Mthing Morder Mone Mtwo Mbest Mcells Mgap Mwire Mstand Mruns Mminute Mhead Mplays Mrests Mwent Mout Mcame Mgone MlastOut) hw [0, 1, 2, 3, 4, 5, 6, 7, 8, 9, 10, 11, 12, 13, 14, 15, 16] [] rfl rfl (by decide) (by decide) hF9 hk9 ht9 hB9 hS9 [0, 1, 2, 3, 4, 5, 6, 7, 8, 9, 10, 11, 12, 13, 14, 15, 16] (by decide) rfl
  clear hF9 ht9 hvm9 hB9 hz9 hk9 hS9 hq9
  rcases hq_3 with ⟨hc_4, rfl⟩ | ⟨hc_4, rfl⟩
  · skip
    refine lv_aload_n hx hb dX8_ill_6 rfl (lv_at hl 0 rfl) ?_
    refine va_get (D := D) (ci := 8) (v := .int (zI Mruns)) (C := RX8) (T := TX8) (N := 36) hx hb hts hinX8 hown hK hw.1 0 rfl rfl 26 (by decide) (hts (.fieldLink RX8 79 "CarnivalRoadModel" "runs" "Z") (by decide +kernel)) (fun _ h9 => h9) rfl dX8_ill_7 ?_
    refine z_if_ne (tgt := 17) hx hb dX8_ill_10 (by decide) (by omega) (fun hc_5 => ?_) (fun hc_5 => ?_)
    · skip
      refine z_iconst hx hb dX8_ill_17 ?_
      have hF9 := z_free (wc := kM cI cB cZ oM Mthrown Mmany Mguest Mrow Mbars Mbar Mfresh Mtape Mtaped Mpos Mtoken MtokenAt Mvalue Mwrong MwrongAt MfaultKind MfaultPlace Mthing Morder Mone Mtwo Mbest Mcells Mgap Mwire Mstand Mruns Mminute Mhead Mplays Mrests Mwent Mout Mcame Mgone MlastOut) hw hA [0, 1, 2, 3, 4, 5, 6, 7, 8, 9, 10, 11, 12, 13, 14, 15, 16] rfl
      refine va_calli (va_runV (As := [.int (zI 1), .int (zI 0)]) (rest := []) ⟨hx, hb, hml, hown, hts⟩ (c_X8_fails l D cI cB cZ oM H_1.size Mthrown Mmany Mguest Mrow Mbars Mbar Mfresh Mtape Mtaped Mpos Mtoken MtokenAt Mvalue Mwrong MwrongAt MfaultKind MfaultPlace Mthing Morder Mone Mtwo Mbest Mcells Mgap Mwire Mstand Mruns Mminute Mhead Mplays Mrests Mwent Mout Mcame Mgone MlastOut 1 0 (by omega) (by omega) qMguest qMrow (by omega) qMbar qMfresh qMtape (by omega) (by omega) (by omega) (by omega) (by omega) (by omega) (by omega) (by omega) (by omega) (by omega) qMorder (by omega) (by omega) qMbest (by omega) (by omega) qMwire qMstand (by omega) (by omega) qMhead qMplays qMrests qMwent qMout qMcame qMgone (by omega) (by omega) (by omega)) (cwV 2 hts gX8_ill_X8_fails rfl rfl rfl (by decide +kernel) ⟨Nat.le_of_ble_eq_true rfl, Nat.le_of_ble_eq_true rfl⟩) ⟨zPre_blind, va_recv hK hw.1 (ci := 8) (q0 := 0) rfl rfl, z_pre hK hw [0, 1, 2, 3, 4, 5, 6, 7, 8, 9, 10, 11, 12, 13, 14, 15, 16] (by decide) rfl⟩ rfl rfl hl.1 rfl (lv_room (Nat.le_of_ble_eq_true rfl)) dX8_ill_18 ⟨Nat.zero_le _, Nat.zero_le _⟩) hw.2.2 (fun q _ h => hF9 q h) hF9 (fun r9 u9 t9 H_6 locs9 ht9 hvm9 hq9 hB9 hz9 hk9 hS9 => ?_)
      obtain ⟨r_7, Mthrown_8⟩ := u9
      try dsimp only at hq9 hB9
      obtain ⟨rfl, hq9⟩ := hq9
      obtain ⟨hq_9, hq_10, hq_11⟩ := hq9
      have hw : HW D A s.heap (kM cI cB cZ oM Mthrown_8 Mmany Mguest Mrow Mbars Mbar Mfresh Mtape Mtaped Mpos Mtoken MtokenAt Mvalue Mwrong MwrongAt MfaultKind MfaultPlace Mthing Morder Mone Mtwo Mbest Mcells Mgap Mwire Mstand Mruns Mminute Mhead Mplays Mrests Mwent Mout Mcame Mgone MlastOut) H_6 locs9 := z_after (wc := kM cI cB cZ oM Mthrown Mmany Mguest Mrow Mbars Mbar Mfresh Mtape Mtaped Mpos Mtoken MtokenAt Mvalue Mwrong MwrongAt MfaultKind MfaultPlace Mthing Morder Mone Mtwo Mbest Mcells Mgap Mwire Mstand Mruns Mminute Mhead Mplays Mrests Mwent Mout Mcame Mgone MlastOut) hw [0, 1, 2, 3, 4, 5, 6, 7, 8, 9, 10, 11, 12, 13, 14, 15, 16] [] rfl rfl (by decide) (by decide) hF9 hk9 ht9 hB9 hS9 [0, 1, 2, 3, 4, 5, 6, 7, 8, 9, 10, 11, 12, 13, 14, 15, 16] (by decide) rfl
      clear hF9 ht9 hvm9 hB9 hz9 hk9 hS9
      rcases hq_10 with ⟨hc_12, rfl⟩ | ⟨hc_12, rfl⟩
      · skip
        refine z_if_ne (tgt := 33) hx hb dX8_ill_21 (by decide) (by omega) (fun hc_13 => ?_) (fun hc_13 => absurd hc_13 (by omega))
        refine z_iconst hx hb dX8_ill_33 ?_
        have hv_14 : (0 : Int) ≤ Mthrown_8 ∧ Mthrown_8 ≤ 2 := by
          first | assumption | omega | grind
        have hv_15 : (0 : Int) ≤ MlastOut ∧ MlastOut ≤ 1000000 := by
          first | assumption | omega | grind
        have hv_16 : (¬ (0 ≤ g ∧ g < Mmany) ∧ Mthrown_8 = 1 ∧ Mout = Mout ∧ Mgone = Mgone ∧ MlastOut = MlastOut) ∨ ((0 ≤ g ∧ g < Mmany) ∧ Mruns = 0 ∧ Mthrown_8 = 2 ∧ Mout = Mout ∧ Mgone = Mgone ∧ MlastOut = MlastOut) ∨ ((0 ≤ g ∧ g < Mmany) ∧ Mruns = 1 ∧ Mthrown_8 = 0 ∧ Mout g = 1 ∧ (0 : Int) = 0 ∧ Mout = Mout ∧ Mgone = Mgone ∧ MlastOut = MlastOut) ∨ ((0 ≤ g ∧ g < Mmany) ∧ Mruns = 1 ∧ Mthrown_8 = 0 ∧ Mout g = 0 ∧ (0 : Int) = 1 ∧ Mout = uZ Mout g 1 ∧ Mgone = uZ Mgone g Mminute ∧ MlastOut = Mminute) := by
          first | exact Or.inl ⟨by omega, by omega, rfl, rfl, rfl⟩ | exact Or.inr (Or.inl ⟨by omega, by omega, by omega, rfl, rfl, rfl⟩) | exact Or.inr (Or.inr (Or.inl ⟨by omega, by omega, by omega, by omega, rfl, rfl, rfl, rfl⟩)) | exact Or.inr (Or.inr (Or.inr ⟨by omega, by omega, by omega, by omega, rfl, rfl, rfl, rfl⟩))
        exact W.zret (v := zI 0) hx hb hr rfl (fun t9 ht hW => ⟨⟨zI 0, (0, Mthrown_8, Mout, Mgone, MlastOut), rfl, ⟨rfl, ⟨hv_14, qMout, qMgone, hv_15, hv_16⟩⟩, by subst hAe; exact z_end hK hw ht hW⟩, by subst hAe; exact hw.2.2.F ht⟩) (by subst hAe; exact hw.2.2.2.2) dX8_ill_34
      · skip
        refine z_if_ne (tgt := 33) hx hb dX8_ill_21 (by decide) (by omega) (fun hc_17 => absurd hc_17 (by omega)) (fun hc_17 => ?_)
        refine lv_aload_n hx hb dX8_ill_24 rfl (lv_at hl 0 rfl) ?_
        refine va_get (D := D) (ci := 8) (v := .ref (oM 14)) (C := RX8) (T := TX8) (N := 36) hx hb hts hinX8 hown hK hw.1 0 rfl rfl 32 (by decide) (hts (.fieldLink RX8 59 "CarnivalRoadModel" "out" "[Z") (by decide +kernel)) (fun _ h9 => h9) rfl dX8_ill_25 ?_
        refine lv_iload_n hx hb dX8_ill_28 rfl (lv_at hl 1 rfl) ?_
        have hi_18 : (0 : Int) ≤ g ∧ g < ((16 : Nat) : Int) := by
          first | assumption | omega | grind
        refine z_zald (n := 16) (f := Mout) hx hb hK hw 14 rfl (by decide) hi_18 dX8_ill_29 ?_
        have hq_19 : 0 ≤ Mout g ∧ Mout g ≤ 1 := qMout g
        refine z_if_eq (tgt := 35) hx hb dX8_ill_30 (by decide) (by omega) (fun hc_20 => ?_) (fun hc_20 => ?_)
        · skip
          refine lv_aload_n hx hb dX8_ill_35 rfl (lv_at hl 0 rfl) ?_
          refine va_get (D := D) (ci := 8) (v := .ref (oM 14)) (C := RX8) (T := TX8) (N := 36) hx hb hts hinX8 hown hK hw.1 0 rfl rfl 32 (by decide) (hts (.fieldLink RX8 59 "CarnivalRoadModel" "out" "[Z") (by decide +kernel)) (fun _ h9 => h9) rfl dX8_ill_36 ?_
          refine lv_iload_n hx hb dX8_ill_39 rfl (lv_at hl 1 rfl) ?_
          refine z_iconst hx hb dX8_ill_40 ?_
          have hi_21 : (0 : Int) ≤ g ∧ g < ((16 : Nat) : Int) := by
            first | assumption | omega | grind
          have hv_22 : (0 : Int) ≤ (1 : Int) ∧ (1 : Int) ≤ 1 := by
            first | assumption | omega | grind
          have hR_23 : RA (uZ Mout g 1) (0) 1 := RA_up qMout hv_22
          refine z_zast (n := 16) (f := Mout) (ws2 := kM cI cB cZ oM Mthrown_8 Mmany Mguest Mrow Mbars Mbar Mfresh Mtape Mtaped Mpos Mtoken MtokenAt Mvalue Mwrong MwrongAt MfaultKind MfaultPlace Mthing Morder Mone Mtwo Mbest Mcells Mgap Mwire Mstand Mruns Mminute Mhead Mplays Mrests Mwent (uZ Mout g 1) Mcame Mgone MlastOut) hx hb hK hw 14 rfl rfl (by decide) hi_21 dX8_ill_41 rfl (fun H locs hw => ?_)
          refine lv_aload_n hx hb dX8_ill_42 rfl (lv_at hl 0 rfl) ?_
          refine va_get (D := D) (ci := 8) (v := .ref (oM 16)) (C := RX8) (T := TX8) (N := 36) hx hb hts hinX8 hown hK hw.1 0 rfl rfl 34 (by decide) (hts (.fieldLink RX8 66 "CarnivalRoadModel" "gone" "[I") (by decide +kernel)) (fun _ h9 => h9) rfl dX8_ill_43 ?_
          refine lv_iload_n hx hb dX8_ill_46 rfl (lv_at hl 1 rfl) ?_
          refine lv_aload_n hx hb dX8_ill_47 rfl (lv_at hl 0 rfl) ?_
          refine va_get (D := D) (ci := 8) (v := .int (zI Mminute)) (C := RX8) (T := TX8) (N := 36) hx hb hts hinX8 hown hK hw.1 0 rfl rfl 27 (by decide) (hts (.fieldLink RX8 208 "CarnivalRoadModel" "minute" "I") (by decide +kernel)) (fun _ h9 => h9) rfl dX8_ill_48 ?_
          have hi_24 : (0 : Int) ≤ g ∧ g < ((8 : Nat) : Int) := by
            first | assumption | omega | grind
          have hv_25 : (-1 : Int) ≤ Mminute ∧ Mminute ≤ 1000000 := by
            first | assumption | omega | grind
          have hR_26 : RA (uZ Mgone g Mminute) (-1) 1000000 := RA_up qMgone hv_25
          refine z_iast (n := 8) (f := Mgone) (ws2 := kM cI cB cZ oM Mthrown_8 Mmany Mguest Mrow Mbars Mbar Mfresh Mtape Mtaped Mpos Mtoken MtokenAt Mvalue Mwrong MwrongAt MfaultKind MfaultPlace Mthing Morder Mone Mtwo Mbest Mcells Mgap Mwire Mstand Mruns Mminute Mhead Mplays Mrests Mwent (uZ Mout g 1) Mcame (uZ Mgone g Mminute) MlastOut) hx hb hK hw 16 rfl (by decide) hi_24 dX8_ill_51 rfl (fun H locs hw => ?_)
          refine lv_aload_n hx hb dX8_ill_52 rfl (lv_at hl 0 rfl) ?_
          refine lv_aload_n hx hb dX8_ill_53 rfl (lv_at hl 0 rfl) ?_
          refine va_get (D := D) (ci := 8) (v := .int (zI Mminute)) (C := RX8) (T := TX8) (N := 36) hx hb hts hinX8 hown hK hw.1 0 rfl rfl 27 (by decide) (hts (.fieldLink RX8 208 "CarnivalRoadModel" "minute" "I") (by decide +kernel)) (fun _ h9 => h9) rfl dX8_ill_54 ?_
          refine z_put (D := D) (ci := 8) (v := .int (zI Mminute)) (ty := .int) (C := RX8) (T := TX8) (N := 36) (ws2 := kM cI cB cZ oM Mthrown_8 Mmany Mguest Mrow Mbars Mbar Mfresh Mtape Mtaped Mpos Mtoken MtokenAt Mvalue Mwrong MwrongAt MfaultKind MfaultPlace Mthing Morder Mone Mtwo Mbest Mcells Mgap Mwire Mstand Mruns Mminute Mhead Mplays Mrests Mwent (uZ Mout g 1) Mcame (uZ Mgone g Mminute) Mminute) hx hb hts hinX8 tyX8 tyX8_ok nmX8 hown hK hw 0 rfl rfl 35 (by decide) (hts (.fieldLink RX8 211 "CarnivalRoadModel" "lastOut" "I") (by decide +kernel)) (fun _ h9 => h9) rfl (by decide +kernel) rfl rfl (Nat.le_of_ble_eq_true rfl) dX8_ill_57 rfl (fun H locs hw => ?_)
          refine z_iconst hx hb dX8_ill_60 ?_
          have hv_27 : (0 : Int) ≤ Mthrown_8 ∧ Mthrown_8 ≤ 2 := by
            first | assumption | omega | grind
          have hv_28 : (0 : Int) ≤ Mminute ∧ Mminute ≤ 1000000 := by
            first | assumption | omega | grind
          have hv_29 : (¬ (0 ≤ g ∧ g < Mmany) ∧ Mthrown_8 = 1 ∧ (uZ Mout g 1) = Mout ∧ (uZ Mgone g Mminute) = Mgone ∧ Mminute = MlastOut) ∨ ((0 ≤ g ∧ g < Mmany) ∧ Mruns = 0 ∧ Mthrown_8 = 2 ∧ (uZ Mout g 1) = Mout ∧ (uZ Mgone g Mminute) = Mgone ∧ Mminute = MlastOut) ∨ ((0 ≤ g ∧ g < Mmany) ∧ Mruns = 1 ∧ Mthrown_8 = 0 ∧ Mout g = 1 ∧ (1 : Int) = 0 ∧ (uZ Mout g 1) = Mout ∧ (uZ Mgone g Mminute) = Mgone ∧ Mminute = MlastOut) ∨ ((0 ≤ g ∧ g < Mmany) ∧ Mruns = 1 ∧ Mthrown_8 = 0 ∧ Mout g = 0 ∧ (1 : Int) = 1 ∧ (uZ Mout g 1) = uZ Mout g 1 ∧ (uZ Mgone g Mminute) = uZ Mgone g Mminute ∧ Mminute = Mminute) := by
            first | exact Or.inl ⟨by omega, by omega, rfl, rfl, rfl⟩ | exact Or.inr (Or.inl ⟨by omega, by omega, by omega, rfl, rfl, rfl⟩) | exact Or.inr (Or.inr (Or.inl ⟨by omega, by omega, by omega, by omega, rfl, rfl, rfl, rfl⟩)) | exact Or.inr (Or.inr (Or.inr ⟨by omega, by omega, by omega, by omega, rfl, rfl, rfl, rfl⟩))
          exact W.zret (v := zI 1) hx hb hr rfl (fun t9 ht hW => ⟨⟨zI 1, (1, Mthrown_8, (uZ Mout g 1), (uZ Mgone g Mminute), Mminute), rfl, ⟨rfl, ⟨hv_27, hR_23, hR_26, hv_28, hv_29⟩⟩, by subst hAe; exact z_end hK hw ht hW⟩, by subst hAe; exact hw.2.2.F ht⟩) (by subst hAe; exact hw.2.2.2.2) dX8_ill_61
        · skip
          refine z_iconst hx hb dX8_ill_33 ?_
          have hv_30 : (0 : Int) ≤ Mthrown_8 ∧ Mthrown_8 ≤ 2 := by
            first | assumption | omega | grind
          have hv_31 : (0 : Int) ≤ MlastOut ∧ MlastOut ≤ 1000000 := by
            first | assumption | omega | grind
          have hv_32 : (¬ (0 ≤ g ∧ g < Mmany) ∧ Mthrown_8 = 1 ∧ Mout = Mout ∧ Mgone = Mgone ∧ MlastOut = MlastOut) ∨ ((0 ≤ g ∧ g < Mmany) ∧ Mruns = 0 ∧ Mthrown_8 = 2 ∧ Mout = Mout ∧ Mgone = Mgone ∧ MlastOut = MlastOut) ∨ ((0 ≤ g ∧ g < Mmany) ∧ Mruns = 1 ∧ Mthrown_8 = 0 ∧ Mout g = 1 ∧ (0 : Int) = 0 ∧ Mout = Mout ∧ Mgone = Mgone ∧ MlastOut = MlastOut) ∨ ((0 ≤ g ∧ g < Mmany) ∧ Mruns = 1 ∧ Mthrown_8 = 0 ∧ Mout g = 0 ∧ (0 : Int) = 1 ∧ Mout = uZ Mout g 1 ∧ Mgone = uZ Mgone g Mminute ∧ MlastOut = Mminute) := by
            first | exact Or.inl ⟨by omega, by omega, rfl, rfl, rfl⟩ | exact Or.inr (Or.inl ⟨by omega, by omega, by omega, rfl, rfl, rfl⟩) | exact Or.inr (Or.inr (Or.inl ⟨by omega, by omega, by omega, by omega, rfl, rfl, rfl, rfl⟩)) | exact Or.inr (Or.inr (Or.inr ⟨by omega, by omega, by omega, by omega, rfl, rfl, rfl, rfl⟩))
          exact W.zret (v := zI 0) hx hb hr rfl (fun t9 ht hW => ⟨⟨zI 0, (0, Mthrown_8, Mout, Mgone, MlastOut), rfl, ⟨rfl, ⟨hv_30, qMout, qMgone, hv_31, hv_32⟩⟩, by subst hAe; exact z_end hK hw ht hW⟩, by subst hAe; exact hw.2.2.F ht⟩) (by subst hAe; exact hw.2.2.2.2) dX8_ill_34
    · skip
      refine z_iconst hx hb dX8_ill_13 ?_
      refine lv_goto (tgt := 18) hx hb dX8_ill_14 (by decide) ?_
      have hF9 := z_free (wc := kM cI cB cZ oM Mthrown Mmany Mguest Mrow Mbars Mbar Mfresh Mtape Mtaped Mpos Mtoken MtokenAt Mvalue Mwrong MwrongAt MfaultKind MfaultPlace Mthing Morder Mone Mtwo Mbest Mcells Mgap Mwire Mstand Mruns Mminute Mhead Mplays Mrests Mwent Mout Mcame Mgone MlastOut) hw hA [0, 1, 2, 3, 4, 5, 6, 7, 8, 9, 10, 11, 12, 13, 14, 15, 16] rfl
      refine va_calli (va_runV (As := [.int (zI 1), .int (zI 1)]) (rest := []) ⟨hx, hb, hml, hown, hts⟩ (c_X8_fails l D cI cB cZ oM H_1.size Mthrown Mmany Mguest Mrow Mbars Mbar Mfresh Mtape Mtaped Mpos Mtoken MtokenAt Mvalue Mwrong MwrongAt MfaultKind MfaultPlace Mthing Morder Mone Mtwo Mbest Mcells Mgap Mwire Mstand Mruns Mminute Mhead Mplays Mrests Mwent Mout Mcame Mgone MlastOut 1 1 (by omega) (by omega) qMguest qMrow (by omega) qMbar qMfresh qMtape (by omega) (by omega) (by omega) (by omega) (by omega) (by omega) (by omega) (by omega) (by omega) (by omega) qMorder (by omega) (by omega) qMbest (by omega) (by omega) qMwire qMstand (by omega) (by omega) qMhead qMplays qMrests qMwent qMout qMcame qMgone (by omega) (by omega) (by omega)) (cwV 2 hts gX8_ill_X8_fails rfl rfl rfl (by decide +kernel) ⟨Nat.le_of_ble_eq_true rfl, Nat.le_of_ble_eq_true rfl⟩) ⟨zPre_blind, va_recv hK hw.1 (ci := 8) (q0 := 0) rfl rfl, z_pre hK hw [0, 1, 2, 3, 4, 5, 6, 7, 8, 9, 10, 11, 12, 13, 14, 15, 16] (by decide) rfl⟩ rfl rfl hl.1 rfl (lv_room (Nat.le_of_ble_eq_true rfl)) dX8_ill_18 ⟨Nat.zero_le _, Nat.zero_le _⟩) hw.2.2 (fun q _ h => hF9 q h) hF9 (fun r9 u9 t9 H_33 locs9 ht9 hvm9 hq9 hB9 hz9 hk9 hS9 => ?_)
      obtain ⟨r_34, Mthrown_35⟩ := u9
      try dsimp only at hq9 hB9
      obtain ⟨rfl, hq9⟩ := hq9
      obtain ⟨hq_36, hq_37, hq_38⟩ := hq9
      have hw : HW D A s.heap (kM cI cB cZ oM Mthrown_35 Mmany Mguest Mrow Mbars Mbar Mfresh Mtape Mtaped Mpos Mtoken MtokenAt Mvalue Mwrong MwrongAt MfaultKind MfaultPlace Mthing Morder Mone Mtwo Mbest Mcells Mgap Mwire Mstand Mruns Mminute Mhead Mplays Mrests Mwent Mout Mcame Mgone MlastOut) H_33 locs9 := z_after (wc := kM cI cB cZ oM Mthrown Mmany Mguest Mrow Mbars Mbar Mfresh Mtape Mtaped Mpos Mtoken MtokenAt Mvalue Mwrong MwrongAt MfaultKind MfaultPlace Mthing Morder Mone Mtwo Mbest Mcells Mgap Mwire Mstand Mruns Mminute Mhead Mplays Mrests Mwent Mout Mcame Mgone MlastOut) hw [0, 1, 2, 3, 4, 5, 6, 7, 8, 9, 10, 11, 12, 13, 14, 15, 16] [] rfl rfl (by decide) (by decide) hF9 hk9 ht9 hB9 hS9 [0, 1, 2, 3, 4, 5, 6, 7, 8, 9, 10, 11, 12, 13, 14, 15, 16] (by decide) rfl
      clear hF9 ht9 hvm9 hB9 hz9 hk9 hS9
      rcases hq_37 with ⟨hc_39, rfl⟩ | ⟨hc_39, rfl⟩
      · skip
        refine z_if_ne (tgt := 33) hx hb dX8_ill_21 (by decide) (by omega) (fun hc_40 => ?_) (fun hc_40 => absurd hc_40 (by omega))
        refine z_iconst hx hb dX8_ill_33 ?_
        have hv_41 : (0 : Int) ≤ Mthrown_35 ∧ Mthrown_35 ≤ 2 := by
          first | assumption | omega | grind
        have hv_42 : (0 : Int) ≤ MlastOut ∧ MlastOut ≤ 1000000 := by
          first | assumption | omega | grind
        have hv_43 : (¬ (0 ≤ g ∧ g < Mmany) ∧ Mthrown_35 = 1 ∧ Mout = Mout ∧ Mgone = Mgone ∧ MlastOut = MlastOut) ∨ ((0 ≤ g ∧ g < Mmany) ∧ Mruns = 0 ∧ Mthrown_35 = 2 ∧ Mout = Mout ∧ Mgone = Mgone ∧ MlastOut = MlastOut) ∨ ((0 ≤ g ∧ g < Mmany) ∧ Mruns = 1 ∧ Mthrown_35 = 0 ∧ Mout g = 1 ∧ (0 : Int) = 0 ∧ Mout = Mout ∧ Mgone = Mgone ∧ MlastOut = MlastOut) ∨ ((0 ≤ g ∧ g < Mmany) ∧ Mruns = 1 ∧ Mthrown_35 = 0 ∧ Mout g = 0 ∧ (0 : Int) = 1 ∧ Mout = uZ Mout g 1 ∧ Mgone = uZ Mgone g Mminute ∧ MlastOut = Mminute) := by
          first | exact Or.inl ⟨by omega, by omega, rfl, rfl, rfl⟩ | exact Or.inr (Or.inl ⟨by omega, by omega, by omega, rfl, rfl, rfl⟩) | exact Or.inr (Or.inr (Or.inl ⟨by omega, by omega, by omega, by omega, rfl, rfl, rfl, rfl⟩)) | exact Or.inr (Or.inr (Or.inr ⟨by omega, by omega, by omega, by omega, rfl, rfl, rfl, rfl⟩))
        exact W.zret (v := zI 0) hx hb hr rfl (fun t9 ht hW => ⟨⟨zI 0, (0, Mthrown_35, Mout, Mgone, MlastOut), rfl, ⟨rfl, ⟨hv_41, qMout, qMgone, hv_42, hv_43⟩⟩, by subst hAe; exact z_end hK hw ht hW⟩, by subst hAe; exact hw.2.2.F ht⟩) (by subst hAe; exact hw.2.2.2.2) dX8_ill_34
      · skip
        refine z_if_ne (tgt := 33) hx hb dX8_ill_21 (by decide) (by omega) (fun hc_44 => absurd hc_44 (by omega)) (fun hc_44 => ?_)
        refine lv_aload_n hx hb dX8_ill_24 rfl (lv_at hl 0 rfl) ?_
        refine va_get (D := D) (ci := 8) (v := .ref (oM 14)) (C := RX8) (T := TX8) (N := 36) hx hb hts hinX8 hown hK hw.1 0 rfl rfl 32 (by decide) (hts (.fieldLink RX8 59 "CarnivalRoadModel" "out" "[Z") (by decide +kernel)) (fun _ h9 => h9) rfl dX8_ill_25 ?_
        refine lv_iload_n hx hb dX8_ill_28 rfl (lv_at hl 1 rfl) ?_
        have hi_45 : (0 : Int) ≤ g ∧ g < ((16 : Nat) : Int) := by
          first | assumption | omega | grind
        refine z_zald (n := 16) (f := Mout) hx hb hK hw 14 rfl (by decide) hi_45 dX8_ill_29 ?_
        have hq_46 : 0 ≤ Mout g ∧ Mout g ≤ 1 := qMout g
        refine z_if_eq (tgt := 35) hx hb dX8_ill_30 (by decide) (by omega) (fun hc_47 => ?_) (fun hc_47 => ?_)
        · skip
          refine lv_aload_n hx hb dX8_ill_35 rfl (lv_at hl 0 rfl) ?_
          refine va_get (D := D) (ci := 8) (v := .ref (oM 14)) (C := RX8) (T := TX8) (N := 36) hx hb hts hinX8 hown hK hw.1 0 rfl rfl 32 (by decide) (hts (.fieldLink RX8 59 "CarnivalRoadModel" "out" "[Z") (by decide +kernel)) (fun _ h9 => h9) rfl dX8_ill_36 ?_
          refine lv_iload_n hx hb dX8_ill_39 rfl (lv_at hl 1 rfl) ?_
          refine z_iconst hx hb dX8_ill_40 ?_
          have hi_48 : (0 : Int) ≤ g ∧ g < ((16 : Nat) : Int) := by
            first | assumption | omega | grind
          have hv_49 : (0 : Int) ≤ (1 : Int) ∧ (1 : Int) ≤ 1 := by
            first | assumption | omega | grind
          have hR_50 : RA (uZ Mout g 1) (0) 1 := RA_up qMout hv_49
          refine z_zast (n := 16) (f := Mout) (ws2 := kM cI cB cZ oM Mthrown_35 Mmany Mguest Mrow Mbars Mbar Mfresh Mtape Mtaped Mpos Mtoken MtokenAt Mvalue Mwrong MwrongAt MfaultKind MfaultPlace Mthing Morder Mone Mtwo Mbest Mcells Mgap Mwire Mstand Mruns Mminute Mhead Mplays Mrests Mwent (uZ Mout g 1) Mcame Mgone MlastOut) hx hb hK hw 14 rfl rfl (by decide) hi_48 dX8_ill_41 rfl (fun H locs hw => ?_)
          refine lv_aload_n hx hb dX8_ill_42 rfl (lv_at hl 0 rfl) ?_
          refine va_get (D := D) (ci := 8) (v := .ref (oM 16)) (C := RX8) (T := TX8) (N := 36) hx hb hts hinX8 hown hK hw.1 0 rfl rfl 34 (by decide) (hts (.fieldLink RX8 66 "CarnivalRoadModel" "gone" "[I") (by decide +kernel)) (fun _ h9 => h9) rfl dX8_ill_43 ?_
          refine lv_iload_n hx hb dX8_ill_46 rfl (lv_at hl 1 rfl) ?_
          refine lv_aload_n hx hb dX8_ill_47 rfl (lv_at hl 0 rfl) ?_
          refine va_get (D := D) (ci := 8) (v := .int (zI Mminute)) (C := RX8) (T := TX8) (N := 36) hx hb hts hinX8 hown hK hw.1 0 rfl rfl 27 (by decide) (hts (.fieldLink RX8 208 "CarnivalRoadModel" "minute" "I") (by decide +kernel)) (fun _ h9 => h9) rfl dX8_ill_48 ?_
          have hi_51 : (0 : Int) ≤ g ∧ g < ((8 : Nat) : Int) := by
            first | assumption | omega | grind
          have hv_52 : (-1 : Int) ≤ Mminute ∧ Mminute ≤ 1000000 := by
            first | assumption | omega | grind
          have hR_53 : RA (uZ Mgone g Mminute) (-1) 1000000 := RA_up qMgone hv_52
          refine z_iast (n := 8) (f := Mgone) (ws2 := kM cI cB cZ oM Mthrown_35 Mmany Mguest Mrow Mbars Mbar Mfresh Mtape Mtaped Mpos Mtoken MtokenAt Mvalue Mwrong MwrongAt MfaultKind MfaultPlace Mthing Morder Mone Mtwo Mbest Mcells Mgap Mwire Mstand Mruns Mminute Mhead Mplays Mrests Mwent (uZ Mout g 1) Mcame (uZ Mgone g Mminute) MlastOut) hx hb hK hw 16 rfl (by decide) hi_51 dX8_ill_51 rfl (fun H locs hw => ?_)
          refine lv_aload_n hx hb dX8_ill_52 rfl (lv_at hl 0 rfl) ?_
          refine lv_aload_n hx hb dX8_ill_53 rfl (lv_at hl 0 rfl) ?_
          refine va_get (D := D) (ci := 8) (v := .int (zI Mminute)) (C := RX8) (T := TX8) (N := 36) hx hb hts hinX8 hown hK hw.1 0 rfl rfl 27 (by decide) (hts (.fieldLink RX8 208 "CarnivalRoadModel" "minute" "I") (by decide +kernel)) (fun _ h9 => h9) rfl dX8_ill_54 ?_
          refine z_put (D := D) (ci := 8) (v := .int (zI Mminute)) (ty := .int) (C := RX8) (T := TX8) (N := 36) (ws2 := kM cI cB cZ oM Mthrown_35 Mmany Mguest Mrow Mbars Mbar Mfresh Mtape Mtaped Mpos Mtoken MtokenAt Mvalue Mwrong MwrongAt MfaultKind MfaultPlace Mthing Morder Mone Mtwo Mbest Mcells Mgap Mwire Mstand Mruns Mminute Mhead Mplays Mrests Mwent (uZ Mout g 1) Mcame (uZ Mgone g Mminute) Mminute) hx hb hts hinX8 tyX8 tyX8_ok nmX8 hown hK hw 0 rfl rfl 35 (by decide) (hts (.fieldLink RX8 211 "CarnivalRoadModel" "lastOut" "I") (by decide +kernel)) (fun _ h9 => h9) rfl (by decide +kernel) rfl rfl (Nat.le_of_ble_eq_true rfl) dX8_ill_57 rfl (fun H locs hw => ?_)
          refine z_iconst hx hb dX8_ill_60 ?_
          have hv_54 : (0 : Int) ≤ Mthrown_35 ∧ Mthrown_35 ≤ 2 := by
            first | assumption | omega | grind
          have hv_55 : (0 : Int) ≤ Mminute ∧ Mminute ≤ 1000000 := by
            first | assumption | omega | grind
          have hv_56 : (¬ (0 ≤ g ∧ g < Mmany) ∧ Mthrown_35 = 1 ∧ (uZ Mout g 1) = Mout ∧ (uZ Mgone g Mminute) = Mgone ∧ Mminute = MlastOut) ∨ ((0 ≤ g ∧ g < Mmany) ∧ Mruns = 0 ∧ Mthrown_35 = 2 ∧ (uZ Mout g 1) = Mout ∧ (uZ Mgone g Mminute) = Mgone ∧ Mminute = MlastOut) ∨ ((0 ≤ g ∧ g < Mmany) ∧ Mruns = 1 ∧ Mthrown_35 = 0 ∧ Mout g = 1 ∧ (1 : Int) = 0 ∧ (uZ Mout g 1) = Mout ∧ (uZ Mgone g Mminute) = Mgone ∧ Mminute = MlastOut) ∨ ((0 ≤ g ∧ g < Mmany) ∧ Mruns = 1 ∧ Mthrown_35 = 0 ∧ Mout g = 0 ∧ (1 : Int) = 1 ∧ (uZ Mout g 1) = uZ Mout g 1 ∧ (uZ Mgone g Mminute) = uZ Mgone g Mminute ∧ Mminute = Mminute) := by
            first | exact Or.inl ⟨by omega, by omega, rfl, rfl, rfl⟩ | exact Or.inr (Or.inl ⟨by omega, by omega, by omega, rfl, rfl, rfl⟩) | exact Or.inr (Or.inr (Or.inl ⟨by omega, by omega, by omega, by omega, rfl, rfl, rfl, rfl⟩)) | exact Or.inr (Or.inr (Or.inr ⟨by omega, by omega, by omega, by omega, rfl, rfl, rfl, rfl⟩))
          exact W.zret (v := zI 1) hx hb hr rfl (fun t9 ht hW => ⟨⟨zI 1, (1, Mthrown_35, (uZ Mout g 1), (uZ Mgone g Mminute), Mminute), rfl, ⟨rfl, ⟨hv_54, hR_50, hR_53, hv_55, hv_56⟩⟩, by subst hAe; exact z_end hK hw ht hW⟩, by subst hAe; exact hw.2.2.F ht⟩) (by subst hAe; exact hw.2.2.2.2) dX8_ill_61
        · skip
          refine z_iconst hx hb dX8_ill_33 ?_
          have hv_57 : (0 : Int) ≤ Mthrown_35 ∧ Mthrown_35 ≤ 2 := by
            first | assumption | omega | grind
          have hv_58 : (0 : Int) ≤ MlastOut ∧ MlastOut ≤ 1000000 := by
            first | assumption | omega | grind
          have hv_59 : (¬ (0 ≤ g ∧ g < Mmany) ∧ Mthrown_35 = 1 ∧ Mout = Mout ∧ Mgone = Mgone ∧ MlastOut = MlastOut) ∨ ((0 ≤ g ∧ g < Mmany) ∧ Mruns = 0 ∧ Mthrown_35 = 2 ∧ Mout = Mout ∧ Mgone = Mgone ∧ MlastOut = MlastOut) ∨ ((0 ≤ g ∧ g < Mmany) ∧ Mruns = 1 ∧ Mthrown_35 = 0 ∧ Mout g = 1 ∧ (0 : Int) = 0 ∧ Mout = Mout ∧ Mgone = Mgone ∧ MlastOut = MlastOut) ∨ ((0 ≤ g ∧ g < Mmany) ∧ Mruns = 1 ∧ Mthrown_35 = 0 ∧ Mout g = 0 ∧ (0 : Int) = 1 ∧ Mout = uZ Mout g 1 ∧ Mgone = uZ Mgone g Mminute ∧ MlastOut = Mminute) := by
            first | exact Or.inl ⟨by omega, by omega, rfl, rfl, rfl⟩ | exact Or.inr (Or.inl ⟨by omega, by omega, by omega, rfl, rfl, rfl⟩) | exact Or.inr (Or.inr (Or.inl ⟨by omega, by omega, by omega, by omega, rfl, rfl, rfl, rfl⟩)) | exact Or.inr (Or.inr (Or.inr ⟨by omega, by omega, by omega, by omega, rfl, rfl, rfl, rfl⟩))
          exact W.zret (v := zI 0) hx hb hr rfl (fun t9 ht hW => ⟨⟨zI 0, (0, Mthrown_35, Mout, Mgone, MlastOut), rfl, ⟨rfl, ⟨hv_57, qMout, qMgone, hv_58, hv_59⟩⟩, by subst hAe; exact z_end hK hw ht hW⟩, by subst hAe; exact hw.2.2.F ht⟩) (by subst hAe; exact hw.2.2.2.2) dX8_ill_34
  · skip
    refine lv_aload_n hx hb dX8_ill_6 rfl (lv_at hl 0 rfl) ?_
    refine va_get (D := D) (ci := 8) (v := .int (zI Mruns)) (C := RX8) (T := TX8) (N := 36) hx hb hts hinX8 hown hK hw.1 0 rfl rfl 26 (by decide) (hts (.fieldLink RX8 79 "CarnivalRoadModel" "runs" "Z") (by decide +kernel)) (fun _ h9 => h9) rfl dX8_ill_7 ?_
    refine z_if_ne (tgt := 17) hx hb dX8_ill_10 (by decide) (by omega) (fun hc_60 => ?_) (fun hc_60 => ?_)
    · skip
      refine z_iconst hx hb dX8_ill_17 ?_
      have hF9 := z_free (wc := kM cI cB cZ oM Mthrown Mmany Mguest Mrow Mbars Mbar Mfresh Mtape Mtaped Mpos Mtoken MtokenAt Mvalue Mwrong MwrongAt MfaultKind MfaultPlace Mthing Morder Mone Mtwo Mbest Mcells Mgap Mwire Mstand Mruns Mminute Mhead Mplays Mrests Mwent Mout Mcame Mgone MlastOut) hw hA [0, 1, 2, 3, 4, 5, 6, 7, 8, 9, 10, 11, 12, 13, 14, 15, 16] rfl
      refine va_calli (va_runV (As := [.int (zI 0), .int (zI 0)]) (rest := []) ⟨hx, hb, hml, hown, hts⟩ (c_X8_fails l D cI cB cZ oM H_1.size Mthrown Mmany Mguest Mrow Mbars Mbar Mfresh Mtape Mtaped Mpos Mtoken MtokenAt Mvalue Mwrong MwrongAt MfaultKind MfaultPlace Mthing Morder Mone Mtwo Mbest Mcells Mgap Mwire Mstand Mruns Mminute Mhead Mplays Mrests Mwent Mout Mcame Mgone MlastOut 0 0 (by omega) (by omega) qMguest qMrow (by omega) qMbar qMfresh qMtape (by omega) (by omega) (by omega) (by omega) (by omega) (by omega) (by omega) (by omega) (by omega) (by omega) qMorder (by omega) (by omega) qMbest (by omega) (by omega) qMwire qMstand (by omega) (by omega) qMhead qMplays qMrests qMwent qMout qMcame qMgone (by omega) (by omega) (by omega)) (cwV 2 hts gX8_ill_X8_fails rfl rfl rfl (by decide +kernel) ⟨Nat.le_of_ble_eq_true rfl, Nat.le_of_ble_eq_true rfl⟩) ⟨zPre_blind, va_recv hK hw.1 (ci := 8) (q0 := 0) rfl rfl, z_pre hK hw [0, 1, 2, 3, 4, 5, 6, 7, 8, 9, 10, 11, 12, 13, 14, 15, 16] (by decide) rfl⟩ rfl rfl hl.1 rfl (lv_room (Nat.le_of_ble_eq_true rfl)) dX8_ill_18 ⟨Nat.zero_le _, Nat.zero_le _⟩) hw.2.2 (fun q _ h => hF9 q h) hF9 (fun r9 u9 t9 H_61 locs9 ht9 hvm9 hq9 hB9 hz9 hk9 hS9 => ?_)
      obtain ⟨r_62, Mthrown_63⟩ := u9
      try dsimp only at hq9 hB9
      obtain ⟨rfl, hq9⟩ := hq9
      obtain ⟨hq_64, hq_65, hq_66⟩ := hq9
      have hw : HW D A s.heap (kM cI cB cZ oM Mthrown_63 Mmany Mguest Mrow Mbars Mbar Mfresh Mtape Mtaped Mpos Mtoken MtokenAt Mvalue Mwrong MwrongAt MfaultKind MfaultPlace Mthing Morder Mone Mtwo Mbest Mcells Mgap Mwire Mstand Mruns Mminute Mhead Mplays Mrests Mwent Mout Mcame Mgone MlastOut) H_61 locs9 := z_after (wc := kM cI cB cZ oM Mthrown Mmany Mguest Mrow Mbars Mbar Mfresh Mtape Mtaped Mpos Mtoken MtokenAt Mvalue Mwrong MwrongAt MfaultKind MfaultPlace Mthing Morder Mone Mtwo Mbest Mcells Mgap Mwire Mstand Mruns Mminute Mhead Mplays Mrests Mwent Mout Mcame Mgone MlastOut) hw [0, 1, 2, 3, 4, 5, 6, 7, 8, 9, 10, 11, 12, 13, 14, 15, 16] [] rfl rfl (by decide) (by decide) hF9 hk9 ht9 hB9 hS9 [0, 1, 2, 3, 4, 5, 6, 7, 8, 9, 10, 11, 12, 13, 14, 15, 16] (by decide) rfl
      clear hF9 ht9 hvm9 hB9 hz9 hk9 hS9
      rcases hq_65 with ⟨hc_67, rfl⟩ | ⟨hc_67, rfl⟩
      · skip
        refine z_if_ne (tgt := 33) hx hb dX8_ill_21 (by decide) (by omega) (fun hc_68 => ?_) (fun hc_68 => absurd hc_68 (by omega))
        refine z_iconst hx hb dX8_ill_33 ?_
        have hv_69 : (0 : Int) ≤ Mthrown_63 ∧ Mthrown_63 ≤ 2 := by
          first | assumption | omega | grind
        have hv_70 : (0 : Int) ≤ MlastOut ∧ MlastOut ≤ 1000000 := by
          first | assumption | omega | grind
        have hv_71 : (¬ (0 ≤ g ∧ g < Mmany) ∧ Mthrown_63 = 1 ∧ Mout = Mout ∧ Mgone = Mgone ∧ MlastOut = MlastOut) ∨ ((0 ≤ g ∧ g < Mmany) ∧ Mruns = 0 ∧ Mthrown_63 = 2 ∧ Mout = Mout ∧ Mgone = Mgone ∧ MlastOut = MlastOut) ∨ ((0 ≤ g ∧ g < Mmany) ∧ Mruns = 1 ∧ Mthrown_63 = 0 ∧ Mout g = 1 ∧ (0 : Int) = 0 ∧ Mout = Mout ∧ Mgone = Mgone ∧ MlastOut = MlastOut) ∨ ((0 ≤ g ∧ g < Mmany) ∧ Mruns = 1 ∧ Mthrown_63 = 0 ∧ Mout g = 0 ∧ (0 : Int) = 1 ∧ Mout = uZ Mout g 1 ∧ Mgone = uZ Mgone g Mminute ∧ MlastOut = Mminute) := by
          first | exact Or.inl ⟨by omega, by omega, rfl, rfl, rfl⟩ | exact Or.inr (Or.inl ⟨by omega, by omega, by omega, rfl, rfl, rfl⟩) | exact Or.inr (Or.inr (Or.inl ⟨by omega, by omega, by omega, by omega, rfl, rfl, rfl, rfl⟩)) | exact Or.inr (Or.inr (Or.inr ⟨by omega, by omega, by omega, by omega, rfl, rfl, rfl, rfl⟩))
        exact W.zret (v := zI 0) hx hb hr rfl (fun t9 ht hW => ⟨⟨zI 0, (0, Mthrown_63, Mout, Mgone, MlastOut), rfl, ⟨rfl, ⟨hv_69, qMout, qMgone, hv_70, hv_71⟩⟩, by subst hAe; exact z_end hK hw ht hW⟩, by subst hAe; exact hw.2.2.F ht⟩) (by subst hAe; exact hw.2.2.2.2) dX8_ill_34
      · skip
        refine z_if_ne (tgt := 33) hx hb dX8_ill_21 (by decide) (by omega) (fun hc_72 => absurd hc_72 (by omega)) (fun hc_72 => ?_)
        refine lv_aload_n hx hb dX8_ill_24 rfl (lv_at hl 0 rfl) ?_
        refine va_get (D := D) (ci := 8) (v := .ref (oM 14)) (C := RX8) (T := TX8) (N := 36) hx hb hts hinX8 hown hK hw.1 0 rfl rfl 32 (by decide) (hts (.fieldLink RX8 59 "CarnivalRoadModel" "out" "[Z") (by decide +kernel)) (fun _ h9 => h9) rfl dX8_ill_25 ?_
        refine lv_iload_n hx hb dX8_ill_28 rfl (lv_at hl 1 rfl) ?_
        have hi_73 : (0 : Int) ≤ g ∧ g < ((16 : Nat) : Int) := by
          first | assumption | omega | grind
        refine z_zald (n := 16) (f := Mout) hx hb hK hw 14 rfl (by decide) hi_73 dX8_ill_29 ?_
        have hq_74 : 0 ≤ Mout g ∧ Mout g ≤ 1 := qMout g
        refine z_if_eq (tgt := 35) hx hb dX8_ill_30 (by decide) (by omega) (fun hc_75 => ?_) (fun hc_75 => ?_)
        · skip
          refine lv_aload_n hx hb dX8_ill_35 rfl (lv_at hl 0 rfl) ?_
          refine va_get (D := D) (ci := 8) (v := .ref (oM 14)) (C := RX8) (T := TX8) (N := 36) hx hb hts hinX8 hown hK hw.1 0 rfl rfl 32 (by decide) (hts (.fieldLink RX8 59 "CarnivalRoadModel" "out" "[Z") (by decide +kernel)) (fun _ h9 => h9) rfl dX8_ill_36 ?_
          refine lv_iload_n hx hb dX8_ill_39 rfl (lv_at hl 1 rfl) ?_
          refine z_iconst hx hb dX8_ill_40 ?_
          have hi_76 : (0 : Int) ≤ g ∧ g < ((16 : Nat) : Int) := by
            first | assumption | omega | grind
          have hv_77 : (0 : Int) ≤ (1 : Int) ∧ (1 : Int) ≤ 1 := by
            first | assumption | omega | grind
          have hR_78 : RA (uZ Mout g 1) (0) 1 := RA_up qMout hv_77
          refine z_zast (n := 16) (f := Mout) (ws2 := kM cI cB cZ oM Mthrown_63 Mmany Mguest Mrow Mbars Mbar Mfresh Mtape Mtaped Mpos Mtoken MtokenAt Mvalue Mwrong MwrongAt MfaultKind MfaultPlace Mthing Morder Mone Mtwo Mbest Mcells Mgap Mwire Mstand Mruns Mminute Mhead Mplays Mrests Mwent (uZ Mout g 1) Mcame Mgone MlastOut) hx hb hK hw 14 rfl rfl (by decide) hi_76 dX8_ill_41 rfl (fun H locs hw => ?_)
          refine lv_aload_n hx hb dX8_ill_42 rfl (lv_at hl 0 rfl) ?_
          refine va_get (D := D) (ci := 8) (v := .ref (oM 16)) (C := RX8) (T := TX8) (N := 36) hx hb hts hinX8 hown hK hw.1 0 rfl rfl 34 (by decide) (hts (.fieldLink RX8 66 "CarnivalRoadModel" "gone" "[I") (by decide +kernel)) (fun _ h9 => h9) rfl dX8_ill_43 ?_
          refine lv_iload_n hx hb dX8_ill_46 rfl (lv_at hl 1 rfl) ?_
          refine lv_aload_n hx hb dX8_ill_47 rfl (lv_at hl 0 rfl) ?_
          refine va_get (D := D) (ci := 8) (v := .int (zI Mminute)) (C := RX8) (T := TX8) (N := 36) hx hb hts hinX8 hown hK hw.1 0 rfl rfl 27 (by decide) (hts (.fieldLink RX8 208 "CarnivalRoadModel" "minute" "I") (by decide +kernel)) (fun _ h9 => h9) rfl dX8_ill_48 ?_
          have hi_79 : (0 : Int) ≤ g ∧ g < ((8 : Nat) : Int) := by
            first | assumption | omega | grind
          have hv_80 : (-1 : Int) ≤ Mminute ∧ Mminute ≤ 1000000 := by
            first | assumption | omega | grind
          have hR_81 : RA (uZ Mgone g Mminute) (-1) 1000000 := RA_up qMgone hv_80
          refine z_iast (n := 8) (f := Mgone) (ws2 := kM cI cB cZ oM Mthrown_63 Mmany Mguest Mrow Mbars Mbar Mfresh Mtape Mtaped Mpos Mtoken MtokenAt Mvalue Mwrong MwrongAt MfaultKind MfaultPlace Mthing Morder Mone Mtwo Mbest Mcells Mgap Mwire Mstand Mruns Mminute Mhead Mplays Mrests Mwent (uZ Mout g 1) Mcame (uZ Mgone g Mminute) MlastOut) hx hb hK hw 16 rfl (by decide) hi_79 dX8_ill_51 rfl (fun H locs hw => ?_)
          refine lv_aload_n hx hb dX8_ill_52 rfl (lv_at hl 0 rfl) ?_
          refine lv_aload_n hx hb dX8_ill_53 rfl (lv_at hl 0 rfl) ?_
          refine va_get (D := D) (ci := 8) (v := .int (zI Mminute)) (C := RX8) (T := TX8) (N := 36) hx hb hts hinX8 hown hK hw.1 0 rfl rfl 27 (by decide) (hts (.fieldLink RX8 208 "CarnivalRoadModel" "minute" "I") (by decide +kernel)) (fun _ h9 => h9) rfl dX8_ill_54 ?_
          refine z_put (D := D) (ci := 8) (v := .int (zI Mminute)) (ty := .int) (C := RX8) (T := TX8) (N := 36) (ws2 := kM cI cB cZ oM Mthrown_63 Mmany Mguest Mrow Mbars Mbar Mfresh Mtape Mtaped Mpos Mtoken MtokenAt Mvalue Mwrong MwrongAt MfaultKind MfaultPlace Mthing Morder Mone Mtwo Mbest Mcells Mgap Mwire Mstand Mruns Mminute Mhead Mplays Mrests Mwent (uZ Mout g 1) Mcame (uZ Mgone g Mminute) Mminute) hx hb hts hinX8 tyX8 tyX8_ok nmX8 hown hK hw 0 rfl rfl 35 (by decide) (hts (.fieldLink RX8 211 "CarnivalRoadModel" "lastOut" "I") (by decide +kernel)) (fun _ h9 => h9) rfl (by decide +kernel) rfl rfl (Nat.le_of_ble_eq_true rfl) dX8_ill_57 rfl (fun H locs hw => ?_)
          refine z_iconst hx hb dX8_ill_60 ?_
          have hv_82 : (0 : Int) ≤ Mthrown_63 ∧ Mthrown_63 ≤ 2 := by
            first | assumption | omega | grind
          have hv_83 : (0 : Int) ≤ Mminute ∧ Mminute ≤ 1000000 := by
            first | assumption | omega | grind
          have hv_84 : (¬ (0 ≤ g ∧ g < Mmany) ∧ Mthrown_63 = 1 ∧ (uZ Mout g 1) = Mout ∧ (uZ Mgone g Mminute) = Mgone ∧ Mminute = MlastOut) ∨ ((0 ≤ g ∧ g < Mmany) ∧ Mruns = 0 ∧ Mthrown_63 = 2 ∧ (uZ Mout g 1) = Mout ∧ (uZ Mgone g Mminute) = Mgone ∧ Mminute = MlastOut) ∨ ((0 ≤ g ∧ g < Mmany) ∧ Mruns = 1 ∧ Mthrown_63 = 0 ∧ Mout g = 1 ∧ (1 : Int) = 0 ∧ (uZ Mout g 1) = Mout ∧ (uZ Mgone g Mminute) = Mgone ∧ Mminute = MlastOut) ∨ ((0 ≤ g ∧ g < Mmany) ∧ Mruns = 1 ∧ Mthrown_63 = 0 ∧ Mout g = 0 ∧ (1 : Int) = 1 ∧ (uZ Mout g 1) = uZ Mout g 1 ∧ (uZ Mgone g Mminute) = uZ Mgone g Mminute ∧ Mminute = Mminute) := by
            first | exact Or.inl ⟨by omega, by omega, rfl, rfl, rfl⟩ | exact Or.inr (Or.inl ⟨by omega, by omega, by omega, rfl, rfl, rfl⟩) | exact Or.inr (Or.inr (Or.inl ⟨by omega, by omega, by omega, by omega, rfl, rfl, rfl, rfl⟩)) | exact Or.inr (Or.inr (Or.inr ⟨by omega, by omega, by omega, by omega, rfl, rfl, rfl, rfl⟩))
          exact W.zret (v := zI 1) hx hb hr rfl (fun t9 ht hW => ⟨⟨zI 1, (1, Mthrown_63, (uZ Mout g 1), (uZ Mgone g Mminute), Mminute), rfl, ⟨rfl, ⟨hv_82, hR_78, hR_81, hv_83, hv_84⟩⟩, by subst hAe; exact z_end hK hw ht hW⟩, by subst hAe; exact hw.2.2.F ht⟩) (by subst hAe; exact hw.2.2.2.2) dX8_ill_61
        · skip
          refine z_iconst hx hb dX8_ill_33 ?_
          have hv_85 : (0 : Int) ≤ Mthrown_63 ∧ Mthrown_63 ≤ 2 := by
            first | assumption | omega | grind
          have hv_86 : (0 : Int) ≤ MlastOut ∧ MlastOut ≤ 1000000 := by
            first | assumption | omega | grind
          have hv_87 : (¬ (0 ≤ g ∧ g < Mmany) ∧ Mthrown_63 = 1 ∧ Mout = Mout ∧ Mgone = Mgone ∧ MlastOut = MlastOut) ∨ ((0 ≤ g ∧ g < Mmany) ∧ Mruns = 0 ∧ Mthrown_63 = 2 ∧ Mout = Mout ∧ Mgone = Mgone ∧ MlastOut = MlastOut) ∨ ((0 ≤ g ∧ g < Mmany) ∧ Mruns = 1 ∧ Mthrown_63 = 0 ∧ Mout g = 1 ∧ (0 : Int) = 0 ∧ Mout = Mout ∧ Mgone = Mgone ∧ MlastOut = MlastOut) ∨ ((0 ≤ g ∧ g < Mmany) ∧ Mruns = 1 ∧ Mthrown_63 = 0 ∧ Mout g = 0 ∧ (0 : Int) = 1 ∧ Mout = uZ Mout g 1 ∧ Mgone = uZ Mgone g Mminute ∧ MlastOut = Mminute) := by
            first | exact Or.inl ⟨by omega, by omega, rfl, rfl, rfl⟩ | exact Or.inr (Or.inl ⟨by omega, by omega, by omega, rfl, rfl, rfl⟩) | exact Or.inr (Or.inr (Or.inl ⟨by omega, by omega, by omega, by omega, rfl, rfl, rfl, rfl⟩)) | exact Or.inr (Or.inr (Or.inr ⟨by omega, by omega, by omega, by omega, rfl, rfl, rfl, rfl⟩))
          exact W.zret (v := zI 0) hx hb hr rfl (fun t9 ht hW => ⟨⟨zI 0, (0, Mthrown_63, Mout, Mgone, MlastOut), rfl, ⟨rfl, ⟨hv_85, qMout, qMgone, hv_86, hv_87⟩⟩, by subst hAe; exact z_end hK hw ht hW⟩, by subst hAe; exact hw.2.2.F ht⟩) (by subst hAe; exact hw.2.2.2.2) dX8_ill_34
    · skip
      refine z_iconst hx hb dX8_ill_13 ?_
      refine lv_goto (tgt := 18) hx hb dX8_ill_14 (by decide) ?_
      have hF9 := z_free (wc := kM cI cB cZ oM Mthrown Mmany Mguest Mrow Mbars Mbar Mfresh Mtape Mtaped Mpos Mtoken MtokenAt Mvalue Mwrong MwrongAt MfaultKind MfaultPlace Mthing Morder Mone Mtwo Mbest Mcells Mgap Mwire Mstand Mruns Mminute Mhead Mplays Mrests Mwent Mout Mcame Mgone MlastOut) hw hA [0, 1, 2, 3, 4, 5, 6, 7, 8, 9, 10, 11, 12, 13, 14, 15, 16] rfl
      refine va_calli (va_runV (As := [.int (zI 0), .int (zI 1)]) (rest := []) ⟨hx, hb, hml, hown, hts⟩ (c_X8_fails l D cI cB cZ oM H_1.size Mthrown Mmany Mguest Mrow Mbars Mbar Mfresh Mtape Mtaped Mpos Mtoken MtokenAt Mvalue Mwrong MwrongAt MfaultKind MfaultPlace Mthing Morder Mone Mtwo Mbest Mcells Mgap Mwire Mstand Mruns Mminute Mhead Mplays Mrests Mwent Mout Mcame Mgone MlastOut 0 1 (by omega) (by omega) qMguest qMrow (by omega) qMbar qMfresh qMtape (by omega) (by omega) (by omega) (by omega) (by omega) (by omega) (by omega) (by omega) (by omega) (by omega) qMorder (by omega) (by omega) qMbest (by omega) (by omega) qMwire qMstand (by omega) (by omega) qMhead qMplays qMrests qMwent qMout qMcame qMgone (by omega) (by omega) (by omega)) (cwV 2 hts gX8_ill_X8_fails rfl rfl rfl (by decide +kernel) ⟨Nat.le_of_ble_eq_true rfl, Nat.le_of_ble_eq_true rfl⟩) ⟨zPre_blind, va_recv hK hw.1 (ci := 8) (q0 := 0) rfl rfl, z_pre hK hw [0, 1, 2, 3, 4, 5, 6, 7, 8, 9, 10, 11, 12, 13, 14, 15, 16] (by decide) rfl⟩ rfl rfl hl.1 rfl (lv_room (Nat.le_of_ble_eq_true rfl)) dX8_ill_18 ⟨Nat.zero_le _, Nat.zero_le _⟩) hw.2.2 (fun q _ h => hF9 q h) hF9 (fun r9 u9 t9 H_88 locs9 ht9 hvm9 hq9 hB9 hz9 hk9 hS9 => ?_)
      obtain ⟨r_89, Mthrown_90⟩ := u9
      try dsimp only at hq9 hB9
      obtain ⟨rfl, hq9⟩ := hq9
      obtain ⟨hq_91, hq_92, hq_93⟩ := hq9
      have hw : HW D A s.heap (kM cI cB cZ oM Mthrown_90 Mmany Mguest Mrow Mbars Mbar Mfresh Mtape Mtaped Mpos Mtoken MtokenAt Mvalue Mwrong MwrongAt MfaultKind MfaultPlace Mthing Morder Mone Mtwo Mbest Mcells Mgap Mwire Mstand Mruns Mminute Mhead Mplays Mrests Mwent Mout Mcame Mgone MlastOut) H_88 locs9 := z_after (wc := kM cI cB cZ oM Mthrown Mmany Mguest Mrow Mbars Mbar Mfresh Mtape Mtaped Mpos Mtoken MtokenAt Mvalue Mwrong MwrongAt MfaultKind MfaultPlace Mthing Morder Mone Mtwo Mbest Mcells Mgap Mwire Mstand Mruns Mminute Mhead Mplays Mrests Mwent Mout Mcame Mgone MlastOut) hw [0, 1, 2, 3, 4, 5, 6, 7, 8, 9, 10, 11, 12, 13, 14, 15, 16] [] rfl rfl (by decide) (by decide) hF9 hk9 ht9 hB9 hS9 [0, 1, 2, 3, 4, 5, 6, 7, 8, 9, 10, 11, 12, 13, 14, 15, 16] (by decide) rfl
      clear hF9 ht9 hvm9 hB9 hz9 hk9 hS9
      rcases hq_92 with ⟨hc_94, rfl⟩ | ⟨hc_94, rfl⟩
      · skip
        refine z_if_ne (tgt := 33) hx hb dX8_ill_21 (by decide) (by omega) (fun hc_95 => ?_) (fun hc_95 => absurd hc_95 (by omega))
        refine z_iconst hx hb dX8_ill_33 ?_
        have hv_96 : (0 : Int) ≤ Mthrown_90 ∧ Mthrown_90 ≤ 2 := by
          first | assumption | omega | grind
        have hv_97 : (0 : Int) ≤ MlastOut ∧ MlastOut ≤ 1000000 := by
          first | assumption | omega | grind
        have hv_98 : (¬ (0 ≤ g ∧ g < Mmany) ∧ Mthrown_90 = 1 ∧ Mout = Mout ∧ Mgone = Mgone ∧ MlastOut = MlastOut) ∨ ((0 ≤ g ∧ g < Mmany) ∧ Mruns = 0 ∧ Mthrown_90 = 2 ∧ Mout = Mout ∧ Mgone = Mgone ∧ MlastOut = MlastOut) ∨ ((0 ≤ g ∧ g < Mmany) ∧ Mruns = 1 ∧ Mthrown_90 = 0 ∧ Mout g = 1 ∧ (0 : Int) = 0 ∧ Mout = Mout ∧ Mgone = Mgone ∧ MlastOut = MlastOut) ∨ ((0 ≤ g ∧ g < Mmany) ∧ Mruns = 1 ∧ Mthrown_90 = 0 ∧ Mout g = 0 ∧ (0 : Int) = 1 ∧ Mout = uZ Mout g 1 ∧ Mgone = uZ Mgone g Mminute ∧ MlastOut = Mminute) := by
          first | exact Or.inl ⟨by omega, by omega, rfl, rfl, rfl⟩ | exact Or.inr (Or.inl ⟨by omega, by omega, by omega, rfl, rfl, rfl⟩) | exact Or.inr (Or.inr (Or.inl ⟨by omega, by omega, by omega, by omega, rfl, rfl, rfl, rfl⟩)) | exact Or.inr (Or.inr (Or.inr ⟨by omega, by omega, by omega, by omega, rfl, rfl, rfl, rfl⟩))
        exact W.zret (v := zI 0) hx hb hr rfl (fun t9 ht hW => ⟨⟨zI 0, (0, Mthrown_90, Mout, Mgone, MlastOut), rfl, ⟨rfl, ⟨hv_96, qMout, qMgone, hv_97, hv_98⟩⟩, by subst hAe; exact z_end hK hw ht hW⟩, by subst hAe; exact hw.2.2.F ht⟩) (by subst hAe; exact hw.2.2.2.2) dX8_ill_34
      · skip
        refine z_if_ne (tgt := 33) hx hb dX8_ill_21 (by decide) (by omega) (fun hc_99 => absurd hc_99 (by omega)) (fun hc_99 => ?_)
        refine lv_aload_n hx hb dX8_ill_24 rfl (lv_at hl 0 rfl) ?_
        refine va_get (D := D) (ci := 8) (v := .ref (oM 14)) (C := RX8) (T := TX8) (N := 36) hx hb hts hinX8 hown hK hw.1 0 rfl rfl 32 (by decide) (hts (.fieldLink RX8 59 "CarnivalRoadModel" "out" "[Z") (by decide +kernel)) (fun _ h9 => h9) rfl dX8_ill_25 ?_
        refine lv_iload_n hx hb dX8_ill_28 rfl (lv_at hl 1 rfl) ?_
        have hi_100 : (0 : Int) ≤ g ∧ g < ((16 : Nat) : Int) := by
          first | assumption | omega | grind
        refine z_zald (n := 16) (f := Mout) hx hb hK hw 14 rfl (by decide) hi_100 dX8_ill_29 ?_
        have hq_101 : 0 ≤ Mout g ∧ Mout g ≤ 1 := qMout g
        refine z_if_eq (tgt := 35) hx hb dX8_ill_30 (by decide) (by omega) (fun hc_102 => ?_) (fun hc_102 => ?_)
        · skip
          refine lv_aload_n hx hb dX8_ill_35 rfl (lv_at hl 0 rfl) ?_
          refine va_get (D := D) (ci := 8) (v := .ref (oM 14)) (C := RX8) (T := TX8) (N := 36) hx hb hts hinX8 hown hK hw.1 0 rfl rfl 32 (by decide) (hts (.fieldLink RX8 59 "CarnivalRoadModel" "out" "[Z") (by decide +kernel)) (fun _ h9 => h9) rfl dX8_ill_36 ?_
          refine lv_iload_n hx hb dX8_ill_39 rfl (lv_at hl 1 rfl) ?_
          refine z_iconst hx hb dX8_ill_40 ?_
          have hi_103 : (0 : Int) ≤ g ∧ g < ((16 : Nat) : Int) := by
            first | assumption | omega | grind
          have hv_104 : (0 : Int) ≤ (1 : Int) ∧ (1 : Int) ≤ 1 := by
            first | assumption | omega | grind
          have hR_105 : RA (uZ Mout g 1) (0) 1 := RA_up qMout hv_104
          refine z_zast (n := 16) (f := Mout) (ws2 := kM cI cB cZ oM Mthrown_90 Mmany Mguest Mrow Mbars Mbar Mfresh Mtape Mtaped Mpos Mtoken MtokenAt Mvalue Mwrong MwrongAt MfaultKind MfaultPlace Mthing Morder Mone Mtwo Mbest Mcells Mgap Mwire Mstand Mruns Mminute Mhead Mplays Mrests Mwent (uZ Mout g 1) Mcame Mgone MlastOut) hx hb hK hw 14 rfl rfl (by decide) hi_103 dX8_ill_41 rfl (fun H locs hw => ?_)
          refine lv_aload_n hx hb dX8_ill_42 rfl (lv_at hl 0 rfl) ?_
          refine va_get (D := D) (ci := 8) (v := .ref (oM 16)) (C := RX8) (T := TX8) (N := 36) hx hb hts hinX8 hown hK hw.1 0 rfl rfl 34 (by decide) (hts (.fieldLink RX8 66 "CarnivalRoadModel" "gone" "[I") (by decide +kernel)) (fun _ h9 => h9) rfl dX8_ill_43 ?_
          refine lv_iload_n hx hb dX8_ill_46 rfl (lv_at hl 1 rfl) ?_
          refine lv_aload_n hx hb dX8_ill_47 rfl (lv_at hl 0 rfl) ?_
          refine va_get (D := D) (ci := 8) (v := .int (zI Mminute)) (C := RX8) (T := TX8) (N := 36) hx hb hts hinX8 hown hK hw.1 0 rfl rfl 27 (by decide) (hts (.fieldLink RX8 208 "CarnivalRoadModel" "minute" "I") (by decide +kernel)) (fun _ h9 => h9) rfl dX8_ill_48 ?_
          have hi_106 : (0 : Int) ≤ g ∧ g < ((8 : Nat) : Int) := by
            first | assumption | omega | grind
          have hv_107 : (-1 : Int) ≤ Mminute ∧ Mminute ≤ 1000000 := by
            first | assumption | omega | grind
          have hR_108 : RA (uZ Mgone g Mminute) (-1) 1000000 := RA_up qMgone hv_107
          refine z_iast (n := 8) (f := Mgone) (ws2 := kM cI cB cZ oM Mthrown_90 Mmany Mguest Mrow Mbars Mbar Mfresh Mtape Mtaped Mpos Mtoken MtokenAt Mvalue Mwrong MwrongAt MfaultKind MfaultPlace Mthing Morder Mone Mtwo Mbest Mcells Mgap Mwire Mstand Mruns Mminute Mhead Mplays Mrests Mwent (uZ Mout g 1) Mcame (uZ Mgone g Mminute) MlastOut) hx hb hK hw 16 rfl (by decide) hi_106 dX8_ill_51 rfl (fun H locs hw => ?_)
          refine lv_aload_n hx hb dX8_ill_52 rfl (lv_at hl 0 rfl) ?_
          refine lv_aload_n hx hb dX8_ill_53 rfl (lv_at hl 0 rfl) ?_
          refine va_get (D := D) (ci := 8) (v := .int (zI Mminute)) (C := RX8) (T := TX8) (N := 36) hx hb hts hinX8 hown hK hw.1 0 rfl rfl 27 (by decide) (hts (.fieldLink RX8 208 "CarnivalRoadModel" "minute" "I") (by decide +kernel)) (fun _ h9 => h9) rfl dX8_ill_54 ?_
          refine z_put (D := D) (ci := 8) (v := .int (zI Mminute)) (ty := .int) (C := RX8) (T := TX8) (N := 36) (ws2 := kM cI cB cZ oM Mthrown_90 Mmany Mguest Mrow Mbars Mbar Mfresh Mtape Mtaped Mpos Mtoken MtokenAt Mvalue Mwrong MwrongAt MfaultKind MfaultPlace Mthing Morder Mone Mtwo Mbest Mcells Mgap Mwire Mstand Mruns Mminute Mhead Mplays Mrests Mwent (uZ Mout g 1) Mcame (uZ Mgone g Mminute) Mminute) hx hb hts hinX8 tyX8 tyX8_ok nmX8 hown hK hw 0 rfl rfl 35 (by decide) (hts (.fieldLink RX8 211 "CarnivalRoadModel" "lastOut" "I") (by decide +kernel)) (fun _ h9 => h9) rfl (by decide +kernel) rfl rfl (Nat.le_of_ble_eq_true rfl) dX8_ill_57 rfl (fun H locs hw => ?_)
          refine z_iconst hx hb dX8_ill_60 ?_
          have hv_109 : (0 : Int) ≤ Mthrown_90 ∧ Mthrown_90 ≤ 2 := by
            first | assumption | omega | grind
          have hv_110 : (0 : Int) ≤ Mminute ∧ Mminute ≤ 1000000 := by
            first | assumption | omega | grind
          have hv_111 : (¬ (0 ≤ g ∧ g < Mmany) ∧ Mthrown_90 = 1 ∧ (uZ Mout g 1) = Mout ∧ (uZ Mgone g Mminute) = Mgone ∧ Mminute = MlastOut) ∨ ((0 ≤ g ∧ g < Mmany) ∧ Mruns = 0 ∧ Mthrown_90 = 2 ∧ (uZ Mout g 1) = Mout ∧ (uZ Mgone g Mminute) = Mgone ∧ Mminute = MlastOut) ∨ ((0 ≤ g ∧ g < Mmany) ∧ Mruns = 1 ∧ Mthrown_90 = 0 ∧ Mout g = 1 ∧ (1 : Int) = 0 ∧ (uZ Mout g 1) = Mout ∧ (uZ Mgone g Mminute) = Mgone ∧ Mminute = MlastOut) ∨ ((0 ≤ g ∧ g < Mmany) ∧ Mruns = 1 ∧ Mthrown_90 = 0 ∧ Mout g = 0 ∧ (1 : Int) = 1 ∧ (uZ Mout g 1) = uZ Mout g 1 ∧ (uZ Mgone g Mminute) = uZ Mgone g Mminute ∧ Mminute = Mminute) := by
            first | exact Or.inl ⟨by omega, by omega, rfl, rfl, rfl⟩ | exact Or.inr (Or.inl ⟨by omega, by omega, by omega, rfl, rfl, rfl⟩) | exact Or.inr (Or.inr (Or.inl ⟨by omega, by omega, by omega, by omega, rfl, rfl, rfl, rfl⟩)) | exact Or.inr (Or.inr (Or.inr ⟨by omega, by omega, by omega, by omega, rfl, rfl, rfl, rfl⟩))
          exact W.zret (v := zI 1) hx hb hr rfl (fun t9 ht hW => ⟨⟨zI 1, (1, Mthrown_90, (uZ Mout g 1), (uZ Mgone g Mminute), Mminute), rfl, ⟨rfl, ⟨hv_109, hR_105, hR_108, hv_110, hv_111⟩⟩, by subst hAe; exact z_end hK hw ht hW⟩, by subst hAe; exact hw.2.2.F ht⟩) (by subst hAe; exact hw.2.2.2.2) dX8_ill_61
        · skip
          refine z_iconst hx hb dX8_ill_33 ?_
          have hv_112 : (0 : Int) ≤ Mthrown_90 ∧ Mthrown_90 ≤ 2 := by
            first | assumption | omega | grind
          have hv_113 : (0 : Int) ≤ MlastOut ∧ MlastOut ≤ 1000000 := by
            first | assumption | omega | grind
          have hv_114 : (¬ (0 ≤ g ∧ g < Mmany) ∧ Mthrown_90 = 1 ∧ Mout = Mout ∧ Mgone = Mgone ∧ MlastOut = MlastOut) ∨ ((0 ≤ g ∧ g < Mmany) ∧ Mruns = 0 ∧ Mthrown_90 = 2 ∧ Mout = Mout ∧ Mgone = Mgone ∧ MlastOut = MlastOut) ∨ ((0 ≤ g ∧ g < Mmany) ∧ Mruns = 1 ∧ Mthrown_90 = 0 ∧ Mout g = 1 ∧ (0 : Int) = 0 ∧ Mout = Mout ∧ Mgone = Mgone ∧ MlastOut = MlastOut) ∨ ((0 ≤ g ∧ g < Mmany) ∧ Mruns = 1 ∧ Mthrown_90 = 0 ∧ Mout g = 0 ∧ (0 : Int) = 1 ∧ Mout = uZ Mout g 1 ∧ Mgone = uZ Mgone g Mminute ∧ MlastOut = Mminute) := by
            first | exact Or.inl ⟨by omega, by omega, rfl, rfl, rfl⟩ | exact Or.inr (Or.inl ⟨by omega, by omega, by omega, rfl, rfl, rfl⟩) | exact Or.inr (Or.inr (Or.inl ⟨by omega, by omega, by omega, by omega, rfl, rfl, rfl, rfl⟩)) | exact Or.inr (Or.inr (Or.inr ⟨by omega, by omega, by omega, by omega, rfl, rfl, rfl, rfl⟩))
          exact W.zret (v := zI 0) hx hb hr rfl (fun t9 ht hW => ⟨⟨zI 0, (0, Mthrown_90, Mout, Mgone, MlastOut), rfl, ⟨rfl, ⟨hv_112, qMout, qMgone, hv_113, hv_114⟩⟩, by subst hAe; exact z_end hK hw ht hW⟩, by subst hAe; exact hw.2.2.F ht⟩) (by subst hAe; exact hw.2.2.2.2) dX8_ill_34
set_option maxRecDepth 100000 in
set_option maxHeartbeats 4000000 in
theorem c_X8_who (l : Launch) (D : va_G) (cI cB cZ : ClassId) (oM : Nat → Nat) (sz : Nat) (Mthrown : Int) (Mmany : Int) (Mguest : Int → Int) (Mrow : Int → Int) (Mbars : Int) (Mbar : Int → Int) (Mfresh : Int → Int) (Mtape : Int → Int) (Mtaped : Int) (Mpos : Int) (Mtoken : Int) (MtokenAt : Int) (Mvalue : Int) (Mwrong : Int) (MwrongAt : Int) (MfaultKind : Int) (MfaultPlace : Int) (Mthing : Int) (Morder : Int → Int) (Mone : Int) (Mtwo : Int) (Mbest : Int → Int) (Mcells : Int) (Mgap : Int) (Mwire : Int → Int) (Mstand : Int → Int) (Mruns : Int) (Mminute : Int) (Mhead : Int → Int) (Mplays : Int → Int) (Mrests : Int → Int) (Mwent : Int → Int) (Mout : Int → Int) (Mcame : Int → Int) (Mgone : Int → Int) (MlastOut : Int) (c : Int) (qMthrown : 0 ≤ Mthrown ∧ Mthrown ≤ 2) (qMmany : 0 ≤ Mmany ∧ Mmany ≤ 8) (qMguest : RA Mguest (0) 9) (qMrow : RA Mrow (0) 7) (qMbars : 0 ≤ Mbars ∧ Mbars ≤ 10) (qMbar : RA Mbar (0) 104) (qMfresh : RA Mfresh (0) 104) (qMtape : RA Mtape (0) 255) (qMtaped : 0 ≤ Mtaped ∧ Mtaped ≤ 400) (qMpos : 0 ≤ Mpos ∧ Mpos ≤ 400) (qMtoken : 0 ≤ Mtoken ∧ Mtoken ≤ 15) (qMtokenAt : 0 ≤ MtokenAt ∧ MtokenAt ≤ 400) (qMvalue : 0 ≤ Mvalue ∧ Mvalue ≤ 99) (qMwrong : 0 ≤ Mwrong ∧ Mwrong ≤ 3) (qMwrongAt : 0 ≤ MwrongAt ∧ MwrongAt ≤ 400) (qMfaultKind : 0 ≤ MfaultKind ∧ MfaultKind ≤ 3) (qMfaultPlace : -1 ≤ MfaultPlace ∧ MfaultPlace ≤ 400) (qMthing : 0 ≤ Mthing ∧ Mthing ≤ 104) (qMorder : RA Morder (0) 7) (qMone : 0 ≤ Mone ∧ Mone ≤ 8) (qMtwo : 0 ≤ Mtwo ∧ Mtwo ≤ 8) (qMbest : RA Mbest (0) 7) (qMcells : 1 ≤ Mcells ∧ Mcells ≤ 50) (qMgap : 0 ≤ Mgap ∧ Mgap ≤ 3) (qMwire : RA Mwire (0) 9) (qMstand : RA Mstand (0) 9) (qMruns : 0 ≤ Mruns ∧ Mruns ≤ 1) (qMminute : 0 ≤ Mminute ∧ Mminute ≤ 1000000) (qMhead : RA Mhead (-1) 60) (qMplays : RA Mplays (0) 18) (qMrests : RA Mrests (0) 3) (qMwent : RA Mwent (0) 61) (qMout : RA Mout (0) 1) (qMcame : RA Mcame (-1) 1000000) (qMgone : RA Mgone (-1) 1000000) (qMlastOut : 0 ≤ MlastOut ∧ MlastOut ≤ 1000000) (qc : -2147483648 ≤ c ∧ c ≤ 2147483647) : Met l yX8_who wsX8_who ({ frames := 2, cells := 0, slots := 0, locals := 44 }) (va_Pc [.ref (oM 0), .int (zI c)] (zPre D cI cB cZ sz (kM cI cB cZ oM Mthrown Mmany Mguest Mrow Mbars Mbar Mfresh Mtape Mtaped Mpos Mtoken MtokenAt Mvalue Mwrong MwrongAt MfaultKind MfaultPlace Mthing Morder Mone Mtwo Mbest Mcells Mgap Mwire Mstand Mruns Mminute Mhead Mplays Mrests Mwent Mout Mcame Mgone MlastOut))) (va_Qi (fun (r9 : Int32) (u9 : Int × Int) => r9 = zI u9.1 ∧ (((0 : Int) ≤ u9.2 ∧ u9.2 ≤ 2) ∧ ((Mruns = 0 ∧ u9.2 = 1) ∨ (Mruns = 1 ∧ u9.2 = 0 ∧ ((u9.1 = -1 ∧ (¬ (0 ≤ c ∧ c < Mcells) ∨ ∀ g, 0 ≤ g → g < Mmany → ¬ ((Mout (g) = 0 ∧ 0 ≤ Mhead (g)) ∧ Mhead (0 + g) - Mguest (5 * g + 1) + 1 ≤ c ∧ c ≤ Mhead (g)))) ∨ ((0 ≤ u9.1 ∧ u9.1 < Mmany) ∧ (0 ≤ c ∧ c < Mcells) ∧ ((Mout (u9.1) = 0 ∧ 0 ≤ Mhead (u9.1)) ∧ Mhead (0 + u9.1) - Mguest (5 * u9.1 + 1) + 1 ≤ c ∧ c ≤ Mhead (u9.1)))))))) (fun u9 t9 => zAt D cI cB cZ (va_A (kM cI cB cZ oM Mthrown Mmany Mguest Mrow Mbars Mbar Mfresh Mtape Mtaped Mpos Mtoken MtokenAt Mvalue Mwrong MwrongAt MfaultKind MfaultPlace Mthing Morder Mone Mtwo Mbest Mcells Mgap Mwire Mstand Mruns Mminute Mhead Mplays Mrests Mwent Mout Mcame Mgone MlastOut) sz) (kM cI cB cZ oM (u9.2) Mmany Mguest Mrow Mbars Mbar Mfresh Mtape Mtaped Mpos Mtoken MtokenAt Mvalue Mwrong MwrongAt MfaultKind MfaultPlace Mthing Morder Mone Mtwo Mbest Mcells Mgap Mwire Mstand Mruns Mminute Mhead Mplays Mrests Mwent Mout Mcame Mgone MlastOut) t9) (va_A (kM cI cB cZ oM Mthrown Mmany Mguest Mrow Mbars Mbar Mfresh Mtape Mtaped Mpos Mtoken MtokenAt Mvalue Mwrong MwrongAt MfaultKind MfaultPlace Mthing Morder Mone Mtwo Mbest Mcells Mgap Mwire Mstand Mruns Mminute Mhead Mplays Mrests Mwent Mout Mcame Mgone MlastOut) sz)) 0 0 (va_A (kM cI cB cZ oM Mthrown Mmany Mguest Mrow Mbars Mbar Mfresh Mtape Mtaped Mpos Mtoken MtokenAt Mvalue Mwrong MwrongAt MfaultKind MfaultPlace Mthing Morder Mone Mtwo Mbest Mcells Mgap Mwire Mstand Mruns Mminute Mhead Mplays Mrests Mwent Mout Mcame Mgone MlastOut) sz) := by
  refine Met.ofW (cc := cX8_who) (maxL := 3) (ret := (some .int)) (by decide) rfl ?_
  intro pp ee s mm aa bw mt cd s₁ BL hml hv
  obtain ⟨rfl, hsz, hP, hK, hD0⟩ := hv
  have hx := BL.exec
  have hb := BL.bytes
  have hr := BL.returns
  have hts := atoms_spec (ws := wsX8_who) BL.pre
  have hown : s.vm.findClass RX8 = some mm.cls := findClass_of_methodNamed BL.named
  have hlocks := BL.notSynchronized
  subst hsz
  generalize hAe : va_A (kM cI cB cZ oM Mthrown Mmany Mguest Mrow Mbars Mbar Mfresh Mtape Mtaped Mpos Mtoken MtokenAt Mvalue Mwrong MwrongAt MfaultKind MfaultPlace Mthing Morder Mone Mtwo Mbest Mcells Mgap Mwire Mstand Mruns Mminute Mhead Mplays Mrests Mwent Mout Mcame Mgone MlastOut) s.heap.size = A
  have hA : ∀ q : Nat, s.heap.size ≤ q → A q := fun q h => by rw [← hAe]; exact Or.inr h
  have hw : HW D A s.heap (kM cI cB cZ oM Mthrown Mmany Mguest Mrow Mbars Mbar Mfresh Mtape Mtaped Mpos Mtoken MtokenAt Mvalue Mwrong MwrongAt MfaultKind MfaultPlace Mthing Morder Mone Mtwo Mbest Mcells Mgap Mwire Mstand Mruns Mminute Mhead Mplays Mrests Mwent Mout Mcame Mgone MlastOut) s.heap [] := z_start hAe hP hD0
  clear hP hD0
  have hl := lv_entry ([.ref (oM 0), .int (zI c)]) (n := 3) (Nat.le_of_ble_eq_true rfl)
  rw [lg_entry_eq]
  generalize (lg_sl ([.ref (oM 0), .int (zI c)]) ++ List.replicate (3 - (lg_sl ([.ref (oM 0), .int (zI c)])).length) Slot.unset).toArray = ls at hl ⊢
  have hl : lv_has ls 3 [(0, .ref (oM 0)), (1, .int (zI c))] := hl
  have hinX8 : ∀ w ∈ wsX80, w ∈ wsX8_who := by decide +kernel
  refine lv_aload_n hx hb dX8_who_0 rfl (lv_at hl 0 rfl) ?_
  refine lv_aload_n hx hb dX8_who_1 rfl (lv_at hl 0 rfl) ?_
  refine va_get (D := D) (ci := 8) (v := .int (zI Mruns)) (C := RX8) (T := TX8) (N := 36) hx hb hts hinX8 hown hK hw.1 0 rfl rfl 26 (by decide) (hts (.fieldLink RX8 79 "CarnivalRoadModel" "runs" "Z") (by decide +kernel)) (fun _ h9 => h9) rfl dX8_who_2 ?_
  refine z_if_ne (tgt := 12) hx hb dX8_who_5 (by decide) (by omega) (fun hc_1 => ?_) (fun hc_1 => ?_)
  · skip
    refine z_iconst hx hb dX8_who_12 ?_
    refine z_iconst hx hb dX8_who_13 ?_
    have hF9 := z_free (wc := kM cI cB cZ oM Mthrown Mmany Mguest Mrow Mbars Mbar Mfresh Mtape Mtaped Mpos Mtoken MtokenAt Mvalue Mwrong MwrongAt MfaultKind MfaultPlace Mthing Morder Mone Mtwo Mbest Mcells Mgap Mwire Mstand Mruns Mminute Mhead Mplays Mrests Mwent Mout Mcame Mgone MlastOut) hw hA [0, 1, 2, 3, 4, 5, 6, 7, 8, 9, 10, 11, 12, 13, 14, 15, 16] rfl
    refine va_calli (va_runV (As := [.int (zI 0), .int (zI 0)]) (rest := []) ⟨hx, hb, hml, hown, hts⟩ (c_X8_fails l D cI cB cZ oM s.heap.size Mthrown Mmany Mguest Mrow Mbars Mbar Mfresh Mtape Mtaped Mpos Mtoken MtokenAt Mvalue Mwrong MwrongAt MfaultKind MfaultPlace Mthing Morder Mone Mtwo Mbest Mcells Mgap Mwire Mstand Mruns Mminute Mhead Mplays Mrests Mwent Mout Mcame Mgone MlastOut 0 0 (by omega) (by omega) qMguest qMrow (by omega) qMbar qMfresh qMtape (by omega) (by omega) (by omega) (by omega) (by omega) (by omega) (by omega) (by omega) (by omega) (by omega) qMorder (by omega) (by omega) qMbest (by omega) (by omega) qMwire qMstand (by omega) (by omega) qMhead qMplays qMrests qMwent qMout qMcame qMgone (by omega) (by omega) (by omega)) (cwV 2 hts gX8_who_X8_fails rfl rfl rfl (by decide +kernel) ⟨Nat.le_of_ble_eq_true rfl, Nat.le_of_ble_eq_true rfl⟩) ⟨zPre_blind, va_recv hK hw.1 (ci := 8) (q0 := 0) rfl rfl, z_pre hK hw [0, 1, 2, 3, 4, 5, 6, 7, 8, 9, 10, 11, 12, 13, 14, 15, 16] (by decide) rfl⟩ rfl rfl hl.1 rfl (lv_room (Nat.le_of_ble_eq_true rfl)) dX8_who_14 ⟨Nat.zero_le _, Nat.zero_le _⟩) hw.2.2 (fun q _ h => hF9 q h) hF9 (fun r9 u9 t9 H_2 locs9 ht9 hvm9 hq9 hB9 hz9 hk9 hS9 => ?_)
    obtain ⟨r_3, Mthrown_4⟩ := u9
    try dsimp only at hq9 hB9
    obtain ⟨rfl, hq9⟩ := hq9
    obtain ⟨hq_5, hq_6, hq_7⟩ := hq9
    have hw : HW D A s.heap (kM cI cB cZ oM Mthrown_4 Mmany Mguest Mrow Mbars Mbar Mfresh Mtape Mtaped Mpos Mtoken MtokenAt Mvalue Mwrong MwrongAt MfaultKind MfaultPlace Mthing Morder Mone Mtwo Mbest Mcells Mgap Mwire Mstand Mruns Mminute Mhead Mplays Mrests Mwent Mout Mcame Mgone MlastOut) H_2 locs9 := z_after (wc := kM cI cB cZ oM Mthrown Mmany Mguest Mrow Mbars Mbar Mfresh Mtape Mtaped Mpos Mtoken MtokenAt Mvalue Mwrong MwrongAt MfaultKind MfaultPlace Mthing Morder Mone Mtwo Mbest Mcells Mgap Mwire Mstand Mruns Mminute Mhead Mplays Mrests Mwent Mout Mcame Mgone MlastOut) hw [0, 1, 2, 3, 4, 5, 6, 7, 8, 9, 10, 11, 12, 13, 14, 15, 16] [] rfl rfl (by decide) (by decide) hF9 hk9 ht9 hB9 hS9 [0, 1, 2, 3, 4, 5, 6, 7, 8, 9, 10, 11, 12, 13, 14, 15, 16] (by decide) rfl
    clear hF9 ht9 hvm9 hB9 hz9 hk9 hS9
    rcases hq_6 with ⟨hc_8, rfl⟩ | ⟨hc_8, rfl⟩
    · skip
      refine z_if_eq (tgt := 22) hx hb dX8_who_17 (by decide) (by omega) (fun hc_9 => absurd hc_9 (by omega)) (fun hc_9 => ?_)
      refine z_iconst hx hb dX8_who_20 ?_
      have hv_10 : (0 : Int) ≤ Mthrown_4 ∧ Mthrown_4 ≤ 2 := by
        first | assumption | omega | grind
      have hv_11 : (Mruns = 0 ∧ Mthrown_4 = 1) ∨ (Mruns = 1 ∧ Mthrown_4 = 0 ∧ (((0 : Int) = -1 ∧ (¬ (0 ≤ c ∧ c < Mcells) ∨ ∀ g, 0 ≤ g → g < Mmany → ¬ ((Mout (g) = 0 ∧ 0 ≤ Mhead (g)) ∧ Mhead (0 + g) - Mguest (5 * g + 1) + 1 ≤ c ∧ c ≤ Mhead (g)))) ∨ ((0 ≤ (0 : Int) ∧ (0 : Int) < Mmany) ∧ (0 ≤ c ∧ c < Mcells) ∧ ((Mout ((0 : Int)) = 0 ∧ 0 ≤ Mhead ((0 : Int))) ∧ Mhead (0 + (0 : Int)) - Mguest (5 * (0 : Int) + 1) + 1 ≤ c ∧ c ≤ Mhead ((0 : Int)))))) := by
        exact Or.inl ⟨by omega, by omega⟩
      exact W.iret (v := zI 0) hx hb hr (fun t9 ht hW => ⟨⟨zI 0, (0, Mthrown_4), rfl, ⟨rfl, ⟨hv_10, hv_11⟩⟩, by subst hAe; exact z_end hK hw ht hW⟩, by subst hAe; exact hw.2.2.F ht⟩) (by subst hAe; exact hw.2.2.2.2) dX8_who_21
    · skip
      refine z_if_eq (tgt := 22) hx hb dX8_who_17 (by decide) (by omega) (fun hc_12 => ?_) (fun hc_12 => absurd hc_12 (by omega))
      refine z_iconst hx hb dX8_who_22 ?_
      refine lv_istore_n (lv' := [(2, .int (zI 0)), (0, .ref (oM 0)), (1, .int (zI c))]) hx hb dX8_who_23 rfl hl (by decide) rfl (fun ls hl => ?_)
      have hv_13 : 0 ≤ (0 : Int) ∧ (0 : Int) ≤ Mmany := by
        first | assumption | omega | grind
      have hv_14 : ∀ g, 0 ≤ g → g < (0 : Int) → ¬ ((Mout (g) = 0 ∧ 0 ≤ Mhead (g)) ∧ Mhead (0 + g) - Mguest (5 * g + 1) + 1 ≤ c ∧ c ≤ Mhead (g)) := by
        exact all_0
      refine z_loop (σ := Int) (μ := fun x9 => (9 - x9).toNat) (I := fun x9 H locs ls => (0 ≤ x9 ∧ x9 ≤ Mmany) ∧ (∀ g, 0 ≤ g → g < x9 → ¬ ((Mout (g) = 0 ∧ 0 ≤ Mhead (g)) ∧ Mhead (0 + g) - Mguest (5 * g + 1) + 1 ≤ c ∧ c ≤ Mhead (g))) ∧ HW D A s.heap (kM cI cB cZ oM Mthrown_4 Mmany Mguest Mrow Mbars Mbar Mfresh Mtape Mtaped Mpos Mtoken MtokenAt Mvalue Mwrong MwrongAt MfaultKind MfaultPlace Mthing Morder Mone Mtwo Mbest Mcells Mgap Mwire Mstand Mruns Mminute Mhead Mplays Mrests Mwent Mout Mcame Mgone MlastOut) H locs ∧ lv_has ls 3 [(0, .ref (oM 0)), (1, .int (zI c)), (2, .int (zI x9))]) 0 ⟨hv_13, hv_14, hw, lv_sub hl [1, 2, 0] rfl⟩ ?_
      clear hw hl
      intro g_16 H locs ls hI ih_15
      try dsimp only at hI
      obtain ⟨hI_17, hI_18, hw, hl⟩ := hI
      refine lv_iload_n hx hb dX8_who_24 rfl (lv_at hl 2 rfl) ?_
      refine lv_aload_n hx hb dX8_who_25 rfl (lv_at hl 0 rfl) ?_
      refine va_get (D := D) (ci := 8) (v := .int (zI Mmany)) (C := RX8) (T := TX8) (N := 36) hx hb hts hinX8 hown hK hw.1 0 rfl rfl 1 (by decide) (hts (.fieldLink RX8 72 "CarnivalRoadModel" "many" "I") (by decide +kernel)) (fun _ h9 => h9) rfl dX8_who_26 ?_
      refine z_icmp_ge (tgt := 76) hx hb dX8_who_29 (by decide) (by omega) (fun hc_19 => ?_) (fun hc_19 => ?_)
      · skip
        refine z_iconst hx hb dX8_who_76 ?_
        have hv_20 : (0 : Int) ≤ Mthrown_4 ∧ Mthrown_4 ≤ 2 := by
          first | assumption | omega | grind
        have hv_21 : (Mruns = 0 ∧ Mthrown_4 = 1) ∨ (Mruns = 1 ∧ Mthrown_4 = 0 ∧ ((((-1) : Int) = -1 ∧ (¬ (0 ≤ c ∧ c < Mcells) ∨ ∀ g, 0 ≤ g → g < Mmany → ¬ ((Mout (g) = 0 ∧ 0 ≤ Mhead (g)) ∧ Mhead (0 + g) - Mguest (5 * g + 1) + 1 ≤ c ∧ c ≤ Mhead (g)))) ∨ ((0 ≤ ((-1) : Int) ∧ ((-1) : Int) < Mmany) ∧ (0 ≤ c ∧ c < Mcells) ∧ ((Mout (((-1) : Int)) = 0 ∧ 0 ≤ Mhead (((-1) : Int))) ∧ Mhead (0 + ((-1) : Int)) - Mguest (5 * ((-1) : Int) + 1) + 1 ≤ c ∧ c ≤ Mhead (((-1) : Int)))))) := by
          first | exact Or.inr ⟨by omega, by omega, Or.inl ⟨rfl, Or.inl (by omega)⟩⟩ | exact Or.inr ⟨by omega, by omega, Or.inl ⟨rfl, Or.inr (all_le (by assumption) (by omega))⟩⟩
        exact W.iret (v := zI (-1)) hx hb hr (fun t9 ht hW => ⟨⟨zI (-1), ((-1), Mthrown_4), rfl, ⟨rfl, ⟨hv_20, hv_21⟩⟩, by subst hAe; exact z_end hK hw ht hW⟩, by subst hAe; exact hw.2.2.F ht⟩) (by subst hAe; exact hw.2.2.2.2) dX8_who_77
      · skip
        refine lv_aload_n hx hb dX8_who_32 rfl (lv_at hl 0 rfl) ?_
        refine lv_iload_n hx hb dX8_who_33 rfl (lv_at hl 1 rfl) ?_
        have hF9 := z_free (wc := kM cI cB cZ oM Mthrown_4 Mmany Mguest Mrow Mbars Mbar Mfresh Mtape Mtaped Mpos Mtoken MtokenAt Mvalue Mwrong MwrongAt MfaultKind MfaultPlace Mthing Morder Mone Mtwo Mbest Mcells Mgap Mwire Mstand Mruns Mminute Mhead Mplays Mrests Mwent Mout Mcame Mgone MlastOut) hw hA [0, 1, 2, 3, 4, 5, 6, 7, 8, 9, 10, 11, 12, 13, 14, 15, 16] rfl
        refine va_calli (va_runV (As := [.int (zI c)]) (rest := []) ⟨hx, hb, hml, hown, hts⟩ (c_X8_isCell l D cI cB cZ oM H.size Mthrown_4 Mmany Mguest Mrow Mbars Mbar Mfresh Mtape Mtaped Mpos Mtoken MtokenAt Mvalue Mwrong MwrongAt MfaultKind MfaultPlace Mthing Morder Mone Mtwo Mbest Mcells Mgap Mwire Mstand Mruns Mminute Mhead Mplays Mrests Mwent Mout Mcame Mgone MlastOut c (by omega) (by omega) qMguest qMrow (by omega) qMbar qMfresh qMtape (by omega) (by omega) (by omega) (by omega) (by omega) (by omega) (by omega) (by omega) (by omega) (by omega) qMorder (by omega) (by omega) qMbest (by omega) (by omega) qMwire qMstand (by omega) (by omega) qMhead qMplays qMrests qMwent qMout qMcame qMgone (by omega) (by omega)) (cwV 1 hts gX8_who_X8_isCell rfl rfl rfl (by decide +kernel) ⟨Nat.le_of_ble_eq_true rfl, Nat.le_of_ble_eq_true rfl⟩) ⟨zPre_blind, va_recv hK hw.1 (ci := 8) (q0 := 0) rfl rfl, z_pre hK hw [0, 1, 2, 3, 4, 5, 6, 7, 8, 9, 10, 11, 12, 13, 14, 15, 16] (by decide) rfl⟩ rfl rfl hl.1 rfl (lv_room (Nat.le_of_ble_eq_true rfl)) dX8_who_34 ⟨Nat.zero_le _, Nat.zero_le _⟩) hw.2.2 (fun q _ h => hF9 q h) hF9 (fun r9 u9 t9 H_22 locs9 ht9 hvm9 hq9 hB9 hz9 hk9 hS9 => ?_)
        obtain ⟨r_23, rfl⟩ : ∃ z, z = u9 := ⟨_, rfl⟩
        try dsimp only at hq9 hB9
        obtain ⟨rfl, hq9⟩ := hq9
        have hq_24 := hq9
        have hw : HW D A s.heap (kM cI cB cZ oM Mthrown_4 Mmany Mguest Mrow Mbars Mbar Mfresh Mtape Mtaped Mpos Mtoken MtokenAt Mvalue Mwrong MwrongAt MfaultKind MfaultPlace Mthing Morder Mone Mtwo Mbest Mcells Mgap Mwire Mstand Mruns Mminute Mhead Mplays Mrests Mwent Mout Mcame Mgone MlastOut) H_22 locs9 := z_after (wc := kM cI cB cZ oM Mthrown_4 Mmany Mguest Mrow Mbars Mbar Mfresh Mtape Mtaped Mpos Mtoken MtokenAt Mvalue Mwrong MwrongAt MfaultKind MfaultPlace Mthing Morder Mone Mtwo Mbest Mcells Mgap Mwire Mstand Mruns Mminute Mhead Mplays Mrests Mwent Mout Mcame Mgone MlastOut) hw [0, 1, 2, 3, 4, 5, 6, 7, 8, 9, 10, 11, 12, 13, 14, 15, 16] [] rfl rfl (by decide) (by decide) hF9 hk9 ht9 hB9 hS9 [0, 1, 2, 3, 4, 5, 6, 7, 8, 9, 10, 11, 12, 13, 14, 15, 16] (by decide) rfl
        clear hF9 ht9 hvm9 hB9 hz9 hk9 hS9 hq9
        rcases hq_24 with ⟨hc_25, rfl⟩ | ⟨hc_25, rfl⟩
        · skip
          refine z_if_eq (tgt := 76) hx hb dX8_who_37 (by decide) (by omega) (fun hc_26 => absurd hc_26 (by omega)) (fun hc_26 => ?_)
          refine lv_aload_n hx hb dX8_who_40 rfl (lv_at hl 0 rfl) ?_
          refine lv_iload_n hx hb dX8_who_41 rfl (lv_at hl 2 rfl) ?_
          have hF9 := z_free (wc := kM cI cB cZ oM Mthrown_4 Mmany Mguest Mrow Mbars Mbar Mfresh Mtape Mtaped Mpos Mtoken MtokenAt Mvalue Mwrong MwrongAt MfaultKind MfaultPlace Mthing Morder Mone Mtwo Mbest Mcells Mgap Mwire Mstand Mruns Mminute Mhead Mplays Mrests Mwent Mout Mcame Mgone MlastOut) hw hA [0, 1, 2, 3, 4, 5, 6, 7, 8, 9, 10, 11, 12, 13, 14, 15, 16] rfl
          refine va_calli (va_runV (As := [.int (zI g_16)]) (rest := []) ⟨hx, hb, hml, hown, hts⟩ (c_X8_isOn l D cI cB cZ oM H_22.size Mthrown_4 Mmany Mguest Mrow Mbars Mbar Mfresh Mtape Mtaped Mpos Mtoken MtokenAt Mvalue Mwrong MwrongAt MfaultKind MfaultPlace Mthing Morder Mone Mtwo Mbest Mcells Mgap Mwire Mstand Mruns Mminute Mhead Mplays Mrests Mwent Mout Mcame Mgone MlastOut g_16 (by omega) (by omega) qMguest qMrow (by omega) qMbar qMfresh qMtape (by omega) (by omega) (by omega) (by omega) (by omega) (by omega) (by omega) (by omega) (by omega) (by omega) qMorder (by omega) (by omega) qMbest (by omega) (by omega) qMwire qMstand (by omega) (by omega) qMhead qMplays qMrests qMwent qMout qMcame qMgone (by omega) (by omega)) (cwV 1 hts gX8_who_X8_isOn rfl rfl rfl (by decide +kernel) ⟨Nat.le_of_ble_eq_true rfl, Nat.le_of_ble_eq_true rfl⟩) ⟨zPre_blind, va_recv hK hw.1 (ci := 8) (q0 := 0) rfl rfl, z_pre hK hw [0, 1, 2, 3, 4, 5, 6, 7, 8, 9, 10, 11, 12, 13, 14, 15, 16] (by decide) rfl⟩ rfl rfl hl.1 rfl (lv_room (Nat.le_of_ble_eq_true rfl)) dX8_who_42 ⟨Nat.zero_le _, Nat.zero_le _⟩) hw.2.2 (fun q _ h => hF9 q h) hF9 (fun r9 u9 t9 H_27 locs9 ht9 hvm9 hq9 hB9 hz9 hk9 hS9 => ?_)
          obtain ⟨r_28, rfl⟩ : ∃ z, z = u9 := ⟨_, rfl⟩
          try dsimp only at hq9 hB9
          obtain ⟨rfl, hq9⟩ := hq9
          have hq_29 := hq9
          have hw : HW D A s.heap (kM cI cB cZ oM Mthrown_4 Mmany Mguest Mrow Mbars Mbar Mfresh Mtape Mtaped Mpos Mtoken MtokenAt Mvalue Mwrong MwrongAt MfaultKind MfaultPlace Mthing Morder Mone Mtwo Mbest Mcells Mgap Mwire Mstand Mruns Mminute Mhead Mplays Mrests Mwent Mout Mcame Mgone MlastOut) H_27 locs9 := z_after (wc := kM cI cB cZ oM Mthrown_4 Mmany Mguest Mrow Mbars Mbar Mfresh Mtape Mtaped Mpos Mtoken MtokenAt Mvalue Mwrong MwrongAt MfaultKind MfaultPlace Mthing Morder Mone Mtwo Mbest Mcells Mgap Mwire Mstand Mruns Mminute Mhead Mplays Mrests Mwent Mout Mcame Mgone MlastOut) hw [0, 1, 2, 3, 4, 5, 6, 7, 8, 9, 10, 11, 12, 13, 14, 15, 16] [] rfl rfl (by decide) (by decide) hF9 hk9 ht9 hB9 hS9 [0, 1, 2, 3, 4, 5, 6, 7, 8, 9, 10, 11, 12, 13, 14, 15, 16] (by decide) rfl
          clear hF9 ht9 hvm9 hB9 hz9 hk9 hS9 hq9
          rcases hq_29 with ⟨hc_30, rfl⟩ | ⟨hc_30, rfl⟩
          · skip
            refine z_if_eq (tgt := 70) hx hb dX8_who_45 (by decide) (by omega) (fun hc_31 => absurd hc_31 (by omega)) (fun hc_31 => ?_)
            refine lv_aload_n hx hb dX8_who_48 rfl (lv_at hl 0 rfl) ?_
            refine z_iconst hx hb dX8_who_49 ?_
            refine lv_iload_n hx hb dX8_who_50 rfl (lv_at hl 2 rfl) ?_
            have hF9 := z_free (wc := kM cI cB cZ oM Mthrown_4 Mmany Mguest Mrow Mbars Mbar Mfresh Mtape Mtaped Mpos Mtoken MtokenAt Mvalue Mwrong MwrongAt MfaultKind MfaultPlace Mthing Morder Mone Mtwo Mbest Mcells Mgap Mwire Mstand Mruns Mminute Mhead Mplays Mrests Mwent Mout Mcame Mgone MlastOut) hw hA [0, 1, 2, 3, 4, 5, 6, 7, 8, 9, 10, 11, 12, 13, 14, 15, 16] rfl
            refine va_calli (va_runV (As := [.int (zI 0), .int (zI g_16)]) (rest := []) ⟨hx, hb, hml, hown, hts⟩ (c_X8_tail l D cI cB cZ oM H_27.size Mthrown_4 Mmany Mguest Mrow Mbars Mbar Mfresh Mtape Mtaped Mpos Mtoken MtokenAt Mvalue Mwrong MwrongAt MfaultKind MfaultPlace Mthing Morder Mone Mtwo Mbest Mcells Mgap Mwire Mstand Mruns Mminute Mhead Mplays Mrests Mwent Mout Mcame Mgone MlastOut 0 g_16 (by omega) (by omega) qMguest qMrow (by omega) qMbar qMfresh qMtape (by omega) (by omega) (by omega) (by omega) (by omega) (by omega) (by omega) (by omega) (by omega) (by omega) qMorder (by omega) (by omega) qMbest (by omega) (by omega) qMwire qMstand (by omega) (by omega) qMhead qMplays qMrests qMwent qMout qMcame qMgone (by omega) (by omega) (by omega)) (cwV 2 hts gX8_who_X8_tail rfl rfl rfl (by decide +kernel) ⟨Nat.le_of_ble_eq_true rfl, Nat.le_of_ble_eq_true rfl⟩) ⟨zPre_blind, va_recv hK hw.1 (ci := 8) (q0 := 0) rfl rfl, z_pre hK hw [0, 1, 2, 3, 4, 5, 6, 7, 8, 9, 10, 11, 12, 13, 14, 15, 16] (by decide) rfl⟩ rfl rfl hl.1 rfl (lv_room (Nat.le_of_ble_eq_true rfl)) dX8_who_51 ⟨Nat.zero_le _, Nat.zero_le _⟩) hw.2.2 (fun q _ h => hF9 q h) hF9 (fun r9 u9 t9 H_32 locs9 ht9 hvm9 hq9 hB9 hz9 hk9 hS9 => ?_)
            obtain ⟨r_33, rfl⟩ : ∃ z, z = u9 := ⟨_, rfl⟩
            try dsimp only at hq9 hB9
            obtain ⟨rfl, hq9⟩ := hq9
            obtain ⟨hq_34, hq_35⟩ := hq9
            have hw : HW D A s.heap (kM cI cB cZ oM Mthrown_4 Mmany Mguest Mrow Mbars Mbar Mfresh Mtape Mtaped Mpos Mtoken MtokenAt Mvalue Mwrong MwrongAt MfaultKind MfaultPlace Mthing Morder Mone Mtwo Mbest Mcells Mgap Mwire Mstand Mruns Mminute Mhead Mplays Mrests Mwent Mout Mcame Mgone MlastOut) H_32 locs9 := z_after (wc := kM cI cB cZ oM Mthrown_4 Mmany Mguest Mrow Mbars Mbar Mfresh Mtape Mtaped Mpos Mtoken MtokenAt Mvalue Mwrong MwrongAt MfaultKind MfaultPlace Mthing Morder Mone Mtwo Mbest Mcells Mgap Mwire Mstand Mruns Mminute Mhead Mplays Mrests Mwent Mout Mcame Mgone MlastOut) hw [0, 1, 2, 3, 4, 5, 6, 7, 8, 9, 10, 11, 12, 13, 14, 15, 16] [] rfl rfl (by decide) (by decide) hF9 hk9 ht9 hB9 hS9 [0, 1, 2, 3, 4, 5, 6, 7, 8, 9, 10, 11, 12, 13, 14, 15, 16] (by decide) rfl
            clear hF9 ht9 hvm9 hB9 hz9 hk9 hS9
            refine lv_iload_n hx hb dX8_who_54 rfl (lv_at hl 1 rfl) ?_
            refine z_icmp_gt (tgt := 70) hx hb dX8_who_55 (by decide) (by omega) (fun hc_36 => ?_) (fun hc_36 => ?_)
            · skip
              refine z_iinc (k := 2) (lv' := [(2, .int (zI (g_16 + 1))), (0, .ref (oM 0)), (1, .int (zI c))]) hx hb dX8_who_70 hl rfl (by decide) rfl (fun ls hl => ?_)
              refine lv_goto (tgt := 24) hx hb dX8_who_73 (by decide) ?_
              have hv_37 : 0 ≤ (g_16 + 1) ∧ (g_16 + 1) ≤ Mmany := by
                first | assumption | omega | grind
              have hv_38 : ∀ g, 0 ≤ g → g < (g_16 + 1) → ¬ ((Mout (g) = 0 ∧ 0 ≤ Mhead (g)) ∧ Mhead (0 + g) - Mguest (5 * g + 1) + 1 ≤ c ∧ c ≤ Mhead (g)) := by
                refine all_s (by assumption) ?_
                omega
              have hm_39 : (9 - (g_16 + 1)).toNat < (9 - g_16).toNat := by
                first | assumption | omega | grind
              exact ih_15 (g_16 + 1) _ _ _ ⟨hv_37, hv_38, hw, lv_sub hl [1, 2, 0] rfl⟩ hm_39
            · skip
              refine lv_aload_n hx hb dX8_who_58 rfl (lv_at hl 0 rfl) ?_
              refine va_get (D := D) (ci := 8) (v := .ref (oM 10)) (C := RX8) (T := TX8) (N := 36) hx hb hts hinX8 hown hK hw.1 0 rfl rfl 28 (by decide) (hts (.fieldLink RX8 47 "CarnivalRoadModel" "head" "[I") (by decide +kernel)) (fun _ h9 => h9) rfl dX8_who_59 ?_
              refine lv_iload_n hx hb dX8_who_62 rfl (lv_at hl 2 rfl) ?_
              have hi_40 : (0 : Int) ≤ g_16 ∧ g_16 < ((16 : Nat) : Int) := by
                first | assumption | omega | grind
              refine z_iald (n := 16) (f := Mhead) hx hb hK hw 10 rfl (by decide) hi_40 dX8_who_63 ?_
              have hq_41 : -1 ≤ Mhead g_16 ∧ Mhead g_16 ≤ 60 := qMhead g_16
              refine lv_iload_n hx hb dX8_who_64 rfl (lv_at hl 1 rfl) ?_
              refine z_icmp_lt (tgt := 70) hx hb dX8_who_65 (by decide) (by omega) (fun hc_42 => ?_) (fun hc_42 => ?_)
              · skip
                refine z_iinc (k := 2) (lv' := [(2, .int (zI (g_16 + 1))), (0, .ref (oM 0)), (1, .int (zI c))]) hx hb dX8_who_70 hl rfl (by decide) rfl (fun ls hl => ?_)
                refine lv_goto (tgt := 24) hx hb dX8_who_73 (by decide) ?_
                have hv_43 : 0 ≤ (g_16 + 1) ∧ (g_16 + 1) ≤ Mmany := by
                  first | assumption | omega | grind
                have hv_44 : ∀ g, 0 ≤ g → g < (g_16 + 1) → ¬ ((Mout (g) = 0 ∧ 0 ≤ Mhead (g)) ∧ Mhead (0 + g) - Mguest (5 * g + 1) + 1 ≤ c ∧ c ≤ Mhead (g)) := by
                  refine all_s (by assumption) ?_
                  omega
                have hm_45 : (9 - (g_16 + 1)).toNat < (9 - g_16).toNat := by
                  first | assumption | omega | grind
                exact ih_15 (g_16 + 1) _ _ _ ⟨hv_43, hv_44, hw, lv_sub hl [1, 2, 0] rfl⟩ hm_45
              · skip
                refine lv_iload_n hx hb dX8_who_68 rfl (lv_at hl 2 rfl) ?_
                have hv_46 : (0 : Int) ≤ Mthrown_4 ∧ Mthrown_4 ≤ 2 := by
                  first | assumption | omega | grind
                have hv_47 : (Mruns = 0 ∧ Mthrown_4 = 1) ∨ (Mruns = 1 ∧ Mthrown_4 = 0 ∧ ((g_16 = -1 ∧ (¬ (0 ≤ c ∧ c < Mcells) ∨ ∀ g, 0 ≤ g → g < Mmany → ¬ ((Mout (g) = 0 ∧ 0 ≤ Mhead (g)) ∧ Mhead (0 + g) - Mguest (5 * g + 1) + 1 ≤ c ∧ c ≤ Mhead (g)))) ∨ ((0 ≤ g_16 ∧ g_16 < Mmany) ∧ (0 ≤ c ∧ c < Mcells) ∧ ((Mout (g_16) = 0 ∧ 0 ≤ Mhead (g_16)) ∧ Mhead (0 + g_16) - Mguest (5 * g_16 + 1) + 1 ≤ c ∧ c ≤ Mhead (g_16))))) := by
                  exact Or.inr ⟨by omega, by omega, Or.inr ⟨by omega, by omega, by omega⟩⟩
                exact W.iret (v := zI g_16) hx hb hr (fun t9 ht hW => ⟨⟨zI g_16, (g_16, Mthrown_4), rfl, ⟨rfl, ⟨hv_46, hv_47⟩⟩, by subst hAe; exact z_end hK hw ht hW⟩, by subst hAe; exact hw.2.2.F ht⟩) (by subst hAe; exact hw.2.2.2.2) dX8_who_69
          · skip
            refine z_if_eq (tgt := 70) hx hb dX8_who_45 (by decide) (by omega) (fun hc_48 => ?_) (fun hc_48 => absurd hc_48 (by omega))
            refine z_iinc (k := 2) (lv' := [(2, .int (zI (g_16 + 1))), (0, .ref (oM 0)), (1, .int (zI c))]) hx hb dX8_who_70 hl rfl (by decide) rfl (fun ls hl => ?_)
            refine lv_goto (tgt := 24) hx hb dX8_who_73 (by decide) ?_
            have hv_49 : 0 ≤ (g_16 + 1) ∧ (g_16 + 1) ≤ Mmany := by
              first | assumption | omega | grind
            have hv_50 : ∀ g, 0 ≤ g → g < (g_16 + 1) → ¬ ((Mout (g) = 0 ∧ 0 ≤ Mhead (g)) ∧ Mhead (0 + g) - Mguest (5 * g + 1) + 1 ≤ c ∧ c ≤ Mhead (g)) := by
              refine all_s (by assumption) ?_
              omega
            have hm_51 : (9 - (g_16 + 1)).toNat < (9 - g_16).toNat := by
              first | assumption | omega | grind
            exact ih_15 (g_16 + 1) _ _ _ ⟨hv_49, hv_50, hw, lv_sub hl [1, 2, 0] rfl⟩ hm_51
        · skip
          refine z_if_eq (tgt := 76) hx hb dX8_who_37 (by decide) (by omega) (fun hc_52 => ?_) (fun hc_52 => absurd hc_52 (by omega))
          refine z_iconst hx hb dX8_who_76 ?_
          have hv_53 : (0 : Int) ≤ Mthrown_4 ∧ Mthrown_4 ≤ 2 := by
            first | assumption | omega | grind
          have hv_54 : (Mruns = 0 ∧ Mthrown_4 = 1) ∨ (Mruns = 1 ∧ Mthrown_4 = 0 ∧ ((((-1) : Int) = -1 ∧ (¬ (0 ≤ c ∧ c < Mcells) ∨ ∀ g, 0 ≤ g → g < Mmany → ¬ ((Mout (g) = 0 ∧ 0 ≤ Mhead (g)) ∧ Mhead (0 + g) - Mguest (5 * g + 1) + 1 ≤ c ∧ c ≤ Mhead (g)))) ∨ ((0 ≤ ((-1) : Int) ∧ ((-1) : Int) < Mmany) ∧ (0 ≤ c ∧ c < Mcells) ∧ ((Mout (((-1) : Int)) = 0 ∧ 0 ≤ Mhead (((-1) : Int))) ∧ Mhead (0 + ((-1) : Int)) - Mguest (5 * ((-1) : Int) + 1) + 1 ≤ c ∧ c ≤ Mhead (((-1) : Int)))))) := by
            first | exact Or.inr ⟨by omega, by omega, Or.inl ⟨rfl, Or.inl (by omega)⟩⟩ | exact Or.inr ⟨by omega, by omega, Or.inl ⟨rfl, Or.inr (all_le (by assumption) (by omega))⟩⟩
          exact W.iret (v := zI (-1)) hx hb hr (fun t9 ht hW => ⟨⟨zI (-1), ((-1), Mthrown_4), rfl, ⟨rfl, ⟨hv_53, hv_54⟩⟩, by subst hAe; exact z_end hK hw ht hW⟩, by subst hAe; exact hw.2.2.F ht⟩) (by subst hAe; exact hw.2.2.2.2) dX8_who_77
  · skip
    refine z_iconst hx hb dX8_who_8 ?_
    refine lv_goto (tgt := 13) hx hb dX8_who_9 (by decide) ?_
    refine z_iconst hx hb dX8_who_13 ?_
    have hF9 := z_free (wc := kM cI cB cZ oM Mthrown Mmany Mguest Mrow Mbars Mbar Mfresh Mtape Mtaped Mpos Mtoken MtokenAt Mvalue Mwrong MwrongAt MfaultKind MfaultPlace Mthing Morder Mone Mtwo Mbest Mcells Mgap Mwire Mstand Mruns Mminute Mhead Mplays Mrests Mwent Mout Mcame Mgone MlastOut) hw hA [0, 1, 2, 3, 4, 5, 6, 7, 8, 9, 10, 11, 12, 13, 14, 15, 16] rfl
    refine va_calli (va_runV (As := [.int (zI 1), .int (zI 0)]) (rest := []) ⟨hx, hb, hml, hown, hts⟩ (c_X8_fails l D cI cB cZ oM s.heap.size Mthrown Mmany Mguest Mrow Mbars Mbar Mfresh Mtape Mtaped Mpos Mtoken MtokenAt Mvalue Mwrong MwrongAt MfaultKind MfaultPlace Mthing Morder Mone Mtwo Mbest Mcells Mgap Mwire Mstand Mruns Mminute Mhead Mplays Mrests Mwent Mout Mcame Mgone MlastOut 1 0 (by omega) (by omega) qMguest qMrow (by omega) qMbar qMfresh qMtape (by omega) (by omega) (by omega) (by omega) (by omega) (by omega) (by omega) (by omega) (by omega) (by omega) qMorder (by omega) (by omega) qMbest (by omega) (by omega) qMwire qMstand (by omega) (by omega) qMhead qMplays qMrests qMwent qMout qMcame qMgone (by omega) (by omega) (by omega)) (cwV 2 hts gX8_who_X8_fails rfl rfl rfl (by decide +kernel) ⟨Nat.le_of_ble_eq_true rfl, Nat.le_of_ble_eq_true rfl⟩) ⟨zPre_blind, va_recv hK hw.1 (ci := 8) (q0 := 0) rfl rfl, z_pre hK hw [0, 1, 2, 3, 4, 5, 6, 7, 8, 9, 10, 11, 12, 13, 14, 15, 16] (by decide) rfl⟩ rfl rfl hl.1 rfl (lv_room (Nat.le_of_ble_eq_true rfl)) dX8_who_14 ⟨Nat.zero_le _, Nat.zero_le _⟩) hw.2.2 (fun q _ h => hF9 q h) hF9 (fun r9 u9 t9 H_55 locs9 ht9 hvm9 hq9 hB9 hz9 hk9 hS9 => ?_)
    obtain ⟨r_56, Mthrown_57⟩ := u9
    try dsimp only at hq9 hB9
    obtain ⟨rfl, hq9⟩ := hq9
    obtain ⟨hq_58, hq_59, hq_60⟩ := hq9
    have hw : HW D A s.heap (kM cI cB cZ oM Mthrown_57 Mmany Mguest Mrow Mbars Mbar Mfresh Mtape Mtaped Mpos Mtoken MtokenAt Mvalue Mwrong MwrongAt MfaultKind MfaultPlace Mthing Morder Mone Mtwo Mbest Mcells Mgap Mwire Mstand Mruns Mminute Mhead Mplays Mrests Mwent Mout Mcame Mgone MlastOut) H_55 locs9 := z_after (wc := kM cI cB cZ oM Mthrown Mmany Mguest Mrow Mbars Mbar Mfresh Mtape Mtaped Mpos Mtoken MtokenAt Mvalue Mwrong MwrongAt MfaultKind MfaultPlace Mthing Morder Mone Mtwo Mbest Mcells Mgap Mwire Mstand Mruns Mminute Mhead Mplays Mrests Mwent Mout Mcame Mgone MlastOut) hw [0, 1, 2, 3, 4, 5, 6, 7, 8, 9, 10, 11, 12, 13, 14, 15, 16] [] rfl rfl (by decide) (by decide) hF9 hk9 ht9 hB9 hS9 [0, 1, 2, 3, 4, 5, 6, 7, 8, 9, 10, 11, 12, 13, 14, 15, 16] (by decide) rfl
    clear hF9 ht9 hvm9 hB9 hz9 hk9 hS9
    rcases hq_59 with ⟨hc_61, rfl⟩ | ⟨hc_61, rfl⟩
    · skip
      refine z_if_eq (tgt := 22) hx hb dX8_who_17 (by decide) (by omega) (fun hc_62 => absurd hc_62 (by omega)) (fun hc_62 => ?_)
      refine z_iconst hx hb dX8_who_20 ?_
      have hv_63 : (0 : Int) ≤ Mthrown_57 ∧ Mthrown_57 ≤ 2 := by
        first | assumption | omega | grind
      have hv_64 : (Mruns = 0 ∧ Mthrown_57 = 1) ∨ (Mruns = 1 ∧ Mthrown_57 = 0 ∧ (((0 : Int) = -1 ∧ (¬ (0 ≤ c ∧ c < Mcells) ∨ ∀ g, 0 ≤ g → g < Mmany → ¬ ((Mout (g) = 0 ∧ 0 ≤ Mhead (g)) ∧ Mhead (0 + g) - Mguest (5 * g + 1) + 1 ≤ c ∧ c ≤ Mhead (g)))) ∨ ((0 ≤ (0 : Int) ∧ (0 : Int) < Mmany) ∧ (0 ≤ c ∧ c < Mcells) ∧ ((Mout ((0 : Int)) = 0 ∧ 0 ≤ Mhead ((0 : Int))) ∧ Mhead (0 + (0 : Int)) - Mguest (5 * (0 : Int) + 1) + 1 ≤ c ∧ c ≤ Mhead ((0 : Int)))))) := by
        exact Or.inl ⟨by omega, by omega⟩
      exact W.iret (v := zI 0) hx hb hr (fun t9 ht hW => ⟨⟨zI 0, (0, Mthrown_57), rfl, ⟨rfl, ⟨hv_63, hv_64⟩⟩, by subst hAe; exact z_end hK hw ht hW⟩, by subst hAe; exact hw.2.2.F ht⟩) (by subst hAe; exact hw.2.2.2.2) dX8_who_21
    · skip
      refine z_if_eq (tgt := 22) hx hb dX8_who_17 (by decide) (by omega) (fun hc_65 => ?_) (fun hc_65 => absurd hc_65 (by omega))
      refine z_iconst hx hb dX8_who_22 ?_
      refine lv_istore_n (lv' := [(2, .int (zI 0)), (0, .ref (oM 0)), (1, .int (zI c))]) hx hb dX8_who_23 rfl hl (by decide) rfl (fun ls hl => ?_)
      have hv_66 : 0 ≤ (0 : Int) ∧ (0 : Int) ≤ Mmany := by
        first | assumption | omega | grind
      have hv_67 : ∀ g, 0 ≤ g → g < (0 : Int) → ¬ ((Mout (g) = 0 ∧ 0 ≤ Mhead (g)) ∧ Mhead (0 + g) - Mguest (5 * g + 1) + 1 ≤ c ∧ c ≤ Mhead (g)) := by
        exact all_0
      refine z_loop (σ := Int) (μ := fun x9 => (9 - x9).toNat) (I := fun x9 H locs ls => (0 ≤ x9 ∧ x9 ≤ Mmany) ∧ (∀ g, 0 ≤ g → g < x9 → ¬ ((Mout (g) = 0 ∧ 0 ≤ Mhead (g)) ∧ Mhead (0 + g) - Mguest (5 * g + 1) + 1 ≤ c ∧ c ≤ Mhead (g))) ∧ HW D A s.heap (kM cI cB cZ oM Mthrown_57 Mmany Mguest Mrow Mbars Mbar Mfresh Mtape Mtaped Mpos Mtoken MtokenAt Mvalue Mwrong MwrongAt MfaultKind MfaultPlace Mthing Morder Mone Mtwo Mbest Mcells Mgap Mwire Mstand Mruns Mminute Mhead Mplays Mrests Mwent Mout Mcame Mgone MlastOut) H locs ∧ lv_has ls 3 [(0, .ref (oM 0)), (1, .int (zI c)), (2, .int (zI x9))]) 0 ⟨hv_66, hv_67, hw, lv_sub hl [1, 2, 0] rfl⟩ ?_
      clear hw hl
      intro g_69 H locs ls hI ih_68
      try dsimp only at hI
      obtain ⟨hI_70, hI_71, hw, hl⟩ := hI
      refine lv_iload_n hx hb dX8_who_24 rfl (lv_at hl 2 rfl) ?_
      refine lv_aload_n hx hb dX8_who_25 rfl (lv_at hl 0 rfl) ?_
      refine va_get (D := D) (ci := 8) (v := .int (zI Mmany)) (C := RX8) (T := TX8) (N := 36) hx hb hts hinX8 hown hK hw.1 0 rfl rfl 1 (by decide) (hts (.fieldLink RX8 72 "CarnivalRoadModel" "many" "I") (by decide +kernel)) (fun _ h9 => h9) rfl dX8_who_26 ?_
      refine z_icmp_ge (tgt := 76) hx hb dX8_who_29 (by decide) (by omega) (fun hc_72 => ?_) (fun hc_72 => ?_)
      · skip
        refine z_iconst hx hb dX8_who_76 ?_
        have hv_73 : (0 : Int) ≤ Mthrown_57 ∧ Mthrown_57 ≤ 2 := by
          first | assumption | omega | grind
        have hv_74 : (Mruns = 0 ∧ Mthrown_57 = 1) ∨ (Mruns = 1 ∧ Mthrown_57 = 0 ∧ ((((-1) : Int) = -1 ∧ (¬ (0 ≤ c ∧ c < Mcells) ∨ ∀ g, 0 ≤ g → g < Mmany → ¬ ((Mout (g) = 0 ∧ 0 ≤ Mhead (g)) ∧ Mhead (0 + g) - Mguest (5 * g + 1) + 1 ≤ c ∧ c ≤ Mhead (g)))) ∨ ((0 ≤ ((-1) : Int) ∧ ((-1) : Int) < Mmany) ∧ (0 ≤ c ∧ c < Mcells) ∧ ((Mout (((-1) : Int)) = 0 ∧ 0 ≤ Mhead (((-1) : Int))) ∧ Mhead (0 + ((-1) : Int)) - Mguest (5 * ((-1) : Int) + 1) + 1 ≤ c ∧ c ≤ Mhead (((-1) : Int)))))) := by
          first | exact Or.inr ⟨by omega, by omega, Or.inl ⟨rfl, Or.inl (by omega)⟩⟩ | exact Or.inr ⟨by omega, by omega, Or.inl ⟨rfl, Or.inr (all_le (by assumption) (by omega))⟩⟩
        exact W.iret (v := zI (-1)) hx hb hr (fun t9 ht hW => ⟨⟨zI (-1), ((-1), Mthrown_57), rfl, ⟨rfl, ⟨hv_73, hv_74⟩⟩, by subst hAe; exact z_end hK hw ht hW⟩, by subst hAe; exact hw.2.2.F ht⟩) (by subst hAe; exact hw.2.2.2.2) dX8_who_77
      · skip
        refine lv_aload_n hx hb dX8_who_32 rfl (lv_at hl 0 rfl) ?_
        refine lv_iload_n hx hb dX8_who_33 rfl (lv_at hl 1 rfl) ?_
        have hF9 := z_free (wc := kM cI cB cZ oM Mthrown_57 Mmany Mguest Mrow Mbars Mbar Mfresh Mtape Mtaped Mpos Mtoken MtokenAt Mvalue Mwrong MwrongAt MfaultKind MfaultPlace Mthing Morder Mone Mtwo Mbest Mcells Mgap Mwire Mstand Mruns Mminute Mhead Mplays Mrests Mwent Mout Mcame Mgone MlastOut) hw hA [0, 1, 2, 3, 4, 5, 6, 7, 8, 9, 10, 11, 12, 13, 14, 15, 16] rfl
        refine va_calli (va_runV (As := [.int (zI c)]) (rest := []) ⟨hx, hb, hml, hown, hts⟩ (c_X8_isCell l D cI cB cZ oM H.size Mthrown_57 Mmany Mguest Mrow Mbars Mbar Mfresh Mtape Mtaped Mpos Mtoken MtokenAt Mvalue Mwrong MwrongAt MfaultKind MfaultPlace Mthing Morder Mone Mtwo Mbest Mcells Mgap Mwire Mstand Mruns Mminute Mhead Mplays Mrests Mwent Mout Mcame Mgone MlastOut c (by omega) (by omega) qMguest qMrow (by omega) qMbar qMfresh qMtape (by omega) (by omega) (by omega) (by omega) (by omega) (by omega) (by omega) (by omega) (by omega) (by omega) qMorder (by omega) (by omega) qMbest (by omega) (by omega) qMwire qMstand (by omega) (by omega) qMhead qMplays qMrests qMwent qMout qMcame qMgone (by omega) (by omega)) (cwV 1 hts gX8_who_X8_isCell rfl rfl rfl (by decide +kernel) ⟨Nat.le_of_ble_eq_true rfl, Nat.le_of_ble_eq_true rfl⟩) ⟨zPre_blind, va_recv hK hw.1 (ci := 8) (q0 := 0) rfl rfl, z_pre hK hw [0, 1, 2, 3, 4, 5, 6, 7, 8, 9, 10, 11, 12, 13, 14, 15, 16] (by decide) rfl⟩ rfl rfl hl.1 rfl (lv_room (Nat.le_of_ble_eq_true rfl)) dX8_who_34 ⟨Nat.zero_le _, Nat.zero_le _⟩) hw.2.2 (fun q _ h => hF9 q h) hF9 (fun r9 u9 t9 H_75 locs9 ht9 hvm9 hq9 hB9 hz9 hk9 hS9 => ?_)
        obtain ⟨r_76, rfl⟩ : ∃ z, z = u9 := ⟨_, rfl⟩
        try dsimp only at hq9 hB9
        obtain ⟨rfl, hq9⟩ := hq9
        have hq_77 := hq9
        have hw : HW D A s.heap (kM cI cB cZ oM Mthrown_57 Mmany Mguest Mrow Mbars Mbar Mfresh Mtape Mtaped Mpos Mtoken MtokenAt Mvalue Mwrong MwrongAt MfaultKind MfaultPlace Mthing Morder Mone Mtwo Mbest Mcells Mgap Mwire Mstand Mruns Mminute Mhead Mplays Mrests Mwent Mout Mcame Mgone MlastOut) H_75 locs9 := z_after (wc := kM cI cB cZ oM Mthrown_57 Mmany Mguest Mrow Mbars Mbar Mfresh Mtape Mtaped Mpos Mtoken MtokenAt Mvalue Mwrong MwrongAt MfaultKind MfaultPlace Mthing Morder Mone Mtwo Mbest Mcells Mgap Mwire Mstand Mruns Mminute Mhead Mplays Mrests Mwent Mout Mcame Mgone MlastOut) hw [0, 1, 2, 3, 4, 5, 6, 7, 8, 9, 10, 11, 12, 13, 14, 15, 16] [] rfl rfl (by decide) (by decide) hF9 hk9 ht9 hB9 hS9 [0, 1, 2, 3, 4, 5, 6, 7, 8, 9, 10, 11, 12, 13, 14, 15, 16] (by decide) rfl
        clear hF9 ht9 hvm9 hB9 hz9 hk9 hS9 hq9
        rcases hq_77 with ⟨hc_78, rfl⟩ | ⟨hc_78, rfl⟩
        · skip
          refine z_if_eq (tgt := 76) hx hb dX8_who_37 (by decide) (by omega) (fun hc_79 => absurd hc_79 (by omega)) (fun hc_79 => ?_)
          refine lv_aload_n hx hb dX8_who_40 rfl (lv_at hl 0 rfl) ?_
          refine lv_iload_n hx hb dX8_who_41 rfl (lv_at hl 2 rfl) ?_
          have hF9 := z_free (wc := kM cI cB cZ oM Mthrown_57 Mmany Mguest Mrow Mbars Mbar Mfresh Mtape Mtaped Mpos Mtoken MtokenAt Mvalue Mwrong MwrongAt MfaultKind MfaultPlace Mthing Morder Mone Mtwo Mbest Mcells Mgap Mwire Mstand Mruns Mminute Mhead Mplays Mrests Mwent Mout Mcame Mgone MlastOut) hw hA [0, 1, 2, 3, 4, 5, 6, 7, 8, 9, 10, 11, 12, 13, 14, 15, 16] rfl
          refine va_calli (va_runV (As := [.int (zI g_69)]) (rest := []) ⟨hx, hb, hml, hown, hts⟩ (c_X8_isOn l D cI cB cZ oM H_75.size Mthrown_57 Mmany Mguest Mrow Mbars Mbar Mfresh Mtape Mtaped Mpos Mtoken MtokenAt Mvalue Mwrong MwrongAt MfaultKind MfaultPlace Mthing Morder Mone Mtwo Mbest Mcells Mgap Mwire Mstand Mruns Mminute Mhead Mplays Mrests Mwent Mout Mcame Mgone MlastOut g_69 (by omega) (by omega) qMguest qMrow (by omega) qMbar qMfresh qMtape (by omega) (by omega) (by omega) (by omega) (by omega) (by omega) (by omega) (by omega) (by omega) (by omega) qMorder (by omega) (by omega) qMbest (by omega) (by omega) qMwire qMstand (by omega) (by omega) qMhead qMplays qMrests qMwent qMout qMcame qMgone (by omega) (by omega)) (cwV 1 hts gX8_who_X8_isOn rfl rfl rfl (by decide +kernel) ⟨Nat.le_of_ble_eq_true rfl, Nat.le_of_ble_eq_true rfl⟩) ⟨zPre_blind, va_recv hK hw.1 (ci := 8) (q0 := 0) rfl rfl, z_pre hK hw [0, 1, 2, 3, 4, 5, 6, 7, 8, 9, 10, 11, 12, 13, 14, 15, 16] (by decide) rfl⟩ rfl rfl hl.1 rfl (lv_room (Nat.le_of_ble_eq_true rfl)) dX8_who_42 ⟨Nat.zero_le _, Nat.zero_le _⟩) hw.2.2 (fun q _ h => hF9 q h) hF9 (fun r9 u9 t9 H_80 locs9 ht9 hvm9 hq9 hB9 hz9 hk9 hS9 => ?_)
          obtain ⟨r_81, rfl⟩ : ∃ z, z = u9 := ⟨_, rfl⟩
          try dsimp only at hq9 hB9
          obtain ⟨rfl, hq9⟩ := hq9
          have hq_82 := hq9
          have hw : HW D A s.heap (kM cI cB cZ oM Mthrown_57 Mmany Mguest Mrow Mbars Mbar Mfresh Mtape Mtaped Mpos Mtoken MtokenAt Mvalue Mwrong MwrongAt MfaultKind MfaultPlace Mthing Morder Mone Mtwo Mbest Mcells Mgap Mwire Mstand Mruns Mminute Mhead Mplays Mrests Mwent Mout Mcame Mgone MlastOut) H_80 locs9 := z_after (wc := kM cI cB cZ oM Mthrown_57 Mmany Mguest Mrow Mbars Mbar Mfresh Mtape Mtaped Mpos Mtoken MtokenAt Mvalue Mwrong MwrongAt MfaultKind MfaultPlace Mthing Morder Mone Mtwo Mbest Mcells Mgap Mwire Mstand Mruns Mminute Mhead Mplays Mrests Mwent Mout Mcame Mgone MlastOut) hw [0, 1, 2, 3, 4, 5, 6, 7, 8, 9, 10, 11, 12, 13, 14, 15, 16] [] rfl rfl (by decide) (by decide) hF9 hk9 ht9 hB9 hS9 [0, 1, 2, 3, 4, 5, 6, 7, 8, 9, 10, 11, 12, 13, 14, 15, 16] (by decide) rfl
          clear hF9 ht9 hvm9 hB9 hz9 hk9 hS9 hq9
          rcases hq_82 with ⟨hc_83, rfl⟩ | ⟨hc_83, rfl⟩
          · skip
            refine z_if_eq (tgt := 70) hx hb dX8_who_45 (by decide) (by omega) (fun hc_84 => absurd hc_84 (by omega)) (fun hc_84 => ?_)
            refine lv_aload_n hx hb dX8_who_48 rfl (lv_at hl 0 rfl) ?_
            refine z_iconst hx hb dX8_who_49 ?_
            refine lv_iload_n hx hb dX8_who_50 rfl (lv_at hl 2 rfl) ?_
            have hF9 := z_free (wc := kM cI cB cZ oM Mthrown_57 Mmany Mguest Mrow Mbars Mbar Mfresh Mtape Mtaped Mpos Mtoken MtokenAt Mvalue Mwrong MwrongAt MfaultKind MfaultPlace Mthing Morder Mone Mtwo Mbest Mcells Mgap Mwire Mstand Mruns Mminute Mhead Mplays Mrests Mwent Mout Mcame Mgone MlastOut) hw hA [0, 1, 2, 3, 4, 5, 6, 7, 8, 9, 10, 11, 12, 13, 14, 15, 16] rfl
            refine va_calli (va_runV (As := [.int (zI 0), .int (zI g_69)]) (rest := []) ⟨hx, hb, hml, hown, hts⟩ (c_X8_tail l D cI cB cZ oM H_80.size Mthrown_57 Mmany Mguest Mrow Mbars Mbar Mfresh Mtape Mtaped Mpos Mtoken MtokenAt Mvalue Mwrong MwrongAt MfaultKind MfaultPlace Mthing Morder Mone Mtwo Mbest Mcells Mgap Mwire Mstand Mruns Mminute Mhead Mplays Mrests Mwent Mout Mcame Mgone MlastOut 0 g_69 (by omega) (by omega) qMguest qMrow (by omega) qMbar qMfresh qMtape (by omega) (by omega) (by omega) (by omega) (by omega) (by omega) (by omega) (by omega) (by omega) (by omega) qMorder (by omega) (by omega) qMbest (by omega) (by omega) qMwire qMstand (by omega) (by omega) qMhead qMplays qMrests qMwent qMout qMcame qMgone (by omega) (by omega) (by omega)) (cwV 2 hts gX8_who_X8_tail rfl rfl rfl (by decide +kernel) ⟨Nat.le_of_ble_eq_true rfl, Nat.le_of_ble_eq_true rfl⟩) ⟨zPre_blind, va_recv hK hw.1 (ci := 8) (q0 := 0) rfl rfl, z_pre hK hw [0, 1, 2, 3, 4, 5, 6, 7, 8, 9, 10, 11, 12, 13, 14, 15, 16] (by decide) rfl⟩ rfl rfl hl.1 rfl (lv_room (Nat.le_of_ble_eq_true rfl)) dX8_who_51 ⟨Nat.zero_le _, Nat.zero_le _⟩) hw.2.2 (fun q _ h => hF9 q h) hF9 (fun r9 u9 t9 H_85 locs9 ht9 hvm9 hq9 hB9 hz9 hk9 hS9 => ?_)
            obtain ⟨r_86, rfl⟩ : ∃ z, z = u9 := ⟨_, rfl⟩
            try dsimp only at hq9 hB9
            obtain ⟨rfl, hq9⟩ := hq9
            obtain ⟨hq_87, hq_88⟩ := hq9
            have hw : HW D A s.heap (kM cI cB cZ oM Mthrown_57 Mmany Mguest Mrow Mbars Mbar Mfresh Mtape Mtaped Mpos Mtoken MtokenAt Mvalue Mwrong MwrongAt MfaultKind MfaultPlace Mthing Morder Mone Mtwo Mbest Mcells Mgap Mwire Mstand Mruns Mminute Mhead Mplays Mrests Mwent Mout Mcame Mgone MlastOut) H_85 locs9 := z_after (wc := kM cI cB cZ oM Mthrown_57 Mmany Mguest Mrow Mbars Mbar Mfresh Mtape Mtaped Mpos Mtoken MtokenAt Mvalue Mwrong MwrongAt MfaultKind MfaultPlace Mthing Morder Mone Mtwo Mbest Mcells Mgap Mwire Mstand Mruns Mminute Mhead Mplays Mrests Mwent Mout Mcame Mgone MlastOut) hw [0, 1, 2, 3, 4, 5, 6, 7, 8, 9, 10, 11, 12, 13, 14, 15, 16] [] rfl rfl (by decide) (by decide) hF9 hk9 ht9 hB9 hS9 [0, 1, 2, 3, 4, 5, 6, 7, 8, 9, 10, 11, 12, 13, 14, 15, 16] (by decide) rfl
            clear hF9 ht9 hvm9 hB9 hz9 hk9 hS9
            refine lv_iload_n hx hb dX8_who_54 rfl (lv_at hl 1 rfl) ?_
            refine z_icmp_gt (tgt := 70) hx hb dX8_who_55 (by decide) (by omega) (fun hc_89 => ?_) (fun hc_89 => ?_)
            · skip
              refine z_iinc (k := 2) (lv' := [(2, .int (zI (g_69 + 1))), (0, .ref (oM 0)), (1, .int (zI c))]) hx hb dX8_who_70 hl rfl (by decide) rfl (fun ls hl => ?_)
              refine lv_goto (tgt := 24) hx hb dX8_who_73 (by decide) ?_
              have hv_90 : 0 ≤ (g_69 + 1) ∧ (g_69 + 1) ≤ Mmany := by
                first | assumption | omega | grind
              have hv_91 : ∀ g, 0 ≤ g → g < (g_69 + 1) → ¬ ((Mout (g) = 0 ∧ 0 ≤ Mhead (g)) ∧ Mhead (0 + g) - Mguest (5 * g + 1) + 1 ≤ c ∧ c ≤ Mhead (g)) := by
                refine all_s (by assumption) ?_
                omega
              have hm_92 : (9 - (g_69 + 1)).toNat < (9 - g_69).toNat := by
                first | assumption | omega | grind
              exact ih_68 (g_69 + 1) _ _ _ ⟨hv_90, hv_91, hw, lv_sub hl [1, 2, 0] rfl⟩ hm_92
            · skip
              refine lv_aload_n hx hb dX8_who_58 rfl (lv_at hl 0 rfl) ?_
              refine va_get (D := D) (ci := 8) (v := .ref (oM 10)) (C := RX8) (T := TX8) (N := 36) hx hb hts hinX8 hown hK hw.1 0 rfl rfl 28 (by decide) (hts (.fieldLink RX8 47 "CarnivalRoadModel" "head" "[I") (by decide +kernel)) (fun _ h9 => h9) rfl dX8_who_59 ?_
              refine lv_iload_n hx hb dX8_who_62 rfl (lv_at hl 2 rfl) ?_
              have hi_93 : (0 : Int) ≤ g_69 ∧ g_69 < ((16 : Nat) : Int) := by
                first | assumption | omega | grind
              refine z_iald (n := 16) (f := Mhead) hx hb hK hw 10 rfl (by decide) hi_93 dX8_who_63 ?_
              have hq_94 : -1 ≤ Mhead g_69 ∧ Mhead g_69 ≤ 60 := qMhead g_69
              refine lv_iload_n hx hb dX8_who_64 rfl (lv_at hl 1 rfl) ?_
              refine z_icmp_lt (tgt := 70) hx hb dX8_who_65 (by decide) (by omega) (fun hc_95 => ?_) (fun hc_95 => ?_)
              · skip
                refine z_iinc (k := 2) (lv' := [(2, .int (zI (g_69 + 1))), (0, .ref (oM 0)), (1, .int (zI c))]) hx hb dX8_who_70 hl rfl (by decide) rfl (fun ls hl => ?_)
                refine lv_goto (tgt := 24) hx hb dX8_who_73 (by decide) ?_
                have hv_96 : 0 ≤ (g_69 + 1) ∧ (g_69 + 1) ≤ Mmany := by
                  first | assumption | omega | grind
                have hv_97 : ∀ g, 0 ≤ g → g < (g_69 + 1) → ¬ ((Mout (g) = 0 ∧ 0 ≤ Mhead (g)) ∧ Mhead (0 + g) - Mguest (5 * g + 1) + 1 ≤ c ∧ c ≤ Mhead (g)) := by
                  refine all_s (by assumption) ?_
                  omega
                have hm_98 : (9 - (g_69 + 1)).toNat < (9 - g_69).toNat := by
                  first | assumption | omega | grind
                exact ih_68 (g_69 + 1) _ _ _ ⟨hv_96, hv_97, hw, lv_sub hl [1, 2, 0] rfl⟩ hm_98
              · skip
                refine lv_iload_n hx hb dX8_who_68 rfl (lv_at hl 2 rfl) ?_
                have hv_99 : (0 : Int) ≤ Mthrown_57 ∧ Mthrown_57 ≤ 2 := by
                  first | assumption | omega | grind
                have hv_100 : (Mruns = 0 ∧ Mthrown_57 = 1) ∨ (Mruns = 1 ∧ Mthrown_57 = 0 ∧ ((g_69 = -1 ∧ (¬ (0 ≤ c ∧ c < Mcells) ∨ ∀ g, 0 ≤ g → g < Mmany → ¬ ((Mout (g) = 0 ∧ 0 ≤ Mhead (g)) ∧ Mhead (0 + g) - Mguest (5 * g + 1) + 1 ≤ c ∧ c ≤ Mhead (g)))) ∨ ((0 ≤ g_69 ∧ g_69 < Mmany) ∧ (0 ≤ c ∧ c < Mcells) ∧ ((Mout (g_69) = 0 ∧ 0 ≤ Mhead (g_69)) ∧ Mhead (0 + g_69) - Mguest (5 * g_69 + 1) + 1 ≤ c ∧ c ≤ Mhead (g_69))))) := by
                  exact Or.inr ⟨by omega, by omega, Or.inr ⟨by omega, by omega, by omega⟩⟩
                exact W.iret (v := zI g_69) hx hb hr (fun t9 ht hW => ⟨⟨zI g_69, (g_69, Mthrown_57), rfl, ⟨rfl, ⟨hv_99, hv_100⟩⟩, by subst hAe; exact z_end hK hw ht hW⟩, by subst hAe; exact hw.2.2.F ht⟩) (by subst hAe; exact hw.2.2.2.2) dX8_who_69
          · skip
            refine z_if_eq (tgt := 70) hx hb dX8_who_45 (by decide) (by omega) (fun hc_101 => ?_) (fun hc_101 => absurd hc_101 (by omega))
            refine z_iinc (k := 2) (lv' := [(2, .int (zI (g_69 + 1))), (0, .ref (oM 0)), (1, .int (zI c))]) hx hb dX8_who_70 hl rfl (by decide) rfl (fun ls hl => ?_)
            refine lv_goto (tgt := 24) hx hb dX8_who_73 (by decide) ?_
            have hv_102 : 0 ≤ (g_69 + 1) ∧ (g_69 + 1) ≤ Mmany := by
              first | assumption | omega | grind
            have hv_103 : ∀ g, 0 ≤ g → g < (g_69 + 1) → ¬ ((Mout (g) = 0 ∧ 0 ≤ Mhead (g)) ∧ Mhead (0 + g) - Mguest (5 * g + 1) + 1 ≤ c ∧ c ≤ Mhead (g)) := by
              refine all_s (by assumption) ?_
              omega
            have hm_104 : (9 - (g_69 + 1)).toNat < (9 - g_69).toNat := by
              first | assumption | omega | grind
            exact ih_68 (g_69 + 1) _ _ _ ⟨hv_102, hv_103, hw, lv_sub hl [1, 2, 0] rfl⟩ hm_104
        · skip
          refine z_if_eq (tgt := 76) hx hb dX8_who_37 (by decide) (by omega) (fun hc_105 => ?_) (fun hc_105 => absurd hc_105 (by omega))
          refine z_iconst hx hb dX8_who_76 ?_
          have hv_106 : (0 : Int) ≤ Mthrown_57 ∧ Mthrown_57 ≤ 2 := by
            first | assumption | omega | grind
          have hv_107 : (Mruns = 0 ∧ Mthrown_57 = 1) ∨ (Mruns = 1 ∧ Mthrown_57 = 0 ∧ ((((-1) : Int) = -1 ∧ (¬ (0 ≤ c ∧ c < Mcells) ∨ ∀ g, 0 ≤ g → g < Mmany → ¬ ((Mout (g) = 0 ∧ 0 ≤ Mhead (g)) ∧ Mhead (0 + g) - Mguest (5 * g + 1) + 1 ≤ c ∧ c ≤ Mhead (g)))) ∨ ((0 ≤ ((-1) : Int) ∧ ((-1) : Int) < Mmany) ∧ (0 ≤ c ∧ c < Mcells) ∧ ((Mout (((-1) : Int)) = 0 ∧ 0 ≤ Mhead (((-1) : Int))) ∧ Mhead (0 + ((-1) : Int)) - Mguest (5 * ((-1) : Int) + 1) + 1 ≤ c ∧ c ≤ Mhead (((-1) : Int)))))) := by
            first | exact Or.inr ⟨by omega, by omega, Or.inl ⟨rfl, Or.inl (by omega)⟩⟩ | exact Or.inr ⟨by omega, by omega, Or.inl ⟨rfl, Or.inr (all_le (by assumption) (by omega))⟩⟩
          exact W.iret (v := zI (-1)) hx hb hr (fun t9 ht hW => ⟨⟨zI (-1), ((-1), Mthrown_57), rfl, ⟨rfl, ⟨hv_106, hv_107⟩⟩, by subst hAe; exact z_end hK hw ht hW⟩, by subst hAe; exact hw.2.2.F ht⟩) (by subst hAe; exact hw.2.2.2.2) dX8_who_77
