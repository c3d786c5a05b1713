set_option maxRecDepth 100000 in
set_option maxHeartbeats 4000000 in
theorem c_X8_at (l : Launch) (D : va_G) (cI cB cZ : ClassId) (oM : Nat → Nat) (sz : Nat) (Mthrown : Int) (Mmany : Int) (Mguest : Int → Int) (Mrow : Int → Int) (Mbars : Int) (Mbar : Int → Int) (Mfresh : Int → Int) (Mtape : Int → Int) (Mtaped : Int) (Mpos : Int) (Mtoken : Int) (MtokenAt : Int) (Mvalue : Int) (Mwrong : Int) (MwrongAt : Int) (MfaultKind : Int) (MfaultPlace : Int) (Mthing : Int) (Morder : Int → Int) (Mone : Int) (Mtwo : Int) (Mbest : Int → Int) (Mcells : Int) (Mgap : Int) (Mwire : Int → Int) (Mstand : Int → Int) (Mruns : Int) (Mminute : Int) (Mhead : Int → Int) (Mplays : Int → Int) (Mrests : Int → Int) (Mwent : Int → Int) (Mout : Int → Int) (Mcame : Int → Int) (Mgone : Int → Int) (MlastOut : Int) (g : Int) (w : Int) (qMthrown : 0 ≤ Mthrown ∧ Mthrown ≤ 2) (qMmany : 0 ≤ Mmany ∧ Mmany ≤ 8) (qMguest : RA Mguest (0) 9) (qMrow : RA Mrow (0) 7) (qMbars : 0 ≤ Mbars ∧ Mbars ≤ 10) (qMbar : RA Mbar (0) 104) (qMfresh : RA Mfresh (0) 104) (qMtape : RA Mtape (0) 255) (qMtaped : 0 ≤ Mtaped ∧ Mtaped ≤ 400) (qMpos : 0 ≤ Mpos ∧ Mpos ≤ 400) (qMtoken : 0 ≤ Mtoken ∧ Mtoken ≤ 15) (qMtokenAt : 0 ≤ MtokenAt ∧ MtokenAt ≤ 400) (qMvalue : 0 ≤ Mvalue ∧ Mvalue ≤ 99) (qMwrong : 0 ≤ Mwrong ∧ Mwrong ≤ 3) (qMwrongAt : 0 ≤ MwrongAt ∧ MwrongAt ≤ 400) (qMfaultKind : 0 ≤ MfaultKind ∧ MfaultKind ≤ 3) (qMfaultPlace : -1 ≤ MfaultPlace ∧ MfaultPlace ≤ 400) (qMthing : 0 ≤ Mthing ∧ Mthing ≤ 104) (qMorder : RA Morder (0) 7) (qMone : 0 ≤ Mone ∧ Mone ≤ 8) (qMtwo : 0 ≤ Mtwo ∧ Mtwo ≤ 8) (qMbest : RA Mbest (0) 7) (qMcells : 1 ≤ Mcells ∧ Mcells ≤ 50) (qMgap : 0 ≤ Mgap ∧ Mgap ≤ 3) (qMwire : RA Mwire (0) 9) (qMstand : RA Mstand (0) 9) (qMruns : 0 ≤ Mruns ∧ Mruns ≤ 1) (qMminute : 0 ≤ Mminute ∧ Mminute ≤ 1000000) (qMhead : RA Mhead (-1) 60) (qMplays : RA Mplays (0) 18) (qMrests : RA Mrests (0) 3) (qMwent : RA Mwent (0) 61) (qMout : RA Mout (0) 1) (qMcame : RA Mcame (-1) 1000000) (qMgone : RA Mgone (-1) 1000000) (qMlastOut : 0 ≤ MlastOut ∧ MlastOut ≤ 1000000) (qg : -2147483648 ≤ g ∧ g ≤ 2147483647) (qw : -2147483648 ≤ w ∧ w ≤ 2147483647) : Met l yX8_at wsX8_at ({ frames := 2, cells := 0, slots := 0, locals := 44 }) (va_Pc [.ref (oM 0), .int (zI g), .int (zI w)] (zPre D cI cB cZ sz (kM cI cB cZ oM Mthrown Mmany Mguest Mrow Mbars Mbar Mfresh Mtape Mtaped Mpos Mtoken MtokenAt Mvalue Mwrong MwrongAt MfaultKind MfaultPlace Mthing Morder Mone Mtwo Mbest Mcells Mgap Mwire Mstand Mruns Mminute Mhead Mplays Mrests Mwent Mout Mcame Mgone MlastOut))) (va_Qi (fun (r9 : Int32) (u9 : Int × Int) => r9 = zI u9.1 ∧ (((0 : Int) ≤ u9.2 ∧ u9.2 ≤ 2) ∧ ((¬ (0 ≤ g ∧ g < Mmany) ∧ u9.2 = 1) ∨ ((0 ≤ g ∧ g < Mmany) ∧ Mruns = 0 ∧ u9.2 = 2) ∨ ((0 ≤ g ∧ g < Mmany) ∧ Mruns = 1 ∧ u9.2 = 0 ∧ ((w = 0 ∧ u9.1 = Mhead g) ∨ (w = 1 ∧ u9.1 = Mhead (0 + g) - Mguest (5 * g + 1) + 1) ∨ (w = 2 ∧ ((Mout g = 1 ∧ u9.1 = 3) ∨ (Mout g = 0 ∧ Mhead g < 0 ∧ u9.1 = 0) ∨ (Mout g = 0 ∧ 0 ≤ Mhead g ∧ (0 < Mplays g ∨ 0 < Mrests g) ∧ u9.1 = 2) ∨ (Mout g = 0 ∧ 0 ≤ Mhead g ∧ ¬ (0 < Mplays g ∨ 0 < Mrests g) ∧ u9.1 = 1))) ∨ (w = 3 ∧ u9.1 = Mcame g) ∨ (w = 4 ∧ u9.1 = Mgone g) ∨ ((w < 0 ∨ 4 < w) ∧ u9.1 = -100)))))) (fun u9 t9 => zAt D cI cB cZ (va_A (kM cI cB cZ oM Mthrown Mmany Mguest Mrow Mbars Mbar Mfresh Mtape Mtaped Mpos Mtoken MtokenAt Mvalue Mwrong MwrongAt MfaultKind MfaultPlace Mthing Morder Mone Mtwo Mbest Mcells Mgap Mwire Mstand Mruns Mminute Mhead Mplays Mrests Mwent Mout Mcame Mgone MlastOut) sz) (kM cI cB cZ oM (u9.2) Mmany Mguest Mrow Mbars Mbar Mfresh Mtape Mtaped Mpos Mtoken MtokenAt Mvalue Mwrong MwrongAt MfaultKind MfaultPlace Mthing Morder Mone Mtwo Mbest Mcells Mgap Mwire Mstand Mruns Mminute Mhead Mplays Mrests Mwent Mout Mcame Mgone MlastOut) t9) (va_A (kM cI cB cZ oM Mthrown Mmany Mguest Mrow Mbars Mbar Mfresh Mtape Mtaped Mpos Mtoken MtokenAt Mvalue Mwrong MwrongAt MfaultKind MfaultPlace Mthing Morder Mone Mtwo Mbest Mcells Mgap Mwire Mstand Mruns Mminute Mhead Mplays Mrests Mwent Mout Mcame Mgone MlastOut) sz)) 0 0 (va_A (kM cI cB cZ oM Mthrown Mmany Mguest Mrow Mbars Mbar Mfresh Mtape Mtaped Mpos Mtoken MtokenAt Mvalue Mwrong MwrongAt MfaultKind MfaultPlace Mthing Morder Mone Mtwo Mbest Mcells Mgap Mwire Mstand Mruns Mminute Mhead Mplays Mrests Mwent Mout Mcame Mgone MlastOut) sz) := by
  refine Met.ofW (cc := cX8_at) (maxL := 3) (ret := (some .int)) (by decide) rfl ?_
  intro pp ee s mm aa bw mt cd s₁ BL hml hv
  obtain ⟨rfl, hsz, hP, hK, hD0⟩ := hv
  have hx := BL.exec
  have hb := BL.bytes
  have hr := BL.returns
  have hts := atoms_spec (ws := wsX8_at) BL.pre
  have hown : s.vm.findClass RX8 = some mm.cls := findClass_of_methodNamed BL.named
  have hlocks := BL.notSynchronized
  subst hsz
  generalize hAe : va_A (kM cI cB cZ oM Mthrown Mmany Mguest Mrow Mbars Mbar Mfresh Mtape Mtaped Mpos Mtoken MtokenAt Mvalue Mwrong MwrongAt MfaultKind MfaultPlace Mthing Morder Mone Mtwo Mbest Mcells Mgap Mwire Mstand Mruns Mminute Mhead Mplays Mrests Mwent Mout Mcame Mgone MlastOut) s.heap.size = A
  have hA : ∀ q : Nat, s.heap.size ≤ q → A q := fun q h => by rw [← hAe]; exact Or.inr h
  have hw : HW D A s.heap (kM cI cB cZ oM Mthrown Mmany Mguest Mrow Mbars Mbar Mfresh Mtape Mtaped Mpos Mtoken MtokenAt Mvalue Mwrong MwrongAt MfaultKind MfaultPlace Mthing Morder Mone Mtwo Mbest Mcells Mgap Mwire Mstand Mruns Mminute Mhead Mplays Mrests Mwent Mout Mcame Mgone MlastOut) s.heap [] := z_start hAe hP hD0
  clear hP hD0
  have hl := lv_entry ([.ref (oM 0), .int (zI g), .int (zI w)]) (n := 3) (Nat.le_of_ble_eq_true rfl)
  rw [lg_entry_eq]
  generalize (lg_sl ([.ref (oM 0), .int (zI g), .int (zI w)]) ++ List.replicate (3 - (lg_sl ([.ref (oM 0), .int (zI g), .int (zI w)])).length) Slot.unset).toArray = ls at hl ⊢
  have hl : lv_has ls 3 [(0, .ref (oM 0)), (1, .int (zI g)), (2, .int (zI w))] := hl
  have hinX8 : ∀ w ∈ wsX80, w ∈ wsX8_at := by decide +kernel
  refine z_cut (σ := Int × Int) 21 (I := fun x9 H locs ls => ((0 : Int) ≤ (x9.2) ∧ (x9.2) ≤ 2) ∧ ((x9.1 = 1 ∧ ((¬ (0 ≤ g ∧ g < Mmany) ∧ (x9.2) = 1) ∨ ((0 ≤ g ∧ g < Mmany) ∧ Mruns = 0 ∧ (x9.2) = 2))) ∨ (x9.1 = 0 ∧ (0 ≤ g ∧ g < Mmany) ∧ Mruns = 1 ∧ (x9.2) = 0)) ∧ HW D A s.heap (kM cI cB cZ oM (x9.2) Mmany Mguest Mrow Mbars Mbar Mfresh Mtape Mtaped Mpos Mtoken MtokenAt Mvalue Mwrong MwrongAt MfaultKind MfaultPlace Mthing Morder Mone Mtwo Mbest Mcells Mgap Mwire Mstand Mruns Mminute Mhead Mplays Mrests Mwent Mout Mcame Mgone MlastOut) H locs ∧ lv_has ls 3 [(0, .ref (oM 0)), (1, .int (zI g)), (2, .int (zI w))]) (st := fun x9 => [.int (zI x9.1)]) ?_ (fun hj_1 => ?_)
  · clear hw hl
    intro x9 H locs ls hI
    obtain ⟨f_2, Mthrown_3⟩ := x9
    try dsimp only at hI ⊢
    obtain ⟨hq_4, hI_5, hw, hl⟩ := hI
    refine z_if_eq (tgt := 26) hx hb dX8_at_21 (by decide) (by omega) (fun hc_6 => ?_) (fun hc_6 => ?_)
    · skip
      refine lv_iload_n hx hb dX8_at_26 rfl (lv_at hl 2 rfl) ?_
      rcases (show (w < 0 ∨ 4 < w) ∨ w = 0 ∨ w = 1 ∨ w = 2 ∨ w = 3 ∨ w = 4 by omega) with hc_7 | hc_7 | hc_7 | hc_7 | hc_7 | hc_7
      · skip
        refine z_tableOut (tgt := 138) hx hb (by omega) hc_7 dX8_at_27 (by decide) ?_
        refine z_bipush hx hb dX8_at_138 (by decide) ?_
        have hv_8 : (0 : Int) ≤ Mthrown_3 ∧ Mthrown_3 ≤ 2 := by
          first | assumption | omega | grind
        have hv_9 : (¬ (0 ≤ g ∧ g < Mmany) ∧ Mthrown_3 = 1) ∨ ((0 ≤ g ∧ g < Mmany) ∧ Mruns = 0 ∧ Mthrown_3 = 2) ∨ ((0 ≤ g ∧ g < Mmany) ∧ Mruns = 1 ∧ Mthrown_3 = 0 ∧ ((w = 0 ∧ ((-100) : Int) = Mhead g) ∨ (w = 1 ∧ ((-100) : Int) = Mhead (0 + g) - Mguest (5 * g + 1) + 1) ∨ (w = 2 ∧ ((Mout g = 1 ∧ ((-100) : Int) = 3) ∨ (Mout g = 0 ∧ Mhead g < 0 ∧ ((-100) : Int) = 0) ∨ (Mout g = 0 ∧ 0 ≤ Mhead g ∧ (0 < Mplays g ∨ 0 < Mrests g) ∧ ((-100) : Int) = 2) ∨ (Mout g = 0 ∧ 0 ≤ Mhead g ∧ ¬ (0 < Mplays g ∨ 0 < Mrests g) ∧ ((-100) : Int) = 1))) ∨ (w = 3 ∧ ((-100) : Int) = Mcame g) ∨ (w = 4 ∧ ((-100) : Int) = Mgone g) ∨ ((w < 0 ∨ 4 < w) ∧ ((-100) : Int) = -100))) := by
          exact Or.inr (Or.inr ⟨by omega, by omega, by omega, Or.inr (Or.inr (Or.inr (Or.inr (Or.inr (⟨by assumption, rfl⟩)))))⟩)
        exact W.iret (v := zI (-100)) hx hb hr (fun t9 ht hW => ⟨⟨zI (-100), ((-100), Mthrown_3), rfl, ⟨rfl, ⟨hv_8, hv_9⟩⟩, by subst hAe; exact z_end hK hw ht hW⟩, by subst hAe; exact hw.2.2.F ht⟩) (by subst hAe; exact hw.2.2.2.2) dX8_at_140
      · skip
        refine z_tableIn (k := 0) (off := 33) (tgt := 60) hx hb hc_7 dX8_at_27 (by decide) (by decide) rfl (by decide) ?_
        refine lv_aload_n hx hb dX8_at_60 rfl (lv_at hl 0 rfl) ?_
        refine va_get (D := D) (ci := 8) (v := .ref (oM 10)) (C := RX8) (T := TX8) (N := 36) hx hb hts hinX8 hown hK hw.1 0 rfl rfl 28 (by decide) (hts (.fieldLink RX8 47 "CarnivalRoadModel" "head" "[I") (by decide +kernel)) (fun _ h9 => h9) rfl dX8_at_61 ?_
        refine lv_iload_n hx hb dX8_at_64 rfl (lv_at hl 1 rfl) ?_
        have hi_10 : (0 : Int) ≤ g ∧ g < ((16 : Nat) : Int) := by
          first | assumption | omega | grind
        refine z_iald (n := 16) (f := Mhead) hx hb hK hw 10 rfl (by decide) hi_10 dX8_at_65 ?_
        have hq_11 : -1 ≤ Mhead g ∧ Mhead g ≤ 60 := qMhead g
        have hv_12 : (0 : Int) ≤ Mthrown_3 ∧ Mthrown_3 ≤ 2 := by
          first | assumption | omega | grind
        have hv_13 : (¬ (0 ≤ g ∧ g < Mmany) ∧ Mthrown_3 = 1) ∨ ((0 ≤ g ∧ g < Mmany) ∧ Mruns = 0 ∧ Mthrown_3 = 2) ∨ ((0 ≤ g ∧ g < Mmany) ∧ Mruns = 1 ∧ Mthrown_3 = 0 ∧ ((w = 0 ∧ (Mhead g) = Mhead g) ∨ (w = 1 ∧ (Mhead g) = Mhead (0 + g) - Mguest (5 * g + 1) + 1) ∨ (w = 2 ∧ ((Mout g = 1 ∧ (Mhead g) = 3) ∨ (Mout g = 0 ∧ Mhead g < 0 ∧ (Mhead g) = 0) ∨ (Mout g = 0 ∧ 0 ≤ Mhead g ∧ (0 < Mplays g ∨ 0 < Mrests g) ∧ (Mhead g) = 2) ∨ (Mout g = 0 ∧ 0 ≤ Mhead g ∧ ¬ (0 < Mplays g ∨ 0 < Mrests g) ∧ (Mhead g) = 1))) ∨ (w = 3 ∧ (Mhead g) = Mcame g) ∨ (w = 4 ∧ (Mhead g) = Mgone g) ∨ ((w < 0 ∨ 4 < w) ∧ (Mhead g) = -100))) := by
          exact Or.inr (Or.inr ⟨by omega, by omega, by omega, Or.inl (⟨by assumption, rfl⟩)⟩)
        exact W.iret (v := zI (Mhead g)) hx hb hr (fun t9 ht hW => ⟨⟨zI (Mhead g), ((Mhead g), Mthrown_3), rfl, ⟨rfl, ⟨hv_12, hv_13⟩⟩, by subst hAe; exact z_end hK hw ht hW⟩, by subst hAe; exact hw.2.2.F ht⟩) (by subst hAe; exact hw.2.2.2.2) dX8_at_66
      · skip
        refine z_tableIn (k := 1) (off := 40) (tgt := 67) hx hb hc_7 dX8_at_27 (by decide) (by decide) rfl (by decide) ?_
        refine lv_aload_n hx hb dX8_at_67 rfl (lv_at hl 0 rfl) ?_
        refine z_iconst hx hb dX8_at_68 ?_
        refine lv_iload_n hx hb dX8_at_69 rfl (lv_at hl 1 rfl) ?_
        have hF9 := z_free (wc := kM cI cB cZ oM Mthrown_3 Mmany Mguest Mrow Mbars Mbar Mfresh Mtape Mtaped Mpos Mtoken MtokenAt Mvalue Mwrong MwrongAt MfaultKind MfaultPlace Mthing Morder Mone Mtwo Mbest Mcells Mgap Mwire Mstand Mruns Mminute Mhead Mplays Mrests Mwent Mout Mcame Mgone MlastOut) hw hA [0, 1, 2, 3, 4, 5, 6, 7, 8, 9, 10, 11, 12, 13, 14, 15, 16] rfl
        refine va_calli (va_runV (As := [.int (zI 0), .int (zI g)]) (rest := []) ⟨hx, hb, hml, hown, hts⟩ (c_X8_tail l D cI cB cZ oM H.size Mthrown_3 Mmany Mguest Mrow Mbars Mbar Mfresh Mtape Mtaped Mpos Mtoken MtokenAt Mvalue Mwrong MwrongAt MfaultKind MfaultPlace Mthing Morder Mone Mtwo Mbest Mcells Mgap Mwire Mstand Mruns Mminute Mhead Mplays Mrests Mwent Mout Mcame Mgone MlastOut 0 g (by omega) (by omega) qMguest qMrow (by omega) qMbar qMfresh qMtape (by omega) (by omega) (by omega) (by omega) (by omega) (by omega) (by omega) (by omega) (by omega) (by omega) qMorder (by omega) (by omega) qMbest (by omega) (by omega) qMwire qMstand (by omega) (by omega) qMhead qMplays qMrests qMwent qMout qMcame qMgone (by omega) (by omega) (by omega)) (cwV 2 hts gX8_at_X8_tail rfl rfl rfl (by decide +kernel) ⟨Nat.le_of_ble_eq_true rfl, Nat.le_of_ble_eq_true rfl⟩) ⟨zPre_blind, va_recv hK hw.1 (ci := 8) (q0 := 0) rfl rfl, z_pre hK hw [0, 1, 2, 3, 4, 5, 6, 7, 8, 9, 10, 11, 12, 13, 14, 15, 16] (by decide) rfl⟩ rfl rfl hl.1 rfl (lv_room (Nat.le_of_ble_eq_true rfl)) dX8_at_70 ⟨Nat.zero_le _, Nat.zero_le _⟩) hw.2.2 (fun q _ h => hF9 q h) hF9 (fun r9 u9 t9 H_14 locs9 ht9 hvm9 hq9 hB9 hz9 hk9 hS9 => ?_)
        obtain ⟨r_15, rfl⟩ : ∃ z, z = u9 := ⟨_, rfl⟩
        try dsimp only at hq9 hB9
        obtain ⟨rfl, hq9⟩ := hq9
        obtain ⟨hq_16, hq_17⟩ := hq9
        have hw : HW D A s.heap (kM cI cB cZ oM Mthrown_3 Mmany Mguest Mrow Mbars Mbar Mfresh Mtape Mtaped Mpos Mtoken MtokenAt Mvalue Mwrong MwrongAt MfaultKind MfaultPlace Mthing Morder Mone Mtwo Mbest Mcells Mgap Mwire Mstand Mruns Mminute Mhead Mplays Mrests Mwent Mout Mcame Mgone MlastOut) H_14 locs9 := z_after (wc := kM cI cB cZ oM Mthrown_3 Mmany Mguest Mrow Mbars Mbar Mfresh Mtape Mtaped Mpos Mtoken MtokenAt Mvalue Mwrong MwrongAt MfaultKind MfaultPlace Mthing Morder Mone Mtwo Mbest Mcells Mgap Mwire Mstand Mruns Mminute Mhead Mplays Mrests Mwent Mout Mcame Mgone MlastOut) hw [0, 1, 2, 3, 4, 5, 6, 7, 8, 9, 10, 11, 12, 13, 14, 15, 16] [] rfl rfl (by decide) (by decide) hF9 hk9 ht9 hB9 hS9 [0, 1, 2, 3, 4, 5, 6, 7, 8, 9, 10, 11, 12, 13, 14, 15, 16] (by decide) rfl
        clear hF9 ht9 hvm9 hB9 hz9 hk9 hS9
        have hv_18 : (0 : Int) ≤ Mthrown_3 ∧ Mthrown_3 ≤ 2 := by
          first | assumption | omega | grind
        have hv_19 : (¬ (0 ≤ g ∧ g < Mmany) ∧ Mthrown_3 = 1) ∨ ((0 ≤ g ∧ g < Mmany) ∧ Mruns = 0 ∧ Mthrown_3 = 2) ∨ ((0 ≤ g ∧ g < Mmany) ∧ Mruns = 1 ∧ Mthrown_3 = 0 ∧ ((w = 0 ∧ r_15 = Mhead g) ∨ (w = 1 ∧ r_15 = Mhead (0 + g) - Mguest (5 * g + 1) + 1) ∨ (w = 2 ∧ ((Mout g = 1 ∧ r_15 = 3) ∨ (Mout g = 0 ∧ Mhead g < 0 ∧ r_15 = 0) ∨ (Mout g = 0 ∧ 0 ≤ Mhead g ∧ (0 < Mplays g ∨ 0 < Mrests g) ∧ r_15 = 2) ∨ (Mout g = 0 ∧ 0 ≤ Mhead g ∧ ¬ (0 < Mplays g ∨ 0 < Mrests g) ∧ r_15 = 1))) ∨ (w = 3 ∧ r_15 = Mcame g) ∨ (w = 4 ∧ r_15 = Mgone g) ∨ ((w < 0 ∨ 4 < w) ∧ r_15 = -100))) := by
          exact Or.inr (Or.inr ⟨by omega, by omega, by omega, Or.inr (Or.inl (⟨by assumption, by assumption⟩))⟩)
        exact W.iret (v := zI r_15) hx hb hr (fun t9 ht hW => ⟨⟨zI r_15, (r_15, Mthrown_3), rfl, ⟨rfl, ⟨hv_18, hv_19⟩⟩, by subst hAe; exact z_end hK hw ht hW⟩, by subst hAe; exact hw.2.2.F ht⟩) (by subst hAe; exact hw.2.2.2.2) dX8_at_73
      · skip
        refine z_tableIn (k := 2) (off := 47) (tgt := 74) hx hb hc_7 dX8_at_27 (by decide) (by decide) rfl (by decide) ?_
        refine z_cut (σ := Int) 123 (I := fun x9 H locs ls => ((Mout g = 1 ∧ x9 = 3) ∨ (Mout g = 0 ∧ Mhead g < 0 ∧ x9 = 0) ∨ (Mout g = 0 ∧ 0 ≤ Mhead g ∧ (0 < Mplays g ∨ 0 < Mrests g) ∧ x9 = 2) ∨ (Mout g = 0 ∧ 0 ≤ Mhead g ∧ ¬ (0 < Mplays g ∨ 0 < Mrests g) ∧ x9 = 1)) ∧ HW D A s.heap (kM cI cB cZ oM Mthrown_3 Mmany Mguest Mrow Mbars Mbar Mfresh Mtape Mtaped Mpos Mtoken MtokenAt Mvalue Mwrong MwrongAt MfaultKind MfaultPlace Mthing Morder Mone Mtwo Mbest Mcells Mgap Mwire Mstand Mruns Mminute Mhead Mplays Mrests Mwent Mout Mcame Mgone MlastOut) H locs ∧ lv_has ls 3 []) (st := fun x9 => [.int (zI x9)]) ?_ (fun hj_20 => ?_)
        · clear hw hl
          intro v_21 H locs ls hI
          try dsimp only at hI ⊢
          obtain ⟨hI_22, hw, hl⟩ := hI
          have hv_23 : (0 : Int) ≤ Mthrown_3 ∧ Mthrown_3 ≤ 2 := by
            first | assumption | omega | grind
          have hv_24 : (¬ (0 ≤ g ∧ g < Mmany) ∧ Mthrown_3 = 1) ∨ ((0 ≤ g ∧ g < Mmany) ∧ Mruns = 0 ∧ Mthrown_3 = 2) ∨ ((0 ≤ g ∧ g < Mmany) ∧ Mruns = 1 ∧ Mthrown_3 = 0 ∧ ((w = 0 ∧ v_21 = Mhead g) ∨ (w = 1 ∧ v_21 = Mhead (0 + g) - Mguest (5 * g + 1) + 1) ∨ (w = 2 ∧ ((Mout g = 1 ∧ v_21 = 3) ∨ (Mout g = 0 ∧ Mhead g < 0 ∧ v_21 = 0) ∨ (Mout g = 0 ∧ 0 ≤ Mhead g ∧ (0 < Mplays g ∨ 0 < Mrests g) ∧ v_21 = 2) ∨ (Mout g = 0 ∧ 0 ≤ Mhead g ∧ ¬ (0 < Mplays g ∨ 0 < Mrests g) ∧ v_21 = 1))) ∨ (w = 3 ∧ v_21 = Mcame g) ∨ (w = 4 ∧ v_21 = Mgone g) ∨ ((w < 0 ∨ 4 < w) ∧ v_21 = -100))) := by
            exact Or.inr (Or.inr ⟨by omega, by omega, by omega, Or.inr (Or.inr (Or.inl (⟨by assumption, by assumption⟩)))⟩)
          exact W.iret (v := zI v_21) hx hb hr (fun t9 ht hW => ⟨⟨zI v_21, (v_21, Mthrown_3), rfl, ⟨rfl, ⟨hv_23, hv_24⟩⟩, by subst hAe; exact z_end hK hw ht hW⟩, by subst hAe; exact hw.2.2.F ht⟩) (by subst hAe; exact hw.2.2.2.2) dX8_at_123
        refine lv_aload_n hx hb dX8_at_74 rfl (lv_at hl 0 rfl) ?_
        refine va_get (D := D) (ci := 8) (v := .ref (oM 14)) (C := RX8) (T := TX8) (N := 36) hx hb hts hinX8 hown hK hw.1 0 rfl rfl 32 (by decide) (hts (.fieldLink RX8 59 "CarnivalRoadModel" "out" "[Z") (by decide +kernel)) (fun _ h9 => h9) rfl dX8_at_75 ?_
        refine lv_iload_n hx hb dX8_at_78 rfl (lv_at hl 1 rfl) ?_
        have hi_25 : (0 : Int) ≤ g ∧ g < ((16 : Nat) : Int) := by
          first | assumption | omega | grind
        refine z_zald (n := 16) (f := Mout) hx hb hK hw 14 rfl (by decide) hi_25 dX8_at_79 ?_
        have hq_26 : 0 ≤ Mout g ∧ Mout g ≤ 1 := qMout g
        refine z_if_eq (tgt := 87) hx hb dX8_at_80 (by decide) (by omega) (fun hc_27 => ?_) (fun hc_27 => ?_)
        · skip
          refine lv_aload_n hx hb dX8_at_87 rfl (lv_at hl 0 rfl) ?_
          refine va_get (D := D) (ci := 8) (v := .ref (oM 10)) (C := RX8) (T := TX8) (N := 36) hx hb hts hinX8 hown hK hw.1 0 rfl rfl 28 (by decide) (hts (.fieldLink RX8 47 "CarnivalRoadModel" "head" "[I") (by decide +kernel)) (fun _ h9 => h9) rfl dX8_at_88 ?_
          refine lv_iload_n hx hb dX8_at_91 rfl (lv_at hl 1 rfl) ?_
          have hi_28 : (0 : Int) ≤ g ∧ g < ((16 : Nat) : Int) := by
            first | assumption | omega | grind
          refine z_iald (n := 16) (f := Mhead) hx hb hK hw 10 rfl (by decide) hi_28 dX8_at_92 ?_
          have hq_29 : -1 ≤ Mhead g ∧ Mhead g ≤ 60 := qMhead g
          refine z_if_ge (tgt := 100) hx hb dX8_at_93 (by decide) (by omega) (fun hc_30 => ?_) (fun hc_30 => ?_)
          · skip
            refine lv_aload_n hx hb dX8_at_100 rfl (lv_at hl 0 rfl) ?_
            refine va_get (D := D) (ci := 8) (v := .ref (oM 11)) (C := RX8) (T := TX8) (N := 36) hx hb hts hinX8 hown hK hw.1 0 rfl rfl 29 (by decide) (hts (.fieldLink RX8 50 "CarnivalRoadModel" "plays" "[I") (by decide +kernel)) (fun _ h9 => h9) rfl dX8_at_101 ?_
            refine lv_iload_n hx hb dX8_at_104 rfl (lv_at hl 1 rfl) ?_
            have hi_31 : (0 : Int) ≤ g ∧ g < ((16 : Nat) : Int) := by
              first | assumption | omega | grind
            refine z_iald (n := 16) (f := Mplays) hx hb hK hw 11 rfl (by decide) hi_31 dX8_at_105 ?_
            have hq_32 : 0 ≤ Mplays g ∧ Mplays g ≤ 18 := qMplays g
            refine z_if_gt (tgt := 118) hx hb dX8_at_106 (by decide) (by omega) (fun hc_33 => ?_) (fun hc_33 => ?_)
            · skip
              refine z_iconst hx hb dX8_at_118 ?_
              refine lv_goto (tgt := 123) hx hb dX8_at_119 (by decide) ?_
              have hv_34 : (Mout g = 1 ∧ (2 : Int) = 3) ∨ (Mout g = 0 ∧ Mhead g < 0 ∧ (2 : Int) = 0) ∨ (Mout g = 0 ∧ 0 ≤ Mhead g ∧ (0 < Mplays g ∨ 0 < Mrests g) ∧ (2 : Int) = 2) ∨ (Mout g = 0 ∧ 0 ≤ Mhead g ∧ ¬ (0 < Mplays g ∨ 0 < Mrests g) ∧ (2 : Int) = 1) := by
                first | assumption | omega | grind
              exact hj_20 2 _ _ _ ⟨hv_34, hw, lv_sub hl [] rfl⟩
            · skip
              refine lv_aload_n hx hb dX8_at_109 rfl (lv_at hl 0 rfl) ?_
              refine va_get (D := D) (ci := 8) (v := .ref (oM 12)) (C := RX8) (T := TX8) (N := 36) hx hb hts hinX8 hown hK hw.1 0 rfl rfl 30 (by decide) (hts (.fieldLink RX8 53 "CarnivalRoadModel" "rests" "[I") (by decide +kernel)) (fun _ h9 => h9) rfl dX8_at_110 ?_
              refine lv_iload_n hx hb dX8_at_113 rfl (lv_at hl 1 rfl) ?_
              have hi_35 : (0 : Int) ≤ g ∧ g < ((16 : Nat) : Int) := by
                first | assumption | omega | grind
              refine z_iald (n := 16) (f := Mrests) hx hb hK hw 12 rfl (by decide) hi_35 dX8_at_114 ?_
              have hq_36 : 0 ≤ Mrests g ∧ Mrests g ≤ 3 := qMrests g
              refine z_if_le (tgt := 122) hx hb dX8_at_115 (by decide) (by omega) (fun hc_37 => ?_) (fun hc_37 => ?_)
              · skip
                refine z_iconst hx hb dX8_at_122 ?_
                have hv_38 : (Mout g = 1 ∧ (1 : Int) = 3) ∨ (Mout g = 0 ∧ Mhead g < 0 ∧ (1 : Int) = 0) ∨ (Mout g = 0 ∧ 0 ≤ Mhead g ∧ (0 < Mplays g ∨ 0 < Mrests g) ∧ (1 : Int) = 2) ∨ (Mout g = 0 ∧ 0 ≤ Mhead g ∧ ¬ (0 < Mplays g ∨ 0 < Mrests g) ∧ (1 : Int) = 1) := by
                  first | assumption | omega | grind
                exact hj_20 1 _ _ _ ⟨hv_38, hw, lv_sub hl [] rfl⟩
              · skip
                refine z_iconst hx hb dX8_at_118 ?_
                refine lv_goto (tgt := 123) hx hb dX8_at_119 (by decide) ?_
                have hv_39 : (Mout g = 1 ∧ (2 : Int) = 3) ∨ (Mout g = 0 ∧ Mhead g < 0 ∧ (2 : Int) = 0) ∨ (Mout g = 0 ∧ 0 ≤ Mhead g ∧ (0 < Mplays g ∨ 0 < Mrests g) ∧ (2 : Int) = 2) ∨ (Mout g = 0 ∧ 0 ≤ Mhead g ∧ ¬ (0 < Mplays g ∨ 0 < Mrests g) ∧ (2 : Int) = 1) := by
                  first | assumption | omega | grind
                exact hj_20 2 _ _ _ ⟨hv_39, hw, lv_sub hl [] rfl⟩
          · skip
            refine z_iconst hx hb dX8_at_96 ?_
            refine lv_goto (tgt := 123) hx hb dX8_at_97 (by decide) ?_
            have hv_40 : (Mout g = 1 ∧ (0 : Int) = 3) ∨ (Mout g = 0 ∧ Mhead g < 0 ∧ (0 : Int) = 0) ∨ (Mout g = 0 ∧ 0 ≤ Mhead g ∧ (0 < Mplays g ∨ 0 < Mrests g) ∧ (0 : Int) = 2) ∨ (Mout g = 0 ∧ 0 ≤ Mhead g ∧ ¬ (0 < Mplays g ∨ 0 < Mrests g) ∧ (0 : Int) = 1) := by
              first | assumption | omega | grind
            exact hj_20 0 _ _ _ ⟨hv_40, hw, lv_sub hl [] rfl⟩
        · skip
          refine z_iconst hx hb dX8_at_83 ?_
          refine lv_goto (tgt := 123) hx hb dX8_at_84 (by decide) ?_
          have hv_41 : (Mout g = 1 ∧ (3 : Int) = 3) ∨ (Mout g = 0 ∧ Mhead g < 0 ∧ (3 : Int) = 0) ∨ (Mout g = 0 ∧ 0 ≤ Mhead g ∧ (0 < Mplays g ∨ 0 < Mrests g) ∧ (3 : Int) = 2) ∨ (Mout g = 0 ∧ 0 ≤ Mhead g ∧ ¬ (0 < Mplays g ∨ 0 < Mrests g) ∧ (3 : Int) = 1) := by
            first | assumption | omega | grind
          exact hj_20 3 _ _ _ ⟨hv_41, hw, lv_sub hl [] rfl⟩
      · skip
        refine z_tableIn (k := 3) (off := 97) (tgt := 124) hx hb hc_7 dX8_at_27 (by decide) (by decide) rfl (by decide) ?_
        refine lv_aload_n hx hb dX8_at_124 rfl (lv_at hl 0 rfl) ?_
        refine va_get (D := D) (ci := 8) (v := .ref (oM 15)) (C := RX8) (T := TX8) (N := 36) hx hb hts hinX8 hown hK hw.1 0 rfl rfl 33 (by decide) (hts (.fieldLink RX8 63 "CarnivalRoadModel" "came" "[I") (by decide +kernel)) (fun _ h9 => h9) rfl dX8_at_125 ?_
        refine lv_iload_n hx hb dX8_at_128 rfl (lv_at hl 1 rfl) ?_
        have hi_42 : (0 : Int) ≤ g ∧ g < ((8 : Nat) : Int) := by
          first | assumption | omega | grind
        refine z_iald (n := 8) (f := Mcame) hx hb hK hw 15 rfl (by decide) hi_42 dX8_at_129 ?_
        have hq_43 : -1 ≤ Mcame g ∧ Mcame g ≤ 1000000 := qMcame g
        have hv_44 : (0 : Int) ≤ Mthrown_3 ∧ Mthrown_3 ≤ 2 := by
          first | assumption | omega | grind
        have hv_45 : (¬ (0 ≤ g ∧ g < Mmany) ∧ Mthrown_3 = 1) ∨ ((0 ≤ g ∧ g < Mmany) ∧ Mruns = 0 ∧ Mthrown_3 = 2) ∨ ((0 ≤ g ∧ g < Mmany) ∧ Mruns = 1 ∧ Mthrown_3 = 0 ∧ ((w = 0 ∧ (Mcame g) = Mhead g) ∨ (w = 1 ∧ (Mcame g) = Mhead (0 + g) - Mguest (5 * g + 1) + 1) ∨ (w = 2 ∧ ((Mout g = 1 ∧ (Mcame g) = 3) ∨ (Mout g = 0 ∧ Mhead g < 0 ∧ (Mcame g) = 0) ∨ (Mout g = 0 ∧ 0 ≤ Mhead g ∧ (0 < Mplays g ∨ 0 < Mrests g) ∧ (Mcame g) = 2) ∨ (Mout g = 0 ∧ 0 ≤ Mhead g ∧ ¬ (0 < Mplays g ∨ 0 < Mrests g) ∧ (Mcame g) = 1))) ∨ (w = 3 ∧ (Mcame g) = Mcame g) ∨ (w = 4 ∧ (Mcame g) = Mgone g) ∨ ((w < 0 ∨ 4 < w) ∧ (Mcame g) = -100))) := by
          exact Or.inr (Or.inr ⟨by omega, by omega, by omega, Or.inr (Or.inr (Or.inr (Or.inl (⟨by assumption, rfl⟩))))⟩)
        exact W.iret (v := zI (Mcame g)) hx hb hr (fun t9 ht hW => ⟨⟨zI (Mcame g), ((Mcame g), Mthrown_3), rfl, ⟨rfl, ⟨hv_44, hv_45⟩⟩, by subst hAe; exact z_end hK hw ht hW⟩, by subst hAe; exact hw.2.2.F ht⟩) (by subst hAe; exact hw.2.2.2.2) dX8_at_130
      · skip
        refine z_tableIn (k := 4) (off := 104) (tgt := 131) hx hb hc_7 dX8_at_27 (by decide) (by decide) rfl (by decide) ?_
        refine lv_aload_n hx hb dX8_at_131 rfl (lv_at hl 0 rfl) ?_
        refine va_get (D := D) (ci := 8) (v := .ref (oM 16)) (C := RX8) (T := TX8) (N := 36) hx hb hts hinX8 hown hK hw.1 0 rfl rfl 34 (by decide) (hts (.fieldLink RX8 66 "CarnivalRoadModel" "gone" "[I") (by decide +kernel)) (fun _ h9 => h9) rfl dX8_at_132 ?_
        refine lv_iload_n hx hb dX8_at_135 rfl (lv_at hl 1 rfl) ?_
        have hi_46 : (0 : Int) ≤ g ∧ g < ((8 : Nat) : Int) := by
          first | assumption | omega | grind
        refine z_iald (n := 8) (f := Mgone) hx hb hK hw 16 rfl (by decide) hi_46 dX8_at_136 ?_
        have hq_47 : -1 ≤ Mgone g ∧ Mgone g ≤ 1000000 := qMgone g
        have hv_48 : (0 : Int) ≤ Mthrown_3 ∧ Mthrown_3 ≤ 2 := by
          first | assumption | omega | grind
        have hv_49 : (¬ (0 ≤ g ∧ g < Mmany) ∧ Mthrown_3 = 1) ∨ ((0 ≤ g ∧ g < Mmany) ∧ Mruns = 0 ∧ Mthrown_3 = 2) ∨ ((0 ≤ g ∧ g < Mmany) ∧ Mruns = 1 ∧ Mthrown_3 = 0 ∧ ((w = 0 ∧ (Mgone g) = Mhead g) ∨ (w = 1 ∧ (Mgone g) = Mhead (0 + g) - Mguest (5 * g + 1) + 1) ∨ (w = 2 ∧ ((Mout g = 1 ∧ (Mgone g) = 3) ∨ (Mout g = 0 ∧ Mhead g < 0 ∧ (Mgone g) = 0) ∨ (Mout g = 0 ∧ 0 ≤ Mhead g ∧ (0 < Mplays g ∨ 0 < Mrests g) ∧ (Mgone g) = 2) ∨ (Mout g = 0 ∧ 0 ≤ Mhead g ∧ ¬ (0 < Mplays g ∨ 0 < Mrests g) ∧ (Mgone g) = 1))) ∨ (w = 3 ∧ (Mgone g) = Mcame g) ∨ (w = 4 ∧ (Mgone g) = Mgone g) ∨ ((w < 0 ∨ 4 < w) ∧ (Mgone g) = -100))) := by
          exact Or.inr (Or.inr ⟨by omega, by omega, by omega, Or.inr (Or.inr (Or.inr (Or.inr (Or.inl (⟨by assumption, rfl⟩)))))⟩)
        exact W.iret (v := zI (Mgone g)) hx hb hr (fun t9 ht hW => ⟨⟨zI (Mgone g), ((Mgone g), Mthrown_3), rfl, ⟨rfl, ⟨hv_48, hv_49⟩⟩, by subst hAe; exact z_end hK hw ht hW⟩, by subst hAe; exact hw.2.2.F ht⟩) (by subst hAe; exact hw.2.2.2.2) dX8_at_137
    · skip
      refine z_iconst hx hb dX8_at_24 ?_
      have hv_50 : (0 : Int) ≤ Mthrown_3 ∧ Mthrown_3 ≤ 2 := by
        first | assumption | omega | grind
      have hv_51 : (¬ (0 ≤ g ∧ g < Mmany) ∧ Mthrown_3 = 1) ∨ ((0 ≤ g ∧ g < Mmany) ∧ Mruns = 0 ∧ Mthrown_3 = 2) ∨ ((0 ≤ g ∧ g < Mmany) ∧ Mruns = 1 ∧ Mthrown_3 = 0 ∧ ((w = 0 ∧ (0 : Int) = Mhead g) ∨ (w = 1 ∧ (0 : Int) = Mhead (0 + g) - Mguest (5 * g + 1) + 1) ∨ (w = 2 ∧ ((Mout g = 1 ∧ (0 : Int) = 3) ∨ (Mout g = 0 ∧ Mhead g < 0 ∧ (0 : Int) = 0) ∨ (Mout g = 0 ∧ 0 ≤ Mhead g ∧ (0 < Mplays g ∨ 0 < Mrests g) ∧ (0 : Int) = 2) ∨ (Mout g = 0 ∧ 0 ≤ Mhead g ∧ ¬ (0 < Mplays g ∨ 0 < Mrests g) ∧ (0 : Int) = 1))) ∨ (w = 3 ∧ (0 : Int) = Mcame g) ∨ (w = 4 ∧ (0 : Int) = Mgone g) ∨ ((w < 0 ∨ 4 < w) ∧ (0 : Int) = -100))) := by
        rcases (show (¬ (0 ≤ g ∧ g < Mmany) ∧ Mthrown_3 = 1) ∨ ((0 ≤ g ∧ g < Mmany) ∧ Mruns = 0 ∧ Mthrown_3 = 2) by omega) with q | q
        · exact Or.inl q
        · exact Or.inr (Or.inl q)
      exact W.iret (v := zI 0) hx hb hr (fun t9 ht hW => ⟨⟨zI 0, (0, Mthrown_3), rfl, ⟨rfl, ⟨hv_50, hv_51⟩⟩, by subst hAe; exact z_end hK hw ht hW⟩, by subst hAe; exact hw.2.2.F ht⟩) (by subst hAe; exact hw.2.2.2.2) dX8_at_25
  refine lv_aload_n hx hb dX8_at_0 rfl (lv_at hl 0 rfl) ?_
  refine lv_aload_n hx hb dX8_at_1 rfl (lv_at hl 0 rfl) ?_
  refine lv_iload_n hx hb dX8_at_2 rfl (lv_at hl 1 rfl) ?_
  have hF9 := z_free (wc := kM cI cB cZ oM Mthrown Mmany Mguest Mrow Mbars Mbar Mfresh Mtape Mtaped Mpos Mtoken MtokenAt Mvalue Mwrong MwrongAt MfaultKind MfaultPlace Mthing Morder Mone Mtwo Mbest Mcells Mgap Mwire Mstand Mruns Mminute Mhead Mplays Mrests Mwent Mout Mcame Mgone MlastOut) hw hA [0, 1, 2, 3, 4, 5, 6, 7, 8, 9, 10, 11, 12, 13, 14, 15, 16] rfl
  refine va_calli (va_runV (As := [.int (zI g)]) (rest := [.ref (oM 0)]) ⟨hx, hb, hml, hown, hts⟩ (c_X8_isNo l D cI cB cZ oM s.heap.size Mthrown Mmany Mguest Mrow Mbars Mbar Mfresh Mtape Mtaped Mpos Mtoken MtokenAt Mvalue Mwrong MwrongAt MfaultKind MfaultPlace Mthing Morder Mone Mtwo Mbest Mcells Mgap Mwire Mstand Mruns Mminute Mhead Mplays Mrests Mwent Mout Mcame Mgone MlastOut g (by omega) (by omega) qMguest qMrow (by omega) qMbar qMfresh qMtape (by omega) (by omega) (by omega) (by omega) (by omega) (by omega) (by omega) (by omega) (by omega) (by omega) qMorder (by omega) (by omega) qMbest (by omega) (by omega) qMwire qMstand (by omega) (by omega) qMhead qMplays qMrests qMwent qMout qMcame qMgone (by omega) (by omega)) (cwV 1 hts gX8_at_X8_isNo rfl rfl rfl (by decide +kernel) ⟨Nat.le_of_ble_eq_true rfl, Nat.le_of_ble_eq_true rfl⟩) ⟨zPre_blind, va_recv hK hw.1 (ci := 8) (q0 := 0) rfl rfl, z_pre hK hw [0, 1, 2, 3, 4, 5, 6, 7, 8, 9, 10, 11, 12, 13, 14, 15, 16] (by decide) rfl⟩ rfl rfl hl.1 rfl (lv_room (Nat.le_of_ble_eq_true rfl)) dX8_at_3 ⟨Nat.zero_le _, Nat.zero_le _⟩) hw.2.2 (fun q _ h => hF9 q h) hF9 (fun r9 u9 t9 H_52 locs9 ht9 hvm9 hq9 hB9 hz9 hk9 hS9 => ?_)
  obtain ⟨r_53, rfl⟩ : ∃ z, z = u9 := ⟨_, rfl⟩
  try dsimp only at hq9 hB9
  obtain ⟨rfl, hq9⟩ := hq9
  have hq_54 := hq9
  have hw : HW D A s.heap (kM cI cB cZ oM Mthrown Mmany Mguest Mrow Mbars Mbar Mfresh Mtape Mtaped Mpos Mtoken MtokenAt Mvalue Mwrong MwrongAt MfaultKind MfaultPlace Mthing Morder Mone Mtwo Mbest Mcells Mgap Mwire Mstand Mruns Mminute Mhead Mplays Mrests Mwent Mout Mcame Mgone MlastOut) H_52 locs9 := z_after (wc := kM cI cB cZ oM Mthrown Mmany Mguest Mrow Mbars Mbar Mfresh Mtape Mtaped Mpos Mtoken MtokenAt Mvalue Mwrong MwrongAt MfaultKind MfaultPlace Mthing Morder Mone Mtwo Mbest Mcells Mgap Mwire Mstand Mruns Mminute Mhead Mplays Mrests Mwent Mout Mcame Mgone MlastOut) hw [0, 1, 2, 3, 4, 5, 6, 7, 8, 9, 10, 11, 12, 13, 14, 15, 16] [] rfl rfl (by decide) (by decide) hF9 hk9 ht9 hB9 hS9 [0, 1, 2, 3, 4, 5, 6, 7, 8, 9, 10, 11, 12, 13, 14, 15, 16] (by decide) rfl
  clear hF9 ht9 hvm9 hB9 hz9 hk9 hS9 hq9
  rcases hq_54 with ⟨hc_55, rfl⟩ | ⟨hc_55, rfl⟩
  · skip
    refine lv_aload_n hx hb dX8_at_6 rfl (lv_at hl 0 rfl) ?_
    refine va_get (D := D) (ci := 8) (v := .int (zI Mruns)) (C := RX8) (T := TX8) (N := 36) hx hb hts hinX8 hown hK hw.1 0 rfl rfl 26 (by decide) (hts (.fieldLink RX8 79 "CarnivalRoadModel" "runs" "Z") (by decide +kernel)) (fun _ h9 => h9) rfl dX8_at_7 ?_
    refine z_if_ne (tgt := 17) hx hb dX8_at_10 (by decide) (by omega) (fun hc_56 => ?_) (fun hc_56 => ?_)
    · skip
      refine z_iconst hx hb dX8_at_17 ?_
      have hF9 := z_free (wc := kM cI cB cZ oM Mthrown Mmany Mguest Mrow Mbars Mbar Mfresh Mtape Mtaped Mpos Mtoken MtokenAt Mvalue Mwrong MwrongAt MfaultKind MfaultPlace Mthing Morder Mone Mtwo Mbest Mcells Mgap Mwire Mstand Mruns Mminute Mhead Mplays Mrests Mwent Mout Mcame Mgone MlastOut) hw hA [0, 1, 2, 3, 4, 5, 6, 7, 8, 9, 10, 11, 12, 13, 14, 15, 16] rfl
      refine va_calli (va_runV (As := [.int (zI 1), .int (zI 0)]) (rest := []) ⟨hx, hb, hml, hown, hts⟩ (c_X8_fails l D cI cB cZ oM H_52.size Mthrown Mmany Mguest Mrow Mbars Mbar Mfresh Mtape Mtaped Mpos Mtoken MtokenAt Mvalue Mwrong MwrongAt MfaultKind MfaultPlace Mthing Morder Mone Mtwo Mbest Mcells Mgap Mwire Mstand Mruns Mminute Mhead Mplays Mrests Mwent Mout Mcame Mgone MlastOut 1 0 (by omega) (by omega) qMguest qMrow (by omega) qMbar qMfresh qMtape (by omega) (by omega) (by omega) (by omega) (by omega) (by omega) (by omega) (by omega) (by omega) (by omega) qMorder (by omega) (by omega) qMbest (by omega) (by omega) qMwire qMstand (by omega) (by omega) qMhead qMplays qMrests qMwent qMout qMcame qMgone (by omega) (by omega) (by omega)) (cwV 2 hts gX8_at_X8_fails rfl rfl rfl (by decide +kernel) ⟨Nat.le_of_ble_eq_true rfl, Nat.le_of_ble_eq_true rfl⟩) ⟨zPre_blind, va_recv hK hw.1 (ci := 8) (q0 := 0) rfl rfl, z_pre hK hw [0, 1, 2, 3, 4, 5, 6, 7, 8, 9, 10, 11, 12, 13, 14, 15, 16] (by decide) rfl⟩ rfl rfl hl.1 rfl (lv_room (Nat.le_of_ble_eq_true rfl)) dX8_at_18 ⟨Nat.zero_le _, Nat.zero_le _⟩) hw.2.2 (fun q _ h => hF9 q h) hF9 (fun r9 u9 t9 H_57 locs9 ht9 hvm9 hq9 hB9 hz9 hk9 hS9 => ?_)
      obtain ⟨r_58, Mthrown_59⟩ := u9
      try dsimp only at hq9 hB9
      obtain ⟨rfl, hq9⟩ := hq9
      obtain ⟨hq_60, hq_61, hq_62⟩ := hq9
      have hw : HW D A s.heap (kM cI cB cZ oM Mthrown_59 Mmany Mguest Mrow Mbars Mbar Mfresh Mtape Mtaped Mpos Mtoken MtokenAt Mvalue Mwrong MwrongAt MfaultKind MfaultPlace Mthing Morder Mone Mtwo Mbest Mcells Mgap Mwire Mstand Mruns Mminute Mhead Mplays Mrests Mwent Mout Mcame Mgone MlastOut) H_57 locs9 := z_after (wc := kM cI cB cZ oM Mthrown Mmany Mguest Mrow Mbars Mbar Mfresh Mtape Mtaped Mpos Mtoken MtokenAt Mvalue Mwrong MwrongAt MfaultKind MfaultPlace Mthing Morder Mone Mtwo Mbest Mcells Mgap Mwire Mstand Mruns Mminute Mhead Mplays Mrests Mwent Mout Mcame Mgone MlastOut) hw [0, 1, 2, 3, 4, 5, 6, 7, 8, 9, 10, 11, 12, 13, 14, 15, 16] [] rfl rfl (by decide) (by decide) hF9 hk9 ht9 hB9 hS9 [0, 1, 2, 3, 4, 5, 6, 7, 8, 9, 10, 11, 12, 13, 14, 15, 16] (by decide) rfl
      clear hF9 ht9 hvm9 hB9 hz9 hk9 hS9
      rcases hq_61 with ⟨hc_63, rfl⟩ | ⟨hc_63, rfl⟩
      · skip
        have hv_64 : (0 : Int) ≤ Mthrown_59 ∧ Mthrown_59 ≤ 2 := by
          first | assumption | omega | grind
        have hv_65 : ((1 : Int) = 1 ∧ ((¬ (0 ≤ g ∧ g < Mmany) ∧ Mthrown_59 = 1) ∨ ((0 ≤ g ∧ g < Mmany) ∧ Mruns = 0 ∧ Mthrown_59 = 2))) ∨ ((1 : Int) = 0 ∧ (0 ≤ g ∧ g < Mmany) ∧ Mruns = 1 ∧ Mthrown_59 = 0) := by
          first | assumption | omega | grind
        exact hj_1 (1, Mthrown_59) _ _ _ ⟨hv_64, hv_65, hw, lv_sub hl [0, 1, 2] rfl⟩
      · skip
        have hv_66 : (0 : Int) ≤ Mthrown_59 ∧ Mthrown_59 ≤ 2 := by
          first | assumption | omega | grind
        have hv_67 : ((0 : Int) = 1 ∧ ((¬ (0 ≤ g ∧ g < Mmany) ∧ Mthrown_59 = 1) ∨ ((0 ≤ g ∧ g < Mmany) ∧ Mruns = 0 ∧ Mthrown_59 = 2))) ∨ ((0 : Int) = 0 ∧ (0 ≤ g ∧ g < Mmany) ∧ Mruns = 1 ∧ Mthrown_59 = 0) := by
          first | assumption | omega | grind
        exact hj_1 (0, Mthrown_59) _ _ _ ⟨hv_66, hv_67, hw, lv_sub hl [0, 1, 2] rfl⟩
    · skip
      refine z_iconst hx hb dX8_at_13 ?_
      refine lv_goto (tgt := 18) hx hb dX8_at_14 (by decide) ?_
      have hF9 := z_free (wc := kM cI cB cZ oM Mthrown Mmany Mguest Mrow Mbars Mbar Mfresh Mtape Mtaped Mpos Mtoken MtokenAt Mvalue Mwrong MwrongAt MfaultKind MfaultPlace Mthing Morder Mone Mtwo Mbest Mcells Mgap Mwire Mstand Mruns Mminute Mhead Mplays Mrests Mwent Mout Mcame Mgone MlastOut) hw hA [0, 1, 2, 3, 4, 5, 6, 7, 8, 9, 10, 11, 12, 13, 14, 15, 16] rfl
      refine va_calli (va_runV (As := [.int (zI 1), .int (zI 1)]) (rest := []) ⟨hx, hb, hml, hown, hts⟩ (c_X8_fails l D cI cB cZ oM H_52.size Mthrown Mmany Mguest Mrow Mbars Mbar Mfresh Mtape Mtaped Mpos Mtoken MtokenAt Mvalue Mwrong MwrongAt MfaultKind MfaultPlace Mthing Morder Mone Mtwo Mbest Mcells Mgap Mwire Mstand Mruns Mminute Mhead Mplays Mrests Mwent Mout Mcame Mgone MlastOut 1 1 (by omega) (by omega) qMguest qMrow (by omega) qMbar qMfresh qMtape (by omega) (by omega) (by omega) (by omega) (by omega) (by omega) (by omega) (by omega) (by omega) (by omega) qMorder (by omega) (by omega) qMbest (by omega) (by omega) qMwire qMstand (by omega) (by omega) qMhead qMplays qMrests qMwent qMout qMcame qMgone (by omega) (by omega) (by omega)) (cwV 2 hts gX8_at_X8_fails rfl rfl rfl (by decide +kernel) ⟨Nat.le_of_ble_eq_true rfl, Nat.le_of_ble_eq_true rfl⟩) ⟨zPre_blind, va_recv hK hw.1 (ci := 8) (q0 := 0) rfl rfl, z_pre hK hw [0, 1, 2, 3, 4, 5, 6, 7, 8, 9, 10, 11, 12, 13, 14, 15, 16] (by decide) rfl⟩ rfl rfl hl.1 rfl (lv_room (Nat.le_of_ble_eq_true rfl)) dX8_at_18 ⟨Nat.zero_le _, Nat.zero_le _⟩) hw.2.2 (fun q _ h => hF9 q h) hF9 (fun r9 u9 t9 H_68 locs9 ht9 hvm9 hq9 hB9 hz9 hk9 hS9 => ?_)
      obtain ⟨r_69, Mthrown_70⟩ := u9
      try dsimp only at hq9 hB9
      obtain ⟨rfl, hq9⟩ := hq9
      obtain ⟨hq_71, hq_72, hq_73⟩ := hq9
      have hw : HW D A s.heap (kM cI cB cZ oM Mthrown_70 Mmany Mguest Mrow Mbars Mbar Mfresh Mtape Mtaped Mpos Mtoken MtokenAt Mvalue Mwrong MwrongAt MfaultKind MfaultPlace Mthing Morder Mone Mtwo Mbest Mcells Mgap Mwire Mstand Mruns Mminute Mhead Mplays Mrests Mwent Mout Mcame Mgone MlastOut) H_68 locs9 := z_after (wc := kM cI cB cZ oM Mthrown Mmany Mguest Mrow Mbars Mbar Mfresh Mtape Mtaped Mpos Mtoken MtokenAt Mvalue Mwrong MwrongAt MfaultKind MfaultPlace Mthing Morder Mone Mtwo Mbest Mcells Mgap Mwire Mstand Mruns Mminute Mhead Mplays Mrests Mwent Mout Mcame Mgone MlastOut) hw [0, 1, 2, 3, 4, 5, 6, 7, 8, 9, 10, 11, 12, 13, 14, 15, 16] [] rfl rfl (by decide) (by decide) hF9 hk9 ht9 hB9 hS9 [0, 1, 2, 3, 4, 5, 6, 7, 8, 9, 10, 11, 12, 13, 14, 15, 16] (by decide) rfl
      clear hF9 ht9 hvm9 hB9 hz9 hk9 hS9
      rcases hq_72 with ⟨hc_74, rfl⟩ | ⟨hc_74, rfl⟩
      · skip
        have hv_75 : (0 : Int) ≤ Mthrown_70 ∧ Mthrown_70 ≤ 2 := by
          first | assumption | omega | grind
        have hv_76 : ((1 : Int) = 1 ∧ ((¬ (0 ≤ g ∧ g < Mmany) ∧ Mthrown_70 = 1) ∨ ((0 ≤ g ∧ g < Mmany) ∧ Mruns = 0 ∧ Mthrown_70 = 2))) ∨ ((1 : Int) = 0 ∧ (0 ≤ g ∧ g < Mmany) ∧ Mruns = 1 ∧ Mthrown_70 = 0) := by
          first | assumption | omega | grind
        exact hj_1 (1, Mthrown_70) _ _ _ ⟨hv_75, hv_76, hw, lv_sub hl [0, 1, 2] rfl⟩
      · skip
        have hv_77 : (0 : Int) ≤ Mthrown_70 ∧ Mthrown_70 ≤ 2 := by
          first | assumption | omega | grind
        have hv_78 : ((0 : Int) = 1 ∧ ((¬ (0 ≤ g ∧ g < Mmany) ∧ Mthrown_70 = 1) ∨ ((0 ≤ g ∧ g < Mmany) ∧ Mruns = 0 ∧ Mthrown_70 = 2))) ∨ ((0 : Int) = 0 ∧ (0 ≤ g ∧ g < Mmany) ∧ Mruns = 1 ∧ Mthrown_70 = 0) := by
          first | assumption | omega | grind
        exact hj_1 (0, Mthrown_70) _ _ _ ⟨hv_77, hv_78, hw, lv_sub hl [0, 1, 2] rfl⟩
  · skip
    refine lv_aload_n hx hb dX8_at_6 rfl (lv_at hl 0 rfl) ?_
    refine va_get (D := D) (ci := 8) (v := .int (zI Mruns)) (C := RX8) (T := TX8) (N := 36) hx hb hts hinX8 hown hK hw.1 0 rfl rfl 26 (by decide) (hts (.fieldLink RX8 79 "CarnivalRoadModel" "runs" "Z") (by decide +kernel)) (fun _ h9 => h9) rfl dX8_at_7 ?_
    refine z_if_ne (tgt := 17) hx hb dX8_at_10 (by decide) (by omega) (fun hc_79 => ?_) (fun hc_79 => ?_)
    · skip
      refine z_iconst hx hb dX8_at_17 ?_
      have hF9 := z_free (wc := kM cI cB cZ oM Mthrown Mmany Mguest Mrow Mbars Mbar Mfresh Mtape Mtaped Mpos Mtoken MtokenAt Mvalue Mwrong MwrongAt MfaultKind MfaultPlace Mthing Morder Mone Mtwo Mbest Mcells Mgap Mwire Mstand Mruns Mminute Mhead Mplays Mrests Mwent Mout Mcame Mgone MlastOut) hw hA [0, 1, 2, 3, 4, 5, 6, 7, 8, 9, 10, 11, 12, 13, 14, 15, 16] rfl
      refine va_calli (va_runV (As := [.int (zI 0), .int (zI 0)]) (rest := []) ⟨hx, hb, hml, hown, hts⟩ (c_X8_fails l D cI cB cZ oM H_52.size Mthrown Mmany Mguest Mrow Mbars Mbar Mfresh Mtape Mtaped Mpos Mtoken MtokenAt Mvalue Mwrong MwrongAt MfaultKind MfaultPlace Mthing Morder Mone Mtwo Mbest Mcells Mgap Mwire Mstand Mruns Mminute Mhead Mplays Mrests Mwent Mout Mcame Mgone MlastOut 0 0 (by omega) (by omega) qMguest qMrow (by omega) qMbar qMfresh qMtape (by omega) (by omega) (by omega) (by omega) (by omega) (by omega) (by omega) (by omega) (by omega) (by omega) qMorder (by omega) (by omega) qMbest (by omega) (by omega) qMwire qMstand (by omega) (by omega) qMhead qMplays qMrests qMwent qMout qMcame qMgone (by omega) (by omega) (by omega)) (cwV 2 hts gX8_at_X8_fails rfl rfl rfl (by decide +kernel) ⟨Nat.le_of_ble_eq_true rfl, Nat.le_of_ble_eq_true rfl⟩) ⟨zPre_blind, va_recv hK hw.1 (ci := 8) (q0 := 0) rfl rfl, z_pre hK hw [0, 1, 2, 3, 4, 5, 6, 7, 8, 9, 10, 11, 12, 13, 14, 15, 16] (by decide) rfl⟩ rfl rfl hl.1 rfl (lv_room (Nat.le_of_ble_eq_true rfl)) dX8_at_18 ⟨Nat.zero_le _, Nat.zero_le _⟩) hw.2.2 (fun q _ h => hF9 q h) hF9 (fun r9 u9 t9 H_80 locs9 ht9 hvm9 hq9 hB9 hz9 hk9 hS9 => ?_)
      obtain ⟨r_81, Mthrown_82⟩ := u9
      try dsimp only at hq9 hB9
      obtain ⟨rfl, hq9⟩ := hq9
      obtain ⟨hq_83, hq_84, hq_85⟩ := hq9
      have hw : HW D A s.heap (kM cI cB cZ oM Mthrown_82 Mmany Mguest Mrow Mbars Mbar Mfresh Mtape Mtaped Mpos Mtoken MtokenAt Mvalue Mwrong MwrongAt MfaultKind MfaultPlace Mthing Morder Mone Mtwo Mbest Mcells Mgap Mwire Mstand Mruns Mminute Mhead Mplays Mrests Mwent Mout Mcame Mgone MlastOut) H_80 locs9 := z_after (wc := kM cI cB cZ oM Mthrown Mmany Mguest Mrow Mbars Mbar Mfresh Mtape Mtaped Mpos Mtoken MtokenAt Mvalue Mwrong MwrongAt MfaultKind MfaultPlace Mthing Morder Mone Mtwo Mbest Mcells Mgap Mwire Mstand Mruns Mminute Mhead Mplays Mrests Mwent Mout Mcame Mgone MlastOut) hw [0, 1, 2, 3, 4, 5, 6, 7, 8, 9, 10, 11, 12, 13, 14, 15, 16] [] rfl rfl (by decide) (by decide) hF9 hk9 ht9 hB9 hS9 [0, 1, 2, 3, 4, 5, 6, 7, 8, 9, 10, 11, 12, 13, 14, 15, 16] (by decide) rfl
      clear hF9 ht9 hvm9 hB9 hz9 hk9 hS9
      rcases hq_84 with ⟨hc_86, rfl⟩ | ⟨hc_86, rfl⟩
      · skip
        have hv_87 : (0 : Int) ≤ Mthrown_82 ∧ Mthrown_82 ≤ 2 := by
          first | assumption | omega | grind
        have hv_88 : ((1 : Int) = 1 ∧ ((¬ (0 ≤ g ∧ g < Mmany) ∧ Mthrown_82 = 1) ∨ ((0 ≤ g ∧ g < Mmany) ∧ Mruns = 0 ∧ Mthrown_82 = 2))) ∨ ((1 : Int) = 0 ∧ (0 ≤ g ∧ g < Mmany) ∧ Mruns = 1 ∧ Mthrown_82 = 0) := by
          first | assumption | omega | grind
        exact hj_1 (1, Mthrown_82) _ _ _ ⟨hv_87, hv_88, hw, lv_sub hl [0, 1, 2] rfl⟩
      · skip
        have hv_89 : (0 : Int) ≤ Mthrown_82 ∧ Mthrown_82 ≤ 2 := by
          first | assumption | omega | grind
        have hv_90 : ((0 : Int) = 1 ∧ ((¬ (0 ≤ g ∧ g < Mmany) ∧ Mthrown_82 = 1) ∨ ((0 ≤ g ∧ g < Mmany) ∧ Mruns = 0 ∧ Mthrown_82 = 2))) ∨ ((0 : Int) = 0 ∧ (0 ≤ g ∧ g < Mmany) ∧ Mruns = 1 ∧ Mthrown_82 = 0) := by
          first | assumption | omega | grind
        exact hj_1 (0, Mthrown_82) _ _ _ ⟨hv_89, hv_90, hw, lv_sub hl [0, 1, 2] rfl⟩
    · skip
      refine z_iconst hx hb dX8_at_13 ?_
      refine lv_goto (tgt := 18) hx hb dX8_at_14 (by decide) ?_
      have hF9 := z_free (wc := kM cI cB cZ oM Mthrown Mmany Mguest Mrow Mbars Mbar Mfresh Mtape Mtaped Mpos Mtoken MtokenAt Mvalue Mwrong MwrongAt MfaultKind MfaultPlace Mthing Morder Mone Mtwo Mbest Mcells Mgap Mwire Mstand Mruns Mminute Mhead Mplays Mrests Mwent Mout Mcame Mgone MlastOut) hw hA [0, 1, 2, 3, 4, 5, 6, 7, 8, 9, 10, 11, 12, 13, 14, 15, 16] rfl
      refine va_calli (va_runV (As := [.int (zI 0), .int (zI 1)]) (rest := []) ⟨hx, hb, hml, hown, hts⟩ (c_X8_fails l D cI cB cZ oM H_52.size Mthrown Mmany Mguest Mrow Mbars Mbar Mfresh Mtape Mtaped Mpos Mtoken MtokenAt Mvalue Mwrong MwrongAt MfaultKind MfaultPlace Mthing Morder Mone Mtwo Mbest Mcells Mgap Mwire Mstand Mruns Mminute Mhead Mplays Mrests Mwent Mout Mcame Mgone MlastOut 0 1 (by omega) (by omega) qMguest qMrow (by omega) qMbar qMfresh qMtape (by omega) (by omega) (by omega) (by omega) (by omega) (by omega) (by omega) (by omega) (by omega) (by omega) qMorder (by omega) (by omega) qMbest (by omega) (by omega) qMwire qMstand (by omega) (by omega) qMhead qMplays qMrests qMwent qMout qMcame qMgone (by omega) (by omega) (by omega)) (cwV 2 hts gX8_at_X8_fails rfl rfl rfl (by decide +kernel) ⟨Nat.le_of_ble_eq_true rfl, Nat.le_of_ble_eq_true rfl⟩) ⟨zPre_blind, va_recv hK hw.1 (ci := 8) (q0 := 0) rfl rfl, z_pre hK hw [0, 1, 2, 3, 4, 5, 6, 7, 8, 9, 10, 11, 12, 13, 14, 15, 16] (by decide) rfl⟩ rfl rfl hl.1 rfl (lv_room (Nat.le_of_ble_eq_true rfl)) dX8_at_18 ⟨Nat.zero_le _, Nat.zero_le _⟩) hw.2.2 (fun q _ h => hF9 q h) hF9 (fun r9 u9 t9 H_91 locs9 ht9 hvm9 hq9 hB9 hz9 hk9 hS9 => ?_)
      obtain ⟨r_92, Mthrown_93⟩ := u9
      try dsimp only at hq9 hB9
      obtain ⟨rfl, hq9⟩ := hq9
      obtain ⟨hq_94, hq_95, hq_96⟩ := hq9
      have hw : HW D A s.heap (kM cI cB cZ oM Mthrown_93 Mmany Mguest Mrow Mbars Mbar Mfresh Mtape Mtaped Mpos Mtoken MtokenAt Mvalue Mwrong MwrongAt MfaultKind MfaultPlace Mthing Morder Mone Mtwo Mbest Mcells Mgap Mwire Mstand Mruns Mminute Mhead Mplays Mrests Mwent Mout Mcame Mgone MlastOut) H_91 locs9 := z_after (wc := kM cI cB cZ oM Mthrown Mmany Mguest Mrow Mbars Mbar Mfresh Mtape Mtaped Mpos Mtoken MtokenAt Mvalue Mwrong MwrongAt MfaultKind MfaultPlace Mthing Morder Mone Mtwo Mbest Mcells Mgap Mwire Mstand Mruns Mminute Mhead Mplays Mrests Mwent Mout Mcame Mgone MlastOut) hw [0, 1, 2, 3, 4, 5, 6, 7, 8, 9, 10, 11, 12, 13, 14, 15, 16] [] rfl rfl (by decide) (by decide) hF9 hk9 ht9 hB9 hS9 [0, 1, 2, 3, 4, 5, 6, 7, 8, 9, 10, 11, 12, 13, 14, 15, 16] (by decide) rfl
      clear hF9 ht9 hvm9 hB9 hz9 hk9 hS9
      rcases hq_95 with ⟨hc_97, rfl⟩ | ⟨hc_97, rfl⟩
      · skip
        have hv_98 : (0 : Int) ≤ Mthrown_93 ∧ Mthrown_93 ≤ 2 := by
          first | assumption | omega | grind
        have hv_99 : ((1 : Int) = 1 ∧ ((¬ (0 ≤ g ∧ g < Mmany) ∧ Mthrown_93 = 1) ∨ ((0 ≤ g ∧ g < Mmany) ∧ Mruns = 0 ∧ Mthrown_93 = 2))) ∨ ((1 : Int) = 0 ∧ (0 ≤ g ∧ g < Mmany) ∧ Mruns = 1 ∧ Mthrown_93 = 0) := by
          first | assumption | omega | grind
        exact hj_1 (1, Mthrown_93) _ _ _ ⟨hv_98, hv_99, hw, lv_sub hl [0, 1, 2] rfl⟩
      · skip
        have hv_100 : (0 : Int) ≤ Mthrown_93 ∧ Mthrown_93 ≤ 2 := by
          first | assumption | omega | grind
        have hv_101 : ((0 : Int) = 1 ∧ ((¬ (0 ≤ g ∧ g < Mmany) ∧ Mthrown_93 = 1) ∨ ((0 ≤ g ∧ g < Mmany) ∧ Mruns = 0 ∧ Mthrown_93 = 2))) ∨ ((0 : Int) = 0 ∧ (0 ≤ g ∧ g < Mmany) ∧ Mruns = 1 ∧ Mthrown_93 = 0) := by
          first | assumption | omega | grind
        exact hj_1 (0, Mthrown_93) _ _ _ ⟨hv_100, hv_101, hw, lv_sub hl [0, 1, 2] rfl⟩
