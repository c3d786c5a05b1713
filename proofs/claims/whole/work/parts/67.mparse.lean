set_option maxRecDepth 100000 in
set_option maxHeartbeats 4000000 in
theorem c_X8_number (l : Launch) (D : va_G) (cI cB cZ : ClassId) (oM : Nat → Nat) (sz : Nat) (Mthrown : Int) (Mmany : Int) (Mguest : Int → Int) (Mrow : Int → Int) (Mbars : Int) (Mbar : Int → Int) (Mfresh : Int → Int) (Mtape : Int → Int) (Mtaped : Int) (Mpos : Int) (Mtoken : Int) (MtokenAt : Int) (Mvalue : Int) (Mwrong : Int) (MwrongAt : Int) (MfaultKind : Int) (MfaultPlace : Int) (Mthing : Int) (Morder : Int → Int) (Mone : Int) (Mtwo : Int) (Mbest : Int → Int) (Mcells : Int) (Mgap : Int) (Mwire : Int → Int) (Mstand : Int → Int) (Mruns : Int) (Mminute : Int) (Mhead : Int → Int) (Mplays : Int → Int) (Mrests : Int → Int) (Mwent : Int → Int) (Mout : Int → Int) (Mcame : Int → Int) (Mgone : Int → Int) (MlastOut : Int) (lo : Int) (hi : Int) (f : Int → Int) (q : QS) (qMthrown : 0 ≤ Mthrown ∧ Mthrown ≤ 2) (qMmany : 0 ≤ Mmany ∧ Mmany ≤ 8) (qMguest : RA Mguest (0) 9) (qMrow : RA Mrow (0) 7) (qMbars : 0 ≤ Mbars ∧ Mbars ≤ 10) (qMbar : RA Mbar (0) 104) (qMfresh : RA Mfresh (0) 104) (qMtape : RA Mtape (0) 255) (qMtaped : 0 ≤ Mtaped ∧ Mtaped ≤ 400) (qMpos : 0 ≤ Mpos ∧ Mpos ≤ 400) (qMtoken : 0 ≤ Mtoken ∧ Mtoken ≤ 15) (qMtokenAt : 0 ≤ MtokenAt ∧ MtokenAt ≤ 400) (qMvalue : 0 ≤ Mvalue ∧ Mvalue ≤ 99) (qMwrong : 0 ≤ Mwrong ∧ Mwrong ≤ 3) (qMwrongAt : 0 ≤ MwrongAt ∧ MwrongAt ≤ 400) (qMfaultKind : 0 ≤ MfaultKind ∧ MfaultKind ≤ 3) (qMfaultPlace : -1 ≤ MfaultPlace ∧ MfaultPlace ≤ 400) (qMthing : 0 ≤ Mthing ∧ Mthing ≤ 104) (qMorder : RA Morder (0) 7) (qMone : 0 ≤ Mone ∧ Mone ≤ 8) (qMtwo : 0 ≤ Mtwo ∧ Mtwo ≤ 8) (qMbest : RA Mbest (0) 7) (qMcells : 1 ≤ Mcells ∧ Mcells ≤ 50) (qMgap : 0 ≤ Mgap ∧ Mgap ≤ 3) (qMwire : RA Mwire (0) 9) (qMstand : RA Mstand (0) 9) (qMruns : 0 ≤ Mruns ∧ Mruns ≤ 1) (qMminute : 0 ≤ Mminute ∧ Mminute ≤ 1000000) (qMhead : RA Mhead (-1) 60) (qMplays : RA Mplays (0) 18) (qMrests : RA Mrests (0) 3) (qMwent : RA Mwent (0) 61) (qMout : RA Mout (0) 1) (qMcame : RA Mcame (-1) 1000000) (qMgone : RA Mgone (-1) 1000000) (qMlastOut : 0 ≤ MlastOut ∧ MlastOut ≤ 1000000) (qlo : 0 ≤ lo ∧ lo ≤ 18) (qhi : -1 ≤ hi ∧ hi ≤ 18) (hp0 : tpR Mtaped f Mtape) (hp1 : qM q Mwrong MwrongAt Mtoken MtokenAt Mpos Mvalue) (hp2 : Mpos ≤ Mtaped) (hp3 : okQ Mtaped q) (hp4 : q.1 = 0) : Met l yX8_number wsX8_number ({ frames := 3, cells := 0, slots := 0, locals := 66 }) (va_Pc [.ref (oM 0), .int (zI lo), .int (zI hi)] (zPre D cI cB cZ sz (kM cI cB cZ oM Mthrown Mmany Mguest Mrow Mbars Mbar Mfresh Mtape Mtaped Mpos Mtoken MtokenAt Mvalue Mwrong MwrongAt MfaultKind MfaultPlace Mthing Morder Mone Mtwo Mbest Mcells Mgap Mwire Mstand Mruns Mminute Mhead Mplays Mrests Mwent Mout Mcame Mgone MlastOut))) (va_Qi (fun (r9 : Int32) (u9 : Int × Int × Int × Int × Int × Int × Int × Int) => r9 = zI u9.1 ∧ (((0 : Int) ≤ u9.2.1 ∧ u9.2.1 ≤ 400) ∧ ((0 : Int) ≤ u9.2.2.1 ∧ u9.2.2.1 ≤ 15) ∧ ((0 : Int) ≤ u9.2.2.2.1 ∧ u9.2.2.2.1 ≤ 400) ∧ ((0 : Int) ≤ u9.2.2.2.2.1 ∧ u9.2.2.2.2.1 ≤ 99) ∧ ((0 : Int) ≤ u9.2.2.2.2.2.1 ∧ u9.2.2.2.2.2.1 ≤ 3) ∧ ((0 : Int) ≤ u9.2.2.2.2.2.2.1 ∧ u9.2.2.2.2.2.2.1 ≤ 400) ∧ ((0 : Int) ≤ u9.2.2.2.2.2.2.2 ∧ u9.2.2.2.2.2.2.2 ≤ 104) ∧ (((numQ f Mtaped lo hi q).2.1 = 0 ∧ u9.1 = 1) ∨ (¬ (numQ f Mtaped lo hi q).2.1 = 0 ∧ u9.1 = 0)) ∧ (qM (numQ f Mtaped lo hi q).2 u9.2.2.2.2.2.1 u9.2.2.2.2.2.2.1 u9.2.2.1 u9.2.2.2.1 u9.2.1 u9.2.2.2.2.1) ∧ (u9.2.1 ≤ Mtaped) ∧ ((numQ f Mtaped lo hi q).2.1 = 0 → u9.2.2.2.2.2.2.2 = (numQ f Mtaped lo hi q).1 ∧ lo ≤ u9.2.2.2.2.2.2.2 ∧ u9.2.2.2.2.2.2.2 ≤ hi))) (fun u9 t9 => zAt D cI cB cZ (va_A (kM cI cB cZ oM Mthrown Mmany Mguest Mrow Mbars Mbar Mfresh Mtape Mtaped Mpos Mtoken MtokenAt Mvalue Mwrong MwrongAt MfaultKind MfaultPlace Mthing Morder Mone Mtwo Mbest Mcells Mgap Mwire Mstand Mruns Mminute Mhead Mplays Mrests Mwent Mout Mcame Mgone MlastOut) sz) (kM cI cB cZ oM Mthrown Mmany Mguest Mrow Mbars Mbar Mfresh Mtape Mtaped (u9.2.1) (u9.2.2.1) (u9.2.2.2.1) (u9.2.2.2.2.1) (u9.2.2.2.2.2.1) (u9.2.2.2.2.2.2.1) MfaultKind MfaultPlace (u9.2.2.2.2.2.2.2) Morder Mone Mtwo Mbest Mcells Mgap Mwire Mstand Mruns Mminute Mhead Mplays Mrests Mwent Mout Mcame Mgone MlastOut) t9) (va_A (kM cI cB cZ oM Mthrown Mmany Mguest Mrow Mbars Mbar Mfresh Mtape Mtaped Mpos Mtoken MtokenAt Mvalue Mwrong MwrongAt MfaultKind MfaultPlace Mthing Morder Mone Mtwo Mbest Mcells Mgap Mwire Mstand Mruns Mminute Mhead Mplays Mrests Mwent Mout Mcame Mgone MlastOut) sz)) 0 0 (va_A (kM cI cB cZ oM Mthrown Mmany Mguest Mrow Mbars Mbar Mfresh Mtape Mtaped Mpos Mtoken MtokenAt Mvalue Mwrong MwrongAt MfaultKind MfaultPlace Mthing Morder Mone Mtwo Mbest Mcells Mgap Mwire Mstand Mruns Mminute Mhead Mplays Mrests Mwent Mout Mcame Mgone MlastOut) sz) := by
  refine Met.ofW (cc := cX8_number) (maxL := 3) (ret := (some .boolean)) (by decide) rfl ?_
  intro pp ee s mm aa bw mt cd s₁ BL hml hv
  obtain ⟨rfl, hsz, hP, hK, hD0⟩ := hv
  have hx := BL.exec
  have hb := BL.bytes
  have hr := BL.returns
  have hts := atoms_spec (ws := wsX8_number) BL.pre
  have hown : s.vm.findClass RX8 = some mm.cls := findClass_of_methodNamed BL.named
  have hlocks := BL.notSynchronized
  subst hsz
  generalize hAe : va_A (kM cI cB cZ oM Mthrown Mmany Mguest Mrow Mbars Mbar Mfresh Mtape Mtaped Mpos Mtoken MtokenAt Mvalue Mwrong MwrongAt MfaultKind MfaultPlace Mthing Morder Mone Mtwo Mbest Mcells Mgap Mwire Mstand Mruns Mminute Mhead Mplays Mrests Mwent Mout Mcame Mgone MlastOut) s.heap.size = A
  have hA : ∀ q : Nat, s.heap.size ≤ q → A q := fun q h => by rw [← hAe]; exact Or.inr h
  have hw : HW D A s.heap (kM cI cB cZ oM Mthrown Mmany Mguest Mrow Mbars Mbar Mfresh Mtape Mtaped Mpos Mtoken MtokenAt Mvalue Mwrong MwrongAt MfaultKind MfaultPlace Mthing Morder Mone Mtwo Mbest Mcells Mgap Mwire Mstand Mruns Mminute Mhead Mplays Mrests Mwent Mout Mcame Mgone MlastOut) s.heap [] := z_start hAe hP hD0
  clear hP hD0
  have hl := lv_entry ([.ref (oM 0), .int (zI lo), .int (zI hi)]) (n := 3) (Nat.le_of_ble_eq_true rfl)
  rw [lg_entry_eq]
  generalize (lg_sl ([.ref (oM 0), .int (zI lo), .int (zI hi)]) ++ List.replicate (3 - (lg_sl ([.ref (oM 0), .int (zI lo), .int (zI hi)])).length) Slot.unset).toArray = ls at hl ⊢
  have hl : lv_has ls 3 [(0, .ref (oM 0)), (1, .int (zI lo)), (2, .int (zI hi))] := hl
  have hinX8 : ∀ w ∈ wsX80, w ∈ wsX8_number := by decide +kernel
  have hq0 := hp1
  unfold qM at hq0
  obtain ⟨e1, e2, e3, e4, e5, e6⟩ := hq0
  have tk := tk_r hp3.1
  refine lv_aload_n hx hb dX8_number_0 rfl (lv_at hl 0 rfl) ?_
  refine va_get (D := D) (ci := 8) (v := .int (zI Mtoken)) (C := RX8) (T := TX8) (N := 36) hx hb hts hinX8 hown hK hw.1 0 rfl rfl 10 (by decide) (hts (.fieldLink RX8 120 "CarnivalRoadModel" "token" "I") (by decide +kernel)) (fun _ h9 => h9) rfl dX8_number_1 ?_
  refine z_iconst hx hb dX8_number_4 ?_
  refine z_icmp_eq (tgt := 14) hx hb dX8_number_5 (by decide) (by omega) (fun hc_1 => ?_) (fun hc_1 => ?_)
  · skip
    refine lv_aload_n hx hb dX8_number_14 rfl (lv_at hl 0 rfl) ?_
    refine va_get (D := D) (ci := 8) (v := .int (zI Mvalue)) (C := RX8) (T := TX8) (N := 36) hx hb hts hinX8 hown hK hw.1 0 rfl rfl 12 (by decide) (hts (.fieldLink RX8 130 "CarnivalRoadModel" "value" "I") (by decide +kernel)) (fun _ h9 => h9) rfl dX8_number_15 ?_
    refine lv_iload_n hx hb dX8_number_18 rfl (lv_at hl 1 rfl) ?_
    refine lv_iload_n hx hb dX8_number_19 rfl (lv_at hl 2 rfl) ?_
    have hF9 := z_free (wc := ([] : va_W)) hw hA [] rfl
    refine va_calli (va_runS (As := [.int (zI Mvalue), .int (zI lo), .int (zI hi)]) (rest := []) ⟨hx, hb, hml, hown, hts⟩ (c_X8_isIn l D cI cB cZ s.heap.size Mvalue lo hi (by omega) (by omega) (by omega)) (va_cwS 3 hts gX8_number_X8_isIn rfl rfl rfl (by decide +kernel) ⟨Nat.le_of_ble_eq_true rfl, Nat.le_of_ble_eq_true rfl⟩) ⟨zPre_blind, z_pre hK hw [] (by decide) rfl⟩ rfl rfl hl.1 rfl (lv_room (Nat.le_of_ble_eq_true rfl)) dX8_number_20 ⟨Nat.zero_le _, Nat.zero_le _⟩) hw.2.2 (fun q _ h => hF9 q h) hF9 (fun r9 u9 t9 H_2 locs9 ht9 hvm9 hq9 hB9 hz9 hk9 hS9 => ?_)
    obtain ⟨r_3, rfl⟩ : ∃ z, z = u9 := ⟨_, rfl⟩
    try dsimp only at hq9 hB9
    obtain ⟨rfl, hq9⟩ := hq9
    have hq_4 := hq9
    have hw : HW D A s.heap (kM cI cB cZ oM Mthrown Mmany Mguest Mrow Mbars Mbar Mfresh Mtape Mtaped Mpos Mtoken MtokenAt Mvalue Mwrong MwrongAt MfaultKind MfaultPlace Mthing Morder Mone Mtwo Mbest Mcells Mgap Mwire Mstand Mruns Mminute Mhead Mplays Mrests Mwent Mout Mcame Mgone MlastOut) H_2 locs9 := z_after (wc := ([] : va_W)) hw [] [0, 1, 2, 3, 4, 5, 6, 7, 8, 9, 10, 11, 12, 13, 14, 15, 16] rfl rfl (by decide) (by decide) hF9 hk9 ht9 hB9 hS9 [0, 1, 2, 3, 4, 5, 6, 7, 8, 9, 10, 11, 12, 13, 14, 15, 16] (by decide) rfl
    clear hF9 ht9 hvm9 hB9 hz9 hk9 hS9 hq9
    rcases hq_4 with ⟨hc_5, rfl⟩ | ⟨hc_5, rfl⟩
    · skip
      refine z_if_ne (tgt := 32) hx hb dX8_number_23 (by decide) (by omega) (fun hc_6 => ?_) (fun hc_6 => absurd hc_6 (by omega))
      refine lv_aload_n hx hb dX8_number_32 rfl (lv_at hl 0 rfl) ?_
      refine lv_aload_n hx hb dX8_number_33 rfl (lv_at hl 0 rfl) ?_
      refine va_get (D := D) (ci := 8) (v := .int (zI Mvalue)) (C := RX8) (T := TX8) (N := 36) hx hb hts hinX8 hown hK hw.1 0 rfl rfl 12 (by decide) (hts (.fieldLink RX8 130 "CarnivalRoadModel" "value" "I") (by decide +kernel)) (fun _ h9 => h9) rfl dX8_number_34 ?_
      refine z_put (D := D) (ci := 8) (v := .int (zI Mvalue)) (ty := .int) (C := RX8) (T := TX8) (N := 36) (ws2 := kM cI cB cZ oM Mthrown Mmany Mguest Mrow Mbars Mbar Mfresh Mtape Mtaped Mpos Mtoken MtokenAt Mvalue Mwrong MwrongAt MfaultKind MfaultPlace Mvalue Morder Mone Mtwo Mbest Mcells Mgap Mwire Mstand Mruns Mminute Mhead Mplays Mrests Mwent Mout Mcame Mgone MlastOut) hx hb hts hinX8 tyX8 tyX8_ok nmX8 hown hK hw 0 rfl rfl 17 (by decide) (hts (.fieldLink RX8 142 "CarnivalRoadModel" "thing" "I") (by decide +kernel)) (fun _ h9 => h9) rfl (by decide +kernel) rfl rfl (Nat.le_of_ble_eq_true rfl) dX8_number_37 rfl (fun H locs hw => ?_)
      refine lv_aload_n hx hb dX8_number_40 rfl (lv_at hl 0 rfl) ?_
      have hpre_7 : tpR Mtaped f Mtape := by
        first | assumption | omega
      have hpre_8 : qM q Mwrong MwrongAt Mtoken MtokenAt Mpos Mvalue := by
        first | assumption | omega
      have hpre_9 : Mpos ≤ Mtaped := by
        first | assumption | omega
      have hF9 := z_free (wc := kM cI cB cZ oM Mthrown Mmany Mguest Mrow Mbars Mbar Mfresh Mtape Mtaped Mpos Mtoken MtokenAt Mvalue Mwrong MwrongAt MfaultKind MfaultPlace Mvalue Morder Mone Mtwo Mbest Mcells Mgap Mwire Mstand Mruns Mminute Mhead Mplays Mrests Mwent Mout Mcame Mgone MlastOut) hw hA [0, 1, 2, 3, 4, 5, 6, 7, 8, 9, 10, 11, 12, 13, 14, 15, 16] rfl
      refine va_callv (va_runV (As := []) (rest := []) ⟨hx, hb, hml, hown, hts⟩ (c_X8_look0 l D cI cB cZ oM H.size Mthrown Mmany Mguest Mrow Mbars Mbar Mfresh Mtape Mtaped Mpos Mtoken MtokenAt Mvalue Mwrong MwrongAt MfaultKind MfaultPlace Mvalue Morder Mone Mtwo Mbest Mcells Mgap Mwire Mstand Mruns Mminute Mhead Mplays Mrests Mwent Mout Mcame Mgone MlastOut f q (by omega) (by omega) qMguest qMrow (by omega) qMbar qMfresh qMtape (by omega) (by omega) (by omega) (by omega) (by omega) (by omega) (by omega) (by omega) (by omega) (by omega) qMorder (by omega) (by omega) qMbest (by omega) (by omega) qMwire qMstand (by omega) (by omega) qMhead qMplays qMrests qMwent qMout qMcame qMgone (by omega) hpre_7 hpre_8 hpre_9) (cwV 0 hts gX8_number_X8_look0 rfl rfl rfl (by decide +kernel) ⟨Nat.le_of_ble_eq_true rfl, Nat.le_of_ble_eq_true rfl⟩) ⟨zPre_blind, va_recv hK hw.1 (ci := 8) (q0 := 0) rfl rfl, z_pre hK hw [0, 1, 2, 3, 4, 5, 6, 7, 8, 9, 10, 11, 12, 13, 14, 15, 16] (by decide) rfl⟩ rfl rfl hl.1 rfl (lv_room (Nat.le_of_ble_eq_true rfl)) dX8_number_41 ⟨Nat.zero_le _, Nat.zero_le _⟩) hw.2.2 (fun q _ h => hF9 q h) hF9 (fun u9 t9 H_10 locs9 ht9 hvm9 hq9 hB9 hz9 hk9 hS9 => ?_)
      obtain ⟨Mpos_11, Mtoken_12, MtokenAt_13, Mvalue_14⟩ := u9
      try dsimp only at hq9 hB9
      obtain ⟨hq_15, hq_16, hq_17, hq_18, hq_19, hq_20⟩ := hq9
      have hw : HW D A s.heap (kM cI cB cZ oM Mthrown Mmany Mguest Mrow Mbars Mbar Mfresh Mtape Mtaped Mpos_11 Mtoken_12 MtokenAt_13 Mvalue_14 Mwrong MwrongAt MfaultKind MfaultPlace Mvalue Morder Mone Mtwo Mbest Mcells Mgap Mwire Mstand Mruns Mminute Mhead Mplays Mrests Mwent Mout Mcame Mgone MlastOut) H_10 locs9 := z_after (wc := kM cI cB cZ oM Mthrown Mmany Mguest Mrow Mbars Mbar Mfresh Mtape Mtaped Mpos Mtoken MtokenAt Mvalue Mwrong MwrongAt MfaultKind MfaultPlace Mvalue Morder Mone Mtwo Mbest Mcells Mgap Mwire Mstand Mruns Mminute Mhead Mplays Mrests Mwent Mout Mcame Mgone MlastOut) hw [0, 1, 2, 3, 4, 5, 6, 7, 8, 9, 10, 11, 12, 13, 14, 15, 16] [] rfl rfl (by decide) (by decide) hF9 hk9 ht9 hB9 hS9 [0, 1, 2, 3, 4, 5, 6, 7, 8, 9, 10, 11, 12, 13, 14, 15, 16] (by decide) rfl
      clear hF9 ht9 hvm9 hB9 hz9 hk9 hS9
      refine z_iconst hx hb dX8_number_44 ?_
      have hv_21 : (0 : Int) ≤ Mpos_11 ∧ Mpos_11 ≤ 400 := by
        first | assumption | omega | grind
      have hv_22 : (0 : Int) ≤ Mtoken_12 ∧ Mtoken_12 ≤ 15 := by
        first | assumption | omega | grind
      have hv_23 : (0 : Int) ≤ MtokenAt_13 ∧ MtokenAt_13 ≤ 400 := by
        first | assumption | omega | grind
      have hv_24 : (0 : Int) ≤ Mvalue_14 ∧ Mvalue_14 ≤ 99 := by
        first | assumption | omega | grind
      have hv_25 : (0 : Int) ≤ Mwrong ∧ Mwrong ≤ 3 := by
        first | assumption | omega | grind
      have hv_26 : (0 : Int) ≤ MwrongAt ∧ MwrongAt ≤ 400 := by
        first | assumption | omega | grind
      have hv_27 : (0 : Int) ≤ Mvalue ∧ Mvalue ≤ 104 := by
        first | assumption | omega | grind
      have hv_28 : ((numQ f Mtaped lo hi q).2.1 = 0 ∧ (1 : Int) = 1) ∨ (¬ (numQ f Mtaped lo hi q).2.1 = 0 ∧ (1 : Int) = 0) := by
        have e7 := e6 (by omega)
        unfold numQ; rw [if_neg (by omega), if_neg (by omega), if_neg (by omega)]; exact Or.inl ⟨hp4, rfl⟩
      have hv_29 : qM (numQ f Mtaped lo hi q).2 Mwrong MwrongAt Mtoken_12 MtokenAt_13 Mpos_11 Mvalue_14 := by
        have e7 := e6 (by omega)
        unfold numQ; rw [if_neg (by omega), if_neg (by omega), if_neg (by omega)]; assumption
      have hv_30 : Mpos_11 ≤ Mtaped := by
        first | assumption | omega | grind
      have hv_31 : (numQ f Mtaped lo hi q).2.1 = 0 → Mvalue = (numQ f Mtaped lo hi q).1 ∧ lo ≤ Mvalue ∧ Mvalue ≤ hi := by
        have e7 := e6 (by omega)
        unfold numQ; rw [if_neg (by omega), if_neg (by omega), if_neg (by omega)]; intro z; exact ⟨e7, by omega, by omega⟩
      exact W.zret (v := zI 1) hx hb hr rfl (fun t9 ht hW => ⟨⟨zI 1, (1, Mpos_11, Mtoken_12, MtokenAt_13, Mvalue_14, Mwrong, MwrongAt, Mvalue), rfl, ⟨rfl, ⟨hv_21, hv_22, hv_23, hv_24, hv_25, hv_26, hv_27, hv_28, hv_29, hv_30, hv_31⟩⟩, by subst hAe; exact z_end hK hw ht hW⟩, by subst hAe; exact hw.2.2.F ht⟩) (by subst hAe; exact hw.2.2.2.2) dX8_number_45
    · skip
      refine z_if_ne (tgt := 32) hx hb dX8_number_23 (by decide) (by omega) (fun hc_32 => absurd hc_32 (by omega)) (fun hc_32 => ?_)
      refine lv_aload_n hx hb dX8_number_26 rfl (lv_at hl 0 rfl) ?_
      refine z_iconst hx hb dX8_number_27 ?_
      have hF9 := z_free (wc := kM cI cB cZ oM Mthrown Mmany Mguest Mrow Mbars Mbar Mfresh Mtape Mtaped Mpos Mtoken MtokenAt Mvalue Mwrong MwrongAt MfaultKind MfaultPlace Mthing Morder Mone Mtwo Mbest Mcells Mgap Mwire Mstand Mruns Mminute Mhead Mplays Mrests Mwent Mout Mcame Mgone MlastOut) hw hA [0, 1, 2, 3, 4, 5, 6, 7, 8, 9, 10, 11, 12, 13, 14, 15, 16] rfl
      refine va_calli (va_runV (As := [.int (zI 2)]) (rest := []) ⟨hx, hb, hml, hown, hts⟩ (c_X8_bad l D cI cB cZ oM H_2.size Mthrown Mmany Mguest Mrow Mbars Mbar Mfresh Mtape Mtaped Mpos Mtoken MtokenAt Mvalue Mwrong MwrongAt MfaultKind MfaultPlace Mthing Morder Mone Mtwo Mbest Mcells Mgap Mwire Mstand Mruns Mminute Mhead Mplays Mrests Mwent Mout Mcame Mgone MlastOut 2 (by omega) (by omega) qMguest qMrow (by omega) qMbar qMfresh qMtape (by omega) (by omega) (by omega) (by omega) (by omega) (by omega) (by omega) (by omega) (by omega) (by omega) qMorder (by omega) (by omega) qMbest (by omega) (by omega) qMwire qMstand (by omega) (by omega) qMhead qMplays qMrests qMwent qMout qMcame qMgone (by omega) (by omega)) (cwV 1 hts gX8_number_X8_bad rfl rfl rfl (by decide +kernel) ⟨Nat.le_of_ble_eq_true rfl, Nat.le_of_ble_eq_true rfl⟩) ⟨zPre_blind, va_recv hK hw.1 (ci := 8) (q0 := 0) rfl rfl, z_pre hK hw [0, 1, 2, 3, 4, 5, 6, 7, 8, 9, 10, 11, 12, 13, 14, 15, 16] (by decide) rfl⟩ rfl rfl hl.1 rfl (lv_room (Nat.le_of_ble_eq_true rfl)) dX8_number_28 ⟨Nat.zero_le _, Nat.zero_le _⟩) hw.2.2 (fun q _ h => hF9 q h) hF9 (fun r9 u9 t9 H_33 locs9 ht9 hvm9 hq9 hB9 hz9 hk9 hS9 => ?_)
      obtain ⟨r_34, Mwrong_35, MwrongAt_36⟩ := u9
      try dsimp only at hq9 hB9
      obtain ⟨rfl, hq9⟩ := hq9
      obtain ⟨hq_37, hq_38, hq_39, hq_40, hq_41⟩ := hq9
      have hw : HW D A s.heap (kM cI cB cZ oM Mthrown Mmany Mguest Mrow Mbars Mbar Mfresh Mtape Mtaped Mpos Mtoken MtokenAt Mvalue Mwrong_35 MwrongAt_36 MfaultKind MfaultPlace Mthing Morder Mone Mtwo Mbest Mcells Mgap Mwire Mstand Mruns Mminute Mhead Mplays Mrests Mwent Mout Mcame Mgone MlastOut) H_33 locs9 := z_after (wc := kM cI cB cZ oM Mthrown Mmany Mguest Mrow Mbars Mbar Mfresh Mtape Mtaped Mpos Mtoken MtokenAt Mvalue Mwrong MwrongAt MfaultKind MfaultPlace Mthing Morder Mone Mtwo Mbest Mcells Mgap Mwire Mstand Mruns Mminute Mhead Mplays Mrests Mwent Mout Mcame Mgone MlastOut) hw [0, 1, 2, 3, 4, 5, 6, 7, 8, 9, 10, 11, 12, 13, 14, 15, 16] [] rfl rfl (by decide) (by decide) hF9 hk9 ht9 hB9 hS9 [0, 1, 2, 3, 4, 5, 6, 7, 8, 9, 10, 11, 12, 13, 14, 15, 16] (by decide) rfl
      clear hF9 ht9 hvm9 hB9 hz9 hk9 hS9
      have hv_42 : (0 : Int) ≤ Mpos ∧ Mpos ≤ 400 := by
        first | assumption | omega | grind
      have hv_43 : (0 : Int) ≤ Mtoken ∧ Mtoken ≤ 15 := by
        first | assumption | omega | grind
      have hv_44 : (0 : Int) ≤ MtokenAt ∧ MtokenAt ≤ 400 := by
        first | assumption | omega | grind
      have hv_45 : (0 : Int) ≤ Mvalue ∧ Mvalue ≤ 99 := by
        first | assumption | omega | grind
      have hv_46 : (0 : Int) ≤ Mwrong_35 ∧ Mwrong_35 ≤ 3 := by
        first | assumption | omega | grind
      have hv_47 : (0 : Int) ≤ MwrongAt_36 ∧ MwrongAt_36 ≤ 400 := by
        first | assumption | omega | grind
      have hv_48 : (0 : Int) ≤ Mthing ∧ Mthing ≤ 104 := by
        first | assumption | omega | grind
      have hv_49 : ((numQ f Mtaped lo hi q).2.1 = 0 ∧ r_34 = 1) ∨ (¬ (numQ f Mtaped lo hi q).2.1 = 0 ∧ r_34 = 0) := by
        have e7 := e6 (by omega)
        unfold numQ; rw [if_neg (by omega), if_neg (by omega), if_pos (by omega)]; exact Or.inr ⟨by show ¬ (2 : Int) = 0; decide, by omega⟩
      have hv_50 : qM (numQ f Mtaped lo hi q).2 Mwrong_35 MwrongAt_36 Mtoken MtokenAt Mpos Mvalue := by
        have e7 := e6 (by omega)
        unfold numQ; rw [if_neg (by omega), if_neg (by omega), if_pos (by omega)]; subst_vars; exact ref_m hp1
      have hv_51 : Mpos ≤ Mtaped := by
        first | assumption | omega | grind
      have hv_52 : (numQ f Mtaped lo hi q).2.1 = 0 → Mthing = (numQ f Mtaped lo hi q).1 ∧ lo ≤ Mthing ∧ Mthing ≤ hi := by
        have e7 := e6 (by omega)
        unfold numQ; rw [if_neg (by omega), if_neg (by omega), if_pos (by omega)]; intro z; exact absurd z (by show ¬ (2 : Int) = 0; decide)
      exact W.zret (v := zI r_34) hx hb hr (z_narZ (by omega)) (fun t9 ht hW => ⟨⟨zI r_34, (r_34, Mpos, Mtoken, MtokenAt, Mvalue, Mwrong_35, MwrongAt_36, Mthing), rfl, ⟨rfl, ⟨hv_42, hv_43, hv_44, hv_45, hv_46, hv_47, hv_48, hv_49, hv_50, hv_51, hv_52⟩⟩, by subst hAe; exact z_end hK hw ht hW⟩, by subst hAe; exact hw.2.2.F ht⟩) (by subst hAe; exact hw.2.2.2.2) dX8_number_31
  · skip
    refine lv_aload_n hx hb dX8_number_8 rfl (lv_at hl 0 rfl) ?_
    refine z_iconst hx hb dX8_number_9 ?_
    have hF9 := z_free (wc := kM cI cB cZ oM Mthrown Mmany Mguest Mrow Mbars Mbar Mfresh Mtape Mtaped Mpos Mtoken MtokenAt Mvalue Mwrong MwrongAt MfaultKind MfaultPlace Mthing Morder Mone Mtwo Mbest Mcells Mgap Mwire Mstand Mruns Mminute Mhead Mplays Mrests Mwent Mout Mcame Mgone MlastOut) hw hA [0, 1, 2, 3, 4, 5, 6, 7, 8, 9, 10, 11, 12, 13, 14, 15, 16] rfl
    refine va_calli (va_runV (As := [.int (zI 1)]) (rest := []) ⟨hx, hb, hml, hown, hts⟩ (c_X8_bad l D cI cB cZ oM s.heap.size Mthrown Mmany Mguest Mrow Mbars Mbar Mfresh Mtape Mtaped Mpos Mtoken MtokenAt Mvalue Mwrong MwrongAt MfaultKind MfaultPlace Mthing Morder Mone Mtwo Mbest Mcells Mgap Mwire Mstand Mruns Mminute Mhead Mplays Mrests Mwent Mout Mcame Mgone MlastOut 1 (by omega) (by omega) qMguest qMrow (by omega) qMbar qMfresh qMtape (by omega) (by omega) (by omega) (by omega) (by omega) (by omega) (by omega) (by omega) (by omega) (by omega) qMorder (by omega) (by omega) qMbest (by omega) (by omega) qMwire qMstand (by omega) (by omega) qMhead qMplays qMrests qMwent qMout qMcame qMgone (by omega) (by omega)) (cwV 1 hts gX8_number_X8_bad rfl rfl rfl (by decide +kernel) ⟨Nat.le_of_ble_eq_true rfl, Nat.le_of_ble_eq_true rfl⟩) ⟨zPre_blind, va_recv hK hw.1 (ci := 8) (q0 := 0) rfl rfl, z_pre hK hw [0, 1, 2, 3, 4, 5, 6, 7, 8, 9, 10, 11, 12, 13, 14, 15, 16] (by decide) rfl⟩ rfl rfl hl.1 rfl (lv_room (Nat.le_of_ble_eq_true rfl)) dX8_number_10 ⟨Nat.zero_le _, Nat.zero_le _⟩) hw.2.2 (fun q _ h => hF9 q h) hF9 (fun r9 u9 t9 H_53 locs9 ht9 hvm9 hq9 hB9 hz9 hk9 hS9 => ?_)
    obtain ⟨r_54, Mwrong_55, MwrongAt_56⟩ := u9
    try dsimp only at hq9 hB9
    obtain ⟨rfl, hq9⟩ := hq9
    obtain ⟨hq_57, hq_58, hq_59, hq_60, hq_61⟩ := hq9
    have hw : HW D A s.heap (kM cI cB cZ oM Mthrown Mmany Mguest Mrow Mbars Mbar Mfresh Mtape Mtaped Mpos Mtoken MtokenAt Mvalue Mwrong_55 MwrongAt_56 MfaultKind MfaultPlace Mthing Morder Mone Mtwo Mbest Mcells Mgap Mwire Mstand Mruns Mminute Mhead Mplays Mrests Mwent Mout Mcame Mgone MlastOut) H_53 locs9 := z_after (wc := kM cI cB cZ oM Mthrown Mmany Mguest Mrow Mbars Mbar Mfresh Mtape Mtaped Mpos Mtoken MtokenAt Mvalue Mwrong MwrongAt MfaultKind MfaultPlace Mthing Morder Mone Mtwo Mbest Mcells Mgap Mwire Mstand Mruns Mminute Mhead Mplays Mrests Mwent Mout Mcame Mgone MlastOut) hw [0, 1, 2, 3, 4, 5, 6, 7, 8, 9, 10, 11, 12, 13, 14, 15, 16] [] rfl rfl (by decide) (by decide) hF9 hk9 ht9 hB9 hS9 [0, 1, 2, 3, 4, 5, 6, 7, 8, 9, 10, 11, 12, 13, 14, 15, 16] (by decide) rfl
    clear hF9 ht9 hvm9 hB9 hz9 hk9 hS9
    have hv_62 : (0 : Int) ≤ Mpos ∧ Mpos ≤ 400 := by
      first | assumption | omega | grind
    have hv_63 : (0 : Int) ≤ Mtoken ∧ Mtoken ≤ 15 := by
      first | assumption | omega | grind
    have hv_64 : (0 : Int) ≤ MtokenAt ∧ MtokenAt ≤ 400 := by
      first | assumption | omega | grind
    have hv_65 : (0 : Int) ≤ Mvalue ∧ Mvalue ≤ 99 := by
      first | assumption | omega | grind
    have hv_66 : (0 : Int) ≤ Mwrong_55 ∧ Mwrong_55 ≤ 3 := by
      first | assumption | omega | grind
    have hv_67 : (0 : Int) ≤ MwrongAt_56 ∧ MwrongAt_56 ≤ 400 := by
      first | assumption | omega | grind
    have hv_68 : (0 : Int) ≤ Mthing ∧ Mthing ≤ 104 := by
      first | assumption | omega | grind
    have hv_69 : ((numQ f Mtaped lo hi q).2.1 = 0 ∧ r_54 = 1) ∨ (¬ (numQ f Mtaped lo hi q).2.1 = 0 ∧ r_54 = 0) := by
      unfold numQ; rw [if_neg (by omega), if_pos (by omega)]; exact Or.inr ⟨by show ¬ (1 : Int) = 0; decide, by omega⟩
    have hv_70 : qM (numQ f Mtaped lo hi q).2 Mwrong_55 MwrongAt_56 Mtoken MtokenAt Mpos Mvalue := by
      unfold numQ; rw [if_neg (by omega), if_pos (by omega)]; subst_vars; exact ref_m hp1
    have hv_71 : Mpos ≤ Mtaped := by
      first | assumption | omega | grind
    have hv_72 : (numQ f Mtaped lo hi q).2.1 = 0 → Mthing = (numQ f Mtaped lo hi q).1 ∧ lo ≤ Mthing ∧ Mthing ≤ hi := by
      unfold numQ; rw [if_neg (by omega), if_pos (by omega)]; intro z; exact absurd z (by show ¬ (1 : Int) = 0; decide)
    exact W.zret (v := zI r_54) hx hb hr (z_narZ (by omega)) (fun t9 ht hW => ⟨⟨zI r_54, (r_54, Mpos, Mtoken, MtokenAt, Mvalue, Mwrong_55, MwrongAt_56, Mthing), rfl, ⟨rfl, ⟨hv_62, hv_63, hv_64, hv_65, hv_66, hv_67, hv_68, hv_69, hv_70, hv_71, hv_72⟩⟩, by subst hAe; exact z_end hK hw ht hW⟩, by subst hAe; exact hw.2.2.F ht⟩) (by subst hAe; exact hw.2.2.2.2) dX8_number_13
set_option maxRecDepth 100000 in
set_option maxHeartbeats 4000000 in
theorem c_X8_aThing (l : Launch) (D : va_G) (cI cB cZ : ClassId) (oM : Nat → Nat) (sz : Nat) (Mthrown : Int) (Mmany : Int) (Mguest : Int → Int) (Mrow : Int → Int) (Mbars : Int) (Mbar : Int → Int) (Mfresh : Int → Int) (Mtape : Int → Int) (Mtaped : Int) (Mpos : Int) (Mtoken : Int) (MtokenAt : Int) (Mvalue : Int) (Mwrong : Int) (MwrongAt : Int) (MfaultKind : Int) (MfaultPlace : Int) (Mthing : Int) (Morder : Int → Int) (Mone : Int) (Mtwo : Int) (Mbest : Int → Int) (Mcells : Int) (Mgap : Int) (Mwire : Int → Int) (Mstand : Int → Int) (Mruns : Int) (Mminute : Int) (Mhead : Int → Int) (Mplays : Int → Int) (Mrests : Int → Int) (Mwent : Int → Int) (Mout : Int → Int) (Mcame : Int → Int) (Mgone : Int → Int) (MlastOut : Int) (f : Int → Int) (q : QS) (qMthrown : 0 ≤ Mthrown ∧ Mthrown ≤ 2) (qMmany : 0 ≤ Mmany ∧ Mmany ≤ 8) (qMguest : RA Mguest (0) 9) (qMrow : RA Mrow (0) 7) (qMbars : 0 ≤ Mbars ∧ Mbars ≤ 10) (qMbar : RA Mbar (0) 104) (qMfresh : RA Mfresh (0) 104) (qMtape : RA Mtape (0) 255) (qMtaped : 0 ≤ Mtaped ∧ Mtaped ≤ 400) (qMpos : 0 ≤ Mpos ∧ Mpos ≤ 400) (qMtoken : 0 ≤ Mtoken ∧ Mtoken ≤ 15) (qMtokenAt : 0 ≤ MtokenAt ∧ MtokenAt ≤ 400) (qMvalue : 0 ≤ Mvalue ∧ Mvalue ≤ 99) (qMwrong : 0 ≤ Mwrong ∧ Mwrong ≤ 3) (qMwrongAt : 0 ≤ MwrongAt ∧ MwrongAt ≤ 400) (qMfaultKind : 0 ≤ MfaultKind ∧ MfaultKind ≤ 3) (qMfaultPlace : -1 ≤ MfaultPlace ∧ MfaultPlace ≤ 400) (qMthing : 0 ≤ Mthing ∧ Mthing ≤ 104) (qMorder : RA Morder (0) 7) (qMone : 0 ≤ Mone ∧ Mone ≤ 8) (qMtwo : 0 ≤ Mtwo ∧ Mtwo ≤ 8) (qMbest : RA Mbest (0) 7) (qMcells : 1 ≤ Mcells ∧ Mcells ≤ 50) (qMgap : 0 ≤ Mgap ∧ Mgap ≤ 3) (qMwire : RA Mwire (0) 9) (qMstand : RA Mstand (0) 9) (qMruns : 0 ≤ Mruns ∧ Mruns ≤ 1) (qMminute : 0 ≤ Mminute ∧ Mminute ≤ 1000000) (qMhead : RA Mhead (-1) 60) (qMplays : RA Mplays (0) 18) (qMrests : RA Mrests (0) 3) (qMwent : RA Mwent (0) 61) (qMout : RA Mout (0) 1) (qMcame : RA Mcame (-1) 1000000) (qMgone : RA Mgone (-1) 1000000) (qMlastOut : 0 ≤ MlastOut ∧ MlastOut ≤ 1000000) (hp0 : tpR Mtaped f Mtape) (hp1 : qM q Mwrong MwrongAt Mtoken MtokenAt Mpos Mvalue) (hp2 : Mpos ≤ Mtaped) (hp3 : okQ Mtaped q) (hp4 : q.1 = 0) : Met l yX8_aThing wsX8_aThing ({ frames := 4, cells := 0, slots := 0, locals := 88 }) (va_Pc [.ref (oM 0)] (zPre D cI cB cZ sz (kM cI cB cZ oM Mthrown Mmany Mguest Mrow Mbars Mbar Mfresh Mtape Mtaped Mpos Mtoken MtokenAt Mvalue Mwrong MwrongAt MfaultKind MfaultPlace Mthing Morder Mone Mtwo Mbest Mcells Mgap Mwire Mstand Mruns Mminute Mhead Mplays Mrests Mwent Mout Mcame Mgone MlastOut))) (va_Qi (fun (r9 : Int32) (u9 : Int × Int × Int × Int × Int × Int × Int × Int) => r9 = zI u9.1 ∧ (((0 : Int) ≤ u9.2.1 ∧ u9.2.1 ≤ 400) ∧ ((0 : Int) ≤ u9.2.2.1 ∧ u9.2.2.1 ≤ 15) ∧ ((0 : Int) ≤ u9.2.2.2.1 ∧ u9.2.2.2.1 ≤ 400) ∧ ((0 : Int) ≤ u9.2.2.2.2.1 ∧ u9.2.2.2.2.1 ≤ 99) ∧ ((0 : Int) ≤ u9.2.2.2.2.2.1 ∧ u9.2.2.2.2.2.1 ≤ 3) ∧ ((0 : Int) ≤ u9.2.2.2.2.2.2.1 ∧ u9.2.2.2.2.2.2.1 ≤ 400) ∧ ((0 : Int) ≤ u9.2.2.2.2.2.2.2 ∧ u9.2.2.2.2.2.2.2 ≤ 104) ∧ (((thQ f Mtaped Mmany q).2.1 = 0 ∧ u9.1 = 1) ∨ (¬ (thQ f Mtaped Mmany q).2.1 = 0 ∧ u9.1 = 0)) ∧ (qM (thQ f Mtaped Mmany q).2 u9.2.2.2.2.2.1 u9.2.2.2.2.2.2.1 u9.2.2.1 u9.2.2.2.1 u9.2.1 u9.2.2.2.2.1) ∧ (u9.2.1 ≤ Mtaped) ∧ ((thQ f Mtaped Mmany q).2.1 = 0 → u9.2.2.2.2.2.2.2 = thM (thQ f Mtaped Mmany q).1))) (fun u9 t9 => zAt D cI cB cZ (va_A (kM cI cB cZ oM Mthrown Mmany Mguest Mrow Mbars Mbar Mfresh Mtape Mtaped Mpos Mtoken MtokenAt Mvalue Mwrong MwrongAt MfaultKind MfaultPlace Mthing Morder Mone Mtwo Mbest Mcells Mgap Mwire Mstand Mruns Mminute Mhead Mplays Mrests Mwent Mout Mcame Mgone MlastOut) sz) (kM cI cB cZ oM Mthrown Mmany Mguest Mrow Mbars Mbar Mfresh Mtape Mtaped (u9.2.1) (u9.2.2.1) (u9.2.2.2.1) (u9.2.2.2.2.1) (u9.2.2.2.2.2.1) (u9.2.2.2.2.2.2.1) MfaultKind MfaultPlace (u9.2.2.2.2.2.2.2) Morder Mone Mtwo Mbest Mcells Mgap Mwire Mstand Mruns Mminute Mhead Mplays Mrests Mwent Mout Mcame Mgone MlastOut) t9) (va_A (kM cI cB cZ oM Mthrown Mmany Mguest Mrow Mbars Mbar Mfresh Mtape Mtaped Mpos Mtoken MtokenAt Mvalue Mwrong MwrongAt MfaultKind MfaultPlace Mthing Morder Mone Mtwo Mbest Mcells Mgap Mwire Mstand Mruns Mminute Mhead Mplays Mrests Mwent Mout Mcame Mgone MlastOut) sz)) 0 0 (va_A (kM cI cB cZ oM Mthrown Mmany Mguest Mrow Mbars Mbar Mfresh Mtape Mtaped Mpos Mtoken MtokenAt Mvalue Mwrong MwrongAt MfaultKind MfaultPlace Mthing Morder Mone Mtwo Mbest Mcells Mgap Mwire Mstand Mruns Mminute Mhead Mplays Mrests Mwent Mout Mcame Mgone MlastOut) sz) := by
  refine Met.ofW (cc := cX8_aThing) (maxL := 1) (ret := (some .boolean)) (by decide) rfl ?_
  intro pp ee s mm aa bw mt cd s₁ BL hml hv
  obtain ⟨rfl, hsz, hP, hK, hD0⟩ := hv
  have hx := BL.exec
  have hb := BL.bytes
  have hr := BL.returns
  have hts := atoms_spec (ws := wsX8_aThing) BL.pre
  have hown : s.vm.findClass RX8 = some mm.cls := findClass_of_methodNamed BL.named
  have hlocks := BL.notSynchronized
  subst hsz
  generalize hAe : va_A (kM cI cB cZ oM Mthrown Mmany Mguest Mrow Mbars Mbar Mfresh Mtape Mtaped Mpos Mtoken MtokenAt Mvalue Mwrong MwrongAt MfaultKind MfaultPlace Mthing Morder Mone Mtwo Mbest Mcells Mgap Mwire Mstand Mruns Mminute Mhead Mplays Mrests Mwent Mout Mcame Mgone MlastOut) s.heap.size = A
  have hA : ∀ q : Nat, s.heap.size ≤ q → A q := fun q h => by rw [← hAe]; exact Or.inr h
  have hw : HW D A s.heap (kM cI cB cZ oM Mthrown Mmany Mguest Mrow Mbars Mbar Mfresh Mtape Mtaped Mpos Mtoken MtokenAt Mvalue Mwrong MwrongAt MfaultKind MfaultPlace Mthing Morder Mone Mtwo Mbest Mcells Mgap Mwire Mstand Mruns Mminute Mhead Mplays Mrests Mwent Mout Mcame Mgone MlastOut) s.heap [] := z_start hAe hP hD0
  clear hP hD0
  have hl := lv_entry ([.ref (oM 0)]) (n := 1) (Nat.le_of_ble_eq_true rfl)
  rw [lg_entry_eq]
  generalize (lg_sl ([.ref (oM 0)]) ++ List.replicate (1 - (lg_sl ([.ref (oM 0)])).length) Slot.unset).toArray = ls at hl ⊢
  have hl : lv_has ls 1 [(0, .ref (oM 0))] := hl
  have hinX8 : ∀ w ∈ wsX80, w ∈ wsX8_aThing := by decide +kernel
  have hq0 := hp1
  unfold qM at hq0
  obtain ⟨e1, e2, e3, e4, e5, e6⟩ := hq0
  have tk := tk_r hp3.1
  refine lv_aload_n hx hb dX8_aThing_0 rfl (lv_at hl 0 rfl) ?_
  refine va_get (D := D) (ci := 8) (v := .int (zI Mtoken)) (C := RX8) (T := TX8) (N := 36) hx hb hts hinX8 hown hK hw.1 0 rfl rfl 10 (by decide) (hts (.fieldLink RX8 120 "CarnivalRoadModel" "token" "I") (by decide +kernel)) (fun _ h9 => h9) rfl dX8_aThing_1 ?_
  refine z_iconst hx hb dX8_aThing_4 ?_
  refine z_icmp_eq (tgt := 20) hx hb dX8_aThing_5 (by decide) (by omega) (fun hc_1 => ?_) (fun hc_1 => ?_)
  · skip
    refine lv_aload_n hx hb dX8_aThing_20 rfl (lv_at hl 0 rfl) ?_
    have hpre_2 : tpR Mtaped f Mtape := by
      first | assumption | omega
    have hpre_3 : qM q Mwrong MwrongAt Mtoken MtokenAt Mpos Mvalue := by
      first | assumption | omega
    have hpre_4 : Mpos ≤ Mtaped := by
      first | assumption | omega
    have hF9 := z_free (wc := kM cI cB cZ oM Mthrown Mmany Mguest Mrow Mbars Mbar Mfresh Mtape Mtaped Mpos Mtoken MtokenAt Mvalue Mwrong MwrongAt MfaultKind MfaultPlace Mthing Morder Mone Mtwo Mbest Mcells Mgap Mwire Mstand Mruns Mminute Mhead Mplays Mrests Mwent Mout Mcame Mgone MlastOut) hw hA [0, 1, 2, 3, 4, 5, 6, 7, 8, 9, 10, 11, 12, 13, 14, 15, 16] rfl
    refine va_callv (va_runV (As := []) (rest := []) ⟨hx, hb, hml, hown, hts⟩ (c_X8_look0 l D cI cB cZ oM s.heap.size Mthrown Mmany Mguest Mrow Mbars Mbar Mfresh Mtape Mtaped Mpos Mtoken MtokenAt Mvalue Mwrong MwrongAt MfaultKind MfaultPlace Mthing Morder Mone Mtwo Mbest Mcells Mgap Mwire Mstand Mruns Mminute Mhead Mplays Mrests Mwent Mout Mcame Mgone MlastOut f q (by omega) (by omega) qMguest qMrow (by omega) qMbar qMfresh qMtape (by omega) (by omega) (by omega) (by omega) (by omega) (by omega) (by omega) (by omega) (by omega) (by omega) qMorder (by omega) (by omega) qMbest (by omega) (by omega) qMwire qMstand (by omega) (by omega) qMhead qMplays qMrests qMwent qMout qMcame qMgone (by omega) hpre_2 hpre_3 hpre_4) (cwV 0 hts gX8_aThing_X8_look0 rfl rfl rfl (by decide +kernel) ⟨Nat.le_of_ble_eq_true rfl, Nat.le_of_ble_eq_true rfl⟩) ⟨zPre_blind, va_recv hK hw.1 (ci := 8) (q0 := 0) rfl rfl, z_pre hK hw [0, 1, 2, 3, 4, 5, 6, 7, 8, 9, 10, 11, 12, 13, 14, 15, 16] (by decide) rfl⟩ rfl rfl hl.1 rfl (lv_room (Nat.le_of_ble_eq_true rfl)) dX8_aThing_21 ⟨Nat.zero_le _, Nat.zero_le _⟩) hw.2.2 (fun q _ h => hF9 q h) hF9 (fun u9 t9 H_5 locs9 ht9 hvm9 hq9 hB9 hz9 hk9 hS9 => ?_)
    obtain ⟨Mpos_6, Mtoken_7, MtokenAt_8, Mvalue_9⟩ := u9
    try dsimp only at hq9 hB9
    obtain ⟨hq_10, hq_11, hq_12, hq_13, hq_14, hq_15⟩ := hq9
    have hw : HW D A s.heap (kM cI cB cZ oM Mthrown Mmany Mguest Mrow Mbars Mbar Mfresh Mtape Mtaped Mpos_6 Mtoken_7 MtokenAt_8 Mvalue_9 Mwrong MwrongAt MfaultKind MfaultPlace Mthing Morder Mone Mtwo Mbest Mcells Mgap Mwire Mstand Mruns Mminute Mhead Mplays Mrests Mwent Mout Mcame Mgone MlastOut) H_5 locs9 := z_after (wc := kM cI cB cZ oM Mthrown Mmany Mguest Mrow Mbars Mbar Mfresh Mtape Mtaped Mpos Mtoken MtokenAt Mvalue Mwrong MwrongAt MfaultKind MfaultPlace Mthing Morder Mone Mtwo Mbest Mcells Mgap Mwire Mstand Mruns Mminute Mhead Mplays Mrests Mwent Mout Mcame Mgone MlastOut) hw [0, 1, 2, 3, 4, 5, 6, 7, 8, 9, 10, 11, 12, 13, 14, 15, 16] [] rfl rfl (by decide) (by decide) hF9 hk9 ht9 hB9 hS9 [0, 1, 2, 3, 4, 5, 6, 7, 8, 9, 10, 11, 12, 13, 14, 15, 16] (by decide) rfl
    clear hF9 ht9 hvm9 hB9 hz9 hk9 hS9
    refine lv_aload_n hx hb dX8_aThing_24 rfl (lv_at hl 0 rfl) ?_
    refine z_iconst hx hb dX8_aThing_25 ?_
    refine z_iconst hx hb dX8_aThing_26 ?_
    have hpre_16 : tpR Mtaped f Mtape := by
      first | assumption | omega | exact ok_go hp3.2.1 | exact hp4
    have hpre_17 : qM (goF f Mtaped q) Mwrong MwrongAt Mtoken_7 MtokenAt_8 Mpos_6 Mvalue_9 := by
      first | assumption | omega | exact ok_go hp3.2.1 | exact hp4
    have hpre_18 : Mpos_6 ≤ Mtaped := by
      first | assumption | omega | exact ok_go hp3.2.1 | exact hp4
    have hpre_19 : okQ Mtaped (goF f Mtaped q) := by
      first | assumption | omega | exact ok_go hp3.2.1 | exact hp4
    have hpre_20 : (goF f Mtaped q).1 = 0 := by
      first | assumption | omega | exact ok_go hp3.2.1 | exact hp4
    have hF9 := z_free (wc := kM cI cB cZ oM Mthrown Mmany Mguest Mrow Mbars Mbar Mfresh Mtape Mtaped Mpos_6 Mtoken_7 MtokenAt_8 Mvalue_9 Mwrong MwrongAt MfaultKind MfaultPlace Mthing Morder Mone Mtwo Mbest Mcells Mgap Mwire Mstand Mruns Mminute Mhead Mplays Mrests Mwent Mout Mcame Mgone MlastOut) hw hA [0, 1, 2, 3, 4, 5, 6, 7, 8, 9, 10, 11, 12, 13, 14, 15, 16] rfl
    refine va_calli (va_runV (As := [.int (zI 0), .int (zI 4)]) (rest := []) ⟨hx, hb, hml, hown, hts⟩ (c_X8_number l D cI cB cZ oM H_5.size Mthrown Mmany Mguest Mrow Mbars Mbar Mfresh Mtape Mtaped Mpos_6 Mtoken_7 MtokenAt_8 Mvalue_9 Mwrong MwrongAt MfaultKind MfaultPlace Mthing Morder Mone Mtwo Mbest Mcells Mgap Mwire Mstand Mruns Mminute Mhead Mplays Mrests Mwent Mout Mcame Mgone MlastOut 0 4 f (goF f Mtaped q) (by omega) (by omega) qMguest qMrow (by omega) qMbar qMfresh qMtape (by omega) (by omega) (by omega) (by omega) (by omega) (by omega) (by omega) (by omega) (by omega) (by omega) qMorder (by omega) (by omega) qMbest (by omega) (by omega) qMwire qMstand (by omega) (by omega) qMhead qMplays qMrests qMwent qMout qMcame qMgone (by omega) (by omega) (by omega) hpre_16 hpre_17 hpre_18 hpre_19 hpre_20) (cwV 2 hts gX8_aThing_X8_number rfl rfl rfl (by decide +kernel) ⟨Nat.le_of_ble_eq_true rfl, Nat.le_of_ble_eq_true rfl⟩) ⟨zPre_blind, va_recv hK hw.1 (ci := 8) (q0 := 0) rfl rfl, z_pre hK hw [0, 1, 2, 3, 4, 5, 6, 7, 8, 9, 10, 11, 12, 13, 14, 15, 16] (by decide) rfl⟩ rfl rfl hl.1 rfl (lv_room (Nat.le_of_ble_eq_true rfl)) dX8_aThing_27 ⟨Nat.zero_le _, Nat.zero_le _⟩) hw.2.2 (fun q _ h => hF9 q h) hF9 (fun r9 u9 t9 H_21 locs9 ht9 hvm9 hq9 hB9 hz9 hk9 hS9 => ?_)
    obtain ⟨r_22, Mpos_23, Mtoken_24, MtokenAt_25, Mvalue_26, Mwrong_27, MwrongAt_28, Mthing_29⟩ := u9
    try dsimp only at hq9 hB9
    obtain ⟨rfl, hq9⟩ := hq9
    obtain ⟨hq_30, hq_31, hq_32, hq_33, hq_34, hq_35, hq_36, hq_37, hq_38, hq_39, hq_40⟩ := hq9
    have hw : HW D A s.heap (kM cI cB cZ oM Mthrown Mmany Mguest Mrow Mbars Mbar Mfresh Mtape Mtaped Mpos_23 Mtoken_24 MtokenAt_25 Mvalue_26 Mwrong_27 MwrongAt_28 MfaultKind MfaultPlace Mthing_29 Morder Mone Mtwo Mbest Mcells Mgap Mwire Mstand Mruns Mminute Mhead Mplays Mrests Mwent Mout Mcame Mgone MlastOut) H_21 locs9 := z_after (wc := kM cI cB cZ oM Mthrown Mmany Mguest Mrow Mbars Mbar Mfresh Mtape Mtaped Mpos_6 Mtoken_7 MtokenAt_8 Mvalue_9 Mwrong MwrongAt MfaultKind MfaultPlace Mthing Morder Mone Mtwo Mbest Mcells Mgap Mwire Mstand Mruns Mminute Mhead Mplays Mrests Mwent Mout Mcame Mgone MlastOut) hw [0, 1, 2, 3, 4, 5, 6, 7, 8, 9, 10, 11, 12, 13, 14, 15, 16] [] rfl rfl (by decide) (by decide) hF9 hk9 ht9 hB9 hS9 [0, 1, 2, 3, 4, 5, 6, 7, 8, 9, 10, 11, 12, 13, 14, 15, 16] (by decide) rfl
    clear hF9 ht9 hvm9 hB9 hz9 hk9 hS9
    rcases hq_37 with ⟨hc_41, rfl⟩ | ⟨hc_41, rfl⟩
    · skip
      refine z_if_ne (tgt := 35) hx hb dX8_aThing_30 (by decide) (by omega) (fun hc_42 => ?_) (fun hc_42 => absurd hc_42 (by omega))
      refine lv_aload_n hx hb dX8_aThing_35 rfl (lv_at hl 0 rfl) ?_
      refine lv_dup hx hb dX8_aThing_36 rfl ?_
      refine va_get (D := D) (ci := 8) (v := .int (zI Mthing_29)) (C := RX8) (T := TX8) (N := 36) hx hb hts hinX8 hown hK hw.1 0 rfl rfl 17 (by decide) (hts (.fieldLink RX8 142 "CarnivalRoadModel" "thing" "I") (by decide +kernel)) (fun _ h9 => h9) rfl dX8_aThing_37 ?_
      refine z_bipush hx hb dX8_aThing_40 (by decide) ?_
      refine z_iadd hx hb dX8_aThing_42 ?_
      refine z_put (D := D) (ci := 8) (v := .int (zI (Mthing_29 + 100))) (ty := .int) (C := RX8) (T := TX8) (N := 36) (ws2 := kM cI cB cZ oM Mthrown Mmany Mguest Mrow Mbars Mbar Mfresh Mtape Mtaped Mpos_23 Mtoken_24 MtokenAt_25 Mvalue_26 Mwrong_27 MwrongAt_28 MfaultKind MfaultPlace (Mthing_29 + 100) Morder Mone Mtwo Mbest Mcells Mgap Mwire Mstand Mruns Mminute Mhead Mplays Mrests Mwent Mout Mcame Mgone MlastOut) hx hb hts hinX8 tyX8 tyX8_ok nmX8 hown hK hw 0 rfl rfl 17 (by decide) (hts (.fieldLink RX8 142 "CarnivalRoadModel" "thing" "I") (by decide +kernel)) (fun _ h9 => h9) rfl (by decide +kernel) rfl rfl (Nat.le_of_ble_eq_true rfl) dX8_aThing_43 rfl (fun H locs hw => ?_)
      refine z_iconst hx hb dX8_aThing_46 ?_
      have hv_43 : (0 : Int) ≤ Mpos_23 ∧ Mpos_23 ≤ 400 := by
        first | assumption | omega | (have z := (by assumption : _ → _ = (numQ f Mtaped 0 4 (goF f Mtaped q)).1 ∧ _) (by assumption); omega)
      have hv_44 : (0 : Int) ≤ Mtoken_24 ∧ Mtoken_24 ≤ 15 := by
        first | assumption | omega | (have z := (by assumption : _ → _ = (numQ f Mtaped 0 4 (goF f Mtaped q)).1 ∧ _) (by assumption); omega)
      have hv_45 : (0 : Int) ≤ MtokenAt_25 ∧ MtokenAt_25 ≤ 400 := by
        first | assumption | omega | (have z := (by assumption : _ → _ = (numQ f Mtaped 0 4 (goF f Mtaped q)).1 ∧ _) (by assumption); omega)
      have hv_46 : (0 : Int) ≤ Mvalue_26 ∧ Mvalue_26 ≤ 99 := by
        first | assumption | omega | (have z := (by assumption : _ → _ = (numQ f Mtaped 0 4 (goF f Mtaped q)).1 ∧ _) (by assumption); omega)
      have hv_47 : (0 : Int) ≤ Mwrong_27 ∧ Mwrong_27 ≤ 3 := by
        first | assumption | omega | (have z := (by assumption : _ → _ = (numQ f Mtaped 0 4 (goF f Mtaped q)).1 ∧ _) (by assumption); omega)
      have hv_48 : (0 : Int) ≤ MwrongAt_28 ∧ MwrongAt_28 ≤ 400 := by
        first | assumption | omega | (have z := (by assumption : _ → _ = (numQ f Mtaped 0 4 (goF f Mtaped q)).1 ∧ _) (by assumption); omega)
      have hv_49 : (0 : Int) ≤ (Mthing_29 + 100) ∧ (Mthing_29 + 100) ≤ 104 := by
        first | assumption | omega | (have z := (by assumption : _ → _ = (numQ f Mtaped 0 4 (goF f Mtaped q)).1 ∧ _) (by assumption); omega)
      have hv_50 : ((thQ f Mtaped Mmany q).2.1 = 0 ∧ (1 : Int) = 1) ∨ (¬ (thQ f Mtaped Mmany q).2.1 = 0 ∧ (1 : Int) = 0) := by
        unfold thQ; rw [if_pos ⟨by omega, by omega⟩]; exact Or.inl ⟨by assumption, rfl⟩
      have hv_51 : qM (thQ f Mtaped Mmany q).2 Mwrong_27 MwrongAt_28 Mtoken_24 MtokenAt_25 Mpos_23 Mvalue_26 := by
        unfold thQ; rw [if_pos ⟨by omega, by omega⟩]; assumption
      have hv_52 : Mpos_23 ≤ Mtaped := by
        first | assumption | omega | grind
      have hv_53 : (thQ f Mtaped Mmany q).2.1 = 0 → (Mthing_29 + 100) = thM (thQ f Mtaped Mmany q).1 := by
        unfold thQ; rw [if_pos ⟨by omega, by omega⟩]; intro z
        have z2 := (by assumption : (numQ f Mtaped 0 4 (goF f Mtaped q)).2.1 = 0 → _) z
        unfold thM; dsimp only; rw [if_neg (by omega)]; omega
      exact W.zret (v := zI 1) hx hb hr rfl (fun t9 ht hW => ⟨⟨zI 1, (1, Mpos_23, Mtoken_24, MtokenAt_25, Mvalue_26, Mwrong_27, MwrongAt_28, (Mthing_29 + 100)), rfl, ⟨rfl, ⟨hv_43, hv_44, hv_45, hv_46, hv_47, hv_48, hv_49, hv_50, hv_51, hv_52, hv_53⟩⟩, by subst hAe; exact z_end hK hw ht hW⟩, by subst hAe; exact hw.2.2.F ht⟩) (by subst hAe; exact hw.2.2.2.2) dX8_aThing_47
    · skip
      refine z_if_ne (tgt := 35) hx hb dX8_aThing_30 (by decide) (by omega) (fun hc_54 => absurd hc_54 (by omega)) (fun hc_54 => ?_)
      refine z_iconst hx hb dX8_aThing_33 ?_
      have hv_55 : (0 : Int) ≤ Mpos_23 ∧ Mpos_23 ≤ 400 := by
        first | assumption | omega | grind
      have hv_56 : (0 : Int) ≤ Mtoken_24 ∧ Mtoken_24 ≤ 15 := by
        first | assumption | omega | grind
      have hv_57 : (0 : Int) ≤ MtokenAt_25 ∧ MtokenAt_25 ≤ 400 := by
        first | assumption | omega | grind
      have hv_58 : (0 : Int) ≤ Mvalue_26 ∧ Mvalue_26 ≤ 99 := by
        first | assumption | omega | grind
      have hv_59 : (0 : Int) ≤ Mwrong_27 ∧ Mwrong_27 ≤ 3 := by
        first | assumption | omega | grind
      have hv_60 : (0 : Int) ≤ MwrongAt_28 ∧ MwrongAt_28 ≤ 400 := by
        first | assumption | omega | grind
      have hv_61 : (0 : Int) ≤ Mthing_29 ∧ Mthing_29 ≤ 104 := by
        first | assumption | omega | grind
      have hv_62 : ((thQ f Mtaped Mmany q).2.1 = 0 ∧ (0 : Int) = 1) ∨ (¬ (thQ f Mtaped Mmany q).2.1 = 0 ∧ (0 : Int) = 0) := by
        unfold thQ; rw [if_pos ⟨by omega, by omega⟩]; exact Or.inr ⟨by assumption, rfl⟩
      have hv_63 : qM (thQ f Mtaped Mmany q).2 Mwrong_27 MwrongAt_28 Mtoken_24 MtokenAt_25 Mpos_23 Mvalue_26 := by
        unfold thQ; rw [if_pos ⟨by omega, by omega⟩]; assumption
      have hv_64 : Mpos_23 ≤ Mtaped := by
        first | assumption | omega | grind
      have hv_65 : (thQ f Mtaped Mmany q).2.1 = 0 → Mthing_29 = thM (thQ f Mtaped Mmany q).1 := by
        unfold thQ; rw [if_pos ⟨by omega, by omega⟩]; intro z; exact absurd z (by assumption)
      exact W.zret (v := zI 0) hx hb hr rfl (fun t9 ht hW => ⟨⟨zI 0, (0, Mpos_23, Mtoken_24, MtokenAt_25, Mvalue_26, Mwrong_27, MwrongAt_28, Mthing_29), rfl, ⟨rfl, ⟨hv_55, hv_56, hv_57, hv_58, hv_59, hv_60, hv_61, hv_62, hv_63, hv_64, hv_65⟩⟩, by subst hAe; exact z_end hK hw ht hW⟩, by subst hAe; exact hw.2.2.F ht⟩) (by subst hAe; exact hw.2.2.2.2) dX8_aThing_34
  · skip
    refine lv_aload_n hx hb dX8_aThing_8 rfl (lv_at hl 0 rfl) ?_
    refine z_iconst hx hb dX8_aThing_9 ?_
    refine lv_aload_n hx hb dX8_aThing_10 rfl (lv_at hl 0 rfl) ?_
    refine va_get (D := D) (ci := 8) (v := .int (zI Mmany)) (C := RX8) (T := TX8) (N := 36) hx hb hts hinX8 hown hK hw.1 0 rfl rfl 1 (by decide) (hts (.fieldLink RX8 72 "CarnivalRoadModel" "many" "I") (by decide +kernel)) (fun _ h9 => h9) rfl dX8_aThing_11 ?_
    refine z_iconst hx hb dX8_aThing_14 ?_
    refine z_isub hx hb dX8_aThing_15 ?_
    have hpre_66 : tpR Mtaped f Mtape := by
      first | assumption | omega
    have hpre_67 : qM q Mwrong MwrongAt Mtoken MtokenAt Mpos Mvalue := by
      first | assumption | omega
    have hpre_68 : Mpos ≤ Mtaped := by
      first | assumption | omega
    have hpre_69 : okQ Mtaped q := by
      first | assumption | omega
    have hpre_70 : q.1 = 0 := by
      first | assumption | omega
    have hF9 := z_free (wc := kM cI cB cZ oM Mthrown Mmany Mguest Mrow Mbars Mbar Mfresh Mtape Mtaped Mpos Mtoken MtokenAt Mvalue Mwrong MwrongAt MfaultKind MfaultPlace Mthing Morder Mone Mtwo Mbest Mcells Mgap Mwire Mstand Mruns Mminute Mhead Mplays Mrests Mwent Mout Mcame Mgone MlastOut) hw hA [0, 1, 2, 3, 4, 5, 6, 7, 8, 9, 10, 11, 12, 13, 14, 15, 16] rfl
    refine va_calli (va_runV (As := [.int (zI 0), .int (zI (Mmany - 1))]) (rest := []) ⟨hx, hb, hml, hown, hts⟩ (c_X8_number l D cI cB cZ oM s.heap.size Mthrown Mmany Mguest Mrow Mbars Mbar Mfresh Mtape Mtaped Mpos Mtoken MtokenAt Mvalue Mwrong MwrongAt MfaultKind MfaultPlace Mthing Morder Mone Mtwo Mbest Mcells Mgap Mwire Mstand Mruns Mminute Mhead Mplays Mrests Mwent Mout Mcame Mgone MlastOut 0 (Mmany - 1) f q (by omega) (by omega) qMguest qMrow (by omega) qMbar qMfresh qMtape (by omega) (by omega) (by omega) (by omega) (by omega) (by omega) (by omega) (by omega) (by omega) (by omega) qMorder (by omega) (by omega) qMbest (by omega) (by omega) qMwire qMstand (by omega) (by omega) qMhead qMplays qMrests qMwent qMout qMcame qMgone (by omega) (by omega) (by omega) hpre_66 hpre_67 hpre_68 hpre_69 hpre_70) (cwV 2 hts gX8_aThing_X8_number rfl rfl rfl (by decide +kernel) ⟨Nat.le_of_ble_eq_true rfl, Nat.le_of_ble_eq_true rfl⟩) ⟨zPre_blind, va_recv hK hw.1 (ci := 8) (q0 := 0) rfl rfl, z_pre hK hw [0, 1, 2, 3, 4, 5, 6, 7, 8, 9, 10, 11, 12, 13, 14, 15, 16] (by decide) rfl⟩ rfl rfl hl.1 rfl (lv_room (Nat.le_of_ble_eq_true rfl)) dX8_aThing_16 ⟨Nat.zero_le _, Nat.zero_le _⟩) hw.2.2 (fun q _ h => hF9 q h) hF9 (fun r9 u9 t9 H_71 locs9 ht9 hvm9 hq9 hB9 hz9 hk9 hS9 => ?_)
    obtain ⟨r_72, Mpos_73, Mtoken_74, MtokenAt_75, Mvalue_76, Mwrong_77, MwrongAt_78, Mthing_79⟩ := u9
    try dsimp only at hq9 hB9
    obtain ⟨rfl, hq9⟩ := hq9
    obtain ⟨hq_80, hq_81, hq_82, hq_83, hq_84, hq_85, hq_86, hq_87, hq_88, hq_89, hq_90⟩ := hq9
    have hw : HW D A s.heap (kM cI cB cZ oM Mthrown Mmany Mguest Mrow Mbars Mbar Mfresh Mtape Mtaped Mpos_73 Mtoken_74 MtokenAt_75 Mvalue_76 Mwrong_77 MwrongAt_78 MfaultKind MfaultPlace Mthing_79 Morder Mone Mtwo Mbest Mcells Mgap Mwire Mstand Mruns Mminute Mhead Mplays Mrests Mwent Mout Mcame Mgone MlastOut) H_71 locs9 := z_after (wc := kM cI cB cZ oM Mthrown Mmany Mguest Mrow Mbars Mbar Mfresh Mtape Mtaped Mpos Mtoken MtokenAt Mvalue Mwrong MwrongAt MfaultKind MfaultPlace Mthing Morder Mone Mtwo Mbest Mcells Mgap Mwire Mstand Mruns Mminute Mhead Mplays Mrests Mwent Mout Mcame Mgone MlastOut) hw [0, 1, 2, 3, 4, 5, 6, 7, 8, 9, 10, 11, 12, 13, 14, 15, 16] [] rfl rfl (by decide) (by decide) hF9 hk9 ht9 hB9 hS9 [0, 1, 2, 3, 4, 5, 6, 7, 8, 9, 10, 11, 12, 13, 14, 15, 16] (by decide) rfl
    clear hF9 ht9 hvm9 hB9 hz9 hk9 hS9
    rcases hq_87 with ⟨hc_91, rfl⟩ | ⟨hc_91, rfl⟩
    · skip
      have hv_92 : (0 : Int) ≤ Mpos_73 ∧ Mpos_73 ≤ 400 := by
        first | assumption | omega | grind
      have hv_93 : (0 : Int) ≤ Mtoken_74 ∧ Mtoken_74 ≤ 15 := by
        first | assumption | omega | grind
      have hv_94 : (0 : Int) ≤ MtokenAt_75 ∧ MtokenAt_75 ≤ 400 := by
        first | assumption | omega | grind
      have hv_95 : (0 : Int) ≤ Mvalue_76 ∧ Mvalue_76 ≤ 99 := by
        first | assumption | omega | grind
      have hv_96 : (0 : Int) ≤ Mwrong_77 ∧ Mwrong_77 ≤ 3 := by
        first | assumption | omega | grind
      have hv_97 : (0 : Int) ≤ MwrongAt_78 ∧ MwrongAt_78 ≤ 400 := by
        first | assumption | omega | grind
      have hv_98 : (0 : Int) ≤ Mthing_79 ∧ Mthing_79 ≤ 104 := by
        first | assumption | omega | grind
      have hv_99 : ((thQ f Mtaped Mmany q).2.1 = 0 ∧ (1 : Int) = 1) ∨ (¬ (thQ f Mtaped Mmany q).2.1 = 0 ∧ (1 : Int) = 0) := by
        unfold thQ; rw [if_neg (by omega)]; first | exact Or.inl ⟨by assumption, rfl⟩ | exact Or.inr ⟨by assumption, rfl⟩
      have hv_100 : qM (thQ f Mtaped Mmany q).2 Mwrong_77 MwrongAt_78 Mtoken_74 MtokenAt_75 Mpos_73 Mvalue_76 := by
        unfold thQ; rw [if_neg (by omega)]; assumption
      have hv_101 : Mpos_73 ≤ Mtaped := by
        first | assumption | omega | grind
      have hv_102 : (thQ f Mtaped Mmany q).2.1 = 0 → Mthing_79 = thM (thQ f Mtaped Mmany q).1 := by
        unfold thQ; rw [if_neg (by omega)]; intro z
        have z2 := (by assumption : (numQ f Mtaped 0 (Mmany - 1) q).2.1 = 0 → _) z
        unfold thM; rw [if_pos (by omega)]; omega
      exact W.zret (v := zI 1) hx hb hr rfl (fun t9 ht hW => ⟨⟨zI 1, (1, Mpos_73, Mtoken_74, MtokenAt_75, Mvalue_76, Mwrong_77, MwrongAt_78, Mthing_79), rfl, ⟨rfl, ⟨hv_92, hv_93, hv_94, hv_95, hv_96, hv_97, hv_98, hv_99, hv_100, hv_101, hv_102⟩⟩, by subst hAe; exact z_end hK hw ht hW⟩, by subst hAe; exact hw.2.2.F ht⟩) (by subst hAe; exact hw.2.2.2.2) dX8_aThing_19
    · skip
      have hv_103 : (0 : Int) ≤ Mpos_73 ∧ Mpos_73 ≤ 400 := by
        first | assumption | omega | grind
      have hv_104 : (0 : Int) ≤ Mtoken_74 ∧ Mtoken_74 ≤ 15 := by
        first | assumption | omega | grind
      have hv_105 : (0 : Int) ≤ MtokenAt_75 ∧ MtokenAt_75 ≤ 400 := by
        first | assumption | omega | grind
      have hv_106 : (0 : Int) ≤ Mvalue_76 ∧ Mvalue_76 ≤ 99 := by
        first | assumption | omega | grind
      have hv_107 : (0 : Int) ≤ Mwrong_77 ∧ Mwrong_77 ≤ 3 := by
        first | assumption | omega | grind
      have hv_108 : (0 : Int) ≤ MwrongAt_78 ∧ MwrongAt_78 ≤ 400 := by
        first | assumption | omega | grind
      have hv_109 : (0 : Int) ≤ Mthing_79 ∧ Mthing_79 ≤ 104 := by
        first | assumption | omega | grind
      have hv_110 : ((thQ f Mtaped Mmany q).2.1 = 0 ∧ (0 : Int) = 1) ∨ (¬ (thQ f Mtaped Mmany q).2.1 = 0 ∧ (0 : Int) = 0) := by
        unfold thQ; rw [if_neg (by omega)]; first | exact Or.inl ⟨by assumption, rfl⟩ | exact Or.inr ⟨by assumption, rfl⟩
      have hv_111 : qM (thQ f Mtaped Mmany q).2 Mwrong_77 MwrongAt_78 Mtoken_74 MtokenAt_75 Mpos_73 Mvalue_76 := by
        unfold thQ; rw [if_neg (by omega)]; assumption
      have hv_112 : Mpos_73 ≤ Mtaped := by
        first | assumption | omega | grind
      have hv_113 : (thQ f Mtaped Mmany q).2.1 = 0 → Mthing_79 = thM (thQ f Mtaped Mmany q).1 := by
        unfold thQ; rw [if_neg (by omega)]; intro z
        have z2 := (by assumption : (numQ f Mtaped 0 (Mmany - 1) q).2.1 = 0 → _) z
        unfold thM; rw [if_pos (by omega)]; omega
      exact W.zret (v := zI 0) hx hb hr rfl (fun t9 ht hW => ⟨⟨zI 0, (0, Mpos_73, Mtoken_74, MtokenAt_75, Mvalue_76, Mwrong_77, MwrongAt_78, Mthing_79), rfl, ⟨rfl, ⟨hv_103, hv_104, hv_105, hv_106, hv_107, hv_108, hv_109, hv_110, hv_111, hv_112, hv_113⟩⟩, by subst hAe; exact z_end hK hw ht hW⟩, by subst hAe; exact hw.2.2.F ht⟩) (by subst hAe; exact hw.2.2.2.2) dX8_aThing_19
