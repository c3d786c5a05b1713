set_option maxRecDepth 100000 in
set_option maxHeartbeats 4000000 in
theorem c_X8_run (l : Launch) (D : va_G) (cI cB cZ : ClassId) (oM : Nat → Nat) (sz : Nat) (Mthrown : Int) (Mmany : Int) (Mguest : Int → Int) (Mrow : Int → Int) (Mbars : Int) (Mbar : Int → Int) (Mfresh : Int → Int) (Mtape : Int → Int) (Mtaped : Int) (Mpos : Int) (Mtoken : Int) (MtokenAt : Int) (Mvalue : Int) (Mwrong : Int) (MwrongAt : Int) (MfaultKind : Int) (MfaultPlace : Int) (Mthing : Int) (Morder : Int → Int) (Mone : Int) (Mtwo : Int) (Mbest : Int → Int) (Mcells : Int) (Mgap : Int) (Mwire : Int → Int) (Mstand : Int → Int) (Mruns : Int) (Mminute : Int) (Mhead : Int → Int) (Mplays : Int → Int) (Mrests : Int → Int) (Mwent : Int → Int) (Mout : Int → Int) (Mcame : Int → Int) (Mgone : Int → Int) (MlastOut : Int) (t : Int) (ki : Int → Int) (le : Int → Int) (lo : Int → Int) (ta : Int → Int) (sh : Int → Int) (ln : Int → Int) (stn : Int → Int) (s0 : PS) (qMthrown : 0 ≤ Mthrown ∧ Mthrown ≤ 2) (qMmany : 0 ≤ Mmany ∧ Mmany ≤ 8) (qMguest : RA Mguest (0) 9) (qMrow : RA Mrow (0) 7) (qMbars : 0 ≤ Mbars ∧ Mbars ≤ 10) (qMbar : RA Mbar (0) 104) (qMfresh : RA Mfresh (0) 104) (qMtape : RA Mtape (0) 255) (qMtaped : 0 ≤ Mtaped ∧ Mtaped ≤ 400) (qMpos : 0 ≤ Mpos ∧ Mpos ≤ 400) (qMtoken : 0 ≤ Mtoken ∧ Mtoken ≤ 15) (qMtokenAt : 0 ≤ MtokenAt ∧ MtokenAt ≤ 400) (qMvalue : 0 ≤ Mvalue ∧ Mvalue ≤ 99) (qMwrong : 0 ≤ Mwrong ∧ Mwrong ≤ 3) (qMwrongAt : 0 ≤ MwrongAt ∧ MwrongAt ≤ 400) (qMfaultKind : 0 ≤ MfaultKind ∧ MfaultKind ≤ 3) (qMfaultPlace : -1 ≤ MfaultPlace ∧ MfaultPlace ≤ 400) (qMthing : 0 ≤ Mthing ∧ Mthing ≤ 104) (qMorder : RA Morder (0) 7) (qMone : 0 ≤ Mone ∧ Mone ≤ 8) (qMtwo : 0 ≤ Mtwo ∧ Mtwo ≤ 8) (qMbest : RA Mbest (0) 7) (qMcells : 1 ≤ Mcells ∧ Mcells ≤ 50) (qMgap : 0 ≤ Mgap ∧ Mgap ≤ 3) (qMwire : RA Mwire (0) 9) (qMstand : RA Mstand (0) 9) (qMruns : 0 ≤ Mruns ∧ Mruns ≤ 1) (qMminute : 0 ≤ Mminute ∧ Mminute ≤ 1000000) (qMhead : RA Mhead (-1) 60) (qMplays : RA Mplays (0) 18) (qMrests : RA Mrests (0) 3) (qMwent : RA Mwent (0) 61) (qMout : RA Mout (0) 1) (qMcame : RA Mcame (-1) 1000000) (qMgone : RA Mgone (-1) 1000000) (qMlastOut : 0 ≤ MlastOut ∧ MlastOut ≤ 1000000) (qt : -2147483648 ≤ t ∧ t ≤ 2147483647) (hp0 : permP Mmany Mrow) (hp1 : gRel Mmany ki le lo ta sh Mguest) (hp2 : ∀ i, 0 ≤ i → i < Mmany → Mrow i = ln i) (hp3 : ∀ c, 0 ≤ c → c < Mcells → Mstand c = stn c) (hp4 : Mruns = 1 → runR Mmany le Mcells Mrow Mhead Mplays Mrests Mwent Mout Mcame Mgone MlastOut Mminute s0 ∧ Mminute ≤ 900000) : Met l yX8_run wsX8_run ({ frames := 3, cells := 0, slots := 0, locals := 71 }) (va_Pc [.ref (oM 0), .int (zI t)] (zPre D cI cB cZ sz (kM cI cB cZ oM Mthrown Mmany Mguest Mrow Mbars Mbar Mfresh Mtape Mtaped Mpos Mtoken MtokenAt Mvalue Mwrong MwrongAt MfaultKind MfaultPlace Mthing Morder Mone Mtwo Mbest Mcells Mgap Mwire Mstand Mruns Mminute Mhead Mplays Mrests Mwent Mout Mcame Mgone MlastOut))) (va_Qi (fun (r9 : Int32) (u9 : Int × Int × Int × (Int → Int) × (Int → Int) × (Int → Int) × (Int → Int) × (Int → Int) × (Int → Int) × (Int → Int) × Int) => r9 = zI u9.1 ∧ (((0 : Int) ≤ u9.2.1 ∧ u9.2.1 ≤ 2) ∧ ((0 : Int) ≤ u9.2.2.1 ∧ u9.2.2.1 ≤ 1000000) ∧ (RA u9.2.2.2.1 (-1) 60) ∧ (RA u9.2.2.2.2.1 (0) 18) ∧ (RA u9.2.2.2.2.2.1 (0) 3) ∧ (RA u9.2.2.2.2.2.2.1 (0) 61) ∧ (RA u9.2.2.2.2.2.2.2.1 (0) 1) ∧ (RA u9.2.2.2.2.2.2.2.2.1 (-1) 1000000) ∧ (RA u9.2.2.2.2.2.2.2.2.2.1 (-1) 1000000) ∧ ((0 : Int) ≤ u9.2.2.2.2.2.2.2.2.2.2 ∧ u9.2.2.2.2.2.2.2.2.2.2 ≤ 1000000) ∧ ((Mruns = 0 ∧ u9.2.1 = 1 ∧ u9.2.2.1 = Mminute ∧ u9.2.2.2.1 = Mhead ∧ u9.2.2.2.2.1 = Mplays ∧ u9.2.2.2.2.2.1 = Mrests ∧ u9.2.2.2.2.2.2.1 = Mwent ∧ u9.2.2.2.2.2.2.2.1 = Mout ∧ u9.2.2.2.2.2.2.2.2.1 = Mcame ∧ u9.2.2.2.2.2.2.2.2.2.1 = Mgone ∧ u9.2.2.2.2.2.2.2.2.2.2 = MlastOut) ∨ (Mruns = 1 ∧ u9.2.1 = 0 ∧ ¬ (0 ≤ t ∧ t ≤ 500) ∧ u9.1 = -1 ∧ u9.2.2.1 = Mminute ∧ u9.2.2.2.1 = Mhead ∧ u9.2.2.2.2.1 = Mplays ∧ u9.2.2.2.2.2.1 = Mrests ∧ u9.2.2.2.2.2.2.1 = Mwent ∧ u9.2.2.2.2.2.2.2.1 = Mout ∧ u9.2.2.2.2.2.2.2.2.1 = Mcame ∧ u9.2.2.2.2.2.2.2.2.2.1 = Mgone ∧ u9.2.2.2.2.2.2.2.2.2.2 = MlastOut) ∨ (Mruns = 1 ∧ u9.2.1 = 0 ∧ (0 ≤ t ∧ t ≤ 500) ∧ ∃ k : Nat, u9.1 = (k : Int) ∧ (k : Int) ≤ t ∧ u9.2.2.1 = Mminute + (k : Int) ∧ runR Mmany le Mcells Mrow u9.2.2.2.1 u9.2.2.2.2.1 u9.2.2.2.2.2.1 u9.2.2.2.2.2.2.1 u9.2.2.2.2.2.2.2.1 u9.2.2.2.2.2.2.2.2.1 u9.2.2.2.2.2.2.2.2.2.1 u9.2.2.2.2.2.2.2.2.2.2 u9.2.2.1 (runK ki le Mcells Mgap stn ln Mmany Mminute s0 k) ∧ ((k : Int) = t ∨ allP ln Mmany (runK ki le Mcells Mgap stn ln Mmany Mminute s0 k).2.2.2) ∧ ∀ j : Nat, j < k → ¬ allP ln Mmany (runK ki le Mcells Mgap stn ln Mmany Mminute s0 j).2.2.2)))) (fun u9 t9 => zAt D cI cB cZ (va_A (kM cI cB cZ oM Mthrown Mmany Mguest Mrow Mbars Mbar Mfresh Mtape Mtaped Mpos Mtoken MtokenAt Mvalue Mwrong MwrongAt MfaultKind MfaultPlace Mthing Morder Mone Mtwo Mbest Mcells Mgap Mwire Mstand Mruns Mminute Mhead Mplays Mrests Mwent Mout Mcame Mgone MlastOut) sz) (kM cI cB cZ oM (u9.2.1) Mmany Mguest Mrow Mbars Mbar Mfresh Mtape Mtaped Mpos Mtoken MtokenAt Mvalue Mwrong MwrongAt MfaultKind MfaultPlace Mthing Morder Mone Mtwo Mbest Mcells Mgap Mwire Mstand Mruns (u9.2.2.1) (u9.2.2.2.1) (u9.2.2.2.2.1) (u9.2.2.2.2.2.1) (u9.2.2.2.2.2.2.1) (u9.2.2.2.2.2.2.2.1) (u9.2.2.2.2.2.2.2.2.1) (u9.2.2.2.2.2.2.2.2.2.1) (u9.2.2.2.2.2.2.2.2.2.2)) t9) (va_A (kM cI cB cZ oM Mthrown Mmany Mguest Mrow Mbars Mbar Mfresh Mtape Mtaped Mpos Mtoken MtokenAt Mvalue Mwrong MwrongAt MfaultKind MfaultPlace Mthing Morder Mone Mtwo Mbest Mcells Mgap Mwire Mstand Mruns Mminute Mhead Mplays Mrests Mwent Mout Mcame Mgone MlastOut) sz)) 0 0 (va_A (kM cI cB cZ oM Mthrown Mmany Mguest Mrow Mbars Mbar Mfresh Mtape Mtaped Mpos Mtoken MtokenAt Mvalue Mwrong MwrongAt MfaultKind MfaultPlace Mthing Morder Mone Mtwo Mbest Mcells Mgap Mwire Mstand Mruns Mminute Mhead Mplays Mrests Mwent Mout Mcame Mgone MlastOut) sz) := by
  refine Met.ofW (cc := cX8_run) (maxL := 5) (ret := (some .int)) (by decide) rfl ?_
  intro pp ee s mm aa bw mt cd s₁ BL hml hv
  obtain ⟨rfl, hsz, hP, hK, hD0⟩ := hv
  have hx := BL.exec
  have hb := BL.bytes
  have hr := BL.returns
  have hts := atoms_spec (ws := wsX8_run) BL.pre
  have hown : s.vm.findClass RX8 = some mm.cls := findClass_of_methodNamed BL.named
  have hlocks := BL.notSynchronized
  subst hsz
  generalize hAe : va_A (kM cI cB cZ oM Mthrown Mmany Mguest Mrow Mbars Mbar Mfresh Mtape Mtaped Mpos Mtoken MtokenAt Mvalue Mwrong MwrongAt MfaultKind MfaultPlace Mthing Morder Mone Mtwo Mbest Mcells Mgap Mwire Mstand Mruns Mminute Mhead Mplays Mrests Mwent Mout Mcame Mgone MlastOut) s.heap.size = A
  have hA : ∀ q : Nat, s.heap.size ≤ q → A q := fun q h => by rw [← hAe]; exact Or.inr h
  have hw : HW D A s.heap (kM cI cB cZ oM Mthrown Mmany Mguest Mrow Mbars Mbar Mfresh Mtape Mtaped Mpos Mtoken MtokenAt Mvalue Mwrong MwrongAt MfaultKind MfaultPlace Mthing Morder Mone Mtwo Mbest Mcells Mgap Mwire Mstand Mruns Mminute Mhead Mplays Mrests Mwent Mout Mcame Mgone MlastOut) s.heap [] := z_start hAe hP hD0
  clear hP hD0
  have hl := lv_entry ([.ref (oM 0), .int (zI t)]) (n := 5) (Nat.le_of_ble_eq_true rfl)
  rw [lg_entry_eq]
  generalize (lg_sl ([.ref (oM 0), .int (zI t)]) ++ List.replicate (5 - (lg_sl ([.ref (oM 0), .int (zI t)])).length) Slot.unset).toArray = ls at hl ⊢
  have hl : lv_has ls 5 [(0, .ref (oM 0)), (1, .int (zI t))] := hl
  have hinX8 : ∀ w ∈ wsX80, w ∈ wsX8_run := by decide +kernel
  refine lv_aload_n hx hb dX8_run_0 rfl (lv_at hl 0 rfl) ?_
  refine lv_aload_n hx hb dX8_run_1 rfl (lv_at hl 0 rfl) ?_
  refine va_get (D := D) (ci := 8) (v := .int (zI Mruns)) (C := RX8) (T := TX8) (N := 36) hx hb hts hinX8 hown hK hw.1 0 rfl rfl 26 (by decide) (hts (.fieldLink RX8 79 "CarnivalRoadModel" "runs" "Z") (by decide +kernel)) (fun _ h9 => h9) rfl dX8_run_2 ?_
  refine z_if_ne (tgt := 12) hx hb dX8_run_5 (by decide) (by omega) (fun hc_1 => ?_) (fun hc_1 => ?_)
  · skip
    refine z_iconst hx hb dX8_run_12 ?_
    refine z_iconst hx hb dX8_run_13 ?_
    have hF9 := z_free (wc := kM cI cB cZ oM Mthrown Mmany Mguest Mrow Mbars Mbar Mfresh Mtape Mtaped Mpos Mtoken MtokenAt Mvalue Mwrong MwrongAt MfaultKind MfaultPlace Mthing Morder Mone Mtwo Mbest Mcells Mgap Mwire Mstand Mruns Mminute Mhead Mplays Mrests Mwent Mout Mcame Mgone MlastOut) hw hA [0, 1, 2, 3, 4, 5, 6, 7, 8, 9, 10, 11, 12, 13, 14, 15, 16] rfl
    refine va_calli (va_runV (As := [.int (zI 0), .int (zI 0)]) (rest := []) ⟨hx, hb, hml, hown, hts⟩ (c_X8_fails l D cI cB cZ oM s.heap.size Mthrown Mmany Mguest Mrow Mbars Mbar Mfresh Mtape Mtaped Mpos Mtoken MtokenAt Mvalue Mwrong MwrongAt MfaultKind MfaultPlace Mthing Morder Mone Mtwo Mbest Mcells Mgap Mwire Mstand Mruns Mminute Mhead Mplays Mrests Mwent Mout Mcame Mgone MlastOut 0 0 (by omega) (by omega) qMguest qMrow (by omega) qMbar qMfresh qMtape (by omega) (by omega) (by omega) (by omega) (by omega) (by omega) (by omega) (by omega) (by omega) (by omega) qMorder (by omega) (by omega) qMbest (by omega) (by omega) qMwire qMstand (by omega) (by omega) qMhead qMplays qMrests qMwent qMout qMcame qMgone (by omega) (by omega) (by omega)) (cwV 2 hts gX8_run_X8_fails rfl rfl rfl (by decide +kernel) ⟨Nat.le_of_ble_eq_true rfl, Nat.le_of_ble_eq_true rfl⟩) ⟨zPre_blind, va_recv hK hw.1 (ci := 8) (q0 := 0) rfl rfl, z_pre hK hw [0, 1, 2, 3, 4, 5, 6, 7, 8, 9, 10, 11, 12, 13, 14, 15, 16] (by decide) rfl⟩ rfl rfl hl.1 rfl (lv_room (Nat.le_of_ble_eq_true rfl)) dX8_run_14 ⟨Nat.zero_le _, Nat.zero_le _⟩) hw.2.2 (fun q _ h => hF9 q h) hF9 (fun r9 u9 t9 H_2 locs9 ht9 hvm9 hq9 hB9 hz9 hk9 hS9 => ?_)
    obtain ⟨r_3, Mthrown_4⟩ := u9
    try dsimp only at hq9 hB9
    obtain ⟨rfl, hq9⟩ := hq9
    obtain ⟨hq_5, hq_6, hq_7⟩ := hq9
    have hw : HW D A s.heap (kM cI cB cZ oM Mthrown_4 Mmany Mguest Mrow Mbars Mbar Mfresh Mtape Mtaped Mpos Mtoken MtokenAt Mvalue Mwrong MwrongAt MfaultKind MfaultPlace Mthing Morder Mone Mtwo Mbest Mcells Mgap Mwire Mstand Mruns Mminute Mhead Mplays Mrests Mwent Mout Mcame Mgone MlastOut) H_2 locs9 := z_after (wc := kM cI cB cZ oM Mthrown Mmany Mguest Mrow Mbars Mbar Mfresh Mtape Mtaped Mpos Mtoken MtokenAt Mvalue Mwrong MwrongAt MfaultKind MfaultPlace Mthing Morder Mone Mtwo Mbest Mcells Mgap Mwire Mstand Mruns Mminute Mhead Mplays Mrests Mwent Mout Mcame Mgone MlastOut) hw [0, 1, 2, 3, 4, 5, 6, 7, 8, 9, 10, 11, 12, 13, 14, 15, 16] [] rfl rfl (by decide) (by decide) hF9 hk9 ht9 hB9 hS9 [0, 1, 2, 3, 4, 5, 6, 7, 8, 9, 10, 11, 12, 13, 14, 15, 16] (by decide) rfl
    clear hF9 ht9 hvm9 hB9 hz9 hk9 hS9
    rcases hq_6 with ⟨hc_8, rfl⟩ | ⟨hc_8, rfl⟩
    · skip
      refine z_if_eq (tgt := 22) hx hb dX8_run_17 (by decide) (by omega) (fun hc_9 => absurd hc_9 (by omega)) (fun hc_9 => ?_)
      refine z_iconst hx hb dX8_run_20 ?_
      have hv_10 : (0 : Int) ≤ Mthrown_4 ∧ Mthrown_4 ≤ 2 := by
        first | assumption | omega | grind
      have hv_11 : (0 : Int) ≤ Mminute ∧ Mminute ≤ 1000000 := by
        first | assumption | omega | grind
      have hv_12 : (0 : Int) ≤ MlastOut ∧ MlastOut ≤ 1000000 := by
        first | assumption | omega | grind
      have hv_13 : (Mruns = 0 ∧ Mthrown_4 = 1 ∧ Mminute = Mminute ∧ Mhead = Mhead ∧ Mplays = Mplays ∧ Mrests = Mrests ∧ Mwent = Mwent ∧ Mout = Mout ∧ Mcame = Mcame ∧ Mgone = Mgone ∧ MlastOut = MlastOut) ∨ (Mruns = 1 ∧ Mthrown_4 = 0 ∧ ¬ (0 ≤ t ∧ t ≤ 500) ∧ (0 : Int) = -1 ∧ Mminute = Mminute ∧ Mhead = Mhead ∧ Mplays = Mplays ∧ Mrests = Mrests ∧ Mwent = Mwent ∧ Mout = Mout ∧ Mcame = Mcame ∧ Mgone = Mgone ∧ MlastOut = MlastOut) ∨ (Mruns = 1 ∧ Mthrown_4 = 0 ∧ (0 ≤ t ∧ t ≤ 500) ∧ ∃ k : Nat, (0 : Int) = (k : Int) ∧ (k : Int) ≤ t ∧ Mminute = Mminute + (k : Int) ∧ runR Mmany le Mcells Mrow Mhead Mplays Mrests Mwent Mout Mcame Mgone MlastOut Mminute (runK ki le Mcells Mgap stn ln Mmany Mminute s0 k) ∧ ((k : Int) = t ∨ allP ln Mmany (runK ki le Mcells Mgap stn ln Mmany Mminute s0 k).2.2.2) ∧ ∀ j : Nat, j < k → ¬ allP ln Mmany (runK ki le Mcells Mgap stn ln Mmany Mminute s0 j).2.2.2) := by
        exact Or.inl ⟨by omega, by omega, rfl, rfl, rfl, rfl, rfl, rfl, rfl, rfl, rfl⟩
      exact W.iret (v := zI 0) hx hb hr (fun t9 ht hW => ⟨⟨zI 0, (0, Mthrown_4, Mminute, Mhead, Mplays, Mrests, Mwent, Mout, Mcame, Mgone, MlastOut), rfl, ⟨rfl, ⟨hv_10, hv_11, qMhead, qMplays, qMrests, qMwent, qMout, qMcame, qMgone, hv_12, hv_13⟩⟩, by subst hAe; exact z_end hK hw ht hW⟩, by subst hAe; exact hw.2.2.F ht⟩) (by subst hAe; exact hw.2.2.2.2) dX8_run_21
    · skip
      refine z_if_eq (tgt := 22) hx hb dX8_run_17 (by decide) (by omega) (fun hc_14 => ?_) (fun hc_14 => absurd hc_14 (by omega))
      refine lv_iload_n hx hb dX8_run_22 rfl (lv_at hl 1 rfl) ?_
      refine z_iconst hx hb dX8_run_23 ?_
      refine z_sipush hx hb dX8_run_24 (by decide) ?_
      have hF9 := z_free (wc := ([] : va_W)) hw hA [] rfl
      refine va_calli (va_runS (As := [.int (zI t), .int (zI 0), .int (zI 500)]) (rest := []) ⟨hx, hb, hml, hown, hts⟩ (c_X8_isIn l D cI cB cZ H_2.size t 0 500 (by omega) (by omega) (by omega)) (va_cwS 3 hts gX8_run_X8_isIn rfl rfl rfl (by decide +kernel) ⟨Nat.le_of_ble_eq_true rfl, Nat.le_of_ble_eq_true rfl⟩) ⟨zPre_blind, z_pre hK hw [] (by decide) rfl⟩ rfl rfl hl.1 rfl (lv_room (Nat.le_of_ble_eq_true rfl)) dX8_run_27 ⟨Nat.zero_le _, Nat.zero_le _⟩) hw.2.2 (fun q _ h => hF9 q h) hF9 (fun r9 u9 t9 H_15 locs9 ht9 hvm9 hq9 hB9 hz9 hk9 hS9 => ?_)
      obtain ⟨r_16, rfl⟩ : ∃ z, z = u9 := ⟨_, rfl⟩
      try dsimp only at hq9 hB9
      obtain ⟨rfl, hq9⟩ := hq9
      have hq_17 := hq9
      have hw : HW D A s.heap (kM cI cB cZ oM Mthrown_4 Mmany Mguest Mrow Mbars Mbar Mfresh Mtape Mtaped Mpos Mtoken MtokenAt Mvalue Mwrong MwrongAt MfaultKind MfaultPlace Mthing Morder Mone Mtwo Mbest Mcells Mgap Mwire Mstand Mruns Mminute Mhead Mplays Mrests Mwent Mout Mcame Mgone MlastOut) H_15 locs9 := z_after (wc := ([] : va_W)) hw [] [0, 1, 2, 3, 4, 5, 6, 7, 8, 9, 10, 11, 12, 13, 14, 15, 16] rfl rfl (by decide) (by decide) hF9 hk9 ht9 hB9 hS9 [0, 1, 2, 3, 4, 5, 6, 7, 8, 9, 10, 11, 12, 13, 14, 15, 16] (by decide) rfl
      clear hF9 ht9 hvm9 hB9 hz9 hk9 hS9 hq9
      rcases hq_17 with ⟨hc_18, rfl⟩ | ⟨hc_18, rfl⟩
      · skip
        refine z_if_ne (tgt := 35) hx hb dX8_run_30 (by decide) (by omega) (fun hc_19 => ?_) (fun hc_19 => absurd hc_19 (by omega))
        refine z_iconst hx hb dX8_run_35 ?_
        refine lv_istore_n (lv' := [(2, .int (zI 0)), (0, .ref (oM 0)), (1, .int (zI t))]) hx hb dX8_run_36 rfl hl (by decide) rfl (fun ls hl => ?_)
        have hv_20 : (0 : Int) ≤ Mminute ∧ Mminute ≤ 1000000 := by
          first | assumption | omega | grind
        have hv_21 : (0 : Int) ≤ MlastOut ∧ MlastOut ≤ 1000000 := by
          first | assumption | omega | grind
        have hv_22 : 0 ≤ (0 : Int) ∧ (0 : Int) ≤ t := by
          first | assumption | omega | grind
        have hv_23 : Mminute = Mminute + (0 : Int) := by
          omega
        have hv_24 : runR Mmany le Mcells Mrow Mhead Mplays Mrests Mwent Mout Mcame Mgone MlastOut Mminute (runK ki le Mcells Mgap stn ln Mmany Mminute s0 (0 : Int).toNat) := by
          exact (hp4 (by omega)).1
        have hv_25 : ∀ j : Nat, j < (0 : Int).toNat → ¬ allP ln Mmany (runK ki le Mcells Mgap stn ln Mmany Mminute s0 j).2.2.2 := by
          intro j hj; omega
        refine z_loop (σ := Int × Int × (Int → Int) × (Int → Int) × (Int → Int) × (Int → Int) × (Int → Int) × (Int → Int) × (Int → Int) × Int) (μ := fun x9 => (t - (x9.1)).toNat) (I := fun x9 H locs ls => ((0 : Int) ≤ (x9.2.1) ∧ (x9.2.1) ≤ 1000000) ∧ (RA (x9.2.2.1) (-1) 60) ∧ (RA (x9.2.2.2.1) (0) 18) ∧ (RA (x9.2.2.2.2.1) (0) 3) ∧ (RA (x9.2.2.2.2.2.1) (0) 61) ∧ (RA (x9.2.2.2.2.2.2.1) (0) 1) ∧ (RA (x9.2.2.2.2.2.2.2.1) (-1) 1000000) ∧ (RA (x9.2.2.2.2.2.2.2.2.1) (-1) 1000000) ∧ ((0 : Int) ≤ (x9.2.2.2.2.2.2.2.2.2) ∧ (x9.2.2.2.2.2.2.2.2.2) ≤ 1000000) ∧ (0 ≤ (x9.1) ∧ (x9.1) ≤ t) ∧ ((x9.2.1) = Mminute + (x9.1)) ∧ (runR Mmany le Mcells Mrow (x9.2.2.1) (x9.2.2.2.1) (x9.2.2.2.2.1) (x9.2.2.2.2.2.1) (x9.2.2.2.2.2.2.1) (x9.2.2.2.2.2.2.2.1) (x9.2.2.2.2.2.2.2.2.1) (x9.2.2.2.2.2.2.2.2.2) (x9.2.1) (runK ki le Mcells Mgap stn ln Mmany Mminute s0 (x9.1).toNat)) ∧ (∀ j : Nat, j < (x9.1).toNat → ¬ allP ln Mmany (runK ki le Mcells Mgap stn ln Mmany Mminute s0 j).2.2.2) ∧ HW D A s.heap (kM cI cB cZ oM Mthrown_4 Mmany Mguest Mrow Mbars Mbar Mfresh Mtape Mtaped Mpos Mtoken MtokenAt Mvalue Mwrong MwrongAt MfaultKind MfaultPlace Mthing Morder Mone Mtwo Mbest Mcells Mgap Mwire Mstand Mruns (x9.2.1) (x9.2.2.1) (x9.2.2.2.1) (x9.2.2.2.2.1) (x9.2.2.2.2.2.1) (x9.2.2.2.2.2.2.1) (x9.2.2.2.2.2.2.2.1) (x9.2.2.2.2.2.2.2.2.1) (x9.2.2.2.2.2.2.2.2.2)) H locs ∧ lv_has ls 5 [(0, .ref (oM 0)), (1, .int (zI t)), (2, .int (zI (x9.1)))]) (0, Mminute, Mhead, Mplays, Mrests, Mwent, Mout, Mcame, Mgone, MlastOut) ⟨hv_20, qMhead, qMplays, qMrests, qMwent, qMout, qMcame, qMgone, hv_21, hv_22, hv_23, hv_24, hv_25, hw, lv_sub hl [1, 2, 0] rfl⟩ ?_
        clear hw hl
        intro x9 H locs ls hI ih_26
        obtain ⟨k_27, Mminute_28, Mhead_29, Mplays_30, Mrests_31, Mwent_32, Mout_33, Mcame_34, Mgone_35, MlastOut_36⟩ := x9
        try dsimp only at hI
        obtain ⟨hq_37, hR_38, hR_39, hR_40, hR_41, hR_42, hR_43, hR_44, hq_45, hI_46, hI_47, hI_48, hI_49, hw, hl⟩ := hI
        refine lv_iload_n hx hb dX8_run_37 rfl (lv_at hl 2 rfl) ?_
        refine lv_iload_n hx hb dX8_run_38 rfl (lv_at hl 1 rfl) ?_
        refine z_icmp_ge (tgt := 160) hx hb dX8_run_39 (by decide) (by omega) (fun hc_50 => ?_) (fun hc_50 => ?_)
        · skip
          refine lv_iload_n hx hb dX8_run_160 rfl (lv_at hl 2 rfl) ?_
          have hv_51 : (0 : Int) ≤ Mthrown_4 ∧ Mthrown_4 ≤ 2 := by
            first | assumption | omega | grind
          have hv_52 : (0 : Int) ≤ Mminute_28 ∧ Mminute_28 ≤ 1000000 := by
            first | assumption | omega | grind
          have hv_53 : (0 : Int) ≤ MlastOut_36 ∧ MlastOut_36 ≤ 1000000 := by
            first | assumption | omega | grind
          have hv_54 : (Mruns = 0 ∧ Mthrown_4 = 1 ∧ Mminute_28 = Mminute ∧ Mhead_29 = Mhead ∧ Mplays_30 = Mplays ∧ Mrests_31 = Mrests ∧ Mwent_32 = Mwent ∧ Mout_33 = Mout ∧ Mcame_34 = Mcame ∧ Mgone_35 = Mgone ∧ MlastOut_36 = MlastOut) ∨ (Mruns = 1 ∧ Mthrown_4 = 0 ∧ ¬ (0 ≤ t ∧ t ≤ 500) ∧ k_27 = -1 ∧ Mminute_28 = Mminute ∧ Mhead_29 = Mhead ∧ Mplays_30 = Mplays ∧ Mrests_31 = Mrests ∧ Mwent_32 = Mwent ∧ Mout_33 = Mout ∧ Mcame_34 = Mcame ∧ Mgone_35 = Mgone ∧ MlastOut_36 = MlastOut) ∨ (Mruns = 1 ∧ Mthrown_4 = 0 ∧ (0 ≤ t ∧ t ≤ 500) ∧ ∃ k : Nat, k_27 = (k : Int) ∧ (k : Int) ≤ t ∧ Mminute_28 = Mminute + (k : Int) ∧ runR Mmany le Mcells Mrow Mhead_29 Mplays_30 Mrests_31 Mwent_32 Mout_33 Mcame_34 Mgone_35 MlastOut_36 Mminute_28 (runK ki le Mcells Mgap stn ln Mmany Mminute s0 k) ∧ ((k : Int) = t ∨ allP ln Mmany (runK ki le Mcells Mgap stn ln Mmany Mminute s0 k).2.2.2) ∧ ∀ j : Nat, j < k → ¬ allP ln Mmany (runK ki le Mcells Mgap stn ln Mmany Mminute s0 j).2.2.2) := by
            refine Or.inr (Or.inr ⟨by omega, by omega, by omega, k_27.toNat, by omega, by omega, by omega, by assumption, ?_, by assumption⟩)
            first | exact Or.inl (by omega) | (refine Or.inr ?_; rw [← all_congr hp2]; exact (over_iff (by assumption : runR _ _ _ _ _ _ _ _ _ _ _ _ _ _).1 hp0).mp (by assumption))
          exact W.iret (v := zI k_27) hx hb hr (fun t9 ht hW => ⟨⟨zI k_27, (k_27, Mthrown_4, Mminute_28, Mhead_29, Mplays_30, Mrests_31, Mwent_32, Mout_33, Mcame_34, Mgone_35, MlastOut_36), rfl, ⟨rfl, ⟨hv_51, hv_52, hR_38, hR_39, hR_40, hR_41, hR_42, hR_43, hR_44, hv_53, hv_54⟩⟩, by subst hAe; exact z_end hK hw ht hW⟩, by subst hAe; exact hw.2.2.F ht⟩) (by subst hAe; exact hw.2.2.2.2) dX8_run_161
        · skip
          refine lv_aload_n hx hb dX8_run_42 rfl (lv_at hl 0 rfl) ?_
          refine z_iconst hx hb dX8_run_43 ?_
          have hF9 := z_free (wc := kM cI cB cZ oM Mthrown_4 Mmany Mguest Mrow Mbars Mbar Mfresh Mtape Mtaped Mpos Mtoken MtokenAt Mvalue Mwrong MwrongAt MfaultKind MfaultPlace Mthing Morder Mone Mtwo Mbest Mcells Mgap Mwire Mstand Mruns Mminute_28 Mhead_29 Mplays_30 Mrests_31 Mwent_32 Mout_33 Mcame_34 Mgone_35 MlastOut_36) hw hA [0, 1, 2, 3, 4, 5, 6, 7, 8, 9, 10, 11, 12, 13, 14, 15, 16] rfl
          refine va_calli (va_runV (As := [.int (zI 0)]) (rest := []) ⟨hx, hb, hml, hown, hts⟩ (c_X8_isOver l D cI cB cZ oM H.size Mthrown_4 Mmany Mguest Mrow Mbars Mbar Mfresh Mtape Mtaped Mpos Mtoken MtokenAt Mvalue Mwrong MwrongAt MfaultKind MfaultPlace Mthing Morder Mone Mtwo Mbest Mcells Mgap Mwire Mstand Mruns Mminute_28 Mhead_29 Mplays_30 Mrests_31 Mwent_32 Mout_33 Mcame_34 Mgone_35 MlastOut_36 0 (by omega) (by omega) qMguest qMrow (by omega) qMbar qMfresh qMtape (by omega) (by omega) (by omega) (by omega) (by omega) (by omega) (by omega) (by omega) (by omega) (by omega) qMorder (by omega) (by omega) qMbest (by omega) (by omega) qMwire qMstand (by omega) (by omega) hR_38 hR_39 hR_40 hR_41 hR_42 hR_43 hR_44 (by omega) (by omega)) (cwV 1 hts gX8_run_X8_isOver rfl rfl rfl (by decide +kernel) ⟨Nat.le_of_ble_eq_true rfl, Nat.le_of_ble_eq_true rfl⟩) ⟨zPre_blind, va_recv hK hw.1 (ci := 8) (q0 := 0) rfl rfl, z_pre hK hw [0, 1, 2, 3, 4, 5, 6, 7, 8, 9, 10, 11, 12, 13, 14, 15, 16] (by decide) rfl⟩ rfl rfl hl.1 rfl (lv_room (Nat.le_of_ble_eq_true rfl)) dX8_run_44 ⟨Nat.zero_le _, Nat.zero_le _⟩) hw.2.2 (fun q _ h => hF9 q h) hF9 (fun r9 u9 t9 H_55 locs9 ht9 hvm9 hq9 hB9 hz9 hk9 hS9 => ?_)
          obtain ⟨r_56, rfl⟩ : ∃ z, z = u9 := ⟨_, rfl⟩
          try dsimp only at hq9 hB9
          obtain ⟨rfl, hq9⟩ := hq9
          have hq_57 := hq9
          have hw : HW D A s.heap (kM cI cB cZ oM Mthrown_4 Mmany Mguest Mrow Mbars Mbar Mfresh Mtape Mtaped Mpos Mtoken MtokenAt Mvalue Mwrong MwrongAt MfaultKind MfaultPlace Mthing Morder Mone Mtwo Mbest Mcells Mgap Mwire Mstand Mruns Mminute_28 Mhead_29 Mplays_30 Mrests_31 Mwent_32 Mout_33 Mcame_34 Mgone_35 MlastOut_36) H_55 locs9 := z_after (wc := kM cI cB cZ oM Mthrown_4 Mmany Mguest Mrow Mbars Mbar Mfresh Mtape Mtaped Mpos Mtoken MtokenAt Mvalue Mwrong MwrongAt MfaultKind MfaultPlace Mthing Morder Mone Mtwo Mbest Mcells Mgap Mwire Mstand Mruns Mminute_28 Mhead_29 Mplays_30 Mrests_31 Mwent_32 Mout_33 Mcame_34 Mgone_35 MlastOut_36) hw [0, 1, 2, 3, 4, 5, 6, 7, 8, 9, 10, 11, 12, 13, 14, 15, 16] [] rfl rfl (by decide) (by decide) hF9 hk9 ht9 hB9 hS9 [0, 1, 2, 3, 4, 5, 6, 7, 8, 9, 10, 11, 12, 13, 14, 15, 16] (by decide) rfl
          clear hF9 ht9 hvm9 hB9 hz9 hk9 hS9 hq9
          rcases hq_57 with ⟨hc_58, rfl⟩ | ⟨hc_58, rfl⟩
          · skip
            refine z_if_ne (tgt := 160) hx hb dX8_run_47 (by decide) (by omega) (fun hc_59 => ?_) (fun hc_59 => absurd hc_59 (by omega))
            refine lv_iload_n hx hb dX8_run_160 rfl (lv_at hl 2 rfl) ?_
            have hv_60 : (0 : Int) ≤ Mthrown_4 ∧ Mthrown_4 ≤ 2 := by
              first | assumption | omega | grind
            have hv_61 : (0 : Int) ≤ Mminute_28 ∧ Mminute_28 ≤ 1000000 := by
              first | assumption | omega | grind
            have hv_62 : (0 : Int) ≤ MlastOut_36 ∧ MlastOut_36 ≤ 1000000 := by
              first | assumption | omega | grind
            have hv_63 : (Mruns = 0 ∧ Mthrown_4 = 1 ∧ Mminute_28 = Mminute ∧ Mhead_29 = Mhead ∧ Mplays_30 = Mplays ∧ Mrests_31 = Mrests ∧ Mwent_32 = Mwent ∧ Mout_33 = Mout ∧ Mcame_34 = Mcame ∧ Mgone_35 = Mgone ∧ MlastOut_36 = MlastOut) ∨ (Mruns = 1 ∧ Mthrown_4 = 0 ∧ ¬ (0 ≤ t ∧ t ≤ 500) ∧ k_27 = -1 ∧ Mminute_28 = Mminute ∧ Mhead_29 = Mhead ∧ Mplays_30 = Mplays ∧ Mrests_31 = Mrests ∧ Mwent_32 = Mwent ∧ Mout_33 = Mout ∧ Mcame_34 = Mcame ∧ Mgone_35 = Mgone ∧ MlastOut_36 = MlastOut) ∨ (Mruns = 1 ∧ Mthrown_4 = 0 ∧ (0 ≤ t ∧ t ≤ 500) ∧ ∃ k : Nat, k_27 = (k : Int) ∧ (k : Int) ≤ t ∧ Mminute_28 = Mminute + (k : Int) ∧ runR Mmany le Mcells Mrow Mhead_29 Mplays_30 Mrests_31 Mwent_32 Mout_33 Mcame_34 Mgone_35 MlastOut_36 Mminute_28 (runK ki le Mcells Mgap stn ln Mmany Mminute s0 k) ∧ ((k : Int) = t ∨ allP ln Mmany (runK ki le Mcells Mgap stn ln Mmany Mminute s0 k).2.2.2) ∧ ∀ j : Nat, j < k → ¬ allP ln Mmany (runK ki le Mcells Mgap stn ln Mmany Mminute s0 j).2.2.2) := by
              refine Or.inr (Or.inr ⟨by omega, by omega, by omega, k_27.toNat, by omega, by omega, by omega, by assumption, ?_, by assumption⟩)
              first | exact Or.inl (by omega) | (refine Or.inr ?_; rw [← all_congr hp2]; exact (over_iff (by assumption : runR _ _ _ _ _ _ _ _ _ _ _ _ _ _).1 hp0).mp (by assumption))
            exact W.iret (v := zI k_27) hx hb hr (fun t9 ht hW => ⟨⟨zI k_27, (k_27, Mthrown_4, Mminute_28, Mhead_29, Mplays_30, Mrests_31, Mwent_32, Mout_33, Mcame_34, Mgone_35, MlastOut_36), rfl, ⟨rfl, ⟨hv_60, hv_61, hR_38, hR_39, hR_40, hR_41, hR_42, hR_43, hR_44, hv_62, hv_63⟩⟩, by subst hAe; exact z_end hK hw ht hW⟩, by subst hAe; exact hw.2.2.F ht⟩) (by subst hAe; exact hw.2.2.2.2) dX8_run_161
          · skip
            refine z_if_ne (tgt := 160) hx hb dX8_run_47 (by decide) (by omega) (fun hc_64 => absurd hc_64 (by omega)) (fun hc_64 => ?_)
            refine z_iinc (k := 2) (lv' := [(2, .int (zI (k_27 + 1))), (0, .ref (oM 0)), (1, .int (zI t))]) hx hb dX8_run_50 hl rfl (by decide) rfl (fun ls hl => ?_)
            refine lv_aload_n hx hb dX8_run_53 rfl (lv_at hl 1 rfl) ?_
            refine lv_dup hx hb dX8_run_54 rfl ?_
            refine va_get (D := D) (ci := 8) (v := .int (zI Mminute_28)) (C := RX8) (T := TX8) (N := 36) hx hb hts hinX8 hown hK hw.1 0 rfl rfl 27 (by decide) (hts (.fieldLink RX8 208 "CarnivalRoadModel" "minute" "I") (by decide +kernel)) (fun _ h9 => h9) rfl dX8_run_55 ?_
            refine z_iconst hx hb dX8_run_58 ?_
            refine z_iadd hx hb dX8_run_59 ?_
            refine z_put (D := D) (ci := 8) (v := .int (zI (Mminute_28 + 1))) (ty := .int) (C := RX8) (T := TX8) (N := 36) (ws2 := kM cI cB cZ oM Mthrown_4 Mmany Mguest Mrow Mbars Mbar Mfresh Mtape Mtaped Mpos Mtoken MtokenAt Mvalue Mwrong MwrongAt MfaultKind MfaultPlace Mthing Morder Mone Mtwo Mbest Mcells Mgap Mwire Mstand Mruns (Mminute_28 + 1) Mhead_29 Mplays_30 Mrests_31 Mwent_32 Mout_33 Mcame_34 Mgone_35 MlastOut_36) hx hb hts hinX8 tyX8 tyX8_ok nmX8 hown hK hw 0 rfl rfl 27 (by decide) (hts (.fieldLink RX8 208 "CarnivalRoadModel" "minute" "I") (by decide +kernel)) (fun _ h9 => h9) rfl (by decide +kernel) rfl rfl (Nat.le_of_ble_eq_true rfl) dX8_run_60 rfl (fun H locs hw => ?_)
            refine z_iconst hx hb dX8_run_63 ?_
            refine lv_istore_n (lv' := [(3, .int (zI 0)), (2, .int (zI (k_27 + 1))), (0, .ref (oM 0)), (1, .int (zI t))]) hx hb dX8_run_64 rfl hl (by decide) rfl (fun ls hl => ?_)
            have hrr := (by assumption : runR Mmany le Mcells Mrow Mhead_29 Mplays_30 Mrests_31 Mwent_32 Mout_33 Mcame_34 Mgone_35 MlastOut_36 _ _)
            have hv_65 : (0 : Int) ≤ MlastOut_36 ∧ MlastOut_36 ≤ 1000000 := by
              first | assumption | omega | grind
            have hv_66 : 0 ≤ (0 : Int) ∧ (0 : Int) ≤ Mmany := by
              first | assumption | omega | grind
            have hv_67 : (runK ki le Mcells Mgap stn ln Mmany Mminute s0 k_27.toNat) = stepK ki le Mcells Mgap stn ln (Mminute_28 + 1) (0 : Int).toNat (runK ki le Mcells Mgap stn ln Mmany Mminute s0 k_27.toNat) := by
              rfl
            have hv_68 : simR Mmany 0 Mhead_29 Mplays_30 Mrests_31 Mwent_32 Mout_33 (runK ki le Mcells Mgap stn ln Mmany Mminute s0 k_27.toNat).1 (runK ki le Mcells Mgap stn ln Mmany Mminute s0 k_27.toNat).2.1 (runK ki le Mcells Mgap stn ln Mmany Mminute s0 k_27.toNat).2.2.2 := by
              exact hrr.1
            have hv_69 : ∀ g, 0 ≤ g → g < Mmany → Mcame_34 g = (runK ki le Mcells Mgap stn ln Mmany Mminute s0 k_27.toNat).2.2.1 g ∧ Mgone_35 g = (runK ki le Mcells Mgap stn ln Mmany Mminute s0 k_27.toNat).2.2.2 g := by
              exact hrr.2.1
            have hv_70 : jpN Mmany le Mcells (runK ki le Mcells Mgap stn ln Mmany Mminute s0 k_27.toNat).1 (runK ki le Mcells Mgap stn ln Mmany Mminute s0 k_27.toNat).2.2.2 := by
              exact hrr.2.2.1
            have hv_71 : (runK ki le Mcells Mgap stn ln Mmany Mminute s0 k_27.toNat).2.2.2 = (runK ki le Mcells Mgap stn ln Mmany Mminute s0 k_27.toNat).2.2.2 ∨ MlastOut_36 = (Mminute_28 + 1) := by
              exact Or.inl rfl
            have hv_72 : (runK ki le Mcells Mgap stn ln Mmany Mminute s0 k_27.toNat) = (runK ki le Mcells Mgap stn ln Mmany Mminute s0 k_27.toNat) ∧ ¬ allP ln Mmany (runK ki le Mcells Mgap stn ln Mmany Mminute s0 k_27.toNat).2.2.2 := by
              exact ⟨rfl, fun z => absurd ((over_iff hrr.1 hp0).mpr ((all_congr hp2).mpr z)) (by assumption)⟩
            refine z_loop (σ := Int × (Int → Int) × (Int → Int) × (Int → Int) × (Int → Int) × (Int → Int) × (Int → Int) × (Int → Int) × Int × PS × PS) (μ := fun x9 => (9 - (x9.1)).toNat) (I := fun x9 H locs ls => (RA (x9.2.1) (-1) 60) ∧ (RA (x9.2.2.1) (0) 18) ∧ (RA (x9.2.2.2.1) (0) 3) ∧ (RA (x9.2.2.2.2.1) (0) 61) ∧ (RA (x9.2.2.2.2.2.1) (0) 1) ∧ (RA (x9.2.2.2.2.2.2.1) (-1) 1000000) ∧ (RA (x9.2.2.2.2.2.2.2.1) (-1) 1000000) ∧ ((0 : Int) ≤ (x9.2.2.2.2.2.2.2.2.1) ∧ (x9.2.2.2.2.2.2.2.2.1) ≤ 1000000) ∧ (0 ≤ (x9.1) ∧ (x9.1) ≤ Mmany) ∧ (x9.2.2.2.2.2.2.2.2.2.1 = stepK ki le Mcells Mgap stn ln (Mminute_28 + 1) (x9.1).toNat x9.2.2.2.2.2.2.2.2.2.2) ∧ (simR Mmany 0 (x9.2.1) (x9.2.2.1) (x9.2.2.2.1) (x9.2.2.2.2.1) (x9.2.2.2.2.2.1) x9.2.2.2.2.2.2.2.2.2.1.1 x9.2.2.2.2.2.2.2.2.2.1.2.1 x9.2.2.2.2.2.2.2.2.2.1.2.2.2) ∧ (∀ g, 0 ≤ g → g < Mmany → (x9.2.2.2.2.2.2.1) g = x9.2.2.2.2.2.2.2.2.2.1.2.2.1 g ∧ (x9.2.2.2.2.2.2.2.1) g = x9.2.2.2.2.2.2.2.2.2.1.2.2.2 g) ∧ (jpN Mmany le Mcells x9.2.2.2.2.2.2.2.2.2.1.1 x9.2.2.2.2.2.2.2.2.2.1.2.2.2) ∧ (x9.2.2.2.2.2.2.2.2.2.1.2.2.2 = x9.2.2.2.2.2.2.2.2.2.2.2.2.2 ∨ (x9.2.2.2.2.2.2.2.2.1) = (Mminute_28 + 1)) ∧ (x9.2.2.2.2.2.2.2.2.2.2 = (runK ki le Mcells Mgap stn ln Mmany Mminute s0 k_27.toNat) ∧ ¬ allP ln Mmany x9.2.2.2.2.2.2.2.2.2.2.2.2.2) ∧ HW D A s.heap (kM cI cB cZ oM Mthrown_4 Mmany Mguest Mrow Mbars Mbar Mfresh Mtape Mtaped Mpos Mtoken MtokenAt Mvalue Mwrong MwrongAt MfaultKind MfaultPlace Mthing Morder Mone Mtwo Mbest Mcells Mgap Mwire Mstand Mruns (Mminute_28 + 1) (x9.2.1) (x9.2.2.1) (x9.2.2.2.1) (x9.2.2.2.2.1) (x9.2.2.2.2.2.1) (x9.2.2.2.2.2.2.1) (x9.2.2.2.2.2.2.2.1) (x9.2.2.2.2.2.2.2.2.1)) H locs ∧ lv_has ls 5 [(0, .ref (oM 0)), (1, .int (zI t)), (2, .int (zI (k_27 + 1))), (3, .int (zI (x9.1)))]) (0, Mhead_29, Mplays_30, Mrests_31, Mwent_32, Mout_33, Mcame_34, Mgone_35, MlastOut_36, (runK ki le Mcells Mgap stn ln Mmany Mminute s0 k_27.toNat), (runK ki le Mcells Mgap stn ln Mmany Mminute s0 k_27.toNat)) ⟨hR_38, hR_39, hR_40, hR_41, hR_42, hR_43, hR_44, hv_65, hv_66, hv_67, hv_68, hv_69, hv_70, hv_71, hv_72, hw, lv_sub hl [2, 3, 1, 0] rfl⟩ ?_
            clear hw hl
            intro x9 H locs ls hI ih_73
            obtain ⟨i_74, Mhead_75, Mplays_76, Mrests_77, Mwent_78, Mout_79, Mcame_80, Mgone_81, MlastOut_82, q_83, qz_84⟩ := x9
            try dsimp only at hI
            obtain ⟨hR_85, hR_86, hR_87, hR_88, hR_89, hR_90, hR_91, hq_92, hI_93, hI_94, hI_95, hI_96, hI_97, hI_98, hI_99, hw, hl⟩ := hI
            refine lv_iload_n hx hb dX8_run_65 rfl (lv_at hl 3 rfl) ?_
            refine lv_aload_n hx hb dX8_run_66 rfl (lv_at hl 0 rfl) ?_
            refine va_get (D := D) (ci := 8) (v := .int (zI Mmany)) (C := RX8) (T := TX8) (N := 36) hx hb hts hinX8 hown hK hw.1 0 rfl rfl 1 (by decide) (hts (.fieldLink RX8 72 "CarnivalRoadModel" "many" "I") (by decide +kernel)) (fun _ h9 => h9) rfl dX8_run_67 ?_
            refine z_icmp_ge (tgt := 157) hx hb dX8_run_70 (by decide) (by omega) (fun hc_100 => ?_) (fun hc_100 => ?_)
            · skip
              refine lv_goto (tgt := 37) hx hb dX8_run_157 (by decide) ?_
              have hv_101 : (0 : Int) ≤ (Mminute_28 + 1) ∧ (Mminute_28 + 1) ≤ 1000000 := by
                first | assumption | omega | grind
              have hv_102 : (0 : Int) ≤ MlastOut_82 ∧ MlastOut_82 ≤ 1000000 := by
                first | assumption | omega | grind
              have hv_103 : 0 ≤ (k_27 + 1) ∧ (k_27 + 1) ≤ t := by
                first | assumption | omega | grind
              have hv_104 : (Mminute_28 + 1) = Mminute + (k_27 + 1) := by
                first | assumption | omega | grind
              have hv_105 : runR Mmany le Mcells Mrow Mhead_75 Mplays_76 Mrests_77 Mwent_78 Mout_79 Mcame_80 Mgone_81 MlastOut_82 (Mminute_28 + 1) (runK ki le Mcells Mgap stn ln Mmany Mminute s0 (k_27 + 1).toNat) := by
                have h6 := (by assumption : qz_84 = _ ∧ ¬ allP ln Mmany qz_84.2.2.2)
                rw [show (k_27 + 1).toNat = k_27.toNat + 1 by omega]
                exact run_in (q := q_83) (q0 := qz_84) h6.1 (by rw [show Mmany.toNat = i_74.toNat by omega]; assumption) (by omega) (by assumption) (by assumption) (by assumption) (by assumption) h6.2 hp2
              have hv_106 : ∀ j : Nat, j < (k_27 + 1).toNat → ¬ allP ln Mmany (runK ki le Mcells Mgap stn ln Mmany Mminute s0 j).2.2.2 := by
                have h6 := (by assumption : qz_84 = _ ∧ ¬ allP ln Mmany qz_84.2.2.2)
                intro j hj
                by_cases e : j = k_27.toNat
                · rw [e, ← h6.1]; exact h6.2
                · exact (by assumption : ∀ j : Nat, j < k_27.toNat → ¬ allP ln Mmany (runK ki le Mcells Mgap stn ln Mmany Mminute s0 j).2.2.2) j (by omega)
              have hm_107 : (t - (k_27 + 1)).toNat < (t - k_27).toNat := by
                first | assumption | omega | grind
              exact ih_26 ((k_27 + 1), (Mminute_28 + 1), Mhead_75, Mplays_76, Mrests_77, Mwent_78, Mout_79, Mcame_80, Mgone_81, MlastOut_82) _ _ _ ⟨hv_101, hR_85, hR_86, hR_87, hR_88, hR_89, hR_90, hR_91, hv_102, hv_103, hv_104, hv_105, hv_106, hw, lv_sub hl [0, 1, 2] rfl⟩ hm_107
            · skip
              refine lv_aload_n hx hb dX8_run_73 rfl (lv_at hl 0 rfl) ?_
              refine va_get (D := D) (ci := 8) (v := .ref (oM 2)) (C := RX8) (T := TX8) (N := 36) hx hb hts hinX8 hown hK hw.1 0 rfl rfl 3 (by decide) (hts (.fieldLink RX8 13 "CarnivalRoadModel" "row" "[I") (by decide +kernel)) (fun _ h9 => h9) rfl dX8_run_74 ?_
              refine lv_iload_n hx hb dX8_run_77 rfl (lv_at hl 3 rfl) ?_
              have hi_108 : (0 : Int) ≤ i_74 ∧ i_74 < ((8 : Nat) : Int) := by
                first | assumption | omega | grind
              refine z_iald (n := 8) (f := Mrow) hx hb hK hw 2 rfl (by decide) hi_108 dX8_run_78 ?_
              have hq_109 : 0 ≤ Mrow i_74 ∧ Mrow i_74 ≤ 7 := qMrow i_74
              refine lv_istore (lv' := [(4, .int (zI (Mrow i_74))), (0, .ref (oM 0)), (1, .int (zI t)), (2, .int (zI (k_27 + 1))), (3, .int (zI i_74))]) hx hb dX8_run_79 hl (by decide) rfl (fun ls hl => ?_)
              refine lv_aload_n hx hb dX8_run_81 rfl (lv_at hl 1 rfl) ?_
              refine z_iconst hx hb dX8_run_82 ?_
              refine lv_iload_n hx hb dX8_run_83 rfl (lv_at hl 4 rfl) ?_
              refine lv_aload_n hx hb dX8_run_84 rfl (lv_at hl 1 rfl) ?_
              refine va_get (D := D) (ci := 8) (v := .int (zI (Mminute_28 + 1))) (C := RX8) (T := TX8) (N := 36) hx hb hts hinX8 hown hK hw.1 0 rfl rfl 27 (by decide) (hts (.fieldLink RX8 208 "CarnivalRoadModel" "minute" "I") (by decide +kernel)) (fun _ h9 => h9) rfl dX8_run_85 ?_
              refine z_iconst hx hb dX8_run_88 ?_
              have hpre_110 : (0 : Int) = 0 ∨ (0 : Int) = 8 := by
                first | assumption | omega | grind
              have hpre_111 : i_74 < Mmany := by
                first | assumption | omega | grind
              have hpre_112 : ∀ i, 0 ≤ i → i < Mmany → 0 ≤ Mrow i ∧ Mrow i < Mmany := by
                exact hp0.1
              have hpre_113 : gRel Mmany ki le lo ta sh Mguest := by
                first | assumption | omega | grind
              have hpre_114 : simR Mmany (0 : Int) Mhead_75 Mplays_76 Mrests_77 Mwent_78 Mout_79 (q_83.1) (q_83.2.1) (q_83.2.2.2) := by
                first | assumption | omega | grind
              have hpre_115 : ∀ g, 0 ≤ g → g < Mmany → (q_83.2.2.2) g = -1 → (q_83.1) g - le g + 1 < Mcells := by
                exact (by assumption : jpN Mmany le Mcells q_83.1 q_83.2.2.2)
              have hF9 := z_free (wc := kM cI cB cZ oM Mthrown_4 Mmany Mguest Mrow Mbars Mbar Mfresh Mtape Mtaped Mpos Mtoken MtokenAt Mvalue Mwrong MwrongAt MfaultKind MfaultPlace Mthing Morder Mone Mtwo Mbest Mcells Mgap Mwire Mstand Mruns (Mminute_28 + 1) Mhead_75 Mplays_76 Mrests_77 Mwent_78 Mout_79 Mcame_80 Mgone_81 MlastOut_82) hw hA [0, 1, 2, 3, 4, 5, 6, 7, 8, 9, 10, 11, 12, 13, 14, 15, 16] rfl
              refine va_calli (va_runV (As := [.int (zI 0), .int (zI i_74), .int (zI (Mminute_28 + 1)), .int (zI 0)]) (rest := []) ⟨hx, hb, hml, hown, hts⟩ (c_X8_goes l D cI cB cZ oM H.size Mthrown_4 Mmany Mguest Mrow Mbars Mbar Mfresh Mtape Mtaped Mpos Mtoken MtokenAt Mvalue Mwrong MwrongAt MfaultKind MfaultPlace Mthing Morder Mone Mtwo Mbest Mcells Mgap Mwire Mstand Mruns (Mminute_28 + 1) Mhead_75 Mplays_76 Mrests_77 Mwent_78 Mout_79 Mcame_80 Mgone_81 MlastOut_82 0 i_74 (Mminute_28 + 1) 0 ki le lo ta sh (q_83.1) (q_83.2.1) (q_83.2.2.1) (q_83.2.2.2) (by omega) (by omega) qMguest qMrow (by omega) qMbar qMfresh qMtape (by omega) (by omega) (by omega) (by omega) (by omega) (by omega) (by omega) (by omega) (by omega) (by omega) qMorder (by omega) (by omega) qMbest (by omega) (by omega) qMwire qMstand (by omega) (by omega) hR_85 hR_86 hR_87 hR_88 hR_89 hR_90 hR_91 (by omega) (by omega) (by omega) (by omega) (by omega) hpre_110 hpre_111 hpre_112 hpre_113 hpre_114 hpre_115) (cwV 4 hts gX8_run_X8_goes rfl rfl rfl (by decide +kernel) ⟨Nat.le_of_ble_eq_true rfl, Nat.le_of_ble_eq_true rfl⟩) ⟨zPre_blind, va_recv hK hw.1 (ci := 8) (q0 := 0) rfl rfl, z_pre hK hw [0, 1, 2, 3, 4, 5, 6, 7, 8, 9, 10, 11, 12, 13, 14, 15, 16] (by decide) rfl⟩ rfl rfl hl.1 rfl (lv_room (Nat.le_of_ble_eq_true rfl)) dX8_run_89 ⟨Nat.zero_le _, Nat.zero_le _⟩) hw.2.2 (fun q _ h => hF9 q h) hF9 (fun r9 u9 t9 H_116 locs9 ht9 hvm9 hq9 hB9 hz9 hk9 hS9 => ?_)
              obtain ⟨r_117, Mhead_118, Mplays_119, Mrests_120, Mwent_121, Mout_122⟩ := u9
              try dsimp only at hq9 hB9
              obtain ⟨rfl, hq9⟩ := hq9
              obtain ⟨hq_123, hq_124, hq_125, hq_126, hq_127, hq_128, hq_129⟩ := hq9
              have hw : HW D A s.heap (kM cI cB cZ oM Mthrown_4 Mmany Mguest Mrow Mbars Mbar Mfresh Mtape Mtaped Mpos Mtoken MtokenAt Mvalue Mwrong MwrongAt MfaultKind MfaultPlace Mthing Morder Mone Mtwo Mbest Mcells Mgap Mwire Mstand Mruns (Mminute_28 + 1) Mhead_118 Mplays_119 Mrests_120 Mwent_121 Mout_122 Mcame_80 Mgone_81 MlastOut_82) H_116 locs9 := z_after (wc := kM cI cB cZ oM Mthrown_4 Mmany Mguest Mrow Mbars Mbar Mfresh Mtape Mtaped Mpos Mtoken MtokenAt Mvalue Mwrong MwrongAt MfaultKind MfaultPlace Mthing Morder Mone Mtwo Mbest Mcells Mgap Mwire Mstand Mruns (Mminute_28 + 1) Mhead_75 Mplays_76 Mrests_77 Mwent_78 Mout_79 Mcame_80 Mgone_81 MlastOut_82) hw [0, 1, 2, 3, 4, 5, 6, 7, 8, 9, 10, 11, 12, 13, 14, 15, 16] [] rfl rfl (by decide) (by decide) hF9 hk9 ht9 hB9 hS9 [0, 1, 2, 3, 4, 5, 6, 7, 8, 9, 10, 11, 12, 13, 14, 15, 16] (by decide) rfl
              clear hF9 ht9 hvm9 hB9 hz9 hk9 hS9
              refine z_if_ne (tgt := 98) hx hb dX8_run_92 (by decide) (by omega) (fun hc_130 => ?_) (fun hc_130 => ?_)
              · skip
                refine lv_aload_n hx hb dX8_run_98 rfl (lv_at hl 1 rfl) ?_
                refine va_get (D := D) (ci := 8) (v := .ref (oM 10)) (C := RX8) (T := TX8) (N := 36) hx hb hts hinX8 hown hK hw.1 0 rfl rfl 28 (by decide) (hts (.fieldLink RX8 47 "CarnivalRoadModel" "head" "[I") (by decide +kernel)) (fun _ h9 => h9) rfl dX8_run_99 ?_
                refine lv_iload hx hb dX8_run_102 (lv_at hl 0 rfl) ?_
                have hi_131 : (0 : Int) ≤ (Mrow i_74) ∧ (Mrow i_74) < ((16 : Nat) : Int) := by
                  first | assumption | omega | grind
                refine z_iald (n := 16) (f := Mhead_118) hx hb hK hw 10 rfl (by decide) hi_131 dX8_run_104 ?_
                have hq_132 : -1 ≤ Mhead_118 (Mrow i_74) ∧ Mhead_118 (Mrow i_74) ≤ 60 := hq_123 (Mrow i_74)
                refine z_if_ne (tgt := 119) hx hb dX8_run_105 (by decide) (by omega) (fun hc_133 => ?_) (fun hc_133 => ?_)
                · skip
                  refine lv_aload_n hx hb dX8_run_119 rfl (lv_at hl 1 rfl) ?_
                  refine va_get (D := D) (ci := 8) (v := .ref (oM 14)) (C := RX8) (T := TX8) (N := 36) hx hb hts hinX8 hown hK hw.1 0 rfl rfl 32 (by decide) (hts (.fieldLink RX8 59 "CarnivalRoadModel" "out" "[Z") (by decide +kernel)) (fun _ h9 => h9) rfl dX8_run_120 ?_
                  refine lv_iload hx hb dX8_run_123 (lv_at hl 0 rfl) ?_
                  have hi_134 : (0 : Int) ≤ (Mrow i_74) ∧ (Mrow i_74) < ((16 : Nat) : Int) := by
                    first | assumption | omega | grind
                  refine z_zald (n := 16) (f := Mout_122) hx hb hK hw 14 rfl (by decide) hi_134 dX8_run_125 ?_
                  have hq_135 : 0 ≤ Mout_122 (Mrow i_74) ∧ Mout_122 (Mrow i_74) ≤ 1 := hq_127 (Mrow i_74)
                  refine z_if_ne (tgt := 132) hx hb dX8_run_126 (by decide) (by omega) (fun hc_136 => ?_) (fun hc_136 => ?_)
                  · skip
                    refine lv_aload_n hx hb dX8_run_132 rfl (lv_at hl 1 rfl) ?_
                    refine va_get (D := D) (ci := 8) (v := .ref (oM 16)) (C := RX8) (T := TX8) (N := 36) hx hb hts hinX8 hown hK hw.1 0 rfl rfl 34 (by decide) (hts (.fieldLink RX8 66 "CarnivalRoadModel" "gone" "[I") (by decide +kernel)) (fun _ h9 => h9) rfl dX8_run_133 ?_
                    refine lv_iload hx hb dX8_run_136 (lv_at hl 0 rfl) ?_
                    refine lv_aload_n hx hb dX8_run_138 rfl (lv_at hl 1 rfl) ?_
                    refine va_get (D := D) (ci := 8) (v := .int (zI (Mminute_28 + 1))) (C := RX8) (T := TX8) (N := 36) hx hb hts hinX8 hown hK hw.1 0 rfl rfl 27 (by decide) (hts (.fieldLink RX8 208 "CarnivalRoadModel" "minute" "I") (by decide +kernel)) (fun _ h9 => h9) rfl dX8_run_139 ?_
                    have hi_137 : (0 : Int) ≤ (Mrow i_74) ∧ (Mrow i_74) < ((8 : Nat) : Int) := by
                      first | assumption | omega | grind
                    have hv_138 : (-1 : Int) ≤ (Mminute_28 + 1) ∧ (Mminute_28 + 1) ≤ 1000000 := by
                      first | assumption | omega | grind
                    have hR_139 : RA (uZ Mgone_81 (Mrow i_74) (Mminute_28 + 1)) (-1) 1000000 := RA_up hR_91 hv_138
                    refine z_iast (n := 8) (f := Mgone_81) (ws2 := kM cI cB cZ oM Mthrown_4 Mmany Mguest Mrow Mbars Mbar Mfresh Mtape Mtaped Mpos Mtoken MtokenAt Mvalue Mwrong MwrongAt MfaultKind MfaultPlace Mthing Morder Mone Mtwo Mbest Mcells Mgap Mwire Mstand Mruns (Mminute_28 + 1) Mhead_118 Mplays_119 Mrests_120 Mwent_121 Mout_122 Mcame_80 (uZ Mgone_81 (Mrow i_74) (Mminute_28 + 1)) MlastOut_82) hx hb hK hw 16 rfl (by decide) hi_137 dX8_run_142 rfl (fun H locs hw => ?_)
                    refine lv_aload_n hx hb dX8_run_143 rfl (lv_at hl 1 rfl) ?_
                    refine lv_aload_n hx hb dX8_run_144 rfl (lv_at hl 1 rfl) ?_
                    refine va_get (D := D) (ci := 8) (v := .int (zI (Mminute_28 + 1))) (C := RX8) (T := TX8) (N := 36) hx hb hts hinX8 hown hK hw.1 0 rfl rfl 27 (by decide) (hts (.fieldLink RX8 208 "CarnivalRoadModel" "minute" "I") (by decide +kernel)) (fun _ h9 => h9) rfl dX8_run_145 ?_
                    refine z_put (D := D) (ci := 8) (v := .int (zI (Mminute_28 + 1))) (ty := .int) (C := RX8) (T := TX8) (N := 36) (ws2 := kM cI cB cZ oM Mthrown_4 Mmany Mguest Mrow Mbars Mbar Mfresh Mtape Mtaped Mpos Mtoken MtokenAt Mvalue Mwrong MwrongAt MfaultKind MfaultPlace Mthing Morder Mone Mtwo Mbest Mcells Mgap Mwire Mstand Mruns (Mminute_28 + 1) Mhead_118 Mplays_119 Mrests_120 Mwent_121 Mout_122 Mcame_80 (uZ Mgone_81 (Mrow i_74) (Mminute_28 + 1)) (Mminute_28 + 1)) hx hb hts hinX8 tyX8 tyX8_ok nmX8 hown hK hw 0 rfl rfl 35 (by decide) (hts (.fieldLink RX8 211 "CarnivalRoadModel" "lastOut" "I") (by decide +kernel)) (fun _ h9 => h9) rfl (by decide +kernel) rfl rfl (Nat.le_of_ble_eq_true rfl) dX8_run_148 rfl (fun H locs hw => ?_)
                    refine z_iinc (k := 4) (lv' := [(3, .int (zI (i_74 + 1))), (4, .int (zI (Mrow i_74))), (0, .ref (oM 0)), (1, .int (zI t)), (2, .int (zI (k_27 + 1)))]) hx hb dX8_run_151 hl rfl (by decide) rfl (fun ls hl => ?_)
                    refine lv_goto (tgt := 65) hx hb dX8_run_154 (by decide) ?_
                    have hv_140 : (0 : Int) ≤ (Mminute_28 + 1) ∧ (Mminute_28 + 1) ≤ 1000000 := by
                      first | assumption | omega | grind
                    have hv_141 : 0 ≤ (i_74 + 1) ∧ (i_74 + 1) ≤ Mmany := by
                      first | assumption | omega | grind
                    have hv_142 : (stepK ki le Mcells Mgap stn ln (Mminute_28 + 1) (i_74 + 1).toNat qz_84) = stepK ki le Mcells Mgap stn ln (Mminute_28 + 1) (i_74 + 1).toNat qz_84 := by
                      rfl
                    have hv_143 : simR Mmany 0 Mhead_118 Mplays_119 Mrests_120 Mwent_121 Mout_122 (stepK ki le Mcells Mgap stn ln (Mminute_28 + 1) (i_74 + 1).toNat qz_84).1 (stepK ki le Mcells Mgap stn ln (Mminute_28 + 1) (i_74 + 1).toNat qz_84).2.1 (stepK ki le Mcells Mgap stn ln (Mminute_28 + 1) (i_74 + 1).toNat qz_84).2.2.2 := by
                      have hst : stepK ki le Mcells Mgap stn ln (Mminute_28 + 1) (i_74 + 1).toNat qz_84 = goG ki le Mcells Mstand (Mminute_28 + 1) (Mrow i_74) ((0 : Int) = 1 ∨ roomP le Mgap Mrow i_74 q_83.1 q_83.2.2.2) q_83 := by
                        rw [go_conv (s := q_83) (p := i_74) (alone := 0) (n := Mmany) (ln := ln) (stn := stn) (by omega) (by omega) hp2 hp3, show (i_74 + 1).toNat = i_74.toNat + 1 by omega, step_go, show ((i_74.toNat : Nat) : Int) = i_74 by omega, ← (by assumption : q_83 = stepK ki le Mcells Mgap stn ln (Mminute_28 + 1) i_74.toNat qz_84)]
                      rw [hst]
                      exact (by assumption : goPost Mmany 0 (Mrow i_74) _ _ _ _ _ _ _ _ _ _ _ _).1
                    have hv_144 : ∀ g, 0 ≤ g → g < Mmany → Mcame_80 g = (stepK ki le Mcells Mgap stn ln (Mminute_28 + 1) (i_74 + 1).toNat qz_84).2.2.1 g ∧ (uZ Mgone_81 (Mrow i_74) (Mminute_28 + 1)) g = (stepK ki le Mcells Mgap stn ln (Mminute_28 + 1) (i_74 + 1).toNat qz_84).2.2.2 g := by
                      have hst : stepK ki le Mcells Mgap stn ln (Mminute_28 + 1) (i_74 + 1).toNat qz_84 = goG ki le Mcells Mstand (Mminute_28 + 1) (Mrow i_74) ((0 : Int) = 1 ∨ roomP le Mgap Mrow i_74 q_83.1 q_83.2.2.2) q_83 := by
                        rw [go_conv (s := q_83) (p := i_74) (alone := 0) (n := Mmany) (ln := ln) (stn := stn) (by omega) (by omega) hp2 hp3, show (i_74 + 1).toNat = i_74.toNat + 1 by omega, step_go, show ((i_74.toNat : Nat) : Int) = i_74 by omega, ← (by assumption : q_83 = stepK ki le Mcells Mgap stn ln (Mminute_28 + 1) i_74.toNat qz_84)]
                      have hgr := go_run (s := q_83) (last := MlastOut_82) (came := Mcame_80) (gone := Mgone_81) (came' := Mcame_80) (gone' := (uZ Mgone_81 (Mrow i_74) (Mminute_28 + 1))) (last' := (Mminute_28 + 1)) (by assumption) (hp0.1 i_74 (by omega) (by omega)) (by assumption) (by assumption : goPost Mmany 0 (Mrow i_74) _ _ _ _ _ _ _ _ _ _ _ _) (by omega) (by first | exact Or.inl ⟨by omega, rfl, rfl, rfl⟩ | exact Or.inr ⟨by omega, by first | exact Or.inl ⟨by omega, rfl⟩ | exact Or.inr ⟨by omega, rfl⟩, by first | exact Or.inl ⟨by omega, rfl, rfl⟩ | exact Or.inr ⟨by omega, rfl, rfl⟩⟩)
                      rw [hst]
                      exact hgr.1
                    have hv_145 : jpN Mmany le Mcells (stepK ki le Mcells Mgap stn ln (Mminute_28 + 1) (i_74 + 1).toNat qz_84).1 (stepK ki le Mcells Mgap stn ln (Mminute_28 + 1) (i_74 + 1).toNat qz_84).2.2.2 := by
                      have hst : stepK ki le Mcells Mgap stn ln (Mminute_28 + 1) (i_74 + 1).toNat qz_84 = goG ki le Mcells Mstand (Mminute_28 + 1) (Mrow i_74) ((0 : Int) = 1 ∨ roomP le Mgap Mrow i_74 q_83.1 q_83.2.2.2) q_83 := by
                        rw [go_conv (s := q_83) (p := i_74) (alone := 0) (n := Mmany) (ln := ln) (stn := stn) (by omega) (by omega) hp2 hp3, show (i_74 + 1).toNat = i_74.toNat + 1 by omega, step_go, show ((i_74.toNat : Nat) : Int) = i_74 by omega, ← (by assumption : q_83 = stepK ki le Mcells Mgap stn ln (Mminute_28 + 1) i_74.toNat qz_84)]
                      rw [hst]
                      exact jpN_go (by assumption) (by omega)
                    have hv_146 : (stepK ki le Mcells Mgap stn ln (Mminute_28 + 1) (i_74 + 1).toNat qz_84).2.2.2 = qz_84.2.2.2 ∨ (Mminute_28 + 1) = (Mminute_28 + 1) := by
                      have hst : stepK ki le Mcells Mgap stn ln (Mminute_28 + 1) (i_74 + 1).toNat qz_84 = goG ki le Mcells Mstand (Mminute_28 + 1) (Mrow i_74) ((0 : Int) = 1 ∨ roomP le Mgap Mrow i_74 q_83.1 q_83.2.2.2) q_83 := by
                        rw [go_conv (s := q_83) (p := i_74) (alone := 0) (n := Mmany) (ln := ln) (stn := stn) (by omega) (by omega) hp2 hp3, show (i_74 + 1).toNat = i_74.toNat + 1 by omega, step_go, show ((i_74.toNat : Nat) : Int) = i_74 by omega, ← (by assumption : q_83 = stepK ki le Mcells Mgap stn ln (Mminute_28 + 1) i_74.toNat qz_84)]
                      have hgr := go_run (s := q_83) (last := MlastOut_82) (came := Mcame_80) (gone := Mgone_81) (came' := Mcame_80) (gone' := (uZ Mgone_81 (Mrow i_74) (Mminute_28 + 1))) (last' := (Mminute_28 + 1)) (by assumption) (hp0.1 i_74 (by omega) (by omega)) (by assumption) (by assumption : goPost Mmany 0 (Mrow i_74) _ _ _ _ _ _ _ _ _ _ _ _) (by omega) (by first | exact Or.inl ⟨by omega, rfl, rfl, rfl⟩ | exact Or.inr ⟨by omega, by first | exact Or.inl ⟨by omega, rfl⟩ | exact Or.inr ⟨by omega, rfl⟩, by first | exact Or.inl ⟨by omega, rfl, rfl⟩ | exact Or.inr ⟨by omega, rfl, rfl⟩⟩)
                      rw [hst]
                      rcases hgr.2 with z | z
                      · rcases (by assumption : q_83.2.2.2 = qz_84.2.2.2 ∨ MlastOut_82 = (Mminute_28 + 1)) with y | y
                        · exact Or.inl (z.1.trans y)
                        · exact Or.inr (z.2.trans y)
                      · exact Or.inr z
                    have hv_147 : qz_84 = (runK ki le Mcells Mgap stn ln Mmany Mminute s0 k_27.toNat) ∧ ¬ allP ln Mmany qz_84.2.2.2 := by
                      first | assumption | omega | grind
                    have hm_148 : (9 - (i_74 + 1)).toNat < (9 - i_74).toNat := by
                      first | assumption | omega | grind
                    exact ih_73 ((i_74 + 1), Mhead_118, Mplays_119, Mrests_120, Mwent_121, Mout_122, Mcame_80, (uZ Mgone_81 (Mrow i_74) (Mminute_28 + 1)), (Mminute_28 + 1), (stepK ki le Mcells Mgap stn ln (Mminute_28 + 1) (i_74 + 1).toNat qz_84), qz_84) _ _ _ ⟨hq_123, hq_124, hq_125, hq_126, hq_127, hR_90, hR_139, hv_140, hv_141, hv_142, hv_143, hv_144, hv_145, hv_146, hv_147, hw, lv_sub hl [2, 3, 4, 0] rfl⟩ hm_148
                  · skip
                    refine lv_goto (tgt := 151) hx hb dX8_run_129 (by decide) ?_
                    refine z_iinc (k := 4) (lv' := [(3, .int (zI (i_74 + 1))), (4, .int (zI (Mrow i_74))), (0, .ref (oM 0)), (1, .int (zI t)), (2, .int (zI (k_27 + 1)))]) hx hb dX8_run_151 hl rfl (by decide) rfl (fun ls hl => ?_)
                    refine lv_goto (tgt := 65) hx hb dX8_run_154 (by decide) ?_
                    have hv_149 : (0 : Int) ≤ MlastOut_82 ∧ MlastOut_82 ≤ 1000000 := by
                      first | assumption | omega | grind
                    have hv_150 : 0 ≤ (i_74 + 1) ∧ (i_74 + 1) ≤ Mmany := by
                      first | assumption | omega | grind
                    have hv_151 : (stepK ki le Mcells Mgap stn ln (Mminute_28 + 1) (i_74 + 1).toNat qz_84) = stepK ki le Mcells Mgap stn ln (Mminute_28 + 1) (i_74 + 1).toNat qz_84 := by
                      rfl
                    have hv_152 : simR Mmany 0 Mhead_118 Mplays_119 Mrests_120 Mwent_121 Mout_122 (stepK ki le Mcells Mgap stn ln (Mminute_28 + 1) (i_74 + 1).toNat qz_84).1 (stepK ki le Mcells Mgap stn ln (Mminute_28 + 1) (i_74 + 1).toNat qz_84).2.1 (stepK ki le Mcells Mgap stn ln (Mminute_28 + 1) (i_74 + 1).toNat qz_84).2.2.2 := by
                      have hst : stepK ki le Mcells Mgap stn ln (Mminute_28 + 1) (i_74 + 1).toNat qz_84 = goG ki le Mcells Mstand (Mminute_28 + 1) (Mrow i_74) ((0 : Int) = 1 ∨ roomP le Mgap Mrow i_74 q_83.1 q_83.2.2.2) q_83 := by
                        rw [go_conv (s := q_83) (p := i_74) (alone := 0) (n := Mmany) (ln := ln) (stn := stn) (by omega) (by omega) hp2 hp3, show (i_74 + 1).toNat = i_74.toNat + 1 by omega, step_go, show ((i_74.toNat : Nat) : Int) = i_74 by omega, ← (by assumption : q_83 = stepK ki le Mcells Mgap stn ln (Mminute_28 + 1) i_74.toNat qz_84)]
                      rw [hst]
                      exact (by assumption : goPost Mmany 0 (Mrow i_74) _ _ _ _ _ _ _ _ _ _ _ _).1
                    have hv_153 : ∀ g, 0 ≤ g → g < Mmany → Mcame_80 g = (stepK ki le Mcells Mgap stn ln (Mminute_28 + 1) (i_74 + 1).toNat qz_84).2.2.1 g ∧ Mgone_81 g = (stepK ki le Mcells Mgap stn ln (Mminute_28 + 1) (i_74 + 1).toNat qz_84).2.2.2 g := by
                      have hst : stepK ki le Mcells Mgap stn ln (Mminute_28 + 1) (i_74 + 1).toNat qz_84 = goG ki le Mcells Mstand (Mminute_28 + 1) (Mrow i_74) ((0 : Int) = 1 ∨ roomP le Mgap Mrow i_74 q_83.1 q_83.2.2.2) q_83 := by
                        rw [go_conv (s := q_83) (p := i_74) (alone := 0) (n := Mmany) (ln := ln) (stn := stn) (by omega) (by omega) hp2 hp3, show (i_74 + 1).toNat = i_74.toNat + 1 by omega, step_go, show ((i_74.toNat : Nat) : Int) = i_74 by omega, ← (by assumption : q_83 = stepK ki le Mcells Mgap stn ln (Mminute_28 + 1) i_74.toNat qz_84)]
                      have hgr := go_run (s := q_83) (last := MlastOut_82) (came := Mcame_80) (gone := Mgone_81) (came' := Mcame_80) (gone' := Mgone_81) (last' := MlastOut_82) (by assumption) (hp0.1 i_74 (by omega) (by omega)) (by assumption) (by assumption : goPost Mmany 0 (Mrow i_74) _ _ _ _ _ _ _ _ _ _ _ _) (by omega) (by first | exact Or.inl ⟨by omega, rfl, rfl, rfl⟩ | exact Or.inr ⟨by omega, by first | exact Or.inl ⟨by omega, rfl⟩ | exact Or.inr ⟨by omega, rfl⟩, by first | exact Or.inl ⟨by omega, rfl, rfl⟩ | exact Or.inr ⟨by omega, rfl, rfl⟩⟩)
                      rw [hst]
                      exact hgr.1
                    have hv_154 : jpN Mmany le Mcells (stepK ki le Mcells Mgap stn ln (Mminute_28 + 1) (i_74 + 1).toNat qz_84).1 (stepK ki le Mcells Mgap stn ln (Mminute_28 + 1) (i_74 + 1).toNat qz_84).2.2.2 := by
                      have hst : stepK ki le Mcells Mgap stn ln (Mminute_28 + 1) (i_74 + 1).toNat qz_84 = goG ki le Mcells Mstand (Mminute_28 + 1) (Mrow i_74) ((0 : Int) = 1 ∨ roomP le Mgap Mrow i_74 q_83.1 q_83.2.2.2) q_83 := by
                        rw [go_conv (s := q_83) (p := i_74) (alone := 0) (n := Mmany) (ln := ln) (stn := stn) (by omega) (by omega) hp2 hp3, show (i_74 + 1).toNat = i_74.toNat + 1 by omega, step_go, show ((i_74.toNat : Nat) : Int) = i_74 by omega, ← (by assumption : q_83 = stepK ki le Mcells Mgap stn ln (Mminute_28 + 1) i_74.toNat qz_84)]
                      rw [hst]
                      exact jpN_go (by assumption) (by omega)
                    have hv_155 : (stepK ki le Mcells Mgap stn ln (Mminute_28 + 1) (i_74 + 1).toNat qz_84).2.2.2 = qz_84.2.2.2 ∨ MlastOut_82 = (Mminute_28 + 1) := by
                      have hst : stepK ki le Mcells Mgap stn ln (Mminute_28 + 1) (i_74 + 1).toNat qz_84 = goG ki le Mcells Mstand (Mminute_28 + 1) (Mrow i_74) ((0 : Int) = 1 ∨ roomP le Mgap Mrow i_74 q_83.1 q_83.2.2.2) q_83 := by
                        rw [go_conv (s := q_83) (p := i_74) (alone := 0) (n := Mmany) (ln := ln) (stn := stn) (by omega) (by omega) hp2 hp3, show (i_74 + 1).toNat = i_74.toNat + 1 by omega, step_go, show ((i_74.toNat : Nat) : Int) = i_74 by omega, ← (by assumption : q_83 = stepK ki le Mcells Mgap stn ln (Mminute_28 + 1) i_74.toNat qz_84)]
                      have hgr := go_run (s := q_83) (last := MlastOut_82) (came := Mcame_80) (gone := Mgone_81) (came' := Mcame_80) (gone' := Mgone_81) (last' := MlastOut_82) (by assumption) (hp0.1 i_74 (by omega) (by omega)) (by assumption) (by assumption : goPost Mmany 0 (Mrow i_74) _ _ _ _ _ _ _ _ _ _ _ _) (by omega) (by first | exact Or.inl ⟨by omega, rfl, rfl, rfl⟩ | exact Or.inr ⟨by omega, by first | exact Or.inl ⟨by omega, rfl⟩ | exact Or.inr ⟨by omega, rfl⟩, by first | exact Or.inl ⟨by omega, rfl, rfl⟩ | exact Or.inr ⟨by omega, rfl, rfl⟩⟩)
                      rw [hst]
                      rcases hgr.2 with z | z
                      · rcases (by assumption : q_83.2.2.2 = qz_84.2.2.2 ∨ MlastOut_82 = (Mminute_28 + 1)) with y | y
                        · exact Or.inl (z.1.trans y)
                        · exact Or.inr (z.2.trans y)
                      · exact Or.inr z
                    have hv_156 : qz_84 = (runK ki le Mcells Mgap stn ln Mmany Mminute s0 k_27.toNat) ∧ ¬ allP ln Mmany qz_84.2.2.2 := by
                      first | assumption | omega | grind
                    have hm_157 : (9 - (i_74 + 1)).toNat < (9 - i_74).toNat := by
                      first | assumption | omega | grind
                    exact ih_73 ((i_74 + 1), Mhead_118, Mplays_119, Mrests_120, Mwent_121, Mout_122, Mcame_80, Mgone_81, MlastOut_82, (stepK ki le Mcells Mgap stn ln (Mminute_28 + 1) (i_74 + 1).toNat qz_84), qz_84) _ _ _ ⟨hq_123, hq_124, hq_125, hq_126, hq_127, hR_90, hR_91, hv_149, hv_150, hv_151, hv_152, hv_153, hv_154, hv_155, hv_156, hw, lv_sub hl [2, 3, 4, 0] rfl⟩ hm_157
                · skip
                  refine lv_aload_n hx hb dX8_run_108 rfl (lv_at hl 1 rfl) ?_
                  refine va_get (D := D) (ci := 8) (v := .ref (oM 15)) (C := RX8) (T := TX8) (N := 36) hx hb hts hinX8 hown hK hw.1 0 rfl rfl 33 (by decide) (hts (.fieldLink RX8 63 "CarnivalRoadModel" "came" "[I") (by decide +kernel)) (fun _ h9 => h9) rfl dX8_run_109 ?_
                  refine lv_iload hx hb dX8_run_112 (lv_at hl 0 rfl) ?_
                  refine lv_aload_n hx hb dX8_run_114 rfl (lv_at hl 1 rfl) ?_
                  refine va_get (D := D) (ci := 8) (v := .int (zI (Mminute_28 + 1))) (C := RX8) (T := TX8) (N := 36) hx hb hts hinX8 hown hK hw.1 0 rfl rfl 27 (by decide) (hts (.fieldLink RX8 208 "CarnivalRoadModel" "minute" "I") (by decide +kernel)) (fun _ h9 => h9) rfl dX8_run_115 ?_
                  have hi_158 : (0 : Int) ≤ (Mrow i_74) ∧ (Mrow i_74) < ((8 : Nat) : Int) := by
                    first | assumption | omega | grind
                  have hv_159 : (-1 : Int) ≤ (Mminute_28 + 1) ∧ (Mminute_28 + 1) ≤ 1000000 := by
                    first | assumption | omega | grind
                  have hR_160 : RA (uZ Mcame_80 (Mrow i_74) (Mminute_28 + 1)) (-1) 1000000 := RA_up hR_90 hv_159
                  refine z_iast (n := 8) (f := Mcame_80) (ws2 := kM cI cB cZ oM Mthrown_4 Mmany Mguest Mrow Mbars Mbar Mfresh Mtape Mtaped Mpos Mtoken MtokenAt Mvalue Mwrong MwrongAt MfaultKind MfaultPlace Mthing Morder Mone Mtwo Mbest Mcells Mgap Mwire Mstand Mruns (Mminute_28 + 1) Mhead_118 Mplays_119 Mrests_120 Mwent_121 Mout_122 (uZ Mcame_80 (Mrow i_74) (Mminute_28 + 1)) Mgone_81 MlastOut_82) hx hb hK hw 15 rfl (by decide) hi_158 dX8_run_118 rfl (fun H locs hw => ?_)
                  refine lv_aload_n hx hb dX8_run_119 rfl (lv_at hl 1 rfl) ?_
                  refine va_get (D := D) (ci := 8) (v := .ref (oM 14)) (C := RX8) (T := TX8) (N := 36) hx hb hts hinX8 hown hK hw.1 0 rfl rfl 32 (by decide) (hts (.fieldLink RX8 59 "CarnivalRoadModel" "out" "[Z") (by decide +kernel)) (fun _ h9 => h9) rfl dX8_run_120 ?_
                  refine lv_iload hx hb dX8_run_123 (lv_at hl 0 rfl) ?_
                  have hi_161 : (0 : Int) ≤ (Mrow i_74) ∧ (Mrow i_74) < ((16 : Nat) : Int) := by
                    first | assumption | omega | grind
                  refine z_zald (n := 16) (f := Mout_122) hx hb hK hw 14 rfl (by decide) hi_161 dX8_run_125 ?_
                  have hq_162 : 0 ≤ Mout_122 (Mrow i_74) ∧ Mout_122 (Mrow i_74) ≤ 1 := hq_127 (Mrow i_74)
                  refine z_if_ne (tgt := 132) hx hb dX8_run_126 (by decide) (by omega) (fun hc_163 => ?_) (fun hc_163 => ?_)
                  · skip
                    refine lv_aload_n hx hb dX8_run_132 rfl (lv_at hl 1 rfl) ?_
                    refine va_get (D := D) (ci := 8) (v := .ref (oM 16)) (C := RX8) (T := TX8) (N := 36) hx hb hts hinX8 hown hK hw.1 0 rfl rfl 34 (by decide) (hts (.fieldLink RX8 66 "CarnivalRoadModel" "gone" "[I") (by decide +kernel)) (fun _ h9 => h9) rfl dX8_run_133 ?_
                    refine lv_iload hx hb dX8_run_136 (lv_at hl 0 rfl) ?_
                    refine lv_aload_n hx hb dX8_run_138 rfl (lv_at hl 1 rfl) ?_
                    refine va_get (D := D) (ci := 8) (v := .int (zI (Mminute_28 + 1))) (C := RX8) (T := TX8) (N := 36) hx hb hts hinX8 hown hK hw.1 0 rfl rfl 27 (by decide) (hts (.fieldLink RX8 208 "CarnivalRoadModel" "minute" "I") (by decide +kernel)) (fun _ h9 => h9) rfl dX8_run_139 ?_
                    have hi_164 : (0 : Int) ≤ (Mrow i_74) ∧ (Mrow i_74) < ((8 : Nat) : Int) := by
                      first | assumption | omega | grind
                    have hv_165 : (-1 : Int) ≤ (Mminute_28 + 1) ∧ (Mminute_28 + 1) ≤ 1000000 := by
                      first | assumption | omega | grind
                    have hR_166 : RA (uZ Mgone_81 (Mrow i_74) (Mminute_28 + 1)) (-1) 1000000 := RA_up hR_91 hv_165
                    refine z_iast (n := 8) (f := Mgone_81) (ws2 := kM cI cB cZ oM Mthrown_4 Mmany Mguest Mrow Mbars Mbar Mfresh Mtape Mtaped Mpos Mtoken MtokenAt Mvalue Mwrong MwrongAt MfaultKind MfaultPlace Mthing Morder Mone Mtwo Mbest Mcells Mgap Mwire Mstand Mruns (Mminute_28 + 1) Mhead_118 Mplays_119 Mrests_120 Mwent_121 Mout_122 (uZ Mcame_80 (Mrow i_74) (Mminute_28 + 1)) (uZ Mgone_81 (Mrow i_74) (Mminute_28 + 1)) MlastOut_82) hx hb hK hw 16 rfl (by decide) hi_164 dX8_run_142 rfl (fun H locs hw => ?_)
                    refine lv_aload_n hx hb dX8_run_143 rfl (lv_at hl 1 rfl) ?_
                    refine lv_aload_n hx hb dX8_run_144 rfl (lv_at hl 1 rfl) ?_
                    refine va_get (D := D) (ci := 8) (v := .int (zI (Mminute_28 + 1))) (C := RX8) (T := TX8) (N := 36) hx hb hts hinX8 hown hK hw.1 0 rfl rfl 27 (by decide) (hts (.fieldLink RX8 208 "CarnivalRoadModel" "minute" "I") (by decide +kernel)) (fun _ h9 => h9) rfl dX8_run_145 ?_
                    refine z_put (D := D) (ci := 8) (v := .int (zI (Mminute_28 + 1))) (ty := .int) (C := RX8) (T := TX8) (N := 36) (ws2 := kM cI cB cZ oM Mthrown_4 Mmany Mguest Mrow Mbars Mbar Mfresh Mtape Mtaped Mpos Mtoken MtokenAt Mvalue Mwrong MwrongAt MfaultKind MfaultPlace Mthing Morder Mone Mtwo Mbest Mcells Mgap Mwire Mstand Mruns (Mminute_28 + 1) Mhead_118 Mplays_119 Mrests_120 Mwent_121 Mout_122 (uZ Mcame_80 (Mrow i_74) (Mminute_28 + 1)) (uZ Mgone_81 (Mrow i_74) (Mminute_28 + 1)) (Mminute_28 + 1)) hx hb hts hinX8 tyX8 tyX8_ok nmX8 hown hK hw 0 rfl rfl 35 (by decide) (hts (.fieldLink RX8 211 "CarnivalRoadModel" "lastOut" "I") (by decide +kernel)) (fun _ h9 => h9) rfl (by decide +kernel) rfl rfl (Nat.le_of_ble_eq_true rfl) dX8_run_148 rfl (fun H locs hw => ?_)
                    refine z_iinc (k := 4) (lv' := [(3, .int (zI (i_74 + 1))), (4, .int (zI (Mrow i_74))), (0, .ref (oM 0)), (1, .int (zI t)), (2, .int (zI (k_27 + 1)))]) hx hb dX8_run_151 hl rfl (by decide) rfl (fun ls hl => ?_)
                    refine lv_goto (tgt := 65) hx hb dX8_run_154 (by decide) ?_
                    have hv_167 : (0 : Int) ≤ (Mminute_28 + 1) ∧ (Mminute_28 + 1) ≤ 1000000 := by
                      first | assumption | omega | grind
                    have hv_168 : 0 ≤ (i_74 + 1) ∧ (i_74 + 1) ≤ Mmany := by
                      first | assumption | omega | grind
                    have hv_169 : (stepK ki le Mcells Mgap stn ln (Mminute_28 + 1) (i_74 + 1).toNat qz_84) = stepK ki le Mcells Mgap stn ln (Mminute_28 + 1) (i_74 + 1).toNat qz_84 := by
                      rfl
                    have hv_170 : simR Mmany 0 Mhead_118 Mplays_119 Mrests_120 Mwent_121 Mout_122 (stepK ki le Mcells Mgap stn ln (Mminute_28 + 1) (i_74 + 1).toNat qz_84).1 (stepK ki le Mcells Mgap stn ln (Mminute_28 + 1) (i_74 + 1).toNat qz_84).2.1 (stepK ki le Mcells Mgap stn ln (Mminute_28 + 1) (i_74 + 1).toNat qz_84).2.2.2 := by
                      have hst : stepK ki le Mcells Mgap stn ln (Mminute_28 + 1) (i_74 + 1).toNat qz_84 = goG ki le Mcells Mstand (Mminute_28 + 1) (Mrow i_74) ((0 : Int) = 1 ∨ roomP le Mgap Mrow i_74 q_83.1 q_83.2.2.2) q_83 := by
                        rw [go_conv (s := q_83) (p := i_74) (alone := 0) (n := Mmany) (ln := ln) (stn := stn) (by omega) (by omega) hp2 hp3, show (i_74 + 1).toNat = i_74.toNat + 1 by omega, step_go, show ((i_74.toNat : Nat) : Int) = i_74 by omega, ← (by assumption : q_83 = stepK ki le Mcells Mgap stn ln (Mminute_28 + 1) i_74.toNat qz_84)]
                      rw [hst]
                      exact (by assumption : goPost Mmany 0 (Mrow i_74) _ _ _ _ _ _ _ _ _ _ _ _).1
                    have hv_171 : ∀ g, 0 ≤ g → g < Mmany → (uZ Mcame_80 (Mrow i_74) (Mminute_28 + 1)) g = (stepK ki le Mcells Mgap stn ln (Mminute_28 + 1) (i_74 + 1).toNat qz_84).2.2.1 g ∧ (uZ Mgone_81 (Mrow i_74) (Mminute_28 + 1)) g = (stepK ki le Mcells Mgap stn ln (Mminute_28 + 1) (i_74 + 1).toNat qz_84).2.2.2 g := by
                      have hst : stepK ki le Mcells Mgap stn ln (Mminute_28 + 1) (i_74 + 1).toNat qz_84 = goG ki le Mcells Mstand (Mminute_28 + 1) (Mrow i_74) ((0 : Int) = 1 ∨ roomP le Mgap Mrow i_74 q_83.1 q_83.2.2.2) q_83 := by
                        rw [go_conv (s := q_83) (p := i_74) (alone := 0) (n := Mmany) (ln := ln) (stn := stn) (by omega) (by omega) hp2 hp3, show (i_74 + 1).toNat = i_74.toNat + 1 by omega, step_go, show ((i_74.toNat : Nat) : Int) = i_74 by omega, ← (by assumption : q_83 = stepK ki le Mcells Mgap stn ln (Mminute_28 + 1) i_74.toNat qz_84)]
                      have hgr := go_run (s := q_83) (last := MlastOut_82) (came := Mcame_80) (gone := Mgone_81) (came' := (uZ Mcame_80 (Mrow i_74) (Mminute_28 + 1))) (gone' := (uZ Mgone_81 (Mrow i_74) (Mminute_28 + 1))) (last' := (Mminute_28 + 1)) (by assumption) (hp0.1 i_74 (by omega) (by omega)) (by assumption) (by assumption : goPost Mmany 0 (Mrow i_74) _ _ _ _ _ _ _ _ _ _ _ _) (by omega) (by first | exact Or.inl ⟨by omega, rfl, rfl, rfl⟩ | exact Or.inr ⟨by omega, by first | exact Or.inl ⟨by omega, rfl⟩ | exact Or.inr ⟨by omega, rfl⟩, by first | exact Or.inl ⟨by omega, rfl, rfl⟩ | exact Or.inr ⟨by omega, rfl, rfl⟩⟩)
                      rw [hst]
                      exact hgr.1
                    have hv_172 : jpN Mmany le Mcells (stepK ki le Mcells Mgap stn ln (Mminute_28 + 1) (i_74 + 1).toNat qz_84).1 (stepK ki le Mcells Mgap stn ln (Mminute_28 + 1) (i_74 + 1).toNat qz_84).2.2.2 := by
                      have hst : stepK ki le Mcells Mgap stn ln (Mminute_28 + 1) (i_74 + 1).toNat qz_84 = goG ki le Mcells Mstand (Mminute_28 + 1) (Mrow i_74) ((0 : Int) = 1 ∨ roomP le Mgap Mrow i_74 q_83.1 q_83.2.2.2) q_83 := by
                        rw [go_conv (s := q_83) (p := i_74) (alone := 0) (n := Mmany) (ln := ln) (stn := stn) (by omega) (by omega) hp2 hp3, show (i_74 + 1).toNat = i_74.toNat + 1 by omega, step_go, show ((i_74.toNat : Nat) : Int) = i_74 by omega, ← (by assumption : q_83 = stepK ki le Mcells Mgap stn ln (Mminute_28 + 1) i_74.toNat qz_84)]
                      rw [hst]
                      exact jpN_go (by assumption) (by omega)
                    have hv_173 : (stepK ki le Mcells Mgap stn ln (Mminute_28 + 1) (i_74 + 1).toNat qz_84).2.2.2 = qz_84.2.2.2 ∨ (Mminute_28 + 1) = (Mminute_28 + 1) := by
                      have hst : stepK ki le Mcells Mgap stn ln (Mminute_28 + 1) (i_74 + 1).toNat qz_84 = goG ki le Mcells Mstand (Mminute_28 + 1) (Mrow i_74) ((0 : Int) = 1 ∨ roomP le Mgap Mrow i_74 q_83.1 q_83.2.2.2) q_83 := by
                        rw [go_conv (s := q_83) (p := i_74) (alone := 0) (n := Mmany) (ln := ln) (stn := stn) (by omega) (by omega) hp2 hp3, show (i_74 + 1).toNat = i_74.toNat + 1 by omega, step_go, show ((i_74.toNat : Nat) : Int) = i_74 by omega, ← (by assumption : q_83 = stepK ki le Mcells Mgap stn ln (Mminute_28 + 1) i_74.toNat qz_84)]
                      have hgr := go_run (s := q_83) (last := MlastOut_82) (came := Mcame_80) (gone := Mgone_81) (came' := (uZ Mcame_80 (Mrow i_74) (Mminute_28 + 1))) (gone' := (uZ Mgone_81 (Mrow i_74) (Mminute_28 + 1))) (last' := (Mminute_28 + 1)) (by assumption) (hp0.1 i_74 (by omega) (by omega)) (by assumption) (by assumption : goPost Mmany 0 (Mrow i_74) _ _ _ _ _ _ _ _ _ _ _ _) (by omega) (by first | exact Or.inl ⟨by omega, rfl, rfl, rfl⟩ | exact Or.inr ⟨by omega, by first | exact Or.inl ⟨by omega, rfl⟩ | exact Or.inr ⟨by omega, rfl⟩, by first | exact Or.inl ⟨by omega, rfl, rfl⟩ | exact Or.inr ⟨by omega, rfl, rfl⟩⟩)
                      rw [hst]
                      rcases hgr.2 with z | z
                      · rcases (by assumption : q_83.2.2.2 = qz_84.2.2.2 ∨ MlastOut_82 = (Mminute_28 + 1)) with y | y
                        · exact Or.inl (z.1.trans y)
                        · exact Or.inr (z.2.trans y)
                      · exact Or.inr z
                    have hv_174 : qz_84 = (runK ki le Mcells Mgap stn ln Mmany Mminute s0 k_27.toNat) ∧ ¬ allP ln Mmany qz_84.2.2.2 := by
                      first | assumption | omega | grind
                    have hm_175 : (9 - (i_74 + 1)).toNat < (9 - i_74).toNat := by
                      first | assumption | omega | grind
                    exact ih_73 ((i_74 + 1), Mhead_118, Mplays_119, Mrests_120, Mwent_121, Mout_122, (uZ Mcame_80 (Mrow i_74) (Mminute_28 + 1)), (uZ Mgone_81 (Mrow i_74) (Mminute_28 + 1)), (Mminute_28 + 1), (stepK ki le Mcells Mgap stn ln (Mminute_28 + 1) (i_74 + 1).toNat qz_84), qz_84) _ _ _ ⟨hq_123, hq_124, hq_125, hq_126, hq_127, hR_160, hR_166, hv_167, hv_168, hv_169, hv_170, hv_171, hv_172, hv_173, hv_174, hw, lv_sub hl [2, 3, 4, 0] rfl⟩ hm_175
                  · skip
                    refine lv_goto (tgt := 151) hx hb dX8_run_129 (by decide) ?_
                    refine z_iinc (k := 4) (lv' := [(3, .int (zI (i_74 + 1))), (4, .int (zI (Mrow i_74))), (0, .ref (oM 0)), (1, .int (zI t)), (2, .int (zI (k_27 + 1)))]) hx hb dX8_run_151 hl rfl (by decide) rfl (fun ls hl => ?_)
                    refine lv_goto (tgt := 65) hx hb dX8_run_154 (by decide) ?_
                    have hv_176 : (0 : Int) ≤ MlastOut_82 ∧ MlastOut_82 ≤ 1000000 := by
                      first | assumption | omega | grind
                    have hv_177 : 0 ≤ (i_74 + 1) ∧ (i_74 + 1) ≤ Mmany := by
                      first | assumption | omega | grind
                    have hv_178 : (stepK ki le Mcells Mgap stn ln (Mminute_28 + 1) (i_74 + 1).toNat qz_84) = stepK ki le Mcells Mgap stn ln (Mminute_28 + 1) (i_74 + 1).toNat qz_84 := by
                      rfl
                    have hv_179 : simR Mmany 0 Mhead_118 Mplays_119 Mrests_120 Mwent_121 Mout_122 (stepK ki le Mcells Mgap stn ln (Mminute_28 + 1) (i_74 + 1).toNat qz_84).1 (stepK ki le Mcells Mgap stn ln (Mminute_28 + 1) (i_74 + 1).toNat qz_84).2.1 (stepK ki le Mcells Mgap stn ln (Mminute_28 + 1) (i_74 + 1).toNat qz_84).2.2.2 := by
                      have hst : stepK ki le Mcells Mgap stn ln (Mminute_28 + 1) (i_74 + 1).toNat qz_84 = goG ki le Mcells Mstand (Mminute_28 + 1) (Mrow i_74) ((0 : Int) = 1 ∨ roomP le Mgap Mrow i_74 q_83.1 q_83.2.2.2) q_83 := by
                        rw [go_conv (s := q_83) (p := i_74) (alone := 0) (n := Mmany) (ln := ln) (stn := stn) (by omega) (by omega) hp2 hp3, show (i_74 + 1).toNat = i_74.toNat + 1 by omega, step_go, show ((i_74.toNat : Nat) : Int) = i_74 by omega, ← (by assumption : q_83 = stepK ki le Mcells Mgap stn ln (Mminute_28 + 1) i_74.toNat qz_84)]
                      rw [hst]
                      exact (by assumption : goPost Mmany 0 (Mrow i_74) _ _ _ _ _ _ _ _ _ _ _ _).1
                    have hv_180 : ∀ g, 0 ≤ g → g < Mmany → (uZ Mcame_80 (Mrow i_74) (Mminute_28 + 1)) g = (stepK ki le Mcells Mgap stn ln (Mminute_28 + 1) (i_74 + 1).toNat qz_84).2.2.1 g ∧ Mgone_81 g = (stepK ki le Mcells Mgap stn ln (Mminute_28 + 1) (i_74 + 1).toNat qz_84).2.2.2 g := by
                      have hst : stepK ki le Mcells Mgap stn ln (Mminute_28 + 1) (i_74 + 1).toNat qz_84 = goG ki le Mcells Mstand (Mminute_28 + 1) (Mrow i_74) ((0 : Int) = 1 ∨ roomP le Mgap Mrow i_74 q_83.1 q_83.2.2.2) q_83 := by
                        rw [go_conv (s := q_83) (p := i_74) (alone := 0) (n := Mmany) (ln := ln) (stn := stn) (by omega) (by omega) hp2 hp3, show (i_74 + 1).toNat = i_74.toNat + 1 by omega, step_go, show ((i_74.toNat : Nat) : Int) = i_74 by omega, ← (by assumption : q_83 = stepK ki le Mcells Mgap stn ln (Mminute_28 + 1) i_74.toNat qz_84)]
                      have hgr := go_run (s := q_83) (last := MlastOut_82) (came := Mcame_80) (gone := Mgone_81) (came' := (uZ Mcame_80 (Mrow i_74) (Mminute_28 + 1))) (gone' := Mgone_81) (last' := MlastOut_82) (by assumption) (hp0.1 i_74 (by omega) (by omega)) (by assumption) (by assumption : goPost Mmany 0 (Mrow i_74) _ _ _ _ _ _ _ _ _ _ _ _) (by omega) (by first | exact Or.inl ⟨by omega, rfl, rfl, rfl⟩ | exact Or.inr ⟨by omega, by first | exact Or.inl ⟨by omega, rfl⟩ | exact Or.inr ⟨by omega, rfl⟩, by first | exact Or.inl ⟨by omega, rfl, rfl⟩ | exact Or.inr ⟨by omega, rfl, rfl⟩⟩)
                      rw [hst]
                      exact hgr.1
                    have hv_181 : jpN Mmany le Mcells (stepK ki le Mcells Mgap stn ln (Mminute_28 + 1) (i_74 + 1).toNat qz_84).1 (stepK ki le Mcells Mgap stn ln (Mminute_28 + 1) (i_74 + 1).toNat qz_84).2.2.2 := by
                      have hst : stepK ki le Mcells Mgap stn ln (Mminute_28 + 1) (i_74 + 1).toNat qz_84 = goG ki le Mcells Mstand (Mminute_28 + 1) (Mrow i_74) ((0 : Int) = 1 ∨ roomP le Mgap Mrow i_74 q_83.1 q_83.2.2.2) q_83 := by
                        rw [go_conv (s := q_83) (p := i_74) (alone := 0) (n := Mmany) (ln := ln) (stn := stn) (by omega) (by omega) hp2 hp3, show (i_74 + 1).toNat = i_74.toNat + 1 by omega, step_go, show ((i_74.toNat : Nat) : Int) = i_74 by omega, ← (by assumption : q_83 = stepK ki le Mcells Mgap stn ln (Mminute_28 + 1) i_74.toNat qz_84)]
                      rw [hst]
                      exact jpN_go (by assumption) (by omega)
                    have hv_182 : (stepK ki le Mcells Mgap stn ln (Mminute_28 + 1) (i_74 + 1).toNat qz_84).2.2.2 = qz_84.2.2.2 ∨ MlastOut_82 = (Mminute_28 + 1) := by
                      have hst : stepK ki le Mcells Mgap stn ln (Mminute_28 + 1) (i_74 + 1).toNat qz_84 = goG ki le Mcells Mstand (Mminute_28 + 1) (Mrow i_74) ((0 : Int) = 1 ∨ roomP le Mgap Mrow i_74 q_83.1 q_83.2.2.2) q_83 := by
                        rw [go_conv (s := q_83) (p := i_74) (alone := 0) (n := Mmany) (ln := ln) (stn := stn) (by omega) (by omega) hp2 hp3, show (i_74 + 1).toNat = i_74.toNat + 1 by omega, step_go, show ((i_74.toNat : Nat) : Int) = i_74 by omega, ← (by assumption : q_83 = stepK ki le Mcells Mgap stn ln (Mminute_28 + 1) i_74.toNat qz_84)]
                      have hgr := go_run (s := q_83) (last := MlastOut_82) (came := Mcame_80) (gone := Mgone_81) (came' := (uZ Mcame_80 (Mrow i_74) (Mminute_28 + 1))) (gone' := Mgone_81) (last' := MlastOut_82) (by assumption) (hp0.1 i_74 (by omega) (by omega)) (by assumption) (by assumption : goPost Mmany 0 (Mrow i_74) _ _ _ _ _ _ _ _ _ _ _ _) (by omega) (by first | exact Or.inl ⟨by omega, rfl, rfl, rfl⟩ | exact Or.inr ⟨by omega, by first | exact Or.inl ⟨by omega, rfl⟩ | exact Or.inr ⟨by omega, rfl⟩, by first | exact Or.inl ⟨by omega, rfl, rfl⟩ | exact Or.inr ⟨by omega, rfl, rfl⟩⟩)
                      rw [hst]
                      rcases hgr.2 with z | z
                      · rcases (by assumption : q_83.2.2.2 = qz_84.2.2.2 ∨ MlastOut_82 = (Mminute_28 + 1)) with y | y
                        · exact Or.inl (z.1.trans y)
                        · exact Or.inr (z.2.trans y)
                      · exact Or.inr z
                    have hv_183 : qz_84 = (runK ki le Mcells Mgap stn ln Mmany Mminute s0 k_27.toNat) ∧ ¬ allP ln Mmany qz_84.2.2.2 := by
                      first | assumption | omega | grind
                    have hm_184 : (9 - (i_74 + 1)).toNat < (9 - i_74).toNat := by
                      first | assumption | omega | grind
                    exact ih_73 ((i_74 + 1), Mhead_118, Mplays_119, Mrests_120, Mwent_121, Mout_122, (uZ Mcame_80 (Mrow i_74) (Mminute_28 + 1)), Mgone_81, MlastOut_82, (stepK ki le Mcells Mgap stn ln (Mminute_28 + 1) (i_74 + 1).toNat qz_84), qz_84) _ _ _ ⟨hq_123, hq_124, hq_125, hq_126, hq_127, hR_160, hR_91, hv_176, hv_177, hv_178, hv_179, hv_180, hv_181, hv_182, hv_183, hw, lv_sub hl [2, 3, 4, 0] rfl⟩ hm_184
              · skip
                refine lv_goto (tgt := 151) hx hb dX8_run_95 (by decide) ?_
                refine z_iinc (k := 4) (lv' := [(3, .int (zI (i_74 + 1))), (4, .int (zI (Mrow i_74))), (0, .ref (oM 0)), (1, .int (zI t)), (2, .int (zI (k_27 + 1)))]) hx hb dX8_run_151 hl rfl (by decide) rfl (fun ls hl => ?_)
                refine lv_goto (tgt := 65) hx hb dX8_run_154 (by decide) ?_
                have hv_185 : (0 : Int) ≤ MlastOut_82 ∧ MlastOut_82 ≤ 1000000 := by
                  first | assumption | omega | grind
                have hv_186 : 0 ≤ (i_74 + 1) ∧ (i_74 + 1) ≤ Mmany := by
                  first | assumption | omega | grind
                have hv_187 : (stepK ki le Mcells Mgap stn ln (Mminute_28 + 1) (i_74 + 1).toNat qz_84) = stepK ki le Mcells Mgap stn ln (Mminute_28 + 1) (i_74 + 1).toNat qz_84 := by
                  rfl
                have hv_188 : simR Mmany 0 Mhead_118 Mplays_119 Mrests_120 Mwent_121 Mout_122 (stepK ki le Mcells Mgap stn ln (Mminute_28 + 1) (i_74 + 1).toNat qz_84).1 (stepK ki le Mcells Mgap stn ln (Mminute_28 + 1) (i_74 + 1).toNat qz_84).2.1 (stepK ki le Mcells Mgap stn ln (Mminute_28 + 1) (i_74 + 1).toNat qz_84).2.2.2 := by
                  have hst : stepK ki le Mcells Mgap stn ln (Mminute_28 + 1) (i_74 + 1).toNat qz_84 = goG ki le Mcells Mstand (Mminute_28 + 1) (Mrow i_74) ((0 : Int) = 1 ∨ roomP le Mgap Mrow i_74 q_83.1 q_83.2.2.2) q_83 := by
                    rw [go_conv (s := q_83) (p := i_74) (alone := 0) (n := Mmany) (ln := ln) (stn := stn) (by omega) (by omega) hp2 hp3, show (i_74 + 1).toNat = i_74.toNat + 1 by omega, step_go, show ((i_74.toNat : Nat) : Int) = i_74 by omega, ← (by assumption : q_83 = stepK ki le Mcells Mgap stn ln (Mminute_28 + 1) i_74.toNat qz_84)]
                  rw [hst]
                  exact (by assumption : goPost Mmany 0 (Mrow i_74) _ _ _ _ _ _ _ _ _ _ _ _).1
                have hv_189 : ∀ g, 0 ≤ g → g < Mmany → Mcame_80 g = (stepK ki le Mcells Mgap stn ln (Mminute_28 + 1) (i_74 + 1).toNat qz_84).2.2.1 g ∧ Mgone_81 g = (stepK ki le Mcells Mgap stn ln (Mminute_28 + 1) (i_74 + 1).toNat qz_84).2.2.2 g := by
                  have hst : stepK ki le Mcells Mgap stn ln (Mminute_28 + 1) (i_74 + 1).toNat qz_84 = goG ki le Mcells Mstand (Mminute_28 + 1) (Mrow i_74) ((0 : Int) = 1 ∨ roomP le Mgap Mrow i_74 q_83.1 q_83.2.2.2) q_83 := by
                    rw [go_conv (s := q_83) (p := i_74) (alone := 0) (n := Mmany) (ln := ln) (stn := stn) (by omega) (by omega) hp2 hp3, show (i_74 + 1).toNat = i_74.toNat + 1 by omega, step_go, show ((i_74.toNat : Nat) : Int) = i_74 by omega, ← (by assumption : q_83 = stepK ki le Mcells Mgap stn ln (Mminute_28 + 1) i_74.toNat qz_84)]
                  have hgr := go_run (s := q_83) (last := MlastOut_82) (came := Mcame_80) (gone := Mgone_81) (came' := Mcame_80) (gone' := Mgone_81) (last' := MlastOut_82) (by assumption) (hp0.1 i_74 (by omega) (by omega)) (by assumption) (by assumption : goPost Mmany 0 (Mrow i_74) _ _ _ _ _ _ _ _ _ _ _ _) (by omega) (by first | exact Or.inl ⟨by omega, rfl, rfl, rfl⟩ | exact Or.inr ⟨by omega, by first | exact Or.inl ⟨by omega, rfl⟩ | exact Or.inr ⟨by omega, rfl⟩, by first | exact Or.inl ⟨by omega, rfl, rfl⟩ | exact Or.inr ⟨by omega, rfl, rfl⟩⟩)
                  rw [hst]
                  exact hgr.1
                have hv_190 : jpN Mmany le Mcells (stepK ki le Mcells Mgap stn ln (Mminute_28 + 1) (i_74 + 1).toNat qz_84).1 (stepK ki le Mcells Mgap stn ln (Mminute_28 + 1) (i_74 + 1).toNat qz_84).2.2.2 := by
                  have hst : stepK ki le Mcells Mgap stn ln (Mminute_28 + 1) (i_74 + 1).toNat qz_84 = goG ki le Mcells Mstand (Mminute_28 + 1) (Mrow i_74) ((0 : Int) = 1 ∨ roomP le Mgap Mrow i_74 q_83.1 q_83.2.2.2) q_83 := by
                    rw [go_conv (s := q_83) (p := i_74) (alone := 0) (n := Mmany) (ln := ln) (stn := stn) (by omega) (by omega) hp2 hp3, show (i_74 + 1).toNat = i_74.toNat + 1 by omega, step_go, show ((i_74.toNat : Nat) : Int) = i_74 by omega, ← (by assumption : q_83 = stepK ki le Mcells Mgap stn ln (Mminute_28 + 1) i_74.toNat qz_84)]
                  rw [hst]
                  exact jpN_go (by assumption) (by omega)
                have hv_191 : (stepK ki le Mcells Mgap stn ln (Mminute_28 + 1) (i_74 + 1).toNat qz_84).2.2.2 = qz_84.2.2.2 ∨ MlastOut_82 = (Mminute_28 + 1) := by
                  have hst : stepK ki le Mcells Mgap stn ln (Mminute_28 + 1) (i_74 + 1).toNat qz_84 = goG ki le Mcells Mstand (Mminute_28 + 1) (Mrow i_74) ((0 : Int) = 1 ∨ roomP le Mgap Mrow i_74 q_83.1 q_83.2.2.2) q_83 := by
                    rw [go_conv (s := q_83) (p := i_74) (alone := 0) (n := Mmany) (ln := ln) (stn := stn) (by omega) (by omega) hp2 hp3, show (i_74 + 1).toNat = i_74.toNat + 1 by omega, step_go, show ((i_74.toNat : Nat) : Int) = i_74 by omega, ← (by assumption : q_83 = stepK ki le Mcells Mgap stn ln (Mminute_28 + 1) i_74.toNat qz_84)]
                  have hgr := go_run (s := q_83) (last := MlastOut_82) (came := Mcame_80) (gone := Mgone_81) (came' := Mcame_80) (gone' := Mgone_81) (last' := MlastOut_82) (by assumption) (hp0.1 i_74 (by omega) (by omega)) (by assumption) (by assumption : goPost Mmany 0 (Mrow i_74) _ _ _ _ _ _ _ _ _ _ _ _) (by omega) (by first | exact Or.inl ⟨by omega, rfl, rfl, rfl⟩ | exact Or.inr ⟨by omega, by first | exact Or.inl ⟨by omega, rfl⟩ | exact Or.inr ⟨by omega, rfl⟩, by first | exact Or.inl ⟨by omega, rfl, rfl⟩ | exact Or.inr ⟨by omega, rfl, rfl⟩⟩)
                  rw [hst]
                  rcases hgr.2 with z | z
                  · rcases (by assumption : q_83.2.2.2 = qz_84.2.2.2 ∨ MlastOut_82 = (Mminute_28 + 1)) with y | y
                    · exact Or.inl (z.1.trans y)
                    · exact Or.inr (z.2.trans y)
                  · exact Or.inr z
                have hv_192 : qz_84 = (runK ki le Mcells Mgap stn ln Mmany Mminute s0 k_27.toNat) ∧ ¬ allP ln Mmany qz_84.2.2.2 := by
                  first | assumption | omega | grind
                have hm_193 : (9 - (i_74 + 1)).toNat < (9 - i_74).toNat := by
                  first | assumption | omega | grind
                exact ih_73 ((i_74 + 1), Mhead_118, Mplays_119, Mrests_120, Mwent_121, Mout_122, Mcame_80, Mgone_81, MlastOut_82, (stepK ki le Mcells Mgap stn ln (Mminute_28 + 1) (i_74 + 1).toNat qz_84), qz_84) _ _ _ ⟨hq_123, hq_124, hq_125, hq_126, hq_127, hR_90, hR_91, hv_185, hv_186, hv_187, hv_188, hv_189, hv_190, hv_191, hv_192, hw, lv_sub hl [2, 3, 4, 0] rfl⟩ hm_193
      · skip
        refine z_if_ne (tgt := 35) hx hb dX8_run_30 (by decide) (by omega) (fun hc_194 => absurd hc_194 (by omega)) (fun hc_194 => ?_)
        refine z_iconst hx hb dX8_run_33 ?_
        have hv_195 : (0 : Int) ≤ Mthrown_4 ∧ Mthrown_4 ≤ 2 := by
          first | assumption | omega | grind
        have hv_196 : (0 : Int) ≤ Mminute ∧ Mminute ≤ 1000000 := by
          first | assumption | omega | grind
        have hv_197 : (0 : Int) ≤ MlastOut ∧ MlastOut ≤ 1000000 := by
          first | assumption | omega | grind
        have hv_198 : (Mruns = 0 ∧ Mthrown_4 = 1 ∧ Mminute = Mminute ∧ Mhead = Mhead ∧ Mplays = Mplays ∧ Mrests = Mrests ∧ Mwent = Mwent ∧ Mout = Mout ∧ Mcame = Mcame ∧ Mgone = Mgone ∧ MlastOut = MlastOut) ∨ (Mruns = 1 ∧ Mthrown_4 = 0 ∧ ¬ (0 ≤ t ∧ t ≤ 500) ∧ ((-1) : Int) = -1 ∧ Mminute = Mminute ∧ Mhead = Mhead ∧ Mplays = Mplays ∧ Mrests = Mrests ∧ Mwent = Mwent ∧ Mout = Mout ∧ Mcame = Mcame ∧ Mgone = Mgone ∧ MlastOut = MlastOut) ∨ (Mruns = 1 ∧ Mthrown_4 = 0 ∧ (0 ≤ t ∧ t ≤ 500) ∧ ∃ k : Nat, ((-1) : Int) = (k : Int) ∧ (k : Int) ≤ t ∧ Mminute = Mminute + (k : Int) ∧ runR Mmany le Mcells Mrow Mhead Mplays Mrests Mwent Mout Mcame Mgone MlastOut Mminute (runK ki le Mcells Mgap stn ln Mmany Mminute s0 k) ∧ ((k : Int) = t ∨ allP ln Mmany (runK ki le Mcells Mgap stn ln Mmany Mminute s0 k).2.2.2) ∧ ∀ j : Nat, j < k → ¬ allP ln Mmany (runK ki le Mcells Mgap stn ln Mmany Mminute s0 j).2.2.2) := by
          exact Or.inr (Or.inl ⟨by omega, by omega, by omega, rfl, rfl, rfl, rfl, rfl, rfl, rfl, rfl, rfl, rfl⟩)
        exact W.iret (v := zI (-1)) hx hb hr (fun t9 ht hW => ⟨⟨zI (-1), ((-1), Mthrown_4, Mminute, Mhead, Mplays, Mrests, Mwent, Mout, Mcame, Mgone, MlastOut), rfl, ⟨rfl, ⟨hv_195, hv_196, qMhead, qMplays, qMrests, qMwent, qMout, qMcame, qMgone, hv_197, hv_198⟩⟩, by subst hAe; exact z_end hK hw ht hW⟩, by subst hAe; exact hw.2.2.F ht⟩) (by subst hAe; exact hw.2.2.2.2) dX8_run_34
  · skip
    refine z_iconst hx hb dX8_run_8 ?_
    refine lv_goto (tgt := 13) hx hb dX8_run_9 (by decide) ?_
    refine z_iconst hx hb dX8_run_13 ?_
    have hF9 := z_free (wc := kM cI cB cZ oM Mthrown Mmany Mguest Mrow Mbars Mbar Mfresh Mtape Mtaped Mpos Mtoken MtokenAt Mvalue Mwrong MwrongAt MfaultKind MfaultPlace Mthing Morder Mone Mtwo Mbest Mcells Mgap Mwire Mstand Mruns Mminute Mhead Mplays Mrests Mwent Mout Mcame Mgone MlastOut) hw hA [0, 1, 2, 3, 4, 5, 6, 7, 8, 9, 10, 11, 12, 13, 14, 15, 16] rfl
    refine va_calli (va_runV (As := [.int (zI 1), .int (zI 0)]) (rest := []) ⟨hx, hb, hml, hown, hts⟩ (c_X8_fails l D cI cB cZ oM s.heap.size Mthrown Mmany Mguest Mrow Mbars Mbar Mfresh Mtape Mtaped Mpos Mtoken MtokenAt Mvalue Mwrong MwrongAt MfaultKind MfaultPlace Mthing Morder Mone Mtwo Mbest Mcells Mgap Mwire Mstand Mruns Mminute Mhead Mplays Mrests Mwent Mout Mcame Mgone MlastOut 1 0 (by omega) (by omega) qMguest qMrow (by omega) qMbar qMfresh qMtape (by omega) (by omega) (by omega) (by omega) (by omega) (by omega) (by omega) (by omega) (by omega) (by omega) qMorder (by omega) (by omega) qMbest (by omega) (by omega) qMwire qMstand (by omega) (by omega) qMhead qMplays qMrests qMwent qMout qMcame qMgone (by omega) (by omega) (by omega)) (cwV 2 hts gX8_run_X8_fails rfl rfl rfl (by decide +kernel) ⟨Nat.le_of_ble_eq_true rfl, Nat.le_of_ble_eq_true rfl⟩) ⟨zPre_blind, va_recv hK hw.1 (ci := 8) (q0 := 0) rfl rfl, z_pre hK hw [0, 1, 2, 3, 4, 5, 6, 7, 8, 9, 10, 11, 12, 13, 14, 15, 16] (by decide) rfl⟩ rfl rfl hl.1 rfl (lv_room (Nat.le_of_ble_eq_true rfl)) dX8_run_14 ⟨Nat.zero_le _, Nat.zero_le _⟩) hw.2.2 (fun q _ h => hF9 q h) hF9 (fun r9 u9 t9 H_199 locs9 ht9 hvm9 hq9 hB9 hz9 hk9 hS9 => ?_)
    obtain ⟨r_200, Mthrown_201⟩ := u9
    try dsimp only at hq9 hB9
    obtain ⟨rfl, hq9⟩ := hq9
    obtain ⟨hq_202, hq_203, hq_204⟩ := hq9
    have hw : HW D A s.heap (kM cI cB cZ oM Mthrown_201 Mmany Mguest Mrow Mbars Mbar Mfresh Mtape Mtaped Mpos Mtoken MtokenAt Mvalue Mwrong MwrongAt MfaultKind MfaultPlace Mthing Morder Mone Mtwo Mbest Mcells Mgap Mwire Mstand Mruns Mminute Mhead Mplays Mrests Mwent Mout Mcame Mgone MlastOut) H_199 locs9 := z_after (wc := kM cI cB cZ oM Mthrown Mmany Mguest Mrow Mbars Mbar Mfresh Mtape Mtaped Mpos Mtoken MtokenAt Mvalue Mwrong MwrongAt MfaultKind MfaultPlace Mthing Morder Mone Mtwo Mbest Mcells Mgap Mwire Mstand Mruns Mminute Mhead Mplays Mrests Mwent Mout Mcame Mgone MlastOut) hw [0, 1, 2, 3, 4, 5, 6, 7, 8, 9, 10, 11, 12, 13, 14, 15, 16] [] rfl rfl (by decide) (by decide) hF9 hk9 ht9 hB9 hS9 [0, 1, 2, 3, 4, 5, 6, 7, 8, 9, 10, 11, 12, 13, 14, 15, 16] (by decide) rfl
    clear hF9 ht9 hvm9 hB9 hz9 hk9 hS9
    rcases hq_203 with ⟨hc_205, rfl⟩ | ⟨hc_205, rfl⟩
    · skip
      refine z_if_eq (tgt := 22) hx hb dX8_run_17 (by decide) (by omega) (fun hc_206 => absurd hc_206 (by omega)) (fun hc_206 => ?_)
      refine z_iconst hx hb dX8_run_20 ?_
      have hv_207 : (0 : Int) ≤ Mthrown_201 ∧ Mthrown_201 ≤ 2 := by
        first | assumption | omega | grind
      have hv_208 : (0 : Int) ≤ Mminute ∧ Mminute ≤ 1000000 := by
        first | assumption | omega | grind
      have hv_209 : (0 : Int) ≤ MlastOut ∧ MlastOut ≤ 1000000 := by
        first | assumption | omega | grind
      have hv_210 : (Mruns = 0 ∧ Mthrown_201 = 1 ∧ Mminute = Mminute ∧ Mhead = Mhead ∧ Mplays = Mplays ∧ Mrests = Mrests ∧ Mwent = Mwent ∧ Mout = Mout ∧ Mcame = Mcame ∧ Mgone = Mgone ∧ MlastOut = MlastOut) ∨ (Mruns = 1 ∧ Mthrown_201 = 0 ∧ ¬ (0 ≤ t ∧ t ≤ 500) ∧ (0 : Int) = -1 ∧ Mminute = Mminute ∧ Mhead = Mhead ∧ Mplays = Mplays ∧ Mrests = Mrests ∧ Mwent = Mwent ∧ Mout = Mout ∧ Mcame = Mcame ∧ Mgone = Mgone ∧ MlastOut = MlastOut) ∨ (Mruns = 1 ∧ Mthrown_201 = 0 ∧ (0 ≤ t ∧ t ≤ 500) ∧ ∃ k : Nat, (0 : Int) = (k : Int) ∧ (k : Int) ≤ t ∧ Mminute = Mminute + (k : Int) ∧ runR Mmany le Mcells Mrow Mhead Mplays Mrests Mwent Mout Mcame Mgone MlastOut Mminute (runK ki le Mcells Mgap stn ln Mmany Mminute s0 k) ∧ ((k : Int) = t ∨ allP ln Mmany (runK ki le Mcells Mgap stn ln Mmany Mminute s0 k).2.2.2) ∧ ∀ j : Nat, j < k → ¬ allP ln Mmany (runK ki le Mcells Mgap stn ln Mmany Mminute s0 j).2.2.2) := by
        exact Or.inl ⟨by omega, by omega, rfl, rfl, rfl, rfl, rfl, rfl, rfl, rfl, rfl⟩
      exact W.iret (v := zI 0) hx hb hr (fun t9 ht hW => ⟨⟨zI 0, (0, Mthrown_201, Mminute, Mhead, Mplays, Mrests, Mwent, Mout, Mcame, Mgone, MlastOut), rfl, ⟨rfl, ⟨hv_207, hv_208, qMhead, qMplays, qMrests, qMwent, qMout, qMcame, qMgone, hv_209, hv_210⟩⟩, by subst hAe; exact z_end hK hw ht hW⟩, by subst hAe; exact hw.2.2.F ht⟩) (by subst hAe; exact hw.2.2.2.2) dX8_run_21
    · skip
      refine z_if_eq (tgt := 22) hx hb dX8_run_17 (by decide) (by omega) (fun hc_211 => ?_) (fun hc_211 => absurd hc_211 (by omega))
      refine lv_iload_n hx hb dX8_run_22 rfl (lv_at hl 1 rfl) ?_
      refine z_iconst hx hb dX8_run_23 ?_
      refine z_sipush hx hb dX8_run_24 (by decide) ?_
      have hF9 := z_free (wc := ([] : va_W)) hw hA [] rfl
      refine va_calli (va_runS (As := [.int (zI t), .int (zI 0), .int (zI 500)]) (rest := []) ⟨hx, hb, hml, hown, hts⟩ (c_X8_isIn l D cI cB cZ H_199.size t 0 500 (by omega) (by omega) (by omega)) (va_cwS 3 hts gX8_run_X8_isIn rfl rfl rfl (by decide +kernel) ⟨Nat.le_of_ble_eq_true rfl, Nat.le_of_ble_eq_true rfl⟩) ⟨zPre_blind, z_pre hK hw [] (by decide) rfl⟩ rfl rfl hl.1 rfl (lv_room (Nat.le_of_ble_eq_true rfl)) dX8_run_27 ⟨Nat.zero_le _, Nat.zero_le _⟩) hw.2.2 (fun q _ h => hF9 q h) hF9 (fun r9 u9 t9 H_212 locs9 ht9 hvm9 hq9 hB9 hz9 hk9 hS9 => ?_)
      obtain ⟨r_213, rfl⟩ : ∃ z, z = u9 := ⟨_, rfl⟩
      try dsimp only at hq9 hB9
      obtain ⟨rfl, hq9⟩ := hq9
      have hq_214 := hq9
      have hw : HW D A s.heap (kM cI cB cZ oM Mthrown_201 Mmany Mguest Mrow Mbars Mbar Mfresh Mtape Mtaped Mpos Mtoken MtokenAt Mvalue Mwrong MwrongAt MfaultKind MfaultPlace Mthing Morder Mone Mtwo Mbest Mcells Mgap Mwire Mstand Mruns Mminute Mhead Mplays Mrests Mwent Mout Mcame Mgone MlastOut) H_212 locs9 := z_after (wc := ([] : va_W)) hw [] [0, 1, 2, 3, 4, 5, 6, 7, 8, 9, 10, 11, 12, 13, 14, 15, 16] rfl rfl (by decide) (by decide) hF9 hk9 ht9 hB9 hS9 [0, 1, 2, 3, 4, 5, 6, 7, 8, 9, 10, 11, 12, 13, 14, 15, 16] (by decide) rfl
      clear hF9 ht9 hvm9 hB9 hz9 hk9 hS9 hq9
      rcases hq_214 with ⟨hc_215, rfl⟩ | ⟨hc_215, rfl⟩
      · skip
        refine z_if_ne (tgt := 35) hx hb dX8_run_30 (by decide) (by omega) (fun hc_216 => ?_) (fun hc_216 => absurd hc_216 (by omega))
        refine z_iconst hx hb dX8_run_35 ?_
        refine lv_istore_n (lv' := [(2, .int (zI 0)), (0, .ref (oM 0)), (1, .int (zI t))]) hx hb dX8_run_36 rfl hl (by decide) rfl (fun ls hl => ?_)
        have hv_217 : (0 : Int) ≤ Mminute ∧ Mminute ≤ 1000000 := by
          first | assumption | omega | grind
        have hv_218 : (0 : Int) ≤ MlastOut ∧ MlastOut ≤ 1000000 := by
          first | assumption | omega | grind
        have hv_219 : 0 ≤ (0 : Int) ∧ (0 : Int) ≤ t := by
          first | assumption | omega | grind
        have hv_220 : Mminute = Mminute + (0 : Int) := by
          omega
        have hv_221 : runR Mmany le Mcells Mrow Mhead Mplays Mrests Mwent Mout Mcame Mgone MlastOut Mminute (runK ki le Mcells Mgap stn ln Mmany Mminute s0 (0 : Int).toNat) := by
          exact (hp4 (by omega)).1
        have hv_222 : ∀ j : Nat, j < (0 : Int).toNat → ¬ allP ln Mmany (runK ki le Mcells Mgap stn ln Mmany Mminute s0 j).2.2.2 := by
          intro j hj; omega
        refine z_loop (σ := Int × Int × (Int → Int) × (Int → Int) × (Int → Int) × (Int → Int) × (Int → Int) × (Int → Int) × (Int → Int) × Int) (μ := fun x9 => (t - (x9.1)).toNat) (I := fun x9 H locs ls => ((0 : Int) ≤ (x9.2.1) ∧ (x9.2.1) ≤ 1000000) ∧ (RA (x9.2.2.1) (-1) 60) ∧ (RA (x9.2.2.2.1) (0) 18) ∧ (RA (x9.2.2.2.2.1) (0) 3) ∧ (RA (x9.2.2.2.2.2.1) (0) 61) ∧ (RA (x9.2.2.2.2.2.2.1) (0) 1) ∧ (RA (x9.2.2.2.2.2.2.2.1) (-1) 1000000) ∧ (RA (x9.2.2.2.2.2.2.2.2.1) (-1) 1000000) ∧ ((0 : Int) ≤ (x9.2.2.2.2.2.2.2.2.2) ∧ (x9.2.2.2.2.2.2.2.2.2) ≤ 1000000) ∧ (0 ≤ (x9.1) ∧ (x9.1) ≤ t) ∧ ((x9.2.1) = Mminute + (x9.1)) ∧ (runR Mmany le Mcells Mrow (x9.2.2.1) (x9.2.2.2.1) (x9.2.2.2.2.1) (x9.2.2.2.2.2.1) (x9.2.2.2.2.2.2.1) (x9.2.2.2.2.2.2.2.1) (x9.2.2.2.2.2.2.2.2.1) (x9.2.2.2.2.2.2.2.2.2) (x9.2.1) (runK ki le Mcells Mgap stn ln Mmany Mminute s0 (x9.1).toNat)) ∧ (∀ j : Nat, j < (x9.1).toNat → ¬ allP ln Mmany (runK ki le Mcells Mgap stn ln Mmany Mminute s0 j).2.2.2) ∧ HW D A s.heap (kM cI cB cZ oM Mthrown_201 Mmany Mguest Mrow Mbars Mbar Mfresh Mtape Mtaped Mpos Mtoken MtokenAt Mvalue Mwrong MwrongAt MfaultKind MfaultPlace Mthing Morder Mone Mtwo Mbest Mcells Mgap Mwire Mstand Mruns (x9.2.1) (x9.2.2.1) (x9.2.2.2.1) (x9.2.2.2.2.1) (x9.2.2.2.2.2.1) (x9.2.2.2.2.2.2.1) (x9.2.2.2.2.2.2.2.1) (x9.2.2.2.2.2.2.2.2.1) (x9.2.2.2.2.2.2.2.2.2)) H locs ∧ lv_has ls 5 [(0, .ref (oM 0)), (1, .int (zI t)), (2, .int (zI (x9.1)))]) (0, Mminute, Mhead, Mplays, Mrests, Mwent, Mout, Mcame, Mgone, MlastOut) ⟨hv_217, qMhead, qMplays, qMrests, qMwent, qMout, qMcame, qMgone, hv_218, hv_219, hv_220, hv_221, hv_222, hw, lv_sub hl [1, 2, 0] rfl⟩ ?_
        clear hw hl
        intro x9 H locs ls hI ih_223
        obtain ⟨k_224, Mminute_225, Mhead_226, Mplays_227, Mrests_228, Mwent_229, Mout_230, Mcame_231, Mgone_232, MlastOut_233⟩ := x9
        try dsimp only at hI
        obtain ⟨hq_234, hR_235, hR_236, hR_237, hR_238, hR_239, hR_240, hR_241, hq_242, hI_243, hI_244, hI_245, hI_246, hw, hl⟩ := hI
        refine lv_iload_n hx hb dX8_run_37 rfl (lv_at hl 2 rfl) ?_
        refine lv_iload_n hx hb dX8_run_38 rfl (lv_at hl 1 rfl) ?_
        refine z_icmp_ge (tgt := 160) hx hb dX8_run_39 (by decide) (by omega) (fun hc_247 => ?_) (fun hc_247 => ?_)
        · skip
          refine lv_iload_n hx hb dX8_run_160 rfl (lv_at hl 2 rfl) ?_
          have hv_248 : (0 : Int) ≤ Mthrown_201 ∧ Mthrown_201 ≤ 2 := by
            first | assumption | omega | grind
          have hv_249 : (0 : Int) ≤ Mminute_225 ∧ Mminute_225 ≤ 1000000 := by
            first | assumption | omega | grind
          have hv_250 : (0 : Int) ≤ MlastOut_233 ∧ MlastOut_233 ≤ 1000000 := by
            first | assumption | omega | grind
          have hv_251 : (Mruns = 0 ∧ Mthrown_201 = 1 ∧ Mminute_225 = Mminute ∧ Mhead_226 = Mhead ∧ Mplays_227 = Mplays ∧ Mrests_228 = Mrests ∧ Mwent_229 = Mwent ∧ Mout_230 = Mout ∧ Mcame_231 = Mcame ∧ Mgone_232 = Mgone ∧ MlastOut_233 = MlastOut) ∨ (Mruns = 1 ∧ Mthrown_201 = 0 ∧ ¬ (0 ≤ t ∧ t ≤ 500) ∧ k_224 = -1 ∧ Mminute_225 = Mminute ∧ Mhead_226 = Mhead ∧ Mplays_227 = Mplays ∧ Mrests_228 = Mrests ∧ Mwent_229 = Mwent ∧ Mout_230 = Mout ∧ Mcame_231 = Mcame ∧ Mgone_232 = Mgone ∧ MlastOut_233 = MlastOut) ∨ (Mruns = 1 ∧ Mthrown_201 = 0 ∧ (0 ≤ t ∧ t ≤ 500) ∧ ∃ k : Nat, k_224 = (k : Int) ∧ (k : Int) ≤ t ∧ Mminute_225 = Mminute + (k : Int) ∧ runR Mmany le Mcells Mrow Mhead_226 Mplays_227 Mrests_228 Mwent_229 Mout_230 Mcame_231 Mgone_232 MlastOut_233 Mminute_225 (runK ki le Mcells Mgap stn ln Mmany Mminute s0 k) ∧ ((k : Int) = t ∨ allP ln Mmany (runK ki le Mcells Mgap stn ln Mmany Mminute s0 k).2.2.2) ∧ ∀ j : Nat, j < k → ¬ allP ln Mmany (runK ki le Mcells Mgap stn ln Mmany Mminute s0 j).2.2.2) := by
            refine Or.inr (Or.inr ⟨by omega, by omega, by omega, k_224.toNat, by omega, by omega, by omega, by assumption, ?_, by assumption⟩)
            first | exact Or.inl (by omega) | (refine Or.inr ?_; rw [← all_congr hp2]; exact (over_iff (by assumption : runR _ _ _ _ _ _ _ _ _ _ _ _ _ _).1 hp0).mp (by assumption))
          exact W.iret (v := zI k_224) hx hb hr (fun t9 ht hW => ⟨⟨zI k_224, (k_224, Mthrown_201, Mminute_225, Mhead_226, Mplays_227, Mrests_228, Mwent_229, Mout_230, Mcame_231, Mgone_232, MlastOut_233), rfl, ⟨rfl, ⟨hv_248, hv_249, hR_235, hR_236, hR_237, hR_238, hR_239, hR_240, hR_241, hv_250, hv_251⟩⟩, by subst hAe; exact z_end hK hw ht hW⟩, by subst hAe; exact hw.2.2.F ht⟩) (by subst hAe; exact hw.2.2.2.2) dX8_run_161
        · skip
          refine lv_aload_n hx hb dX8_run_42 rfl (lv_at hl 0 rfl) ?_
          refine z_iconst hx hb dX8_run_43 ?_
          have hF9 := z_free (wc := kM cI cB cZ oM Mthrown_201 Mmany Mguest Mrow Mbars Mbar Mfresh Mtape Mtaped Mpos Mtoken MtokenAt Mvalue Mwrong MwrongAt MfaultKind MfaultPlace Mthing Morder Mone Mtwo Mbest Mcells Mgap Mwire Mstand Mruns Mminute_225 Mhead_226 Mplays_227 Mrests_228 Mwent_229 Mout_230 Mcame_231 Mgone_232 MlastOut_233) hw hA [0, 1, 2, 3, 4, 5, 6, 7, 8, 9, 10, 11, 12, 13, 14, 15, 16] rfl
          refine va_calli (va_runV (As := [.int (zI 0)]) (rest := []) ⟨hx, hb, hml, hown, hts⟩ (c_X8_isOver l D cI cB cZ oM H.size Mthrown_201 Mmany Mguest Mrow Mbars Mbar Mfresh Mtape Mtaped Mpos Mtoken MtokenAt Mvalue Mwrong MwrongAt MfaultKind MfaultPlace Mthing Morder Mone Mtwo Mbest Mcells Mgap Mwire Mstand Mruns Mminute_225 Mhead_226 Mplays_227 Mrests_228 Mwent_229 Mout_230 Mcame_231 Mgone_232 MlastOut_233 0 (by omega) (by omega) qMguest qMrow (by omega) qMbar qMfresh qMtape (by omega) (by omega) (by omega) (by omega) (by omega) (by omega) (by omega) (by omega) (by omega) (by omega) qMorder (by omega) (by omega) qMbest (by omega) (by omega) qMwire qMstand (by omega) (by omega) hR_235 hR_236 hR_237 hR_238 hR_239 hR_240 hR_241 (by omega) (by omega)) (cwV 1 hts gX8_run_X8_isOver rfl rfl rfl (by decide +kernel) ⟨Nat.le_of_ble_eq_true rfl, Nat.le_of_ble_eq_true rfl⟩) ⟨zPre_blind, va_recv hK hw.1 (ci := 8) (q0 := 0) rfl rfl, z_pre hK hw [0, 1, 2, 3, 4, 5, 6, 7, 8, 9, 10, 11, 12, 13, 14, 15, 16] (by decide) rfl⟩ rfl rfl hl.1 rfl (lv_room (Nat.le_of_ble_eq_true rfl)) dX8_run_44 ⟨Nat.zero_le _, Nat.zero_le _⟩) hw.2.2 (fun q _ h => hF9 q h) hF9 (fun r9 u9 t9 H_252 locs9 ht9 hvm9 hq9 hB9 hz9 hk9 hS9 => ?_)
          obtain ⟨r_253, rfl⟩ : ∃ z, z = u9 := ⟨_, rfl⟩
          try dsimp only at hq9 hB9
          obtain ⟨rfl, hq9⟩ := hq9
          have hq_254 := hq9
          have hw : HW D A s.heap (kM cI cB cZ oM Mthrown_201 Mmany Mguest Mrow Mbars Mbar Mfresh Mtape Mtaped Mpos Mtoken MtokenAt Mvalue Mwrong MwrongAt MfaultKind MfaultPlace Mthing Morder Mone Mtwo Mbest Mcells Mgap Mwire Mstand Mruns Mminute_225 Mhead_226 Mplays_227 Mrests_228 Mwent_229 Mout_230 Mcame_231 Mgone_232 MlastOut_233) H_252 locs9 := z_after (wc := kM cI cB cZ oM Mthrown_201 Mmany Mguest Mrow Mbars Mbar Mfresh Mtape Mtaped Mpos Mtoken MtokenAt Mvalue Mwrong MwrongAt MfaultKind MfaultPlace Mthing Morder Mone Mtwo Mbest Mcells Mgap Mwire Mstand Mruns Mminute_225 Mhead_226 Mplays_227 Mrests_228 Mwent_229 Mout_230 Mcame_231 Mgone_232 MlastOut_233) hw [0, 1, 2, 3, 4, 5, 6, 7, 8, 9, 10, 11, 12, 13, 14, 15, 16] [] rfl rfl (by decide) (by decide) hF9 hk9 ht9 hB9 hS9 [0, 1, 2, 3, 4, 5, 6, 7, 8, 9, 10, 11, 12, 13, 14, 15, 16] (by decide) rfl
          clear hF9 ht9 hvm9 hB9 hz9 hk9 hS9 hq9
          rcases hq_254 with ⟨hc_255, rfl⟩ | ⟨hc_255, rfl⟩
          · skip
            refine z_if_ne (tgt := 160) hx hb dX8_run_47 (by decide) (by omega) (fun hc_256 => ?_) (fun hc_256 => absurd hc_256 (by omega))
            refine lv_iload_n hx hb dX8_run_160 rfl (lv_at hl 2 rfl) ?_
            have hv_257 : (0 : Int) ≤ Mthrown_201 ∧ Mthrown_201 ≤ 2 := by
              first | assumption | omega | grind
            have hv_258 : (0 : Int) ≤ Mminute_225 ∧ Mminute_225 ≤ 1000000 := by
              first | assumption | omega | grind
            have hv_259 : (0 : Int) ≤ MlastOut_233 ∧ MlastOut_233 ≤ 1000000 := by
              first | assumption | omega | grind
            have hv_260 : (Mruns = 0 ∧ Mthrown_201 = 1 ∧ Mminute_225 = Mminute ∧ Mhead_226 = Mhead ∧ Mplays_227 = Mplays ∧ Mrests_228 = Mrests ∧ Mwent_229 = Mwent ∧ Mout_230 = Mout ∧ Mcame_231 = Mcame ∧ Mgone_232 = Mgone ∧ MlastOut_233 = MlastOut) ∨ (Mruns = 1 ∧ Mthrown_201 = 0 ∧ ¬ (0 ≤ t ∧ t ≤ 500) ∧ k_224 = -1 ∧ Mminute_225 = Mminute ∧ Mhead_226 = Mhead ∧ Mplays_227 = Mplays ∧ Mrests_228 = Mrests ∧ Mwent_229 = Mwent ∧ Mout_230 = Mout ∧ Mcame_231 = Mcame ∧ Mgone_232 = Mgone ∧ MlastOut_233 = MlastOut) ∨ (Mruns = 1 ∧ Mthrown_201 = 0 ∧ (0 ≤ t ∧ t ≤ 500) ∧ ∃ k : Nat, k_224 = (k : Int) ∧ (k : Int) ≤ t ∧ Mminute_225 = Mminute + (k : Int) ∧ runR Mmany le Mcells Mrow Mhead_226 Mplays_227 Mrests_228 Mwent_229 Mout_230 Mcame_231 Mgone_232 MlastOut_233 Mminute_225 (runK ki le Mcells Mgap stn ln Mmany Mminute s0 k) ∧ ((k : Int) = t ∨ allP ln Mmany (runK ki le Mcells Mgap stn ln Mmany Mminute s0 k).2.2.2) ∧ ∀ j : Nat, j < k → ¬ allP ln Mmany (runK ki le Mcells Mgap stn ln Mmany Mminute s0 j).2.2.2) := by
              refine Or.inr (Or.inr ⟨by omega, by omega, by omega, k_224.toNat, by omega, by omega, by omega, by assumption, ?_, by assumption⟩)
              first | exact Or.inl (by omega) | (refine Or.inr ?_; rw [← all_congr hp2]; exact (over_iff (by assumption : runR _ _ _ _ _ _ _ _ _ _ _ _ _ _).1 hp0).mp (by assumption))
            exact W.iret (v := zI k_224) hx hb hr (fun t9 ht hW => ⟨⟨zI k_224, (k_224, Mthrown_201, Mminute_225, Mhead_226, Mplays_227, Mrests_228, Mwent_229, Mout_230, Mcame_231, Mgone_232, MlastOut_233), rfl, ⟨rfl, ⟨hv_257, hv_258, hR_235, hR_236, hR_237, hR_238, hR_239, hR_240, hR_241, hv_259, hv_260⟩⟩, by subst hAe; exact z_end hK hw ht hW⟩, by subst hAe; exact hw.2.2.F ht⟩) (by subst hAe; exact hw.2.2.2.2) dX8_run_161
          · skip
            refine z_if_ne (tgt := 160) hx hb dX8_run_47 (by decide) (by omega) (fun hc_261 => absurd hc_261 (by omega)) (fun hc_261 => ?_)
            refine z_iinc (k := 2) (lv' := [(2, .int (zI (k_224 + 1))), (0, .ref (oM 0)), (1, .int (zI t))]) hx hb dX8_run_50 hl rfl (by decide) rfl (fun ls hl => ?_)
            refine lv_aload_n hx hb dX8_run_53 rfl (lv_at hl 1 rfl) ?_
            refine lv_dup hx hb dX8_run_54 rfl ?_
            refine va_get (D := D) (ci := 8) (v := .int (zI Mminute_225)) (C := RX8) (T := TX8) (N := 36) hx hb hts hinX8 hown hK hw.1 0 rfl rfl 27 (by decide) (hts (.fieldLink RX8 208 "CarnivalRoadModel" "minute" "I") (by decide +kernel)) (fun _ h9 => h9) rfl dX8_run_55 ?_
            refine z_iconst hx hb dX8_run_58 ?_
            refine z_iadd hx hb dX8_run_59 ?_
            refine z_put (D := D) (ci := 8) (v := .int (zI (Mminute_225 + 1))) (ty := .int) (C := RX8) (T := TX8) (N := 36) (ws2 := kM cI cB cZ oM Mthrown_201 Mmany Mguest Mrow Mbars Mbar Mfresh Mtape Mtaped Mpos Mtoken MtokenAt Mvalue Mwrong MwrongAt MfaultKind MfaultPlace Mthing Morder Mone Mtwo Mbest Mcells Mgap Mwire Mstand Mruns (Mminute_225 + 1) Mhead_226 Mplays_227 Mrests_228 Mwent_229 Mout_230 Mcame_231 Mgone_232 MlastOut_233) hx hb hts hinX8 tyX8 tyX8_ok nmX8 hown hK hw 0 rfl rfl 27 (by decide) (hts (.fieldLink RX8 208 "CarnivalRoadModel" "minute" "I") (by decide +kernel)) (fun _ h9 => h9) rfl (by decide +kernel) rfl rfl (Nat.le_of_ble_eq_true rfl) dX8_run_60 rfl (fun H locs hw => ?_)
            refine z_iconst hx hb dX8_run_63 ?_
            refine lv_istore_n (lv' := [(3, .int (zI 0)), (2, .int (zI (k_224 + 1))), (0, .ref (oM 0)), (1, .int (zI t))]) hx hb dX8_run_64 rfl hl (by decide) rfl (fun ls hl => ?_)
            have hrr := (by assumption : runR Mmany le Mcells Mrow Mhead_226 Mplays_227 Mrests_228 Mwent_229 Mout_230 Mcame_231 Mgone_232 MlastOut_233 _ _)
            have hv_262 : (0 : Int) ≤ MlastOut_233 ∧ MlastOut_233 ≤ 1000000 := by
              first | assumption | omega | grind
            have hv_263 : 0 ≤ (0 : Int) ∧ (0 : Int) ≤ Mmany := by
              first | assumption | omega | grind
            have hv_264 : (runK ki le Mcells Mgap stn ln Mmany Mminute s0 k_224.toNat) = stepK ki le Mcells Mgap stn ln (Mminute_225 + 1) (0 : Int).toNat (runK ki le Mcells Mgap stn ln Mmany Mminute s0 k_224.toNat) := by
              rfl
            have hv_265 : simR Mmany 0 Mhead_226 Mplays_227 Mrests_228 Mwent_229 Mout_230 (runK ki le Mcells Mgap stn ln Mmany Mminute s0 k_224.toNat).1 (runK ki le Mcells Mgap stn ln Mmany Mminute s0 k_224.toNat).2.1 (runK ki le Mcells Mgap stn ln Mmany Mminute s0 k_224.toNat).2.2.2 := by
              exact hrr.1
            have hv_266 : ∀ g, 0 ≤ g → g < Mmany → Mcame_231 g = (runK ki le Mcells Mgap stn ln Mmany Mminute s0 k_224.toNat).2.2.1 g ∧ Mgone_232 g = (runK ki le Mcells Mgap stn ln Mmany Mminute s0 k_224.toNat).2.2.2 g := by
              exact hrr.2.1
            have hv_267 : jpN Mmany le Mcells (runK ki le Mcells Mgap stn ln Mmany Mminute s0 k_224.toNat).1 (runK ki le Mcells Mgap stn ln Mmany Mminute s0 k_224.toNat).2.2.2 := by
              exact hrr.2.2.1
            have hv_268 : (runK ki le Mcells Mgap stn ln Mmany Mminute s0 k_224.toNat).2.2.2 = (runK ki le Mcells Mgap stn ln Mmany Mminute s0 k_224.toNat).2.2.2 ∨ MlastOut_233 = (Mminute_225 + 1) := by
              exact Or.inl rfl
            have hv_269 : (runK ki le Mcells Mgap stn ln Mmany Mminute s0 k_224.toNat) = (runK ki le Mcells Mgap stn ln Mmany Mminute s0 k_224.toNat) ∧ ¬ allP ln Mmany (runK ki le Mcells Mgap stn ln Mmany Mminute s0 k_224.toNat).2.2.2 := by
              exact ⟨rfl, fun z => absurd ((over_iff hrr.1 hp0).mpr ((all_congr hp2).mpr z)) (by assumption)⟩
            refine z_loop (σ := Int × (Int → Int) × (Int → Int) × (Int → Int) × (Int → Int) × (Int → Int) × (Int → Int) × (Int → Int) × Int × PS × PS) (μ := fun x9 => (9 - (x9.1)).toNat) (I := fun x9 H locs ls => (RA (x9.2.1) (-1) 60) ∧ (RA (x9.2.2.1) (0) 18) ∧ (RA (x9.2.2.2.1) (0) 3) ∧ (RA (x9.2.2.2.2.1) (0) 61) ∧ (RA (x9.2.2.2.2.2.1) (0) 1) ∧ (RA (x9.2.2.2.2.2.2.1) (-1) 1000000) ∧ (RA (x9.2.2.2.2.2.2.2.1) (-1) 1000000) ∧ ((0 : Int) ≤ (x9.2.2.2.2.2.2.2.2.1) ∧ (x9.2.2.2.2.2.2.2.2.1) ≤ 1000000) ∧ (0 ≤ (x9.1) ∧ (x9.1) ≤ Mmany) ∧ (x9.2.2.2.2.2.2.2.2.2.1 = stepK ki le Mcells Mgap stn ln (Mminute_225 + 1) (x9.1).toNat x9.2.2.2.2.2.2.2.2.2.2) ∧ (simR Mmany 0 (x9.2.1) (x9.2.2.1) (x9.2.2.2.1) (x9.2.2.2.2.1) (x9.2.2.2.2.2.1) x9.2.2.2.2.2.2.2.2.2.1.1 x9.2.2.2.2.2.2.2.2.2.1.2.1 x9.2.2.2.2.2.2.2.2.2.1.2.2.2) ∧ (∀ g, 0 ≤ g → g < Mmany → (x9.2.2.2.2.2.2.1) g = x9.2.2.2.2.2.2.2.2.2.1.2.2.1 g ∧ (x9.2.2.2.2.2.2.2.1) g = x9.2.2.2.2.2.2.2.2.2.1.2.2.2 g) ∧ (jpN Mmany le Mcells x9.2.2.2.2.2.2.2.2.2.1.1 x9.2.2.2.2.2.2.2.2.2.1.2.2.2) ∧ (x9.2.2.2.2.2.2.2.2.2.1.2.2.2 = x9.2.2.2.2.2.2.2.2.2.2.2.2.2 ∨ (x9.2.2.2.2.2.2.2.2.1) = (Mminute_225 + 1)) ∧ (x9.2.2.2.2.2.2.2.2.2.2 = (runK ki le Mcells Mgap stn ln Mmany Mminute s0 k_224.toNat) ∧ ¬ allP ln Mmany x9.2.2.2.2.2.2.2.2.2.2.2.2.2) ∧ HW D A s.heap (kM cI cB cZ oM Mthrown_201 Mmany Mguest Mrow Mbars Mbar Mfresh Mtape Mtaped Mpos Mtoken MtokenAt Mvalue Mwrong MwrongAt MfaultKind MfaultPlace Mthing Morder Mone Mtwo Mbest Mcells Mgap Mwire Mstand Mruns (Mminute_225 + 1) (x9.2.1) (x9.2.2.1) (x9.2.2.2.1) (x9.2.2.2.2.1) (x9.2.2.2.2.2.1) (x9.2.2.2.2.2.2.1) (x9.2.2.2.2.2.2.2.1) (x9.2.2.2.2.2.2.2.2.1)) H locs ∧ lv_has ls 5 [(0, .ref (oM 0)), (1, .int (zI t)), (2, .int (zI (k_224 + 1))), (3, .int (zI (x9.1)))]) (0, Mhead_226, Mplays_227, Mrests_228, Mwent_229, Mout_230, Mcame_231, Mgone_232, MlastOut_233, (runK ki le Mcells Mgap stn ln Mmany Mminute s0 k_224.toNat), (runK ki le Mcells Mgap stn ln Mmany Mminute s0 k_224.toNat)) ⟨hR_235, hR_236, hR_237, hR_238, hR_239, hR_240, hR_241, hv_262, hv_263, hv_264, hv_265, hv_266, hv_267, hv_268, hv_269, hw, lv_sub hl [2, 3, 1, 0] rfl⟩ ?_
            clear hw hl
            intro x9 H locs ls hI ih_270
            obtain ⟨i_271, Mhead_272, Mplays_273, Mrests_274, Mwent_275, Mout_276, Mcame_277, Mgone_278, MlastOut_279, q_280, qz_281⟩ := x9
            try dsimp only at hI
            obtain ⟨hR_282, hR_283, hR_284, hR_285, hR_286, hR_287, hR_288, hq_289, hI_290, hI_291, hI_292, hI_293, hI_294, hI_295, hI_296, hw, hl⟩ := hI
            refine lv_iload_n hx hb dX8_run_65 rfl (lv_at hl 3 rfl) ?_
            refine lv_aload_n hx hb dX8_run_66 rfl (lv_at hl 0 rfl) ?_
            refine va_get (D := D) (ci := 8) (v := .int (zI Mmany)) (C := RX8) (T := TX8) (N := 36) hx hb hts hinX8 hown hK hw.1 0 rfl rfl 1 (by decide) (hts (.fieldLink RX8 72 "CarnivalRoadModel" "many" "I") (by decide +kernel)) (fun _ h9 => h9) rfl dX8_run_67 ?_
            refine z_icmp_ge (tgt := 157) hx hb dX8_run_70 (by decide) (by omega) (fun hc_297 => ?_) (fun hc_297 => ?_)
            · skip
              refine lv_goto (tgt := 37) hx hb dX8_run_157 (by decide) ?_
              have hv_298 : (0 : Int) ≤ (Mminute_225 + 1) ∧ (Mminute_225 + 1) ≤ 1000000 := by
                first | assumption | omega | grind
              have hv_299 : (0 : Int) ≤ MlastOut_279 ∧ MlastOut_279 ≤ 1000000 := by
                first | assumption | omega | grind
              have hv_300 : 0 ≤ (k_224 + 1) ∧ (k_224 + 1) ≤ t := by
                first | assumption | omega | grind
              have hv_301 : (Mminute_225 + 1) = Mminute + (k_224 + 1) := by
                first | assumption | omega | grind
              have hv_302 : runR Mmany le Mcells Mrow Mhead_272 Mplays_273 Mrests_274 Mwent_275 Mout_276 Mcame_277 Mgone_278 MlastOut_279 (Mminute_225 + 1) (runK ki le Mcells Mgap stn ln Mmany Mminute s0 (k_224 + 1).toNat) := by
                have h6 := (by assumption : qz_281 = _ ∧ ¬ allP ln Mmany qz_281.2.2.2)
                rw [show (k_224 + 1).toNat = k_224.toNat + 1 by omega]
                exact run_in (q := q_280) (q0 := qz_281) h6.1 (by rw [show Mmany.toNat = i_271.toNat by omega]; assumption) (by omega) (by assumption) (by assumption) (by assumption) (by assumption) h6.2 hp2
              have hv_303 : ∀ j : Nat, j < (k_224 + 1).toNat → ¬ allP ln Mmany (runK ki le Mcells Mgap stn ln Mmany Mminute s0 j).2.2.2 := by
                have h6 := (by assumption : qz_281 = _ ∧ ¬ allP ln Mmany qz_281.2.2.2)
                intro j hj
                by_cases e : j = k_224.toNat
                · rw [e, ← h6.1]; exact h6.2
                · exact (by assumption : ∀ j : Nat, j < k_224.toNat → ¬ allP ln Mmany (runK ki le Mcells Mgap stn ln Mmany Mminute s0 j).2.2.2) j (by omega)
              have hm_304 : (t - (k_224 + 1)).toNat < (t - k_224).toNat := by
                first | assumption | omega | grind
              exact ih_223 ((k_224 + 1), (Mminute_225 + 1), Mhead_272, Mplays_273, Mrests_274, Mwent_275, Mout_276, Mcame_277, Mgone_278, MlastOut_279) _ _ _ ⟨hv_298, hR_282, hR_283, hR_284, hR_285, hR_286, hR_287, hR_288, hv_299, hv_300, hv_301, hv_302, hv_303, hw, lv_sub hl [0, 1, 2] rfl⟩ hm_304
            · skip
              refine lv_aload_n hx hb dX8_run_73 rfl (lv_at hl 0 rfl) ?_
              refine va_get (D := D) (ci := 8) (v := .ref (oM 2)) (C := RX8) (T := TX8) (N := 36) hx hb hts hinX8 hown hK hw.1 0 rfl rfl 3 (by decide) (hts (.fieldLink RX8 13 "CarnivalRoadModel" "row" "[I") (by decide +kernel)) (fun _ h9 => h9) rfl dX8_run_74 ?_
              refine lv_iload_n hx hb dX8_run_77 rfl (lv_at hl 3 rfl) ?_
              have hi_305 : (0 : Int) ≤ i_271 ∧ i_271 < ((8 : Nat) : Int) := by
                first | assumption | omega | grind
              refine z_iald (n := 8) (f := Mrow) hx hb hK hw 2 rfl (by decide) hi_305 dX8_run_78 ?_
              have hq_306 : 0 ≤ Mrow i_271 ∧ Mrow i_271 ≤ 7 := qMrow i_271
              refine lv_istore (lv' := [(4, .int (zI (Mrow i_271))), (0, .ref (oM 0)), (1, .int (zI t)), (2, .int (zI (k_224 + 1))), (3, .int (zI i_271))]) hx hb dX8_run_79 hl (by decide) rfl (fun ls hl => ?_)
              refine lv_aload_n hx hb dX8_run_81 rfl (lv_at hl 1 rfl) ?_
              refine z_iconst hx hb dX8_run_82 ?_
              refine lv_iload_n hx hb dX8_run_83 rfl (lv_at hl 4 rfl) ?_
              refine lv_aload_n hx hb dX8_run_84 rfl (lv_at hl 1 rfl) ?_
              refine va_get (D := D) (ci := 8) (v := .int (zI (Mminute_225 + 1))) (C := RX8) (T := TX8) (N := 36) hx hb hts hinX8 hown hK hw.1 0 rfl rfl 27 (by decide) (hts (.fieldLink RX8 208 "CarnivalRoadModel" "minute" "I") (by decide +kernel)) (fun _ h9 => h9) rfl dX8_run_85 ?_
              refine z_iconst hx hb dX8_run_88 ?_
              have hpre_307 : (0 : Int) = 0 ∨ (0 : Int) = 8 := by
                first | assumption | omega | grind
              have hpre_308 : i_271 < Mmany := by
                first | assumption | omega | grind
              have hpre_309 : ∀ i, 0 ≤ i → i < Mmany → 0 ≤ Mrow i ∧ Mrow i < Mmany := by
                exact hp0.1
              have hpre_310 : gRel Mmany ki le lo ta sh Mguest := by
                first | assumption | omega | grind
              have hpre_311 : simR Mmany (0 : Int) Mhead_272 Mplays_273 Mrests_274 Mwent_275 Mout_276 (q_280.1) (q_280.2.1) (q_280.2.2.2) := by
                first | assumption | omega | grind
              have hpre_312 : ∀ g, 0 ≤ g → g < Mmany → (q_280.2.2.2) g = -1 → (q_280.1) g - le g + 1 < Mcells := by
                exact (by assumption : jpN Mmany le Mcells q_280.1 q_280.2.2.2)
              have hF9 := z_free (wc := kM cI cB cZ oM Mthrown_201 Mmany Mguest Mrow Mbars Mbar Mfresh Mtape Mtaped Mpos Mtoken MtokenAt Mvalue Mwrong MwrongAt MfaultKind MfaultPlace Mthing Morder Mone Mtwo Mbest Mcells Mgap Mwire Mstand Mruns (Mminute_225 + 1) Mhead_272 Mplays_273 Mrests_274 Mwent_275 Mout_276 Mcame_277 Mgone_278 MlastOut_279) hw hA [0, 1, 2, 3, 4, 5, 6, 7, 8, 9, 10, 11, 12, 13, 14, 15, 16] rfl
              refine va_calli (va_runV (As := [.int (zI 0), .int (zI i_271), .int (zI (Mminute_225 + 1)), .int (zI 0)]) (rest := []) ⟨hx, hb, hml, hown, hts⟩ (c_X8_goes l D cI cB cZ oM H.size Mthrown_201 Mmany Mguest Mrow Mbars Mbar Mfresh Mtape Mtaped Mpos Mtoken MtokenAt Mvalue Mwrong MwrongAt MfaultKind MfaultPlace Mthing Morder Mone Mtwo Mbest Mcells Mgap Mwire Mstand Mruns (Mminute_225 + 1) Mhead_272 Mplays_273 Mrests_274 Mwent_275 Mout_276 Mcame_277 Mgone_278 MlastOut_279 0 i_271 (Mminute_225 + 1) 0 ki le lo ta sh (q_280.1) (q_280.2.1) (q_280.2.2.1) (q_280.2.2.2) (by omega) (by omega) qMguest qMrow (by omega) qMbar qMfresh qMtape (by omega) (by omega) (by omega) (by omega) (by omega) (by omega) (by omega) (by omega) (by omega) (by omega) qMorder (by omega) (by omega) qMbest (by omega) (by omega) qMwire qMstand (by omega) (by omega) hR_282 hR_283 hR_284 hR_285 hR_286 hR_287 hR_288 (by omega) (by omega) (by omega) (by omega) (by omega) hpre_307 hpre_308 hpre_309 hpre_310 hpre_311 hpre_312) (cwV 4 hts gX8_run_X8_goes rfl rfl rfl (by decide +kernel) ⟨Nat.le_of_ble_eq_true rfl, Nat.le_of_ble_eq_true rfl⟩) ⟨zPre_blind, va_recv hK hw.1 (ci := 8) (q0 := 0) rfl rfl, z_pre hK hw [0, 1, 2, 3, 4, 5, 6, 7, 8, 9, 10, 11, 12, 13, 14, 15, 16] (by decide) rfl⟩ rfl rfl hl.1 rfl (lv_room (Nat.le_of_ble_eq_true rfl)) dX8_run_89 ⟨Nat.zero_le _, Nat.zero_le _⟩) hw.2.2 (fun q _ h => hF9 q h) hF9 (fun r9 u9 t9 H_313 locs9 ht9 hvm9 hq9 hB9 hz9 hk9 hS9 => ?_)
              obtain ⟨r_314, Mhead_315, Mplays_316, Mrests_317, Mwent_318, Mout_319⟩ := u9
              try dsimp only at hq9 hB9
              obtain ⟨rfl, hq9⟩ := hq9
              obtain ⟨hq_320, hq_321, hq_322, hq_323, hq_324, hq_325, hq_326⟩ := hq9
              have hw : HW D A s.heap (kM cI cB cZ oM Mthrown_201 Mmany Mguest Mrow Mbars Mbar Mfresh Mtape Mtaped Mpos Mtoken MtokenAt Mvalue Mwrong MwrongAt MfaultKind MfaultPlace Mthing Morder Mone Mtwo Mbest Mcells Mgap Mwire Mstand Mruns (Mminute_225 + 1) Mhead_315 Mplays_316 Mrests_317 Mwent_318 Mout_319 Mcame_277 Mgone_278 MlastOut_279) H_313 locs9 := z_after (wc := kM cI cB cZ oM Mthrown_201 Mmany Mguest Mrow Mbars Mbar Mfresh Mtape Mtaped Mpos Mtoken MtokenAt Mvalue Mwrong MwrongAt MfaultKind MfaultPlace Mthing Morder Mone Mtwo Mbest Mcells Mgap Mwire Mstand Mruns (Mminute_225 + 1) Mhead_272 Mplays_273 Mrests_274 Mwent_275 Mout_276 Mcame_277 Mgone_278 MlastOut_279) hw [0, 1, 2, 3, 4, 5, 6, 7, 8, 9, 10, 11, 12, 13, 14, 15, 16] [] rfl rfl (by decide) (by decide) hF9 hk9 ht9 hB9 hS9 [0, 1, 2, 3, 4, 5, 6, 7, 8, 9, 10, 11, 12, 13, 14, 15, 16] (by decide) rfl
              clear hF9 ht9 hvm9 hB9 hz9 hk9 hS9
              refine z_if_ne (tgt := 98) hx hb dX8_run_92 (by decide) (by omega) (fun hc_327 => ?_) (fun hc_327 => ?_)
              · skip
                refine lv_aload_n hx hb dX8_run_98 rfl (lv_at hl 1 rfl) ?_
                refine va_get (D := D) (ci := 8) (v := .ref (oM 10)) (C := RX8) (T := TX8) (N := 36) hx hb hts hinX8 hown hK hw.1 0 rfl rfl 28 (by decide) (hts (.fieldLink RX8 47 "CarnivalRoadModel" "head" "[I") (by decide +kernel)) (fun _ h9 => h9) rfl dX8_run_99 ?_
                refine lv_iload hx hb dX8_run_102 (lv_at hl 0 rfl) ?_
                have hi_328 : (0 : Int) ≤ (Mrow i_271) ∧ (Mrow i_271) < ((16 : Nat) : Int) := by
                  first | assumption | omega | grind
                refine z_iald (n := 16) (f := Mhead_315) hx hb hK hw 10 rfl (by decide) hi_328 dX8_run_104 ?_
                have hq_329 : -1 ≤ Mhead_315 (Mrow i_271) ∧ Mhead_315 (Mrow i_271) ≤ 60 := hq_320 (Mrow i_271)
                refine z_if_ne (tgt := 119) hx hb dX8_run_105 (by decide) (by omega) (fun hc_330 => ?_) (fun hc_330 => ?_)
                · skip
                  refine lv_aload_n hx hb dX8_run_119 rfl (lv_at hl 1 rfl) ?_
                  refine va_get (D := D) (ci := 8) (v := .ref (oM 14)) (C := RX8) (T := TX8) (N := 36) hx hb hts hinX8 hown hK hw.1 0 rfl rfl 32 (by decide) (hts (.fieldLink RX8 59 "CarnivalRoadModel" "out" "[Z") (by decide +kernel)) (fun _ h9 => h9) rfl dX8_run_120 ?_
                  refine lv_iload hx hb dX8_run_123 (lv_at hl 0 rfl) ?_
                  have hi_331 : (0 : Int) ≤ (Mrow i_271) ∧ (Mrow i_271) < ((16 : Nat) : Int) := by
                    first | assumption | omega | grind
                  refine z_zald (n := 16) (f := Mout_319) hx hb hK hw 14 rfl (by decide) hi_331 dX8_run_125 ?_
                  have hq_332 : 0 ≤ Mout_319 (Mrow i_271) ∧ Mout_319 (Mrow i_271) ≤ 1 := hq_324 (Mrow i_271)
                  refine z_if_ne (tgt := 132) hx hb dX8_run_126 (by decide) (by omega) (fun hc_333 => ?_) (fun hc_333 => ?_)
                  · skip
                    refine lv_aload_n hx hb dX8_run_132 rfl (lv_at hl 1 rfl) ?_
                    refine va_get (D := D) (ci := 8) (v := .ref (oM 16)) (C := RX8) (T := TX8) (N := 36) hx hb hts hinX8 hown hK hw.1 0 rfl rfl 34 (by decide) (hts (.fieldLink RX8 66 "CarnivalRoadModel" "gone" "[I") (by decide +kernel)) (fun _ h9 => h9) rfl dX8_run_133 ?_
                    refine lv_iload hx hb dX8_run_136 (lv_at hl 0 rfl) ?_
                    refine lv_aload_n hx hb dX8_run_138 rfl (lv_at hl 1 rfl) ?_
                    refine va_get (D := D) (ci := 8) (v := .int (zI (Mminute_225 + 1))) (C := RX8) (T := TX8) (N := 36) hx hb hts hinX8 hown hK hw.1 0 rfl rfl 27 (by decide) (hts (.fieldLink RX8 208 "CarnivalRoadModel" "minute" "I") (by decide +kernel)) (fun _ h9 => h9) rfl dX8_run_139 ?_
                    have hi_334 : (0 : Int) ≤ (Mrow i_271) ∧ (Mrow i_271) < ((8 : Nat) : Int) := by
                      first | assumption | omega | grind
                    have hv_335 : (-1 : Int) ≤ (Mminute_225 + 1) ∧ (Mminute_225 + 1) ≤ 1000000 := by
                      first | assumption | omega | grind
                    have hR_336 : RA (uZ Mgone_278 (Mrow i_271) (Mminute_225 + 1)) (-1) 1000000 := RA_up hR_288 hv_335
                    refine z_iast (n := 8) (f := Mgone_278) (ws2 := kM cI cB cZ oM Mthrown_201 Mmany Mguest Mrow Mbars Mbar Mfresh Mtape Mtaped Mpos Mtoken MtokenAt Mvalue Mwrong MwrongAt MfaultKind MfaultPlace Mthing Morder Mone Mtwo Mbest Mcells Mgap Mwire Mstand Mruns (Mminute_225 + 1) Mhead_315 Mplays_316 Mrests_317 Mwent_318 Mout_319 Mcame_277 (uZ Mgone_278 (Mrow i_271) (Mminute_225 + 1)) MlastOut_279) hx hb hK hw 16 rfl (by decide) hi_334 dX8_run_142 rfl (fun H locs hw => ?_)
                    refine lv_aload_n hx hb dX8_run_143 rfl (lv_at hl 1 rfl) ?_
                    refine lv_aload_n hx hb dX8_run_144 rfl (lv_at hl 1 rfl) ?_
                    refine va_get (D := D) (ci := 8) (v := .int (zI (Mminute_225 + 1))) (C := RX8) (T := TX8) (N := 36) hx hb hts hinX8 hown hK hw.1 0 rfl rfl 27 (by decide) (hts (.fieldLink RX8 208 "CarnivalRoadModel" "minute" "I") (by decide +kernel)) (fun _ h9 => h9) rfl dX8_run_145 ?_
                    refine z_put (D := D) (ci := 8) (v := .int (zI (Mminute_225 + 1))) (ty := .int) (C := RX8) (T := TX8) (N := 36) (ws2 := kM cI cB cZ oM Mthrown_201 Mmany Mguest Mrow Mbars Mbar Mfresh Mtape Mtaped Mpos Mtoken MtokenAt Mvalue Mwrong MwrongAt MfaultKind MfaultPlace Mthing Morder Mone Mtwo Mbest Mcells Mgap Mwire Mstand Mruns (Mminute_225 + 1) Mhead_315 Mplays_316 Mrests_317 Mwent_318 Mout_319 Mcame_277 (uZ Mgone_278 (Mrow i_271) (Mminute_225 + 1)) (Mminute_225 + 1)) hx hb hts hinX8 tyX8 tyX8_ok nmX8 hown hK hw 0 rfl rfl 35 (by decide) (hts (.fieldLink RX8 211 "CarnivalRoadModel" "lastOut" "I") (by decide +kernel)) (fun _ h9 => h9) rfl (by decide +kernel) rfl rfl (Nat.le_of_ble_eq_true rfl) dX8_run_148 rfl (fun H locs hw => ?_)
                    refine z_iinc (k := 4) (lv' := [(3, .int (zI (i_271 + 1))), (4, .int (zI (Mrow i_271))), (0, .ref (oM 0)), (1, .int (zI t)), (2, .int (zI (k_224 + 1)))]) hx hb dX8_run_151 hl rfl (by decide) rfl (fun ls hl => ?_)
                    refine lv_goto (tgt := 65) hx hb dX8_run_154 (by decide) ?_
                    have hv_337 : (0 : Int) ≤ (Mminute_225 + 1) ∧ (Mminute_225 + 1) ≤ 1000000 := by
                      first | assumption | omega | grind
                    have hv_338 : 0 ≤ (i_271 + 1) ∧ (i_271 + 1) ≤ Mmany := by
                      first | assumption | omega | grind
                    have hv_339 : (stepK ki le Mcells Mgap stn ln (Mminute_225 + 1) (i_271 + 1).toNat qz_281) = stepK ki le Mcells Mgap stn ln (Mminute_225 + 1) (i_271 + 1).toNat qz_281 := by
                      rfl
                    have hv_340 : simR Mmany 0 Mhead_315 Mplays_316 Mrests_317 Mwent_318 Mout_319 (stepK ki le Mcells Mgap stn ln (Mminute_225 + 1) (i_271 + 1).toNat qz_281).1 (stepK ki le Mcells Mgap stn ln (Mminute_225 + 1) (i_271 + 1).toNat qz_281).2.1 (stepK ki le Mcells Mgap stn ln (Mminute_225 + 1) (i_271 + 1).toNat qz_281).2.2.2 := by
                      have hst : stepK ki le Mcells Mgap stn ln (Mminute_225 + 1) (i_271 + 1).toNat qz_281 = goG ki le Mcells Mstand (Mminute_225 + 1) (Mrow i_271) ((0 : Int) = 1 ∨ roomP le Mgap Mrow i_271 q_280.1 q_280.2.2.2) q_280 := by
                        rw [go_conv (s := q_280) (p := i_271) (alone := 0) (n := Mmany) (ln := ln) (stn := stn) (by omega) (by omega) hp2 hp3, show (i_271 + 1).toNat = i_271.toNat + 1 by omega, step_go, show ((i_271.toNat : Nat) : Int) = i_271 by omega, ← (by assumption : q_280 = stepK ki le Mcells Mgap stn ln (Mminute_225 + 1) i_271.toNat qz_281)]
                      rw [hst]
                      exact (by assumption : goPost Mmany 0 (Mrow i_271) _ _ _ _ _ _ _ _ _ _ _ _).1
                    have hv_341 : ∀ g, 0 ≤ g → g < Mmany → Mcame_277 g = (stepK ki le Mcells Mgap stn ln (Mminute_225 + 1) (i_271 + 1).toNat qz_281).2.2.1 g ∧ (uZ Mgone_278 (Mrow i_271) (Mminute_225 + 1)) g = (stepK ki le Mcells Mgap stn ln (Mminute_225 + 1) (i_271 + 1).toNat qz_281).2.2.2 g := by
                      have hst : stepK ki le Mcells Mgap stn ln (Mminute_225 + 1) (i_271 + 1).toNat qz_281 = goG ki le Mcells Mstand (Mminute_225 + 1) (Mrow i_271) ((0 : Int) = 1 ∨ roomP le Mgap Mrow i_271 q_280.1 q_280.2.2.2) q_280 := by
                        rw [go_conv (s := q_280) (p := i_271) (alone := 0) (n := Mmany) (ln := ln) (stn := stn) (by omega) (by omega) hp2 hp3, show (i_271 + 1).toNat = i_271.toNat + 1 by omega, step_go, show ((i_271.toNat : Nat) : Int) = i_271 by omega, ← (by assumption : q_280 = stepK ki le Mcells Mgap stn ln (Mminute_225 + 1) i_271.toNat qz_281)]
                      have hgr := go_run (s := q_280) (last := MlastOut_279) (came := Mcame_277) (gone := Mgone_278) (came' := Mcame_277) (gone' := (uZ Mgone_278 (Mrow i_271) (Mminute_225 + 1))) (last' := (Mminute_225 + 1)) (by assumption) (hp0.1 i_271 (by omega) (by omega)) (by assumption) (by assumption : goPost Mmany 0 (Mrow i_271) _ _ _ _ _ _ _ _ _ _ _ _) (by omega) (by first | exact Or.inl ⟨by omega, rfl, rfl, rfl⟩ | exact Or.inr ⟨by omega, by first | exact Or.inl ⟨by omega, rfl⟩ | exact Or.inr ⟨by omega, rfl⟩, by first | exact Or.inl ⟨by omega, rfl, rfl⟩ | exact Or.inr ⟨by omega, rfl, rfl⟩⟩)
                      rw [hst]
                      exact hgr.1
                    have hv_342 : jpN Mmany le Mcells (stepK ki le Mcells Mgap stn ln (Mminute_225 + 1) (i_271 + 1).toNat qz_281).1 (stepK ki le Mcells Mgap stn ln (Mminute_225 + 1) (i_271 + 1).toNat qz_281).2.2.2 := by
                      have hst : stepK ki le Mcells Mgap stn ln (Mminute_225 + 1) (i_271 + 1).toNat qz_281 = goG ki le Mcells Mstand (Mminute_225 + 1) (Mrow i_271) ((0 : Int) = 1 ∨ roomP le Mgap Mrow i_271 q_280.1 q_280.2.2.2) q_280 := by
                        rw [go_conv (s := q_280) (p := i_271) (alone := 0) (n := Mmany) (ln := ln) (stn := stn) (by omega) (by omega) hp2 hp3, show (i_271 + 1).toNat = i_271.toNat + 1 by omega, step_go, show ((i_271.toNat : Nat) : Int) = i_271 by omega, ← (by assumption : q_280 = stepK ki le Mcells Mgap stn ln (Mminute_225 + 1) i_271.toNat qz_281)]
                      rw [hst]
                      exact jpN_go (by assumption) (by omega)
                    have hv_343 : (stepK ki le Mcells Mgap stn ln (Mminute_225 + 1) (i_271 + 1).toNat qz_281).2.2.2 = qz_281.2.2.2 ∨ (Mminute_225 + 1) = (Mminute_225 + 1) := by
                      have hst : stepK ki le Mcells Mgap stn ln (Mminute_225 + 1) (i_271 + 1).toNat qz_281 = goG ki le Mcells Mstand (Mminute_225 + 1) (Mrow i_271) ((0 : Int) = 1 ∨ roomP le Mgap Mrow i_271 q_280.1 q_280.2.2.2) q_280 := by
                        rw [go_conv (s := q_280) (p := i_271) (alone := 0) (n := Mmany) (ln := ln) (stn := stn) (by omega) (by omega) hp2 hp3, show (i_271 + 1).toNat = i_271.toNat + 1 by omega, step_go, show ((i_271.toNat : Nat) : Int) = i_271 by omega, ← (by assumption : q_280 = stepK ki le Mcells Mgap stn ln (Mminute_225 + 1) i_271.toNat qz_281)]
                      have hgr := go_run (s := q_280) (last := MlastOut_279) (came := Mcame_277) (gone := Mgone_278) (came' := Mcame_277) (gone' := (uZ Mgone_278 (Mrow i_271) (Mminute_225 + 1))) (last' := (Mminute_225 + 1)) (by assumption) (hp0.1 i_271 (by omega) (by omega)) (by assumption) (by assumption : goPost Mmany 0 (Mrow i_271) _ _ _ _ _ _ _ _ _ _ _ _) (by omega) (by first | exact Or.inl ⟨by omega, rfl, rfl, rfl⟩ | exact Or.inr ⟨by omega, by first | exact Or.inl ⟨by omega, rfl⟩ | exact Or.inr ⟨by omega, rfl⟩, by first | exact Or.inl ⟨by omega, rfl, rfl⟩ | exact Or.inr ⟨by omega, rfl, rfl⟩⟩)
                      rw [hst]
                      rcases hgr.2 with z | z
                      · rcases (by assumption : q_280.2.2.2 = qz_281.2.2.2 ∨ MlastOut_279 = (Mminute_225 + 1)) with y | y
                        · exact Or.inl (z.1.trans y)
                        · exact Or.inr (z.2.trans y)
                      · exact Or.inr z
                    have hv_344 : qz_281 = (runK ki le Mcells Mgap stn ln Mmany Mminute s0 k_224.toNat) ∧ ¬ allP ln Mmany qz_281.2.2.2 := by
                      first | assumption | omega | grind
                    have hm_345 : (9 - (i_271 + 1)).toNat < (9 - i_271).toNat := by
                      first | assumption | omega | grind
                    exact ih_270 ((i_271 + 1), Mhead_315, Mplays_316, Mrests_317, Mwent_318, Mout_319, Mcame_277, (uZ Mgone_278 (Mrow i_271) (Mminute_225 + 1)), (Mminute_225 + 1), (stepK ki le Mcells Mgap stn ln (Mminute_225 + 1) (i_271 + 1).toNat qz_281), qz_281) _ _ _ ⟨hq_320, hq_321, hq_322, hq_323, hq_324, hR_287, hR_336, hv_337, hv_338, hv_339, hv_340, hv_341, hv_342, hv_343, hv_344, hw, lv_sub hl [2, 3, 4, 0] rfl⟩ hm_345
                  · skip
                    refine lv_goto (tgt := 151) hx hb dX8_run_129 (by decide) ?_
                    refine z_iinc (k := 4) (lv' := [(3, .int (zI (i_271 + 1))), (4, .int (zI (Mrow i_271))), (0, .ref (oM 0)), (1, .int (zI t)), (2, .int (zI (k_224 + 1)))]) hx hb dX8_run_151 hl rfl (by decide) rfl (fun ls hl => ?_)
                    refine lv_goto (tgt := 65) hx hb dX8_run_154 (by decide) ?_
                    have hv_346 : (0 : Int) ≤ MlastOut_279 ∧ MlastOut_279 ≤ 1000000 := by
                      first | assumption | omega | grind
                    have hv_347 : 0 ≤ (i_271 + 1) ∧ (i_271 + 1) ≤ Mmany := by
                      first | assumption | omega | grind
                    have hv_348 : (stepK ki le Mcells Mgap stn ln (Mminute_225 + 1) (i_271 + 1).toNat qz_281) = stepK ki le Mcells Mgap stn ln (Mminute_225 + 1) (i_271 + 1).toNat qz_281 := by
                      rfl
                    have hv_349 : simR Mmany 0 Mhead_315 Mplays_316 Mrests_317 Mwent_318 Mout_319 (stepK ki le Mcells Mgap stn ln (Mminute_225 + 1) (i_271 + 1).toNat qz_281).1 (stepK ki le Mcells Mgap stn ln (Mminute_225 + 1) (i_271 + 1).toNat qz_281).2.1 (stepK ki le Mcells Mgap stn ln (Mminute_225 + 1) (i_271 + 1).toNat qz_281).2.2.2 := by
                      have hst : stepK ki le Mcells Mgap stn ln (Mminute_225 + 1) (i_271 + 1).toNat qz_281 = goG ki le Mcells Mstand (Mminute_225 + 1) (Mrow i_271) ((0 : Int) = 1 ∨ roomP le Mgap Mrow i_271 q_280.1 q_280.2.2.2) q_280 := by
                        rw [go_conv (s := q_280) (p := i_271) (alone := 0) (n := Mmany) (ln := ln) (stn := stn) (by omega) (by omega) hp2 hp3, show (i_271 + 1).toNat = i_271.toNat + 1 by omega, step_go, show ((i_271.toNat : Nat) : Int) = i_271 by omega, ← (by assumption : q_280 = stepK ki le Mcells Mgap stn ln (Mminute_225 + 1) i_271.toNat qz_281)]
                      rw [hst]
                      exact (by assumption : goPost Mmany 0 (Mrow i_271) _ _ _ _ _ _ _ _ _ _ _ _).1
                    have hv_350 : ∀ g, 0 ≤ g → g < Mmany → Mcame_277 g = (stepK ki le Mcells Mgap stn ln (Mminute_225 + 1) (i_271 + 1).toNat qz_281).2.2.1 g ∧ Mgone_278 g = (stepK ki le Mcells Mgap stn ln (Mminute_225 + 1) (i_271 + 1).toNat qz_281).2.2.2 g := by
                      have hst : stepK ki le Mcells Mgap stn ln (Mminute_225 + 1) (i_271 + 1).toNat qz_281 = goG ki le Mcells Mstand (Mminute_225 + 1) (Mrow i_271) ((0 : Int) = 1 ∨ roomP le Mgap Mrow i_271 q_280.1 q_280.2.2.2) q_280 := by
                        rw [go_conv (s := q_280) (p := i_271) (alone := 0) (n := Mmany) (ln := ln) (stn := stn) (by omega) (by omega) hp2 hp3, show (i_271 + 1).toNat = i_271.toNat + 1 by omega, step_go, show ((i_271.toNat : Nat) : Int) = i_271 by omega, ← (by assumption : q_280 = stepK ki le Mcells Mgap stn ln (Mminute_225 + 1) i_271.toNat qz_281)]
                      have hgr := go_run (s := q_280) (last := MlastOut_279) (came := Mcame_277) (gone := Mgone_278) (came' := Mcame_277) (gone' := Mgone_278) (last' := MlastOut_279) (by assumption) (hp0.1 i_271 (by omega) (by omega)) (by assumption) (by assumption : goPost Mmany 0 (Mrow i_271) _ _ _ _ _ _ _ _ _ _ _ _) (by omega) (by first | exact Or.inl ⟨by omega, rfl, rfl, rfl⟩ | exact Or.inr ⟨by omega, by first | exact Or.inl ⟨by omega, rfl⟩ | exact Or.inr ⟨by omega, rfl⟩, by first | exact Or.inl ⟨by omega, rfl, rfl⟩ | exact Or.inr ⟨by omega, rfl, rfl⟩⟩)
                      rw [hst]
                      exact hgr.1
                    have hv_351 : jpN Mmany le Mcells (stepK ki le Mcells Mgap stn ln (Mminute_225 + 1) (i_271 + 1).toNat qz_281).1 (stepK ki le Mcells Mgap stn ln (Mminute_225 + 1) (i_271 + 1).toNat qz_281).2.2.2 := by
                      have hst : stepK ki le Mcells Mgap stn ln (Mminute_225 + 1) (i_271 + 1).toNat qz_281 = goG ki le Mcells Mstand (Mminute_225 + 1) (Mrow i_271) ((0 : Int) = 1 ∨ roomP le Mgap Mrow i_271 q_280.1 q_280.2.2.2) q_280 := by
                        rw [go_conv (s := q_280) (p := i_271) (alone := 0) (n := Mmany) (ln := ln) (stn := stn) (by omega) (by omega) hp2 hp3, show (i_271 + 1).toNat = i_271.toNat + 1 by omega, step_go, show ((i_271.toNat : Nat) : Int) = i_271 by omega, ← (by assumption : q_280 = stepK ki le Mcells Mgap stn ln (Mminute_225 + 1) i_271.toNat qz_281)]
                      rw [hst]
                      exact jpN_go (by assumption) (by omega)
                    have hv_352 : (stepK ki le Mcells Mgap stn ln (Mminute_225 + 1) (i_271 + 1).toNat qz_281).2.2.2 = qz_281.2.2.2 ∨ MlastOut_279 = (Mminute_225 + 1) := by
                      have hst : stepK ki le Mcells Mgap stn ln (Mminute_225 + 1) (i_271 + 1).toNat qz_281 = goG ki le Mcells Mstand (Mminute_225 + 1) (Mrow i_271) ((0 : Int) = 1 ∨ roomP le Mgap Mrow i_271 q_280.1 q_280.2.2.2) q_280 := by
                        rw [go_conv (s := q_280) (p := i_271) (alone := 0) (n := Mmany) (ln := ln) (stn := stn) (by omega) (by omega) hp2 hp3, show (i_271 + 1).toNat = i_271.toNat + 1 by omega, step_go, show ((i_271.toNat : Nat) : Int) = i_271 by omega, ← (by assumption : q_280 = stepK ki le Mcells Mgap stn ln (Mminute_225 + 1) i_271.toNat qz_281)]
                      have hgr := go_run (s := q_280) (last := MlastOut_279) (came := Mcame_277) (gone := Mgone_278) (came' := Mcame_277) (gone' := Mgone_278) (last' := MlastOut_279) (by assumption) (hp0.1 i_271 (by omega) (by omega)) (by assumption) (by assumption : goPost Mmany 0 (Mrow i_271) _ _ _ _ _ _ _ _ _ _ _ _) (by omega) (by first | exact Or.inl ⟨by omega, rfl, rfl, rfl⟩ | exact Or.inr ⟨by omega, by first | exact Or.inl ⟨by omega, rfl⟩ | exact Or.inr ⟨by omega, rfl⟩, by first | exact Or.inl ⟨by omega, rfl, rfl⟩ | exact Or.inr ⟨by omega, rfl, rfl⟩⟩)
                      rw [hst]
                      rcases hgr.2 with z | z
                      · rcases (by assumption : q_280.2.2.2 = qz_281.2.2.2 ∨ MlastOut_279 = (Mminute_225 + 1)) with y | y
                        · exact Or.inl (z.1.trans y)
                        · exact Or.inr (z.2.trans y)
                      · exact Or.inr z
                    have hv_353 : qz_281 = (runK ki le Mcells Mgap stn ln Mmany Mminute s0 k_224.toNat) ∧ ¬ allP ln Mmany qz_281.2.2.2 := by
                      first | assumption | omega | grind
                    have hm_354 : (9 - (i_271 + 1)).toNat < (9 - i_271).toNat := by
                      first | assumption | omega | grind
                    exact ih_270 ((i_271 + 1), Mhead_315, Mplays_316, Mrests_317, Mwent_318, Mout_319, Mcame_277, Mgone_278, MlastOut_279, (stepK ki le Mcells Mgap stn ln (Mminute_225 + 1) (i_271 + 1).toNat qz_281), qz_281) _ _ _ ⟨hq_320, hq_321, hq_322, hq_323, hq_324, hR_287, hR_288, hv_346, hv_347, hv_348, hv_349, hv_350, hv_351, hv_352, hv_353, hw, lv_sub hl [2, 3, 4, 0] rfl⟩ hm_354
                · skip
                  refine lv_aload_n hx hb dX8_run_108 rfl (lv_at hl 1 rfl) ?_
                  refine va_get (D := D) (ci := 8) (v := .ref (oM 15)) (C := RX8) (T := TX8) (N := 36) hx hb hts hinX8 hown hK hw.1 0 rfl rfl 33 (by decide) (hts (.fieldLink RX8 63 "CarnivalRoadModel" "came" "[I") (by decide +kernel)) (fun _ h9 => h9) rfl dX8_run_109 ?_
                  refine lv_iload hx hb dX8_run_112 (lv_at hl 0 rfl) ?_
                  refine lv_aload_n hx hb dX8_run_114 rfl (lv_at hl 1 rfl) ?_
                  refine va_get (D := D) (ci := 8) (v := .int (zI (Mminute_225 + 1))) (C := RX8) (T := TX8) (N := 36) hx hb hts hinX8 hown hK hw.1 0 rfl rfl 27 (by decide) (hts (.fieldLink RX8 208 "CarnivalRoadModel" "minute" "I") (by decide +kernel)) (fun _ h9 => h9) rfl dX8_run_115 ?_
                  have hi_355 : (0 : Int) ≤ (Mrow i_271) ∧ (Mrow i_271) < ((8 : Nat) : Int) := by
                    first | assumption | omega | grind
                  have hv_356 : (-1 : Int) ≤ (Mminute_225 + 1) ∧ (Mminute_225 + 1) ≤ 1000000 := by
                    first | assumption | omega | grind
                  have hR_357 : RA (uZ Mcame_277 (Mrow i_271) (Mminute_225 + 1)) (-1) 1000000 := RA_up hR_287 hv_356
                  refine z_iast (n := 8) (f := Mcame_277) (ws2 := kM cI cB cZ oM Mthrown_201 Mmany Mguest Mrow Mbars Mbar Mfresh Mtape Mtaped Mpos Mtoken MtokenAt Mvalue Mwrong MwrongAt MfaultKind MfaultPlace Mthing Morder Mone Mtwo Mbest Mcells Mgap Mwire Mstand Mruns (Mminute_225 + 1) Mhead_315 Mplays_316 Mrests_317 Mwent_318 Mout_319 (uZ Mcame_277 (Mrow i_271) (Mminute_225 + 1)) Mgone_278 MlastOut_279) hx hb hK hw 15 rfl (by decide) hi_355 dX8_run_118 rfl (fun H locs hw => ?_)
                  refine lv_aload_n hx hb dX8_run_119 rfl (lv_at hl 1 rfl) ?_
                  refine va_get (D := D) (ci := 8) (v := .ref (oM 14)) (C := RX8) (T := TX8) (N := 36) hx hb hts hinX8 hown hK hw.1 0 rfl rfl 32 (by decide) (hts (.fieldLink RX8 59 "CarnivalRoadModel" "out" "[Z") (by decide +kernel)) (fun _ h9 => h9) rfl dX8_run_120 ?_
                  refine lv_iload hx hb dX8_run_123 (lv_at hl 0 rfl) ?_
                  have hi_358 : (0 : Int) ≤ (Mrow i_271) ∧ (Mrow i_271) < ((16 : Nat) : Int) := by
                    first | assumption | omega | grind
                  refine z_zald (n := 16) (f := Mout_319) hx hb hK hw 14 rfl (by decide) hi_358 dX8_run_125 ?_
                  have hq_359 : 0 ≤ Mout_319 (Mrow i_271) ∧ Mout_319 (Mrow i_271) ≤ 1 := hq_324 (Mrow i_271)
                  refine z_if_ne (tgt := 132) hx hb dX8_run_126 (by decide) (by omega) (fun hc_360 => ?_) (fun hc_360 => ?_)
                  · skip
                    refine lv_aload_n hx hb dX8_run_132 rfl (lv_at hl 1 rfl) ?_
                    refine va_get (D := D) (ci := 8) (v := .ref (oM 16)) (C := RX8) (T := TX8) (N := 36) hx hb hts hinX8 hown hK hw.1 0 rfl rfl 34 (by decide) (hts (.fieldLink RX8 66 "CarnivalRoadModel" "gone" "[I") (by decide +kernel)) (fun _ h9 => h9) rfl dX8_run_133 ?_
                    refine lv_iload hx hb dX8_run_136 (lv_at hl 0 rfl) ?_
                    refine lv_aload_n hx hb dX8_run_138 rfl (lv_at hl 1 rfl) ?_
                    refine va_get (D := D) (ci := 8) (v := .int (zI (Mminute_225 + 1))) (C := RX8) (T := TX8) (N := 36) hx hb hts hinX8 hown hK hw.1 0 rfl rfl 27 (by decide) (hts (.fieldLink RX8 208 "CarnivalRoadModel" "minute" "I") (by decide +kernel)) (fun _ h9 => h9) rfl dX8_run_139 ?_
                    have hi_361 : (0 : Int) ≤ (Mrow i_271) ∧ (Mrow i_271) < ((8 : Nat) : Int) := by
                      first | assumption | omega | grind
                    have hv_362 : (-1 : Int) ≤ (Mminute_225 + 1) ∧ (Mminute_225 + 1) ≤ 1000000 := by
                      first | assumption | omega | grind
                    have hR_363 : RA (uZ Mgone_278 (Mrow i_271) (Mminute_225 + 1)) (-1) 1000000 := RA_up hR_288 hv_362
                    refine z_iast (n := 8) (f := Mgone_278) (ws2 := kM cI cB cZ oM Mthrown_201 Mmany Mguest Mrow Mbars Mbar Mfresh Mtape Mtaped Mpos Mtoken MtokenAt Mvalue Mwrong MwrongAt MfaultKind MfaultPlace Mthing Morder Mone Mtwo Mbest Mcells Mgap Mwire Mstand Mruns (Mminute_225 + 1) Mhead_315 Mplays_316 Mrests_317 Mwent_318 Mout_319 (uZ Mcame_277 (Mrow i_271) (Mminute_225 + 1)) (uZ Mgone_278 (Mrow i_271) (Mminute_225 + 1)) MlastOut_279) hx hb hK hw 16 rfl (by decide) hi_361 dX8_run_142 rfl (fun H locs hw => ?_)
                    refine lv_aload_n hx hb dX8_run_143 rfl (lv_at hl 1 rfl) ?_
                    refine lv_aload_n hx hb dX8_run_144 rfl (lv_at hl 1 rfl) ?_
                    refine va_get (D := D) (ci := 8) (v := .int (zI (Mminute_225 + 1))) (C := RX8) (T := TX8) (N := 36) hx hb hts hinX8 hown hK hw.1 0 rfl rfl 27 (by decide) (hts (.fieldLink RX8 208 "CarnivalRoadModel" "minute" "I") (by decide +kernel)) (fun _ h9 => h9) rfl dX8_run_145 ?_
                    refine z_put (D := D) (ci := 8) (v := .int (zI (Mminute_225 + 1))) (ty := .int) (C := RX8) (T := TX8) (N := 36) (ws2 := kM cI cB cZ oM Mthrown_201 Mmany Mguest Mrow Mbars Mbar Mfresh Mtape Mtaped Mpos Mtoken MtokenAt Mvalue Mwrong MwrongAt MfaultKind MfaultPlace Mthing Morder Mone Mtwo Mbest Mcells Mgap Mwire Mstand Mruns (Mminute_225 + 1) Mhead_315 Mplays_316 Mrests_317 Mwent_318 Mout_319 (uZ Mcame_277 (Mrow i_271) (Mminute_225 + 1)) (uZ Mgone_278 (Mrow i_271) (Mminute_225 + 1)) (Mminute_225 + 1)) hx hb hts hinX8 tyX8 tyX8_ok nmX8 hown hK hw 0 rfl rfl 35 (by decide) (hts (.fieldLink RX8 211 "CarnivalRoadModel" "lastOut" "I") (by decide +kernel)) (fun _ h9 => h9) rfl (by decide +kernel) rfl rfl (Nat.le_of_ble_eq_true rfl) dX8_run_148 rfl (fun H locs hw => ?_)
                    refine z_iinc (k := 4) (lv' := [(3, .int (zI (i_271 + 1))), (4, .int (zI (Mrow i_271))), (0, .ref (oM 0)), (1, .int (zI t)), (2, .int (zI (k_224 + 1)))]) hx hb dX8_run_151 hl rfl (by decide) rfl (fun ls hl => ?_)
                    refine lv_goto (tgt := 65) hx hb dX8_run_154 (by decide) ?_
                    have hv_364 : (0 : Int) ≤ (Mminute_225 + 1) ∧ (Mminute_225 + 1) ≤ 1000000 := by
                      first | assumption | omega | grind
                    have hv_365 : 0 ≤ (i_271 + 1) ∧ (i_271 + 1) ≤ Mmany := by
                      first | assumption | omega | grind
                    have hv_366 : (stepK ki le Mcells Mgap stn ln (Mminute_225 + 1) (i_271 + 1).toNat qz_281) = stepK ki le Mcells Mgap stn ln (Mminute_225 + 1) (i_271 + 1).toNat qz_281 := by
                      rfl
                    have hv_367 : simR Mmany 0 Mhead_315 Mplays_316 Mrests_317 Mwent_318 Mout_319 (stepK ki le Mcells Mgap stn ln (Mminute_225 + 1) (i_271 + 1).toNat qz_281).1 (stepK ki le Mcells Mgap stn ln (Mminute_225 + 1) (i_271 + 1).toNat qz_281).2.1 (stepK ki le Mcells Mgap stn ln (Mminute_225 + 1) (i_271 + 1).toNat qz_281).2.2.2 := by
                      have hst : stepK ki le Mcells Mgap stn ln (Mminute_225 + 1) (i_271 + 1).toNat qz_281 = goG ki le Mcells Mstand (Mminute_225 + 1) (Mrow i_271) ((0 : Int) = 1 ∨ roomP le Mgap Mrow i_271 q_280.1 q_280.2.2.2) q_280 := by
                        rw [go_conv (s := q_280) (p := i_271) (alone := 0) (n := Mmany) (ln := ln) (stn := stn) (by omega) (by omega) hp2 hp3, show (i_271 + 1).toNat = i_271.toNat + 1 by omega, step_go, show ((i_271.toNat : Nat) : Int) = i_271 by omega, ← (by assumption : q_280 = stepK ki le Mcells Mgap stn ln (Mminute_225 + 1) i_271.toNat qz_281)]
                      rw [hst]
                      exact (by assumption : goPost Mmany 0 (Mrow i_271) _ _ _ _ _ _ _ _ _ _ _ _).1
                    have hv_368 : ∀ g, 0 ≤ g → g < Mmany → (uZ Mcame_277 (Mrow i_271) (Mminute_225 + 1)) g = (stepK ki le Mcells Mgap stn ln (Mminute_225 + 1) (i_271 + 1).toNat qz_281).2.2.1 g ∧ (uZ Mgone_278 (Mrow i_271) (Mminute_225 + 1)) g = (stepK ki le Mcells Mgap stn ln (Mminute_225 + 1) (i_271 + 1).toNat qz_281).2.2.2 g := by
                      have hst : stepK ki le Mcells Mgap stn ln (Mminute_225 + 1) (i_271 + 1).toNat qz_281 = goG ki le Mcells Mstand (Mminute_225 + 1) (Mrow i_271) ((0 : Int) = 1 ∨ roomP le Mgap Mrow i_271 q_280.1 q_280.2.2.2) q_280 := by
                        rw [go_conv (s := q_280) (p := i_271) (alone := 0) (n := Mmany) (ln := ln) (stn := stn) (by omega) (by omega) hp2 hp3, show (i_271 + 1).toNat = i_271.toNat + 1 by omega, step_go, show ((i_271.toNat : Nat) : Int) = i_271 by omega, ← (by assumption : q_280 = stepK ki le Mcells Mgap stn ln (Mminute_225 + 1) i_271.toNat qz_281)]
                      have hgr := go_run (s := q_280) (last := MlastOut_279) (came := Mcame_277) (gone := Mgone_278) (came' := (uZ Mcame_277 (Mrow i_271) (Mminute_225 + 1))) (gone' := (uZ Mgone_278 (Mrow i_271) (Mminute_225 + 1))) (last' := (Mminute_225 + 1)) (by assumption) (hp0.1 i_271 (by omega) (by omega)) (by assumption) (by assumption : goPost Mmany 0 (Mrow i_271) _ _ _ _ _ _ _ _ _ _ _ _) (by omega) (by first | exact Or.inl ⟨by omega, rfl, rfl, rfl⟩ | exact Or.inr ⟨by omega, by first | exact Or.inl ⟨by omega, rfl⟩ | exact Or.inr ⟨by omega, rfl⟩, by first | exact Or.inl ⟨by omega, rfl, rfl⟩ | exact Or.inr ⟨by omega, rfl, rfl⟩⟩)
                      rw [hst]
                      exact hgr.1
                    have hv_369 : jpN Mmany le Mcells (stepK ki le Mcells Mgap stn ln (Mminute_225 + 1) (i_271 + 1).toNat qz_281).1 (stepK ki le Mcells Mgap stn ln (Mminute_225 + 1) (i_271 + 1).toNat qz_281).2.2.2 := by
                      have hst : stepK ki le Mcells Mgap stn ln (Mminute_225 + 1) (i_271 + 1).toNat qz_281 = goG ki le Mcells Mstand (Mminute_225 + 1) (Mrow i_271) ((0 : Int) = 1 ∨ roomP le Mgap Mrow i_271 q_280.1 q_280.2.2.2) q_280 := by
                        rw [go_conv (s := q_280) (p := i_271) (alone := 0) (n := Mmany) (ln := ln) (stn := stn) (by omega) (by omega) hp2 hp3, show (i_271 + 1).toNat = i_271.toNat + 1 by omega, step_go, show ((i_271.toNat : Nat) : Int) = i_271 by omega, ← (by assumption : q_280 = stepK ki le Mcells Mgap stn ln (Mminute_225 + 1) i_271.toNat qz_281)]
                      rw [hst]
                      exact jpN_go (by assumption) (by omega)
                    have hv_370 : (stepK ki le Mcells Mgap stn ln (Mminute_225 + 1) (i_271 + 1).toNat qz_281).2.2.2 = qz_281.2.2.2 ∨ (Mminute_225 + 1) = (Mminute_225 + 1) := by
                      have hst : stepK ki le Mcells Mgap stn ln (Mminute_225 + 1) (i_271 + 1).toNat qz_281 = goG ki le Mcells Mstand (Mminute_225 + 1) (Mrow i_271) ((0 : Int) = 1 ∨ roomP le Mgap Mrow i_271 q_280.1 q_280.2.2.2) q_280 := by
                        rw [go_conv (s := q_280) (p := i_271) (alone := 0) (n := Mmany) (ln := ln) (stn := stn) (by omega) (by omega) hp2 hp3, show (i_271 + 1).toNat = i_271.toNat + 1 by omega, step_go, show ((i_271.toNat : Nat) : Int) = i_271 by omega, ← (by assumption : q_280 = stepK ki le Mcells Mgap stn ln (Mminute_225 + 1) i_271.toNat qz_281)]
                      have hgr := go_run (s := q_280) (last := MlastOut_279) (came := Mcame_277) (gone := Mgone_278) (came' := (uZ Mcame_277 (Mrow i_271) (Mminute_225 + 1))) (gone' := (uZ Mgone_278 (Mrow i_271) (Mminute_225 + 1))) (last' := (Mminute_225 + 1)) (by assumption) (hp0.1 i_271 (by omega) (by omega)) (by assumption) (by assumption : goPost Mmany 0 (Mrow i_271) _ _ _ _ _ _ _ _ _ _ _ _) (by omega) (by first | exact Or.inl ⟨by omega, rfl, rfl, rfl⟩ | exact Or.inr ⟨by omega, by first | exact Or.inl ⟨by omega, rfl⟩ | exact Or.inr ⟨by omega, rfl⟩, by first | exact Or.inl ⟨by omega, rfl, rfl⟩ | exact Or.inr ⟨by omega, rfl, rfl⟩⟩)
                      rw [hst]
                      rcases hgr.2 with z | z
                      · rcases (by assumption : q_280.2.2.2 = qz_281.2.2.2 ∨ MlastOut_279 = (Mminute_225 + 1)) with y | y
                        · exact Or.inl (z.1.trans y)
                        · exact Or.inr (z.2.trans y)
                      · exact Or.inr z
                    have hv_371 : qz_281 = (runK ki le Mcells Mgap stn ln Mmany Mminute s0 k_224.toNat) ∧ ¬ allP ln Mmany qz_281.2.2.2 := by
                      first | assumption | omega | grind
                    have hm_372 : (9 - (i_271 + 1)).toNat < (9 - i_271).toNat := by
                      first | assumption | omega | grind
                    exact ih_270 ((i_271 + 1), Mhead_315, Mplays_316, Mrests_317, Mwent_318, Mout_319, (uZ Mcame_277 (Mrow i_271) (Mminute_225 + 1)), (uZ Mgone_278 (Mrow i_271) (Mminute_225 + 1)), (Mminute_225 + 1), (stepK ki le Mcells Mgap stn ln (Mminute_225 + 1) (i_271 + 1).toNat qz_281), qz_281) _ _ _ ⟨hq_320, hq_321, hq_322, hq_323, hq_324, hR_357, hR_363, hv_364, hv_365, hv_366, hv_367, hv_368, hv_369, hv_370, hv_371, hw, lv_sub hl [2, 3, 4, 0] rfl⟩ hm_372
                  · skip
                    refine lv_goto (tgt := 151) hx hb dX8_run_129 (by decide) ?_
                    refine z_iinc (k := 4) (lv' := [(3, .int (zI (i_271 + 1))), (4, .int (zI (Mrow i_271))), (0, .ref (oM 0)), (1, .int (zI t)), (2, .int (zI (k_224 + 1)))]) hx hb dX8_run_151 hl rfl (by decide) rfl (fun ls hl => ?_)
                    refine lv_goto (tgt := 65) hx hb dX8_run_154 (by decide) ?_
                    have hv_373 : (0 : Int) ≤ MlastOut_279 ∧ MlastOut_279 ≤ 1000000 := by
                      first | assumption | omega | grind
                    have hv_374 : 0 ≤ (i_271 + 1) ∧ (i_271 + 1) ≤ Mmany := by
                      first | assumption | omega | grind
                    have hv_375 : (stepK ki le Mcells Mgap stn ln (Mminute_225 + 1) (i_271 + 1).toNat qz_281) = stepK ki le Mcells Mgap stn ln (Mminute_225 + 1) (i_271 + 1).toNat qz_281 := by
                      rfl
                    have hv_376 : simR Mmany 0 Mhead_315 Mplays_316 Mrests_317 Mwent_318 Mout_319 (stepK ki le Mcells Mgap stn ln (Mminute_225 + 1) (i_271 + 1).toNat qz_281).1 (stepK ki le Mcells Mgap stn ln (Mminute_225 + 1) (i_271 + 1).toNat qz_281).2.1 (stepK ki le Mcells Mgap stn ln (Mminute_225 + 1) (i_271 + 1).toNat qz_281).2.2.2 := by
                      have hst : stepK ki le Mcells Mgap stn ln (Mminute_225 + 1) (i_271 + 1).toNat qz_281 = goG ki le Mcells Mstand (Mminute_225 + 1) (Mrow i_271) ((0 : Int) = 1 ∨ roomP le Mgap Mrow i_271 q_280.1 q_280.2.2.2) q_280 := by
                        rw [go_conv (s := q_280) (p := i_271) (alone := 0) (n := Mmany) (ln := ln) (stn := stn) (by omega) (by omega) hp2 hp3, show (i_271 + 1).toNat = i_271.toNat + 1 by omega, step_go, show ((i_271.toNat : Nat) : Int) = i_271 by omega, ← (by assumption : q_280 = stepK ki le Mcells Mgap stn ln (Mminute_225 + 1) i_271.toNat qz_281)]
                      rw [hst]
                      exact (by assumption : goPost Mmany 0 (Mrow i_271) _ _ _ _ _ _ _ _ _ _ _ _).1
                    have hv_377 : ∀ g, 0 ≤ g → g < Mmany → (uZ Mcame_277 (Mrow i_271) (Mminute_225 + 1)) g = (stepK ki le Mcells Mgap stn ln (Mminute_225 + 1) (i_271 + 1).toNat qz_281).2.2.1 g ∧ Mgone_278 g = (stepK ki le Mcells Mgap stn ln (Mminute_225 + 1) (i_271 + 1).toNat qz_281).2.2.2 g := by
                      have hst : stepK ki le Mcells Mgap stn ln (Mminute_225 + 1) (i_271 + 1).toNat qz_281 = goG ki le Mcells Mstand (Mminute_225 + 1) (Mrow i_271) ((0 : Int) = 1 ∨ roomP le Mgap Mrow i_271 q_280.1 q_280.2.2.2) q_280 := by
                        rw [go_conv (s := q_280) (p := i_271) (alone := 0) (n := Mmany) (ln := ln) (stn := stn) (by omega) (by omega) hp2 hp3, show (i_271 + 1).toNat = i_271.toNat + 1 by omega, step_go, show ((i_271.toNat : Nat) : Int) = i_271 by omega, ← (by assumption : q_280 = stepK ki le Mcells Mgap stn ln (Mminute_225 + 1) i_271.toNat qz_281)]
                      have hgr := go_run (s := q_280) (last := MlastOut_279) (came := Mcame_277) (gone := Mgone_278) (came' := (uZ Mcame_277 (Mrow i_271) (Mminute_225 + 1))) (gone' := Mgone_278) (last' := MlastOut_279) (by assumption) (hp0.1 i_271 (by omega) (by omega)) (by assumption) (by assumption : goPost Mmany 0 (Mrow i_271) _ _ _ _ _ _ _ _ _ _ _ _) (by omega) (by first | exact Or.inl ⟨by omega, rfl, rfl, rfl⟩ | exact Or.inr ⟨by omega, by first | exact Or.inl ⟨by omega, rfl⟩ | exact Or.inr ⟨by omega, rfl⟩, by first | exact Or.inl ⟨by omega, rfl, rfl⟩ | exact Or.inr ⟨by omega, rfl, rfl⟩⟩)
                      rw [hst]
                      exact hgr.1
                    have hv_378 : jpN Mmany le Mcells (stepK ki le Mcells Mgap stn ln (Mminute_225 + 1) (i_271 + 1).toNat qz_281).1 (stepK ki le Mcells Mgap stn ln (Mminute_225 + 1) (i_271 + 1).toNat qz_281).2.2.2 := by
                      have hst : stepK ki le Mcells Mgap stn ln (Mminute_225 + 1) (i_271 + 1).toNat qz_281 = goG ki le Mcells Mstand (Mminute_225 + 1) (Mrow i_271) ((0 : Int) = 1 ∨ roomP le Mgap Mrow i_271 q_280.1 q_280.2.2.2) q_280 := by
                        rw [go_conv (s := q_280) (p := i_271) (alone := 0) (n := Mmany) (ln := ln) (stn := stn) (by omega) (by omega) hp2 hp3, show (i_271 + 1).toNat = i_271.toNat + 1 by omega, step_go, show ((i_271.toNat : Nat) : Int) = i_271 by omega, ← (by assumption : q_280 = stepK ki le Mcells Mgap stn ln (Mminute_225 + 1) i_271.toNat qz_281)]
                      rw [hst]
                      exact jpN_go (by assumption) (by omega)
                    have hv_379 : (stepK ki le Mcells Mgap stn ln (Mminute_225 + 1) (i_271 + 1).toNat qz_281).2.2.2 = qz_281.2.2.2 ∨ MlastOut_279 = (Mminute_225 + 1) := by
                      have hst : stepK ki le Mcells Mgap stn ln (Mminute_225 + 1) (i_271 + 1).toNat qz_281 = goG ki le Mcells Mstand (Mminute_225 + 1) (Mrow i_271) ((0 : Int) = 1 ∨ roomP le Mgap Mrow i_271 q_280.1 q_280.2.2.2) q_280 := by
                        rw [go_conv (s := q_280) (p := i_271) (alone := 0) (n := Mmany) (ln := ln) (stn := stn) (by omega) (by omega) hp2 hp3, show (i_271 + 1).toNat = i_271.toNat + 1 by omega, step_go, show ((i_271.toNat : Nat) : Int) = i_271 by omega, ← (by assumption : q_280 = stepK ki le Mcells Mgap stn ln (Mminute_225 + 1) i_271.toNat qz_281)]
                      have hgr := go_run (s := q_280) (last := MlastOut_279) (came := Mcame_277) (gone := Mgone_278) (came' := (uZ Mcame_277 (Mrow i_271) (Mminute_225 + 1))) (gone' := Mgone_278) (last' := MlastOut_279) (by assumption) (hp0.1 i_271 (by omega) (by omega)) (by assumption) (by assumption : goPost Mmany 0 (Mrow i_271) _ _ _ _ _ _ _ _ _ _ _ _) (by omega) (by first | exact Or.inl ⟨by omega, rfl, rfl, rfl⟩ | exact Or.inr ⟨by omega, by first | exact Or.inl ⟨by omega, rfl⟩ | exact Or.inr ⟨by omega, rfl⟩, by first | exact Or.inl ⟨by omega, rfl, rfl⟩ | exact Or.inr ⟨by omega, rfl, rfl⟩⟩)
                      rw [hst]
                      rcases hgr.2 with z | z
                      · rcases (by assumption : q_280.2.2.2 = qz_281.2.2.2 ∨ MlastOut_279 = (Mminute_225 + 1)) with y | y
                        · exact Or.inl (z.1.trans y)
                        · exact Or.inr (z.2.trans y)
                      · exact Or.inr z
                    have hv_380 : qz_281 = (runK ki le Mcells Mgap stn ln Mmany Mminute s0 k_224.toNat) ∧ ¬ allP ln Mmany qz_281.2.2.2 := by
                      first | assumption | omega | grind
                    have hm_381 : (9 - (i_271 + 1)).toNat < (9 - i_271).toNat := by
                      first | assumption | omega | grind
                    exact ih_270 ((i_271 + 1), Mhead_315, Mplays_316, Mrests_317, Mwent_318, Mout_319, (uZ Mcame_277 (Mrow i_271) (Mminute_225 + 1)), Mgone_278, MlastOut_279, (stepK ki le Mcells Mgap stn ln (Mminute_225 + 1) (i_271 + 1).toNat qz_281), qz_281) _ _ _ ⟨hq_320, hq_321, hq_322, hq_323, hq_324, hR_357, hR_288, hv_373, hv_374, hv_375, hv_376, hv_377, hv_378, hv_379, hv_380, hw, lv_sub hl [2, 3, 4, 0] rfl⟩ hm_381
              · skip
                refine lv_goto (tgt := 151) hx hb dX8_run_95 (by decide) ?_
                refine z_iinc (k := 4) (lv' := [(3, .int (zI (i_271 + 1))), (4, .int (zI (Mrow i_271))), (0, .ref (oM 0)), (1, .int (zI t)), (2, .int (zI (k_224 + 1)))]) hx hb dX8_run_151 hl rfl (by decide) rfl (fun ls hl => ?_)
                refine lv_goto (tgt := 65) hx hb dX8_run_154 (by decide) ?_
                have hv_382 : (0 : Int) ≤ MlastOut_279 ∧ MlastOut_279 ≤ 1000000 := by
                  first | assumption | omega | grind
                have hv_383 : 0 ≤ (i_271 + 1) ∧ (i_271 + 1) ≤ Mmany := by
                  first | assumption | omega | grind
                have hv_384 : (stepK ki le Mcells Mgap stn ln (Mminute_225 + 1) (i_271 + 1).toNat qz_281) = stepK ki le Mcells Mgap stn ln (Mminute_225 + 1) (i_271 + 1).toNat qz_281 := by
                  rfl
                have hv_385 : simR Mmany 0 Mhead_315 Mplays_316 Mrests_317 Mwent_318 Mout_319 (stepK ki le Mcells Mgap stn ln (Mminute_225 + 1) (i_271 + 1).toNat qz_281).1 (stepK ki le Mcells Mgap stn ln (Mminute_225 + 1) (i_271 + 1).toNat qz_281).2.1 (stepK ki le Mcells Mgap stn ln (Mminute_225 + 1) (i_271 + 1).toNat qz_281).2.2.2 := by
                  have hst : stepK ki le Mcells Mgap stn ln (Mminute_225 + 1) (i_271 + 1).toNat qz_281 = goG ki le Mcells Mstand (Mminute_225 + 1) (Mrow i_271) ((0 : Int) = 1 ∨ roomP le Mgap Mrow i_271 q_280.1 q_280.2.2.2) q_280 := by
                    rw [go_conv (s := q_280) (p := i_271) (alone := 0) (n := Mmany) (ln := ln) (stn := stn) (by omega) (by omega) hp2 hp3, show (i_271 + 1).toNat = i_271.toNat + 1 by omega, step_go, show ((i_271.toNat : Nat) : Int) = i_271 by omega, ← (by assumption : q_280 = stepK ki le Mcells Mgap stn ln (Mminute_225 + 1) i_271.toNat qz_281)]
                  rw [hst]
                  exact (by assumption : goPost Mmany 0 (Mrow i_271) _ _ _ _ _ _ _ _ _ _ _ _).1
                have hv_386 : ∀ g, 0 ≤ g → g < Mmany → Mcame_277 g = (stepK ki le Mcells Mgap stn ln (Mminute_225 + 1) (i_271 + 1).toNat qz_281).2.2.1 g ∧ Mgone_278 g = (stepK ki le Mcells Mgap stn ln (Mminute_225 + 1) (i_271 + 1).toNat qz_281).2.2.2 g := by
                  have hst : stepK ki le Mcells Mgap stn ln (Mminute_225 + 1) (i_271 + 1).toNat qz_281 = goG ki le Mcells Mstand (Mminute_225 + 1) (Mrow i_271) ((0 : Int) = 1 ∨ roomP le Mgap Mrow i_271 q_280.1 q_280.2.2.2) q_280 := by
                    rw [go_conv (s := q_280) (p := i_271) (alone := 0) (n := Mmany) (ln := ln) (stn := stn) (by omega) (by omega) hp2 hp3, show (i_271 + 1).toNat = i_271.toNat + 1 by omega, step_go, show ((i_271.toNat : Nat) : Int) = i_271 by omega, ← (by assumption : q_280 = stepK ki le Mcells Mgap stn ln (Mminute_225 + 1) i_271.toNat qz_281)]
                  have hgr := go_run (s := q_280) (last := MlastOut_279) (came := Mcame_277) (gone := Mgone_278) (came' := Mcame_277) (gone' := Mgone_278) (last' := MlastOut_279) (by assumption) (hp0.1 i_271 (by omega) (by omega)) (by assumption) (by assumption : goPost Mmany 0 (Mrow i_271) _ _ _ _ _ _ _ _ _ _ _ _) (by omega) (by first | exact Or.inl ⟨by omega, rfl, rfl, rfl⟩ | exact Or.inr ⟨by omega, by first | exact Or.inl ⟨by omega, rfl⟩ | exact Or.inr ⟨by omega, rfl⟩, by first | exact Or.inl ⟨by omega, rfl, rfl⟩ | exact Or.inr ⟨by omega, rfl, rfl⟩⟩)
                  rw [hst]
                  exact hgr.1
                have hv_387 : jpN Mmany le Mcells (stepK ki le Mcells Mgap stn ln (Mminute_225 + 1) (i_271 + 1).toNat qz_281).1 (stepK ki le Mcells Mgap stn ln (Mminute_225 + 1) (i_271 + 1).toNat qz_281).2.2.2 := by
                  have hst : stepK ki le Mcells Mgap stn ln (Mminute_225 + 1) (i_271 + 1).toNat qz_281 = goG ki le Mcells Mstand (Mminute_225 + 1) (Mrow i_271) ((0 : Int) = 1 ∨ roomP le Mgap Mrow i_271 q_280.1 q_280.2.2.2) q_280 := by
                    rw [go_conv (s := q_280) (p := i_271) (alone := 0) (n := Mmany) (ln := ln) (stn := stn) (by omega) (by omega) hp2 hp3, show (i_271 + 1).toNat = i_271.toNat + 1 by omega, step_go, show ((i_271.toNat : Nat) : Int) = i_271 by omega, ← (by assumption : q_280 = stepK ki le Mcells Mgap stn ln (Mminute_225 + 1) i_271.toNat qz_281)]
                  rw [hst]
                  exact jpN_go (by assumption) (by omega)
                have hv_388 : (stepK ki le Mcells Mgap stn ln (Mminute_225 + 1) (i_271 + 1).toNat qz_281).2.2.2 = qz_281.2.2.2 ∨ MlastOut_279 = (Mminute_225 + 1) := by
                  have hst : stepK ki le Mcells Mgap stn ln (Mminute_225 + 1) (i_271 + 1).toNat qz_281 = goG ki le Mcells Mstand (Mminute_225 + 1) (Mrow i_271) ((0 : Int) = 1 ∨ roomP le Mgap Mrow i_271 q_280.1 q_280.2.2.2) q_280 := by
                    rw [go_conv (s := q_280) (p := i_271) (alone := 0) (n := Mmany) (ln := ln) (stn := stn) (by omega) (by omega) hp2 hp3, show (i_271 + 1).toNat = i_271.toNat + 1 by omega, step_go, show ((i_271.toNat : Nat) : Int) = i_271 by omega, ← (by assumption : q_280 = stepK ki le Mcells Mgap stn ln (Mminute_225 + 1) i_271.toNat qz_281)]
                  have hgr := go_run (s := q_280) (last := MlastOut_279) (came := Mcame_277) (gone := Mgone_278) (came' := Mcame_277) (gone' := Mgone_278) (last' := MlastOut_279) (by assumption) (hp0.1 i_271 (by omega) (by omega)) (by assumption) (by assumption : goPost Mmany 0 (Mrow i_271) _ _ _ _ _ _ _ _ _ _ _ _) (by omega) (by first | exact Or.inl ⟨by omega, rfl, rfl, rfl⟩ | exact Or.inr ⟨by omega, by first | exact Or.inl ⟨by omega, rfl⟩ | exact Or.inr ⟨by omega, rfl⟩, by first | exact Or.inl ⟨by omega, rfl, rfl⟩ | exact Or.inr ⟨by omega, rfl, rfl⟩⟩)
                  rw [hst]
                  rcases hgr.2 with z | z
                  · rcases (by assumption : q_280.2.2.2 = qz_281.2.2.2 ∨ MlastOut_279 = (Mminute_225 + 1)) with y | y
                    · exact Or.inl (z.1.trans y)
                    · exact Or.inr (z.2.trans y)
                  · exact Or.inr z
                have hv_389 : qz_281 = (runK ki le Mcells Mgap stn ln Mmany Mminute s0 k_224.toNat) ∧ ¬ allP ln Mmany qz_281.2.2.2 := by
                  first | assumption | omega | grind
                have hm_390 : (9 - (i_271 + 1)).toNat < (9 - i_271).toNat := by
                  first | assumption | omega | grind
                exact ih_270 ((i_271 + 1), Mhead_315, Mplays_316, Mrests_317, Mwent_318, Mout_319, Mcame_277, Mgone_278, MlastOut_279, (stepK ki le Mcells Mgap stn ln (Mminute_225 + 1) (i_271 + 1).toNat qz_281), qz_281) _ _ _ ⟨hq_320, hq_321, hq_322, hq_323, hq_324, hR_287, hR_288, hv_382, hv_383, hv_384, hv_385, hv_386, hv_387, hv_388, hv_389, hw, lv_sub hl [2, 3, 4, 0] rfl⟩ hm_390
      · skip
        refine z_if_ne (tgt := 35) hx hb dX8_run_30 (by decide) (by omega) (fun hc_391 => absurd hc_391 (by omega)) (fun hc_391 => ?_)
        refine z_iconst hx hb dX8_run_33 ?_
        have hv_392 : (0 : Int) ≤ Mthrown_201 ∧ Mthrown_201 ≤ 2 := by
          first | assumption | omega | grind
        have hv_393 : (0 : Int) ≤ Mminute ∧ Mminute ≤ 1000000 := by
          first | assumption | omega | grind
        have hv_394 : (0 : Int) ≤ MlastOut ∧ MlastOut ≤ 1000000 := by
          first | assumption | omega | grind
        have hv_395 : (Mruns = 0 ∧ Mthrown_201 = 1 ∧ Mminute = Mminute ∧ Mhead = Mhead ∧ Mplays = Mplays ∧ Mrests = Mrests ∧ Mwent = Mwent ∧ Mout = Mout ∧ Mcame = Mcame ∧ Mgone = Mgone ∧ MlastOut = MlastOut) ∨ (Mruns = 1 ∧ Mthrown_201 = 0 ∧ ¬ (0 ≤ t ∧ t ≤ 500) ∧ ((-1) : Int) = -1 ∧ Mminute = Mminute ∧ Mhead = Mhead ∧ Mplays = Mplays ∧ Mrests = Mrests ∧ Mwent = Mwent ∧ Mout = Mout ∧ Mcame = Mcame ∧ Mgone = Mgone ∧ MlastOut = MlastOut) ∨ (Mruns = 1 ∧ Mthrown_201 = 0 ∧ (0 ≤ t ∧ t ≤ 500) ∧ ∃ k : Nat, ((-1) : Int) = (k : Int) ∧ (k : Int) ≤ t ∧ Mminute = Mminute + (k : Int) ∧ runR Mmany le Mcells Mrow Mhead Mplays Mrests Mwent Mout Mcame Mgone MlastOut Mminute (runK ki le Mcells Mgap stn ln Mmany Mminute s0 k) ∧ ((k : Int) = t ∨ allP ln Mmany (runK ki le Mcells Mgap stn ln Mmany Mminute s0 k).2.2.2) ∧ ∀ j : Nat, j < k → ¬ allP ln Mmany (runK ki le Mcells Mgap stn ln Mmany Mminute s0 j).2.2.2) := by
          exact Or.inr (Or.inl ⟨by omega, by omega, by omega, rfl, rfl, rfl, rfl, rfl, rfl, rfl, rfl, rfl, rfl⟩)
        exact W.iret (v := zI (-1)) hx hb hr (fun t9 ht hW => ⟨⟨zI (-1), ((-1), Mthrown_201, Mminute, Mhead, Mplays, Mrests, Mwent, Mout, Mcame, Mgone, MlastOut), rfl, ⟨rfl, ⟨hv_392, hv_393, qMhead, qMplays, qMrests, qMwent, qMout, qMcame, qMgone, hv_394, hv_395⟩⟩, by subst hAe; exact z_end hK hw ht hW⟩, by subst hAe; exact hw.2.2.F ht⟩) (by subst hAe; exact hw.2.2.2.2) dX8_run_34
