set_option maxRecDepth 100000 in
set_option maxHeartbeats 4000000 in
theorem c_X8_hole (l : Launch) (D : va_G) (cI cB cZ : ClassId) (oM : Nat → Nat) (sz : Nat) (Mthrown : Int) (Mmany : Int) (Mguest : Int → Int) (Mrow : Int → Int) (Mbars : Int) (Mbar : Int → Int) (Mfresh : Int → Int) (Mtape : Int → Int) (Mtaped : Int) (Mpos : Int) (Mtoken : Int) (MtokenAt : Int) (Mvalue : Int) (Mwrong : Int) (MwrongAt : Int) (MfaultKind : Int) (MfaultPlace : Int) (Mthing : Int) (Morder : Int → Int) (Mone : Int) (Mtwo : Int) (Mbest : Int → Int) (Mcells : Int) (Mgap : Int) (Mwire : Int → Int) (Mstand : Int → Int) (Mruns : Int) (Mminute : Int) (Mhead : Int → Int) (Mplays : Int → Int) (Mrests : Int → Int) (Mwent : Int → Int) (Mout : Int → Int) (Mcame : Int → Int) (Mgone : Int → Int) (MlastOut : Int) (ki : Int → Int) (le : Int → Int) (lo : Int → Int) (ta : Int → Int) (sh : Int → Int) (h : Int → Int) (b : Int → Int) (o : Int → Int) (qMthrown : 0 ≤ Mthrown ∧ Mthrown ≤ 2) (qMmany : 0 ≤ Mmany ∧ Mmany ≤ 8) (qMguest : RA Mguest (0) 9) (qMrow : RA Mrow (0) 7) (qMbars : 0 ≤ Mbars ∧ Mbars ≤ 10) (qMbar : RA Mbar (0) 104) (qMfresh : RA Mfresh (0) 104) (qMtape : RA Mtape (0) 255) (qMtaped : 0 ≤ Mtaped ∧ Mtaped ≤ 400) (qMpos : 0 ≤ Mpos ∧ Mpos ≤ 400) (qMtoken : 0 ≤ Mtoken ∧ Mtoken ≤ 15) (qMtokenAt : 0 ≤ MtokenAt ∧ MtokenAt ≤ 400) (qMvalue : 0 ≤ Mvalue ∧ Mvalue ≤ 99) (qMwrong : 0 ≤ Mwrong ∧ Mwrong ≤ 3) (qMwrongAt : 0 ≤ MwrongAt ∧ MwrongAt ≤ 400) (qMfaultKind : 0 ≤ MfaultKind ∧ MfaultKind ≤ 3) (qMfaultPlace : -1 ≤ MfaultPlace ∧ MfaultPlace ≤ 400) (qMthing : 0 ≤ Mthing ∧ Mthing ≤ 104) (qMorder : RA Morder (0) 7) (qMone : 0 ≤ Mone ∧ Mone ≤ 8) (qMtwo : 0 ≤ Mtwo ∧ Mtwo ≤ 8) (qMbest : RA Mbest (0) 7) (qMcells : 1 ≤ Mcells ∧ Mcells ≤ 50) (qMgap : 0 ≤ Mgap ∧ Mgap ≤ 3) (qMwire : RA Mwire (0) 9) (qMstand : RA Mstand (0) 9) (qMruns : 0 ≤ Mruns ∧ Mruns ≤ 1) (qMminute : 0 ≤ Mminute ∧ Mminute ≤ 1000000) (qMhead : RA Mhead (-1) 60) (qMplays : RA Mplays (0) 18) (qMrests : RA Mrests (0) 3) (qMwent : RA Mwent (0) 61) (qMout : RA Mout (0) 1) (qMcame : RA Mcame (-1) 1000000) (qMgone : RA Mgone (-1) 1000000) (qMlastOut : 0 ≤ MlastOut ∧ MlastOut ≤ 1000000) (hp0 : ∀ i, 0 ≤ i → i < Mmany → 0 ≤ Mrow i ∧ Mrow i < Mmany) (hp1 : gRel Mmany ki le lo ta sh Mguest) (hp2 : Mruns = 1 → simR Mmany 0 Mhead Mplays Mrests Mwent Mout h b o) : Met l yX8_hole wsX8_hole ({ frames := 2, cells := 0, slots := 0, locals := 44 }) (va_Pc [.ref (oM 0)] (zPre D cI cB cZ sz (kM cI cB cZ oM Mthrown Mmany Mguest Mrow Mbars Mbar Mfresh Mtape Mtaped Mpos Mtoken MtokenAt Mvalue Mwrong MwrongAt MfaultKind MfaultPlace Mthing Morder Mone Mtwo Mbest Mcells Mgap Mwire Mstand Mruns Mminute Mhead Mplays Mrests Mwent Mout Mcame Mgone MlastOut))) (va_Qi (fun (r9 : Int32) (u9 : Int × Int) => r9 = zI u9.1 ∧ (((0 : Int) ≤ u9.2 ∧ u9.2 ≤ 2) ∧ ((Mruns = 0 ∧ u9.2 = 1) ∨ (Mruns = 1 ∧ u9.2 = 0 ∧ u9.1 = (holeK le Mrow h o Mmany.toNat).1)))) (fun u9 t9 => zAt D cI cB cZ (va_A (kM cI cB cZ oM Mthrown Mmany Mguest Mrow Mbars Mbar Mfresh Mtape Mtaped Mpos Mtoken MtokenAt Mvalue Mwrong MwrongAt MfaultKind MfaultPlace Mthing Morder Mone Mtwo Mbest Mcells Mgap Mwire Mstand Mruns Mminute Mhead Mplays Mrests Mwent Mout Mcame Mgone MlastOut) sz) (kM cI cB cZ oM (u9.2) Mmany Mguest Mrow Mbars Mbar Mfresh Mtape Mtaped Mpos Mtoken MtokenAt Mvalue Mwrong MwrongAt MfaultKind MfaultPlace Mthing Morder Mone Mtwo Mbest Mcells Mgap Mwire Mstand Mruns Mminute Mhead Mplays Mrests Mwent Mout Mcame Mgone MlastOut) t9) (va_A (kM cI cB cZ oM Mthrown Mmany Mguest Mrow Mbars Mbar Mfresh Mtape Mtaped Mpos Mtoken MtokenAt Mvalue Mwrong MwrongAt MfaultKind MfaultPlace Mthing Morder Mone Mtwo Mbest Mcells Mgap Mwire Mstand Mruns Mminute Mhead Mplays Mrests Mwent Mout Mcame Mgone MlastOut) sz)) 0 0 (va_A (kM cI cB cZ oM Mthrown Mmany Mguest Mrow Mbars Mbar Mfresh Mtape Mtaped Mpos Mtoken MtokenAt Mvalue Mwrong MwrongAt MfaultKind MfaultPlace Mthing Morder Mone Mtwo Mbest Mcells Mgap Mwire Mstand Mruns Mminute Mhead Mplays Mrests Mwent Mout Mcame Mgone MlastOut) sz) := by
  refine Met.ofW (cc := cX8_hole) (maxL := 5) (ret := (some .int)) (by decide) rfl ?_
  intro pp ee s mm aa bw mt cd s₁ BL hml hv
  obtain ⟨rfl, hsz, hP, hK, hD0⟩ := hv
  have hx := BL.exec
  have hb := BL.bytes
  have hr := BL.returns
  have hts := atoms_spec (ws := wsX8_hole) BL.pre
  have hown : s.vm.findClass RX8 = some mm.cls := findClass_of_methodNamed BL.named
  have hlocks := BL.notSynchronized
  subst hsz
  generalize hAe : va_A (kM cI cB cZ oM Mthrown Mmany Mguest Mrow Mbars Mbar Mfresh Mtape Mtaped Mpos Mtoken MtokenAt Mvalue Mwrong MwrongAt MfaultKind MfaultPlace Mthing Morder Mone Mtwo Mbest Mcells Mgap Mwire Mstand Mruns Mminute Mhead Mplays Mrests Mwent Mout Mcame Mgone MlastOut) s.heap.size = A
  have hA : ∀ q : Nat, s.heap.size ≤ q → A q := fun q h => by rw [← hAe]; exact Or.inr h
  have hw : HW D A s.heap (kM cI cB cZ oM Mthrown Mmany Mguest Mrow Mbars Mbar Mfresh Mtape Mtaped Mpos Mtoken MtokenAt Mvalue Mwrong MwrongAt MfaultKind MfaultPlace Mthing Morder Mone Mtwo Mbest Mcells Mgap Mwire Mstand Mruns Mminute Mhead Mplays Mrests Mwent Mout Mcame Mgone MlastOut) s.heap [] := z_start hAe hP hD0
  clear hP hD0
  have hl := lv_entry ([.ref (oM 0)]) (n := 5) (Nat.le_of_ble_eq_true rfl)
  rw [lg_entry_eq]
  generalize (lg_sl ([.ref (oM 0)]) ++ List.replicate (5 - (lg_sl ([.ref (oM 0)])).length) Slot.unset).toArray = ls at hl ⊢
  have hl : lv_has ls 5 [(0, .ref (oM 0))] := hl
  have hinX8 : ∀ w ∈ wsX80, w ∈ wsX8_hole := by decide +kernel
  refine lv_aload_n hx hb dX8_hole_0 rfl (lv_at hl 0 rfl) ?_
  refine lv_aload_n hx hb dX8_hole_1 rfl (lv_at hl 0 rfl) ?_
  refine va_get (D := D) (ci := 8) (v := .int (zI Mruns)) (C := RX8) (T := TX8) (N := 36) hx hb hts hinX8 hown hK hw.1 0 rfl rfl 26 (by decide) (hts (.fieldLink RX8 79 "CarnivalRoadModel" "runs" "Z") (by decide +kernel)) (fun _ h9 => h9) rfl dX8_hole_2 ?_
  refine z_if_ne (tgt := 12) hx hb dX8_hole_5 (by decide) (by omega) (fun hc_1 => ?_) (fun hc_1 => ?_)
  · skip
    refine z_iconst hx hb dX8_hole_12 ?_
    refine z_iconst hx hb dX8_hole_13 ?_
    have hF9 := z_free (wc := kM cI cB cZ oM Mthrown Mmany Mguest Mrow Mbars Mbar Mfresh Mtape Mtaped Mpos Mtoken MtokenAt Mvalue Mwrong MwrongAt MfaultKind MfaultPlace Mthing Morder Mone Mtwo Mbest Mcells Mgap Mwire Mstand Mruns Mminute Mhead Mplays Mrests Mwent Mout Mcame Mgone MlastOut) hw hA [0, 1, 2, 3, 4, 5, 6, 7, 8, 9, 10, 11, 12, 13, 14, 15, 16] rfl
    refine va_calli (va_runV (As := [.int (zI 0), .int (zI 0)]) (rest := []) ⟨hx, hb, hml, hown, hts⟩ (c_X8_fails l D cI cB cZ oM s.heap.size Mthrown Mmany Mguest Mrow Mbars Mbar Mfresh Mtape Mtaped Mpos Mtoken MtokenAt Mvalue Mwrong MwrongAt MfaultKind MfaultPlace Mthing Morder Mone Mtwo Mbest Mcells Mgap Mwire Mstand Mruns Mminute Mhead Mplays Mrests Mwent Mout Mcame Mgone MlastOut 0 0 (by omega) (by omega) qMguest qMrow (by omega) qMbar qMfresh qMtape (by omega) (by omega) (by omega) (by omega) (by omega) (by omega) (by omega) (by omega) (by omega) (by omega) qMorder (by omega) (by omega) qMbest (by omega) (by omega) qMwire qMstand (by omega) (by omega) qMhead qMplays qMrests qMwent qMout qMcame qMgone (by omega) (by omega) (by omega)) (cwV 2 hts gX8_hole_X8_fails rfl rfl rfl (by decide +kernel) ⟨Nat.le_of_ble_eq_true rfl, Nat.le_of_ble_eq_true rfl⟩) ⟨zPre_blind, va_recv hK hw.1 (ci := 8) (q0 := 0) rfl rfl, z_pre hK hw [0, 1, 2, 3, 4, 5, 6, 7, 8, 9, 10, 11, 12, 13, 14, 15, 16] (by decide) rfl⟩ rfl rfl hl.1 rfl (lv_room (Nat.le_of_ble_eq_true rfl)) dX8_hole_14 ⟨Nat.zero_le _, Nat.zero_le _⟩) hw.2.2 (fun q _ h => hF9 q h) hF9 (fun r9 u9 t9 H_2 locs9 ht9 hvm9 hq9 hB9 hz9 hk9 hS9 => ?_)
    obtain ⟨r_3, Mthrown_4⟩ := u9
    try dsimp only at hq9 hB9
    obtain ⟨rfl, hq9⟩ := hq9
    obtain ⟨hq_5, hq_6, hq_7⟩ := hq9
    have hw : HW D A s.heap (kM cI cB cZ oM Mthrown_4 Mmany Mguest Mrow Mbars Mbar Mfresh Mtape Mtaped Mpos Mtoken MtokenAt Mvalue Mwrong MwrongAt MfaultKind MfaultPlace Mthing Morder Mone Mtwo Mbest Mcells Mgap Mwire Mstand Mruns Mminute Mhead Mplays Mrests Mwent Mout Mcame Mgone MlastOut) H_2 locs9 := z_after (wc := kM cI cB cZ oM Mthrown Mmany Mguest Mrow Mbars Mbar Mfresh Mtape Mtaped Mpos Mtoken MtokenAt Mvalue Mwrong MwrongAt MfaultKind MfaultPlace Mthing Morder Mone Mtwo Mbest Mcells Mgap Mwire Mstand Mruns Mminute Mhead Mplays Mrests Mwent Mout Mcame Mgone MlastOut) hw [0, 1, 2, 3, 4, 5, 6, 7, 8, 9, 10, 11, 12, 13, 14, 15, 16] [] rfl rfl (by decide) (by decide) hF9 hk9 ht9 hB9 hS9 [0, 1, 2, 3, 4, 5, 6, 7, 8, 9, 10, 11, 12, 13, 14, 15, 16] (by decide) rfl
    clear hF9 ht9 hvm9 hB9 hz9 hk9 hS9
    rcases hq_6 with ⟨hc_8, rfl⟩ | ⟨hc_8, rfl⟩
    · skip
      refine z_if_eq (tgt := 22) hx hb dX8_hole_17 (by decide) (by omega) (fun hc_9 => absurd hc_9 (by omega)) (fun hc_9 => ?_)
      refine z_iconst hx hb dX8_hole_20 ?_
      have hv_10 : (0 : Int) ≤ Mthrown_4 ∧ Mthrown_4 ≤ 2 := by
        first | assumption | omega | grind
      have hv_11 : (Mruns = 0 ∧ Mthrown_4 = 1) ∨ (Mruns = 1 ∧ Mthrown_4 = 0 ∧ (0 : Int) = (holeK le Mrow h o Mmany.toNat).1) := by
        exact Or.inl ⟨by omega, by omega⟩
      exact W.iret (v := zI 0) hx hb hr (fun t9 ht hW => ⟨⟨zI 0, (0, Mthrown_4), rfl, ⟨rfl, ⟨hv_10, hv_11⟩⟩, by subst hAe; exact z_end hK hw ht hW⟩, by subst hAe; exact hw.2.2.F ht⟩) (by subst hAe; exact hw.2.2.2.2) dX8_hole_21
    · skip
      refine z_if_eq (tgt := 22) hx hb dX8_hole_17 (by decide) (by omega) (fun hc_12 => ?_) (fun hc_12 => absurd hc_12 (by omega))
      refine z_iconst hx hb dX8_hole_22 ?_
      refine lv_istore_n (lv' := [(1, .int (zI 0)), (0, .ref (oM 0))]) hx hb dX8_hole_23 rfl hl (by decide) rfl (fun ls hl => ?_)
      refine z_iconst hx hb dX8_hole_24 ?_
      refine lv_istore_n (lv' := [(2, .int (zI (-1))), (1, .int (zI 0)), (0, .ref (oM 0))]) hx hb dX8_hole_25 rfl hl (by decide) rfl (fun ls hl => ?_)
      refine z_iconst hx hb dX8_hole_26 ?_
      refine lv_istore_n (lv' := [(3, .int (zI 0)), (2, .int (zI (-1))), (1, .int (zI 0)), (0, .ref (oM 0))]) hx hb dX8_hole_27 rfl hl (by decide) rfl (fun ls hl => ?_)
      have hv_13 : 0 ≤ (0 : Int) ∧ (0 : Int) ≤ Mmany := by
        first | assumption | omega | grind
      have hv_14 : ((0 : Int), ((-1) : Int)) = holeK le Mrow h o (0 : Int).toNat := by
        rfl
      have hv_15 : 0 ≤ (0 : Int) ∧ (0 : Int) ≤ 1000 ∧ (((-1) : Int) = -1 ∨ (0 ≤ ((-1) : Int) ∧ ((-1) : Int) < Mmany)) := by
        first | assumption | omega | grind
      refine z_loop (σ := Int × Int × Int) (μ := fun x9 => (9 - (x9.2.2)).toNat) (I := fun x9 H locs ls => (0 ≤ (x9.2.2) ∧ (x9.2.2) ≤ Mmany) ∧ (((x9.1), (x9.2.1)) = holeK le Mrow h o (x9.2.2).toNat) ∧ (0 ≤ (x9.1) ∧ (x9.1) ≤ 1000 ∧ ((x9.2.1) = -1 ∨ (0 ≤ (x9.2.1) ∧ (x9.2.1) < Mmany))) ∧ HW D A s.heap (kM cI cB cZ oM Mthrown_4 Mmany Mguest Mrow Mbars Mbar Mfresh Mtape Mtaped Mpos Mtoken MtokenAt Mvalue Mwrong MwrongAt MfaultKind MfaultPlace Mthing Morder Mone Mtwo Mbest Mcells Mgap Mwire Mstand Mruns Mminute Mhead Mplays Mrests Mwent Mout Mcame Mgone MlastOut) H locs ∧ lv_has ls 5 [(0, .ref (oM 0)), (1, .int (zI (x9.1))), (2, .int (zI (x9.2.1))), (3, .int (zI (x9.2.2)))]) (0, (-1), 0) ⟨hv_13, hv_14, hv_15, hw, lv_sub hl [3, 2, 1, 0] rfl⟩ ?_
      clear hw hl
      intro x9 H locs ls hI ih_16
      obtain ⟨wd_17, ah_18, i_19⟩ := x9
      try dsimp only at hI
      obtain ⟨hI_20, hI_21, hI_22, hw, hl⟩ := hI
      refine lv_iload_n hx hb dX8_hole_28 rfl (lv_at hl 3 rfl) ?_
      refine lv_aload_n hx hb dX8_hole_29 rfl (lv_at hl 0 rfl) ?_
      refine va_get (D := D) (ci := 8) (v := .int (zI Mmany)) (C := RX8) (T := TX8) (N := 36) hx hb hts hinX8 hown hK hw.1 0 rfl rfl 1 (by decide) (hts (.fieldLink RX8 72 "CarnivalRoadModel" "many" "I") (by decide +kernel)) (fun _ h9 => h9) rfl dX8_hole_30 ?_
      refine z_icmp_ge (tgt := 91) hx hb dX8_hole_33 (by decide) (by omega) (fun hc_23 => ?_) (fun hc_23 => ?_)
      · skip
        refine lv_iload_n hx hb dX8_hole_91 rfl (lv_at hl 1 rfl) ?_
        have hv_24 : (0 : Int) ≤ Mthrown_4 ∧ Mthrown_4 ≤ 2 := by
          first | assumption | omega | grind
        have hv_25 : (Mruns = 0 ∧ Mthrown_4 = 1) ∨ (Mruns = 1 ∧ Mthrown_4 = 0 ∧ wd_17 = (holeK le Mrow h o Mmany.toNat).1) := by
          exact Or.inr ⟨by omega, by omega, by rw [show Mmany.toNat = i_19.toNat by omega, ← (by assumption : (wd_17, ah_18) = holeK le Mrow h o i_19.toNat)]⟩
        exact W.iret (v := zI wd_17) hx hb hr (fun t9 ht hW => ⟨⟨zI wd_17, (wd_17, Mthrown_4), rfl, ⟨rfl, ⟨hv_24, hv_25⟩⟩, by subst hAe; exact z_end hK hw ht hW⟩, by subst hAe; exact hw.2.2.F ht⟩) (by subst hAe; exact hw.2.2.2.2) dX8_hole_92
      · skip
        refine lv_aload_n hx hb dX8_hole_36 rfl (lv_at hl 0 rfl) ?_
        refine va_get (D := D) (ci := 8) (v := .ref (oM 2)) (C := RX8) (T := TX8) (N := 36) hx hb hts hinX8 hown hK hw.1 0 rfl rfl 3 (by decide) (hts (.fieldLink RX8 13 "CarnivalRoadModel" "row" "[I") (by decide +kernel)) (fun _ h9 => h9) rfl dX8_hole_37 ?_
        refine lv_iload_n hx hb dX8_hole_40 rfl (lv_at hl 3 rfl) ?_
        have hi_26 : (0 : Int) ≤ i_19 ∧ i_19 < ((8 : Nat) : Int) := by
          first | assumption | omega | grind
        refine z_iald (n := 8) (f := Mrow) hx hb hK hw 2 rfl (by decide) hi_26 dX8_hole_41 ?_
        have hq_27 : 0 ≤ Mrow i_19 ∧ Mrow i_19 ≤ 7 := qMrow i_19
        refine lv_istore (lv' := [(4, .int (zI (Mrow i_19))), (0, .ref (oM 0)), (1, .int (zI wd_17)), (2, .int (zI ah_18)), (3, .int (zI i_19))]) hx hb dX8_hole_42 hl (by decide) rfl (fun ls hl => ?_)
        refine lv_aload_n hx hb dX8_hole_44 rfl (lv_at hl 1 rfl) ?_
        refine lv_iload hx hb dX8_hole_45 (lv_at hl 0 rfl) ?_
        have hF9 := z_free (wc := kM cI cB cZ oM Mthrown_4 Mmany Mguest Mrow Mbars Mbar Mfresh Mtape Mtaped Mpos Mtoken MtokenAt Mvalue Mwrong MwrongAt MfaultKind MfaultPlace Mthing Morder Mone Mtwo Mbest Mcells Mgap Mwire Mstand Mruns Mminute Mhead Mplays Mrests Mwent Mout Mcame Mgone MlastOut) hw hA [0, 1, 2, 3, 4, 5, 6, 7, 8, 9, 10, 11, 12, 13, 14, 15, 16] rfl
        refine va_calli (va_runV (As := [.int (zI (Mrow i_19))]) (rest := []) ⟨hx, hb, hml, hown, hts⟩ (c_X8_isOn l D cI cB cZ oM H.size Mthrown_4 Mmany Mguest Mrow Mbars Mbar Mfresh Mtape Mtaped Mpos Mtoken MtokenAt Mvalue Mwrong MwrongAt MfaultKind MfaultPlace Mthing Morder Mone Mtwo Mbest Mcells Mgap Mwire Mstand Mruns Mminute Mhead Mplays Mrests Mwent Mout Mcame Mgone MlastOut (Mrow i_19) (by omega) (by omega) qMguest qMrow (by omega) qMbar qMfresh qMtape (by omega) (by omega) (by omega) (by omega) (by omega) (by omega) (by omega) (by omega) (by omega) (by omega) qMorder (by omega) (by omega) qMbest (by omega) (by omega) qMwire qMstand (by omega) (by omega) qMhead qMplays qMrests qMwent qMout qMcame qMgone (by omega) (by omega)) (cwV 1 hts gX8_hole_X8_isOn rfl rfl rfl (by decide +kernel) ⟨Nat.le_of_ble_eq_true rfl, Nat.le_of_ble_eq_true rfl⟩) ⟨zPre_blind, va_recv hK hw.1 (ci := 8) (q0 := 0) rfl rfl, z_pre hK hw [0, 1, 2, 3, 4, 5, 6, 7, 8, 9, 10, 11, 12, 13, 14, 15, 16] (by decide) rfl⟩ rfl rfl hl.1 rfl (lv_room (Nat.le_of_ble_eq_true rfl)) dX8_hole_47 ⟨Nat.zero_le _, Nat.zero_le _⟩) hw.2.2 (fun q _ h => hF9 q h) hF9 (fun r9 u9 t9 H_28 locs9 ht9 hvm9 hq9 hB9 hz9 hk9 hS9 => ?_)
        obtain ⟨r_29, rfl⟩ : ∃ z, z = u9 := ⟨_, rfl⟩
        try dsimp only at hq9 hB9
        obtain ⟨rfl, hq9⟩ := hq9
        have hq_30 := hq9
        have hw : HW D A s.heap (kM cI cB cZ oM Mthrown_4 Mmany Mguest Mrow Mbars Mbar Mfresh Mtape Mtaped Mpos Mtoken MtokenAt Mvalue Mwrong MwrongAt MfaultKind MfaultPlace Mthing Morder Mone Mtwo Mbest Mcells Mgap Mwire Mstand Mruns Mminute Mhead Mplays Mrests Mwent Mout Mcame Mgone MlastOut) H_28 locs9 := z_after (wc := kM cI cB cZ oM Mthrown_4 Mmany Mguest Mrow Mbars Mbar Mfresh Mtape Mtaped Mpos Mtoken MtokenAt Mvalue Mwrong MwrongAt MfaultKind MfaultPlace Mthing Morder Mone Mtwo Mbest Mcells Mgap Mwire Mstand Mruns Mminute Mhead Mplays Mrests Mwent Mout Mcame Mgone MlastOut) hw [0, 1, 2, 3, 4, 5, 6, 7, 8, 9, 10, 11, 12, 13, 14, 15, 16] [] rfl rfl (by decide) (by decide) hF9 hk9 ht9 hB9 hS9 [0, 1, 2, 3, 4, 5, 6, 7, 8, 9, 10, 11, 12, 13, 14, 15, 16] (by decide) rfl
        clear hF9 ht9 hvm9 hB9 hz9 hk9 hS9 hq9
        rcases hq_30 with ⟨hc_31, rfl⟩ | ⟨hc_31, rfl⟩
        · skip
          refine z_if_ne (tgt := 56) hx hb dX8_hole_50 (by decide) (by omega) (fun hc_32 => ?_) (fun hc_32 => absurd hc_32 (by omega))
          refine lv_iload_n hx hb dX8_hole_56 rfl (lv_at hl 3 rfl) ?_
          refine z_iconst hx hb dX8_hole_57 ?_
          refine z_icmp_eq (tgt := 82) hx hb dX8_hole_58 (by decide) (by omega) (fun hc_33 => ?_) (fun hc_33 => ?_)
          · skip
            refine lv_iload hx hb dX8_hole_82 (lv_at hl 0 rfl) ?_
            refine lv_istore_n (lv' := [(2, .int (zI (Mrow i_19))), (4, .int (zI (Mrow i_19))), (0, .ref (oM 0)), (1, .int (zI wd_17)), (3, .int (zI i_19))]) hx hb dX8_hole_84 rfl hl (by decide) rfl (fun ls hl => ?_)
            refine z_iinc (k := 4) (lv' := [(3, .int (zI (i_19 + 1))), (2, .int (zI (Mrow i_19))), (4, .int (zI (Mrow i_19))), (0, .ref (oM 0)), (1, .int (zI wd_17))]) hx hb dX8_hole_85 hl rfl (by decide) rfl (fun ls hl => ?_)
            refine lv_goto (tgt := 28) hx hb dX8_hole_88 (by decide) ?_
            have hv_34 : 0 ≤ (i_19 + 1) ∧ (i_19 + 1) ≤ Mmany := by
              first | assumption | omega | grind
            have hv_35 : (wd_17, (Mrow i_19)) = holeK le Mrow h o (i_19 + 1).toNat := by
              have hsi := hp2 (by omega) (Mrow i_19) (hp0 i_19 (by omega) (by omega)).1 (hp0 i_19 (by omega) (by omega)).2
              have hou := qMout (Mrow i_19)
              rw [Int.zero_add] at hsi
              by_cases hon : onP h o (Mrow i_19)
              · have q := hole_on (le := le) (heads := h) (out := o) (line := Mrow) (by omega) (by assumption) hon
                first | (exfalso; unfold onP at hon; omega) | (rw [if_pos (by omega)] at q; exact q) | (rw [if_neg (by omega)] at q; rw [← q]; congr 1; have hsa := hp2 (by omega) ah_18 (by omega) (by omega); have hga := hp1 ah_18 (by omega) (by omega); omega)
              · first | (exfalso; apply hon; unfold onP; omega) | exact hole_off (by omega) (by assumption) hon
            have hv_36 : 0 ≤ wd_17 ∧ wd_17 ≤ 1000 ∧ ((Mrow i_19) = -1 ∨ (0 ≤ (Mrow i_19) ∧ (Mrow i_19) < Mmany)) := by
              have hra := hp0 i_19 (by omega) (by omega)
              omega
            have hm_37 : (9 - (i_19 + 1)).toNat < (9 - i_19).toNat := by
              first | assumption | omega | grind
            exact ih_16 (wd_17, (Mrow i_19), (i_19 + 1)) _ _ _ ⟨hv_34, hv_35, hv_36, hw, lv_sub hl [3, 4, 1, 0] rfl⟩ hm_37
          · skip
            refine lv_iload_n hx hb dX8_hole_61 rfl (lv_at hl 2 rfl) ?_
            refine lv_aload_n hx hb dX8_hole_62 rfl (lv_at hl 1 rfl) ?_
            refine z_iconst hx hb dX8_hole_63 ?_
            refine lv_iload_n hx hb dX8_hole_64 rfl (lv_at hl 3 rfl) ?_
            have hF9 := z_free (wc := kM cI cB cZ oM Mthrown_4 Mmany Mguest Mrow Mbars Mbar Mfresh Mtape Mtaped Mpos Mtoken MtokenAt Mvalue Mwrong MwrongAt MfaultKind MfaultPlace Mthing Morder Mone Mtwo Mbest Mcells Mgap Mwire Mstand Mruns Mminute Mhead Mplays Mrests Mwent Mout Mcame Mgone MlastOut) hw hA [0, 1, 2, 3, 4, 5, 6, 7, 8, 9, 10, 11, 12, 13, 14, 15, 16] rfl
            refine va_calli (va_runV (As := [.int (zI 0), .int (zI ah_18)]) (rest := [.int (zI wd_17)]) ⟨hx, hb, hml, hown, hts⟩ (c_X8_tail l D cI cB cZ oM H_28.size Mthrown_4 Mmany Mguest Mrow Mbars Mbar Mfresh Mtape Mtaped Mpos Mtoken MtokenAt Mvalue Mwrong MwrongAt MfaultKind MfaultPlace Mthing Morder Mone Mtwo Mbest Mcells Mgap Mwire Mstand Mruns Mminute Mhead Mplays Mrests Mwent Mout Mcame Mgone MlastOut 0 ah_18 (by omega) (by omega) qMguest qMrow (by omega) qMbar qMfresh qMtape (by omega) (by omega) (by omega) (by omega) (by omega) (by omega) (by omega) (by omega) (by omega) (by omega) qMorder (by omega) (by omega) qMbest (by omega) (by omega) qMwire qMstand (by omega) (by omega) qMhead qMplays qMrests qMwent qMout qMcame qMgone (by omega) (by omega) (by omega)) (cwV 2 hts gX8_hole_X8_tail rfl rfl rfl (by decide +kernel) ⟨Nat.le_of_ble_eq_true rfl, Nat.le_of_ble_eq_true rfl⟩) ⟨zPre_blind, va_recv hK hw.1 (ci := 8) (q0 := 0) rfl rfl, z_pre hK hw [0, 1, 2, 3, 4, 5, 6, 7, 8, 9, 10, 11, 12, 13, 14, 15, 16] (by decide) rfl⟩ rfl rfl hl.1 rfl (lv_room (Nat.le_of_ble_eq_true rfl)) dX8_hole_65 ⟨Nat.zero_le _, Nat.zero_le _⟩) hw.2.2 (fun q _ h => hF9 q h) hF9 (fun r9 u9 t9 H_38 locs9 ht9 hvm9 hq9 hB9 hz9 hk9 hS9 => ?_)
            obtain ⟨r_39, rfl⟩ : ∃ z, z = u9 := ⟨_, rfl⟩
            try dsimp only at hq9 hB9
            obtain ⟨rfl, hq9⟩ := hq9
            obtain ⟨hq_40, hq_41⟩ := hq9
            have hw : HW D A s.heap (kM cI cB cZ oM Mthrown_4 Mmany Mguest Mrow Mbars Mbar Mfresh Mtape Mtaped Mpos Mtoken MtokenAt Mvalue Mwrong MwrongAt MfaultKind MfaultPlace Mthing Morder Mone Mtwo Mbest Mcells Mgap Mwire Mstand Mruns Mminute Mhead Mplays Mrests Mwent Mout Mcame Mgone MlastOut) H_38 locs9 := z_after (wc := kM cI cB cZ oM Mthrown_4 Mmany Mguest Mrow Mbars Mbar Mfresh Mtape Mtaped Mpos Mtoken MtokenAt Mvalue Mwrong MwrongAt MfaultKind MfaultPlace Mthing Morder Mone Mtwo Mbest Mcells Mgap Mwire Mstand Mruns Mminute Mhead Mplays Mrests Mwent Mout Mcame Mgone MlastOut) hw [0, 1, 2, 3, 4, 5, 6, 7, 8, 9, 10, 11, 12, 13, 14, 15, 16] [] rfl rfl (by decide) (by decide) hF9 hk9 ht9 hB9 hS9 [0, 1, 2, 3, 4, 5, 6, 7, 8, 9, 10, 11, 12, 13, 14, 15, 16] (by decide) rfl
            clear hF9 ht9 hvm9 hB9 hz9 hk9 hS9
            refine lv_aload_n hx hb dX8_hole_68 rfl (lv_at hl 1 rfl) ?_
            refine va_get (D := D) (ci := 8) (v := .ref (oM 10)) (C := RX8) (T := TX8) (N := 36) hx hb hts hinX8 hown hK hw.1 0 rfl rfl 28 (by decide) (hts (.fieldLink RX8 47 "CarnivalRoadModel" "head" "[I") (by decide +kernel)) (fun _ h9 => h9) rfl dX8_hole_69 ?_
            refine lv_iload hx hb dX8_hole_72 (lv_at hl 0 rfl) ?_
            have hi_42 : (0 : Int) ≤ (Mrow i_19) ∧ (Mrow i_19) < ((16 : Nat) : Int) := by
              first | assumption | omega | grind
            refine z_iald (n := 16) (f := Mhead) hx hb hK hw 10 rfl (by decide) hi_42 dX8_hole_74 ?_
            have hq_43 : -1 ≤ Mhead (Mrow i_19) ∧ Mhead (Mrow i_19) ≤ 60 := qMhead (Mrow i_19)
            refine z_isub hx hb dX8_hole_75 ?_
            refine z_iconst hx hb dX8_hole_76 ?_
            refine z_isub hx hb dX8_hole_77 ?_
            refine z_max hx hb (hml.trans hl.1.symm) hown (hts (.methodLink RX8 231 Lib.Math.max.name) (by decide +kernel)) (hts (.static Lib.Math.max.name) (by decide +kernel)) (hts (.initialized "java/lang/Math") (by decide +kernel)) (hts (.code Lib.Math.max.name Lib.Math.max.code 2 (some .int)) (by decide +kernel)) (Nat.le_of_ble_eq_true rfl) (Nat.le_of_ble_eq_true rfl) (Nat.zero_le _) (Nat.zero_le _) (by omega) dX8_hole_78 ?_
            refine lv_istore_n (lv' := [(1, .int (zI (max wd_17 ((r_39 - (Mhead (Mrow i_19))) - 1)))), (4, .int (zI (Mrow i_19))), (0, .ref (oM 0)), (2, .int (zI ah_18)), (3, .int (zI i_19))]) hx hb dX8_hole_81 rfl hl (by decide) rfl (fun ls hl => ?_)
            refine lv_iload hx hb dX8_hole_82 (lv_at hl 1 rfl) ?_
            refine lv_istore_n (lv' := [(2, .int (zI (Mrow i_19))), (1, .int (zI (max wd_17 ((r_39 - (Mhead (Mrow i_19))) - 1)))), (4, .int (zI (Mrow i_19))), (0, .ref (oM 0)), (3, .int (zI i_19))]) hx hb dX8_hole_84 rfl hl (by decide) rfl (fun ls hl => ?_)
            refine z_iinc (k := 4) (lv' := [(3, .int (zI (i_19 + 1))), (2, .int (zI (Mrow i_19))), (1, .int (zI (max wd_17 ((r_39 - (Mhead (Mrow i_19))) - 1)))), (4, .int (zI (Mrow i_19))), (0, .ref (oM 0))]) hx hb dX8_hole_85 hl rfl (by decide) rfl (fun ls hl => ?_)
            refine lv_goto (tgt := 28) hx hb dX8_hole_88 (by decide) ?_
            have hv_44 : 0 ≤ (i_19 + 1) ∧ (i_19 + 1) ≤ Mmany := by
              first | assumption | omega | grind
            have hv_45 : ((max wd_17 ((r_39 - (Mhead (Mrow i_19))) - 1)), (Mrow i_19)) = holeK le Mrow h o (i_19 + 1).toNat := by
              have hsi := hp2 (by omega) (Mrow i_19) (hp0 i_19 (by omega) (by omega)).1 (hp0 i_19 (by omega) (by omega)).2
              have hou := qMout (Mrow i_19)
              rw [Int.zero_add] at hsi
              by_cases hon : onP h o (Mrow i_19)
              · have q := hole_on (le := le) (heads := h) (out := o) (line := Mrow) (by omega) (by assumption) hon
                first | (exfalso; unfold onP at hon; omega) | (rw [if_pos (by omega)] at q; exact q) | (rw [if_neg (by omega)] at q; rw [← q]; congr 1; have hsa := hp2 (by omega) ah_18 (by omega) (by omega); have hga := hp1 ah_18 (by omega) (by omega); omega)
              · first | (exfalso; apply hon; unfold onP; omega) | exact hole_off (by omega) (by assumption) hon
            have hv_46 : 0 ≤ (max wd_17 ((r_39 - (Mhead (Mrow i_19))) - 1)) ∧ (max wd_17 ((r_39 - (Mhead (Mrow i_19))) - 1)) ≤ 1000 ∧ ((Mrow i_19) = -1 ∨ (0 ≤ (Mrow i_19) ∧ (Mrow i_19) < Mmany)) := by
              have hra := hp0 i_19 (by omega) (by omega)
              omega
            have hm_47 : (9 - (i_19 + 1)).toNat < (9 - i_19).toNat := by
              first | assumption | omega | grind
            exact ih_16 ((max wd_17 ((r_39 - (Mhead (Mrow i_19))) - 1)), (Mrow i_19), (i_19 + 1)) _ _ _ ⟨hv_44, hv_45, hv_46, hw, lv_sub hl [4, 2, 1, 0] rfl⟩ hm_47
        · skip
          refine z_if_ne (tgt := 56) hx hb dX8_hole_50 (by decide) (by omega) (fun hc_48 => absurd hc_48 (by omega)) (fun hc_48 => ?_)
          refine lv_goto (tgt := 85) hx hb dX8_hole_53 (by decide) ?_
          refine z_iinc (k := 4) (lv' := [(3, .int (zI (i_19 + 1))), (4, .int (zI (Mrow i_19))), (0, .ref (oM 0)), (1, .int (zI wd_17)), (2, .int (zI ah_18))]) hx hb dX8_hole_85 hl rfl (by decide) rfl (fun ls hl => ?_)
          refine lv_goto (tgt := 28) hx hb dX8_hole_88 (by decide) ?_
          have hv_49 : 0 ≤ (i_19 + 1) ∧ (i_19 + 1) ≤ Mmany := by
            first | assumption | omega | grind
          have hv_50 : (wd_17, ah_18) = holeK le Mrow h o (i_19 + 1).toNat := by
            have hsi := hp2 (by omega) (Mrow i_19) (hp0 i_19 (by omega) (by omega)).1 (hp0 i_19 (by omega) (by omega)).2
            have hou := qMout (Mrow i_19)
            rw [Int.zero_add] at hsi
            by_cases hon : onP h o (Mrow i_19)
            · have q := hole_on (le := le) (heads := h) (out := o) (line := Mrow) (by omega) (by assumption) hon
              first | (exfalso; unfold onP at hon; omega) | (rw [if_pos (by omega)] at q; exact q) | (rw [if_neg (by omega)] at q; rw [← q]; congr 1; have hsa := hp2 (by omega) ah_18 (by omega) (by omega); have hga := hp1 ah_18 (by omega) (by omega); omega)
            · first | (exfalso; apply hon; unfold onP; omega) | exact hole_off (by omega) (by assumption) hon
          have hv_51 : 0 ≤ wd_17 ∧ wd_17 ≤ 1000 ∧ (ah_18 = -1 ∨ (0 ≤ ah_18 ∧ ah_18 < Mmany)) := by
            have hra := hp0 i_19 (by omega) (by omega)
            omega
          have hm_52 : (9 - (i_19 + 1)).toNat < (9 - i_19).toNat := by
            first | assumption | omega | grind
          exact ih_16 (wd_17, ah_18, (i_19 + 1)) _ _ _ ⟨hv_49, hv_50, hv_51, hw, lv_sub hl [2, 3, 4, 0] rfl⟩ hm_52
  · skip
    refine z_iconst hx hb dX8_hole_8 ?_
    refine lv_goto (tgt := 13) hx hb dX8_hole_9 (by decide) ?_
    refine z_iconst hx hb dX8_hole_13 ?_
    have hF9 := z_free (wc := kM cI cB cZ oM Mthrown Mmany Mguest Mrow Mbars Mbar Mfresh Mtape Mtaped Mpos Mtoken MtokenAt Mvalue Mwrong MwrongAt MfaultKind MfaultPlace Mthing Morder Mone Mtwo Mbest Mcells Mgap Mwire Mstand Mruns Mminute Mhead Mplays Mrests Mwent Mout Mcame Mgone MlastOut) hw hA [0, 1, 2, 3, 4, 5, 6, 7, 8, 9, 10, 11, 12, 13, 14, 15, 16] rfl
    refine va_calli (va_runV (As := [.int (zI 1), .int (zI 0)]) (rest := []) ⟨hx, hb, hml, hown, hts⟩ (c_X8_fails l D cI cB cZ oM s.heap.size Mthrown Mmany Mguest Mrow Mbars Mbar Mfresh Mtape Mtaped Mpos Mtoken MtokenAt Mvalue Mwrong MwrongAt MfaultKind MfaultPlace Mthing Morder Mone Mtwo Mbest Mcells Mgap Mwire Mstand Mruns Mminute Mhead Mplays Mrests Mwent Mout Mcame Mgone MlastOut 1 0 (by omega) (by omega) qMguest qMrow (by omega) qMbar qMfresh qMtape (by omega) (by omega) (by omega) (by omega) (by omega) (by omega) (by omega) (by omega) (by omega) (by omega) qMorder (by omega) (by omega) qMbest (by omega) (by omega) qMwire qMstand (by omega) (by omega) qMhead qMplays qMrests qMwent qMout qMcame qMgone (by omega) (by omega) (by omega)) (cwV 2 hts gX8_hole_X8_fails rfl rfl rfl (by decide +kernel) ⟨Nat.le_of_ble_eq_true rfl, Nat.le_of_ble_eq_true rfl⟩) ⟨zPre_blind, va_recv hK hw.1 (ci := 8) (q0 := 0) rfl rfl, z_pre hK hw [0, 1, 2, 3, 4, 5, 6, 7, 8, 9, 10, 11, 12, 13, 14, 15, 16] (by decide) rfl⟩ rfl rfl hl.1 rfl (lv_room (Nat.le_of_ble_eq_true rfl)) dX8_hole_14 ⟨Nat.zero_le _, Nat.zero_le _⟩) hw.2.2 (fun q _ h => hF9 q h) hF9 (fun r9 u9 t9 H_53 locs9 ht9 hvm9 hq9 hB9 hz9 hk9 hS9 => ?_)
    obtain ⟨r_54, Mthrown_55⟩ := u9
    try dsimp only at hq9 hB9
    obtain ⟨rfl, hq9⟩ := hq9
    obtain ⟨hq_56, hq_57, hq_58⟩ := hq9
    have hw : HW D A s.heap (kM cI cB cZ oM Mthrown_55 Mmany Mguest Mrow Mbars Mbar Mfresh Mtape Mtaped Mpos Mtoken MtokenAt Mvalue Mwrong MwrongAt MfaultKind MfaultPlace Mthing Morder Mone Mtwo Mbest Mcells Mgap Mwire Mstand Mruns Mminute Mhead Mplays Mrests Mwent Mout Mcame Mgone MlastOut) H_53 locs9 := z_after (wc := kM cI cB cZ oM Mthrown Mmany Mguest Mrow Mbars Mbar Mfresh Mtape Mtaped Mpos Mtoken MtokenAt Mvalue Mwrong MwrongAt MfaultKind MfaultPlace Mthing Morder Mone Mtwo Mbest Mcells Mgap Mwire Mstand Mruns Mminute Mhead Mplays Mrests Mwent Mout Mcame Mgone MlastOut) hw [0, 1, 2, 3, 4, 5, 6, 7, 8, 9, 10, 11, 12, 13, 14, 15, 16] [] rfl rfl (by decide) (by decide) hF9 hk9 ht9 hB9 hS9 [0, 1, 2, 3, 4, 5, 6, 7, 8, 9, 10, 11, 12, 13, 14, 15, 16] (by decide) rfl
    clear hF9 ht9 hvm9 hB9 hz9 hk9 hS9
    rcases hq_57 with ⟨hc_59, rfl⟩ | ⟨hc_59, rfl⟩
    · skip
      refine z_if_eq (tgt := 22) hx hb dX8_hole_17 (by decide) (by omega) (fun hc_60 => absurd hc_60 (by omega)) (fun hc_60 => ?_)
      refine z_iconst hx hb dX8_hole_20 ?_
      have hv_61 : (0 : Int) ≤ Mthrown_55 ∧ Mthrown_55 ≤ 2 := by
        first | assumption | omega | grind
      have hv_62 : (Mruns = 0 ∧ Mthrown_55 = 1) ∨ (Mruns = 1 ∧ Mthrown_55 = 0 ∧ (0 : Int) = (holeK le Mrow h o Mmany.toNat).1) := by
        exact Or.inl ⟨by omega, by omega⟩
      exact W.iret (v := zI 0) hx hb hr (fun t9 ht hW => ⟨⟨zI 0, (0, Mthrown_55), rfl, ⟨rfl, ⟨hv_61, hv_62⟩⟩, by subst hAe; exact z_end hK hw ht hW⟩, by subst hAe; exact hw.2.2.F ht⟩) (by subst hAe; exact hw.2.2.2.2) dX8_hole_21
    · skip
      refine z_if_eq (tgt := 22) hx hb dX8_hole_17 (by decide) (by omega) (fun hc_63 => ?_) (fun hc_63 => absurd hc_63 (by omega))
      refine z_iconst hx hb dX8_hole_22 ?_
      refine lv_istore_n (lv' := [(1, .int (zI 0)), (0, .ref (oM 0))]) hx hb dX8_hole_23 rfl hl (by decide) rfl (fun ls hl => ?_)
      refine z_iconst hx hb dX8_hole_24 ?_
      refine lv_istore_n (lv' := [(2, .int (zI (-1))), (1, .int (zI 0)), (0, .ref (oM 0))]) hx hb dX8_hole_25 rfl hl (by decide) rfl (fun ls hl => ?_)
      refine z_iconst hx hb dX8_hole_26 ?_
      refine lv_istore_n (lv' := [(3, .int (zI 0)), (2, .int (zI (-1))), (1, .int (zI 0)), (0, .ref (oM 0))]) hx hb dX8_hole_27 rfl hl (by decide) rfl (fun ls hl => ?_)
      have hv_64 : 0 ≤ (0 : Int) ∧ (0 : Int) ≤ Mmany := by
        first | assumption | omega | grind
      have hv_65 : ((0 : Int), ((-1) : Int)) = holeK le Mrow h o (0 : Int).toNat := by
        rfl
      have hv_66 : 0 ≤ (0 : Int) ∧ (0 : Int) ≤ 1000 ∧ (((-1) : Int) = -1 ∨ (0 ≤ ((-1) : Int) ∧ ((-1) : Int) < Mmany)) := by
        first | assumption | omega | grind
      refine z_loop (σ := Int × Int × Int) (μ := fun x9 => (9 - (x9.2.2)).toNat) (I := fun x9 H locs ls => (0 ≤ (x9.2.2) ∧ (x9.2.2) ≤ Mmany) ∧ (((x9.1), (x9.2.1)) = holeK le Mrow h o (x9.2.2).toNat) ∧ (0 ≤ (x9.1) ∧ (x9.1) ≤ 1000 ∧ ((x9.2.1) = -1 ∨ (0 ≤ (x9.2.1) ∧ (x9.2.1) < Mmany))) ∧ HW D A s.heap (kM cI cB cZ oM Mthrown_55 Mmany Mguest Mrow Mbars Mbar Mfresh Mtape Mtaped Mpos Mtoken MtokenAt Mvalue Mwrong MwrongAt MfaultKind MfaultPlace Mthing Morder Mone Mtwo Mbest Mcells Mgap Mwire Mstand Mruns Mminute Mhead Mplays Mrests Mwent Mout Mcame Mgone MlastOut) H locs ∧ lv_has ls 5 [(0, .ref (oM 0)), (1, .int (zI (x9.1))), (2, .int (zI (x9.2.1))), (3, .int (zI (x9.2.2)))]) (0, (-1), 0) ⟨hv_64, hv_65, hv_66, hw, lv_sub hl [3, 2, 1, 0] rfl⟩ ?_
      clear hw hl
      intro x9 H locs ls hI ih_67
      obtain ⟨wd_68, ah_69, i_70⟩ := x9
      try dsimp only at hI
      obtain ⟨hI_71, hI_72, hI_73, hw, hl⟩ := hI
      refine lv_iload_n hx hb dX8_hole_28 rfl (lv_at hl 3 rfl) ?_
      refine lv_aload_n hx hb dX8_hole_29 rfl (lv_at hl 0 rfl) ?_
      refine va_get (D := D) (ci := 8) (v := .int (zI Mmany)) (C := RX8) (T := TX8) (N := 36) hx hb hts hinX8 hown hK hw.1 0 rfl rfl 1 (by decide) (hts (.fieldLink RX8 72 "CarnivalRoadModel" "many" "I") (by decide +kernel)) (fun _ h9 => h9) rfl dX8_hole_30 ?_
      refine z_icmp_ge (tgt := 91) hx hb dX8_hole_33 (by decide) (by omega) (fun hc_74 => ?_) (fun hc_74 => ?_)
      · skip
        refine lv_iload_n hx hb dX8_hole_91 rfl (lv_at hl 1 rfl) ?_
        have hv_75 : (0 : Int) ≤ Mthrown_55 ∧ Mthrown_55 ≤ 2 := by
          first | assumption | omega | grind
        have hv_76 : (Mruns = 0 ∧ Mthrown_55 = 1) ∨ (Mruns = 1 ∧ Mthrown_55 = 0 ∧ wd_68 = (holeK le Mrow h o Mmany.toNat).1) := by
          exact Or.inr ⟨by omega, by omega, by rw [show Mmany.toNat = i_70.toNat by omega, ← (by assumption : (wd_68, ah_69) = holeK le Mrow h o i_70.toNat)]⟩
        exact W.iret (v := zI wd_68) hx hb hr (fun t9 ht hW => ⟨⟨zI wd_68, (wd_68, Mthrown_55), rfl, ⟨rfl, ⟨hv_75, hv_76⟩⟩, by subst hAe; exact z_end hK hw ht hW⟩, by subst hAe; exact hw.2.2.F ht⟩) (by subst hAe; exact hw.2.2.2.2) dX8_hole_92
      · skip
        refine lv_aload_n hx hb dX8_hole_36 rfl (lv_at hl 0 rfl) ?_
        refine va_get (D := D) (ci := 8) (v := .ref (oM 2)) (C := RX8) (T := TX8) (N := 36) hx hb hts hinX8 hown hK hw.1 0 rfl rfl 3 (by decide) (hts (.fieldLink RX8 13 "CarnivalRoadModel" "row" "[I") (by decide +kernel)) (fun _ h9 => h9) rfl dX8_hole_37 ?_
        refine lv_iload_n hx hb dX8_hole_40 rfl (lv_at hl 3 rfl) ?_
        have hi_77 : (0 : Int) ≤ i_70 ∧ i_70 < ((8 : Nat) : Int) := by
          first | assumption | omega | grind
        refine z_iald (n := 8) (f := Mrow) hx hb hK hw 2 rfl (by decide) hi_77 dX8_hole_41 ?_
        have hq_78 : 0 ≤ Mrow i_70 ∧ Mrow i_70 ≤ 7 := qMrow i_70
        refine lv_istore (lv' := [(4, .int (zI (Mrow i_70))), (0, .ref (oM 0)), (1, .int (zI wd_68)), (2, .int (zI ah_69)), (3, .int (zI i_70))]) hx hb dX8_hole_42 hl (by decide) rfl (fun ls hl => ?_)
        refine lv_aload_n hx hb dX8_hole_44 rfl (lv_at hl 1 rfl) ?_
        refine lv_iload hx hb dX8_hole_45 (lv_at hl 0 rfl) ?_
        have hF9 := z_free (wc := kM cI cB cZ oM Mthrown_55 Mmany Mguest Mrow Mbars Mbar Mfresh Mtape Mtaped Mpos Mtoken MtokenAt Mvalue Mwrong MwrongAt MfaultKind MfaultPlace Mthing Morder Mone Mtwo Mbest Mcells Mgap Mwire Mstand Mruns Mminute Mhead Mplays Mrests Mwent Mout Mcame Mgone MlastOut) hw hA [0, 1, 2, 3, 4, 5, 6, 7, 8, 9, 10, 11, 12, 13, 14, 15, 16] rfl
        refine va_calli (va_runV (As := [.int (zI (Mrow i_70))]) (rest := []) ⟨hx, hb, hml, hown, hts⟩ (c_X8_isOn l D cI cB cZ oM H.size Mthrown_55 Mmany Mguest Mrow Mbars Mbar Mfresh Mtape Mtaped Mpos Mtoken MtokenAt Mvalue Mwrong MwrongAt MfaultKind MfaultPlace Mthing Morder Mone Mtwo Mbest Mcells Mgap Mwire Mstand Mruns Mminute Mhead Mplays Mrests Mwent Mout Mcame Mgone MlastOut (Mrow i_70) (by omega) (by omega) qMguest qMrow (by omega) qMbar qMfresh qMtape (by omega) (by omega) (by omega) (by omega) (by omega) (by omega) (by omega) (by omega) (by omega) (by omega) qMorder (by omega) (by omega) qMbest (by omega) (by omega) qMwire qMstand (by omega) (by omega) qMhead qMplays qMrests qMwent qMout qMcame qMgone (by omega) (by omega)) (cwV 1 hts gX8_hole_X8_isOn rfl rfl rfl (by decide +kernel) ⟨Nat.le_of_ble_eq_true rfl, Nat.le_of_ble_eq_true rfl⟩) ⟨zPre_blind, va_recv hK hw.1 (ci := 8) (q0 := 0) rfl rfl, z_pre hK hw [0, 1, 2, 3, 4, 5, 6, 7, 8, 9, 10, 11, 12, 13, 14, 15, 16] (by decide) rfl⟩ rfl rfl hl.1 rfl (lv_room (Nat.le_of_ble_eq_true rfl)) dX8_hole_47 ⟨Nat.zero_le _, Nat.zero_le _⟩) hw.2.2 (fun q _ h => hF9 q h) hF9 (fun r9 u9 t9 H_79 locs9 ht9 hvm9 hq9 hB9 hz9 hk9 hS9 => ?_)
        obtain ⟨r_80, rfl⟩ : ∃ z, z = u9 := ⟨_, rfl⟩
        try dsimp only at hq9 hB9
        obtain ⟨rfl, hq9⟩ := hq9
        have hq_81 := hq9
        have hw : HW D A s.heap (kM cI cB cZ oM Mthrown_55 Mmany Mguest Mrow Mbars Mbar Mfresh Mtape Mtaped Mpos Mtoken MtokenAt Mvalue Mwrong MwrongAt MfaultKind MfaultPlace Mthing Morder Mone Mtwo Mbest Mcells Mgap Mwire Mstand Mruns Mminute Mhead Mplays Mrests Mwent Mout Mcame Mgone MlastOut) H_79 locs9 := z_after (wc := kM cI cB cZ oM Mthrown_55 Mmany Mguest Mrow Mbars Mbar Mfresh Mtape Mtaped Mpos Mtoken MtokenAt Mvalue Mwrong MwrongAt MfaultKind MfaultPlace Mthing Morder Mone Mtwo Mbest Mcells Mgap Mwire Mstand Mruns Mminute Mhead Mplays Mrests Mwent Mout Mcame Mgone MlastOut) hw [0, 1, 2, 3, 4, 5, 6, 7, 8, 9, 10, 11, 12, 13, 14, 15, 16] [] rfl rfl (by decide) (by decide) hF9 hk9 ht9 hB9 hS9 [0, 1, 2, 3, 4, 5, 6, 7, 8, 9, 10, 11, 12, 13, 14, 15, 16] (by decide) rfl
        clear hF9 ht9 hvm9 hB9 hz9 hk9 hS9 hq9
        rcases hq_81 with ⟨hc_82, rfl⟩ | ⟨hc_82, rfl⟩
        · skip
          refine z_if_ne (tgt := 56) hx hb dX8_hole_50 (by decide) (by omega) (fun hc_83 => ?_) (fun hc_83 => absurd hc_83 (by omega))
          refine lv_iload_n hx hb dX8_hole_56 rfl (lv_at hl 3 rfl) ?_
          refine z_iconst hx hb dX8_hole_57 ?_
          refine z_icmp_eq (tgt := 82) hx hb dX8_hole_58 (by decide) (by omega) (fun hc_84 => ?_) (fun hc_84 => ?_)
          · skip
            refine lv_iload hx hb dX8_hole_82 (lv_at hl 0 rfl) ?_
            refine lv_istore_n (lv' := [(2, .int (zI (Mrow i_70))), (4, .int (zI (Mrow i_70))), (0, .ref (oM 0)), (1, .int (zI wd_68)), (3, .int (zI i_70))]) hx hb dX8_hole_84 rfl hl (by decide) rfl (fun ls hl => ?_)
            refine z_iinc (k := 4) (lv' := [(3, .int (zI (i_70 + 1))), (2, .int (zI (Mrow i_70))), (4, .int (zI (Mrow i_70))), (0, .ref (oM 0)), (1, .int (zI wd_68))]) hx hb dX8_hole_85 hl rfl (by decide) rfl (fun ls hl => ?_)
            refine lv_goto (tgt := 28) hx hb dX8_hole_88 (by decide) ?_
            have hv_85 : 0 ≤ (i_70 + 1) ∧ (i_70 + 1) ≤ Mmany := by
              first | assumption | omega | grind
            have hv_86 : (wd_68, (Mrow i_70)) = holeK le Mrow h o (i_70 + 1).toNat := by
              have hsi := hp2 (by omega) (Mrow i_70) (hp0 i_70 (by omega) (by omega)).1 (hp0 i_70 (by omega) (by omega)).2
              have hou := qMout (Mrow i_70)
              rw [Int.zero_add] at hsi
              by_cases hon : onP h o (Mrow i_70)
              · have q := hole_on (le := le) (heads := h) (out := o) (line := Mrow) (by omega) (by assumption) hon
                first | (exfalso; unfold onP at hon; omega) | (rw [if_pos (by omega)] at q; exact q) | (rw [if_neg (by omega)] at q; rw [← q]; congr 1; have hsa := hp2 (by omega) ah_69 (by omega) (by omega); have hga := hp1 ah_69 (by omega) (by omega); omega)
              · first | (exfalso; apply hon; unfold onP; omega) | exact hole_off (by omega) (by assumption) hon
            have hv_87 : 0 ≤ wd_68 ∧ wd_68 ≤ 1000 ∧ ((Mrow i_70) = -1 ∨ (0 ≤ (Mrow i_70) ∧ (Mrow i_70) < Mmany)) := by
              have hra := hp0 i_70 (by omega) (by omega)
              omega
            have hm_88 : (9 - (i_70 + 1)).toNat < (9 - i_70).toNat := by
              first | assumption | omega | grind
            exact ih_67 (wd_68, (Mrow i_70), (i_70 + 1)) _ _ _ ⟨hv_85, hv_86, hv_87, hw, lv_sub hl [3, 4, 1, 0] rfl⟩ hm_88
          · skip
            refine lv_iload_n hx hb dX8_hole_61 rfl (lv_at hl 2 rfl) ?_
            refine lv_aload_n hx hb dX8_hole_62 rfl (lv_at hl 1 rfl) ?_
            refine z_iconst hx hb dX8_hole_63 ?_
            refine lv_iload_n hx hb dX8_hole_64 rfl (lv_at hl 3 rfl) ?_
            have hF9 := z_free (wc := kM cI cB cZ oM Mthrown_55 Mmany Mguest Mrow Mbars Mbar Mfresh Mtape Mtaped Mpos Mtoken MtokenAt Mvalue Mwrong MwrongAt MfaultKind MfaultPlace Mthing Morder Mone Mtwo Mbest Mcells Mgap Mwire Mstand Mruns Mminute Mhead Mplays Mrests Mwent Mout Mcame Mgone MlastOut) hw hA [0, 1, 2, 3, 4, 5, 6, 7, 8, 9, 10, 11, 12, 13, 14, 15, 16] rfl
            refine va_calli (va_runV (As := [.int (zI 0), .int (zI ah_69)]) (rest := [.int (zI wd_68)]) ⟨hx, hb, hml, hown, hts⟩ (c_X8_tail l D cI cB cZ oM H_79.size Mthrown_55 Mmany Mguest Mrow Mbars Mbar Mfresh Mtape Mtaped Mpos Mtoken MtokenAt Mvalue Mwrong MwrongAt MfaultKind MfaultPlace Mthing Morder Mone Mtwo Mbest Mcells Mgap Mwire Mstand Mruns Mminute Mhead Mplays Mrests Mwent Mout Mcame Mgone MlastOut 0 ah_69 (by omega) (by omega) qMguest qMrow (by omega) qMbar qMfresh qMtape (by omega) (by omega) (by omega) (by omega) (by omega) (by omega) (by omega) (by omega) (by omega) (by omega) qMorder (by omega) (by omega) qMbest (by omega) (by omega) qMwire qMstand (by omega) (by omega) qMhead qMplays qMrests qMwent qMout qMcame qMgone (by omega) (by omega) (by omega)) (cwV 2 hts gX8_hole_X8_tail rfl rfl rfl (by decide +kernel) ⟨Nat.le_of_ble_eq_true rfl, Nat.le_of_ble_eq_true rfl⟩) ⟨zPre_blind, va_recv hK hw.1 (ci := 8) (q0 := 0) rfl rfl, z_pre hK hw [0, 1, 2, 3, 4, 5, 6, 7, 8, 9, 10, 11, 12, 13, 14, 15, 16] (by decide) rfl⟩ rfl rfl hl.1 rfl (lv_room (Nat.le_of_ble_eq_true rfl)) dX8_hole_65 ⟨Nat.zero_le _, Nat.zero_le _⟩) hw.2.2 (fun q _ h => hF9 q h) hF9 (fun r9 u9 t9 H_89 locs9 ht9 hvm9 hq9 hB9 hz9 hk9 hS9 => ?_)
            obtain ⟨r_90, rfl⟩ : ∃ z, z = u9 := ⟨_, rfl⟩
            try dsimp only at hq9 hB9
            obtain ⟨rfl, hq9⟩ := hq9
            obtain ⟨hq_91, hq_92⟩ := hq9
            have hw : HW D A s.heap (kM cI cB cZ oM Mthrown_55 Mmany Mguest Mrow Mbars Mbar Mfresh Mtape Mtaped Mpos Mtoken MtokenAt Mvalue Mwrong MwrongAt MfaultKind MfaultPlace Mthing Morder Mone Mtwo Mbest Mcells Mgap Mwire Mstand Mruns Mminute Mhead Mplays Mrests Mwent Mout Mcame Mgone MlastOut) H_89 locs9 := z_after (wc := kM cI cB cZ oM Mthrown_55 Mmany Mguest Mrow Mbars Mbar Mfresh Mtape Mtaped Mpos Mtoken MtokenAt Mvalue Mwrong MwrongAt MfaultKind MfaultPlace Mthing Morder Mone Mtwo Mbest Mcells Mgap Mwire Mstand Mruns Mminute Mhead Mplays Mrests Mwent Mout Mcame Mgone MlastOut) hw [0, 1, 2, 3, 4, 5, 6, 7, 8, 9, 10, 11, 12, 13, 14, 15, 16] [] rfl rfl (by decide) (by decide) hF9 hk9 ht9 hB9 hS9 [0, 1, 2, 3, 4, 5, 6, 7, 8, 9, 10, 11, 12, 13, 14, 15, 16] (by decide) rfl
            clear hF9 ht9 hvm9 hB9 hz9 hk9 hS9
            refine lv_aload_n hx hb dX8_hole_68 rfl (lv_at hl 1 rfl) ?_
            refine va_get (D := D) (ci := 8) (v := .ref (oM 10)) (C := RX8) (T := TX8) (N := 36) hx hb hts hinX8 hown hK hw.1 0 rfl rfl 28 (by decide) (hts (.fieldLink RX8 47 "CarnivalRoadModel" "head" "[I") (by decide +kernel)) (fun _ h9 => h9) rfl dX8_hole_69 ?_
            refine lv_iload hx hb dX8_hole_72 (lv_at hl 0 rfl) ?_
            have hi_93 : (0 : Int) ≤ (Mrow i_70) ∧ (Mrow i_70) < ((16 : Nat) : Int) := by
              first | assumption | omega | grind
            refine z_iald (n := 16) (f := Mhead) hx hb hK hw 10 rfl (by decide) hi_93 dX8_hole_74 ?_
            have hq_94 : -1 ≤ Mhead (Mrow i_70) ∧ Mhead (Mrow i_70) ≤ 60 := qMhead (Mrow i_70)
            refine z_isub hx hb dX8_hole_75 ?_
            refine z_iconst hx hb dX8_hole_76 ?_
            refine z_isub hx hb dX8_hole_77 ?_
            refine z_max hx hb (hml.trans hl.1.symm) hown (hts (.methodLink RX8 231 Lib.Math.max.name) (by decide +kernel)) (hts (.static Lib.Math.max.name) (by decide +kernel)) (hts (.initialized "java/lang/Math") (by decide +kernel)) (hts (.code Lib.Math.max.name Lib.Math.max.code 2 (some .int)) (by decide +kernel)) (Nat.le_of_ble_eq_true rfl) (Nat.le_of_ble_eq_true rfl) (Nat.zero_le _) (Nat.zero_le _) (by omega) dX8_hole_78 ?_
            refine lv_istore_n (lv' := [(1, .int (zI (max wd_68 ((r_90 - (Mhead (Mrow i_70))) - 1)))), (4, .int (zI (Mrow i_70))), (0, .ref (oM 0)), (2, .int (zI ah_69)), (3, .int (zI i_70))]) hx hb dX8_hole_81 rfl hl (by decide) rfl (fun ls hl => ?_)
            refine lv_iload hx hb dX8_hole_82 (lv_at hl 1 rfl) ?_
            refine lv_istore_n (lv' := [(2, .int (zI (Mrow i_70))), (1, .int (zI (max wd_68 ((r_90 - (Mhead (Mrow i_70))) - 1)))), (4, .int (zI (Mrow i_70))), (0, .ref (oM 0)), (3, .int (zI i_70))]) hx hb dX8_hole_84 rfl hl (by decide) rfl (fun ls hl => ?_)
            refine z_iinc (k := 4) (lv' := [(3, .int (zI (i_70 + 1))), (2, .int (zI (Mrow i_70))), (1, .int (zI (max wd_68 ((r_90 - (Mhead (Mrow i_70))) - 1)))), (4, .int (zI (Mrow i_70))), (0, .ref (oM 0))]) hx hb dX8_hole_85 hl rfl (by decide) rfl (fun ls hl => ?_)
            refine lv_goto (tgt := 28) hx hb dX8_hole_88 (by decide) ?_
            have hv_95 : 0 ≤ (i_70 + 1) ∧ (i_70 + 1) ≤ Mmany := by
              first | assumption | omega | grind
            have hv_96 : ((max wd_68 ((r_90 - (Mhead (Mrow i_70))) - 1)), (Mrow i_70)) = holeK le Mrow h o (i_70 + 1).toNat := by
              have hsi := hp2 (by omega) (Mrow i_70) (hp0 i_70 (by omega) (by omega)).1 (hp0 i_70 (by omega) (by omega)).2
              have hou := qMout (Mrow i_70)
              rw [Int.zero_add] at hsi
              by_cases hon : onP h o (Mrow i_70)
              · have q := hole_on (le := le) (heads := h) (out := o) (line := Mrow) (by omega) (by assumption) hon
                first | (exfalso; unfold onP at hon; omega) | (rw [if_pos (by omega)] at q; exact q) | (rw [if_neg (by omega)] at q; rw [← q]; congr 1; have hsa := hp2 (by omega) ah_69 (by omega) (by omega); have hga := hp1 ah_69 (by omega) (by omega); omega)
              · first | (exfalso; apply hon; unfold onP; omega) | exact hole_off (by omega) (by assumption) hon
            have hv_97 : 0 ≤ (max wd_68 ((r_90 - (Mhead (Mrow i_70))) - 1)) ∧ (max wd_68 ((r_90 - (Mhead (Mrow i_70))) - 1)) ≤ 1000 ∧ ((Mrow i_70) = -1 ∨ (0 ≤ (Mrow i_70) ∧ (Mrow i_70) < Mmany)) := by
              have hra := hp0 i_70 (by omega) (by omega)
              omega
            have hm_98 : (9 - (i_70 + 1)).toNat < (9 - i_70).toNat := by
              first | assumption | omega | grind
            exact ih_67 ((max wd_68 ((r_90 - (Mhead (Mrow i_70))) - 1)), (Mrow i_70), (i_70 + 1)) _ _ _ ⟨hv_95, hv_96, hv_97, hw, lv_sub hl [4, 2, 1, 0] rfl⟩ hm_98
        · skip
          refine z_if_ne (tgt := 56) hx hb dX8_hole_50 (by decide) (by omega) (fun hc_99 => absurd hc_99 (by omega)) (fun hc_99 => ?_)
          refine lv_goto (tgt := 85) hx hb dX8_hole_53 (by decide) ?_
          refine z_iinc (k := 4) (lv' := [(3, .int (zI (i_70 + 1))), (4, .int (zI (Mrow i_70))), (0, .ref (oM 0)), (1, .int (zI wd_68)), (2, .int (zI ah_69))]) hx hb dX8_hole_85 hl rfl (by decide) rfl (fun ls hl => ?_)
          refine lv_goto (tgt := 28) hx hb dX8_hole_88 (by decide) ?_
          have hv_100 : 0 ≤ (i_70 + 1) ∧ (i_70 + 1) ≤ Mmany := by
            first | assumption | omega | grind
          have hv_101 : (wd_68, ah_69) = holeK le Mrow h o (i_70 + 1).toNat := by
            have hsi := hp2 (by omega) (Mrow i_70) (hp0 i_70 (by omega) (by omega)).1 (hp0 i_70 (by omega) (by omega)).2
            have hou := qMout (Mrow i_70)
            rw [Int.zero_add] at hsi
            by_cases hon : onP h o (Mrow i_70)
            · have q := hole_on (le := le) (heads := h) (out := o) (line := Mrow) (by omega) (by assumption) hon
              first | (exfalso; unfold onP at hon; omega) | (rw [if_pos (by omega)] at q; exact q) | (rw [if_neg (by omega)] at q; rw [← q]; congr 1; have hsa := hp2 (by omega) ah_69 (by omega) (by omega); have hga := hp1 ah_69 (by omega) (by omega); omega)
            · first | (exfalso; apply hon; unfold onP; omega) | exact hole_off (by omega) (by assumption) hon
          have hv_102 : 0 ≤ wd_68 ∧ wd_68 ≤ 1000 ∧ (ah_69 = -1 ∨ (0 ≤ ah_69 ∧ ah_69 < Mmany)) := by
            have hra := hp0 i_70 (by omega) (by omega)
            omega
          have hm_103 : (9 - (i_70 + 1)).toNat < (9 - i_70).toNat := by
            first | assumption | omega | grind
          exact ih_67 (wd_68, ah_69, (i_70 + 1)) _ _ _ ⟨hv_100, hv_101, hv_102, hw, lv_sub hl [2, 3, 4, 0] rfl⟩ hm_103
set_option maxRecDepth 100000 in
set_option maxHeartbeats 4000000 in
theorem c_X8_rowLong (l : Launch) (D : va_G) (cI cB cZ : ClassId) (oM : Nat → Nat) (sz : Nat) (Mthrown : Int) (Mmany : Int) (Mguest : Int → Int) (Mrow : Int → Int) (Mbars : Int) (Mbar : Int → Int) (Mfresh : Int → Int) (Mtape : Int → Int) (Mtaped : Int) (Mpos : Int) (Mtoken : Int) (MtokenAt : Int) (Mvalue : Int) (Mwrong : Int) (MwrongAt : Int) (MfaultKind : Int) (MfaultPlace : Int) (Mthing : Int) (Morder : Int → Int) (Mone : Int) (Mtwo : Int) (Mbest : Int → Int) (Mcells : Int) (Mgap : Int) (Mwire : Int → Int) (Mstand : Int → Int) (Mruns : Int) (Mminute : Int) (Mhead : Int → Int) (Mplays : Int → Int) (Mrests : Int → Int) (Mwent : Int → Int) (Mout : Int → Int) (Mcame : Int → Int) (Mgone : Int → Int) (MlastOut : Int) (ki : Int → Int) (le : Int → Int) (lo : Int → Int) (ta : Int → Int) (sh : Int → Int) (h : Int → Int) (b : Int → Int) (o : Int → Int) (qMthrown : 0 ≤ Mthrown ∧ Mthrown ≤ 2) (qMmany : 0 ≤ Mmany ∧ Mmany ≤ 8) (qMguest : RA Mguest (0) 9) (qMrow : RA Mrow (0) 7) (qMbars : 0 ≤ Mbars ∧ Mbars ≤ 10) (qMbar : RA Mbar (0) 104) (qMfresh : RA Mfresh (0) 104) (qMtape : RA Mtape (0) 255) (qMtaped : 0 ≤ Mtaped ∧ Mtaped ≤ 400) (qMpos : 0 ≤ Mpos ∧ Mpos ≤ 400) (qMtoken : 0 ≤ Mtoken ∧ Mtoken ≤ 15) (qMtokenAt : 0 ≤ MtokenAt ∧ MtokenAt ≤ 400) (qMvalue : 0 ≤ Mvalue ∧ Mvalue ≤ 99) (qMwrong : 0 ≤ Mwrong ∧ Mwrong ≤ 3) (qMwrongAt : 0 ≤ MwrongAt ∧ MwrongAt ≤ 400) (qMfaultKind : 0 ≤ MfaultKind ∧ MfaultKind ≤ 3) (qMfaultPlace : -1 ≤ MfaultPlace ∧ MfaultPlace ≤ 400) (qMthing : 0 ≤ Mthing ∧ Mthing ≤ 104) (qMorder : RA Morder (0) 7) (qMone : 0 ≤ Mone ∧ Mone ≤ 8) (qMtwo : 0 ≤ Mtwo ∧ Mtwo ≤ 8) (qMbest : RA Mbest (0) 7) (qMcells : 1 ≤ Mcells ∧ Mcells ≤ 50) (qMgap : 0 ≤ Mgap ∧ Mgap ≤ 3) (qMwire : RA Mwire (0) 9) (qMstand : RA Mstand (0) 9) (qMruns : 0 ≤ Mruns ∧ Mruns ≤ 1) (qMminute : 0 ≤ Mminute ∧ Mminute ≤ 1000000) (qMhead : RA Mhead (-1) 60) (qMplays : RA Mplays (0) 18) (qMrests : RA Mrests (0) 3) (qMwent : RA Mwent (0) 61) (qMout : RA Mout (0) 1) (qMcame : RA Mcame (-1) 1000000) (qMgone : RA Mgone (-1) 1000000) (qMlastOut : 0 ≤ MlastOut ∧ MlastOut ≤ 1000000) (hp0 : ∀ i, 0 ≤ i → i < Mmany → 0 ≤ Mrow i ∧ Mrow i < Mmany) (hp1 : gRel Mmany ki le lo ta sh Mguest) (hp2 : Mruns = 1 → simR Mmany 0 Mhead Mplays Mrests Mwent Mout h b o) : Met l yX8_rowLong wsX8_rowLong ({ frames := 2, cells := 0, slots := 0, locals := 44 }) (va_Pc [.ref (oM 0)] (zPre D cI cB cZ sz (kM cI cB cZ oM Mthrown Mmany Mguest Mrow Mbars Mbar Mfresh Mtape Mtaped Mpos Mtoken MtokenAt Mvalue Mwrong MwrongAt MfaultKind MfaultPlace Mthing Morder Mone Mtwo Mbest Mcells Mgap Mwire Mstand Mruns Mminute Mhead Mplays Mrests Mwent Mout Mcame Mgone MlastOut))) (va_Qi (fun (r9 : Int32) (u9 : Int × Int) => r9 = zI u9.1 ∧ (((0 : Int) ≤ u9.2 ∧ u9.2 ≤ 2) ∧ ((Mruns = 0 ∧ u9.2 = 1) ∨ (Mruns = 1 ∧ u9.2 = 0 ∧ u9.1 = rowLongF le Mcells h (endsK Mrow h o Mmany.toNat))))) (fun u9 t9 => zAt D cI cB cZ (va_A (kM cI cB cZ oM Mthrown Mmany Mguest Mrow Mbars Mbar Mfresh Mtape Mtaped Mpos Mtoken MtokenAt Mvalue Mwrong MwrongAt MfaultKind MfaultPlace Mthing Morder Mone Mtwo Mbest Mcells Mgap Mwire Mstand Mruns Mminute Mhead Mplays Mrests Mwent Mout Mcame Mgone MlastOut) sz) (kM cI cB cZ oM (u9.2) Mmany Mguest Mrow Mbars Mbar Mfresh Mtape Mtaped Mpos Mtoken MtokenAt Mvalue Mwrong MwrongAt MfaultKind MfaultPlace Mthing Morder Mone Mtwo Mbest Mcells Mgap Mwire Mstand Mruns Mminute Mhead Mplays Mrests Mwent Mout Mcame Mgone MlastOut) t9) (va_A (kM cI cB cZ oM Mthrown Mmany Mguest Mrow Mbars Mbar Mfresh Mtape Mtaped Mpos Mtoken MtokenAt Mvalue Mwrong MwrongAt MfaultKind MfaultPlace Mthing Morder Mone Mtwo Mbest Mcells Mgap Mwire Mstand Mruns Mminute Mhead Mplays Mrests Mwent Mout Mcame Mgone MlastOut) sz)) 0 0 (va_A (kM cI cB cZ oM Mthrown Mmany Mguest Mrow Mbars Mbar Mfresh Mtape Mtaped Mpos Mtoken MtokenAt Mvalue Mwrong MwrongAt MfaultKind MfaultPlace Mthing Morder Mone Mtwo Mbest Mcells Mgap Mwire Mstand Mruns Mminute Mhead Mplays Mrests Mwent Mout Mcame Mgone MlastOut) sz) := by
  refine Met.ofW (cc := cX8_rowLong) (maxL := 5) (ret := (some .int)) (by decide) rfl ?_
  intro pp ee s mm aa bw mt cd s₁ BL hml hv
  obtain ⟨rfl, hsz, hP, hK, hD0⟩ := hv
  have hx := BL.exec
  have hb := BL.bytes
  have hr := BL.returns
  have hts := atoms_spec (ws := wsX8_rowLong) BL.pre
  have hown : s.vm.findClass RX8 = some mm.cls := findClass_of_methodNamed BL.named
  have hlocks := BL.notSynchronized
  subst hsz
  generalize hAe : va_A (kM cI cB cZ oM Mthrown Mmany Mguest Mrow Mbars Mbar Mfresh Mtape Mtaped Mpos Mtoken MtokenAt Mvalue Mwrong MwrongAt MfaultKind MfaultPlace Mthing Morder Mone Mtwo Mbest Mcells Mgap Mwire Mstand Mruns Mminute Mhead Mplays Mrests Mwent Mout Mcame Mgone MlastOut) s.heap.size = A
  have hA : ∀ q : Nat, s.heap.size ≤ q → A q := fun q h => by rw [← hAe]; exact Or.inr h
  have hw : HW D A s.heap (kM cI cB cZ oM Mthrown Mmany Mguest Mrow Mbars Mbar Mfresh Mtape Mtaped Mpos Mtoken MtokenAt Mvalue Mwrong MwrongAt MfaultKind MfaultPlace Mthing Morder Mone Mtwo Mbest Mcells Mgap Mwire Mstand Mruns Mminute Mhead Mplays Mrests Mwent Mout Mcame Mgone MlastOut) s.heap [] := z_start hAe hP hD0
  clear hP hD0
  have hl := lv_entry ([.ref (oM 0)]) (n := 5) (Nat.le_of_ble_eq_true rfl)
  rw [lg_entry_eq]
  generalize (lg_sl ([.ref (oM 0)]) ++ List.replicate (5 - (lg_sl ([.ref (oM 0)])).length) Slot.unset).toArray = ls at hl ⊢
  have hl : lv_has ls 5 [(0, .ref (oM 0))] := hl
  have hinX8 : ∀ w ∈ wsX80, w ∈ wsX8_rowLong := by decide +kernel
  refine lv_aload_n hx hb dX8_rowLong_0 rfl (lv_at hl 0 rfl) ?_
  refine lv_aload_n hx hb dX8_rowLong_1 rfl (lv_at hl 0 rfl) ?_
  refine va_get (D := D) (ci := 8) (v := .int (zI Mruns)) (C := RX8) (T := TX8) (N := 36) hx hb hts hinX8 hown hK hw.1 0 rfl rfl 26 (by decide) (hts (.fieldLink RX8 79 "CarnivalRoadModel" "runs" "Z") (by decide +kernel)) (fun _ h9 => h9) rfl dX8_rowLong_2 ?_
  refine z_if_ne (tgt := 12) hx hb dX8_rowLong_5 (by decide) (by omega) (fun hc_1 => ?_) (fun hc_1 => ?_)
  · skip
    refine z_iconst hx hb dX8_rowLong_12 ?_
    refine z_iconst hx hb dX8_rowLong_13 ?_
    have hF9 := z_free (wc := kM cI cB cZ oM Mthrown Mmany Mguest Mrow Mbars Mbar Mfresh Mtape Mtaped Mpos Mtoken MtokenAt Mvalue Mwrong MwrongAt MfaultKind MfaultPlace Mthing Morder Mone Mtwo Mbest Mcells Mgap Mwire Mstand Mruns Mminute Mhead Mplays Mrests Mwent Mout Mcame Mgone MlastOut) hw hA [0, 1, 2, 3, 4, 5, 6, 7, 8, 9, 10, 11, 12, 13, 14, 15, 16] rfl
    refine va_calli (va_runV (As := [.int (zI 0), .int (zI 0)]) (rest := []) ⟨hx, hb, hml, hown, hts⟩ (c_X8_fails l D cI cB cZ oM s.heap.size Mthrown Mmany Mguest Mrow Mbars Mbar Mfresh Mtape Mtaped Mpos Mtoken MtokenAt Mvalue Mwrong MwrongAt MfaultKind MfaultPlace Mthing Morder Mone Mtwo Mbest Mcells Mgap Mwire Mstand Mruns Mminute Mhead Mplays Mrests Mwent Mout Mcame Mgone MlastOut 0 0 (by omega) (by omega) qMguest qMrow (by omega) qMbar qMfresh qMtape (by omega) (by omega) (by omega) (by omega) (by omega) (by omega) (by omega) (by omega) (by omega) (by omega) qMorder (by omega) (by omega) qMbest (by omega) (by omega) qMwire qMstand (by omega) (by omega) qMhead qMplays qMrests qMwent qMout qMcame qMgone (by omega) (by omega) (by omega)) (cwV 2 hts gX8_rowLong_X8_fails rfl rfl rfl (by decide +kernel) ⟨Nat.le_of_ble_eq_true rfl, Nat.le_of_ble_eq_true rfl⟩) ⟨zPre_blind, va_recv hK hw.1 (ci := 8) (q0 := 0) rfl rfl, z_pre hK hw [0, 1, 2, 3, 4, 5, 6, 7, 8, 9, 10, 11, 12, 13, 14, 15, 16] (by decide) rfl⟩ rfl rfl hl.1 rfl (lv_room (Nat.le_of_ble_eq_true rfl)) dX8_rowLong_14 ⟨Nat.zero_le _, Nat.zero_le _⟩) hw.2.2 (fun q _ h => hF9 q h) hF9 (fun r9 u9 t9 H_2 locs9 ht9 hvm9 hq9 hB9 hz9 hk9 hS9 => ?_)
    obtain ⟨r_3, Mthrown_4⟩ := u9
    try dsimp only at hq9 hB9
    obtain ⟨rfl, hq9⟩ := hq9
    obtain ⟨hq_5, hq_6, hq_7⟩ := hq9
    have hw : HW D A s.heap (kM cI cB cZ oM Mthrown_4 Mmany Mguest Mrow Mbars Mbar Mfresh Mtape Mtaped Mpos Mtoken MtokenAt Mvalue Mwrong MwrongAt MfaultKind MfaultPlace Mthing Morder Mone Mtwo Mbest Mcells Mgap Mwire Mstand Mruns Mminute Mhead Mplays Mrests Mwent Mout Mcame Mgone MlastOut) H_2 locs9 := z_after (wc := kM cI cB cZ oM Mthrown Mmany Mguest Mrow Mbars Mbar Mfresh Mtape Mtaped Mpos Mtoken MtokenAt Mvalue Mwrong MwrongAt MfaultKind MfaultPlace Mthing Morder Mone Mtwo Mbest Mcells Mgap Mwire Mstand Mruns Mminute Mhead Mplays Mrests Mwent Mout Mcame Mgone MlastOut) hw [0, 1, 2, 3, 4, 5, 6, 7, 8, 9, 10, 11, 12, 13, 14, 15, 16] [] rfl rfl (by decide) (by decide) hF9 hk9 ht9 hB9 hS9 [0, 1, 2, 3, 4, 5, 6, 7, 8, 9, 10, 11, 12, 13, 14, 15, 16] (by decide) rfl
    clear hF9 ht9 hvm9 hB9 hz9 hk9 hS9
    rcases hq_6 with ⟨hc_8, rfl⟩ | ⟨hc_8, rfl⟩
    · skip
      refine z_if_eq (tgt := 22) hx hb dX8_rowLong_17 (by decide) (by omega) (fun hc_9 => absurd hc_9 (by omega)) (fun hc_9 => ?_)
      refine z_iconst hx hb dX8_rowLong_20 ?_
      have hv_10 : (0 : Int) ≤ Mthrown_4 ∧ Mthrown_4 ≤ 2 := by
        first | assumption | omega | grind
      have hv_11 : (Mruns = 0 ∧ Mthrown_4 = 1) ∨ (Mruns = 1 ∧ Mthrown_4 = 0 ∧ (0 : Int) = rowLongF le Mcells h (endsK Mrow h o Mmany.toNat)) := by
        exact Or.inl ⟨by omega, by omega⟩
      exact W.iret (v := zI 0) hx hb hr (fun t9 ht hW => ⟨⟨zI 0, (0, Mthrown_4), rfl, ⟨rfl, ⟨hv_10, hv_11⟩⟩, by subst hAe; exact z_end hK hw ht hW⟩, by subst hAe; exact hw.2.2.F ht⟩) (by subst hAe; exact hw.2.2.2.2) dX8_rowLong_21
    · skip
      refine z_if_eq (tgt := 22) hx hb dX8_rowLong_17 (by decide) (by omega) (fun hc_12 => ?_) (fun hc_12 => absurd hc_12 (by omega))
      refine z_iconst hx hb dX8_rowLong_22 ?_
      refine lv_istore_n (lv' := [(1, .int (zI (-1))), (0, .ref (oM 0))]) hx hb dX8_rowLong_23 rfl hl (by decide) rfl (fun ls hl => ?_)
      refine z_iconst hx hb dX8_rowLong_24 ?_
      refine lv_istore_n (lv' := [(2, .int (zI (-1))), (1, .int (zI (-1))), (0, .ref (oM 0))]) hx hb dX8_rowLong_25 rfl hl (by decide) rfl (fun ls hl => ?_)
      refine z_iconst hx hb dX8_rowLong_26 ?_
      refine lv_istore_n (lv' := [(3, .int (zI 0)), (2, .int (zI (-1))), (1, .int (zI (-1))), (0, .ref (oM 0))]) hx hb dX8_rowLong_27 rfl hl (by decide) rfl (fun ls hl => ?_)
      have hv_13 : 0 ≤ (0 : Int) ∧ (0 : Int) ≤ Mmany := by
        first | assumption | omega | grind
      have hv_14 : (((-1) : Int), ((-1) : Int)) = endsK Mrow h o (0 : Int).toNat := by
        rfl
      have hv_15 : (((-1) : Int) = -1 ∧ ((-1) : Int) = -1) ∨ (0 ≤ ((-1) : Int) ∧ ((-1) : Int) < Mmany ∧ 0 ≤ ((-1) : Int) ∧ ((-1) : Int) < Mmany) := by
        first | assumption | omega | grind
      refine z_loop (σ := Int × Int × Int) (μ := fun x9 => (9 - (x9.2.2)).toNat) (I := fun x9 H locs ls => (0 ≤ (x9.2.2) ∧ (x9.2.2) ≤ Mmany) ∧ (((x9.1), (x9.2.1)) = endsK Mrow h o (x9.2.2).toNat) ∧ (((x9.1) = -1 ∧ (x9.2.1) = -1) ∨ (0 ≤ (x9.1) ∧ (x9.1) < Mmany ∧ 0 ≤ (x9.2.1) ∧ (x9.2.1) < Mmany)) ∧ HW D A s.heap (kM cI cB cZ oM Mthrown_4 Mmany Mguest Mrow Mbars Mbar Mfresh Mtape Mtaped Mpos Mtoken MtokenAt Mvalue Mwrong MwrongAt MfaultKind MfaultPlace Mthing Morder Mone Mtwo Mbest Mcells Mgap Mwire Mstand Mruns Mminute Mhead Mplays Mrests Mwent Mout Mcame Mgone MlastOut) H locs ∧ lv_has ls 5 [(0, .ref (oM 0)), (1, .int (zI (x9.1))), (2, .int (zI (x9.2.1))), (3, .int (zI (x9.2.2)))]) ((-1), (-1), 0) ⟨hv_13, hv_14, hv_15, hw, lv_sub hl [3, 2, 1, 0] rfl⟩ ?_
      clear hw hl
      intro x9 H locs ls hI ih_16
      obtain ⟨fi_17, la_18, i_19⟩ := x9
      try dsimp only at hI
      obtain ⟨hI_20, hI_21, hI_22, hw, hl⟩ := hI
      have hend : Mmany ≤ i_19 → endsK Mrow h o Mmany.toNat = (fi_17, la_18) := fun z => by rw [show Mmany.toNat = i_19.toNat by omega]; exact (by assumption : (fi_17, la_18) = endsK Mrow h o i_19.toNat).symm
      refine lv_iload_n hx hb dX8_rowLong_28 rfl (lv_at hl 3 rfl) ?_
      refine lv_aload_n hx hb dX8_rowLong_29 rfl (lv_at hl 0 rfl) ?_
      refine va_get (D := D) (ci := 8) (v := .int (zI Mmany)) (C := RX8) (T := TX8) (N := 36) hx hb hts hinX8 hown hK hw.1 0 rfl rfl 1 (by decide) (hts (.fieldLink RX8 72 "CarnivalRoadModel" "many" "I") (by decide +kernel)) (fun _ h9 => h9) rfl dX8_rowLong_30 ?_
      refine z_icmp_ge (tgt := 81) hx hb dX8_rowLong_33 (by decide) (by omega) (fun hc_23 => ?_) (fun hc_23 => ?_)
      · skip
        refine lv_iload_n hx hb dX8_rowLong_81 rfl (lv_at hl 1 rfl) ?_
        refine z_iconst hx hb dX8_rowLong_82 ?_
        refine z_icmp_ne (tgt := 88) hx hb dX8_rowLong_83 (by decide) (by omega) (fun hc_24 => ?_) (fun hc_24 => ?_)
        · skip
          refine z_cut (σ := Int × Int) 117 (I := fun x9 H locs ls => ((x9.1) = min (Mhead x9.2) (Mcells - 1)) ∧ (endsK Mrow h o Mmany.toNat = (x9.2, la_18)) ∧ (0 ≤ x9.2 ∧ x9.2 < Mmany ∧ 0 ≤ la_18 ∧ la_18 < Mmany) ∧ HW D A s.heap (kM cI cB cZ oM Mthrown_4 Mmany Mguest Mrow Mbars Mbar Mfresh Mtape Mtaped Mpos Mtoken MtokenAt Mvalue Mwrong MwrongAt MfaultKind MfaultPlace Mthing Morder Mone Mtwo Mbest Mcells Mgap Mwire Mstand Mruns Mminute Mhead Mplays Mrests Mwent Mout Mcame Mgone MlastOut) H locs ∧ lv_has ls 5 [(0, .ref (oM 0)), (2, .int (zI la_18)), (3, .int (zI (x9.1)))]) (st := fun x9 => []) ?_ (fun hj_25 => ?_)
          · clear hw hl
            intro x9 H locs ls hI
            obtain ⟨i_26, gf_27⟩ := x9
            try dsimp only at hI ⊢
            obtain ⟨hI_28, hI_29, hI_30, hw, hl⟩ := hI
            refine lv_aload_n hx hb dX8_rowLong_117 rfl (lv_at hl 0 rfl) ?_
            refine z_iconst hx hb dX8_rowLong_118 ?_
            refine lv_iload_n hx hb dX8_rowLong_119 rfl (lv_at hl 1 rfl) ?_
            have hF9 := z_free (wc := kM cI cB cZ oM Mthrown_4 Mmany Mguest Mrow Mbars Mbar Mfresh Mtape Mtaped Mpos Mtoken MtokenAt Mvalue Mwrong MwrongAt MfaultKind MfaultPlace Mthing Morder Mone Mtwo Mbest Mcells Mgap Mwire Mstand Mruns Mminute Mhead Mplays Mrests Mwent Mout Mcame Mgone MlastOut) hw hA [0, 1, 2, 3, 4, 5, 6, 7, 8, 9, 10, 11, 12, 13, 14, 15, 16] rfl
            refine va_calli (va_runV (As := [.int (zI 0), .int (zI la_18)]) (rest := []) ⟨hx, hb, hml, hown, hts⟩ (c_X8_tail l D cI cB cZ oM H.size Mthrown_4 Mmany Mguest Mrow Mbars Mbar Mfresh Mtape Mtaped Mpos Mtoken MtokenAt Mvalue Mwrong MwrongAt MfaultKind MfaultPlace Mthing Morder Mone Mtwo Mbest Mcells Mgap Mwire Mstand Mruns Mminute Mhead Mplays Mrests Mwent Mout Mcame Mgone MlastOut 0 la_18 (by omega) (by omega) qMguest qMrow (by omega) qMbar qMfresh qMtape (by omega) (by omega) (by omega) (by omega) (by omega) (by omega) (by omega) (by omega) (by omega) (by omega) qMorder (by omega) (by omega) qMbest (by omega) (by omega) qMwire qMstand (by omega) (by omega) qMhead qMplays qMrests qMwent qMout qMcame qMgone (by omega) (by omega) (by omega)) (cwV 2 hts gX8_rowLong_X8_tail rfl rfl rfl (by decide +kernel) ⟨Nat.le_of_ble_eq_true rfl, Nat.le_of_ble_eq_true rfl⟩) ⟨zPre_blind, va_recv hK hw.1 (ci := 8) (q0 := 0) rfl rfl, z_pre hK hw [0, 1, 2, 3, 4, 5, 6, 7, 8, 9, 10, 11, 12, 13, 14, 15, 16] (by decide) rfl⟩ rfl rfl hl.1 rfl (lv_room (Nat.le_of_ble_eq_true rfl)) dX8_rowLong_120 ⟨Nat.zero_le _, Nat.zero_le _⟩) hw.2.2 (fun q _ h => hF9 q h) hF9 (fun r9 u9 t9 H_31 locs9 ht9 hvm9 hq9 hB9 hz9 hk9 hS9 => ?_)
            obtain ⟨r_32, rfl⟩ : ∃ z, z = u9 := ⟨_, rfl⟩
            try dsimp only at hq9 hB9
            obtain ⟨rfl, hq9⟩ := hq9
            obtain ⟨hq_33, hq_34⟩ := hq9
            have hw : HW D A s.heap (kM cI cB cZ oM Mthrown_4 Mmany Mguest Mrow Mbars Mbar Mfresh Mtape Mtaped Mpos Mtoken MtokenAt Mvalue Mwrong MwrongAt MfaultKind MfaultPlace Mthing Morder Mone Mtwo Mbest Mcells Mgap Mwire Mstand Mruns Mminute Mhead Mplays Mrests Mwent Mout Mcame Mgone MlastOut) H_31 locs9 := z_after (wc := kM cI cB cZ oM Mthrown_4 Mmany Mguest Mrow Mbars Mbar Mfresh Mtape Mtaped Mpos Mtoken MtokenAt Mvalue Mwrong MwrongAt MfaultKind MfaultPlace Mthing Morder Mone Mtwo Mbest Mcells Mgap Mwire Mstand Mruns Mminute Mhead Mplays Mrests Mwent Mout Mcame Mgone MlastOut) hw [0, 1, 2, 3, 4, 5, 6, 7, 8, 9, 10, 11, 12, 13, 14, 15, 16] [] rfl rfl (by decide) (by decide) hF9 hk9 ht9 hB9 hS9 [0, 1, 2, 3, 4, 5, 6, 7, 8, 9, 10, 11, 12, 13, 14, 15, 16] (by decide) rfl
            clear hF9 ht9 hvm9 hB9 hz9 hk9 hS9
            refine z_if_le (tgt := 135) hx hb dX8_rowLong_123 (by decide) (by omega) (fun hc_35 => ?_) (fun hc_35 => ?_)
            · skip
              refine z_iconst hx hb dX8_rowLong_135 ?_
              refine lv_istore (lv' := [(4, .int (zI 0)), (0, .ref (oM 0)), (2, .int (zI la_18)), (3, .int (zI i_26))]) hx hb dX8_rowLong_136 hl (by decide) rfl (fun ls hl => ?_)
              refine lv_iload_n hx hb dX8_rowLong_138 rfl (lv_at hl 3 rfl) ?_
              refine lv_iload hx hb dX8_rowLong_139 (lv_at hl 0 rfl) ?_
              refine z_isub hx hb dX8_rowLong_141 ?_
              refine z_iconst hx hb dX8_rowLong_142 ?_
              refine z_iadd hx hb dX8_rowLong_143 ?_
              have hv_36 : (0 : Int) ≤ Mthrown_4 ∧ Mthrown_4 ≤ 2 := by
                first | assumption | omega | grind
              have hv_37 : (Mruns = 0 ∧ Mthrown_4 = 1) ∨ (Mruns = 1 ∧ Mthrown_4 = 0 ∧ ((i_26 - 0) + 1) = rowLongF le Mcells h (endsK Mrow h o Mmany.toNat)) := by
                refine Or.inr ⟨by omega, by omega, ?_⟩
                rw [(by assumption : endsK Mrow h o Mmany.toNat = (gf_27, la_18))]
                unfold rowLongF
                dsimp only
                rw [if_neg (by omega)]
                have s1 := hp2 (by omega) gf_27 (by omega) (by omega)
                have s2 := hp2 (by omega) la_18 (by omega) (by omega)
                have g2 := hp1 la_18 (by omega) (by omega)
                have z1 : (0 : Int) + gf_27 = gf_27 := Int.zero_add _
                rw [z1] at s1
                omega
              exact W.iret (v := zI ((i_26 - 0) + 1)) hx hb hr (fun t9 ht hW => ⟨⟨zI ((i_26 - 0) + 1), (((i_26 - 0) + 1), Mthrown_4), rfl, ⟨rfl, ⟨hv_36, hv_37⟩⟩, by subst hAe; exact z_end hK hw ht hW⟩, by subst hAe; exact hw.2.2.F ht⟩) (by subst hAe; exact hw.2.2.2.2) dX8_rowLong_144
            · skip
              refine lv_aload_n hx hb dX8_rowLong_126 rfl (lv_at hl 0 rfl) ?_
              refine z_iconst hx hb dX8_rowLong_127 ?_
              refine lv_iload_n hx hb dX8_rowLong_128 rfl (lv_at hl 1 rfl) ?_
              have hF9 := z_free (wc := kM cI cB cZ oM Mthrown_4 Mmany Mguest Mrow Mbars Mbar Mfresh Mtape Mtaped Mpos Mtoken MtokenAt Mvalue Mwrong MwrongAt MfaultKind MfaultPlace Mthing Morder Mone Mtwo Mbest Mcells Mgap Mwire Mstand Mruns Mminute Mhead Mplays Mrests Mwent Mout Mcame Mgone MlastOut) hw hA [0, 1, 2, 3, 4, 5, 6, 7, 8, 9, 10, 11, 12, 13, 14, 15, 16] rfl
              refine va_calli (va_runV (As := [.int (zI 0), .int (zI la_18)]) (rest := []) ⟨hx, hb, hml, hown, hts⟩ (c_X8_tail l D cI cB cZ oM H_31.size Mthrown_4 Mmany Mguest Mrow Mbars Mbar Mfresh Mtape Mtaped Mpos Mtoken MtokenAt Mvalue Mwrong MwrongAt MfaultKind MfaultPlace Mthing Morder Mone Mtwo Mbest Mcells Mgap Mwire Mstand Mruns Mminute Mhead Mplays Mrests Mwent Mout Mcame Mgone MlastOut 0 la_18 (by omega) (by omega) qMguest qMrow (by omega) qMbar qMfresh qMtape (by omega) (by omega) (by omega) (by omega) (by omega) (by omega) (by omega) (by omega) (by omega) (by omega) qMorder (by omega) (by omega) qMbest (by omega) (by omega) qMwire qMstand (by omega) (by omega) qMhead qMplays qMrests qMwent qMout qMcame qMgone (by omega) (by omega) (by omega)) (cwV 2 hts gX8_rowLong_X8_tail rfl rfl rfl (by decide +kernel) ⟨Nat.le_of_ble_eq_true rfl, Nat.le_of_ble_eq_true rfl⟩) ⟨zPre_blind, va_recv hK hw.1 (ci := 8) (q0 := 0) rfl rfl, z_pre hK hw [0, 1, 2, 3, 4, 5, 6, 7, 8, 9, 10, 11, 12, 13, 14, 15, 16] (by decide) rfl⟩ rfl rfl hl.1 rfl (lv_room (Nat.le_of_ble_eq_true rfl)) dX8_rowLong_129 ⟨Nat.zero_le _, Nat.zero_le _⟩) hw.2.2 (fun q _ h => hF9 q h) hF9 (fun r9 u9 t9 H_38 locs9 ht9 hvm9 hq9 hB9 hz9 hk9 hS9 => ?_)
              obtain ⟨r_39, rfl⟩ : ∃ z, z = u9 := ⟨_, rfl⟩
              try dsimp only at hq9 hB9
              obtain ⟨rfl, hq9⟩ := hq9
              obtain ⟨hq_40, hq_41⟩ := hq9
              have hw : HW D A s.heap (kM cI cB cZ oM Mthrown_4 Mmany Mguest Mrow Mbars Mbar Mfresh Mtape Mtaped Mpos Mtoken MtokenAt Mvalue Mwrong MwrongAt MfaultKind MfaultPlace Mthing Morder Mone Mtwo Mbest Mcells Mgap Mwire Mstand Mruns Mminute Mhead Mplays Mrests Mwent Mout Mcame Mgone MlastOut) H_38 locs9 := z_after (wc := kM cI cB cZ oM Mthrown_4 Mmany Mguest Mrow Mbars Mbar Mfresh Mtape Mtaped Mpos Mtoken MtokenAt Mvalue Mwrong MwrongAt MfaultKind MfaultPlace Mthing Morder Mone Mtwo Mbest Mcells Mgap Mwire Mstand Mruns Mminute Mhead Mplays Mrests Mwent Mout Mcame Mgone MlastOut) hw [0, 1, 2, 3, 4, 5, 6, 7, 8, 9, 10, 11, 12, 13, 14, 15, 16] [] rfl rfl (by decide) (by decide) hF9 hk9 ht9 hB9 hS9 [0, 1, 2, 3, 4, 5, 6, 7, 8, 9, 10, 11, 12, 13, 14, 15, 16] (by decide) rfl
              clear hF9 ht9 hvm9 hB9 hz9 hk9 hS9
              refine lv_goto (tgt := 136) hx hb dX8_rowLong_132 (by decide) ?_
              refine lv_istore (lv' := [(4, .int (zI r_39)), (0, .ref (oM 0)), (2, .int (zI la_18)), (3, .int (zI i_26))]) hx hb dX8_rowLong_136 hl (by decide) rfl (fun ls hl => ?_)
              refine lv_iload_n hx hb dX8_rowLong_138 rfl (lv_at hl 3 rfl) ?_
              refine lv_iload hx hb dX8_rowLong_139 (lv_at hl 0 rfl) ?_
              refine z_isub hx hb dX8_rowLong_141 ?_
              refine z_iconst hx hb dX8_rowLong_142 ?_
              refine z_iadd hx hb dX8_rowLong_143 ?_
              have hv_42 : (0 : Int) ≤ Mthrown_4 ∧ Mthrown_4 ≤ 2 := by
                first | assumption | omega | grind
              have hv_43 : (Mruns = 0 ∧ Mthrown_4 = 1) ∨ (Mruns = 1 ∧ Mthrown_4 = 0 ∧ ((i_26 - r_39) + 1) = rowLongF le Mcells h (endsK Mrow h o Mmany.toNat)) := by
                refine Or.inr ⟨by omega, by omega, ?_⟩
                rw [(by assumption : endsK Mrow h o Mmany.toNat = (gf_27, la_18))]
                unfold rowLongF
                dsimp only
                rw [if_neg (by omega)]
                have s1 := hp2 (by omega) gf_27 (by omega) (by omega)
                have s2 := hp2 (by omega) la_18 (by omega) (by omega)
                have g2 := hp1 la_18 (by omega) (by omega)
                have z1 : (0 : Int) + gf_27 = gf_27 := Int.zero_add _
                rw [z1] at s1
                omega
              exact W.iret (v := zI ((i_26 - r_39) + 1)) hx hb hr (fun t9 ht hW => ⟨⟨zI ((i_26 - r_39) + 1), (((i_26 - r_39) + 1), Mthrown_4), rfl, ⟨rfl, ⟨hv_42, hv_43⟩⟩, by subst hAe; exact z_end hK hw ht hW⟩, by subst hAe; exact hw.2.2.F ht⟩) (by subst hAe; exact hw.2.2.2.2) dX8_rowLong_144
          refine lv_aload_n hx hb dX8_rowLong_88 rfl (lv_at hl 0 rfl) ?_
          refine va_get (D := D) (ci := 8) (v := .ref (oM 10)) (C := RX8) (T := TX8) (N := 36) hx hb hts hinX8 hown hK hw.1 0 rfl rfl 28 (by decide) (hts (.fieldLink RX8 47 "CarnivalRoadModel" "head" "[I") (by decide +kernel)) (fun _ h9 => h9) rfl dX8_rowLong_89 ?_
          refine lv_iload_n hx hb dX8_rowLong_92 rfl (lv_at hl 1 rfl) ?_
          have hi_44 : (0 : Int) ≤ fi_17 ∧ fi_17 < ((16 : Nat) : Int) := by
            first | assumption | omega | grind
          refine z_iald (n := 16) (f := Mhead) hx hb hK hw 10 rfl (by decide) hi_44 dX8_rowLong_93 ?_
          have hq_45 : -1 ≤ Mhead fi_17 ∧ Mhead fi_17 ≤ 60 := qMhead fi_17
          refine lv_aload_n hx hb dX8_rowLong_94 rfl (lv_at hl 0 rfl) ?_
          refine va_get (D := D) (ci := 8) (v := .int (zI Mcells)) (C := RX8) (T := TX8) (N := 36) hx hb hts hinX8 hown hK hw.1 0 rfl rfl 22 (by decide) (hts (.fieldLink RX8 35 "CarnivalRoadModel" "cells" "I") (by decide +kernel)) (fun _ h9 => h9) rfl dX8_rowLong_95 ?_
          refine z_icmp_ge (tgt := 110) hx hb dX8_rowLong_98 (by decide) (by omega) (fun hc_46 => ?_) (fun hc_46 => ?_)
          · skip
            refine lv_aload_n hx hb dX8_rowLong_110 rfl (lv_at hl 0 rfl) ?_
            refine va_get (D := D) (ci := 8) (v := .int (zI Mcells)) (C := RX8) (T := TX8) (N := 36) hx hb hts hinX8 hown hK hw.1 0 rfl rfl 22 (by decide) (hts (.fieldLink RX8 35 "CarnivalRoadModel" "cells" "I") (by decide +kernel)) (fun _ h9 => h9) rfl dX8_rowLong_111 ?_
            refine z_iconst hx hb dX8_rowLong_114 ?_
            refine z_isub hx hb dX8_rowLong_115 ?_
            refine lv_istore_n (lv' := [(3, .int (zI (Mcells - 1))), (0, .ref (oM 0)), (1, .int (zI fi_17)), (2, .int (zI la_18))]) hx hb dX8_rowLong_116 rfl hl (by decide) rfl (fun ls hl => ?_)
            have hv_47 : (Mcells - 1) = min (Mhead fi_17) (Mcells - 1) := by
              first | assumption | omega | grind
            have hv_48 : endsK Mrow h o Mmany.toNat = (fi_17, la_18) := by
              exact hend (by omega)
            have hv_49 : 0 ≤ fi_17 ∧ fi_17 < Mmany ∧ 0 ≤ la_18 ∧ la_18 < Mmany := by
              first | assumption | omega | grind
            exact hj_25 ((Mcells - 1), fi_17) _ _ _ ⟨hv_47, hv_48, hv_49, hw, lv_sub hl [1, 3, 0] rfl⟩
          · skip
            refine lv_aload_n hx hb dX8_rowLong_101 rfl (lv_at hl 0 rfl) ?_
            refine va_get (D := D) (ci := 8) (v := .ref (oM 10)) (C := RX8) (T := TX8) (N := 36) hx hb hts hinX8 hown hK hw.1 0 rfl rfl 28 (by decide) (hts (.fieldLink RX8 47 "CarnivalRoadModel" "head" "[I") (by decide +kernel)) (fun _ h9 => h9) rfl dX8_rowLong_102 ?_
            refine lv_iload_n hx hb dX8_rowLong_105 rfl (lv_at hl 1 rfl) ?_
            have hi_50 : (0 : Int) ≤ fi_17 ∧ fi_17 < ((16 : Nat) : Int) := by
              first | assumption | omega | grind
            refine z_iald (n := 16) (f := Mhead) hx hb hK hw 10 rfl (by decide) hi_50 dX8_rowLong_106 ?_
            have hq_51 : -1 ≤ Mhead fi_17 ∧ Mhead fi_17 ≤ 60 := qMhead fi_17
            refine lv_goto (tgt := 116) hx hb dX8_rowLong_107 (by decide) ?_
            refine lv_istore_n (lv' := [(3, .int (zI (Mhead fi_17))), (0, .ref (oM 0)), (1, .int (zI fi_17)), (2, .int (zI la_18))]) hx hb dX8_rowLong_116 rfl hl (by decide) rfl (fun ls hl => ?_)
            have hv_52 : (Mhead fi_17) = min (Mhead fi_17) (Mcells - 1) := by
              first | assumption | omega | grind
            have hv_53 : endsK Mrow h o Mmany.toNat = (fi_17, la_18) := by
              exact hend (by omega)
            have hv_54 : 0 ≤ fi_17 ∧ fi_17 < Mmany ∧ 0 ≤ la_18 ∧ la_18 < Mmany := by
              first | assumption | omega | grind
            exact hj_25 ((Mhead fi_17), fi_17) _ _ _ ⟨hv_52, hv_53, hv_54, hw, lv_sub hl [1, 3, 0] rfl⟩
        · skip
          refine z_iconst hx hb dX8_rowLong_86 ?_
          have hv_55 : (0 : Int) ≤ Mthrown_4 ∧ Mthrown_4 ≤ 2 := by
            first | assumption | omega | grind
          have hv_56 : (Mruns = 0 ∧ Mthrown_4 = 1) ∨ (Mruns = 1 ∧ Mthrown_4 = 0 ∧ (0 : Int) = rowLongF le Mcells h (endsK Mrow h o Mmany.toNat)) := by
            refine Or.inr ⟨by omega, by omega, ?_⟩
            rw [hend (by omega)]
            unfold rowLongF
            dsimp only
            rw [if_pos (by omega)]
          exact W.iret (v := zI 0) hx hb hr (fun t9 ht hW => ⟨⟨zI 0, (0, Mthrown_4), rfl, ⟨rfl, ⟨hv_55, hv_56⟩⟩, by subst hAe; exact z_end hK hw ht hW⟩, by subst hAe; exact hw.2.2.F ht⟩) (by subst hAe; exact hw.2.2.2.2) dX8_rowLong_87
      · skip
        refine lv_aload_n hx hb dX8_rowLong_36 rfl (lv_at hl 0 rfl) ?_
        refine lv_aload_n hx hb dX8_rowLong_37 rfl (lv_at hl 0 rfl) ?_
        refine va_get (D := D) (ci := 8) (v := .ref (oM 2)) (C := RX8) (T := TX8) (N := 36) hx hb hts hinX8 hown hK hw.1 0 rfl rfl 3 (by decide) (hts (.fieldLink RX8 13 "CarnivalRoadModel" "row" "[I") (by decide +kernel)) (fun _ h9 => h9) rfl dX8_rowLong_38 ?_
        refine lv_iload_n hx hb dX8_rowLong_41 rfl (lv_at hl 3 rfl) ?_
        have hi_57 : (0 : Int) ≤ i_19 ∧ i_19 < ((8 : Nat) : Int) := by
          first | assumption | omega | grind
        refine z_iald (n := 8) (f := Mrow) hx hb hK hw 2 rfl (by decide) hi_57 dX8_rowLong_42 ?_
        have hq_58 : 0 ≤ Mrow i_19 ∧ Mrow i_19 ≤ 7 := qMrow i_19
        have hF9 := z_free (wc := kM cI cB cZ oM Mthrown_4 Mmany Mguest Mrow Mbars Mbar Mfresh Mtape Mtaped Mpos Mtoken MtokenAt Mvalue Mwrong MwrongAt MfaultKind MfaultPlace Mthing Morder Mone Mtwo Mbest Mcells Mgap Mwire Mstand Mruns Mminute Mhead Mplays Mrests Mwent Mout Mcame Mgone MlastOut) hw hA [0, 1, 2, 3, 4, 5, 6, 7, 8, 9, 10, 11, 12, 13, 14, 15, 16] rfl
        refine va_calli (va_runV (As := [.int (zI (Mrow i_19))]) (rest := []) ⟨hx, hb, hml, hown, hts⟩ (c_X8_isOn l D cI cB cZ oM H.size Mthrown_4 Mmany Mguest Mrow Mbars Mbar Mfresh Mtape Mtaped Mpos Mtoken MtokenAt Mvalue Mwrong MwrongAt MfaultKind MfaultPlace Mthing Morder Mone Mtwo Mbest Mcells Mgap Mwire Mstand Mruns Mminute Mhead Mplays Mrests Mwent Mout Mcame Mgone MlastOut (Mrow i_19) (by omega) (by omega) qMguest qMrow (by omega) qMbar qMfresh qMtape (by omega) (by omega) (by omega) (by omega) (by omega) (by omega) (by omega) (by omega) (by omega) (by omega) qMorder (by omega) (by omega) qMbest (by omega) (by omega) qMwire qMstand (by omega) (by omega) qMhead qMplays qMrests qMwent qMout qMcame qMgone (by omega) (by omega)) (cwV 1 hts gX8_rowLong_X8_isOn rfl rfl rfl (by decide +kernel) ⟨Nat.le_of_ble_eq_true rfl, Nat.le_of_ble_eq_true rfl⟩) ⟨zPre_blind, va_recv hK hw.1 (ci := 8) (q0 := 0) rfl rfl, z_pre hK hw [0, 1, 2, 3, 4, 5, 6, 7, 8, 9, 10, 11, 12, 13, 14, 15, 16] (by decide) rfl⟩ rfl rfl hl.1 rfl (lv_room (Nat.le_of_ble_eq_true rfl)) dX8_rowLong_43 ⟨Nat.zero_le _, Nat.zero_le _⟩) hw.2.2 (fun q _ h => hF9 q h) hF9 (fun r9 u9 t9 H_59 locs9 ht9 hvm9 hq9 hB9 hz9 hk9 hS9 => ?_)
        obtain ⟨r_60, rfl⟩ : ∃ z, z = u9 := ⟨_, rfl⟩
        try dsimp only at hq9 hB9
        obtain ⟨rfl, hq9⟩ := hq9
        have hq_61 := hq9
        have hw : HW D A s.heap (kM cI cB cZ oM Mthrown_4 Mmany Mguest Mrow Mbars Mbar Mfresh Mtape Mtaped Mpos Mtoken MtokenAt Mvalue Mwrong MwrongAt MfaultKind MfaultPlace Mthing Morder Mone Mtwo Mbest Mcells Mgap Mwire Mstand Mruns Mminute Mhead Mplays Mrests Mwent Mout Mcame Mgone MlastOut) H_59 locs9 := z_after (wc := kM cI cB cZ oM Mthrown_4 Mmany Mguest Mrow Mbars Mbar Mfresh Mtape Mtaped Mpos Mtoken MtokenAt Mvalue Mwrong MwrongAt MfaultKind MfaultPlace Mthing Morder Mone Mtwo Mbest Mcells Mgap Mwire Mstand Mruns Mminute Mhead Mplays Mrests Mwent Mout Mcame Mgone MlastOut) hw [0, 1, 2, 3, 4, 5, 6, 7, 8, 9, 10, 11, 12, 13, 14, 15, 16] [] rfl rfl (by decide) (by decide) hF9 hk9 ht9 hB9 hS9 [0, 1, 2, 3, 4, 5, 6, 7, 8, 9, 10, 11, 12, 13, 14, 15, 16] (by decide) rfl
        clear hF9 ht9 hvm9 hB9 hz9 hk9 hS9 hq9
        rcases hq_61 with ⟨hc_62, rfl⟩ | ⟨hc_62, rfl⟩
        · skip
          refine z_if_ne (tgt := 52) hx hb dX8_rowLong_46 (by decide) (by omega) (fun hc_63 => ?_) (fun hc_63 => absurd hc_63 (by omega))
          refine lv_iload_n hx hb dX8_rowLong_52 rfl (lv_at hl 1 rfl) ?_
          refine z_iconst hx hb dX8_rowLong_53 ?_
          refine z_icmp_ne (tgt := 66) hx hb dX8_rowLong_54 (by decide) (by omega) (fun hc_64 => ?_) (fun hc_64 => ?_)
          · skip
            refine lv_iload_n hx hb dX8_rowLong_66 rfl (lv_at hl 1 rfl) ?_
            refine lv_istore_n (lv' := [(1, .int (zI fi_17)), (0, .ref (oM 0)), (2, .int (zI la_18)), (3, .int (zI i_19))]) hx hb dX8_rowLong_67 rfl hl (by decide) rfl (fun ls hl => ?_)
            refine lv_aload_n hx hb dX8_rowLong_68 rfl (lv_at hl 1 rfl) ?_
            refine va_get (D := D) (ci := 8) (v := .ref (oM 2)) (C := RX8) (T := TX8) (N := 36) hx hb hts hinX8 hown hK hw.1 0 rfl rfl 3 (by decide) (hts (.fieldLink RX8 13 "CarnivalRoadModel" "row" "[I") (by decide +kernel)) (fun _ h9 => h9) rfl dX8_rowLong_69 ?_
            refine lv_iload_n hx hb dX8_rowLong_72 rfl (lv_at hl 3 rfl) ?_
            have hi_65 : (0 : Int) ≤ i_19 ∧ i_19 < ((8 : Nat) : Int) := by
              first | assumption | omega | grind
            refine z_iald (n := 8) (f := Mrow) hx hb hK hw 2 rfl (by decide) hi_65 dX8_rowLong_73 ?_
            have hq_66 : 0 ≤ Mrow i_19 ∧ Mrow i_19 ≤ 7 := qMrow i_19
            refine lv_istore_n (lv' := [(2, .int (zI (Mrow i_19))), (1, .int (zI fi_17)), (0, .ref (oM 0)), (3, .int (zI i_19))]) hx hb dX8_rowLong_74 rfl hl (by decide) rfl (fun ls hl => ?_)
            refine z_iinc (k := 3) (lv' := [(3, .int (zI (i_19 + 1))), (2, .int (zI (Mrow i_19))), (1, .int (zI fi_17)), (0, .ref (oM 0))]) hx hb dX8_rowLong_75 hl rfl (by decide) rfl (fun ls hl => ?_)
            refine lv_goto (tgt := 28) hx hb dX8_rowLong_78 (by decide) ?_
            have hv_67 : 0 ≤ (i_19 + 1) ∧ (i_19 + 1) ≤ Mmany := by
              first | assumption | omega | grind
            have hv_68 : (fi_17, (Mrow i_19)) = endsK Mrow h o (i_19 + 1).toNat := by
              have hsi := hp2 (by omega) (Mrow i_19) (hp0 i_19 (by omega) (by omega)).1 (hp0 i_19 (by omega) (by omega)).2
              have hou := qMout (Mrow i_19)
              rw [Int.zero_add] at hsi
              by_cases hon : onP h o (Mrow i_19)
              · have q := ends_on (heads := h) (out := o) (line := Mrow) (by omega) (by assumption) hon
                first | (exfalso; unfold onP at hon; omega) | (rw [if_pos (by omega)] at q; exact q) | (rw [if_neg (by omega)] at q; exact q)
              · first | (exfalso; apply hon; unfold onP; omega) | exact ends_off (by omega) (by assumption) hon
            have hv_69 : (fi_17 = -1 ∧ (Mrow i_19) = -1) ∨ (0 ≤ fi_17 ∧ fi_17 < Mmany ∧ 0 ≤ (Mrow i_19) ∧ (Mrow i_19) < Mmany) := by
              have hra := hp0 i_19 (by omega) (by omega)
              omega
            have hm_70 : (9 - (i_19 + 1)).toNat < (9 - i_19).toNat := by
              first | assumption | omega | grind
            exact ih_16 (fi_17, (Mrow i_19), (i_19 + 1)) _ _ _ ⟨hv_67, hv_68, hv_69, hw, lv_sub hl [3, 2, 1, 0] rfl⟩ hm_70
          · skip
            refine lv_aload_n hx hb dX8_rowLong_57 rfl (lv_at hl 0 rfl) ?_
            refine va_get (D := D) (ci := 8) (v := .ref (oM 2)) (C := RX8) (T := TX8) (N := 36) hx hb hts hinX8 hown hK hw.1 0 rfl rfl 3 (by decide) (hts (.fieldLink RX8 13 "CarnivalRoadModel" "row" "[I") (by decide +kernel)) (fun _ h9 => h9) rfl dX8_rowLong_58 ?_
            refine lv_iload_n hx hb dX8_rowLong_61 rfl (lv_at hl 3 rfl) ?_
            have hi_71 : (0 : Int) ≤ i_19 ∧ i_19 < ((8 : Nat) : Int) := by
              first | assumption | omega | grind
            refine z_iald (n := 8) (f := Mrow) hx hb hK hw 2 rfl (by decide) hi_71 dX8_rowLong_62 ?_
            have hq_72 : 0 ≤ Mrow i_19 ∧ Mrow i_19 ≤ 7 := qMrow i_19
            refine lv_goto (tgt := 67) hx hb dX8_rowLong_63 (by decide) ?_
            refine lv_istore_n (lv' := [(1, .int (zI (Mrow i_19))), (0, .ref (oM 0)), (2, .int (zI la_18)), (3, .int (zI i_19))]) hx hb dX8_rowLong_67 rfl hl (by decide) rfl (fun ls hl => ?_)
            refine lv_aload_n hx hb dX8_rowLong_68 rfl (lv_at hl 1 rfl) ?_
            refine va_get (D := D) (ci := 8) (v := .ref (oM 2)) (C := RX8) (T := TX8) (N := 36) hx hb hts hinX8 hown hK hw.1 0 rfl rfl 3 (by decide) (hts (.fieldLink RX8 13 "CarnivalRoadModel" "row" "[I") (by decide +kernel)) (fun _ h9 => h9) rfl dX8_rowLong_69 ?_
            refine lv_iload_n hx hb dX8_rowLong_72 rfl (lv_at hl 3 rfl) ?_
            have hi_73 : (0 : Int) ≤ i_19 ∧ i_19 < ((8 : Nat) : Int) := by
              first | assumption | omega | grind
            refine z_iald (n := 8) (f := Mrow) hx hb hK hw 2 rfl (by decide) hi_73 dX8_rowLong_73 ?_
            have hq_74 : 0 ≤ Mrow i_19 ∧ Mrow i_19 ≤ 7 := qMrow i_19
            refine lv_istore_n (lv' := [(2, .int (zI (Mrow i_19))), (1, .int (zI (Mrow i_19))), (0, .ref (oM 0)), (3, .int (zI i_19))]) hx hb dX8_rowLong_74 rfl hl (by decide) rfl (fun ls hl => ?_)
            refine z_iinc (k := 3) (lv' := [(3, .int (zI (i_19 + 1))), (2, .int (zI (Mrow i_19))), (1, .int (zI (Mrow i_19))), (0, .ref (oM 0))]) hx hb dX8_rowLong_75 hl rfl (by decide) rfl (fun ls hl => ?_)
            refine lv_goto (tgt := 28) hx hb dX8_rowLong_78 (by decide) ?_
            have hv_75 : 0 ≤ (i_19 + 1) ∧ (i_19 + 1) ≤ Mmany := by
              first | assumption | omega | grind
            have hv_76 : ((Mrow i_19), (Mrow i_19)) = endsK Mrow h o (i_19 + 1).toNat := by
              have hsi := hp2 (by omega) (Mrow i_19) (hp0 i_19 (by omega) (by omega)).1 (hp0 i_19 (by omega) (by omega)).2
              have hou := qMout (Mrow i_19)
              rw [Int.zero_add] at hsi
              by_cases hon : onP h o (Mrow i_19)
              · have q := ends_on (heads := h) (out := o) (line := Mrow) (by omega) (by assumption) hon
                first | (exfalso; unfold onP at hon; omega) | (rw [if_pos (by omega)] at q; exact q) | (rw [if_neg (by omega)] at q; exact q)
              · first | (exfalso; apply hon; unfold onP; omega) | exact ends_off (by omega) (by assumption) hon
            have hv_77 : ((Mrow i_19) = -1 ∧ (Mrow i_19) = -1) ∨ (0 ≤ (Mrow i_19) ∧ (Mrow i_19) < Mmany ∧ 0 ≤ (Mrow i_19) ∧ (Mrow i_19) < Mmany) := by
              have hra := hp0 i_19 (by omega) (by omega)
              omega
            have hm_78 : (9 - (i_19 + 1)).toNat < (9 - i_19).toNat := by
              first | assumption | omega | grind
            exact ih_16 ((Mrow i_19), (Mrow i_19), (i_19 + 1)) _ _ _ ⟨hv_75, hv_76, hv_77, hw, lv_sub hl [3, 2, 1, 0] rfl⟩ hm_78
        · skip
          refine z_if_ne (tgt := 52) hx hb dX8_rowLong_46 (by decide) (by omega) (fun hc_79 => absurd hc_79 (by omega)) (fun hc_79 => ?_)
          refine lv_goto (tgt := 75) hx hb dX8_rowLong_49 (by decide) ?_
          refine z_iinc (k := 3) (lv' := [(3, .int (zI (i_19 + 1))), (0, .ref (oM 0)), (1, .int (zI fi_17)), (2, .int (zI la_18))]) hx hb dX8_rowLong_75 hl rfl (by decide) rfl (fun ls hl => ?_)
          refine lv_goto (tgt := 28) hx hb dX8_rowLong_78 (by decide) ?_
          have hv_80 : 0 ≤ (i_19 + 1) ∧ (i_19 + 1) ≤ Mmany := by
            first | assumption | omega | grind
          have hv_81 : (fi_17, la_18) = endsK Mrow h o (i_19 + 1).toNat := by
            have hsi := hp2 (by omega) (Mrow i_19) (hp0 i_19 (by omega) (by omega)).1 (hp0 i_19 (by omega) (by omega)).2
            have hou := qMout (Mrow i_19)
            rw [Int.zero_add] at hsi
            by_cases hon : onP h o (Mrow i_19)
            · have q := ends_on (heads := h) (out := o) (line := Mrow) (by omega) (by assumption) hon
              first | (exfalso; unfold onP at hon; omega) | (rw [if_pos (by omega)] at q; exact q) | (rw [if_neg (by omega)] at q; exact q)
            · first | (exfalso; apply hon; unfold onP; omega) | exact ends_off (by omega) (by assumption) hon
          have hv_82 : (fi_17 = -1 ∧ la_18 = -1) ∨ (0 ≤ fi_17 ∧ fi_17 < Mmany ∧ 0 ≤ la_18 ∧ la_18 < Mmany) := by
            have hra := hp0 i_19 (by omega) (by omega)
            omega
          have hm_83 : (9 - (i_19 + 1)).toNat < (9 - i_19).toNat := by
            first | assumption | omega | grind
          exact ih_16 (fi_17, la_18, (i_19 + 1)) _ _ _ ⟨hv_80, hv_81, hv_82, hw, lv_sub hl [1, 2, 3, 0] rfl⟩ hm_83
  · skip
    refine z_iconst hx hb dX8_rowLong_8 ?_
    refine lv_goto (tgt := 13) hx hb dX8_rowLong_9 (by decide) ?_
    refine z_iconst hx hb dX8_rowLong_13 ?_
    have hF9 := z_free (wc := kM cI cB cZ oM Mthrown Mmany Mguest Mrow Mbars Mbar Mfresh Mtape Mtaped Mpos Mtoken MtokenAt Mvalue Mwrong MwrongAt MfaultKind MfaultPlace Mthing Morder Mone Mtwo Mbest Mcells Mgap Mwire Mstand Mruns Mminute Mhead Mplays Mrests Mwent Mout Mcame Mgone MlastOut) hw hA [0, 1, 2, 3, 4, 5, 6, 7, 8, 9, 10, 11, 12, 13, 14, 15, 16] rfl
    refine va_calli (va_runV (As := [.int (zI 1), .int (zI 0)]) (rest := []) ⟨hx, hb, hml, hown, hts⟩ (c_X8_fails l D cI cB cZ oM s.heap.size Mthrown Mmany Mguest Mrow Mbars Mbar Mfresh Mtape Mtaped Mpos Mtoken MtokenAt Mvalue Mwrong MwrongAt MfaultKind MfaultPlace Mthing Morder Mone Mtwo Mbest Mcells Mgap Mwire Mstand Mruns Mminute Mhead Mplays Mrests Mwent Mout Mcame Mgone MlastOut 1 0 (by omega) (by omega) qMguest qMrow (by omega) qMbar qMfresh qMtape (by omega) (by omega) (by omega) (by omega) (by omega) (by omega) (by omega) (by omega) (by omega) (by omega) qMorder (by omega) (by omega) qMbest (by omega) (by omega) qMwire qMstand (by omega) (by omega) qMhead qMplays qMrests qMwent qMout qMcame qMgone (by omega) (by omega) (by omega)) (cwV 2 hts gX8_rowLong_X8_fails rfl rfl rfl (by decide +kernel) ⟨Nat.le_of_ble_eq_true rfl, Nat.le_of_ble_eq_true rfl⟩) ⟨zPre_blind, va_recv hK hw.1 (ci := 8) (q0 := 0) rfl rfl, z_pre hK hw [0, 1, 2, 3, 4, 5, 6, 7, 8, 9, 10, 11, 12, 13, 14, 15, 16] (by decide) rfl⟩ rfl rfl hl.1 rfl (lv_room (Nat.le_of_ble_eq_true rfl)) dX8_rowLong_14 ⟨Nat.zero_le _, Nat.zero_le _⟩) hw.2.2 (fun q _ h => hF9 q h) hF9 (fun r9 u9 t9 H_84 locs9 ht9 hvm9 hq9 hB9 hz9 hk9 hS9 => ?_)
    obtain ⟨r_85, Mthrown_86⟩ := u9
    try dsimp only at hq9 hB9
    obtain ⟨rfl, hq9⟩ := hq9
    obtain ⟨hq_87, hq_88, hq_89⟩ := hq9
    have hw : HW D A s.heap (kM cI cB cZ oM Mthrown_86 Mmany Mguest Mrow Mbars Mbar Mfresh Mtape Mtaped Mpos Mtoken MtokenAt Mvalue Mwrong MwrongAt MfaultKind MfaultPlace Mthing Morder Mone Mtwo Mbest Mcells Mgap Mwire Mstand Mruns Mminute Mhead Mplays Mrests Mwent Mout Mcame Mgone MlastOut) H_84 locs9 := z_after (wc := kM cI cB cZ oM Mthrown Mmany Mguest Mrow Mbars Mbar Mfresh Mtape Mtaped Mpos Mtoken MtokenAt Mvalue Mwrong MwrongAt MfaultKind MfaultPlace Mthing Morder Mone Mtwo Mbest Mcells Mgap Mwire Mstand Mruns Mminute Mhead Mplays Mrests Mwent Mout Mcame Mgone MlastOut) hw [0, 1, 2, 3, 4, 5, 6, 7, 8, 9, 10, 11, 12, 13, 14, 15, 16] [] rfl rfl (by decide) (by decide) hF9 hk9 ht9 hB9 hS9 [0, 1, 2, 3, 4, 5, 6, 7, 8, 9, 10, 11, 12, 13, 14, 15, 16] (by decide) rfl
    clear hF9 ht9 hvm9 hB9 hz9 hk9 hS9
    rcases hq_88 with ⟨hc_90, rfl⟩ | ⟨hc_90, rfl⟩
    · skip
      refine z_if_eq (tgt := 22) hx hb dX8_rowLong_17 (by decide) (by omega) (fun hc_91 => absurd hc_91 (by omega)) (fun hc_91 => ?_)
      refine z_iconst hx hb dX8_rowLong_20 ?_
      have hv_92 : (0 : Int) ≤ Mthrown_86 ∧ Mthrown_86 ≤ 2 := by
        first | assumption | omega | grind
      have hv_93 : (Mruns = 0 ∧ Mthrown_86 = 1) ∨ (Mruns = 1 ∧ Mthrown_86 = 0 ∧ (0 : Int) = rowLongF le Mcells h (endsK Mrow h o Mmany.toNat)) := by
        exact Or.inl ⟨by omega, by omega⟩
      exact W.iret (v := zI 0) hx hb hr (fun t9 ht hW => ⟨⟨zI 0, (0, Mthrown_86), rfl, ⟨rfl, ⟨hv_92, hv_93⟩⟩, by subst hAe; exact z_end hK hw ht hW⟩, by subst hAe; exact hw.2.2.F ht⟩) (by subst hAe; exact hw.2.2.2.2) dX8_rowLong_21
    · skip
      refine z_if_eq (tgt := 22) hx hb dX8_rowLong_17 (by decide) (by omega) (fun hc_94 => ?_) (fun hc_94 => absurd hc_94 (by omega))
      refine z_iconst hx hb dX8_rowLong_22 ?_
      refine lv_istore_n (lv' := [(1, .int (zI (-1))), (0, .ref (oM 0))]) hx hb dX8_rowLong_23 rfl hl (by decide) rfl (fun ls hl => ?_)
      refine z_iconst hx hb dX8_rowLong_24 ?_
      refine lv_istore_n (lv' := [(2, .int (zI (-1))), (1, .int (zI (-1))), (0, .ref (oM 0))]) hx hb dX8_rowLong_25 rfl hl (by decide) rfl (fun ls hl => ?_)
      refine z_iconst hx hb dX8_rowLong_26 ?_
      refine lv_istore_n (lv' := [(3, .int (zI 0)), (2, .int (zI (-1))), (1, .int (zI (-1))), (0, .ref (oM 0))]) hx hb dX8_rowLong_27 rfl hl (by decide) rfl (fun ls hl => ?_)
      have hv_95 : 0 ≤ (0 : Int) ∧ (0 : Int) ≤ Mmany := by
        first | assumption | omega | grind
      have hv_96 : (((-1) : Int), ((-1) : Int)) = endsK Mrow h o (0 : Int).toNat := by
        rfl
      have hv_97 : (((-1) : Int) = -1 ∧ ((-1) : Int) = -1) ∨ (0 ≤ ((-1) : Int) ∧ ((-1) : Int) < Mmany ∧ 0 ≤ ((-1) : Int) ∧ ((-1) : Int) < Mmany) := by
        first | assumption | omega | grind
      refine z_loop (σ := Int × Int × Int) (μ := fun x9 => (9 - (x9.2.2)).toNat) (I := fun x9 H locs ls => (0 ≤ (x9.2.2) ∧ (x9.2.2) ≤ Mmany) ∧ (((x9.1), (x9.2.1)) = endsK Mrow h o (x9.2.2).toNat) ∧ (((x9.1) = -1 ∧ (x9.2.1) = -1) ∨ (0 ≤ (x9.1) ∧ (x9.1) < Mmany ∧ 0 ≤ (x9.2.1) ∧ (x9.2.1) < Mmany)) ∧ HW D A s.heap (kM cI cB cZ oM Mthrown_86 Mmany Mguest Mrow Mbars Mbar Mfresh Mtape Mtaped Mpos Mtoken MtokenAt Mvalue Mwrong MwrongAt MfaultKind MfaultPlace Mthing Morder Mone Mtwo Mbest Mcells Mgap Mwire Mstand Mruns Mminute Mhead Mplays Mrests Mwent Mout Mcame Mgone MlastOut) H locs ∧ lv_has ls 5 [(0, .ref (oM 0)), (1, .int (zI (x9.1))), (2, .int (zI (x9.2.1))), (3, .int (zI (x9.2.2)))]) ((-1), (-1), 0) ⟨hv_95, hv_96, hv_97, hw, lv_sub hl [3, 2, 1, 0] rfl⟩ ?_
      clear hw hl
      intro x9 H locs ls hI ih_98
      obtain ⟨fi_99, la_100, i_101⟩ := x9
      try dsimp only at hI
      obtain ⟨hI_102, hI_103, hI_104, hw, hl⟩ := hI
      have hend : Mmany ≤ i_101 → endsK Mrow h o Mmany.toNat = (fi_99, la_100) := fun z => by rw [show Mmany.toNat = i_101.toNat by omega]; exact (by assumption : (fi_99, la_100) = endsK Mrow h o i_101.toNat).symm
      refine lv_iload_n hx hb dX8_rowLong_28 rfl (lv_at hl 3 rfl) ?_
      refine lv_aload_n hx hb dX8_rowLong_29 rfl (lv_at hl 0 rfl) ?_
      refine va_get (D := D) (ci := 8) (v := .int (zI Mmany)) (C := RX8) (T := TX8) (N := 36) hx hb hts hinX8 hown hK hw.1 0 rfl rfl 1 (by decide) (hts (.fieldLink RX8 72 "CarnivalRoadModel" "many" "I") (by decide +kernel)) (fun _ h9 => h9) rfl dX8_rowLong_30 ?_
      refine z_icmp_ge (tgt := 81) hx hb dX8_rowLong_33 (by decide) (by omega) (fun hc_105 => ?_) (fun hc_105 => ?_)
      · skip
        refine lv_iload_n hx hb dX8_rowLong_81 rfl (lv_at hl 1 rfl) ?_
        refine z_iconst hx hb dX8_rowLong_82 ?_
        refine z_icmp_ne (tgt := 88) hx hb dX8_rowLong_83 (by decide) (by omega) (fun hc_106 => ?_) (fun hc_106 => ?_)
        · skip
          refine z_cut (σ := Int × Int) 117 (I := fun x9 H locs ls => ((x9.1) = min (Mhead x9.2) (Mcells - 1)) ∧ (endsK Mrow h o Mmany.toNat = (x9.2, la_100)) ∧ (0 ≤ x9.2 ∧ x9.2 < Mmany ∧ 0 ≤ la_100 ∧ la_100 < Mmany) ∧ HW D A s.heap (kM cI cB cZ oM Mthrown_86 Mmany Mguest Mrow Mbars Mbar Mfresh Mtape Mtaped Mpos Mtoken MtokenAt Mvalue Mwrong MwrongAt MfaultKind MfaultPlace Mthing Morder Mone Mtwo Mbest Mcells Mgap Mwire Mstand Mruns Mminute Mhead Mplays Mrests Mwent Mout Mcame Mgone MlastOut) H locs ∧ lv_has ls 5 [(0, .ref (oM 0)), (2, .int (zI la_100)), (3, .int (zI (x9.1)))]) (st := fun x9 => []) ?_ (fun hj_107 => ?_)
          · clear hw hl
            intro x9 H locs ls hI
            obtain ⟨i_108, gf_109⟩ := x9
            try dsimp only at hI ⊢
            obtain ⟨hI_110, hI_111, hI_112, hw, hl⟩ := hI
            refine lv_aload_n hx hb dX8_rowLong_117 rfl (lv_at hl 0 rfl) ?_
            refine z_iconst hx hb dX8_rowLong_118 ?_
            refine lv_iload_n hx hb dX8_rowLong_119 rfl (lv_at hl 1 rfl) ?_
            have hF9 := z_free (wc := kM cI cB cZ oM Mthrown_86 Mmany Mguest Mrow Mbars Mbar Mfresh Mtape Mtaped Mpos Mtoken MtokenAt Mvalue Mwrong MwrongAt MfaultKind MfaultPlace Mthing Morder Mone Mtwo Mbest Mcells Mgap Mwire Mstand Mruns Mminute Mhead Mplays Mrests Mwent Mout Mcame Mgone MlastOut) hw hA [0, 1, 2, 3, 4, 5, 6, 7, 8, 9, 10, 11, 12, 13, 14, 15, 16] rfl
            refine va_calli (va_runV (As := [.int (zI 0), .int (zI la_100)]) (rest := []) ⟨hx, hb, hml, hown, hts⟩ (c_X8_tail l D cI cB cZ oM H.size Mthrown_86 Mmany Mguest Mrow Mbars Mbar Mfresh Mtape Mtaped Mpos Mtoken MtokenAt Mvalue Mwrong MwrongAt MfaultKind MfaultPlace Mthing Morder Mone Mtwo Mbest Mcells Mgap Mwire Mstand Mruns Mminute Mhead Mplays Mrests Mwent Mout Mcame Mgone MlastOut 0 la_100 (by omega) (by omega) qMguest qMrow (by omega) qMbar qMfresh qMtape (by omega) (by omega) (by omega) (by omega) (by omega) (by omega) (by omega) (by omega) (by omega) (by omega) qMorder (by omega) (by omega) qMbest (by omega) (by omega) qMwire qMstand (by omega) (by omega) qMhead qMplays qMrests qMwent qMout qMcame qMgone (by omega) (by omega) (by omega)) (cwV 2 hts gX8_rowLong_X8_tail rfl rfl rfl (by decide +kernel) ⟨Nat.le_of_ble_eq_true rfl, Nat.le_of_ble_eq_true rfl⟩) ⟨zPre_blind, va_recv hK hw.1 (ci := 8) (q0 := 0) rfl rfl, z_pre hK hw [0, 1, 2, 3, 4, 5, 6, 7, 8, 9, 10, 11, 12, 13, 14, 15, 16] (by decide) rfl⟩ rfl rfl hl.1 rfl (lv_room (Nat.le_of_ble_eq_true rfl)) dX8_rowLong_120 ⟨Nat.zero_le _, Nat.zero_le _⟩) hw.2.2 (fun q _ h => hF9 q h) hF9 (fun r9 u9 t9 H_113 locs9 ht9 hvm9 hq9 hB9 hz9 hk9 hS9 => ?_)
            obtain ⟨r_114, rfl⟩ : ∃ z, z = u9 := ⟨_, rfl⟩
            try dsimp only at hq9 hB9
            obtain ⟨rfl, hq9⟩ := hq9
            obtain ⟨hq_115, hq_116⟩ := hq9
            have hw : HW D A s.heap (kM cI cB cZ oM Mthrown_86 Mmany Mguest Mrow Mbars Mbar Mfresh Mtape Mtaped Mpos Mtoken MtokenAt Mvalue Mwrong MwrongAt MfaultKind MfaultPlace Mthing Morder Mone Mtwo Mbest Mcells Mgap Mwire Mstand Mruns Mminute Mhead Mplays Mrests Mwent Mout Mcame Mgone MlastOut) H_113 locs9 := z_after (wc := kM cI cB cZ oM Mthrown_86 Mmany Mguest Mrow Mbars Mbar Mfresh Mtape Mtaped Mpos Mtoken MtokenAt Mvalue Mwrong MwrongAt MfaultKind MfaultPlace Mthing Morder Mone Mtwo Mbest Mcells Mgap Mwire Mstand Mruns Mminute Mhead Mplays Mrests Mwent Mout Mcame Mgone MlastOut) hw [0, 1, 2, 3, 4, 5, 6, 7, 8, 9, 10, 11, 12, 13, 14, 15, 16] [] rfl rfl (by decide) (by decide) hF9 hk9 ht9 hB9 hS9 [0, 1, 2, 3, 4, 5, 6, 7, 8, 9, 10, 11, 12, 13, 14, 15, 16] (by decide) rfl
            clear hF9 ht9 hvm9 hB9 hz9 hk9 hS9
            refine z_if_le (tgt := 135) hx hb dX8_rowLong_123 (by decide) (by omega) (fun hc_117 => ?_) (fun hc_117 => ?_)
            · skip
              refine z_iconst hx hb dX8_rowLong_135 ?_
              refine lv_istore (lv' := [(4, .int (zI 0)), (0, .ref (oM 0)), (2, .int (zI la_100)), (3, .int (zI i_108))]) hx hb dX8_rowLong_136 hl (by decide) rfl (fun ls hl => ?_)
              refine lv_iload_n hx hb dX8_rowLong_138 rfl (lv_at hl 3 rfl) ?_
              refine lv_iload hx hb dX8_rowLong_139 (lv_at hl 0 rfl) ?_
              refine z_isub hx hb dX8_rowLong_141 ?_
              refine z_iconst hx hb dX8_rowLong_142 ?_
              refine z_iadd hx hb dX8_rowLong_143 ?_
              have hv_118 : (0 : Int) ≤ Mthrown_86 ∧ Mthrown_86 ≤ 2 := by
                first | assumption | omega | grind
              have hv_119 : (Mruns = 0 ∧ Mthrown_86 = 1) ∨ (Mruns = 1 ∧ Mthrown_86 = 0 ∧ ((i_108 - 0) + 1) = rowLongF le Mcells h (endsK Mrow h o Mmany.toNat)) := by
                refine Or.inr ⟨by omega, by omega, ?_⟩
                rw [(by assumption : endsK Mrow h o Mmany.toNat = (gf_109, la_100))]
                unfold rowLongF
                dsimp only
                rw [if_neg (by omega)]
                have s1 := hp2 (by omega) gf_109 (by omega) (by omega)
                have s2 := hp2 (by omega) la_100 (by omega) (by omega)
                have g2 := hp1 la_100 (by omega) (by omega)
                have z1 : (0 : Int) + gf_109 = gf_109 := Int.zero_add _
                rw [z1] at s1
                omega
              exact W.iret (v := zI ((i_108 - 0) + 1)) hx hb hr (fun t9 ht hW => ⟨⟨zI ((i_108 - 0) + 1), (((i_108 - 0) + 1), Mthrown_86), rfl, ⟨rfl, ⟨hv_118, hv_119⟩⟩, by subst hAe; exact z_end hK hw ht hW⟩, by subst hAe; exact hw.2.2.F ht⟩) (by subst hAe; exact hw.2.2.2.2) dX8_rowLong_144
            · skip
              refine lv_aload_n hx hb dX8_rowLong_126 rfl (lv_at hl 0 rfl) ?_
              refine z_iconst hx hb dX8_rowLong_127 ?_
              refine lv_iload_n hx hb dX8_rowLong_128 rfl (lv_at hl 1 rfl) ?_
              have hF9 := z_free (wc := kM cI cB cZ oM Mthrown_86 Mmany Mguest Mrow Mbars Mbar Mfresh Mtape Mtaped Mpos Mtoken MtokenAt Mvalue Mwrong MwrongAt MfaultKind MfaultPlace Mthing Morder Mone Mtwo Mbest Mcells Mgap Mwire Mstand Mruns Mminute Mhead Mplays Mrests Mwent Mout Mcame Mgone MlastOut) hw hA [0, 1, 2, 3, 4, 5, 6, 7, 8, 9, 10, 11, 12, 13, 14, 15, 16] rfl
              refine va_calli (va_runV (As := [.int (zI 0), .int (zI la_100)]) (rest := []) ⟨hx, hb, hml, hown, hts⟩ (c_X8_tail l D cI cB cZ oM H_113.size Mthrown_86 Mmany Mguest Mrow Mbars Mbar Mfresh Mtape Mtaped Mpos Mtoken MtokenAt Mvalue Mwrong MwrongAt MfaultKind MfaultPlace Mthing Morder Mone Mtwo Mbest Mcells Mgap Mwire Mstand Mruns Mminute Mhead Mplays Mrests Mwent Mout Mcame Mgone MlastOut 0 la_100 (by omega) (by omega) qMguest qMrow (by omega) qMbar qMfresh qMtape (by omega) (by omega) (by omega) (by omega) (by omega) (by omega) (by omega) (by omega) (by omega) (by omega) qMorder (by omega) (by omega) qMbest (by omega) (by omega) qMwire qMstand (by omega) (by omega) qMhead qMplays qMrests qMwent qMout qMcame qMgone (by omega) (by omega) (by omega)) (cwV 2 hts gX8_rowLong_X8_tail rfl rfl rfl (by decide +kernel) ⟨Nat.le_of_ble_eq_true rfl, Nat.le_of_ble_eq_true rfl⟩) ⟨zPre_blind, va_recv hK hw.1 (ci := 8) (q0 := 0) rfl rfl, z_pre hK hw [0, 1, 2, 3, 4, 5, 6, 7, 8, 9, 10, 11, 12, 13, 14, 15, 16] (by decide) rfl⟩ rfl rfl hl.1 rfl (lv_room (Nat.le_of_ble_eq_true rfl)) dX8_rowLong_129 ⟨Nat.zero_le _, Nat.zero_le _⟩) hw.2.2 (fun q _ h => hF9 q h) hF9 (fun r9 u9 t9 H_120 locs9 ht9 hvm9 hq9 hB9 hz9 hk9 hS9 => ?_)
              obtain ⟨r_121, rfl⟩ : ∃ z, z = u9 := ⟨_, rfl⟩
              try dsimp only at hq9 hB9
              obtain ⟨rfl, hq9⟩ := hq9
              obtain ⟨hq_122, hq_123⟩ := hq9
              have hw : HW D A s.heap (kM cI cB cZ oM Mthrown_86 Mmany Mguest Mrow Mbars Mbar Mfresh Mtape Mtaped Mpos Mtoken MtokenAt Mvalue Mwrong MwrongAt MfaultKind MfaultPlace Mthing Morder Mone Mtwo Mbest Mcells Mgap Mwire Mstand Mruns Mminute Mhead Mplays Mrests Mwent Mout Mcame Mgone MlastOut) H_120 locs9 := z_after (wc := kM cI cB cZ oM Mthrown_86 Mmany Mguest Mrow Mbars Mbar Mfresh Mtape Mtaped Mpos Mtoken MtokenAt Mvalue Mwrong MwrongAt MfaultKind MfaultPlace Mthing Morder Mone Mtwo Mbest Mcells Mgap Mwire Mstand Mruns Mminute Mhead Mplays Mrests Mwent Mout Mcame Mgone MlastOut) hw [0, 1, 2, 3, 4, 5, 6, 7, 8, 9, 10, 11, 12, 13, 14, 15, 16] [] rfl rfl (by decide) (by decide) hF9 hk9 ht9 hB9 hS9 [0, 1, 2, 3, 4, 5, 6, 7, 8, 9, 10, 11, 12, 13, 14, 15, 16] (by decide) rfl
              clear hF9 ht9 hvm9 hB9 hz9 hk9 hS9
              refine lv_goto (tgt := 136) hx hb dX8_rowLong_132 (by decide) ?_
              refine lv_istore (lv' := [(4, .int (zI r_121)), (0, .ref (oM 0)), (2, .int (zI la_100)), (3, .int (zI i_108))]) hx hb dX8_rowLong_136 hl (by decide) rfl (fun ls hl => ?_)
              refine lv_iload_n hx hb dX8_rowLong_138 rfl (lv_at hl 3 rfl) ?_
              refine lv_iload hx hb dX8_rowLong_139 (lv_at hl 0 rfl) ?_
              refine z_isub hx hb dX8_rowLong_141 ?_
              refine z_iconst hx hb dX8_rowLong_142 ?_
              refine z_iadd hx hb dX8_rowLong_143 ?_
              have hv_124 : (0 : Int) ≤ Mthrown_86 ∧ Mthrown_86 ≤ 2 := by
                first | assumption | omega | grind
              have hv_125 : (Mruns = 0 ∧ Mthrown_86 = 1) ∨ (Mruns = 1 ∧ Mthrown_86 = 0 ∧ ((i_108 - r_121) + 1) = rowLongF le Mcells h (endsK Mrow h o Mmany.toNat)) := by
                refine Or.inr ⟨by omega, by omega, ?_⟩
                rw [(by assumption : endsK Mrow h o Mmany.toNat = (gf_109, la_100))]
                unfold rowLongF
                dsimp only
                rw [if_neg (by omega)]
                have s1 := hp2 (by omega) gf_109 (by omega) (by omega)
                have s2 := hp2 (by omega) la_100 (by omega) (by omega)
                have g2 := hp1 la_100 (by omega) (by omega)
                have z1 : (0 : Int) + gf_109 = gf_109 := Int.zero_add _
                rw [z1] at s1
                omega
              exact W.iret (v := zI ((i_108 - r_121) + 1)) hx hb hr (fun t9 ht hW => ⟨⟨zI ((i_108 - r_121) + 1), (((i_108 - r_121) + 1), Mthrown_86), rfl, ⟨rfl, ⟨hv_124, hv_125⟩⟩, by subst hAe; exact z_end hK hw ht hW⟩, by subst hAe; exact hw.2.2.F ht⟩) (by subst hAe; exact hw.2.2.2.2) dX8_rowLong_144
          refine lv_aload_n hx hb dX8_rowLong_88 rfl (lv_at hl 0 rfl) ?_
          refine va_get (D := D) (ci := 8) (v := .ref (oM 10)) (C := RX8) (T := TX8) (N := 36) hx hb hts hinX8 hown hK hw.1 0 rfl rfl 28 (by decide) (hts (.fieldLink RX8 47 "CarnivalRoadModel" "head" "[I") (by decide +kernel)) (fun _ h9 => h9) rfl dX8_rowLong_89 ?_
          refine lv_iload_n hx hb dX8_rowLong_92 rfl (lv_at hl 1 rfl) ?_
          have hi_126 : (0 : Int) ≤ fi_99 ∧ fi_99 < ((16 : Nat) : Int) := by
            first | assumption | omega | grind
          refine z_iald (n := 16) (f := Mhead) hx hb hK hw 10 rfl (by decide) hi_126 dX8_rowLong_93 ?_
          have hq_127 : -1 ≤ Mhead fi_99 ∧ Mhead fi_99 ≤ 60 := qMhead fi_99
          refine lv_aload_n hx hb dX8_rowLong_94 rfl (lv_at hl 0 rfl) ?_
          refine va_get (D := D) (ci := 8) (v := .int (zI Mcells)) (C := RX8) (T := TX8) (N := 36) hx hb hts hinX8 hown hK hw.1 0 rfl rfl 22 (by decide) (hts (.fieldLink RX8 35 "CarnivalRoadModel" "cells" "I") (by decide +kernel)) (fun _ h9 => h9) rfl dX8_rowLong_95 ?_
          refine z_icmp_ge (tgt := 110) hx hb dX8_rowLong_98 (by decide) (by omega) (fun hc_128 => ?_) (fun hc_128 => ?_)
          · skip
            refine lv_aload_n hx hb dX8_rowLong_110 rfl (lv_at hl 0 rfl) ?_
            refine va_get (D := D) (ci := 8) (v := .int (zI Mcells)) (C := RX8) (T := TX8) (N := 36) hx hb hts hinX8 hown hK hw.1 0 rfl rfl 22 (by decide) (hts (.fieldLink RX8 35 "CarnivalRoadModel" "cells" "I") (by decide +kernel)) (fun _ h9 => h9) rfl dX8_rowLong_111 ?_
            refine z_iconst hx hb dX8_rowLong_114 ?_
            refine z_isub hx hb dX8_rowLong_115 ?_
            refine lv_istore_n (lv' := [(3, .int (zI (Mcells - 1))), (0, .ref (oM 0)), (1, .int (zI fi_99)), (2, .int (zI la_100))]) hx hb dX8_rowLong_116 rfl hl (by decide) rfl (fun ls hl => ?_)
            have hv_129 : (Mcells - 1) = min (Mhead fi_99) (Mcells - 1) := by
              first | assumption | omega | grind
            have hv_130 : endsK Mrow h o Mmany.toNat = (fi_99, la_100) := by
              exact hend (by omega)
            have hv_131 : 0 ≤ fi_99 ∧ fi_99 < Mmany ∧ 0 ≤ la_100 ∧ la_100 < Mmany := by
              first | assumption | omega | grind
            exact hj_107 ((Mcells - 1), fi_99) _ _ _ ⟨hv_129, hv_130, hv_131, hw, lv_sub hl [1, 3, 0] rfl⟩
          · skip
            refine lv_aload_n hx hb dX8_rowLong_101 rfl (lv_at hl 0 rfl) ?_
            refine va_get (D := D) (ci := 8) (v := .ref (oM 10)) (C := RX8) (T := TX8) (N := 36) hx hb hts hinX8 hown hK hw.1 0 rfl rfl 28 (by decide) (hts (.fieldLink RX8 47 "CarnivalRoadModel" "head" "[I") (by decide +kernel)) (fun _ h9 => h9) rfl dX8_rowLong_102 ?_
            refine lv_iload_n hx hb dX8_rowLong_105 rfl (lv_at hl 1 rfl) ?_
            have hi_132 : (0 : Int) ≤ fi_99 ∧ fi_99 < ((16 : Nat) : Int) := by
              first | assumption | omega | grind
            refine z_iald (n := 16) (f := Mhead) hx hb hK hw 10 rfl (by decide) hi_132 dX8_rowLong_106 ?_
            have hq_133 : -1 ≤ Mhead fi_99 ∧ Mhead fi_99 ≤ 60 := qMhead fi_99
            refine lv_goto (tgt := 116) hx hb dX8_rowLong_107 (by decide) ?_
            refine lv_istore_n (lv' := [(3, .int (zI (Mhead fi_99))), (0, .ref (oM 0)), (1, .int (zI fi_99)), (2, .int (zI la_100))]) hx hb dX8_rowLong_116 rfl hl (by decide) rfl (fun ls hl => ?_)
            have hv_134 : (Mhead fi_99) = min (Mhead fi_99) (Mcells - 1) := by
              first | assumption | omega | grind
            have hv_135 : endsK Mrow h o Mmany.toNat = (fi_99, la_100) := by
              exact hend (by omega)
            have hv_136 : 0 ≤ fi_99 ∧ fi_99 < Mmany ∧ 0 ≤ la_100 ∧ la_100 < Mmany := by
              first | assumption | omega | grind
            exact hj_107 ((Mhead fi_99), fi_99) _ _ _ ⟨hv_134, hv_135, hv_136, hw, lv_sub hl [1, 3, 0] rfl⟩
        · skip
          refine z_iconst hx hb dX8_rowLong_86 ?_
          have hv_137 : (0 : Int) ≤ Mthrown_86 ∧ Mthrown_86 ≤ 2 := by
            first | assumption | omega | grind
          have hv_138 : (Mruns = 0 ∧ Mthrown_86 = 1) ∨ (Mruns = 1 ∧ Mthrown_86 = 0 ∧ (0 : Int) = rowLongF le Mcells h (endsK Mrow h o Mmany.toNat)) := by
            refine Or.inr ⟨by omega, by omega, ?_⟩
            rw [hend (by omega)]
            unfold rowLongF
            dsimp only
            rw [if_pos (by omega)]
          exact W.iret (v := zI 0) hx hb hr (fun t9 ht hW => ⟨⟨zI 0, (0, Mthrown_86), rfl, ⟨rfl, ⟨hv_137, hv_138⟩⟩, by subst hAe; exact z_end hK hw ht hW⟩, by subst hAe; exact hw.2.2.F ht⟩) (by subst hAe; exact hw.2.2.2.2) dX8_rowLong_87
      · skip
        refine lv_aload_n hx hb dX8_rowLong_36 rfl (lv_at hl 0 rfl) ?_
        refine lv_aload_n hx hb dX8_rowLong_37 rfl (lv_at hl 0 rfl) ?_
        refine va_get (D := D) (ci := 8) (v := .ref (oM 2)) (C := RX8) (T := TX8) (N := 36) hx hb hts hinX8 hown hK hw.1 0 rfl rfl 3 (by decide) (hts (.fieldLink RX8 13 "CarnivalRoadModel" "row" "[I") (by decide +kernel)) (fun _ h9 => h9) rfl dX8_rowLong_38 ?_
        refine lv_iload_n hx hb dX8_rowLong_41 rfl (lv_at hl 3 rfl) ?_
        have hi_139 : (0 : Int) ≤ i_101 ∧ i_101 < ((8 : Nat) : Int) := by
          first | assumption | omega | grind
        refine z_iald (n := 8) (f := Mrow) hx hb hK hw 2 rfl (by decide) hi_139 dX8_rowLong_42 ?_
        have hq_140 : 0 ≤ Mrow i_101 ∧ Mrow i_101 ≤ 7 := qMrow i_101
        have hF9 := z_free (wc := kM cI cB cZ oM Mthrown_86 Mmany Mguest Mrow Mbars Mbar Mfresh Mtape Mtaped Mpos Mtoken MtokenAt Mvalue Mwrong MwrongAt MfaultKind MfaultPlace Mthing Morder Mone Mtwo Mbest Mcells Mgap Mwire Mstand Mruns Mminute Mhead Mplays Mrests Mwent Mout Mcame Mgone MlastOut) hw hA [0, 1, 2, 3, 4, 5, 6, 7, 8, 9, 10, 11, 12, 13, 14, 15, 16] rfl
        refine va_calli (va_runV (As := [.int (zI (Mrow i_101))]) (rest := []) ⟨hx, hb, hml, hown, hts⟩ (c_X8_isOn l D cI cB cZ oM H.size Mthrown_86 Mmany Mguest Mrow Mbars Mbar Mfresh Mtape Mtaped Mpos Mtoken MtokenAt Mvalue Mwrong MwrongAt MfaultKind MfaultPlace Mthing Morder Mone Mtwo Mbest Mcells Mgap Mwire Mstand Mruns Mminute Mhead Mplays Mrests Mwent Mout Mcame Mgone MlastOut (Mrow i_101) (by omega) (by omega) qMguest qMrow (by omega) qMbar qMfresh qMtape (by omega) (by omega) (by omega) (by omega) (by omega) (by omega) (by omega) (by omega) (by omega) (by omega) qMorder (by omega) (by omega) qMbest (by omega) (by omega) qMwire qMstand (by omega) (by omega) qMhead qMplays qMrests qMwent qMout qMcame qMgone (by omega) (by omega)) (cwV 1 hts gX8_rowLong_X8_isOn rfl rfl rfl (by decide +kernel) ⟨Nat.le_of_ble_eq_true rfl, Nat.le_of_ble_eq_true rfl⟩) ⟨zPre_blind, va_recv hK hw.1 (ci := 8) (q0 := 0) rfl rfl, z_pre hK hw [0, 1, 2, 3, 4, 5, 6, 7, 8, 9, 10, 11, 12, 13, 14, 15, 16] (by decide) rfl⟩ rfl rfl hl.1 rfl (lv_room (Nat.le_of_ble_eq_true rfl)) dX8_rowLong_43 ⟨Nat.zero_le _, Nat.zero_le _⟩) hw.2.2 (fun q _ h => hF9 q h) hF9 (fun r9 u9 t9 H_141 locs9 ht9 hvm9 hq9 hB9 hz9 hk9 hS9 => ?_)
        obtain ⟨r_142, rfl⟩ : ∃ z, z = u9 := ⟨_, rfl⟩
        try dsimp only at hq9 hB9
        obtain ⟨rfl, hq9⟩ := hq9
        have hq_143 := hq9
        have hw : HW D A s.heap (kM cI cB cZ oM Mthrown_86 Mmany Mguest Mrow Mbars Mbar Mfresh Mtape Mtaped Mpos Mtoken MtokenAt Mvalue Mwrong MwrongAt MfaultKind MfaultPlace Mthing Morder Mone Mtwo Mbest Mcells Mgap Mwire Mstand Mruns Mminute Mhead Mplays Mrests Mwent Mout Mcame Mgone MlastOut) H_141 locs9 := z_after (wc := kM cI cB cZ oM Mthrown_86 Mmany Mguest Mrow Mbars Mbar Mfresh Mtape Mtaped Mpos Mtoken MtokenAt Mvalue Mwrong MwrongAt MfaultKind MfaultPlace Mthing Morder Mone Mtwo Mbest Mcells Mgap Mwire Mstand Mruns Mminute Mhead Mplays Mrests Mwent Mout Mcame Mgone MlastOut) hw [0, 1, 2, 3, 4, 5, 6, 7, 8, 9, 10, 11, 12, 13, 14, 15, 16] [] rfl rfl (by decide) (by decide) hF9 hk9 ht9 hB9 hS9 [0, 1, 2, 3, 4, 5, 6, 7, 8, 9, 10, 11, 12, 13, 14, 15, 16] (by decide) rfl
        clear hF9 ht9 hvm9 hB9 hz9 hk9 hS9 hq9
        rcases hq_143 with ⟨hc_144, rfl⟩ | ⟨hc_144, rfl⟩
        · skip
          refine z_if_ne (tgt := 52) hx hb dX8_rowLong_46 (by decide) (by omega) (fun hc_145 => ?_) (fun hc_145 => absurd hc_145 (by omega))
          refine lv_iload_n hx hb dX8_rowLong_52 rfl (lv_at hl 1 rfl) ?_
          refine z_iconst hx hb dX8_rowLong_53 ?_
          refine z_icmp_ne (tgt := 66) hx hb dX8_rowLong_54 (by decide) (by omega) (fun hc_146 => ?_) (fun hc_146 => ?_)
          · skip
            refine lv_iload_n hx hb dX8_rowLong_66 rfl (lv_at hl 1 rfl) ?_
            refine lv_istore_n (lv' := [(1, .int (zI fi_99)), (0, .ref (oM 0)), (2, .int (zI la_100)), (3, .int (zI i_101))]) hx hb dX8_rowLong_67 rfl hl (by decide) rfl (fun ls hl => ?_)
            refine lv_aload_n hx hb dX8_rowLong_68 rfl (lv_at hl 1 rfl) ?_
            refine va_get (D := D) (ci := 8) (v := .ref (oM 2)) (C := RX8) (T := TX8) (N := 36) hx hb hts hinX8 hown hK hw.1 0 rfl rfl 3 (by decide) (hts (.fieldLink RX8 13 "CarnivalRoadModel" "row" "[I") (by decide +kernel)) (fun _ h9 => h9) rfl dX8_rowLong_69 ?_
            refine lv_iload_n hx hb dX8_rowLong_72 rfl (lv_at hl 3 rfl) ?_
            have hi_147 : (0 : Int) ≤ i_101 ∧ i_101 < ((8 : Nat) : Int) := by
              first | assumption | omega | grind
            refine z_iald (n := 8) (f := Mrow) hx hb hK hw 2 rfl (by decide) hi_147 dX8_rowLong_73 ?_
            have hq_148 : 0 ≤ Mrow i_101 ∧ Mrow i_101 ≤ 7 := qMrow i_101
            refine lv_istore_n (lv' := [(2, .int (zI (Mrow i_101))), (1, .int (zI fi_99)), (0, .ref (oM 0)), (3, .int (zI i_101))]) hx hb dX8_rowLong_74 rfl hl (by decide) rfl (fun ls hl => ?_)
            refine z_iinc (k := 3) (lv' := [(3, .int (zI (i_101 + 1))), (2, .int (zI (Mrow i_101))), (1, .int (zI fi_99)), (0, .ref (oM 0))]) hx hb dX8_rowLong_75 hl rfl (by decide) rfl (fun ls hl => ?_)
            refine lv_goto (tgt := 28) hx hb dX8_rowLong_78 (by decide) ?_
            have hv_149 : 0 ≤ (i_101 + 1) ∧ (i_101 + 1) ≤ Mmany := by
              first | assumption | omega | grind
            have hv_150 : (fi_99, (Mrow i_101)) = endsK Mrow h o (i_101 + 1).toNat := by
              have hsi := hp2 (by omega) (Mrow i_101) (hp0 i_101 (by omega) (by omega)).1 (hp0 i_101 (by omega) (by omega)).2
              have hou := qMout (Mrow i_101)
              rw [Int.zero_add] at hsi
              by_cases hon : onP h o (Mrow i_101)
              · have q := ends_on (heads := h) (out := o) (line := Mrow) (by omega) (by assumption) hon
                first | (exfalso; unfold onP at hon; omega) | (rw [if_pos (by omega)] at q; exact q) | (rw [if_neg (by omega)] at q; exact q)
              · first | (exfalso; apply hon; unfold onP; omega) | exact ends_off (by omega) (by assumption) hon
            have hv_151 : (fi_99 = -1 ∧ (Mrow i_101) = -1) ∨ (0 ≤ fi_99 ∧ fi_99 < Mmany ∧ 0 ≤ (Mrow i_101) ∧ (Mrow i_101) < Mmany) := by
              have hra := hp0 i_101 (by omega) (by omega)
              omega
            have hm_152 : (9 - (i_101 + 1)).toNat < (9 - i_101).toNat := by
              first | assumption | omega | grind
            exact ih_98 (fi_99, (Mrow i_101), (i_101 + 1)) _ _ _ ⟨hv_149, hv_150, hv_151, hw, lv_sub hl [3, 2, 1, 0] rfl⟩ hm_152
          · skip
            refine lv_aload_n hx hb dX8_rowLong_57 rfl (lv_at hl 0 rfl) ?_
            refine va_get (D := D) (ci := 8) (v := .ref (oM 2)) (C := RX8) (T := TX8) (N := 36) hx hb hts hinX8 hown hK hw.1 0 rfl rfl 3 (by decide) (hts (.fieldLink RX8 13 "CarnivalRoadModel" "row" "[I") (by decide +kernel)) (fun _ h9 => h9) rfl dX8_rowLong_58 ?_
            refine lv_iload_n hx hb dX8_rowLong_61 rfl (lv_at hl 3 rfl) ?_
            have hi_153 : (0 : Int) ≤ i_101 ∧ i_101 < ((8 : Nat) : Int) := by
              first | assumption | omega | grind
            refine z_iald (n := 8) (f := Mrow) hx hb hK hw 2 rfl (by decide) hi_153 dX8_rowLong_62 ?_
            have hq_154 : 0 ≤ Mrow i_101 ∧ Mrow i_101 ≤ 7 := qMrow i_101
            refine lv_goto (tgt := 67) hx hb dX8_rowLong_63 (by decide) ?_
            refine lv_istore_n (lv' := [(1, .int (zI (Mrow i_101))), (0, .ref (oM 0)), (2, .int (zI la_100)), (3, .int (zI i_101))]) hx hb dX8_rowLong_67 rfl hl (by decide) rfl (fun ls hl => ?_)
            refine lv_aload_n hx hb dX8_rowLong_68 rfl (lv_at hl 1 rfl) ?_
            refine va_get (D := D) (ci := 8) (v := .ref (oM 2)) (C := RX8) (T := TX8) (N := 36) hx hb hts hinX8 hown hK hw.1 0 rfl rfl 3 (by decide) (hts (.fieldLink RX8 13 "CarnivalRoadModel" "row" "[I") (by decide +kernel)) (fun _ h9 => h9) rfl dX8_rowLong_69 ?_
            refine lv_iload_n hx hb dX8_rowLong_72 rfl (lv_at hl 3 rfl) ?_
            have hi_155 : (0 : Int) ≤ i_101 ∧ i_101 < ((8 : Nat) : Int) := by
              first | assumption | omega | grind
            refine z_iald (n := 8) (f := Mrow) hx hb hK hw 2 rfl (by decide) hi_155 dX8_rowLong_73 ?_
            have hq_156 : 0 ≤ Mrow i_101 ∧ Mrow i_101 ≤ 7 := qMrow i_101
            refine lv_istore_n (lv' := [(2, .int (zI (Mrow i_101))), (1, .int (zI (Mrow i_101))), (0, .ref (oM 0)), (3, .int (zI i_101))]) hx hb dX8_rowLong_74 rfl hl (by decide) rfl (fun ls hl => ?_)
            refine z_iinc (k := 3) (lv' := [(3, .int (zI (i_101 + 1))), (2, .int (zI (Mrow i_101))), (1, .int (zI (Mrow i_101))), (0, .ref (oM 0))]) hx hb dX8_rowLong_75 hl rfl (by decide) rfl (fun ls hl => ?_)
            refine lv_goto (tgt := 28) hx hb dX8_rowLong_78 (by decide) ?_
            have hv_157 : 0 ≤ (i_101 + 1) ∧ (i_101 + 1) ≤ Mmany := by
              first | assumption | omega | grind
            have hv_158 : ((Mrow i_101), (Mrow i_101)) = endsK Mrow h o (i_101 + 1).toNat := by
              have hsi := hp2 (by omega) (Mrow i_101) (hp0 i_101 (by omega) (by omega)).1 (hp0 i_101 (by omega) (by omega)).2
              have hou := qMout (Mrow i_101)
              rw [Int.zero_add] at hsi
              by_cases hon : onP h o (Mrow i_101)
              · have q := ends_on (heads := h) (out := o) (line := Mrow) (by omega) (by assumption) hon
                first | (exfalso; unfold onP at hon; omega) | (rw [if_pos (by omega)] at q; exact q) | (rw [if_neg (by omega)] at q; exact q)
              · first | (exfalso; apply hon; unfold onP; omega) | exact ends_off (by omega) (by assumption) hon
            have hv_159 : ((Mrow i_101) = -1 ∧ (Mrow i_101) = -1) ∨ (0 ≤ (Mrow i_101) ∧ (Mrow i_101) < Mmany ∧ 0 ≤ (Mrow i_101) ∧ (Mrow i_101) < Mmany) := by
              have hra := hp0 i_101 (by omega) (by omega)
              omega
            have hm_160 : (9 - (i_101 + 1)).toNat < (9 - i_101).toNat := by
              first | assumption | omega | grind
            exact ih_98 ((Mrow i_101), (Mrow i_101), (i_101 + 1)) _ _ _ ⟨hv_157, hv_158, hv_159, hw, lv_sub hl [3, 2, 1, 0] rfl⟩ hm_160
        · skip
          refine z_if_ne (tgt := 52) hx hb dX8_rowLong_46 (by decide) (by omega) (fun hc_161 => absurd hc_161 (by omega)) (fun hc_161 => ?_)
          refine lv_goto (tgt := 75) hx hb dX8_rowLong_49 (by decide) ?_
          refine z_iinc (k := 3) (lv' := [(3, .int (zI (i_101 + 1))), (0, .ref (oM 0)), (1, .int (zI fi_99)), (2, .int (zI la_100))]) hx hb dX8_rowLong_75 hl rfl (by decide) rfl (fun ls hl => ?_)
          refine lv_goto (tgt := 28) hx hb dX8_rowLong_78 (by decide) ?_
          have hv_162 : 0 ≤ (i_101 + 1) ∧ (i_101 + 1) ≤ Mmany := by
            first | assumption | omega | grind
          have hv_163 : (fi_99, la_100) = endsK Mrow h o (i_101 + 1).toNat := by
            have hsi := hp2 (by omega) (Mrow i_101) (hp0 i_101 (by omega) (by omega)).1 (hp0 i_101 (by omega) (by omega)).2
            have hou := qMout (Mrow i_101)
            rw [Int.zero_add] at hsi
            by_cases hon : onP h o (Mrow i_101)
            · have q := ends_on (heads := h) (out := o) (line := Mrow) (by omega) (by assumption) hon
              first | (exfalso; unfold onP at hon; omega) | (rw [if_pos (by omega)] at q; exact q) | (rw [if_neg (by omega)] at q; exact q)
            · first | (exfalso; apply hon; unfold onP; omega) | exact ends_off (by omega) (by assumption) hon
          have hv_164 : (fi_99 = -1 ∧ la_100 = -1) ∨ (0 ≤ fi_99 ∧ fi_99 < Mmany ∧ 0 ≤ la_100 ∧ la_100 < Mmany) := by
            have hra := hp0 i_101 (by omega) (by omega)
            omega
          have hm_165 : (9 - (i_101 + 1)).toNat < (9 - i_101).toNat := by
            first | assumption | omega | grind
          exact ih_98 (fi_99, la_100, (i_101 + 1)) _ _ _ ⟨hv_162, hv_163, hv_164, hw, lv_sub hl [1, 2, 3, 0] rfl⟩ hm_165
