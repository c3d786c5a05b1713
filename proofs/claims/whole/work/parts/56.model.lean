set_option maxRecDepth 100000 in
set_option maxHeartbeats 4000000 in
theorem c_X8_goes1 (l : Launch) (D : va_G) (cI cB cZ : ClassId) (oM : Nat → Nat) (sz : Nat) (Mthrown : Int) (Mmany : Int) (Mguest : Int → Int) (Mrow : Int → Int) (Mbars : Int) (Mbar : Int → Int) (Mfresh : Int → Int) (Mtape : Int → Int) (Mtaped : Int) (Mpos : Int) (Mtoken : Int) (MtokenAt : Int) (Mvalue : Int) (Mwrong : Int) (MwrongAt : Int) (MfaultKind : Int) (MfaultPlace : Int) (Mthing : Int) (Morder : Int → Int) (Mone : Int) (Mtwo : Int) (Mbest : Int → Int) (Mcells : Int) (Mgap : Int) (Mwire : Int → Int) (Mstand : Int → Int) (Mruns : Int) (Mminute : Int) (Mhead : Int → Int) (Mplays : Int → Int) (Mrests : Int → Int) (Mwent : Int → Int) (Mout : Int → Int) (Mcame : Int → Int) (Mgone : Int → Int) (MlastOut : Int) (base : Int) (p : Int) (t : Int) (alone : Int) (ki : Int → Int) (le : Int → Int) (lo : Int → Int) (ta : Int → Int) (sh : Int → Int) (h : Int → Int) (b : Int → Int) (c : Int → Int) (o : Int → Int) (qMthrown : 0 ≤ Mthrown ∧ Mthrown ≤ 2) (qMmany : 0 ≤ Mmany ∧ Mmany ≤ 8) (qMguest : RA Mguest (0) 9) (qMrow : RA Mrow (0) 7) (qMbars : 0 ≤ Mbars ∧ Mbars ≤ 10) (qMbar : RA Mbar (0) 104) (qMfresh : RA Mfresh (0) 104) (qMtape : RA Mtape (0) 255) (qMtaped : 0 ≤ Mtaped ∧ Mtaped ≤ 400) (qMpos : 0 ≤ Mpos ∧ Mpos ≤ 400) (qMtoken : 0 ≤ Mtoken ∧ Mtoken ≤ 15) (qMtokenAt : 0 ≤ MtokenAt ∧ MtokenAt ≤ 400) (qMvalue : 0 ≤ Mvalue ∧ Mvalue ≤ 99) (qMwrong : 0 ≤ Mwrong ∧ Mwrong ≤ 3) (qMwrongAt : 0 ≤ MwrongAt ∧ MwrongAt ≤ 400) (qMfaultKind : 0 ≤ MfaultKind ∧ MfaultKind ≤ 3) (qMfaultPlace : -1 ≤ MfaultPlace ∧ MfaultPlace ≤ 400) (qMthing : 0 ≤ Mthing ∧ Mthing ≤ 104) (qMorder : RA Morder (0) 7) (qMone : 0 ≤ Mone ∧ Mone ≤ 8) (qMtwo : 0 ≤ Mtwo ∧ Mtwo ≤ 8) (qMbest : RA Mbest (0) 7) (qMcells : 1 ≤ Mcells ∧ Mcells ≤ 50) (qMgap : 0 ≤ Mgap ∧ Mgap ≤ 3) (qMwire : RA Mwire (0) 9) (qMstand : RA Mstand (0) 9) (qMruns : 0 ≤ Mruns ∧ Mruns ≤ 1) (qMminute : 0 ≤ Mminute ∧ Mminute ≤ 1000000) (qMhead : RA Mhead (-1) 60) (qMplays : RA Mplays (0) 18) (qMrests : RA Mrests (0) 3) (qMwent : RA Mwent (0) 61) (qMout : RA Mout (0) 1) (qMcame : RA Mcame (-1) 1000000) (qMgone : RA Mgone (-1) 1000000) (qMlastOut : 0 ≤ MlastOut ∧ MlastOut ≤ 1000000) (qbase : 0 ≤ base ∧ base ≤ 8) (qp : 0 ≤ p ∧ p ≤ 7) (qt : 0 ≤ t ∧ t ≤ 1000000) (qalone : 1 ≤ alone ∧ alone ≤ 1) (hp0 : base = 0 ∨ base = 8) (hp1 : p < Mmany) (hp2 : ∀ i, 0 ≤ i → i < Mmany → 0 ≤ Mrow i ∧ Mrow i < Mmany) (hp3 : gRel Mmany ki le lo ta sh Mguest) (hp4 : simG base (Mrow p) Mhead Mplays Mrests Mwent Mout h b o) (hp5 : o (Mrow p) = -1 → h (Mrow p) - le (Mrow p) + 1 < Mcells) : Met l yX8_goes wsX8_goes ({ frames := 2, cells := 0, slots := 0, locals := 44 }) (va_Pc [.ref (oM 0), .int (zI base), .int (zI p), .int (zI t), .int (zI alone)] (zPre D cI cB cZ sz (kM cI cB cZ oM Mthrown Mmany Mguest Mrow Mbars Mbar Mfresh Mtape Mtaped Mpos Mtoken MtokenAt Mvalue Mwrong MwrongAt MfaultKind MfaultPlace Mthing Morder Mone Mtwo Mbest Mcells Mgap Mwire Mstand Mruns Mminute Mhead Mplays Mrests Mwent Mout Mcame Mgone MlastOut))) (va_Qi (fun (r9 : Int32) (u9 : Int × (Int → Int) × (Int → Int) × (Int → Int) × (Int → Int) × (Int → Int)) => r9 = zI u9.1 ∧ ((RA u9.2.1 (-1) 60) ∧ (RA u9.2.2.1 (0) 18) ∧ (RA u9.2.2.2.1 (0) 3) ∧ (RA u9.2.2.2.2.1 (0) 61) ∧ (RA u9.2.2.2.2.2 (0) 1) ∧ (u9.1 = 0 ∨ u9.1 = 1) ∧ (goPost1 base (Mrow p) Mhead Mplays Mrests Mwent Mout u9.2.1 u9.2.2.1 u9.2.2.2.1 u9.2.2.2.2.1 u9.2.2.2.2.2 (goG ki le Mcells Mstand t (Mrow p) True (h, b, c, o)) u9.1))) (fun u9 t9 => zAt D cI cB cZ (va_A (kM cI cB cZ oM Mthrown Mmany Mguest Mrow Mbars Mbar Mfresh Mtape Mtaped Mpos Mtoken MtokenAt Mvalue Mwrong MwrongAt MfaultKind MfaultPlace Mthing Morder Mone Mtwo Mbest Mcells Mgap Mwire Mstand Mruns Mminute Mhead Mplays Mrests Mwent Mout Mcame Mgone MlastOut) sz) (kM cI cB cZ oM Mthrown Mmany Mguest Mrow Mbars Mbar Mfresh Mtape Mtaped Mpos Mtoken MtokenAt Mvalue Mwrong MwrongAt MfaultKind MfaultPlace Mthing Morder Mone Mtwo Mbest Mcells Mgap Mwire Mstand Mruns Mminute (u9.2.1) (u9.2.2.1) (u9.2.2.2.1) (u9.2.2.2.2.1) (u9.2.2.2.2.2) Mcame Mgone MlastOut) t9) (va_A (kM cI cB cZ oM Mthrown Mmany Mguest Mrow Mbars Mbar Mfresh Mtape Mtaped Mpos Mtoken MtokenAt Mvalue Mwrong MwrongAt MfaultKind MfaultPlace Mthing Morder Mone Mtwo Mbest Mcells Mgap Mwire Mstand Mruns Mminute Mhead Mplays Mrests Mwent Mout Mcame Mgone MlastOut) sz)) 0 0 (va_A (kM cI cB cZ oM Mthrown Mmany Mguest Mrow Mbars Mbar Mfresh Mtape Mtaped Mpos Mtoken MtokenAt Mvalue Mwrong MwrongAt MfaultKind MfaultPlace Mthing Morder Mone Mtwo Mbest Mcells Mgap Mwire Mstand Mruns Mminute Mhead Mplays Mrests Mwent Mout Mcame Mgone MlastOut) sz) := by
  refine Met.ofW (cc := cX8_goes) (maxL := 8) (ret := (some .boolean)) (by decide) rfl ?_
  intro pp ee s mm aa bw mt cd s₁ BL hml hv
  obtain ⟨rfl, hsz, hP, hK, hD0⟩ := hv
  have hx := BL.exec
  have hb := BL.bytes
  have hr := BL.returns
  have hts := atoms_spec (ws := wsX8_goes) BL.pre
  have hown : s.vm.findClass RX8 = some mm.cls := findClass_of_methodNamed BL.named
  have hlocks := BL.notSynchronized
  subst hsz
  generalize hAe : va_A (kM cI cB cZ oM Mthrown Mmany Mguest Mrow Mbars Mbar Mfresh Mtape Mtaped Mpos Mtoken MtokenAt Mvalue Mwrong MwrongAt MfaultKind MfaultPlace Mthing Morder Mone Mtwo Mbest Mcells Mgap Mwire Mstand Mruns Mminute Mhead Mplays Mrests Mwent Mout Mcame Mgone MlastOut) s.heap.size = A
  have hA : ∀ q : Nat, s.heap.size ≤ q → A q := fun q h => by rw [← hAe]; exact Or.inr h
  have hw : HW D A s.heap (kM cI cB cZ oM Mthrown Mmany Mguest Mrow Mbars Mbar Mfresh Mtape Mtaped Mpos Mtoken MtokenAt Mvalue Mwrong MwrongAt MfaultKind MfaultPlace Mthing Morder Mone Mtwo Mbest Mcells Mgap Mwire Mstand Mruns Mminute Mhead Mplays Mrests Mwent Mout Mcame Mgone MlastOut) s.heap [] := z_start hAe hP hD0
  clear hP hD0
  have hl := lv_entry ([.ref (oM 0), .int (zI base), .int (zI p), .int (zI t), .int (zI alone)]) (n := 8) (Nat.le_of_ble_eq_true rfl)
  rw [lg_entry_eq]
  generalize (lg_sl ([.ref (oM 0), .int (zI base), .int (zI p), .int (zI t), .int (zI alone)]) ++ List.replicate (8 - (lg_sl ([.ref (oM 0), .int (zI base), .int (zI p), .int (zI t), .int (zI alone)])).length) Slot.unset).toArray = ls at hl ⊢
  have hl : lv_has ls 8 [(0, .ref (oM 0)), (1, .int (zI base)), (2, .int (zI p)), (3, .int (zI t)), (4, .int (zI alone))] := hl
  have hinX8 : ∀ w ∈ wsX80, w ∈ wsX8_goes := by decide +kernel
  have hrw := hp2 p (by omega) (by omega)
  have hp4b := hp4
  obtain ⟨hs1, hs2, hs3, hs4⟩ := hp4b
  obtain ⟨hg1, hg2, hg3, hg4, hg5⟩ := hp3 (Mrow p) hrw.1 hrw.2
  have hjp := hp5
  have hg0 : Mguest (5 * Mrow p + 0) = ki (Mrow p) := by rw [Int.add_zero]; exact hg1
  have hpl9 : 0 ≤ Mplays (base + Mrow p) ∧ Mplays (base + Mrow p) ≤ 18 := qMplays _
  have hre9 : 0 ≤ Mrests (base + Mrow p) ∧ Mrests (base + Mrow p) ≤ 3 := qMrests _
  have hgl : 0 ≤ Mguest (5 * Mrow p + 1) ∧ Mguest (5 * Mrow p + 1) ≤ 9 := qMguest _
  refine lv_aload_n hx hb dX8_goes_0 rfl (lv_at hl 0 rfl) ?_
  refine va_get (D := D) (ci := 8) (v := .ref (oM 2)) (C := RX8) (T := TX8) (N := 36) hx hb hts hinX8 hown hK hw.1 0 rfl rfl 3 (by decide) (hts (.fieldLink RX8 13 "CarnivalRoadModel" "row" "[I") (by decide +kernel)) (fun _ h9 => h9) rfl dX8_goes_1 ?_
  refine lv_iload_n hx hb dX8_goes_4 rfl (lv_at hl 2 rfl) ?_
  have hi_1 : (0 : Int) ≤ p ∧ p < ((8 : Nat) : Int) := by
    omega
  refine z_iald (n := 8) (f := Mrow) hx hb hK hw 2 rfl (by decide) hi_1 dX8_goes_5 ?_
  have hq_2 : 0 ≤ Mrow p ∧ Mrow p ≤ 7 := qMrow p
  refine lv_istore (lv' := [(5, .int (zI (Mrow p))), (0, .ref (oM 0)), (1, .int (zI base)), (2, .int (zI p)), (3, .int (zI t)), (4, .int (zI alone))]) hx hb dX8_goes_6 hl (by decide) rfl (fun ls hl => ?_)
  refine lv_iload_n hx hb dX8_goes_8 rfl (lv_at hl 2 rfl) ?_
  refine lv_iload hx hb dX8_goes_9 (lv_at hl 0 rfl) ?_
  refine z_iadd hx hb dX8_goes_11 ?_
  refine lv_istore (lv' := [(6, .int (zI (base + (Mrow p)))), (5, .int (zI (Mrow p))), (0, .ref (oM 0)), (1, .int (zI base)), (2, .int (zI p)), (3, .int (zI t)), (4, .int (zI alone))]) hx hb dX8_goes_12 hl (by decide) rfl (fun ls hl => ?_)
  refine lv_aload_n hx hb dX8_goes_14 rfl (lv_at hl 2 rfl) ?_
  refine va_get (D := D) (ci := 8) (v := .ref (oM 14)) (C := RX8) (T := TX8) (N := 36) hx hb hts hinX8 hown hK hw.1 0 rfl rfl 32 (by decide) (hts (.fieldLink RX8 59 "CarnivalRoadModel" "out" "[Z") (by decide +kernel)) (fun _ h9 => h9) rfl dX8_goes_15 ?_
  refine lv_iload hx hb dX8_goes_18 (lv_at hl 0 rfl) ?_
  have hi_3 : (0 : Int) ≤ (base + (Mrow p)) ∧ (base + (Mrow p)) < ((16 : Nat) : Int) := by
    omega
  refine z_zald (n := 16) (f := Mout) hx hb hK hw 14 rfl (by decide) hi_3 dX8_goes_20 ?_
  have hq_4 : 0 ≤ Mout (base + (Mrow p)) ∧ Mout (base + (Mrow p)) ≤ 1 := qMout (base + (Mrow p))
  refine z_if_eq (tgt := 26) hx hb dX8_goes_21 (by decide) (by omega) (fun hc_5 => ?_) (fun hc_5 => ?_)
  · skip
    refine lv_aload_n hx hb dX8_goes_26 rfl (lv_at hl 2 rfl) ?_
    refine va_get (D := D) (ci := 8) (v := .ref (oM 11)) (C := RX8) (T := TX8) (N := 36) hx hb hts hinX8 hown hK hw.1 0 rfl rfl 29 (by decide) (hts (.fieldLink RX8 50 "CarnivalRoadModel" "plays" "[I") (by decide +kernel)) (fun _ h9 => h9) rfl dX8_goes_27 ?_
    refine lv_iload hx hb dX8_goes_30 (lv_at hl 0 rfl) ?_
    have hi_6 : (0 : Int) ≤ (base + (Mrow p)) ∧ (base + (Mrow p)) < ((16 : Nat) : Int) := by
      omega
    refine z_iald (n := 16) (f := Mplays) hx hb hK hw 11 rfl (by decide) hi_6 dX8_goes_32 ?_
    have hq_7 : 0 ≤ Mplays (base + (Mrow p)) ∧ Mplays (base + (Mrow p)) ≤ 18 := qMplays (base + (Mrow p))
    refine z_if_gt (tgt := 46) hx hb dX8_goes_33 (by decide) (by omega) (fun hc_8 => ?_) (fun hc_8 => ?_)
    · skip
      refine lv_aload_n hx hb dX8_goes_46 rfl (lv_at hl 2 rfl) ?_
      refine va_get (D := D) (ci := 8) (v := .ref (oM 11)) (C := RX8) (T := TX8) (N := 36) hx hb hts hinX8 hown hK hw.1 0 rfl rfl 29 (by decide) (hts (.fieldLink RX8 50 "CarnivalRoadModel" "plays" "[I") (by decide +kernel)) (fun _ h9 => h9) rfl dX8_goes_47 ?_
      refine lv_iload hx hb dX8_goes_50 (lv_at hl 0 rfl) ?_
      have hi_9 : (0 : Int) ≤ (base + (Mrow p)) ∧ (base + (Mrow p)) < ((16 : Nat) : Int) := by
        omega
      refine z_iald (n := 16) (f := Mplays) hx hb hK hw 11 rfl (by decide) hi_9 dX8_goes_52 ?_
      have hq_10 : 0 ≤ Mplays (base + (Mrow p)) ∧ Mplays (base + (Mrow p)) ≤ 18 := qMplays (base + (Mrow p))
      refine z_if_le (tgt := 70) hx hb dX8_goes_53 (by decide) (by omega) (fun hc_11 => ?_) (fun hc_11 => ?_)
      · skip
        refine lv_aload_n hx hb dX8_goes_70 rfl (lv_at hl 2 rfl) ?_
        refine va_get (D := D) (ci := 8) (v := .ref (oM 12)) (C := RX8) (T := TX8) (N := 36) hx hb hts hinX8 hown hK hw.1 0 rfl rfl 30 (by decide) (hts (.fieldLink RX8 53 "CarnivalRoadModel" "rests" "[I") (by decide +kernel)) (fun _ h9 => h9) rfl dX8_goes_71 ?_
        refine lv_iload hx hb dX8_goes_74 (lv_at hl 0 rfl) ?_
        refine lv_dup2_11 hx hb dX8_goes_76 rfl rfl ?_
        have hi_12 : (0 : Int) ≤ (base + (Mrow p)) ∧ (base + (Mrow p)) < ((16 : Nat) : Int) := by
          omega
        refine z_iald (n := 16) (f := Mrests) hx hb hK hw 12 rfl (by decide) hi_12 dX8_goes_77 ?_
        have hq_13 : 0 ≤ Mrests (base + (Mrow p)) ∧ Mrests (base + (Mrow p)) ≤ 3 := qMrests (base + (Mrow p))
        refine z_iconst hx hb dX8_goes_78 ?_
        refine z_isub hx hb dX8_goes_79 ?_
        have hi_14 : (0 : Int) ≤ (base + (Mrow p)) ∧ (base + (Mrow p)) < ((16 : Nat) : Int) := by
          omega
        have hv_15 : (0 : Int) ≤ ((Mrests (base + (Mrow p))) - 1) ∧ ((Mrests (base + (Mrow p))) - 1) ≤ 3 := by
          first | assumption | omega | grind
        have hR_16 : RA (uZ Mrests (base + (Mrow p)) ((Mrests (base + (Mrow p))) - 1)) (0) 3 := RA_up qMrests hv_15
        refine z_iast (n := 16) (f := Mrests) (ws2 := kM cI cB cZ oM Mthrown Mmany Mguest Mrow Mbars Mbar Mfresh Mtape Mtaped Mpos Mtoken MtokenAt Mvalue Mwrong MwrongAt MfaultKind MfaultPlace Mthing Morder Mone Mtwo Mbest Mcells Mgap Mwire Mstand Mruns Mminute Mhead Mplays (uZ Mrests (base + (Mrow p)) ((Mrests (base + (Mrow p))) - 1)) Mwent Mout Mcame Mgone MlastOut) hx hb hK hw 12 rfl (by decide) hi_14 dX8_goes_80 rfl (fun H locs hw => ?_)
        refine z_iconst hx hb dX8_goes_81 ?_
        have hv_17 : (0 : Int) = 0 ∨ (0 : Int) = 1 := by
          first | assumption | omega | grind
        have hv_18 : goPost1 base (Mrow p) Mhead Mplays Mrests Mwent Mout Mhead Mplays (uZ Mrests (base + (Mrow p)) ((Mrests (base + (Mrow p))) - 1)) Mwent Mout (goG ki le Mcells Mstand t (Mrow p) True (h, b, c, o)) (0 : Int) := by
          first | exact go1_wait hp4 (by omega) (by omega) (fun k hk => ⟨uZ_n hk, rfl⟩) (by rw [uZ_s]; omega) | exact go1_wait hp4 (by omega) (by omega) (fun k hk => ⟨rfl, uZ_n hk⟩) (by rw [uZ_s]; omega)
        exact W.zret (v := zI 0) hx hb hr rfl (fun t9 ht hW => ⟨⟨zI 0, (0, Mhead, Mplays, (uZ Mrests (base + (Mrow p)) ((Mrests (base + (Mrow p))) - 1)), Mwent, Mout), rfl, ⟨rfl, ⟨qMhead, qMplays, hR_16, qMwent, qMout, hv_17, hv_18⟩⟩, by subst hAe; exact z_end hK hw ht hW⟩, by subst hAe; exact hw.2.2.F ht⟩) (by subst hAe; exact hw.2.2.2.2) dX8_goes_82
      · skip
        refine lv_aload_n hx hb dX8_goes_56 rfl (lv_at hl 2 rfl) ?_
        refine va_get (D := D) (ci := 8) (v := .ref (oM 11)) (C := RX8) (T := TX8) (N := 36) hx hb hts hinX8 hown hK hw.1 0 rfl rfl 29 (by decide) (hts (.fieldLink RX8 50 "CarnivalRoadModel" "plays" "[I") (by decide +kernel)) (fun _ h9 => h9) rfl dX8_goes_57 ?_
        refine lv_iload hx hb dX8_goes_60 (lv_at hl 0 rfl) ?_
        refine lv_dup2_11 hx hb dX8_goes_62 rfl rfl ?_
        have hi_19 : (0 : Int) ≤ (base + (Mrow p)) ∧ (base + (Mrow p)) < ((16 : Nat) : Int) := by
          omega
        refine z_iald (n := 16) (f := Mplays) hx hb hK hw 11 rfl (by decide) hi_19 dX8_goes_63 ?_
        have hq_20 : 0 ≤ Mplays (base + (Mrow p)) ∧ Mplays (base + (Mrow p)) ≤ 18 := qMplays (base + (Mrow p))
        refine z_iconst hx hb dX8_goes_64 ?_
        refine z_isub hx hb dX8_goes_65 ?_
        have hi_21 : (0 : Int) ≤ (base + (Mrow p)) ∧ (base + (Mrow p)) < ((16 : Nat) : Int) := by
          omega
        have hv_22 : (0 : Int) ≤ ((Mplays (base + (Mrow p))) - 1) ∧ ((Mplays (base + (Mrow p))) - 1) ≤ 18 := by
          first | assumption | omega | grind
        have hR_23 : RA (uZ Mplays (base + (Mrow p)) ((Mplays (base + (Mrow p))) - 1)) (0) 18 := RA_up qMplays hv_22
        refine z_iast (n := 16) (f := Mplays) (ws2 := kM cI cB cZ oM Mthrown Mmany Mguest Mrow Mbars Mbar Mfresh Mtape Mtaped Mpos Mtoken MtokenAt Mvalue Mwrong MwrongAt MfaultKind MfaultPlace Mthing Morder Mone Mtwo Mbest Mcells Mgap Mwire Mstand Mruns Mminute Mhead (uZ Mplays (base + (Mrow p)) ((Mplays (base + (Mrow p))) - 1)) Mrests Mwent Mout Mcame Mgone MlastOut) hx hb hK hw 11 rfl (by decide) hi_21 dX8_goes_66 rfl (fun H locs hw => ?_)
        refine lv_goto (tgt := 81) hx hb dX8_goes_67 (by decide) ?_
        refine z_iconst hx hb dX8_goes_81 ?_
        have hv_24 : (0 : Int) = 0 ∨ (0 : Int) = 1 := by
          first | assumption | omega | grind
        have hv_25 : goPost1 base (Mrow p) Mhead Mplays Mrests Mwent Mout Mhead (uZ Mplays (base + (Mrow p)) ((Mplays (base + (Mrow p))) - 1)) Mrests Mwent Mout (goG ki le Mcells Mstand t (Mrow p) True (h, b, c, o)) (0 : Int) := by
          first | exact go1_wait hp4 (by omega) (by omega) (fun k hk => ⟨uZ_n hk, rfl⟩) (by rw [uZ_s]; omega) | exact go1_wait hp4 (by omega) (by omega) (fun k hk => ⟨rfl, uZ_n hk⟩) (by rw [uZ_s]; omega)
        exact W.zret (v := zI 0) hx hb hr rfl (fun t9 ht hW => ⟨⟨zI 0, (0, Mhead, (uZ Mplays (base + (Mrow p)) ((Mplays (base + (Mrow p))) - 1)), Mrests, Mwent, Mout), rfl, ⟨rfl, ⟨qMhead, hR_23, qMrests, qMwent, qMout, hv_24, hv_25⟩⟩, by subst hAe; exact z_end hK hw ht hW⟩, by subst hAe; exact hw.2.2.F ht⟩) (by subst hAe; exact hw.2.2.2.2) dX8_goes_82
    · skip
      refine lv_aload_n hx hb dX8_goes_36 rfl (lv_at hl 2 rfl) ?_
      refine va_get (D := D) (ci := 8) (v := .ref (oM 12)) (C := RX8) (T := TX8) (N := 36) hx hb hts hinX8 hown hK hw.1 0 rfl rfl 30 (by decide) (hts (.fieldLink RX8 53 "CarnivalRoadModel" "rests" "[I") (by decide +kernel)) (fun _ h9 => h9) rfl dX8_goes_37 ?_
      refine lv_iload hx hb dX8_goes_40 (lv_at hl 0 rfl) ?_
      have hi_26 : (0 : Int) ≤ (base + (Mrow p)) ∧ (base + (Mrow p)) < ((16 : Nat) : Int) := by
        omega
      refine z_iald (n := 16) (f := Mrests) hx hb hK hw 12 rfl (by decide) hi_26 dX8_goes_42 ?_
      have hq_27 : 0 ≤ Mrests (base + (Mrow p)) ∧ Mrests (base + (Mrow p)) ≤ 3 := qMrests (base + (Mrow p))
      refine z_if_le (tgt := 83) hx hb dX8_goes_43 (by decide) (by omega) (fun hc_28 => ?_) (fun hc_28 => ?_)
      · skip
        refine z_cut (σ := Unit) 114 (I := fun x9 H locs ls => (goP t (ki (Mrow p))) ∧ HW D A s.heap (kM cI cB cZ oM Mthrown Mmany Mguest Mrow Mbars Mbar Mfresh Mtape Mtaped Mpos Mtoken MtokenAt Mvalue Mwrong MwrongAt MfaultKind MfaultPlace Mthing Morder Mone Mtwo Mbest Mcells Mgap Mwire Mstand Mruns Mminute Mhead Mplays Mrests Mwent Mout Mcame Mgone MlastOut) H locs ∧ lv_has ls 8 [(0, .ref (oM 0)), (1, .int (zI base)), (2, .int (zI p)), (4, .int (zI alone)), (5, .int (zI (Mrow p))), (6, .int (zI (base + (Mrow p))))]) (st := fun x9 => []) ?_ (fun hj_29 => ?_)
        · clear hw hl
          intro x9 H locs ls hI
          try dsimp only at hI ⊢
          obtain ⟨hI_30, hw, hl⟩ := hI
          refine z_cut (σ := Unit) 188 (I := fun x9 H locs ls => (True) ∧ HW D A s.heap (kM cI cB cZ oM Mthrown Mmany Mguest Mrow Mbars Mbar Mfresh Mtape Mtaped Mpos Mtoken MtokenAt Mvalue Mwrong MwrongAt MfaultKind MfaultPlace Mthing Morder Mone Mtwo Mbest Mcells Mgap Mwire Mstand Mruns Mminute Mhead Mplays Mrests Mwent Mout Mcame Mgone MlastOut) H locs ∧ lv_has ls 8 [(0, .ref (oM 0)), (1, .int (zI base)), (5, .int (zI (Mrow p))), (6, .int (zI (base + (Mrow p))))]) (st := fun x9 => []) ?_ (fun hj_31 => ?_)
          · clear hw hl
            intro x9 H locs ls hI
            try dsimp only at hI ⊢
            obtain ⟨hI_32, hw, hl⟩ := hI
            refine lv_aload_n hx hb dX8_goes_188 rfl (lv_at hl 0 rfl) ?_
            refine va_get (D := D) (ci := 8) (v := .ref (oM 10)) (C := RX8) (T := TX8) (N := 36) hx hb hts hinX8 hown hK hw.1 0 rfl rfl 28 (by decide) (hts (.fieldLink RX8 47 "CarnivalRoadModel" "head" "[I") (by decide +kernel)) (fun _ h9 => h9) rfl dX8_goes_189 ?_
            refine lv_iload hx hb dX8_goes_192 (lv_at hl 3 rfl) ?_
            refine lv_dup2_11 hx hb dX8_goes_194 rfl rfl ?_
            have hi_33 : (0 : Int) ≤ (base + (Mrow p)) ∧ (base + (Mrow p)) < ((16 : Nat) : Int) := by
              omega
            refine z_iald (n := 16) (f := Mhead) hx hb hK hw 10 rfl (by decide) hi_33 dX8_goes_195 ?_
            have hq_34 : -1 ≤ Mhead (base + (Mrow p)) ∧ Mhead (base + (Mrow p)) ≤ 60 := qMhead (base + (Mrow p))
            refine z_iconst hx hb dX8_goes_196 ?_
            refine z_iadd hx hb dX8_goes_197 ?_
            have hi_35 : (0 : Int) ≤ (base + (Mrow p)) ∧ (base + (Mrow p)) < ((16 : Nat) : Int) := by
              omega
            have hv_36 : (-1 : Int) ≤ ((Mhead (base + (Mrow p))) + 1) ∧ ((Mhead (base + (Mrow p))) + 1) ≤ 60 := by
              first | assumption | omega | grind
            have hR_37 : RA (uZ Mhead (base + (Mrow p)) ((Mhead (base + (Mrow p))) + 1)) (-1) 60 := RA_up qMhead hv_36
            refine z_iast (n := 16) (f := Mhead) (ws2 := kM cI cB cZ oM Mthrown Mmany Mguest Mrow Mbars Mbar Mfresh Mtape Mtaped Mpos Mtoken MtokenAt Mvalue Mwrong MwrongAt MfaultKind MfaultPlace Mthing Morder Mone Mtwo Mbest Mcells Mgap Mwire Mstand Mruns Mminute (uZ Mhead (base + (Mrow p)) ((Mhead (base + (Mrow p))) + 1)) Mplays Mrests Mwent Mout Mcame Mgone MlastOut) hx hb hK hw 10 rfl (by decide) hi_35 dX8_goes_198 rfl (fun H locs hw => ?_)
            refine lv_aload_n hx hb dX8_goes_199 rfl (lv_at hl 0 rfl) ?_
            refine va_get (D := D) (ci := 8) (v := .ref (oM 13)) (C := RX8) (T := TX8) (N := 36) hx hb hts hinX8 hown hK hw.1 0 rfl rfl 31 (by decide) (hts (.fieldLink RX8 56 "CarnivalRoadModel" "went" "[I") (by decide +kernel)) (fun _ h9 => h9) rfl dX8_goes_200 ?_
            refine lv_iload hx hb dX8_goes_203 (lv_at hl 3 rfl) ?_
            refine lv_dup2_11 hx hb dX8_goes_205 rfl rfl ?_
            have hi_38 : (0 : Int) ≤ (base + (Mrow p)) ∧ (base + (Mrow p)) < ((16 : Nat) : Int) := by
              omega
            refine z_iald (n := 16) (f := Mwent) hx hb hK hw 13 rfl (by decide) hi_38 dX8_goes_206 ?_
            have hq_39 : 0 ≤ Mwent (base + (Mrow p)) ∧ Mwent (base + (Mrow p)) ≤ 61 := qMwent (base + (Mrow p))
            refine z_iconst hx hb dX8_goes_207 ?_
            refine z_iadd hx hb dX8_goes_208 ?_
            have hi_40 : (0 : Int) ≤ (base + (Mrow p)) ∧ (base + (Mrow p)) < ((16 : Nat) : Int) := by
              omega
            have hv_41 : (0 : Int) ≤ ((Mwent (base + (Mrow p))) + 1) ∧ ((Mwent (base + (Mrow p))) + 1) ≤ 61 := by
              first | assumption | omega | grind
            have hR_42 : RA (uZ Mwent (base + (Mrow p)) ((Mwent (base + (Mrow p))) + 1)) (0) 61 := RA_up qMwent hv_41
            refine z_iast (n := 16) (f := Mwent) (ws2 := kM cI cB cZ oM Mthrown Mmany Mguest Mrow Mbars Mbar Mfresh Mtape Mtaped Mpos Mtoken MtokenAt Mvalue Mwrong MwrongAt MfaultKind MfaultPlace Mthing Morder Mone Mtwo Mbest Mcells Mgap Mwire Mstand Mruns Mminute (uZ Mhead (base + (Mrow p)) ((Mhead (base + (Mrow p))) + 1)) Mplays Mrests (uZ Mwent (base + (Mrow p)) ((Mwent (base + (Mrow p))) + 1)) Mout Mcame Mgone MlastOut) hx hb hK hw 13 rfl (by decide) hi_40 dX8_goes_209 rfl (fun H locs hw => ?_)
            refine lv_aload_n hx hb dX8_goes_210 rfl (lv_at hl 0 rfl) ?_
            refine lv_aload_n hx hb dX8_goes_211 rfl (lv_at hl 0 rfl) ?_
            refine va_get (D := D) (ci := 8) (v := .ref (oM 10)) (C := RX8) (T := TX8) (N := 36) hx hb hts hinX8 hown hK hw.1 0 rfl rfl 28 (by decide) (hts (.fieldLink RX8 47 "CarnivalRoadModel" "head" "[I") (by decide +kernel)) (fun _ h9 => h9) rfl dX8_goes_212 ?_
            refine lv_iload hx hb dX8_goes_215 (lv_at hl 3 rfl) ?_
            have hi_43 : (0 : Int) ≤ (base + (Mrow p)) ∧ (base + (Mrow p)) < ((16 : Nat) : Int) := by
              omega
            refine z_iald (n := 16) (f := (uZ Mhead (base + (Mrow p)) ((Mhead (base + (Mrow p))) + 1))) hx hb hK hw 10 rfl (by decide) hi_43 dX8_goes_217 ?_
            rw [uZ_s]
            have hF9 := z_free (wc := kM cI cB cZ oM Mthrown Mmany Mguest Mrow Mbars Mbar Mfresh Mtape Mtaped Mpos Mtoken MtokenAt Mvalue Mwrong MwrongAt MfaultKind MfaultPlace Mthing Morder Mone Mtwo Mbest Mcells Mgap Mwire Mstand Mruns Mminute (uZ Mhead (base + (Mrow p)) ((Mhead (base + (Mrow p))) + 1)) Mplays Mrests (uZ Mwent (base + (Mrow p)) ((Mwent (base + (Mrow p))) + 1)) Mout Mcame Mgone MlastOut) hw hA [0, 1, 2, 3, 4, 5, 6, 7, 8, 9, 10, 11, 12, 13, 14, 15, 16] rfl
            refine va_calli (va_runV (As := [.int (zI ((Mhead (base + (Mrow p))) + 1))]) (rest := []) ⟨hx, hb, hml, hown, hts⟩ (c_X8_isCell l D cI cB cZ oM H.size Mthrown Mmany Mguest Mrow Mbars Mbar Mfresh Mtape Mtaped Mpos Mtoken MtokenAt Mvalue Mwrong MwrongAt MfaultKind MfaultPlace Mthing Morder Mone Mtwo Mbest Mcells Mgap Mwire Mstand Mruns Mminute (uZ Mhead (base + (Mrow p)) ((Mhead (base + (Mrow p))) + 1)) Mplays Mrests (uZ Mwent (base + (Mrow p)) ((Mwent (base + (Mrow p))) + 1)) Mout Mcame Mgone MlastOut ((Mhead (base + (Mrow p))) + 1) (by omega) (by omega) qMguest qMrow (by omega) qMbar qMfresh qMtape (by omega) (by omega) (by omega) (by omega) (by omega) (by omega) (by omega) (by omega) (by omega) (by omega) qMorder (by omega) (by omega) qMbest (by omega) (by omega) qMwire qMstand (by omega) (by omega) hR_37 qMplays qMrests hR_42 qMout qMcame qMgone (by omega) (by omega)) (cwV 1 hts gX8_goes_X8_isCell rfl rfl rfl (by decide +kernel) ⟨Nat.le_of_ble_eq_true rfl, Nat.le_of_ble_eq_true rfl⟩) ⟨zPre_blind, va_recv hK hw.1 (ci := 8) (q0 := 0) rfl rfl, z_pre hK hw [0, 1, 2, 3, 4, 5, 6, 7, 8, 9, 10, 11, 12, 13, 14, 15, 16] (by decide) rfl⟩ rfl rfl hl.1 rfl (lv_room (Nat.le_of_ble_eq_true rfl)) dX8_goes_218 ⟨Nat.zero_le _, Nat.zero_le _⟩) hw.2.2 (fun q _ h => hF9 q h) hF9 (fun r9 u9 t9 H_44 locs9 ht9 hvm9 hq9 hB9 hz9 hk9 hS9 => ?_)
            obtain ⟨r_45, rfl⟩ : ∃ z, z = u9 := ⟨_, rfl⟩
            try dsimp only at hq9 hB9
            obtain ⟨rfl, hq9⟩ := hq9
            have hq_46 := hq9
            have hw : HW D A s.heap (kM cI cB cZ oM Mthrown Mmany Mguest Mrow Mbars Mbar Mfresh Mtape Mtaped Mpos Mtoken MtokenAt Mvalue Mwrong MwrongAt MfaultKind MfaultPlace Mthing Morder Mone Mtwo Mbest Mcells Mgap Mwire Mstand Mruns Mminute (uZ Mhead (base + (Mrow p)) ((Mhead (base + (Mrow p))) + 1)) Mplays Mrests (uZ Mwent (base + (Mrow p)) ((Mwent (base + (Mrow p))) + 1)) Mout Mcame Mgone MlastOut) H_44 locs9 := z_after (wc := kM cI cB cZ oM Mthrown Mmany Mguest Mrow Mbars Mbar Mfresh Mtape Mtaped Mpos Mtoken MtokenAt Mvalue Mwrong MwrongAt MfaultKind MfaultPlace Mthing Morder Mone Mtwo Mbest Mcells Mgap Mwire Mstand Mruns Mminute (uZ Mhead (base + (Mrow p)) ((Mhead (base + (Mrow p))) + 1)) Mplays Mrests (uZ Mwent (base + (Mrow p)) ((Mwent (base + (Mrow p))) + 1)) Mout Mcame Mgone MlastOut) hw [0, 1, 2, 3, 4, 5, 6, 7, 8, 9, 10, 11, 12, 13, 14, 15, 16] [] rfl rfl (by decide) (by decide) hF9 hk9 ht9 hB9 hS9 [0, 1, 2, 3, 4, 5, 6, 7, 8, 9, 10, 11, 12, 13, 14, 15, 16] (by decide) rfl
            clear hF9 ht9 hvm9 hB9 hz9 hk9 hS9 hq9
            rcases hq_46 with ⟨hc_47, rfl⟩ | ⟨hc_47, rfl⟩
            · skip
              refine z_if_eq (tgt := 286) hx hb dX8_goes_221 (by decide) (by omega) (fun hc_48 => absurd hc_48 (by omega)) (fun hc_48 => ?_)
              refine lv_aload_n hx hb dX8_goes_224 rfl (lv_at hl 0 rfl) ?_
              refine va_get (D := D) (ci := 8) (v := .ref (oM 9)) (C := RX8) (T := TX8) (N := 36) hx hb hts hinX8 hown hK hw.1 0 rfl rfl 25 (by decide) (hts (.fieldLink RX8 44 "CarnivalRoadModel" "stand" "[I") (by decide +kernel)) (fun _ h9 => h9) rfl dX8_goes_225 ?_
              refine lv_aload_n hx hb dX8_goes_228 rfl (lv_at hl 0 rfl) ?_
              refine va_get (D := D) (ci := 8) (v := .ref (oM 10)) (C := RX8) (T := TX8) (N := 36) hx hb hts hinX8 hown hK hw.1 0 rfl rfl 28 (by decide) (hts (.fieldLink RX8 47 "CarnivalRoadModel" "head" "[I") (by decide +kernel)) (fun _ h9 => h9) rfl dX8_goes_229 ?_
              refine lv_iload hx hb dX8_goes_232 (lv_at hl 3 rfl) ?_
              have hi_49 : (0 : Int) ≤ (base + (Mrow p)) ∧ (base + (Mrow p)) < ((16 : Nat) : Int) := by
                omega
              refine z_iald (n := 16) (f := (uZ Mhead (base + (Mrow p)) ((Mhead (base + (Mrow p))) + 1))) hx hb hK hw 10 rfl (by decide) hi_49 dX8_goes_234 ?_
              rw [uZ_s]
              have hi_50 : (0 : Int) ≤ ((Mhead (base + (Mrow p))) + 1) ∧ ((Mhead (base + (Mrow p))) + 1) < ((50 : Nat) : Int) := by
                omega
              refine z_iald (n := 50) (f := Mstand) hx hb hK hw 9 rfl (by decide) hi_50 dX8_goes_235 ?_
              have hq_51 : 0 ≤ Mstand ((Mhead (base + (Mrow p))) + 1) ∧ Mstand ((Mhead (base + (Mrow p))) + 1) ≤ 9 := qMstand ((Mhead (base + (Mrow p))) + 1)
              refine z_if_le (tgt := 286) hx hb dX8_goes_236 (by decide) (by omega) (fun hc_52 => ?_) (fun hc_52 => ?_)
              · skip
                refine lv_aload_n hx hb dX8_goes_286 rfl (lv_at hl 0 rfl) ?_
                refine lv_iload hx hb dX8_goes_287 (lv_at hl 2 rfl) ?_
                refine z_iconst hx hb dX8_goes_289 ?_
                have hF9 := z_free (wc := kM cI cB cZ oM Mthrown Mmany Mguest Mrow Mbars Mbar Mfresh Mtape Mtaped Mpos Mtoken MtokenAt Mvalue Mwrong MwrongAt MfaultKind MfaultPlace Mthing Morder Mone Mtwo Mbest Mcells Mgap Mwire Mstand Mruns Mminute (uZ Mhead (base + (Mrow p)) ((Mhead (base + (Mrow p))) + 1)) Mplays Mrests (uZ Mwent (base + (Mrow p)) ((Mwent (base + (Mrow p))) + 1)) Mout Mcame Mgone MlastOut) hw hA [0, 1, 2, 3, 4, 5, 6, 7, 8, 9, 10, 11, 12, 13, 14, 15, 16] rfl
                refine va_calli (va_runV (As := [.int (zI (Mrow p)), .int (zI 0)]) (rest := []) ⟨hx, hb, hml, hown, hts⟩ (c_X8_get l D cI cB cZ oM H_44.size Mthrown Mmany Mguest Mrow Mbars Mbar Mfresh Mtape Mtaped Mpos Mtoken MtokenAt Mvalue Mwrong MwrongAt MfaultKind MfaultPlace Mthing Morder Mone Mtwo Mbest Mcells Mgap Mwire Mstand Mruns Mminute (uZ Mhead (base + (Mrow p)) ((Mhead (base + (Mrow p))) + 1)) Mplays Mrests (uZ Mwent (base + (Mrow p)) ((Mwent (base + (Mrow p))) + 1)) Mout Mcame Mgone MlastOut (Mrow p) 0 (by omega) (by omega) qMguest qMrow (by omega) qMbar qMfresh qMtape (by omega) (by omega) (by omega) (by omega) (by omega) (by omega) (by omega) (by omega) (by omega) (by omega) qMorder (by omega) (by omega) qMbest (by omega) (by omega) qMwire qMstand (by omega) (by omega) hR_37 qMplays qMrests hR_42 qMout qMcame qMgone (by omega) (by omega) (by omega)) (cwV 2 hts gX8_goes_X8_get rfl rfl rfl (by decide +kernel) ⟨Nat.le_of_ble_eq_true rfl, Nat.le_of_ble_eq_true rfl⟩) ⟨zPre_blind, va_recv hK hw.1 (ci := 8) (q0 := 0) rfl rfl, z_pre hK hw [0, 1, 2, 3, 4, 5, 6, 7, 8, 9, 10, 11, 12, 13, 14, 15, 16] (by decide) rfl⟩ rfl rfl hl.1 rfl (lv_room (Nat.le_of_ble_eq_true rfl)) dX8_goes_290 ⟨Nat.zero_le _, Nat.zero_le _⟩) hw.2.2 (fun q _ h => hF9 q h) hF9 (fun r9 u9 t9 H_53 locs9 ht9 hvm9 hq9 hB9 hz9 hk9 hS9 => ?_)
                obtain ⟨r_54, rfl⟩ : ∃ z, z = u9 := ⟨_, rfl⟩
                try dsimp only at hq9 hB9
                obtain ⟨rfl, hq9⟩ := hq9
                obtain ⟨hq_55, hq_56⟩ := hq9
                have hw : HW D A s.heap (kM cI cB cZ oM Mthrown Mmany Mguest Mrow Mbars Mbar Mfresh Mtape Mtaped Mpos Mtoken MtokenAt Mvalue Mwrong MwrongAt MfaultKind MfaultPlace Mthing Morder Mone Mtwo Mbest Mcells Mgap Mwire Mstand Mruns Mminute (uZ Mhead (base + (Mrow p)) ((Mhead (base + (Mrow p))) + 1)) Mplays Mrests (uZ Mwent (base + (Mrow p)) ((Mwent (base + (Mrow p))) + 1)) Mout Mcame Mgone MlastOut) H_53 locs9 := z_after (wc := kM cI cB cZ oM Mthrown Mmany Mguest Mrow Mbars Mbar Mfresh Mtape Mtaped Mpos Mtoken MtokenAt Mvalue Mwrong MwrongAt MfaultKind MfaultPlace Mthing Morder Mone Mtwo Mbest Mcells Mgap Mwire Mstand Mruns Mminute (uZ Mhead (base + (Mrow p)) ((Mhead (base + (Mrow p))) + 1)) Mplays Mrests (uZ Mwent (base + (Mrow p)) ((Mwent (base + (Mrow p))) + 1)) Mout Mcame Mgone MlastOut) hw [0, 1, 2, 3, 4, 5, 6, 7, 8, 9, 10, 11, 12, 13, 14, 15, 16] [] rfl rfl (by decide) (by decide) hF9 hk9 ht9 hB9 hS9 [0, 1, 2, 3, 4, 5, 6, 7, 8, 9, 10, 11, 12, 13, 14, 15, 16] (by decide) rfl
                clear hF9 ht9 hvm9 hB9 hz9 hk9 hS9
                refine z_iconst hx hb dX8_goes_293 ?_
                refine z_icmp_ne (tgt := 318) hx hb dX8_goes_294 (by decide) (by omega) (fun hc_57 => ?_) (fun hc_57 => ?_)
                · skip
                  refine lv_aload_n hx hb dX8_goes_318 rfl (lv_at hl 0 rfl) ?_
                  refine lv_iload_n hx hb dX8_goes_319 rfl (lv_at hl 1 rfl) ?_
                  refine lv_iload hx hb dX8_goes_320 (lv_at hl 2 rfl) ?_
                  have hF9 := z_free (wc := kM cI cB cZ oM Mthrown Mmany Mguest Mrow Mbars Mbar Mfresh Mtape Mtaped Mpos Mtoken MtokenAt Mvalue Mwrong MwrongAt MfaultKind MfaultPlace Mthing Morder Mone Mtwo Mbest Mcells Mgap Mwire Mstand Mruns Mminute (uZ Mhead (base + (Mrow p)) ((Mhead (base + (Mrow p))) + 1)) Mplays Mrests (uZ Mwent (base + (Mrow p)) ((Mwent (base + (Mrow p))) + 1)) Mout Mcame Mgone MlastOut) hw hA [0, 1, 2, 3, 4, 5, 6, 7, 8, 9, 10, 11, 12, 13, 14, 15, 16] rfl
                  refine va_calli (va_runV (As := [.int (zI base), .int (zI (Mrow p))]) (rest := []) ⟨hx, hb, hml, hown, hts⟩ (c_X8_tail l D cI cB cZ oM H_53.size Mthrown Mmany Mguest Mrow Mbars Mbar Mfresh Mtape Mtaped Mpos Mtoken MtokenAt Mvalue Mwrong MwrongAt MfaultKind MfaultPlace Mthing Morder Mone Mtwo Mbest Mcells Mgap Mwire Mstand Mruns Mminute (uZ Mhead (base + (Mrow p)) ((Mhead (base + (Mrow p))) + 1)) Mplays Mrests (uZ Mwent (base + (Mrow p)) ((Mwent (base + (Mrow p))) + 1)) Mout Mcame Mgone MlastOut base (Mrow p) (by omega) (by omega) qMguest qMrow (by omega) qMbar qMfresh qMtape (by omega) (by omega) (by omega) (by omega) (by omega) (by omega) (by omega) (by omega) (by omega) (by omega) qMorder (by omega) (by omega) qMbest (by omega) (by omega) qMwire qMstand (by omega) (by omega) hR_37 qMplays qMrests hR_42 qMout qMcame qMgone (by omega) (by omega) (by omega)) (cwV 2 hts gX8_goes_X8_tail rfl rfl rfl (by decide +kernel) ⟨Nat.le_of_ble_eq_true rfl, Nat.le_of_ble_eq_true rfl⟩) ⟨zPre_blind, va_recv hK hw.1 (ci := 8) (q0 := 0) rfl rfl, z_pre hK hw [0, 1, 2, 3, 4, 5, 6, 7, 8, 9, 10, 11, 12, 13, 14, 15, 16] (by decide) rfl⟩ rfl rfl hl.1 rfl (lv_room (Nat.le_of_ble_eq_true rfl)) dX8_goes_322 ⟨Nat.zero_le _, Nat.zero_le _⟩) hw.2.2 (fun q _ h => hF9 q h) hF9 (fun r9 u9 t9 H_58 locs9 ht9 hvm9 hq9 hB9 hz9 hk9 hS9 => ?_)
                  obtain ⟨r_59, rfl⟩ : ∃ z, z = u9 := ⟨_, rfl⟩
                  try dsimp only at hq9 hB9
                  obtain ⟨rfl, hq9⟩ := hq9
                  obtain ⟨hq_60, hq_61⟩ := hq9
                  have hw : HW D A s.heap (kM cI cB cZ oM Mthrown Mmany Mguest Mrow Mbars Mbar Mfresh Mtape Mtaped Mpos Mtoken MtokenAt Mvalue Mwrong MwrongAt MfaultKind MfaultPlace Mthing Morder Mone Mtwo Mbest Mcells Mgap Mwire Mstand Mruns Mminute (uZ Mhead (base + (Mrow p)) ((Mhead (base + (Mrow p))) + 1)) Mplays Mrests (uZ Mwent (base + (Mrow p)) ((Mwent (base + (Mrow p))) + 1)) Mout Mcame Mgone MlastOut) H_58 locs9 := z_after (wc := kM cI cB cZ oM Mthrown Mmany Mguest Mrow Mbars Mbar Mfresh Mtape Mtaped Mpos Mtoken MtokenAt Mvalue Mwrong MwrongAt MfaultKind MfaultPlace Mthing Morder Mone Mtwo Mbest Mcells Mgap Mwire Mstand Mruns Mminute (uZ Mhead (base + (Mrow p)) ((Mhead (base + (Mrow p))) + 1)) Mplays Mrests (uZ Mwent (base + (Mrow p)) ((Mwent (base + (Mrow p))) + 1)) Mout Mcame Mgone MlastOut) hw [0, 1, 2, 3, 4, 5, 6, 7, 8, 9, 10, 11, 12, 13, 14, 15, 16] [] rfl rfl (by decide) (by decide) hF9 hk9 ht9 hB9 hS9 [0, 1, 2, 3, 4, 5, 6, 7, 8, 9, 10, 11, 12, 13, 14, 15, 16] (by decide) rfl
                  clear hF9 ht9 hvm9 hB9 hz9 hk9 hS9
                  refine lv_aload_n hx hb dX8_goes_325 rfl (lv_at hl 0 rfl) ?_
                  refine va_get (D := D) (ci := 8) (v := .int (zI Mcells)) (C := RX8) (T := TX8) (N := 36) hx hb hts hinX8 hown hK hw.1 0 rfl rfl 22 (by decide) (hts (.fieldLink RX8 35 "CarnivalRoadModel" "cells" "I") (by decide +kernel)) (fun _ h9 => h9) rfl dX8_goes_326 ?_
                  refine z_icmp_lt (tgt := 340) hx hb dX8_goes_329 (by decide) (by omega) (fun hc_62 => ?_) (fun hc_62 => ?_)
                  · skip
                    refine z_iconst hx hb dX8_goes_340 ?_
                    have hv_63 : (1 : Int) = 0 ∨ (1 : Int) = 1 := by
                      first | assumption | omega | grind
                    have hv_64 : goPost1 base (Mrow p) Mhead Mplays Mrests Mwent Mout (uZ Mhead (base + (Mrow p)) ((Mhead (base + (Mrow p))) + 1)) Mplays Mrests (uZ Mwent (base + (Mrow p)) ((Mwent (base + (Mrow p))) + 1)) Mout (goG ki le Mcells Mstand t (Mrow p) True (h, b, c, o)) (1 : Int) := by
                      exact go1_move hp4 (by omega) (by omega) (by assumption) (by assumption) (by omega) (fun k hk => ⟨by first | rfl | exact uZ_n hk, by first | rfl | exact uZ_n hk, by first | rfl | exact uZ_n hk⟩) (by (try simp only [uZ_s]); unfold busyF playF; ((repeat' split) <;> omega)) (by have e9 : uZ Mhead (base + Mrow p) (Mhead (base + Mrow p) + 1) (base + Mrow p) = Mhead (base + Mrow p) + 1 := uZ_s; first | exact Or.inl ⟨by omega, by first | exact uZ_s | omega⟩ | exact Or.inr ⟨by omega, by omega⟩)
                    exact W.zret (v := zI 1) hx hb hr rfl (fun t9 ht hW => ⟨⟨zI 1, (1, (uZ Mhead (base + (Mrow p)) ((Mhead (base + (Mrow p))) + 1)), Mplays, Mrests, (uZ Mwent (base + (Mrow p)) ((Mwent (base + (Mrow p))) + 1)), Mout), rfl, ⟨rfl, ⟨hR_37, qMplays, qMrests, hR_42, qMout, hv_63, hv_64⟩⟩, by subst hAe; exact z_end hK hw ht hW⟩, by subst hAe; exact hw.2.2.F ht⟩) (by subst hAe; exact hw.2.2.2.2) dX8_goes_341
                  · skip
                    refine lv_aload_n hx hb dX8_goes_332 rfl (lv_at hl 0 rfl) ?_
                    refine va_get (D := D) (ci := 8) (v := .ref (oM 14)) (C := RX8) (T := TX8) (N := 36) hx hb hts hinX8 hown hK hw.1 0 rfl rfl 32 (by decide) (hts (.fieldLink RX8 59 "CarnivalRoadModel" "out" "[Z") (by decide +kernel)) (fun _ h9 => h9) rfl dX8_goes_333 ?_
                    refine lv_iload hx hb dX8_goes_336 (lv_at hl 3 rfl) ?_
                    refine z_iconst hx hb dX8_goes_338 ?_
                    have hi_65 : (0 : Int) ≤ (base + (Mrow p)) ∧ (base + (Mrow p)) < ((16 : Nat) : Int) := by
                      omega
                    have hv_66 : (0 : Int) ≤ (1 : Int) ∧ (1 : Int) ≤ 1 := by
                      first | assumption | omega | grind
                    have hR_67 : RA (uZ Mout (base + (Mrow p)) 1) (0) 1 := RA_up qMout hv_66
                    refine z_zast (n := 16) (f := Mout) (ws2 := kM cI cB cZ oM Mthrown Mmany Mguest Mrow Mbars Mbar Mfresh Mtape Mtaped Mpos Mtoken MtokenAt Mvalue Mwrong MwrongAt MfaultKind MfaultPlace Mthing Morder Mone Mtwo Mbest Mcells Mgap Mwire Mstand Mruns Mminute (uZ Mhead (base + (Mrow p)) ((Mhead (base + (Mrow p))) + 1)) Mplays Mrests (uZ Mwent (base + (Mrow p)) ((Mwent (base + (Mrow p))) + 1)) (uZ Mout (base + (Mrow p)) 1) Mcame Mgone MlastOut) hx hb hK hw 14 rfl rfl (by decide) hi_65 dX8_goes_339 rfl (fun H locs hw => ?_)
                    refine z_iconst hx hb dX8_goes_340 ?_
                    have hv_68 : (1 : Int) = 0 ∨ (1 : Int) = 1 := by
                      first | assumption | omega | grind
                    have hv_69 : goPost1 base (Mrow p) Mhead Mplays Mrests Mwent Mout (uZ Mhead (base + (Mrow p)) ((Mhead (base + (Mrow p))) + 1)) Mplays Mrests (uZ Mwent (base + (Mrow p)) ((Mwent (base + (Mrow p))) + 1)) (uZ Mout (base + (Mrow p)) 1) (goG ki le Mcells Mstand t (Mrow p) True (h, b, c, o)) (1 : Int) := by
                      exact go1_move hp4 (by omega) (by omega) (by assumption) (by assumption) (by omega) (fun k hk => ⟨by first | rfl | exact uZ_n hk, by first | rfl | exact uZ_n hk, by first | rfl | exact uZ_n hk⟩) (by (try simp only [uZ_s]); unfold busyF playF; ((repeat' split) <;> omega)) (by have e9 : uZ Mhead (base + Mrow p) (Mhead (base + Mrow p) + 1) (base + Mrow p) = Mhead (base + Mrow p) + 1 := uZ_s; first | exact Or.inl ⟨by omega, by first | exact uZ_s | omega⟩ | exact Or.inr ⟨by omega, by omega⟩)
                    exact W.zret (v := zI 1) hx hb hr rfl (fun t9 ht hW => ⟨⟨zI 1, (1, (uZ Mhead (base + (Mrow p)) ((Mhead (base + (Mrow p))) + 1)), Mplays, Mrests, (uZ Mwent (base + (Mrow p)) ((Mwent (base + (Mrow p))) + 1)), (uZ Mout (base + (Mrow p)) 1)), rfl, ⟨rfl, ⟨hR_37, qMplays, qMrests, hR_42, hR_67, hv_68, hv_69⟩⟩, by subst hAe; exact z_end hK hw ht hW⟩, by subst hAe; exact hw.2.2.F ht⟩) (by subst hAe; exact hw.2.2.2.2) dX8_goes_341
                · skip
                  refine lv_aload_n hx hb dX8_goes_297 rfl (lv_at hl 0 rfl) ?_
                  refine va_get (D := D) (ci := 8) (v := .ref (oM 13)) (C := RX8) (T := TX8) (N := 36) hx hb hts hinX8 hown hK hw.1 0 rfl rfl 31 (by decide) (hts (.fieldLink RX8 56 "CarnivalRoadModel" "went" "[I") (by decide +kernel)) (fun _ h9 => h9) rfl dX8_goes_298 ?_
                  refine lv_iload hx hb dX8_goes_301 (lv_at hl 3 rfl) ?_
                  have hi_70 : (0 : Int) ≤ (base + (Mrow p)) ∧ (base + (Mrow p)) < ((16 : Nat) : Int) := by
                    omega
                  refine z_iald (n := 16) (f := (uZ Mwent (base + (Mrow p)) ((Mwent (base + (Mrow p))) + 1))) hx hb hK hw 13 rfl (by decide) hi_70 dX8_goes_303 ?_
                  rw [uZ_s]
                  refine z_bipush hx hb dX8_goes_304 (by decide) ?_
                  have hbit_71 : zI ((Mwent (base + (Mrow p))) + 1) - zI ((Mwent (base + (Mrow p))) + 1) / zI 10 * zI 10 = zI (((Mwent (base + (Mrow p))) + 1) % (10 : Int)) := by
                    exact z_rem (by omega) (by omega)
                  refine lv_irem hx hb dX8_goes_306 (fun q => by have q2 := (zI_eq (by omega) (by omega)).mp (show zI 10 = zI 0 from q); omega) ?_
                  rw [hbit_71]
                  clear hbit_71
                  refine z_if_ne (tgt := 318) hx hb dX8_goes_307 (by decide) (by omega) (fun hc_72 => ?_) (fun hc_72 => ?_)
                  · skip
                    refine lv_aload_n hx hb dX8_goes_318 rfl (lv_at hl 0 rfl) ?_
                    refine lv_iload_n hx hb dX8_goes_319 rfl (lv_at hl 1 rfl) ?_
                    refine lv_iload hx hb dX8_goes_320 (lv_at hl 2 rfl) ?_
                    have hF9 := z_free (wc := kM cI cB cZ oM Mthrown Mmany Mguest Mrow Mbars Mbar Mfresh Mtape Mtaped Mpos Mtoken MtokenAt Mvalue Mwrong MwrongAt MfaultKind MfaultPlace Mthing Morder Mone Mtwo Mbest Mcells Mgap Mwire Mstand Mruns Mminute (uZ Mhead (base + (Mrow p)) ((Mhead (base + (Mrow p))) + 1)) Mplays Mrests (uZ Mwent (base + (Mrow p)) ((Mwent (base + (Mrow p))) + 1)) Mout Mcame Mgone MlastOut) hw hA [0, 1, 2, 3, 4, 5, 6, 7, 8, 9, 10, 11, 12, 13, 14, 15, 16] rfl
                    refine va_calli (va_runV (As := [.int (zI base), .int (zI (Mrow p))]) (rest := []) ⟨hx, hb, hml, hown, hts⟩ (c_X8_tail l D cI cB cZ oM H_53.size Mthrown Mmany Mguest Mrow Mbars Mbar Mfresh Mtape Mtaped Mpos Mtoken MtokenAt Mvalue Mwrong MwrongAt MfaultKind MfaultPlace Mthing Morder Mone Mtwo Mbest Mcells Mgap Mwire Mstand Mruns Mminute (uZ Mhead (base + (Mrow p)) ((Mhead (base + (Mrow p))) + 1)) Mplays Mrests (uZ Mwent (base + (Mrow p)) ((Mwent (base + (Mrow p))) + 1)) Mout Mcame Mgone MlastOut base (Mrow p) (by omega) (by omega) qMguest qMrow (by omega) qMbar qMfresh qMtape (by omega) (by omega) (by omega) (by omega) (by omega) (by omega) (by omega) (by omega) (by omega) (by omega) qMorder (by omega) (by omega) qMbest (by omega) (by omega) qMwire qMstand (by omega) (by omega) hR_37 qMplays qMrests hR_42 qMout qMcame qMgone (by omega) (by omega) (by omega)) (cwV 2 hts gX8_goes_X8_tail rfl rfl rfl (by decide +kernel) ⟨Nat.le_of_ble_eq_true rfl, Nat.le_of_ble_eq_true rfl⟩) ⟨zPre_blind, va_recv hK hw.1 (ci := 8) (q0 := 0) rfl rfl, z_pre hK hw [0, 1, 2, 3, 4, 5, 6, 7, 8, 9, 10, 11, 12, 13, 14, 15, 16] (by decide) rfl⟩ rfl rfl hl.1 rfl (lv_room (Nat.le_of_ble_eq_true rfl)) dX8_goes_322 ⟨Nat.zero_le _, Nat.zero_le _⟩) hw.2.2 (fun q _ h => hF9 q h) hF9 (fun r9 u9 t9 H_73 locs9 ht9 hvm9 hq9 hB9 hz9 hk9 hS9 => ?_)
                    obtain ⟨r_74, rfl⟩ : ∃ z, z = u9 := ⟨_, rfl⟩
                    try dsimp only at hq9 hB9
                    obtain ⟨rfl, hq9⟩ := hq9
                    obtain ⟨hq_75, hq_76⟩ := hq9
                    have hw : HW D A s.heap (kM cI cB cZ oM Mthrown Mmany Mguest Mrow Mbars Mbar Mfresh Mtape Mtaped Mpos Mtoken MtokenAt Mvalue Mwrong MwrongAt MfaultKind MfaultPlace Mthing Morder Mone Mtwo Mbest Mcells Mgap Mwire Mstand Mruns Mminute (uZ Mhead (base + (Mrow p)) ((Mhead (base + (Mrow p))) + 1)) Mplays Mrests (uZ Mwent (base + (Mrow p)) ((Mwent (base + (Mrow p))) + 1)) Mout Mcame Mgone MlastOut) H_73 locs9 := z_after (wc := kM cI cB cZ oM Mthrown Mmany Mguest Mrow Mbars Mbar Mfresh Mtape Mtaped Mpos Mtoken MtokenAt Mvalue Mwrong MwrongAt MfaultKind MfaultPlace Mthing Morder Mone Mtwo Mbest Mcells Mgap Mwire Mstand Mruns Mminute (uZ Mhead (base + (Mrow p)) ((Mhead (base + (Mrow p))) + 1)) Mplays Mrests (uZ Mwent (base + (Mrow p)) ((Mwent (base + (Mrow p))) + 1)) Mout Mcame Mgone MlastOut) hw [0, 1, 2, 3, 4, 5, 6, 7, 8, 9, 10, 11, 12, 13, 14, 15, 16] [] rfl rfl (by decide) (by decide) hF9 hk9 ht9 hB9 hS9 [0, 1, 2, 3, 4, 5, 6, 7, 8, 9, 10, 11, 12, 13, 14, 15, 16] (by decide) rfl
                    clear hF9 ht9 hvm9 hB9 hz9 hk9 hS9
                    refine lv_aload_n hx hb dX8_goes_325 rfl (lv_at hl 0 rfl) ?_
                    refine va_get (D := D) (ci := 8) (v := .int (zI Mcells)) (C := RX8) (T := TX8) (N := 36) hx hb hts hinX8 hown hK hw.1 0 rfl rfl 22 (by decide) (hts (.fieldLink RX8 35 "CarnivalRoadModel" "cells" "I") (by decide +kernel)) (fun _ h9 => h9) rfl dX8_goes_326 ?_
                    refine z_icmp_lt (tgt := 340) hx hb dX8_goes_329 (by decide) (by omega) (fun hc_77 => ?_) (fun hc_77 => ?_)
                    · skip
                      refine z_iconst hx hb dX8_goes_340 ?_
                      have hv_78 : (1 : Int) = 0 ∨ (1 : Int) = 1 := by
                        first | assumption | omega | grind
                      have hv_79 : goPost1 base (Mrow p) Mhead Mplays Mrests Mwent Mout (uZ Mhead (base + (Mrow p)) ((Mhead (base + (Mrow p))) + 1)) Mplays Mrests (uZ Mwent (base + (Mrow p)) ((Mwent (base + (Mrow p))) + 1)) Mout (goG ki le Mcells Mstand t (Mrow p) True (h, b, c, o)) (1 : Int) := by
                        exact go1_move hp4 (by omega) (by omega) (by assumption) (by assumption) (by omega) (fun k hk => ⟨by first | rfl | exact uZ_n hk, by first | rfl | exact uZ_n hk, by first | rfl | exact uZ_n hk⟩) (by (try simp only [uZ_s]); unfold busyF playF; ((repeat' split) <;> omega)) (by have e9 : uZ Mhead (base + Mrow p) (Mhead (base + Mrow p) + 1) (base + Mrow p) = Mhead (base + Mrow p) + 1 := uZ_s; first | exact Or.inl ⟨by omega, by first | exact uZ_s | omega⟩ | exact Or.inr ⟨by omega, by omega⟩)
                      exact W.zret (v := zI 1) hx hb hr rfl (fun t9 ht hW => ⟨⟨zI 1, (1, (uZ Mhead (base + (Mrow p)) ((Mhead (base + (Mrow p))) + 1)), Mplays, Mrests, (uZ Mwent (base + (Mrow p)) ((Mwent (base + (Mrow p))) + 1)), Mout), rfl, ⟨rfl, ⟨hR_37, qMplays, qMrests, hR_42, qMout, hv_78, hv_79⟩⟩, by subst hAe; exact z_end hK hw ht hW⟩, by subst hAe; exact hw.2.2.F ht⟩) (by subst hAe; exact hw.2.2.2.2) dX8_goes_341
                    · skip
                      refine lv_aload_n hx hb dX8_goes_332 rfl (lv_at hl 0 rfl) ?_
                      refine va_get (D := D) (ci := 8) (v := .ref (oM 14)) (C := RX8) (T := TX8) (N := 36) hx hb hts hinX8 hown hK hw.1 0 rfl rfl 32 (by decide) (hts (.fieldLink RX8 59 "CarnivalRoadModel" "out" "[Z") (by decide +kernel)) (fun _ h9 => h9) rfl dX8_goes_333 ?_
                      refine lv_iload hx hb dX8_goes_336 (lv_at hl 3 rfl) ?_
                      refine z_iconst hx hb dX8_goes_338 ?_
                      have hi_80 : (0 : Int) ≤ (base + (Mrow p)) ∧ (base + (Mrow p)) < ((16 : Nat) : Int) := by
                        omega
                      have hv_81 : (0 : Int) ≤ (1 : Int) ∧ (1 : Int) ≤ 1 := by
                        first | assumption | omega | grind
                      have hR_82 : RA (uZ Mout (base + (Mrow p)) 1) (0) 1 := RA_up qMout hv_81
                      refine z_zast (n := 16) (f := Mout) (ws2 := kM cI cB cZ oM Mthrown Mmany Mguest Mrow Mbars Mbar Mfresh Mtape Mtaped Mpos Mtoken MtokenAt Mvalue Mwrong MwrongAt MfaultKind MfaultPlace Mthing Morder Mone Mtwo Mbest Mcells Mgap Mwire Mstand Mruns Mminute (uZ Mhead (base + (Mrow p)) ((Mhead (base + (Mrow p))) + 1)) Mplays Mrests (uZ Mwent (base + (Mrow p)) ((Mwent (base + (Mrow p))) + 1)) (uZ Mout (base + (Mrow p)) 1) Mcame Mgone MlastOut) hx hb hK hw 14 rfl rfl (by decide) hi_80 dX8_goes_339 rfl (fun H locs hw => ?_)
                      refine z_iconst hx hb dX8_goes_340 ?_
                      have hv_83 : (1 : Int) = 0 ∨ (1 : Int) = 1 := by
                        first | assumption | omega | grind
                      have hv_84 : goPost1 base (Mrow p) Mhead Mplays Mrests Mwent Mout (uZ Mhead (base + (Mrow p)) ((Mhead (base + (Mrow p))) + 1)) Mplays Mrests (uZ Mwent (base + (Mrow p)) ((Mwent (base + (Mrow p))) + 1)) (uZ Mout (base + (Mrow p)) 1) (goG ki le Mcells Mstand t (Mrow p) True (h, b, c, o)) (1 : Int) := by
                        exact go1_move hp4 (by omega) (by omega) (by assumption) (by assumption) (by omega) (fun k hk => ⟨by first | rfl | exact uZ_n hk, by first | rfl | exact uZ_n hk, by first | rfl | exact uZ_n hk⟩) (by (try simp only [uZ_s]); unfold busyF playF; ((repeat' split) <;> omega)) (by have e9 : uZ Mhead (base + Mrow p) (Mhead (base + Mrow p) + 1) (base + Mrow p) = Mhead (base + Mrow p) + 1 := uZ_s; first | exact Or.inl ⟨by omega, by first | exact uZ_s | omega⟩ | exact Or.inr ⟨by omega, by omega⟩)
                      exact W.zret (v := zI 1) hx hb hr rfl (fun t9 ht hW => ⟨⟨zI 1, (1, (uZ Mhead (base + (Mrow p)) ((Mhead (base + (Mrow p))) + 1)), Mplays, Mrests, (uZ Mwent (base + (Mrow p)) ((Mwent (base + (Mrow p))) + 1)), (uZ Mout (base + (Mrow p)) 1)), rfl, ⟨rfl, ⟨hR_37, qMplays, qMrests, hR_42, hR_82, hv_83, hv_84⟩⟩, by subst hAe; exact z_end hK hw ht hW⟩, by subst hAe; exact hw.2.2.F ht⟩) (by subst hAe; exact hw.2.2.2.2) dX8_goes_341
                  · skip
                    refine lv_aload_n hx hb dX8_goes_310 rfl (lv_at hl 0 rfl) ?_
                    refine va_get (D := D) (ci := 8) (v := .ref (oM 12)) (C := RX8) (T := TX8) (N := 36) hx hb hts hinX8 hown hK hw.1 0 rfl rfl 30 (by decide) (hts (.fieldLink RX8 53 "CarnivalRoadModel" "rests" "[I") (by decide +kernel)) (fun _ h9 => h9) rfl dX8_goes_311 ?_
                    refine lv_iload hx hb dX8_goes_314 (lv_at hl 3 rfl) ?_
                    refine z_iconst hx hb dX8_goes_316 ?_
                    have hi_85 : (0 : Int) ≤ (base + (Mrow p)) ∧ (base + (Mrow p)) < ((16 : Nat) : Int) := by
                      omega
                    have hv_86 : (0 : Int) ≤ (3 : Int) ∧ (3 : Int) ≤ 3 := by
                      first | assumption | omega | grind
                    have hR_87 : RA (uZ Mrests (base + (Mrow p)) 3) (0) 3 := RA_up qMrests hv_86
                    refine z_iast (n := 16) (f := Mrests) (ws2 := kM cI cB cZ oM Mthrown Mmany Mguest Mrow Mbars Mbar Mfresh Mtape Mtaped Mpos Mtoken MtokenAt Mvalue Mwrong MwrongAt MfaultKind MfaultPlace Mthing Morder Mone Mtwo Mbest Mcells Mgap Mwire Mstand Mruns Mminute (uZ Mhead (base + (Mrow p)) ((Mhead (base + (Mrow p))) + 1)) Mplays (uZ Mrests (base + (Mrow p)) 3) (uZ Mwent (base + (Mrow p)) ((Mwent (base + (Mrow p))) + 1)) Mout Mcame Mgone MlastOut) hx hb hK hw 12 rfl (by decide) hi_85 dX8_goes_317 rfl (fun H locs hw => ?_)
                    refine lv_aload_n hx hb dX8_goes_318 rfl (lv_at hl 0 rfl) ?_
                    refine lv_iload_n hx hb dX8_goes_319 rfl (lv_at hl 1 rfl) ?_
                    refine lv_iload hx hb dX8_goes_320 (lv_at hl 2 rfl) ?_
                    have hF9 := z_free (wc := kM cI cB cZ oM Mthrown Mmany Mguest Mrow Mbars Mbar Mfresh Mtape Mtaped Mpos Mtoken MtokenAt Mvalue Mwrong MwrongAt MfaultKind MfaultPlace Mthing Morder Mone Mtwo Mbest Mcells Mgap Mwire Mstand Mruns Mminute (uZ Mhead (base + (Mrow p)) ((Mhead (base + (Mrow p))) + 1)) Mplays (uZ Mrests (base + (Mrow p)) 3) (uZ Mwent (base + (Mrow p)) ((Mwent (base + (Mrow p))) + 1)) Mout Mcame Mgone MlastOut) hw hA [0, 1, 2, 3, 4, 5, 6, 7, 8, 9, 10, 11, 12, 13, 14, 15, 16] rfl
                    refine va_calli (va_runV (As := [.int (zI base), .int (zI (Mrow p))]) (rest := []) ⟨hx, hb, hml, hown, hts⟩ (c_X8_tail l D cI cB cZ oM H.size Mthrown Mmany Mguest Mrow Mbars Mbar Mfresh Mtape Mtaped Mpos Mtoken MtokenAt Mvalue Mwrong MwrongAt MfaultKind MfaultPlace Mthing Morder Mone Mtwo Mbest Mcells Mgap Mwire Mstand Mruns Mminute (uZ Mhead (base + (Mrow p)) ((Mhead (base + (Mrow p))) + 1)) Mplays (uZ Mrests (base + (Mrow p)) 3) (uZ Mwent (base + (Mrow p)) ((Mwent (base + (Mrow p))) + 1)) Mout Mcame Mgone MlastOut base (Mrow p) (by omega) (by omega) qMguest qMrow (by omega) qMbar qMfresh qMtape (by omega) (by omega) (by omega) (by omega) (by omega) (by omega) (by omega) (by omega) (by omega) (by omega) qMorder (by omega) (by omega) qMbest (by omega) (by omega) qMwire qMstand (by omega) (by omega) hR_37 qMplays hR_87 hR_42 qMout qMcame qMgone (by omega) (by omega) (by omega)) (cwV 2 hts gX8_goes_X8_tail rfl rfl rfl (by decide +kernel) ⟨Nat.le_of_ble_eq_true rfl, Nat.le_of_ble_eq_true rfl⟩) ⟨zPre_blind, va_recv hK hw.1 (ci := 8) (q0 := 0) rfl rfl, z_pre hK hw [0, 1, 2, 3, 4, 5, 6, 7, 8, 9, 10, 11, 12, 13, 14, 15, 16] (by decide) rfl⟩ rfl rfl hl.1 rfl (lv_room (Nat.le_of_ble_eq_true rfl)) dX8_goes_322 ⟨Nat.zero_le _, Nat.zero_le _⟩) hw.2.2 (fun q _ h => hF9 q h) hF9 (fun r9 u9 t9 H_88 locs9 ht9 hvm9 hq9 hB9 hz9 hk9 hS9 => ?_)
                    obtain ⟨r_89, rfl⟩ : ∃ z, z = u9 := ⟨_, rfl⟩
                    try dsimp only at hq9 hB9
                    obtain ⟨rfl, hq9⟩ := hq9
                    obtain ⟨hq_90, hq_91⟩ := hq9
                    have hw : HW D A s.heap (kM cI cB cZ oM Mthrown Mmany Mguest Mrow Mbars Mbar Mfresh Mtape Mtaped Mpos Mtoken MtokenAt Mvalue Mwrong MwrongAt MfaultKind MfaultPlace Mthing Morder Mone Mtwo Mbest Mcells Mgap Mwire Mstand Mruns Mminute (uZ Mhead (base + (Mrow p)) ((Mhead (base + (Mrow p))) + 1)) Mplays (uZ Mrests (base + (Mrow p)) 3) (uZ Mwent (base + (Mrow p)) ((Mwent (base + (Mrow p))) + 1)) Mout Mcame Mgone MlastOut) H_88 locs9 := z_after (wc := kM cI cB cZ oM Mthrown Mmany Mguest Mrow Mbars Mbar Mfresh Mtape Mtaped Mpos Mtoken MtokenAt Mvalue Mwrong MwrongAt MfaultKind MfaultPlace Mthing Morder Mone Mtwo Mbest Mcells Mgap Mwire Mstand Mruns Mminute (uZ Mhead (base + (Mrow p)) ((Mhead (base + (Mrow p))) + 1)) Mplays (uZ Mrests (base + (Mrow p)) 3) (uZ Mwent (base + (Mrow p)) ((Mwent (base + (Mrow p))) + 1)) Mout Mcame Mgone MlastOut) hw [0, 1, 2, 3, 4, 5, 6, 7, 8, 9, 10, 11, 12, 13, 14, 15, 16] [] rfl rfl (by decide) (by decide) hF9 hk9 ht9 hB9 hS9 [0, 1, 2, 3, 4, 5, 6, 7, 8, 9, 10, 11, 12, 13, 14, 15, 16] (by decide) rfl
                    clear hF9 ht9 hvm9 hB9 hz9 hk9 hS9
                    refine lv_aload_n hx hb dX8_goes_325 rfl (lv_at hl 0 rfl) ?_
                    refine va_get (D := D) (ci := 8) (v := .int (zI Mcells)) (C := RX8) (T := TX8) (N := 36) hx hb hts hinX8 hown hK hw.1 0 rfl rfl 22 (by decide) (hts (.fieldLink RX8 35 "CarnivalRoadModel" "cells" "I") (by decide +kernel)) (fun _ h9 => h9) rfl dX8_goes_326 ?_
                    refine z_icmp_lt (tgt := 340) hx hb dX8_goes_329 (by decide) (by omega) (fun hc_92 => ?_) (fun hc_92 => ?_)
                    · skip
                      refine z_iconst hx hb dX8_goes_340 ?_
                      have hv_93 : (1 : Int) = 0 ∨ (1 : Int) = 1 := by
                        first | assumption | omega | grind
                      have hv_94 : goPost1 base (Mrow p) Mhead Mplays Mrests Mwent Mout (uZ Mhead (base + (Mrow p)) ((Mhead (base + (Mrow p))) + 1)) Mplays (uZ Mrests (base + (Mrow p)) 3) (uZ Mwent (base + (Mrow p)) ((Mwent (base + (Mrow p))) + 1)) Mout (goG ki le Mcells Mstand t (Mrow p) True (h, b, c, o)) (1 : Int) := by
                        exact go1_move hp4 (by omega) (by omega) (by assumption) (by assumption) (by omega) (fun k hk => ⟨by first | rfl | exact uZ_n hk, by first | rfl | exact uZ_n hk, by first | rfl | exact uZ_n hk⟩) (by (try simp only [uZ_s]); unfold busyF playF; ((repeat' split) <;> omega)) (by have e9 : uZ Mhead (base + Mrow p) (Mhead (base + Mrow p) + 1) (base + Mrow p) = Mhead (base + Mrow p) + 1 := uZ_s; first | exact Or.inl ⟨by omega, by first | exact uZ_s | omega⟩ | exact Or.inr ⟨by omega, by omega⟩)
                      exact W.zret (v := zI 1) hx hb hr rfl (fun t9 ht hW => ⟨⟨zI 1, (1, (uZ Mhead (base + (Mrow p)) ((Mhead (base + (Mrow p))) + 1)), Mplays, (uZ Mrests (base + (Mrow p)) 3), (uZ Mwent (base + (Mrow p)) ((Mwent (base + (Mrow p))) + 1)), Mout), rfl, ⟨rfl, ⟨hR_37, qMplays, hR_87, hR_42, qMout, hv_93, hv_94⟩⟩, by subst hAe; exact z_end hK hw ht hW⟩, by subst hAe; exact hw.2.2.F ht⟩) (by subst hAe; exact hw.2.2.2.2) dX8_goes_341
                    · skip
                      refine lv_aload_n hx hb dX8_goes_332 rfl (lv_at hl 0 rfl) ?_
                      refine va_get (D := D) (ci := 8) (v := .ref (oM 14)) (C := RX8) (T := TX8) (N := 36) hx hb hts hinX8 hown hK hw.1 0 rfl rfl 32 (by decide) (hts (.fieldLink RX8 59 "CarnivalRoadModel" "out" "[Z") (by decide +kernel)) (fun _ h9 => h9) rfl dX8_goes_333 ?_
                      refine lv_iload hx hb dX8_goes_336 (lv_at hl 3 rfl) ?_
                      refine z_iconst hx hb dX8_goes_338 ?_
                      have hi_95 : (0 : Int) ≤ (base + (Mrow p)) ∧ (base + (Mrow p)) < ((16 : Nat) : Int) := by
                        omega
                      have hv_96 : (0 : Int) ≤ (1 : Int) ∧ (1 : Int) ≤ 1 := by
                        first | assumption | omega | grind
                      have hR_97 : RA (uZ Mout (base + (Mrow p)) 1) (0) 1 := RA_up qMout hv_96
                      refine z_zast (n := 16) (f := Mout) (ws2 := kM cI cB cZ oM Mthrown Mmany Mguest Mrow Mbars Mbar Mfresh Mtape Mtaped Mpos Mtoken MtokenAt Mvalue Mwrong MwrongAt MfaultKind MfaultPlace Mthing Morder Mone Mtwo Mbest Mcells Mgap Mwire Mstand Mruns Mminute (uZ Mhead (base + (Mrow p)) ((Mhead (base + (Mrow p))) + 1)) Mplays (uZ Mrests (base + (Mrow p)) 3) (uZ Mwent (base + (Mrow p)) ((Mwent (base + (Mrow p))) + 1)) (uZ Mout (base + (Mrow p)) 1) Mcame Mgone MlastOut) hx hb hK hw 14 rfl rfl (by decide) hi_95 dX8_goes_339 rfl (fun H locs hw => ?_)
                      refine z_iconst hx hb dX8_goes_340 ?_
                      have hv_98 : (1 : Int) = 0 ∨ (1 : Int) = 1 := by
                        first | assumption | omega | grind
                      have hv_99 : goPost1 base (Mrow p) Mhead Mplays Mrests Mwent Mout (uZ Mhead (base + (Mrow p)) ((Mhead (base + (Mrow p))) + 1)) Mplays (uZ Mrests (base + (Mrow p)) 3) (uZ Mwent (base + (Mrow p)) ((Mwent (base + (Mrow p))) + 1)) (uZ Mout (base + (Mrow p)) 1) (goG ki le Mcells Mstand t (Mrow p) True (h, b, c, o)) (1 : Int) := by
                        exact go1_move hp4 (by omega) (by omega) (by assumption) (by assumption) (by omega) (fun k hk => ⟨by first | rfl | exact uZ_n hk, by first | rfl | exact uZ_n hk, by first | rfl | exact uZ_n hk⟩) (by (try simp only [uZ_s]); unfold busyF playF; ((repeat' split) <;> omega)) (by have e9 : uZ Mhead (base + Mrow p) (Mhead (base + Mrow p) + 1) (base + Mrow p) = Mhead (base + Mrow p) + 1 := uZ_s; first | exact Or.inl ⟨by omega, by first | exact uZ_s | omega⟩ | exact Or.inr ⟨by omega, by omega⟩)
                      exact W.zret (v := zI 1) hx hb hr rfl (fun t9 ht hW => ⟨⟨zI 1, (1, (uZ Mhead (base + (Mrow p)) ((Mhead (base + (Mrow p))) + 1)), Mplays, (uZ Mrests (base + (Mrow p)) 3), (uZ Mwent (base + (Mrow p)) ((Mwent (base + (Mrow p))) + 1)), (uZ Mout (base + (Mrow p)) 1)), rfl, ⟨rfl, ⟨hR_37, qMplays, hR_87, hR_42, hR_97, hv_98, hv_99⟩⟩, by subst hAe; exact z_end hK hw ht hW⟩, by subst hAe; exact hw.2.2.F ht⟩) (by subst hAe; exact hw.2.2.2.2) dX8_goes_341
              · skip
                refine lv_aload_n hx hb dX8_goes_239 rfl (lv_at hl 0 rfl) ?_
                refine va_get (D := D) (ci := 8) (v := .ref (oM 11)) (C := RX8) (T := TX8) (N := 36) hx hb hts hinX8 hown hK hw.1 0 rfl rfl 29 (by decide) (hts (.fieldLink RX8 50 "CarnivalRoadModel" "plays" "[I") (by decide +kernel)) (fun _ h9 => h9) rfl dX8_goes_240 ?_
                refine lv_iload hx hb dX8_goes_243 (lv_at hl 3 rfl) ?_
                refine lv_aload_n hx hb dX8_goes_245 rfl (lv_at hl 0 rfl) ?_
                refine lv_iload hx hb dX8_goes_246 (lv_at hl 2 rfl) ?_
                refine z_iconst hx hb dX8_goes_248 ?_
                have hF9 := z_free (wc := kM cI cB cZ oM Mthrown Mmany Mguest Mrow Mbars Mbar Mfresh Mtape Mtaped Mpos Mtoken MtokenAt Mvalue Mwrong MwrongAt MfaultKind MfaultPlace Mthing Morder Mone Mtwo Mbest Mcells Mgap Mwire Mstand Mruns Mminute (uZ Mhead (base + (Mrow p)) ((Mhead (base + (Mrow p))) + 1)) Mplays Mrests (uZ Mwent (base + (Mrow p)) ((Mwent (base + (Mrow p))) + 1)) Mout Mcame Mgone MlastOut) hw hA [0, 1, 2, 3, 4, 5, 6, 7, 8, 9, 10, 11, 12, 13, 14, 15, 16] rfl
                refine va_calli (va_runV (As := [.int (zI (Mrow p)), .int (zI 0)]) (rest := [.int (zI (base + (Mrow p))), .ref (oM 11)]) ⟨hx, hb, hml, hown, hts⟩ (c_X8_get l D cI cB cZ oM H_44.size Mthrown Mmany Mguest Mrow Mbars Mbar Mfresh Mtape Mtaped Mpos Mtoken MtokenAt Mvalue Mwrong MwrongAt MfaultKind MfaultPlace Mthing Morder Mone Mtwo Mbest Mcells Mgap Mwire Mstand Mruns Mminute (uZ Mhead (base + (Mrow p)) ((Mhead (base + (Mrow p))) + 1)) Mplays Mrests (uZ Mwent (base + (Mrow p)) ((Mwent (base + (Mrow p))) + 1)) Mout Mcame Mgone MlastOut (Mrow p) 0 (by omega) (by omega) qMguest qMrow (by omega) qMbar qMfresh qMtape (by omega) (by omega) (by omega) (by omega) (by omega) (by omega) (by omega) (by omega) (by omega) (by omega) qMorder (by omega) (by omega) qMbest (by omega) (by omega) qMwire qMstand (by omega) (by omega) hR_37 qMplays qMrests hR_42 qMout qMcame qMgone (by omega) (by omega) (by omega)) (cwV 2 hts gX8_goes_X8_get rfl rfl rfl (by decide +kernel) ⟨Nat.le_of_ble_eq_true rfl, Nat.le_of_ble_eq_true rfl⟩) ⟨zPre_blind, va_recv hK hw.1 (ci := 8) (q0 := 0) rfl rfl, z_pre hK hw [0, 1, 2, 3, 4, 5, 6, 7, 8, 9, 10, 11, 12, 13, 14, 15, 16] (by decide) rfl⟩ rfl rfl hl.1 rfl (lv_room (Nat.le_of_ble_eq_true rfl)) dX8_goes_249 ⟨Nat.zero_le _, Nat.zero_le _⟩) hw.2.2 (fun q _ h => hF9 q h) hF9 (fun r9 u9 t9 H_100 locs9 ht9 hvm9 hq9 hB9 hz9 hk9 hS9 => ?_)
                obtain ⟨r_101, rfl⟩ : ∃ z, z = u9 := ⟨_, rfl⟩
                try dsimp only at hq9 hB9
                obtain ⟨rfl, hq9⟩ := hq9
                obtain ⟨hq_102, hq_103⟩ := hq9
                have hw : HW D A s.heap (kM cI cB cZ oM Mthrown Mmany Mguest Mrow Mbars Mbar Mfresh Mtape Mtaped Mpos Mtoken MtokenAt Mvalue Mwrong MwrongAt MfaultKind MfaultPlace Mthing Morder Mone Mtwo Mbest Mcells Mgap Mwire Mstand Mruns Mminute (uZ Mhead (base + (Mrow p)) ((Mhead (base + (Mrow p))) + 1)) Mplays Mrests (uZ Mwent (base + (Mrow p)) ((Mwent (base + (Mrow p))) + 1)) Mout Mcame Mgone MlastOut) H_100 locs9 := z_after (wc := kM cI cB cZ oM Mthrown Mmany Mguest Mrow Mbars Mbar Mfresh Mtape Mtaped Mpos Mtoken MtokenAt Mvalue Mwrong MwrongAt MfaultKind MfaultPlace Mthing Morder Mone Mtwo Mbest Mcells Mgap Mwire Mstand Mruns Mminute (uZ Mhead (base + (Mrow p)) ((Mhead (base + (Mrow p))) + 1)) Mplays Mrests (uZ Mwent (base + (Mrow p)) ((Mwent (base + (Mrow p))) + 1)) Mout Mcame Mgone MlastOut) hw [0, 1, 2, 3, 4, 5, 6, 7, 8, 9, 10, 11, 12, 13, 14, 15, 16] [] rfl rfl (by decide) (by decide) hF9 hk9 ht9 hB9 hS9 [0, 1, 2, 3, 4, 5, 6, 7, 8, 9, 10, 11, 12, 13, 14, 15, 16] (by decide) rfl
                clear hF9 ht9 hvm9 hB9 hz9 hk9 hS9
                refine z_iconst hx hb dX8_goes_252 ?_
                refine z_icmp_ne (tgt := 273) hx hb dX8_goes_253 (by decide) (by omega) (fun hc_104 => ?_) (fun hc_104 => ?_)
                · skip
                  refine lv_aload_n hx hb dX8_goes_273 rfl (lv_at hl 0 rfl) ?_
                  refine va_get (D := D) (ci := 8) (v := .ref (oM 9)) (C := RX8) (T := TX8) (N := 36) hx hb hts hinX8 hown hK hw.1 0 rfl rfl 25 (by decide) (hts (.fieldLink RX8 44 "CarnivalRoadModel" "stand" "[I") (by decide +kernel)) (fun _ h9 => h9) rfl dX8_goes_274 ?_
                  refine lv_aload_n hx hb dX8_goes_277 rfl (lv_at hl 0 rfl) ?_
                  refine va_get (D := D) (ci := 8) (v := .ref (oM 10)) (C := RX8) (T := TX8) (N := 36) hx hb hts hinX8 hown hK hw.1 0 rfl rfl 28 (by decide) (hts (.fieldLink RX8 47 "CarnivalRoadModel" "head" "[I") (by decide +kernel)) (fun _ h9 => h9) rfl dX8_goes_278 ?_
                  refine lv_iload hx hb dX8_goes_281 (lv_at hl 3 rfl) ?_
                  have hi_105 : (0 : Int) ≤ (base + (Mrow p)) ∧ (base + (Mrow p)) < ((16 : Nat) : Int) := by
                    omega
                  refine z_iald (n := 16) (f := (uZ Mhead (base + (Mrow p)) ((Mhead (base + (Mrow p))) + 1))) hx hb hK hw 10 rfl (by decide) hi_105 dX8_goes_283 ?_
                  rw [uZ_s]
                  have hi_106 : (0 : Int) ≤ ((Mhead (base + (Mrow p))) + 1) ∧ ((Mhead (base + (Mrow p))) + 1) < ((50 : Nat) : Int) := by
                    omega
                  refine z_iald (n := 50) (f := Mstand) hx hb hK hw 9 rfl (by decide) hi_106 dX8_goes_284 ?_
                  have hq_107 : 0 ≤ Mstand ((Mhead (base + (Mrow p))) + 1) ∧ Mstand ((Mhead (base + (Mrow p))) + 1) ≤ 9 := qMstand ((Mhead (base + (Mrow p))) + 1)
                  have hi_108 : (0 : Int) ≤ (base + (Mrow p)) ∧ (base + (Mrow p)) < ((16 : Nat) : Int) := by
                    omega
                  have hv_109 : (0 : Int) ≤ (Mstand ((Mhead (base + (Mrow p))) + 1)) ∧ (Mstand ((Mhead (base + (Mrow p))) + 1)) ≤ 18 := by
                    first | assumption | omega | grind
                  have hR_110 : RA (uZ Mplays (base + (Mrow p)) (Mstand ((Mhead (base + (Mrow p))) + 1))) (0) 18 := RA_up qMplays hv_109
                  refine z_iast (n := 16) (f := Mplays) (ws2 := kM cI cB cZ oM Mthrown Mmany Mguest Mrow Mbars Mbar Mfresh Mtape Mtaped Mpos Mtoken MtokenAt Mvalue Mwrong MwrongAt MfaultKind MfaultPlace Mthing Morder Mone Mtwo Mbest Mcells Mgap Mwire Mstand Mruns Mminute (uZ Mhead (base + (Mrow p)) ((Mhead (base + (Mrow p))) + 1)) (uZ Mplays (base + (Mrow p)) (Mstand ((Mhead (base + (Mrow p))) + 1))) Mrests (uZ Mwent (base + (Mrow p)) ((Mwent (base + (Mrow p))) + 1)) Mout Mcame Mgone MlastOut) hx hb hK hw 11 rfl (by decide) hi_108 dX8_goes_285 rfl (fun H locs hw => ?_)
                  refine lv_aload_n hx hb dX8_goes_286 rfl (lv_at hl 0 rfl) ?_
                  refine lv_iload hx hb dX8_goes_287 (lv_at hl 2 rfl) ?_
                  refine z_iconst hx hb dX8_goes_289 ?_
                  have hF9 := z_free (wc := kM cI cB cZ oM Mthrown Mmany Mguest Mrow Mbars Mbar Mfresh Mtape Mtaped Mpos Mtoken MtokenAt Mvalue Mwrong MwrongAt MfaultKind MfaultPlace Mthing Morder Mone Mtwo Mbest Mcells Mgap Mwire Mstand Mruns Mminute (uZ Mhead (base + (Mrow p)) ((Mhead (base + (Mrow p))) + 1)) (uZ Mplays (base + (Mrow p)) (Mstand ((Mhead (base + (Mrow p))) + 1))) Mrests (uZ Mwent (base + (Mrow p)) ((Mwent (base + (Mrow p))) + 1)) Mout Mcame Mgone MlastOut) hw hA [0, 1, 2, 3, 4, 5, 6, 7, 8, 9, 10, 11, 12, 13, 14, 15, 16] rfl
                  refine va_calli (va_runV (As := [.int (zI (Mrow p)), .int (zI 0)]) (rest := []) ⟨hx, hb, hml, hown, hts⟩ (c_X8_get l D cI cB cZ oM H.size Mthrown Mmany Mguest Mrow Mbars Mbar Mfresh Mtape Mtaped Mpos Mtoken MtokenAt Mvalue Mwrong MwrongAt MfaultKind MfaultPlace Mthing Morder Mone Mtwo Mbest Mcells Mgap Mwire Mstand Mruns Mminute (uZ Mhead (base + (Mrow p)) ((Mhead (base + (Mrow p))) + 1)) (uZ Mplays (base + (Mrow p)) (Mstand ((Mhead (base + (Mrow p))) + 1))) Mrests (uZ Mwent (base + (Mrow p)) ((Mwent (base + (Mrow p))) + 1)) Mout Mcame Mgone MlastOut (Mrow p) 0 (by omega) (by omega) qMguest qMrow (by omega) qMbar qMfresh qMtape (by omega) (by omega) (by omega) (by omega) (by omega) (by omega) (by omega) (by omega) (by omega) (by omega) qMorder (by omega) (by omega) qMbest (by omega) (by omega) qMwire qMstand (by omega) (by omega) hR_37 hR_110 qMrests hR_42 qMout qMcame qMgone (by omega) (by omega) (by omega)) (cwV 2 hts gX8_goes_X8_get rfl rfl rfl (by decide +kernel) ⟨Nat.le_of_ble_eq_true rfl, Nat.le_of_ble_eq_true rfl⟩) ⟨zPre_blind, va_recv hK hw.1 (ci := 8) (q0 := 0) rfl rfl, z_pre hK hw [0, 1, 2, 3, 4, 5, 6, 7, 8, 9, 10, 11, 12, 13, 14, 15, 16] (by decide) rfl⟩ rfl rfl hl.1 rfl (lv_room (Nat.le_of_ble_eq_true rfl)) dX8_goes_290 ⟨Nat.zero_le _, Nat.zero_le _⟩) hw.2.2 (fun q _ h => hF9 q h) hF9 (fun r9 u9 t9 H_111 locs9 ht9 hvm9 hq9 hB9 hz9 hk9 hS9 => ?_)
                  obtain ⟨r_112, rfl⟩ : ∃ z, z = u9 := ⟨_, rfl⟩
                  try dsimp only at hq9 hB9
                  obtain ⟨rfl, hq9⟩ := hq9
                  obtain ⟨hq_113, hq_114⟩ := hq9
                  have hw : HW D A s.heap (kM cI cB cZ oM Mthrown Mmany Mguest Mrow Mbars Mbar Mfresh Mtape Mtaped Mpos Mtoken MtokenAt Mvalue Mwrong MwrongAt MfaultKind MfaultPlace Mthing Morder Mone Mtwo Mbest Mcells Mgap Mwire Mstand Mruns Mminute (uZ Mhead (base + (Mrow p)) ((Mhead (base + (Mrow p))) + 1)) (uZ Mplays (base + (Mrow p)) (Mstand ((Mhead (base + (Mrow p))) + 1))) Mrests (uZ Mwent (base + (Mrow p)) ((Mwent (base + (Mrow p))) + 1)) Mout Mcame Mgone MlastOut) H_111 locs9 := z_after (wc := kM cI cB cZ oM Mthrown Mmany Mguest Mrow Mbars Mbar Mfresh Mtape Mtaped Mpos Mtoken MtokenAt Mvalue Mwrong MwrongAt MfaultKind MfaultPlace Mthing Morder Mone Mtwo Mbest Mcells Mgap Mwire Mstand Mruns Mminute (uZ Mhead (base + (Mrow p)) ((Mhead (base + (Mrow p))) + 1)) (uZ Mplays (base + (Mrow p)) (Mstand ((Mhead (base + (Mrow p))) + 1))) Mrests (uZ Mwent (base + (Mrow p)) ((Mwent (base + (Mrow p))) + 1)) Mout Mcame Mgone MlastOut) hw [0, 1, 2, 3, 4, 5, 6, 7, 8, 9, 10, 11, 12, 13, 14, 15, 16] [] rfl rfl (by decide) (by decide) hF9 hk9 ht9 hB9 hS9 [0, 1, 2, 3, 4, 5, 6, 7, 8, 9, 10, 11, 12, 13, 14, 15, 16] (by decide) rfl
                  clear hF9 ht9 hvm9 hB9 hz9 hk9 hS9
                  refine z_iconst hx hb dX8_goes_293 ?_
                  refine z_icmp_ne (tgt := 318) hx hb dX8_goes_294 (by decide) (by omega) (fun hc_115 => ?_) (fun hc_115 => ?_)
                  · skip
                    refine lv_aload_n hx hb dX8_goes_318 rfl (lv_at hl 0 rfl) ?_
                    refine lv_iload_n hx hb dX8_goes_319 rfl (lv_at hl 1 rfl) ?_
                    refine lv_iload hx hb dX8_goes_320 (lv_at hl 2 rfl) ?_
                    have hF9 := z_free (wc := kM cI cB cZ oM Mthrown Mmany Mguest Mrow Mbars Mbar Mfresh Mtape Mtaped Mpos Mtoken MtokenAt Mvalue Mwrong MwrongAt MfaultKind MfaultPlace Mthing Morder Mone Mtwo Mbest Mcells Mgap Mwire Mstand Mruns Mminute (uZ Mhead (base + (Mrow p)) ((Mhead (base + (Mrow p))) + 1)) (uZ Mplays (base + (Mrow p)) (Mstand ((Mhead (base + (Mrow p))) + 1))) Mrests (uZ Mwent (base + (Mrow p)) ((Mwent (base + (Mrow p))) + 1)) Mout Mcame Mgone MlastOut) hw hA [0, 1, 2, 3, 4, 5, 6, 7, 8, 9, 10, 11, 12, 13, 14, 15, 16] rfl
                    refine va_calli (va_runV (As := [.int (zI base), .int (zI (Mrow p))]) (rest := []) ⟨hx, hb, hml, hown, hts⟩ (c_X8_tail l D cI cB cZ oM H_111.size Mthrown Mmany Mguest Mrow Mbars Mbar Mfresh Mtape Mtaped Mpos Mtoken MtokenAt Mvalue Mwrong MwrongAt MfaultKind MfaultPlace Mthing Morder Mone Mtwo Mbest Mcells Mgap Mwire Mstand Mruns Mminute (uZ Mhead (base + (Mrow p)) ((Mhead (base + (Mrow p))) + 1)) (uZ Mplays (base + (Mrow p)) (Mstand ((Mhead (base + (Mrow p))) + 1))) Mrests (uZ Mwent (base + (Mrow p)) ((Mwent (base + (Mrow p))) + 1)) Mout Mcame Mgone MlastOut base (Mrow p) (by omega) (by omega) qMguest qMrow (by omega) qMbar qMfresh qMtape (by omega) (by omega) (by omega) (by omega) (by omega) (by omega) (by omega) (by omega) (by omega) (by omega) qMorder (by omega) (by omega) qMbest (by omega) (by omega) qMwire qMstand (by omega) (by omega) hR_37 hR_110 qMrests hR_42 qMout qMcame qMgone (by omega) (by omega) (by omega)) (cwV 2 hts gX8_goes_X8_tail rfl rfl rfl (by decide +kernel) ⟨Nat.le_of_ble_eq_true rfl, Nat.le_of_ble_eq_true rfl⟩) ⟨zPre_blind, va_recv hK hw.1 (ci := 8) (q0 := 0) rfl rfl, z_pre hK hw [0, 1, 2, 3, 4, 5, 6, 7, 8, 9, 10, 11, 12, 13, 14, 15, 16] (by decide) rfl⟩ rfl rfl hl.1 rfl (lv_room (Nat.le_of_ble_eq_true rfl)) dX8_goes_322 ⟨Nat.zero_le _, Nat.zero_le _⟩) hw.2.2 (fun q _ h => hF9 q h) hF9 (fun r9 u9 t9 H_116 locs9 ht9 hvm9 hq9 hB9 hz9 hk9 hS9 => ?_)
                    obtain ⟨r_117, rfl⟩ : ∃ z, z = u9 := ⟨_, rfl⟩
                    try dsimp only at hq9 hB9
                    obtain ⟨rfl, hq9⟩ := hq9
                    obtain ⟨hq_118, hq_119⟩ := hq9
                    have hw : HW D A s.heap (kM cI cB cZ oM Mthrown Mmany Mguest Mrow Mbars Mbar Mfresh Mtape Mtaped Mpos Mtoken MtokenAt Mvalue Mwrong MwrongAt MfaultKind MfaultPlace Mthing Morder Mone Mtwo Mbest Mcells Mgap Mwire Mstand Mruns Mminute (uZ Mhead (base + (Mrow p)) ((Mhead (base + (Mrow p))) + 1)) (uZ Mplays (base + (Mrow p)) (Mstand ((Mhead (base + (Mrow p))) + 1))) Mrests (uZ Mwent (base + (Mrow p)) ((Mwent (base + (Mrow p))) + 1)) Mout Mcame Mgone MlastOut) H_116 locs9 := z_after (wc := kM cI cB cZ oM Mthrown Mmany Mguest Mrow Mbars Mbar Mfresh Mtape Mtaped Mpos Mtoken MtokenAt Mvalue Mwrong MwrongAt MfaultKind MfaultPlace Mthing Morder Mone Mtwo Mbest Mcells Mgap Mwire Mstand Mruns Mminute (uZ Mhead (base + (Mrow p)) ((Mhead (base + (Mrow p))) + 1)) (uZ Mplays (base + (Mrow p)) (Mstand ((Mhead (base + (Mrow p))) + 1))) Mrests (uZ Mwent (base + (Mrow p)) ((Mwent (base + (Mrow p))) + 1)) Mout Mcame Mgone MlastOut) hw [0, 1, 2, 3, 4, 5, 6, 7, 8, 9, 10, 11, 12, 13, 14, 15, 16] [] rfl rfl (by decide) (by decide) hF9 hk9 ht9 hB9 hS9 [0, 1, 2, 3, 4, 5, 6, 7, 8, 9, 10, 11, 12, 13, 14, 15, 16] (by decide) rfl
                    clear hF9 ht9 hvm9 hB9 hz9 hk9 hS9
                    refine lv_aload_n hx hb dX8_goes_325 rfl (lv_at hl 0 rfl) ?_
                    refine va_get (D := D) (ci := 8) (v := .int (zI Mcells)) (C := RX8) (T := TX8) (N := 36) hx hb hts hinX8 hown hK hw.1 0 rfl rfl 22 (by decide) (hts (.fieldLink RX8 35 "CarnivalRoadModel" "cells" "I") (by decide +kernel)) (fun _ h9 => h9) rfl dX8_goes_326 ?_
                    refine z_icmp_lt (tgt := 340) hx hb dX8_goes_329 (by decide) (by omega) (fun hc_120 => ?_) (fun hc_120 => ?_)
                    · skip
                      refine z_iconst hx hb dX8_goes_340 ?_
                      have hv_121 : (1 : Int) = 0 ∨ (1 : Int) = 1 := by
                        first | assumption | omega | grind
                      have hv_122 : goPost1 base (Mrow p) Mhead Mplays Mrests Mwent Mout (uZ Mhead (base + (Mrow p)) ((Mhead (base + (Mrow p))) + 1)) (uZ Mplays (base + (Mrow p)) (Mstand ((Mhead (base + (Mrow p))) + 1))) Mrests (uZ Mwent (base + (Mrow p)) ((Mwent (base + (Mrow p))) + 1)) Mout (goG ki le Mcells Mstand t (Mrow p) True (h, b, c, o)) (1 : Int) := by
                        exact go1_move hp4 (by omega) (by omega) (by assumption) (by assumption) (by omega) (fun k hk => ⟨by first | rfl | exact uZ_n hk, by first | rfl | exact uZ_n hk, by first | rfl | exact uZ_n hk⟩) (by (try simp only [uZ_s]); unfold busyF playF; ((repeat' split) <;> omega)) (by have e9 : uZ Mhead (base + Mrow p) (Mhead (base + Mrow p) + 1) (base + Mrow p) = Mhead (base + Mrow p) + 1 := uZ_s; first | exact Or.inl ⟨by omega, by first | exact uZ_s | omega⟩ | exact Or.inr ⟨by omega, by omega⟩)
                      exact W.zret (v := zI 1) hx hb hr rfl (fun t9 ht hW => ⟨⟨zI 1, (1, (uZ Mhead (base + (Mrow p)) ((Mhead (base + (Mrow p))) + 1)), (uZ Mplays (base + (Mrow p)) (Mstand ((Mhead (base + (Mrow p))) + 1))), Mrests, (uZ Mwent (base + (Mrow p)) ((Mwent (base + (Mrow p))) + 1)), Mout), rfl, ⟨rfl, ⟨hR_37, hR_110, qMrests, hR_42, qMout, hv_121, hv_122⟩⟩, by subst hAe; exact z_end hK hw ht hW⟩, by subst hAe; exact hw.2.2.F ht⟩) (by subst hAe; exact hw.2.2.2.2) dX8_goes_341
                    · skip
                      refine lv_aload_n hx hb dX8_goes_332 rfl (lv_at hl 0 rfl) ?_
                      refine va_get (D := D) (ci := 8) (v := .ref (oM 14)) (C := RX8) (T := TX8) (N := 36) hx hb hts hinX8 hown hK hw.1 0 rfl rfl 32 (by decide) (hts (.fieldLink RX8 59 "CarnivalRoadModel" "out" "[Z") (by decide +kernel)) (fun _ h9 => h9) rfl dX8_goes_333 ?_
                      refine lv_iload hx hb dX8_goes_336 (lv_at hl 3 rfl) ?_
                      refine z_iconst hx hb dX8_goes_338 ?_
                      have hi_123 : (0 : Int) ≤ (base + (Mrow p)) ∧ (base + (Mrow p)) < ((16 : Nat) : Int) := by
                        omega
                      have hv_124 : (0 : Int) ≤ (1 : Int) ∧ (1 : Int) ≤ 1 := by
                        first | assumption | omega | grind
                      have hR_125 : RA (uZ Mout (base + (Mrow p)) 1) (0) 1 := RA_up qMout hv_124
                      refine z_zast (n := 16) (f := Mout) (ws2 := kM cI cB cZ oM Mthrown Mmany Mguest Mrow Mbars Mbar Mfresh Mtape Mtaped Mpos Mtoken MtokenAt Mvalue Mwrong MwrongAt MfaultKind MfaultPlace Mthing Morder Mone Mtwo Mbest Mcells Mgap Mwire Mstand Mruns Mminute (uZ Mhead (base + (Mrow p)) ((Mhead (base + (Mrow p))) + 1)) (uZ Mplays (base + (Mrow p)) (Mstand ((Mhead (base + (Mrow p))) + 1))) Mrests (uZ Mwent (base + (Mrow p)) ((Mwent (base + (Mrow p))) + 1)) (uZ Mout (base + (Mrow p)) 1) Mcame Mgone MlastOut) hx hb hK hw 14 rfl rfl (by decide) hi_123 dX8_goes_339 rfl (fun H locs hw => ?_)
                      refine z_iconst hx hb dX8_goes_340 ?_
                      have hv_126 : (1 : Int) = 0 ∨ (1 : Int) = 1 := by
                        first | assumption | omega | grind
                      have hv_127 : goPost1 base (Mrow p) Mhead Mplays Mrests Mwent Mout (uZ Mhead (base + (Mrow p)) ((Mhead (base + (Mrow p))) + 1)) (uZ Mplays (base + (Mrow p)) (Mstand ((Mhead (base + (Mrow p))) + 1))) Mrests (uZ Mwent (base + (Mrow p)) ((Mwent (base + (Mrow p))) + 1)) (uZ Mout (base + (Mrow p)) 1) (goG ki le Mcells Mstand t (Mrow p) True (h, b, c, o)) (1 : Int) := by
                        exact go1_move hp4 (by omega) (by omega) (by assumption) (by assumption) (by omega) (fun k hk => ⟨by first | rfl | exact uZ_n hk, by first | rfl | exact uZ_n hk, by first | rfl | exact uZ_n hk⟩) (by (try simp only [uZ_s]); unfold busyF playF; ((repeat' split) <;> omega)) (by have e9 : uZ Mhead (base + Mrow p) (Mhead (base + Mrow p) + 1) (base + Mrow p) = Mhead (base + Mrow p) + 1 := uZ_s; first | exact Or.inl ⟨by omega, by first | exact uZ_s | omega⟩ | exact Or.inr ⟨by omega, by omega⟩)
                      exact W.zret (v := zI 1) hx hb hr rfl (fun t9 ht hW => ⟨⟨zI 1, (1, (uZ Mhead (base + (Mrow p)) ((Mhead (base + (Mrow p))) + 1)), (uZ Mplays (base + (Mrow p)) (Mstand ((Mhead (base + (Mrow p))) + 1))), Mrests, (uZ Mwent (base + (Mrow p)) ((Mwent (base + (Mrow p))) + 1)), (uZ Mout (base + (Mrow p)) 1)), rfl, ⟨rfl, ⟨hR_37, hR_110, qMrests, hR_42, hR_125, hv_126, hv_127⟩⟩, by subst hAe; exact z_end hK hw ht hW⟩, by subst hAe; exact hw.2.2.F ht⟩) (by subst hAe; exact hw.2.2.2.2) dX8_goes_341
                  · skip
                    refine lv_aload_n hx hb dX8_goes_297 rfl (lv_at hl 0 rfl) ?_
                    refine va_get (D := D) (ci := 8) (v := .ref (oM 13)) (C := RX8) (T := TX8) (N := 36) hx hb hts hinX8 hown hK hw.1 0 rfl rfl 31 (by decide) (hts (.fieldLink RX8 56 "CarnivalRoadModel" "went" "[I") (by decide +kernel)) (fun _ h9 => h9) rfl dX8_goes_298 ?_
                    refine lv_iload hx hb dX8_goes_301 (lv_at hl 3 rfl) ?_
                    have hi_128 : (0 : Int) ≤ (base + (Mrow p)) ∧ (base + (Mrow p)) < ((16 : Nat) : Int) := by
                      omega
                    refine z_iald (n := 16) (f := (uZ Mwent (base + (Mrow p)) ((Mwent (base + (Mrow p))) + 1))) hx hb hK hw 13 rfl (by decide) hi_128 dX8_goes_303 ?_
                    rw [uZ_s]
                    refine z_bipush hx hb dX8_goes_304 (by decide) ?_
                    have hbit_129 : zI ((Mwent (base + (Mrow p))) + 1) - zI ((Mwent (base + (Mrow p))) + 1) / zI 10 * zI 10 = zI (((Mwent (base + (Mrow p))) + 1) % (10 : Int)) := by
                      exact z_rem (by omega) (by omega)
                    refine lv_irem hx hb dX8_goes_306 (fun q => by have q2 := (zI_eq (by omega) (by omega)).mp (show zI 10 = zI 0 from q); omega) ?_
                    rw [hbit_129]
                    clear hbit_129
                    refine z_if_ne (tgt := 318) hx hb dX8_goes_307 (by decide) (by omega) (fun hc_130 => ?_) (fun hc_130 => ?_)
                    · skip
                      refine lv_aload_n hx hb dX8_goes_318 rfl (lv_at hl 0 rfl) ?_
                      refine lv_iload_n hx hb dX8_goes_319 rfl (lv_at hl 1 rfl) ?_
                      refine lv_iload hx hb dX8_goes_320 (lv_at hl 2 rfl) ?_
                      have hF9 := z_free (wc := kM cI cB cZ oM Mthrown Mmany Mguest Mrow Mbars Mbar Mfresh Mtape Mtaped Mpos Mtoken MtokenAt Mvalue Mwrong MwrongAt MfaultKind MfaultPlace Mthing Morder Mone Mtwo Mbest Mcells Mgap Mwire Mstand Mruns Mminute (uZ Mhead (base + (Mrow p)) ((Mhead (base + (Mrow p))) + 1)) (uZ Mplays (base + (Mrow p)) (Mstand ((Mhead (base + (Mrow p))) + 1))) Mrests (uZ Mwent (base + (Mrow p)) ((Mwent (base + (Mrow p))) + 1)) Mout Mcame Mgone MlastOut) hw hA [0, 1, 2, 3, 4, 5, 6, 7, 8, 9, 10, 11, 12, 13, 14, 15, 16] rfl
                      refine va_calli (va_runV (As := [.int (zI base), .int (zI (Mrow p))]) (rest := []) ⟨hx, hb, hml, hown, hts⟩ (c_X8_tail l D cI cB cZ oM H_111.size Mthrown Mmany Mguest Mrow Mbars Mbar Mfresh Mtape Mtaped Mpos Mtoken MtokenAt Mvalue Mwrong MwrongAt MfaultKind MfaultPlace Mthing Morder Mone Mtwo Mbest Mcells Mgap Mwire Mstand Mruns Mminute (uZ Mhead (base + (Mrow p)) ((Mhead (base + (Mrow p))) + 1)) (uZ Mplays (base + (Mrow p)) (Mstand ((Mhead (base + (Mrow p))) + 1))) Mrests (uZ Mwent (base + (Mrow p)) ((Mwent (base + (Mrow p))) + 1)) Mout Mcame Mgone MlastOut base (Mrow p) (by omega) (by omega) qMguest qMrow (by omega) qMbar qMfresh qMtape (by omega) (by omega) (by omega) (by omega) (by omega) (by omega) (by omega) (by omega) (by omega) (by omega) qMorder (by omega) (by omega) qMbest (by omega) (by omega) qMwire qMstand (by omega) (by omega) hR_37 hR_110 qMrests hR_42 qMout qMcame qMgone (by omega) (by omega) (by omega)) (cwV 2 hts gX8_goes_X8_tail rfl rfl rfl (by decide +kernel) ⟨Nat.le_of_ble_eq_true rfl, Nat.le_of_ble_eq_true rfl⟩) ⟨zPre_blind, va_recv hK hw.1 (ci := 8) (q0 := 0) rfl rfl, z_pre hK hw [0, 1, 2, 3, 4, 5, 6, 7, 8, 9, 10, 11, 12, 13, 14, 15, 16] (by decide) rfl⟩ rfl rfl hl.1 rfl (lv_room (Nat.le_of_ble_eq_true rfl)) dX8_goes_322 ⟨Nat.zero_le _, Nat.zero_le _⟩) hw.2.2 (fun q _ h => hF9 q h) hF9 (fun r9 u9 t9 H_131 locs9 ht9 hvm9 hq9 hB9 hz9 hk9 hS9 => ?_)
                      obtain ⟨r_132, rfl⟩ : ∃ z, z = u9 := ⟨_, rfl⟩
                      try dsimp only at hq9 hB9
                      obtain ⟨rfl, hq9⟩ := hq9
                      obtain ⟨hq_133, hq_134⟩ := hq9
                      have hw : HW D A s.heap (kM cI cB cZ oM Mthrown Mmany Mguest Mrow Mbars Mbar Mfresh Mtape Mtaped Mpos Mtoken MtokenAt Mvalue Mwrong MwrongAt MfaultKind MfaultPlace Mthing Morder Mone Mtwo Mbest Mcells Mgap Mwire Mstand Mruns Mminute (uZ Mhead (base + (Mrow p)) ((Mhead (base + (Mrow p))) + 1)) (uZ Mplays (base + (Mrow p)) (Mstand ((Mhead (base + (Mrow p))) + 1))) Mrests (uZ Mwent (base + (Mrow p)) ((Mwent (base + (Mrow p))) + 1)) Mout Mcame Mgone MlastOut) H_131 locs9 := z_after (wc := kM cI cB cZ oM Mthrown Mmany Mguest Mrow Mbars Mbar Mfresh Mtape Mtaped Mpos Mtoken MtokenAt Mvalue Mwrong MwrongAt MfaultKind MfaultPlace Mthing Morder Mone Mtwo Mbest Mcells Mgap Mwire Mstand Mruns Mminute (uZ Mhead (base + (Mrow p)) ((Mhead (base + (Mrow p))) + 1)) (uZ Mplays (base + (Mrow p)) (Mstand ((Mhead (base + (Mrow p))) + 1))) Mrests (uZ Mwent (base + (Mrow p)) ((Mwent (base + (Mrow p))) + 1)) Mout Mcame Mgone MlastOut) hw [0, 1, 2, 3, 4, 5, 6, 7, 8, 9, 10, 11, 12, 13, 14, 15, 16] [] rfl rfl (by decide) (by decide) hF9 hk9 ht9 hB9 hS9 [0, 1, 2, 3, 4, 5, 6, 7, 8, 9, 10, 11, 12, 13, 14, 15, 16] (by decide) rfl
                      clear hF9 ht9 hvm9 hB9 hz9 hk9 hS9
                      refine lv_aload_n hx hb dX8_goes_325 rfl (lv_at hl 0 rfl) ?_
                      refine va_get (D := D) (ci := 8) (v := .int (zI Mcells)) (C := RX8) (T := TX8) (N := 36) hx hb hts hinX8 hown hK hw.1 0 rfl rfl 22 (by decide) (hts (.fieldLink RX8 35 "CarnivalRoadModel" "cells" "I") (by decide +kernel)) (fun _ h9 => h9) rfl dX8_goes_326 ?_
                      refine z_icmp_lt (tgt := 340) hx hb dX8_goes_329 (by decide) (by omega) (fun hc_135 => ?_) (fun hc_135 => ?_)
                      · skip
                        refine z_iconst hx hb dX8_goes_340 ?_
                        have hv_136 : (1 : Int) = 0 ∨ (1 : Int) = 1 := by
                          first | assumption | omega | grind
                        have hv_137 : goPost1 base (Mrow p) Mhead Mplays Mrests Mwent Mout (uZ Mhead (base + (Mrow p)) ((Mhead (base + (Mrow p))) + 1)) (uZ Mplays (base + (Mrow p)) (Mstand ((Mhead (base + (Mrow p))) + 1))) Mrests (uZ Mwent (base + (Mrow p)) ((Mwent (base + (Mrow p))) + 1)) Mout (goG ki le Mcells Mstand t (Mrow p) True (h, b, c, o)) (1 : Int) := by
                          exact go1_move hp4 (by omega) (by omega) (by assumption) (by assumption) (by omega) (fun k hk => ⟨by first | rfl | exact uZ_n hk, by first | rfl | exact uZ_n hk, by first | rfl | exact uZ_n hk⟩) (by (try simp only [uZ_s]); unfold busyF playF; ((repeat' split) <;> omega)) (by have e9 : uZ Mhead (base + Mrow p) (Mhead (base + Mrow p) + 1) (base + Mrow p) = Mhead (base + Mrow p) + 1 := uZ_s; first | exact Or.inl ⟨by omega, by first | exact uZ_s | omega⟩ | exact Or.inr ⟨by omega, by omega⟩)
                        exact W.zret (v := zI 1) hx hb hr rfl (fun t9 ht hW => ⟨⟨zI 1, (1, (uZ Mhead (base + (Mrow p)) ((Mhead (base + (Mrow p))) + 1)), (uZ Mplays (base + (Mrow p)) (Mstand ((Mhead (base + (Mrow p))) + 1))), Mrests, (uZ Mwent (base + (Mrow p)) ((Mwent (base + (Mrow p))) + 1)), Mout), rfl, ⟨rfl, ⟨hR_37, hR_110, qMrests, hR_42, qMout, hv_136, hv_137⟩⟩, by subst hAe; exact z_end hK hw ht hW⟩, by subst hAe; exact hw.2.2.F ht⟩) (by subst hAe; exact hw.2.2.2.2) dX8_goes_341
                      · skip
                        refine lv_aload_n hx hb dX8_goes_332 rfl (lv_at hl 0 rfl) ?_
                        refine va_get (D := D) (ci := 8) (v := .ref (oM 14)) (C := RX8) (T := TX8) (N := 36) hx hb hts hinX8 hown hK hw.1 0 rfl rfl 32 (by decide) (hts (.fieldLink RX8 59 "CarnivalRoadModel" "out" "[Z") (by decide +kernel)) (fun _ h9 => h9) rfl dX8_goes_333 ?_
                        refine lv_iload hx hb dX8_goes_336 (lv_at hl 3 rfl) ?_
                        refine z_iconst hx hb dX8_goes_338 ?_
                        have hi_138 : (0 : Int) ≤ (base + (Mrow p)) ∧ (base + (Mrow p)) < ((16 : Nat) : Int) := by
                          omega
                        have hv_139 : (0 : Int) ≤ (1 : Int) ∧ (1 : Int) ≤ 1 := by
                          first | assumption | omega | grind
                        have hR_140 : RA (uZ Mout (base + (Mrow p)) 1) (0) 1 := RA_up qMout hv_139
                        refine z_zast (n := 16) (f := Mout) (ws2 := kM cI cB cZ oM Mthrown Mmany Mguest Mrow Mbars Mbar Mfresh Mtape Mtaped Mpos Mtoken MtokenAt Mvalue Mwrong MwrongAt MfaultKind MfaultPlace Mthing Morder Mone Mtwo Mbest Mcells Mgap Mwire Mstand Mruns Mminute (uZ Mhead (base + (Mrow p)) ((Mhead (base + (Mrow p))) + 1)) (uZ Mplays (base + (Mrow p)) (Mstand ((Mhead (base + (Mrow p))) + 1))) Mrests (uZ Mwent (base + (Mrow p)) ((Mwent (base + (Mrow p))) + 1)) (uZ Mout (base + (Mrow p)) 1) Mcame Mgone MlastOut) hx hb hK hw 14 rfl rfl (by decide) hi_138 dX8_goes_339 rfl (fun H locs hw => ?_)
                        refine z_iconst hx hb dX8_goes_340 ?_
                        have hv_141 : (1 : Int) = 0 ∨ (1 : Int) = 1 := by
                          first | assumption | omega | grind
                        have hv_142 : goPost1 base (Mrow p) Mhead Mplays Mrests Mwent Mout (uZ Mhead (base + (Mrow p)) ((Mhead (base + (Mrow p))) + 1)) (uZ Mplays (base + (Mrow p)) (Mstand ((Mhead (base + (Mrow p))) + 1))) Mrests (uZ Mwent (base + (Mrow p)) ((Mwent (base + (Mrow p))) + 1)) (uZ Mout (base + (Mrow p)) 1) (goG ki le Mcells Mstand t (Mrow p) True (h, b, c, o)) (1 : Int) := by
                          exact go1_move hp4 (by omega) (by omega) (by assumption) (by assumption) (by omega) (fun k hk => ⟨by first | rfl | exact uZ_n hk, by first | rfl | exact uZ_n hk, by first | rfl | exact uZ_n hk⟩) (by (try simp only [uZ_s]); unfold busyF playF; ((repeat' split) <;> omega)) (by have e9 : uZ Mhead (base + Mrow p) (Mhead (base + Mrow p) + 1) (base + Mrow p) = Mhead (base + Mrow p) + 1 := uZ_s; first | exact Or.inl ⟨by omega, by first | exact uZ_s | omega⟩ | exact Or.inr ⟨by omega, by omega⟩)
                        exact W.zret (v := zI 1) hx hb hr rfl (fun t9 ht hW => ⟨⟨zI 1, (1, (uZ Mhead (base + (Mrow p)) ((Mhead (base + (Mrow p))) + 1)), (uZ Mplays (base + (Mrow p)) (Mstand ((Mhead (base + (Mrow p))) + 1))), Mrests, (uZ Mwent (base + (Mrow p)) ((Mwent (base + (Mrow p))) + 1)), (uZ Mout (base + (Mrow p)) 1)), rfl, ⟨rfl, ⟨hR_37, hR_110, qMrests, hR_42, hR_140, hv_141, hv_142⟩⟩, by subst hAe; exact z_end hK hw ht hW⟩, by subst hAe; exact hw.2.2.F ht⟩) (by subst hAe; exact hw.2.2.2.2) dX8_goes_341
                    · skip
                      refine lv_aload_n hx hb dX8_goes_310 rfl (lv_at hl 0 rfl) ?_
                      refine va_get (D := D) (ci := 8) (v := .ref (oM 12)) (C := RX8) (T := TX8) (N := 36) hx hb hts hinX8 hown hK hw.1 0 rfl rfl 30 (by decide) (hts (.fieldLink RX8 53 "CarnivalRoadModel" "rests" "[I") (by decide +kernel)) (fun _ h9 => h9) rfl dX8_goes_311 ?_
                      refine lv_iload hx hb dX8_goes_314 (lv_at hl 3 rfl) ?_
                      refine z_iconst hx hb dX8_goes_316 ?_
                      have hi_143 : (0 : Int) ≤ (base + (Mrow p)) ∧ (base + (Mrow p)) < ((16 : Nat) : Int) := by
                        omega
                      have hv_144 : (0 : Int) ≤ (3 : Int) ∧ (3 : Int) ≤ 3 := by
                        first | assumption | omega | grind
                      have hR_145 : RA (uZ Mrests (base + (Mrow p)) 3) (0) 3 := RA_up qMrests hv_144
                      refine z_iast (n := 16) (f := Mrests) (ws2 := kM cI cB cZ oM Mthrown Mmany Mguest Mrow Mbars Mbar Mfresh Mtape Mtaped Mpos Mtoken MtokenAt Mvalue Mwrong MwrongAt MfaultKind MfaultPlace Mthing Morder Mone Mtwo Mbest Mcells Mgap Mwire Mstand Mruns Mminute (uZ Mhead (base + (Mrow p)) ((Mhead (base + (Mrow p))) + 1)) (uZ Mplays (base + (Mrow p)) (Mstand ((Mhead (base + (Mrow p))) + 1))) (uZ Mrests (base + (Mrow p)) 3) (uZ Mwent (base + (Mrow p)) ((Mwent (base + (Mrow p))) + 1)) Mout Mcame Mgone MlastOut) hx hb hK hw 12 rfl (by decide) hi_143 dX8_goes_317 rfl (fun H locs hw => ?_)
                      refine lv_aload_n hx hb dX8_goes_318 rfl (lv_at hl 0 rfl) ?_
                      refine lv_iload_n hx hb dX8_goes_319 rfl (lv_at hl 1 rfl) ?_
                      refine lv_iload hx hb dX8_goes_320 (lv_at hl 2 rfl) ?_
                      have hF9 := z_free (wc := kM cI cB cZ oM Mthrown Mmany Mguest Mrow Mbars Mbar Mfresh Mtape Mtaped Mpos Mtoken MtokenAt Mvalue Mwrong MwrongAt MfaultKind MfaultPlace Mthing Morder Mone Mtwo Mbest Mcells Mgap Mwire Mstand Mruns Mminute (uZ Mhead (base + (Mrow p)) ((Mhead (base + (Mrow p))) + 1)) (uZ Mplays (base + (Mrow p)) (Mstand ((Mhead (base + (Mrow p))) + 1))) (uZ Mrests (base + (Mrow p)) 3) (uZ Mwent (base + (Mrow p)) ((Mwent (base + (Mrow p))) + 1)) Mout Mcame Mgone MlastOut) hw hA [0, 1, 2, 3, 4, 5, 6, 7, 8, 9, 10, 11, 12, 13, 14, 15, 16] rfl
                      refine va_calli (va_runV (As := [.int (zI base), .int (zI (Mrow p))]) (rest := []) ⟨hx, hb, hml, hown, hts⟩ (c_X8_tail l D cI cB cZ oM H.size Mthrown Mmany Mguest Mrow Mbars Mbar Mfresh Mtape Mtaped Mpos Mtoken MtokenAt Mvalue Mwrong MwrongAt MfaultKind MfaultPlace Mthing Morder Mone Mtwo Mbest Mcells Mgap Mwire Mstand Mruns Mminute (uZ Mhead (base + (Mrow p)) ((Mhead (base + (Mrow p))) + 1)) (uZ Mplays (base + (Mrow p)) (Mstand ((Mhead (base + (Mrow p))) + 1))) (uZ Mrests (base + (Mrow p)) 3) (uZ Mwent (base + (Mrow p)) ((Mwent (base + (Mrow p))) + 1)) Mout Mcame Mgone MlastOut base (Mrow p) (by omega) (by omega) qMguest qMrow (by omega) qMbar qMfresh qMtape (by omega) (by omega) (by omega) (by omega) (by omega) (by omega) (by omega) (by omega) (by omega) (by omega) qMorder (by omega) (by omega) qMbest (by omega) (by omega) qMwire qMstand (by omega) (by omega) hR_37 hR_110 hR_145 hR_42 qMout qMcame qMgone (by omega) (by omega) (by omega)) (cwV 2 hts gX8_goes_X8_tail rfl rfl rfl (by decide +kernel) ⟨Nat.le_of_ble_eq_true rfl, Nat.le_of_ble_eq_true rfl⟩) ⟨zPre_blind, va_recv hK hw.1 (ci := 8) (q0 := 0) rfl rfl, z_pre hK hw [0, 1, 2, 3, 4, 5, 6, 7, 8, 9, 10, 11, 12, 13, 14, 15, 16] (by decide) rfl⟩ rfl rfl hl.1 rfl (lv_room (Nat.le_of_ble_eq_true rfl)) dX8_goes_322 ⟨Nat.zero_le _, Nat.zero_le _⟩) hw.2.2 (fun q _ h => hF9 q h) hF9 (fun r9 u9 t9 H_146 locs9 ht9 hvm9 hq9 hB9 hz9 hk9 hS9 => ?_)
                      obtain ⟨r_147, rfl⟩ : ∃ z, z = u9 := ⟨_, rfl⟩
                      try dsimp only at hq9 hB9
                      obtain ⟨rfl, hq9⟩ := hq9
                      obtain ⟨hq_148, hq_149⟩ := hq9
                      have hw : HW D A s.heap (kM cI cB cZ oM Mthrown Mmany Mguest Mrow Mbars Mbar Mfresh Mtape Mtaped Mpos Mtoken MtokenAt Mvalue Mwrong MwrongAt MfaultKind MfaultPlace Mthing Morder Mone Mtwo Mbest Mcells Mgap Mwire Mstand Mruns Mminute (uZ Mhead (base + (Mrow p)) ((Mhead (base + (Mrow p))) + 1)) (uZ Mplays (base + (Mrow p)) (Mstand ((Mhead (base + (Mrow p))) + 1))) (uZ Mrests (base + (Mrow p)) 3) (uZ Mwent (base + (Mrow p)) ((Mwent (base + (Mrow p))) + 1)) Mout Mcame Mgone MlastOut) H_146 locs9 := z_after (wc := kM cI cB cZ oM Mthrown Mmany Mguest Mrow Mbars Mbar Mfresh Mtape Mtaped Mpos Mtoken MtokenAt Mvalue Mwrong MwrongAt MfaultKind MfaultPlace Mthing Morder Mone Mtwo Mbest Mcells Mgap Mwire Mstand Mruns Mminute (uZ Mhead (base + (Mrow p)) ((Mhead (base + (Mrow p))) + 1)) (uZ Mplays (base + (Mrow p)) (Mstand ((Mhead (base + (Mrow p))) + 1))) (uZ Mrests (base + (Mrow p)) 3) (uZ Mwent (base + (Mrow p)) ((Mwent (base + (Mrow p))) + 1)) Mout Mcame Mgone MlastOut) hw [0, 1, 2, 3, 4, 5, 6, 7, 8, 9, 10, 11, 12, 13, 14, 15, 16] [] rfl rfl (by decide) (by decide) hF9 hk9 ht9 hB9 hS9 [0, 1, 2, 3, 4, 5, 6, 7, 8, 9, 10, 11, 12, 13, 14, 15, 16] (by decide) rfl
                      clear hF9 ht9 hvm9 hB9 hz9 hk9 hS9
                      refine lv_aload_n hx hb dX8_goes_325 rfl (lv_at hl 0 rfl) ?_
                      refine va_get (D := D) (ci := 8) (v := .int (zI Mcells)) (C := RX8) (T := TX8) (N := 36) hx hb hts hinX8 hown hK hw.1 0 rfl rfl 22 (by decide) (hts (.fieldLink RX8 35 "CarnivalRoadModel" "cells" "I") (by decide +kernel)) (fun _ h9 => h9) rfl dX8_goes_326 ?_
                      refine z_icmp_lt (tgt := 340) hx hb dX8_goes_329 (by decide) (by omega) (fun hc_150 => ?_) (fun hc_150 => ?_)
                      · skip
                        refine z_iconst hx hb dX8_goes_340 ?_
                        have hv_151 : (1 : Int) = 0 ∨ (1 : Int) = 1 := by
                          first | assumption | omega | grind
                        have hv_152 : goPost1 base (Mrow p) Mhead Mplays Mrests Mwent Mout (uZ Mhead (base + (Mrow p)) ((Mhead (base + (Mrow p))) + 1)) (uZ Mplays (base + (Mrow p)) (Mstand ((Mhead (base + (Mrow p))) + 1))) (uZ Mrests (base + (Mrow p)) 3) (uZ Mwent (base + (Mrow p)) ((Mwent (base + (Mrow p))) + 1)) Mout (goG ki le Mcells Mstand t (Mrow p) True (h, b, c, o)) (1 : Int) := by
                          exact go1_move hp4 (by omega) (by omega) (by assumption) (by assumption) (by omega) (fun k hk => ⟨by first | rfl | exact uZ_n hk, by first | rfl | exact uZ_n hk, by first | rfl | exact uZ_n hk⟩) (by (try simp only [uZ_s]); unfold busyF playF; ((repeat' split) <;> omega)) (by have e9 : uZ Mhead (base + Mrow p) (Mhead (base + Mrow p) + 1) (base + Mrow p) = Mhead (base + Mrow p) + 1 := uZ_s; first | exact Or.inl ⟨by omega, by first | exact uZ_s | omega⟩ | exact Or.inr ⟨by omega, by omega⟩)
                        exact W.zret (v := zI 1) hx hb hr rfl (fun t9 ht hW => ⟨⟨zI 1, (1, (uZ Mhead (base + (Mrow p)) ((Mhead (base + (Mrow p))) + 1)), (uZ Mplays (base + (Mrow p)) (Mstand ((Mhead (base + (Mrow p))) + 1))), (uZ Mrests (base + (Mrow p)) 3), (uZ Mwent (base + (Mrow p)) ((Mwent (base + (Mrow p))) + 1)), Mout), rfl, ⟨rfl, ⟨hR_37, hR_110, hR_145, hR_42, qMout, hv_151, hv_152⟩⟩, by subst hAe; exact z_end hK hw ht hW⟩, by subst hAe; exact hw.2.2.F ht⟩) (by subst hAe; exact hw.2.2.2.2) dX8_goes_341
                      · skip
                        refine lv_aload_n hx hb dX8_goes_332 rfl (lv_at hl 0 rfl) ?_
                        refine va_get (D := D) (ci := 8) (v := .ref (oM 14)) (C := RX8) (T := TX8) (N := 36) hx hb hts hinX8 hown hK hw.1 0 rfl rfl 32 (by decide) (hts (.fieldLink RX8 59 "CarnivalRoadModel" "out" "[Z") (by decide +kernel)) (fun _ h9 => h9) rfl dX8_goes_333 ?_
                        refine lv_iload hx hb dX8_goes_336 (lv_at hl 3 rfl) ?_
                        refine z_iconst hx hb dX8_goes_338 ?_
                        have hi_153 : (0 : Int) ≤ (base + (Mrow p)) ∧ (base + (Mrow p)) < ((16 : Nat) : Int) := by
                          omega
                        have hv_154 : (0 : Int) ≤ (1 : Int) ∧ (1 : Int) ≤ 1 := by
                          first | assumption | omega | grind
                        have hR_155 : RA (uZ Mout (base + (Mrow p)) 1) (0) 1 := RA_up qMout hv_154
                        refine z_zast (n := 16) (f := Mout) (ws2 := kM cI cB cZ oM Mthrown Mmany Mguest Mrow Mbars Mbar Mfresh Mtape Mtaped Mpos Mtoken MtokenAt Mvalue Mwrong MwrongAt MfaultKind MfaultPlace Mthing Morder Mone Mtwo Mbest Mcells Mgap Mwire Mstand Mruns Mminute (uZ Mhead (base + (Mrow p)) ((Mhead (base + (Mrow p))) + 1)) (uZ Mplays (base + (Mrow p)) (Mstand ((Mhead (base + (Mrow p))) + 1))) (uZ Mrests (base + (Mrow p)) 3) (uZ Mwent (base + (Mrow p)) ((Mwent (base + (Mrow p))) + 1)) (uZ Mout (base + (Mrow p)) 1) Mcame Mgone MlastOut) hx hb hK hw 14 rfl rfl (by decide) hi_153 dX8_goes_339 rfl (fun H locs hw => ?_)
                        refine z_iconst hx hb dX8_goes_340 ?_
                        have hv_156 : (1 : Int) = 0 ∨ (1 : Int) = 1 := by
                          first | assumption | omega | grind
                        have hv_157 : goPost1 base (Mrow p) Mhead Mplays Mrests Mwent Mout (uZ Mhead (base + (Mrow p)) ((Mhead (base + (Mrow p))) + 1)) (uZ Mplays (base + (Mrow p)) (Mstand ((Mhead (base + (Mrow p))) + 1))) (uZ Mrests (base + (Mrow p)) 3) (uZ Mwent (base + (Mrow p)) ((Mwent (base + (Mrow p))) + 1)) (uZ Mout (base + (Mrow p)) 1) (goG ki le Mcells Mstand t (Mrow p) True (h, b, c, o)) (1 : Int) := by
                          exact go1_move hp4 (by omega) (by omega) (by assumption) (by assumption) (by omega) (fun k hk => ⟨by first | rfl | exact uZ_n hk, by first | rfl | exact uZ_n hk, by first | rfl | exact uZ_n hk⟩) (by (try simp only [uZ_s]); unfold busyF playF; ((repeat' split) <;> omega)) (by have e9 : uZ Mhead (base + Mrow p) (Mhead (base + Mrow p) + 1) (base + Mrow p) = Mhead (base + Mrow p) + 1 := uZ_s; first | exact Or.inl ⟨by omega, by first | exact uZ_s | omega⟩ | exact Or.inr ⟨by omega, by omega⟩)
                        exact W.zret (v := zI 1) hx hb hr rfl (fun t9 ht hW => ⟨⟨zI 1, (1, (uZ Mhead (base + (Mrow p)) ((Mhead (base + (Mrow p))) + 1)), (uZ Mplays (base + (Mrow p)) (Mstand ((Mhead (base + (Mrow p))) + 1))), (uZ Mrests (base + (Mrow p)) 3), (uZ Mwent (base + (Mrow p)) ((Mwent (base + (Mrow p))) + 1)), (uZ Mout (base + (Mrow p)) 1)), rfl, ⟨rfl, ⟨hR_37, hR_110, hR_145, hR_42, hR_155, hv_156, hv_157⟩⟩, by subst hAe; exact z_end hK hw ht hW⟩, by subst hAe; exact hw.2.2.F ht⟩) (by subst hAe; exact hw.2.2.2.2) dX8_goes_341
                · skip
                  refine z_iconst hx hb dX8_goes_256 ?_
                  refine lv_aload_n hx hb dX8_goes_257 rfl (lv_at hl 0 rfl) ?_
                  refine va_get (D := D) (ci := 8) (v := .ref (oM 9)) (C := RX8) (T := TX8) (N := 36) hx hb hts hinX8 hown hK hw.1 0 rfl rfl 25 (by decide) (hts (.fieldLink RX8 44 "CarnivalRoadModel" "stand" "[I") (by decide +kernel)) (fun _ h9 => h9) rfl dX8_goes_258 ?_
                  refine lv_aload_n hx hb dX8_goes_261 rfl (lv_at hl 0 rfl) ?_
                  refine va_get (D := D) (ci := 8) (v := .ref (oM 10)) (C := RX8) (T := TX8) (N := 36) hx hb hts hinX8 hown hK hw.1 0 rfl rfl 28 (by decide) (hts (.fieldLink RX8 47 "CarnivalRoadModel" "head" "[I") (by decide +kernel)) (fun _ h9 => h9) rfl dX8_goes_262 ?_
                  refine lv_iload hx hb dX8_goes_265 (lv_at hl 3 rfl) ?_
                  have hi_158 : (0 : Int) ≤ (base + (Mrow p)) ∧ (base + (Mrow p)) < ((16 : Nat) : Int) := by
                    omega
                  refine z_iald (n := 16) (f := (uZ Mhead (base + (Mrow p)) ((Mhead (base + (Mrow p))) + 1))) hx hb hK hw 10 rfl (by decide) hi_158 dX8_goes_267 ?_
                  rw [uZ_s]
                  have hi_159 : (0 : Int) ≤ ((Mhead (base + (Mrow p))) + 1) ∧ ((Mhead (base + (Mrow p))) + 1) < ((50 : Nat) : Int) := by
                    omega
                  refine z_iald (n := 50) (f := Mstand) hx hb hK hw 9 rfl (by decide) hi_159 dX8_goes_268 ?_
                  have hq_160 : 0 ≤ Mstand ((Mhead (base + (Mrow p))) + 1) ∧ Mstand ((Mhead (base + (Mrow p))) + 1) ≤ 9 := qMstand ((Mhead (base + (Mrow p))) + 1)
                  refine z_imul hx hb dX8_goes_269 ?_
                  refine lv_goto (tgt := 285) hx hb dX8_goes_270 (by decide) ?_
                  have hi_161 : (0 : Int) ≤ (base + (Mrow p)) ∧ (base + (Mrow p)) < ((16 : Nat) : Int) := by
                    omega
                  have hv_162 : (0 : Int) ≤ (2 * (Mstand ((Mhead (base + (Mrow p))) + 1))) ∧ (2 * (Mstand ((Mhead (base + (Mrow p))) + 1))) ≤ 18 := by
                    first | assumption | omega | grind
                  have hR_163 : RA (uZ Mplays (base + (Mrow p)) (2 * (Mstand ((Mhead (base + (Mrow p))) + 1)))) (0) 18 := RA_up qMplays hv_162
                  refine z_iast (n := 16) (f := Mplays) (ws2 := kM cI cB cZ oM Mthrown Mmany Mguest Mrow Mbars Mbar Mfresh Mtape Mtaped Mpos Mtoken MtokenAt Mvalue Mwrong MwrongAt MfaultKind MfaultPlace Mthing Morder Mone Mtwo Mbest Mcells Mgap Mwire Mstand Mruns Mminute (uZ Mhead (base + (Mrow p)) ((Mhead (base + (Mrow p))) + 1)) (uZ Mplays (base + (Mrow p)) (2 * (Mstand ((Mhead (base + (Mrow p))) + 1)))) Mrests (uZ Mwent (base + (Mrow p)) ((Mwent (base + (Mrow p))) + 1)) Mout Mcame Mgone MlastOut) hx hb hK hw 11 rfl (by decide) hi_161 dX8_goes_285 rfl (fun H locs hw => ?_)
                  refine lv_aload_n hx hb dX8_goes_286 rfl (lv_at hl 0 rfl) ?_
                  refine lv_iload hx hb dX8_goes_287 (lv_at hl 2 rfl) ?_
                  refine z_iconst hx hb dX8_goes_289 ?_
                  have hF9 := z_free (wc := kM cI cB cZ oM Mthrown Mmany Mguest Mrow Mbars Mbar Mfresh Mtape Mtaped Mpos Mtoken MtokenAt Mvalue Mwrong MwrongAt MfaultKind MfaultPlace Mthing Morder Mone Mtwo Mbest Mcells Mgap Mwire Mstand Mruns Mminute (uZ Mhead (base + (Mrow p)) ((Mhead (base + (Mrow p))) + 1)) (uZ Mplays (base + (Mrow p)) (2 * (Mstand ((Mhead (base + (Mrow p))) + 1)))) Mrests (uZ Mwent (base + (Mrow p)) ((Mwent (base + (Mrow p))) + 1)) Mout Mcame Mgone MlastOut) hw hA [0, 1, 2, 3, 4, 5, 6, 7, 8, 9, 10, 11, 12, 13, 14, 15, 16] rfl
                  refine va_calli (va_runV (As := [.int (zI (Mrow p)), .int (zI 0)]) (rest := []) ⟨hx, hb, hml, hown, hts⟩ (c_X8_get l D cI cB cZ oM H.size Mthrown Mmany Mguest Mrow Mbars Mbar Mfresh Mtape Mtaped Mpos Mtoken MtokenAt Mvalue Mwrong MwrongAt MfaultKind MfaultPlace Mthing Morder Mone Mtwo Mbest Mcells Mgap Mwire Mstand Mruns Mminute (uZ Mhead (base + (Mrow p)) ((Mhead (base + (Mrow p))) + 1)) (uZ Mplays (base + (Mrow p)) (2 * (Mstand ((Mhead (base + (Mrow p))) + 1)))) Mrests (uZ Mwent (base + (Mrow p)) ((Mwent (base + (Mrow p))) + 1)) Mout Mcame Mgone MlastOut (Mrow p) 0 (by omega) (by omega) qMguest qMrow (by omega) qMbar qMfresh qMtape (by omega) (by omega) (by omega) (by omega) (by omega) (by omega) (by omega) (by omega) (by omega) (by omega) qMorder (by omega) (by omega) qMbest (by omega) (by omega) qMwire qMstand (by omega) (by omega) hR_37 hR_163 qMrests hR_42 qMout qMcame qMgone (by omega) (by omega) (by omega)) (cwV 2 hts gX8_goes_X8_get rfl rfl rfl (by decide +kernel) ⟨Nat.le_of_ble_eq_true rfl, Nat.le_of_ble_eq_true rfl⟩) ⟨zPre_blind, va_recv hK hw.1 (ci := 8) (q0 := 0) rfl rfl, z_pre hK hw [0, 1, 2, 3, 4, 5, 6, 7, 8, 9, 10, 11, 12, 13, 14, 15, 16] (by decide) rfl⟩ rfl rfl hl.1 rfl (lv_room (Nat.le_of_ble_eq_true rfl)) dX8_goes_290 ⟨Nat.zero_le _, Nat.zero_le _⟩) hw.2.2 (fun q _ h => hF9 q h) hF9 (fun r9 u9 t9 H_164 locs9 ht9 hvm9 hq9 hB9 hz9 hk9 hS9 => ?_)
                  obtain ⟨r_165, rfl⟩ : ∃ z, z = u9 := ⟨_, rfl⟩
                  try dsimp only at hq9 hB9
                  obtain ⟨rfl, hq9⟩ := hq9
                  obtain ⟨hq_166, hq_167⟩ := hq9
                  have hw : HW D A s.heap (kM cI cB cZ oM Mthrown Mmany Mguest Mrow Mbars Mbar Mfresh Mtape Mtaped Mpos Mtoken MtokenAt Mvalue Mwrong MwrongAt MfaultKind MfaultPlace Mthing Morder Mone Mtwo Mbest Mcells Mgap Mwire Mstand Mruns Mminute (uZ Mhead (base + (Mrow p)) ((Mhead (base + (Mrow p))) + 1)) (uZ Mplays (base + (Mrow p)) (2 * (Mstand ((Mhead (base + (Mrow p))) + 1)))) Mrests (uZ Mwent (base + (Mrow p)) ((Mwent (base + (Mrow p))) + 1)) Mout Mcame Mgone MlastOut) H_164 locs9 := z_after (wc := kM cI cB cZ oM Mthrown Mmany Mguest Mrow Mbars Mbar Mfresh Mtape Mtaped Mpos Mtoken MtokenAt Mvalue Mwrong MwrongAt MfaultKind MfaultPlace Mthing Morder Mone Mtwo Mbest Mcells Mgap Mwire Mstand Mruns Mminute (uZ Mhead (base + (Mrow p)) ((Mhead (base + (Mrow p))) + 1)) (uZ Mplays (base + (Mrow p)) (2 * (Mstand ((Mhead (base + (Mrow p))) + 1)))) Mrests (uZ Mwent (base + (Mrow p)) ((Mwent (base + (Mrow p))) + 1)) Mout Mcame Mgone MlastOut) hw [0, 1, 2, 3, 4, 5, 6, 7, 8, 9, 10, 11, 12, 13, 14, 15, 16] [] rfl rfl (by decide) (by decide) hF9 hk9 ht9 hB9 hS9 [0, 1, 2, 3, 4, 5, 6, 7, 8, 9, 10, 11, 12, 13, 14, 15, 16] (by decide) rfl
                  clear hF9 ht9 hvm9 hB9 hz9 hk9 hS9
                  refine z_iconst hx hb dX8_goes_293 ?_
                  refine z_icmp_ne (tgt := 318) hx hb dX8_goes_294 (by decide) (by omega) (fun hc_168 => ?_) (fun hc_168 => ?_)
                  · skip
                    refine lv_aload_n hx hb dX8_goes_318 rfl (lv_at hl 0 rfl) ?_
                    refine lv_iload_n hx hb dX8_goes_319 rfl (lv_at hl 1 rfl) ?_
                    refine lv_iload hx hb dX8_goes_320 (lv_at hl 2 rfl) ?_
                    have hF9 := z_free (wc := kM cI cB cZ oM Mthrown Mmany Mguest Mrow Mbars Mbar Mfresh Mtape Mtaped Mpos Mtoken MtokenAt Mvalue Mwrong MwrongAt MfaultKind MfaultPlace Mthing Morder Mone Mtwo Mbest Mcells Mgap Mwire Mstand Mruns Mminute (uZ Mhead (base + (Mrow p)) ((Mhead (base + (Mrow p))) + 1)) (uZ Mplays (base + (Mrow p)) (2 * (Mstand ((Mhead (base + (Mrow p))) + 1)))) Mrests (uZ Mwent (base + (Mrow p)) ((Mwent (base + (Mrow p))) + 1)) Mout Mcame Mgone MlastOut) hw hA [0, 1, 2, 3, 4, 5, 6, 7, 8, 9, 10, 11, 12, 13, 14, 15, 16] rfl
                    refine va_calli (va_runV (As := [.int (zI base), .int (zI (Mrow p))]) (rest := []) ⟨hx, hb, hml, hown, hts⟩ (c_X8_tail l D cI cB cZ oM H_164.size Mthrown Mmany Mguest Mrow Mbars Mbar Mfresh Mtape Mtaped Mpos Mtoken MtokenAt Mvalue Mwrong MwrongAt MfaultKind MfaultPlace Mthing Morder Mone Mtwo Mbest Mcells Mgap Mwire Mstand Mruns Mminute (uZ Mhead (base + (Mrow p)) ((Mhead (base + (Mrow p))) + 1)) (uZ Mplays (base + (Mrow p)) (2 * (Mstand ((Mhead (base + (Mrow p))) + 1)))) Mrests (uZ Mwent (base + (Mrow p)) ((Mwent (base + (Mrow p))) + 1)) Mout Mcame Mgone MlastOut base (Mrow p) (by omega) (by omega) qMguest qMrow (by omega) qMbar qMfresh qMtape (by omega) (by omega) (by omega) (by omega) (by omega) (by omega) (by omega) (by omega) (by omega) (by omega) qMorder (by omega) (by omega) qMbest (by omega) (by omega) qMwire qMstand (by omega) (by omega) hR_37 hR_163 qMrests hR_42 qMout qMcame qMgone (by omega) (by omega) (by omega)) (cwV 2 hts gX8_goes_X8_tail rfl rfl rfl (by decide +kernel) ⟨Nat.le_of_ble_eq_true rfl, Nat.le_of_ble_eq_true rfl⟩) ⟨zPre_blind, va_recv hK hw.1 (ci := 8) (q0 := 0) rfl rfl, z_pre hK hw [0, 1, 2, 3, 4, 5, 6, 7, 8, 9, 10, 11, 12, 13, 14, 15, 16] (by decide) rfl⟩ rfl rfl hl.1 rfl (lv_room (Nat.le_of_ble_eq_true rfl)) dX8_goes_322 ⟨Nat.zero_le _, Nat.zero_le _⟩) hw.2.2 (fun q _ h => hF9 q h) hF9 (fun r9 u9 t9 H_169 locs9 ht9 hvm9 hq9 hB9 hz9 hk9 hS9 => ?_)
                    obtain ⟨r_170, rfl⟩ : ∃ z, z = u9 := ⟨_, rfl⟩
                    try dsimp only at hq9 hB9
                    obtain ⟨rfl, hq9⟩ := hq9
                    obtain ⟨hq_171, hq_172⟩ := hq9
                    have hw : HW D A s.heap (kM cI cB cZ oM Mthrown Mmany Mguest Mrow Mbars Mbar Mfresh Mtape Mtaped Mpos Mtoken MtokenAt Mvalue Mwrong MwrongAt MfaultKind MfaultPlace Mthing Morder Mone Mtwo Mbest Mcells Mgap Mwire Mstand Mruns Mminute (uZ Mhead (base + (Mrow p)) ((Mhead (base + (Mrow p))) + 1)) (uZ Mplays (base + (Mrow p)) (2 * (Mstand ((Mhead (base + (Mrow p))) + 1)))) Mrests (uZ Mwent (base + (Mrow p)) ((Mwent (base + (Mrow p))) + 1)) Mout Mcame Mgone MlastOut) H_169 locs9 := z_after (wc := kM cI cB cZ oM Mthrown Mmany Mguest Mrow Mbars Mbar Mfresh Mtape Mtaped Mpos Mtoken MtokenAt Mvalue Mwrong MwrongAt MfaultKind MfaultPlace Mthing Morder Mone Mtwo Mbest Mcells Mgap Mwire Mstand Mruns Mminute (uZ Mhead (base + (Mrow p)) ((Mhead (base + (Mrow p))) + 1)) (uZ Mplays (base + (Mrow p)) (2 * (Mstand ((Mhead (base + (Mrow p))) + 1)))) Mrests (uZ Mwent (base + (Mrow p)) ((Mwent (base + (Mrow p))) + 1)) Mout Mcame Mgone MlastOut) hw [0, 1, 2, 3, 4, 5, 6, 7, 8, 9, 10, 11, 12, 13, 14, 15, 16] [] rfl rfl (by decide) (by decide) hF9 hk9 ht9 hB9 hS9 [0, 1, 2, 3, 4, 5, 6, 7, 8, 9, 10, 11, 12, 13, 14, 15, 16] (by decide) rfl
                    clear hF9 ht9 hvm9 hB9 hz9 hk9 hS9
                    refine lv_aload_n hx hb dX8_goes_325 rfl (lv_at hl 0 rfl) ?_
                    refine va_get (D := D) (ci := 8) (v := .int (zI Mcells)) (C := RX8) (T := TX8) (N := 36) hx hb hts hinX8 hown hK hw.1 0 rfl rfl 22 (by decide) (hts (.fieldLink RX8 35 "CarnivalRoadModel" "cells" "I") (by decide +kernel)) (fun _ h9 => h9) rfl dX8_goes_326 ?_
                    refine z_icmp_lt (tgt := 340) hx hb dX8_goes_329 (by decide) (by omega) (fun hc_173 => ?_) (fun hc_173 => ?_)
                    · skip
                      refine z_iconst hx hb dX8_goes_340 ?_
                      have hv_174 : (1 : Int) = 0 ∨ (1 : Int) = 1 := by
                        first | assumption | omega | grind
                      have hv_175 : goPost1 base (Mrow p) Mhead Mplays Mrests Mwent Mout (uZ Mhead (base + (Mrow p)) ((Mhead (base + (Mrow p))) + 1)) (uZ Mplays (base + (Mrow p)) (2 * (Mstand ((Mhead (base + (Mrow p))) + 1)))) Mrests (uZ Mwent (base + (Mrow p)) ((Mwent (base + (Mrow p))) + 1)) Mout (goG ki le Mcells Mstand t (Mrow p) True (h, b, c, o)) (1 : Int) := by
                        exact go1_move hp4 (by omega) (by omega) (by assumption) (by assumption) (by omega) (fun k hk => ⟨by first | rfl | exact uZ_n hk, by first | rfl | exact uZ_n hk, by first | rfl | exact uZ_n hk⟩) (by (try simp only [uZ_s]); unfold busyF playF; ((repeat' split) <;> omega)) (by have e9 : uZ Mhead (base + Mrow p) (Mhead (base + Mrow p) + 1) (base + Mrow p) = Mhead (base + Mrow p) + 1 := uZ_s; first | exact Or.inl ⟨by omega, by first | exact uZ_s | omega⟩ | exact Or.inr ⟨by omega, by omega⟩)
                      exact W.zret (v := zI 1) hx hb hr rfl (fun t9 ht hW => ⟨⟨zI 1, (1, (uZ Mhead (base + (Mrow p)) ((Mhead (base + (Mrow p))) + 1)), (uZ Mplays (base + (Mrow p)) (2 * (Mstand ((Mhead (base + (Mrow p))) + 1)))), Mrests, (uZ Mwent (base + (Mrow p)) ((Mwent (base + (Mrow p))) + 1)), Mout), rfl, ⟨rfl, ⟨hR_37, hR_163, qMrests, hR_42, qMout, hv_174, hv_175⟩⟩, by subst hAe; exact z_end hK hw ht hW⟩, by subst hAe; exact hw.2.2.F ht⟩) (by subst hAe; exact hw.2.2.2.2) dX8_goes_341
                    · skip
                      refine lv_aload_n hx hb dX8_goes_332 rfl (lv_at hl 0 rfl) ?_
                      refine va_get (D := D) (ci := 8) (v := .ref (oM 14)) (C := RX8) (T := TX8) (N := 36) hx hb hts hinX8 hown hK hw.1 0 rfl rfl 32 (by decide) (hts (.fieldLink RX8 59 "CarnivalRoadModel" "out" "[Z") (by decide +kernel)) (fun _ h9 => h9) rfl dX8_goes_333 ?_
                      refine lv_iload hx hb dX8_goes_336 (lv_at hl 3 rfl) ?_
                      refine z_iconst hx hb dX8_goes_338 ?_
                      have hi_176 : (0 : Int) ≤ (base + (Mrow p)) ∧ (base + (Mrow p)) < ((16 : Nat) : Int) := by
                        omega
                      have hv_177 : (0 : Int) ≤ (1 : Int) ∧ (1 : Int) ≤ 1 := by
                        first | assumption | omega | grind
                      have hR_178 : RA (uZ Mout (base + (Mrow p)) 1) (0) 1 := RA_up qMout hv_177
                      refine z_zast (n := 16) (f := Mout) (ws2 := kM cI cB cZ oM Mthrown Mmany Mguest Mrow Mbars Mbar Mfresh Mtape Mtaped Mpos Mtoken MtokenAt Mvalue Mwrong MwrongAt MfaultKind MfaultPlace Mthing Morder Mone Mtwo Mbest Mcells Mgap Mwire Mstand Mruns Mminute (uZ Mhead (base + (Mrow p)) ((Mhead (base + (Mrow p))) + 1)) (uZ Mplays (base + (Mrow p)) (2 * (Mstand ((Mhead (base + (Mrow p))) + 1)))) Mrests (uZ Mwent (base + (Mrow p)) ((Mwent (base + (Mrow p))) + 1)) (uZ Mout (base + (Mrow p)) 1) Mcame Mgone MlastOut) hx hb hK hw 14 rfl rfl (by decide) hi_176 dX8_goes_339 rfl (fun H locs hw => ?_)
                      refine z_iconst hx hb dX8_goes_340 ?_
                      have hv_179 : (1 : Int) = 0 ∨ (1 : Int) = 1 := by
                        first | assumption | omega | grind
                      have hv_180 : goPost1 base (Mrow p) Mhead Mplays Mrests Mwent Mout (uZ Mhead (base + (Mrow p)) ((Mhead (base + (Mrow p))) + 1)) (uZ Mplays (base + (Mrow p)) (2 * (Mstand ((Mhead (base + (Mrow p))) + 1)))) Mrests (uZ Mwent (base + (Mrow p)) ((Mwent (base + (Mrow p))) + 1)) (uZ Mout (base + (Mrow p)) 1) (goG ki le Mcells Mstand t (Mrow p) True (h, b, c, o)) (1 : Int) := by
                        exact go1_move hp4 (by omega) (by omega) (by assumption) (by assumption) (by omega) (fun k hk => ⟨by first | rfl | exact uZ_n hk, by first | rfl | exact uZ_n hk, by first | rfl | exact uZ_n hk⟩) (by (try simp only [uZ_s]); unfold busyF playF; ((repeat' split) <;> omega)) (by have e9 : uZ Mhead (base + Mrow p) (Mhead (base + Mrow p) + 1) (base + Mrow p) = Mhead (base + Mrow p) + 1 := uZ_s; first | exact Or.inl ⟨by omega, by first | exact uZ_s | omega⟩ | exact Or.inr ⟨by omega, by omega⟩)
                      exact W.zret (v := zI 1) hx hb hr rfl (fun t9 ht hW => ⟨⟨zI 1, (1, (uZ Mhead (base + (Mrow p)) ((Mhead (base + (Mrow p))) + 1)), (uZ Mplays (base + (Mrow p)) (2 * (Mstand ((Mhead (base + (Mrow p))) + 1)))), Mrests, (uZ Mwent (base + (Mrow p)) ((Mwent (base + (Mrow p))) + 1)), (uZ Mout (base + (Mrow p)) 1)), rfl, ⟨rfl, ⟨hR_37, hR_163, qMrests, hR_42, hR_178, hv_179, hv_180⟩⟩, by subst hAe; exact z_end hK hw ht hW⟩, by subst hAe; exact hw.2.2.F ht⟩) (by subst hAe; exact hw.2.2.2.2) dX8_goes_341
                  · skip
                    refine lv_aload_n hx hb dX8_goes_297 rfl (lv_at hl 0 rfl) ?_
                    refine va_get (D := D) (ci := 8) (v := .ref (oM 13)) (C := RX8) (T := TX8) (N := 36) hx hb hts hinX8 hown hK hw.1 0 rfl rfl 31 (by decide) (hts (.fieldLink RX8 56 "CarnivalRoadModel" "went" "[I") (by decide +kernel)) (fun _ h9 => h9) rfl dX8_goes_298 ?_
                    refine lv_iload hx hb dX8_goes_301 (lv_at hl 3 rfl) ?_
                    have hi_181 : (0 : Int) ≤ (base + (Mrow p)) ∧ (base + (Mrow p)) < ((16 : Nat) : Int) := by
                      omega
                    refine z_iald (n := 16) (f := (uZ Mwent (base + (Mrow p)) ((Mwent (base + (Mrow p))) + 1))) hx hb hK hw 13 rfl (by decide) hi_181 dX8_goes_303 ?_
                    rw [uZ_s]
                    refine z_bipush hx hb dX8_goes_304 (by decide) ?_
                    have hbit_182 : zI ((Mwent (base + (Mrow p))) + 1) - zI ((Mwent (base + (Mrow p))) + 1) / zI 10 * zI 10 = zI (((Mwent (base + (Mrow p))) + 1) % (10 : Int)) := by
                      exact z_rem (by omega) (by omega)
                    refine lv_irem hx hb dX8_goes_306 (fun q => by have q2 := (zI_eq (by omega) (by omega)).mp (show zI 10 = zI 0 from q); omega) ?_
                    rw [hbit_182]
                    clear hbit_182
                    refine z_if_ne (tgt := 318) hx hb dX8_goes_307 (by decide) (by omega) (fun hc_183 => ?_) (fun hc_183 => ?_)
                    · skip
                      refine lv_aload_n hx hb dX8_goes_318 rfl (lv_at hl 0 rfl) ?_
                      refine lv_iload_n hx hb dX8_goes_319 rfl (lv_at hl 1 rfl) ?_
                      refine lv_iload hx hb dX8_goes_320 (lv_at hl 2 rfl) ?_
                      have hF9 := z_free (wc := kM cI cB cZ oM Mthrown Mmany Mguest Mrow Mbars Mbar Mfresh Mtape Mtaped Mpos Mtoken MtokenAt Mvalue Mwrong MwrongAt MfaultKind MfaultPlace Mthing Morder Mone Mtwo Mbest Mcells Mgap Mwire Mstand Mruns Mminute (uZ Mhead (base + (Mrow p)) ((Mhead (base + (Mrow p))) + 1)) (uZ Mplays (base + (Mrow p)) (2 * (Mstand ((Mhead (base + (Mrow p))) + 1)))) Mrests (uZ Mwent (base + (Mrow p)) ((Mwent (base + (Mrow p))) + 1)) Mout Mcame Mgone MlastOut) hw hA [0, 1, 2, 3, 4, 5, 6, 7, 8, 9, 10, 11, 12, 13, 14, 15, 16] rfl
                      refine va_calli (va_runV (As := [.int (zI base), .int (zI (Mrow p))]) (rest := []) ⟨hx, hb, hml, hown, hts⟩ (c_X8_tail l D cI cB cZ oM H_164.size Mthrown Mmany Mguest Mrow Mbars Mbar Mfresh Mtape Mtaped Mpos Mtoken MtokenAt Mvalue Mwrong MwrongAt MfaultKind MfaultPlace Mthing Morder Mone Mtwo Mbest Mcells Mgap Mwire Mstand Mruns Mminute (uZ Mhead (base + (Mrow p)) ((Mhead (base + (Mrow p))) + 1)) (uZ Mplays (base + (Mrow p)) (2 * (Mstand ((Mhead (base + (Mrow p))) + 1)))) Mrests (uZ Mwent (base + (Mrow p)) ((Mwent (base + (Mrow p))) + 1)) Mout Mcame Mgone MlastOut base (Mrow p) (by omega) (by omega) qMguest qMrow (by omega) qMbar qMfresh qMtape (by omega) (by omega) (by omega) (by omega) (by omega) (by omega) (by omega) (by omega) (by omega) (by omega) qMorder (by omega) (by omega) qMbest (by omega) (by omega) qMwire qMstand (by omega) (by omega) hR_37 hR_163 qMrests hR_42 qMout qMcame qMgone (by omega) (by omega) (by omega)) (cwV 2 hts gX8_goes_X8_tail rfl rfl rfl (by decide +kernel) ⟨Nat.le_of_ble_eq_true rfl, Nat.le_of_ble_eq_true rfl⟩) ⟨zPre_blind, va_recv hK hw.1 (ci := 8) (q0 := 0) rfl rfl, z_pre hK hw [0, 1, 2, 3, 4, 5, 6, 7, 8, 9, 10, 11, 12, 13, 14, 15, 16] (by decide) rfl⟩ rfl rfl hl.1 rfl (lv_room (Nat.le_of_ble_eq_true rfl)) dX8_goes_322 ⟨Nat.zero_le _, Nat.zero_le _⟩) hw.2.2 (fun q _ h => hF9 q h) hF9 (fun r9 u9 t9 H_184 locs9 ht9 hvm9 hq9 hB9 hz9 hk9 hS9 => ?_)
                      obtain ⟨r_185, rfl⟩ : ∃ z, z = u9 := ⟨_, rfl⟩
                      try dsimp only at hq9 hB9
                      obtain ⟨rfl, hq9⟩ := hq9
                      obtain ⟨hq_186, hq_187⟩ := hq9
                      have hw : HW D A s.heap (kM cI cB cZ oM Mthrown Mmany Mguest Mrow Mbars Mbar Mfresh Mtape Mtaped Mpos Mtoken MtokenAt Mvalue Mwrong MwrongAt MfaultKind MfaultPlace Mthing Morder Mone Mtwo Mbest Mcells Mgap Mwire Mstand Mruns Mminute (uZ Mhead (base + (Mrow p)) ((Mhead (base + (Mrow p))) + 1)) (uZ Mplays (base + (Mrow p)) (2 * (Mstand ((Mhead (base + (Mrow p))) + 1)))) Mrests (uZ Mwent (base + (Mrow p)) ((Mwent (base + (Mrow p))) + 1)) Mout Mcame Mgone MlastOut) H_184 locs9 := z_after (wc := kM cI cB cZ oM Mthrown Mmany Mguest Mrow Mbars Mbar Mfresh Mtape Mtaped Mpos Mtoken MtokenAt Mvalue Mwrong MwrongAt MfaultKind MfaultPlace Mthing Morder Mone Mtwo Mbest Mcells Mgap Mwire Mstand Mruns Mminute (uZ Mhead (base + (Mrow p)) ((Mhead (base + (Mrow p))) + 1)) (uZ Mplays (base + (Mrow p)) (2 * (Mstand ((Mhead (base + (Mrow p))) + 1)))) Mrests (uZ Mwent (base + (Mrow p)) ((Mwent (base + (Mrow p))) + 1)) Mout Mcame Mgone MlastOut) hw [0, 1, 2, 3, 4, 5, 6, 7, 8, 9, 10, 11, 12, 13, 14, 15, 16] [] rfl rfl (by decide) (by decide) hF9 hk9 ht9 hB9 hS9 [0, 1, 2, 3, 4, 5, 6, 7, 8, 9, 10, 11, 12, 13, 14, 15, 16] (by decide) rfl
                      clear hF9 ht9 hvm9 hB9 hz9 hk9 hS9
                      refine lv_aload_n hx hb dX8_goes_325 rfl (lv_at hl 0 rfl) ?_
                      refine va_get (D := D) (ci := 8) (v := .int (zI Mcells)) (C := RX8) (T := TX8) (N := 36) hx hb hts hinX8 hown hK hw.1 0 rfl rfl 22 (by decide) (hts (.fieldLink RX8 35 "CarnivalRoadModel" "cells" "I") (by decide +kernel)) (fun _ h9 => h9) rfl dX8_goes_326 ?_
                      refine z_icmp_lt (tgt := 340) hx hb dX8_goes_329 (by decide) (by omega) (fun hc_188 => ?_) (fun hc_188 => ?_)
                      · skip
                        refine z_iconst hx hb dX8_goes_340 ?_
                        have hv_189 : (1 : Int) = 0 ∨ (1 : Int) = 1 := by
                          first | assumption | omega | grind
                        have hv_190 : goPost1 base (Mrow p) Mhead Mplays Mrests Mwent Mout (uZ Mhead (base + (Mrow p)) ((Mhead (base + (Mrow p))) + 1)) (uZ Mplays (base + (Mrow p)) (2 * (Mstand ((Mhead (base + (Mrow p))) + 1)))) Mrests (uZ Mwent (base + (Mrow p)) ((Mwent (base + (Mrow p))) + 1)) Mout (goG ki le Mcells Mstand t (Mrow p) True (h, b, c, o)) (1 : Int) := by
                          exact go1_move hp4 (by omega) (by omega) (by assumption) (by assumption) (by omega) (fun k hk => ⟨by first | rfl | exact uZ_n hk, by first | rfl | exact uZ_n hk, by first | rfl | exact uZ_n hk⟩) (by (try simp only [uZ_s]); unfold busyF playF; ((repeat' split) <;> omega)) (by have e9 : uZ Mhead (base + Mrow p) (Mhead (base + Mrow p) + 1) (base + Mrow p) = Mhead (base + Mrow p) + 1 := uZ_s; first | exact Or.inl ⟨by omega, by first | exact uZ_s | omega⟩ | exact Or.inr ⟨by omega, by omega⟩)
                        exact W.zret (v := zI 1) hx hb hr rfl (fun t9 ht hW => ⟨⟨zI 1, (1, (uZ Mhead (base + (Mrow p)) ((Mhead (base + (Mrow p))) + 1)), (uZ Mplays (base + (Mrow p)) (2 * (Mstand ((Mhead (base + (Mrow p))) + 1)))), Mrests, (uZ Mwent (base + (Mrow p)) ((Mwent (base + (Mrow p))) + 1)), Mout), rfl, ⟨rfl, ⟨hR_37, hR_163, qMrests, hR_42, qMout, hv_189, hv_190⟩⟩, by subst hAe; exact z_end hK hw ht hW⟩, by subst hAe; exact hw.2.2.F ht⟩) (by subst hAe; exact hw.2.2.2.2) dX8_goes_341
                      · skip
                        refine lv_aload_n hx hb dX8_goes_332 rfl (lv_at hl 0 rfl) ?_
                        refine va_get (D := D) (ci := 8) (v := .ref (oM 14)) (C := RX8) (T := TX8) (N := 36) hx hb hts hinX8 hown hK hw.1 0 rfl rfl 32 (by decide) (hts (.fieldLink RX8 59 "CarnivalRoadModel" "out" "[Z") (by decide +kernel)) (fun _ h9 => h9) rfl dX8_goes_333 ?_
                        refine lv_iload hx hb dX8_goes_336 (lv_at hl 3 rfl) ?_
                        refine z_iconst hx hb dX8_goes_338 ?_
                        have hi_191 : (0 : Int) ≤ (base + (Mrow p)) ∧ (base + (Mrow p)) < ((16 : Nat) : Int) := by
                          omega
                        have hv_192 : (0 : Int) ≤ (1 : Int) ∧ (1 : Int) ≤ 1 := by
                          first | assumption | omega | grind
                        have hR_193 : RA (uZ Mout (base + (Mrow p)) 1) (0) 1 := RA_up qMout hv_192
                        refine z_zast (n := 16) (f := Mout) (ws2 := kM cI cB cZ oM Mthrown Mmany Mguest Mrow Mbars Mbar Mfresh Mtape Mtaped Mpos Mtoken MtokenAt Mvalue Mwrong MwrongAt MfaultKind MfaultPlace Mthing Morder Mone Mtwo Mbest Mcells Mgap Mwire Mstand Mruns Mminute (uZ Mhead (base + (Mrow p)) ((Mhead (base + (Mrow p))) + 1)) (uZ Mplays (base + (Mrow p)) (2 * (Mstand ((Mhead (base + (Mrow p))) + 1)))) Mrests (uZ Mwent (base + (Mrow p)) ((Mwent (base + (Mrow p))) + 1)) (uZ Mout (base + (Mrow p)) 1) Mcame Mgone MlastOut) hx hb hK hw 14 rfl rfl (by decide) hi_191 dX8_goes_339 rfl (fun H locs hw => ?_)
                        refine z_iconst hx hb dX8_goes_340 ?_
                        have hv_194 : (1 : Int) = 0 ∨ (1 : Int) = 1 := by
                          first | assumption | omega | grind
                        have hv_195 : goPost1 base (Mrow p) Mhead Mplays Mrests Mwent Mout (uZ Mhead (base + (Mrow p)) ((Mhead (base + (Mrow p))) + 1)) (uZ Mplays (base + (Mrow p)) (2 * (Mstand ((Mhead (base + (Mrow p))) + 1)))) Mrests (uZ Mwent (base + (Mrow p)) ((Mwent (base + (Mrow p))) + 1)) (uZ Mout (base + (Mrow p)) 1) (goG ki le Mcells Mstand t (Mrow p) True (h, b, c, o)) (1 : Int) := by
                          exact go1_move hp4 (by omega) (by omega) (by assumption) (by assumption) (by omega) (fun k hk => ⟨by first | rfl | exact uZ_n hk, by first | rfl | exact uZ_n hk, by first | rfl | exact uZ_n hk⟩) (by (try simp only [uZ_s]); unfold busyF playF; ((repeat' split) <;> omega)) (by have e9 : uZ Mhead (base + Mrow p) (Mhead (base + Mrow p) + 1) (base + Mrow p) = Mhead (base + Mrow p) + 1 := uZ_s; first | exact Or.inl ⟨by omega, by first | exact uZ_s | omega⟩ | exact Or.inr ⟨by omega, by omega⟩)
                        exact W.zret (v := zI 1) hx hb hr rfl (fun t9 ht hW => ⟨⟨zI 1, (1, (uZ Mhead (base + (Mrow p)) ((Mhead (base + (Mrow p))) + 1)), (uZ Mplays (base + (Mrow p)) (2 * (Mstand ((Mhead (base + (Mrow p))) + 1)))), Mrests, (uZ Mwent (base + (Mrow p)) ((Mwent (base + (Mrow p))) + 1)), (uZ Mout (base + (Mrow p)) 1)), rfl, ⟨rfl, ⟨hR_37, hR_163, qMrests, hR_42, hR_193, hv_194, hv_195⟩⟩, by subst hAe; exact z_end hK hw ht hW⟩, by subst hAe; exact hw.2.2.F ht⟩) (by subst hAe; exact hw.2.2.2.2) dX8_goes_341
                    · skip
                      refine lv_aload_n hx hb dX8_goes_310 rfl (lv_at hl 0 rfl) ?_
                      refine va_get (D := D) (ci := 8) (v := .ref (oM 12)) (C := RX8) (T := TX8) (N := 36) hx hb hts hinX8 hown hK hw.1 0 rfl rfl 30 (by decide) (hts (.fieldLink RX8 53 "CarnivalRoadModel" "rests" "[I") (by decide +kernel)) (fun _ h9 => h9) rfl dX8_goes_311 ?_
                      refine lv_iload hx hb dX8_goes_314 (lv_at hl 3 rfl) ?_
                      refine z_iconst hx hb dX8_goes_316 ?_
                      have hi_196 : (0 : Int) ≤ (base + (Mrow p)) ∧ (base + (Mrow p)) < ((16 : Nat) : Int) := by
                        omega
                      have hv_197 : (0 : Int) ≤ (3 : Int) ∧ (3 : Int) ≤ 3 := by
                        first | assumption | omega | grind
                      have hR_198 : RA (uZ Mrests (base + (Mrow p)) 3) (0) 3 := RA_up qMrests hv_197
                      refine z_iast (n := 16) (f := Mrests) (ws2 := kM cI cB cZ oM Mthrown Mmany Mguest Mrow Mbars Mbar Mfresh Mtape Mtaped Mpos Mtoken MtokenAt Mvalue Mwrong MwrongAt MfaultKind MfaultPlace Mthing Morder Mone Mtwo Mbest Mcells Mgap Mwire Mstand Mruns Mminute (uZ Mhead (base + (Mrow p)) ((Mhead (base + (Mrow p))) + 1)) (uZ Mplays (base + (Mrow p)) (2 * (Mstand ((Mhead (base + (Mrow p))) + 1)))) (uZ Mrests (base + (Mrow p)) 3) (uZ Mwent (base + (Mrow p)) ((Mwent (base + (Mrow p))) + 1)) Mout Mcame Mgone MlastOut) hx hb hK hw 12 rfl (by decide) hi_196 dX8_goes_317 rfl (fun H locs hw => ?_)
                      refine lv_aload_n hx hb dX8_goes_318 rfl (lv_at hl 0 rfl) ?_
                      refine lv_iload_n hx hb dX8_goes_319 rfl (lv_at hl 1 rfl) ?_
                      refine lv_iload hx hb dX8_goes_320 (lv_at hl 2 rfl) ?_
                      have hF9 := z_free (wc := kM cI cB cZ oM Mthrown Mmany Mguest Mrow Mbars Mbar Mfresh Mtape Mtaped Mpos Mtoken MtokenAt Mvalue Mwrong MwrongAt MfaultKind MfaultPlace Mthing Morder Mone Mtwo Mbest Mcells Mgap Mwire Mstand Mruns Mminute (uZ Mhead (base + (Mrow p)) ((Mhead (base + (Mrow p))) + 1)) (uZ Mplays (base + (Mrow p)) (2 * (Mstand ((Mhead (base + (Mrow p))) + 1)))) (uZ Mrests (base + (Mrow p)) 3) (uZ Mwent (base + (Mrow p)) ((Mwent (base + (Mrow p))) + 1)) Mout Mcame Mgone MlastOut) hw hA [0, 1, 2, 3, 4, 5, 6, 7, 8, 9, 10, 11, 12, 13, 14, 15, 16] rfl
                      refine va_calli (va_runV (As := [.int (zI base), .int (zI (Mrow p))]) (rest := []) ⟨hx, hb, hml, hown, hts⟩ (c_X8_tail l D cI cB cZ oM H.size Mthrown Mmany Mguest Mrow Mbars Mbar Mfresh Mtape Mtaped Mpos Mtoken MtokenAt Mvalue Mwrong MwrongAt MfaultKind MfaultPlace Mthing Morder Mone Mtwo Mbest Mcells Mgap Mwire Mstand Mruns Mminute (uZ Mhead (base + (Mrow p)) ((Mhead (base + (Mrow p))) + 1)) (uZ Mplays (base + (Mrow p)) (2 * (Mstand ((Mhead (base + (Mrow p))) + 1)))) (uZ Mrests (base + (Mrow p)) 3) (uZ Mwent (base + (Mrow p)) ((Mwent (base + (Mrow p))) + 1)) Mout Mcame Mgone MlastOut base (Mrow p) (by omega) (by omega) qMguest qMrow (by omega) qMbar qMfresh qMtape (by omega) (by omega) (by omega) (by omega) (by omega) (by omega) (by omega) (by omega) (by omega) (by omega) qMorder (by omega) (by omega) qMbest (by omega) (by omega) qMwire qMstand (by omega) (by omega) hR_37 hR_163 hR_198 hR_42 qMout qMcame qMgone (by omega) (by omega) (by omega)) (cwV 2 hts gX8_goes_X8_tail rfl rfl rfl (by decide +kernel) ⟨Nat.le_of_ble_eq_true rfl, Nat.le_of_ble_eq_true rfl⟩) ⟨zPre_blind, va_recv hK hw.1 (ci := 8) (q0 := 0) rfl rfl, z_pre hK hw [0, 1, 2, 3, 4, 5, 6, 7, 8, 9, 10, 11, 12, 13, 14, 15, 16] (by decide) rfl⟩ rfl rfl hl.1 rfl (lv_room (Nat.le_of_ble_eq_true rfl)) dX8_goes_322 ⟨Nat.zero_le _, Nat.zero_le _⟩) hw.2.2 (fun q _ h => hF9 q h) hF9 (fun r9 u9 t9 H_199 locs9 ht9 hvm9 hq9 hB9 hz9 hk9 hS9 => ?_)
                      obtain ⟨r_200, rfl⟩ : ∃ z, z = u9 := ⟨_, rfl⟩
                      try dsimp only at hq9 hB9
                      obtain ⟨rfl, hq9⟩ := hq9
                      obtain ⟨hq_201, hq_202⟩ := hq9
                      have hw : HW D A s.heap (kM cI cB cZ oM Mthrown Mmany Mguest Mrow Mbars Mbar Mfresh Mtape Mtaped Mpos Mtoken MtokenAt Mvalue Mwrong MwrongAt MfaultKind MfaultPlace Mthing Morder Mone Mtwo Mbest Mcells Mgap Mwire Mstand Mruns Mminute (uZ Mhead (base + (Mrow p)) ((Mhead (base + (Mrow p))) + 1)) (uZ Mplays (base + (Mrow p)) (2 * (Mstand ((Mhead (base + (Mrow p))) + 1)))) (uZ Mrests (base + (Mrow p)) 3) (uZ Mwent (base + (Mrow p)) ((Mwent (base + (Mrow p))) + 1)) Mout Mcame Mgone MlastOut) H_199 locs9 := z_after (wc := kM cI cB cZ oM Mthrown Mmany Mguest Mrow Mbars Mbar Mfresh Mtape Mtaped Mpos Mtoken MtokenAt Mvalue Mwrong MwrongAt MfaultKind MfaultPlace Mthing Morder Mone Mtwo Mbest Mcells Mgap Mwire Mstand Mruns Mminute (uZ Mhead (base + (Mrow p)) ((Mhead (base + (Mrow p))) + 1)) (uZ Mplays (base + (Mrow p)) (2 * (Mstand ((Mhead (base + (Mrow p))) + 1)))) (uZ Mrests (base + (Mrow p)) 3) (uZ Mwent (base + (Mrow p)) ((Mwent (base + (Mrow p))) + 1)) Mout Mcame Mgone MlastOut) hw [0, 1, 2, 3, 4, 5, 6, 7, 8, 9, 10, 11, 12, 13, 14, 15, 16] [] rfl rfl (by decide) (by decide) hF9 hk9 ht9 hB9 hS9 [0, 1, 2, 3, 4, 5, 6, 7, 8, 9, 10, 11, 12, 13, 14, 15, 16] (by decide) rfl
                      clear hF9 ht9 hvm9 hB9 hz9 hk9 hS9
                      refine lv_aload_n hx hb dX8_goes_325 rfl (lv_at hl 0 rfl) ?_
                      refine va_get (D := D) (ci := 8) (v := .int (zI Mcells)) (C := RX8) (T := TX8) (N := 36) hx hb hts hinX8 hown hK hw.1 0 rfl rfl 22 (by decide) (hts (.fieldLink RX8 35 "CarnivalRoadModel" "cells" "I") (by decide +kernel)) (fun _ h9 => h9) rfl dX8_goes_326 ?_
                      refine z_icmp_lt (tgt := 340) hx hb dX8_goes_329 (by decide) (by omega) (fun hc_203 => ?_) (fun hc_203 => ?_)
                      · skip
                        refine z_iconst hx hb dX8_goes_340 ?_
                        have hv_204 : (1 : Int) = 0 ∨ (1 : Int) = 1 := by
                          first | assumption | omega | grind
                        have hv_205 : goPost1 base (Mrow p) Mhead Mplays Mrests Mwent Mout (uZ Mhead (base + (Mrow p)) ((Mhead (base + (Mrow p))) + 1)) (uZ Mplays (base + (Mrow p)) (2 * (Mstand ((Mhead (base + (Mrow p))) + 1)))) (uZ Mrests (base + (Mrow p)) 3) (uZ Mwent (base + (Mrow p)) ((Mwent (base + (Mrow p))) + 1)) Mout (goG ki le Mcells Mstand t (Mrow p) True (h, b, c, o)) (1 : Int) := by
                          exact go1_move hp4 (by omega) (by omega) (by assumption) (by assumption) (by omega) (fun k hk => ⟨by first | rfl | exact uZ_n hk, by first | rfl | exact uZ_n hk, by first | rfl | exact uZ_n hk⟩) (by (try simp only [uZ_s]); unfold busyF playF; ((repeat' split) <;> omega)) (by have e9 : uZ Mhead (base + Mrow p) (Mhead (base + Mrow p) + 1) (base + Mrow p) = Mhead (base + Mrow p) + 1 := uZ_s; first | exact Or.inl ⟨by omega, by first | exact uZ_s | omega⟩ | exact Or.inr ⟨by omega, by omega⟩)
                        exact W.zret (v := zI 1) hx hb hr rfl (fun t9 ht hW => ⟨⟨zI 1, (1, (uZ Mhead (base + (Mrow p)) ((Mhead (base + (Mrow p))) + 1)), (uZ Mplays (base + (Mrow p)) (2 * (Mstand ((Mhead (base + (Mrow p))) + 1)))), (uZ Mrests (base + (Mrow p)) 3), (uZ Mwent (base + (Mrow p)) ((Mwent (base + (Mrow p))) + 1)), Mout), rfl, ⟨rfl, ⟨hR_37, hR_163, hR_198, hR_42, qMout, hv_204, hv_205⟩⟩, by subst hAe; exact z_end hK hw ht hW⟩, by subst hAe; exact hw.2.2.F ht⟩) (by subst hAe; exact hw.2.2.2.2) dX8_goes_341
                      · skip
                        refine lv_aload_n hx hb dX8_goes_332 rfl (lv_at hl 0 rfl) ?_
                        refine va_get (D := D) (ci := 8) (v := .ref (oM 14)) (C := RX8) (T := TX8) (N := 36) hx hb hts hinX8 hown hK hw.1 0 rfl rfl 32 (by decide) (hts (.fieldLink RX8 59 "CarnivalRoadModel" "out" "[Z") (by decide +kernel)) (fun _ h9 => h9) rfl dX8_goes_333 ?_
                        refine lv_iload hx hb dX8_goes_336 (lv_at hl 3 rfl) ?_
                        refine z_iconst hx hb dX8_goes_338 ?_
                        have hi_206 : (0 : Int) ≤ (base + (Mrow p)) ∧ (base + (Mrow p)) < ((16 : Nat) : Int) := by
                          omega
                        have hv_207 : (0 : Int) ≤ (1 : Int) ∧ (1 : Int) ≤ 1 := by
                          first | assumption | omega | grind
                        have hR_208 : RA (uZ Mout (base + (Mrow p)) 1) (0) 1 := RA_up qMout hv_207
                        refine z_zast (n := 16) (f := Mout) (ws2 := kM cI cB cZ oM Mthrown Mmany Mguest Mrow Mbars Mbar Mfresh Mtape Mtaped Mpos Mtoken MtokenAt Mvalue Mwrong MwrongAt MfaultKind MfaultPlace Mthing Morder Mone Mtwo Mbest Mcells Mgap Mwire Mstand Mruns Mminute (uZ Mhead (base + (Mrow p)) ((Mhead (base + (Mrow p))) + 1)) (uZ Mplays (base + (Mrow p)) (2 * (Mstand ((Mhead (base + (Mrow p))) + 1)))) (uZ Mrests (base + (Mrow p)) 3) (uZ Mwent (base + (Mrow p)) ((Mwent (base + (Mrow p))) + 1)) (uZ Mout (base + (Mrow p)) 1) Mcame Mgone MlastOut) hx hb hK hw 14 rfl rfl (by decide) hi_206 dX8_goes_339 rfl (fun H locs hw => ?_)
                        refine z_iconst hx hb dX8_goes_340 ?_
                        have hv_209 : (1 : Int) = 0 ∨ (1 : Int) = 1 := by
                          first | assumption | omega | grind
                        have hv_210 : goPost1 base (Mrow p) Mhead Mplays Mrests Mwent Mout (uZ Mhead (base + (Mrow p)) ((Mhead (base + (Mrow p))) + 1)) (uZ Mplays (base + (Mrow p)) (2 * (Mstand ((Mhead (base + (Mrow p))) + 1)))) (uZ Mrests (base + (Mrow p)) 3) (uZ Mwent (base + (Mrow p)) ((Mwent (base + (Mrow p))) + 1)) (uZ Mout (base + (Mrow p)) 1) (goG ki le Mcells Mstand t (Mrow p) True (h, b, c, o)) (1 : Int) := by
                          exact go1_move hp4 (by omega) (by omega) (by assumption) (by assumption) (by omega) (fun k hk => ⟨by first | rfl | exact uZ_n hk, by first | rfl | exact uZ_n hk, by first | rfl | exact uZ_n hk⟩) (by (try simp only [uZ_s]); unfold busyF playF; ((repeat' split) <;> omega)) (by have e9 : uZ Mhead (base + Mrow p) (Mhead (base + Mrow p) + 1) (base + Mrow p) = Mhead (base + Mrow p) + 1 := uZ_s; first | exact Or.inl ⟨by omega, by first | exact uZ_s | omega⟩ | exact Or.inr ⟨by omega, by omega⟩)
                        exact W.zret (v := zI 1) hx hb hr rfl (fun t9 ht hW => ⟨⟨zI 1, (1, (uZ Mhead (base + (Mrow p)) ((Mhead (base + (Mrow p))) + 1)), (uZ Mplays (base + (Mrow p)) (2 * (Mstand ((Mhead (base + (Mrow p))) + 1)))), (uZ Mrests (base + (Mrow p)) 3), (uZ Mwent (base + (Mrow p)) ((Mwent (base + (Mrow p))) + 1)), (uZ Mout (base + (Mrow p)) 1)), rfl, ⟨rfl, ⟨hR_37, hR_163, hR_198, hR_42, hR_208, hv_209, hv_210⟩⟩, by subst hAe; exact z_end hK hw ht hW⟩, by subst hAe; exact hw.2.2.F ht⟩) (by subst hAe; exact hw.2.2.2.2) dX8_goes_341
            · skip
              refine z_if_eq (tgt := 286) hx hb dX8_goes_221 (by decide) (by omega) (fun hc_211 => ?_) (fun hc_211 => absurd hc_211 (by omega))
              refine lv_aload_n hx hb dX8_goes_286 rfl (lv_at hl 0 rfl) ?_
              refine lv_iload hx hb dX8_goes_287 (lv_at hl 2 rfl) ?_
              refine z_iconst hx hb dX8_goes_289 ?_
              have hF9 := z_free (wc := kM cI cB cZ oM Mthrown Mmany Mguest Mrow Mbars Mbar Mfresh Mtape Mtaped Mpos Mtoken MtokenAt Mvalue Mwrong MwrongAt MfaultKind MfaultPlace Mthing Morder Mone Mtwo Mbest Mcells Mgap Mwire Mstand Mruns Mminute (uZ Mhead (base + (Mrow p)) ((Mhead (base + (Mrow p))) + 1)) Mplays Mrests (uZ Mwent (base + (Mrow p)) ((Mwent (base + (Mrow p))) + 1)) Mout Mcame Mgone MlastOut) hw hA [0, 1, 2, 3, 4, 5, 6, 7, 8, 9, 10, 11, 12, 13, 14, 15, 16] rfl
              refine va_calli (va_runV (As := [.int (zI (Mrow p)), .int (zI 0)]) (rest := []) ⟨hx, hb, hml, hown, hts⟩ (c_X8_get l D cI cB cZ oM H_44.size Mthrown Mmany Mguest Mrow Mbars Mbar Mfresh Mtape Mtaped Mpos Mtoken MtokenAt Mvalue Mwrong MwrongAt MfaultKind MfaultPlace Mthing Morder Mone Mtwo Mbest Mcells Mgap Mwire Mstand Mruns Mminute (uZ Mhead (base + (Mrow p)) ((Mhead (base + (Mrow p))) + 1)) Mplays Mrests (uZ Mwent (base + (Mrow p)) ((Mwent (base + (Mrow p))) + 1)) Mout Mcame Mgone MlastOut (Mrow p) 0 (by omega) (by omega) qMguest qMrow (by omega) qMbar qMfresh qMtape (by omega) (by omega) (by omega) (by omega) (by omega) (by omega) (by omega) (by omega) (by omega) (by omega) qMorder (by omega) (by omega) qMbest (by omega) (by omega) qMwire qMstand (by omega) (by omega) hR_37 qMplays qMrests hR_42 qMout qMcame qMgone (by omega) (by omega) (by omega)) (cwV 2 hts gX8_goes_X8_get rfl rfl rfl (by decide +kernel) ⟨Nat.le_of_ble_eq_true rfl, Nat.le_of_ble_eq_true rfl⟩) ⟨zPre_blind, va_recv hK hw.1 (ci := 8) (q0 := 0) rfl rfl, z_pre hK hw [0, 1, 2, 3, 4, 5, 6, 7, 8, 9, 10, 11, 12, 13, 14, 15, 16] (by decide) rfl⟩ rfl rfl hl.1 rfl (lv_room (Nat.le_of_ble_eq_true rfl)) dX8_goes_290 ⟨Nat.zero_le _, Nat.zero_le _⟩) hw.2.2 (fun q _ h => hF9 q h) hF9 (fun r9 u9 t9 H_212 locs9 ht9 hvm9 hq9 hB9 hz9 hk9 hS9 => ?_)
              obtain ⟨r_213, rfl⟩ : ∃ z, z = u9 := ⟨_, rfl⟩
              try dsimp only at hq9 hB9
              obtain ⟨rfl, hq9⟩ := hq9
              obtain ⟨hq_214, hq_215⟩ := hq9
              have hw : HW D A s.heap (kM cI cB cZ oM Mthrown Mmany Mguest Mrow Mbars Mbar Mfresh Mtape Mtaped Mpos Mtoken MtokenAt Mvalue Mwrong MwrongAt MfaultKind MfaultPlace Mthing Morder Mone Mtwo Mbest Mcells Mgap Mwire Mstand Mruns Mminute (uZ Mhead (base + (Mrow p)) ((Mhead (base + (Mrow p))) + 1)) Mplays Mrests (uZ Mwent (base + (Mrow p)) ((Mwent (base + (Mrow p))) + 1)) Mout Mcame Mgone MlastOut) H_212 locs9 := z_after (wc := kM cI cB cZ oM Mthrown Mmany Mguest Mrow Mbars Mbar Mfresh Mtape Mtaped Mpos Mtoken MtokenAt Mvalue Mwrong MwrongAt MfaultKind MfaultPlace Mthing Morder Mone Mtwo Mbest Mcells Mgap Mwire Mstand Mruns Mminute (uZ Mhead (base + (Mrow p)) ((Mhead (base + (Mrow p))) + 1)) Mplays Mrests (uZ Mwent (base + (Mrow p)) ((Mwent (base + (Mrow p))) + 1)) Mout Mcame Mgone MlastOut) hw [0, 1, 2, 3, 4, 5, 6, 7, 8, 9, 10, 11, 12, 13, 14, 15, 16] [] rfl rfl (by decide) (by decide) hF9 hk9 ht9 hB9 hS9 [0, 1, 2, 3, 4, 5, 6, 7, 8, 9, 10, 11, 12, 13, 14, 15, 16] (by decide) rfl
              clear hF9 ht9 hvm9 hB9 hz9 hk9 hS9
              refine z_iconst hx hb dX8_goes_293 ?_
              refine z_icmp_ne (tgt := 318) hx hb dX8_goes_294 (by decide) (by omega) (fun hc_216 => ?_) (fun hc_216 => ?_)
              · skip
                refine lv_aload_n hx hb dX8_goes_318 rfl (lv_at hl 0 rfl) ?_
                refine lv_iload_n hx hb dX8_goes_319 rfl (lv_at hl 1 rfl) ?_
                refine lv_iload hx hb dX8_goes_320 (lv_at hl 2 rfl) ?_
                have hF9 := z_free (wc := kM cI cB cZ oM Mthrown Mmany Mguest Mrow Mbars Mbar Mfresh Mtape Mtaped Mpos Mtoken MtokenAt Mvalue Mwrong MwrongAt MfaultKind MfaultPlace Mthing Morder Mone Mtwo Mbest Mcells Mgap Mwire Mstand Mruns Mminute (uZ Mhead (base + (Mrow p)) ((Mhead (base + (Mrow p))) + 1)) Mplays Mrests (uZ Mwent (base + (Mrow p)) ((Mwent (base + (Mrow p))) + 1)) Mout Mcame Mgone MlastOut) hw hA [0, 1, 2, 3, 4, 5, 6, 7, 8, 9, 10, 11, 12, 13, 14, 15, 16] rfl
                refine va_calli (va_runV (As := [.int (zI base), .int (zI (Mrow p))]) (rest := []) ⟨hx, hb, hml, hown, hts⟩ (c_X8_tail l D cI cB cZ oM H_212.size Mthrown Mmany Mguest Mrow Mbars Mbar Mfresh Mtape Mtaped Mpos Mtoken MtokenAt Mvalue Mwrong MwrongAt MfaultKind MfaultPlace Mthing Morder Mone Mtwo Mbest Mcells Mgap Mwire Mstand Mruns Mminute (uZ Mhead (base + (Mrow p)) ((Mhead (base + (Mrow p))) + 1)) Mplays Mrests (uZ Mwent (base + (Mrow p)) ((Mwent (base + (Mrow p))) + 1)) Mout Mcame Mgone MlastOut base (Mrow p) (by omega) (by omega) qMguest qMrow (by omega) qMbar qMfresh qMtape (by omega) (by omega) (by omega) (by omega) (by omega) (by omega) (by omega) (by omega) (by omega) (by omega) qMorder (by omega) (by omega) qMbest (by omega) (by omega) qMwire qMstand (by omega) (by omega) hR_37 qMplays qMrests hR_42 qMout qMcame qMgone (by omega) (by omega) (by omega)) (cwV 2 hts gX8_goes_X8_tail rfl rfl rfl (by decide +kernel) ⟨Nat.le_of_ble_eq_true rfl, Nat.le_of_ble_eq_true rfl⟩) ⟨zPre_blind, va_recv hK hw.1 (ci := 8) (q0 := 0) rfl rfl, z_pre hK hw [0, 1, 2, 3, 4, 5, 6, 7, 8, 9, 10, 11, 12, 13, 14, 15, 16] (by decide) rfl⟩ rfl rfl hl.1 rfl (lv_room (Nat.le_of_ble_eq_true rfl)) dX8_goes_322 ⟨Nat.zero_le _, Nat.zero_le _⟩) hw.2.2 (fun q _ h => hF9 q h) hF9 (fun r9 u9 t9 H_217 locs9 ht9 hvm9 hq9 hB9 hz9 hk9 hS9 => ?_)
                obtain ⟨r_218, rfl⟩ : ∃ z, z = u9 := ⟨_, rfl⟩
                try dsimp only at hq9 hB9
                obtain ⟨rfl, hq9⟩ := hq9
                obtain ⟨hq_219, hq_220⟩ := hq9
                have hw : HW D A s.heap (kM cI cB cZ oM Mthrown Mmany Mguest Mrow Mbars Mbar Mfresh Mtape Mtaped Mpos Mtoken MtokenAt Mvalue Mwrong MwrongAt MfaultKind MfaultPlace Mthing Morder Mone Mtwo Mbest Mcells Mgap Mwire Mstand Mruns Mminute (uZ Mhead (base + (Mrow p)) ((Mhead (base + (Mrow p))) + 1)) Mplays Mrests (uZ Mwent (base + (Mrow p)) ((Mwent (base + (Mrow p))) + 1)) Mout Mcame Mgone MlastOut) H_217 locs9 := z_after (wc := kM cI cB cZ oM Mthrown Mmany Mguest Mrow Mbars Mbar Mfresh Mtape Mtaped Mpos Mtoken MtokenAt Mvalue Mwrong MwrongAt MfaultKind MfaultPlace Mthing Morder Mone Mtwo Mbest Mcells Mgap Mwire Mstand Mruns Mminute (uZ Mhead (base + (Mrow p)) ((Mhead (base + (Mrow p))) + 1)) Mplays Mrests (uZ Mwent (base + (Mrow p)) ((Mwent (base + (Mrow p))) + 1)) Mout Mcame Mgone MlastOut) hw [0, 1, 2, 3, 4, 5, 6, 7, 8, 9, 10, 11, 12, 13, 14, 15, 16] [] rfl rfl (by decide) (by decide) hF9 hk9 ht9 hB9 hS9 [0, 1, 2, 3, 4, 5, 6, 7, 8, 9, 10, 11, 12, 13, 14, 15, 16] (by decide) rfl
                clear hF9 ht9 hvm9 hB9 hz9 hk9 hS9
                refine lv_aload_n hx hb dX8_goes_325 rfl (lv_at hl 0 rfl) ?_
                refine va_get (D := D) (ci := 8) (v := .int (zI Mcells)) (C := RX8) (T := TX8) (N := 36) hx hb hts hinX8 hown hK hw.1 0 rfl rfl 22 (by decide) (hts (.fieldLink RX8 35 "CarnivalRoadModel" "cells" "I") (by decide +kernel)) (fun _ h9 => h9) rfl dX8_goes_326 ?_
                refine z_icmp_lt (tgt := 340) hx hb dX8_goes_329 (by decide) (by omega) (fun hc_221 => ?_) (fun hc_221 => ?_)
                · skip
                  refine z_iconst hx hb dX8_goes_340 ?_
                  have hv_222 : (1 : Int) = 0 ∨ (1 : Int) = 1 := by
                    first | assumption | omega | grind
                  have hv_223 : goPost1 base (Mrow p) Mhead Mplays Mrests Mwent Mout (uZ Mhead (base + (Mrow p)) ((Mhead (base + (Mrow p))) + 1)) Mplays Mrests (uZ Mwent (base + (Mrow p)) ((Mwent (base + (Mrow p))) + 1)) Mout (goG ki le Mcells Mstand t (Mrow p) True (h, b, c, o)) (1 : Int) := by
                    exact go1_move hp4 (by omega) (by omega) (by assumption) (by assumption) (by omega) (fun k hk => ⟨by first | rfl | exact uZ_n hk, by first | rfl | exact uZ_n hk, by first | rfl | exact uZ_n hk⟩) (by (try simp only [uZ_s]); unfold busyF playF; ((repeat' split) <;> omega)) (by have e9 : uZ Mhead (base + Mrow p) (Mhead (base + Mrow p) + 1) (base + Mrow p) = Mhead (base + Mrow p) + 1 := uZ_s; first | exact Or.inl ⟨by omega, by first | exact uZ_s | omega⟩ | exact Or.inr ⟨by omega, by omega⟩)
                  exact W.zret (v := zI 1) hx hb hr rfl (fun t9 ht hW => ⟨⟨zI 1, (1, (uZ Mhead (base + (Mrow p)) ((Mhead (base + (Mrow p))) + 1)), Mplays, Mrests, (uZ Mwent (base + (Mrow p)) ((Mwent (base + (Mrow p))) + 1)), Mout), rfl, ⟨rfl, ⟨hR_37, qMplays, qMrests, hR_42, qMout, hv_222, hv_223⟩⟩, by subst hAe; exact z_end hK hw ht hW⟩, by subst hAe; exact hw.2.2.F ht⟩) (by subst hAe; exact hw.2.2.2.2) dX8_goes_341
                · skip
                  refine lv_aload_n hx hb dX8_goes_332 rfl (lv_at hl 0 rfl) ?_
                  refine va_get (D := D) (ci := 8) (v := .ref (oM 14)) (C := RX8) (T := TX8) (N := 36) hx hb hts hinX8 hown hK hw.1 0 rfl rfl 32 (by decide) (hts (.fieldLink RX8 59 "CarnivalRoadModel" "out" "[Z") (by decide +kernel)) (fun _ h9 => h9) rfl dX8_goes_333 ?_
                  refine lv_iload hx hb dX8_goes_336 (lv_at hl 3 rfl) ?_
                  refine z_iconst hx hb dX8_goes_338 ?_
                  have hi_224 : (0 : Int) ≤ (base + (Mrow p)) ∧ (base + (Mrow p)) < ((16 : Nat) : Int) := by
                    omega
                  have hv_225 : (0 : Int) ≤ (1 : Int) ∧ (1 : Int) ≤ 1 := by
                    first | assumption | omega | grind
                  have hR_226 : RA (uZ Mout (base + (Mrow p)) 1) (0) 1 := RA_up qMout hv_225
                  refine z_zast (n := 16) (f := Mout) (ws2 := kM cI cB cZ oM Mthrown Mmany Mguest Mrow Mbars Mbar Mfresh Mtape Mtaped Mpos Mtoken MtokenAt Mvalue Mwrong MwrongAt MfaultKind MfaultPlace Mthing Morder Mone Mtwo Mbest Mcells Mgap Mwire Mstand Mruns Mminute (uZ Mhead (base + (Mrow p)) ((Mhead (base + (Mrow p))) + 1)) Mplays Mrests (uZ Mwent (base + (Mrow p)) ((Mwent (base + (Mrow p))) + 1)) (uZ Mout (base + (Mrow p)) 1) Mcame Mgone MlastOut) hx hb hK hw 14 rfl rfl (by decide) hi_224 dX8_goes_339 rfl (fun H locs hw => ?_)
                  refine z_iconst hx hb dX8_goes_340 ?_
                  have hv_227 : (1 : Int) = 0 ∨ (1 : Int) = 1 := by
                    first | assumption | omega | grind
                  have hv_228 : goPost1 base (Mrow p) Mhead Mplays Mrests Mwent Mout (uZ Mhead (base + (Mrow p)) ((Mhead (base + (Mrow p))) + 1)) Mplays Mrests (uZ Mwent (base + (Mrow p)) ((Mwent (base + (Mrow p))) + 1)) (uZ Mout (base + (Mrow p)) 1) (goG ki le Mcells Mstand t (Mrow p) True (h, b, c, o)) (1 : Int) := by
                    exact go1_move hp4 (by omega) (by omega) (by assumption) (by assumption) (by omega) (fun k hk => ⟨by first | rfl | exact uZ_n hk, by first | rfl | exact uZ_n hk, by first | rfl | exact uZ_n hk⟩) (by (try simp only [uZ_s]); unfold busyF playF; ((repeat' split) <;> omega)) (by have e9 : uZ Mhead (base + Mrow p) (Mhead (base + Mrow p) + 1) (base + Mrow p) = Mhead (base + Mrow p) + 1 := uZ_s; first | exact Or.inl ⟨by omega, by first | exact uZ_s | omega⟩ | exact Or.inr ⟨by omega, by omega⟩)
                  exact W.zret (v := zI 1) hx hb hr rfl (fun t9 ht hW => ⟨⟨zI 1, (1, (uZ Mhead (base + (Mrow p)) ((Mhead (base + (Mrow p))) + 1)), Mplays, Mrests, (uZ Mwent (base + (Mrow p)) ((Mwent (base + (Mrow p))) + 1)), (uZ Mout (base + (Mrow p)) 1)), rfl, ⟨rfl, ⟨hR_37, qMplays, qMrests, hR_42, hR_226, hv_227, hv_228⟩⟩, by subst hAe; exact z_end hK hw ht hW⟩, by subst hAe; exact hw.2.2.F ht⟩) (by subst hAe; exact hw.2.2.2.2) dX8_goes_341
              · skip
                refine lv_aload_n hx hb dX8_goes_297 rfl (lv_at hl 0 rfl) ?_
                refine va_get (D := D) (ci := 8) (v := .ref (oM 13)) (C := RX8) (T := TX8) (N := 36) hx hb hts hinX8 hown hK hw.1 0 rfl rfl 31 (by decide) (hts (.fieldLink RX8 56 "CarnivalRoadModel" "went" "[I") (by decide +kernel)) (fun _ h9 => h9) rfl dX8_goes_298 ?_
                refine lv_iload hx hb dX8_goes_301 (lv_at hl 3 rfl) ?_
                have hi_229 : (0 : Int) ≤ (base + (Mrow p)) ∧ (base + (Mrow p)) < ((16 : Nat) : Int) := by
                  omega
                refine z_iald (n := 16) (f := (uZ Mwent (base + (Mrow p)) ((Mwent (base + (Mrow p))) + 1))) hx hb hK hw 13 rfl (by decide) hi_229 dX8_goes_303 ?_
                rw [uZ_s]
                refine z_bipush hx hb dX8_goes_304 (by decide) ?_
                have hbit_230 : zI ((Mwent (base + (Mrow p))) + 1) - zI ((Mwent (base + (Mrow p))) + 1) / zI 10 * zI 10 = zI (((Mwent (base + (Mrow p))) + 1) % (10 : Int)) := by
                  exact z_rem (by omega) (by omega)
                refine lv_irem hx hb dX8_goes_306 (fun q => by have q2 := (zI_eq (by omega) (by omega)).mp (show zI 10 = zI 0 from q); omega) ?_
                rw [hbit_230]
                clear hbit_230
                refine z_if_ne (tgt := 318) hx hb dX8_goes_307 (by decide) (by omega) (fun hc_231 => ?_) (fun hc_231 => ?_)
                · skip
                  refine lv_aload_n hx hb dX8_goes_318 rfl (lv_at hl 0 rfl) ?_
                  refine lv_iload_n hx hb dX8_goes_319 rfl (lv_at hl 1 rfl) ?_
                  refine lv_iload hx hb dX8_goes_320 (lv_at hl 2 rfl) ?_
                  have hF9 := z_free (wc := kM cI cB cZ oM Mthrown Mmany Mguest Mrow Mbars Mbar Mfresh Mtape Mtaped Mpos Mtoken MtokenAt Mvalue Mwrong MwrongAt MfaultKind MfaultPlace Mthing Morder Mone Mtwo Mbest Mcells Mgap Mwire Mstand Mruns Mminute (uZ Mhead (base + (Mrow p)) ((Mhead (base + (Mrow p))) + 1)) Mplays Mrests (uZ Mwent (base + (Mrow p)) ((Mwent (base + (Mrow p))) + 1)) Mout Mcame Mgone MlastOut) hw hA [0, 1, 2, 3, 4, 5, 6, 7, 8, 9, 10, 11, 12, 13, 14, 15, 16] rfl
                  refine va_calli (va_runV (As := [.int (zI base), .int (zI (Mrow p))]) (rest := []) ⟨hx, hb, hml, hown, hts⟩ (c_X8_tail l D cI cB cZ oM H_212.size Mthrown Mmany Mguest Mrow Mbars Mbar Mfresh Mtape Mtaped Mpos Mtoken MtokenAt Mvalue Mwrong MwrongAt MfaultKind MfaultPlace Mthing Morder Mone Mtwo Mbest Mcells Mgap Mwire Mstand Mruns Mminute (uZ Mhead (base + (Mrow p)) ((Mhead (base + (Mrow p))) + 1)) Mplays Mrests (uZ Mwent (base + (Mrow p)) ((Mwent (base + (Mrow p))) + 1)) Mout Mcame Mgone MlastOut base (Mrow p) (by omega) (by omega) qMguest qMrow (by omega) qMbar qMfresh qMtape (by omega) (by omega) (by omega) (by omega) (by omega) (by omega) (by omega) (by omega) (by omega) (by omega) qMorder (by omega) (by omega) qMbest (by omega) (by omega) qMwire qMstand (by omega) (by omega) hR_37 qMplays qMrests hR_42 qMout qMcame qMgone (by omega) (by omega) (by omega)) (cwV 2 hts gX8_goes_X8_tail rfl rfl rfl (by decide +kernel) ⟨Nat.le_of_ble_eq_true rfl, Nat.le_of_ble_eq_true rfl⟩) ⟨zPre_blind, va_recv hK hw.1 (ci := 8) (q0 := 0) rfl rfl, z_pre hK hw [0, 1, 2, 3, 4, 5, 6, 7, 8, 9, 10, 11, 12, 13, 14, 15, 16] (by decide) rfl⟩ rfl rfl hl.1 rfl (lv_room (Nat.le_of_ble_eq_true rfl)) dX8_goes_322 ⟨Nat.zero_le _, Nat.zero_le _⟩) hw.2.2 (fun q _ h => hF9 q h) hF9 (fun r9 u9 t9 H_232 locs9 ht9 hvm9 hq9 hB9 hz9 hk9 hS9 => ?_)
                  obtain ⟨r_233, rfl⟩ : ∃ z, z = u9 := ⟨_, rfl⟩
                  try dsimp only at hq9 hB9
                  obtain ⟨rfl, hq9⟩ := hq9
                  obtain ⟨hq_234, hq_235⟩ := hq9
                  have hw : HW D A s.heap (kM cI cB cZ oM Mthrown Mmany Mguest Mrow Mbars Mbar Mfresh Mtape Mtaped Mpos Mtoken MtokenAt Mvalue Mwrong MwrongAt MfaultKind MfaultPlace Mthing Morder Mone Mtwo Mbest Mcells Mgap Mwire Mstand Mruns Mminute (uZ Mhead (base + (Mrow p)) ((Mhead (base + (Mrow p))) + 1)) Mplays Mrests (uZ Mwent (base + (Mrow p)) ((Mwent (base + (Mrow p))) + 1)) Mout Mcame Mgone MlastOut) H_232 locs9 := z_after (wc := kM cI cB cZ oM Mthrown Mmany Mguest Mrow Mbars Mbar Mfresh Mtape Mtaped Mpos Mtoken MtokenAt Mvalue Mwrong MwrongAt MfaultKind MfaultPlace Mthing Morder Mone Mtwo Mbest Mcells Mgap Mwire Mstand Mruns Mminute (uZ Mhead (base + (Mrow p)) ((Mhead (base + (Mrow p))) + 1)) Mplays Mrests (uZ Mwent (base + (Mrow p)) ((Mwent (base + (Mrow p))) + 1)) Mout Mcame Mgone MlastOut) hw [0, 1, 2, 3, 4, 5, 6, 7, 8, 9, 10, 11, 12, 13, 14, 15, 16] [] rfl rfl (by decide) (by decide) hF9 hk9 ht9 hB9 hS9 [0, 1, 2, 3, 4, 5, 6, 7, 8, 9, 10, 11, 12, 13, 14, 15, 16] (by decide) rfl
                  clear hF9 ht9 hvm9 hB9 hz9 hk9 hS9
                  refine lv_aload_n hx hb dX8_goes_325 rfl (lv_at hl 0 rfl) ?_
                  refine va_get (D := D) (ci := 8) (v := .int (zI Mcells)) (C := RX8) (T := TX8) (N := 36) hx hb hts hinX8 hown hK hw.1 0 rfl rfl 22 (by decide) (hts (.fieldLink RX8 35 "CarnivalRoadModel" "cells" "I") (by decide +kernel)) (fun _ h9 => h9) rfl dX8_goes_326 ?_
                  refine z_icmp_lt (tgt := 340) hx hb dX8_goes_329 (by decide) (by omega) (fun hc_236 => ?_) (fun hc_236 => ?_)
                  · skip
                    refine z_iconst hx hb dX8_goes_340 ?_
                    have hv_237 : (1 : Int) = 0 ∨ (1 : Int) = 1 := by
                      first | assumption | omega | grind
                    have hv_238 : goPost1 base (Mrow p) Mhead Mplays Mrests Mwent Mout (uZ Mhead (base + (Mrow p)) ((Mhead (base + (Mrow p))) + 1)) Mplays Mrests (uZ Mwent (base + (Mrow p)) ((Mwent (base + (Mrow p))) + 1)) Mout (goG ki le Mcells Mstand t (Mrow p) True (h, b, c, o)) (1 : Int) := by
                      exact go1_move hp4 (by omega) (by omega) (by assumption) (by assumption) (by omega) (fun k hk => ⟨by first | rfl | exact uZ_n hk, by first | rfl | exact uZ_n hk, by first | rfl | exact uZ_n hk⟩) (by (try simp only [uZ_s]); unfold busyF playF; ((repeat' split) <;> omega)) (by have e9 : uZ Mhead (base + Mrow p) (Mhead (base + Mrow p) + 1) (base + Mrow p) = Mhead (base + Mrow p) + 1 := uZ_s; first | exact Or.inl ⟨by omega, by first | exact uZ_s | omega⟩ | exact Or.inr ⟨by omega, by omega⟩)
                    exact W.zret (v := zI 1) hx hb hr rfl (fun t9 ht hW => ⟨⟨zI 1, (1, (uZ Mhead (base + (Mrow p)) ((Mhead (base + (Mrow p))) + 1)), Mplays, Mrests, (uZ Mwent (base + (Mrow p)) ((Mwent (base + (Mrow p))) + 1)), Mout), rfl, ⟨rfl, ⟨hR_37, qMplays, qMrests, hR_42, qMout, hv_237, hv_238⟩⟩, by subst hAe; exact z_end hK hw ht hW⟩, by subst hAe; exact hw.2.2.F ht⟩) (by subst hAe; exact hw.2.2.2.2) dX8_goes_341
                  · skip
                    refine lv_aload_n hx hb dX8_goes_332 rfl (lv_at hl 0 rfl) ?_
                    refine va_get (D := D) (ci := 8) (v := .ref (oM 14)) (C := RX8) (T := TX8) (N := 36) hx hb hts hinX8 hown hK hw.1 0 rfl rfl 32 (by decide) (hts (.fieldLink RX8 59 "CarnivalRoadModel" "out" "[Z") (by decide +kernel)) (fun _ h9 => h9) rfl dX8_goes_333 ?_
                    refine lv_iload hx hb dX8_goes_336 (lv_at hl 3 rfl) ?_
                    refine z_iconst hx hb dX8_goes_338 ?_
                    have hi_239 : (0 : Int) ≤ (base + (Mrow p)) ∧ (base + (Mrow p)) < ((16 : Nat) : Int) := by
                      omega
                    have hv_240 : (0 : Int) ≤ (1 : Int) ∧ (1 : Int) ≤ 1 := by
                      first | assumption | omega | grind
                    have hR_241 : RA (uZ Mout (base + (Mrow p)) 1) (0) 1 := RA_up qMout hv_240
                    refine z_zast (n := 16) (f := Mout) (ws2 := kM cI cB cZ oM Mthrown Mmany Mguest Mrow Mbars Mbar Mfresh Mtape Mtaped Mpos Mtoken MtokenAt Mvalue Mwrong MwrongAt MfaultKind MfaultPlace Mthing Morder Mone Mtwo Mbest Mcells Mgap Mwire Mstand Mruns Mminute (uZ Mhead (base + (Mrow p)) ((Mhead (base + (Mrow p))) + 1)) Mplays Mrests (uZ Mwent (base + (Mrow p)) ((Mwent (base + (Mrow p))) + 1)) (uZ Mout (base + (Mrow p)) 1) Mcame Mgone MlastOut) hx hb hK hw 14 rfl rfl (by decide) hi_239 dX8_goes_339 rfl (fun H locs hw => ?_)
                    refine z_iconst hx hb dX8_goes_340 ?_
                    have hv_242 : (1 : Int) = 0 ∨ (1 : Int) = 1 := by
                      first | assumption | omega | grind
                    have hv_243 : goPost1 base (Mrow p) Mhead Mplays Mrests Mwent Mout (uZ Mhead (base + (Mrow p)) ((Mhead (base + (Mrow p))) + 1)) Mplays Mrests (uZ Mwent (base + (Mrow p)) ((Mwent (base + (Mrow p))) + 1)) (uZ Mout (base + (Mrow p)) 1) (goG ki le Mcells Mstand t (Mrow p) True (h, b, c, o)) (1 : Int) := by
                      exact go1_move hp4 (by omega) (by omega) (by assumption) (by assumption) (by omega) (fun k hk => ⟨by first | rfl | exact uZ_n hk, by first | rfl | exact uZ_n hk, by first | rfl | exact uZ_n hk⟩) (by (try simp only [uZ_s]); unfold busyF playF; ((repeat' split) <;> omega)) (by have e9 : uZ Mhead (base + Mrow p) (Mhead (base + Mrow p) + 1) (base + Mrow p) = Mhead (base + Mrow p) + 1 := uZ_s; first | exact Or.inl ⟨by omega, by first | exact uZ_s | omega⟩ | exact Or.inr ⟨by omega, by omega⟩)
                    exact W.zret (v := zI 1) hx hb hr rfl (fun t9 ht hW => ⟨⟨zI 1, (1, (uZ Mhead (base + (Mrow p)) ((Mhead (base + (Mrow p))) + 1)), Mplays, Mrests, (uZ Mwent (base + (Mrow p)) ((Mwent (base + (Mrow p))) + 1)), (uZ Mout (base + (Mrow p)) 1)), rfl, ⟨rfl, ⟨hR_37, qMplays, qMrests, hR_42, hR_241, hv_242, hv_243⟩⟩, by subst hAe; exact z_end hK hw ht hW⟩, by subst hAe; exact hw.2.2.F ht⟩) (by subst hAe; exact hw.2.2.2.2) dX8_goes_341
                · skip
                  refine lv_aload_n hx hb dX8_goes_310 rfl (lv_at hl 0 rfl) ?_
                  refine va_get (D := D) (ci := 8) (v := .ref (oM 12)) (C := RX8) (T := TX8) (N := 36) hx hb hts hinX8 hown hK hw.1 0 rfl rfl 30 (by decide) (hts (.fieldLink RX8 53 "CarnivalRoadModel" "rests" "[I") (by decide +kernel)) (fun _ h9 => h9) rfl dX8_goes_311 ?_
                  refine lv_iload hx hb dX8_goes_314 (lv_at hl 3 rfl) ?_
                  refine z_iconst hx hb dX8_goes_316 ?_
                  have hi_244 : (0 : Int) ≤ (base + (Mrow p)) ∧ (base + (Mrow p)) < ((16 : Nat) : Int) := by
                    omega
                  have hv_245 : (0 : Int) ≤ (3 : Int) ∧ (3 : Int) ≤ 3 := by
                    first | assumption | omega | grind
                  have hR_246 : RA (uZ Mrests (base + (Mrow p)) 3) (0) 3 := RA_up qMrests hv_245
                  refine z_iast (n := 16) (f := Mrests) (ws2 := kM cI cB cZ oM Mthrown Mmany Mguest Mrow Mbars Mbar Mfresh Mtape Mtaped Mpos Mtoken MtokenAt Mvalue Mwrong MwrongAt MfaultKind MfaultPlace Mthing Morder Mone Mtwo Mbest Mcells Mgap Mwire Mstand Mruns Mminute (uZ Mhead (base + (Mrow p)) ((Mhead (base + (Mrow p))) + 1)) Mplays (uZ Mrests (base + (Mrow p)) 3) (uZ Mwent (base + (Mrow p)) ((Mwent (base + (Mrow p))) + 1)) Mout Mcame Mgone MlastOut) hx hb hK hw 12 rfl (by decide) hi_244 dX8_goes_317 rfl (fun H locs hw => ?_)
                  refine lv_aload_n hx hb dX8_goes_318 rfl (lv_at hl 0 rfl) ?_
                  refine lv_iload_n hx hb dX8_goes_319 rfl (lv_at hl 1 rfl) ?_
                  refine lv_iload hx hb dX8_goes_320 (lv_at hl 2 rfl) ?_
                  have hF9 := z_free (wc := kM cI cB cZ oM Mthrown Mmany Mguest Mrow Mbars Mbar Mfresh Mtape Mtaped Mpos Mtoken MtokenAt Mvalue Mwrong MwrongAt MfaultKind MfaultPlace Mthing Morder Mone Mtwo Mbest Mcells Mgap Mwire Mstand Mruns Mminute (uZ Mhead (base + (Mrow p)) ((Mhead (base + (Mrow p))) + 1)) Mplays (uZ Mrests (base + (Mrow p)) 3) (uZ Mwent (base + (Mrow p)) ((Mwent (base + (Mrow p))) + 1)) Mout Mcame Mgone MlastOut) hw hA [0, 1, 2, 3, 4, 5, 6, 7, 8, 9, 10, 11, 12, 13, 14, 15, 16] rfl
                  refine va_calli (va_runV (As := [.int (zI base), .int (zI (Mrow p))]) (rest := []) ⟨hx, hb, hml, hown, hts⟩ (c_X8_tail l D cI cB cZ oM H.size Mthrown Mmany Mguest Mrow Mbars Mbar Mfresh Mtape Mtaped Mpos Mtoken MtokenAt Mvalue Mwrong MwrongAt MfaultKind MfaultPlace Mthing Morder Mone Mtwo Mbest Mcells Mgap Mwire Mstand Mruns Mminute (uZ Mhead (base + (Mrow p)) ((Mhead (base + (Mrow p))) + 1)) Mplays (uZ Mrests (base + (Mrow p)) 3) (uZ Mwent (base + (Mrow p)) ((Mwent (base + (Mrow p))) + 1)) Mout Mcame Mgone MlastOut base (Mrow p) (by omega) (by omega) qMguest qMrow (by omega) qMbar qMfresh qMtape (by omega) (by omega) (by omega) (by omega) (by omega) (by omega) (by omega) (by omega) (by omega) (by omega) qMorder (by omega) (by omega) qMbest (by omega) (by omega) qMwire qMstand (by omega) (by omega) hR_37 qMplays hR_246 hR_42 qMout qMcame qMgone (by omega) (by omega) (by omega)) (cwV 2 hts gX8_goes_X8_tail rfl rfl rfl (by decide +kernel) ⟨Nat.le_of_ble_eq_true rfl, Nat.le_of_ble_eq_true rfl⟩) ⟨zPre_blind, va_recv hK hw.1 (ci := 8) (q0 := 0) rfl rfl, z_pre hK hw [0, 1, 2, 3, 4, 5, 6, 7, 8, 9, 10, 11, 12, 13, 14, 15, 16] (by decide) rfl⟩ rfl rfl hl.1 rfl (lv_room (Nat.le_of_ble_eq_true rfl)) dX8_goes_322 ⟨Nat.zero_le _, Nat.zero_le _⟩) hw.2.2 (fun q _ h => hF9 q h) hF9 (fun r9 u9 t9 H_247 locs9 ht9 hvm9 hq9 hB9 hz9 hk9 hS9 => ?_)
                  obtain ⟨r_248, rfl⟩ : ∃ z, z = u9 := ⟨_, rfl⟩
                  try dsimp only at hq9 hB9
                  obtain ⟨rfl, hq9⟩ := hq9
                  obtain ⟨hq_249, hq_250⟩ := hq9
                  have hw : HW D A s.heap (kM cI cB cZ oM Mthrown Mmany Mguest Mrow Mbars Mbar Mfresh Mtape Mtaped Mpos Mtoken MtokenAt Mvalue Mwrong MwrongAt MfaultKind MfaultPlace Mthing Morder Mone Mtwo Mbest Mcells Mgap Mwire Mstand Mruns Mminute (uZ Mhead (base + (Mrow p)) ((Mhead (base + (Mrow p))) + 1)) Mplays (uZ Mrests (base + (Mrow p)) 3) (uZ Mwent (base + (Mrow p)) ((Mwent (base + (Mrow p))) + 1)) Mout Mcame Mgone MlastOut) H_247 locs9 := z_after (wc := kM cI cB cZ oM Mthrown Mmany Mguest Mrow Mbars Mbar Mfresh Mtape Mtaped Mpos Mtoken MtokenAt Mvalue Mwrong MwrongAt MfaultKind MfaultPlace Mthing Morder Mone Mtwo Mbest Mcells Mgap Mwire Mstand Mruns Mminute (uZ Mhead (base + (Mrow p)) ((Mhead (base + (Mrow p))) + 1)) Mplays (uZ Mrests (base + (Mrow p)) 3) (uZ Mwent (base + (Mrow p)) ((Mwent (base + (Mrow p))) + 1)) Mout Mcame Mgone MlastOut) hw [0, 1, 2, 3, 4, 5, 6, 7, 8, 9, 10, 11, 12, 13, 14, 15, 16] [] rfl rfl (by decide) (by decide) hF9 hk9 ht9 hB9 hS9 [0, 1, 2, 3, 4, 5, 6, 7, 8, 9, 10, 11, 12, 13, 14, 15, 16] (by decide) rfl
                  clear hF9 ht9 hvm9 hB9 hz9 hk9 hS9
                  refine lv_aload_n hx hb dX8_goes_325 rfl (lv_at hl 0 rfl) ?_
                  refine va_get (D := D) (ci := 8) (v := .int (zI Mcells)) (C := RX8) (T := TX8) (N := 36) hx hb hts hinX8 hown hK hw.1 0 rfl rfl 22 (by decide) (hts (.fieldLink RX8 35 "CarnivalRoadModel" "cells" "I") (by decide +kernel)) (fun _ h9 => h9) rfl dX8_goes_326 ?_
                  refine z_icmp_lt (tgt := 340) hx hb dX8_goes_329 (by decide) (by omega) (fun hc_251 => ?_) (fun hc_251 => ?_)
                  · skip
                    refine z_iconst hx hb dX8_goes_340 ?_
                    have hv_252 : (1 : Int) = 0 ∨ (1 : Int) = 1 := by
                      first | assumption | omega | grind
                    have hv_253 : goPost1 base (Mrow p) Mhead Mplays Mrests Mwent Mout (uZ Mhead (base + (Mrow p)) ((Mhead (base + (Mrow p))) + 1)) Mplays (uZ Mrests (base + (Mrow p)) 3) (uZ Mwent (base + (Mrow p)) ((Mwent (base + (Mrow p))) + 1)) Mout (goG ki le Mcells Mstand t (Mrow p) True (h, b, c, o)) (1 : Int) := by
                      exact go1_move hp4 (by omega) (by omega) (by assumption) (by assumption) (by omega) (fun k hk => ⟨by first | rfl | exact uZ_n hk, by first | rfl | exact uZ_n hk, by first | rfl | exact uZ_n hk⟩) (by (try simp only [uZ_s]); unfold busyF playF; ((repeat' split) <;> omega)) (by have e9 : uZ Mhead (base + Mrow p) (Mhead (base + Mrow p) + 1) (base + Mrow p) = Mhead (base + Mrow p) + 1 := uZ_s; first | exact Or.inl ⟨by omega, by first | exact uZ_s | omega⟩ | exact Or.inr ⟨by omega, by omega⟩)
                    exact W.zret (v := zI 1) hx hb hr rfl (fun t9 ht hW => ⟨⟨zI 1, (1, (uZ Mhead (base + (Mrow p)) ((Mhead (base + (Mrow p))) + 1)), Mplays, (uZ Mrests (base + (Mrow p)) 3), (uZ Mwent (base + (Mrow p)) ((Mwent (base + (Mrow p))) + 1)), Mout), rfl, ⟨rfl, ⟨hR_37, qMplays, hR_246, hR_42, qMout, hv_252, hv_253⟩⟩, by subst hAe; exact z_end hK hw ht hW⟩, by subst hAe; exact hw.2.2.F ht⟩) (by subst hAe; exact hw.2.2.2.2) dX8_goes_341
                  · skip
                    refine lv_aload_n hx hb dX8_goes_332 rfl (lv_at hl 0 rfl) ?_
                    refine va_get (D := D) (ci := 8) (v := .ref (oM 14)) (C := RX8) (T := TX8) (N := 36) hx hb hts hinX8 hown hK hw.1 0 rfl rfl 32 (by decide) (hts (.fieldLink RX8 59 "CarnivalRoadModel" "out" "[Z") (by decide +kernel)) (fun _ h9 => h9) rfl dX8_goes_333 ?_
                    refine lv_iload hx hb dX8_goes_336 (lv_at hl 3 rfl) ?_
                    refine z_iconst hx hb dX8_goes_338 ?_
                    have hi_254 : (0 : Int) ≤ (base + (Mrow p)) ∧ (base + (Mrow p)) < ((16 : Nat) : Int) := by
                      omega
                    have hv_255 : (0 : Int) ≤ (1 : Int) ∧ (1 : Int) ≤ 1 := by
                      first | assumption | omega | grind
                    have hR_256 : RA (uZ Mout (base + (Mrow p)) 1) (0) 1 := RA_up qMout hv_255
                    refine z_zast (n := 16) (f := Mout) (ws2 := kM cI cB cZ oM Mthrown Mmany Mguest Mrow Mbars Mbar Mfresh Mtape Mtaped Mpos Mtoken MtokenAt Mvalue Mwrong MwrongAt MfaultKind MfaultPlace Mthing Morder Mone Mtwo Mbest Mcells Mgap Mwire Mstand Mruns Mminute (uZ Mhead (base + (Mrow p)) ((Mhead (base + (Mrow p))) + 1)) Mplays (uZ Mrests (base + (Mrow p)) 3) (uZ Mwent (base + (Mrow p)) ((Mwent (base + (Mrow p))) + 1)) (uZ Mout (base + (Mrow p)) 1) Mcame Mgone MlastOut) hx hb hK hw 14 rfl rfl (by decide) hi_254 dX8_goes_339 rfl (fun H locs hw => ?_)
                    refine z_iconst hx hb dX8_goes_340 ?_
                    have hv_257 : (1 : Int) = 0 ∨ (1 : Int) = 1 := by
                      first | assumption | omega | grind
                    have hv_258 : goPost1 base (Mrow p) Mhead Mplays Mrests Mwent Mout (uZ Mhead (base + (Mrow p)) ((Mhead (base + (Mrow p))) + 1)) Mplays (uZ Mrests (base + (Mrow p)) 3) (uZ Mwent (base + (Mrow p)) ((Mwent (base + (Mrow p))) + 1)) (uZ Mout (base + (Mrow p)) 1) (goG ki le Mcells Mstand t (Mrow p) True (h, b, c, o)) (1 : Int) := by
                      exact go1_move hp4 (by omega) (by omega) (by assumption) (by assumption) (by omega) (fun k hk => ⟨by first | rfl | exact uZ_n hk, by first | rfl | exact uZ_n hk, by first | rfl | exact uZ_n hk⟩) (by (try simp only [uZ_s]); unfold busyF playF; ((repeat' split) <;> omega)) (by have e9 : uZ Mhead (base + Mrow p) (Mhead (base + Mrow p) + 1) (base + Mrow p) = Mhead (base + Mrow p) + 1 := uZ_s; first | exact Or.inl ⟨by omega, by first | exact uZ_s | omega⟩ | exact Or.inr ⟨by omega, by omega⟩)
                    exact W.zret (v := zI 1) hx hb hr rfl (fun t9 ht hW => ⟨⟨zI 1, (1, (uZ Mhead (base + (Mrow p)) ((Mhead (base + (Mrow p))) + 1)), Mplays, (uZ Mrests (base + (Mrow p)) 3), (uZ Mwent (base + (Mrow p)) ((Mwent (base + (Mrow p))) + 1)), (uZ Mout (base + (Mrow p)) 1)), rfl, ⟨rfl, ⟨hR_37, qMplays, hR_246, hR_42, hR_256, hv_257, hv_258⟩⟩, by subst hAe; exact z_end hK hw ht hW⟩, by subst hAe; exact hw.2.2.F ht⟩) (by subst hAe; exact hw.2.2.2.2) dX8_goes_341
          refine lv_iload_n hx hb dX8_goes_114 rfl (lv_at hl 2 rfl) ?_
          refine z_iconst hx hb dX8_goes_115 ?_
          refine z_isub hx hb dX8_goes_116 ?_
          refine lv_istore (lv' := [(7, .int (zI (p - 1))), (0, .ref (oM 0)), (1, .int (zI base)), (2, .int (zI p)), (4, .int (zI alone)), (5, .int (zI (Mrow p))), (6, .int (zI (base + (Mrow p))))]) hx hb dX8_goes_117 hl (by decide) rfl (fun ls hl => ?_)
          have hv_259 : -1 ≤ (p - 1) ∧ (p - 1) < p := by
            first | assumption | omega | grind
          refine z_loop (σ := Int) (μ := fun x9 => (x9 + 1).toNat) (I := fun x9 H locs ls => (-1 ≤ x9 ∧ x9 < p) ∧ HW D A s.heap (kM cI cB cZ oM Mthrown Mmany Mguest Mrow Mbars Mbar Mfresh Mtape Mtaped Mpos Mtoken MtokenAt Mvalue Mwrong MwrongAt MfaultKind MfaultPlace Mthing Morder Mone Mtwo Mbest Mcells Mgap Mwire Mstand Mruns Mminute Mhead Mplays Mrests Mwent Mout Mcame Mgone MlastOut) H locs ∧ lv_has ls 8 [(0, .ref (oM 0)), (1, .int (zI base)), (4, .int (zI alone)), (5, .int (zI (Mrow p))), (6, .int (zI (base + (Mrow p)))), (7, .int (zI x9))]) (p - 1) ⟨hv_259, hw, lv_sub hl [1, 2, 4, 5, 6, 0] rfl⟩ ?_
          clear hw hl
          intro nx_261 H locs ls hI ih_260
          try dsimp only at hI
          obtain ⟨hI_262, hw, hl⟩ := hI
          refine lv_iload hx hb dX8_goes_119 (lv_at hl 5 rfl) ?_
          refine z_if_lt (tgt := 147) hx hb dX8_goes_121 (by decide) (by omega) (fun hc_263 => ?_) (fun hc_263 => ?_)
          · skip
            refine lv_iload hx hb dX8_goes_147 (lv_at hl 2 rfl) ?_
            refine z_if_ne (tgt := 188) hx hb dX8_goes_149 (by decide) (by omega) (fun hc_264 => ?_) (fun hc_264 => absurd hc_264 (by omega))
            have hv_265 : True := by
              exact True.intro
            exact hj_31 () _ _ _ ⟨hv_265, hw, lv_sub hl [0, 1, 3, 4] rfl⟩
          · skip
            refine lv_aload_n hx hb dX8_goes_124 rfl (lv_at hl 0 rfl) ?_
            refine va_get (D := D) (ci := 8) (v := .ref (oM 14)) (C := RX8) (T := TX8) (N := 36) hx hb hts hinX8 hown hK hw.1 0 rfl rfl 32 (by decide) (hts (.fieldLink RX8 59 "CarnivalRoadModel" "out" "[Z") (by decide +kernel)) (fun _ h9 => h9) rfl dX8_goes_125 ?_
            refine lv_iload_n hx hb dX8_goes_128 rfl (lv_at hl 1 rfl) ?_
            refine lv_aload_n hx hb dX8_goes_129 rfl (lv_at hl 0 rfl) ?_
            refine va_get (D := D) (ci := 8) (v := .ref (oM 2)) (C := RX8) (T := TX8) (N := 36) hx hb hts hinX8 hown hK hw.1 0 rfl rfl 3 (by decide) (hts (.fieldLink RX8 13 "CarnivalRoadModel" "row" "[I") (by decide +kernel)) (fun _ h9 => h9) rfl dX8_goes_130 ?_
            refine lv_iload hx hb dX8_goes_133 (lv_at hl 5 rfl) ?_
            have hi_266 : (0 : Int) ≤ nx_261 ∧ nx_261 < ((8 : Nat) : Int) := by
              omega
            refine z_iald (n := 8) (f := Mrow) hx hb hK hw 2 rfl (by decide) hi_266 dX8_goes_135 ?_
            have hq_267 : 0 ≤ Mrow nx_261 ∧ Mrow nx_261 ≤ 7 := qMrow nx_261
            refine z_iadd hx hb dX8_goes_136 ?_
            have hi_268 : (0 : Int) ≤ (base + (Mrow nx_261)) ∧ (base + (Mrow nx_261)) < ((16 : Nat) : Int) := by
              omega
            refine z_zald (n := 16) (f := Mout) hx hb hK hw 14 rfl (by decide) hi_268 dX8_goes_137 ?_
            have hq_269 : 0 ≤ Mout (base + (Mrow nx_261)) ∧ Mout (base + (Mrow nx_261)) ≤ 1 := qMout (base + (Mrow nx_261))
            refine z_if_eq (tgt := 147) hx hb dX8_goes_138 (by decide) (by omega) (fun hc_270 => ?_) (fun hc_270 => ?_)
            · skip
              refine lv_iload hx hb dX8_goes_147 (lv_at hl 2 rfl) ?_
              refine z_if_ne (tgt := 188) hx hb dX8_goes_149 (by decide) (by omega) (fun hc_271 => ?_) (fun hc_271 => absurd hc_271 (by omega))
              have hv_272 : True := by
                exact True.intro
              exact hj_31 () _ _ _ ⟨hv_272, hw, lv_sub hl [0, 1, 3, 4] rfl⟩
            · skip
              refine z_iinc (k := 5) (lv' := [(7, .int (zI (nx_261 + (-1)))), (0, .ref (oM 0)), (1, .int (zI base)), (4, .int (zI alone)), (5, .int (zI (Mrow p))), (6, .int (zI (base + (Mrow p))))]) hx hb dX8_goes_141 hl rfl (by decide) rfl (fun ls hl => ?_)
              refine lv_goto (tgt := 119) hx hb dX8_goes_144 (by decide) ?_
              have hv_273 : -1 ≤ (nx_261 + (-1)) ∧ (nx_261 + (-1)) < p := by
                first | assumption | omega | grind
              have hm_274 : ((nx_261 + (-1)) + 1).toNat < (nx_261 + 1).toNat := by
                first | assumption | omega | grind
              exact ih_260 (nx_261 + (-1)) _ _ _ ⟨hv_273, hw, lv_sub hl [1, 2, 3, 4, 5, 0] rfl⟩ hm_274
        refine lv_aload_n hx hb dX8_goes_83 rfl (lv_at hl 2 rfl) ?_
        refine lv_iload hx hb dX8_goes_84 (lv_at hl 1 rfl) ?_
        refine z_iconst hx hb dX8_goes_86 ?_
        have hF9 := z_free (wc := kM cI cB cZ oM Mthrown Mmany Mguest Mrow Mbars Mbar Mfresh Mtape Mtaped Mpos Mtoken MtokenAt Mvalue Mwrong MwrongAt MfaultKind MfaultPlace Mthing Morder Mone Mtwo Mbest Mcells Mgap Mwire Mstand Mruns Mminute Mhead Mplays Mrests Mwent Mout Mcame Mgone MlastOut) hw hA [0, 1, 2, 3, 4, 5, 6, 7, 8, 9, 10, 11, 12, 13, 14, 15, 16] rfl
        refine va_calli (va_runV (As := [.int (zI (Mrow p)), .int (zI 0)]) (rest := []) ⟨hx, hb, hml, hown, hts⟩ (c_X8_get l D cI cB cZ oM s.heap.size Mthrown Mmany Mguest Mrow Mbars Mbar Mfresh Mtape Mtaped Mpos Mtoken MtokenAt Mvalue Mwrong MwrongAt MfaultKind MfaultPlace Mthing Morder Mone Mtwo Mbest Mcells Mgap Mwire Mstand Mruns Mminute Mhead Mplays Mrests Mwent Mout Mcame Mgone MlastOut (Mrow p) 0 (by omega) (by omega) qMguest qMrow (by omega) qMbar qMfresh qMtape (by omega) (by omega) (by omega) (by omega) (by omega) (by omega) (by omega) (by omega) (by omega) (by omega) qMorder (by omega) (by omega) qMbest (by omega) (by omega) qMwire qMstand (by omega) (by omega) qMhead qMplays qMrests qMwent qMout qMcame qMgone (by omega) (by omega) (by omega)) (cwV 2 hts gX8_goes_X8_get rfl rfl rfl (by decide +kernel) ⟨Nat.le_of_ble_eq_true rfl, Nat.le_of_ble_eq_true rfl⟩) ⟨zPre_blind, va_recv hK hw.1 (ci := 8) (q0 := 0) rfl rfl, z_pre hK hw [0, 1, 2, 3, 4, 5, 6, 7, 8, 9, 10, 11, 12, 13, 14, 15, 16] (by decide) rfl⟩ rfl rfl hl.1 rfl (lv_room (Nat.le_of_ble_eq_true rfl)) dX8_goes_87 ⟨Nat.zero_le _, Nat.zero_le _⟩) hw.2.2 (fun q _ h => hF9 q h) hF9 (fun r9 u9 t9 H_275 locs9 ht9 hvm9 hq9 hB9 hz9 hk9 hS9 => ?_)
        obtain ⟨r_276, rfl⟩ : ∃ z, z = u9 := ⟨_, rfl⟩
        try dsimp only at hq9 hB9
        obtain ⟨rfl, hq9⟩ := hq9
        obtain ⟨hq_277, hq_278⟩ := hq9
        have hw : HW D A s.heap (kM cI cB cZ oM Mthrown Mmany Mguest Mrow Mbars Mbar Mfresh Mtape Mtaped Mpos Mtoken MtokenAt Mvalue Mwrong MwrongAt MfaultKind MfaultPlace Mthing Morder Mone Mtwo Mbest Mcells Mgap Mwire Mstand Mruns Mminute Mhead Mplays Mrests Mwent Mout Mcame Mgone MlastOut) H_275 locs9 := z_after (wc := kM cI cB cZ oM Mthrown Mmany Mguest Mrow Mbars Mbar Mfresh Mtape Mtaped Mpos Mtoken MtokenAt Mvalue Mwrong MwrongAt MfaultKind MfaultPlace Mthing Morder Mone Mtwo Mbest Mcells Mgap Mwire Mstand Mruns Mminute Mhead Mplays Mrests Mwent Mout Mcame Mgone MlastOut) hw [0, 1, 2, 3, 4, 5, 6, 7, 8, 9, 10, 11, 12, 13, 14, 15, 16] [] rfl rfl (by decide) (by decide) hF9 hk9 ht9 hB9 hS9 [0, 1, 2, 3, 4, 5, 6, 7, 8, 9, 10, 11, 12, 13, 14, 15, 16] (by decide) rfl
        clear hF9 ht9 hvm9 hB9 hz9 hk9 hS9
        refine z_iconst hx hb dX8_goes_90 ?_
        refine z_icmp_eq (tgt := 105) hx hb dX8_goes_91 (by decide) (by omega) (fun hc_279 => ?_) (fun hc_279 => ?_)
        · skip
          refine lv_iload_n hx hb dX8_goes_105 rfl (lv_at hl 5 rfl) ?_
          refine z_iconst hx hb dX8_goes_106 ?_
          have hbit_280 : zI t - zI t / zI 2 * zI 2 = zI (t % (2 : Int)) := by
            exact z_rem (by omega) (by omega)
          refine lv_irem hx hb dX8_goes_107 (fun q => by have q2 := (zI_eq (by omega) (by omega)).mp (show zI 2 = zI 0 from q); omega) ?_
          rw [hbit_280]
          clear hbit_280
          refine z_iconst hx hb dX8_goes_108 ?_
          refine z_icmp_ne (tgt := 114) hx hb dX8_goes_109 (by decide) (by omega) (fun hc_281 => ?_) (fun hc_281 => ?_)
          · skip
            have hv_282 : goP t (ki (Mrow p)) := by
              unfold goP; omega
            exact hj_29 () _ _ _ ⟨hv_282, hw, lv_sub hl [2, 3, 4, 6, 1, 0] rfl⟩
          · skip
            refine z_iconst hx hb dX8_goes_112 ?_
            have hv_283 : (0 : Int) = 0 ∨ (0 : Int) = 1 := by
              first | assumption | omega | grind
            have hv_284 : goPost1 base (Mrow p) Mhead Mplays Mrests Mwent Mout Mhead Mplays Mrests Mwent Mout (goG ki le Mcells Mstand t (Mrow p) True (h, b, c, o)) (0 : Int) := by
              exact go1_stay hp4 (by omega) (by omega) (fun q => by have q1 := q.1; unfold goP at q1; omega)
            exact W.zret (v := zI 0) hx hb hr rfl (fun t9 ht hW => ⟨⟨zI 0, (0, Mhead, Mplays, Mrests, Mwent, Mout), rfl, ⟨rfl, ⟨qMhead, qMplays, qMrests, qMwent, qMout, hv_283, hv_284⟩⟩, by subst hAe; exact z_end hK hw ht hW⟩, by subst hAe; exact hw.2.2.F ht⟩) (by subst hAe; exact hw.2.2.2.2) dX8_goes_113
        · skip
          refine lv_aload_n hx hb dX8_goes_94 rfl (lv_at hl 2 rfl) ?_
          refine lv_iload hx hb dX8_goes_95 (lv_at hl 1 rfl) ?_
          refine z_iconst hx hb dX8_goes_97 ?_
          have hF9 := z_free (wc := kM cI cB cZ oM Mthrown Mmany Mguest Mrow Mbars Mbar Mfresh Mtape Mtaped Mpos Mtoken MtokenAt Mvalue Mwrong MwrongAt MfaultKind MfaultPlace Mthing Morder Mone Mtwo Mbest Mcells Mgap Mwire Mstand Mruns Mminute Mhead Mplays Mrests Mwent Mout Mcame Mgone MlastOut) hw hA [0, 1, 2, 3, 4, 5, 6, 7, 8, 9, 10, 11, 12, 13, 14, 15, 16] rfl
          refine va_calli (va_runV (As := [.int (zI (Mrow p)), .int (zI 0)]) (rest := []) ⟨hx, hb, hml, hown, hts⟩ (c_X8_get l D cI cB cZ oM H_275.size Mthrown Mmany Mguest Mrow Mbars Mbar Mfresh Mtape Mtaped Mpos Mtoken MtokenAt Mvalue Mwrong MwrongAt MfaultKind MfaultPlace Mthing Morder Mone Mtwo Mbest Mcells Mgap Mwire Mstand Mruns Mminute Mhead Mplays Mrests Mwent Mout Mcame Mgone MlastOut (Mrow p) 0 (by omega) (by omega) qMguest qMrow (by omega) qMbar qMfresh qMtape (by omega) (by omega) (by omega) (by omega) (by omega) (by omega) (by omega) (by omega) (by omega) (by omega) qMorder (by omega) (by omega) qMbest (by omega) (by omega) qMwire qMstand (by omega) (by omega) qMhead qMplays qMrests qMwent qMout qMcame qMgone (by omega) (by omega) (by omega)) (cwV 2 hts gX8_goes_X8_get rfl rfl rfl (by decide +kernel) ⟨Nat.le_of_ble_eq_true rfl, Nat.le_of_ble_eq_true rfl⟩) ⟨zPre_blind, va_recv hK hw.1 (ci := 8) (q0 := 0) rfl rfl, z_pre hK hw [0, 1, 2, 3, 4, 5, 6, 7, 8, 9, 10, 11, 12, 13, 14, 15, 16] (by decide) rfl⟩ rfl rfl hl.1 rfl (lv_room (Nat.le_of_ble_eq_true rfl)) dX8_goes_98 ⟨Nat.zero_le _, Nat.zero_le _⟩) hw.2.2 (fun q _ h => hF9 q h) hF9 (fun r9 u9 t9 H_285 locs9 ht9 hvm9 hq9 hB9 hz9 hk9 hS9 => ?_)
          obtain ⟨r_286, rfl⟩ : ∃ z, z = u9 := ⟨_, rfl⟩
          try dsimp only at hq9 hB9
          obtain ⟨rfl, hq9⟩ := hq9
          obtain ⟨hq_287, hq_288⟩ := hq9
          have hw : HW D A s.heap (kM cI cB cZ oM Mthrown Mmany Mguest Mrow Mbars Mbar Mfresh Mtape Mtaped Mpos Mtoken MtokenAt Mvalue Mwrong MwrongAt MfaultKind MfaultPlace Mthing Morder Mone Mtwo Mbest Mcells Mgap Mwire Mstand Mruns Mminute Mhead Mplays Mrests Mwent Mout Mcame Mgone MlastOut) H_285 locs9 := z_after (wc := kM cI cB cZ oM Mthrown Mmany Mguest Mrow Mbars Mbar Mfresh Mtape Mtaped Mpos Mtoken MtokenAt Mvalue Mwrong MwrongAt MfaultKind MfaultPlace Mthing Morder Mone Mtwo Mbest Mcells Mgap Mwire Mstand Mruns Mminute Mhead Mplays Mrests Mwent Mout Mcame Mgone MlastOut) hw [0, 1, 2, 3, 4, 5, 6, 7, 8, 9, 10, 11, 12, 13, 14, 15, 16] [] rfl rfl (by decide) (by decide) hF9 hk9 ht9 hB9 hS9 [0, 1, 2, 3, 4, 5, 6, 7, 8, 9, 10, 11, 12, 13, 14, 15, 16] (by decide) rfl
          clear hF9 ht9 hvm9 hB9 hz9 hk9 hS9
          refine z_iconst hx hb dX8_goes_101 ?_
          refine z_icmp_ne (tgt := 114) hx hb dX8_goes_102 (by decide) (by omega) (fun hc_289 => ?_) (fun hc_289 => ?_)
          · skip
            have hv_290 : goP t (ki (Mrow p)) := by
              unfold goP; omega
            exact hj_29 () _ _ _ ⟨hv_290, hw, lv_sub hl [2, 3, 4, 6, 1, 0] rfl⟩
          · skip
            refine lv_iload_n hx hb dX8_goes_105 rfl (lv_at hl 5 rfl) ?_
            refine z_iconst hx hb dX8_goes_106 ?_
            have hbit_291 : zI t - zI t / zI 2 * zI 2 = zI (t % (2 : Int)) := by
              exact z_rem (by omega) (by omega)
            refine lv_irem hx hb dX8_goes_107 (fun q => by have q2 := (zI_eq (by omega) (by omega)).mp (show zI 2 = zI 0 from q); omega) ?_
            rw [hbit_291]
            clear hbit_291
            refine z_iconst hx hb dX8_goes_108 ?_
            refine z_icmp_ne (tgt := 114) hx hb dX8_goes_109 (by decide) (by omega) (fun hc_292 => ?_) (fun hc_292 => ?_)
            · skip
              have hv_293 : goP t (ki (Mrow p)) := by
                unfold goP; omega
              exact hj_29 () _ _ _ ⟨hv_293, hw, lv_sub hl [2, 3, 4, 6, 1, 0] rfl⟩
            · skip
              refine z_iconst hx hb dX8_goes_112 ?_
              have hv_294 : (0 : Int) = 0 ∨ (0 : Int) = 1 := by
                first | assumption | omega | grind
              have hv_295 : goPost1 base (Mrow p) Mhead Mplays Mrests Mwent Mout Mhead Mplays Mrests Mwent Mout (goG ki le Mcells Mstand t (Mrow p) True (h, b, c, o)) (0 : Int) := by
                exact go1_stay hp4 (by omega) (by omega) (fun q => by have q1 := q.1; unfold goP at q1; omega)
              exact W.zret (v := zI 0) hx hb hr rfl (fun t9 ht hW => ⟨⟨zI 0, (0, Mhead, Mplays, Mrests, Mwent, Mout), rfl, ⟨rfl, ⟨qMhead, qMplays, qMrests, qMwent, qMout, hv_294, hv_295⟩⟩, by subst hAe; exact z_end hK hw ht hW⟩, by subst hAe; exact hw.2.2.F ht⟩) (by subst hAe; exact hw.2.2.2.2) dX8_goes_113
      · skip
        refine lv_aload_n hx hb dX8_goes_46 rfl (lv_at hl 2 rfl) ?_
        refine va_get (D := D) (ci := 8) (v := .ref (oM 11)) (C := RX8) (T := TX8) (N := 36) hx hb hts hinX8 hown hK hw.1 0 rfl rfl 29 (by decide) (hts (.fieldLink RX8 50 "CarnivalRoadModel" "plays" "[I") (by decide +kernel)) (fun _ h9 => h9) rfl dX8_goes_47 ?_
        refine lv_iload hx hb dX8_goes_50 (lv_at hl 0 rfl) ?_
        have hi_296 : (0 : Int) ≤ (base + (Mrow p)) ∧ (base + (Mrow p)) < ((16 : Nat) : Int) := by
          omega
        refine z_iald (n := 16) (f := Mplays) hx hb hK hw 11 rfl (by decide) hi_296 dX8_goes_52 ?_
        have hq_297 : 0 ≤ Mplays (base + (Mrow p)) ∧ Mplays (base + (Mrow p)) ≤ 18 := qMplays (base + (Mrow p))
        refine z_if_le (tgt := 70) hx hb dX8_goes_53 (by decide) (by omega) (fun hc_298 => ?_) (fun hc_298 => ?_)
        · skip
          refine lv_aload_n hx hb dX8_goes_70 rfl (lv_at hl 2 rfl) ?_
          refine va_get (D := D) (ci := 8) (v := .ref (oM 12)) (C := RX8) (T := TX8) (N := 36) hx hb hts hinX8 hown hK hw.1 0 rfl rfl 30 (by decide) (hts (.fieldLink RX8 53 "CarnivalRoadModel" "rests" "[I") (by decide +kernel)) (fun _ h9 => h9) rfl dX8_goes_71 ?_
          refine lv_iload hx hb dX8_goes_74 (lv_at hl 0 rfl) ?_
          refine lv_dup2_11 hx hb dX8_goes_76 rfl rfl ?_
          have hi_299 : (0 : Int) ≤ (base + (Mrow p)) ∧ (base + (Mrow p)) < ((16 : Nat) : Int) := by
            omega
          refine z_iald (n := 16) (f := Mrests) hx hb hK hw 12 rfl (by decide) hi_299 dX8_goes_77 ?_
          have hq_300 : 0 ≤ Mrests (base + (Mrow p)) ∧ Mrests (base + (Mrow p)) ≤ 3 := qMrests (base + (Mrow p))
          refine z_iconst hx hb dX8_goes_78 ?_
          refine z_isub hx hb dX8_goes_79 ?_
          have hi_301 : (0 : Int) ≤ (base + (Mrow p)) ∧ (base + (Mrow p)) < ((16 : Nat) : Int) := by
            omega
          have hv_302 : (0 : Int) ≤ ((Mrests (base + (Mrow p))) - 1) ∧ ((Mrests (base + (Mrow p))) - 1) ≤ 3 := by
            first | assumption | omega | grind
          have hR_303 : RA (uZ Mrests (base + (Mrow p)) ((Mrests (base + (Mrow p))) - 1)) (0) 3 := RA_up qMrests hv_302
          refine z_iast (n := 16) (f := Mrests) (ws2 := kM cI cB cZ oM Mthrown Mmany Mguest Mrow Mbars Mbar Mfresh Mtape Mtaped Mpos Mtoken MtokenAt Mvalue Mwrong MwrongAt MfaultKind MfaultPlace Mthing Morder Mone Mtwo Mbest Mcells Mgap Mwire Mstand Mruns Mminute Mhead Mplays (uZ Mrests (base + (Mrow p)) ((Mrests (base + (Mrow p))) - 1)) Mwent Mout Mcame Mgone MlastOut) hx hb hK hw 12 rfl (by decide) hi_301 dX8_goes_80 rfl (fun H locs hw => ?_)
          refine z_iconst hx hb dX8_goes_81 ?_
          have hv_304 : (0 : Int) = 0 ∨ (0 : Int) = 1 := by
            first | assumption | omega | grind
          have hv_305 : goPost1 base (Mrow p) Mhead Mplays Mrests Mwent Mout Mhead Mplays (uZ Mrests (base + (Mrow p)) ((Mrests (base + (Mrow p))) - 1)) Mwent Mout (goG ki le Mcells Mstand t (Mrow p) True (h, b, c, o)) (0 : Int) := by
            first | exact go1_wait hp4 (by omega) (by omega) (fun k hk => ⟨uZ_n hk, rfl⟩) (by rw [uZ_s]; omega) | exact go1_wait hp4 (by omega) (by omega) (fun k hk => ⟨rfl, uZ_n hk⟩) (by rw [uZ_s]; omega)
          exact W.zret (v := zI 0) hx hb hr rfl (fun t9 ht hW => ⟨⟨zI 0, (0, Mhead, Mplays, (uZ Mrests (base + (Mrow p)) ((Mrests (base + (Mrow p))) - 1)), Mwent, Mout), rfl, ⟨rfl, ⟨qMhead, qMplays, hR_303, qMwent, qMout, hv_304, hv_305⟩⟩, by subst hAe; exact z_end hK hw ht hW⟩, by subst hAe; exact hw.2.2.F ht⟩) (by subst hAe; exact hw.2.2.2.2) dX8_goes_82
        · skip
          refine lv_aload_n hx hb dX8_goes_56 rfl (lv_at hl 2 rfl) ?_
          refine va_get (D := D) (ci := 8) (v := .ref (oM 11)) (C := RX8) (T := TX8) (N := 36) hx hb hts hinX8 hown hK hw.1 0 rfl rfl 29 (by decide) (hts (.fieldLink RX8 50 "CarnivalRoadModel" "plays" "[I") (by decide +kernel)) (fun _ h9 => h9) rfl dX8_goes_57 ?_
          refine lv_iload hx hb dX8_goes_60 (lv_at hl 0 rfl) ?_
          refine lv_dup2_11 hx hb dX8_goes_62 rfl rfl ?_
          have hi_306 : (0 : Int) ≤ (base + (Mrow p)) ∧ (base + (Mrow p)) < ((16 : Nat) : Int) := by
            omega
          refine z_iald (n := 16) (f := Mplays) hx hb hK hw 11 rfl (by decide) hi_306 dX8_goes_63 ?_
          have hq_307 : 0 ≤ Mplays (base + (Mrow p)) ∧ Mplays (base + (Mrow p)) ≤ 18 := qMplays (base + (Mrow p))
          refine z_iconst hx hb dX8_goes_64 ?_
          refine z_isub hx hb dX8_goes_65 ?_
          have hi_308 : (0 : Int) ≤ (base + (Mrow p)) ∧ (base + (Mrow p)) < ((16 : Nat) : Int) := by
            omega
          have hv_309 : (0 : Int) ≤ ((Mplays (base + (Mrow p))) - 1) ∧ ((Mplays (base + (Mrow p))) - 1) ≤ 18 := by
            first | assumption | omega | grind
          have hR_310 : RA (uZ Mplays (base + (Mrow p)) ((Mplays (base + (Mrow p))) - 1)) (0) 18 := RA_up qMplays hv_309
          refine z_iast (n := 16) (f := Mplays) (ws2 := kM cI cB cZ oM Mthrown Mmany Mguest Mrow Mbars Mbar Mfresh Mtape Mtaped Mpos Mtoken MtokenAt Mvalue Mwrong MwrongAt MfaultKind MfaultPlace Mthing Morder Mone Mtwo Mbest Mcells Mgap Mwire Mstand Mruns Mminute Mhead (uZ Mplays (base + (Mrow p)) ((Mplays (base + (Mrow p))) - 1)) Mrests Mwent Mout Mcame Mgone MlastOut) hx hb hK hw 11 rfl (by decide) hi_308 dX8_goes_66 rfl (fun H locs hw => ?_)
          refine lv_goto (tgt := 81) hx hb dX8_goes_67 (by decide) ?_
          refine z_iconst hx hb dX8_goes_81 ?_
          have hv_311 : (0 : Int) = 0 ∨ (0 : Int) = 1 := by
            first | assumption | omega | grind
          have hv_312 : goPost1 base (Mrow p) Mhead Mplays Mrests Mwent Mout Mhead (uZ Mplays (base + (Mrow p)) ((Mplays (base + (Mrow p))) - 1)) Mrests Mwent Mout (goG ki le Mcells Mstand t (Mrow p) True (h, b, c, o)) (0 : Int) := by
            first | exact go1_wait hp4 (by omega) (by omega) (fun k hk => ⟨uZ_n hk, rfl⟩) (by rw [uZ_s]; omega) | exact go1_wait hp4 (by omega) (by omega) (fun k hk => ⟨rfl, uZ_n hk⟩) (by rw [uZ_s]; omega)
          exact W.zret (v := zI 0) hx hb hr rfl (fun t9 ht hW => ⟨⟨zI 0, (0, Mhead, (uZ Mplays (base + (Mrow p)) ((Mplays (base + (Mrow p))) - 1)), Mrests, Mwent, Mout), rfl, ⟨rfl, ⟨qMhead, hR_310, qMrests, qMwent, qMout, hv_311, hv_312⟩⟩, by subst hAe; exact z_end hK hw ht hW⟩, by subst hAe; exact hw.2.2.F ht⟩) (by subst hAe; exact hw.2.2.2.2) dX8_goes_82
  · skip
    refine z_iconst hx hb dX8_goes_24 ?_
    have hv_313 : (0 : Int) = 0 ∨ (0 : Int) = 1 := by
      first | assumption | omega | grind
    have hv_314 : goPost1 base (Mrow p) Mhead Mplays Mrests Mwent Mout Mhead Mplays Mrests Mwent Mout (goG ki le Mcells Mstand t (Mrow p) True (h, b, c, o)) (0 : Int) := by
      exact go1_out hp4 (by omega)
    exact W.zret (v := zI 0) hx hb hr rfl (fun t9 ht hW => ⟨⟨zI 0, (0, Mhead, Mplays, Mrests, Mwent, Mout), rfl, ⟨rfl, ⟨qMhead, qMplays, qMrests, qMwent, qMout, hv_313, hv_314⟩⟩, by subst hAe; exact z_end hK hw ht hW⟩, by subst hAe; exact hw.2.2.F ht⟩) (by subst hAe; exact hw.2.2.2.2) dX8_goes_25
