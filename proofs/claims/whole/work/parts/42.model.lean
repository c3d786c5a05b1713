set_option maxRecDepth 100000 in
set_option maxHeartbeats 4000000 in
theorem c_X8_nextOrder (l : Launch) (D : va_G) (cI cB cZ : ClassId) (oM : Nat → Nat) (sz : Nat) (Mthrown : Int) (Mmany : Int) (Mguest : Int → Int) (Mrow : Int → Int) (Mbars : Int) (Mbar : Int → Int) (Mfresh : Int → Int) (Mtape : Int → Int) (Mtaped : Int) (Mpos : Int) (Mtoken : Int) (MtokenAt : Int) (Mvalue : Int) (Mwrong : Int) (MwrongAt : Int) (MfaultKind : Int) (MfaultPlace : Int) (Mthing : Int) (Morder : Int → Int) (Mone : Int) (Mtwo : Int) (Mbest : Int → Int) (Mcells : Int) (Mgap : Int) (Mwire : Int → Int) (Mstand : Int → Int) (Mruns : Int) (Mminute : Int) (Mhead : Int → Int) (Mplays : Int → Int) (Mrests : Int → Int) (Mwent : Int → Int) (Mout : Int → Int) (Mcame : Int → Int) (Mgone : Int → Int) (MlastOut : Int) (qMthrown : 0 ≤ Mthrown ∧ Mthrown ≤ 2) (qMmany : 0 ≤ Mmany ∧ Mmany ≤ 8) (qMguest : RA Mguest (0) 9) (qMrow : RA Mrow (0) 7) (qMbars : 0 ≤ Mbars ∧ Mbars ≤ 10) (qMbar : RA Mbar (0) 104) (qMfresh : RA Mfresh (0) 104) (qMtape : RA Mtape (0) 255) (qMtaped : 0 ≤ Mtaped ∧ Mtaped ≤ 400) (qMpos : 0 ≤ Mpos ∧ Mpos ≤ 400) (qMtoken : 0 ≤ Mtoken ∧ Mtoken ≤ 15) (qMtokenAt : 0 ≤ MtokenAt ∧ MtokenAt ≤ 400) (qMvalue : 0 ≤ Mvalue ∧ Mvalue ≤ 99) (qMwrong : 0 ≤ Mwrong ∧ Mwrong ≤ 3) (qMwrongAt : 0 ≤ MwrongAt ∧ MwrongAt ≤ 400) (qMfaultKind : 0 ≤ MfaultKind ∧ MfaultKind ≤ 3) (qMfaultPlace : -1 ≤ MfaultPlace ∧ MfaultPlace ≤ 400) (qMthing : 0 ≤ Mthing ∧ Mthing ≤ 104) (qMorder : RA Morder (0) 7) (qMone : 0 ≤ Mone ∧ Mone ≤ 8) (qMtwo : 0 ≤ Mtwo ∧ Mtwo ≤ 8) (qMbest : RA Mbest (0) 7) (qMcells : 1 ≤ Mcells ∧ Mcells ≤ 50) (qMgap : 0 ≤ Mgap ∧ Mgap ≤ 3) (qMwire : RA Mwire (0) 9) (qMstand : RA Mstand (0) 9) (qMruns : 0 ≤ Mruns ∧ Mruns ≤ 1) (qMminute : 0 ≤ Mminute ∧ Mminute ≤ 1000000) (qMhead : RA Mhead (-1) 60) (qMplays : RA Mplays (0) 18) (qMrests : RA Mrests (0) 3) (qMwent : RA Mwent (0) 61) (qMout : RA Mout (0) 1) (qMcame : RA Mcame (-1) 1000000) (qMgone : RA Mgone (-1) 1000000) (qMlastOut : 0 ≤ MlastOut ∧ MlastOut ≤ 1000000) : Met l yX8_nextOrder wsX8_nextOrder ({ frames := 0, cells := 0, slots := 0, locals := 0 }) (va_Pc [.ref (oM 0)] (zPre D cI cB cZ sz (kM cI cB cZ oM Mthrown Mmany Mguest Mrow Mbars Mbar Mfresh Mtape Mtaped Mpos Mtoken MtokenAt Mvalue Mwrong MwrongAt MfaultKind MfaultPlace Mthing Morder Mone Mtwo Mbest Mcells Mgap Mwire Mstand Mruns Mminute Mhead Mplays Mrests Mwent Mout Mcame Mgone MlastOut))) (va_Qi (fun (r9 : Int32) (u9 : Int × (Int → Int)) => r9 = zI u9.1 ∧ ((RA u9.2 (0) 7) ∧ ((u9.1 = 0 ∧ u9.2 = Morder ∧ ∀ k, -1 < k → k + 1 < Mmany → Morder (k + 1) < Morder k) ∨ (u9.1 = 1 ∧ ∃ i j, nextP Mmany Morder u9.2 i j)))) (fun u9 t9 => zAt D cI cB cZ (va_A (kM cI cB cZ oM Mthrown Mmany Mguest Mrow Mbars Mbar Mfresh Mtape Mtaped Mpos Mtoken MtokenAt Mvalue Mwrong MwrongAt MfaultKind MfaultPlace Mthing Morder Mone Mtwo Mbest Mcells Mgap Mwire Mstand Mruns Mminute Mhead Mplays Mrests Mwent Mout Mcame Mgone MlastOut) sz) (kM cI cB cZ oM Mthrown Mmany Mguest Mrow Mbars Mbar Mfresh Mtape Mtaped Mpos Mtoken MtokenAt Mvalue Mwrong MwrongAt MfaultKind MfaultPlace Mthing (u9.2) Mone Mtwo Mbest Mcells Mgap Mwire Mstand Mruns Mminute Mhead Mplays Mrests Mwent Mout Mcame Mgone MlastOut) t9) (va_A (kM cI cB cZ oM Mthrown Mmany Mguest Mrow Mbars Mbar Mfresh Mtape Mtaped Mpos Mtoken MtokenAt Mvalue Mwrong MwrongAt MfaultKind MfaultPlace Mthing Morder Mone Mtwo Mbest Mcells Mgap Mwire Mstand Mruns Mminute Mhead Mplays Mrests Mwent Mout Mcame Mgone MlastOut) sz)) 0 0 (va_A (kM cI cB cZ oM Mthrown Mmany Mguest Mrow Mbars Mbar Mfresh Mtape Mtaped Mpos Mtoken MtokenAt Mvalue Mwrong MwrongAt MfaultKind MfaultPlace Mthing Morder Mone Mtwo Mbest Mcells Mgap Mwire Mstand Mruns Mminute Mhead Mplays Mrests Mwent Mout Mcame Mgone MlastOut) sz) := by
  refine Met.ofW (cc := cX8_nextOrder) (maxL := 6) (ret := (some .boolean)) (by decide) rfl ?_
  intro pp ee s mm aa bw mt cd s₁ BL hml hv
  obtain ⟨rfl, hsz, hP, hK, hD0⟩ := hv
  have hx := BL.exec
  have hb := BL.bytes
  have hr := BL.returns
  have hts := atoms_spec (ws := wsX8_nextOrder) BL.pre
  have hown : s.vm.findClass RX8 = some mm.cls := findClass_of_methodNamed BL.named
  have hlocks := BL.notSynchronized
  subst hsz
  generalize hAe : va_A (kM cI cB cZ oM Mthrown Mmany Mguest Mrow Mbars Mbar Mfresh Mtape Mtaped Mpos Mtoken MtokenAt Mvalue Mwrong MwrongAt MfaultKind MfaultPlace Mthing Morder Mone Mtwo Mbest Mcells Mgap Mwire Mstand Mruns Mminute Mhead Mplays Mrests Mwent Mout Mcame Mgone MlastOut) s.heap.size = A
  have hA : ∀ q : Nat, s.heap.size ≤ q → A q := fun q h => by rw [← hAe]; exact Or.inr h
  have hw : HW D A s.heap (kM cI cB cZ oM Mthrown Mmany Mguest Mrow Mbars Mbar Mfresh Mtape Mtaped Mpos Mtoken MtokenAt Mvalue Mwrong MwrongAt MfaultKind MfaultPlace Mthing Morder Mone Mtwo Mbest Mcells Mgap Mwire Mstand Mruns Mminute Mhead Mplays Mrests Mwent Mout Mcame Mgone MlastOut) s.heap [] := z_start hAe hP hD0
  clear hP hD0
  have hl := lv_entry ([.ref (oM 0)]) (n := 6) (Nat.le_of_ble_eq_true rfl)
  rw [lg_entry_eq]
  generalize (lg_sl ([.ref (oM 0)]) ++ List.replicate (6 - (lg_sl ([.ref (oM 0)])).length) Slot.unset).toArray = ls at hl ⊢
  have hl : lv_has ls 6 [(0, .ref (oM 0))] := hl
  have hinX8 : ∀ w ∈ wsX80, w ∈ wsX8_nextOrder := by decide +kernel
  refine lv_aload_n hx hb dX8_nextOrder_0 rfl (lv_at hl 0 rfl) ?_
  refine va_get (D := D) (ci := 8) (v := .int (zI Mmany)) (C := RX8) (T := TX8) (N := 36) hx hb hts hinX8 hown hK hw.1 0 rfl rfl 1 (by decide) (hts (.fieldLink RX8 72 "CarnivalRoadModel" "many" "I") (by decide +kernel)) (fun _ h9 => h9) rfl dX8_nextOrder_1 ?_
  refine z_iconst hx hb dX8_nextOrder_4 ?_
  refine z_isub hx hb dX8_nextOrder_5 ?_
  refine lv_istore_n (lv' := [(1, .int (zI (Mmany - 2))), (0, .ref (oM 0))]) hx hb dX8_nextOrder_6 rfl hl (by decide) rfl (fun ls hl => ?_)
  have hv_1 : -1 ≤ (Mmany - 2) ∧ (Mmany - 2) ≤ Mmany - 2 ∨ ((Mmany - 2) < 0 ∧ -2 ≤ (Mmany - 2) ∧ Mmany < 2) := by
    first | assumption | omega | grind
  have hv_2 : ∀ k, (Mmany - 2) < k → 0 ≤ k → k + 1 < Mmany → Morder (k + 1) < Morder k := by
    intro k k0 k1 k2; omega
  refine z_loop (σ := Int) (μ := fun x9 => (x9 + 3).toNat) (I := fun x9 H locs ls => (-1 ≤ x9 ∧ x9 ≤ Mmany - 2 ∨ (x9 < 0 ∧ -2 ≤ x9 ∧ Mmany < 2)) ∧ (∀ k, x9 < k → 0 ≤ k → k + 1 < Mmany → Morder (k + 1) < Morder k) ∧ HW D A s.heap (kM cI cB cZ oM Mthrown Mmany Mguest Mrow Mbars Mbar Mfresh Mtape Mtaped Mpos Mtoken MtokenAt Mvalue Mwrong MwrongAt MfaultKind MfaultPlace Mthing Morder Mone Mtwo Mbest Mcells Mgap Mwire Mstand Mruns Mminute Mhead Mplays Mrests Mwent Mout Mcame Mgone MlastOut) H locs ∧ lv_has ls 6 [(0, .ref (oM 0)), (1, .int (zI x9))]) (Mmany - 2) ⟨hv_1, hv_2, hw, lv_sub hl [1, 0] rfl⟩ ?_
  clear hw hl
  intro i_4 H locs ls hI ih_3
  try dsimp only at hI
  obtain ⟨hI_5, hI_6, hw, hl⟩ := hI
  refine lv_iload_n hx hb dX8_nextOrder_7 rfl (lv_at hl 1 rfl) ?_
  refine z_if_lt (tgt := 34) hx hb dX8_nextOrder_8 (by decide) (by omega) (fun hc_7 => ?_) (fun hc_7 => ?_)
  · skip
    refine lv_iload_n hx hb dX8_nextOrder_34 rfl (lv_at hl 1 rfl) ?_
    refine z_if_ge (tgt := 40) hx hb dX8_nextOrder_35 (by decide) (by omega) (fun hc_8 => ?_) (fun hc_8 => ?_)
    · skip
      refine lv_aload_n hx hb dX8_nextOrder_40 rfl (lv_at hl 0 rfl) ?_
      refine va_get (D := D) (ci := 8) (v := .int (zI Mmany)) (C := RX8) (T := TX8) (N := 36) hx hb hts hinX8 hown hK hw.1 0 rfl rfl 1 (by decide) (hts (.fieldLink RX8 72 "CarnivalRoadModel" "many" "I") (by decide +kernel)) (fun _ h9 => h9) rfl dX8_nextOrder_41 ?_
      refine z_iconst hx hb dX8_nextOrder_44 ?_
      refine z_isub hx hb dX8_nextOrder_45 ?_
      refine lv_istore_n (lv' := [(2, .int (zI (Mmany - 1))), (0, .ref (oM 0)), (1, .int (zI i_4))]) hx hb dX8_nextOrder_46 rfl hl (by decide) rfl (fun ls hl => ?_)
      have hv_9 : i_4 < (Mmany - 1) ∧ (Mmany - 1) < Mmany := by
        first | assumption | omega | grind
      have hv_10 : ∀ k, (Mmany - 1) < k → k < Mmany → Morder k < Morder i_4 := by
        intro k k0 k1; omega
      refine z_loop (σ := Int) (μ := fun x9 => x9.toNat) (I := fun x9 H locs ls => (i_4 < x9 ∧ x9 < Mmany) ∧ (∀ k, x9 < k → k < Mmany → Morder k < Morder i_4) ∧ HW D A s.heap (kM cI cB cZ oM Mthrown Mmany Mguest Mrow Mbars Mbar Mfresh Mtape Mtaped Mpos Mtoken MtokenAt Mvalue Mwrong MwrongAt MfaultKind MfaultPlace Mthing Morder Mone Mtwo Mbest Mcells Mgap Mwire Mstand Mruns Mminute Mhead Mplays Mrests Mwent Mout Mcame Mgone MlastOut) H locs ∧ lv_has ls 6 [(0, .ref (oM 0)), (1, .int (zI i_4)), (2, .int (zI x9))]) (Mmany - 1) ⟨hv_9, hv_10, hw, lv_sub hl [1, 2, 0] rfl⟩ ?_
      clear hw hl
      intro j_12 H locs ls hI ih_11
      try dsimp only at hI
      obtain ⟨hI_13, hI_14, hw, hl⟩ := hI
      refine lv_aload_n hx hb dX8_nextOrder_47 rfl (lv_at hl 0 rfl) ?_
      refine va_get (D := D) (ci := 8) (v := .ref (oM 6)) (C := RX8) (T := TX8) (N := 36) hx hb hts hinX8 hown hK hw.1 0 rfl rfl 18 (by decide) (hts (.fieldLink RX8 29 "CarnivalRoadModel" "order" "[I") (by decide +kernel)) (fun _ h9 => h9) rfl dX8_nextOrder_48 ?_
      refine lv_iload_n hx hb dX8_nextOrder_51 rfl (lv_at hl 2 rfl) ?_
      have hi_15 : (0 : Int) ≤ j_12 ∧ j_12 < ((8 : Nat) : Int) := by
        first | assumption | omega | grind
      refine z_iald (n := 8) (f := Morder) hx hb hK hw 6 rfl (by decide) hi_15 dX8_nextOrder_52 ?_
      have hq_16 : 0 ≤ Morder j_12 ∧ Morder j_12 ≤ 7 := qMorder j_12
      refine lv_aload_n hx hb dX8_nextOrder_53 rfl (lv_at hl 0 rfl) ?_
      refine va_get (D := D) (ci := 8) (v := .ref (oM 6)) (C := RX8) (T := TX8) (N := 36) hx hb hts hinX8 hown hK hw.1 0 rfl rfl 18 (by decide) (hts (.fieldLink RX8 29 "CarnivalRoadModel" "order" "[I") (by decide +kernel)) (fun _ h9 => h9) rfl dX8_nextOrder_54 ?_
      refine lv_iload_n hx hb dX8_nextOrder_57 rfl (lv_at hl 1 rfl) ?_
      have hi_17 : (0 : Int) ≤ i_4 ∧ i_4 < ((8 : Nat) : Int) := by
        first | assumption | omega | grind
      refine z_iald (n := 8) (f := Morder) hx hb hK hw 6 rfl (by decide) hi_17 dX8_nextOrder_58 ?_
      have hq_18 : 0 ≤ Morder i_4 ∧ Morder i_4 ≤ 7 := qMorder i_4
      refine z_icmp_ge (tgt := 68) hx hb dX8_nextOrder_59 (by decide) (by omega) (fun hc_19 => ?_) (fun hc_19 => ?_)
      · skip
        refine lv_aload_n hx hb dX8_nextOrder_68 rfl (lv_at hl 0 rfl) ?_
        refine va_get (D := D) (ci := 8) (v := .ref (oM 6)) (C := RX8) (T := TX8) (N := 36) hx hb hts hinX8 hown hK hw.1 0 rfl rfl 18 (by decide) (hts (.fieldLink RX8 29 "CarnivalRoadModel" "order" "[I") (by decide +kernel)) (fun _ h9 => h9) rfl dX8_nextOrder_69 ?_
        refine lv_iload_n hx hb dX8_nextOrder_72 rfl (lv_at hl 1 rfl) ?_
        have hi_20 : (0 : Int) ≤ i_4 ∧ i_4 < ((8 : Nat) : Int) := by
          first | assumption | omega | grind
        refine z_iald (n := 8) (f := Morder) hx hb hK hw 6 rfl (by decide) hi_20 dX8_nextOrder_73 ?_
        have hq_21 : 0 ≤ Morder i_4 ∧ Morder i_4 ≤ 7 := qMorder i_4
        refine lv_istore_n (lv' := [(3, .int (zI (Morder i_4))), (0, .ref (oM 0)), (1, .int (zI i_4)), (2, .int (zI j_12))]) hx hb dX8_nextOrder_74 rfl hl (by decide) rfl (fun ls hl => ?_)
        refine lv_aload_n hx hb dX8_nextOrder_75 rfl (lv_at hl 1 rfl) ?_
        refine va_get (D := D) (ci := 8) (v := .ref (oM 6)) (C := RX8) (T := TX8) (N := 36) hx hb hts hinX8 hown hK hw.1 0 rfl rfl 18 (by decide) (hts (.fieldLink RX8 29 "CarnivalRoadModel" "order" "[I") (by decide +kernel)) (fun _ h9 => h9) rfl dX8_nextOrder_76 ?_
        refine lv_iload_n hx hb dX8_nextOrder_79 rfl (lv_at hl 2 rfl) ?_
        refine lv_aload_n hx hb dX8_nextOrder_80 rfl (lv_at hl 1 rfl) ?_
        refine va_get (D := D) (ci := 8) (v := .ref (oM 6)) (C := RX8) (T := TX8) (N := 36) hx hb hts hinX8 hown hK hw.1 0 rfl rfl 18 (by decide) (hts (.fieldLink RX8 29 "CarnivalRoadModel" "order" "[I") (by decide +kernel)) (fun _ h9 => h9) rfl dX8_nextOrder_81 ?_
        refine lv_iload_n hx hb dX8_nextOrder_84 rfl (lv_at hl 3 rfl) ?_
        have hi_22 : (0 : Int) ≤ j_12 ∧ j_12 < ((8 : Nat) : Int) := by
          first | assumption | omega | grind
        refine z_iald (n := 8) (f := Morder) hx hb hK hw 6 rfl (by decide) hi_22 dX8_nextOrder_85 ?_
        have hq_23 : 0 ≤ Morder j_12 ∧ Morder j_12 ≤ 7 := qMorder j_12
        have hi_24 : (0 : Int) ≤ i_4 ∧ i_4 < ((8 : Nat) : Int) := by
          first | assumption | omega | grind
        have hv_25 : (0 : Int) ≤ (Morder j_12) ∧ (Morder j_12) ≤ 7 := by
          first | assumption | omega | grind
        have hR_26 : RA (uZ Morder i_4 (Morder j_12)) (0) 7 := RA_up qMorder hv_25
        refine z_iast (n := 8) (f := Morder) (ws2 := kM cI cB cZ oM Mthrown Mmany Mguest Mrow Mbars Mbar Mfresh Mtape Mtaped Mpos Mtoken MtokenAt Mvalue Mwrong MwrongAt MfaultKind MfaultPlace Mthing (uZ Morder i_4 (Morder j_12)) Mone Mtwo Mbest Mcells Mgap Mwire Mstand Mruns Mminute Mhead Mplays Mrests Mwent Mout Mcame Mgone MlastOut) hx hb hK hw 6 rfl (by decide) hi_24 dX8_nextOrder_86 rfl (fun H locs hw => ?_)
        refine lv_aload_n hx hb dX8_nextOrder_87 rfl (lv_at hl 1 rfl) ?_
        refine va_get (D := D) (ci := 8) (v := .ref (oM 6)) (C := RX8) (T := TX8) (N := 36) hx hb hts hinX8 hown hK hw.1 0 rfl rfl 18 (by decide) (hts (.fieldLink RX8 29 "CarnivalRoadModel" "order" "[I") (by decide +kernel)) (fun _ h9 => h9) rfl dX8_nextOrder_88 ?_
        refine lv_iload_n hx hb dX8_nextOrder_91 rfl (lv_at hl 3 rfl) ?_
        refine lv_iload_n hx hb dX8_nextOrder_92 rfl (lv_at hl 0 rfl) ?_
        have hi_27 : (0 : Int) ≤ j_12 ∧ j_12 < ((8 : Nat) : Int) := by
          first | assumption | omega | grind
        have hv_28 : (0 : Int) ≤ (Morder i_4) ∧ (Morder i_4) ≤ 7 := by
          first | assumption | omega | grind
        have hR_29 : RA (uZ (uZ Morder i_4 (Morder j_12)) j_12 (Morder i_4)) (0) 7 := RA_up hR_26 hv_28
        refine z_iast (n := 8) (f := (uZ Morder i_4 (Morder j_12))) (ws2 := kM cI cB cZ oM Mthrown Mmany Mguest Mrow Mbars Mbar Mfresh Mtape Mtaped Mpos Mtoken MtokenAt Mvalue Mwrong MwrongAt MfaultKind MfaultPlace Mthing (uZ (uZ Morder i_4 (Morder j_12)) j_12 (Morder i_4)) Mone Mtwo Mbest Mcells Mgap Mwire Mstand Mruns Mminute Mhead Mplays Mrests Mwent Mout Mcame Mgone MlastOut) hx hb hK hw 6 rfl (by decide) hi_27 dX8_nextOrder_93 rfl (fun H locs hw => ?_)
        refine lv_iload_n hx hb dX8_nextOrder_94 rfl (lv_at hl 2 rfl) ?_
        refine z_iconst hx hb dX8_nextOrder_95 ?_
        refine z_iadd hx hb dX8_nextOrder_96 ?_
        refine lv_istore (lv' := [(4, .int (zI (i_4 + 1))), (3, .int (zI (Morder i_4))), (0, .ref (oM 0)), (1, .int (zI i_4)), (2, .int (zI j_12))]) hx hb dX8_nextOrder_97 hl (by decide) rfl (fun ls hl => ?_)
        refine lv_aload_n hx hb dX8_nextOrder_99 rfl (lv_at hl 2 rfl) ?_
        refine va_get (D := D) (ci := 8) (v := .int (zI Mmany)) (C := RX8) (T := TX8) (N := 36) hx hb hts hinX8 hown hK hw.1 0 rfl rfl 1 (by decide) (hts (.fieldLink RX8 72 "CarnivalRoadModel" "many" "I") (by decide +kernel)) (fun _ h9 => h9) rfl dX8_nextOrder_100 ?_
        refine z_iconst hx hb dX8_nextOrder_103 ?_
        refine z_isub hx hb dX8_nextOrder_104 ?_
        refine lv_istore (lv' := [(5, .int (zI (Mmany - 1))), (4, .int (zI (i_4 + 1))), (3, .int (zI (Morder i_4))), (0, .ref (oM 0)), (1, .int (zI i_4)), (2, .int (zI j_12))]) hx hb dX8_nextOrder_105 hl (by decide) rfl (fun ls hl => ?_)
        have hv_30 : 0 ≤ i_4 ∧ i_4 < j_12 ∧ j_12 < Mmany := by
          first | assumption | omega | grind
        have hv_31 : ∀ k, i_4 < k → k + 1 < Mmany → Morder (k + 1) < Morder k := by
          intro k k0 k1; exact (by assumption : ∀ k, i_4 < k → 0 ≤ k → k + 1 < Mmany → Morder (k + 1) < Morder k) k k0 (by omega) k1
        have hv_32 : Morder i_4 ≤ Morder (i_4 + 1) := by
          first | assumption | omega | grind
        have hv_33 : Morder i_4 ≤ Morder j_12 := by
          first | assumption | omega | grind
        have hv_34 : ∀ k, j_12 < k → k < Mmany → Morder k < Morder i_4 := by
          first | assumption | omega | grind
        have hv_35 : (i_4 + 1) + (Mmany - 1) = Mmany + i_4 := by
          first | assumption | omega | grind
        have hv_36 : i_4 < (i_4 + 1) ∧ (i_4 + 1) ≤ (Mmany - 1) + 1 ∧ (Mmany - 1) < Mmany := by
          first | assumption | omega | grind
        have hv_37 : ∀ k, (i_4 < k ∧ k < (i_4 + 1)) ∨ ((Mmany - 1) < k ∧ k < Mmany) → (uZ (uZ Morder i_4 (Morder j_12)) j_12 (Morder i_4)) k = uZ (uZ Morder i_4 (Morder j_12)) j_12 (Morder i_4) (Mmany + i_4 - k) := by
          intro k hk; omega
        have hv_38 : ∀ k, k ≤ i_4 ∨ ((i_4 + 1) ≤ k ∧ k ≤ (Mmany - 1)) → (uZ (uZ Morder i_4 (Morder j_12)) j_12 (Morder i_4)) k = uZ (uZ Morder i_4 (Morder j_12)) j_12 (Morder i_4) k := by
          intro k _; rfl
        refine z_loop (σ := Int × Int × (Int → Int) × Int × Int) (μ := fun x9 => ((x9.2.1) + 1 - (x9.1)).toNat) (I := fun x9 H locs ls => (RA (x9.2.2.1) (0) 7) ∧ (0 ≤ x9.2.2.2.1 ∧ x9.2.2.2.1 < x9.2.2.2.2 ∧ x9.2.2.2.2 < Mmany) ∧ (∀ k, x9.2.2.2.1 < k → k + 1 < Mmany → Morder (k + 1) < Morder k) ∧ (Morder x9.2.2.2.1 ≤ Morder (x9.2.2.2.1 + 1)) ∧ (Morder x9.2.2.2.1 ≤ Morder x9.2.2.2.2) ∧ (∀ k, x9.2.2.2.2 < k → k < Mmany → Morder k < Morder x9.2.2.2.1) ∧ ((x9.1) + (x9.2.1) = Mmany + x9.2.2.2.1) ∧ (x9.2.2.2.1 < (x9.1) ∧ (x9.1) ≤ (x9.2.1) + 1 ∧ (x9.2.1) < Mmany) ∧ (∀ k, (x9.2.2.2.1 < k ∧ k < (x9.1)) ∨ ((x9.2.1) < k ∧ k < Mmany) → (x9.2.2.1) k = uZ (uZ Morder x9.2.2.2.1 (Morder x9.2.2.2.2)) x9.2.2.2.2 (Morder x9.2.2.2.1) (Mmany + x9.2.2.2.1 - k)) ∧ (∀ k, k ≤ x9.2.2.2.1 ∨ ((x9.1) ≤ k ∧ k ≤ (x9.2.1)) → (x9.2.2.1) k = uZ (uZ Morder x9.2.2.2.1 (Morder x9.2.2.2.2)) x9.2.2.2.2 (Morder x9.2.2.2.1) k) ∧ HW D A s.heap (kM cI cB cZ oM Mthrown Mmany Mguest Mrow Mbars Mbar Mfresh Mtape Mtaped Mpos Mtoken MtokenAt Mvalue Mwrong MwrongAt MfaultKind MfaultPlace Mthing (x9.2.2.1) Mone Mtwo Mbest Mcells Mgap Mwire Mstand Mruns Mminute Mhead Mplays Mrests Mwent Mout Mcame Mgone MlastOut) H locs ∧ lv_has ls 6 [(0, .ref (oM 0)), (4, .int (zI (x9.1))), (5, .int (zI (x9.2.1)))]) ((i_4 + 1), (Mmany - 1), (uZ (uZ Morder i_4 (Morder j_12)) j_12 (Morder i_4)), i_4, j_12) ⟨hR_29, hv_30, hv_31, hv_32, hv_33, hv_34, hv_35, hv_36, hv_37, hv_38, hw, lv_sub hl [3, 1, 0] rfl⟩ ?_
        clear hw hl
        intro x9 H locs ls hI ih_39
        obtain ⟨a_40, b_41, Morder_42, si_43, sj_44⟩ := x9
        try dsimp only at hI
        obtain ⟨hR_45, hI_46, hI_47, hI_48, hI_49, hI_50, hI_51, hI_52, hI_53, hI_54, hw, hl⟩ := hI
        refine lv_iload hx hb dX8_nextOrder_107 (lv_at hl 1 rfl) ?_
        refine lv_iload hx hb dX8_nextOrder_109 (lv_at hl 2 rfl) ?_
        refine z_icmp_ge (tgt := 153) hx hb dX8_nextOrder_111 (by decide) (by omega) (fun hc_55 => ?_) (fun hc_55 => ?_)
        · skip
          refine z_iconst hx hb dX8_nextOrder_153 ?_
          have hv_56 : ((1 : Int) = 0 ∧ Morder_42 = Morder ∧ ∀ k, -1 < k → k + 1 < Mmany → Morder (k + 1) < Morder k) ∨ ((1 : Int) = 1 ∧ ∃ i j, nextP Mmany Morder Morder_42 i j) := by
            exact Or.inr ⟨rfl, si_43, sj_44, next_end (by assumption) (by assumption) (by assumption) (by assumption) (by assumption) (by assumption) (by omega) (by omega) (by assumption) (by assumption)⟩
          exact W.zret (v := zI 1) hx hb hr rfl (fun t9 ht hW => ⟨⟨zI 1, (1, Morder_42), rfl, ⟨rfl, ⟨hR_45, hv_56⟩⟩, by subst hAe; exact z_end hK hw ht hW⟩, by subst hAe; exact hw.2.2.F ht⟩) (by subst hAe; exact hw.2.2.2.2) dX8_nextOrder_154
        · skip
          refine lv_aload_n hx hb dX8_nextOrder_114 rfl (lv_at hl 0 rfl) ?_
          refine va_get (D := D) (ci := 8) (v := .ref (oM 6)) (C := RX8) (T := TX8) (N := 36) hx hb hts hinX8 hown hK hw.1 0 rfl rfl 18 (by decide) (hts (.fieldLink RX8 29 "CarnivalRoadModel" "order" "[I") (by decide +kernel)) (fun _ h9 => h9) rfl dX8_nextOrder_115 ?_
          refine lv_iload hx hb dX8_nextOrder_118 (lv_at hl 1 rfl) ?_
          have hi_57 : (0 : Int) ≤ a_40 ∧ a_40 < ((8 : Nat) : Int) := by
            first | assumption | omega | grind
          refine z_iald (n := 8) (f := Morder_42) hx hb hK hw 6 rfl (by decide) hi_57 dX8_nextOrder_120 ?_
          have hq_58 : 0 ≤ Morder_42 a_40 ∧ Morder_42 a_40 ≤ 7 := hR_45 a_40
          refine lv_istore_n (lv' := [(3, .int (zI (Morder_42 a_40))), (0, .ref (oM 0)), (4, .int (zI a_40)), (5, .int (zI b_41))]) hx hb dX8_nextOrder_121 rfl hl (by decide) rfl (fun ls hl => ?_)
          refine lv_aload_n hx hb dX8_nextOrder_122 rfl (lv_at hl 1 rfl) ?_
          refine va_get (D := D) (ci := 8) (v := .ref (oM 6)) (C := RX8) (T := TX8) (N := 36) hx hb hts hinX8 hown hK hw.1 0 rfl rfl 18 (by decide) (hts (.fieldLink RX8 29 "CarnivalRoadModel" "order" "[I") (by decide +kernel)) (fun _ h9 => h9) rfl dX8_nextOrder_123 ?_
          refine lv_iload hx hb dX8_nextOrder_126 (lv_at hl 2 rfl) ?_
          refine lv_aload_n hx hb dX8_nextOrder_128 rfl (lv_at hl 1 rfl) ?_
          refine va_get (D := D) (ci := 8) (v := .ref (oM 6)) (C := RX8) (T := TX8) (N := 36) hx hb hts hinX8 hown hK hw.1 0 rfl rfl 18 (by decide) (hts (.fieldLink RX8 29 "CarnivalRoadModel" "order" "[I") (by decide +kernel)) (fun _ h9 => h9) rfl dX8_nextOrder_129 ?_
          refine lv_iload hx hb dX8_nextOrder_132 (lv_at hl 3 rfl) ?_
          have hi_59 : (0 : Int) ≤ b_41 ∧ b_41 < ((8 : Nat) : Int) := by
            first | assumption | omega | grind
          refine z_iald (n := 8) (f := Morder_42) hx hb hK hw 6 rfl (by decide) hi_59 dX8_nextOrder_134 ?_
          have hq_60 : 0 ≤ Morder_42 b_41 ∧ Morder_42 b_41 ≤ 7 := hR_45 b_41
          have hi_61 : (0 : Int) ≤ a_40 ∧ a_40 < ((8 : Nat) : Int) := by
            first | assumption | omega | grind
          have hv_62 : (0 : Int) ≤ (Morder_42 b_41) ∧ (Morder_42 b_41) ≤ 7 := by
            first | assumption | omega | grind
          have hR_63 : RA (uZ Morder_42 a_40 (Morder_42 b_41)) (0) 7 := RA_up hR_45 hv_62
          refine z_iast (n := 8) (f := Morder_42) (ws2 := kM cI cB cZ oM Mthrown Mmany Mguest Mrow Mbars Mbar Mfresh Mtape Mtaped Mpos Mtoken MtokenAt Mvalue Mwrong MwrongAt MfaultKind MfaultPlace Mthing (uZ Morder_42 a_40 (Morder_42 b_41)) Mone Mtwo Mbest Mcells Mgap Mwire Mstand Mruns Mminute Mhead Mplays Mrests Mwent Mout Mcame Mgone MlastOut) hx hb hK hw 6 rfl (by decide) hi_61 dX8_nextOrder_135 rfl (fun H locs hw => ?_)
          refine lv_aload_n hx hb dX8_nextOrder_136 rfl (lv_at hl 1 rfl) ?_
          refine va_get (D := D) (ci := 8) (v := .ref (oM 6)) (C := RX8) (T := TX8) (N := 36) hx hb hts hinX8 hown hK hw.1 0 rfl rfl 18 (by decide) (hts (.fieldLink RX8 29 "CarnivalRoadModel" "order" "[I") (by decide +kernel)) (fun _ h9 => h9) rfl dX8_nextOrder_137 ?_
          refine lv_iload hx hb dX8_nextOrder_140 (lv_at hl 3 rfl) ?_
          refine lv_iload_n hx hb dX8_nextOrder_142 rfl (lv_at hl 0 rfl) ?_
          have hi_64 : (0 : Int) ≤ b_41 ∧ b_41 < ((8 : Nat) : Int) := by
            first | assumption | omega | grind
          have hv_65 : (0 : Int) ≤ (Morder_42 a_40) ∧ (Morder_42 a_40) ≤ 7 := by
            first | assumption | omega | grind
          have hR_66 : RA (uZ (uZ Morder_42 a_40 (Morder_42 b_41)) b_41 (Morder_42 a_40)) (0) 7 := RA_up hR_63 hv_65
          refine z_iast (n := 8) (f := (uZ Morder_42 a_40 (Morder_42 b_41))) (ws2 := kM cI cB cZ oM Mthrown Mmany Mguest Mrow Mbars Mbar Mfresh Mtape Mtaped Mpos Mtoken MtokenAt Mvalue Mwrong MwrongAt MfaultKind MfaultPlace Mthing (uZ (uZ Morder_42 a_40 (Morder_42 b_41)) b_41 (Morder_42 a_40)) Mone Mtwo Mbest Mcells Mgap Mwire Mstand Mruns Mminute Mhead Mplays Mrests Mwent Mout Mcame Mgone MlastOut) hx hb hK hw 6 rfl (by decide) hi_64 dX8_nextOrder_143 rfl (fun H locs hw => ?_)
          refine z_iinc (k := 2) (lv' := [(4, .int (zI (a_40 + 1))), (3, .int (zI (Morder_42 a_40))), (0, .ref (oM 0)), (5, .int (zI b_41))]) hx hb dX8_nextOrder_144 hl rfl (by decide) rfl (fun ls hl => ?_)
          refine z_iinc (k := 3) (lv' := [(5, .int (zI (b_41 + (-1)))), (4, .int (zI (a_40 + 1))), (3, .int (zI (Morder_42 a_40))), (0, .ref (oM 0))]) hx hb dX8_nextOrder_147 hl rfl (by decide) rfl (fun ls hl => ?_)
          refine lv_goto (tgt := 107) hx hb dX8_nextOrder_150 (by decide) ?_
          have hv_67 : 0 ≤ si_43 ∧ si_43 < sj_44 ∧ sj_44 < Mmany := by
            first | assumption | omega | grind
          have hv_68 : ∀ k, si_43 < k → k + 1 < Mmany → Morder (k + 1) < Morder k := by
            first | assumption | omega | grind
          have hv_69 : Morder si_43 ≤ Morder (si_43 + 1) := by
            first | assumption | omega | grind
          have hv_70 : Morder si_43 ≤ Morder sj_44 := by
            first | assumption | omega | grind
          have hv_71 : ∀ k, sj_44 < k → k < Mmany → Morder k < Morder si_43 := by
            first | assumption | omega | grind
          have hv_72 : (a_40 + 1) + (b_41 + (-1)) = Mmany + si_43 := by
            first | assumption | omega | grind
          have hv_73 : si_43 < (a_40 + 1) ∧ (a_40 + 1) ≤ (b_41 + (-1)) + 1 ∧ (b_41 + (-1)) < Mmany := by
            first | assumption | omega | grind
          have hv_74 : ∀ k, (si_43 < k ∧ k < (a_40 + 1)) ∨ ((b_41 + (-1)) < k ∧ k < Mmany) → (uZ (uZ Morder_42 a_40 (Morder_42 b_41)) b_41 (Morder_42 a_40)) k = uZ (uZ Morder si_43 (Morder sj_44)) sj_44 (Morder si_43) (Mmany + si_43 - k) := by
            exact (next_swap (by assumption) (by omega) rfl (by assumption) (by assumption)).1
          have hv_75 : ∀ k, k ≤ si_43 ∨ ((a_40 + 1) ≤ k ∧ k ≤ (b_41 + (-1))) → (uZ (uZ Morder_42 a_40 (Morder_42 b_41)) b_41 (Morder_42 a_40)) k = uZ (uZ Morder si_43 (Morder sj_44)) sj_44 (Morder si_43) k := by
            exact (next_swap (by assumption) (by omega) rfl (by assumption) (by assumption)).2
          have hm_76 : ((b_41 + (-1)) + 1 - (a_40 + 1)).toNat < (b_41 + 1 - a_40).toNat := by
            first | assumption | omega | grind
          exact ih_39 ((a_40 + 1), (b_41 + (-1)), (uZ (uZ Morder_42 a_40 (Morder_42 b_41)) b_41 (Morder_42 a_40)), si_43, sj_44) _ _ _ ⟨hR_66, hv_67, hv_68, hv_69, hv_70, hv_71, hv_72, hv_73, hv_74, hv_75, hw, lv_sub hl [3, 1, 0] rfl⟩ hm_76
      · skip
        refine z_iinc (k := 2) (lv' := [(2, .int (zI (j_12 + (-1)))), (0, .ref (oM 0)), (1, .int (zI i_4))]) hx hb dX8_nextOrder_62 hl rfl (by decide) rfl (fun ls hl => ?_)
        refine lv_goto (tgt := 47) hx hb dX8_nextOrder_65 (by decide) ?_
        have hv_77 : i_4 < (j_12 + (-1)) ∧ (j_12 + (-1)) < Mmany := by
          by_cases q : j_12 = i_4 + 1
          · exfalso
            subst q
            omega
          · omega
        have hv_78 : ∀ k, (j_12 + (-1)) < k → k < Mmany → Morder k < Morder i_4 := by
          intro k k0 k1
          by_cases q : k = j_12
          · rw [q]; assumption
          · exact (by assumption : ∀ k, j_12 < k → k < Mmany → Morder k < Morder i_4) k (by omega) k1
        have hm_79 : (j_12 + (-1)).toNat < j_12.toNat := by
          first | assumption | omega | grind
        exact ih_11 (j_12 + (-1)) _ _ _ ⟨hv_77, hv_78, hw, lv_sub hl [1, 2, 0] rfl⟩ hm_79
    · skip
      refine z_iconst hx hb dX8_nextOrder_38 ?_
      have hv_80 : ((0 : Int) = 0 ∧ Morder = Morder ∧ ∀ k, -1 < k → k + 1 < Mmany → Morder (k + 1) < Morder k) ∨ ((0 : Int) = 1 ∧ ∃ i j, nextP Mmany Morder Morder i j) := by
        exact Or.inl ⟨rfl, rfl, fun k k0 k1 => (by assumption : ∀ k, i_4 < k → 0 ≤ k → k + 1 < Mmany → Morder (k + 1) < Morder k) k (by omega) (by omega) k1⟩
      exact W.zret (v := zI 0) hx hb hr rfl (fun t9 ht hW => ⟨⟨zI 0, (0, Morder), rfl, ⟨rfl, ⟨qMorder, hv_80⟩⟩, by subst hAe; exact z_end hK hw ht hW⟩, by subst hAe; exact hw.2.2.F ht⟩) (by subst hAe; exact hw.2.2.2.2) dX8_nextOrder_39
  · skip
    refine lv_aload_n hx hb dX8_nextOrder_11 rfl (lv_at hl 0 rfl) ?_
    refine va_get (D := D) (ci := 8) (v := .ref (oM 6)) (C := RX8) (T := TX8) (N := 36) hx hb hts hinX8 hown hK hw.1 0 rfl rfl 18 (by decide) (hts (.fieldLink RX8 29 "CarnivalRoadModel" "order" "[I") (by decide +kernel)) (fun _ h9 => h9) rfl dX8_nextOrder_12 ?_
    refine lv_iload_n hx hb dX8_nextOrder_15 rfl (lv_at hl 1 rfl) ?_
    have hi_81 : (0 : Int) ≤ i_4 ∧ i_4 < ((8 : Nat) : Int) := by
      first | assumption | omega | grind
    refine z_iald (n := 8) (f := Morder) hx hb hK hw 6 rfl (by decide) hi_81 dX8_nextOrder_16 ?_
    have hq_82 : 0 ≤ Morder i_4 ∧ Morder i_4 ≤ 7 := qMorder i_4
    refine lv_aload_n hx hb dX8_nextOrder_17 rfl (lv_at hl 0 rfl) ?_
    refine va_get (D := D) (ci := 8) (v := .ref (oM 6)) (C := RX8) (T := TX8) (N := 36) hx hb hts hinX8 hown hK hw.1 0 rfl rfl 18 (by decide) (hts (.fieldLink RX8 29 "CarnivalRoadModel" "order" "[I") (by decide +kernel)) (fun _ h9 => h9) rfl dX8_nextOrder_18 ?_
    refine lv_iload_n hx hb dX8_nextOrder_21 rfl (lv_at hl 1 rfl) ?_
    refine z_iconst hx hb dX8_nextOrder_22 ?_
    refine z_iadd hx hb dX8_nextOrder_23 ?_
    have hi_83 : (0 : Int) ≤ (i_4 + 1) ∧ (i_4 + 1) < ((8 : Nat) : Int) := by
      first | assumption | omega | grind
    refine z_iald (n := 8) (f := Morder) hx hb hK hw 6 rfl (by decide) hi_83 dX8_nextOrder_24 ?_
    have hq_84 : 0 ≤ Morder (i_4 + 1) ∧ Morder (i_4 + 1) ≤ 7 := qMorder (i_4 + 1)
    refine z_icmp_le (tgt := 34) hx hb dX8_nextOrder_25 (by decide) (by omega) (fun hc_85 => ?_) (fun hc_85 => ?_)
    · skip
      refine lv_iload_n hx hb dX8_nextOrder_34 rfl (lv_at hl 1 rfl) ?_
      refine z_if_ge (tgt := 40) hx hb dX8_nextOrder_35 (by decide) (by omega) (fun hc_86 => ?_) (fun hc_86 => ?_)
      · skip
        refine lv_aload_n hx hb dX8_nextOrder_40 rfl (lv_at hl 0 rfl) ?_
        refine va_get (D := D) (ci := 8) (v := .int (zI Mmany)) (C := RX8) (T := TX8) (N := 36) hx hb hts hinX8 hown hK hw.1 0 rfl rfl 1 (by decide) (hts (.fieldLink RX8 72 "CarnivalRoadModel" "many" "I") (by decide +kernel)) (fun _ h9 => h9) rfl dX8_nextOrder_41 ?_
        refine z_iconst hx hb dX8_nextOrder_44 ?_
        refine z_isub hx hb dX8_nextOrder_45 ?_
        refine lv_istore_n (lv' := [(2, .int (zI (Mmany - 1))), (0, .ref (oM 0)), (1, .int (zI i_4))]) hx hb dX8_nextOrder_46 rfl hl (by decide) rfl (fun ls hl => ?_)
        have hv_87 : i_4 < (Mmany - 1) ∧ (Mmany - 1) < Mmany := by
          first | assumption | omega | grind
        have hv_88 : ∀ k, (Mmany - 1) < k → k < Mmany → Morder k < Morder i_4 := by
          intro k k0 k1; omega
        refine z_loop (σ := Int) (μ := fun x9 => x9.toNat) (I := fun x9 H locs ls => (i_4 < x9 ∧ x9 < Mmany) ∧ (∀ k, x9 < k → k < Mmany → Morder k < Morder i_4) ∧ HW D A s.heap (kM cI cB cZ oM Mthrown Mmany Mguest Mrow Mbars Mbar Mfresh Mtape Mtaped Mpos Mtoken MtokenAt Mvalue Mwrong MwrongAt MfaultKind MfaultPlace Mthing Morder Mone Mtwo Mbest Mcells Mgap Mwire Mstand Mruns Mminute Mhead Mplays Mrests Mwent Mout Mcame Mgone MlastOut) H locs ∧ lv_has ls 6 [(0, .ref (oM 0)), (1, .int (zI i_4)), (2, .int (zI x9))]) (Mmany - 1) ⟨hv_87, hv_88, hw, lv_sub hl [1, 2, 0] rfl⟩ ?_
        clear hw hl
        intro j_90 H locs ls hI ih_89
        try dsimp only at hI
        obtain ⟨hI_91, hI_92, hw, hl⟩ := hI
        refine lv_aload_n hx hb dX8_nextOrder_47 rfl (lv_at hl 0 rfl) ?_
        refine va_get (D := D) (ci := 8) (v := .ref (oM 6)) (C := RX8) (T := TX8) (N := 36) hx hb hts hinX8 hown hK hw.1 0 rfl rfl 18 (by decide) (hts (.fieldLink RX8 29 "CarnivalRoadModel" "order" "[I") (by decide +kernel)) (fun _ h9 => h9) rfl dX8_nextOrder_48 ?_
        refine lv_iload_n hx hb dX8_nextOrder_51 rfl (lv_at hl 2 rfl) ?_
        have hi_93 : (0 : Int) ≤ j_90 ∧ j_90 < ((8 : Nat) : Int) := by
          first | assumption | omega | grind
        refine z_iald (n := 8) (f := Morder) hx hb hK hw 6 rfl (by decide) hi_93 dX8_nextOrder_52 ?_
        have hq_94 : 0 ≤ Morder j_90 ∧ Morder j_90 ≤ 7 := qMorder j_90
        refine lv_aload_n hx hb dX8_nextOrder_53 rfl (lv_at hl 0 rfl) ?_
        refine va_get (D := D) (ci := 8) (v := .ref (oM 6)) (C := RX8) (T := TX8) (N := 36) hx hb hts hinX8 hown hK hw.1 0 rfl rfl 18 (by decide) (hts (.fieldLink RX8 29 "CarnivalRoadModel" "order" "[I") (by decide +kernel)) (fun _ h9 => h9) rfl dX8_nextOrder_54 ?_
        refine lv_iload_n hx hb dX8_nextOrder_57 rfl (lv_at hl 1 rfl) ?_
        have hi_95 : (0 : Int) ≤ i_4 ∧ i_4 < ((8 : Nat) : Int) := by
          first | assumption | omega | grind
        refine z_iald (n := 8) (f := Morder) hx hb hK hw 6 rfl (by decide) hi_95 dX8_nextOrder_58 ?_
        have hq_96 : 0 ≤ Morder i_4 ∧ Morder i_4 ≤ 7 := qMorder i_4
        refine z_icmp_ge (tgt := 68) hx hb dX8_nextOrder_59 (by decide) (by omega) (fun hc_97 => ?_) (fun hc_97 => ?_)
        · skip
          refine lv_aload_n hx hb dX8_nextOrder_68 rfl (lv_at hl 0 rfl) ?_
          refine va_get (D := D) (ci := 8) (v := .ref (oM 6)) (C := RX8) (T := TX8) (N := 36) hx hb hts hinX8 hown hK hw.1 0 rfl rfl 18 (by decide) (hts (.fieldLink RX8 29 "CarnivalRoadModel" "order" "[I") (by decide +kernel)) (fun _ h9 => h9) rfl dX8_nextOrder_69 ?_
          refine lv_iload_n hx hb dX8_nextOrder_72 rfl (lv_at hl 1 rfl) ?_
          have hi_98 : (0 : Int) ≤ i_4 ∧ i_4 < ((8 : Nat) : Int) := by
            first | assumption | omega | grind
          refine z_iald (n := 8) (f := Morder) hx hb hK hw 6 rfl (by decide) hi_98 dX8_nextOrder_73 ?_
          have hq_99 : 0 ≤ Morder i_4 ∧ Morder i_4 ≤ 7 := qMorder i_4
          refine lv_istore_n (lv' := [(3, .int (zI (Morder i_4))), (0, .ref (oM 0)), (1, .int (zI i_4)), (2, .int (zI j_90))]) hx hb dX8_nextOrder_74 rfl hl (by decide) rfl (fun ls hl => ?_)
          refine lv_aload_n hx hb dX8_nextOrder_75 rfl (lv_at hl 1 rfl) ?_
          refine va_get (D := D) (ci := 8) (v := .ref (oM 6)) (C := RX8) (T := TX8) (N := 36) hx hb hts hinX8 hown hK hw.1 0 rfl rfl 18 (by decide) (hts (.fieldLink RX8 29 "CarnivalRoadModel" "order" "[I") (by decide +kernel)) (fun _ h9 => h9) rfl dX8_nextOrder_76 ?_
          refine lv_iload_n hx hb dX8_nextOrder_79 rfl (lv_at hl 2 rfl) ?_
          refine lv_aload_n hx hb dX8_nextOrder_80 rfl (lv_at hl 1 rfl) ?_
          refine va_get (D := D) (ci := 8) (v := .ref (oM 6)) (C := RX8) (T := TX8) (N := 36) hx hb hts hinX8 hown hK hw.1 0 rfl rfl 18 (by decide) (hts (.fieldLink RX8 29 "CarnivalRoadModel" "order" "[I") (by decide +kernel)) (fun _ h9 => h9) rfl dX8_nextOrder_81 ?_
          refine lv_iload_n hx hb dX8_nextOrder_84 rfl (lv_at hl 3 rfl) ?_
          have hi_100 : (0 : Int) ≤ j_90 ∧ j_90 < ((8 : Nat) : Int) := by
            first | assumption | omega | grind
          refine z_iald (n := 8) (f := Morder) hx hb hK hw 6 rfl (by decide) hi_100 dX8_nextOrder_85 ?_
          have hq_101 : 0 ≤ Morder j_90 ∧ Morder j_90 ≤ 7 := qMorder j_90
          have hi_102 : (0 : Int) ≤ i_4 ∧ i_4 < ((8 : Nat) : Int) := by
            first | assumption | omega | grind
          have hv_103 : (0 : Int) ≤ (Morder j_90) ∧ (Morder j_90) ≤ 7 := by
            first | assumption | omega | grind
          have hR_104 : RA (uZ Morder i_4 (Morder j_90)) (0) 7 := RA_up qMorder hv_103
          refine z_iast (n := 8) (f := Morder) (ws2 := kM cI cB cZ oM Mthrown Mmany Mguest Mrow Mbars Mbar Mfresh Mtape Mtaped Mpos Mtoken MtokenAt Mvalue Mwrong MwrongAt MfaultKind MfaultPlace Mthing (uZ Morder i_4 (Morder j_90)) Mone Mtwo Mbest Mcells Mgap Mwire Mstand Mruns Mminute Mhead Mplays Mrests Mwent Mout Mcame Mgone MlastOut) hx hb hK hw 6 rfl (by decide) hi_102 dX8_nextOrder_86 rfl (fun H locs hw => ?_)
          refine lv_aload_n hx hb dX8_nextOrder_87 rfl (lv_at hl 1 rfl) ?_
          refine va_get (D := D) (ci := 8) (v := .ref (oM 6)) (C := RX8) (T := TX8) (N := 36) hx hb hts hinX8 hown hK hw.1 0 rfl rfl 18 (by decide) (hts (.fieldLink RX8 29 "CarnivalRoadModel" "order" "[I") (by decide +kernel)) (fun _ h9 => h9) rfl dX8_nextOrder_88 ?_
          refine lv_iload_n hx hb dX8_nextOrder_91 rfl (lv_at hl 3 rfl) ?_
          refine lv_iload_n hx hb dX8_nextOrder_92 rfl (lv_at hl 0 rfl) ?_
          have hi_105 : (0 : Int) ≤ j_90 ∧ j_90 < ((8 : Nat) : Int) := by
            first | assumption | omega | grind
          have hv_106 : (0 : Int) ≤ (Morder i_4) ∧ (Morder i_4) ≤ 7 := by
            first | assumption | omega | grind
          have hR_107 : RA (uZ (uZ Morder i_4 (Morder j_90)) j_90 (Morder i_4)) (0) 7 := RA_up hR_104 hv_106
          refine z_iast (n := 8) (f := (uZ Morder i_4 (Morder j_90))) (ws2 := kM cI cB cZ oM Mthrown Mmany Mguest Mrow Mbars Mbar Mfresh Mtape Mtaped Mpos Mtoken MtokenAt Mvalue Mwrong MwrongAt MfaultKind MfaultPlace Mthing (uZ (uZ Morder i_4 (Morder j_90)) j_90 (Morder i_4)) Mone Mtwo Mbest Mcells Mgap Mwire Mstand Mruns Mminute Mhead Mplays Mrests Mwent Mout Mcame Mgone MlastOut) hx hb hK hw 6 rfl (by decide) hi_105 dX8_nextOrder_93 rfl (fun H locs hw => ?_)
          refine lv_iload_n hx hb dX8_nextOrder_94 rfl (lv_at hl 2 rfl) ?_
          refine z_iconst hx hb dX8_nextOrder_95 ?_
          refine z_iadd hx hb dX8_nextOrder_96 ?_
          refine lv_istore (lv' := [(4, .int (zI (i_4 + 1))), (3, .int (zI (Morder i_4))), (0, .ref (oM 0)), (1, .int (zI i_4)), (2, .int (zI j_90))]) hx hb dX8_nextOrder_97 hl (by decide) rfl (fun ls hl => ?_)
          refine lv_aload_n hx hb dX8_nextOrder_99 rfl (lv_at hl 2 rfl) ?_
          refine va_get (D := D) (ci := 8) (v := .int (zI Mmany)) (C := RX8) (T := TX8) (N := 36) hx hb hts hinX8 hown hK hw.1 0 rfl rfl 1 (by decide) (hts (.fieldLink RX8 72 "CarnivalRoadModel" "many" "I") (by decide +kernel)) (fun _ h9 => h9) rfl dX8_nextOrder_100 ?_
          refine z_iconst hx hb dX8_nextOrder_103 ?_
          refine z_isub hx hb dX8_nextOrder_104 ?_
          refine lv_istore (lv' := [(5, .int (zI (Mmany - 1))), (4, .int (zI (i_4 + 1))), (3, .int (zI (Morder i_4))), (0, .ref (oM 0)), (1, .int (zI i_4)), (2, .int (zI j_90))]) hx hb dX8_nextOrder_105 hl (by decide) rfl (fun ls hl => ?_)
          have hv_108 : 0 ≤ i_4 ∧ i_4 < j_90 ∧ j_90 < Mmany := by
            first | assumption | omega | grind
          have hv_109 : ∀ k, i_4 < k → k + 1 < Mmany → Morder (k + 1) < Morder k := by
            intro k k0 k1; exact (by assumption : ∀ k, i_4 < k → 0 ≤ k → k + 1 < Mmany → Morder (k + 1) < Morder k) k k0 (by omega) k1
          have hv_110 : Morder i_4 ≤ Morder (i_4 + 1) := by
            first | assumption | omega | grind
          have hv_111 : Morder i_4 ≤ Morder j_90 := by
            first | assumption | omega | grind
          have hv_112 : ∀ k, j_90 < k → k < Mmany → Morder k < Morder i_4 := by
            first | assumption | omega | grind
          have hv_113 : (i_4 + 1) + (Mmany - 1) = Mmany + i_4 := by
            first | assumption | omega | grind
          have hv_114 : i_4 < (i_4 + 1) ∧ (i_4 + 1) ≤ (Mmany - 1) + 1 ∧ (Mmany - 1) < Mmany := by
            first | assumption | omega | grind
          have hv_115 : ∀ k, (i_4 < k ∧ k < (i_4 + 1)) ∨ ((Mmany - 1) < k ∧ k < Mmany) → (uZ (uZ Morder i_4 (Morder j_90)) j_90 (Morder i_4)) k = uZ (uZ Morder i_4 (Morder j_90)) j_90 (Morder i_4) (Mmany + i_4 - k) := by
            intro k hk; omega
          have hv_116 : ∀ k, k ≤ i_4 ∨ ((i_4 + 1) ≤ k ∧ k ≤ (Mmany - 1)) → (uZ (uZ Morder i_4 (Morder j_90)) j_90 (Morder i_4)) k = uZ (uZ Morder i_4 (Morder j_90)) j_90 (Morder i_4) k := by
            intro k _; rfl
          refine z_loop (σ := Int × Int × (Int → Int) × Int × Int) (μ := fun x9 => ((x9.2.1) + 1 - (x9.1)).toNat) (I := fun x9 H locs ls => (RA (x9.2.2.1) (0) 7) ∧ (0 ≤ x9.2.2.2.1 ∧ x9.2.2.2.1 < x9.2.2.2.2 ∧ x9.2.2.2.2 < Mmany) ∧ (∀ k, x9.2.2.2.1 < k → k + 1 < Mmany → Morder (k + 1) < Morder k) ∧ (Morder x9.2.2.2.1 ≤ Morder (x9.2.2.2.1 + 1)) ∧ (Morder x9.2.2.2.1 ≤ Morder x9.2.2.2.2) ∧ (∀ k, x9.2.2.2.2 < k → k < Mmany → Morder k < Morder x9.2.2.2.1) ∧ ((x9.1) + (x9.2.1) = Mmany + x9.2.2.2.1) ∧ (x9.2.2.2.1 < (x9.1) ∧ (x9.1) ≤ (x9.2.1) + 1 ∧ (x9.2.1) < Mmany) ∧ (∀ k, (x9.2.2.2.1 < k ∧ k < (x9.1)) ∨ ((x9.2.1) < k ∧ k < Mmany) → (x9.2.2.1) k = uZ (uZ Morder x9.2.2.2.1 (Morder x9.2.2.2.2)) x9.2.2.2.2 (Morder x9.2.2.2.1) (Mmany + x9.2.2.2.1 - k)) ∧ (∀ k, k ≤ x9.2.2.2.1 ∨ ((x9.1) ≤ k ∧ k ≤ (x9.2.1)) → (x9.2.2.1) k = uZ (uZ Morder x9.2.2.2.1 (Morder x9.2.2.2.2)) x9.2.2.2.2 (Morder x9.2.2.2.1) k) ∧ HW D A s.heap (kM cI cB cZ oM Mthrown Mmany Mguest Mrow Mbars Mbar Mfresh Mtape Mtaped Mpos Mtoken MtokenAt Mvalue Mwrong MwrongAt MfaultKind MfaultPlace Mthing (x9.2.2.1) Mone Mtwo Mbest Mcells Mgap Mwire Mstand Mruns Mminute Mhead Mplays Mrests Mwent Mout Mcame Mgone MlastOut) H locs ∧ lv_has ls 6 [(0, .ref (oM 0)), (4, .int (zI (x9.1))), (5, .int (zI (x9.2.1)))]) ((i_4 + 1), (Mmany - 1), (uZ (uZ Morder i_4 (Morder j_90)) j_90 (Morder i_4)), i_4, j_90) ⟨hR_107, hv_108, hv_109, hv_110, hv_111, hv_112, hv_113, hv_114, hv_115, hv_116, hw, lv_sub hl [3, 1, 0] rfl⟩ ?_
          clear hw hl
          intro x9 H locs ls hI ih_117
          obtain ⟨a_118, b_119, Morder_120, si_121, sj_122⟩ := x9
          try dsimp only at hI
          obtain ⟨hR_123, hI_124, hI_125, hI_126, hI_127, hI_128, hI_129, hI_130, hI_131, hI_132, hw, hl⟩ := hI
          refine lv_iload hx hb dX8_nextOrder_107 (lv_at hl 1 rfl) ?_
          refine lv_iload hx hb dX8_nextOrder_109 (lv_at hl 2 rfl) ?_
          refine z_icmp_ge (tgt := 153) hx hb dX8_nextOrder_111 (by decide) (by omega) (fun hc_133 => ?_) (fun hc_133 => ?_)
          · skip
            refine z_iconst hx hb dX8_nextOrder_153 ?_
            have hv_134 : ((1 : Int) = 0 ∧ Morder_120 = Morder ∧ ∀ k, -1 < k → k + 1 < Mmany → Morder (k + 1) < Morder k) ∨ ((1 : Int) = 1 ∧ ∃ i j, nextP Mmany Morder Morder_120 i j) := by
              exact Or.inr ⟨rfl, si_121, sj_122, next_end (by assumption) (by assumption) (by assumption) (by assumption) (by assumption) (by assumption) (by omega) (by omega) (by assumption) (by assumption)⟩
            exact W.zret (v := zI 1) hx hb hr rfl (fun t9 ht hW => ⟨⟨zI 1, (1, Morder_120), rfl, ⟨rfl, ⟨hR_123, hv_134⟩⟩, by subst hAe; exact z_end hK hw ht hW⟩, by subst hAe; exact hw.2.2.F ht⟩) (by subst hAe; exact hw.2.2.2.2) dX8_nextOrder_154
          · skip
            refine lv_aload_n hx hb dX8_nextOrder_114 rfl (lv_at hl 0 rfl) ?_
            refine va_get (D := D) (ci := 8) (v := .ref (oM 6)) (C := RX8) (T := TX8) (N := 36) hx hb hts hinX8 hown hK hw.1 0 rfl rfl 18 (by decide) (hts (.fieldLink RX8 29 "CarnivalRoadModel" "order" "[I") (by decide +kernel)) (fun _ h9 => h9) rfl dX8_nextOrder_115 ?_
            refine lv_iload hx hb dX8_nextOrder_118 (lv_at hl 1 rfl) ?_
            have hi_135 : (0 : Int) ≤ a_118 ∧ a_118 < ((8 : Nat) : Int) := by
              first | assumption | omega | grind
            refine z_iald (n := 8) (f := Morder_120) hx hb hK hw 6 rfl (by decide) hi_135 dX8_nextOrder_120 ?_
            have hq_136 : 0 ≤ Morder_120 a_118 ∧ Morder_120 a_118 ≤ 7 := hR_123 a_118
            refine lv_istore_n (lv' := [(3, .int (zI (Morder_120 a_118))), (0, .ref (oM 0)), (4, .int (zI a_118)), (5, .int (zI b_119))]) hx hb dX8_nextOrder_121 rfl hl (by decide) rfl (fun ls hl => ?_)
            refine lv_aload_n hx hb dX8_nextOrder_122 rfl (lv_at hl 1 rfl) ?_
            refine va_get (D := D) (ci := 8) (v := .ref (oM 6)) (C := RX8) (T := TX8) (N := 36) hx hb hts hinX8 hown hK hw.1 0 rfl rfl 18 (by decide) (hts (.fieldLink RX8 29 "CarnivalRoadModel" "order" "[I") (by decide +kernel)) (fun _ h9 => h9) rfl dX8_nextOrder_123 ?_
            refine lv_iload hx hb dX8_nextOrder_126 (lv_at hl 2 rfl) ?_
            refine lv_aload_n hx hb dX8_nextOrder_128 rfl (lv_at hl 1 rfl) ?_
            refine va_get (D := D) (ci := 8) (v := .ref (oM 6)) (C := RX8) (T := TX8) (N := 36) hx hb hts hinX8 hown hK hw.1 0 rfl rfl 18 (by decide) (hts (.fieldLink RX8 29 "CarnivalRoadModel" "order" "[I") (by decide +kernel)) (fun _ h9 => h9) rfl dX8_nextOrder_129 ?_
            refine lv_iload hx hb dX8_nextOrder_132 (lv_at hl 3 rfl) ?_
            have hi_137 : (0 : Int) ≤ b_119 ∧ b_119 < ((8 : Nat) : Int) := by
              first | assumption | omega | grind
            refine z_iald (n := 8) (f := Morder_120) hx hb hK hw 6 rfl (by decide) hi_137 dX8_nextOrder_134 ?_
            have hq_138 : 0 ≤ Morder_120 b_119 ∧ Morder_120 b_119 ≤ 7 := hR_123 b_119
            have hi_139 : (0 : Int) ≤ a_118 ∧ a_118 < ((8 : Nat) : Int) := by
              first | assumption | omega | grind
            have hv_140 : (0 : Int) ≤ (Morder_120 b_119) ∧ (Morder_120 b_119) ≤ 7 := by
              first | assumption | omega | grind
            have hR_141 : RA (uZ Morder_120 a_118 (Morder_120 b_119)) (0) 7 := RA_up hR_123 hv_140
            refine z_iast (n := 8) (f := Morder_120) (ws2 := kM cI cB cZ oM Mthrown Mmany Mguest Mrow Mbars Mbar Mfresh Mtape Mtaped Mpos Mtoken MtokenAt Mvalue Mwrong MwrongAt MfaultKind MfaultPlace Mthing (uZ Morder_120 a_118 (Morder_120 b_119)) Mone Mtwo Mbest Mcells Mgap Mwire Mstand Mruns Mminute Mhead Mplays Mrests Mwent Mout Mcame Mgone MlastOut) hx hb hK hw 6 rfl (by decide) hi_139 dX8_nextOrder_135 rfl (fun H locs hw => ?_)
            refine lv_aload_n hx hb dX8_nextOrder_136 rfl (lv_at hl 1 rfl) ?_
            refine va_get (D := D) (ci := 8) (v := .ref (oM 6)) (C := RX8) (T := TX8) (N := 36) hx hb hts hinX8 hown hK hw.1 0 rfl rfl 18 (by decide) (hts (.fieldLink RX8 29 "CarnivalRoadModel" "order" "[I") (by decide +kernel)) (fun _ h9 => h9) rfl dX8_nextOrder_137 ?_
            refine lv_iload hx hb dX8_nextOrder_140 (lv_at hl 3 rfl) ?_
            refine lv_iload_n hx hb dX8_nextOrder_142 rfl (lv_at hl 0 rfl) ?_
            have hi_142 : (0 : Int) ≤ b_119 ∧ b_119 < ((8 : Nat) : Int) := by
              first | assumption | omega | grind
            have hv_143 : (0 : Int) ≤ (Morder_120 a_118) ∧ (Morder_120 a_118) ≤ 7 := by
              first | assumption | omega | grind
            have hR_144 : RA (uZ (uZ Morder_120 a_118 (Morder_120 b_119)) b_119 (Morder_120 a_118)) (0) 7 := RA_up hR_141 hv_143
            refine z_iast (n := 8) (f := (uZ Morder_120 a_118 (Morder_120 b_119))) (ws2 := kM cI cB cZ oM Mthrown Mmany Mguest Mrow Mbars Mbar Mfresh Mtape Mtaped Mpos Mtoken MtokenAt Mvalue Mwrong MwrongAt MfaultKind MfaultPlace Mthing (uZ (uZ Morder_120 a_118 (Morder_120 b_119)) b_119 (Morder_120 a_118)) Mone Mtwo Mbest Mcells Mgap Mwire Mstand Mruns Mminute Mhead Mplays Mrests Mwent Mout Mcame Mgone MlastOut) hx hb hK hw 6 rfl (by decide) hi_142 dX8_nextOrder_143 rfl (fun H locs hw => ?_)
            refine z_iinc (k := 2) (lv' := [(4, .int (zI (a_118 + 1))), (3, .int (zI (Morder_120 a_118))), (0, .ref (oM 0)), (5, .int (zI b_119))]) hx hb dX8_nextOrder_144 hl rfl (by decide) rfl (fun ls hl => ?_)
            refine z_iinc (k := 3) (lv' := [(5, .int (zI (b_119 + (-1)))), (4, .int (zI (a_118 + 1))), (3, .int (zI (Morder_120 a_118))), (0, .ref (oM 0))]) hx hb dX8_nextOrder_147 hl rfl (by decide) rfl (fun ls hl => ?_)
            refine lv_goto (tgt := 107) hx hb dX8_nextOrder_150 (by decide) ?_
            have hv_145 : 0 ≤ si_121 ∧ si_121 < sj_122 ∧ sj_122 < Mmany := by
              first | assumption | omega | grind
            have hv_146 : ∀ k, si_121 < k → k + 1 < Mmany → Morder (k + 1) < Morder k := by
              first | assumption | omega | grind
            have hv_147 : Morder si_121 ≤ Morder (si_121 + 1) := by
              first | assumption | omega | grind
            have hv_148 : Morder si_121 ≤ Morder sj_122 := by
              first | assumption | omega | grind
            have hv_149 : ∀ k, sj_122 < k → k < Mmany → Morder k < Morder si_121 := by
              first | assumption | omega | grind
            have hv_150 : (a_118 + 1) + (b_119 + (-1)) = Mmany + si_121 := by
              first | assumption | omega | grind
            have hv_151 : si_121 < (a_118 + 1) ∧ (a_118 + 1) ≤ (b_119 + (-1)) + 1 ∧ (b_119 + (-1)) < Mmany := by
              first | assumption | omega | grind
            have hv_152 : ∀ k, (si_121 < k ∧ k < (a_118 + 1)) ∨ ((b_119 + (-1)) < k ∧ k < Mmany) → (uZ (uZ Morder_120 a_118 (Morder_120 b_119)) b_119 (Morder_120 a_118)) k = uZ (uZ Morder si_121 (Morder sj_122)) sj_122 (Morder si_121) (Mmany + si_121 - k) := by
              exact (next_swap (by assumption) (by omega) rfl (by assumption) (by assumption)).1
            have hv_153 : ∀ k, k ≤ si_121 ∨ ((a_118 + 1) ≤ k ∧ k ≤ (b_119 + (-1))) → (uZ (uZ Morder_120 a_118 (Morder_120 b_119)) b_119 (Morder_120 a_118)) k = uZ (uZ Morder si_121 (Morder sj_122)) sj_122 (Morder si_121) k := by
              exact (next_swap (by assumption) (by omega) rfl (by assumption) (by assumption)).2
            have hm_154 : ((b_119 + (-1)) + 1 - (a_118 + 1)).toNat < (b_119 + 1 - a_118).toNat := by
              first | assumption | omega | grind
            exact ih_117 ((a_118 + 1), (b_119 + (-1)), (uZ (uZ Morder_120 a_118 (Morder_120 b_119)) b_119 (Morder_120 a_118)), si_121, sj_122) _ _ _ ⟨hR_144, hv_145, hv_146, hv_147, hv_148, hv_149, hv_150, hv_151, hv_152, hv_153, hw, lv_sub hl [3, 1, 0] rfl⟩ hm_154
        · skip
          refine z_iinc (k := 2) (lv' := [(2, .int (zI (j_90 + (-1)))), (0, .ref (oM 0)), (1, .int (zI i_4))]) hx hb dX8_nextOrder_62 hl rfl (by decide) rfl (fun ls hl => ?_)
          refine lv_goto (tgt := 47) hx hb dX8_nextOrder_65 (by decide) ?_
          have hv_155 : i_4 < (j_90 + (-1)) ∧ (j_90 + (-1)) < Mmany := by
            by_cases q : j_90 = i_4 + 1
            · exfalso
              subst q
              omega
            · omega
          have hv_156 : ∀ k, (j_90 + (-1)) < k → k < Mmany → Morder k < Morder i_4 := by
            intro k k0 k1
            by_cases q : k = j_90
            · rw [q]; assumption
            · exact (by assumption : ∀ k, j_90 < k → k < Mmany → Morder k < Morder i_4) k (by omega) k1
          have hm_157 : (j_90 + (-1)).toNat < j_90.toNat := by
            first | assumption | omega | grind
          exact ih_89 (j_90 + (-1)) _ _ _ ⟨hv_155, hv_156, hw, lv_sub hl [1, 2, 0] rfl⟩ hm_157
      · skip
        refine z_iconst hx hb dX8_nextOrder_38 ?_
        have hv_158 : ((0 : Int) = 0 ∧ Morder = Morder ∧ ∀ k, -1 < k → k + 1 < Mmany → Morder (k + 1) < Morder k) ∨ ((0 : Int) = 1 ∧ ∃ i j, nextP Mmany Morder Morder i j) := by
          exact Or.inl ⟨rfl, rfl, fun k k0 k1 => (by assumption : ∀ k, i_4 < k → 0 ≤ k → k + 1 < Mmany → Morder (k + 1) < Morder k) k (by omega) (by omega) k1⟩
        exact W.zret (v := zI 0) hx hb hr rfl (fun t9 ht hW => ⟨⟨zI 0, (0, Morder), rfl, ⟨rfl, ⟨qMorder, hv_158⟩⟩, by subst hAe; exact z_end hK hw ht hW⟩, by subst hAe; exact hw.2.2.F ht⟩) (by subst hAe; exact hw.2.2.2.2) dX8_nextOrder_39
    · skip
      refine z_iinc (k := 1) (lv' := [(1, .int (zI (i_4 + (-1)))), (0, .ref (oM 0))]) hx hb dX8_nextOrder_28 hl rfl (by decide) rfl (fun ls hl => ?_)
      refine lv_goto (tgt := 7) hx hb dX8_nextOrder_31 (by decide) ?_
      have hv_159 : -1 ≤ (i_4 + (-1)) ∧ (i_4 + (-1)) ≤ Mmany - 2 ∨ ((i_4 + (-1)) < 0 ∧ -2 ≤ (i_4 + (-1)) ∧ Mmany < 2) := by
        first | assumption | omega | grind
      have hv_160 : ∀ k, (i_4 + (-1)) < k → 0 ≤ k → k + 1 < Mmany → Morder (k + 1) < Morder k := by
        intro k k0 k1 k2
        by_cases q : k = i_4
        · rw [q]; omega
        · exact (by assumption : ∀ k, i_4 < k → 0 ≤ k → k + 1 < Mmany → Morder (k + 1) < Morder k) k (by omega) k1 k2
      have hm_161 : ((i_4 + (-1)) + 3).toNat < (i_4 + 3).toNat := by
        first | assumption | omega | grind
      exact ih_3 (i_4 + (-1)) _ _ _ ⟨hv_159, hv_160, hw, lv_sub hl [1, 0] rfl⟩ hm_161
set_option maxRecDepth 100000 in
set_option maxHeartbeats 4000000 in
theorem c_X8_broken (l : Launch) (D : va_G) (cI cB cZ : ClassId) (oM : Nat → Nat) (sz : Nat) (Mthrown : Int) (Mmany : Int) (Mguest : Int → Int) (Mrow : Int → Int) (Mbars : Int) (Mbar : Int → Int) (Mfresh : Int → Int) (Mtape : Int → Int) (Mtaped : Int) (Mpos : Int) (Mtoken : Int) (MtokenAt : Int) (Mvalue : Int) (Mwrong : Int) (MwrongAt : Int) (MfaultKind : Int) (MfaultPlace : Int) (Mthing : Int) (Morder : Int → Int) (Mone : Int) (Mtwo : Int) (Mbest : Int → Int) (Mcells : Int) (Mgap : Int) (Mwire : Int → Int) (Mstand : Int → Int) (Mruns : Int) (Mminute : Int) (Mhead : Int → Int) (Mplays : Int → Int) (Mrests : Int → Int) (Mwent : Int → Int) (Mout : Int → Int) (Mcame : Int → Int) (Mgone : Int → Int) (MlastOut : Int) (ki : Int → Int) (le : Int → Int) (lo : Int → Int) (ta : Int → Int) (sh : Int → Int) (wo : Int → Int) (on : Int → Int) (tw : Int → Int) (nu : Int → Int) (qMthrown : 0 ≤ Mthrown ∧ Mthrown ≤ 2) (qMmany : 0 ≤ Mmany ∧ Mmany ≤ 8) (qMguest : RA Mguest (0) 9) (qMrow : RA Mrow (0) 7) (qMbars : 0 ≤ Mbars ∧ Mbars ≤ 10) (qMbar : RA Mbar (0) 104) (qMfresh : RA Mfresh (0) 104) (qMtape : RA Mtape (0) 255) (qMtaped : 0 ≤ Mtaped ∧ Mtaped ≤ 400) (qMpos : 0 ≤ Mpos ∧ Mpos ≤ 400) (qMtoken : 0 ≤ Mtoken ∧ Mtoken ≤ 15) (qMtokenAt : 0 ≤ MtokenAt ∧ MtokenAt ≤ 400) (qMvalue : 0 ≤ Mvalue ∧ Mvalue ≤ 99) (qMwrong : 0 ≤ Mwrong ∧ Mwrong ≤ 3) (qMwrongAt : 0 ≤ MwrongAt ∧ MwrongAt ≤ 400) (qMfaultKind : 0 ≤ MfaultKind ∧ MfaultKind ≤ 3) (qMfaultPlace : -1 ≤ MfaultPlace ∧ MfaultPlace ≤ 400) (qMthing : 0 ≤ Mthing ∧ Mthing ≤ 104) (qMorder : RA Morder (0) 7) (qMone : 0 ≤ Mone ∧ Mone ≤ 8) (qMtwo : 0 ≤ Mtwo ∧ Mtwo ≤ 8) (qMbest : RA Mbest (0) 7) (qMcells : 1 ≤ Mcells ∧ Mcells ≤ 50) (qMgap : 0 ≤ Mgap ∧ Mgap ≤ 3) (qMwire : RA Mwire (0) 9) (qMstand : RA Mstand (0) 9) (qMruns : 0 ≤ Mruns ∧ Mruns ≤ 1) (qMminute : 0 ≤ Mminute ∧ Mminute ≤ 1000000) (qMhead : RA Mhead (-1) 60) (qMplays : RA Mplays (0) 18) (qMrests : RA Mrests (0) 3) (qMwent : RA Mwent (0) 61) (qMout : RA Mout (0) 1) (qMcame : RA Mcame (-1) 1000000) (qMgone : RA Mgone (-1) 1000000) (qMlastOut : 0 ≤ MlastOut ∧ MlastOut ≤ 1000000) (hp0 : gRel Mmany ki le lo ta sh Mguest) (hp1 : bRel Mbars wo on tw nu Mbar) (hp2 : ∀ i, 0 ≤ i → i < Mmany → 0 ≤ Morder i ∧ Morder i < Mmany) : Met l yX8_broken wsX8_broken ({ frames := 3, cells := 0, slots := 0, locals := 72 }) (va_Pc [.ref (oM 0)] (zPre D cI cB cZ sz (kM cI cB cZ oM Mthrown Mmany Mguest Mrow Mbars Mbar Mfresh Mtape Mtaped Mpos Mtoken MtokenAt Mvalue Mwrong MwrongAt MfaultKind MfaultPlace Mthing Morder Mone Mtwo Mbest Mcells Mgap Mwire Mstand Mruns Mminute Mhead Mplays Mrests Mwent Mout Mcame Mgone MlastOut))) (va_Qi (fun (r9 : Int32) (u9 : Int × Int × Int) => r9 = zI u9.1 ∧ (((0 : Int) ≤ u9.2.1 ∧ u9.2.1 ≤ 8) ∧ ((0 : Int) ≤ u9.2.2 ∧ u9.2.2 ≤ 8) ∧ (-1 ≤ u9.1 ∧ u9.1 ≤ 10) ∧ (∃ x y, whyP ki lo sh wo on tw nu Morder Mmany Mbars u9.1 x y ∧ (¬ u9.1 = -1 → x = u9.2.1 ∧ y = u9.2.2)))) (fun u9 t9 => zAt D cI cB cZ (va_A (kM cI cB cZ oM Mthrown Mmany Mguest Mrow Mbars Mbar Mfresh Mtape Mtaped Mpos Mtoken MtokenAt Mvalue Mwrong MwrongAt MfaultKind MfaultPlace Mthing Morder Mone Mtwo Mbest Mcells Mgap Mwire Mstand Mruns Mminute Mhead Mplays Mrests Mwent Mout Mcame Mgone MlastOut) sz) (kM cI cB cZ oM Mthrown Mmany Mguest Mrow Mbars Mbar Mfresh Mtape Mtaped Mpos Mtoken MtokenAt Mvalue Mwrong MwrongAt MfaultKind MfaultPlace Mthing Morder (u9.2.1) (u9.2.2) Mbest Mcells Mgap Mwire Mstand Mruns Mminute Mhead Mplays Mrests Mwent Mout Mcame Mgone MlastOut) t9) (va_A (kM cI cB cZ oM Mthrown Mmany Mguest Mrow Mbars Mbar Mfresh Mtape Mtaped Mpos Mtoken MtokenAt Mvalue Mwrong MwrongAt MfaultKind MfaultPlace Mthing Morder Mone Mtwo Mbest Mcells Mgap Mwire Mstand Mruns Mminute Mhead Mplays Mrests Mwent Mout Mcame Mgone MlastOut) sz)) 0 0 (va_A (kM cI cB cZ oM Mthrown Mmany Mguest Mrow Mbars Mbar Mfresh Mtape Mtaped Mpos Mtoken MtokenAt Mvalue Mwrong MwrongAt MfaultKind MfaultPlace Mthing Morder Mone Mtwo Mbest Mcells Mgap Mwire Mstand Mruns Mminute Mhead Mplays Mrests Mwent Mout Mcame Mgone MlastOut) sz) := by
  refine Met.ofW (cc := cX8_broken) (maxL := 3) (ret := (some .int)) (by decide) rfl ?_
  intro pp ee s mm aa bw mt cd s₁ BL hml hv
  obtain ⟨rfl, hsz, hP, hK, hD0⟩ := hv
  have hx := BL.exec
  have hb := BL.bytes
  have hr := BL.returns
  have hts := atoms_spec (ws := wsX8_broken) BL.pre
  have hown : s.vm.findClass RX8 = some mm.cls := findClass_of_methodNamed BL.named
  have hlocks := BL.notSynchronized
  subst hsz
  generalize hAe : va_A (kM cI cB cZ oM Mthrown Mmany Mguest Mrow Mbars Mbar Mfresh Mtape Mtaped Mpos Mtoken MtokenAt Mvalue Mwrong MwrongAt MfaultKind MfaultPlace Mthing Morder Mone Mtwo Mbest Mcells Mgap Mwire Mstand Mruns Mminute Mhead Mplays Mrests Mwent Mout Mcame Mgone MlastOut) s.heap.size = A
  have hA : ∀ q : Nat, s.heap.size ≤ q → A q := fun q h => by rw [← hAe]; exact Or.inr h
  have hw : HW D A s.heap (kM cI cB cZ oM Mthrown Mmany Mguest Mrow Mbars Mbar Mfresh Mtape Mtaped Mpos Mtoken MtokenAt Mvalue Mwrong MwrongAt MfaultKind MfaultPlace Mthing Morder Mone Mtwo Mbest Mcells Mgap Mwire Mstand Mruns Mminute Mhead Mplays Mrests Mwent Mout Mcame Mgone MlastOut) s.heap [] := z_start hAe hP hD0
  clear hP hD0
  have hl := lv_entry ([.ref (oM 0)]) (n := 3) (Nat.le_of_ble_eq_true rfl)
  rw [lg_entry_eq]
  generalize (lg_sl ([.ref (oM 0)]) ++ List.replicate (3 - (lg_sl ([.ref (oM 0)])).length) Slot.unset).toArray = ls at hl ⊢
  have hl : lv_has ls 3 [(0, .ref (oM 0))] := hl
  have hinX8 : ∀ w ∈ wsX80, w ∈ wsX8_broken := by decide +kernel
  refine z_iconst hx hb dX8_broken_0 ?_
  refine lv_istore_n (lv' := [(1, .int (zI 0)), (0, .ref (oM 0))]) hx hb dX8_broken_1 rfl hl (by decide) rfl (fun ls hl => ?_)
  have hv_1 : (0 : Int) ≤ Mone ∧ Mone ≤ 8 := by
    first | assumption | omega | grind
  have hv_2 : (0 : Int) ≤ Mtwo ∧ Mtwo ≤ 8 := by
    first | assumption | omega | grind
  have hv_3 : 0 ≤ (0 : Int) ∧ (0 : Int) ≤ Mbars := by
    first | assumption | omega | grind
  have hv_4 : ∀ a, 0 ≤ a → a < (0 : Int) → okP ki lo sh wo on tw nu Morder Mmany a := by
    exact all_0
  refine z_loop (σ := Int × Int × Int) (μ := fun x9 => (11 - (x9.1)).toNat) (I := fun x9 H locs ls => ((0 : Int) ≤ (x9.2.1) ∧ (x9.2.1) ≤ 8) ∧ ((0 : Int) ≤ (x9.2.2) ∧ (x9.2.2) ≤ 8) ∧ (0 ≤ (x9.1) ∧ (x9.1) ≤ Mbars) ∧ (∀ a, 0 ≤ a → a < (x9.1) → okP ki lo sh wo on tw nu Morder Mmany a) ∧ HW D A s.heap (kM cI cB cZ oM Mthrown Mmany Mguest Mrow Mbars Mbar Mfresh Mtape Mtaped Mpos Mtoken MtokenAt Mvalue Mwrong MwrongAt MfaultKind MfaultPlace Mthing Morder (x9.2.1) (x9.2.2) Mbest Mcells Mgap Mwire Mstand Mruns Mminute Mhead Mplays Mrests Mwent Mout Mcame Mgone MlastOut) H locs ∧ lv_has ls 3 [(0, .ref (oM 0)), (1, .int (zI (x9.1)))]) (0, Mone, Mtwo) ⟨hv_1, hv_2, hv_3, hv_4, hw, lv_sub hl [1, 0] rfl⟩ ?_
  clear hw hl
  intro x9 H locs ls hI ih_5
  obtain ⟨k_6, Mone_7, Mtwo_8⟩ := x9
  try dsimp only at hI
  obtain ⟨hq_9, hq_10, hI_11, hI_12, hw, hl⟩ := hI
  refine lv_iload_n hx hb dX8_broken_2 rfl (lv_at hl 1 rfl) ?_
  refine lv_aload_n hx hb dX8_broken_3 rfl (lv_at hl 0 rfl) ?_
  refine va_get (D := D) (ci := 8) (v := .int (zI Mbars)) (C := RX8) (T := TX8) (N := 36) hx hb hts hinX8 hown hK hw.1 0 rfl rfl 4 (by decide) (hts (.fieldLink RX8 162 "CarnivalRoadModel" "bars" "I") (by decide +kernel)) (fun _ h9 => h9) rfl dX8_broken_4 ?_
  refine z_icmp_ge (tgt := 185) hx hb dX8_broken_7 (by decide) (by omega) (fun hc_13 => ?_) (fun hc_13 => ?_)
  · skip
    refine lv_aload_n hx hb dX8_broken_185 rfl (lv_at hl 0 rfl) ?_
    refine z_iconst hx hb dX8_broken_186 ?_
    refine z_put (D := D) (ci := 8) (v := .int (zI 0)) (ty := .int) (C := RX8) (T := TX8) (N := 36) (ws2 := kM cI cB cZ oM Mthrown Mmany Mguest Mrow Mbars Mbar Mfresh Mtape Mtaped Mpos Mtoken MtokenAt Mvalue Mwrong MwrongAt MfaultKind MfaultPlace Mthing Morder 0 Mtwo_8 Mbest Mcells Mgap Mwire Mstand Mruns Mminute Mhead Mplays Mrests Mwent Mout Mcame Mgone MlastOut) hx hb hts hinX8 tyX8 tyX8_ok nmX8 hown hK hw 0 rfl rfl 19 (by decide) (hts (.fieldLink RX8 168 "CarnivalRoadModel" "one" "I") (by decide +kernel)) (fun _ h9 => h9) rfl (by decide +kernel) rfl rfl (Nat.le_of_ble_eq_true rfl) dX8_broken_187 rfl (fun H locs hw => ?_)
    have hv_14 : (0 : Int) ≤ (0 : Int) ∧ (0 : Int) ≤ 8 := by
      first | assumption | omega | grind
    have hv_15 : (0 : Int) ≤ Mtwo_8 ∧ Mtwo_8 ≤ 8 := by
      first | assumption | omega | grind
    have hv_16 : 0 ≤ (0 : Int) ∧ (0 : Int) ≤ Mmany := by
      first | assumption | omega | grind
    have hv_17 : ∀ a, 0 ≤ a → a < (0 : Int) → ∀ b, a < b → b < Mmany → ¬ brk ki lo sh wo on tw nu Morder 10 a b := by
      intro a h0 h1; omega
    refine z_loop (σ := Int × Int) (μ := fun x9 => (9 - (x9.1)).toNat) (I := fun x9 H locs ls => ((0 : Int) ≤ (x9.1) ∧ (x9.1) ≤ 8) ∧ ((0 : Int) ≤ (x9.2) ∧ (x9.2) ≤ 8) ∧ (0 ≤ (x9.1) ∧ (x9.1) ≤ Mmany) ∧ (∀ a, 0 ≤ a → a < (x9.1) → ∀ b, a < b → b < Mmany → ¬ brk ki lo sh wo on tw nu Morder 10 a b) ∧ HW D A s.heap (kM cI cB cZ oM Mthrown Mmany Mguest Mrow Mbars Mbar Mfresh Mtape Mtaped Mpos Mtoken MtokenAt Mvalue Mwrong MwrongAt MfaultKind MfaultPlace Mthing Morder (x9.1) (x9.2) Mbest Mcells Mgap Mwire Mstand Mruns Mminute Mhead Mplays Mrests Mwent Mout Mcame Mgone MlastOut) H locs ∧ lv_has ls 3 [(0, .ref (oM 0))]) (0, Mtwo_8) ⟨hv_14, hv_15, hv_16, hv_17, hw, lv_sub hl [0] rfl⟩ ?_
    clear hw hl
    intro x9 H locs ls hI ih_18
    obtain ⟨Mone_19, Mtwo_20⟩ := x9
    try dsimp only at hI
    obtain ⟨hq_21, hq_22, hI_23, hI_24, hw, hl⟩ := hI
    refine lv_aload_n hx hb dX8_broken_190 rfl (lv_at hl 0 rfl) ?_
    refine va_get (D := D) (ci := 8) (v := .int (zI Mone_19)) (C := RX8) (T := TX8) (N := 36) hx hb hts hinX8 hown hK hw.1 0 rfl rfl 19 (by decide) (hts (.fieldLink RX8 168 "CarnivalRoadModel" "one" "I") (by decide +kernel)) (fun _ h9 => h9) rfl dX8_broken_191 ?_
    refine lv_aload_n hx hb dX8_broken_194 rfl (lv_at hl 0 rfl) ?_
    refine va_get (D := D) (ci := 8) (v := .int (zI Mmany)) (C := RX8) (T := TX8) (N := 36) hx hb hts hinX8 hown hK hw.1 0 rfl rfl 1 (by decide) (hts (.fieldLink RX8 72 "CarnivalRoadModel" "many" "I") (by decide +kernel)) (fun _ h9 => h9) rfl dX8_broken_195 ?_
    refine z_icmp_ge (tgt := 314) hx hb dX8_broken_198 (by decide) (by omega) (fun hc_25 => ?_) (fun hc_25 => ?_)
    · skip
      refine z_iconst hx hb dX8_broken_314 ?_
      have hv_26 : (0 : Int) ≤ Mone_19 ∧ Mone_19 ≤ 8 := by
        first | assumption | omega | grind
      have hv_27 : (0 : Int) ≤ Mtwo_20 ∧ Mtwo_20 ≤ 8 := by
        first | assumption | omega | grind
      have hv_28 : -1 ≤ ((-1) : Int) ∧ ((-1) : Int) ≤ 10 := by
        first | assumption | omega | grind
      have hv_29 : ∃ x y, whyP ki lo sh wo on tw nu Morder Mmany Mbars ((-1) : Int) x y ∧ (¬ ((-1) : Int) = -1 → x = Mone_19 ∧ y = Mtwo_20) := by
        exact why_none hp1 (by assumption) (by omega) (by assumption) (by omega)
      exact W.iret (v := zI (-1)) hx hb hr (fun t9 ht hW => ⟨⟨zI (-1), ((-1), Mone_19, Mtwo_20), rfl, ⟨rfl, ⟨hv_26, hv_27, hv_28, hv_29⟩⟩, by subst hAe; exact z_end hK hw ht hW⟩, by subst hAe; exact hw.2.2.F ht⟩) (by subst hAe; exact hw.2.2.2.2) dX8_broken_315
    · skip
      refine lv_aload_n hx hb dX8_broken_201 rfl (lv_at hl 0 rfl) ?_
      refine lv_aload_n hx hb dX8_broken_202 rfl (lv_at hl 0 rfl) ?_
      refine va_get (D := D) (ci := 8) (v := .int (zI Mone_19)) (C := RX8) (T := TX8) (N := 36) hx hb hts hinX8 hown hK hw.1 0 rfl rfl 19 (by decide) (hts (.fieldLink RX8 168 "CarnivalRoadModel" "one" "I") (by decide +kernel)) (fun _ h9 => h9) rfl dX8_broken_203 ?_
      refine z_iconst hx hb dX8_broken_206 ?_
      refine z_iadd hx hb dX8_broken_207 ?_
      refine z_put (D := D) (ci := 8) (v := .int (zI (Mone_19 + 1))) (ty := .int) (C := RX8) (T := TX8) (N := 36) (ws2 := kM cI cB cZ oM Mthrown Mmany Mguest Mrow Mbars Mbar Mfresh Mtape Mtaped Mpos Mtoken MtokenAt Mvalue Mwrong MwrongAt MfaultKind MfaultPlace Mthing Morder Mone_19 (Mone_19 + 1) Mbest Mcells Mgap Mwire Mstand Mruns Mminute Mhead Mplays Mrests Mwent Mout Mcame Mgone MlastOut) hx hb hts hinX8 tyX8 tyX8_ok nmX8 hown hK hw 0 rfl rfl 20 (by decide) (hts (.fieldLink RX8 171 "CarnivalRoadModel" "two" "I") (by decide +kernel)) (fun _ h9 => h9) rfl (by decide +kernel) rfl rfl (Nat.le_of_ble_eq_true rfl) dX8_broken_208 rfl (fun H locs hw => ?_)
      have hv_30 : (0 : Int) ≤ (Mone_19 + 1) ∧ (Mone_19 + 1) ≤ 8 := by
        first | assumption | omega | grind
      have hv_31 : Mone_19 < (Mone_19 + 1) ∧ (Mone_19 + 1) ≤ Mmany := by
        first | assumption | omega | grind
      have hv_32 : ∀ b, Mone_19 < b → b < (Mone_19 + 1) → ¬ brk ki lo sh wo on tw nu Morder 10 Mone_19 b := by
        intro b h0 h1; omega
      refine z_loop (σ := Int) (μ := fun x9 => (9 - x9).toNat) (I := fun x9 H locs ls => ((0 : Int) ≤ x9 ∧ x9 ≤ 8) ∧ (Mone_19 < x9 ∧ x9 ≤ Mmany) ∧ (∀ b, Mone_19 < b → b < x9 → ¬ brk ki lo sh wo on tw nu Morder 10 Mone_19 b) ∧ HW D A s.heap (kM cI cB cZ oM Mthrown Mmany Mguest Mrow Mbars Mbar Mfresh Mtape Mtaped Mpos Mtoken MtokenAt Mvalue Mwrong MwrongAt MfaultKind MfaultPlace Mthing Morder Mone_19 x9 Mbest Mcells Mgap Mwire Mstand Mruns Mminute Mhead Mplays Mrests Mwent Mout Mcame Mgone MlastOut) H locs ∧ lv_has ls 3 [(0, .ref (oM 0))]) (Mone_19 + 1) ⟨hv_30, hv_31, hv_32, hw, lv_sub hl [0] rfl⟩ ?_
      clear hw hl
      intro Mtwo_34 H locs ls hI ih_33
      try dsimp only at hI
      obtain ⟨hq_35, hI_36, hI_37, hw, hl⟩ := hI
      refine lv_aload_n hx hb dX8_broken_211 rfl (lv_at hl 0 rfl) ?_
      refine va_get (D := D) (ci := 8) (v := .int (zI Mtwo_34)) (C := RX8) (T := TX8) (N := 36) hx hb hts hinX8 hown hK hw.1 0 rfl rfl 20 (by decide) (hts (.fieldLink RX8 171 "CarnivalRoadModel" "two" "I") (by decide +kernel)) (fun _ h9 => h9) rfl dX8_broken_212 ?_
      refine lv_aload_n hx hb dX8_broken_215 rfl (lv_at hl 0 rfl) ?_
      refine va_get (D := D) (ci := 8) (v := .int (zI Mmany)) (C := RX8) (T := TX8) (N := 36) hx hb hts hinX8 hown hK hw.1 0 rfl rfl 1 (by decide) (hts (.fieldLink RX8 72 "CarnivalRoadModel" "many" "I") (by decide +kernel)) (fun _ h9 => h9) rfl dX8_broken_216 ?_
      refine z_icmp_ge (tgt := 301) hx hb dX8_broken_219 (by decide) (by omega) (fun hc_38 => ?_) (fun hc_38 => ?_)
      · skip
        refine lv_aload_n hx hb dX8_broken_301 rfl (lv_at hl 0 rfl) ?_
        refine lv_dup hx hb dX8_broken_302 rfl ?_
        refine va_get (D := D) (ci := 8) (v := .int (zI Mone_19)) (C := RX8) (T := TX8) (N := 36) hx hb hts hinX8 hown hK hw.1 0 rfl rfl 19 (by decide) (hts (.fieldLink RX8 168 "CarnivalRoadModel" "one" "I") (by decide +kernel)) (fun _ h9 => h9) rfl dX8_broken_303 ?_
        refine z_iconst hx hb dX8_broken_306 ?_
        refine z_iadd hx hb dX8_broken_307 ?_
        refine z_put (D := D) (ci := 8) (v := .int (zI (Mone_19 + 1))) (ty := .int) (C := RX8) (T := TX8) (N := 36) (ws2 := kM cI cB cZ oM Mthrown Mmany Mguest Mrow Mbars Mbar Mfresh Mtape Mtaped Mpos Mtoken MtokenAt Mvalue Mwrong MwrongAt MfaultKind MfaultPlace Mthing Morder (Mone_19 + 1) Mtwo_34 Mbest Mcells Mgap Mwire Mstand Mruns Mminute Mhead Mplays Mrests Mwent Mout Mcame Mgone MlastOut) hx hb hts hinX8 tyX8 tyX8_ok nmX8 hown hK hw 0 rfl rfl 19 (by decide) (hts (.fieldLink RX8 168 "CarnivalRoadModel" "one" "I") (by decide +kernel)) (fun _ h9 => h9) rfl (by decide +kernel) rfl rfl (Nat.le_of_ble_eq_true rfl) dX8_broken_308 rfl (fun H locs hw => ?_)
        refine lv_goto (tgt := 190) hx hb dX8_broken_311 (by decide) ?_
        have hv_39 : (0 : Int) ≤ (Mone_19 + 1) ∧ (Mone_19 + 1) ≤ 8 := by
          first | assumption | omega | grind
        have hv_40 : (0 : Int) ≤ Mtwo_34 ∧ Mtwo_34 ≤ 8 := by
          first | assumption | omega | grind
        have hv_41 : 0 ≤ (Mone_19 + 1) ∧ (Mone_19 + 1) ≤ Mmany := by
          first | assumption | omega | grind
        have hv_42 : ∀ a, 0 ≤ a → a < (Mone_19 + 1) → ∀ b, a < b → b < Mmany → ¬ brk ki lo sh wo on tw nu Morder 10 a b := by
          intro a h0 h1
          by_cases e : a = Mone_19
          · intro b b0 b1; rw [e] at b0 ⊢
            by_cases z : b < Mtwo_34
            · exact (by assumption : ∀ b, Mone_19 < b → b < Mtwo_34 → ¬ brk ki lo sh wo on tw nu Morder 10 Mone_19 b) b b0 z
            · rw [sc_iff hp0 hp1 (by omega) hp2]; rintro ⟨q, _⟩; omega
          · exact (by assumption : ∀ a, 0 ≤ a → a < Mone_19 → ∀ b, a < b → b < Mmany → ¬ brk ki lo sh wo on tw nu Morder 10 a b) a h0 (by omega)
        have hm_43 : (9 - (Mone_19 + 1)).toNat < (9 - Mone_19).toNat := by
          first | assumption | omega | grind
        exact ih_18 ((Mone_19 + 1), Mtwo_34) _ _ _ ⟨hv_39, hv_40, hv_41, hv_42, hw, lv_sub hl [0] rfl⟩ hm_43
      · skip
        refine lv_aload_n hx hb dX8_broken_222 rfl (lv_at hl 0 rfl) ?_
        refine va_get (D := D) (ci := 8) (v := .int (zI Mtwo_34)) (C := RX8) (T := TX8) (N := 36) hx hb hts hinX8 hown hK hw.1 0 rfl rfl 20 (by decide) (hts (.fieldLink RX8 171 "CarnivalRoadModel" "two" "I") (by decide +kernel)) (fun _ h9 => h9) rfl dX8_broken_223 ?_
        refine lv_aload_n hx hb dX8_broken_226 rfl (lv_at hl 0 rfl) ?_
        refine va_get (D := D) (ci := 8) (v := .int (zI Mone_19)) (C := RX8) (T := TX8) (N := 36) hx hb hts hinX8 hown hK hw.1 0 rfl rfl 19 (by decide) (hts (.fieldLink RX8 168 "CarnivalRoadModel" "one" "I") (by decide +kernel)) (fun _ h9 => h9) rfl dX8_broken_227 ?_
        refine z_iconst hx hb dX8_broken_230 ?_
        refine z_iadd hx hb dX8_broken_231 ?_
        refine z_icmp_ge (tgt := 301) hx hb dX8_broken_232 (by decide) (by omega) (fun hc_44 => ?_) (fun hc_44 => ?_)
        · skip
          refine lv_aload_n hx hb dX8_broken_301 rfl (lv_at hl 0 rfl) ?_
          refine lv_dup hx hb dX8_broken_302 rfl ?_
          refine va_get (D := D) (ci := 8) (v := .int (zI Mone_19)) (C := RX8) (T := TX8) (N := 36) hx hb hts hinX8 hown hK hw.1 0 rfl rfl 19 (by decide) (hts (.fieldLink RX8 168 "CarnivalRoadModel" "one" "I") (by decide +kernel)) (fun _ h9 => h9) rfl dX8_broken_303 ?_
          refine z_iconst hx hb dX8_broken_306 ?_
          refine z_iadd hx hb dX8_broken_307 ?_
          refine z_put (D := D) (ci := 8) (v := .int (zI (Mone_19 + 1))) (ty := .int) (C := RX8) (T := TX8) (N := 36) (ws2 := kM cI cB cZ oM Mthrown Mmany Mguest Mrow Mbars Mbar Mfresh Mtape Mtaped Mpos Mtoken MtokenAt Mvalue Mwrong MwrongAt MfaultKind MfaultPlace Mthing Morder (Mone_19 + 1) Mtwo_34 Mbest Mcells Mgap Mwire Mstand Mruns Mminute Mhead Mplays Mrests Mwent Mout Mcame Mgone MlastOut) hx hb hts hinX8 tyX8 tyX8_ok nmX8 hown hK hw 0 rfl rfl 19 (by decide) (hts (.fieldLink RX8 168 "CarnivalRoadModel" "one" "I") (by decide +kernel)) (fun _ h9 => h9) rfl (by decide +kernel) rfl rfl (Nat.le_of_ble_eq_true rfl) dX8_broken_308 rfl (fun H locs hw => ?_)
          refine lv_goto (tgt := 190) hx hb dX8_broken_311 (by decide) ?_
          have hv_45 : (0 : Int) ≤ (Mone_19 + 1) ∧ (Mone_19 + 1) ≤ 8 := by
            first | assumption | omega | grind
          have hv_46 : (0 : Int) ≤ Mtwo_34 ∧ Mtwo_34 ≤ 8 := by
            first | assumption | omega | grind
          have hv_47 : 0 ≤ (Mone_19 + 1) ∧ (Mone_19 + 1) ≤ Mmany := by
            first | assumption | omega | grind
          have hv_48 : ∀ a, 0 ≤ a → a < (Mone_19 + 1) → ∀ b, a < b → b < Mmany → ¬ brk ki lo sh wo on tw nu Morder 10 a b := by
            intro a h0 h1
            by_cases e : a = Mone_19
            · intro b b0 b1; rw [e] at b0 ⊢
              by_cases z : b < Mtwo_34
              · exact (by assumption : ∀ b, Mone_19 < b → b < Mtwo_34 → ¬ brk ki lo sh wo on tw nu Morder 10 Mone_19 b) b b0 z
              · rw [sc_iff hp0 hp1 (by omega) hp2]; rintro ⟨q, _⟩; omega
            · exact (by assumption : ∀ a, 0 ≤ a → a < Mone_19 → ∀ b, a < b → b < Mmany → ¬ brk ki lo sh wo on tw nu Morder 10 a b) a h0 (by omega)
          have hm_49 : (9 - (Mone_19 + 1)).toNat < (9 - Mone_19).toNat := by
            first | assumption | omega | grind
          exact ih_18 ((Mone_19 + 1), Mtwo_34) _ _ _ ⟨hv_45, hv_46, hv_47, hv_48, hw, lv_sub hl [0] rfl⟩ hm_49
        · skip
          refine lv_aload_n hx hb dX8_broken_235 rfl (lv_at hl 0 rfl) ?_
          refine lv_aload_n hx hb dX8_broken_236 rfl (lv_at hl 0 rfl) ?_
          refine va_get (D := D) (ci := 8) (v := .ref (oM 6)) (C := RX8) (T := TX8) (N := 36) hx hb hts hinX8 hown hK hw.1 0 rfl rfl 18 (by decide) (hts (.fieldLink RX8 29 "CarnivalRoadModel" "order" "[I") (by decide +kernel)) (fun _ h9 => h9) rfl dX8_broken_237 ?_
          refine lv_aload_n hx hb dX8_broken_240 rfl (lv_at hl 0 rfl) ?_
          refine va_get (D := D) (ci := 8) (v := .int (zI Mone_19)) (C := RX8) (T := TX8) (N := 36) hx hb hts hinX8 hown hK hw.1 0 rfl rfl 19 (by decide) (hts (.fieldLink RX8 168 "CarnivalRoadModel" "one" "I") (by decide +kernel)) (fun _ h9 => h9) rfl dX8_broken_241 ?_
          have hi_50 : (0 : Int) ≤ Mone_19 ∧ Mone_19 < ((8 : Nat) : Int) := by
            first | assumption | omega | grind
          refine z_iald (n := 8) (f := Morder) hx hb hK hw 6 rfl (by decide) hi_50 dX8_broken_244 ?_
          have hq_51 : 0 ≤ Morder Mone_19 ∧ Morder Mone_19 ≤ 7 := qMorder Mone_19
          refine lv_aload_n hx hb dX8_broken_245 rfl (lv_at hl 0 rfl) ?_
          refine va_get (D := D) (ci := 8) (v := .ref (oM 6)) (C := RX8) (T := TX8) (N := 36) hx hb hts hinX8 hown hK hw.1 0 rfl rfl 18 (by decide) (hts (.fieldLink RX8 29 "CarnivalRoadModel" "order" "[I") (by decide +kernel)) (fun _ h9 => h9) rfl dX8_broken_246 ?_
          refine lv_aload_n hx hb dX8_broken_249 rfl (lv_at hl 0 rfl) ?_
          refine va_get (D := D) (ci := 8) (v := .int (zI Mtwo_34)) (C := RX8) (T := TX8) (N := 36) hx hb hts hinX8 hown hK hw.1 0 rfl rfl 20 (by decide) (hts (.fieldLink RX8 171 "CarnivalRoadModel" "two" "I") (by decide +kernel)) (fun _ h9 => h9) rfl dX8_broken_250 ?_
          have hi_52 : (0 : Int) ≤ Mtwo_34 ∧ Mtwo_34 < ((8 : Nat) : Int) := by
            first | assumption | omega | grind
          refine z_iald (n := 8) (f := Morder) hx hb hK hw 6 rfl (by decide) hi_52 dX8_broken_253 ?_
          have hq_53 : 0 ≤ Morder Mtwo_34 ∧ Morder Mtwo_34 ≤ 7 := qMorder Mtwo_34
          have hF9 := z_free (wc := kM cI cB cZ oM Mthrown Mmany Mguest Mrow Mbars Mbar Mfresh Mtape Mtaped Mpos Mtoken MtokenAt Mvalue Mwrong MwrongAt MfaultKind MfaultPlace Mthing Morder Mone_19 Mtwo_34 Mbest Mcells Mgap Mwire Mstand Mruns Mminute Mhead Mplays Mrests Mwent Mout Mcame Mgone MlastOut) hw hA [0, 1, 2, 3, 4, 5, 6, 7, 8, 9, 10, 11, 12, 13, 14, 15, 16] rfl
          refine va_calli (va_runV (As := [.int (zI (Morder Mone_19)), .int (zI (Morder Mtwo_34))]) (rest := []) ⟨hx, hb, hml, hown, hts⟩ (c_X8_scares l D cI cB cZ oM H.size Mthrown Mmany Mguest Mrow Mbars Mbar Mfresh Mtape Mtaped Mpos Mtoken MtokenAt Mvalue Mwrong MwrongAt MfaultKind MfaultPlace Mthing Morder Mone_19 Mtwo_34 Mbest Mcells Mgap Mwire Mstand Mruns Mminute Mhead Mplays Mrests Mwent Mout Mcame Mgone MlastOut (Morder Mone_19) (Morder Mtwo_34) (by omega) (by omega) qMguest qMrow (by omega) qMbar qMfresh qMtape (by omega) (by omega) (by omega) (by omega) (by omega) (by omega) (by omega) (by omega) (by omega) (by omega) qMorder (by omega) (by omega) qMbest (by omega) (by omega) qMwire qMstand (by omega) (by omega) qMhead qMplays qMrests qMwent qMout qMcame qMgone (by omega) (by omega) (by omega)) (cwV 2 hts gX8_broken_X8_scares rfl rfl rfl (by decide +kernel) ⟨Nat.le_of_ble_eq_true rfl, Nat.le_of_ble_eq_true rfl⟩) ⟨zPre_blind, va_recv hK hw.1 (ci := 8) (q0 := 0) rfl rfl, z_pre hK hw [0, 1, 2, 3, 4, 5, 6, 7, 8, 9, 10, 11, 12, 13, 14, 15, 16] (by decide) rfl⟩ rfl rfl hl.1 rfl (lv_room (Nat.le_of_ble_eq_true rfl)) dX8_broken_254 ⟨Nat.zero_le _, Nat.zero_le _⟩) hw.2.2 (fun q _ h => hF9 q h) hF9 (fun r9 u9 t9 H_54 locs9 ht9 hvm9 hq9 hB9 hz9 hk9 hS9 => ?_)
          obtain ⟨r_55, rfl⟩ : ∃ z, z = u9 := ⟨_, rfl⟩
          try dsimp only at hq9 hB9
          obtain ⟨rfl, hq9⟩ := hq9
          have hq_56 := hq9
          have hw : HW D A s.heap (kM cI cB cZ oM Mthrown Mmany Mguest Mrow Mbars Mbar Mfresh Mtape Mtaped Mpos Mtoken MtokenAt Mvalue Mwrong MwrongAt MfaultKind MfaultPlace Mthing Morder Mone_19 Mtwo_34 Mbest Mcells Mgap Mwire Mstand Mruns Mminute Mhead Mplays Mrests Mwent Mout Mcame Mgone MlastOut) H_54 locs9 := z_after (wc := kM cI cB cZ oM Mthrown Mmany Mguest Mrow Mbars Mbar Mfresh Mtape Mtaped Mpos Mtoken MtokenAt Mvalue Mwrong MwrongAt MfaultKind MfaultPlace Mthing Morder Mone_19 Mtwo_34 Mbest Mcells Mgap Mwire Mstand Mruns Mminute Mhead Mplays Mrests Mwent Mout Mcame Mgone MlastOut) hw [0, 1, 2, 3, 4, 5, 6, 7, 8, 9, 10, 11, 12, 13, 14, 15, 16] [] rfl rfl (by decide) (by decide) hF9 hk9 ht9 hB9 hS9 [0, 1, 2, 3, 4, 5, 6, 7, 8, 9, 10, 11, 12, 13, 14, 15, 16] (by decide) rfl
          clear hF9 ht9 hvm9 hB9 hz9 hk9 hS9 hq9
          rcases hq_56 with ⟨hc_57, rfl⟩ | ⟨hc_57, rfl⟩
          · skip
            refine z_if_ne (tgt := 285) hx hb dX8_broken_257 (by decide) (by omega) (fun hc_58 => ?_) (fun hc_58 => absurd hc_58 (by omega))
            refine z_bipush hx hb dX8_broken_285 (by decide) ?_
            have hv_59 : (0 : Int) ≤ Mone_19 ∧ Mone_19 ≤ 8 := by
              first | assumption | omega | grind
            have hv_60 : (0 : Int) ≤ Mtwo_34 ∧ Mtwo_34 ≤ 8 := by
              first | assumption | omega | grind
            have hv_61 : -1 ≤ (10 : Int) ∧ (10 : Int) ≤ 10 := by
              first | assumption | omega | grind
            have hv_62 : ∃ x y, whyP ki lo sh wo on tw nu Morder Mmany Mbars (10 : Int) x y ∧ (¬ (10 : Int) = -1 → x = Mone_19 ∧ y = Mtwo_34) := by
              exact why_horse hp0 hp1 hp2 (by assumption) (by assumption) (by assumption) (by omega) (by omega) (by omega) (by omega) (by first | exact Or.inl (by assumption) | exact Or.inr (by assumption))
            exact W.iret (v := zI 10) hx hb hr (fun t9 ht hW => ⟨⟨zI 10, (10, Mone_19, Mtwo_34), rfl, ⟨rfl, ⟨hv_59, hv_60, hv_61, hv_62⟩⟩, by subst hAe; exact z_end hK hw ht hW⟩, by subst hAe; exact hw.2.2.F ht⟩) (by subst hAe; exact hw.2.2.2.2) dX8_broken_287
          · skip
            refine z_if_ne (tgt := 285) hx hb dX8_broken_257 (by decide) (by omega) (fun hc_63 => absurd hc_63 (by omega)) (fun hc_63 => ?_)
            refine lv_aload_n hx hb dX8_broken_260 rfl (lv_at hl 0 rfl) ?_
            refine lv_aload_n hx hb dX8_broken_261 rfl (lv_at hl 0 rfl) ?_
            refine va_get (D := D) (ci := 8) (v := .ref (oM 6)) (C := RX8) (T := TX8) (N := 36) hx hb hts hinX8 hown hK hw.1 0 rfl rfl 18 (by decide) (hts (.fieldLink RX8 29 "CarnivalRoadModel" "order" "[I") (by decide +kernel)) (fun _ h9 => h9) rfl dX8_broken_262 ?_
            refine lv_aload_n hx hb dX8_broken_265 rfl (lv_at hl 0 rfl) ?_
            refine va_get (D := D) (ci := 8) (v := .int (zI Mtwo_34)) (C := RX8) (T := TX8) (N := 36) hx hb hts hinX8 hown hK hw.1 0 rfl rfl 20 (by decide) (hts (.fieldLink RX8 171 "CarnivalRoadModel" "two" "I") (by decide +kernel)) (fun _ h9 => h9) rfl dX8_broken_266 ?_
            have hi_64 : (0 : Int) ≤ Mtwo_34 ∧ Mtwo_34 < ((8 : Nat) : Int) := by
              first | assumption | omega | grind
            refine z_iald (n := 8) (f := Morder) hx hb hK hw 6 rfl (by decide) hi_64 dX8_broken_269 ?_
            have hq_65 : 0 ≤ Morder Mtwo_34 ∧ Morder Mtwo_34 ≤ 7 := qMorder Mtwo_34
            refine lv_aload_n hx hb dX8_broken_270 rfl (lv_at hl 0 rfl) ?_
            refine va_get (D := D) (ci := 8) (v := .ref (oM 6)) (C := RX8) (T := TX8) (N := 36) hx hb hts hinX8 hown hK hw.1 0 rfl rfl 18 (by decide) (hts (.fieldLink RX8 29 "CarnivalRoadModel" "order" "[I") (by decide +kernel)) (fun _ h9 => h9) rfl dX8_broken_271 ?_
            refine lv_aload_n hx hb dX8_broken_274 rfl (lv_at hl 0 rfl) ?_
            refine va_get (D := D) (ci := 8) (v := .int (zI Mone_19)) (C := RX8) (T := TX8) (N := 36) hx hb hts hinX8 hown hK hw.1 0 rfl rfl 19 (by decide) (hts (.fieldLink RX8 168 "CarnivalRoadModel" "one" "I") (by decide +kernel)) (fun _ h9 => h9) rfl dX8_broken_275 ?_
            have hi_66 : (0 : Int) ≤ Mone_19 ∧ Mone_19 < ((8 : Nat) : Int) := by
              first | assumption | omega | grind
            refine z_iald (n := 8) (f := Morder) hx hb hK hw 6 rfl (by decide) hi_66 dX8_broken_278 ?_
            have hq_67 : 0 ≤ Morder Mone_19 ∧ Morder Mone_19 ≤ 7 := qMorder Mone_19
            have hF9 := z_free (wc := kM cI cB cZ oM Mthrown Mmany Mguest Mrow Mbars Mbar Mfresh Mtape Mtaped Mpos Mtoken MtokenAt Mvalue Mwrong MwrongAt MfaultKind MfaultPlace Mthing Morder Mone_19 Mtwo_34 Mbest Mcells Mgap Mwire Mstand Mruns Mminute Mhead Mplays Mrests Mwent Mout Mcame Mgone MlastOut) hw hA [0, 1, 2, 3, 4, 5, 6, 7, 8, 9, 10, 11, 12, 13, 14, 15, 16] rfl
            refine va_calli (va_runV (As := [.int (zI (Morder Mtwo_34)), .int (zI (Morder Mone_19))]) (rest := []) ⟨hx, hb, hml, hown, hts⟩ (c_X8_scares l D cI cB cZ oM H_54.size Mthrown Mmany Mguest Mrow Mbars Mbar Mfresh Mtape Mtaped Mpos Mtoken MtokenAt Mvalue Mwrong MwrongAt MfaultKind MfaultPlace Mthing Morder Mone_19 Mtwo_34 Mbest Mcells Mgap Mwire Mstand Mruns Mminute Mhead Mplays Mrests Mwent Mout Mcame Mgone MlastOut (Morder Mtwo_34) (Morder Mone_19) (by omega) (by omega) qMguest qMrow (by omega) qMbar qMfresh qMtape (by omega) (by omega) (by omega) (by omega) (by omega) (by omega) (by omega) (by omega) (by omega) (by omega) qMorder (by omega) (by omega) qMbest (by omega) (by omega) qMwire qMstand (by omega) (by omega) qMhead qMplays qMrests qMwent qMout qMcame qMgone (by omega) (by omega) (by omega)) (cwV 2 hts gX8_broken_X8_scares rfl rfl rfl (by decide +kernel) ⟨Nat.le_of_ble_eq_true rfl, Nat.le_of_ble_eq_true rfl⟩) ⟨zPre_blind, va_recv hK hw.1 (ci := 8) (q0 := 0) rfl rfl, z_pre hK hw [0, 1, 2, 3, 4, 5, 6, 7, 8, 9, 10, 11, 12, 13, 14, 15, 16] (by decide) rfl⟩ rfl rfl hl.1 rfl (lv_room (Nat.le_of_ble_eq_true rfl)) dX8_broken_279 ⟨Nat.zero_le _, Nat.zero_le _⟩) hw.2.2 (fun q _ h => hF9 q h) hF9 (fun r9 u9 t9 H_68 locs9 ht9 hvm9 hq9 hB9 hz9 hk9 hS9 => ?_)
            obtain ⟨r_69, rfl⟩ : ∃ z, z = u9 := ⟨_, rfl⟩
            try dsimp only at hq9 hB9
            obtain ⟨rfl, hq9⟩ := hq9
            have hq_70 := hq9
            have hw : HW D A s.heap (kM cI cB cZ oM Mthrown Mmany Mguest Mrow Mbars Mbar Mfresh Mtape Mtaped Mpos Mtoken MtokenAt Mvalue Mwrong MwrongAt MfaultKind MfaultPlace Mthing Morder Mone_19 Mtwo_34 Mbest Mcells Mgap Mwire Mstand Mruns Mminute Mhead Mplays Mrests Mwent Mout Mcame Mgone MlastOut) H_68 locs9 := z_after (wc := kM cI cB cZ oM Mthrown Mmany Mguest Mrow Mbars Mbar Mfresh Mtape Mtaped Mpos Mtoken MtokenAt Mvalue Mwrong MwrongAt MfaultKind MfaultPlace Mthing Morder Mone_19 Mtwo_34 Mbest Mcells Mgap Mwire Mstand Mruns Mminute Mhead Mplays Mrests Mwent Mout Mcame Mgone MlastOut) hw [0, 1, 2, 3, 4, 5, 6, 7, 8, 9, 10, 11, 12, 13, 14, 15, 16] [] rfl rfl (by decide) (by decide) hF9 hk9 ht9 hB9 hS9 [0, 1, 2, 3, 4, 5, 6, 7, 8, 9, 10, 11, 12, 13, 14, 15, 16] (by decide) rfl
            clear hF9 ht9 hvm9 hB9 hz9 hk9 hS9 hq9
            rcases hq_70 with ⟨hc_71, rfl⟩ | ⟨hc_71, rfl⟩
            · skip
              refine z_if_eq (tgt := 288) hx hb dX8_broken_282 (by decide) (by omega) (fun hc_72 => absurd hc_72 (by omega)) (fun hc_72 => ?_)
              refine z_bipush hx hb dX8_broken_285 (by decide) ?_
              have hv_73 : (0 : Int) ≤ Mone_19 ∧ Mone_19 ≤ 8 := by
                first | assumption | omega | grind
              have hv_74 : (0 : Int) ≤ Mtwo_34 ∧ Mtwo_34 ≤ 8 := by
                first | assumption | omega | grind
              have hv_75 : -1 ≤ (10 : Int) ∧ (10 : Int) ≤ 10 := by
                first | assumption | omega | grind
              have hv_76 : ∃ x y, whyP ki lo sh wo on tw nu Morder Mmany Mbars (10 : Int) x y ∧ (¬ (10 : Int) = -1 → x = Mone_19 ∧ y = Mtwo_34) := by
                exact why_horse hp0 hp1 hp2 (by assumption) (by assumption) (by assumption) (by omega) (by omega) (by omega) (by omega) (by first | exact Or.inl (by assumption) | exact Or.inr (by assumption))
              exact W.iret (v := zI 10) hx hb hr (fun t9 ht hW => ⟨⟨zI 10, (10, Mone_19, Mtwo_34), rfl, ⟨rfl, ⟨hv_73, hv_74, hv_75, hv_76⟩⟩, by subst hAe; exact z_end hK hw ht hW⟩, by subst hAe; exact hw.2.2.F ht⟩) (by subst hAe; exact hw.2.2.2.2) dX8_broken_287
            · skip
              refine z_if_eq (tgt := 288) hx hb dX8_broken_282 (by decide) (by omega) (fun hc_77 => ?_) (fun hc_77 => absurd hc_77 (by omega))
              refine lv_aload_n hx hb dX8_broken_288 rfl (lv_at hl 0 rfl) ?_
              refine lv_dup hx hb dX8_broken_289 rfl ?_
              refine va_get (D := D) (ci := 8) (v := .int (zI Mtwo_34)) (C := RX8) (T := TX8) (N := 36) hx hb hts hinX8 hown hK hw.1 0 rfl rfl 20 (by decide) (hts (.fieldLink RX8 171 "CarnivalRoadModel" "two" "I") (by decide +kernel)) (fun _ h9 => h9) rfl dX8_broken_290 ?_
              refine z_iconst hx hb dX8_broken_293 ?_
              refine z_iadd hx hb dX8_broken_294 ?_
              refine z_put (D := D) (ci := 8) (v := .int (zI (Mtwo_34 + 1))) (ty := .int) (C := RX8) (T := TX8) (N := 36) (ws2 := kM cI cB cZ oM Mthrown Mmany Mguest Mrow Mbars Mbar Mfresh Mtape Mtaped Mpos Mtoken MtokenAt Mvalue Mwrong MwrongAt MfaultKind MfaultPlace Mthing Morder Mone_19 (Mtwo_34 + 1) Mbest Mcells Mgap Mwire Mstand Mruns Mminute Mhead Mplays Mrests Mwent Mout Mcame Mgone MlastOut) hx hb hts hinX8 tyX8 tyX8_ok nmX8 hown hK hw 0 rfl rfl 20 (by decide) (hts (.fieldLink RX8 171 "CarnivalRoadModel" "two" "I") (by decide +kernel)) (fun _ h9 => h9) rfl (by decide +kernel) rfl rfl (Nat.le_of_ble_eq_true rfl) dX8_broken_295 rfl (fun H locs hw => ?_)
              refine lv_goto (tgt := 211) hx hb dX8_broken_298 (by decide) ?_
              have hv_78 : (0 : Int) ≤ (Mtwo_34 + 1) ∧ (Mtwo_34 + 1) ≤ 8 := by
                first | assumption | omega | grind
              have hv_79 : Mone_19 < (Mtwo_34 + 1) ∧ (Mtwo_34 + 1) ≤ Mmany := by
                first | assumption | omega | grind
              have hv_80 : ∀ b, Mone_19 < b → b < (Mtwo_34 + 1) → ¬ brk ki lo sh wo on tw nu Morder 10 Mone_19 b := by
                intro b h0 h1
                by_cases e : b = Mtwo_34
                · rw [e]; rw [sc_iff hp0 hp1 (by omega) hp2]; rintro ⟨_, q | q⟩ <;> contradiction
                · exact (by assumption : ∀ b, Mone_19 < b → b < Mtwo_34 → ¬ brk ki lo sh wo on tw nu Morder 10 Mone_19 b) b h0 (by omega)
              have hm_81 : (9 - (Mtwo_34 + 1)).toNat < (9 - Mtwo_34).toNat := by
                first | assumption | omega | grind
              exact ih_33 (Mtwo_34 + 1) _ _ _ ⟨hv_78, hv_79, hv_80, hw, lv_sub hl [0] rfl⟩ hm_81
  · skip
    refine lv_aload_n hx hb dX8_broken_10 rfl (lv_at hl 0 rfl) ?_
    refine va_get (D := D) (ci := 8) (v := .ref (oM 3)) (C := RX8) (T := TX8) (N := 36) hx hb hts hinX8 hown hK hw.1 0 rfl rfl 5 (by decide) (hts (.fieldLink RX8 16 "CarnivalRoadModel" "bar" "[I") (by decide +kernel)) (fun _ h9 => h9) rfl dX8_broken_11 ?_
    refine z_iconst hx hb dX8_broken_14 ?_
    refine lv_iload_n hx hb dX8_broken_15 rfl (lv_at hl 1 rfl) ?_
    refine z_imul hx hb dX8_broken_16 ?_
    have hi_82 : (0 : Int) ≤ (4 * k_6) ∧ (4 * k_6) < ((40 : Nat) : Int) := by
      first | assumption | omega | grind
    refine z_iald (n := 40) (f := Mbar) hx hb hK hw 3 rfl (by decide) hi_82 dX8_broken_17 ?_
    have hq_83 : 0 ≤ Mbar (4 * k_6) ∧ Mbar (4 * k_6) ≤ 104 := qMbar (4 * k_6)
    refine lv_istore_n (lv' := [(2, .int (zI (Mbar (4 * k_6)))), (0, .ref (oM 0)), (1, .int (zI k_6))]) hx hb dX8_broken_18 rfl hl (by decide) rfl (fun ls hl => ?_)
    refine lv_iload_n hx hb dX8_broken_19 rfl (lv_at hl 0 rfl) ?_
    refine z_iconst hx hb dX8_broken_20 ?_
    refine z_icmp_eq (tgt := 29) hx hb dX8_broken_21 (by decide) (by omega) (fun hc_84 => ?_) (fun hc_84 => ?_)
    · skip
      refine lv_aload_n hx hb dX8_broken_29 rfl (lv_at hl 1 rfl) ?_
      refine lv_iload_n hx hb dX8_broken_30 rfl (lv_at hl 0 rfl) ?_
      refine z_iconst hx hb dX8_broken_31 ?_
      refine z_icmp_eq (tgt := 42) hx hb dX8_broken_32 (by decide) (by omega) (fun hc_85 => ?_) (fun hc_85 => ?_)
      · skip
        refine z_iconst hx hb dX8_broken_42 ?_
        refine lv_goto (tgt := 52) hx hb dX8_broken_43 (by decide) ?_
        refine z_put (D := D) (ci := 8) (v := .int (zI 0)) (ty := .int) (C := RX8) (T := TX8) (N := 36) (ws2 := kM cI cB cZ oM Mthrown Mmany Mguest Mrow Mbars Mbar Mfresh Mtape Mtaped Mpos Mtoken MtokenAt Mvalue Mwrong MwrongAt MfaultKind MfaultPlace Mthing Morder 0 Mtwo_8 Mbest Mcells Mgap Mwire Mstand Mruns Mminute Mhead Mplays Mrests Mwent Mout Mcame Mgone MlastOut) hx hb hts hinX8 tyX8 tyX8_ok nmX8 hown hK hw 0 rfl rfl 19 (by decide) (hts (.fieldLink RX8 168 "CarnivalRoadModel" "one" "I") (by decide +kernel)) (fun _ h9 => h9) rfl (by decide +kernel) rfl rfl (Nat.le_of_ble_eq_true rfl) dX8_broken_52 rfl (fun H locs hw => ?_)
        refine lv_aload_n hx hb dX8_broken_55 rfl (lv_at hl 1 rfl) ?_
        refine lv_aload_n hx hb dX8_broken_56 rfl (lv_at hl 1 rfl) ?_
        refine va_get (D := D) (ci := 8) (v := .int (zI 0)) (C := RX8) (T := TX8) (N := 36) hx hb hts hinX8 hown hK hw.1 0 rfl rfl 19 (by decide) (hts (.fieldLink RX8 168 "CarnivalRoadModel" "one" "I") (by decide +kernel)) (fun _ h9 => h9) rfl dX8_broken_57 ?_
        refine z_put (D := D) (ci := 8) (v := .int (zI 0)) (ty := .int) (C := RX8) (T := TX8) (N := 36) (ws2 := kM cI cB cZ oM Mthrown Mmany Mguest Mrow Mbars Mbar Mfresh Mtape Mtaped Mpos Mtoken MtokenAt Mvalue Mwrong MwrongAt MfaultKind MfaultPlace Mthing Morder 0 0 Mbest Mcells Mgap Mwire Mstand Mruns Mminute Mhead Mplays Mrests Mwent Mout Mcame Mgone MlastOut) hx hb hts hinX8 tyX8 tyX8_ok nmX8 hown hK hw 0 rfl rfl 20 (by decide) (hts (.fieldLink RX8 171 "CarnivalRoadModel" "two" "I") (by decide +kernel)) (fun _ h9 => h9) rfl (by decide +kernel) rfl rfl (Nat.le_of_ble_eq_true rfl) dX8_broken_60 rfl (fun H locs hw => ?_)
        refine lv_aload_n hx hb dX8_broken_63 rfl (lv_at hl 1 rfl) ?_
        refine va_get (D := D) (ci := 8) (v := .int (zI Mmany)) (C := RX8) (T := TX8) (N := 36) hx hb hts hinX8 hown hK hw.1 0 rfl rfl 1 (by decide) (hts (.fieldLink RX8 72 "CarnivalRoadModel" "many" "I") (by decide +kernel)) (fun _ h9 => h9) rfl dX8_broken_64 ?_
        refine z_if_eq (tgt := 96) hx hb dX8_broken_67 (by decide) (by omega) (fun hc_86 => ?_) (fun hc_86 => ?_)
        · skip
          refine lv_iload_n hx hb dX8_broken_96 rfl (lv_at hl 2 rfl) ?_
          have hv_87 : (0 : Int) ≤ (0 : Int) ∧ (0 : Int) ≤ 8 := by
            first | assumption | omega | grind
          have hv_88 : (0 : Int) ≤ (0 : Int) ∧ (0 : Int) ≤ 8 := by
            first | assumption | omega | grind
          have hv_89 : -1 ≤ k_6 ∧ k_6 ≤ 10 := by
            first | assumption | omega | grind
          have hv_90 : ∃ x y, whyP ki lo sh wo on tw nu Morder Mmany Mbars k_6 x y ∧ (¬ k_6 = -1 → x = (0 : Int) ∧ y = (0 : Int)) := by
            exact why_end hp0 hp1 (by omega) (by omega) hp2 (by assumption) (by omega) (by first | assumption | (intro q; omega)) (by omega)
          exact W.iret (v := zI k_6) hx hb hr (fun t9 ht hW => ⟨⟨zI k_6, (k_6, 0, 0), rfl, ⟨rfl, ⟨hv_87, hv_88, hv_89, hv_90⟩⟩, by subst hAe; exact z_end hK hw ht hW⟩, by subst hAe; exact hw.2.2.F ht⟩) (by subst hAe; exact hw.2.2.2.2) dX8_broken_97
        · skip
          refine lv_aload_n hx hb dX8_broken_70 rfl (lv_at hl 1 rfl) ?_
          refine lv_aload_n hx hb dX8_broken_71 rfl (lv_at hl 1 rfl) ?_
          refine va_get (D := D) (ci := 8) (v := .ref (oM 6)) (C := RX8) (T := TX8) (N := 36) hx hb hts hinX8 hown hK hw.1 0 rfl rfl 18 (by decide) (hts (.fieldLink RX8 29 "CarnivalRoadModel" "order" "[I") (by decide +kernel)) (fun _ h9 => h9) rfl dX8_broken_72 ?_
          refine lv_aload_n hx hb dX8_broken_75 rfl (lv_at hl 1 rfl) ?_
          refine va_get (D := D) (ci := 8) (v := .int (zI 0)) (C := RX8) (T := TX8) (N := 36) hx hb hts hinX8 hown hK hw.1 0 rfl rfl 19 (by decide) (hts (.fieldLink RX8 168 "CarnivalRoadModel" "one" "I") (by decide +kernel)) (fun _ h9 => h9) rfl dX8_broken_76 ?_
          have hi_91 : (0 : Int) ≤ (0 : Int) ∧ (0 : Int) < ((8 : Nat) : Int) := by
            first | assumption | omega | grind
          refine z_iald (n := 8) (f := Morder) hx hb hK hw 6 rfl (by decide) hi_91 dX8_broken_79 ?_
          have hq_92 : 0 ≤ Morder 0 ∧ Morder 0 ≤ 7 := qMorder 0
          refine lv_aload_n hx hb dX8_broken_80 rfl (lv_at hl 1 rfl) ?_
          refine va_get (D := D) (ci := 8) (v := .ref (oM 3)) (C := RX8) (T := TX8) (N := 36) hx hb hts hinX8 hown hK hw.1 0 rfl rfl 5 (by decide) (hts (.fieldLink RX8 16 "CarnivalRoadModel" "bar" "[I") (by decide +kernel)) (fun _ h9 => h9) rfl dX8_broken_81 ?_
          refine z_iconst hx hb dX8_broken_84 ?_
          refine lv_iload_n hx hb dX8_broken_85 rfl (lv_at hl 2 rfl) ?_
          refine z_imul hx hb dX8_broken_86 ?_
          refine z_iconst hx hb dX8_broken_87 ?_
          refine z_iadd hx hb dX8_broken_88 ?_
          have hi_93 : (0 : Int) ≤ ((4 * k_6) + 1) ∧ ((4 * k_6) + 1) < ((40 : Nat) : Int) := by
            first | assumption | omega | grind
          refine z_iald (n := 40) (f := Mbar) hx hb hK hw 3 rfl (by decide) hi_93 dX8_broken_89 ?_
          have hq_94 : 0 ≤ Mbar ((4 * k_6) + 1) ∧ Mbar ((4 * k_6) + 1) ≤ 104 := qMbar ((4 * k_6) + 1)
          have hF9 := z_free (wc := kM cI cB cZ oM Mthrown Mmany Mguest Mrow Mbars Mbar Mfresh Mtape Mtaped Mpos Mtoken MtokenAt Mvalue Mwrong MwrongAt MfaultKind MfaultPlace Mthing Morder 0 0 Mbest Mcells Mgap Mwire Mstand Mruns Mminute Mhead Mplays Mrests Mwent Mout Mcame Mgone MlastOut) hw hA [0, 1, 2, 3, 4, 5, 6, 7, 8, 9, 10, 11, 12, 13, 14, 15, 16] rfl
          refine va_calli (va_runV (As := [.int (zI (Morder 0)), .int (zI (Mbar ((4 * k_6) + 1)))]) (rest := []) ⟨hx, hb, hml, hown, hts⟩ (c_X8_is l D cI cB cZ oM H.size Mthrown Mmany Mguest Mrow Mbars Mbar Mfresh Mtape Mtaped Mpos Mtoken MtokenAt Mvalue Mwrong MwrongAt MfaultKind MfaultPlace Mthing Morder 0 0 Mbest Mcells Mgap Mwire Mstand Mruns Mminute Mhead Mplays Mrests Mwent Mout Mcame Mgone MlastOut (Morder 0) (Mbar ((4 * k_6) + 1)) (by omega) (by omega) qMguest qMrow (by omega) qMbar qMfresh qMtape (by omega) (by omega) (by omega) (by omega) (by omega) (by omega) (by omega) (by omega) (by omega) (by omega) qMorder (by omega) (by omega) qMbest (by omega) (by omega) qMwire qMstand (by omega) (by omega) qMhead qMplays qMrests qMwent qMout qMcame qMgone (by omega) (by omega) (by omega)) (cwV 2 hts gX8_broken_X8_is rfl rfl rfl (by decide +kernel) ⟨Nat.le_of_ble_eq_true rfl, Nat.le_of_ble_eq_true rfl⟩) ⟨zPre_blind, va_recv hK hw.1 (ci := 8) (q0 := 0) rfl rfl, z_pre hK hw [0, 1, 2, 3, 4, 5, 6, 7, 8, 9, 10, 11, 12, 13, 14, 15, 16] (by decide) rfl⟩ rfl rfl hl.1 rfl (lv_room (Nat.le_of_ble_eq_true rfl)) dX8_broken_90 ⟨Nat.zero_le _, Nat.zero_le _⟩) hw.2.2 (fun q _ h => hF9 q h) hF9 (fun r9 u9 t9 H_95 locs9 ht9 hvm9 hq9 hB9 hz9 hk9 hS9 => ?_)
          obtain ⟨r_96, rfl⟩ : ∃ z, z = u9 := ⟨_, rfl⟩
          try dsimp only at hq9 hB9
          obtain ⟨rfl, hq9⟩ := hq9
          have hq_97 := hq9
          have hw : HW D A s.heap (kM cI cB cZ oM Mthrown Mmany Mguest Mrow Mbars Mbar Mfresh Mtape Mtaped Mpos Mtoken MtokenAt Mvalue Mwrong MwrongAt MfaultKind MfaultPlace Mthing Morder 0 0 Mbest Mcells Mgap Mwire Mstand Mruns Mminute Mhead Mplays Mrests Mwent Mout Mcame Mgone MlastOut) H_95 locs9 := z_after (wc := kM cI cB cZ oM Mthrown Mmany Mguest Mrow Mbars Mbar Mfresh Mtape Mtaped Mpos Mtoken MtokenAt Mvalue Mwrong MwrongAt MfaultKind MfaultPlace Mthing Morder 0 0 Mbest Mcells Mgap Mwire Mstand Mruns Mminute Mhead Mplays Mrests Mwent Mout Mcame Mgone MlastOut) hw [0, 1, 2, 3, 4, 5, 6, 7, 8, 9, 10, 11, 12, 13, 14, 15, 16] [] rfl rfl (by decide) (by decide) hF9 hk9 ht9 hB9 hS9 [0, 1, 2, 3, 4, 5, 6, 7, 8, 9, 10, 11, 12, 13, 14, 15, 16] (by decide) rfl
          clear hF9 ht9 hvm9 hB9 hz9 hk9 hS9 hq9
          rcases hq_97 with ⟨hc_98, rfl⟩ | ⟨hc_98, rfl⟩
          · skip
            refine z_if_ne (tgt := 179) hx hb dX8_broken_93 (by decide) (by omega) (fun hc_99 => ?_) (fun hc_99 => absurd hc_99 (by omega))
            refine z_iinc (k := 2) (lv' := [(1, .int (zI (k_6 + 1))), (2, .int (zI (Mbar (4 * k_6)))), (0, .ref (oM 0))]) hx hb dX8_broken_179 hl rfl (by decide) rfl (fun ls hl => ?_)
            refine lv_goto (tgt := 2) hx hb dX8_broken_182 (by decide) ?_
            have hv_100 : (0 : Int) ≤ (0 : Int) ∧ (0 : Int) ≤ 8 := by
              first | assumption | omega | grind
            have hv_101 : (0 : Int) ≤ (0 : Int) ∧ (0 : Int) ≤ 8 := by
              first | assumption | omega | grind
            have hv_102 : 0 ≤ (k_6 + 1) ∧ (k_6 + 1) ≤ Mbars := by
              first | assumption | omega | grind
            have hv_103 : ∀ a, 0 ≤ a → a < (k_6 + 1) → okP ki lo sh wo on tw nu Morder Mmany a := by
              refine all_s (by assumption) ?_
              first | exact ok_pair hp1 (by omega) (by omega) (by omega) (by assumption) (by omega) | exact ok_end hp0 hp1 (by omega) (by omega) hp2 (by assumption) (by omega) (by omega) (by omega)
            have hm_104 : (11 - (k_6 + 1)).toNat < (11 - k_6).toNat := by
              first | assumption | omega | grind
            exact ih_5 ((k_6 + 1), 0, 0) _ _ _ ⟨hv_100, hv_101, hv_102, hv_103, hw, lv_sub hl [2, 0] rfl⟩ hm_104
          · skip
            refine z_if_ne (tgt := 179) hx hb dX8_broken_93 (by decide) (by omega) (fun hc_105 => absurd hc_105 (by omega)) (fun hc_105 => ?_)
            refine lv_iload_n hx hb dX8_broken_96 rfl (lv_at hl 2 rfl) ?_
            have hv_106 : (0 : Int) ≤ (0 : Int) ∧ (0 : Int) ≤ 8 := by
              first | assumption | omega | grind
            have hv_107 : (0 : Int) ≤ (0 : Int) ∧ (0 : Int) ≤ 8 := by
              first | assumption | omega | grind
            have hv_108 : -1 ≤ k_6 ∧ k_6 ≤ 10 := by
              first | assumption | omega | grind
            have hv_109 : ∃ x y, whyP ki lo sh wo on tw nu Morder Mmany Mbars k_6 x y ∧ (¬ k_6 = -1 → x = (0 : Int) ∧ y = (0 : Int)) := by
              exact why_end hp0 hp1 (by omega) (by omega) hp2 (by assumption) (by omega) (by first | assumption | (intro q; omega)) (by omega)
            exact W.iret (v := zI k_6) hx hb hr (fun t9 ht hW => ⟨⟨zI k_6, (k_6, 0, 0), rfl, ⟨rfl, ⟨hv_106, hv_107, hv_108, hv_109⟩⟩, by subst hAe; exact z_end hK hw ht hW⟩, by subst hAe; exact hw.2.2.F ht⟩) (by subst hAe; exact hw.2.2.2.2) dX8_broken_97
      · skip
        refine lv_aload_n hx hb dX8_broken_35 rfl (lv_at hl 1 rfl) ?_
        refine va_get (D := D) (ci := 8) (v := .int (zI Mmany)) (C := RX8) (T := TX8) (N := 36) hx hb hts hinX8 hown hK hw.1 0 rfl rfl 1 (by decide) (hts (.fieldLink RX8 72 "CarnivalRoadModel" "many" "I") (by decide +kernel)) (fun _ h9 => h9) rfl dX8_broken_36 ?_
        refine z_if_ne (tgt := 46) hx hb dX8_broken_39 (by decide) (by omega) (fun hc_110 => ?_) (fun hc_110 => ?_)
        · skip
          refine lv_aload_n hx hb dX8_broken_46 rfl (lv_at hl 1 rfl) ?_
          refine va_get (D := D) (ci := 8) (v := .int (zI Mmany)) (C := RX8) (T := TX8) (N := 36) hx hb hts hinX8 hown hK hw.1 0 rfl rfl 1 (by decide) (hts (.fieldLink RX8 72 "CarnivalRoadModel" "many" "I") (by decide +kernel)) (fun _ h9 => h9) rfl dX8_broken_47 ?_
          refine z_iconst hx hb dX8_broken_50 ?_
          refine z_isub hx hb dX8_broken_51 ?_
          refine z_put (D := D) (ci := 8) (v := .int (zI (Mmany - 1))) (ty := .int) (C := RX8) (T := TX8) (N := 36) (ws2 := kM cI cB cZ oM Mthrown Mmany Mguest Mrow Mbars Mbar Mfresh Mtape Mtaped Mpos Mtoken MtokenAt Mvalue Mwrong MwrongAt MfaultKind MfaultPlace Mthing Morder (Mmany - 1) Mtwo_8 Mbest Mcells Mgap Mwire Mstand Mruns Mminute Mhead Mplays Mrests Mwent Mout Mcame Mgone MlastOut) hx hb hts hinX8 tyX8 tyX8_ok nmX8 hown hK hw 0 rfl rfl 19 (by decide) (hts (.fieldLink RX8 168 "CarnivalRoadModel" "one" "I") (by decide +kernel)) (fun _ h9 => h9) rfl (by decide +kernel) rfl rfl (Nat.le_of_ble_eq_true rfl) dX8_broken_52 rfl (fun H locs hw => ?_)
          refine lv_aload_n hx hb dX8_broken_55 rfl (lv_at hl 1 rfl) ?_
          refine lv_aload_n hx hb dX8_broken_56 rfl (lv_at hl 1 rfl) ?_
          refine va_get (D := D) (ci := 8) (v := .int (zI (Mmany - 1))) (C := RX8) (T := TX8) (N := 36) hx hb hts hinX8 hown hK hw.1 0 rfl rfl 19 (by decide) (hts (.fieldLink RX8 168 "CarnivalRoadModel" "one" "I") (by decide +kernel)) (fun _ h9 => h9) rfl dX8_broken_57 ?_
          refine z_put (D := D) (ci := 8) (v := .int (zI (Mmany - 1))) (ty := .int) (C := RX8) (T := TX8) (N := 36) (ws2 := kM cI cB cZ oM Mthrown Mmany Mguest Mrow Mbars Mbar Mfresh Mtape Mtaped Mpos Mtoken MtokenAt Mvalue Mwrong MwrongAt MfaultKind MfaultPlace Mthing Morder (Mmany - 1) (Mmany - 1) Mbest Mcells Mgap Mwire Mstand Mruns Mminute Mhead Mplays Mrests Mwent Mout Mcame Mgone MlastOut) hx hb hts hinX8 tyX8 tyX8_ok nmX8 hown hK hw 0 rfl rfl 20 (by decide) (hts (.fieldLink RX8 171 "CarnivalRoadModel" "two" "I") (by decide +kernel)) (fun _ h9 => h9) rfl (by decide +kernel) rfl rfl (Nat.le_of_ble_eq_true rfl) dX8_broken_60 rfl (fun H locs hw => ?_)
          refine lv_aload_n hx hb dX8_broken_63 rfl (lv_at hl 1 rfl) ?_
          refine va_get (D := D) (ci := 8) (v := .int (zI Mmany)) (C := RX8) (T := TX8) (N := 36) hx hb hts hinX8 hown hK hw.1 0 rfl rfl 1 (by decide) (hts (.fieldLink RX8 72 "CarnivalRoadModel" "many" "I") (by decide +kernel)) (fun _ h9 => h9) rfl dX8_broken_64 ?_
          refine z_if_eq (tgt := 96) hx hb dX8_broken_67 (by decide) (by omega) (fun hc_111 => ?_) (fun hc_111 => ?_)
          · skip
            refine lv_iload_n hx hb dX8_broken_96 rfl (lv_at hl 2 rfl) ?_
            have hv_112 : (0 : Int) ≤ (Mmany - 1) ∧ (Mmany - 1) ≤ 8 := by
              first | assumption | omega | grind
            have hv_113 : (0 : Int) ≤ (Mmany - 1) ∧ (Mmany - 1) ≤ 8 := by
              first | assumption | omega | grind
            have hv_114 : -1 ≤ k_6 ∧ k_6 ≤ 10 := by
              first | assumption | omega | grind
            have hv_115 : ∃ x y, whyP ki lo sh wo on tw nu Morder Mmany Mbars k_6 x y ∧ (¬ k_6 = -1 → x = (Mmany - 1) ∧ y = (Mmany - 1)) := by
              exact why_end hp0 hp1 (by omega) (by omega) hp2 (by assumption) (by omega) (by first | assumption | (intro q; omega)) (by omega)
            exact W.iret (v := zI k_6) hx hb hr (fun t9 ht hW => ⟨⟨zI k_6, (k_6, (Mmany - 1), (Mmany - 1)), rfl, ⟨rfl, ⟨hv_112, hv_113, hv_114, hv_115⟩⟩, by subst hAe; exact z_end hK hw ht hW⟩, by subst hAe; exact hw.2.2.F ht⟩) (by subst hAe; exact hw.2.2.2.2) dX8_broken_97
          · skip
            refine lv_aload_n hx hb dX8_broken_70 rfl (lv_at hl 1 rfl) ?_
            refine lv_aload_n hx hb dX8_broken_71 rfl (lv_at hl 1 rfl) ?_
            refine va_get (D := D) (ci := 8) (v := .ref (oM 6)) (C := RX8) (T := TX8) (N := 36) hx hb hts hinX8 hown hK hw.1 0 rfl rfl 18 (by decide) (hts (.fieldLink RX8 29 "CarnivalRoadModel" "order" "[I") (by decide +kernel)) (fun _ h9 => h9) rfl dX8_broken_72 ?_
            refine lv_aload_n hx hb dX8_broken_75 rfl (lv_at hl 1 rfl) ?_
            refine va_get (D := D) (ci := 8) (v := .int (zI (Mmany - 1))) (C := RX8) (T := TX8) (N := 36) hx hb hts hinX8 hown hK hw.1 0 rfl rfl 19 (by decide) (hts (.fieldLink RX8 168 "CarnivalRoadModel" "one" "I") (by decide +kernel)) (fun _ h9 => h9) rfl dX8_broken_76 ?_
            have hi_116 : (0 : Int) ≤ (Mmany - 1) ∧ (Mmany - 1) < ((8 : Nat) : Int) := by
              first | assumption | omega | grind
            refine z_iald (n := 8) (f := Morder) hx hb hK hw 6 rfl (by decide) hi_116 dX8_broken_79 ?_
            have hq_117 : 0 ≤ Morder (Mmany - 1) ∧ Morder (Mmany - 1) ≤ 7 := qMorder (Mmany - 1)
            refine lv_aload_n hx hb dX8_broken_80 rfl (lv_at hl 1 rfl) ?_
            refine va_get (D := D) (ci := 8) (v := .ref (oM 3)) (C := RX8) (T := TX8) (N := 36) hx hb hts hinX8 hown hK hw.1 0 rfl rfl 5 (by decide) (hts (.fieldLink RX8 16 "CarnivalRoadModel" "bar" "[I") (by decide +kernel)) (fun _ h9 => h9) rfl dX8_broken_81 ?_
            refine z_iconst hx hb dX8_broken_84 ?_
            refine lv_iload_n hx hb dX8_broken_85 rfl (lv_at hl 2 rfl) ?_
            refine z_imul hx hb dX8_broken_86 ?_
            refine z_iconst hx hb dX8_broken_87 ?_
            refine z_iadd hx hb dX8_broken_88 ?_
            have hi_118 : (0 : Int) ≤ ((4 * k_6) + 1) ∧ ((4 * k_6) + 1) < ((40 : Nat) : Int) := by
              first | assumption | omega | grind
            refine z_iald (n := 40) (f := Mbar) hx hb hK hw 3 rfl (by decide) hi_118 dX8_broken_89 ?_
            have hq_119 : 0 ≤ Mbar ((4 * k_6) + 1) ∧ Mbar ((4 * k_6) + 1) ≤ 104 := qMbar ((4 * k_6) + 1)
            have hF9 := z_free (wc := kM cI cB cZ oM Mthrown Mmany Mguest Mrow Mbars Mbar Mfresh Mtape Mtaped Mpos Mtoken MtokenAt Mvalue Mwrong MwrongAt MfaultKind MfaultPlace Mthing Morder (Mmany - 1) (Mmany - 1) Mbest Mcells Mgap Mwire Mstand Mruns Mminute Mhead Mplays Mrests Mwent Mout Mcame Mgone MlastOut) hw hA [0, 1, 2, 3, 4, 5, 6, 7, 8, 9, 10, 11, 12, 13, 14, 15, 16] rfl
            refine va_calli (va_runV (As := [.int (zI (Morder (Mmany - 1))), .int (zI (Mbar ((4 * k_6) + 1)))]) (rest := []) ⟨hx, hb, hml, hown, hts⟩ (c_X8_is l D cI cB cZ oM H.size Mthrown Mmany Mguest Mrow Mbars Mbar Mfresh Mtape Mtaped Mpos Mtoken MtokenAt Mvalue Mwrong MwrongAt MfaultKind MfaultPlace Mthing Morder (Mmany - 1) (Mmany - 1) Mbest Mcells Mgap Mwire Mstand Mruns Mminute Mhead Mplays Mrests Mwent Mout Mcame Mgone MlastOut (Morder (Mmany - 1)) (Mbar ((4 * k_6) + 1)) (by omega) (by omega) qMguest qMrow (by omega) qMbar qMfresh qMtape (by omega) (by omega) (by omega) (by omega) (by omega) (by omega) (by omega) (by omega) (by omega) (by omega) qMorder (by omega) (by omega) qMbest (by omega) (by omega) qMwire qMstand (by omega) (by omega) qMhead qMplays qMrests qMwent qMout qMcame qMgone (by omega) (by omega) (by omega)) (cwV 2 hts gX8_broken_X8_is rfl rfl rfl (by decide +kernel) ⟨Nat.le_of_ble_eq_true rfl, Nat.le_of_ble_eq_true rfl⟩) ⟨zPre_blind, va_recv hK hw.1 (ci := 8) (q0 := 0) rfl rfl, z_pre hK hw [0, 1, 2, 3, 4, 5, 6, 7, 8, 9, 10, 11, 12, 13, 14, 15, 16] (by decide) rfl⟩ rfl rfl hl.1 rfl (lv_room (Nat.le_of_ble_eq_true rfl)) dX8_broken_90 ⟨Nat.zero_le _, Nat.zero_le _⟩) hw.2.2 (fun q _ h => hF9 q h) hF9 (fun r9 u9 t9 H_120 locs9 ht9 hvm9 hq9 hB9 hz9 hk9 hS9 => ?_)
            obtain ⟨r_121, rfl⟩ : ∃ z, z = u9 := ⟨_, rfl⟩
            try dsimp only at hq9 hB9
            obtain ⟨rfl, hq9⟩ := hq9
            have hq_122 := hq9
            have hw : HW D A s.heap (kM cI cB cZ oM Mthrown Mmany Mguest Mrow Mbars Mbar Mfresh Mtape Mtaped Mpos Mtoken MtokenAt Mvalue Mwrong MwrongAt MfaultKind MfaultPlace Mthing Morder (Mmany - 1) (Mmany - 1) Mbest Mcells Mgap Mwire Mstand Mruns Mminute Mhead Mplays Mrests Mwent Mout Mcame Mgone MlastOut) H_120 locs9 := z_after (wc := kM cI cB cZ oM Mthrown Mmany Mguest Mrow Mbars Mbar Mfresh Mtape Mtaped Mpos Mtoken MtokenAt Mvalue Mwrong MwrongAt MfaultKind MfaultPlace Mthing Morder (Mmany - 1) (Mmany - 1) Mbest Mcells Mgap Mwire Mstand Mruns Mminute Mhead Mplays Mrests Mwent Mout Mcame Mgone MlastOut) hw [0, 1, 2, 3, 4, 5, 6, 7, 8, 9, 10, 11, 12, 13, 14, 15, 16] [] rfl rfl (by decide) (by decide) hF9 hk9 ht9 hB9 hS9 [0, 1, 2, 3, 4, 5, 6, 7, 8, 9, 10, 11, 12, 13, 14, 15, 16] (by decide) rfl
            clear hF9 ht9 hvm9 hB9 hz9 hk9 hS9 hq9
            rcases hq_122 with ⟨hc_123, rfl⟩ | ⟨hc_123, rfl⟩
            · skip
              refine z_if_ne (tgt := 179) hx hb dX8_broken_93 (by decide) (by omega) (fun hc_124 => ?_) (fun hc_124 => absurd hc_124 (by omega))
              refine z_iinc (k := 2) (lv' := [(1, .int (zI (k_6 + 1))), (2, .int (zI (Mbar (4 * k_6)))), (0, .ref (oM 0))]) hx hb dX8_broken_179 hl rfl (by decide) rfl (fun ls hl => ?_)
              refine lv_goto (tgt := 2) hx hb dX8_broken_182 (by decide) ?_
              have hv_125 : (0 : Int) ≤ (Mmany - 1) ∧ (Mmany - 1) ≤ 8 := by
                first | assumption | omega | grind
              have hv_126 : (0 : Int) ≤ (Mmany - 1) ∧ (Mmany - 1) ≤ 8 := by
                first | assumption | omega | grind
              have hv_127 : 0 ≤ (k_6 + 1) ∧ (k_6 + 1) ≤ Mbars := by
                first | assumption | omega | grind
              have hv_128 : ∀ a, 0 ≤ a → a < (k_6 + 1) → okP ki lo sh wo on tw nu Morder Mmany a := by
                refine all_s (by assumption) ?_
                first | exact ok_pair hp1 (by omega) (by omega) (by omega) (by assumption) (by omega) | exact ok_end hp0 hp1 (by omega) (by omega) hp2 (by assumption) (by omega) (by omega) (by omega)
              have hm_129 : (11 - (k_6 + 1)).toNat < (11 - k_6).toNat := by
                first | assumption | omega | grind
              exact ih_5 ((k_6 + 1), (Mmany - 1), (Mmany - 1)) _ _ _ ⟨hv_125, hv_126, hv_127, hv_128, hw, lv_sub hl [2, 0] rfl⟩ hm_129
            · skip
              refine z_if_ne (tgt := 179) hx hb dX8_broken_93 (by decide) (by omega) (fun hc_130 => absurd hc_130 (by omega)) (fun hc_130 => ?_)
              refine lv_iload_n hx hb dX8_broken_96 rfl (lv_at hl 2 rfl) ?_
              have hv_131 : (0 : Int) ≤ (Mmany - 1) ∧ (Mmany - 1) ≤ 8 := by
                first | assumption | omega | grind
              have hv_132 : (0 : Int) ≤ (Mmany - 1) ∧ (Mmany - 1) ≤ 8 := by
                first | assumption | omega | grind
              have hv_133 : -1 ≤ k_6 ∧ k_6 ≤ 10 := by
                first | assumption | omega | grind
              have hv_134 : ∃ x y, whyP ki lo sh wo on tw nu Morder Mmany Mbars k_6 x y ∧ (¬ k_6 = -1 → x = (Mmany - 1) ∧ y = (Mmany - 1)) := by
                exact why_end hp0 hp1 (by omega) (by omega) hp2 (by assumption) (by omega) (by first | assumption | (intro q; omega)) (by omega)
              exact W.iret (v := zI k_6) hx hb hr (fun t9 ht hW => ⟨⟨zI k_6, (k_6, (Mmany - 1), (Mmany - 1)), rfl, ⟨rfl, ⟨hv_131, hv_132, hv_133, hv_134⟩⟩, by subst hAe; exact z_end hK hw ht hW⟩, by subst hAe; exact hw.2.2.F ht⟩) (by subst hAe; exact hw.2.2.2.2) dX8_broken_97
        · skip
          refine z_iconst hx hb dX8_broken_42 ?_
          refine lv_goto (tgt := 52) hx hb dX8_broken_43 (by decide) ?_
          refine z_put (D := D) (ci := 8) (v := .int (zI 0)) (ty := .int) (C := RX8) (T := TX8) (N := 36) (ws2 := kM cI cB cZ oM Mthrown Mmany Mguest Mrow Mbars Mbar Mfresh Mtape Mtaped Mpos Mtoken MtokenAt Mvalue Mwrong MwrongAt MfaultKind MfaultPlace Mthing Morder 0 Mtwo_8 Mbest Mcells Mgap Mwire Mstand Mruns Mminute Mhead Mplays Mrests Mwent Mout Mcame Mgone MlastOut) hx hb hts hinX8 tyX8 tyX8_ok nmX8 hown hK hw 0 rfl rfl 19 (by decide) (hts (.fieldLink RX8 168 "CarnivalRoadModel" "one" "I") (by decide +kernel)) (fun _ h9 => h9) rfl (by decide +kernel) rfl rfl (Nat.le_of_ble_eq_true rfl) dX8_broken_52 rfl (fun H locs hw => ?_)
          refine lv_aload_n hx hb dX8_broken_55 rfl (lv_at hl 1 rfl) ?_
          refine lv_aload_n hx hb dX8_broken_56 rfl (lv_at hl 1 rfl) ?_
          refine va_get (D := D) (ci := 8) (v := .int (zI 0)) (C := RX8) (T := TX8) (N := 36) hx hb hts hinX8 hown hK hw.1 0 rfl rfl 19 (by decide) (hts (.fieldLink RX8 168 "CarnivalRoadModel" "one" "I") (by decide +kernel)) (fun _ h9 => h9) rfl dX8_broken_57 ?_
          refine z_put (D := D) (ci := 8) (v := .int (zI 0)) (ty := .int) (C := RX8) (T := TX8) (N := 36) (ws2 := kM cI cB cZ oM Mthrown Mmany Mguest Mrow Mbars Mbar Mfresh Mtape Mtaped Mpos Mtoken MtokenAt Mvalue Mwrong MwrongAt MfaultKind MfaultPlace Mthing Morder 0 0 Mbest Mcells Mgap Mwire Mstand Mruns Mminute Mhead Mplays Mrests Mwent Mout Mcame Mgone MlastOut) hx hb hts hinX8 tyX8 tyX8_ok nmX8 hown hK hw 0 rfl rfl 20 (by decide) (hts (.fieldLink RX8 171 "CarnivalRoadModel" "two" "I") (by decide +kernel)) (fun _ h9 => h9) rfl (by decide +kernel) rfl rfl (Nat.le_of_ble_eq_true rfl) dX8_broken_60 rfl (fun H locs hw => ?_)
          refine lv_aload_n hx hb dX8_broken_63 rfl (lv_at hl 1 rfl) ?_
          refine va_get (D := D) (ci := 8) (v := .int (zI Mmany)) (C := RX8) (T := TX8) (N := 36) hx hb hts hinX8 hown hK hw.1 0 rfl rfl 1 (by decide) (hts (.fieldLink RX8 72 "CarnivalRoadModel" "many" "I") (by decide +kernel)) (fun _ h9 => h9) rfl dX8_broken_64 ?_
          refine z_if_eq (tgt := 96) hx hb dX8_broken_67 (by decide) (by omega) (fun hc_135 => ?_) (fun hc_135 => ?_)
          · skip
            refine lv_iload_n hx hb dX8_broken_96 rfl (lv_at hl 2 rfl) ?_
            have hv_136 : (0 : Int) ≤ (0 : Int) ∧ (0 : Int) ≤ 8 := by
              first | assumption | omega | grind
            have hv_137 : (0 : Int) ≤ (0 : Int) ∧ (0 : Int) ≤ 8 := by
              first | assumption | omega | grind
            have hv_138 : -1 ≤ k_6 ∧ k_6 ≤ 10 := by
              first | assumption | omega | grind
            have hv_139 : ∃ x y, whyP ki lo sh wo on tw nu Morder Mmany Mbars k_6 x y ∧ (¬ k_6 = -1 → x = (0 : Int) ∧ y = (0 : Int)) := by
              exact why_end hp0 hp1 (by omega) (by omega) hp2 (by assumption) (by omega) (by first | assumption | (intro q; omega)) (by omega)
            exact W.iret (v := zI k_6) hx hb hr (fun t9 ht hW => ⟨⟨zI k_6, (k_6, 0, 0), rfl, ⟨rfl, ⟨hv_136, hv_137, hv_138, hv_139⟩⟩, by subst hAe; exact z_end hK hw ht hW⟩, by subst hAe; exact hw.2.2.F ht⟩) (by subst hAe; exact hw.2.2.2.2) dX8_broken_97
          · skip
            refine lv_aload_n hx hb dX8_broken_70 rfl (lv_at hl 1 rfl) ?_
            refine lv_aload_n hx hb dX8_broken_71 rfl (lv_at hl 1 rfl) ?_
            refine va_get (D := D) (ci := 8) (v := .ref (oM 6)) (C := RX8) (T := TX8) (N := 36) hx hb hts hinX8 hown hK hw.1 0 rfl rfl 18 (by decide) (hts (.fieldLink RX8 29 "CarnivalRoadModel" "order" "[I") (by decide +kernel)) (fun _ h9 => h9) rfl dX8_broken_72 ?_
            refine lv_aload_n hx hb dX8_broken_75 rfl (lv_at hl 1 rfl) ?_
            refine va_get (D := D) (ci := 8) (v := .int (zI 0)) (C := RX8) (T := TX8) (N := 36) hx hb hts hinX8 hown hK hw.1 0 rfl rfl 19 (by decide) (hts (.fieldLink RX8 168 "CarnivalRoadModel" "one" "I") (by decide +kernel)) (fun _ h9 => h9) rfl dX8_broken_76 ?_
            have hi_140 : (0 : Int) ≤ (0 : Int) ∧ (0 : Int) < ((8 : Nat) : Int) := by
              first | assumption | omega | grind
            refine z_iald (n := 8) (f := Morder) hx hb hK hw 6 rfl (by decide) hi_140 dX8_broken_79 ?_
            have hq_141 : 0 ≤ Morder 0 ∧ Morder 0 ≤ 7 := qMorder 0
            refine lv_aload_n hx hb dX8_broken_80 rfl (lv_at hl 1 rfl) ?_
            refine va_get (D := D) (ci := 8) (v := .ref (oM 3)) (C := RX8) (T := TX8) (N := 36) hx hb hts hinX8 hown hK hw.1 0 rfl rfl 5 (by decide) (hts (.fieldLink RX8 16 "CarnivalRoadModel" "bar" "[I") (by decide +kernel)) (fun _ h9 => h9) rfl dX8_broken_81 ?_
            refine z_iconst hx hb dX8_broken_84 ?_
            refine lv_iload_n hx hb dX8_broken_85 rfl (lv_at hl 2 rfl) ?_
            refine z_imul hx hb dX8_broken_86 ?_
            refine z_iconst hx hb dX8_broken_87 ?_
            refine z_iadd hx hb dX8_broken_88 ?_
            have hi_142 : (0 : Int) ≤ ((4 * k_6) + 1) ∧ ((4 * k_6) + 1) < ((40 : Nat) : Int) := by
              first | assumption | omega | grind
            refine z_iald (n := 40) (f := Mbar) hx hb hK hw 3 rfl (by decide) hi_142 dX8_broken_89 ?_
            have hq_143 : 0 ≤ Mbar ((4 * k_6) + 1) ∧ Mbar ((4 * k_6) + 1) ≤ 104 := qMbar ((4 * k_6) + 1)
            have hF9 := z_free (wc := kM cI cB cZ oM Mthrown Mmany Mguest Mrow Mbars Mbar Mfresh Mtape Mtaped Mpos Mtoken MtokenAt Mvalue Mwrong MwrongAt MfaultKind MfaultPlace Mthing Morder 0 0 Mbest Mcells Mgap Mwire Mstand Mruns Mminute Mhead Mplays Mrests Mwent Mout Mcame Mgone MlastOut) hw hA [0, 1, 2, 3, 4, 5, 6, 7, 8, 9, 10, 11, 12, 13, 14, 15, 16] rfl
            refine va_calli (va_runV (As := [.int (zI (Morder 0)), .int (zI (Mbar ((4 * k_6) + 1)))]) (rest := []) ⟨hx, hb, hml, hown, hts⟩ (c_X8_is l D cI cB cZ oM H.size Mthrown Mmany Mguest Mrow Mbars Mbar Mfresh Mtape Mtaped Mpos Mtoken MtokenAt Mvalue Mwrong MwrongAt MfaultKind MfaultPlace Mthing Morder 0 0 Mbest Mcells Mgap Mwire Mstand Mruns Mminute Mhead Mplays Mrests Mwent Mout Mcame Mgone MlastOut (Morder 0) (Mbar ((4 * k_6) + 1)) (by omega) (by omega) qMguest qMrow (by omega) qMbar qMfresh qMtape (by omega) (by omega) (by omega) (by omega) (by omega) (by omega) (by omega) (by omega) (by omega) (by omega) qMorder (by omega) (by omega) qMbest (by omega) (by omega) qMwire qMstand (by omega) (by omega) qMhead qMplays qMrests qMwent qMout qMcame qMgone (by omega) (by omega) (by omega)) (cwV 2 hts gX8_broken_X8_is rfl rfl rfl (by decide +kernel) ⟨Nat.le_of_ble_eq_true rfl, Nat.le_of_ble_eq_true rfl⟩) ⟨zPre_blind, va_recv hK hw.1 (ci := 8) (q0 := 0) rfl rfl, z_pre hK hw [0, 1, 2, 3, 4, 5, 6, 7, 8, 9, 10, 11, 12, 13, 14, 15, 16] (by decide) rfl⟩ rfl rfl hl.1 rfl (lv_room (Nat.le_of_ble_eq_true rfl)) dX8_broken_90 ⟨Nat.zero_le _, Nat.zero_le _⟩) hw.2.2 (fun q _ h => hF9 q h) hF9 (fun r9 u9 t9 H_144 locs9 ht9 hvm9 hq9 hB9 hz9 hk9 hS9 => ?_)
            obtain ⟨r_145, rfl⟩ : ∃ z, z = u9 := ⟨_, rfl⟩
            try dsimp only at hq9 hB9
            obtain ⟨rfl, hq9⟩ := hq9
            have hq_146 := hq9
            have hw : HW D A s.heap (kM cI cB cZ oM Mthrown Mmany Mguest Mrow Mbars Mbar Mfresh Mtape Mtaped Mpos Mtoken MtokenAt Mvalue Mwrong MwrongAt MfaultKind MfaultPlace Mthing Morder 0 0 Mbest Mcells Mgap Mwire Mstand Mruns Mminute Mhead Mplays Mrests Mwent Mout Mcame Mgone MlastOut) H_144 locs9 := z_after (wc := kM cI cB cZ oM Mthrown Mmany Mguest Mrow Mbars Mbar Mfresh Mtape Mtaped Mpos Mtoken MtokenAt Mvalue Mwrong MwrongAt MfaultKind MfaultPlace Mthing Morder 0 0 Mbest Mcells Mgap Mwire Mstand Mruns Mminute Mhead Mplays Mrests Mwent Mout Mcame Mgone MlastOut) hw [0, 1, 2, 3, 4, 5, 6, 7, 8, 9, 10, 11, 12, 13, 14, 15, 16] [] rfl rfl (by decide) (by decide) hF9 hk9 ht9 hB9 hS9 [0, 1, 2, 3, 4, 5, 6, 7, 8, 9, 10, 11, 12, 13, 14, 15, 16] (by decide) rfl
            clear hF9 ht9 hvm9 hB9 hz9 hk9 hS9 hq9
            rcases hq_146 with ⟨hc_147, rfl⟩ | ⟨hc_147, rfl⟩
            · skip
              refine z_if_ne (tgt := 179) hx hb dX8_broken_93 (by decide) (by omega) (fun hc_148 => ?_) (fun hc_148 => absurd hc_148 (by omega))
              refine z_iinc (k := 2) (lv' := [(1, .int (zI (k_6 + 1))), (2, .int (zI (Mbar (4 * k_6)))), (0, .ref (oM 0))]) hx hb dX8_broken_179 hl rfl (by decide) rfl (fun ls hl => ?_)
              refine lv_goto (tgt := 2) hx hb dX8_broken_182 (by decide) ?_
              have hv_149 : (0 : Int) ≤ (0 : Int) ∧ (0 : Int) ≤ 8 := by
                first | assumption | omega | grind
              have hv_150 : (0 : Int) ≤ (0 : Int) ∧ (0 : Int) ≤ 8 := by
                first | assumption | omega | grind
              have hv_151 : 0 ≤ (k_6 + 1) ∧ (k_6 + 1) ≤ Mbars := by
                first | assumption | omega | grind
              have hv_152 : ∀ a, 0 ≤ a → a < (k_6 + 1) → okP ki lo sh wo on tw nu Morder Mmany a := by
                refine all_s (by assumption) ?_
                first | exact ok_pair hp1 (by omega) (by omega) (by omega) (by assumption) (by omega) | exact ok_end hp0 hp1 (by omega) (by omega) hp2 (by assumption) (by omega) (by omega) (by omega)
              have hm_153 : (11 - (k_6 + 1)).toNat < (11 - k_6).toNat := by
                first | assumption | omega | grind
              exact ih_5 ((k_6 + 1), 0, 0) _ _ _ ⟨hv_149, hv_150, hv_151, hv_152, hw, lv_sub hl [2, 0] rfl⟩ hm_153
            · skip
              refine z_if_ne (tgt := 179) hx hb dX8_broken_93 (by decide) (by omega) (fun hc_154 => absurd hc_154 (by omega)) (fun hc_154 => ?_)
              refine lv_iload_n hx hb dX8_broken_96 rfl (lv_at hl 2 rfl) ?_
              have hv_155 : (0 : Int) ≤ (0 : Int) ∧ (0 : Int) ≤ 8 := by
                first | assumption | omega | grind
              have hv_156 : (0 : Int) ≤ (0 : Int) ∧ (0 : Int) ≤ 8 := by
                first | assumption | omega | grind
              have hv_157 : -1 ≤ k_6 ∧ k_6 ≤ 10 := by
                first | assumption | omega | grind
              have hv_158 : ∃ x y, whyP ki lo sh wo on tw nu Morder Mmany Mbars k_6 x y ∧ (¬ k_6 = -1 → x = (0 : Int) ∧ y = (0 : Int)) := by
                exact why_end hp0 hp1 (by omega) (by omega) hp2 (by assumption) (by omega) (by first | assumption | (intro q; omega)) (by omega)
              exact W.iret (v := zI k_6) hx hb hr (fun t9 ht hW => ⟨⟨zI k_6, (k_6, 0, 0), rfl, ⟨rfl, ⟨hv_155, hv_156, hv_157, hv_158⟩⟩, by subst hAe; exact z_end hK hw ht hW⟩, by subst hAe; exact hw.2.2.F ht⟩) (by subst hAe; exact hw.2.2.2.2) dX8_broken_97
    · skip
      refine lv_iload_n hx hb dX8_broken_24 rfl (lv_at hl 0 rfl) ?_
      refine z_iconst hx hb dX8_broken_25 ?_
      refine z_icmp_ne (tgt := 98) hx hb dX8_broken_26 (by decide) (by omega) (fun hc_159 => ?_) (fun hc_159 => ?_)
      · skip
        refine lv_aload_n hx hb dX8_broken_98 rfl (lv_at hl 1 rfl) ?_
        refine z_iconst hx hb dX8_broken_99 ?_
        refine z_put (D := D) (ci := 8) (v := .int (zI 0)) (ty := .int) (C := RX8) (T := TX8) (N := 36) (ws2 := kM cI cB cZ oM Mthrown Mmany Mguest Mrow Mbars Mbar Mfresh Mtape Mtaped Mpos Mtoken MtokenAt Mvalue Mwrong MwrongAt MfaultKind MfaultPlace Mthing Morder 0 Mtwo_8 Mbest Mcells Mgap Mwire Mstand Mruns Mminute Mhead Mplays Mrests Mwent Mout Mcame Mgone MlastOut) hx hb hts hinX8 tyX8 tyX8_ok nmX8 hown hK hw 0 rfl rfl 19 (by decide) (hts (.fieldLink RX8 168 "CarnivalRoadModel" "one" "I") (by decide +kernel)) (fun _ h9 => h9) rfl (by decide +kernel) rfl rfl (Nat.le_of_ble_eq_true rfl) dX8_broken_100 rfl (fun H locs hw => ?_)
        have hv_160 : (0 : Int) ≤ (0 : Int) ∧ (0 : Int) ≤ 8 := by
          first | assumption | omega | grind
        have hv_161 : (0 : Int) ≤ Mtwo_8 ∧ Mtwo_8 ≤ 8 := by
          first | assumption | omega | grind
        have hv_162 : 0 ≤ (0 : Int) ∧ (0 : Int) ≤ Mmany := by
          first | assumption | omega | grind
        have hv_163 : ∀ a, 0 ≤ a → a < (0 : Int) → ∀ b, a < b → b < Mmany → ¬ brk ki lo sh wo on tw nu Morder k_6 a b := by
          intro a h0 h1; omega
        refine z_loop (σ := Int × Int) (μ := fun x9 => (9 - (x9.1)).toNat) (I := fun x9 H locs ls => ((0 : Int) ≤ (x9.1) ∧ (x9.1) ≤ 8) ∧ ((0 : Int) ≤ (x9.2) ∧ (x9.2) ≤ 8) ∧ (0 ≤ (x9.1) ∧ (x9.1) ≤ Mmany) ∧ (∀ a, 0 ≤ a → a < (x9.1) → ∀ b, a < b → b < Mmany → ¬ brk ki lo sh wo on tw nu Morder k_6 a b) ∧ HW D A s.heap (kM cI cB cZ oM Mthrown Mmany Mguest Mrow Mbars Mbar Mfresh Mtape Mtaped Mpos Mtoken MtokenAt Mvalue Mwrong MwrongAt MfaultKind MfaultPlace Mthing Morder (x9.1) (x9.2) Mbest Mcells Mgap Mwire Mstand Mruns Mminute Mhead Mplays Mrests Mwent Mout Mcame Mgone MlastOut) H locs ∧ lv_has ls 3 [(0, .ref (oM 0)), (1, .int (zI k_6))]) (0, Mtwo_8) ⟨hv_160, hv_161, hv_162, hv_163, hw, lv_sub hl [1, 2] rfl⟩ ?_
        clear hw hl
        intro x9 H locs ls hI ih_164
        obtain ⟨Mone_165, Mtwo_166⟩ := x9
        try dsimp only at hI
        obtain ⟨hq_167, hq_168, hI_169, hI_170, hw, hl⟩ := hI
        refine lv_aload_n hx hb dX8_broken_103 rfl (lv_at hl 0 rfl) ?_
        refine va_get (D := D) (ci := 8) (v := .int (zI Mone_165)) (C := RX8) (T := TX8) (N := 36) hx hb hts hinX8 hown hK hw.1 0 rfl rfl 19 (by decide) (hts (.fieldLink RX8 168 "CarnivalRoadModel" "one" "I") (by decide +kernel)) (fun _ h9 => h9) rfl dX8_broken_104 ?_
        refine lv_aload_n hx hb dX8_broken_107 rfl (lv_at hl 0 rfl) ?_
        refine va_get (D := D) (ci := 8) (v := .int (zI Mmany)) (C := RX8) (T := TX8) (N := 36) hx hb hts hinX8 hown hK hw.1 0 rfl rfl 1 (by decide) (hts (.fieldLink RX8 72 "CarnivalRoadModel" "many" "I") (by decide +kernel)) (fun _ h9 => h9) rfl dX8_broken_108 ?_
        refine z_icmp_ge (tgt := 179) hx hb dX8_broken_111 (by decide) (by omega) (fun hc_171 => ?_) (fun hc_171 => ?_)
        · skip
          refine z_iinc (k := 1) (lv' := [(1, .int (zI (k_6 + 1))), (0, .ref (oM 0))]) hx hb dX8_broken_179 hl rfl (by decide) rfl (fun ls hl => ?_)
          refine lv_goto (tgt := 2) hx hb dX8_broken_182 (by decide) ?_
          have hv_172 : (0 : Int) ≤ Mone_165 ∧ Mone_165 ≤ 8 := by
            first | assumption | omega | grind
          have hv_173 : (0 : Int) ≤ Mtwo_166 ∧ Mtwo_166 ≤ 8 := by
            first | assumption | omega | grind
          have hv_174 : 0 ≤ (k_6 + 1) ∧ (k_6 + 1) ≤ Mbars := by
            first | assumption | omega | grind
          have hv_175 : ∀ a, 0 ≤ a → a < (k_6 + 1) → okP ki lo sh wo on tw nu Morder Mmany a := by
            refine all_s (by assumption) ?_
            first | exact ok_pair hp1 (by omega) (by omega) (by omega) (by assumption) (by omega) | exact ok_end hp0 hp1 (by omega) (by omega) hp2 (by assumption) (by omega) (by omega) (by omega)
          have hm_176 : (11 - (k_6 + 1)).toNat < (11 - k_6).toNat := by
            first | assumption | omega | grind
          exact ih_5 ((k_6 + 1), Mone_165, Mtwo_166) _ _ _ ⟨hv_172, hv_173, hv_174, hv_175, hw, lv_sub hl [1, 0] rfl⟩ hm_176
        · skip
          refine lv_aload_n hx hb dX8_broken_114 rfl (lv_at hl 0 rfl) ?_
          refine lv_aload_n hx hb dX8_broken_115 rfl (lv_at hl 0 rfl) ?_
          refine va_get (D := D) (ci := 8) (v := .int (zI Mone_165)) (C := RX8) (T := TX8) (N := 36) hx hb hts hinX8 hown hK hw.1 0 rfl rfl 19 (by decide) (hts (.fieldLink RX8 168 "CarnivalRoadModel" "one" "I") (by decide +kernel)) (fun _ h9 => h9) rfl dX8_broken_116 ?_
          refine z_iconst hx hb dX8_broken_119 ?_
          refine z_iadd hx hb dX8_broken_120 ?_
          refine z_put (D := D) (ci := 8) (v := .int (zI (Mone_165 + 1))) (ty := .int) (C := RX8) (T := TX8) (N := 36) (ws2 := kM cI cB cZ oM Mthrown Mmany Mguest Mrow Mbars Mbar Mfresh Mtape Mtaped Mpos Mtoken MtokenAt Mvalue Mwrong MwrongAt MfaultKind MfaultPlace Mthing Morder Mone_165 (Mone_165 + 1) Mbest Mcells Mgap Mwire Mstand Mruns Mminute Mhead Mplays Mrests Mwent Mout Mcame Mgone MlastOut) hx hb hts hinX8 tyX8 tyX8_ok nmX8 hown hK hw 0 rfl rfl 20 (by decide) (hts (.fieldLink RX8 171 "CarnivalRoadModel" "two" "I") (by decide +kernel)) (fun _ h9 => h9) rfl (by decide +kernel) rfl rfl (Nat.le_of_ble_eq_true rfl) dX8_broken_121 rfl (fun H locs hw => ?_)
          have hv_177 : (0 : Int) ≤ (Mone_165 + 1) ∧ (Mone_165 + 1) ≤ 8 := by
            first | assumption | omega | grind
          have hv_178 : Mone_165 < (Mone_165 + 1) ∧ (Mone_165 + 1) ≤ Mmany := by
            first | assumption | omega | grind
          have hv_179 : ∀ b, Mone_165 < b → b < (Mone_165 + 1) → ¬ brk ki lo sh wo on tw nu Morder k_6 Mone_165 b := by
            intro b h0 h1; omega
          refine z_loop (σ := Int) (μ := fun x9 => (9 - x9).toNat) (I := fun x9 H locs ls => ((0 : Int) ≤ x9 ∧ x9 ≤ 8) ∧ (Mone_165 < x9 ∧ x9 ≤ Mmany) ∧ (∀ b, Mone_165 < b → b < x9 → ¬ brk ki lo sh wo on tw nu Morder k_6 Mone_165 b) ∧ HW D A s.heap (kM cI cB cZ oM Mthrown Mmany Mguest Mrow Mbars Mbar Mfresh Mtape Mtaped Mpos Mtoken MtokenAt Mvalue Mwrong MwrongAt MfaultKind MfaultPlace Mthing Morder Mone_165 x9 Mbest Mcells Mgap Mwire Mstand Mruns Mminute Mhead Mplays Mrests Mwent Mout Mcame Mgone MlastOut) H locs ∧ lv_has ls 3 [(0, .ref (oM 0)), (1, .int (zI k_6))]) (Mone_165 + 1) ⟨hv_177, hv_178, hv_179, hw, lv_sub hl [0, 1] rfl⟩ ?_
          clear hw hl
          intro Mtwo_181 H locs ls hI ih_180
          try dsimp only at hI
          obtain ⟨hq_182, hI_183, hI_184, hw, hl⟩ := hI
          refine lv_aload_n hx hb dX8_broken_124 rfl (lv_at hl 0 rfl) ?_
          refine va_get (D := D) (ci := 8) (v := .int (zI Mtwo_181)) (C := RX8) (T := TX8) (N := 36) hx hb hts hinX8 hown hK hw.1 0 rfl rfl 20 (by decide) (hts (.fieldLink RX8 171 "CarnivalRoadModel" "two" "I") (by decide +kernel)) (fun _ h9 => h9) rfl dX8_broken_125 ?_
          refine lv_aload_n hx hb dX8_broken_128 rfl (lv_at hl 0 rfl) ?_
          refine va_get (D := D) (ci := 8) (v := .int (zI Mmany)) (C := RX8) (T := TX8) (N := 36) hx hb hts hinX8 hown hK hw.1 0 rfl rfl 1 (by decide) (hts (.fieldLink RX8 72 "CarnivalRoadModel" "many" "I") (by decide +kernel)) (fun _ h9 => h9) rfl dX8_broken_129 ?_
          refine z_icmp_ge (tgt := 166) hx hb dX8_broken_132 (by decide) (by omega) (fun hc_185 => ?_) (fun hc_185 => ?_)
          · skip
            refine lv_aload_n hx hb dX8_broken_166 rfl (lv_at hl 0 rfl) ?_
            refine lv_dup hx hb dX8_broken_167 rfl ?_
            refine va_get (D := D) (ci := 8) (v := .int (zI Mone_165)) (C := RX8) (T := TX8) (N := 36) hx hb hts hinX8 hown hK hw.1 0 rfl rfl 19 (by decide) (hts (.fieldLink RX8 168 "CarnivalRoadModel" "one" "I") (by decide +kernel)) (fun _ h9 => h9) rfl dX8_broken_168 ?_
            refine z_iconst hx hb dX8_broken_171 ?_
            refine z_iadd hx hb dX8_broken_172 ?_
            refine z_put (D := D) (ci := 8) (v := .int (zI (Mone_165 + 1))) (ty := .int) (C := RX8) (T := TX8) (N := 36) (ws2 := kM cI cB cZ oM Mthrown Mmany Mguest Mrow Mbars Mbar Mfresh Mtape Mtaped Mpos Mtoken MtokenAt Mvalue Mwrong MwrongAt MfaultKind MfaultPlace Mthing Morder (Mone_165 + 1) Mtwo_181 Mbest Mcells Mgap Mwire Mstand Mruns Mminute Mhead Mplays Mrests Mwent Mout Mcame Mgone MlastOut) hx hb hts hinX8 tyX8 tyX8_ok nmX8 hown hK hw 0 rfl rfl 19 (by decide) (hts (.fieldLink RX8 168 "CarnivalRoadModel" "one" "I") (by decide +kernel)) (fun _ h9 => h9) rfl (by decide +kernel) rfl rfl (Nat.le_of_ble_eq_true rfl) dX8_broken_173 rfl (fun H locs hw => ?_)
            refine lv_goto (tgt := 103) hx hb dX8_broken_176 (by decide) ?_
            have hv_186 : (0 : Int) ≤ (Mone_165 + 1) ∧ (Mone_165 + 1) ≤ 8 := by
              first | assumption | omega | grind
            have hv_187 : (0 : Int) ≤ Mtwo_181 ∧ Mtwo_181 ≤ 8 := by
              first | assumption | omega | grind
            have hv_188 : 0 ≤ (Mone_165 + 1) ∧ (Mone_165 + 1) ≤ Mmany := by
              first | assumption | omega | grind
            have hv_189 : ∀ a, 0 ≤ a → a < (Mone_165 + 1) → ∀ b, a < b → b < Mmany → ¬ brk ki lo sh wo on tw nu Morder k_6 a b := by
              intro a h0 h1
              by_cases e : a = Mone_165
              · intro b b0 b1; rw [e] at b0 ⊢; exact (by assumption : ∀ b, Mone_165 < b → b < Mtwo_181 → ¬ brk ki lo sh wo on tw nu Morder k_6 Mone_165 b) b b0 (by omega)
              · exact (by assumption : ∀ a, 0 ≤ a → a < Mone_165 → ∀ b, a < b → b < Mmany → ¬ brk ki lo sh wo on tw nu Morder k_6 a b) a h0 (by omega)
            have hm_190 : (9 - (Mone_165 + 1)).toNat < (9 - Mone_165).toNat := by
              first | assumption | omega | grind
            exact ih_164 ((Mone_165 + 1), Mtwo_181) _ _ _ ⟨hv_186, hv_187, hv_188, hv_189, hw, lv_sub hl [0, 1] rfl⟩ hm_190
          · skip
            refine lv_aload_n hx hb dX8_broken_135 rfl (lv_at hl 0 rfl) ?_
            refine lv_iload_n hx hb dX8_broken_136 rfl (lv_at hl 1 rfl) ?_
            refine lv_aload_n hx hb dX8_broken_137 rfl (lv_at hl 0 rfl) ?_
            refine va_get (D := D) (ci := 8) (v := .int (zI Mone_165)) (C := RX8) (T := TX8) (N := 36) hx hb hts hinX8 hown hK hw.1 0 rfl rfl 19 (by decide) (hts (.fieldLink RX8 168 "CarnivalRoadModel" "one" "I") (by decide +kernel)) (fun _ h9 => h9) rfl dX8_broken_138 ?_
            refine lv_aload_n hx hb dX8_broken_141 rfl (lv_at hl 0 rfl) ?_
            refine va_get (D := D) (ci := 8) (v := .int (zI Mtwo_181)) (C := RX8) (T := TX8) (N := 36) hx hb hts hinX8 hown hK hw.1 0 rfl rfl 20 (by decide) (hts (.fieldLink RX8 171 "CarnivalRoadModel" "two" "I") (by decide +kernel)) (fun _ h9 => h9) rfl dX8_broken_142 ?_
            have hF9 := z_free (wc := kM cI cB cZ oM Mthrown Mmany Mguest Mrow Mbars Mbar Mfresh Mtape Mtaped Mpos Mtoken MtokenAt Mvalue Mwrong MwrongAt MfaultKind MfaultPlace Mthing Morder Mone_165 Mtwo_181 Mbest Mcells Mgap Mwire Mstand Mruns Mminute Mhead Mplays Mrests Mwent Mout Mcame Mgone MlastOut) hw hA [0, 1, 2, 3, 4, 5, 6, 7, 8, 9, 10, 11, 12, 13, 14, 15, 16] rfl
            refine va_calli (va_runV (As := [.int (zI k_6), .int (zI Mone_165), .int (zI Mtwo_181)]) (rest := []) ⟨hx, hb, hml, hown, hts⟩ (c_X8_breaks l D cI cB cZ oM H.size Mthrown Mmany Mguest Mrow Mbars Mbar Mfresh Mtape Mtaped Mpos Mtoken MtokenAt Mvalue Mwrong MwrongAt MfaultKind MfaultPlace Mthing Morder Mone_165 Mtwo_181 Mbest Mcells Mgap Mwire Mstand Mruns Mminute Mhead Mplays Mrests Mwent Mout Mcame Mgone MlastOut k_6 Mone_165 Mtwo_181 (by omega) (by omega) qMguest qMrow (by omega) qMbar qMfresh qMtape (by omega) (by omega) (by omega) (by omega) (by omega) (by omega) (by omega) (by omega) (by omega) (by omega) qMorder (by omega) (by omega) qMbest (by omega) (by omega) qMwire qMstand (by omega) (by omega) qMhead qMplays qMrests qMwent qMout qMcame qMgone (by omega) (by omega) (by omega) (by omega)) (cwV 3 hts gX8_broken_X8_breaks rfl rfl rfl (by decide +kernel) ⟨Nat.le_of_ble_eq_true rfl, Nat.le_of_ble_eq_true rfl⟩) ⟨zPre_blind, va_recv hK hw.1 (ci := 8) (q0 := 0) rfl rfl, z_pre hK hw [0, 1, 2, 3, 4, 5, 6, 7, 8, 9, 10, 11, 12, 13, 14, 15, 16] (by decide) rfl⟩ rfl rfl hl.1 rfl (lv_room (Nat.le_of_ble_eq_true rfl)) dX8_broken_145 ⟨Nat.zero_le _, Nat.zero_le _⟩) hw.2.2 (fun q _ h => hF9 q h) hF9 (fun r9 u9 t9 H_191 locs9 ht9 hvm9 hq9 hB9 hz9 hk9 hS9 => ?_)
            obtain ⟨r_192, rfl⟩ : ∃ z, z = u9 := ⟨_, rfl⟩
            try dsimp only at hq9 hB9
            obtain ⟨rfl, hq9⟩ := hq9
            have hq_193 := hq9
            have hw : HW D A s.heap (kM cI cB cZ oM Mthrown Mmany Mguest Mrow Mbars Mbar Mfresh Mtape Mtaped Mpos Mtoken MtokenAt Mvalue Mwrong MwrongAt MfaultKind MfaultPlace Mthing Morder Mone_165 Mtwo_181 Mbest Mcells Mgap Mwire Mstand Mruns Mminute Mhead Mplays Mrests Mwent Mout Mcame Mgone MlastOut) H_191 locs9 := z_after (wc := kM cI cB cZ oM Mthrown Mmany Mguest Mrow Mbars Mbar Mfresh Mtape Mtaped Mpos Mtoken MtokenAt Mvalue Mwrong MwrongAt MfaultKind MfaultPlace Mthing Morder Mone_165 Mtwo_181 Mbest Mcells Mgap Mwire Mstand Mruns Mminute Mhead Mplays Mrests Mwent Mout Mcame Mgone MlastOut) hw [0, 1, 2, 3, 4, 5, 6, 7, 8, 9, 10, 11, 12, 13, 14, 15, 16] [] rfl rfl (by decide) (by decide) hF9 hk9 ht9 hB9 hS9 [0, 1, 2, 3, 4, 5, 6, 7, 8, 9, 10, 11, 12, 13, 14, 15, 16] (by decide) rfl
            clear hF9 ht9 hvm9 hB9 hz9 hk9 hS9 hq9
            rcases hq_193 with ⟨hc_194, rfl⟩ | ⟨hc_194, rfl⟩
            · skip
              refine z_if_eq (tgt := 153) hx hb dX8_broken_148 (by decide) (by omega) (fun hc_195 => absurd hc_195 (by omega)) (fun hc_195 => ?_)
              refine lv_iload_n hx hb dX8_broken_151 rfl (lv_at hl 1 rfl) ?_
              have hv_196 : (0 : Int) ≤ Mone_165 ∧ Mone_165 ≤ 8 := by
                first | assumption | omega | grind
              have hv_197 : (0 : Int) ≤ Mtwo_181 ∧ Mtwo_181 ≤ 8 := by
                first | assumption | omega | grind
              have hv_198 : -1 ≤ k_6 ∧ k_6 ≤ 10 := by
                first | assumption | omega | grind
              have hv_199 : ∃ x y, whyP ki lo sh wo on tw nu Morder Mmany Mbars k_6 x y ∧ (¬ k_6 = -1 → x = Mone_165 ∧ y = Mtwo_181) := by
                exact why_pair hp0 hp1 (by omega) (by omega) hp2 (by assumption) (by assumption) (by omega) (by omega) (by omega) (by assumption) (by assumption)
              exact W.iret (v := zI k_6) hx hb hr (fun t9 ht hW => ⟨⟨zI k_6, (k_6, Mone_165, Mtwo_181), rfl, ⟨rfl, ⟨hv_196, hv_197, hv_198, hv_199⟩⟩, by subst hAe; exact z_end hK hw ht hW⟩, by subst hAe; exact hw.2.2.F ht⟩) (by subst hAe; exact hw.2.2.2.2) dX8_broken_152
            · skip
              refine z_if_eq (tgt := 153) hx hb dX8_broken_148 (by decide) (by omega) (fun hc_200 => ?_) (fun hc_200 => absurd hc_200 (by omega))
              refine lv_aload_n hx hb dX8_broken_153 rfl (lv_at hl 0 rfl) ?_
              refine lv_dup hx hb dX8_broken_154 rfl ?_
              refine va_get (D := D) (ci := 8) (v := .int (zI Mtwo_181)) (C := RX8) (T := TX8) (N := 36) hx hb hts hinX8 hown hK hw.1 0 rfl rfl 20 (by decide) (hts (.fieldLink RX8 171 "CarnivalRoadModel" "two" "I") (by decide +kernel)) (fun _ h9 => h9) rfl dX8_broken_155 ?_
              refine z_iconst hx hb dX8_broken_158 ?_
              refine z_iadd hx hb dX8_broken_159 ?_
              refine z_put (D := D) (ci := 8) (v := .int (zI (Mtwo_181 + 1))) (ty := .int) (C := RX8) (T := TX8) (N := 36) (ws2 := kM cI cB cZ oM Mthrown Mmany Mguest Mrow Mbars Mbar Mfresh Mtape Mtaped Mpos Mtoken MtokenAt Mvalue Mwrong MwrongAt MfaultKind MfaultPlace Mthing Morder Mone_165 (Mtwo_181 + 1) Mbest Mcells Mgap Mwire Mstand Mruns Mminute Mhead Mplays Mrests Mwent Mout Mcame Mgone MlastOut) hx hb hts hinX8 tyX8 tyX8_ok nmX8 hown hK hw 0 rfl rfl 20 (by decide) (hts (.fieldLink RX8 171 "CarnivalRoadModel" "two" "I") (by decide +kernel)) (fun _ h9 => h9) rfl (by decide +kernel) rfl rfl (Nat.le_of_ble_eq_true rfl) dX8_broken_160 rfl (fun H locs hw => ?_)
              refine lv_goto (tgt := 124) hx hb dX8_broken_163 (by decide) ?_
              have hv_201 : (0 : Int) ≤ (Mtwo_181 + 1) ∧ (Mtwo_181 + 1) ≤ 8 := by
                first | assumption | omega | grind
              have hv_202 : Mone_165 < (Mtwo_181 + 1) ∧ (Mtwo_181 + 1) ≤ Mmany := by
                first | assumption | omega | grind
              have hv_203 : ∀ b, Mone_165 < b → b < (Mtwo_181 + 1) → ¬ brk ki lo sh wo on tw nu Morder k_6 Mone_165 b := by
                intro b h0 h1
                by_cases e : b = Mtwo_181
                · rw [e]; rw [← brM_iff hp0 hp1 (by omega) (by omega) (by omega) hp2]; assumption
                · exact (by assumption : ∀ b, Mone_165 < b → b < Mtwo_181 → ¬ brk ki lo sh wo on tw nu Morder k_6 Mone_165 b) b h0 (by omega)
              have hm_204 : (9 - (Mtwo_181 + 1)).toNat < (9 - Mtwo_181).toNat := by
                first | assumption | omega | grind
              exact ih_180 (Mtwo_181 + 1) _ _ _ ⟨hv_201, hv_202, hv_203, hw, lv_sub hl [0, 1] rfl⟩ hm_204
      · skip
        refine lv_aload_n hx hb dX8_broken_29 rfl (lv_at hl 1 rfl) ?_
        refine lv_iload_n hx hb dX8_broken_30 rfl (lv_at hl 0 rfl) ?_
        refine z_iconst hx hb dX8_broken_31 ?_
        refine z_icmp_eq (tgt := 42) hx hb dX8_broken_32 (by decide) (by omega) (fun hc_205 => ?_) (fun hc_205 => ?_)
        · skip
          refine z_iconst hx hb dX8_broken_42 ?_
          refine lv_goto (tgt := 52) hx hb dX8_broken_43 (by decide) ?_
          refine z_put (D := D) (ci := 8) (v := .int (zI 0)) (ty := .int) (C := RX8) (T := TX8) (N := 36) (ws2 := kM cI cB cZ oM Mthrown Mmany Mguest Mrow Mbars Mbar Mfresh Mtape Mtaped Mpos Mtoken MtokenAt Mvalue Mwrong MwrongAt MfaultKind MfaultPlace Mthing Morder 0 Mtwo_8 Mbest Mcells Mgap Mwire Mstand Mruns Mminute Mhead Mplays Mrests Mwent Mout Mcame Mgone MlastOut) hx hb hts hinX8 tyX8 tyX8_ok nmX8 hown hK hw 0 rfl rfl 19 (by decide) (hts (.fieldLink RX8 168 "CarnivalRoadModel" "one" "I") (by decide +kernel)) (fun _ h9 => h9) rfl (by decide +kernel) rfl rfl (Nat.le_of_ble_eq_true rfl) dX8_broken_52 rfl (fun H locs hw => ?_)
          refine lv_aload_n hx hb dX8_broken_55 rfl (lv_at hl 1 rfl) ?_
          refine lv_aload_n hx hb dX8_broken_56 rfl (lv_at hl 1 rfl) ?_
          refine va_get (D := D) (ci := 8) (v := .int (zI 0)) (C := RX8) (T := TX8) (N := 36) hx hb hts hinX8 hown hK hw.1 0 rfl rfl 19 (by decide) (hts (.fieldLink RX8 168 "CarnivalRoadModel" "one" "I") (by decide +kernel)) (fun _ h9 => h9) rfl dX8_broken_57 ?_
          refine z_put (D := D) (ci := 8) (v := .int (zI 0)) (ty := .int) (C := RX8) (T := TX8) (N := 36) (ws2 := kM cI cB cZ oM Mthrown Mmany Mguest Mrow Mbars Mbar Mfresh Mtape Mtaped Mpos Mtoken MtokenAt Mvalue Mwrong MwrongAt MfaultKind MfaultPlace Mthing Morder 0 0 Mbest Mcells Mgap Mwire Mstand Mruns Mminute Mhead Mplays Mrests Mwent Mout Mcame Mgone MlastOut) hx hb hts hinX8 tyX8 tyX8_ok nmX8 hown hK hw 0 rfl rfl 20 (by decide) (hts (.fieldLink RX8 171 "CarnivalRoadModel" "two" "I") (by decide +kernel)) (fun _ h9 => h9) rfl (by decide +kernel) rfl rfl (Nat.le_of_ble_eq_true rfl) dX8_broken_60 rfl (fun H locs hw => ?_)
          refine lv_aload_n hx hb dX8_broken_63 rfl (lv_at hl 1 rfl) ?_
          refine va_get (D := D) (ci := 8) (v := .int (zI Mmany)) (C := RX8) (T := TX8) (N := 36) hx hb hts hinX8 hown hK hw.1 0 rfl rfl 1 (by decide) (hts (.fieldLink RX8 72 "CarnivalRoadModel" "many" "I") (by decide +kernel)) (fun _ h9 => h9) rfl dX8_broken_64 ?_
          refine z_if_eq (tgt := 96) hx hb dX8_broken_67 (by decide) (by omega) (fun hc_206 => ?_) (fun hc_206 => ?_)
          · skip
            refine lv_iload_n hx hb dX8_broken_96 rfl (lv_at hl 2 rfl) ?_
            have hv_207 : (0 : Int) ≤ (0 : Int) ∧ (0 : Int) ≤ 8 := by
              first | assumption | omega | grind
            have hv_208 : (0 : Int) ≤ (0 : Int) ∧ (0 : Int) ≤ 8 := by
              first | assumption | omega | grind
            have hv_209 : -1 ≤ k_6 ∧ k_6 ≤ 10 := by
              first | assumption | omega | grind
            have hv_210 : ∃ x y, whyP ki lo sh wo on tw nu Morder Mmany Mbars k_6 x y ∧ (¬ k_6 = -1 → x = (0 : Int) ∧ y = (0 : Int)) := by
              exact why_end hp0 hp1 (by omega) (by omega) hp2 (by assumption) (by omega) (by first | assumption | (intro q; omega)) (by omega)
            exact W.iret (v := zI k_6) hx hb hr (fun t9 ht hW => ⟨⟨zI k_6, (k_6, 0, 0), rfl, ⟨rfl, ⟨hv_207, hv_208, hv_209, hv_210⟩⟩, by subst hAe; exact z_end hK hw ht hW⟩, by subst hAe; exact hw.2.2.F ht⟩) (by subst hAe; exact hw.2.2.2.2) dX8_broken_97
          · skip
            refine lv_aload_n hx hb dX8_broken_70 rfl (lv_at hl 1 rfl) ?_
            refine lv_aload_n hx hb dX8_broken_71 rfl (lv_at hl 1 rfl) ?_
            refine va_get (D := D) (ci := 8) (v := .ref (oM 6)) (C := RX8) (T := TX8) (N := 36) hx hb hts hinX8 hown hK hw.1 0 rfl rfl 18 (by decide) (hts (.fieldLink RX8 29 "CarnivalRoadModel" "order" "[I") (by decide +kernel)) (fun _ h9 => h9) rfl dX8_broken_72 ?_
            refine lv_aload_n hx hb dX8_broken_75 rfl (lv_at hl 1 rfl) ?_
            refine va_get (D := D) (ci := 8) (v := .int (zI 0)) (C := RX8) (T := TX8) (N := 36) hx hb hts hinX8 hown hK hw.1 0 rfl rfl 19 (by decide) (hts (.fieldLink RX8 168 "CarnivalRoadModel" "one" "I") (by decide +kernel)) (fun _ h9 => h9) rfl dX8_broken_76 ?_
            have hi_211 : (0 : Int) ≤ (0 : Int) ∧ (0 : Int) < ((8 : Nat) : Int) := by
              first | assumption | omega | grind
            refine z_iald (n := 8) (f := Morder) hx hb hK hw 6 rfl (by decide) hi_211 dX8_broken_79 ?_
            have hq_212 : 0 ≤ Morder 0 ∧ Morder 0 ≤ 7 := qMorder 0
            refine lv_aload_n hx hb dX8_broken_80 rfl (lv_at hl 1 rfl) ?_
            refine va_get (D := D) (ci := 8) (v := .ref (oM 3)) (C := RX8) (T := TX8) (N := 36) hx hb hts hinX8 hown hK hw.1 0 rfl rfl 5 (by decide) (hts (.fieldLink RX8 16 "CarnivalRoadModel" "bar" "[I") (by decide +kernel)) (fun _ h9 => h9) rfl dX8_broken_81 ?_
            refine z_iconst hx hb dX8_broken_84 ?_
            refine lv_iload_n hx hb dX8_broken_85 rfl (lv_at hl 2 rfl) ?_
            refine z_imul hx hb dX8_broken_86 ?_
            refine z_iconst hx hb dX8_broken_87 ?_
            refine z_iadd hx hb dX8_broken_88 ?_
            have hi_213 : (0 : Int) ≤ ((4 * k_6) + 1) ∧ ((4 * k_6) + 1) < ((40 : Nat) : Int) := by
              first | assumption | omega | grind
            refine z_iald (n := 40) (f := Mbar) hx hb hK hw 3 rfl (by decide) hi_213 dX8_broken_89 ?_
            have hq_214 : 0 ≤ Mbar ((4 * k_6) + 1) ∧ Mbar ((4 * k_6) + 1) ≤ 104 := qMbar ((4 * k_6) + 1)
            have hF9 := z_free (wc := kM cI cB cZ oM Mthrown Mmany Mguest Mrow Mbars Mbar Mfresh Mtape Mtaped Mpos Mtoken MtokenAt Mvalue Mwrong MwrongAt MfaultKind MfaultPlace Mthing Morder 0 0 Mbest Mcells Mgap Mwire Mstand Mruns Mminute Mhead Mplays Mrests Mwent Mout Mcame Mgone MlastOut) hw hA [0, 1, 2, 3, 4, 5, 6, 7, 8, 9, 10, 11, 12, 13, 14, 15, 16] rfl
            refine va_calli (va_runV (As := [.int (zI (Morder 0)), .int (zI (Mbar ((4 * k_6) + 1)))]) (rest := []) ⟨hx, hb, hml, hown, hts⟩ (c_X8_is l D cI cB cZ oM H.size Mthrown Mmany Mguest Mrow Mbars Mbar Mfresh Mtape Mtaped Mpos Mtoken MtokenAt Mvalue Mwrong MwrongAt MfaultKind MfaultPlace Mthing Morder 0 0 Mbest Mcells Mgap Mwire Mstand Mruns Mminute Mhead Mplays Mrests Mwent Mout Mcame Mgone MlastOut (Morder 0) (Mbar ((4 * k_6) + 1)) (by omega) (by omega) qMguest qMrow (by omega) qMbar qMfresh qMtape (by omega) (by omega) (by omega) (by omega) (by omega) (by omega) (by omega) (by omega) (by omega) (by omega) qMorder (by omega) (by omega) qMbest (by omega) (by omega) qMwire qMstand (by omega) (by omega) qMhead qMplays qMrests qMwent qMout qMcame qMgone (by omega) (by omega) (by omega)) (cwV 2 hts gX8_broken_X8_is rfl rfl rfl (by decide +kernel) ⟨Nat.le_of_ble_eq_true rfl, Nat.le_of_ble_eq_true rfl⟩) ⟨zPre_blind, va_recv hK hw.1 (ci := 8) (q0 := 0) rfl rfl, z_pre hK hw [0, 1, 2, 3, 4, 5, 6, 7, 8, 9, 10, 11, 12, 13, 14, 15, 16] (by decide) rfl⟩ rfl rfl hl.1 rfl (lv_room (Nat.le_of_ble_eq_true rfl)) dX8_broken_90 ⟨Nat.zero_le _, Nat.zero_le _⟩) hw.2.2 (fun q _ h => hF9 q h) hF9 (fun r9 u9 t9 H_215 locs9 ht9 hvm9 hq9 hB9 hz9 hk9 hS9 => ?_)
            obtain ⟨r_216, rfl⟩ : ∃ z, z = u9 := ⟨_, rfl⟩
            try dsimp only at hq9 hB9
            obtain ⟨rfl, hq9⟩ := hq9
            have hq_217 := hq9
            have hw : HW D A s.heap (kM cI cB cZ oM Mthrown Mmany Mguest Mrow Mbars Mbar Mfresh Mtape Mtaped Mpos Mtoken MtokenAt Mvalue Mwrong MwrongAt MfaultKind MfaultPlace Mthing Morder 0 0 Mbest Mcells Mgap Mwire Mstand Mruns Mminute Mhead Mplays Mrests Mwent Mout Mcame Mgone MlastOut) H_215 locs9 := z_after (wc := kM cI cB cZ oM Mthrown Mmany Mguest Mrow Mbars Mbar Mfresh Mtape Mtaped Mpos Mtoken MtokenAt Mvalue Mwrong MwrongAt MfaultKind MfaultPlace Mthing Morder 0 0 Mbest Mcells Mgap Mwire Mstand Mruns Mminute Mhead Mplays Mrests Mwent Mout Mcame Mgone MlastOut) hw [0, 1, 2, 3, 4, 5, 6, 7, 8, 9, 10, 11, 12, 13, 14, 15, 16] [] rfl rfl (by decide) (by decide) hF9 hk9 ht9 hB9 hS9 [0, 1, 2, 3, 4, 5, 6, 7, 8, 9, 10, 11, 12, 13, 14, 15, 16] (by decide) rfl
            clear hF9 ht9 hvm9 hB9 hz9 hk9 hS9 hq9
            rcases hq_217 with ⟨hc_218, rfl⟩ | ⟨hc_218, rfl⟩
            · skip
              refine z_if_ne (tgt := 179) hx hb dX8_broken_93 (by decide) (by omega) (fun hc_219 => ?_) (fun hc_219 => absurd hc_219 (by omega))
              refine z_iinc (k := 2) (lv' := [(1, .int (zI (k_6 + 1))), (2, .int (zI (Mbar (4 * k_6)))), (0, .ref (oM 0))]) hx hb dX8_broken_179 hl rfl (by decide) rfl (fun ls hl => ?_)
              refine lv_goto (tgt := 2) hx hb dX8_broken_182 (by decide) ?_
              have hv_220 : (0 : Int) ≤ (0 : Int) ∧ (0 : Int) ≤ 8 := by
                first | assumption | omega | grind
              have hv_221 : (0 : Int) ≤ (0 : Int) ∧ (0 : Int) ≤ 8 := by
                first | assumption | omega | grind
              have hv_222 : 0 ≤ (k_6 + 1) ∧ (k_6 + 1) ≤ Mbars := by
                first | assumption | omega | grind
              have hv_223 : ∀ a, 0 ≤ a → a < (k_6 + 1) → okP ki lo sh wo on tw nu Morder Mmany a := by
                refine all_s (by assumption) ?_
                first | exact ok_pair hp1 (by omega) (by omega) (by omega) (by assumption) (by omega) | exact ok_end hp0 hp1 (by omega) (by omega) hp2 (by assumption) (by omega) (by omega) (by omega)
              have hm_224 : (11 - (k_6 + 1)).toNat < (11 - k_6).toNat := by
                first | assumption | omega | grind
              exact ih_5 ((k_6 + 1), 0, 0) _ _ _ ⟨hv_220, hv_221, hv_222, hv_223, hw, lv_sub hl [2, 0] rfl⟩ hm_224
            · skip
              refine z_if_ne (tgt := 179) hx hb dX8_broken_93 (by decide) (by omega) (fun hc_225 => absurd hc_225 (by omega)) (fun hc_225 => ?_)
              refine lv_iload_n hx hb dX8_broken_96 rfl (lv_at hl 2 rfl) ?_
              have hv_226 : (0 : Int) ≤ (0 : Int) ∧ (0 : Int) ≤ 8 := by
                first | assumption | omega | grind
              have hv_227 : (0 : Int) ≤ (0 : Int) ∧ (0 : Int) ≤ 8 := by
                first | assumption | omega | grind
              have hv_228 : -1 ≤ k_6 ∧ k_6 ≤ 10 := by
                first | assumption | omega | grind
              have hv_229 : ∃ x y, whyP ki lo sh wo on tw nu Morder Mmany Mbars k_6 x y ∧ (¬ k_6 = -1 → x = (0 : Int) ∧ y = (0 : Int)) := by
                exact why_end hp0 hp1 (by omega) (by omega) hp2 (by assumption) (by omega) (by first | assumption | (intro q; omega)) (by omega)
              exact W.iret (v := zI k_6) hx hb hr (fun t9 ht hW => ⟨⟨zI k_6, (k_6, 0, 0), rfl, ⟨rfl, ⟨hv_226, hv_227, hv_228, hv_229⟩⟩, by subst hAe; exact z_end hK hw ht hW⟩, by subst hAe; exact hw.2.2.F ht⟩) (by subst hAe; exact hw.2.2.2.2) dX8_broken_97
        · skip
          refine lv_aload_n hx hb dX8_broken_35 rfl (lv_at hl 1 rfl) ?_
          refine va_get (D := D) (ci := 8) (v := .int (zI Mmany)) (C := RX8) (T := TX8) (N := 36) hx hb hts hinX8 hown hK hw.1 0 rfl rfl 1 (by decide) (hts (.fieldLink RX8 72 "CarnivalRoadModel" "many" "I") (by decide +kernel)) (fun _ h9 => h9) rfl dX8_broken_36 ?_
          refine z_if_ne (tgt := 46) hx hb dX8_broken_39 (by decide) (by omega) (fun hc_230 => ?_) (fun hc_230 => ?_)
          · skip
            refine lv_aload_n hx hb dX8_broken_46 rfl (lv_at hl 1 rfl) ?_
            refine va_get (D := D) (ci := 8) (v := .int (zI Mmany)) (C := RX8) (T := TX8) (N := 36) hx hb hts hinX8 hown hK hw.1 0 rfl rfl 1 (by decide) (hts (.fieldLink RX8 72 "CarnivalRoadModel" "many" "I") (by decide +kernel)) (fun _ h9 => h9) rfl dX8_broken_47 ?_
            refine z_iconst hx hb dX8_broken_50 ?_
            refine z_isub hx hb dX8_broken_51 ?_
            refine z_put (D := D) (ci := 8) (v := .int (zI (Mmany - 1))) (ty := .int) (C := RX8) (T := TX8) (N := 36) (ws2 := kM cI cB cZ oM Mthrown Mmany Mguest Mrow Mbars Mbar Mfresh Mtape Mtaped Mpos Mtoken MtokenAt Mvalue Mwrong MwrongAt MfaultKind MfaultPlace Mthing Morder (Mmany - 1) Mtwo_8 Mbest Mcells Mgap Mwire Mstand Mruns Mminute Mhead Mplays Mrests Mwent Mout Mcame Mgone MlastOut) hx hb hts hinX8 tyX8 tyX8_ok nmX8 hown hK hw 0 rfl rfl 19 (by decide) (hts (.fieldLink RX8 168 "CarnivalRoadModel" "one" "I") (by decide +kernel)) (fun _ h9 => h9) rfl (by decide +kernel) rfl rfl (Nat.le_of_ble_eq_true rfl) dX8_broken_52 rfl (fun H locs hw => ?_)
            refine lv_aload_n hx hb dX8_broken_55 rfl (lv_at hl 1 rfl) ?_
            refine lv_aload_n hx hb dX8_broken_56 rfl (lv_at hl 1 rfl) ?_
            refine va_get (D := D) (ci := 8) (v := .int (zI (Mmany - 1))) (C := RX8) (T := TX8) (N := 36) hx hb hts hinX8 hown hK hw.1 0 rfl rfl 19 (by decide) (hts (.fieldLink RX8 168 "CarnivalRoadModel" "one" "I") (by decide +kernel)) (fun _ h9 => h9) rfl dX8_broken_57 ?_
            refine z_put (D := D) (ci := 8) (v := .int (zI (Mmany - 1))) (ty := .int) (C := RX8) (T := TX8) (N := 36) (ws2 := kM cI cB cZ oM Mthrown Mmany Mguest Mrow Mbars Mbar Mfresh Mtape Mtaped Mpos Mtoken MtokenAt Mvalue Mwrong MwrongAt MfaultKind MfaultPlace Mthing Morder (Mmany - 1) (Mmany - 1) Mbest Mcells Mgap Mwire Mstand Mruns Mminute Mhead Mplays Mrests Mwent Mout Mcame Mgone MlastOut) hx hb hts hinX8 tyX8 tyX8_ok nmX8 hown hK hw 0 rfl rfl 20 (by decide) (hts (.fieldLink RX8 171 "CarnivalRoadModel" "two" "I") (by decide +kernel)) (fun _ h9 => h9) rfl (by decide +kernel) rfl rfl (Nat.le_of_ble_eq_true rfl) dX8_broken_60 rfl (fun H locs hw => ?_)
            refine lv_aload_n hx hb dX8_broken_63 rfl (lv_at hl 1 rfl) ?_
            refine va_get (D := D) (ci := 8) (v := .int (zI Mmany)) (C := RX8) (T := TX8) (N := 36) hx hb hts hinX8 hown hK hw.1 0 rfl rfl 1 (by decide) (hts (.fieldLink RX8 72 "CarnivalRoadModel" "many" "I") (by decide +kernel)) (fun _ h9 => h9) rfl dX8_broken_64 ?_
            refine z_if_eq (tgt := 96) hx hb dX8_broken_67 (by decide) (by omega) (fun hc_231 => ?_) (fun hc_231 => ?_)
            · skip
              refine lv_iload_n hx hb dX8_broken_96 rfl (lv_at hl 2 rfl) ?_
              have hv_232 : (0 : Int) ≤ (Mmany - 1) ∧ (Mmany - 1) ≤ 8 := by
                first | assumption | omega | grind
              have hv_233 : (0 : Int) ≤ (Mmany - 1) ∧ (Mmany - 1) ≤ 8 := by
                first | assumption | omega | grind
              have hv_234 : -1 ≤ k_6 ∧ k_6 ≤ 10 := by
                first | assumption | omega | grind
              have hv_235 : ∃ x y, whyP ki lo sh wo on tw nu Morder Mmany Mbars k_6 x y ∧ (¬ k_6 = -1 → x = (Mmany - 1) ∧ y = (Mmany - 1)) := by
                exact why_end hp0 hp1 (by omega) (by omega) hp2 (by assumption) (by omega) (by first | assumption | (intro q; omega)) (by omega)
              exact W.iret (v := zI k_6) hx hb hr (fun t9 ht hW => ⟨⟨zI k_6, (k_6, (Mmany - 1), (Mmany - 1)), rfl, ⟨rfl, ⟨hv_232, hv_233, hv_234, hv_235⟩⟩, by subst hAe; exact z_end hK hw ht hW⟩, by subst hAe; exact hw.2.2.F ht⟩) (by subst hAe; exact hw.2.2.2.2) dX8_broken_97
            · skip
              refine lv_aload_n hx hb dX8_broken_70 rfl (lv_at hl 1 rfl) ?_
              refine lv_aload_n hx hb dX8_broken_71 rfl (lv_at hl 1 rfl) ?_
              refine va_get (D := D) (ci := 8) (v := .ref (oM 6)) (C := RX8) (T := TX8) (N := 36) hx hb hts hinX8 hown hK hw.1 0 rfl rfl 18 (by decide) (hts (.fieldLink RX8 29 "CarnivalRoadModel" "order" "[I") (by decide +kernel)) (fun _ h9 => h9) rfl dX8_broken_72 ?_
              refine lv_aload_n hx hb dX8_broken_75 rfl (lv_at hl 1 rfl) ?_
              refine va_get (D := D) (ci := 8) (v := .int (zI (Mmany - 1))) (C := RX8) (T := TX8) (N := 36) hx hb hts hinX8 hown hK hw.1 0 rfl rfl 19 (by decide) (hts (.fieldLink RX8 168 "CarnivalRoadModel" "one" "I") (by decide +kernel)) (fun _ h9 => h9) rfl dX8_broken_76 ?_
              have hi_236 : (0 : Int) ≤ (Mmany - 1) ∧ (Mmany - 1) < ((8 : Nat) : Int) := by
                first | assumption | omega | grind
              refine z_iald (n := 8) (f := Morder) hx hb hK hw 6 rfl (by decide) hi_236 dX8_broken_79 ?_
              have hq_237 : 0 ≤ Morder (Mmany - 1) ∧ Morder (Mmany - 1) ≤ 7 := qMorder (Mmany - 1)
              refine lv_aload_n hx hb dX8_broken_80 rfl (lv_at hl 1 rfl) ?_
              refine va_get (D := D) (ci := 8) (v := .ref (oM 3)) (C := RX8) (T := TX8) (N := 36) hx hb hts hinX8 hown hK hw.1 0 rfl rfl 5 (by decide) (hts (.fieldLink RX8 16 "CarnivalRoadModel" "bar" "[I") (by decide +kernel)) (fun _ h9 => h9) rfl dX8_broken_81 ?_
              refine z_iconst hx hb dX8_broken_84 ?_
              refine lv_iload_n hx hb dX8_broken_85 rfl (lv_at hl 2 rfl) ?_
              refine z_imul hx hb dX8_broken_86 ?_
              refine z_iconst hx hb dX8_broken_87 ?_
              refine z_iadd hx hb dX8_broken_88 ?_
              have hi_238 : (0 : Int) ≤ ((4 * k_6) + 1) ∧ ((4 * k_6) + 1) < ((40 : Nat) : Int) := by
                first | assumption | omega | grind
              refine z_iald (n := 40) (f := Mbar) hx hb hK hw 3 rfl (by decide) hi_238 dX8_broken_89 ?_
              have hq_239 : 0 ≤ Mbar ((4 * k_6) + 1) ∧ Mbar ((4 * k_6) + 1) ≤ 104 := qMbar ((4 * k_6) + 1)
              have hF9 := z_free (wc := kM cI cB cZ oM Mthrown Mmany Mguest Mrow Mbars Mbar Mfresh Mtape Mtaped Mpos Mtoken MtokenAt Mvalue Mwrong MwrongAt MfaultKind MfaultPlace Mthing Morder (Mmany - 1) (Mmany - 1) Mbest Mcells Mgap Mwire Mstand Mruns Mminute Mhead Mplays Mrests Mwent Mout Mcame Mgone MlastOut) hw hA [0, 1, 2, 3, 4, 5, 6, 7, 8, 9, 10, 11, 12, 13, 14, 15, 16] rfl
              refine va_calli (va_runV (As := [.int (zI (Morder (Mmany - 1))), .int (zI (Mbar ((4 * k_6) + 1)))]) (rest := []) ⟨hx, hb, hml, hown, hts⟩ (c_X8_is l D cI cB cZ oM H.size Mthrown Mmany Mguest Mrow Mbars Mbar Mfresh Mtape Mtaped Mpos Mtoken MtokenAt Mvalue Mwrong MwrongAt MfaultKind MfaultPlace Mthing Morder (Mmany - 1) (Mmany - 1) Mbest Mcells Mgap Mwire Mstand Mruns Mminute Mhead Mplays Mrests Mwent Mout Mcame Mgone MlastOut (Morder (Mmany - 1)) (Mbar ((4 * k_6) + 1)) (by omega) (by omega) qMguest qMrow (by omega) qMbar qMfresh qMtape (by omega) (by omega) (by omega) (by omega) (by omega) (by omega) (by omega) (by omega) (by omega) (by omega) qMorder (by omega) (by omega) qMbest (by omega) (by omega) qMwire qMstand (by omega) (by omega) qMhead qMplays qMrests qMwent qMout qMcame qMgone (by omega) (by omega) (by omega)) (cwV 2 hts gX8_broken_X8_is rfl rfl rfl (by decide +kernel) ⟨Nat.le_of_ble_eq_true rfl, Nat.le_of_ble_eq_true rfl⟩) ⟨zPre_blind, va_recv hK hw.1 (ci := 8) (q0 := 0) rfl rfl, z_pre hK hw [0, 1, 2, 3, 4, 5, 6, 7, 8, 9, 10, 11, 12, 13, 14, 15, 16] (by decide) rfl⟩ rfl rfl hl.1 rfl (lv_room (Nat.le_of_ble_eq_true rfl)) dX8_broken_90 ⟨Nat.zero_le _, Nat.zero_le _⟩) hw.2.2 (fun q _ h => hF9 q h) hF9 (fun r9 u9 t9 H_240 locs9 ht9 hvm9 hq9 hB9 hz9 hk9 hS9 => ?_)
              obtain ⟨r_241, rfl⟩ : ∃ z, z = u9 := ⟨_, rfl⟩
              try dsimp only at hq9 hB9
              obtain ⟨rfl, hq9⟩ := hq9
              have hq_242 := hq9
              have hw : HW D A s.heap (kM cI cB cZ oM Mthrown Mmany Mguest Mrow Mbars Mbar Mfresh Mtape Mtaped Mpos Mtoken MtokenAt Mvalue Mwrong MwrongAt MfaultKind MfaultPlace Mthing Morder (Mmany - 1) (Mmany - 1) Mbest Mcells Mgap Mwire Mstand Mruns Mminute Mhead Mplays Mrests Mwent Mout Mcame Mgone MlastOut) H_240 locs9 := z_after (wc := kM cI cB cZ oM Mthrown Mmany Mguest Mrow Mbars Mbar Mfresh Mtape Mtaped Mpos Mtoken MtokenAt Mvalue Mwrong MwrongAt MfaultKind MfaultPlace Mthing Morder (Mmany - 1) (Mmany - 1) Mbest Mcells Mgap Mwire Mstand Mruns Mminute Mhead Mplays Mrests Mwent Mout Mcame Mgone MlastOut) hw [0, 1, 2, 3, 4, 5, 6, 7, 8, 9, 10, 11, 12, 13, 14, 15, 16] [] rfl rfl (by decide) (by decide) hF9 hk9 ht9 hB9 hS9 [0, 1, 2, 3, 4, 5, 6, 7, 8, 9, 10, 11, 12, 13, 14, 15, 16] (by decide) rfl
              clear hF9 ht9 hvm9 hB9 hz9 hk9 hS9 hq9
              rcases hq_242 with ⟨hc_243, rfl⟩ | ⟨hc_243, rfl⟩
              · skip
                refine z_if_ne (tgt := 179) hx hb dX8_broken_93 (by decide) (by omega) (fun hc_244 => ?_) (fun hc_244 => absurd hc_244 (by omega))
                refine z_iinc (k := 2) (lv' := [(1, .int (zI (k_6 + 1))), (2, .int (zI (Mbar (4 * k_6)))), (0, .ref (oM 0))]) hx hb dX8_broken_179 hl rfl (by decide) rfl (fun ls hl => ?_)
                refine lv_goto (tgt := 2) hx hb dX8_broken_182 (by decide) ?_
                have hv_245 : (0 : Int) ≤ (Mmany - 1) ∧ (Mmany - 1) ≤ 8 := by
                  first | assumption | omega | grind
                have hv_246 : (0 : Int) ≤ (Mmany - 1) ∧ (Mmany - 1) ≤ 8 := by
                  first | assumption | omega | grind
                have hv_247 : 0 ≤ (k_6 + 1) ∧ (k_6 + 1) ≤ Mbars := by
                  first | assumption | omega | grind
                have hv_248 : ∀ a, 0 ≤ a → a < (k_6 + 1) → okP ki lo sh wo on tw nu Morder Mmany a := by
                  refine all_s (by assumption) ?_
                  first | exact ok_pair hp1 (by omega) (by omega) (by omega) (by assumption) (by omega) | exact ok_end hp0 hp1 (by omega) (by omega) hp2 (by assumption) (by omega) (by omega) (by omega)
                have hm_249 : (11 - (k_6 + 1)).toNat < (11 - k_6).toNat := by
                  first | assumption | omega | grind
                exact ih_5 ((k_6 + 1), (Mmany - 1), (Mmany - 1)) _ _ _ ⟨hv_245, hv_246, hv_247, hv_248, hw, lv_sub hl [2, 0] rfl⟩ hm_249
              · skip
                refine z_if_ne (tgt := 179) hx hb dX8_broken_93 (by decide) (by omega) (fun hc_250 => absurd hc_250 (by omega)) (fun hc_250 => ?_)
                refine lv_iload_n hx hb dX8_broken_96 rfl (lv_at hl 2 rfl) ?_
                have hv_251 : (0 : Int) ≤ (Mmany - 1) ∧ (Mmany - 1) ≤ 8 := by
                  first | assumption | omega | grind
                have hv_252 : (0 : Int) ≤ (Mmany - 1) ∧ (Mmany - 1) ≤ 8 := by
                  first | assumption | omega | grind
                have hv_253 : -1 ≤ k_6 ∧ k_6 ≤ 10 := by
                  first | assumption | omega | grind
                have hv_254 : ∃ x y, whyP ki lo sh wo on tw nu Morder Mmany Mbars k_6 x y ∧ (¬ k_6 = -1 → x = (Mmany - 1) ∧ y = (Mmany - 1)) := by
                  exact why_end hp0 hp1 (by omega) (by omega) hp2 (by assumption) (by omega) (by first | assumption | (intro q; omega)) (by omega)
                exact W.iret (v := zI k_6) hx hb hr (fun t9 ht hW => ⟨⟨zI k_6, (k_6, (Mmany - 1), (Mmany - 1)), rfl, ⟨rfl, ⟨hv_251, hv_252, hv_253, hv_254⟩⟩, by subst hAe; exact z_end hK hw ht hW⟩, by subst hAe; exact hw.2.2.F ht⟩) (by subst hAe; exact hw.2.2.2.2) dX8_broken_97
          · skip
            refine z_iconst hx hb dX8_broken_42 ?_
            refine lv_goto (tgt := 52) hx hb dX8_broken_43 (by decide) ?_
            refine z_put (D := D) (ci := 8) (v := .int (zI 0)) (ty := .int) (C := RX8) (T := TX8) (N := 36) (ws2 := kM cI cB cZ oM Mthrown Mmany Mguest Mrow Mbars Mbar Mfresh Mtape Mtaped Mpos Mtoken MtokenAt Mvalue Mwrong MwrongAt MfaultKind MfaultPlace Mthing Morder 0 Mtwo_8 Mbest Mcells Mgap Mwire Mstand Mruns Mminute Mhead Mplays Mrests Mwent Mout Mcame Mgone MlastOut) hx hb hts hinX8 tyX8 tyX8_ok nmX8 hown hK hw 0 rfl rfl 19 (by decide) (hts (.fieldLink RX8 168 "CarnivalRoadModel" "one" "I") (by decide +kernel)) (fun _ h9 => h9) rfl (by decide +kernel) rfl rfl (Nat.le_of_ble_eq_true rfl) dX8_broken_52 rfl (fun H locs hw => ?_)
            refine lv_aload_n hx hb dX8_broken_55 rfl (lv_at hl 1 rfl) ?_
            refine lv_aload_n hx hb dX8_broken_56 rfl (lv_at hl 1 rfl) ?_
            refine va_get (D := D) (ci := 8) (v := .int (zI 0)) (C := RX8) (T := TX8) (N := 36) hx hb hts hinX8 hown hK hw.1 0 rfl rfl 19 (by decide) (hts (.fieldLink RX8 168 "CarnivalRoadModel" "one" "I") (by decide +kernel)) (fun _ h9 => h9) rfl dX8_broken_57 ?_
            refine z_put (D := D) (ci := 8) (v := .int (zI 0)) (ty := .int) (C := RX8) (T := TX8) (N := 36) (ws2 := kM cI cB cZ oM Mthrown Mmany Mguest Mrow Mbars Mbar Mfresh Mtape Mtaped Mpos Mtoken MtokenAt Mvalue Mwrong MwrongAt MfaultKind MfaultPlace Mthing Morder 0 0 Mbest Mcells Mgap Mwire Mstand Mruns Mminute Mhead Mplays Mrests Mwent Mout Mcame Mgone MlastOut) hx hb hts hinX8 tyX8 tyX8_ok nmX8 hown hK hw 0 rfl rfl 20 (by decide) (hts (.fieldLink RX8 171 "CarnivalRoadModel" "two" "I") (by decide +kernel)) (fun _ h9 => h9) rfl (by decide +kernel) rfl rfl (Nat.le_of_ble_eq_true rfl) dX8_broken_60 rfl (fun H locs hw => ?_)
            refine lv_aload_n hx hb dX8_broken_63 rfl (lv_at hl 1 rfl) ?_
            refine va_get (D := D) (ci := 8) (v := .int (zI Mmany)) (C := RX8) (T := TX8) (N := 36) hx hb hts hinX8 hown hK hw.1 0 rfl rfl 1 (by decide) (hts (.fieldLink RX8 72 "CarnivalRoadModel" "many" "I") (by decide +kernel)) (fun _ h9 => h9) rfl dX8_broken_64 ?_
            refine z_if_eq (tgt := 96) hx hb dX8_broken_67 (by decide) (by omega) (fun hc_255 => ?_) (fun hc_255 => ?_)
            · skip
              refine lv_iload_n hx hb dX8_broken_96 rfl (lv_at hl 2 rfl) ?_
              have hv_256 : (0 : Int) ≤ (0 : Int) ∧ (0 : Int) ≤ 8 := by
                first | assumption | omega | grind
              have hv_257 : (0 : Int) ≤ (0 : Int) ∧ (0 : Int) ≤ 8 := by
                first | assumption | omega | grind
              have hv_258 : -1 ≤ k_6 ∧ k_6 ≤ 10 := by
                first | assumption | omega | grind
              have hv_259 : ∃ x y, whyP ki lo sh wo on tw nu Morder Mmany Mbars k_6 x y ∧ (¬ k_6 = -1 → x = (0 : Int) ∧ y = (0 : Int)) := by
                exact why_end hp0 hp1 (by omega) (by omega) hp2 (by assumption) (by omega) (by first | assumption | (intro q; omega)) (by omega)
              exact W.iret (v := zI k_6) hx hb hr (fun t9 ht hW => ⟨⟨zI k_6, (k_6, 0, 0), rfl, ⟨rfl, ⟨hv_256, hv_257, hv_258, hv_259⟩⟩, by subst hAe; exact z_end hK hw ht hW⟩, by subst hAe; exact hw.2.2.F ht⟩) (by subst hAe; exact hw.2.2.2.2) dX8_broken_97
            · skip
              refine lv_aload_n hx hb dX8_broken_70 rfl (lv_at hl 1 rfl) ?_
              refine lv_aload_n hx hb dX8_broken_71 rfl (lv_at hl 1 rfl) ?_
              refine va_get (D := D) (ci := 8) (v := .ref (oM 6)) (C := RX8) (T := TX8) (N := 36) hx hb hts hinX8 hown hK hw.1 0 rfl rfl 18 (by decide) (hts (.fieldLink RX8 29 "CarnivalRoadModel" "order" "[I") (by decide +kernel)) (fun _ h9 => h9) rfl dX8_broken_72 ?_
              refine lv_aload_n hx hb dX8_broken_75 rfl (lv_at hl 1 rfl) ?_
              refine va_get (D := D) (ci := 8) (v := .int (zI 0)) (C := RX8) (T := TX8) (N := 36) hx hb hts hinX8 hown hK hw.1 0 rfl rfl 19 (by decide) (hts (.fieldLink RX8 168 "CarnivalRoadModel" "one" "I") (by decide +kernel)) (fun _ h9 => h9) rfl dX8_broken_76 ?_
              have hi_260 : (0 : Int) ≤ (0 : Int) ∧ (0 : Int) < ((8 : Nat) : Int) := by
                first | assumption | omega | grind
              refine z_iald (n := 8) (f := Morder) hx hb hK hw 6 rfl (by decide) hi_260 dX8_broken_79 ?_
              have hq_261 : 0 ≤ Morder 0 ∧ Morder 0 ≤ 7 := qMorder 0
              refine lv_aload_n hx hb dX8_broken_80 rfl (lv_at hl 1 rfl) ?_
              refine va_get (D := D) (ci := 8) (v := .ref (oM 3)) (C := RX8) (T := TX8) (N := 36) hx hb hts hinX8 hown hK hw.1 0 rfl rfl 5 (by decide) (hts (.fieldLink RX8 16 "CarnivalRoadModel" "bar" "[I") (by decide +kernel)) (fun _ h9 => h9) rfl dX8_broken_81 ?_
              refine z_iconst hx hb dX8_broken_84 ?_
              refine lv_iload_n hx hb dX8_broken_85 rfl (lv_at hl 2 rfl) ?_
              refine z_imul hx hb dX8_broken_86 ?_
              refine z_iconst hx hb dX8_broken_87 ?_
              refine z_iadd hx hb dX8_broken_88 ?_
              have hi_262 : (0 : Int) ≤ ((4 * k_6) + 1) ∧ ((4 * k_6) + 1) < ((40 : Nat) : Int) := by
                first | assumption | omega | grind
              refine z_iald (n := 40) (f := Mbar) hx hb hK hw 3 rfl (by decide) hi_262 dX8_broken_89 ?_
              have hq_263 : 0 ≤ Mbar ((4 * k_6) + 1) ∧ Mbar ((4 * k_6) + 1) ≤ 104 := qMbar ((4 * k_6) + 1)
              have hF9 := z_free (wc := kM cI cB cZ oM Mthrown Mmany Mguest Mrow Mbars Mbar Mfresh Mtape Mtaped Mpos Mtoken MtokenAt Mvalue Mwrong MwrongAt MfaultKind MfaultPlace Mthing Morder 0 0 Mbest Mcells Mgap Mwire Mstand Mruns Mminute Mhead Mplays Mrests Mwent Mout Mcame Mgone MlastOut) hw hA [0, 1, 2, 3, 4, 5, 6, 7, 8, 9, 10, 11, 12, 13, 14, 15, 16] rfl
              refine va_calli (va_runV (As := [.int (zI (Morder 0)), .int (zI (Mbar ((4 * k_6) + 1)))]) (rest := []) ⟨hx, hb, hml, hown, hts⟩ (c_X8_is l D cI cB cZ oM H.size Mthrown Mmany Mguest Mrow Mbars Mbar Mfresh Mtape Mtaped Mpos Mtoken MtokenAt Mvalue Mwrong MwrongAt MfaultKind MfaultPlace Mthing Morder 0 0 Mbest Mcells Mgap Mwire Mstand Mruns Mminute Mhead Mplays Mrests Mwent Mout Mcame Mgone MlastOut (Morder 0) (Mbar ((4 * k_6) + 1)) (by omega) (by omega) qMguest qMrow (by omega) qMbar qMfresh qMtape (by omega) (by omega) (by omega) (by omega) (by omega) (by omega) (by omega) (by omega) (by omega) (by omega) qMorder (by omega) (by omega) qMbest (by omega) (by omega) qMwire qMstand (by omega) (by omega) qMhead qMplays qMrests qMwent qMout qMcame qMgone (by omega) (by omega) (by omega)) (cwV 2 hts gX8_broken_X8_is rfl rfl rfl (by decide +kernel) ⟨Nat.le_of_ble_eq_true rfl, Nat.le_of_ble_eq_true rfl⟩) ⟨zPre_blind, va_recv hK hw.1 (ci := 8) (q0 := 0) rfl rfl, z_pre hK hw [0, 1, 2, 3, 4, 5, 6, 7, 8, 9, 10, 11, 12, 13, 14, 15, 16] (by decide) rfl⟩ rfl rfl hl.1 rfl (lv_room (Nat.le_of_ble_eq_true rfl)) dX8_broken_90 ⟨Nat.zero_le _, Nat.zero_le _⟩) hw.2.2 (fun q _ h => hF9 q h) hF9 (fun r9 u9 t9 H_264 locs9 ht9 hvm9 hq9 hB9 hz9 hk9 hS9 => ?_)
              obtain ⟨r_265, rfl⟩ : ∃ z, z = u9 := ⟨_, rfl⟩
              try dsimp only at hq9 hB9
              obtain ⟨rfl, hq9⟩ := hq9
              have hq_266 := hq9
              have hw : HW D A s.heap (kM cI cB cZ oM Mthrown Mmany Mguest Mrow Mbars Mbar Mfresh Mtape Mtaped Mpos Mtoken MtokenAt Mvalue Mwrong MwrongAt MfaultKind MfaultPlace Mthing Morder 0 0 Mbest Mcells Mgap Mwire Mstand Mruns Mminute Mhead Mplays Mrests Mwent Mout Mcame Mgone MlastOut) H_264 locs9 := z_after (wc := kM cI cB cZ oM Mthrown Mmany Mguest Mrow Mbars Mbar Mfresh Mtape Mtaped Mpos Mtoken MtokenAt Mvalue Mwrong MwrongAt MfaultKind MfaultPlace Mthing Morder 0 0 Mbest Mcells Mgap Mwire Mstand Mruns Mminute Mhead Mplays Mrests Mwent Mout Mcame Mgone MlastOut) hw [0, 1, 2, 3, 4, 5, 6, 7, 8, 9, 10, 11, 12, 13, 14, 15, 16] [] rfl rfl (by decide) (by decide) hF9 hk9 ht9 hB9 hS9 [0, 1, 2, 3, 4, 5, 6, 7, 8, 9, 10, 11, 12, 13, 14, 15, 16] (by decide) rfl
              clear hF9 ht9 hvm9 hB9 hz9 hk9 hS9 hq9
              rcases hq_266 with ⟨hc_267, rfl⟩ | ⟨hc_267, rfl⟩
              · skip
                refine z_if_ne (tgt := 179) hx hb dX8_broken_93 (by decide) (by omega) (fun hc_268 => ?_) (fun hc_268 => absurd hc_268 (by omega))
                refine z_iinc (k := 2) (lv' := [(1, .int (zI (k_6 + 1))), (2, .int (zI (Mbar (4 * k_6)))), (0, .ref (oM 0))]) hx hb dX8_broken_179 hl rfl (by decide) rfl (fun ls hl => ?_)
                refine lv_goto (tgt := 2) hx hb dX8_broken_182 (by decide) ?_
                have hv_269 : (0 : Int) ≤ (0 : Int) ∧ (0 : Int) ≤ 8 := by
                  first | assumption | omega | grind
                have hv_270 : (0 : Int) ≤ (0 : Int) ∧ (0 : Int) ≤ 8 := by
                  first | assumption | omega | grind
                have hv_271 : 0 ≤ (k_6 + 1) ∧ (k_6 + 1) ≤ Mbars := by
                  first | assumption | omega | grind
                have hv_272 : ∀ a, 0 ≤ a → a < (k_6 + 1) → okP ki lo sh wo on tw nu Morder Mmany a := by
                  refine all_s (by assumption) ?_
                  first | exact ok_pair hp1 (by omega) (by omega) (by omega) (by assumption) (by omega) | exact ok_end hp0 hp1 (by omega) (by omega) hp2 (by assumption) (by omega) (by omega) (by omega)
                have hm_273 : (11 - (k_6 + 1)).toNat < (11 - k_6).toNat := by
                  first | assumption | omega | grind
                exact ih_5 ((k_6 + 1), 0, 0) _ _ _ ⟨hv_269, hv_270, hv_271, hv_272, hw, lv_sub hl [2, 0] rfl⟩ hm_273
              · skip
                refine z_if_ne (tgt := 179) hx hb dX8_broken_93 (by decide) (by omega) (fun hc_274 => absurd hc_274 (by omega)) (fun hc_274 => ?_)
                refine lv_iload_n hx hb dX8_broken_96 rfl (lv_at hl 2 rfl) ?_
                have hv_275 : (0 : Int) ≤ (0 : Int) ∧ (0 : Int) ≤ 8 := by
                  first | assumption | omega | grind
                have hv_276 : (0 : Int) ≤ (0 : Int) ∧ (0 : Int) ≤ 8 := by
                  first | assumption | omega | grind
                have hv_277 : -1 ≤ k_6 ∧ k_6 ≤ 10 := by
                  first | assumption | omega | grind
                have hv_278 : ∃ x y, whyP ki lo sh wo on tw nu Morder Mmany Mbars k_6 x y ∧ (¬ k_6 = -1 → x = (0 : Int) ∧ y = (0 : Int)) := by
                  exact why_end hp0 hp1 (by omega) (by omega) hp2 (by assumption) (by omega) (by first | assumption | (intro q; omega)) (by omega)
                exact W.iret (v := zI k_6) hx hb hr (fun t9 ht hW => ⟨⟨zI k_6, (k_6, 0, 0), rfl, ⟨rfl, ⟨hv_275, hv_276, hv_277, hv_278⟩⟩, by subst hAe; exact z_end hK hw ht hW⟩, by subst hAe; exact hw.2.2.F ht⟩) (by subst hAe; exact hw.2.2.2.2) dX8_broken_97
