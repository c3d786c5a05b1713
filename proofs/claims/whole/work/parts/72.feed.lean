set_option maxRecDepth 100000 in
set_option maxHeartbeats 4000000 in
theorem c_X8_feed (l : Launch) (D : va_G) (cI cB cZ : ClassId) (oM : Nat → Nat) (sz : Nat) (Mthrown : Int) (Mmany : Int) (Mguest : Int → Int) (Mrow : Int → Int) (Mbars : Int) (Mbar : Int → Int) (Mfresh : Int → Int) (Mtape : Int → Int) (Mtaped : Int) (Mpos : Int) (Mtoken : Int) (MtokenAt : Int) (Mvalue : Int) (Mwrong : Int) (MwrongAt : Int) (MfaultKind : Int) (MfaultPlace : Int) (Mthing : Int) (Morder : Int → Int) (Mone : Int) (Mtwo : Int) (Mbest : Int → Int) (Mcells : Int) (Mgap : Int) (Mwire : Int → Int) (Mstand : Int → Int) (Mruns : Int) (Mminute : Int) (Mhead : Int → Int) (Mplays : Int → Int) (Mrests : Int → Int) (Mwent : Int → Int) (Mout : Int → Int) (Mcame : Int → Int) (Mgone : Int → Int) (MlastOut : Int) (a : Int) (b : Int) (c : Int) (d : Int) (e : Int) (qMthrown : 0 ≤ Mthrown ∧ Mthrown ≤ 2) (qMmany : 0 ≤ Mmany ∧ Mmany ≤ 8) (qMguest : RA Mguest (0) 9) (qMrow : RA Mrow (0) 7) (qMbars : 0 ≤ Mbars ∧ Mbars ≤ 10) (qMbar : RA Mbar (0) 104) (qMfresh : RA Mfresh (0) 104) (qMtape : RA Mtape (0) 255) (qMtaped : 0 ≤ Mtaped ∧ Mtaped ≤ 400) (qMpos : 0 ≤ Mpos ∧ Mpos ≤ 400) (qMtoken : 0 ≤ Mtoken ∧ Mtoken ≤ 15) (qMtokenAt : 0 ≤ MtokenAt ∧ MtokenAt ≤ 400) (qMvalue : 0 ≤ Mvalue ∧ Mvalue ≤ 99) (qMwrong : 0 ≤ Mwrong ∧ Mwrong ≤ 3) (qMwrongAt : 0 ≤ MwrongAt ∧ MwrongAt ≤ 400) (qMfaultKind : 0 ≤ MfaultKind ∧ MfaultKind ≤ 3) (qMfaultPlace : -1 ≤ MfaultPlace ∧ MfaultPlace ≤ 400) (qMthing : 0 ≤ Mthing ∧ Mthing ≤ 104) (qMorder : RA Morder (0) 7) (qMone : 0 ≤ Mone ∧ Mone ≤ 8) (qMtwo : 0 ≤ Mtwo ∧ Mtwo ≤ 8) (qMbest : RA Mbest (0) 7) (qMcells : 1 ≤ Mcells ∧ Mcells ≤ 50) (qMgap : 0 ≤ Mgap ∧ Mgap ≤ 3) (qMwire : RA Mwire (0) 9) (qMstand : RA Mstand (0) 9) (qMruns : 0 ≤ Mruns ∧ Mruns ≤ 1) (qMminute : 0 ≤ Mminute ∧ Mminute ≤ 1000000) (qMhead : RA Mhead (-1) 60) (qMplays : RA Mplays (0) 18) (qMrests : RA Mrests (0) 3) (qMwent : RA Mwent (0) 61) (qMout : RA Mout (0) 1) (qMcame : RA Mcame (-1) 1000000) (qMgone : RA Mgone (-1) 1000000) (qMlastOut : 0 ≤ MlastOut ∧ MlastOut ≤ 1000000) (qa : -2147483648 ≤ a ∧ a ≤ 2147483647) (qb : -2147483648 ≤ b ∧ b ≤ 2147483647) (qc : -2147483648 ≤ c ∧ c ≤ 2147483647) (qd : -2147483648 ≤ d ∧ d ≤ 2147483647) (qe : -2147483648 ≤ e ∧ e ≤ 2147483647) : Met l yX8_feed wsX8_feed ({ frames := 0, cells := 0, slots := 0, locals := 0 }) (va_Pc [.ref (oM 0), .int (zI a), .int (zI b), .int (zI c), .int (zI d), .int (zI e)] (zPre D cI cB cZ sz (kM cI cB cZ oM Mthrown Mmany Mguest Mrow Mbars Mbar Mfresh Mtape Mtaped Mpos Mtoken MtokenAt Mvalue Mwrong MwrongAt MfaultKind MfaultPlace Mthing Morder Mone Mtwo Mbest Mcells Mgap Mwire Mstand Mruns Mminute Mhead Mplays Mrests Mwent Mout Mcame Mgone MlastOut))) (va_Qi (fun (r9 : Int32) (u9 : Int × Int × (Int → Int) × Int) => r9 = zI u9.1 ∧ (((0 : Int) ≤ u9.2.1 ∧ u9.2.1 ≤ 2) ∧ (RA u9.2.2.1 (0) 255) ∧ ((0 : Int) ≤ u9.2.2.2 ∧ u9.2.2.2 ≤ 400) ∧ ((400 < Mtaped + 20 ∧ u9.1 = -1 ∧ u9.2.2.1 = Mtape ∧ u9.2.2.2 = Mtaped) ∨ (Mtaped + 20 ≤ 400 ∧ u9.1 = u9.2.2.2 ∧ u9.2.2.2 = Mtaped + 20 ∧ fedP uB Mtape u9.2.2.1 Mtaped a b c d e)) ∧ (u9.2.1 = 0))) (fun u9 t9 => zAt D cI cB cZ (va_A (kM cI cB cZ oM Mthrown Mmany Mguest Mrow Mbars Mbar Mfresh Mtape Mtaped Mpos Mtoken MtokenAt Mvalue Mwrong MwrongAt MfaultKind MfaultPlace Mthing Morder Mone Mtwo Mbest Mcells Mgap Mwire Mstand Mruns Mminute Mhead Mplays Mrests Mwent Mout Mcame Mgone MlastOut) sz) (kM cI cB cZ oM (u9.2.1) Mmany Mguest Mrow Mbars Mbar Mfresh (u9.2.2.1) (u9.2.2.2) Mpos Mtoken MtokenAt Mvalue Mwrong MwrongAt MfaultKind MfaultPlace Mthing Morder Mone Mtwo Mbest Mcells Mgap Mwire Mstand Mruns Mminute Mhead Mplays Mrests Mwent Mout Mcame Mgone MlastOut) t9) (va_A (kM cI cB cZ oM Mthrown Mmany Mguest Mrow Mbars Mbar Mfresh Mtape Mtaped Mpos Mtoken MtokenAt Mvalue Mwrong MwrongAt MfaultKind MfaultPlace Mthing Morder Mone Mtwo Mbest Mcells Mgap Mwire Mstand Mruns Mminute Mhead Mplays Mrests Mwent Mout Mcame Mgone MlastOut) sz)) 0 0 (va_A (kM cI cB cZ oM Mthrown Mmany Mguest Mrow Mbars Mbar Mfresh Mtape Mtaped Mpos Mtoken MtokenAt Mvalue Mwrong MwrongAt MfaultKind MfaultPlace Mthing Morder Mone Mtwo Mbest Mcells Mgap Mwire Mstand Mruns Mminute Mhead Mplays Mrests Mwent Mout Mcame Mgone MlastOut) sz) := by
  refine Met.ofW (cc := cX8_feed) (maxL := 8) (ret := (some .int)) (by decide) rfl ?_
  intro pp ee s mm aa bw mt cd s₁ BL hml hv
  obtain ⟨rfl, hsz, hP, hK, hD0⟩ := hv
  have hx := BL.exec
  have hb := BL.bytes
  have hr := BL.returns
  have hts := atoms_spec (ws := wsX8_feed) BL.pre
  have hown : s.vm.findClass RX8 = some mm.cls := findClass_of_methodNamed BL.named
  have hlocks := BL.notSynchronized
  subst hsz
  generalize hAe : va_A (kM cI cB cZ oM Mthrown Mmany Mguest Mrow Mbars Mbar Mfresh Mtape Mtaped Mpos Mtoken MtokenAt Mvalue Mwrong MwrongAt MfaultKind MfaultPlace Mthing Morder Mone Mtwo Mbest Mcells Mgap Mwire Mstand Mruns Mminute Mhead Mplays Mrests Mwent Mout Mcame Mgone MlastOut) s.heap.size = A
  have hA : ∀ q : Nat, s.heap.size ≤ q → A q := fun q h => by rw [← hAe]; exact Or.inr h
  have hw : HW D A s.heap (kM cI cB cZ oM Mthrown Mmany Mguest Mrow Mbars Mbar Mfresh Mtape Mtaped Mpos Mtoken MtokenAt Mvalue Mwrong MwrongAt MfaultKind MfaultPlace Mthing Morder Mone Mtwo Mbest Mcells Mgap Mwire Mstand Mruns Mminute Mhead Mplays Mrests Mwent Mout Mcame Mgone MlastOut) s.heap [] := z_start hAe hP hD0
  clear hP hD0
  have hl := lv_entry ([.ref (oM 0), .int (zI a), .int (zI b), .int (zI c), .int (zI d), .int (zI e)]) (n := 8) (Nat.le_of_ble_eq_true rfl)
  rw [lg_entry_eq]
  generalize (lg_sl ([.ref (oM 0), .int (zI a), .int (zI b), .int (zI c), .int (zI d), .int (zI e)]) ++ List.replicate (8 - (lg_sl ([.ref (oM 0), .int (zI a), .int (zI b), .int (zI c), .int (zI d), .int (zI e)])).length) Slot.unset).toArray = ls at hl ⊢
  have hl : lv_has ls 8 [(0, .ref (oM 0)), (1, .int (zI a)), (2, .int (zI b)), (3, .int (zI c)), (4, .int (zI d)), (5, .int (zI e))] := hl
  have hinX8 : ∀ w ∈ wsX80, w ∈ wsX8_feed := by decide +kernel
  refine lv_aload_n hx hb dX8_feed_0 rfl (lv_at hl 0 rfl) ?_
  refine z_iconst hx hb dX8_feed_1 ?_
  refine z_put (D := D) (ci := 8) (v := .int (zI 0)) (ty := .int) (C := RX8) (T := TX8) (N := 36) (ws2 := kM cI cB cZ oM 0 Mmany Mguest Mrow Mbars Mbar Mfresh Mtape Mtaped Mpos Mtoken MtokenAt Mvalue Mwrong MwrongAt MfaultKind MfaultPlace Mthing Morder Mone Mtwo Mbest Mcells Mgap Mwire Mstand Mruns Mminute Mhead Mplays Mrests Mwent Mout Mcame Mgone MlastOut) hx hb hts hinX8 tyX8 tyX8_ok nmX8 hown hK hw 0 rfl rfl 0 (by decide) (hts (.fieldLink RX8 69 "CarnivalRoadModel" "thrown" "I") (by decide +kernel)) (fun _ h9 => h9) rfl (by decide +kernel) rfl rfl (Nat.le_of_ble_eq_true rfl) dX8_feed_2 rfl (fun H locs hw => ?_)
  refine lv_aload_n hx hb dX8_feed_5 rfl (lv_at hl 0 rfl) ?_
  refine va_get (D := D) (ci := 8) (v := .int (zI Mtaped)) (C := RX8) (T := TX8) (N := 36) hx hb hts hinX8 hown hK hw.1 0 rfl rfl 8 (by decide) (hts (.fieldLink RX8 95 "CarnivalRoadModel" "taped" "I") (by decide +kernel)) (fun _ h9 => h9) rfl dX8_feed_6 ?_
  refine z_bipush hx hb dX8_feed_9 (by decide) ?_
  refine z_iadd hx hb dX8_feed_11 ?_
  refine z_sipush hx hb dX8_feed_12 (by decide) ?_
  refine z_icmp_le (tgt := 20) hx hb dX8_feed_15 (by decide) (by omega) (fun hc_1 => ?_) (fun hc_1 => ?_)
  · skip
    refine z_iconst hx hb dX8_feed_20 ?_
    refine lv_istore (lv' := [(6, .int (zI 0)), (0, .ref (oM 0)), (1, .int (zI a)), (2, .int (zI b)), (3, .int (zI c)), (4, .int (zI d)), (5, .int (zI e))]) hx hb dX8_feed_21 hl (by decide) rfl (fun ls hl => ?_)
    have hv_2 : (0 : Int) ≤ Mtaped ∧ Mtaped ≤ 400 := by
      first | assumption | omega | grind
    have hv_3 : 0 ≤ (0 : Int) ∧ (0 : Int) ≤ 20 := by
      first | assumption | omega | grind
    have hv_4 : Mtaped = Mtaped + (0 : Int) := by
      first | assumption | omega | grind
    have hv_5 : ∀ j, 0 ≤ j → j < Mtaped → Mtape j = Mtape j := by
      intro j _ _; rfl
    have hv_6 : ∀ j, 0 ≤ j → j < (0 : Int) → Mtape (Mtaped + j) = fdB a b c d e j := by
      exact all_0
    refine z_loop (σ := Int × (Int → Int) × Int) (μ := fun x9 => (20 - (x9.1)).toNat) (I := fun x9 H locs ls => (RA (x9.2.1) (0) 255) ∧ ((0 : Int) ≤ (x9.2.2) ∧ (x9.2.2) ≤ 400) ∧ (0 ≤ (x9.1) ∧ (x9.1) ≤ 20) ∧ ((x9.2.2) = Mtaped + (x9.1)) ∧ (∀ j, 0 ≤ j → j < Mtaped → (x9.2.1) j = Mtape j) ∧ (∀ j, 0 ≤ j → j < (x9.1) → (x9.2.1) (Mtaped + j) = fdB a b c d e j) ∧ HW D A s.heap (kM cI cB cZ oM 0 Mmany Mguest Mrow Mbars Mbar Mfresh (x9.2.1) (x9.2.2) Mpos Mtoken MtokenAt Mvalue Mwrong MwrongAt MfaultKind MfaultPlace Mthing Morder Mone Mtwo Mbest Mcells Mgap Mwire Mstand Mruns Mminute Mhead Mplays Mrests Mwent Mout Mcame Mgone MlastOut) H locs ∧ lv_has ls 8 [(0, .ref (oM 0)), (1, .int (zI a)), (2, .int (zI b)), (3, .int (zI c)), (4, .int (zI d)), (5, .int (zI e)), (6, .int (zI (x9.1)))]) (0, Mtape, Mtaped) ⟨qMtape, hv_2, hv_3, hv_4, hv_5, hv_6, hw, lv_sub hl [1, 2, 3, 4, 5, 6, 0] rfl⟩ ?_
    clear hw hl
    intro x9 H locs ls hI ih_7
    obtain ⟨k_8, Mtape_9, Mtaped_10⟩ := x9
    try dsimp only at hI
    obtain ⟨hR_11, hq_12, hI_13, hI_14, hI_15, hI_16, hw, hl⟩ := hI
    refine lv_iload hx hb dX8_feed_23 (lv_at hl 6 rfl) ?_
    refine z_bipush hx hb dX8_feed_25 (by decide) ?_
    refine z_icmp_ge (tgt := 120) hx hb dX8_feed_27 (by decide) (by omega) (fun hc_17 => ?_) (fun hc_17 => ?_)
    · skip
      refine lv_aload_n hx hb dX8_feed_120 rfl (lv_at hl 0 rfl) ?_
      refine va_get (D := D) (ci := 8) (v := .int (zI Mtaped_10)) (C := RX8) (T := TX8) (N := 36) hx hb hts hinX8 hown hK hw.1 0 rfl rfl 8 (by decide) (hts (.fieldLink RX8 95 "CarnivalRoadModel" "taped" "I") (by decide +kernel)) (fun _ h9 => h9) rfl dX8_feed_121 ?_
      have hv_18 : (0 : Int) ≤ (0 : Int) ∧ (0 : Int) ≤ 2 := by
        first | assumption | omega | grind
      have hv_19 : (0 : Int) ≤ Mtaped_10 ∧ Mtaped_10 ≤ 400 := by
        first | assumption | omega | grind
      have hv_20 : (400 < Mtaped + 20 ∧ Mtaped_10 = -1 ∧ Mtape_9 = Mtape ∧ Mtaped_10 = Mtaped) ∨ (Mtaped + 20 ≤ 400 ∧ Mtaped_10 = Mtaped_10 ∧ Mtaped_10 = Mtaped + 20 ∧ fedP uB Mtape Mtape_9 Mtaped a b c d e) := by
        exact Or.inr ⟨by omega, rfl, by omega, fed_of (by assumption) (all_le (by assumption) (by omega))⟩
      have hv_21 : (0 : Int) = 0 := by
        rfl
      exact W.iret (v := zI Mtaped_10) hx hb hr (fun t9 ht hW => ⟨⟨zI Mtaped_10, (Mtaped_10, 0, Mtape_9, Mtaped_10), rfl, ⟨rfl, ⟨hv_18, hR_11, hv_19, hv_20, hv_21⟩⟩, by subst hAe; exact z_end hK hw ht hW⟩, by subst hAe; exact hw.2.2.F ht⟩) (by subst hAe; exact hw.2.2.2.2) dX8_feed_124
    · skip
      refine z_cut (σ := Int) 76 (I := fun x9 H locs ls => ((k_8 < 4 ∧ x9 = a) ∨ (4 ≤ k_8 ∧ k_8 < 8 ∧ x9 = b) ∨ (8 ≤ k_8 ∧ k_8 < 12 ∧ x9 = c) ∨ (12 ≤ k_8 ∧ k_8 < 16 ∧ x9 = d) ∨ (16 ≤ k_8 ∧ x9 = e)) ∧ HW D A s.heap (kM cI cB cZ oM 0 Mmany Mguest Mrow Mbars Mbar Mfresh Mtape_9 Mtaped_10 Mpos Mtoken MtokenAt Mvalue Mwrong MwrongAt MfaultKind MfaultPlace Mthing Morder Mone Mtwo Mbest Mcells Mgap Mwire Mstand Mruns Mminute Mhead Mplays Mrests Mwent Mout Mcame Mgone MlastOut) H locs ∧ lv_has ls 8 [(0, .ref (oM 0)), (1, .int (zI a)), (2, .int (zI b)), (3, .int (zI c)), (4, .int (zI d)), (5, .int (zI e)), (6, .int (zI k_8))]) (st := fun x9 => [.int (zI x9)]) ?_ (fun hj_22 => ?_)
      · clear hw hl
        intro v_23 H locs ls hI
        try dsimp only at hI ⊢
        obtain ⟨hI_24, hw, hl⟩ := hI
        refine lv_istore (lv' := [(7, .int (zI v_23)), (0, .ref (oM 0)), (1, .int (zI a)), (2, .int (zI b)), (3, .int (zI c)), (4, .int (zI d)), (5, .int (zI e)), (6, .int (zI k_8))]) hx hb dX8_feed_76 hl (by decide) rfl (fun ls hl => ?_)
        refine lv_aload_n hx hb dX8_feed_78 rfl (lv_at hl 1 rfl) ?_
        refine va_get (D := D) (ci := 8) (v := .ref (oM 5)) (C := RX8) (T := TX8) (N := 36) hx hb hts hinX8 hown hK hw.1 0 rfl rfl 7 (by decide) (hts (.fieldLink RX8 22 "CarnivalRoadModel" "tape" "[I") (by decide +kernel)) (fun _ h9 => h9) rfl dX8_feed_79 ?_
        refine lv_aload_n hx hb dX8_feed_82 rfl (lv_at hl 1 rfl) ?_
        refine va_get (D := D) (ci := 8) (v := .int (zI Mtaped_10)) (C := RX8) (T := TX8) (N := 36) hx hb hts hinX8 hown hK hw.1 0 rfl rfl 8 (by decide) (hts (.fieldLink RX8 95 "CarnivalRoadModel" "taped" "I") (by decide +kernel)) (fun _ h9 => h9) rfl dX8_feed_83 ?_
        refine lv_iload hx hb dX8_feed_86 (lv_at hl 0 rfl) ?_
        refine z_bipush hx hb dX8_feed_88 (by decide) ?_
        refine z_bipush hx hb dX8_feed_90 (by decide) ?_
        refine lv_iload hx hb dX8_feed_92 (lv_at hl 7 rfl) ?_
        refine z_iconst hx hb dX8_feed_94 ?_
        have hbit_25 : zI k_8 - zI k_8 / zI 4 * zI 4 = zI (k_8 % (4 : Int)) := by
          exact z_rem (by omega) (by omega)
        refine lv_irem hx hb dX8_feed_95 (fun q => by have q2 := (zI_eq (by omega) (by omega)).mp (show zI 4 = zI 0 from q); omega) ?_
        rw [hbit_25]
        clear hbit_25
        refine z_imul hx hb dX8_feed_96 ?_
        refine z_isub hx hb dX8_feed_97 ?_
        have hbit_26 : zI v_23 >>> (zI (24 - (8 * (k_8 % (4 : Int)))) &&& 31) = zI (shrF v_23 (24 - (8 * (k_8 % (4 : Int))))) := by
          exact z_ishr (by omega) (by omega)
        refine lv_ishr hx hb dX8_feed_98 ?_
        rw [hbit_26]
        clear hbit_26
        refine z_sipush hx hb dX8_feed_99 (by decide) ?_
        have hbit_27 : zI (shrF v_23 (24 - (8 * (k_8 % (4 : Int))))) &&& zI 255 = zI ((shrF v_23 (24 - (8 * (k_8 % (4 : Int))))) % 256) := by
          exact z_255 _
        refine lv_iand hx hb dX8_feed_102 ?_
        rw [hbit_27]
        clear hbit_27
        have hq_28 : 0 ≤ ((shrF v_23 (24 - (8 * (k_8 % (4 : Int))))) % 256) ∧ ((shrF v_23 (24 - (8 * (k_8 % (4 : Int))))) % 256) ≤ 255 := by
          omega
        have hi_29 : (0 : Int) ≤ Mtaped_10 ∧ Mtaped_10 < ((400 : Nat) : Int) := by
          first | assumption | omega | grind
        have hv_30 : (0 : Int) ≤ ((shrF v_23 (24 - (8 * (k_8 % (4 : Int))))) % 256) ∧ ((shrF v_23 (24 - (8 * (k_8 % (4 : Int))))) % 256) ≤ 255 := by
          first | assumption | omega | grind
        have hR_31 : RA (uZ Mtape_9 Mtaped_10 ((shrF v_23 (24 - (8 * (k_8 % (4 : Int))))) % 256)) (0) 255 := RA_up hR_11 hv_30
        refine z_iast (n := 400) (f := Mtape_9) (ws2 := kM cI cB cZ oM 0 Mmany Mguest Mrow Mbars Mbar Mfresh (uZ Mtape_9 Mtaped_10 ((shrF v_23 (24 - (8 * (k_8 % (4 : Int))))) % 256)) Mtaped_10 Mpos Mtoken MtokenAt Mvalue Mwrong MwrongAt MfaultKind MfaultPlace Mthing Morder Mone Mtwo Mbest Mcells Mgap Mwire Mstand Mruns Mminute Mhead Mplays Mrests Mwent Mout Mcame Mgone MlastOut) hx hb hK hw 5 rfl (by decide) hi_29 dX8_feed_103 rfl (fun H locs hw => ?_)
        refine lv_aload_n hx hb dX8_feed_104 rfl (lv_at hl 1 rfl) ?_
        refine lv_dup hx hb dX8_feed_105 rfl ?_
        refine va_get (D := D) (ci := 8) (v := .int (zI Mtaped_10)) (C := RX8) (T := TX8) (N := 36) hx hb hts hinX8 hown hK hw.1 0 rfl rfl 8 (by decide) (hts (.fieldLink RX8 95 "CarnivalRoadModel" "taped" "I") (by decide +kernel)) (fun _ h9 => h9) rfl dX8_feed_106 ?_
        refine z_iconst hx hb dX8_feed_109 ?_
        refine z_iadd hx hb dX8_feed_110 ?_
        refine z_put (D := D) (ci := 8) (v := .int (zI (Mtaped_10 + 1))) (ty := .int) (C := RX8) (T := TX8) (N := 36) (ws2 := kM cI cB cZ oM 0 Mmany Mguest Mrow Mbars Mbar Mfresh (uZ Mtape_9 Mtaped_10 ((shrF v_23 (24 - (8 * (k_8 % (4 : Int))))) % 256)) (Mtaped_10 + 1) Mpos Mtoken MtokenAt Mvalue Mwrong MwrongAt MfaultKind MfaultPlace Mthing Morder Mone Mtwo Mbest Mcells Mgap Mwire Mstand Mruns Mminute Mhead Mplays Mrests Mwent Mout Mcame Mgone MlastOut) hx hb hts hinX8 tyX8 tyX8_ok nmX8 hown hK hw 0 rfl rfl 8 (by decide) (hts (.fieldLink RX8 95 "CarnivalRoadModel" "taped" "I") (by decide +kernel)) (fun _ h9 => h9) rfl (by decide +kernel) rfl rfl (Nat.le_of_ble_eq_true rfl) dX8_feed_111 rfl (fun H locs hw => ?_)
        refine z_iinc (k := 7) (lv' := [(6, .int (zI (k_8 + 1))), (7, .int (zI v_23)), (0, .ref (oM 0)), (1, .int (zI a)), (2, .int (zI b)), (3, .int (zI c)), (4, .int (zI d)), (5, .int (zI e))]) hx hb dX8_feed_114 hl rfl (by decide) rfl (fun ls hl => ?_)
        refine lv_goto (tgt := 23) hx hb dX8_feed_117 (by decide) ?_
        have hv_32 : (0 : Int) ≤ (Mtaped_10 + 1) ∧ (Mtaped_10 + 1) ≤ 400 := by
          first | assumption | omega | grind
        have hv_33 : 0 ≤ (k_8 + 1) ∧ (k_8 + 1) ≤ 20 := by
          first | assumption | omega | grind
        have hv_34 : (Mtaped_10 + 1) = Mtaped + (k_8 + 1) := by
          first | assumption | omega | grind
        have hv_35 : ∀ j, 0 ≤ j → j < Mtaped → (uZ Mtape_9 Mtaped_10 ((shrF v_23 (24 - (8 * (k_8 % (4 : Int))))) % 256)) j = Mtape j := by
          intro j j0 j1
          rw [uZ_n (by omega)]
          revert j1
          revert j0
          revert j
          assumption
        have hv_36 : ∀ j, 0 ≤ j → j < (k_8 + 1) → (uZ Mtape_9 Mtaped_10 ((shrF v_23 (24 - (8 * (k_8 % (4 : Int))))) % 256)) (Mtaped + j) = fdB a b c d e j := by
          refine all_s (fun j j0 j1 => ?_) ?_
          · rw [uZ_n (by omega)]
            revert j1
            revert j0
            revert j
            assumption
          · rw [show Mtaped + k_8 = Mtaped_10 by omega, uZ_s]
            exact fdB_s (by omega) (by assumption)
        have hm_37 : (20 - (k_8 + 1)).toNat < (20 - k_8).toNat := by
          first | assumption | omega | grind
        exact ih_7 ((k_8 + 1), (uZ Mtape_9 Mtaped_10 ((shrF v_23 (24 - (8 * (k_8 % (4 : Int))))) % 256)), (Mtaped_10 + 1)) _ _ _ ⟨hR_31, hv_32, hv_33, hv_34, hv_35, hv_36, hw, lv_sub hl [2, 3, 4, 5, 6, 7, 0] rfl⟩ hm_37
      refine lv_iload hx hb dX8_feed_30 (lv_at hl 6 rfl) ?_
      refine z_iconst hx hb dX8_feed_32 ?_
      refine z_icmp_ge (tgt := 40) hx hb dX8_feed_33 (by decide) (by omega) (fun hc_38 => ?_) (fun hc_38 => ?_)
      · skip
        refine lv_iload hx hb dX8_feed_40 (lv_at hl 6 rfl) ?_
        refine z_bipush hx hb dX8_feed_42 (by decide) ?_
        refine z_icmp_ge (tgt := 51) hx hb dX8_feed_44 (by decide) (by omega) (fun hc_39 => ?_) (fun hc_39 => ?_)
        · skip
          refine lv_iload hx hb dX8_feed_51 (lv_at hl 6 rfl) ?_
          refine z_bipush hx hb dX8_feed_53 (by decide) ?_
          refine z_icmp_ge (tgt := 62) hx hb dX8_feed_55 (by decide) (by omega) (fun hc_40 => ?_) (fun hc_40 => ?_)
          · skip
            refine lv_iload hx hb dX8_feed_62 (lv_at hl 6 rfl) ?_
            refine z_bipush hx hb dX8_feed_64 (by decide) ?_
            refine z_icmp_ge (tgt := 74) hx hb dX8_feed_66 (by decide) (by omega) (fun hc_41 => ?_) (fun hc_41 => ?_)
            · skip
              refine lv_iload hx hb dX8_feed_74 (lv_at hl 5 rfl) ?_
              have hv_42 : (k_8 < 4 ∧ e = a) ∨ (4 ≤ k_8 ∧ k_8 < 8 ∧ e = b) ∨ (8 ≤ k_8 ∧ k_8 < 12 ∧ e = c) ∨ (12 ≤ k_8 ∧ k_8 < 16 ∧ e = d) ∨ (16 ≤ k_8 ∧ e = e) := by
                first | assumption | omega | grind
              exact hj_22 e _ _ _ ⟨hv_42, hw, lv_sub hl [0, 1, 2, 3, 4, 5, 6] rfl⟩
            · skip
              refine lv_iload hx hb dX8_feed_69 (lv_at hl 4 rfl) ?_
              refine lv_goto (tgt := 76) hx hb dX8_feed_71 (by decide) ?_
              have hv_43 : (k_8 < 4 ∧ d = a) ∨ (4 ≤ k_8 ∧ k_8 < 8 ∧ d = b) ∨ (8 ≤ k_8 ∧ k_8 < 12 ∧ d = c) ∨ (12 ≤ k_8 ∧ k_8 < 16 ∧ d = d) ∨ (16 ≤ k_8 ∧ d = e) := by
                first | assumption | omega | grind
              exact hj_22 d _ _ _ ⟨hv_43, hw, lv_sub hl [0, 1, 2, 3, 4, 5, 6] rfl⟩
          · skip
            refine lv_iload_n hx hb dX8_feed_58 rfl (lv_at hl 3 rfl) ?_
            refine lv_goto (tgt := 76) hx hb dX8_feed_59 (by decide) ?_
            have hv_44 : (k_8 < 4 ∧ c = a) ∨ (4 ≤ k_8 ∧ k_8 < 8 ∧ c = b) ∨ (8 ≤ k_8 ∧ k_8 < 12 ∧ c = c) ∨ (12 ≤ k_8 ∧ k_8 < 16 ∧ c = d) ∨ (16 ≤ k_8 ∧ c = e) := by
              first | assumption | omega | grind
            exact hj_22 c _ _ _ ⟨hv_44, hw, lv_sub hl [0, 1, 2, 3, 4, 5, 6] rfl⟩
        · skip
          refine lv_iload_n hx hb dX8_feed_47 rfl (lv_at hl 2 rfl) ?_
          refine lv_goto (tgt := 76) hx hb dX8_feed_48 (by decide) ?_
          have hv_45 : (k_8 < 4 ∧ b = a) ∨ (4 ≤ k_8 ∧ k_8 < 8 ∧ b = b) ∨ (8 ≤ k_8 ∧ k_8 < 12 ∧ b = c) ∨ (12 ≤ k_8 ∧ k_8 < 16 ∧ b = d) ∨ (16 ≤ k_8 ∧ b = e) := by
            first | assumption | omega | grind
          exact hj_22 b _ _ _ ⟨hv_45, hw, lv_sub hl [0, 1, 2, 3, 4, 5, 6] rfl⟩
      · skip
        refine lv_iload_n hx hb dX8_feed_36 rfl (lv_at hl 1 rfl) ?_
        refine lv_goto (tgt := 76) hx hb dX8_feed_37 (by decide) ?_
        have hv_46 : (k_8 < 4 ∧ a = a) ∨ (4 ≤ k_8 ∧ k_8 < 8 ∧ a = b) ∨ (8 ≤ k_8 ∧ k_8 < 12 ∧ a = c) ∨ (12 ≤ k_8 ∧ k_8 < 16 ∧ a = d) ∨ (16 ≤ k_8 ∧ a = e) := by
          first | assumption | omega | grind
        exact hj_22 a _ _ _ ⟨hv_46, hw, lv_sub hl [0, 1, 2, 3, 4, 5, 6] rfl⟩
  · skip
    refine z_iconst hx hb dX8_feed_18 ?_
    have hv_47 : (0 : Int) ≤ (0 : Int) ∧ (0 : Int) ≤ 2 := by
      first | assumption | omega | grind
    have hv_48 : (0 : Int) ≤ Mtaped ∧ Mtaped ≤ 400 := by
      first | assumption | omega | grind
    have hv_49 : (400 < Mtaped + 20 ∧ ((-1) : Int) = -1 ∧ Mtape = Mtape ∧ Mtaped = Mtaped) ∨ (Mtaped + 20 ≤ 400 ∧ ((-1) : Int) = Mtaped ∧ Mtaped = Mtaped + 20 ∧ fedP uB Mtape Mtape Mtaped a b c d e) := by
      exact Or.inl ⟨by omega, rfl, rfl, rfl⟩
    have hv_50 : (0 : Int) = 0 := by
      rfl
    exact W.iret (v := zI (-1)) hx hb hr (fun t9 ht hW => ⟨⟨zI (-1), ((-1), 0, Mtape, Mtaped), rfl, ⟨rfl, ⟨hv_47, qMtape, hv_48, hv_49, hv_50⟩⟩, by subst hAe; exact z_end hK hw ht hW⟩, by subst hAe; exact hw.2.2.F ht⟩) (by subst hAe; exact hw.2.2.2.2) dX8_feed_19
