set_option maxRecDepth 100000 in
set_option maxHeartbeats 4000000 in
theorem c_X8_begin (l : Launch) (D : va_G) (cI cB cZ : ClassId) (oM : Nat → Nat) (sz : Nat) (Mthrown : Int) (Mmany : Int) (Mguest : Int → Int) (Mrow : Int → Int) (Mbars : Int) (Mbar : Int → Int) (Mfresh : Int → Int) (Mtape : Int → Int) (Mtaped : Int) (Mpos : Int) (Mtoken : Int) (MtokenAt : Int) (Mvalue : Int) (Mwrong : Int) (MwrongAt : Int) (MfaultKind : Int) (MfaultPlace : Int) (Mthing : Int) (Morder : Int → Int) (Mone : Int) (Mtwo : Int) (Mbest : Int → Int) (Mcells : Int) (Mgap : Int) (Mwire : Int → Int) (Mstand : Int → Int) (Mruns : Int) (Mminute : Int) (Mhead : Int → Int) (Mplays : Int → Int) (Mrests : Int → Int) (Mwent : Int → Int) (Mout : Int → Int) (Mcame : Int → Int) (Mgone : Int → Int) (MlastOut : Int) (qMthrown : 0 ≤ Mthrown ∧ Mthrown ≤ 2) (qMmany : 0 ≤ Mmany ∧ Mmany ≤ 8) (qMguest : RA Mguest (0) 9) (qMrow : RA Mrow (0) 7) (qMbars : 0 ≤ Mbars ∧ Mbars ≤ 10) (qMbar : RA Mbar (0) 104) (qMfresh : RA Mfresh (0) 104) (qMtape : RA Mtape (0) 255) (qMtaped : 0 ≤ Mtaped ∧ Mtaped ≤ 400) (qMpos : 0 ≤ Mpos ∧ Mpos ≤ 400) (qMtoken : 0 ≤ Mtoken ∧ Mtoken ≤ 15) (qMtokenAt : 0 ≤ MtokenAt ∧ MtokenAt ≤ 400) (qMvalue : 0 ≤ Mvalue ∧ Mvalue ≤ 99) (qMwrong : 0 ≤ Mwrong ∧ Mwrong ≤ 3) (qMwrongAt : 0 ≤ MwrongAt ∧ MwrongAt ≤ 400) (qMfaultKind : 0 ≤ MfaultKind ∧ MfaultKind ≤ 3) (qMfaultPlace : -1 ≤ MfaultPlace ∧ MfaultPlace ≤ 400) (qMthing : 0 ≤ Mthing ∧ Mthing ≤ 104) (qMorder : RA Morder (0) 7) (qMone : 0 ≤ Mone ∧ Mone ≤ 8) (qMtwo : 0 ≤ Mtwo ∧ Mtwo ≤ 8) (qMbest : RA Mbest (0) 7) (qMcells : 1 ≤ Mcells ∧ Mcells ≤ 50) (qMgap : 0 ≤ Mgap ∧ Mgap ≤ 3) (qMwire : RA Mwire (0) 9) (qMstand : RA Mstand (0) 9) (qMruns : 0 ≤ Mruns ∧ Mruns ≤ 1) (qMminute : 0 ≤ Mminute ∧ Mminute ≤ 1000000) (qMhead : RA Mhead (-1) 60) (qMplays : RA Mplays (0) 18) (qMrests : RA Mrests (0) 3) (qMwent : RA Mwent (0) 61) (qMout : RA Mout (0) 1) (qMcame : RA Mcame (-1) 1000000) (qMgone : RA Mgone (-1) 1000000) (qMlastOut : 0 ≤ MlastOut ∧ MlastOut ≤ 1000000) : Met l yX8_begin wsX8_begin ({ frames := 2, cells := 0, slots := 0, locals := 44 }) (va_Pc [.ref (oM 0)] (zPre D cI cB cZ sz (kM cI cB cZ oM Mthrown Mmany Mguest Mrow Mbars Mbar Mfresh Mtape Mtaped Mpos Mtoken MtokenAt Mvalue Mwrong MwrongAt MfaultKind MfaultPlace Mthing Morder Mone Mtwo Mbest Mcells Mgap Mwire Mstand Mruns Mminute Mhead Mplays Mrests Mwent Mout Mcame Mgone MlastOut))) (va_Qi (fun (r9 : Int32) (u9 : Int × Int × Int × Int × (Int → Int) × (Int → Int) × (Int → Int) × (Int → Int) × (Int → Int) × (Int → Int) × (Int → Int) × Int) => r9 = zI u9.1 ∧ (((0 : Int) ≤ u9.2.1 ∧ u9.2.1 ≤ 2) ∧ ((0 : Int) ≤ u9.2.2.1 ∧ u9.2.2.1 ≤ 1) ∧ ((0 : Int) ≤ u9.2.2.2.1 ∧ u9.2.2.2.1 ≤ 1000000) ∧ (RA u9.2.2.2.2.1 (-1) 60) ∧ (RA u9.2.2.2.2.2.1 (0) 18) ∧ (RA u9.2.2.2.2.2.2.1 (0) 3) ∧ (RA u9.2.2.2.2.2.2.2.1 (0) 61) ∧ (RA u9.2.2.2.2.2.2.2.2.1 (0) 1) ∧ (RA u9.2.2.2.2.2.2.2.2.2.1 (-1) 1000000) ∧ (RA u9.2.2.2.2.2.2.2.2.2.2.1 (-1) 1000000) ∧ ((0 : Int) ≤ u9.2.2.2.2.2.2.2.2.2.2.2 ∧ u9.2.2.2.2.2.2.2.2.2.2.2 ≤ 1000000) ∧ (((0 < Mmany ∧ ∀ g, 0 ≤ g → g < Mmany → ∀ i, 0 ≤ i → i < Mcells → ¬ lowP Mwire (Mguest (5 * g + 3)) i) ∧ u9.1 = 1 ∧ u9.2.2.1 = 1 ∧ u9.2.2.2.1 = 0 ∧ u9.2.2.2.2.2.2.2.2.2.2.2 = 0 ∧ ∀ g, 0 ≤ g → g < Mmany → u9.2.2.2.2.1 g = -1 ∧ u9.2.2.2.2.2.1 g = 0 ∧ u9.2.2.2.2.2.2.1 g = 0 ∧ u9.2.2.2.2.2.2.2.1 g = 0 ∧ u9.2.2.2.2.2.2.2.2.1 g = 0 ∧ u9.2.2.2.2.2.2.2.2.2.1 g = -1 ∧ u9.2.2.2.2.2.2.2.2.2.2.1 g = -1) ∨ (¬ (0 < Mmany ∧ ∀ g, 0 ≤ g → g < Mmany → ∀ i, 0 ≤ i → i < Mcells → ¬ lowP Mwire (Mguest (5 * g + 3)) i) ∧ u9.1 = 0 ∧ u9.2.2.1 = Mruns ∧ u9.2.2.2.1 = Mminute ∧ u9.2.2.2.2.2.2.2.2.2.2.2 = MlastOut ∧ u9.2.2.2.2.1 = Mhead ∧ u9.2.2.2.2.2.1 = Mplays ∧ u9.2.2.2.2.2.2.1 = Mrests ∧ u9.2.2.2.2.2.2.2.1 = Mwent ∧ u9.2.2.2.2.2.2.2.2.1 = Mout ∧ u9.2.2.2.2.2.2.2.2.2.1 = Mcame ∧ u9.2.2.2.2.2.2.2.2.2.2.1 = Mgone)) ∧ (u9.2.1 = 0))) (fun u9 t9 => zAt D cI cB cZ (va_A (kM cI cB cZ oM Mthrown Mmany Mguest Mrow Mbars Mbar Mfresh Mtape Mtaped Mpos Mtoken MtokenAt Mvalue Mwrong MwrongAt MfaultKind MfaultPlace Mthing Morder Mone Mtwo Mbest Mcells Mgap Mwire Mstand Mruns Mminute Mhead Mplays Mrests Mwent Mout Mcame Mgone MlastOut) sz) (kM cI cB cZ oM (u9.2.1) Mmany Mguest Mrow Mbars Mbar Mfresh Mtape Mtaped Mpos Mtoken MtokenAt Mvalue Mwrong MwrongAt MfaultKind MfaultPlace Mthing Morder Mone Mtwo Mbest Mcells Mgap Mwire Mstand (u9.2.2.1) (u9.2.2.2.1) (u9.2.2.2.2.1) (u9.2.2.2.2.2.1) (u9.2.2.2.2.2.2.1) (u9.2.2.2.2.2.2.2.1) (u9.2.2.2.2.2.2.2.2.1) (u9.2.2.2.2.2.2.2.2.2.1) (u9.2.2.2.2.2.2.2.2.2.2.1) (u9.2.2.2.2.2.2.2.2.2.2.2)) t9) (va_A (kM cI cB cZ oM Mthrown Mmany Mguest Mrow Mbars Mbar Mfresh Mtape Mtaped Mpos Mtoken MtokenAt Mvalue Mwrong MwrongAt MfaultKind MfaultPlace Mthing Morder Mone Mtwo Mbest Mcells Mgap Mwire Mstand Mruns Mminute Mhead Mplays Mrests Mwent Mout Mcame Mgone MlastOut) sz)) 0 0 (va_A (kM cI cB cZ oM Mthrown Mmany Mguest Mrow Mbars Mbar Mfresh Mtape Mtaped Mpos Mtoken MtokenAt Mvalue Mwrong MwrongAt MfaultKind MfaultPlace Mthing Morder Mone Mtwo Mbest Mcells Mgap Mwire Mstand Mruns Mminute Mhead Mplays Mrests Mwent Mout Mcame Mgone MlastOut) sz) := by
  refine Met.ofW (cc := cX8_begin) (maxL := 2) (ret := (some .boolean)) (by decide) rfl ?_
  intro pp ee s mm aa bw mt cd s₁ BL hml hv
  obtain ⟨rfl, hsz, hP, hK, hD0⟩ := hv
  have hx := BL.exec
  have hb := BL.bytes
  have hr := BL.returns
  have hts := atoms_spec (ws := wsX8_begin) BL.pre
  have hown : s.vm.findClass RX8 = some mm.cls := findClass_of_methodNamed BL.named
  have hlocks := BL.notSynchronized
  subst hsz
  generalize hAe : va_A (kM cI cB cZ oM Mthrown Mmany Mguest Mrow Mbars Mbar Mfresh Mtape Mtaped Mpos Mtoken MtokenAt Mvalue Mwrong MwrongAt MfaultKind MfaultPlace Mthing Morder Mone Mtwo Mbest Mcells Mgap Mwire Mstand Mruns Mminute Mhead Mplays Mrests Mwent Mout Mcame Mgone MlastOut) s.heap.size = A
  have hA : ∀ q : Nat, s.heap.size ≤ q → A q := fun q h => by rw [← hAe]; exact Or.inr h
  have hw : HW D A s.heap (kM cI cB cZ oM Mthrown Mmany Mguest Mrow Mbars Mbar Mfresh Mtape Mtaped Mpos Mtoken MtokenAt Mvalue Mwrong MwrongAt MfaultKind MfaultPlace Mthing Morder Mone Mtwo Mbest Mcells Mgap Mwire Mstand Mruns Mminute Mhead Mplays Mrests Mwent Mout Mcame Mgone MlastOut) s.heap [] := z_start hAe hP hD0
  clear hP hD0
  have hl := lv_entry ([.ref (oM 0)]) (n := 2) (Nat.le_of_ble_eq_true rfl)
  rw [lg_entry_eq]
  generalize (lg_sl ([.ref (oM 0)]) ++ List.replicate (2 - (lg_sl ([.ref (oM 0)])).length) Slot.unset).toArray = ls at hl ⊢
  have hl : lv_has ls 2 [(0, .ref (oM 0))] := hl
  have hinX8 : ∀ w ∈ wsX80, w ∈ wsX8_begin := by decide +kernel
  refine lv_aload_n hx hb dX8_begin_0 rfl (lv_at hl 0 rfl) ?_
  refine z_iconst hx hb dX8_begin_1 ?_
  refine z_put (D := D) (ci := 8) (v := .int (zI 0)) (ty := .int) (C := RX8) (T := TX8) (N := 36) (ws2 := kM cI cB cZ oM 0 Mmany Mguest Mrow Mbars Mbar Mfresh Mtape Mtaped Mpos Mtoken MtokenAt Mvalue Mwrong MwrongAt MfaultKind MfaultPlace Mthing Morder Mone Mtwo Mbest Mcells Mgap Mwire Mstand Mruns Mminute Mhead Mplays Mrests Mwent Mout Mcame Mgone MlastOut) hx hb hts hinX8 tyX8 tyX8_ok nmX8 hown hK hw 0 rfl rfl 0 (by decide) (hts (.fieldLink RX8 69 "CarnivalRoadModel" "thrown" "I") (by decide +kernel)) (fun _ h9 => h9) rfl (by decide +kernel) rfl rfl (Nat.le_of_ble_eq_true rfl) dX8_begin_2 rfl (fun H locs hw => ?_)
  refine lv_aload_n hx hb dX8_begin_5 rfl (lv_at hl 0 rfl) ?_
  refine va_get (D := D) (ci := 8) (v := .int (zI Mmany)) (C := RX8) (T := TX8) (N := 36) hx hb hts hinX8 hown hK hw.1 0 rfl rfl 1 (by decide) (hts (.fieldLink RX8 72 "CarnivalRoadModel" "many" "I") (by decide +kernel)) (fun _ h9 => h9) rfl dX8_begin_6 ?_
  refine z_if_ne (tgt := 14) hx hb dX8_begin_9 (by decide) (by omega) (fun hc_1 => ?_) (fun hc_1 => ?_)
  · skip
    refine z_iconst hx hb dX8_begin_14 ?_
    refine lv_istore_n (lv' := [(1, .int (zI 0)), (0, .ref (oM 0))]) hx hb dX8_begin_15 rfl hl (by decide) rfl (fun ls hl => ?_)
    have hv_2 : 0 ≤ (0 : Int) ∧ (0 : Int) ≤ Mmany := by
      first | assumption | omega | grind
    have hv_3 : ∀ a, 0 ≤ a → a < (0 : Int) → ∀ i, 0 ≤ i → i < Mcells → ¬ lowP Mwire (Mguest (5 * a + 3)) i := by
      exact all_0
    refine z_loop (σ := Int) (μ := fun x9 => (9 - x9).toNat) (I := fun x9 H locs ls => (0 ≤ x9 ∧ x9 ≤ Mmany) ∧ (∀ a, 0 ≤ a → a < x9 → ∀ i, 0 ≤ i → i < Mcells → ¬ lowP Mwire (Mguest (5 * a + 3)) i) ∧ HW D A s.heap (kM cI cB cZ oM 0 Mmany Mguest Mrow Mbars Mbar Mfresh Mtape Mtaped Mpos Mtoken MtokenAt Mvalue Mwrong MwrongAt MfaultKind MfaultPlace Mthing Morder Mone Mtwo Mbest Mcells Mgap Mwire Mstand Mruns Mminute Mhead Mplays Mrests Mwent Mout Mcame Mgone MlastOut) H locs ∧ lv_has ls 2 [(0, .ref (oM 0)), (1, .int (zI x9))]) 0 ⟨hv_2, hv_3, hw, lv_sub hl [1, 0] rfl⟩ ?_
    clear hw hl
    intro g_5 H locs ls hI ih_4
    try dsimp only at hI
    obtain ⟨hI_6, hI_7, hw, hl⟩ := hI
    refine lv_iload_n hx hb dX8_begin_16 rfl (lv_at hl 1 rfl) ?_
    refine lv_aload_n hx hb dX8_begin_17 rfl (lv_at hl 0 rfl) ?_
    refine va_get (D := D) (ci := 8) (v := .int (zI Mmany)) (C := RX8) (T := TX8) (N := 36) hx hb hts hinX8 hown hK hw.1 0 rfl rfl 1 (by decide) (hts (.fieldLink RX8 72 "CarnivalRoadModel" "many" "I") (by decide +kernel)) (fun _ h9 => h9) rfl dX8_begin_18 ?_
    refine z_icmp_ge (tgt := 41) hx hb dX8_begin_21 (by decide) (by omega) (fun hc_8 => ?_) (fun hc_8 => ?_)
    · skip
      refine lv_aload_n hx hb dX8_begin_41 rfl (lv_at hl 0 rfl) ?_
      refine z_iconst hx hb dX8_begin_42 ?_
      refine z_put (D := D) (ci := 8) (v := .int (zI 1)) (ty := .boolean) (C := RX8) (T := TX8) (N := 36) (ws2 := kM cI cB cZ oM 0 Mmany Mguest Mrow Mbars Mbar Mfresh Mtape Mtaped Mpos Mtoken MtokenAt Mvalue Mwrong MwrongAt MfaultKind MfaultPlace Mthing Morder Mone Mtwo Mbest Mcells Mgap Mwire Mstand 1 Mminute Mhead Mplays Mrests Mwent Mout Mcame Mgone MlastOut) hx hb hts hinX8 tyX8 tyX8_ok nmX8 hown hK hw 0 rfl rfl 26 (by decide) (hts (.fieldLink RX8 79 "CarnivalRoadModel" "runs" "Z") (by decide +kernel)) (fun _ h9 => h9) rfl (by decide +kernel) rfl rfl (Nat.le_of_ble_eq_true rfl) dX8_begin_43 rfl (fun H locs hw => ?_)
      refine lv_aload_n hx hb dX8_begin_46 rfl (lv_at hl 0 rfl) ?_
      refine z_iconst hx hb dX8_begin_47 ?_
      refine z_put (D := D) (ci := 8) (v := .int (zI 0)) (ty := .int) (C := RX8) (T := TX8) (N := 36) (ws2 := kM cI cB cZ oM 0 Mmany Mguest Mrow Mbars Mbar Mfresh Mtape Mtaped Mpos Mtoken MtokenAt Mvalue Mwrong MwrongAt MfaultKind MfaultPlace Mthing Morder Mone Mtwo Mbest Mcells Mgap Mwire Mstand 1 0 Mhead Mplays Mrests Mwent Mout Mcame Mgone MlastOut) hx hb hts hinX8 tyX8 tyX8_ok nmX8 hown hK hw 0 rfl rfl 27 (by decide) (hts (.fieldLink RX8 208 "CarnivalRoadModel" "minute" "I") (by decide +kernel)) (fun _ h9 => h9) rfl (by decide +kernel) rfl rfl (Nat.le_of_ble_eq_true rfl) dX8_begin_48 rfl (fun H locs hw => ?_)
      refine lv_aload_n hx hb dX8_begin_51 rfl (lv_at hl 0 rfl) ?_
      refine z_iconst hx hb dX8_begin_52 ?_
      refine z_put (D := D) (ci := 8) (v := .int (zI 0)) (ty := .int) (C := RX8) (T := TX8) (N := 36) (ws2 := kM cI cB cZ oM 0 Mmany Mguest Mrow Mbars Mbar Mfresh Mtape Mtaped Mpos Mtoken MtokenAt Mvalue Mwrong MwrongAt MfaultKind MfaultPlace Mthing Morder Mone Mtwo Mbest Mcells Mgap Mwire Mstand 1 0 Mhead Mplays Mrests Mwent Mout Mcame Mgone 0) hx hb hts hinX8 tyX8 tyX8_ok nmX8 hown hK hw 0 rfl rfl 35 (by decide) (hts (.fieldLink RX8 211 "CarnivalRoadModel" "lastOut" "I") (by decide +kernel)) (fun _ h9 => h9) rfl (by decide +kernel) rfl rfl (Nat.le_of_ble_eq_true rfl) dX8_begin_53 rfl (fun H locs hw => ?_)
      refine z_iconst hx hb dX8_begin_56 ?_
      refine lv_istore_n (lv' := [(1, .int (zI 0)), (0, .ref (oM 0))]) hx hb dX8_begin_57 rfl hl (by decide) rfl (fun ls hl => ?_)
      have hv_9 : 0 ≤ (0 : Int) ∧ (0 : Int) ≤ Mmany := by
        first | assumption | omega | grind
      have hv_10 : ∀ a, 0 ≤ a → a < (0 : Int) → Mhead a = -1 ∧ Mplays a = 0 ∧ Mrests a = 0 ∧ Mwent a = 0 ∧ Mout a = 0 ∧ Mcame a = -1 ∧ Mgone a = -1 := by
        exact all_0
      refine z_loop (σ := Int × (Int → Int) × (Int → Int) × (Int → Int) × (Int → Int) × (Int → Int) × (Int → Int) × (Int → Int)) (μ := fun x9 => (9 - (x9.1)).toNat) (I := fun x9 H locs ls => (RA (x9.2.1) (-1) 60) ∧ (RA (x9.2.2.1) (0) 18) ∧ (RA (x9.2.2.2.1) (0) 3) ∧ (RA (x9.2.2.2.2.1) (0) 61) ∧ (RA (x9.2.2.2.2.2.1) (0) 1) ∧ (RA (x9.2.2.2.2.2.2.1) (-1) 1000000) ∧ (RA (x9.2.2.2.2.2.2.2) (-1) 1000000) ∧ (0 ≤ (x9.1) ∧ (x9.1) ≤ Mmany) ∧ (∀ a, 0 ≤ a → a < (x9.1) → (x9.2.1) a = -1 ∧ (x9.2.2.1) a = 0 ∧ (x9.2.2.2.1) a = 0 ∧ (x9.2.2.2.2.1) a = 0 ∧ (x9.2.2.2.2.2.1) a = 0 ∧ (x9.2.2.2.2.2.2.1) a = -1 ∧ (x9.2.2.2.2.2.2.2) a = -1) ∧ HW D A s.heap (kM cI cB cZ oM 0 Mmany Mguest Mrow Mbars Mbar Mfresh Mtape Mtaped Mpos Mtoken MtokenAt Mvalue Mwrong MwrongAt MfaultKind MfaultPlace Mthing Morder Mone Mtwo Mbest Mcells Mgap Mwire Mstand 1 0 (x9.2.1) (x9.2.2.1) (x9.2.2.2.1) (x9.2.2.2.2.1) (x9.2.2.2.2.2.1) (x9.2.2.2.2.2.2.1) (x9.2.2.2.2.2.2.2) 0) H locs ∧ lv_has ls 2 [(0, .ref (oM 0)), (1, .int (zI (x9.1)))]) (0, Mhead, Mplays, Mrests, Mwent, Mout, Mcame, Mgone) ⟨qMhead, qMplays, qMrests, qMwent, qMout, qMcame, qMgone, hv_9, hv_10, hw, lv_sub hl [1, 0] rfl⟩ ?_
      clear hw hl
      intro x9 H locs ls hI ih_11
      obtain ⟨g_12, Mhead_13, Mplays_14, Mrests_15, Mwent_16, Mout_17, Mcame_18, Mgone_19⟩ := x9
      try dsimp only at hI
      obtain ⟨hR_20, hR_21, hR_22, hR_23, hR_24, hR_25, hR_26, hI_27, hI_28, hw, hl⟩ := hI
      refine lv_iload_n hx hb dX8_begin_58 rfl (lv_at hl 1 rfl) ?_
      refine lv_aload_n hx hb dX8_begin_59 rfl (lv_at hl 0 rfl) ?_
      refine va_get (D := D) (ci := 8) (v := .int (zI Mmany)) (C := RX8) (T := TX8) (N := 36) hx hb hts hinX8 hown hK hw.1 0 rfl rfl 1 (by decide) (hts (.fieldLink RX8 72 "CarnivalRoadModel" "many" "I") (by decide +kernel)) (fun _ h9 => h9) rfl dX8_begin_60 ?_
      refine z_icmp_ge (tgt := 91) hx hb dX8_begin_63 (by decide) (by omega) (fun hc_29 => ?_) (fun hc_29 => ?_)
      · skip
        refine z_iconst hx hb dX8_begin_91 ?_
        have hv_30 : (0 : Int) ≤ (0 : Int) ∧ (0 : Int) ≤ 2 := by
          first | assumption | omega | grind
        have hv_31 : (0 : Int) ≤ (1 : Int) ∧ (1 : Int) ≤ 1 := by
          first | assumption | omega | grind
        have hv_32 : (0 : Int) ≤ (0 : Int) ∧ (0 : Int) ≤ 1000000 := by
          first | assumption | omega | grind
        have hv_33 : (0 : Int) ≤ (0 : Int) ∧ (0 : Int) ≤ 1000000 := by
          first | assumption | omega | grind
        have hv_34 : ((0 < Mmany ∧ ∀ g, 0 ≤ g → g < Mmany → ∀ i, 0 ≤ i → i < Mcells → ¬ lowP Mwire (Mguest (5 * g + 3)) i) ∧ (1 : Int) = 1 ∧ (1 : Int) = 1 ∧ (0 : Int) = 0 ∧ (0 : Int) = 0 ∧ ∀ g, 0 ≤ g → g < Mmany → Mhead_13 g = -1 ∧ Mplays_14 g = 0 ∧ Mrests_15 g = 0 ∧ Mwent_16 g = 0 ∧ Mout_17 g = 0 ∧ Mcame_18 g = -1 ∧ Mgone_19 g = -1) ∨ (¬ (0 < Mmany ∧ ∀ g, 0 ≤ g → g < Mmany → ∀ i, 0 ≤ i → i < Mcells → ¬ lowP Mwire (Mguest (5 * g + 3)) i) ∧ (1 : Int) = 0 ∧ (1 : Int) = Mruns ∧ (0 : Int) = Mminute ∧ (0 : Int) = MlastOut ∧ Mhead_13 = Mhead ∧ Mplays_14 = Mplays ∧ Mrests_15 = Mrests ∧ Mwent_16 = Mwent ∧ Mout_17 = Mout ∧ Mcame_18 = Mcame ∧ Mgone_19 = Mgone) := by
          exact Or.inl ⟨⟨by omega, all_le (P := fun a => ∀ i, 0 ≤ i → i < Mcells → ¬ lowP Mwire (Mguest (5 * a + 3)) i) (by assumption) (by omega)⟩, rfl, rfl, rfl, rfl, all_le (by assumption) (by omega)⟩
        have hv_35 : (0 : Int) = 0 := by
          rfl
        exact W.zret (v := zI 1) hx hb hr rfl (fun t9 ht hW => ⟨⟨zI 1, (1, 0, 1, 0, Mhead_13, Mplays_14, Mrests_15, Mwent_16, Mout_17, Mcame_18, Mgone_19, 0), rfl, ⟨rfl, ⟨hv_30, hv_31, hv_32, hR_20, hR_21, hR_22, hR_23, hR_24, hR_25, hR_26, hv_33, hv_34, hv_35⟩⟩, by subst hAe; exact z_end hK hw ht hW⟩, by subst hAe; exact hw.2.2.F ht⟩) (by subst hAe; exact hw.2.2.2.2) dX8_begin_92
      · skip
        refine lv_aload_n hx hb dX8_begin_66 rfl (lv_at hl 0 rfl) ?_
        refine lv_iload_n hx hb dX8_begin_67 rfl (lv_at hl 1 rfl) ?_
        have hF9 := z_free (wc := kM cI cB cZ oM 0 Mmany Mguest Mrow Mbars Mbar Mfresh Mtape Mtaped Mpos Mtoken MtokenAt Mvalue Mwrong MwrongAt MfaultKind MfaultPlace Mthing Morder Mone Mtwo Mbest Mcells Mgap Mwire Mstand 1 0 Mhead_13 Mplays_14 Mrests_15 Mwent_16 Mout_17 Mcame_18 Mgone_19 0) hw hA [0, 1, 2, 3, 4, 5, 6, 7, 8, 9, 10, 11, 12, 13, 14, 15, 16] rfl
        refine va_callv (va_runV (As := [.int (zI g_12)]) (rest := []) ⟨hx, hb, hml, hown, hts⟩ (c_X8_clear l D cI cB cZ oM H.size 0 Mmany Mguest Mrow Mbars Mbar Mfresh Mtape Mtaped Mpos Mtoken MtokenAt Mvalue Mwrong MwrongAt MfaultKind MfaultPlace Mthing Morder Mone Mtwo Mbest Mcells Mgap Mwire Mstand 1 0 Mhead_13 Mplays_14 Mrests_15 Mwent_16 Mout_17 Mcame_18 Mgone_19 0 g_12 (by omega) (by omega) qMguest qMrow (by omega) qMbar qMfresh qMtape (by omega) (by omega) (by omega) (by omega) (by omega) (by omega) (by omega) (by omega) (by omega) (by omega) qMorder (by omega) (by omega) qMbest (by omega) (by omega) qMwire qMstand (by omega) (by omega) hR_20 hR_21 hR_22 hR_23 hR_24 hR_25 hR_26 (by omega) (by omega)) (cwV 1 hts gX8_begin_X8_clear rfl rfl rfl (by decide +kernel) ⟨Nat.le_of_ble_eq_true rfl, Nat.le_of_ble_eq_true rfl⟩) ⟨zPre_blind, va_recv hK hw.1 (ci := 8) (q0 := 0) rfl rfl, z_pre hK hw [0, 1, 2, 3, 4, 5, 6, 7, 8, 9, 10, 11, 12, 13, 14, 15, 16] (by decide) rfl⟩ rfl rfl hl.1 rfl (lv_room (Nat.le_of_ble_eq_true rfl)) dX8_begin_68 ⟨Nat.zero_le _, Nat.zero_le _⟩) hw.2.2 (fun q _ h => hF9 q h) hF9 (fun u9 t9 H_36 locs9 ht9 hvm9 hq9 hB9 hz9 hk9 hS9 => ?_)
        obtain ⟨Mhead_37, Mplays_38, Mrests_39, Mwent_40, Mout_41⟩ := u9
        try dsimp only at hq9 hB9
        obtain ⟨hq_42, hq_43, hq_44, hq_45, hq_46, hq_47, hq_48, hq_49, hq_50, hq_51⟩ := hq9
        have hw : HW D A s.heap (kM cI cB cZ oM 0 Mmany Mguest Mrow Mbars Mbar Mfresh Mtape Mtaped Mpos Mtoken MtokenAt Mvalue Mwrong MwrongAt MfaultKind MfaultPlace Mthing Morder Mone Mtwo Mbest Mcells Mgap Mwire Mstand 1 0 Mhead_37 Mplays_38 Mrests_39 Mwent_40 Mout_41 Mcame_18 Mgone_19 0) H_36 locs9 := z_after (wc := kM cI cB cZ oM 0 Mmany Mguest Mrow Mbars Mbar Mfresh Mtape Mtaped Mpos Mtoken MtokenAt Mvalue Mwrong MwrongAt MfaultKind MfaultPlace Mthing Morder Mone Mtwo Mbest Mcells Mgap Mwire Mstand 1 0 Mhead_13 Mplays_14 Mrests_15 Mwent_16 Mout_17 Mcame_18 Mgone_19 0) hw [0, 1, 2, 3, 4, 5, 6, 7, 8, 9, 10, 11, 12, 13, 14, 15, 16] [] rfl rfl (by decide) (by decide) hF9 hk9 ht9 hB9 hS9 [0, 1, 2, 3, 4, 5, 6, 7, 8, 9, 10, 11, 12, 13, 14, 15, 16] (by decide) rfl
        clear hF9 ht9 hvm9 hB9 hz9 hk9 hS9
        refine lv_aload_n hx hb dX8_begin_71 rfl (lv_at hl 0 rfl) ?_
        refine va_get (D := D) (ci := 8) (v := .ref (oM 15)) (C := RX8) (T := TX8) (N := 36) hx hb hts hinX8 hown hK hw.1 0 rfl rfl 33 (by decide) (hts (.fieldLink RX8 63 "CarnivalRoadModel" "came" "[I") (by decide +kernel)) (fun _ h9 => h9) rfl dX8_begin_72 ?_
        refine lv_iload_n hx hb dX8_begin_75 rfl (lv_at hl 1 rfl) ?_
        refine z_iconst hx hb dX8_begin_76 ?_
        have hi_52 : (0 : Int) ≤ g_12 ∧ g_12 < ((8 : Nat) : Int) := by
          first | assumption | omega | grind
        have hv_53 : (-1 : Int) ≤ (-1 : Int) ∧ (-1 : Int) ≤ 1000000 := by
          first | assumption | omega | grind
        have hR_54 : RA (uZ Mcame_18 g_12 (-1)) (-1) 1000000 := RA_up hR_25 hv_53
        refine z_iast (n := 8) (f := Mcame_18) (ws2 := kM cI cB cZ oM 0 Mmany Mguest Mrow Mbars Mbar Mfresh Mtape Mtaped Mpos Mtoken MtokenAt Mvalue Mwrong MwrongAt MfaultKind MfaultPlace Mthing Morder Mone Mtwo Mbest Mcells Mgap Mwire Mstand 1 0 Mhead_37 Mplays_38 Mrests_39 Mwent_40 Mout_41 (uZ Mcame_18 g_12 (-1)) Mgone_19 0) hx hb hK hw 15 rfl (by decide) hi_52 dX8_begin_77 rfl (fun H locs hw => ?_)
        refine lv_aload_n hx hb dX8_begin_78 rfl (lv_at hl 0 rfl) ?_
        refine va_get (D := D) (ci := 8) (v := .ref (oM 16)) (C := RX8) (T := TX8) (N := 36) hx hb hts hinX8 hown hK hw.1 0 rfl rfl 34 (by decide) (hts (.fieldLink RX8 66 "CarnivalRoadModel" "gone" "[I") (by decide +kernel)) (fun _ h9 => h9) rfl dX8_begin_79 ?_
        refine lv_iload_n hx hb dX8_begin_82 rfl (lv_at hl 1 rfl) ?_
        refine z_iconst hx hb dX8_begin_83 ?_
        have hi_55 : (0 : Int) ≤ g_12 ∧ g_12 < ((8 : Nat) : Int) := by
          first | assumption | omega | grind
        have hv_56 : (-1 : Int) ≤ (-1 : Int) ∧ (-1 : Int) ≤ 1000000 := by
          first | assumption | omega | grind
        have hR_57 : RA (uZ Mgone_19 g_12 (-1)) (-1) 1000000 := RA_up hR_26 hv_56
        refine z_iast (n := 8) (f := Mgone_19) (ws2 := kM cI cB cZ oM 0 Mmany Mguest Mrow Mbars Mbar Mfresh Mtape Mtaped Mpos Mtoken MtokenAt Mvalue Mwrong MwrongAt MfaultKind MfaultPlace Mthing Morder Mone Mtwo Mbest Mcells Mgap Mwire Mstand 1 0 Mhead_37 Mplays_38 Mrests_39 Mwent_40 Mout_41 (uZ Mcame_18 g_12 (-1)) (uZ Mgone_19 g_12 (-1)) 0) hx hb hK hw 16 rfl (by decide) hi_55 dX8_begin_84 rfl (fun H locs hw => ?_)
        refine z_iinc (k := 1) (lv' := [(1, .int (zI (g_12 + 1))), (0, .ref (oM 0))]) hx hb dX8_begin_85 hl rfl (by decide) rfl (fun ls hl => ?_)
        refine lv_goto (tgt := 58) hx hb dX8_begin_88 (by decide) ?_
        have hv_58 : 0 ≤ (g_12 + 1) ∧ (g_12 + 1) ≤ Mmany := by
          first | assumption | omega | grind
        have hv_59 : ∀ a, 0 ≤ a → a < (g_12 + 1) → Mhead_37 a = -1 ∧ Mplays_38 a = 0 ∧ Mrests_39 a = 0 ∧ Mwent_40 a = 0 ∧ Mout_41 a = 0 ∧ (uZ Mcame_18 g_12 (-1)) a = -1 ∧ (uZ Mgone_19 g_12 (-1)) a = -1 := by
          subst_vars
          refine all_s (fun k k0 k1 => ?_) ⟨uZ_s, uZ_s, uZ_s, uZ_s, uZ_s, uZ_s, uZ_s⟩
          rw [uZ_n (by omega), uZ_n (by omega), uZ_n (by omega), uZ_n (by omega), uZ_n (by omega), uZ_n (by omega), uZ_n (by omega)]
          revert k1
          revert k0
          revert k
          assumption
        have hm_60 : (9 - (g_12 + 1)).toNat < (9 - g_12).toNat := by
          first | assumption | omega | grind
        exact ih_11 ((g_12 + 1), Mhead_37, Mplays_38, Mrests_39, Mwent_40, Mout_41, (uZ Mcame_18 g_12 (-1)), (uZ Mgone_19 g_12 (-1))) _ _ _ ⟨hq_42, hq_43, hq_44, hq_45, hq_46, hR_54, hR_57, hv_58, hv_59, hw, lv_sub hl [1, 0] rfl⟩ hm_60
    · skip
      refine lv_aload_n hx hb dX8_begin_24 rfl (lv_at hl 0 rfl) ?_
      refine lv_iload_n hx hb dX8_begin_25 rfl (lv_at hl 1 rfl) ?_
      have hF9 := z_free (wc := kM cI cB cZ oM 0 Mmany Mguest Mrow Mbars Mbar Mfresh Mtape Mtaped Mpos Mtoken MtokenAt Mvalue Mwrong MwrongAt MfaultKind MfaultPlace Mthing Morder Mone Mtwo Mbest Mcells Mgap Mwire Mstand Mruns Mminute Mhead Mplays Mrests Mwent Mout Mcame Mgone MlastOut) hw hA [0, 1, 2, 3, 4, 5, 6, 7, 8, 9, 10, 11, 12, 13, 14, 15, 16] rfl
      refine va_calli (va_runV (As := [.int (zI g_5)]) (rest := []) ⟨hx, hb, hml, hown, hts⟩ (c_X8_stops l D cI cB cZ oM H.size 0 Mmany Mguest Mrow Mbars Mbar Mfresh Mtape Mtaped Mpos Mtoken MtokenAt Mvalue Mwrong MwrongAt MfaultKind MfaultPlace Mthing Morder Mone Mtwo Mbest Mcells Mgap Mwire Mstand Mruns Mminute Mhead Mplays Mrests Mwent Mout Mcame Mgone MlastOut g_5 (by omega) (by omega) qMguest qMrow (by omega) qMbar qMfresh qMtape (by omega) (by omega) (by omega) (by omega) (by omega) (by omega) (by omega) (by omega) (by omega) (by omega) qMorder (by omega) (by omega) qMbest (by omega) (by omega) qMwire qMstand (by omega) (by omega) qMhead qMplays qMrests qMwent qMout qMcame qMgone (by omega) (by omega)) (cwV 1 hts gX8_begin_X8_stops rfl rfl rfl (by decide +kernel) ⟨Nat.le_of_ble_eq_true rfl, Nat.le_of_ble_eq_true rfl⟩) ⟨zPre_blind, va_recv hK hw.1 (ci := 8) (q0 := 0) rfl rfl, z_pre hK hw [0, 1, 2, 3, 4, 5, 6, 7, 8, 9, 10, 11, 12, 13, 14, 15, 16] (by decide) rfl⟩ rfl rfl hl.1 rfl (lv_room (Nat.le_of_ble_eq_true rfl)) dX8_begin_26 ⟨Nat.zero_le _, Nat.zero_le _⟩) hw.2.2 (fun q _ h => hF9 q h) hF9 (fun r9 u9 t9 H_61 locs9 ht9 hvm9 hq9 hB9 hz9 hk9 hS9 => ?_)
      obtain ⟨r_62, rfl⟩ : ∃ z, z = u9 := ⟨_, rfl⟩
      try dsimp only at hq9 hB9
      obtain ⟨rfl, hq9⟩ := hq9
      obtain ⟨hq_63, hq_64⟩ := hq9
      have hw : HW D A s.heap (kM cI cB cZ oM 0 Mmany Mguest Mrow Mbars Mbar Mfresh Mtape Mtaped Mpos Mtoken MtokenAt Mvalue Mwrong MwrongAt MfaultKind MfaultPlace Mthing Morder Mone Mtwo Mbest Mcells Mgap Mwire Mstand Mruns Mminute Mhead Mplays Mrests Mwent Mout Mcame Mgone MlastOut) H_61 locs9 := z_after (wc := kM cI cB cZ oM 0 Mmany Mguest Mrow Mbars Mbar Mfresh Mtape Mtaped Mpos Mtoken MtokenAt Mvalue Mwrong MwrongAt MfaultKind MfaultPlace Mthing Morder Mone Mtwo Mbest Mcells Mgap Mwire Mstand Mruns Mminute Mhead Mplays Mrests Mwent Mout Mcame Mgone MlastOut) hw [0, 1, 2, 3, 4, 5, 6, 7, 8, 9, 10, 11, 12, 13, 14, 15, 16] [] rfl rfl (by decide) (by decide) hF9 hk9 ht9 hB9 hS9 [0, 1, 2, 3, 4, 5, 6, 7, 8, 9, 10, 11, 12, 13, 14, 15, 16] (by decide) rfl
      clear hF9 ht9 hvm9 hB9 hz9 hk9 hS9
      refine z_iconst hx hb dX8_begin_29 ?_
      refine z_icmp_eq (tgt := 35) hx hb dX8_begin_30 (by decide) (by omega) (fun hc_65 => ?_) (fun hc_65 => ?_)
      · skip
        refine z_iinc (k := 1) (lv' := [(1, .int (zI (g_5 + 1))), (0, .ref (oM 0))]) hx hb dX8_begin_35 hl rfl (by decide) rfl (fun ls hl => ?_)
        refine lv_goto (tgt := 16) hx hb dX8_begin_38 (by decide) ?_
        have hv_66 : 0 ≤ (g_5 + 1) ∧ (g_5 + 1) ≤ Mmany := by
          first | assumption | omega | grind
        have hv_67 : ∀ a, 0 ≤ a → a < (g_5 + 1) → ∀ i, 0 ≤ i → i < Mcells → ¬ lowP Mwire (Mguest (5 * a + 3)) i := by
          refine all_s (P := fun a => ∀ i, 0 ≤ i → i < Mcells → ¬ lowP Mwire (Mguest (5 * a + 3)) i) (by assumption) ?_
          exact fst_m1 (by assumption) (by omega)
        have hm_68 : (9 - (g_5 + 1)).toNat < (9 - g_5).toNat := by
          first | assumption | omega | grind
        exact ih_4 (g_5 + 1) _ _ _ ⟨hv_66, hv_67, hw, lv_sub hl [1, 0] rfl⟩ hm_68
      · skip
        refine z_iconst hx hb dX8_begin_33 ?_
        have hv_69 : (0 : Int) ≤ (0 : Int) ∧ (0 : Int) ≤ 2 := by
          first | assumption | omega | grind
        have hv_70 : (0 : Int) ≤ Mruns ∧ Mruns ≤ 1 := by
          first | assumption | omega | grind
        have hv_71 : (0 : Int) ≤ Mminute ∧ Mminute ≤ 1000000 := by
          first | assumption | omega | grind
        have hv_72 : (0 : Int) ≤ MlastOut ∧ MlastOut ≤ 1000000 := by
          first | assumption | omega | grind
        have hv_73 : ((0 < Mmany ∧ ∀ g, 0 ≤ g → g < Mmany → ∀ i, 0 ≤ i → i < Mcells → ¬ lowP Mwire (Mguest (5 * g + 3)) i) ∧ (0 : Int) = 1 ∧ Mruns = 1 ∧ Mminute = 0 ∧ MlastOut = 0 ∧ ∀ g, 0 ≤ g → g < Mmany → Mhead g = -1 ∧ Mplays g = 0 ∧ Mrests g = 0 ∧ Mwent g = 0 ∧ Mout g = 0 ∧ Mcame g = -1 ∧ Mgone g = -1) ∨ (¬ (0 < Mmany ∧ ∀ g, 0 ≤ g → g < Mmany → ∀ i, 0 ≤ i → i < Mcells → ¬ lowP Mwire (Mguest (5 * g + 3)) i) ∧ (0 : Int) = 0 ∧ Mruns = Mruns ∧ Mminute = Mminute ∧ MlastOut = MlastOut ∧ Mhead = Mhead ∧ Mplays = Mplays ∧ Mrests = Mrests ∧ Mwent = Mwent ∧ Mout = Mout ∧ Mcame = Mcame ∧ Mgone = Mgone) := by
          refine Or.inr ⟨fun q => ?_, rfl, rfl, rfl, rfl, rfl, rfl, rfl, rfl, rfl, rfl, rfl⟩
          exact fst_ne (by assumption) (by omega) (q.2 g_5 (by omega) (by omega))
        have hv_74 : (0 : Int) = 0 := by
          rfl
        exact W.zret (v := zI 0) hx hb hr rfl (fun t9 ht hW => ⟨⟨zI 0, (0, 0, Mruns, Mminute, Mhead, Mplays, Mrests, Mwent, Mout, Mcame, Mgone, MlastOut), rfl, ⟨rfl, ⟨hv_69, hv_70, hv_71, qMhead, qMplays, qMrests, qMwent, qMout, qMcame, qMgone, hv_72, hv_73, hv_74⟩⟩, by subst hAe; exact z_end hK hw ht hW⟩, by subst hAe; exact hw.2.2.F ht⟩) (by subst hAe; exact hw.2.2.2.2) dX8_begin_34
  · skip
    refine z_iconst hx hb dX8_begin_12 ?_
    have hv_75 : (0 : Int) ≤ (0 : Int) ∧ (0 : Int) ≤ 2 := by
      first | assumption | omega | grind
    have hv_76 : (0 : Int) ≤ Mruns ∧ Mruns ≤ 1 := by
      first | assumption | omega | grind
    have hv_77 : (0 : Int) ≤ Mminute ∧ Mminute ≤ 1000000 := by
      first | assumption | omega | grind
    have hv_78 : (0 : Int) ≤ MlastOut ∧ MlastOut ≤ 1000000 := by
      first | assumption | omega | grind
    have hv_79 : ((0 < Mmany ∧ ∀ g, 0 ≤ g → g < Mmany → ∀ i, 0 ≤ i → i < Mcells → ¬ lowP Mwire (Mguest (5 * g + 3)) i) ∧ (0 : Int) = 1 ∧ Mruns = 1 ∧ Mminute = 0 ∧ MlastOut = 0 ∧ ∀ g, 0 ≤ g → g < Mmany → Mhead g = -1 ∧ Mplays g = 0 ∧ Mrests g = 0 ∧ Mwent g = 0 ∧ Mout g = 0 ∧ Mcame g = -1 ∧ Mgone g = -1) ∨ (¬ (0 < Mmany ∧ ∀ g, 0 ≤ g → g < Mmany → ∀ i, 0 ≤ i → i < Mcells → ¬ lowP Mwire (Mguest (5 * g + 3)) i) ∧ (0 : Int) = 0 ∧ Mruns = Mruns ∧ Mminute = Mminute ∧ MlastOut = MlastOut ∧ Mhead = Mhead ∧ Mplays = Mplays ∧ Mrests = Mrests ∧ Mwent = Mwent ∧ Mout = Mout ∧ Mcame = Mcame ∧ Mgone = Mgone) := by
      exact Or.inr ⟨fun q => absurd q.1 (by omega), rfl, rfl, rfl, rfl, rfl, rfl, rfl, rfl, rfl, rfl, rfl⟩
    have hv_80 : (0 : Int) = 0 := by
      rfl
    exact W.zret (v := zI 0) hx hb hr rfl (fun t9 ht hW => ⟨⟨zI 0, (0, 0, Mruns, Mminute, Mhead, Mplays, Mrests, Mwent, Mout, Mcame, Mgone, MlastOut), rfl, ⟨rfl, ⟨hv_75, hv_76, hv_77, qMhead, qMplays, qMrests, qMwent, qMout, qMcame, qMgone, hv_78, hv_79, hv_80⟩⟩, by subst hAe; exact z_end hK hw ht hW⟩, by subst hAe; exact hw.2.2.F ht⟩) (by subst hAe; exact hw.2.2.2.2) dX8_begin_13
set_option maxRecDepth 100000 in
set_option maxHeartbeats 4000000 in
theorem c_X8_minute (l : Launch) (D : va_G) (cI cB cZ : ClassId) (oM : Nat → Nat) (sz : Nat) (Mthrown : Int) (Mmany : Int) (Mguest : Int → Int) (Mrow : Int → Int) (Mbars : Int) (Mbar : Int → Int) (Mfresh : Int → Int) (Mtape : Int → Int) (Mtaped : Int) (Mpos : Int) (Mtoken : Int) (MtokenAt : Int) (Mvalue : Int) (Mwrong : Int) (MwrongAt : Int) (MfaultKind : Int) (MfaultPlace : Int) (Mthing : Int) (Morder : Int → Int) (Mone : Int) (Mtwo : Int) (Mbest : Int → Int) (Mcells : Int) (Mgap : Int) (Mwire : Int → Int) (Mstand : Int → Int) (Mruns : Int) (Mminute : Int) (Mhead : Int → Int) (Mplays : Int → Int) (Mrests : Int → Int) (Mwent : Int → Int) (Mout : Int → Int) (Mcame : Int → Int) (Mgone : Int → Int) (MlastOut : Int) (qMthrown : 0 ≤ Mthrown ∧ Mthrown ≤ 2) (qMmany : 0 ≤ Mmany ∧ Mmany ≤ 8) (qMguest : RA Mguest (0) 9) (qMrow : RA Mrow (0) 7) (qMbars : 0 ≤ Mbars ∧ Mbars ≤ 10) (qMbar : RA Mbar (0) 104) (qMfresh : RA Mfresh (0) 104) (qMtape : RA Mtape (0) 255) (qMtaped : 0 ≤ Mtaped ∧ Mtaped ≤ 400) (qMpos : 0 ≤ Mpos ∧ Mpos ≤ 400) (qMtoken : 0 ≤ Mtoken ∧ Mtoken ≤ 15) (qMtokenAt : 0 ≤ MtokenAt ∧ MtokenAt ≤ 400) (qMvalue : 0 ≤ Mvalue ∧ Mvalue ≤ 99) (qMwrong : 0 ≤ Mwrong ∧ Mwrong ≤ 3) (qMwrongAt : 0 ≤ MwrongAt ∧ MwrongAt ≤ 400) (qMfaultKind : 0 ≤ MfaultKind ∧ MfaultKind ≤ 3) (qMfaultPlace : -1 ≤ MfaultPlace ∧ MfaultPlace ≤ 400) (qMthing : 0 ≤ Mthing ∧ Mthing ≤ 104) (qMorder : RA Morder (0) 7) (qMone : 0 ≤ Mone ∧ Mone ≤ 8) (qMtwo : 0 ≤ Mtwo ∧ Mtwo ≤ 8) (qMbest : RA Mbest (0) 7) (qMcells : 1 ≤ Mcells ∧ Mcells ≤ 50) (qMgap : 0 ≤ Mgap ∧ Mgap ≤ 3) (qMwire : RA Mwire (0) 9) (qMstand : RA Mstand (0) 9) (qMruns : 0 ≤ Mruns ∧ Mruns ≤ 1) (qMminute : 0 ≤ Mminute ∧ Mminute ≤ 1000000) (qMhead : RA Mhead (-1) 60) (qMplays : RA Mplays (0) 18) (qMrests : RA Mrests (0) 3) (qMwent : RA Mwent (0) 61) (qMout : RA Mout (0) 1) (qMcame : RA Mcame (-1) 1000000) (qMgone : RA Mgone (-1) 1000000) (qMlastOut : 0 ≤ MlastOut ∧ MlastOut ≤ 1000000) : Met l yX8_minute wsX8_minute ({ frames := 1, cells := 0, slots := 0, locals := 22 }) (va_Pc [.ref (oM 0)] (zPre D cI cB cZ sz (kM cI cB cZ oM Mthrown Mmany Mguest Mrow Mbars Mbar Mfresh Mtape Mtaped Mpos Mtoken MtokenAt Mvalue Mwrong MwrongAt MfaultKind MfaultPlace Mthing Morder Mone Mtwo Mbest Mcells Mgap Mwire Mstand Mruns Mminute Mhead Mplays Mrests Mwent Mout Mcame Mgone MlastOut))) (va_Qi (fun (r9 : Int32) (u9 : Int × Int) => r9 = zI u9.1 ∧ (((0 : Int) ≤ u9.2 ∧ u9.2 ≤ 2) ∧ ((Mruns = 0 ∧ u9.2 = 1) ∨ (Mruns = 1 ∧ u9.2 = 0 ∧ u9.1 = Mminute)))) (fun u9 t9 => zAt D cI cB cZ (va_A (kM cI cB cZ oM Mthrown Mmany Mguest Mrow Mbars Mbar Mfresh Mtape Mtaped Mpos Mtoken MtokenAt Mvalue Mwrong MwrongAt MfaultKind MfaultPlace Mthing Morder Mone Mtwo Mbest Mcells Mgap Mwire Mstand Mruns Mminute Mhead Mplays Mrests Mwent Mout Mcame Mgone MlastOut) sz) (kM cI cB cZ oM (u9.2) Mmany Mguest Mrow Mbars Mbar Mfresh Mtape Mtaped Mpos Mtoken MtokenAt Mvalue Mwrong MwrongAt MfaultKind MfaultPlace Mthing Morder Mone Mtwo Mbest Mcells Mgap Mwire Mstand Mruns Mminute Mhead Mplays Mrests Mwent Mout Mcame Mgone MlastOut) t9) (va_A (kM cI cB cZ oM Mthrown Mmany Mguest Mrow Mbars Mbar Mfresh Mtape Mtaped Mpos Mtoken MtokenAt Mvalue Mwrong MwrongAt MfaultKind MfaultPlace Mthing Morder Mone Mtwo Mbest Mcells Mgap Mwire Mstand Mruns Mminute Mhead Mplays Mrests Mwent Mout Mcame Mgone MlastOut) sz)) 0 0 (va_A (kM cI cB cZ oM Mthrown Mmany Mguest Mrow Mbars Mbar Mfresh Mtape Mtaped Mpos Mtoken MtokenAt Mvalue Mwrong MwrongAt MfaultKind MfaultPlace Mthing Morder Mone Mtwo Mbest Mcells Mgap Mwire Mstand Mruns Mminute Mhead Mplays Mrests Mwent Mout Mcame Mgone MlastOut) sz) := by
  refine Met.ofW (cc := cX8_minute) (maxL := 1) (ret := (some .int)) (by decide) rfl ?_
  intro pp ee s mm aa bw mt cd s₁ BL hml hv
  obtain ⟨rfl, hsz, hP, hK, hD0⟩ := hv
  have hx := BL.exec
  have hb := BL.bytes
  have hr := BL.returns
  have hts := atoms_spec (ws := wsX8_minute) BL.pre
  have hown : s.vm.findClass RX8 = some mm.cls := findClass_of_methodNamed BL.named
  have hlocks := BL.notSynchronized
  subst hsz
  generalize hAe : va_A (kM cI cB cZ oM Mthrown Mmany Mguest Mrow Mbars Mbar Mfresh Mtape Mtaped Mpos Mtoken MtokenAt Mvalue Mwrong MwrongAt MfaultKind MfaultPlace Mthing Morder Mone Mtwo Mbest Mcells Mgap Mwire Mstand Mruns Mminute Mhead Mplays Mrests Mwent Mout Mcame Mgone MlastOut) s.heap.size = A
  have hA : ∀ q : Nat, s.heap.size ≤ q → A q := fun q h => by rw [← hAe]; exact Or.inr h
  have hw : HW D A s.heap (kM cI cB cZ oM Mthrown Mmany Mguest Mrow Mbars Mbar Mfresh Mtape Mtaped Mpos Mtoken MtokenAt Mvalue Mwrong MwrongAt MfaultKind MfaultPlace Mthing Morder Mone Mtwo Mbest Mcells Mgap Mwire Mstand Mruns Mminute Mhead Mplays Mrests Mwent Mout Mcame Mgone MlastOut) s.heap [] := z_start hAe hP hD0
  clear hP hD0
  have hl := lv_entry ([.ref (oM 0)]) (n := 1) (Nat.le_of_ble_eq_true rfl)
  rw [lg_entry_eq]
  generalize (lg_sl ([.ref (oM 0)]) ++ List.replicate (1 - (lg_sl ([.ref (oM 0)])).length) Slot.unset).toArray = ls at hl ⊢
  have hl : lv_has ls 1 [(0, .ref (oM 0))] := hl
  have hinX8 : ∀ w ∈ wsX80, w ∈ wsX8_minute := by decide +kernel
  refine lv_aload_n hx hb dX8_minute_0 rfl (lv_at hl 0 rfl) ?_
  refine lv_aload_n hx hb dX8_minute_1 rfl (lv_at hl 0 rfl) ?_
  refine va_get (D := D) (ci := 8) (v := .int (zI Mruns)) (C := RX8) (T := TX8) (N := 36) hx hb hts hinX8 hown hK hw.1 0 rfl rfl 26 (by decide) (hts (.fieldLink RX8 79 "CarnivalRoadModel" "runs" "Z") (by decide +kernel)) (fun _ h9 => h9) rfl dX8_minute_2 ?_
  refine z_if_ne (tgt := 12) hx hb dX8_minute_5 (by decide) (by omega) (fun hc_1 => ?_) (fun hc_1 => ?_)
  · skip
    refine z_iconst hx hb dX8_minute_12 ?_
    refine z_iconst hx hb dX8_minute_13 ?_
    have hF9 := z_free (wc := kM cI cB cZ oM Mthrown Mmany Mguest Mrow Mbars Mbar Mfresh Mtape Mtaped Mpos Mtoken MtokenAt Mvalue Mwrong MwrongAt MfaultKind MfaultPlace Mthing Morder Mone Mtwo Mbest Mcells Mgap Mwire Mstand Mruns Mminute Mhead Mplays Mrests Mwent Mout Mcame Mgone MlastOut) hw hA [0, 1, 2, 3, 4, 5, 6, 7, 8, 9, 10, 11, 12, 13, 14, 15, 16] rfl
    refine va_calli (va_runV (As := [.int (zI 0), .int (zI 0)]) (rest := []) ⟨hx, hb, hml, hown, hts⟩ (c_X8_fails l D cI cB cZ oM s.heap.size Mthrown Mmany Mguest Mrow Mbars Mbar Mfresh Mtape Mtaped Mpos Mtoken MtokenAt Mvalue Mwrong MwrongAt MfaultKind MfaultPlace Mthing Morder Mone Mtwo Mbest Mcells Mgap Mwire Mstand Mruns Mminute Mhead Mplays Mrests Mwent Mout Mcame Mgone MlastOut 0 0 (by omega) (by omega) qMguest qMrow (by omega) qMbar qMfresh qMtape (by omega) (by omega) (by omega) (by omega) (by omega) (by omega) (by omega) (by omega) (by omega) (by omega) qMorder (by omega) (by omega) qMbest (by omega) (by omega) qMwire qMstand (by omega) (by omega) qMhead qMplays qMrests qMwent qMout qMcame qMgone (by omega) (by omega) (by omega)) (cwV 2 hts gX8_minute_X8_fails rfl rfl rfl (by decide +kernel) ⟨Nat.le_of_ble_eq_true rfl, Nat.le_of_ble_eq_true rfl⟩) ⟨zPre_blind, va_recv hK hw.1 (ci := 8) (q0 := 0) rfl rfl, z_pre hK hw [0, 1, 2, 3, 4, 5, 6, 7, 8, 9, 10, 11, 12, 13, 14, 15, 16] (by decide) rfl⟩ rfl rfl hl.1 rfl (lv_room (Nat.le_of_ble_eq_true rfl)) dX8_minute_14 ⟨Nat.zero_le _, Nat.zero_le _⟩) hw.2.2 (fun q _ h => hF9 q h) hF9 (fun r9 u9 t9 H_2 locs9 ht9 hvm9 hq9 hB9 hz9 hk9 hS9 => ?_)
    obtain ⟨r_3, Mthrown_4⟩ := u9
    try dsimp only at hq9 hB9
    obtain ⟨rfl, hq9⟩ := hq9
    obtain ⟨hq_5, hq_6, hq_7⟩ := hq9
    have hw : HW D A s.heap (kM cI cB cZ oM Mthrown_4 Mmany Mguest Mrow Mbars Mbar Mfresh Mtape Mtaped Mpos Mtoken MtokenAt Mvalue Mwrong MwrongAt MfaultKind MfaultPlace Mthing Morder Mone Mtwo Mbest Mcells Mgap Mwire Mstand Mruns Mminute Mhead Mplays Mrests Mwent Mout Mcame Mgone MlastOut) H_2 locs9 := z_after (wc := kM cI cB cZ oM Mthrown Mmany Mguest Mrow Mbars Mbar Mfresh Mtape Mtaped Mpos Mtoken MtokenAt Mvalue Mwrong MwrongAt MfaultKind MfaultPlace Mthing Morder Mone Mtwo Mbest Mcells Mgap Mwire Mstand Mruns Mminute Mhead Mplays Mrests Mwent Mout Mcame Mgone MlastOut) hw [0, 1, 2, 3, 4, 5, 6, 7, 8, 9, 10, 11, 12, 13, 14, 15, 16] [] rfl rfl (by decide) (by decide) hF9 hk9 ht9 hB9 hS9 [0, 1, 2, 3, 4, 5, 6, 7, 8, 9, 10, 11, 12, 13, 14, 15, 16] (by decide) rfl
    clear hF9 ht9 hvm9 hB9 hz9 hk9 hS9
    rcases hq_6 with ⟨hc_8, rfl⟩ | ⟨hc_8, rfl⟩
    · skip
      refine z_if_eq (tgt := 22) hx hb dX8_minute_17 (by decide) (by omega) (fun hc_9 => absurd hc_9 (by omega)) (fun hc_9 => ?_)
      refine z_iconst hx hb dX8_minute_20 ?_
      have hv_10 : (0 : Int) ≤ Mthrown_4 ∧ Mthrown_4 ≤ 2 := by
        first | assumption | omega | grind
      have hv_11 : (Mruns = 0 ∧ Mthrown_4 = 1) ∨ (Mruns = 1 ∧ Mthrown_4 = 0 ∧ (0 : Int) = Mminute) := by
        first | assumption | omega | grind
      exact W.iret (v := zI 0) hx hb hr (fun t9 ht hW => ⟨⟨zI 0, (0, Mthrown_4), rfl, ⟨rfl, ⟨hv_10, hv_11⟩⟩, by subst hAe; exact z_end hK hw ht hW⟩, by subst hAe; exact hw.2.2.F ht⟩) (by subst hAe; exact hw.2.2.2.2) dX8_minute_21
    · skip
      refine z_if_eq (tgt := 22) hx hb dX8_minute_17 (by decide) (by omega) (fun hc_12 => ?_) (fun hc_12 => absurd hc_12 (by omega))
      refine lv_aload_n hx hb dX8_minute_22 rfl (lv_at hl 0 rfl) ?_
      refine va_get (D := D) (ci := 8) (v := .int (zI Mminute)) (C := RX8) (T := TX8) (N := 36) hx hb hts hinX8 hown hK hw.1 0 rfl rfl 27 (by decide) (hts (.fieldLink RX8 208 "CarnivalRoadModel" "minute" "I") (by decide +kernel)) (fun _ h9 => h9) rfl dX8_minute_23 ?_
      have hv_13 : (0 : Int) ≤ Mthrown_4 ∧ Mthrown_4 ≤ 2 := by
        first | assumption | omega | grind
      have hv_14 : (Mruns = 0 ∧ Mthrown_4 = 1) ∨ (Mruns = 1 ∧ Mthrown_4 = 0 ∧ Mminute = Mminute) := by
        first | assumption | omega | grind
      exact W.iret (v := zI Mminute) hx hb hr (fun t9 ht hW => ⟨⟨zI Mminute, (Mminute, Mthrown_4), rfl, ⟨rfl, ⟨hv_13, hv_14⟩⟩, by subst hAe; exact z_end hK hw ht hW⟩, by subst hAe; exact hw.2.2.F ht⟩) (by subst hAe; exact hw.2.2.2.2) dX8_minute_26
  · skip
    refine z_iconst hx hb dX8_minute_8 ?_
    refine lv_goto (tgt := 13) hx hb dX8_minute_9 (by decide) ?_
    refine z_iconst hx hb dX8_minute_13 ?_
    have hF9 := z_free (wc := kM cI cB cZ oM Mthrown Mmany Mguest Mrow Mbars Mbar Mfresh Mtape Mtaped Mpos Mtoken MtokenAt Mvalue Mwrong MwrongAt MfaultKind MfaultPlace Mthing Morder Mone Mtwo Mbest Mcells Mgap Mwire Mstand Mruns Mminute Mhead Mplays Mrests Mwent Mout Mcame Mgone MlastOut) hw hA [0, 1, 2, 3, 4, 5, 6, 7, 8, 9, 10, 11, 12, 13, 14, 15, 16] rfl
    refine va_calli (va_runV (As := [.int (zI 1), .int (zI 0)]) (rest := []) ⟨hx, hb, hml, hown, hts⟩ (c_X8_fails l D cI cB cZ oM s.heap.size Mthrown Mmany Mguest Mrow Mbars Mbar Mfresh Mtape Mtaped Mpos Mtoken MtokenAt Mvalue Mwrong MwrongAt MfaultKind MfaultPlace Mthing Morder Mone Mtwo Mbest Mcells Mgap Mwire Mstand Mruns Mminute Mhead Mplays Mrests Mwent Mout Mcame Mgone MlastOut 1 0 (by omega) (by omega) qMguest qMrow (by omega) qMbar qMfresh qMtape (by omega) (by omega) (by omega) (by omega) (by omega) (by omega) (by omega) (by omega) (by omega) (by omega) qMorder (by omega) (by omega) qMbest (by omega) (by omega) qMwire qMstand (by omega) (by omega) qMhead qMplays qMrests qMwent qMout qMcame qMgone (by omega) (by omega) (by omega)) (cwV 2 hts gX8_minute_X8_fails rfl rfl rfl (by decide +kernel) ⟨Nat.le_of_ble_eq_true rfl, Nat.le_of_ble_eq_true rfl⟩) ⟨zPre_blind, va_recv hK hw.1 (ci := 8) (q0 := 0) rfl rfl, z_pre hK hw [0, 1, 2, 3, 4, 5, 6, 7, 8, 9, 10, 11, 12, 13, 14, 15, 16] (by decide) rfl⟩ rfl rfl hl.1 rfl (lv_room (Nat.le_of_ble_eq_true rfl)) dX8_minute_14 ⟨Nat.zero_le _, Nat.zero_le _⟩) hw.2.2 (fun q _ h => hF9 q h) hF9 (fun r9 u9 t9 H_15 locs9 ht9 hvm9 hq9 hB9 hz9 hk9 hS9 => ?_)
    obtain ⟨r_16, Mthrown_17⟩ := u9
    try dsimp only at hq9 hB9
    obtain ⟨rfl, hq9⟩ := hq9
    obtain ⟨hq_18, hq_19, hq_20⟩ := hq9
    have hw : HW D A s.heap (kM cI cB cZ oM Mthrown_17 Mmany Mguest Mrow Mbars Mbar Mfresh Mtape Mtaped Mpos Mtoken MtokenAt Mvalue Mwrong MwrongAt MfaultKind MfaultPlace Mthing Morder Mone Mtwo Mbest Mcells Mgap Mwire Mstand Mruns Mminute Mhead Mplays Mrests Mwent Mout Mcame Mgone MlastOut) H_15 locs9 := z_after (wc := kM cI cB cZ oM Mthrown Mmany Mguest Mrow Mbars Mbar Mfresh Mtape Mtaped Mpos Mtoken MtokenAt Mvalue Mwrong MwrongAt MfaultKind MfaultPlace Mthing Morder Mone Mtwo Mbest Mcells Mgap Mwire Mstand Mruns Mminute Mhead Mplays Mrests Mwent Mout Mcame Mgone MlastOut) hw [0, 1, 2, 3, 4, 5, 6, 7, 8, 9, 10, 11, 12, 13, 14, 15, 16] [] rfl rfl (by decide) (by decide) hF9 hk9 ht9 hB9 hS9 [0, 1, 2, 3, 4, 5, 6, 7, 8, 9, 10, 11, 12, 13, 14, 15, 16] (by decide) rfl
    clear hF9 ht9 hvm9 hB9 hz9 hk9 hS9
    rcases hq_19 with ⟨hc_21, rfl⟩ | ⟨hc_21, rfl⟩
    · skip
      refine z_if_eq (tgt := 22) hx hb dX8_minute_17 (by decide) (by omega) (fun hc_22 => absurd hc_22 (by omega)) (fun hc_22 => ?_)
      refine z_iconst hx hb dX8_minute_20 ?_
      have hv_23 : (0 : Int) ≤ Mthrown_17 ∧ Mthrown_17 ≤ 2 := by
        first | assumption | omega | grind
      have hv_24 : (Mruns = 0 ∧ Mthrown_17 = 1) ∨ (Mruns = 1 ∧ Mthrown_17 = 0 ∧ (0 : Int) = Mminute) := by
        first | assumption | omega | grind
      exact W.iret (v := zI 0) hx hb hr (fun t9 ht hW => ⟨⟨zI 0, (0, Mthrown_17), rfl, ⟨rfl, ⟨hv_23, hv_24⟩⟩, by subst hAe; exact z_end hK hw ht hW⟩, by subst hAe; exact hw.2.2.F ht⟩) (by subst hAe; exact hw.2.2.2.2) dX8_minute_21
    · skip
      refine z_if_eq (tgt := 22) hx hb dX8_minute_17 (by decide) (by omega) (fun hc_25 => ?_) (fun hc_25 => absurd hc_25 (by omega))
      refine lv_aload_n hx hb dX8_minute_22 rfl (lv_at hl 0 rfl) ?_
      refine va_get (D := D) (ci := 8) (v := .int (zI Mminute)) (C := RX8) (T := TX8) (N := 36) hx hb hts hinX8 hown hK hw.1 0 rfl rfl 27 (by decide) (hts (.fieldLink RX8 208 "CarnivalRoadModel" "minute" "I") (by decide +kernel)) (fun _ h9 => h9) rfl dX8_minute_23 ?_
      have hv_26 : (0 : Int) ≤ Mthrown_17 ∧ Mthrown_17 ≤ 2 := by
        first | assumption | omega | grind
      have hv_27 : (Mruns = 0 ∧ Mthrown_17 = 1) ∨ (Mruns = 1 ∧ Mthrown_17 = 0 ∧ Mminute = Mminute) := by
        first | assumption | omega | grind
      exact W.iret (v := zI Mminute) hx hb hr (fun t9 ht hW => ⟨⟨zI Mminute, (Mminute, Mthrown_17), rfl, ⟨rfl, ⟨hv_26, hv_27⟩⟩, by subst hAe; exact z_end hK hw ht hW⟩, by subst hAe; exact hw.2.2.F ht⟩) (by subst hAe; exact hw.2.2.2.2) dX8_minute_26
