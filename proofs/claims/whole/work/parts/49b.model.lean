set_option maxRecDepth 100000 in
set_option maxHeartbeats 4000000 in
theorem c_X8_lay (l : Launch) (D : va_G) (cI cB cZ : ClassId) (oM : Nat → Nat) (sz : Nat) (Mthrown : Int) (Mmany : Int) (Mguest : Int → Int) (Mrow : Int → Int) (Mbars : Int) (Mbar : Int → Int) (Mfresh : Int → Int) (Mtape : Int → Int) (Mtaped : Int) (Mpos : Int) (Mtoken : Int) (MtokenAt : Int) (Mvalue : Int) (Mwrong : Int) (MwrongAt : Int) (MfaultKind : Int) (MfaultPlace : Int) (Mthing : Int) (Morder : Int → Int) (Mone : Int) (Mtwo : Int) (Mbest : Int → Int) (Mcells : Int) (Mgap : Int) (Mwire : Int → Int) (Mstand : Int → Int) (Mruns : Int) (Mminute : Int) (Mhead : Int → Int) (Mplays : Int → Int) (Mrests : Int → Int) (Mwent : Int → Int) (Mout : Int → Int) (Mcame : Int → Int) (Mgone : Int → Int) (MlastOut : Int) (v : Int) (qMthrown : 0 ≤ Mthrown ∧ Mthrown ≤ 2) (qMmany : 0 ≤ Mmany ∧ Mmany ≤ 8) (qMguest : RA Mguest (0) 9) (qMrow : RA Mrow (0) 7) (qMbars : 0 ≤ Mbars ∧ Mbars ≤ 10) (qMbar : RA Mbar (0) 104) (qMfresh : RA Mfresh (0) 104) (qMtape : RA Mtape (0) 255) (qMtaped : 0 ≤ Mtaped ∧ Mtaped ≤ 400) (qMpos : 0 ≤ Mpos ∧ Mpos ≤ 400) (qMtoken : 0 ≤ Mtoken ∧ Mtoken ≤ 15) (qMtokenAt : 0 ≤ MtokenAt ∧ MtokenAt ≤ 400) (qMvalue : 0 ≤ Mvalue ∧ Mvalue ≤ 99) (qMwrong : 0 ≤ Mwrong ∧ Mwrong ≤ 3) (qMwrongAt : 0 ≤ MwrongAt ∧ MwrongAt ≤ 400) (qMfaultKind : 0 ≤ MfaultKind ∧ MfaultKind ≤ 3) (qMfaultPlace : -1 ≤ MfaultPlace ∧ MfaultPlace ≤ 400) (qMthing : 0 ≤ Mthing ∧ Mthing ≤ 104) (qMorder : RA Morder (0) 7) (qMone : 0 ≤ Mone ∧ Mone ≤ 8) (qMtwo : 0 ≤ Mtwo ∧ Mtwo ≤ 8) (qMbest : RA Mbest (0) 7) (qMcells : 1 ≤ Mcells ∧ Mcells ≤ 50) (qMgap : 0 ≤ Mgap ∧ Mgap ≤ 3) (qMwire : RA Mwire (0) 9) (qMstand : RA Mstand (0) 9) (qMruns : 0 ≤ Mruns ∧ Mruns ≤ 1) (qMminute : 0 ≤ Mminute ∧ Mminute ≤ 1000000) (qMhead : RA Mhead (-1) 60) (qMplays : RA Mplays (0) 18) (qMrests : RA Mrests (0) 3) (qMwent : RA Mwent (0) 61) (qMout : RA Mout (0) 1) (qMcame : RA Mcame (-1) 1000000) (qMgone : RA Mgone (-1) 1000000) (qMlastOut : 0 ≤ MlastOut ∧ MlastOut ≤ 1000000) (qv : -2147483648 ≤ v ∧ v ≤ 2147483647) : Met l yX8_lay wsX8_lay ({ frames := 0, cells := 0, slots := 0, locals := 0 }) (va_Pc [.ref (oM 0), .int (zI v)] (zPre D cI cB cZ sz (kM cI cB cZ oM Mthrown Mmany Mguest Mrow Mbars Mbar Mfresh Mtape Mtaped Mpos Mtoken MtokenAt Mvalue Mwrong MwrongAt MfaultKind MfaultPlace Mthing Morder Mone Mtwo Mbest Mcells Mgap Mwire Mstand Mruns Mminute Mhead Mplays Mrests Mwent Mout Mcame Mgone MlastOut))) (va_Qi (fun (r9 : Int32) (u9 : Int × Int × (Int → Int) × Int) => r9 = zI u9.1 ∧ (((0 : Int) ≤ u9.2.1 ∧ u9.2.1 ≤ 2) ∧ (RA u9.2.2.1 (0) 7) ∧ ((0 : Int) ≤ u9.2.2.2 ∧ u9.2.2.2 ≤ 1) ∧ ((layP Mmany v ∧ u9.1 = 1 ∧ u9.2.2.2 = 0 ∧ ∀ k, 0 ≤ k → k < Mmany → u9.2.2.1 k = nib v k) ∨ (¬ layP Mmany v ∧ u9.1 = 0 ∧ u9.2.2.1 = Mrow ∧ u9.2.2.2 = Mruns)) ∧ (u9.2.1 = 0))) (fun u9 t9 => zAt D cI cB cZ (va_A (kM cI cB cZ oM Mthrown Mmany Mguest Mrow Mbars Mbar Mfresh Mtape Mtaped Mpos Mtoken MtokenAt Mvalue Mwrong MwrongAt MfaultKind MfaultPlace Mthing Morder Mone Mtwo Mbest Mcells Mgap Mwire Mstand Mruns Mminute Mhead Mplays Mrests Mwent Mout Mcame Mgone MlastOut) sz) (kM cI cB cZ oM (u9.2.1) Mmany Mguest (u9.2.2.1) Mbars Mbar Mfresh Mtape Mtaped Mpos Mtoken MtokenAt Mvalue Mwrong MwrongAt MfaultKind MfaultPlace Mthing Morder Mone Mtwo Mbest Mcells Mgap Mwire Mstand (u9.2.2.2) Mminute Mhead Mplays Mrests Mwent Mout Mcame Mgone MlastOut) t9) (va_A (kM cI cB cZ oM Mthrown Mmany Mguest Mrow Mbars Mbar Mfresh Mtape Mtaped Mpos Mtoken MtokenAt Mvalue Mwrong MwrongAt MfaultKind MfaultPlace Mthing Morder Mone Mtwo Mbest Mcells Mgap Mwire Mstand Mruns Mminute Mhead Mplays Mrests Mwent Mout Mcame Mgone MlastOut) sz)) 0 0 (va_A (kM cI cB cZ oM Mthrown Mmany Mguest Mrow Mbars Mbar Mfresh Mtape Mtaped Mpos Mtoken MtokenAt Mvalue Mwrong MwrongAt MfaultKind MfaultPlace Mthing Morder Mone Mtwo Mbest Mcells Mgap Mwire Mstand Mruns Mminute Mhead Mplays Mrests Mwent Mout Mcame Mgone MlastOut) sz) := by
  refine Met.ofW (cc := cX8_lay) (maxL := 5) (ret := (some .boolean)) (by decide) rfl ?_
  intro pp ee s mm aa bw mt cd s₁ BL hml hv
  obtain ⟨rfl, hsz, hP, hK, hD0⟩ := hv
  have hx := BL.exec
  have hb := BL.bytes
  have hr := BL.returns
  have hts := atoms_spec (ws := wsX8_lay) BL.pre
  have hown : s.vm.findClass RX8 = some mm.cls := findClass_of_methodNamed BL.named
  have hlocks := BL.notSynchronized
  subst hsz
  generalize hAe : va_A (kM cI cB cZ oM Mthrown Mmany Mguest Mrow Mbars Mbar Mfresh Mtape Mtaped Mpos Mtoken MtokenAt Mvalue Mwrong MwrongAt MfaultKind MfaultPlace Mthing Morder Mone Mtwo Mbest Mcells Mgap Mwire Mstand Mruns Mminute Mhead Mplays Mrests Mwent Mout Mcame Mgone MlastOut) s.heap.size = A
  have hA : ∀ q : Nat, s.heap.size ≤ q → A q := fun q h => by rw [← hAe]; exact Or.inr h
  have hw : HW D A s.heap (kM cI cB cZ oM Mthrown Mmany Mguest Mrow Mbars Mbar Mfresh Mtape Mtaped Mpos Mtoken MtokenAt Mvalue Mwrong MwrongAt MfaultKind MfaultPlace Mthing Morder Mone Mtwo Mbest Mcells Mgap Mwire Mstand Mruns Mminute Mhead Mplays Mrests Mwent Mout Mcame Mgone MlastOut) s.heap [] := z_start hAe hP hD0
  clear hP hD0
  have hl := lv_entry ([.ref (oM 0), .int (zI v)]) (n := 5) (Nat.le_of_ble_eq_true rfl)
  rw [lg_entry_eq]
  generalize (lg_sl ([.ref (oM 0), .int (zI v)]) ++ List.replicate (5 - (lg_sl ([.ref (oM 0), .int (zI v)])).length) Slot.unset).toArray = ls at hl ⊢
  have hl : lv_has ls 5 [(0, .ref (oM 0)), (1, .int (zI v))] := hl
  have hinX8 : ∀ w ∈ wsX80, w ∈ wsX8_lay := by decide +kernel
  refine lv_aload_n hx hb dX8_lay_0 rfl (lv_at hl 0 rfl) ?_
  refine z_iconst hx hb dX8_lay_1 ?_
  refine z_put (D := D) (ci := 8) (v := .int (zI 0)) (ty := .int) (C := RX8) (T := TX8) (N := 36) (ws2 := kM cI cB cZ oM 0 Mmany Mguest Mrow Mbars Mbar Mfresh Mtape Mtaped Mpos Mtoken MtokenAt Mvalue Mwrong MwrongAt MfaultKind MfaultPlace Mthing Morder Mone Mtwo Mbest Mcells Mgap Mwire Mstand Mruns Mminute Mhead Mplays Mrests Mwent Mout Mcame Mgone MlastOut) hx hb hts hinX8 tyX8 tyX8_ok nmX8 hown hK hw 0 rfl rfl 0 (by decide) (hts (.fieldLink RX8 69 "CarnivalRoadModel" "thrown" "I") (by decide +kernel)) (fun _ h9 => h9) rfl (by decide +kernel) rfl rfl (Nat.le_of_ble_eq_true rfl) dX8_lay_2 rfl (fun H locs hw => ?_)
  refine z_iconst hx hb dX8_lay_5 ?_
  refine lv_istore_n (lv' := [(2, .int (zI 0)), (0, .ref (oM 0)), (1, .int (zI v))]) hx hb dX8_lay_6 rfl hl (by decide) rfl (fun ls hl => ?_)
  refine z_iconst hx hb dX8_lay_7 ?_
  refine lv_istore_n (lv' := [(3, .int (zI 0)), (2, .int (zI 0)), (0, .ref (oM 0)), (1, .int (zI v))]) hx hb dX8_lay_8 rfl hl (by decide) rfl (fun ls hl => ?_)
  have hv_1 : 0 ≤ (0 : Int) ∧ (0 : Int) ≤ Mmany := by
    first | assumption | omega | grind
  have hv_2 : 0 ≤ (0 : Int) ∧ (0 : Int) ≤ 255 := by
    first | assumption | omega | grind
  have hv_3 : ∀ j, 0 ≤ j → j ≤ 15 → (mb (0 : Int) j ↔ ∃ k, 0 ≤ k ∧ k < (0 : Int) ∧ nib v k = j) := by
    intro j j0 j1
    exact ⟨fun q => absurd q mb_0, fun ⟨k, k0, k1, _⟩ => absurd k1 (by omega)⟩
  have hv_4 : layQ (0 : Int) Mmany v := by
    exact ⟨fun k k0 k1 => absurd k1 (by omega), fun a b a0 a1 a2 => absurd a2 (by omega)⟩
  refine z_loop (σ := Int × Int) (μ := fun x9 => (9 - (x9.2)).toNat) (I := fun x9 H locs ls => (0 ≤ (x9.2) ∧ (x9.2) ≤ Mmany) ∧ (0 ≤ (x9.1) ∧ (x9.1) ≤ 255) ∧ (∀ j, 0 ≤ j → j ≤ 15 → (mb (x9.1) j ↔ ∃ k, 0 ≤ k ∧ k < (x9.2) ∧ nib v k = j)) ∧ (layQ (x9.2) Mmany v) ∧ HW D A s.heap (kM cI cB cZ oM 0 Mmany Mguest Mrow Mbars Mbar Mfresh Mtape Mtaped Mpos Mtoken MtokenAt Mvalue Mwrong MwrongAt MfaultKind MfaultPlace Mthing Morder Mone Mtwo Mbest Mcells Mgap Mwire Mstand Mruns Mminute Mhead Mplays Mrests Mwent Mout Mcame Mgone MlastOut) H locs ∧ lv_has ls 5 [(0, .ref (oM 0)), (1, .int (zI v)), (2, .int (zI (x9.1))), (3, .int (zI (x9.2)))]) (0, 0) ⟨hv_1, hv_2, hv_3, hv_4, hw, lv_sub hl [2, 3, 1, 0] rfl⟩ ?_
  clear hw hl
  intro x9 H locs ls hI ih_5
  obtain ⟨seen_6, i_7⟩ := x9
  try dsimp only at hI
  obtain ⟨hI_8, hI_9, hI_10, hI_11, hw, hl⟩ := hI
  refine lv_iload_n hx hb dX8_lay_9 rfl (lv_at hl 3 rfl) ?_
  refine lv_aload_n hx hb dX8_lay_10 rfl (lv_at hl 0 rfl) ?_
  refine va_get (D := D) (ci := 8) (v := .int (zI Mmany)) (C := RX8) (T := TX8) (N := 36) hx hb hts hinX8 hown hK hw.1 0 rfl rfl 1 (by decide) (hts (.fieldLink RX8 72 "CarnivalRoadModel" "many" "I") (by decide +kernel)) (fun _ h9 => h9) rfl dX8_lay_11 ?_
  refine z_icmp_ge (tgt := 61) hx hb dX8_lay_14 (by decide) (by omega) (fun hc_12 => ?_) (fun hc_12 => ?_)
  · skip
    refine z_iconst hx hb dX8_lay_61 ?_
    refine lv_istore_n (lv' := [(3, .int (zI 0)), (0, .ref (oM 0)), (1, .int (zI v)), (2, .int (zI seen_6))]) hx hb dX8_lay_62 rfl hl (by decide) rfl (fun ls hl => ?_)
    have hly := lay_all (by assumption : layQ _ Mmany v) (by omega)
    have hv_13 : 0 ≤ (0 : Int) ∧ (0 : Int) ≤ Mmany := by
      first | assumption | omega | grind
    have hv_14 : ∀ k, 0 ≤ k → k < (0 : Int) → Mrow k = nib v k := by
      exact all_0
    refine z_loop (σ := Int × (Int → Int)) (μ := fun x9 => (9 - (x9.1)).toNat) (I := fun x9 H locs ls => (RA (x9.2) (0) 7) ∧ (0 ≤ (x9.1) ∧ (x9.1) ≤ Mmany) ∧ (∀ k, 0 ≤ k → k < (x9.1) → (x9.2) k = nib v k) ∧ HW D A s.heap (kM cI cB cZ oM 0 Mmany Mguest (x9.2) Mbars Mbar Mfresh Mtape Mtaped Mpos Mtoken MtokenAt Mvalue Mwrong MwrongAt MfaultKind MfaultPlace Mthing Morder Mone Mtwo Mbest Mcells Mgap Mwire Mstand Mruns Mminute Mhead Mplays Mrests Mwent Mout Mcame Mgone MlastOut) H locs ∧ lv_has ls 5 [(0, .ref (oM 0)), (1, .int (zI v)), (3, .int (zI (x9.1)))]) (0, Mrow) ⟨qMrow, hv_13, hv_14, hw, lv_sub hl [1, 2, 0] rfl⟩ ?_
    clear hw hl
    intro x9 H locs ls hI ih_15
    obtain ⟨i_16, Mrow_17⟩ := x9
    try dsimp only at hI
    obtain ⟨hR_18, hI_19, hI_20, hw, hl⟩ := hI
    refine lv_iload_n hx hb dX8_lay_63 rfl (lv_at hl 2 rfl) ?_
    refine lv_aload_n hx hb dX8_lay_64 rfl (lv_at hl 0 rfl) ?_
    refine va_get (D := D) (ci := 8) (v := .int (zI Mmany)) (C := RX8) (T := TX8) (N := 36) hx hb hts hinX8 hown hK hw.1 0 rfl rfl 1 (by decide) (hts (.fieldLink RX8 72 "CarnivalRoadModel" "many" "I") (by decide +kernel)) (fun _ h9 => h9) rfl dX8_lay_65 ?_
    refine z_icmp_ge (tgt := 91) hx hb dX8_lay_68 (by decide) (by omega) (fun hc_21 => ?_) (fun hc_21 => ?_)
    · skip
      refine lv_aload_n hx hb dX8_lay_91 rfl (lv_at hl 0 rfl) ?_
      refine z_iconst hx hb dX8_lay_92 ?_
      refine z_put (D := D) (ci := 8) (v := .int (zI 0)) (ty := .boolean) (C := RX8) (T := TX8) (N := 36) (ws2 := kM cI cB cZ oM 0 Mmany Mguest Mrow_17 Mbars Mbar Mfresh Mtape Mtaped Mpos Mtoken MtokenAt Mvalue Mwrong MwrongAt MfaultKind MfaultPlace Mthing Morder Mone Mtwo Mbest Mcells Mgap Mwire Mstand 0 Mminute Mhead Mplays Mrests Mwent Mout Mcame Mgone MlastOut) hx hb hts hinX8 tyX8 tyX8_ok nmX8 hown hK hw 0 rfl rfl 26 (by decide) (hts (.fieldLink RX8 79 "CarnivalRoadModel" "runs" "Z") (by decide +kernel)) (fun _ h9 => h9) rfl (by decide +kernel) rfl rfl (Nat.le_of_ble_eq_true rfl) dX8_lay_93 rfl (fun H locs hw => ?_)
      refine z_iconst hx hb dX8_lay_96 ?_
      have hv_22 : (0 : Int) ≤ (0 : Int) ∧ (0 : Int) ≤ 2 := by
        first | assumption | omega | grind
      have hv_23 : (0 : Int) ≤ (0 : Int) ∧ (0 : Int) ≤ 1 := by
        first | assumption | omega | grind
      have hv_24 : (layP Mmany v ∧ (1 : Int) = 1 ∧ (0 : Int) = 0 ∧ ∀ k, 0 ≤ k → k < Mmany → Mrow_17 k = nib v k) ∨ (¬ layP Mmany v ∧ (1 : Int) = 0 ∧ Mrow_17 = Mrow ∧ (0 : Int) = Mruns) := by
        exact Or.inl ⟨hly, rfl, rfl, all_le (by assumption) (by omega)⟩
      have hv_25 : (0 : Int) = 0 := by
        rfl
      exact W.zret (v := zI 1) hx hb hr rfl (fun t9 ht hW => ⟨⟨zI 1, (1, 0, Mrow_17, 0), rfl, ⟨rfl, ⟨hv_22, hR_18, hv_23, hv_24, hv_25⟩⟩, by subst hAe; exact z_end hK hw ht hW⟩, by subst hAe; exact hw.2.2.F ht⟩) (by subst hAe; exact hw.2.2.2.2) dX8_lay_97
    · skip
      refine lv_aload_n hx hb dX8_lay_71 rfl (lv_at hl 0 rfl) ?_
      refine va_get (D := D) (ci := 8) (v := .ref (oM 2)) (C := RX8) (T := TX8) (N := 36) hx hb hts hinX8 hown hK hw.1 0 rfl rfl 3 (by decide) (hts (.fieldLink RX8 13 "CarnivalRoadModel" "row" "[I") (by decide +kernel)) (fun _ h9 => h9) rfl dX8_lay_72 ?_
      refine lv_iload_n hx hb dX8_lay_75 rfl (lv_at hl 2 rfl) ?_
      refine lv_iload_n hx hb dX8_lay_76 rfl (lv_at hl 1 rfl) ?_
      refine z_iconst hx hb dX8_lay_77 ?_
      refine lv_iload_n hx hb dX8_lay_78 rfl (lv_at hl 2 rfl) ?_
      refine z_imul hx hb dX8_lay_79 ?_
      have hbit_26 : zI v >>> (zI (4 * i_16) &&& 31) = zI (shrF v (4 * i_16)) := by
        exact z_ishr (by omega) (by omega)
      refine lv_ishr hx hb dX8_lay_80 ?_
      rw [hbit_26]
      clear hbit_26
      refine z_bipush hx hb dX8_lay_81 (by decide) ?_
      have hbit_27 : zI (shrF v (4 * i_16)) &&& zI 15 = zI (nib v i_16) := by
        rw [z_15]; rfl
      refine lv_iand hx hb dX8_lay_83 ?_
      rw [hbit_27]
      clear hbit_27
      have hq_28 : 0 ≤ nib v i_16 ∧ nib v i_16 ≤ 15 := by
        exact nib_r
      have hi_29 : (0 : Int) ≤ i_16 ∧ i_16 < ((8 : Nat) : Int) := by
        first | assumption | omega | grind
      have hv_30 : (0 : Int) ≤ (nib v i_16) ∧ (nib v i_16) ≤ 7 := by
        have q := hly.1 i_16 (by omega) (by omega)
        omega
      have hR_31 : RA (uZ Mrow_17 i_16 (nib v i_16)) (0) 7 := RA_up hR_18 hv_30
      refine z_iast (n := 8) (f := Mrow_17) (ws2 := kM cI cB cZ oM 0 Mmany Mguest (uZ Mrow_17 i_16 (nib v i_16)) Mbars Mbar Mfresh Mtape Mtaped Mpos Mtoken MtokenAt Mvalue Mwrong MwrongAt MfaultKind MfaultPlace Mthing Morder Mone Mtwo Mbest Mcells Mgap Mwire Mstand Mruns Mminute Mhead Mplays Mrests Mwent Mout Mcame Mgone MlastOut) hx hb hK hw 2 rfl (by decide) hi_29 dX8_lay_84 rfl (fun H locs hw => ?_)
      refine z_iinc (k := 2) (lv' := [(3, .int (zI (i_16 + 1))), (0, .ref (oM 0)), (1, .int (zI v))]) hx hb dX8_lay_85 hl rfl (by decide) rfl (fun ls hl => ?_)
      refine lv_goto (tgt := 63) hx hb dX8_lay_88 (by decide) ?_
      have hv_32 : 0 ≤ (i_16 + 1) ∧ (i_16 + 1) ≤ Mmany := by
        first | assumption | omega | grind
      have hv_33 : ∀ k, 0 ≤ k → k < (i_16 + 1) → (uZ Mrow_17 i_16 (nib v i_16)) k = nib v k := by
        refine all_s (fun k k0 k1 => ?_) uZ_s
        rw [uZ_n (by omega)]
        revert k1
        revert k0
        revert k
        assumption
      have hm_34 : (9 - (i_16 + 1)).toNat < (9 - i_16).toNat := by
        first | assumption | omega | grind
      exact ih_15 ((i_16 + 1), (uZ Mrow_17 i_16 (nib v i_16))) _ _ _ ⟨hR_31, hv_32, hv_33, hw, lv_sub hl [1, 2, 0] rfl⟩ hm_34
  · skip
    refine lv_iload_n hx hb dX8_lay_17 rfl (lv_at hl 1 rfl) ?_
    refine z_iconst hx hb dX8_lay_18 ?_
    refine lv_iload_n hx hb dX8_lay_19 rfl (lv_at hl 3 rfl) ?_
    refine z_imul hx hb dX8_lay_20 ?_
    have hbit_35 : zI v >>> (zI (4 * i_7) &&& 31) = zI (shrF v (4 * i_7)) := by
      exact z_ishr (by omega) (by omega)
    refine lv_ishr hx hb dX8_lay_21 ?_
    rw [hbit_35]
    clear hbit_35
    refine z_bipush hx hb dX8_lay_22 (by decide) ?_
    have hbit_36 : zI (shrF v (4 * i_7)) &&& zI 15 = zI (nib v i_7) := by
      rw [z_15]; rfl
    refine lv_iand hx hb dX8_lay_24 ?_
    rw [hbit_36]
    clear hbit_36
    have hq_37 : 0 ≤ nib v i_7 ∧ nib v i_7 ≤ 15 := by
      exact nib_r
    refine lv_istore (lv' := [(4, .int (zI (nib v i_7))), (0, .ref (oM 0)), (1, .int (zI v)), (2, .int (zI seen_6)), (3, .int (zI i_7))]) hx hb dX8_lay_25 hl (by decide) rfl (fun ls hl => ?_)
    refine lv_iload hx hb dX8_lay_27 (lv_at hl 0 rfl) ?_
    refine lv_aload_n hx hb dX8_lay_29 rfl (lv_at hl 1 rfl) ?_
    refine va_get (D := D) (ci := 8) (v := .int (zI Mmany)) (C := RX8) (T := TX8) (N := 36) hx hb hts hinX8 hown hK hw.1 0 rfl rfl 1 (by decide) (hts (.fieldLink RX8 72 "CarnivalRoadModel" "many" "I") (by decide +kernel)) (fun _ h9 => h9) rfl dX8_lay_30 ?_
    refine z_icmp_ge (tgt := 46) hx hb dX8_lay_33 (by decide) (by omega) (fun hc_38 => ?_) (fun hc_38 => ?_)
    · skip
      refine z_iconst hx hb dX8_lay_46 ?_
      have hv_39 : (0 : Int) ≤ (0 : Int) ∧ (0 : Int) ≤ 2 := by
        first | assumption | omega | grind
      have hv_40 : (0 : Int) ≤ Mruns ∧ Mruns ≤ 1 := by
        first | assumption | omega | grind
      have hv_41 : (layP Mmany v ∧ (0 : Int) = 1 ∧ Mruns = 0 ∧ ∀ k, 0 ≤ k → k < Mmany → Mrow k = nib v k) ∨ (¬ layP Mmany v ∧ (0 : Int) = 0 ∧ Mrow = Mrow ∧ Mruns = Mruns) := by
        refine Or.inr ⟨fun q => ?_, rfl, rfl, rfl⟩
        have q1 := q.1 i_7 (by omega) (by omega)
        first | omega | exact lay_dup (by assumption) q (by omega) (by rw [← mb_shr]; omega)
      have hv_42 : (0 : Int) = 0 := by
        rfl
      exact W.zret (v := zI 0) hx hb hr rfl (fun t9 ht hW => ⟨⟨zI 0, (0, 0, Mrow, Mruns), rfl, ⟨rfl, ⟨hv_39, qMrow, hv_40, hv_41, hv_42⟩⟩, by subst hAe; exact z_end hK hw ht hW⟩, by subst hAe; exact hw.2.2.F ht⟩) (by subst hAe; exact hw.2.2.2.2) dX8_lay_47
    · skip
      refine lv_iload_n hx hb dX8_lay_36 rfl (lv_at hl 3 rfl) ?_
      refine lv_iload hx hb dX8_lay_37 (lv_at hl 0 rfl) ?_
      have hbit_43 : zI seen_6 >>> (zI (nib v i_7) &&& 31) = zI ((seen_6.toNat / 2 ^ ((nib v i_7) : Int).toNat : Nat) : Int) := by
        exact z_shr (by omega) (by omega)
      refine lv_ishr hx hb dX8_lay_39 ?_
      rw [hbit_43]
      clear hbit_43
      have hq_44 : 0 ≤ ((seen_6.toNat / 2 ^ ((nib v i_7) : Int).toNat : Nat) : Int) ∧ ((seen_6.toNat / 2 ^ ((nib v i_7) : Int).toNat : Nat) : Int) ≤ 255 := by
        exact shr_r (by omega)
      refine z_iconst hx hb dX8_lay_40 ?_
      have hbit_45 : zI ((seen_6.toNat / 2 ^ ((nib v i_7) : Int).toNat : Nat) : Int) &&& zI 1 = zI (((seen_6.toNat / 2 ^ ((nib v i_7) : Int).toNat : Nat) : Int) % 2) := by
        exact z_and1 (by omega)
      refine lv_iand hx hb dX8_lay_41 ?_
      rw [hbit_45]
      clear hbit_45
      refine z_iconst hx hb dX8_lay_42 ?_
      refine z_icmp_ne (tgt := 48) hx hb dX8_lay_43 (by decide) (by omega) (fun hc_46 => ?_) (fun hc_46 => ?_)
      · skip
        refine lv_iload_n hx hb dX8_lay_48 rfl (lv_at hl 3 rfl) ?_
        refine z_iconst hx hb dX8_lay_49 ?_
        refine lv_iload hx hb dX8_lay_50 (lv_at hl 0 rfl) ?_
        have hbit_47 : zI 1 <<< (zI (nib v i_7) &&& 31) = zI (sBit (nib v i_7)) := by
          exact z_shl1 (by omega)
        refine lv_ishl hx hb dX8_lay_52 ?_
        rw [hbit_47]
        clear hbit_47
        have hq_48 : 0 ≤ (sBit (nib v i_7)) ∧ (sBit (nib v i_7)) ≤ 255 := by
          exact sBit_r (by omega)
        have hbit_49 : zI seen_6 ||| zI (sBit (nib v i_7)) = zI (sOr seen_6 (sBit (nib v i_7))) := by
          exact z_or (by omega) (by omega)
        refine lv_ior hx hb dX8_lay_53 ?_
        rw [hbit_49]
        clear hbit_49
        have hq_50 : 0 ≤ (sOr seen_6 (sBit (nib v i_7))) ∧ (sOr seen_6 (sBit (nib v i_7))) ≤ 255 := by
          exact sOr_r (by omega) (by omega)
        refine lv_istore_n (lv' := [(2, .int (zI (sOr seen_6 (sBit (nib v i_7))))), (4, .int (zI (nib v i_7))), (0, .ref (oM 0)), (1, .int (zI v)), (3, .int (zI i_7))]) hx hb dX8_lay_54 rfl hl (by decide) rfl (fun ls hl => ?_)
        refine z_iinc (k := 4) (lv' := [(3, .int (zI (i_7 + 1))), (2, .int (zI (sOr seen_6 (sBit (nib v i_7))))), (4, .int (zI (nib v i_7))), (0, .ref (oM 0)), (1, .int (zI v))]) hx hb dX8_lay_55 hl rfl (by decide) rfl (fun ls hl => ?_)
        refine lv_goto (tgt := 9) hx hb dX8_lay_58 (by decide) ?_
        have hv_51 : 0 ≤ (i_7 + 1) ∧ (i_7 + 1) ≤ Mmany := by
          first | assumption | omega | grind
        have hv_52 : 0 ≤ (sOr seen_6 (sBit (nib v i_7))) ∧ (sOr seen_6 (sBit (nib v i_7))) ≤ 255 := by
          first | assumption | omega | grind
        have hv_53 : ∀ j, 0 ≤ j → j ≤ 15 → (mb (sOr seen_6 (sBit (nib v i_7))) j ↔ ∃ k, 0 ≤ k ∧ k < (i_7 + 1) ∧ nib v k = j) := by
          exact lay_next (n := Mmany) (by assumption) (by omega)
        have hv_54 : layQ (i_7 + 1) Mmany v := by
          exact lay_grow (by assumption) (by assumption) (by omega) (by rw [← mb_shr]; omega)
        have hm_55 : (9 - (i_7 + 1)).toNat < (9 - i_7).toNat := by
          first | assumption | omega | grind
        exact ih_5 ((sOr seen_6 (sBit (nib v i_7))), (i_7 + 1)) _ _ _ ⟨hv_51, hv_52, hv_53, hv_54, hw, lv_sub hl [3, 4, 1, 0] rfl⟩ hm_55
      · skip
        refine z_iconst hx hb dX8_lay_46 ?_
        have hv_56 : (0 : Int) ≤ (0 : Int) ∧ (0 : Int) ≤ 2 := by
          first | assumption | omega | grind
        have hv_57 : (0 : Int) ≤ Mruns ∧ Mruns ≤ 1 := by
          first | assumption | omega | grind
        have hv_58 : (layP Mmany v ∧ (0 : Int) = 1 ∧ Mruns = 0 ∧ ∀ k, 0 ≤ k → k < Mmany → Mrow k = nib v k) ∨ (¬ layP Mmany v ∧ (0 : Int) = 0 ∧ Mrow = Mrow ∧ Mruns = Mruns) := by
          refine Or.inr ⟨fun q => ?_, rfl, rfl, rfl⟩
          have q1 := q.1 i_7 (by omega) (by omega)
          first | omega | exact lay_dup (by assumption) q (by omega) (by rw [← mb_shr]; omega)
        have hv_59 : (0 : Int) = 0 := by
          rfl
        exact W.zret (v := zI 0) hx hb hr rfl (fun t9 ht hW => ⟨⟨zI 0, (0, 0, Mrow, Mruns), rfl, ⟨rfl, ⟨hv_56, qMrow, hv_57, hv_58, hv_59⟩⟩, by subst hAe; exact z_end hK hw ht hW⟩, by subst hAe; exact hw.2.2.F ht⟩) (by subst hAe; exact hw.2.2.2.2) dX8_lay_47
set_option maxRecDepth 100000 in
set_option maxHeartbeats 4000000 in
theorem c_X8_clear (l : Launch) (D : va_G) (cI cB cZ : ClassId) (oM : Nat → Nat) (sz : Nat) (Mthrown : Int) (Mmany : Int) (Mguest : Int → Int) (Mrow : Int → Int) (Mbars : Int) (Mbar : Int → Int) (Mfresh : Int → Int) (Mtape : Int → Int) (Mtaped : Int) (Mpos : Int) (Mtoken : Int) (MtokenAt : Int) (Mvalue : Int) (Mwrong : Int) (MwrongAt : Int) (MfaultKind : Int) (MfaultPlace : Int) (Mthing : Int) (Morder : Int → Int) (Mone : Int) (Mtwo : Int) (Mbest : Int → Int) (Mcells : Int) (Mgap : Int) (Mwire : Int → Int) (Mstand : Int → Int) (Mruns : Int) (Mminute : Int) (Mhead : Int → Int) (Mplays : Int → Int) (Mrests : Int → Int) (Mwent : Int → Int) (Mout : Int → Int) (Mcame : Int → Int) (Mgone : Int → Int) (MlastOut : Int) (g : Int) (qMthrown : 0 ≤ Mthrown ∧ Mthrown ≤ 2) (qMmany : 0 ≤ Mmany ∧ Mmany ≤ 8) (qMguest : RA Mguest (0) 9) (qMrow : RA Mrow (0) 7) (qMbars : 0 ≤ Mbars ∧ Mbars ≤ 10) (qMbar : RA Mbar (0) 104) (qMfresh : RA Mfresh (0) 104) (qMtape : RA Mtape (0) 255) (qMtaped : 0 ≤ Mtaped ∧ Mtaped ≤ 400) (qMpos : 0 ≤ Mpos ∧ Mpos ≤ 400) (qMtoken : 0 ≤ Mtoken ∧ Mtoken ≤ 15) (qMtokenAt : 0 ≤ MtokenAt ∧ MtokenAt ≤ 400) (qMvalue : 0 ≤ Mvalue ∧ Mvalue ≤ 99) (qMwrong : 0 ≤ Mwrong ∧ Mwrong ≤ 3) (qMwrongAt : 0 ≤ MwrongAt ∧ MwrongAt ≤ 400) (qMfaultKind : 0 ≤ MfaultKind ∧ MfaultKind ≤ 3) (qMfaultPlace : -1 ≤ MfaultPlace ∧ MfaultPlace ≤ 400) (qMthing : 0 ≤ Mthing ∧ Mthing ≤ 104) (qMorder : RA Morder (0) 7) (qMone : 0 ≤ Mone ∧ Mone ≤ 8) (qMtwo : 0 ≤ Mtwo ∧ Mtwo ≤ 8) (qMbest : RA Mbest (0) 7) (qMcells : 1 ≤ Mcells ∧ Mcells ≤ 50) (qMgap : 0 ≤ Mgap ∧ Mgap ≤ 3) (qMwire : RA Mwire (0) 9) (qMstand : RA Mstand (0) 9) (qMruns : 0 ≤ Mruns ∧ Mruns ≤ 1) (qMminute : 0 ≤ Mminute ∧ Mminute ≤ 1000000) (qMhead : RA Mhead (-1) 60) (qMplays : RA Mplays (0) 18) (qMrests : RA Mrests (0) 3) (qMwent : RA Mwent (0) 61) (qMout : RA Mout (0) 1) (qMcame : RA Mcame (-1) 1000000) (qMgone : RA Mgone (-1) 1000000) (qMlastOut : 0 ≤ MlastOut ∧ MlastOut ≤ 1000000) (qg : 0 ≤ g ∧ g ≤ 15) : Met l yX8_clear wsX8_clear ({ frames := 0, cells := 0, slots := 0, locals := 0 }) (va_Pc [.ref (oM 0), .int (zI g)] (zPre D cI cB cZ sz (kM cI cB cZ oM Mthrown Mmany Mguest Mrow Mbars Mbar Mfresh Mtape Mtaped Mpos Mtoken MtokenAt Mvalue Mwrong MwrongAt MfaultKind MfaultPlace Mthing Morder Mone Mtwo Mbest Mcells Mgap Mwire Mstand Mruns Mminute Mhead Mplays Mrests Mwent Mout Mcame Mgone MlastOut))) (va_Qv (fun (u9 : (Int → Int) × (Int → Int) × (Int → Int) × (Int → Int) × (Int → Int)) => (RA u9.1 (-1) 60) ∧ (RA u9.2.1 (0) 18) ∧ (RA u9.2.2.1 (0) 3) ∧ (RA u9.2.2.2.1 (0) 61) ∧ (RA u9.2.2.2.2 (0) 1) ∧ (u9.1 = uZ Mhead g (-1)) ∧ (u9.2.1 = uZ Mplays g 0) ∧ (u9.2.2.1 = uZ Mrests g 0) ∧ (u9.2.2.2.1 = uZ Mwent g 0) ∧ (u9.2.2.2.2 = uZ Mout g 0)) (fun u9 t9 => zAt D cI cB cZ (va_A (kM cI cB cZ oM Mthrown Mmany Mguest Mrow Mbars Mbar Mfresh Mtape Mtaped Mpos Mtoken MtokenAt Mvalue Mwrong MwrongAt MfaultKind MfaultPlace Mthing Morder Mone Mtwo Mbest Mcells Mgap Mwire Mstand Mruns Mminute Mhead Mplays Mrests Mwent Mout Mcame Mgone MlastOut) sz) (kM cI cB cZ oM Mthrown Mmany Mguest Mrow Mbars Mbar Mfresh Mtape Mtaped Mpos Mtoken MtokenAt Mvalue Mwrong MwrongAt MfaultKind MfaultPlace Mthing Morder Mone Mtwo Mbest Mcells Mgap Mwire Mstand Mruns Mminute (u9.1) (u9.2.1) (u9.2.2.1) (u9.2.2.2.1) (u9.2.2.2.2) Mcame Mgone MlastOut) t9) (va_A (kM cI cB cZ oM Mthrown Mmany Mguest Mrow Mbars Mbar Mfresh Mtape Mtaped Mpos Mtoken MtokenAt Mvalue Mwrong MwrongAt MfaultKind MfaultPlace Mthing Morder Mone Mtwo Mbest Mcells Mgap Mwire Mstand Mruns Mminute Mhead Mplays Mrests Mwent Mout Mcame Mgone MlastOut) sz)) 0 0 (va_A (kM cI cB cZ oM Mthrown Mmany Mguest Mrow Mbars Mbar Mfresh Mtape Mtaped Mpos Mtoken MtokenAt Mvalue Mwrong MwrongAt MfaultKind MfaultPlace Mthing Morder Mone Mtwo Mbest Mcells Mgap Mwire Mstand Mruns Mminute Mhead Mplays Mrests Mwent Mout Mcame Mgone MlastOut) sz) := by
  refine Met.ofW (cc := cX8_clear) (maxL := 2) (ret := none) (by decide) rfl ?_
  intro pp ee s mm aa bw mt cd s₁ BL hml hv
  obtain ⟨rfl, hsz, hP, hK, hD0⟩ := hv
  have hx := BL.exec
  have hb := BL.bytes
  have hr := BL.returns
  have hts := atoms_spec (ws := wsX8_clear) BL.pre
  have hown : s.vm.findClass RX8 = some mm.cls := findClass_of_methodNamed BL.named
  have hlocks := BL.notSynchronized
  subst hsz
  generalize hAe : va_A (kM cI cB cZ oM Mthrown Mmany Mguest Mrow Mbars Mbar Mfresh Mtape Mtaped Mpos Mtoken MtokenAt Mvalue Mwrong MwrongAt MfaultKind MfaultPlace Mthing Morder Mone Mtwo Mbest Mcells Mgap Mwire Mstand Mruns Mminute Mhead Mplays Mrests Mwent Mout Mcame Mgone MlastOut) s.heap.size = A
  have hA : ∀ q : Nat, s.heap.size ≤ q → A q := fun q h => by rw [← hAe]; exact Or.inr h
  have hw : HW D A s.heap (kM cI cB cZ oM Mthrown Mmany Mguest Mrow Mbars Mbar Mfresh Mtape Mtaped Mpos Mtoken MtokenAt Mvalue Mwrong MwrongAt MfaultKind MfaultPlace Mthing Morder Mone Mtwo Mbest Mcells Mgap Mwire Mstand Mruns Mminute Mhead Mplays Mrests Mwent Mout Mcame Mgone MlastOut) s.heap [] := z_start hAe hP hD0
  clear hP hD0
  have hl := lv_entry ([.ref (oM 0), .int (zI g)]) (n := 2) (Nat.le_of_ble_eq_true rfl)
  rw [lg_entry_eq]
  generalize (lg_sl ([.ref (oM 0), .int (zI g)]) ++ List.replicate (2 - (lg_sl ([.ref (oM 0), .int (zI g)])).length) Slot.unset).toArray = ls at hl ⊢
  have hl : lv_has ls 2 [(0, .ref (oM 0)), (1, .int (zI g))] := hl
  have hinX8 : ∀ w ∈ wsX80, w ∈ wsX8_clear := by decide +kernel
  refine lv_aload_n hx hb dX8_clear_0 rfl (lv_at hl 0 rfl) ?_
  refine va_get (D := D) (ci := 8) (v := .ref (oM 10)) (C := RX8) (T := TX8) (N := 36) hx hb hts hinX8 hown hK hw.1 0 rfl rfl 28 (by decide) (hts (.fieldLink RX8 47 "CarnivalRoadModel" "head" "[I") (by decide +kernel)) (fun _ h9 => h9) rfl dX8_clear_1 ?_
  refine lv_iload_n hx hb dX8_clear_4 rfl (lv_at hl 1 rfl) ?_
  refine z_iconst hx hb dX8_clear_5 ?_
  have hi_1 : (0 : Int) ≤ g ∧ g < ((16 : Nat) : Int) := by
    first | rfl | omega
  have hv_2 : (-1 : Int) ≤ (-1 : Int) ∧ (-1 : Int) ≤ 60 := by
    first | rfl | omega
  have hR_3 : RA (uZ Mhead g (-1)) (-1) 60 := RA_up qMhead hv_2
  refine z_iast (n := 16) (f := Mhead) (ws2 := kM cI cB cZ oM Mthrown Mmany Mguest Mrow Mbars Mbar Mfresh Mtape Mtaped Mpos Mtoken MtokenAt Mvalue Mwrong MwrongAt MfaultKind MfaultPlace Mthing Morder Mone Mtwo Mbest Mcells Mgap Mwire Mstand Mruns Mminute (uZ Mhead g (-1)) Mplays Mrests Mwent Mout Mcame Mgone MlastOut) hx hb hK hw 10 rfl (by decide) hi_1 dX8_clear_6 rfl (fun H locs hw => ?_)
  refine lv_aload_n hx hb dX8_clear_7 rfl (lv_at hl 0 rfl) ?_
  refine va_get (D := D) (ci := 8) (v := .ref (oM 11)) (C := RX8) (T := TX8) (N := 36) hx hb hts hinX8 hown hK hw.1 0 rfl rfl 29 (by decide) (hts (.fieldLink RX8 50 "CarnivalRoadModel" "plays" "[I") (by decide +kernel)) (fun _ h9 => h9) rfl dX8_clear_8 ?_
  refine lv_iload_n hx hb dX8_clear_11 rfl (lv_at hl 1 rfl) ?_
  refine z_iconst hx hb dX8_clear_12 ?_
  have hi_4 : (0 : Int) ≤ g ∧ g < ((16 : Nat) : Int) := by
    first | rfl | omega
  have hv_5 : (0 : Int) ≤ (0 : Int) ∧ (0 : Int) ≤ 18 := by
    first | rfl | omega
  have hR_6 : RA (uZ Mplays g 0) (0) 18 := RA_up qMplays hv_5
  refine z_iast (n := 16) (f := Mplays) (ws2 := kM cI cB cZ oM Mthrown Mmany Mguest Mrow Mbars Mbar Mfresh Mtape Mtaped Mpos Mtoken MtokenAt Mvalue Mwrong MwrongAt MfaultKind MfaultPlace Mthing Morder Mone Mtwo Mbest Mcells Mgap Mwire Mstand Mruns Mminute (uZ Mhead g (-1)) (uZ Mplays g 0) Mrests Mwent Mout Mcame Mgone MlastOut) hx hb hK hw 11 rfl (by decide) hi_4 dX8_clear_13 rfl (fun H locs hw => ?_)
  refine lv_aload_n hx hb dX8_clear_14 rfl (lv_at hl 0 rfl) ?_
  refine va_get (D := D) (ci := 8) (v := .ref (oM 12)) (C := RX8) (T := TX8) (N := 36) hx hb hts hinX8 hown hK hw.1 0 rfl rfl 30 (by decide) (hts (.fieldLink RX8 53 "CarnivalRoadModel" "rests" "[I") (by decide +kernel)) (fun _ h9 => h9) rfl dX8_clear_15 ?_
  refine lv_iload_n hx hb dX8_clear_18 rfl (lv_at hl 1 rfl) ?_
  refine z_iconst hx hb dX8_clear_19 ?_
  have hi_7 : (0 : Int) ≤ g ∧ g < ((16 : Nat) : Int) := by
    first | rfl | omega
  have hv_8 : (0 : Int) ≤ (0 : Int) ∧ (0 : Int) ≤ 3 := by
    first | rfl | omega
  have hR_9 : RA (uZ Mrests g 0) (0) 3 := RA_up qMrests hv_8
  refine z_iast (n := 16) (f := Mrests) (ws2 := kM cI cB cZ oM Mthrown Mmany Mguest Mrow Mbars Mbar Mfresh Mtape Mtaped Mpos Mtoken MtokenAt Mvalue Mwrong MwrongAt MfaultKind MfaultPlace Mthing Morder Mone Mtwo Mbest Mcells Mgap Mwire Mstand Mruns Mminute (uZ Mhead g (-1)) (uZ Mplays g 0) (uZ Mrests g 0) Mwent Mout Mcame Mgone MlastOut) hx hb hK hw 12 rfl (by decide) hi_7 dX8_clear_20 rfl (fun H locs hw => ?_)
  refine lv_aload_n hx hb dX8_clear_21 rfl (lv_at hl 0 rfl) ?_
  refine va_get (D := D) (ci := 8) (v := .ref (oM 13)) (C := RX8) (T := TX8) (N := 36) hx hb hts hinX8 hown hK hw.1 0 rfl rfl 31 (by decide) (hts (.fieldLink RX8 56 "CarnivalRoadModel" "went" "[I") (by decide +kernel)) (fun _ h9 => h9) rfl dX8_clear_22 ?_
  refine lv_iload_n hx hb dX8_clear_25 rfl (lv_at hl 1 rfl) ?_
  refine z_iconst hx hb dX8_clear_26 ?_
  have hi_10 : (0 : Int) ≤ g ∧ g < ((16 : Nat) : Int) := by
    first | rfl | omega
  have hv_11 : (0 : Int) ≤ (0 : Int) ∧ (0 : Int) ≤ 61 := by
    first | rfl | omega
  have hR_12 : RA (uZ Mwent g 0) (0) 61 := RA_up qMwent hv_11
  refine z_iast (n := 16) (f := Mwent) (ws2 := kM cI cB cZ oM Mthrown Mmany Mguest Mrow Mbars Mbar Mfresh Mtape Mtaped Mpos Mtoken MtokenAt Mvalue Mwrong MwrongAt MfaultKind MfaultPlace Mthing Morder Mone Mtwo Mbest Mcells Mgap Mwire Mstand Mruns Mminute (uZ Mhead g (-1)) (uZ Mplays g 0) (uZ Mrests g 0) (uZ Mwent g 0) Mout Mcame Mgone MlastOut) hx hb hK hw 13 rfl (by decide) hi_10 dX8_clear_27 rfl (fun H locs hw => ?_)
  refine lv_aload_n hx hb dX8_clear_28 rfl (lv_at hl 0 rfl) ?_
  refine va_get (D := D) (ci := 8) (v := .ref (oM 14)) (C := RX8) (T := TX8) (N := 36) hx hb hts hinX8 hown hK hw.1 0 rfl rfl 32 (by decide) (hts (.fieldLink RX8 59 "CarnivalRoadModel" "out" "[Z") (by decide +kernel)) (fun _ h9 => h9) rfl dX8_clear_29 ?_
  refine lv_iload_n hx hb dX8_clear_32 rfl (lv_at hl 1 rfl) ?_
  refine z_iconst hx hb dX8_clear_33 ?_
  have hi_13 : (0 : Int) ≤ g ∧ g < ((16 : Nat) : Int) := by
    first | rfl | omega
  have hv_14 : (0 : Int) ≤ (0 : Int) ∧ (0 : Int) ≤ 1 := by
    first | rfl | omega
  have hR_15 : RA (uZ Mout g 0) (0) 1 := RA_up qMout hv_14
  refine z_zast (n := 16) (f := Mout) (ws2 := kM cI cB cZ oM Mthrown Mmany Mguest Mrow Mbars Mbar Mfresh Mtape Mtaped Mpos Mtoken MtokenAt Mvalue Mwrong MwrongAt MfaultKind MfaultPlace Mthing Morder Mone Mtwo Mbest Mcells Mgap Mwire Mstand Mruns Mminute (uZ Mhead g (-1)) (uZ Mplays g 0) (uZ Mrests g 0) (uZ Mwent g 0) (uZ Mout g 0) Mcame Mgone MlastOut) hx hb hK hw 14 rfl rfl (by decide) hi_13 dX8_clear_34 rfl (fun H locs hw => ?_)
  have hv_16 : (uZ Mhead g (-1)) = uZ Mhead g (-1) := by
    first | rfl | omega
  have hv_17 : (uZ Mplays g 0) = uZ Mplays g 0 := by
    first | rfl | omega
  have hv_18 : (uZ Mrests g 0) = uZ Mrests g 0 := by
    first | rfl | omega
  have hv_19 : (uZ Mwent g 0) = uZ Mwent g 0 := by
    first | rfl | omega
  have hv_20 : (uZ Mout g 0) = uZ Mout g 0 := by
    first | rfl | omega
  exact W.vret hx hb hr (fun t9 ht hW => ⟨⟨((uZ Mhead g (-1)), (uZ Mplays g 0), (uZ Mrests g 0), (uZ Mwent g 0), (uZ Mout g 0)), rfl, ⟨hR_3, hR_6, hR_9, hR_12, hR_15, hv_16, hv_17, hv_18, hv_19, hv_20⟩, by subst hAe; exact z_end hK hw ht hW⟩, by subst hAe; exact hw.2.2.F ht⟩) (by subst hAe; exact hw.2.2.2.2) dX8_clear_35
set_option maxRecDepth 100000 in
set_option maxHeartbeats 4000000 in
theorem c_X8_tail (l : Launch) (D : va_G) (cI cB cZ : ClassId) (oM : Nat → Nat) (sz : Nat) (Mthrown : Int) (Mmany : Int) (Mguest : Int → Int) (Mrow : Int → Int) (Mbars : Int) (Mbar : Int → Int) (Mfresh : Int → Int) (Mtape : Int → Int) (Mtaped : Int) (Mpos : Int) (Mtoken : Int) (MtokenAt : Int) (Mvalue : Int) (Mwrong : Int) (MwrongAt : Int) (MfaultKind : Int) (MfaultPlace : Int) (Mthing : Int) (Morder : Int → Int) (Mone : Int) (Mtwo : Int) (Mbest : Int → Int) (Mcells : Int) (Mgap : Int) (Mwire : Int → Int) (Mstand : Int → Int) (Mruns : Int) (Mminute : Int) (Mhead : Int → Int) (Mplays : Int → Int) (Mrests : Int → Int) (Mwent : Int → Int) (Mout : Int → Int) (Mcame : Int → Int) (Mgone : Int → Int) (MlastOut : Int) (b : Int) (g : Int) (qMthrown : 0 ≤ Mthrown ∧ Mthrown ≤ 2) (qMmany : 0 ≤ Mmany ∧ Mmany ≤ 8) (qMguest : RA Mguest (0) 9) (qMrow : RA Mrow (0) 7) (qMbars : 0 ≤ Mbars ∧ Mbars ≤ 10) (qMbar : RA Mbar (0) 104) (qMfresh : RA Mfresh (0) 104) (qMtape : RA Mtape (0) 255) (qMtaped : 0 ≤ Mtaped ∧ Mtaped ≤ 400) (qMpos : 0 ≤ Mpos ∧ Mpos ≤ 400) (qMtoken : 0 ≤ Mtoken ∧ Mtoken ≤ 15) (qMtokenAt : 0 ≤ MtokenAt ∧ MtokenAt ≤ 400) (qMvalue : 0 ≤ Mvalue ∧ Mvalue ≤ 99) (qMwrong : 0 ≤ Mwrong ∧ Mwrong ≤ 3) (qMwrongAt : 0 ≤ MwrongAt ∧ MwrongAt ≤ 400) (qMfaultKind : 0 ≤ MfaultKind ∧ MfaultKind ≤ 3) (qMfaultPlace : -1 ≤ MfaultPlace ∧ MfaultPlace ≤ 400) (qMthing : 0 ≤ Mthing ∧ Mthing ≤ 104) (qMorder : RA Morder (0) 7) (qMone : 0 ≤ Mone ∧ Mone ≤ 8) (qMtwo : 0 ≤ Mtwo ∧ Mtwo ≤ 8) (qMbest : RA Mbest (0) 7) (qMcells : 1 ≤ Mcells ∧ Mcells ≤ 50) (qMgap : 0 ≤ Mgap ∧ Mgap ≤ 3) (qMwire : RA Mwire (0) 9) (qMstand : RA Mstand (0) 9) (qMruns : 0 ≤ Mruns ∧ Mruns ≤ 1) (qMminute : 0 ≤ Mminute ∧ Mminute ≤ 1000000) (qMhead : RA Mhead (-1) 60) (qMplays : RA Mplays (0) 18) (qMrests : RA Mrests (0) 3) (qMwent : RA Mwent (0) 61) (qMout : RA Mout (0) 1) (qMcame : RA Mcame (-1) 1000000) (qMgone : RA Mgone (-1) 1000000) (qMlastOut : 0 ≤ MlastOut ∧ MlastOut ≤ 1000000) (qb : 0 ≤ b ∧ b ≤ 8) (qg : 0 ≤ g ∧ g ≤ 7) : Met l yX8_tail wsX8_tail ({ frames := 1, cells := 0, slots := 0, locals := 22 }) (va_Pc [.ref (oM 0), .int (zI b), .int (zI g)] (zPre D cI cB cZ sz (kM cI cB cZ oM Mthrown Mmany Mguest Mrow Mbars Mbar Mfresh Mtape Mtaped Mpos Mtoken MtokenAt Mvalue Mwrong MwrongAt MfaultKind MfaultPlace Mthing Morder Mone Mtwo Mbest Mcells Mgap Mwire Mstand Mruns Mminute Mhead Mplays Mrests Mwent Mout Mcame Mgone MlastOut))) (va_Qi (fun (r9 : Int32) (u9 : Int) => r9 = zI u9 ∧ ((u9 = Mhead (b + g) - Mguest (5 * g + 1) + 1) ∧ (-9 ≤ u9 ∧ u9 ≤ 61))) (fun u9 t9 => zAt D cI cB cZ (va_A (kM cI cB cZ oM Mthrown Mmany Mguest Mrow Mbars Mbar Mfresh Mtape Mtaped Mpos Mtoken MtokenAt Mvalue Mwrong MwrongAt MfaultKind MfaultPlace Mthing Morder Mone Mtwo Mbest Mcells Mgap Mwire Mstand Mruns Mminute Mhead Mplays Mrests Mwent Mout Mcame Mgone MlastOut) sz) (kM cI cB cZ oM Mthrown Mmany Mguest Mrow Mbars Mbar Mfresh Mtape Mtaped Mpos Mtoken MtokenAt Mvalue Mwrong MwrongAt MfaultKind MfaultPlace Mthing Morder Mone Mtwo Mbest Mcells Mgap Mwire Mstand Mruns Mminute Mhead Mplays Mrests Mwent Mout Mcame Mgone MlastOut) t9) (va_A (kM cI cB cZ oM Mthrown Mmany Mguest Mrow Mbars Mbar Mfresh Mtape Mtaped Mpos Mtoken MtokenAt Mvalue Mwrong MwrongAt MfaultKind MfaultPlace Mthing Morder Mone Mtwo Mbest Mcells Mgap Mwire Mstand Mruns Mminute Mhead Mplays Mrests Mwent Mout Mcame Mgone MlastOut) sz)) 0 0 (va_A (kM cI cB cZ oM Mthrown Mmany Mguest Mrow Mbars Mbar Mfresh Mtape Mtaped Mpos Mtoken MtokenAt Mvalue Mwrong MwrongAt MfaultKind MfaultPlace Mthing Morder Mone Mtwo Mbest Mcells Mgap Mwire Mstand Mruns Mminute Mhead Mplays Mrests Mwent Mout Mcame Mgone MlastOut) sz) := by
  refine Met.ofW (cc := cX8_tail) (maxL := 3) (ret := (some .int)) (by decide) rfl ?_
  intro pp ee s mm aa bw mt cd s₁ BL hml hv
  obtain ⟨rfl, hsz, hP, hK, hD0⟩ := hv
  have hx := BL.exec
  have hb := BL.bytes
  have hr := BL.returns
  have hts := atoms_spec (ws := wsX8_tail) BL.pre
  have hown : s.vm.findClass RX8 = some mm.cls := findClass_of_methodNamed BL.named
  have hlocks := BL.notSynchronized
  subst hsz
  generalize hAe : va_A (kM cI cB cZ oM Mthrown Mmany Mguest Mrow Mbars Mbar Mfresh Mtape Mtaped Mpos Mtoken MtokenAt Mvalue Mwrong MwrongAt MfaultKind MfaultPlace Mthing Morder Mone Mtwo Mbest Mcells Mgap Mwire Mstand Mruns Mminute Mhead Mplays Mrests Mwent Mout Mcame Mgone MlastOut) s.heap.size = A
  have hA : ∀ q : Nat, s.heap.size ≤ q → A q := fun q h => by rw [← hAe]; exact Or.inr h
  have hw : HW D A s.heap (kM cI cB cZ oM Mthrown Mmany Mguest Mrow Mbars Mbar Mfresh Mtape Mtaped Mpos Mtoken MtokenAt Mvalue Mwrong MwrongAt MfaultKind MfaultPlace Mthing Morder Mone Mtwo Mbest Mcells Mgap Mwire Mstand Mruns Mminute Mhead Mplays Mrests Mwent Mout Mcame Mgone MlastOut) s.heap [] := z_start hAe hP hD0
  clear hP hD0
  have hl := lv_entry ([.ref (oM 0), .int (zI b), .int (zI g)]) (n := 3) (Nat.le_of_ble_eq_true rfl)
  rw [lg_entry_eq]
  generalize (lg_sl ([.ref (oM 0), .int (zI b), .int (zI g)]) ++ List.replicate (3 - (lg_sl ([.ref (oM 0), .int (zI b), .int (zI g)])).length) Slot.unset).toArray = ls at hl ⊢
  have hl : lv_has ls 3 [(0, .ref (oM 0)), (1, .int (zI b)), (2, .int (zI g))] := hl
  have hinX8 : ∀ w ∈ wsX80, w ∈ wsX8_tail := by decide +kernel
  refine lv_aload_n hx hb dX8_tail_0 rfl (lv_at hl 0 rfl) ?_
  refine va_get (D := D) (ci := 8) (v := .ref (oM 10)) (C := RX8) (T := TX8) (N := 36) hx hb hts hinX8 hown hK hw.1 0 rfl rfl 28 (by decide) (hts (.fieldLink RX8 47 "CarnivalRoadModel" "head" "[I") (by decide +kernel)) (fun _ h9 => h9) rfl dX8_tail_1 ?_
  refine lv_iload_n hx hb dX8_tail_4 rfl (lv_at hl 1 rfl) ?_
  refine lv_iload_n hx hb dX8_tail_5 rfl (lv_at hl 2 rfl) ?_
  refine z_iadd hx hb dX8_tail_6 ?_
  have hi_1 : (0 : Int) ≤ (b + g) ∧ (b + g) < ((16 : Nat) : Int) := by
    first | rfl | omega
  refine z_iald (n := 16) (f := Mhead) hx hb hK hw 10 rfl (by decide) hi_1 dX8_tail_7 ?_
  have hq_2 : -1 ≤ Mhead (b + g) ∧ Mhead (b + g) ≤ 60 := qMhead (b + g)
  refine lv_aload_n hx hb dX8_tail_8 rfl (lv_at hl 0 rfl) ?_
  refine lv_iload_n hx hb dX8_tail_9 rfl (lv_at hl 2 rfl) ?_
  refine z_iconst hx hb dX8_tail_10 ?_
  have hF9 := z_free (wc := kM cI cB cZ oM Mthrown Mmany Mguest Mrow Mbars Mbar Mfresh Mtape Mtaped Mpos Mtoken MtokenAt Mvalue Mwrong MwrongAt MfaultKind MfaultPlace Mthing Morder Mone Mtwo Mbest Mcells Mgap Mwire Mstand Mruns Mminute Mhead Mplays Mrests Mwent Mout Mcame Mgone MlastOut) hw hA [0, 1, 2, 3, 4, 5, 6, 7, 8, 9, 10, 11, 12, 13, 14, 15, 16] rfl
  refine va_calli (va_runV (As := [.int (zI g), .int (zI 1)]) (rest := [.int (zI (Mhead (b + g)))]) ⟨hx, hb, hml, hown, hts⟩ (c_X8_get l D cI cB cZ oM s.heap.size Mthrown Mmany Mguest Mrow Mbars Mbar Mfresh Mtape Mtaped Mpos Mtoken MtokenAt Mvalue Mwrong MwrongAt MfaultKind MfaultPlace Mthing Morder Mone Mtwo Mbest Mcells Mgap Mwire Mstand Mruns Mminute Mhead Mplays Mrests Mwent Mout Mcame Mgone MlastOut g 1 (by omega) (by omega) qMguest qMrow (by omega) qMbar qMfresh qMtape (by omega) (by omega) (by omega) (by omega) (by omega) (by omega) (by omega) (by omega) (by omega) (by omega) qMorder (by omega) (by omega) qMbest (by omega) (by omega) qMwire qMstand (by omega) (by omega) qMhead qMplays qMrests qMwent qMout qMcame qMgone (by omega) (by omega) (by omega)) (cwV 2 hts gX8_tail_X8_get rfl rfl rfl (by decide +kernel) ⟨Nat.le_of_ble_eq_true rfl, Nat.le_of_ble_eq_true rfl⟩) ⟨zPre_blind, va_recv hK hw.1 (ci := 8) (q0 := 0) rfl rfl, z_pre hK hw [0, 1, 2, 3, 4, 5, 6, 7, 8, 9, 10, 11, 12, 13, 14, 15, 16] (by decide) rfl⟩ rfl rfl hl.1 rfl (lv_room (Nat.le_of_ble_eq_true rfl)) dX8_tail_11 ⟨Nat.zero_le _, Nat.zero_le _⟩) hw.2.2 (fun q _ h => hF9 q h) hF9 (fun r9 u9 t9 H_3 locs9 ht9 hvm9 hq9 hB9 hz9 hk9 hS9 => ?_)
  obtain ⟨r_4, rfl⟩ : ∃ z, z = u9 := ⟨_, rfl⟩
  try dsimp only at hq9 hB9
  obtain ⟨rfl, hq9⟩ := hq9
  obtain ⟨hq_5, hq_6⟩ := hq9
  have hw : HW D A s.heap (kM cI cB cZ oM Mthrown Mmany Mguest Mrow Mbars Mbar Mfresh Mtape Mtaped Mpos Mtoken MtokenAt Mvalue Mwrong MwrongAt MfaultKind MfaultPlace Mthing Morder Mone Mtwo Mbest Mcells Mgap Mwire Mstand Mruns Mminute Mhead Mplays Mrests Mwent Mout Mcame Mgone MlastOut) H_3 locs9 := z_after (wc := kM cI cB cZ oM Mthrown Mmany Mguest Mrow Mbars Mbar Mfresh Mtape Mtaped Mpos Mtoken MtokenAt Mvalue Mwrong MwrongAt MfaultKind MfaultPlace Mthing Morder Mone Mtwo Mbest Mcells Mgap Mwire Mstand Mruns Mminute Mhead Mplays Mrests Mwent Mout Mcame Mgone MlastOut) hw [0, 1, 2, 3, 4, 5, 6, 7, 8, 9, 10, 11, 12, 13, 14, 15, 16] [] rfl rfl (by decide) (by decide) hF9 hk9 ht9 hB9 hS9 [0, 1, 2, 3, 4, 5, 6, 7, 8, 9, 10, 11, 12, 13, 14, 15, 16] (by decide) rfl
  clear hF9 ht9 hvm9 hB9 hz9 hk9 hS9
  refine z_isub hx hb dX8_tail_14 ?_
  refine z_iconst hx hb dX8_tail_15 ?_
  refine z_iadd hx hb dX8_tail_16 ?_
  have hv_7 : (((Mhead (b + g)) - r_4) + 1) = Mhead (b + g) - Mguest (5 * g + 1) + 1 := by
    first | rfl | omega
  have hv_8 : -9 ≤ (((Mhead (b + g)) - r_4) + 1) ∧ (((Mhead (b + g)) - r_4) + 1) ≤ 61 := by
    first | rfl | omega
  exact W.iret (v := zI (((Mhead (b + g)) - r_4) + 1)) hx hb hr (fun t9 ht hW => ⟨⟨zI (((Mhead (b + g)) - r_4) + 1), (((Mhead (b + g)) - r_4) + 1), rfl, ⟨rfl, ⟨hv_7, hv_8⟩⟩, by subst hAe; exact z_end hK hw ht hW⟩, by subst hAe; exact hw.2.2.F ht⟩) (by subst hAe; exact hw.2.2.2.2) dX8_tail_17
set_option maxRecDepth 100000 in
set_option maxHeartbeats 4000000 in
theorem c_X8_isOn (l : Launch) (D : va_G) (cI cB cZ : ClassId) (oM : Nat → Nat) (sz : Nat) (Mthrown : Int) (Mmany : Int) (Mguest : Int → Int) (Mrow : Int → Int) (Mbars : Int) (Mbar : Int → Int) (Mfresh : Int → Int) (Mtape : Int → Int) (Mtaped : Int) (Mpos : Int) (Mtoken : Int) (MtokenAt : Int) (Mvalue : Int) (Mwrong : Int) (MwrongAt : Int) (MfaultKind : Int) (MfaultPlace : Int) (Mthing : Int) (Morder : Int → Int) (Mone : Int) (Mtwo : Int) (Mbest : Int → Int) (Mcells : Int) (Mgap : Int) (Mwire : Int → Int) (Mstand : Int → Int) (Mruns : Int) (Mminute : Int) (Mhead : Int → Int) (Mplays : Int → Int) (Mrests : Int → Int) (Mwent : Int → Int) (Mout : Int → Int) (Mcame : Int → Int) (Mgone : Int → Int) (MlastOut : Int) (g : Int) (qMthrown : 0 ≤ Mthrown ∧ Mthrown ≤ 2) (qMmany : 0 ≤ Mmany ∧ Mmany ≤ 8) (qMguest : RA Mguest (0) 9) (qMrow : RA Mrow (0) 7) (qMbars : 0 ≤ Mbars ∧ Mbars ≤ 10) (qMbar : RA Mbar (0) 104) (qMfresh : RA Mfresh (0) 104) (qMtape : RA Mtape (0) 255) (qMtaped : 0 ≤ Mtaped ∧ Mtaped ≤ 400) (qMpos : 0 ≤ Mpos ∧ Mpos ≤ 400) (qMtoken : 0 ≤ Mtoken ∧ Mtoken ≤ 15) (qMtokenAt : 0 ≤ MtokenAt ∧ MtokenAt ≤ 400) (qMvalue : 0 ≤ Mvalue ∧ Mvalue ≤ 99) (qMwrong : 0 ≤ Mwrong ∧ Mwrong ≤ 3) (qMwrongAt : 0 ≤ MwrongAt ∧ MwrongAt ≤ 400) (qMfaultKind : 0 ≤ MfaultKind ∧ MfaultKind ≤ 3) (qMfaultPlace : -1 ≤ MfaultPlace ∧ MfaultPlace ≤ 400) (qMthing : 0 ≤ Mthing ∧ Mthing ≤ 104) (qMorder : RA Morder (0) 7) (qMone : 0 ≤ Mone ∧ Mone ≤ 8) (qMtwo : 0 ≤ Mtwo ∧ Mtwo ≤ 8) (qMbest : RA Mbest (0) 7) (qMcells : 1 ≤ Mcells ∧ Mcells ≤ 50) (qMgap : 0 ≤ Mgap ∧ Mgap ≤ 3) (qMwire : RA Mwire (0) 9) (qMstand : RA Mstand (0) 9) (qMruns : 0 ≤ Mruns ∧ Mruns ≤ 1) (qMminute : 0 ≤ Mminute ∧ Mminute ≤ 1000000) (qMhead : RA Mhead (-1) 60) (qMplays : RA Mplays (0) 18) (qMrests : RA Mrests (0) 3) (qMwent : RA Mwent (0) 61) (qMout : RA Mout (0) 1) (qMcame : RA Mcame (-1) 1000000) (qMgone : RA Mgone (-1) 1000000) (qMlastOut : 0 ≤ MlastOut ∧ MlastOut ≤ 1000000) (qg : 0 ≤ g ∧ g ≤ 7) : Met l yX8_isOn wsX8_isOn ({ frames := 0, cells := 0, slots := 0, locals := 0 }) (va_Pc [.ref (oM 0), .int (zI g)] (zPre D cI cB cZ sz (kM cI cB cZ oM Mthrown Mmany Mguest Mrow Mbars Mbar Mfresh Mtape Mtaped Mpos Mtoken MtokenAt Mvalue Mwrong MwrongAt MfaultKind MfaultPlace Mthing Morder Mone Mtwo Mbest Mcells Mgap Mwire Mstand Mruns Mminute Mhead Mplays Mrests Mwent Mout Mcame Mgone MlastOut))) (va_Qi (fun (r9 : Int32) (u9 : Int) => r9 = zI u9 ∧ ((((Mout g = 0 ∧ 0 ≤ Mhead g) ∧ u9 = 1) ∨ (¬ (Mout g = 0 ∧ 0 ≤ Mhead g) ∧ u9 = 0)))) (fun u9 t9 => zAt D cI cB cZ (va_A (kM cI cB cZ oM Mthrown Mmany Mguest Mrow Mbars Mbar Mfresh Mtape Mtaped Mpos Mtoken MtokenAt Mvalue Mwrong MwrongAt MfaultKind MfaultPlace Mthing Morder Mone Mtwo Mbest Mcells Mgap Mwire Mstand Mruns Mminute Mhead Mplays Mrests Mwent Mout Mcame Mgone MlastOut) sz) (kM cI cB cZ oM Mthrown Mmany Mguest Mrow Mbars Mbar Mfresh Mtape Mtaped Mpos Mtoken MtokenAt Mvalue Mwrong MwrongAt MfaultKind MfaultPlace Mthing Morder Mone Mtwo Mbest Mcells Mgap Mwire Mstand Mruns Mminute Mhead Mplays Mrests Mwent Mout Mcame Mgone MlastOut) t9) (va_A (kM cI cB cZ oM Mthrown Mmany Mguest Mrow Mbars Mbar Mfresh Mtape Mtaped Mpos Mtoken MtokenAt Mvalue Mwrong MwrongAt MfaultKind MfaultPlace Mthing Morder Mone Mtwo Mbest Mcells Mgap Mwire Mstand Mruns Mminute Mhead Mplays Mrests Mwent Mout Mcame Mgone MlastOut) sz)) 0 0 (va_A (kM cI cB cZ oM Mthrown Mmany Mguest Mrow Mbars Mbar Mfresh Mtape Mtaped Mpos Mtoken MtokenAt Mvalue Mwrong MwrongAt MfaultKind MfaultPlace Mthing Morder Mone Mtwo Mbest Mcells Mgap Mwire Mstand Mruns Mminute Mhead Mplays Mrests Mwent Mout Mcame Mgone MlastOut) sz) := by
  refine Met.ofW (cc := cX8_isOn) (maxL := 2) (ret := (some .boolean)) (by decide) rfl ?_
  intro pp ee s mm aa bw mt cd s₁ BL hml hv
  obtain ⟨rfl, hsz, hP, hK, hD0⟩ := hv
  have hx := BL.exec
  have hb := BL.bytes
  have hr := BL.returns
  have hts := atoms_spec (ws := wsX8_isOn) BL.pre
  have hown : s.vm.findClass RX8 = some mm.cls := findClass_of_methodNamed BL.named
  have hlocks := BL.notSynchronized
  subst hsz
  generalize hAe : va_A (kM cI cB cZ oM Mthrown Mmany Mguest Mrow Mbars Mbar Mfresh Mtape Mtaped Mpos Mtoken MtokenAt Mvalue Mwrong MwrongAt MfaultKind MfaultPlace Mthing Morder Mone Mtwo Mbest Mcells Mgap Mwire Mstand Mruns Mminute Mhead Mplays Mrests Mwent Mout Mcame Mgone MlastOut) s.heap.size = A
  have hA : ∀ q : Nat, s.heap.size ≤ q → A q := fun q h => by rw [← hAe]; exact Or.inr h
  have hw : HW D A s.heap (kM cI cB cZ oM Mthrown Mmany Mguest Mrow Mbars Mbar Mfresh Mtape Mtaped Mpos Mtoken MtokenAt Mvalue Mwrong MwrongAt MfaultKind MfaultPlace Mthing Morder Mone Mtwo Mbest Mcells Mgap Mwire Mstand Mruns Mminute Mhead Mplays Mrests Mwent Mout Mcame Mgone MlastOut) s.heap [] := z_start hAe hP hD0
  clear hP hD0
  have hl := lv_entry ([.ref (oM 0), .int (zI g)]) (n := 2) (Nat.le_of_ble_eq_true rfl)
  rw [lg_entry_eq]
  generalize (lg_sl ([.ref (oM 0), .int (zI g)]) ++ List.replicate (2 - (lg_sl ([.ref (oM 0), .int (zI g)])).length) Slot.unset).toArray = ls at hl ⊢
  have hl : lv_has ls 2 [(0, .ref (oM 0)), (1, .int (zI g))] := hl
  have hinX8 : ∀ w ∈ wsX80, w ∈ wsX8_isOn := by decide +kernel
  refine lv_aload_n hx hb dX8_isOn_0 rfl (lv_at hl 0 rfl) ?_
  refine va_get (D := D) (ci := 8) (v := .ref (oM 14)) (C := RX8) (T := TX8) (N := 36) hx hb hts hinX8 hown hK hw.1 0 rfl rfl 32 (by decide) (hts (.fieldLink RX8 59 "CarnivalRoadModel" "out" "[Z") (by decide +kernel)) (fun _ h9 => h9) rfl dX8_isOn_1 ?_
  refine lv_iload_n hx hb dX8_isOn_4 rfl (lv_at hl 1 rfl) ?_
  have hi_1 : (0 : Int) ≤ g ∧ g < ((16 : Nat) : Int) := by
    first | assumption | omega | grind
  refine z_zald (n := 16) (f := Mout) hx hb hK hw 14 rfl (by decide) hi_1 dX8_isOn_5 ?_
  have hq_2 : 0 ≤ Mout g ∧ Mout g ≤ 1 := qMout g
  refine z_if_ne (tgt := 22) hx hb dX8_isOn_6 (by decide) (by omega) (fun hc_3 => ?_) (fun hc_3 => ?_)
  · skip
    refine z_iconst hx hb dX8_isOn_22 ?_
    have hv_4 : ((Mout g = 0 ∧ 0 ≤ Mhead g) ∧ (0 : Int) = 1) ∨ (¬ (Mout g = 0 ∧ 0 ≤ Mhead g) ∧ (0 : Int) = 0) := by
      first | assumption | omega | grind
    exact W.zret (v := zI 0) hx hb hr rfl (fun t9 ht hW => ⟨⟨zI 0, 0, rfl, ⟨rfl, hv_4⟩, by subst hAe; exact z_end hK hw ht hW⟩, by subst hAe; exact hw.2.2.F ht⟩) (by subst hAe; exact hw.2.2.2.2) dX8_isOn_23
  · skip
    refine lv_aload_n hx hb dX8_isOn_9 rfl (lv_at hl 0 rfl) ?_
    refine va_get (D := D) (ci := 8) (v := .ref (oM 10)) (C := RX8) (T := TX8) (N := 36) hx hb hts hinX8 hown hK hw.1 0 rfl rfl 28 (by decide) (hts (.fieldLink RX8 47 "CarnivalRoadModel" "head" "[I") (by decide +kernel)) (fun _ h9 => h9) rfl dX8_isOn_10 ?_
    refine lv_iload_n hx hb dX8_isOn_13 rfl (lv_at hl 1 rfl) ?_
    have hi_5 : (0 : Int) ≤ g ∧ g < ((16 : Nat) : Int) := by
      first | assumption | omega | grind
    refine z_iald (n := 16) (f := Mhead) hx hb hK hw 10 rfl (by decide) hi_5 dX8_isOn_14 ?_
    have hq_6 : -1 ≤ Mhead g ∧ Mhead g ≤ 60 := qMhead g
    refine z_if_lt (tgt := 22) hx hb dX8_isOn_15 (by decide) (by omega) (fun hc_7 => ?_) (fun hc_7 => ?_)
    · skip
      refine z_iconst hx hb dX8_isOn_22 ?_
      have hv_8 : ((Mout g = 0 ∧ 0 ≤ Mhead g) ∧ (0 : Int) = 1) ∨ (¬ (Mout g = 0 ∧ 0 ≤ Mhead g) ∧ (0 : Int) = 0) := by
        first | assumption | omega | grind
      exact W.zret (v := zI 0) hx hb hr rfl (fun t9 ht hW => ⟨⟨zI 0, 0, rfl, ⟨rfl, hv_8⟩, by subst hAe; exact z_end hK hw ht hW⟩, by subst hAe; exact hw.2.2.F ht⟩) (by subst hAe; exact hw.2.2.2.2) dX8_isOn_23
    · skip
      refine z_iconst hx hb dX8_isOn_18 ?_
      refine lv_goto (tgt := 23) hx hb dX8_isOn_19 (by decide) ?_
      have hv_9 : ((Mout g = 0 ∧ 0 ≤ Mhead g) ∧ (1 : Int) = 1) ∨ (¬ (Mout g = 0 ∧ 0 ≤ Mhead g) ∧ (1 : Int) = 0) := by
        first | assumption | omega | grind
      exact W.zret (v := zI 1) hx hb hr rfl (fun t9 ht hW => ⟨⟨zI 1, 1, rfl, ⟨rfl, hv_9⟩, by subst hAe; exact z_end hK hw ht hW⟩, by subst hAe; exact hw.2.2.F ht⟩) (by subst hAe; exact hw.2.2.2.2) dX8_isOn_23
set_option maxRecDepth 100000 in
set_option maxHeartbeats 4000000 in
theorem c_X8_isOver (l : Launch) (D : va_G) (cI cB cZ : ClassId) (oM : Nat → Nat) (sz : Nat) (Mthrown : Int) (Mmany : Int) (Mguest : Int → Int) (Mrow : Int → Int) (Mbars : Int) (Mbar : Int → Int) (Mfresh : Int → Int) (Mtape : Int → Int) (Mtaped : Int) (Mpos : Int) (Mtoken : Int) (MtokenAt : Int) (Mvalue : Int) (Mwrong : Int) (MwrongAt : Int) (MfaultKind : Int) (MfaultPlace : Int) (Mthing : Int) (Morder : Int → Int) (Mone : Int) (Mtwo : Int) (Mbest : Int → Int) (Mcells : Int) (Mgap : Int) (Mwire : Int → Int) (Mstand : Int → Int) (Mruns : Int) (Mminute : Int) (Mhead : Int → Int) (Mplays : Int → Int) (Mrests : Int → Int) (Mwent : Int → Int) (Mout : Int → Int) (Mcame : Int → Int) (Mgone : Int → Int) (MlastOut : Int) (b : Int) (qMthrown : 0 ≤ Mthrown ∧ Mthrown ≤ 2) (qMmany : 0 ≤ Mmany ∧ Mmany ≤ 8) (qMguest : RA Mguest (0) 9) (qMrow : RA Mrow (0) 7) (qMbars : 0 ≤ Mbars ∧ Mbars ≤ 10) (qMbar : RA Mbar (0) 104) (qMfresh : RA Mfresh (0) 104) (qMtape : RA Mtape (0) 255) (qMtaped : 0 ≤ Mtaped ∧ Mtaped ≤ 400) (qMpos : 0 ≤ Mpos ∧ Mpos ≤ 400) (qMtoken : 0 ≤ Mtoken ∧ Mtoken ≤ 15) (qMtokenAt : 0 ≤ MtokenAt ∧ MtokenAt ≤ 400) (qMvalue : 0 ≤ Mvalue ∧ Mvalue ≤ 99) (qMwrong : 0 ≤ Mwrong ∧ Mwrong ≤ 3) (qMwrongAt : 0 ≤ MwrongAt ∧ MwrongAt ≤ 400) (qMfaultKind : 0 ≤ MfaultKind ∧ MfaultKind ≤ 3) (qMfaultPlace : -1 ≤ MfaultPlace ∧ MfaultPlace ≤ 400) (qMthing : 0 ≤ Mthing ∧ Mthing ≤ 104) (qMorder : RA Morder (0) 7) (qMone : 0 ≤ Mone ∧ Mone ≤ 8) (qMtwo : 0 ≤ Mtwo ∧ Mtwo ≤ 8) (qMbest : RA Mbest (0) 7) (qMcells : 1 ≤ Mcells ∧ Mcells ≤ 50) (qMgap : 0 ≤ Mgap ∧ Mgap ≤ 3) (qMwire : RA Mwire (0) 9) (qMstand : RA Mstand (0) 9) (qMruns : 0 ≤ Mruns ∧ Mruns ≤ 1) (qMminute : 0 ≤ Mminute ∧ Mminute ≤ 1000000) (qMhead : RA Mhead (-1) 60) (qMplays : RA Mplays (0) 18) (qMrests : RA Mrests (0) 3) (qMwent : RA Mwent (0) 61) (qMout : RA Mout (0) 1) (qMcame : RA Mcame (-1) 1000000) (qMgone : RA Mgone (-1) 1000000) (qMlastOut : 0 ≤ MlastOut ∧ MlastOut ≤ 1000000) (qb : 0 ≤ b ∧ b ≤ 8) : Met l yX8_isOver wsX8_isOver ({ frames := 0, cells := 0, slots := 0, locals := 0 }) (va_Pc [.ref (oM 0), .int (zI b)] (zPre D cI cB cZ sz (kM cI cB cZ oM Mthrown Mmany Mguest Mrow Mbars Mbar Mfresh Mtape Mtaped Mpos Mtoken MtokenAt Mvalue Mwrong MwrongAt MfaultKind MfaultPlace Mthing Morder Mone Mtwo Mbest Mcells Mgap Mwire Mstand Mruns Mminute Mhead Mplays Mrests Mwent Mout Mcame Mgone MlastOut))) (va_Qi (fun (r9 : Int32) (u9 : Int) => r9 = zI u9 ∧ ((((∀ g, 0 ≤ g → g < Mmany → Mout (b + g) = 1) ∧ u9 = 1) ∨ (¬ (∀ g, 0 ≤ g → g < Mmany → Mout (b + g) = 1) ∧ u9 = 0)))) (fun u9 t9 => zAt D cI cB cZ (va_A (kM cI cB cZ oM Mthrown Mmany Mguest Mrow Mbars Mbar Mfresh Mtape Mtaped Mpos Mtoken MtokenAt Mvalue Mwrong MwrongAt MfaultKind MfaultPlace Mthing Morder Mone Mtwo Mbest Mcells Mgap Mwire Mstand Mruns Mminute Mhead Mplays Mrests Mwent Mout Mcame Mgone MlastOut) sz) (kM cI cB cZ oM Mthrown Mmany Mguest Mrow Mbars Mbar Mfresh Mtape Mtaped Mpos Mtoken MtokenAt Mvalue Mwrong MwrongAt MfaultKind MfaultPlace Mthing Morder Mone Mtwo Mbest Mcells Mgap Mwire Mstand Mruns Mminute Mhead Mplays Mrests Mwent Mout Mcame Mgone MlastOut) t9) (va_A (kM cI cB cZ oM Mthrown Mmany Mguest Mrow Mbars Mbar Mfresh Mtape Mtaped Mpos Mtoken MtokenAt Mvalue Mwrong MwrongAt MfaultKind MfaultPlace Mthing Morder Mone Mtwo Mbest Mcells Mgap Mwire Mstand Mruns Mminute Mhead Mplays Mrests Mwent Mout Mcame Mgone MlastOut) sz)) 0 0 (va_A (kM cI cB cZ oM Mthrown Mmany Mguest Mrow Mbars Mbar Mfresh Mtape Mtaped Mpos Mtoken MtokenAt Mvalue Mwrong MwrongAt MfaultKind MfaultPlace Mthing Morder Mone Mtwo Mbest Mcells Mgap Mwire Mstand Mruns Mminute Mhead Mplays Mrests Mwent Mout Mcame Mgone MlastOut) sz) := by
  refine Met.ofW (cc := cX8_isOver) (maxL := 4) (ret := (some .boolean)) (by decide) rfl ?_
  intro pp ee s mm aa bw mt cd s₁ BL hml hv
  obtain ⟨rfl, hsz, hP, hK, hD0⟩ := hv
  have hx := BL.exec
  have hb := BL.bytes
  have hr := BL.returns
  have hts := atoms_spec (ws := wsX8_isOver) BL.pre
  have hown : s.vm.findClass RX8 = some mm.cls := findClass_of_methodNamed BL.named
  have hlocks := BL.notSynchronized
  subst hsz
  generalize hAe : va_A (kM cI cB cZ oM Mthrown Mmany Mguest Mrow Mbars Mbar Mfresh Mtape Mtaped Mpos Mtoken MtokenAt Mvalue Mwrong MwrongAt MfaultKind MfaultPlace Mthing Morder Mone Mtwo Mbest Mcells Mgap Mwire Mstand Mruns Mminute Mhead Mplays Mrests Mwent Mout Mcame Mgone MlastOut) s.heap.size = A
  have hA : ∀ q : Nat, s.heap.size ≤ q → A q := fun q h => by rw [← hAe]; exact Or.inr h
  have hw : HW D A s.heap (kM cI cB cZ oM Mthrown Mmany Mguest Mrow Mbars Mbar Mfresh Mtape Mtaped Mpos Mtoken MtokenAt Mvalue Mwrong MwrongAt MfaultKind MfaultPlace Mthing Morder Mone Mtwo Mbest Mcells Mgap Mwire Mstand Mruns Mminute Mhead Mplays Mrests Mwent Mout Mcame Mgone MlastOut) s.heap [] := z_start hAe hP hD0
  clear hP hD0
  have hl := lv_entry ([.ref (oM 0), .int (zI b)]) (n := 4) (Nat.le_of_ble_eq_true rfl)
  rw [lg_entry_eq]
  generalize (lg_sl ([.ref (oM 0), .int (zI b)]) ++ List.replicate (4 - (lg_sl ([.ref (oM 0), .int (zI b)])).length) Slot.unset).toArray = ls at hl ⊢
  have hl : lv_has ls 4 [(0, .ref (oM 0)), (1, .int (zI b))] := hl
  have hinX8 : ∀ w ∈ wsX80, w ∈ wsX8_isOver := by decide +kernel
  refine z_iconst hx hb dX8_isOver_0 ?_
  refine lv_istore_n (lv' := [(2, .int (zI 1)), (0, .ref (oM 0)), (1, .int (zI b))]) hx hb dX8_isOver_1 rfl hl (by decide) rfl (fun ls hl => ?_)
  refine z_iconst hx hb dX8_isOver_2 ?_
  refine lv_istore_n (lv' := [(3, .int (zI 0)), (2, .int (zI 1)), (0, .ref (oM 0)), (1, .int (zI b))]) hx hb dX8_isOver_3 rfl hl (by decide) rfl (fun ls hl => ?_)
  have hv_1 : 0 ≤ (0 : Int) ∧ (0 : Int) ≤ Mmany := by
    first | assumption | omega | grind
  have hv_2 : ((1 : Int) = 1 ∧ ∀ k, 0 ≤ k → k < (0 : Int) → Mout (b + k) = (fun _ => 1) k) ∨ ((1 : Int) = 0 ∧ ¬ ∀ k, 0 ≤ k → k < (0 : Int) → Mout (b + k) = (fun _ => 1) k) := by
    exact Or.inl ⟨rfl, all_0⟩
  refine z_loop (σ := Int × Int) (μ := fun x9 => (9 - (x9.2)).toNat) (I := fun x9 H locs ls => (0 ≤ (x9.2) ∧ (x9.2) ≤ Mmany) ∧ (((x9.1) = 1 ∧ ∀ k, 0 ≤ k → k < (x9.2) → Mout (b + k) = (fun _ => 1) k) ∨ ((x9.1) = 0 ∧ ¬ ∀ k, 0 ≤ k → k < (x9.2) → Mout (b + k) = (fun _ => 1) k)) ∧ HW D A s.heap (kM cI cB cZ oM Mthrown Mmany Mguest Mrow Mbars Mbar Mfresh Mtape Mtaped Mpos Mtoken MtokenAt Mvalue Mwrong MwrongAt MfaultKind MfaultPlace Mthing Morder Mone Mtwo Mbest Mcells Mgap Mwire Mstand Mruns Mminute Mhead Mplays Mrests Mwent Mout Mcame Mgone MlastOut) H locs ∧ lv_has ls 4 [(0, .ref (oM 0)), (1, .int (zI b)), (2, .int (zI (x9.1))), (3, .int (zI (x9.2)))]) (1, 0) ⟨hv_1, hv_2, hw, lv_sub hl [2, 3, 1, 0] rfl⟩ ?_
  clear hw hl
  intro x9 H locs ls hI ih_3
  obtain ⟨is_4, g_5⟩ := x9
  try dsimp only at hI
  obtain ⟨hI_6, hI_7, hw, hl⟩ := hI
  refine lv_iload_n hx hb dX8_isOver_4 rfl (lv_at hl 3 rfl) ?_
  refine lv_aload_n hx hb dX8_isOver_5 rfl (lv_at hl 0 rfl) ?_
  refine va_get (D := D) (ci := 8) (v := .int (zI Mmany)) (C := RX8) (T := TX8) (N := 36) hx hb hts hinX8 hown hK hw.1 0 rfl rfl 1 (by decide) (hts (.fieldLink RX8 72 "CarnivalRoadModel" "many" "I") (by decide +kernel)) (fun _ h9 => h9) rfl dX8_isOver_6 ?_
  refine z_icmp_ge (tgt := 39) hx hb dX8_isOver_9 (by decide) (by omega) (fun hc_8 => ?_) (fun hc_8 => ?_)
  · skip
    refine lv_iload_n hx hb dX8_isOver_39 rfl (lv_at hl 2 rfl) ?_
    have hv_9 : ((∀ g, 0 ≤ g → g < Mmany → Mout (b + g) = 1) ∧ is_4 = 1) ∨ (¬ (∀ g, 0 ≤ g → g < Mmany → Mout (b + g) = 1) ∧ is_4 = 0) := by
      exact isrow_end (f := fun k => Mout (b + k)) (g := fun _ => 1) (by assumption) (by omega)
    exact W.zret (v := zI is_4) hx hb hr (z_narZ (by omega)) (fun t9 ht hW => ⟨⟨zI is_4, is_4, rfl, ⟨rfl, hv_9⟩, by subst hAe; exact z_end hK hw ht hW⟩, by subst hAe; exact hw.2.2.F ht⟩) (by subst hAe; exact hw.2.2.2.2) dX8_isOver_40
  · skip
    refine lv_iload_n hx hb dX8_isOver_12 rfl (lv_at hl 2 rfl) ?_
    refine z_if_eq (tgt := 31) hx hb dX8_isOver_13 (by decide) (by omega) (fun hc_10 => ?_) (fun hc_10 => ?_)
    · skip
      refine z_iconst hx hb dX8_isOver_31 ?_
      refine lv_istore_n (lv' := [(2, .int (zI 0)), (0, .ref (oM 0)), (1, .int (zI b)), (3, .int (zI g_5))]) hx hb dX8_isOver_32 rfl hl (by decide) rfl (fun ls hl => ?_)
      refine z_iinc (k := 3) (lv' := [(3, .int (zI (g_5 + 1))), (2, .int (zI 0)), (0, .ref (oM 0)), (1, .int (zI b))]) hx hb dX8_isOver_33 hl rfl (by decide) rfl (fun ls hl => ?_)
      refine lv_goto (tgt := 4) hx hb dX8_isOver_36 (by decide) ?_
      have hv_11 : 0 ≤ (g_5 + 1) ∧ (g_5 + 1) ≤ Mmany := by
        first | assumption | omega | grind
      have hv_12 : ((0 : Int) = 1 ∧ ∀ k, 0 ≤ k → k < (g_5 + 1) → Mout (b + k) = (fun _ => 1) k) ∨ ((0 : Int) = 0 ∧ ¬ ∀ k, 0 ≤ k → k < (g_5 + 1) → Mout (b + k) = (fun _ => 1) k) := by
        exact isrow_next (f := fun k => Mout (b + k)) (g := fun _ => 1) (by assumption) (by omega) (by first | omega | (dsimp only; omega))
      have hm_13 : (9 - (g_5 + 1)).toNat < (9 - g_5).toNat := by
        first | assumption | omega | grind
      exact ih_3 (0, (g_5 + 1)) _ _ _ ⟨hv_11, hv_12, hw, lv_sub hl [2, 3, 1, 0] rfl⟩ hm_13
    · skip
      refine lv_aload_n hx hb dX8_isOver_16 rfl (lv_at hl 0 rfl) ?_
      refine va_get (D := D) (ci := 8) (v := .ref (oM 14)) (C := RX8) (T := TX8) (N := 36) hx hb hts hinX8 hown hK hw.1 0 rfl rfl 32 (by decide) (hts (.fieldLink RX8 59 "CarnivalRoadModel" "out" "[Z") (by decide +kernel)) (fun _ h9 => h9) rfl dX8_isOver_17 ?_
      refine lv_iload_n hx hb dX8_isOver_20 rfl (lv_at hl 1 rfl) ?_
      refine lv_iload_n hx hb dX8_isOver_21 rfl (lv_at hl 3 rfl) ?_
      refine z_iadd hx hb dX8_isOver_22 ?_
      have hi_14 : (0 : Int) ≤ (b + g_5) ∧ (b + g_5) < ((16 : Nat) : Int) := by
        first | assumption | omega | grind
      refine z_zald (n := 16) (f := Mout) hx hb hK hw 14 rfl (by decide) hi_14 dX8_isOver_23 ?_
      have hq_15 : 0 ≤ Mout (b + g_5) ∧ Mout (b + g_5) ≤ 1 := qMout (b + g_5)
      refine z_if_eq (tgt := 31) hx hb dX8_isOver_24 (by decide) (by omega) (fun hc_16 => ?_) (fun hc_16 => ?_)
      · skip
        refine z_iconst hx hb dX8_isOver_31 ?_
        refine lv_istore_n (lv' := [(2, .int (zI 0)), (0, .ref (oM 0)), (1, .int (zI b)), (3, .int (zI g_5))]) hx hb dX8_isOver_32 rfl hl (by decide) rfl (fun ls hl => ?_)
        refine z_iinc (k := 3) (lv' := [(3, .int (zI (g_5 + 1))), (2, .int (zI 0)), (0, .ref (oM 0)), (1, .int (zI b))]) hx hb dX8_isOver_33 hl rfl (by decide) rfl (fun ls hl => ?_)
        refine lv_goto (tgt := 4) hx hb dX8_isOver_36 (by decide) ?_
        have hv_17 : 0 ≤ (g_5 + 1) ∧ (g_5 + 1) ≤ Mmany := by
          first | assumption | omega | grind
        have hv_18 : ((0 : Int) = 1 ∧ ∀ k, 0 ≤ k → k < (g_5 + 1) → Mout (b + k) = (fun _ => 1) k) ∨ ((0 : Int) = 0 ∧ ¬ ∀ k, 0 ≤ k → k < (g_5 + 1) → Mout (b + k) = (fun _ => 1) k) := by
          exact isrow_next (f := fun k => Mout (b + k)) (g := fun _ => 1) (by assumption) (by omega) (by first | omega | (dsimp only; omega))
        have hm_19 : (9 - (g_5 + 1)).toNat < (9 - g_5).toNat := by
          first | assumption | omega | grind
        exact ih_3 (0, (g_5 + 1)) _ _ _ ⟨hv_17, hv_18, hw, lv_sub hl [2, 3, 1, 0] rfl⟩ hm_19
      · skip
        refine z_iconst hx hb dX8_isOver_27 ?_
        refine lv_goto (tgt := 32) hx hb dX8_isOver_28 (by decide) ?_
        refine lv_istore_n (lv' := [(2, .int (zI 1)), (0, .ref (oM 0)), (1, .int (zI b)), (3, .int (zI g_5))]) hx hb dX8_isOver_32 rfl hl (by decide) rfl (fun ls hl => ?_)
        refine z_iinc (k := 3) (lv' := [(3, .int (zI (g_5 + 1))), (2, .int (zI 1)), (0, .ref (oM 0)), (1, .int (zI b))]) hx hb dX8_isOver_33 hl rfl (by decide) rfl (fun ls hl => ?_)
        refine lv_goto (tgt := 4) hx hb dX8_isOver_36 (by decide) ?_
        have hv_20 : 0 ≤ (g_5 + 1) ∧ (g_5 + 1) ≤ Mmany := by
          first | assumption | omega | grind
        have hv_21 : ((1 : Int) = 1 ∧ ∀ k, 0 ≤ k → k < (g_5 + 1) → Mout (b + k) = (fun _ => 1) k) ∨ ((1 : Int) = 0 ∧ ¬ ∀ k, 0 ≤ k → k < (g_5 + 1) → Mout (b + k) = (fun _ => 1) k) := by
          exact isrow_next (f := fun k => Mout (b + k)) (g := fun _ => 1) (by assumption) (by omega) (by first | omega | (dsimp only; omega))
        have hm_22 : (9 - (g_5 + 1)).toNat < (9 - g_5).toNat := by
          first | assumption | omega | grind
        exact ih_3 (1, (g_5 + 1)) _ _ _ ⟨hv_20, hv_21, hw, lv_sub hl [2, 3, 1, 0] rfl⟩ hm_22
