set_option maxRecDepth 100000 in
set_option maxHeartbeats 4000000 in
theorem c_X8_orders (l : Launch) (D : va_G) (cI cB cZ : ClassId) (oM : Nat → Nat) (sz : Nat) (Mthrown : Int) (Mmany : Int) (Mguest : Int → Int) (Mrow : Int → Int) (Mbars : Int) (Mbar : Int → Int) (Mfresh : Int → Int) (Mtape : Int → Int) (Mtaped : Int) (Mpos : Int) (Mtoken : Int) (MtokenAt : Int) (Mvalue : Int) (Mwrong : Int) (MwrongAt : Int) (MfaultKind : Int) (MfaultPlace : Int) (Mthing : Int) (Morder : Int → Int) (Mone : Int) (Mtwo : Int) (Mbest : Int → Int) (Mcells : Int) (Mgap : Int) (Mwire : Int → Int) (Mstand : Int → Int) (Mruns : Int) (Mminute : Int) (Mhead : Int → Int) (Mplays : Int → Int) (Mrests : Int → Int) (Mwent : Int → Int) (Mout : Int → Int) (Mcame : Int → Int) (Mgone : Int → Int) (MlastOut : Int) (ki : Int → Int) (le : Int → Int) (lo : Int → Int) (ta : Int → Int) (sh : Int → Int) (wo : Int → Int) (on : Int → Int) (tw : Int → Int) (nu : Int → Int) (qMthrown : 0 ≤ Mthrown ∧ Mthrown ≤ 2) (qMmany : 0 ≤ Mmany ∧ Mmany ≤ 8) (qMguest : RA Mguest (0) 9) (qMrow : RA Mrow (0) 7) (qMbars : 0 ≤ Mbars ∧ Mbars ≤ 10) (qMbar : RA Mbar (0) 104) (qMfresh : RA Mfresh (0) 104) (qMtape : RA Mtape (0) 255) (qMtaped : 0 ≤ Mtaped ∧ Mtaped ≤ 400) (qMpos : 0 ≤ Mpos ∧ Mpos ≤ 400) (qMtoken : 0 ≤ Mtoken ∧ Mtoken ≤ 15) (qMtokenAt : 0 ≤ MtokenAt ∧ MtokenAt ≤ 400) (qMvalue : 0 ≤ Mvalue ∧ Mvalue ≤ 99) (qMwrong : 0 ≤ Mwrong ∧ Mwrong ≤ 3) (qMwrongAt : 0 ≤ MwrongAt ∧ MwrongAt ≤ 400) (qMfaultKind : 0 ≤ MfaultKind ∧ MfaultKind ≤ 3) (qMfaultPlace : -1 ≤ MfaultPlace ∧ MfaultPlace ≤ 400) (qMthing : 0 ≤ Mthing ∧ Mthing ≤ 104) (qMorder : RA Morder (0) 7) (qMone : 0 ≤ Mone ∧ Mone ≤ 8) (qMtwo : 0 ≤ Mtwo ∧ Mtwo ≤ 8) (qMbest : RA Mbest (0) 7) (qMcells : 1 ≤ Mcells ∧ Mcells ≤ 50) (qMgap : 0 ≤ Mgap ∧ Mgap ≤ 3) (qMwire : RA Mwire (0) 9) (qMstand : RA Mstand (0) 9) (qMruns : 0 ≤ Mruns ∧ Mruns ≤ 1) (qMminute : 0 ≤ Mminute ∧ Mminute ≤ 1000000) (qMhead : RA Mhead (-1) 60) (qMplays : RA Mplays (0) 18) (qMrests : RA Mrests (0) 3) (qMwent : RA Mwent (0) 61) (qMout : RA Mout (0) 1) (qMcame : RA Mcame (-1) 1000000) (qMgone : RA Mgone (-1) 1000000) (qMlastOut : 0 ≤ MlastOut ∧ MlastOut ≤ 1000000) (hp0 : gRel Mmany ki le lo ta sh Mguest) (hp1 : bRel Mbars wo on tw nu Mbar) (hp2 : (ext Kp Mmany Mmany.toNat []).length ≤ 40320) : Met l yX8_orders wsX8_orders ({ frames := 4, cells := 0, slots := 0, locals := 94 }) (va_Pc [.ref (oM 0)] (zPre D cI cB cZ sz (kM cI cB cZ oM Mthrown Mmany Mguest Mrow Mbars Mbar Mfresh Mtape Mtaped Mpos Mtoken MtokenAt Mvalue Mwrong MwrongAt MfaultKind MfaultPlace Mthing Morder Mone Mtwo Mbest Mcells Mgap Mwire Mstand Mruns Mminute Mhead Mplays Mrests Mwent Mout Mcame Mgone MlastOut))) (va_Qi (fun (r9 : Int32) (u9 : Int × Int × (Int → Int) × Int × Int) => r9 = zI u9.1 ∧ (((0 : Int) ≤ u9.2.1 ∧ u9.2.1 ≤ 2) ∧ (RA u9.2.2.1 (0) 7) ∧ ((0 : Int) ≤ u9.2.2.2.1 ∧ u9.2.2.2.1 ≤ 8) ∧ ((0 : Int) ≤ u9.2.2.2.2 ∧ u9.2.2.2.2 ≤ 8) ∧ (u9.1 = ((fil (okL ki lo sh wo on tw nu Mmany Mbars) (ext Kp Mmany Mmany.toNat [])).length : Int)) ∧ (u9.2.1 = 0))) (fun u9 t9 => zAt D cI cB cZ (va_A (kM cI cB cZ oM Mthrown Mmany Mguest Mrow Mbars Mbar Mfresh Mtape Mtaped Mpos Mtoken MtokenAt Mvalue Mwrong MwrongAt MfaultKind MfaultPlace Mthing Morder Mone Mtwo Mbest Mcells Mgap Mwire Mstand Mruns Mminute Mhead Mplays Mrests Mwent Mout Mcame Mgone MlastOut) sz) (kM cI cB cZ oM (u9.2.1) Mmany Mguest Mrow Mbars Mbar Mfresh Mtape Mtaped Mpos Mtoken MtokenAt Mvalue Mwrong MwrongAt MfaultKind MfaultPlace Mthing (u9.2.2.1) (u9.2.2.2.1) (u9.2.2.2.2) Mbest Mcells Mgap Mwire Mstand Mruns Mminute Mhead Mplays Mrests Mwent Mout Mcame Mgone MlastOut) t9) (va_A (kM cI cB cZ oM Mthrown Mmany Mguest Mrow Mbars Mbar Mfresh Mtape Mtaped Mpos Mtoken MtokenAt Mvalue Mwrong MwrongAt MfaultKind MfaultPlace Mthing Morder Mone Mtwo Mbest Mcells Mgap Mwire Mstand Mruns Mminute Mhead Mplays Mrests Mwent Mout Mcame Mgone MlastOut) sz)) 0 0 (va_A (kM cI cB cZ oM Mthrown Mmany Mguest Mrow Mbars Mbar Mfresh Mtape Mtaped Mpos Mtoken MtokenAt Mvalue Mwrong MwrongAt MfaultKind MfaultPlace Mthing Morder Mone Mtwo Mbest Mcells Mgap Mwire Mstand Mruns Mminute Mhead Mplays Mrests Mwent Mout Mcame Mgone MlastOut) sz) := by
  refine Met.ofW (cc := cX8_orders) (maxL := 3) (ret := (some .int)) (by decide) rfl ?_
  intro pp ee s mm aa bw mt cd s₁ BL hml hv
  obtain ⟨rfl, hsz, hP, hK, hD0⟩ := hv
  have hx := BL.exec
  have hb := BL.bytes
  have hr := BL.returns
  have hts := atoms_spec (ws := wsX8_orders) BL.pre
  have hown : s.vm.findClass RX8 = some mm.cls := findClass_of_methodNamed BL.named
  have hlocks := BL.notSynchronized
  subst hsz
  generalize hAe : va_A (kM cI cB cZ oM Mthrown Mmany Mguest Mrow Mbars Mbar Mfresh Mtape Mtaped Mpos Mtoken MtokenAt Mvalue Mwrong MwrongAt MfaultKind MfaultPlace Mthing Morder Mone Mtwo Mbest Mcells Mgap Mwire Mstand Mruns Mminute Mhead Mplays Mrests Mwent Mout Mcame Mgone MlastOut) s.heap.size = A
  have hA : ∀ q : Nat, s.heap.size ≤ q → A q := fun q h => by rw [← hAe]; exact Or.inr h
  have hw : HW D A s.heap (kM cI cB cZ oM Mthrown Mmany Mguest Mrow Mbars Mbar Mfresh Mtape Mtaped Mpos Mtoken MtokenAt Mvalue Mwrong MwrongAt MfaultKind MfaultPlace Mthing Morder Mone Mtwo Mbest Mcells Mgap Mwire Mstand Mruns Mminute Mhead Mplays Mrests Mwent Mout Mcame Mgone MlastOut) s.heap [] := z_start hAe hP hD0
  clear hP hD0
  have hl := lv_entry ([.ref (oM 0)]) (n := 3) (Nat.le_of_ble_eq_true rfl)
  rw [lg_entry_eq]
  generalize (lg_sl ([.ref (oM 0)]) ++ List.replicate (3 - (lg_sl ([.ref (oM 0)])).length) Slot.unset).toArray = ls at hl ⊢
  have hl : lv_has ls 3 [(0, .ref (oM 0))] := hl
  have hinX8 : ∀ w ∈ wsX80, w ∈ wsX8_orders := by decide +kernel
  refine lv_aload_n hx hb dX8_orders_0 rfl (lv_at hl 0 rfl) ?_
  refine z_iconst hx hb dX8_orders_1 ?_
  refine z_put (D := D) (ci := 8) (v := .int (zI 0)) (ty := .int) (C := RX8) (T := TX8) (N := 36) (ws2 := kM cI cB cZ oM 0 Mmany Mguest Mrow Mbars Mbar Mfresh Mtape Mtaped Mpos Mtoken MtokenAt Mvalue Mwrong MwrongAt MfaultKind MfaultPlace Mthing Morder Mone Mtwo Mbest Mcells Mgap Mwire Mstand Mruns Mminute Mhead Mplays Mrests Mwent Mout Mcame Mgone MlastOut) hx hb hts hinX8 tyX8 tyX8_ok nmX8 hown hK hw 0 rfl rfl 0 (by decide) (hts (.fieldLink RX8 69 "CarnivalRoadModel" "thrown" "I") (by decide +kernel)) (fun _ h9 => h9) rfl (by decide +kernel) rfl rfl (Nat.le_of_ble_eq_true rfl) dX8_orders_2 rfl (fun H locs hw => ?_)
  refine lv_aload_n hx hb dX8_orders_5 rfl (lv_at hl 0 rfl) ?_
  have hF9 := z_free (wc := kM cI cB cZ oM 0 Mmany Mguest Mrow Mbars Mbar Mfresh Mtape Mtaped Mpos Mtoken MtokenAt Mvalue Mwrong MwrongAt MfaultKind MfaultPlace Mthing Morder Mone Mtwo Mbest Mcells Mgap Mwire Mstand Mruns Mminute Mhead Mplays Mrests Mwent Mout Mcame Mgone MlastOut) hw hA [0, 1, 2, 3, 4, 5, 6, 7, 8, 9, 10, 11, 12, 13, 14, 15, 16] rfl
  refine va_callv (va_runV (As := []) (rest := []) ⟨hx, hb, hml, hown, hts⟩ (c_X8_firstOrder l D cI cB cZ oM H.size 0 Mmany Mguest Mrow Mbars Mbar Mfresh Mtape Mtaped Mpos Mtoken MtokenAt Mvalue Mwrong MwrongAt MfaultKind MfaultPlace Mthing Morder Mone Mtwo Mbest Mcells Mgap Mwire Mstand Mruns Mminute Mhead Mplays Mrests Mwent Mout Mcame Mgone MlastOut (by omega) (by omega) qMguest qMrow (by omega) qMbar qMfresh qMtape (by omega) (by omega) (by omega) (by omega) (by omega) (by omega) (by omega) (by omega) (by omega) (by omega) qMorder (by omega) (by omega) qMbest (by omega) (by omega) qMwire qMstand (by omega) (by omega) qMhead qMplays qMrests qMwent qMout qMcame qMgone (by omega)) (cwV 0 hts gX8_orders_X8_firstOrder rfl rfl rfl (by decide +kernel) ⟨Nat.le_of_ble_eq_true rfl, Nat.le_of_ble_eq_true rfl⟩) ⟨zPre_blind, va_recv hK hw.1 (ci := 8) (q0 := 0) rfl rfl, z_pre hK hw [0, 1, 2, 3, 4, 5, 6, 7, 8, 9, 10, 11, 12, 13, 14, 15, 16] (by decide) rfl⟩ rfl rfl hl.1 rfl (lv_room (Nat.le_of_ble_eq_true rfl)) dX8_orders_6 ⟨Nat.zero_le _, Nat.zero_le _⟩) hw.2.2 (fun q _ h => hF9 q h) hF9 (fun u9 t9 H_1 locs9 ht9 hvm9 hq9 hB9 hz9 hk9 hS9 => ?_)
  obtain ⟨Morder_2, rfl⟩ : ∃ z, z = u9 := ⟨_, rfl⟩
  try dsimp only at hq9 hB9
  obtain ⟨hq_3, hq_4⟩ := hq9
  have hw : HW D A s.heap (kM cI cB cZ oM 0 Mmany Mguest Mrow Mbars Mbar Mfresh Mtape Mtaped Mpos Mtoken MtokenAt Mvalue Mwrong MwrongAt MfaultKind MfaultPlace Mthing Morder_2 Mone Mtwo Mbest Mcells Mgap Mwire Mstand Mruns Mminute Mhead Mplays Mrests Mwent Mout Mcame Mgone MlastOut) H_1 locs9 := z_after (wc := kM cI cB cZ oM 0 Mmany Mguest Mrow Mbars Mbar Mfresh Mtape Mtaped Mpos Mtoken MtokenAt Mvalue Mwrong MwrongAt MfaultKind MfaultPlace Mthing Morder Mone Mtwo Mbest Mcells Mgap Mwire Mstand Mruns Mminute Mhead Mplays Mrests Mwent Mout Mcame Mgone MlastOut) hw [0, 1, 2, 3, 4, 5, 6, 7, 8, 9, 10, 11, 12, 13, 14, 15, 16] [] rfl rfl (by decide) (by decide) hF9 hk9 ht9 hB9 hS9 [0, 1, 2, 3, 4, 5, 6, 7, 8, 9, 10, 11, 12, 13, 14, 15, 16] (by decide) rfl
  clear hF9 ht9 hvm9 hB9 hz9 hk9 hS9
  refine z_iconst hx hb dX8_orders_9 ?_
  refine lv_istore_n (lv' := [(1, .int (zI 0)), (0, .ref (oM 0))]) hx hb dX8_orders_10 rfl hl (by decide) rfl (fun ls hl => ?_)
  refine z_iconst hx hb dX8_orders_11 ?_
  refine lv_istore_n (lv' := [(2, .int (zI 1)), (1, .int (zI 0)), (0, .ref (oM 0))]) hx hb dX8_orders_12 rfl hl (by decide) rfl (fun ls hl => ?_)
  have hv_5 : (0 : Int) ≤ Mone ∧ Mone ≤ 8 := by
    first | assumption | omega | grind
  have hv_6 : (0 : Int) ≤ Mtwo ∧ Mtwo ≤ 8 := by
    first | assumption | omega | grind
  have hv_7 : enP Mmany Morder_2 (1 : Int) ([]) := by
    exact en_first (by omega) (by assumption)
  have hv_8 : (0 : Int) = ((fil (okL ki lo sh wo on tw nu Mmany Mbars) ([])).length : Int) := by
    rfl
  have hv_9 : (1 : Int) = 0 ∨ (1 : Int) = 1 := by
    first | assumption | omega | grind
  refine z_loop (σ := Int × Int × (Int → Int) × Int × Int × List (List Int)) (μ := fun x9 => (ext Kp Mmany Mmany.toNat []).length - x9.2.2.2.2.2.length) (I := fun x9 H locs ls => (RA (x9.2.2.1) (0) 7) ∧ ((0 : Int) ≤ (x9.2.2.2.1) ∧ (x9.2.2.2.1) ≤ 8) ∧ ((0 : Int) ≤ (x9.2.2.2.2.1) ∧ (x9.2.2.2.2.1) ≤ 8) ∧ (enP Mmany (x9.2.2.1) (x9.2.1) x9.2.2.2.2.2) ∧ ((x9.1) = ((fil (okL ki lo sh wo on tw nu Mmany Mbars) x9.2.2.2.2.2).length : Int)) ∧ ((x9.2.1) = 0 ∨ (x9.2.1) = 1) ∧ HW D A s.heap (kM cI cB cZ oM 0 Mmany Mguest Mrow Mbars Mbar Mfresh Mtape Mtaped Mpos Mtoken MtokenAt Mvalue Mwrong MwrongAt MfaultKind MfaultPlace Mthing (x9.2.2.1) (x9.2.2.2.1) (x9.2.2.2.2.1) Mbest Mcells Mgap Mwire Mstand Mruns Mminute Mhead Mplays Mrests Mwent Mout Mcame Mgone MlastOut) H locs ∧ lv_has ls 3 [(0, .ref (oM 0)), (1, .int (zI (x9.1))), (2, .int (zI (x9.2.1)))]) (0, 1, Morder_2, Mone, Mtwo, ([])) ⟨hq_3, hv_5, hv_6, hv_7, hv_8, hv_9, hw, lv_sub hl [2, 1, 0] rfl⟩ ?_
  clear hw hl
  intro x9 H locs ls hI ih_10
  obtain ⟨c_11, more_12, Morder_13, Mone_14, Mtwo_15, A_16⟩ := x9
  try dsimp only at hI
  obtain ⟨hR_17, hq_18, hq_19, hI_20, hI_21, hI_22, hw, hl⟩ := hI
  refine lv_iload_n hx hb dX8_orders_13 rfl (lv_at hl 2 rfl) ?_
  refine z_if_eq (tgt := 41) hx hb dX8_orders_14 (by decide) (by omega) (fun hc_23 => ?_) (fun hc_23 => ?_)
  · skip
    refine lv_iload_n hx hb dX8_orders_41 rfl (lv_at hl 1 rfl) ?_
    have hv_24 : (0 : Int) ≤ (0 : Int) ∧ (0 : Int) ≤ 2 := by
      first | assumption | omega | grind
    have hv_25 : (0 : Int) ≤ Mone_14 ∧ Mone_14 ≤ 8 := by
      first | assumption | omega | grind
    have hv_26 : (0 : Int) ≤ Mtwo_15 ∧ Mtwo_15 ≤ 8 := by
      first | assumption | omega | grind
    have hv_27 : c_11 = ((fil (okL ki lo sh wo on tw nu Mmany Mbars) (ext Kp Mmany Mmany.toNat [])).length : Int) := by
      rw [en_done (by assumption : enP Mmany Morder_13 more_12 A_16) (by omega)]; assumption
    have hv_28 : (0 : Int) = 0 := by
      rfl
    exact W.iret (v := zI c_11) hx hb hr (fun t9 ht hW => ⟨⟨zI c_11, (c_11, 0, Morder_13, Mone_14, Mtwo_15), rfl, ⟨rfl, ⟨hv_24, hR_17, hv_25, hv_26, hv_27, hv_28⟩⟩, by subst hAe; exact z_end hK hw ht hW⟩, by subst hAe; exact hw.2.2.F ht⟩) (by subst hAe; exact hw.2.2.2.2) dX8_orders_42
  · skip
    refine lv_iload_n hx hb dX8_orders_17 rfl (lv_at hl 1 rfl) ?_
    refine lv_aload_n hx hb dX8_orders_18 rfl (lv_at hl 0 rfl) ?_
    have hpre_29 : gRel Mmany ki le lo ta sh Mguest := by
      first | assumption | omega | grind
    have hpre_30 : bRel Mbars wo on tw nu Mbar := by
      first | assumption | omega | grind
    have hpre_31 : ∀ i, 0 ≤ i → i < Mmany → 0 ≤ Morder_13 i ∧ Morder_13 i < Mmany := by
      exact fun i i0 i1 => (en_perm (by assumption : enP Mmany Morder_13 more_12 A_16) (by omega)).1 i i0 i1
    have hF9 := z_free (wc := kM cI cB cZ oM 0 Mmany Mguest Mrow Mbars Mbar Mfresh Mtape Mtaped Mpos Mtoken MtokenAt Mvalue Mwrong MwrongAt MfaultKind MfaultPlace Mthing Morder_13 Mone_14 Mtwo_15 Mbest Mcells Mgap Mwire Mstand Mruns Mminute Mhead Mplays Mrests Mwent Mout Mcame Mgone MlastOut) hw hA [0, 1, 2, 3, 4, 5, 6, 7, 8, 9, 10, 11, 12, 13, 14, 15, 16] rfl
    refine va_calli (va_runV (As := []) (rest := [.int (zI c_11)]) ⟨hx, hb, hml, hown, hts⟩ (c_X8_broken l D cI cB cZ oM H.size 0 Mmany Mguest Mrow Mbars Mbar Mfresh Mtape Mtaped Mpos Mtoken MtokenAt Mvalue Mwrong MwrongAt MfaultKind MfaultPlace Mthing Morder_13 Mone_14 Mtwo_15 Mbest Mcells Mgap Mwire Mstand Mruns Mminute Mhead Mplays Mrests Mwent Mout Mcame Mgone MlastOut ki le lo ta sh wo on tw nu (by omega) (by omega) qMguest qMrow (by omega) qMbar qMfresh qMtape (by omega) (by omega) (by omega) (by omega) (by omega) (by omega) (by omega) (by omega) (by omega) (by omega) hR_17 (by omega) (by omega) qMbest (by omega) (by omega) qMwire qMstand (by omega) (by omega) qMhead qMplays qMrests qMwent qMout qMcame qMgone (by omega) hpre_29 hpre_30 hpre_31) (cwV 0 hts gX8_orders_X8_broken rfl rfl rfl (by decide +kernel) ⟨Nat.le_of_ble_eq_true rfl, Nat.le_of_ble_eq_true rfl⟩) ⟨zPre_blind, va_recv hK hw.1 (ci := 8) (q0 := 0) rfl rfl, z_pre hK hw [0, 1, 2, 3, 4, 5, 6, 7, 8, 9, 10, 11, 12, 13, 14, 15, 16] (by decide) rfl⟩ rfl rfl hl.1 rfl (lv_room (Nat.le_of_ble_eq_true rfl)) dX8_orders_19 ⟨Nat.zero_le _, Nat.zero_le _⟩) hw.2.2 (fun q _ h => hF9 q h) hF9 (fun r9 u9 t9 H_32 locs9 ht9 hvm9 hq9 hB9 hz9 hk9 hS9 => ?_)
    obtain ⟨r_33, Mone_34, Mtwo_35⟩ := u9
    try dsimp only at hq9 hB9
    obtain ⟨rfl, hq9⟩ := hq9
    obtain ⟨hq_36, hq_37, hq_38, hq_39⟩ := hq9
    have hw : HW D A s.heap (kM cI cB cZ oM 0 Mmany Mguest Mrow Mbars Mbar Mfresh Mtape Mtaped Mpos Mtoken MtokenAt Mvalue Mwrong MwrongAt MfaultKind MfaultPlace Mthing Morder_13 Mone_34 Mtwo_35 Mbest Mcells Mgap Mwire Mstand Mruns Mminute Mhead Mplays Mrests Mwent Mout Mcame Mgone MlastOut) H_32 locs9 := z_after (wc := kM cI cB cZ oM 0 Mmany Mguest Mrow Mbars Mbar Mfresh Mtape Mtaped Mpos Mtoken MtokenAt Mvalue Mwrong MwrongAt MfaultKind MfaultPlace Mthing Morder_13 Mone_14 Mtwo_15 Mbest Mcells Mgap Mwire Mstand Mruns Mminute Mhead Mplays Mrests Mwent Mout Mcame Mgone MlastOut) hw [0, 1, 2, 3, 4, 5, 6, 7, 8, 9, 10, 11, 12, 13, 14, 15, 16] [] rfl rfl (by decide) (by decide) hF9 hk9 ht9 hB9 hS9 [0, 1, 2, 3, 4, 5, 6, 7, 8, 9, 10, 11, 12, 13, 14, 15, 16] (by decide) rfl
    clear hF9 ht9 hvm9 hB9 hz9 hk9 hS9
    refine z_iconst hx hb dX8_orders_22 ?_
    refine z_icmp_ne (tgt := 30) hx hb dX8_orders_23 (by decide) (by omega) (fun hc_40 => ?_) (fun hc_40 => ?_)
    · skip
      refine z_iconst hx hb dX8_orders_30 ?_
      refine z_iadd hx hb dX8_orders_31 ?_
      refine lv_istore_n (lv' := [(1, .int (zI (c_11 + 0))), (0, .ref (oM 0)), (2, .int (zI more_12))]) hx hb dX8_orders_32 rfl hl (by decide) rfl (fun ls hl => ?_)
      refine lv_aload_n hx hb dX8_orders_33 rfl (lv_at hl 1 rfl) ?_
      have hF9 := z_free (wc := kM cI cB cZ oM 0 Mmany Mguest Mrow Mbars Mbar Mfresh Mtape Mtaped Mpos Mtoken MtokenAt Mvalue Mwrong MwrongAt MfaultKind MfaultPlace Mthing Morder_13 Mone_34 Mtwo_35 Mbest Mcells Mgap Mwire Mstand Mruns Mminute Mhead Mplays Mrests Mwent Mout Mcame Mgone MlastOut) hw hA [0, 1, 2, 3, 4, 5, 6, 7, 8, 9, 10, 11, 12, 13, 14, 15, 16] rfl
      refine va_calli (va_runV (As := []) (rest := []) ⟨hx, hb, hml, hown, hts⟩ (c_X8_nextOrder l D cI cB cZ oM H_32.size 0 Mmany Mguest Mrow Mbars Mbar Mfresh Mtape Mtaped Mpos Mtoken MtokenAt Mvalue Mwrong MwrongAt MfaultKind MfaultPlace Mthing Morder_13 Mone_34 Mtwo_35 Mbest Mcells Mgap Mwire Mstand Mruns Mminute Mhead Mplays Mrests Mwent Mout Mcame Mgone MlastOut (by omega) (by omega) qMguest qMrow (by omega) qMbar qMfresh qMtape (by omega) (by omega) (by omega) (by omega) (by omega) (by omega) (by omega) (by omega) (by omega) (by omega) hR_17 (by omega) (by omega) qMbest (by omega) (by omega) qMwire qMstand (by omega) (by omega) qMhead qMplays qMrests qMwent qMout qMcame qMgone (by omega)) (cwV 0 hts gX8_orders_X8_nextOrder rfl rfl rfl (by decide +kernel) ⟨Nat.le_of_ble_eq_true rfl, Nat.le_of_ble_eq_true rfl⟩) ⟨zPre_blind, va_recv hK hw.1 (ci := 8) (q0 := 0) rfl rfl, z_pre hK hw [0, 1, 2, 3, 4, 5, 6, 7, 8, 9, 10, 11, 12, 13, 14, 15, 16] (by decide) rfl⟩ rfl rfl hl.1 rfl (lv_room (Nat.le_of_ble_eq_true rfl)) dX8_orders_34 ⟨Nat.zero_le _, Nat.zero_le _⟩) hw.2.2 (fun q _ h => hF9 q h) hF9 (fun r9 u9 t9 H_41 locs9 ht9 hvm9 hq9 hB9 hz9 hk9 hS9 => ?_)
      obtain ⟨r_42, Morder_43⟩ := u9
      try dsimp only at hq9 hB9
      obtain ⟨rfl, hq9⟩ := hq9
      obtain ⟨hq_44, hq_45⟩ := hq9
      have hw : HW D A s.heap (kM cI cB cZ oM 0 Mmany Mguest Mrow Mbars Mbar Mfresh Mtape Mtaped Mpos Mtoken MtokenAt Mvalue Mwrong MwrongAt MfaultKind MfaultPlace Mthing Morder_43 Mone_34 Mtwo_35 Mbest Mcells Mgap Mwire Mstand Mruns Mminute Mhead Mplays Mrests Mwent Mout Mcame Mgone MlastOut) H_41 locs9 := z_after (wc := kM cI cB cZ oM 0 Mmany Mguest Mrow Mbars Mbar Mfresh Mtape Mtaped Mpos Mtoken MtokenAt Mvalue Mwrong MwrongAt MfaultKind MfaultPlace Mthing Morder_13 Mone_34 Mtwo_35 Mbest Mcells Mgap Mwire Mstand Mruns Mminute Mhead Mplays Mrests Mwent Mout Mcame Mgone MlastOut) hw [0, 1, 2, 3, 4, 5, 6, 7, 8, 9, 10, 11, 12, 13, 14, 15, 16] [] rfl rfl (by decide) (by decide) hF9 hk9 ht9 hB9 hS9 [0, 1, 2, 3, 4, 5, 6, 7, 8, 9, 10, 11, 12, 13, 14, 15, 16] (by decide) rfl
      clear hF9 ht9 hvm9 hB9 hz9 hk9 hS9
      refine lv_istore_n (lv' := [(2, .int (zI r_42)), (1, .int (zI (c_11 + 0))), (0, .ref (oM 0))]) hx hb dX8_orders_37 rfl hl (by decide) rfl (fun ls hl => ?_)
      refine lv_goto (tgt := 13) hx hb dX8_orders_38 (by decide) ?_
      have hv_46 : (0 : Int) ≤ Mone_34 ∧ Mone_34 ≤ 8 := by
        first | assumption | omega | grind
      have hv_47 : (0 : Int) ≤ Mtwo_35 ∧ Mtwo_35 ≤ 8 := by
        first | assumption | omega | grind
      have hv_48 : enP Mmany Morder_43 r_42 (A_16 ++ [preL Morder_13 Mmany.toNat]) := by
        exact en_next (by omega) (by assumption) (by omega) (by assumption)
      have hv_49 : (c_11 + 0) = ((fil (okL ki lo sh wo on tw nu Mmany Mbars) (A_16 ++ [preL Morder_13 Mmany.toNat])).length : Int) := by
        have hok := why_ok (n := Mmany) (by omega) (by assumption : ∃ x y, whyP ki lo sh wo on tw nu Morder_13 Mmany Mbars _ x y ∧ _)
        first | (rw [fil_t (hok.mp (by omega)), List.length_append, List.length_singleton]; omega) | (rw [fil_f (fun q => absurd (hok.mpr q) (by omega))]; omega)
      have hv_50 : r_42 = 0 ∨ r_42 = 1 := by
        first | assumption | omega | grind
      have hm_51 : (ext Kp Mmany Mmany.toNat []).length - (A_16 ++ [preL Morder_13 Mmany.toNat]).length < (ext Kp Mmany Mmany.toNat []).length - A_16.length := by
        have hl9 := en_len (by assumption : enP Mmany Morder_13 more_12 A_16) (by omega)
        simp only [List.length_append, List.length_cons, List.length_nil] at hl9 ⊢
        omega
      exact ih_10 ((c_11 + 0), r_42, Morder_43, Mone_34, Mtwo_35, (A_16 ++ [preL Morder_13 Mmany.toNat])) _ _ _ ⟨hq_44, hv_46, hv_47, hv_48, hv_49, hv_50, hw, lv_sub hl [2, 1, 0] rfl⟩ hm_51
    · skip
      refine z_iconst hx hb dX8_orders_26 ?_
      refine lv_goto (tgt := 31) hx hb dX8_orders_27 (by decide) ?_
      refine z_iadd hx hb dX8_orders_31 ?_
      refine lv_istore_n (lv' := [(1, .int (zI (c_11 + 1))), (0, .ref (oM 0)), (2, .int (zI more_12))]) hx hb dX8_orders_32 rfl hl (by decide) rfl (fun ls hl => ?_)
      refine lv_aload_n hx hb dX8_orders_33 rfl (lv_at hl 1 rfl) ?_
      have hF9 := z_free (wc := kM cI cB cZ oM 0 Mmany Mguest Mrow Mbars Mbar Mfresh Mtape Mtaped Mpos Mtoken MtokenAt Mvalue Mwrong MwrongAt MfaultKind MfaultPlace Mthing Morder_13 Mone_34 Mtwo_35 Mbest Mcells Mgap Mwire Mstand Mruns Mminute Mhead Mplays Mrests Mwent Mout Mcame Mgone MlastOut) hw hA [0, 1, 2, 3, 4, 5, 6, 7, 8, 9, 10, 11, 12, 13, 14, 15, 16] rfl
      refine va_calli (va_runV (As := []) (rest := []) ⟨hx, hb, hml, hown, hts⟩ (c_X8_nextOrder l D cI cB cZ oM H_32.size 0 Mmany Mguest Mrow Mbars Mbar Mfresh Mtape Mtaped Mpos Mtoken MtokenAt Mvalue Mwrong MwrongAt MfaultKind MfaultPlace Mthing Morder_13 Mone_34 Mtwo_35 Mbest Mcells Mgap Mwire Mstand Mruns Mminute Mhead Mplays Mrests Mwent Mout Mcame Mgone MlastOut (by omega) (by omega) qMguest qMrow (by omega) qMbar qMfresh qMtape (by omega) (by omega) (by omega) (by omega) (by omega) (by omega) (by omega) (by omega) (by omega) (by omega) hR_17 (by omega) (by omega) qMbest (by omega) (by omega) qMwire qMstand (by omega) (by omega) qMhead qMplays qMrests qMwent qMout qMcame qMgone (by omega)) (cwV 0 hts gX8_orders_X8_nextOrder rfl rfl rfl (by decide +kernel) ⟨Nat.le_of_ble_eq_true rfl, Nat.le_of_ble_eq_true rfl⟩) ⟨zPre_blind, va_recv hK hw.1 (ci := 8) (q0 := 0) rfl rfl, z_pre hK hw [0, 1, 2, 3, 4, 5, 6, 7, 8, 9, 10, 11, 12, 13, 14, 15, 16] (by decide) rfl⟩ rfl rfl hl.1 rfl (lv_room (Nat.le_of_ble_eq_true rfl)) dX8_orders_34 ⟨Nat.zero_le _, Nat.zero_le _⟩) hw.2.2 (fun q _ h => hF9 q h) hF9 (fun r9 u9 t9 H_52 locs9 ht9 hvm9 hq9 hB9 hz9 hk9 hS9 => ?_)
      obtain ⟨r_53, Morder_54⟩ := u9
      try dsimp only at hq9 hB9
      obtain ⟨rfl, hq9⟩ := hq9
      obtain ⟨hq_55, hq_56⟩ := hq9
      have hw : HW D A s.heap (kM cI cB cZ oM 0 Mmany Mguest Mrow Mbars Mbar Mfresh Mtape Mtaped Mpos Mtoken MtokenAt Mvalue Mwrong MwrongAt MfaultKind MfaultPlace Mthing Morder_54 Mone_34 Mtwo_35 Mbest Mcells Mgap Mwire Mstand Mruns Mminute Mhead Mplays Mrests Mwent Mout Mcame Mgone MlastOut) H_52 locs9 := z_after (wc := kM cI cB cZ oM 0 Mmany Mguest Mrow Mbars Mbar Mfresh Mtape Mtaped Mpos Mtoken MtokenAt Mvalue Mwrong MwrongAt MfaultKind MfaultPlace Mthing Morder_13 Mone_34 Mtwo_35 Mbest Mcells Mgap Mwire Mstand Mruns Mminute Mhead Mplays Mrests Mwent Mout Mcame Mgone MlastOut) hw [0, 1, 2, 3, 4, 5, 6, 7, 8, 9, 10, 11, 12, 13, 14, 15, 16] [] rfl rfl (by decide) (by decide) hF9 hk9 ht9 hB9 hS9 [0, 1, 2, 3, 4, 5, 6, 7, 8, 9, 10, 11, 12, 13, 14, 15, 16] (by decide) rfl
      clear hF9 ht9 hvm9 hB9 hz9 hk9 hS9
      refine lv_istore_n (lv' := [(2, .int (zI r_53)), (1, .int (zI (c_11 + 1))), (0, .ref (oM 0))]) hx hb dX8_orders_37 rfl hl (by decide) rfl (fun ls hl => ?_)
      refine lv_goto (tgt := 13) hx hb dX8_orders_38 (by decide) ?_
      have hv_57 : (0 : Int) ≤ Mone_34 ∧ Mone_34 ≤ 8 := by
        first | assumption | omega | grind
      have hv_58 : (0 : Int) ≤ Mtwo_35 ∧ Mtwo_35 ≤ 8 := by
        first | assumption | omega | grind
      have hv_59 : enP Mmany Morder_54 r_53 (A_16 ++ [preL Morder_13 Mmany.toNat]) := by
        exact en_next (by omega) (by assumption) (by omega) (by assumption)
      have hv_60 : (c_11 + 1) = ((fil (okL ki lo sh wo on tw nu Mmany Mbars) (A_16 ++ [preL Morder_13 Mmany.toNat])).length : Int) := by
        have hok := why_ok (n := Mmany) (by omega) (by assumption : ∃ x y, whyP ki lo sh wo on tw nu Morder_13 Mmany Mbars _ x y ∧ _)
        first | (rw [fil_t (hok.mp (by omega)), List.length_append, List.length_singleton]; omega) | (rw [fil_f (fun q => absurd (hok.mpr q) (by omega))]; omega)
      have hv_61 : r_53 = 0 ∨ r_53 = 1 := by
        first | assumption | omega | grind
      have hm_62 : (ext Kp Mmany Mmany.toNat []).length - (A_16 ++ [preL Morder_13 Mmany.toNat]).length < (ext Kp Mmany Mmany.toNat []).length - A_16.length := by
        have hl9 := en_len (by assumption : enP Mmany Morder_13 more_12 A_16) (by omega)
        simp only [List.length_append, List.length_cons, List.length_nil] at hl9 ⊢
        omega
      exact ih_10 ((c_11 + 1), r_53, Morder_54, Mone_34, Mtwo_35, (A_16 ++ [preL Morder_13 Mmany.toNat])) _ _ _ ⟨hq_55, hv_57, hv_58, hv_59, hv_60, hv_61, hw, lv_sub hl [2, 1, 0] rfl⟩ hm_62
set_option maxRecDepth 100000 in
set_option maxHeartbeats 4000000 in
theorem c_X8_pick (l : Launch) (D : va_G) (cI cB cZ : ClassId) (oM : Nat → Nat) (sz : Nat) (Mthrown : Int) (Mmany : Int) (Mguest : Int → Int) (Mrow : Int → Int) (Mbars : Int) (Mbar : Int → Int) (Mfresh : Int → Int) (Mtape : Int → Int) (Mtaped : Int) (Mpos : Int) (Mtoken : Int) (MtokenAt : Int) (Mvalue : Int) (Mwrong : Int) (MwrongAt : Int) (MfaultKind : Int) (MfaultPlace : Int) (Mthing : Int) (Morder : Int → Int) (Mone : Int) (Mtwo : Int) (Mbest : Int → Int) (Mcells : Int) (Mgap : Int) (Mwire : Int → Int) (Mstand : Int → Int) (Mruns : Int) (Mminute : Int) (Mhead : Int → Int) (Mplays : Int → Int) (Mrests : Int → Int) (Mwent : Int → Int) (Mout : Int → Int) (Mcame : Int → Int) (Mgone : Int → Int) (MlastOut : Int) (k : Int) (ki : Int → Int) (le : Int → Int) (lo : Int → Int) (ta : Int → Int) (sh : Int → Int) (wo : Int → Int) (on : Int → Int) (tw : Int → Int) (nu : Int → Int) (qMthrown : 0 ≤ Mthrown ∧ Mthrown ≤ 2) (qMmany : 0 ≤ Mmany ∧ Mmany ≤ 8) (qMguest : RA Mguest (0) 9) (qMrow : RA Mrow (0) 7) (qMbars : 0 ≤ Mbars ∧ Mbars ≤ 10) (qMbar : RA Mbar (0) 104) (qMfresh : RA Mfresh (0) 104) (qMtape : RA Mtape (0) 255) (qMtaped : 0 ≤ Mtaped ∧ Mtaped ≤ 400) (qMpos : 0 ≤ Mpos ∧ Mpos ≤ 400) (qMtoken : 0 ≤ Mtoken ∧ Mtoken ≤ 15) (qMtokenAt : 0 ≤ MtokenAt ∧ MtokenAt ≤ 400) (qMvalue : 0 ≤ Mvalue ∧ Mvalue ≤ 99) (qMwrong : 0 ≤ Mwrong ∧ Mwrong ≤ 3) (qMwrongAt : 0 ≤ MwrongAt ∧ MwrongAt ≤ 400) (qMfaultKind : 0 ≤ MfaultKind ∧ MfaultKind ≤ 3) (qMfaultPlace : -1 ≤ MfaultPlace ∧ MfaultPlace ≤ 400) (qMthing : 0 ≤ Mthing ∧ Mthing ≤ 104) (qMorder : RA Morder (0) 7) (qMone : 0 ≤ Mone ∧ Mone ≤ 8) (qMtwo : 0 ≤ Mtwo ∧ Mtwo ≤ 8) (qMbest : RA Mbest (0) 7) (qMcells : 1 ≤ Mcells ∧ Mcells ≤ 50) (qMgap : 0 ≤ Mgap ∧ Mgap ≤ 3) (qMwire : RA Mwire (0) 9) (qMstand : RA Mstand (0) 9) (qMruns : 0 ≤ Mruns ∧ Mruns ≤ 1) (qMminute : 0 ≤ Mminute ∧ Mminute ≤ 1000000) (qMhead : RA Mhead (-1) 60) (qMplays : RA Mplays (0) 18) (qMrests : RA Mrests (0) 3) (qMwent : RA Mwent (0) 61) (qMout : RA Mout (0) 1) (qMcame : RA Mcame (-1) 1000000) (qMgone : RA Mgone (-1) 1000000) (qMlastOut : 0 ≤ MlastOut ∧ MlastOut ≤ 1000000) (qk : -2147483648 ≤ k ∧ k ≤ 2147483647) (hp0 : gRel Mmany ki le lo ta sh Mguest) (hp1 : bRel Mbars wo on tw nu Mbar) (hp2 : (ext Kp Mmany Mmany.toNat []).length ≤ 40320) : Met l yX8_pick wsX8_pick ({ frames := 4, cells := 0, slots := 0, locals := 94 }) (va_Pc [.ref (oM 0), .int (zI k)] (zPre D cI cB cZ sz (kM cI cB cZ oM Mthrown Mmany Mguest Mrow Mbars Mbar Mfresh Mtape Mtaped Mpos Mtoken MtokenAt Mvalue Mwrong MwrongAt MfaultKind MfaultPlace Mthing Morder Mone Mtwo Mbest Mcells Mgap Mwire Mstand Mruns Mminute Mhead Mplays Mrests Mwent Mout Mcame Mgone MlastOut))) (va_Qi (fun (r9 : Int32) (u9 : Int × Int × (Int → Int) × (Int → Int) × Int × Int × Int) => r9 = zI u9.1 ∧ (((0 : Int) ≤ u9.2.1 ∧ u9.2.1 ≤ 2) ∧ (RA u9.2.2.1 (0) 7) ∧ (RA u9.2.2.2.1 (0) 7) ∧ ((0 : Int) ≤ u9.2.2.2.2.1 ∧ u9.2.2.2.2.1 ≤ 8) ∧ ((0 : Int) ≤ u9.2.2.2.2.2.1 ∧ u9.2.2.2.2.2.1 ≤ 8) ∧ ((0 : Int) ≤ u9.2.2.2.2.2.2 ∧ u9.2.2.2.2.2.2 ≤ 1) ∧ ((0 ≤ k ∧ (fil (okL ki lo sh wo on tw nu Mmany Mbars) (ext Kp Mmany Mmany.toNat []))[k.toNat]? = some (preL u9.2.2.1 Mmany.toNat) ∧ u9.1 = 1 ∧ u9.2.2.2.2.2.2 = 0) ∨ (¬ (0 ≤ k ∧ k < ((fil (okL ki lo sh wo on tw nu Mmany Mbars) (ext Kp Mmany Mmany.toNat [])).length : Int)) ∧ u9.1 = 0 ∧ u9.2.2.1 = Mrow ∧ u9.2.2.2.2.2.2 = Mruns)) ∧ (u9.2.1 = 0))) (fun u9 t9 => zAt D cI cB cZ (va_A (kM cI cB cZ oM Mthrown Mmany Mguest Mrow Mbars Mbar Mfresh Mtape Mtaped Mpos Mtoken MtokenAt Mvalue Mwrong MwrongAt MfaultKind MfaultPlace Mthing Morder Mone Mtwo Mbest Mcells Mgap Mwire Mstand Mruns Mminute Mhead Mplays Mrests Mwent Mout Mcame Mgone MlastOut) sz) (kM cI cB cZ oM (u9.2.1) Mmany Mguest (u9.2.2.1) Mbars Mbar Mfresh Mtape Mtaped Mpos Mtoken MtokenAt Mvalue Mwrong MwrongAt MfaultKind MfaultPlace Mthing (u9.2.2.2.1) (u9.2.2.2.2.1) (u9.2.2.2.2.2.1) Mbest Mcells Mgap Mwire Mstand (u9.2.2.2.2.2.2) Mminute Mhead Mplays Mrests Mwent Mout Mcame Mgone MlastOut) t9) (va_A (kM cI cB cZ oM Mthrown Mmany Mguest Mrow Mbars Mbar Mfresh Mtape Mtaped Mpos Mtoken MtokenAt Mvalue Mwrong MwrongAt MfaultKind MfaultPlace Mthing Morder Mone Mtwo Mbest Mcells Mgap Mwire Mstand Mruns Mminute Mhead Mplays Mrests Mwent Mout Mcame Mgone MlastOut) sz)) 0 0 (va_A (kM cI cB cZ oM Mthrown Mmany Mguest Mrow Mbars Mbar Mfresh Mtape Mtaped Mpos Mtoken MtokenAt Mvalue Mwrong MwrongAt MfaultKind MfaultPlace Mthing Morder Mone Mtwo Mbest Mcells Mgap Mwire Mstand Mruns Mminute Mhead Mplays Mrests Mwent Mout Mcame Mgone MlastOut) sz) := by
  refine Met.ofW (cc := cX8_pick) (maxL := 4) (ret := (some .boolean)) (by decide) rfl ?_
  intro pp ee s mm aa bw mt cd s₁ BL hml hv
  obtain ⟨rfl, hsz, hP, hK, hD0⟩ := hv
  have hx := BL.exec
  have hb := BL.bytes
  have hr := BL.returns
  have hts := atoms_spec (ws := wsX8_pick) BL.pre
  have hown : s.vm.findClass RX8 = some mm.cls := findClass_of_methodNamed BL.named
  have hlocks := BL.notSynchronized
  subst hsz
  generalize hAe : va_A (kM cI cB cZ oM Mthrown Mmany Mguest Mrow Mbars Mbar Mfresh Mtape Mtaped Mpos Mtoken MtokenAt Mvalue Mwrong MwrongAt MfaultKind MfaultPlace Mthing Morder Mone Mtwo Mbest Mcells Mgap Mwire Mstand Mruns Mminute Mhead Mplays Mrests Mwent Mout Mcame Mgone MlastOut) s.heap.size = A
  have hA : ∀ q : Nat, s.heap.size ≤ q → A q := fun q h => by rw [← hAe]; exact Or.inr h
  have hw : HW D A s.heap (kM cI cB cZ oM Mthrown Mmany Mguest Mrow Mbars Mbar Mfresh Mtape Mtaped Mpos Mtoken MtokenAt Mvalue Mwrong MwrongAt MfaultKind MfaultPlace Mthing Morder Mone Mtwo Mbest Mcells Mgap Mwire Mstand Mruns Mminute Mhead Mplays Mrests Mwent Mout Mcame Mgone MlastOut) s.heap [] := z_start hAe hP hD0
  clear hP hD0
  have hl := lv_entry ([.ref (oM 0), .int (zI k)]) (n := 4) (Nat.le_of_ble_eq_true rfl)
  rw [lg_entry_eq]
  generalize (lg_sl ([.ref (oM 0), .int (zI k)]) ++ List.replicate (4 - (lg_sl ([.ref (oM 0), .int (zI k)])).length) Slot.unset).toArray = ls at hl ⊢
  have hl : lv_has ls 4 [(0, .ref (oM 0)), (1, .int (zI k))] := hl
  have hinX8 : ∀ w ∈ wsX80, w ∈ wsX8_pick := by decide +kernel
  refine lv_aload_n hx hb dX8_pick_0 rfl (lv_at hl 0 rfl) ?_
  refine z_iconst hx hb dX8_pick_1 ?_
  refine z_put (D := D) (ci := 8) (v := .int (zI 0)) (ty := .int) (C := RX8) (T := TX8) (N := 36) (ws2 := kM cI cB cZ oM 0 Mmany Mguest Mrow Mbars Mbar Mfresh Mtape Mtaped Mpos Mtoken MtokenAt Mvalue Mwrong MwrongAt MfaultKind MfaultPlace Mthing Morder Mone Mtwo Mbest Mcells Mgap Mwire Mstand Mruns Mminute Mhead Mplays Mrests Mwent Mout Mcame Mgone MlastOut) hx hb hts hinX8 tyX8 tyX8_ok nmX8 hown hK hw 0 rfl rfl 0 (by decide) (hts (.fieldLink RX8 69 "CarnivalRoadModel" "thrown" "I") (by decide +kernel)) (fun _ h9 => h9) rfl (by decide +kernel) rfl rfl (Nat.le_of_ble_eq_true rfl) dX8_pick_2 rfl (fun H locs hw => ?_)
  refine lv_aload_n hx hb dX8_pick_5 rfl (lv_at hl 0 rfl) ?_
  have hF9 := z_free (wc := kM cI cB cZ oM 0 Mmany Mguest Mrow Mbars Mbar Mfresh Mtape Mtaped Mpos Mtoken MtokenAt Mvalue Mwrong MwrongAt MfaultKind MfaultPlace Mthing Morder Mone Mtwo Mbest Mcells Mgap Mwire Mstand Mruns Mminute Mhead Mplays Mrests Mwent Mout Mcame Mgone MlastOut) hw hA [0, 1, 2, 3, 4, 5, 6, 7, 8, 9, 10, 11, 12, 13, 14, 15, 16] rfl
  refine va_callv (va_runV (As := []) (rest := []) ⟨hx, hb, hml, hown, hts⟩ (c_X8_firstOrder l D cI cB cZ oM H.size 0 Mmany Mguest Mrow Mbars Mbar Mfresh Mtape Mtaped Mpos Mtoken MtokenAt Mvalue Mwrong MwrongAt MfaultKind MfaultPlace Mthing Morder Mone Mtwo Mbest Mcells Mgap Mwire Mstand Mruns Mminute Mhead Mplays Mrests Mwent Mout Mcame Mgone MlastOut (by omega) (by omega) qMguest qMrow (by omega) qMbar qMfresh qMtape (by omega) (by omega) (by omega) (by omega) (by omega) (by omega) (by omega) (by omega) (by omega) (by omega) qMorder (by omega) (by omega) qMbest (by omega) (by omega) qMwire qMstand (by omega) (by omega) qMhead qMplays qMrests qMwent qMout qMcame qMgone (by omega)) (cwV 0 hts gX8_pick_X8_firstOrder rfl rfl rfl (by decide +kernel) ⟨Nat.le_of_ble_eq_true rfl, Nat.le_of_ble_eq_true rfl⟩) ⟨zPre_blind, va_recv hK hw.1 (ci := 8) (q0 := 0) rfl rfl, z_pre hK hw [0, 1, 2, 3, 4, 5, 6, 7, 8, 9, 10, 11, 12, 13, 14, 15, 16] (by decide) rfl⟩ rfl rfl hl.1 rfl (lv_room (Nat.le_of_ble_eq_true rfl)) dX8_pick_6 ⟨Nat.zero_le _, Nat.zero_le _⟩) hw.2.2 (fun q _ h => hF9 q h) hF9 (fun u9 t9 H_1 locs9 ht9 hvm9 hq9 hB9 hz9 hk9 hS9 => ?_)
  obtain ⟨Morder_2, rfl⟩ : ∃ z, z = u9 := ⟨_, rfl⟩
  try dsimp only at hq9 hB9
  obtain ⟨hq_3, hq_4⟩ := hq9
  have hw : HW D A s.heap (kM cI cB cZ oM 0 Mmany Mguest Mrow Mbars Mbar Mfresh Mtape Mtaped Mpos Mtoken MtokenAt Mvalue Mwrong MwrongAt MfaultKind MfaultPlace Mthing Morder_2 Mone Mtwo Mbest Mcells Mgap Mwire Mstand Mruns Mminute Mhead Mplays Mrests Mwent Mout Mcame Mgone MlastOut) H_1 locs9 := z_after (wc := kM cI cB cZ oM 0 Mmany Mguest Mrow Mbars Mbar Mfresh Mtape Mtaped Mpos Mtoken MtokenAt Mvalue Mwrong MwrongAt MfaultKind MfaultPlace Mthing Morder Mone Mtwo Mbest Mcells Mgap Mwire Mstand Mruns Mminute Mhead Mplays Mrests Mwent Mout Mcame Mgone MlastOut) hw [0, 1, 2, 3, 4, 5, 6, 7, 8, 9, 10, 11, 12, 13, 14, 15, 16] [] rfl rfl (by decide) (by decide) hF9 hk9 ht9 hB9 hS9 [0, 1, 2, 3, 4, 5, 6, 7, 8, 9, 10, 11, 12, 13, 14, 15, 16] (by decide) rfl
  clear hF9 ht9 hvm9 hB9 hz9 hk9 hS9
  refine z_iconst hx hb dX8_pick_9 ?_
  refine lv_istore_n (lv' := [(2, .int (zI 0)), (0, .ref (oM 0)), (1, .int (zI k))]) hx hb dX8_pick_10 rfl hl (by decide) rfl (fun ls hl => ?_)
  refine lv_iload_n hx hb dX8_pick_11 rfl (lv_at hl 2 rfl) ?_
  refine z_if_lt (tgt := 19) hx hb dX8_pick_12 (by decide) (by omega) (fun hc_5 => ?_) (fun hc_5 => ?_)
  · skip
    refine z_iconst hx hb dX8_pick_19 ?_
    refine lv_istore_n (lv' := [(3, .int (zI 0)), (2, .int (zI 0)), (0, .ref (oM 0)), (1, .int (zI k))]) hx hb dX8_pick_20 rfl hl (by decide) rfl (fun ls hl => ?_)
    have hv_6 : (0 : Int) ≤ Mone ∧ Mone ≤ 8 := by
      first | assumption | omega | grind
    have hv_7 : (0 : Int) ≤ Mtwo ∧ Mtwo ≤ 8 := by
      first | assumption | omega | grind
    have hv_8 : (k < 0 ∧ (0 : Int) = 0) ∨ (0 ≤ k ∧ enP Mmany Morder_2 (0 : Int) ([])) := by
      first | exact Or.inl ⟨by omega, rfl⟩ | exact Or.inr ⟨by omega, en_first (by omega) (by assumption)⟩
    have hv_9 : (0 : Int) = ((fil (okL ki lo sh wo on tw nu Mmany Mbars) ([])).length : Int) := by
      rfl
    have hv_10 : 0 ≤ k → (0 : Int) ≤ k := by
      intro q; omega
    have hv_11 : (0 : Int) = 0 ∨ (0 : Int) = 1 := by
      first | assumption | omega | grind
    refine z_loop (σ := Int × Int × (Int → Int) × Int × Int × List (List Int)) (μ := fun x9 => (ext Kp Mmany Mmany.toNat []).length - x9.2.2.2.2.2.length) (I := fun x9 H locs ls => (RA (x9.2.2.1) (0) 7) ∧ ((0 : Int) ≤ (x9.2.2.2.1) ∧ (x9.2.2.2.1) ≤ 8) ∧ ((0 : Int) ≤ (x9.2.2.2.2.1) ∧ (x9.2.2.2.2.1) ≤ 8) ∧ ((k < 0 ∧ (x9.2.1) = 0) ∨ (0 ≤ k ∧ enP Mmany (x9.2.2.1) (x9.2.1) x9.2.2.2.2.2)) ∧ ((x9.1) = ((fil (okL ki lo sh wo on tw nu Mmany Mbars) x9.2.2.2.2.2).length : Int)) ∧ (0 ≤ k → (x9.1) ≤ k) ∧ ((x9.2.1) = 0 ∨ (x9.2.1) = 1) ∧ HW D A s.heap (kM cI cB cZ oM 0 Mmany Mguest Mrow Mbars Mbar Mfresh Mtape Mtaped Mpos Mtoken MtokenAt Mvalue Mwrong MwrongAt MfaultKind MfaultPlace Mthing (x9.2.2.1) (x9.2.2.2.1) (x9.2.2.2.2.1) Mbest Mcells Mgap Mwire Mstand Mruns Mminute Mhead Mplays Mrests Mwent Mout Mcame Mgone MlastOut) H locs ∧ lv_has ls 4 [(0, .ref (oM 0)), (1, .int (zI k)), (2, .int (zI (x9.1))), (3, .int (zI (x9.2.1)))]) (0, 0, Morder_2, Mone, Mtwo, ([])) ⟨hq_3, hv_6, hv_7, hv_8, hv_9, hv_10, hv_11, hw, lv_sub hl [2, 3, 1, 0] rfl⟩ ?_
    clear hw hl
    intro x9 H locs ls hI ih_12
    obtain ⟨c_13, more_14, Morder_15, Mone_16, Mtwo_17, A_18⟩ := x9
    try dsimp only at hI
    obtain ⟨hR_19, hq_20, hq_21, hI_22, hI_23, hI_24, hI_25, hw, hl⟩ := hI
    refine lv_iload_n hx hb dX8_pick_21 rfl (lv_at hl 3 rfl) ?_
    refine z_if_eq (tgt := 55) hx hb dX8_pick_22 (by decide) (by omega) (fun hc_26 => ?_) (fun hc_26 => ?_)
    · skip
      refine z_iconst hx hb dX8_pick_55 ?_
      have hv_27 : (0 : Int) ≤ (0 : Int) ∧ (0 : Int) ≤ 2 := by
        first | assumption | omega | grind
      have hv_28 : (0 : Int) ≤ Mone_16 ∧ Mone_16 ≤ 8 := by
        first | assumption | omega | grind
      have hv_29 : (0 : Int) ≤ Mtwo_17 ∧ Mtwo_17 ≤ 8 := by
        first | assumption | omega | grind
      have hv_30 : (0 : Int) ≤ Mruns ∧ Mruns ≤ 1 := by
        first | assumption | omega | grind
      have hv_31 : (0 ≤ k ∧ (fil (okL ki lo sh wo on tw nu Mmany Mbars) (ext Kp Mmany Mmany.toNat []))[k.toNat]? = some (preL Mrow Mmany.toNat) ∧ (0 : Int) = 1 ∧ Mruns = 0) ∨ (¬ (0 ≤ k ∧ k < ((fil (okL ki lo sh wo on tw nu Mmany Mbars) (ext Kp Mmany Mmany.toNat [])).length : Int)) ∧ (0 : Int) = 0 ∧ Mrow = Mrow ∧ Mruns = Mruns) := by
        refine Or.inr ⟨fun q => ?_, rfl, rfl, rfl⟩
        have he9 : enP Mmany Morder_15 more_14 A_18 := ((by assumption : (k < 0 ∧ more_14 = 0) ∨ (0 ≤ k ∧ enP Mmany Morder_15 more_14 A_18)).resolve_left (by omega)).2
        rw [en_done he9 (by omega)] at q
        have q9 := (by assumption : 0 ≤ k → c_13 ≤ k) q.1
        omega
      have hv_32 : (0 : Int) = 0 := by
        rfl
      exact W.zret (v := zI 0) hx hb hr rfl (fun t9 ht hW => ⟨⟨zI 0, (0, 0, Mrow, Morder_15, Mone_16, Mtwo_17, Mruns), rfl, ⟨rfl, ⟨hv_27, qMrow, hR_19, hv_28, hv_29, hv_30, hv_31, hv_32⟩⟩, by subst hAe; exact z_end hK hw ht hW⟩, by subst hAe; exact hw.2.2.F ht⟩) (by subst hAe; exact hw.2.2.2.2) dX8_pick_56
    · skip
      refine lv_aload_n hx hb dX8_pick_25 rfl (lv_at hl 0 rfl) ?_
      have hpre_33 : gRel Mmany ki le lo ta sh Mguest := by
        first | assumption | omega | grind
      have hpre_34 : bRel Mbars wo on tw nu Mbar := by
        first | assumption | omega | grind
      have hpre_35 : ∀ i, 0 ≤ i → i < Mmany → 0 ≤ Morder_15 i ∧ Morder_15 i < Mmany := by
        have he9 : enP Mmany Morder_15 more_14 A_18 := ((by assumption : (k < 0 ∧ more_14 = 0) ∨ (0 ≤ k ∧ enP Mmany Morder_15 more_14 A_18)).resolve_left (by omega)).2
        exact fun i i0 i1 => (en_perm he9 (by omega)).1 i i0 i1
      have hF9 := z_free (wc := kM cI cB cZ oM 0 Mmany Mguest Mrow Mbars Mbar Mfresh Mtape Mtaped Mpos Mtoken MtokenAt Mvalue Mwrong MwrongAt MfaultKind MfaultPlace Mthing Morder_15 Mone_16 Mtwo_17 Mbest Mcells Mgap Mwire Mstand Mruns Mminute Mhead Mplays Mrests Mwent Mout Mcame Mgone MlastOut) hw hA [0, 1, 2, 3, 4, 5, 6, 7, 8, 9, 10, 11, 12, 13, 14, 15, 16] rfl
      refine va_calli (va_runV (As := []) (rest := []) ⟨hx, hb, hml, hown, hts⟩ (c_X8_broken l D cI cB cZ oM H.size 0 Mmany Mguest Mrow Mbars Mbar Mfresh Mtape Mtaped Mpos Mtoken MtokenAt Mvalue Mwrong MwrongAt MfaultKind MfaultPlace Mthing Morder_15 Mone_16 Mtwo_17 Mbest Mcells Mgap Mwire Mstand Mruns Mminute Mhead Mplays Mrests Mwent Mout Mcame Mgone MlastOut ki le lo ta sh wo on tw nu (by omega) (by omega) qMguest qMrow (by omega) qMbar qMfresh qMtape (by omega) (by omega) (by omega) (by omega) (by omega) (by omega) (by omega) (by omega) (by omega) (by omega) hR_19 (by omega) (by omega) qMbest (by omega) (by omega) qMwire qMstand (by omega) (by omega) qMhead qMplays qMrests qMwent qMout qMcame qMgone (by omega) hpre_33 hpre_34 hpre_35) (cwV 0 hts gX8_pick_X8_broken rfl rfl rfl (by decide +kernel) ⟨Nat.le_of_ble_eq_true rfl, Nat.le_of_ble_eq_true rfl⟩) ⟨zPre_blind, va_recv hK hw.1 (ci := 8) (q0 := 0) rfl rfl, z_pre hK hw [0, 1, 2, 3, 4, 5, 6, 7, 8, 9, 10, 11, 12, 13, 14, 15, 16] (by decide) rfl⟩ rfl rfl hl.1 rfl (lv_room (Nat.le_of_ble_eq_true rfl)) dX8_pick_26 ⟨Nat.zero_le _, Nat.zero_le _⟩) hw.2.2 (fun q _ h => hF9 q h) hF9 (fun r9 u9 t9 H_36 locs9 ht9 hvm9 hq9 hB9 hz9 hk9 hS9 => ?_)
      obtain ⟨r_37, Mone_38, Mtwo_39⟩ := u9
      try dsimp only at hq9 hB9
      obtain ⟨rfl, hq9⟩ := hq9
      obtain ⟨hq_40, hq_41, hq_42, hq_43⟩ := hq9
      have hw : HW D A s.heap (kM cI cB cZ oM 0 Mmany Mguest Mrow Mbars Mbar Mfresh Mtape Mtaped Mpos Mtoken MtokenAt Mvalue Mwrong MwrongAt MfaultKind MfaultPlace Mthing Morder_15 Mone_38 Mtwo_39 Mbest Mcells Mgap Mwire Mstand Mruns Mminute Mhead Mplays Mrests Mwent Mout Mcame Mgone MlastOut) H_36 locs9 := z_after (wc := kM cI cB cZ oM 0 Mmany Mguest Mrow Mbars Mbar Mfresh Mtape Mtaped Mpos Mtoken MtokenAt Mvalue Mwrong MwrongAt MfaultKind MfaultPlace Mthing Morder_15 Mone_16 Mtwo_17 Mbest Mcells Mgap Mwire Mstand Mruns Mminute Mhead Mplays Mrests Mwent Mout Mcame Mgone MlastOut) hw [0, 1, 2, 3, 4, 5, 6, 7, 8, 9, 10, 11, 12, 13, 14, 15, 16] [] rfl rfl (by decide) (by decide) hF9 hk9 ht9 hB9 hS9 [0, 1, 2, 3, 4, 5, 6, 7, 8, 9, 10, 11, 12, 13, 14, 15, 16] (by decide) rfl
      clear hF9 ht9 hvm9 hB9 hz9 hk9 hS9
      refine z_iconst hx hb dX8_pick_29 ?_
      refine z_icmp_ne (tgt := 47) hx hb dX8_pick_30 (by decide) (by omega) (fun hc_44 => ?_) (fun hc_44 => ?_)
      · skip
        refine lv_aload_n hx hb dX8_pick_47 rfl (lv_at hl 0 rfl) ?_
        have hF9 := z_free (wc := kM cI cB cZ oM 0 Mmany Mguest Mrow Mbars Mbar Mfresh Mtape Mtaped Mpos Mtoken MtokenAt Mvalue Mwrong MwrongAt MfaultKind MfaultPlace Mthing Morder_15 Mone_38 Mtwo_39 Mbest Mcells Mgap Mwire Mstand Mruns Mminute Mhead Mplays Mrests Mwent Mout Mcame Mgone MlastOut) hw hA [0, 1, 2, 3, 4, 5, 6, 7, 8, 9, 10, 11, 12, 13, 14, 15, 16] rfl
        refine va_calli (va_runV (As := []) (rest := []) ⟨hx, hb, hml, hown, hts⟩ (c_X8_nextOrder l D cI cB cZ oM H_36.size 0 Mmany Mguest Mrow Mbars Mbar Mfresh Mtape Mtaped Mpos Mtoken MtokenAt Mvalue Mwrong MwrongAt MfaultKind MfaultPlace Mthing Morder_15 Mone_38 Mtwo_39 Mbest Mcells Mgap Mwire Mstand Mruns Mminute Mhead Mplays Mrests Mwent Mout Mcame Mgone MlastOut (by omega) (by omega) qMguest qMrow (by omega) qMbar qMfresh qMtape (by omega) (by omega) (by omega) (by omega) (by omega) (by omega) (by omega) (by omega) (by omega) (by omega) hR_19 (by omega) (by omega) qMbest (by omega) (by omega) qMwire qMstand (by omega) (by omega) qMhead qMplays qMrests qMwent qMout qMcame qMgone (by omega)) (cwV 0 hts gX8_pick_X8_nextOrder rfl rfl rfl (by decide +kernel) ⟨Nat.le_of_ble_eq_true rfl, Nat.le_of_ble_eq_true rfl⟩) ⟨zPre_blind, va_recv hK hw.1 (ci := 8) (q0 := 0) rfl rfl, z_pre hK hw [0, 1, 2, 3, 4, 5, 6, 7, 8, 9, 10, 11, 12, 13, 14, 15, 16] (by decide) rfl⟩ rfl rfl hl.1 rfl (lv_room (Nat.le_of_ble_eq_true rfl)) dX8_pick_48 ⟨Nat.zero_le _, Nat.zero_le _⟩) hw.2.2 (fun q _ h => hF9 q h) hF9 (fun r9 u9 t9 H_45 locs9 ht9 hvm9 hq9 hB9 hz9 hk9 hS9 => ?_)
        obtain ⟨r_46, Morder_47⟩ := u9
        try dsimp only at hq9 hB9
        obtain ⟨rfl, hq9⟩ := hq9
        obtain ⟨hq_48, hq_49⟩ := hq9
        have hw : HW D A s.heap (kM cI cB cZ oM 0 Mmany Mguest Mrow Mbars Mbar Mfresh Mtape Mtaped Mpos Mtoken MtokenAt Mvalue Mwrong MwrongAt MfaultKind MfaultPlace Mthing Morder_47 Mone_38 Mtwo_39 Mbest Mcells Mgap Mwire Mstand Mruns Mminute Mhead Mplays Mrests Mwent Mout Mcame Mgone MlastOut) H_45 locs9 := z_after (wc := kM cI cB cZ oM 0 Mmany Mguest Mrow Mbars Mbar Mfresh Mtape Mtaped Mpos Mtoken MtokenAt Mvalue Mwrong MwrongAt MfaultKind MfaultPlace Mthing Morder_15 Mone_38 Mtwo_39 Mbest Mcells Mgap Mwire Mstand Mruns Mminute Mhead Mplays Mrests Mwent Mout Mcame Mgone MlastOut) hw [0, 1, 2, 3, 4, 5, 6, 7, 8, 9, 10, 11, 12, 13, 14, 15, 16] [] rfl rfl (by decide) (by decide) hF9 hk9 ht9 hB9 hS9 [0, 1, 2, 3, 4, 5, 6, 7, 8, 9, 10, 11, 12, 13, 14, 15, 16] (by decide) rfl
        clear hF9 ht9 hvm9 hB9 hz9 hk9 hS9
        refine lv_istore_n (lv' := [(3, .int (zI r_46)), (0, .ref (oM 0)), (1, .int (zI k)), (2, .int (zI c_13))]) hx hb dX8_pick_51 rfl hl (by decide) rfl (fun ls hl => ?_)
        refine lv_goto (tgt := 21) hx hb dX8_pick_52 (by decide) ?_
        have hv_50 : (0 : Int) ≤ Mone_38 ∧ Mone_38 ≤ 8 := by
          first | assumption | omega | grind
        have hv_51 : (0 : Int) ≤ Mtwo_39 ∧ Mtwo_39 ≤ 8 := by
          first | assumption | omega | grind
        have hv_52 : (k < 0 ∧ r_46 = 0) ∨ (0 ≤ k ∧ enP Mmany Morder_47 r_46 (A_18 ++ [preL Morder_15 Mmany.toNat])) := by
          have he9 : enP Mmany Morder_15 more_14 A_18 := ((by assumption : (k < 0 ∧ more_14 = 0) ∨ (0 ≤ k ∧ enP Mmany Morder_15 more_14 A_18)).resolve_left (by omega)).2
          exact Or.inr ⟨by omega, en_next (by omega) he9 (by omega) (by assumption)⟩
        have hv_53 : c_13 = ((fil (okL ki lo sh wo on tw nu Mmany Mbars) (A_18 ++ [preL Morder_15 Mmany.toNat])).length : Int) := by
          have hok := why_ok (n := Mmany) (by omega) (by assumption : ∃ x y, whyP ki lo sh wo on tw nu Morder_15 Mmany Mbars _ x y ∧ _)
          first | (rw [fil_t (hok.mp (by omega)), List.length_append, List.length_singleton]; omega) | (rw [fil_f (fun q => absurd (hok.mpr q) (by omega))]; omega)
        have hv_54 : 0 ≤ k → c_13 ≤ k := by
          intro q; omega
        have hv_55 : r_46 = 0 ∨ r_46 = 1 := by
          first | assumption | omega | grind
        have hm_56 : (ext Kp Mmany Mmany.toNat []).length - (A_18 ++ [preL Morder_15 Mmany.toNat]).length < (ext Kp Mmany Mmany.toNat []).length - A_18.length := by
          have he9 : enP Mmany Morder_15 more_14 A_18 := ((by assumption : (k < 0 ∧ more_14 = 0) ∨ (0 ≤ k ∧ enP Mmany Morder_15 more_14 A_18)).resolve_left (by omega)).2
          have hl9 := en_len he9 (by omega)
          simp only [List.length_append, List.length_cons, List.length_nil] at hl9 ⊢
          omega
        exact ih_12 (c_13, r_46, Morder_47, Mone_38, Mtwo_39, (A_18 ++ [preL Morder_15 Mmany.toNat])) _ _ _ ⟨hq_48, hv_50, hv_51, hv_52, hv_53, hv_54, hv_55, hw, lv_sub hl [1, 2, 3, 0] rfl⟩ hm_56
      · skip
        refine lv_iload_n hx hb dX8_pick_33 rfl (lv_at hl 2 rfl) ?_
        refine lv_iload_n hx hb dX8_pick_34 rfl (lv_at hl 1 rfl) ?_
        refine z_icmp_ne (tgt := 44) hx hb dX8_pick_35 (by decide) (by omega) (fun hc_57 => ?_) (fun hc_57 => ?_)
        · skip
          refine z_iinc (k := 2) (lv' := [(2, .int (zI (c_13 + 1))), (0, .ref (oM 0)), (1, .int (zI k)), (3, .int (zI more_14))]) hx hb dX8_pick_44 hl rfl (by decide) rfl (fun ls hl => ?_)
          refine lv_aload_n hx hb dX8_pick_47 rfl (lv_at hl 1 rfl) ?_
          have hF9 := z_free (wc := kM cI cB cZ oM 0 Mmany Mguest Mrow Mbars Mbar Mfresh Mtape Mtaped Mpos Mtoken MtokenAt Mvalue Mwrong MwrongAt MfaultKind MfaultPlace Mthing Morder_15 Mone_38 Mtwo_39 Mbest Mcells Mgap Mwire Mstand Mruns Mminute Mhead Mplays Mrests Mwent Mout Mcame Mgone MlastOut) hw hA [0, 1, 2, 3, 4, 5, 6, 7, 8, 9, 10, 11, 12, 13, 14, 15, 16] rfl
          refine va_calli (va_runV (As := []) (rest := []) ⟨hx, hb, hml, hown, hts⟩ (c_X8_nextOrder l D cI cB cZ oM H_36.size 0 Mmany Mguest Mrow Mbars Mbar Mfresh Mtape Mtaped Mpos Mtoken MtokenAt Mvalue Mwrong MwrongAt MfaultKind MfaultPlace Mthing Morder_15 Mone_38 Mtwo_39 Mbest Mcells Mgap Mwire Mstand Mruns Mminute Mhead Mplays Mrests Mwent Mout Mcame Mgone MlastOut (by omega) (by omega) qMguest qMrow (by omega) qMbar qMfresh qMtape (by omega) (by omega) (by omega) (by omega) (by omega) (by omega) (by omega) (by omega) (by omega) (by omega) hR_19 (by omega) (by omega) qMbest (by omega) (by omega) qMwire qMstand (by omega) (by omega) qMhead qMplays qMrests qMwent qMout qMcame qMgone (by omega)) (cwV 0 hts gX8_pick_X8_nextOrder rfl rfl rfl (by decide +kernel) ⟨Nat.le_of_ble_eq_true rfl, Nat.le_of_ble_eq_true rfl⟩) ⟨zPre_blind, va_recv hK hw.1 (ci := 8) (q0 := 0) rfl rfl, z_pre hK hw [0, 1, 2, 3, 4, 5, 6, 7, 8, 9, 10, 11, 12, 13, 14, 15, 16] (by decide) rfl⟩ rfl rfl hl.1 rfl (lv_room (Nat.le_of_ble_eq_true rfl)) dX8_pick_48 ⟨Nat.zero_le _, Nat.zero_le _⟩) hw.2.2 (fun q _ h => hF9 q h) hF9 (fun r9 u9 t9 H_58 locs9 ht9 hvm9 hq9 hB9 hz9 hk9 hS9 => ?_)
          obtain ⟨r_59, Morder_60⟩ := u9
          try dsimp only at hq9 hB9
          obtain ⟨rfl, hq9⟩ := hq9
          obtain ⟨hq_61, hq_62⟩ := hq9
          have hw : HW D A s.heap (kM cI cB cZ oM 0 Mmany Mguest Mrow Mbars Mbar Mfresh Mtape Mtaped Mpos Mtoken MtokenAt Mvalue Mwrong MwrongAt MfaultKind MfaultPlace Mthing Morder_60 Mone_38 Mtwo_39 Mbest Mcells Mgap Mwire Mstand Mruns Mminute Mhead Mplays Mrests Mwent Mout Mcame Mgone MlastOut) H_58 locs9 := z_after (wc := kM cI cB cZ oM 0 Mmany Mguest Mrow Mbars Mbar Mfresh Mtape Mtaped Mpos Mtoken MtokenAt Mvalue Mwrong MwrongAt MfaultKind MfaultPlace Mthing Morder_15 Mone_38 Mtwo_39 Mbest Mcells Mgap Mwire Mstand Mruns Mminute Mhead Mplays Mrests Mwent Mout Mcame Mgone MlastOut) hw [0, 1, 2, 3, 4, 5, 6, 7, 8, 9, 10, 11, 12, 13, 14, 15, 16] [] rfl rfl (by decide) (by decide) hF9 hk9 ht9 hB9 hS9 [0, 1, 2, 3, 4, 5, 6, 7, 8, 9, 10, 11, 12, 13, 14, 15, 16] (by decide) rfl
          clear hF9 ht9 hvm9 hB9 hz9 hk9 hS9
          refine lv_istore_n (lv' := [(3, .int (zI r_59)), (2, .int (zI (c_13 + 1))), (0, .ref (oM 0)), (1, .int (zI k))]) hx hb dX8_pick_51 rfl hl (by decide) rfl (fun ls hl => ?_)
          refine lv_goto (tgt := 21) hx hb dX8_pick_52 (by decide) ?_
          have hv_63 : (0 : Int) ≤ Mone_38 ∧ Mone_38 ≤ 8 := by
            first | assumption | omega | grind
          have hv_64 : (0 : Int) ≤ Mtwo_39 ∧ Mtwo_39 ≤ 8 := by
            first | assumption | omega | grind
          have hv_65 : (k < 0 ∧ r_59 = 0) ∨ (0 ≤ k ∧ enP Mmany Morder_60 r_59 (A_18 ++ [preL Morder_15 Mmany.toNat])) := by
            have he9 : enP Mmany Morder_15 more_14 A_18 := ((by assumption : (k < 0 ∧ more_14 = 0) ∨ (0 ≤ k ∧ enP Mmany Morder_15 more_14 A_18)).resolve_left (by omega)).2
            exact Or.inr ⟨by omega, en_next (by omega) he9 (by omega) (by assumption)⟩
          have hv_66 : (c_13 + 1) = ((fil (okL ki lo sh wo on tw nu Mmany Mbars) (A_18 ++ [preL Morder_15 Mmany.toNat])).length : Int) := by
            have hok := why_ok (n := Mmany) (by omega) (by assumption : ∃ x y, whyP ki lo sh wo on tw nu Morder_15 Mmany Mbars _ x y ∧ _)
            first | (rw [fil_t (hok.mp (by omega)), List.length_append, List.length_singleton]; omega) | (rw [fil_f (fun q => absurd (hok.mpr q) (by omega))]; omega)
          have hv_67 : 0 ≤ k → (c_13 + 1) ≤ k := by
            intro q; omega
          have hv_68 : r_59 = 0 ∨ r_59 = 1 := by
            first | assumption | omega | grind
          have hm_69 : (ext Kp Mmany Mmany.toNat []).length - (A_18 ++ [preL Morder_15 Mmany.toNat]).length < (ext Kp Mmany Mmany.toNat []).length - A_18.length := by
            have he9 : enP Mmany Morder_15 more_14 A_18 := ((by assumption : (k < 0 ∧ more_14 = 0) ∨ (0 ≤ k ∧ enP Mmany Morder_15 more_14 A_18)).resolve_left (by omega)).2
            have hl9 := en_len he9 (by omega)
            simp only [List.length_append, List.length_cons, List.length_nil] at hl9 ⊢
            omega
          exact ih_12 ((c_13 + 1), r_59, Morder_60, Mone_38, Mtwo_39, (A_18 ++ [preL Morder_15 Mmany.toNat])) _ _ _ ⟨hq_61, hv_63, hv_64, hv_65, hv_66, hv_67, hv_68, hw, lv_sub hl [2, 3, 1, 0] rfl⟩ hm_69
        · skip
          refine lv_aload_n hx hb dX8_pick_38 rfl (lv_at hl 0 rfl) ?_
          have hF9 := z_free (wc := kM cI cB cZ oM 0 Mmany Mguest Mrow Mbars Mbar Mfresh Mtape Mtaped Mpos Mtoken MtokenAt Mvalue Mwrong MwrongAt MfaultKind MfaultPlace Mthing Morder_15 Mone_38 Mtwo_39 Mbest Mcells Mgap Mwire Mstand Mruns Mminute Mhead Mplays Mrests Mwent Mout Mcame Mgone MlastOut) hw hA [0, 1, 2, 3, 4, 5, 6, 7, 8, 9, 10, 11, 12, 13, 14, 15, 16] rfl
          refine va_callv (va_runV (As := []) (rest := []) ⟨hx, hb, hml, hown, hts⟩ (c_X8_becomes l D cI cB cZ oM H_36.size 0 Mmany Mguest Mrow Mbars Mbar Mfresh Mtape Mtaped Mpos Mtoken MtokenAt Mvalue Mwrong MwrongAt MfaultKind MfaultPlace Mthing Morder_15 Mone_38 Mtwo_39 Mbest Mcells Mgap Mwire Mstand Mruns Mminute Mhead Mplays Mrests Mwent Mout Mcame Mgone MlastOut (by omega) (by omega) qMguest qMrow (by omega) qMbar qMfresh qMtape (by omega) (by omega) (by omega) (by omega) (by omega) (by omega) (by omega) (by omega) (by omega) (by omega) hR_19 (by omega) (by omega) qMbest (by omega) (by omega) qMwire qMstand (by omega) (by omega) qMhead qMplays qMrests qMwent qMout qMcame qMgone (by omega)) (cwV 0 hts gX8_pick_X8_becomes rfl rfl rfl (by decide +kernel) ⟨Nat.le_of_ble_eq_true rfl, Nat.le_of_ble_eq_true rfl⟩) ⟨zPre_blind, va_recv hK hw.1 (ci := 8) (q0 := 0) rfl rfl, z_pre hK hw [0, 1, 2, 3, 4, 5, 6, 7, 8, 9, 10, 11, 12, 13, 14, 15, 16] (by decide) rfl⟩ rfl rfl hl.1 rfl (lv_room (Nat.le_of_ble_eq_true rfl)) dX8_pick_39 ⟨Nat.zero_le _, Nat.zero_le _⟩) hw.2.2 (fun q _ h => hF9 q h) hF9 (fun u9 t9 H_70 locs9 ht9 hvm9 hq9 hB9 hz9 hk9 hS9 => ?_)
          obtain ⟨Mrow_71, Mruns_72⟩ := u9
          try dsimp only at hq9 hB9
          obtain ⟨hq_73, hq_74, hq_75, hq_76⟩ := hq9
          have hw : HW D A s.heap (kM cI cB cZ oM 0 Mmany Mguest Mrow_71 Mbars Mbar Mfresh Mtape Mtaped Mpos Mtoken MtokenAt Mvalue Mwrong MwrongAt MfaultKind MfaultPlace Mthing Morder_15 Mone_38 Mtwo_39 Mbest Mcells Mgap Mwire Mstand Mruns_72 Mminute Mhead Mplays Mrests Mwent Mout Mcame Mgone MlastOut) H_70 locs9 := z_after (wc := kM cI cB cZ oM 0 Mmany Mguest Mrow Mbars Mbar Mfresh Mtape Mtaped Mpos Mtoken MtokenAt Mvalue Mwrong MwrongAt MfaultKind MfaultPlace Mthing Morder_15 Mone_38 Mtwo_39 Mbest Mcells Mgap Mwire Mstand Mruns Mminute Mhead Mplays Mrests Mwent Mout Mcame Mgone MlastOut) hw [0, 1, 2, 3, 4, 5, 6, 7, 8, 9, 10, 11, 12, 13, 14, 15, 16] [] rfl rfl (by decide) (by decide) hF9 hk9 ht9 hB9 hS9 [0, 1, 2, 3, 4, 5, 6, 7, 8, 9, 10, 11, 12, 13, 14, 15, 16] (by decide) rfl
          clear hF9 ht9 hvm9 hB9 hz9 hk9 hS9
          refine z_iconst hx hb dX8_pick_42 ?_
          have hv_77 : (0 : Int) ≤ (0 : Int) ∧ (0 : Int) ≤ 2 := by
            first | assumption | omega | grind
          have hv_78 : (0 : Int) ≤ Mone_38 ∧ Mone_38 ≤ 8 := by
            first | assumption | omega | grind
          have hv_79 : (0 : Int) ≤ Mtwo_39 ∧ Mtwo_39 ≤ 8 := by
            first | assumption | omega | grind
          have hv_80 : (0 : Int) ≤ Mruns_72 ∧ Mruns_72 ≤ 1 := by
            first | assumption | omega | grind
          have hv_81 : (0 ≤ k ∧ (fil (okL ki lo sh wo on tw nu Mmany Mbars) (ext Kp Mmany Mmany.toNat []))[k.toNat]? = some (preL Mrow_71 Mmany.toNat) ∧ (1 : Int) = 1 ∧ Mruns_72 = 0) ∨ (¬ (0 ≤ k ∧ k < ((fil (okL ki lo sh wo on tw nu Mmany Mbars) (ext Kp Mmany Mmany.toNat [])).length : Int)) ∧ (1 : Int) = 0 ∧ Mrow_71 = Mrow ∧ Mruns_72 = Mruns) := by
            have he9 : enP Mmany Morder_15 more_14 A_18 := ((by assumption : (k < 0 ∧ more_14 = 0) ∨ (0 ≤ k ∧ enP Mmany Morder_15 more_14 A_18)).resolve_left (by omega)).2
            have hok := why_ok (n := Mmany) (by omega) (by assumption : ∃ x y, whyP ki lo sh wo on tw nu Morder_15 Mmany Mbars _ x y ∧ _)
            obtain ⟨_, _, B9, hB9⟩ := he9.resolve_right (by omega)
            refine Or.inl ⟨by omega, ?_, rfl, by assumption⟩
            rw [hB9, fil_mid (hok.mp (by omega)), List.getElem?_append_right (by omega), show k.toNat - (fil (okL ki lo sh wo on tw nu Mmany Mbars) A_18).length = 0 by omega, List.getElem?_cons_zero]
            congr 1
            exact preL_congr (fun a a0 a1 => ((by assumption : ∀ k, 0 ≤ k → k < Mmany → Mrow_71 k = Morder_15 k) a a0 (by omega)).symm)
          have hv_82 : (0 : Int) = 0 := by
            rfl
          exact W.zret (v := zI 1) hx hb hr rfl (fun t9 ht hW => ⟨⟨zI 1, (1, 0, Mrow_71, Morder_15, Mone_38, Mtwo_39, Mruns_72), rfl, ⟨rfl, ⟨hv_77, hq_73, hR_19, hv_78, hv_79, hv_80, hv_81, hv_82⟩⟩, by subst hAe; exact z_end hK hw ht hW⟩, by subst hAe; exact hw.2.2.F ht⟩) (by subst hAe; exact hw.2.2.2.2) dX8_pick_43
  · skip
    refine z_iconst hx hb dX8_pick_15 ?_
    refine lv_goto (tgt := 20) hx hb dX8_pick_16 (by decide) ?_
    refine lv_istore_n (lv' := [(3, .int (zI 1)), (2, .int (zI 0)), (0, .ref (oM 0)), (1, .int (zI k))]) hx hb dX8_pick_20 rfl hl (by decide) rfl (fun ls hl => ?_)
    have hv_83 : (0 : Int) ≤ Mone ∧ Mone ≤ 8 := by
      first | assumption | omega | grind
    have hv_84 : (0 : Int) ≤ Mtwo ∧ Mtwo ≤ 8 := by
      first | assumption | omega | grind
    have hv_85 : (k < 0 ∧ (1 : Int) = 0) ∨ (0 ≤ k ∧ enP Mmany Morder_2 (1 : Int) ([])) := by
      first | exact Or.inl ⟨by omega, rfl⟩ | exact Or.inr ⟨by omega, en_first (by omega) (by assumption)⟩
    have hv_86 : (0 : Int) = ((fil (okL ki lo sh wo on tw nu Mmany Mbars) ([])).length : Int) := by
      rfl
    have hv_87 : 0 ≤ k → (0 : Int) ≤ k := by
      intro q; omega
    have hv_88 : (1 : Int) = 0 ∨ (1 : Int) = 1 := by
      first | assumption | omega | grind
    refine z_loop (σ := Int × Int × (Int → Int) × Int × Int × List (List Int)) (μ := fun x9 => (ext Kp Mmany Mmany.toNat []).length - x9.2.2.2.2.2.length) (I := fun x9 H locs ls => (RA (x9.2.2.1) (0) 7) ∧ ((0 : Int) ≤ (x9.2.2.2.1) ∧ (x9.2.2.2.1) ≤ 8) ∧ ((0 : Int) ≤ (x9.2.2.2.2.1) ∧ (x9.2.2.2.2.1) ≤ 8) ∧ ((k < 0 ∧ (x9.2.1) = 0) ∨ (0 ≤ k ∧ enP Mmany (x9.2.2.1) (x9.2.1) x9.2.2.2.2.2)) ∧ ((x9.1) = ((fil (okL ki lo sh wo on tw nu Mmany Mbars) x9.2.2.2.2.2).length : Int)) ∧ (0 ≤ k → (x9.1) ≤ k) ∧ ((x9.2.1) = 0 ∨ (x9.2.1) = 1) ∧ HW D A s.heap (kM cI cB cZ oM 0 Mmany Mguest Mrow Mbars Mbar Mfresh Mtape Mtaped Mpos Mtoken MtokenAt Mvalue Mwrong MwrongAt MfaultKind MfaultPlace Mthing (x9.2.2.1) (x9.2.2.2.1) (x9.2.2.2.2.1) Mbest Mcells Mgap Mwire Mstand Mruns Mminute Mhead Mplays Mrests Mwent Mout Mcame Mgone MlastOut) H locs ∧ lv_has ls 4 [(0, .ref (oM 0)), (1, .int (zI k)), (2, .int (zI (x9.1))), (3, .int (zI (x9.2.1)))]) (0, 1, Morder_2, Mone, Mtwo, ([])) ⟨hq_3, hv_83, hv_84, hv_85, hv_86, hv_87, hv_88, hw, lv_sub hl [2, 3, 1, 0] rfl⟩ ?_
    clear hw hl
    intro x9 H locs ls hI ih_89
    obtain ⟨c_90, more_91, Morder_92, Mone_93, Mtwo_94, A_95⟩ := x9
    try dsimp only at hI
    obtain ⟨hR_96, hq_97, hq_98, hI_99, hI_100, hI_101, hI_102, hw, hl⟩ := hI
    refine lv_iload_n hx hb dX8_pick_21 rfl (lv_at hl 3 rfl) ?_
    refine z_if_eq (tgt := 55) hx hb dX8_pick_22 (by decide) (by omega) (fun hc_103 => ?_) (fun hc_103 => ?_)
    · skip
      refine z_iconst hx hb dX8_pick_55 ?_
      have hv_104 : (0 : Int) ≤ (0 : Int) ∧ (0 : Int) ≤ 2 := by
        first | assumption | omega | grind
      have hv_105 : (0 : Int) ≤ Mone_93 ∧ Mone_93 ≤ 8 := by
        first | assumption | omega | grind
      have hv_106 : (0 : Int) ≤ Mtwo_94 ∧ Mtwo_94 ≤ 8 := by
        first | assumption | omega | grind
      have hv_107 : (0 : Int) ≤ Mruns ∧ Mruns ≤ 1 := by
        first | assumption | omega | grind
      have hv_108 : (0 ≤ k ∧ (fil (okL ki lo sh wo on tw nu Mmany Mbars) (ext Kp Mmany Mmany.toNat []))[k.toNat]? = some (preL Mrow Mmany.toNat) ∧ (0 : Int) = 1 ∧ Mruns = 0) ∨ (¬ (0 ≤ k ∧ k < ((fil (okL ki lo sh wo on tw nu Mmany Mbars) (ext Kp Mmany Mmany.toNat [])).length : Int)) ∧ (0 : Int) = 0 ∧ Mrow = Mrow ∧ Mruns = Mruns) := by
        refine Or.inr ⟨fun q => ?_, rfl, rfl, rfl⟩
        have he9 : enP Mmany Morder_92 more_91 A_95 := ((by assumption : (k < 0 ∧ more_91 = 0) ∨ (0 ≤ k ∧ enP Mmany Morder_92 more_91 A_95)).resolve_left (by omega)).2
        rw [en_done he9 (by omega)] at q
        have q9 := (by assumption : 0 ≤ k → c_90 ≤ k) q.1
        omega
      have hv_109 : (0 : Int) = 0 := by
        rfl
      exact W.zret (v := zI 0) hx hb hr rfl (fun t9 ht hW => ⟨⟨zI 0, (0, 0, Mrow, Morder_92, Mone_93, Mtwo_94, Mruns), rfl, ⟨rfl, ⟨hv_104, qMrow, hR_96, hv_105, hv_106, hv_107, hv_108, hv_109⟩⟩, by subst hAe; exact z_end hK hw ht hW⟩, by subst hAe; exact hw.2.2.F ht⟩) (by subst hAe; exact hw.2.2.2.2) dX8_pick_56
    · skip
      refine lv_aload_n hx hb dX8_pick_25 rfl (lv_at hl 0 rfl) ?_
      have hpre_110 : gRel Mmany ki le lo ta sh Mguest := by
        first | assumption | omega | grind
      have hpre_111 : bRel Mbars wo on tw nu Mbar := by
        first | assumption | omega | grind
      have hpre_112 : ∀ i, 0 ≤ i → i < Mmany → 0 ≤ Morder_92 i ∧ Morder_92 i < Mmany := by
        have he9 : enP Mmany Morder_92 more_91 A_95 := ((by assumption : (k < 0 ∧ more_91 = 0) ∨ (0 ≤ k ∧ enP Mmany Morder_92 more_91 A_95)).resolve_left (by omega)).2
        exact fun i i0 i1 => (en_perm he9 (by omega)).1 i i0 i1
      have hF9 := z_free (wc := kM cI cB cZ oM 0 Mmany Mguest Mrow Mbars Mbar Mfresh Mtape Mtaped Mpos Mtoken MtokenAt Mvalue Mwrong MwrongAt MfaultKind MfaultPlace Mthing Morder_92 Mone_93 Mtwo_94 Mbest Mcells Mgap Mwire Mstand Mruns Mminute Mhead Mplays Mrests Mwent Mout Mcame Mgone MlastOut) hw hA [0, 1, 2, 3, 4, 5, 6, 7, 8, 9, 10, 11, 12, 13, 14, 15, 16] rfl
      refine va_calli (va_runV (As := []) (rest := []) ⟨hx, hb, hml, hown, hts⟩ (c_X8_broken l D cI cB cZ oM H.size 0 Mmany Mguest Mrow Mbars Mbar Mfresh Mtape Mtaped Mpos Mtoken MtokenAt Mvalue Mwrong MwrongAt MfaultKind MfaultPlace Mthing Morder_92 Mone_93 Mtwo_94 Mbest Mcells Mgap Mwire Mstand Mruns Mminute Mhead Mplays Mrests Mwent Mout Mcame Mgone MlastOut ki le lo ta sh wo on tw nu (by omega) (by omega) qMguest qMrow (by omega) qMbar qMfresh qMtape (by omega) (by omega) (by omega) (by omega) (by omega) (by omega) (by omega) (by omega) (by omega) (by omega) hR_96 (by omega) (by omega) qMbest (by omega) (by omega) qMwire qMstand (by omega) (by omega) qMhead qMplays qMrests qMwent qMout qMcame qMgone (by omega) hpre_110 hpre_111 hpre_112) (cwV 0 hts gX8_pick_X8_broken rfl rfl rfl (by decide +kernel) ⟨Nat.le_of_ble_eq_true rfl, Nat.le_of_ble_eq_true rfl⟩) ⟨zPre_blind, va_recv hK hw.1 (ci := 8) (q0 := 0) rfl rfl, z_pre hK hw [0, 1, 2, 3, 4, 5, 6, 7, 8, 9, 10, 11, 12, 13, 14, 15, 16] (by decide) rfl⟩ rfl rfl hl.1 rfl (lv_room (Nat.le_of_ble_eq_true rfl)) dX8_pick_26 ⟨Nat.zero_le _, Nat.zero_le _⟩) hw.2.2 (fun q _ h => hF9 q h) hF9 (fun r9 u9 t9 H_113 locs9 ht9 hvm9 hq9 hB9 hz9 hk9 hS9 => ?_)
      obtain ⟨r_114, Mone_115, Mtwo_116⟩ := u9
      try dsimp only at hq9 hB9
      obtain ⟨rfl, hq9⟩ := hq9
      obtain ⟨hq_117, hq_118, hq_119, hq_120⟩ := hq9
      have hw : HW D A s.heap (kM cI cB cZ oM 0 Mmany Mguest Mrow Mbars Mbar Mfresh Mtape Mtaped Mpos Mtoken MtokenAt Mvalue Mwrong MwrongAt MfaultKind MfaultPlace Mthing Morder_92 Mone_115 Mtwo_116 Mbest Mcells Mgap Mwire Mstand Mruns Mminute Mhead Mplays Mrests Mwent Mout Mcame Mgone MlastOut) H_113 locs9 := z_after (wc := kM cI cB cZ oM 0 Mmany Mguest Mrow Mbars Mbar Mfresh Mtape Mtaped Mpos Mtoken MtokenAt Mvalue Mwrong MwrongAt MfaultKind MfaultPlace Mthing Morder_92 Mone_93 Mtwo_94 Mbest Mcells Mgap Mwire Mstand Mruns Mminute Mhead Mplays Mrests Mwent Mout Mcame Mgone MlastOut) hw [0, 1, 2, 3, 4, 5, 6, 7, 8, 9, 10, 11, 12, 13, 14, 15, 16] [] rfl rfl (by decide) (by decide) hF9 hk9 ht9 hB9 hS9 [0, 1, 2, 3, 4, 5, 6, 7, 8, 9, 10, 11, 12, 13, 14, 15, 16] (by decide) rfl
      clear hF9 ht9 hvm9 hB9 hz9 hk9 hS9
      refine z_iconst hx hb dX8_pick_29 ?_
      refine z_icmp_ne (tgt := 47) hx hb dX8_pick_30 (by decide) (by omega) (fun hc_121 => ?_) (fun hc_121 => ?_)
      · skip
        refine lv_aload_n hx hb dX8_pick_47 rfl (lv_at hl 0 rfl) ?_
        have hF9 := z_free (wc := kM cI cB cZ oM 0 Mmany Mguest Mrow Mbars Mbar Mfresh Mtape Mtaped Mpos Mtoken MtokenAt Mvalue Mwrong MwrongAt MfaultKind MfaultPlace Mthing Morder_92 Mone_115 Mtwo_116 Mbest Mcells Mgap Mwire Mstand Mruns Mminute Mhead Mplays Mrests Mwent Mout Mcame Mgone MlastOut) hw hA [0, 1, 2, 3, 4, 5, 6, 7, 8, 9, 10, 11, 12, 13, 14, 15, 16] rfl
        refine va_calli (va_runV (As := []) (rest := []) ⟨hx, hb, hml, hown, hts⟩ (c_X8_nextOrder l D cI cB cZ oM H_113.size 0 Mmany Mguest Mrow Mbars Mbar Mfresh Mtape Mtaped Mpos Mtoken MtokenAt Mvalue Mwrong MwrongAt MfaultKind MfaultPlace Mthing Morder_92 Mone_115 Mtwo_116 Mbest Mcells Mgap Mwire Mstand Mruns Mminute Mhead Mplays Mrests Mwent Mout Mcame Mgone MlastOut (by omega) (by omega) qMguest qMrow (by omega) qMbar qMfresh qMtape (by omega) (by omega) (by omega) (by omega) (by omega) (by omega) (by omega) (by omega) (by omega) (by omega) hR_96 (by omega) (by omega) qMbest (by omega) (by omega) qMwire qMstand (by omega) (by omega) qMhead qMplays qMrests qMwent qMout qMcame qMgone (by omega)) (cwV 0 hts gX8_pick_X8_nextOrder rfl rfl rfl (by decide +kernel) ⟨Nat.le_of_ble_eq_true rfl, Nat.le_of_ble_eq_true rfl⟩) ⟨zPre_blind, va_recv hK hw.1 (ci := 8) (q0 := 0) rfl rfl, z_pre hK hw [0, 1, 2, 3, 4, 5, 6, 7, 8, 9, 10, 11, 12, 13, 14, 15, 16] (by decide) rfl⟩ rfl rfl hl.1 rfl (lv_room (Nat.le_of_ble_eq_true rfl)) dX8_pick_48 ⟨Nat.zero_le _, Nat.zero_le _⟩) hw.2.2 (fun q _ h => hF9 q h) hF9 (fun r9 u9 t9 H_122 locs9 ht9 hvm9 hq9 hB9 hz9 hk9 hS9 => ?_)
        obtain ⟨r_123, Morder_124⟩ := u9
        try dsimp only at hq9 hB9
        obtain ⟨rfl, hq9⟩ := hq9
        obtain ⟨hq_125, hq_126⟩ := hq9
        have hw : HW D A s.heap (kM cI cB cZ oM 0 Mmany Mguest Mrow Mbars Mbar Mfresh Mtape Mtaped Mpos Mtoken MtokenAt Mvalue Mwrong MwrongAt MfaultKind MfaultPlace Mthing Morder_124 Mone_115 Mtwo_116 Mbest Mcells Mgap Mwire Mstand Mruns Mminute Mhead Mplays Mrests Mwent Mout Mcame Mgone MlastOut) H_122 locs9 := z_after (wc := kM cI cB cZ oM 0 Mmany Mguest Mrow Mbars Mbar Mfresh Mtape Mtaped Mpos Mtoken MtokenAt Mvalue Mwrong MwrongAt MfaultKind MfaultPlace Mthing Morder_92 Mone_115 Mtwo_116 Mbest Mcells Mgap Mwire Mstand Mruns Mminute Mhead Mplays Mrests Mwent Mout Mcame Mgone MlastOut) hw [0, 1, 2, 3, 4, 5, 6, 7, 8, 9, 10, 11, 12, 13, 14, 15, 16] [] rfl rfl (by decide) (by decide) hF9 hk9 ht9 hB9 hS9 [0, 1, 2, 3, 4, 5, 6, 7, 8, 9, 10, 11, 12, 13, 14, 15, 16] (by decide) rfl
        clear hF9 ht9 hvm9 hB9 hz9 hk9 hS9
        refine lv_istore_n (lv' := [(3, .int (zI r_123)), (0, .ref (oM 0)), (1, .int (zI k)), (2, .int (zI c_90))]) hx hb dX8_pick_51 rfl hl (by decide) rfl (fun ls hl => ?_)
        refine lv_goto (tgt := 21) hx hb dX8_pick_52 (by decide) ?_
        have hv_127 : (0 : Int) ≤ Mone_115 ∧ Mone_115 ≤ 8 := by
          first | assumption | omega | grind
        have hv_128 : (0 : Int) ≤ Mtwo_116 ∧ Mtwo_116 ≤ 8 := by
          first | assumption | omega | grind
        have hv_129 : (k < 0 ∧ r_123 = 0) ∨ (0 ≤ k ∧ enP Mmany Morder_124 r_123 (A_95 ++ [preL Morder_92 Mmany.toNat])) := by
          have he9 : enP Mmany Morder_92 more_91 A_95 := ((by assumption : (k < 0 ∧ more_91 = 0) ∨ (0 ≤ k ∧ enP Mmany Morder_92 more_91 A_95)).resolve_left (by omega)).2
          exact Or.inr ⟨by omega, en_next (by omega) he9 (by omega) (by assumption)⟩
        have hv_130 : c_90 = ((fil (okL ki lo sh wo on tw nu Mmany Mbars) (A_95 ++ [preL Morder_92 Mmany.toNat])).length : Int) := by
          have hok := why_ok (n := Mmany) (by omega) (by assumption : ∃ x y, whyP ki lo sh wo on tw nu Morder_92 Mmany Mbars _ x y ∧ _)
          first | (rw [fil_t (hok.mp (by omega)), List.length_append, List.length_singleton]; omega) | (rw [fil_f (fun q => absurd (hok.mpr q) (by omega))]; omega)
        have hv_131 : 0 ≤ k → c_90 ≤ k := by
          intro q; omega
        have hv_132 : r_123 = 0 ∨ r_123 = 1 := by
          first | assumption | omega | grind
        have hm_133 : (ext Kp Mmany Mmany.toNat []).length - (A_95 ++ [preL Morder_92 Mmany.toNat]).length < (ext Kp Mmany Mmany.toNat []).length - A_95.length := by
          have he9 : enP Mmany Morder_92 more_91 A_95 := ((by assumption : (k < 0 ∧ more_91 = 0) ∨ (0 ≤ k ∧ enP Mmany Morder_92 more_91 A_95)).resolve_left (by omega)).2
          have hl9 := en_len he9 (by omega)
          simp only [List.length_append, List.length_cons, List.length_nil] at hl9 ⊢
          omega
        exact ih_89 (c_90, r_123, Morder_124, Mone_115, Mtwo_116, (A_95 ++ [preL Morder_92 Mmany.toNat])) _ _ _ ⟨hq_125, hv_127, hv_128, hv_129, hv_130, hv_131, hv_132, hw, lv_sub hl [1, 2, 3, 0] rfl⟩ hm_133
      · skip
        refine lv_iload_n hx hb dX8_pick_33 rfl (lv_at hl 2 rfl) ?_
        refine lv_iload_n hx hb dX8_pick_34 rfl (lv_at hl 1 rfl) ?_
        refine z_icmp_ne (tgt := 44) hx hb dX8_pick_35 (by decide) (by omega) (fun hc_134 => ?_) (fun hc_134 => ?_)
        · skip
          refine z_iinc (k := 2) (lv' := [(2, .int (zI (c_90 + 1))), (0, .ref (oM 0)), (1, .int (zI k)), (3, .int (zI more_91))]) hx hb dX8_pick_44 hl rfl (by decide) rfl (fun ls hl => ?_)
          refine lv_aload_n hx hb dX8_pick_47 rfl (lv_at hl 1 rfl) ?_
          have hF9 := z_free (wc := kM cI cB cZ oM 0 Mmany Mguest Mrow Mbars Mbar Mfresh Mtape Mtaped Mpos Mtoken MtokenAt Mvalue Mwrong MwrongAt MfaultKind MfaultPlace Mthing Morder_92 Mone_115 Mtwo_116 Mbest Mcells Mgap Mwire Mstand Mruns Mminute Mhead Mplays Mrests Mwent Mout Mcame Mgone MlastOut) hw hA [0, 1, 2, 3, 4, 5, 6, 7, 8, 9, 10, 11, 12, 13, 14, 15, 16] rfl
          refine va_calli (va_runV (As := []) (rest := []) ⟨hx, hb, hml, hown, hts⟩ (c_X8_nextOrder l D cI cB cZ oM H_113.size 0 Mmany Mguest Mrow Mbars Mbar Mfresh Mtape Mtaped Mpos Mtoken MtokenAt Mvalue Mwrong MwrongAt MfaultKind MfaultPlace Mthing Morder_92 Mone_115 Mtwo_116 Mbest Mcells Mgap Mwire Mstand Mruns Mminute Mhead Mplays Mrests Mwent Mout Mcame Mgone MlastOut (by omega) (by omega) qMguest qMrow (by omega) qMbar qMfresh qMtape (by omega) (by omega) (by omega) (by omega) (by omega) (by omega) (by omega) (by omega) (by omega) (by omega) hR_96 (by omega) (by omega) qMbest (by omega) (by omega) qMwire qMstand (by omega) (by omega) qMhead qMplays qMrests qMwent qMout qMcame qMgone (by omega)) (cwV 0 hts gX8_pick_X8_nextOrder rfl rfl rfl (by decide +kernel) ⟨Nat.le_of_ble_eq_true rfl, Nat.le_of_ble_eq_true rfl⟩) ⟨zPre_blind, va_recv hK hw.1 (ci := 8) (q0 := 0) rfl rfl, z_pre hK hw [0, 1, 2, 3, 4, 5, 6, 7, 8, 9, 10, 11, 12, 13, 14, 15, 16] (by decide) rfl⟩ rfl rfl hl.1 rfl (lv_room (Nat.le_of_ble_eq_true rfl)) dX8_pick_48 ⟨Nat.zero_le _, Nat.zero_le _⟩) hw.2.2 (fun q _ h => hF9 q h) hF9 (fun r9 u9 t9 H_135 locs9 ht9 hvm9 hq9 hB9 hz9 hk9 hS9 => ?_)
          obtain ⟨r_136, Morder_137⟩ := u9
          try dsimp only at hq9 hB9
          obtain ⟨rfl, hq9⟩ := hq9
          obtain ⟨hq_138, hq_139⟩ := hq9
          have hw : HW D A s.heap (kM cI cB cZ oM 0 Mmany Mguest Mrow Mbars Mbar Mfresh Mtape Mtaped Mpos Mtoken MtokenAt Mvalue Mwrong MwrongAt MfaultKind MfaultPlace Mthing Morder_137 Mone_115 Mtwo_116 Mbest Mcells Mgap Mwire Mstand Mruns Mminute Mhead Mplays Mrests Mwent Mout Mcame Mgone MlastOut) H_135 locs9 := z_after (wc := kM cI cB cZ oM 0 Mmany Mguest Mrow Mbars Mbar Mfresh Mtape Mtaped Mpos Mtoken MtokenAt Mvalue Mwrong MwrongAt MfaultKind MfaultPlace Mthing Morder_92 Mone_115 Mtwo_116 Mbest Mcells Mgap Mwire Mstand Mruns Mminute Mhead Mplays Mrests Mwent Mout Mcame Mgone MlastOut) hw [0, 1, 2, 3, 4, 5, 6, 7, 8, 9, 10, 11, 12, 13, 14, 15, 16] [] rfl rfl (by decide) (by decide) hF9 hk9 ht9 hB9 hS9 [0, 1, 2, 3, 4, 5, 6, 7, 8, 9, 10, 11, 12, 13, 14, 15, 16] (by decide) rfl
          clear hF9 ht9 hvm9 hB9 hz9 hk9 hS9
          refine lv_istore_n (lv' := [(3, .int (zI r_136)), (2, .int (zI (c_90 + 1))), (0, .ref (oM 0)), (1, .int (zI k))]) hx hb dX8_pick_51 rfl hl (by decide) rfl (fun ls hl => ?_)
          refine lv_goto (tgt := 21) hx hb dX8_pick_52 (by decide) ?_
          have hv_140 : (0 : Int) ≤ Mone_115 ∧ Mone_115 ≤ 8 := by
            first | assumption | omega | grind
          have hv_141 : (0 : Int) ≤ Mtwo_116 ∧ Mtwo_116 ≤ 8 := by
            first | assumption | omega | grind
          have hv_142 : (k < 0 ∧ r_136 = 0) ∨ (0 ≤ k ∧ enP Mmany Morder_137 r_136 (A_95 ++ [preL Morder_92 Mmany.toNat])) := by
            have he9 : enP Mmany Morder_92 more_91 A_95 := ((by assumption : (k < 0 ∧ more_91 = 0) ∨ (0 ≤ k ∧ enP Mmany Morder_92 more_91 A_95)).resolve_left (by omega)).2
            exact Or.inr ⟨by omega, en_next (by omega) he9 (by omega) (by assumption)⟩
          have hv_143 : (c_90 + 1) = ((fil (okL ki lo sh wo on tw nu Mmany Mbars) (A_95 ++ [preL Morder_92 Mmany.toNat])).length : Int) := by
            have hok := why_ok (n := Mmany) (by omega) (by assumption : ∃ x y, whyP ki lo sh wo on tw nu Morder_92 Mmany Mbars _ x y ∧ _)
            first | (rw [fil_t (hok.mp (by omega)), List.length_append, List.length_singleton]; omega) | (rw [fil_f (fun q => absurd (hok.mpr q) (by omega))]; omega)
          have hv_144 : 0 ≤ k → (c_90 + 1) ≤ k := by
            intro q; omega
          have hv_145 : r_136 = 0 ∨ r_136 = 1 := by
            first | assumption | omega | grind
          have hm_146 : (ext Kp Mmany Mmany.toNat []).length - (A_95 ++ [preL Morder_92 Mmany.toNat]).length < (ext Kp Mmany Mmany.toNat []).length - A_95.length := by
            have he9 : enP Mmany Morder_92 more_91 A_95 := ((by assumption : (k < 0 ∧ more_91 = 0) ∨ (0 ≤ k ∧ enP Mmany Morder_92 more_91 A_95)).resolve_left (by omega)).2
            have hl9 := en_len he9 (by omega)
            simp only [List.length_append, List.length_cons, List.length_nil] at hl9 ⊢
            omega
          exact ih_89 ((c_90 + 1), r_136, Morder_137, Mone_115, Mtwo_116, (A_95 ++ [preL Morder_92 Mmany.toNat])) _ _ _ ⟨hq_138, hv_140, hv_141, hv_142, hv_143, hv_144, hv_145, hw, lv_sub hl [2, 3, 1, 0] rfl⟩ hm_146
        · skip
          refine lv_aload_n hx hb dX8_pick_38 rfl (lv_at hl 0 rfl) ?_
          have hF9 := z_free (wc := kM cI cB cZ oM 0 Mmany Mguest Mrow Mbars Mbar Mfresh Mtape Mtaped Mpos Mtoken MtokenAt Mvalue Mwrong MwrongAt MfaultKind MfaultPlace Mthing Morder_92 Mone_115 Mtwo_116 Mbest Mcells Mgap Mwire Mstand Mruns Mminute Mhead Mplays Mrests Mwent Mout Mcame Mgone MlastOut) hw hA [0, 1, 2, 3, 4, 5, 6, 7, 8, 9, 10, 11, 12, 13, 14, 15, 16] rfl
          refine va_callv (va_runV (As := []) (rest := []) ⟨hx, hb, hml, hown, hts⟩ (c_X8_becomes l D cI cB cZ oM H_113.size 0 Mmany Mguest Mrow Mbars Mbar Mfresh Mtape Mtaped Mpos Mtoken MtokenAt Mvalue Mwrong MwrongAt MfaultKind MfaultPlace Mthing Morder_92 Mone_115 Mtwo_116 Mbest Mcells Mgap Mwire Mstand Mruns Mminute Mhead Mplays Mrests Mwent Mout Mcame Mgone MlastOut (by omega) (by omega) qMguest qMrow (by omega) qMbar qMfresh qMtape (by omega) (by omega) (by omega) (by omega) (by omega) (by omega) (by omega) (by omega) (by omega) (by omega) hR_96 (by omega) (by omega) qMbest (by omega) (by omega) qMwire qMstand (by omega) (by omega) qMhead qMplays qMrests qMwent qMout qMcame qMgone (by omega)) (cwV 0 hts gX8_pick_X8_becomes rfl rfl rfl (by decide +kernel) ⟨Nat.le_of_ble_eq_true rfl, Nat.le_of_ble_eq_true rfl⟩) ⟨zPre_blind, va_recv hK hw.1 (ci := 8) (q0 := 0) rfl rfl, z_pre hK hw [0, 1, 2, 3, 4, 5, 6, 7, 8, 9, 10, 11, 12, 13, 14, 15, 16] (by decide) rfl⟩ rfl rfl hl.1 rfl (lv_room (Nat.le_of_ble_eq_true rfl)) dX8_pick_39 ⟨Nat.zero_le _, Nat.zero_le _⟩) hw.2.2 (fun q _ h => hF9 q h) hF9 (fun u9 t9 H_147 locs9 ht9 hvm9 hq9 hB9 hz9 hk9 hS9 => ?_)
          obtain ⟨Mrow_148, Mruns_149⟩ := u9
          try dsimp only at hq9 hB9
          obtain ⟨hq_150, hq_151, hq_152, hq_153⟩ := hq9
          have hw : HW D A s.heap (kM cI cB cZ oM 0 Mmany Mguest Mrow_148 Mbars Mbar Mfresh Mtape Mtaped Mpos Mtoken MtokenAt Mvalue Mwrong MwrongAt MfaultKind MfaultPlace Mthing Morder_92 Mone_115 Mtwo_116 Mbest Mcells Mgap Mwire Mstand Mruns_149 Mminute Mhead Mplays Mrests Mwent Mout Mcame Mgone MlastOut) H_147 locs9 := z_after (wc := kM cI cB cZ oM 0 Mmany Mguest Mrow Mbars Mbar Mfresh Mtape Mtaped Mpos Mtoken MtokenAt Mvalue Mwrong MwrongAt MfaultKind MfaultPlace Mthing Morder_92 Mone_115 Mtwo_116 Mbest Mcells Mgap Mwire Mstand Mruns Mminute Mhead Mplays Mrests Mwent Mout Mcame Mgone MlastOut) hw [0, 1, 2, 3, 4, 5, 6, 7, 8, 9, 10, 11, 12, 13, 14, 15, 16] [] rfl rfl (by decide) (by decide) hF9 hk9 ht9 hB9 hS9 [0, 1, 2, 3, 4, 5, 6, 7, 8, 9, 10, 11, 12, 13, 14, 15, 16] (by decide) rfl
          clear hF9 ht9 hvm9 hB9 hz9 hk9 hS9
          refine z_iconst hx hb dX8_pick_42 ?_
          have hv_154 : (0 : Int) ≤ (0 : Int) ∧ (0 : Int) ≤ 2 := by
            first | assumption | omega | grind
          have hv_155 : (0 : Int) ≤ Mone_115 ∧ Mone_115 ≤ 8 := by
            first | assumption | omega | grind
          have hv_156 : (0 : Int) ≤ Mtwo_116 ∧ Mtwo_116 ≤ 8 := by
            first | assumption | omega | grind
          have hv_157 : (0 : Int) ≤ Mruns_149 ∧ Mruns_149 ≤ 1 := by
            first | assumption | omega | grind
          have hv_158 : (0 ≤ k ∧ (fil (okL ki lo sh wo on tw nu Mmany Mbars) (ext Kp Mmany Mmany.toNat []))[k.toNat]? = some (preL Mrow_148 Mmany.toNat) ∧ (1 : Int) = 1 ∧ Mruns_149 = 0) ∨ (¬ (0 ≤ k ∧ k < ((fil (okL ki lo sh wo on tw nu Mmany Mbars) (ext Kp Mmany Mmany.toNat [])).length : Int)) ∧ (1 : Int) = 0 ∧ Mrow_148 = Mrow ∧ Mruns_149 = Mruns) := by
            have he9 : enP Mmany Morder_92 more_91 A_95 := ((by assumption : (k < 0 ∧ more_91 = 0) ∨ (0 ≤ k ∧ enP Mmany Morder_92 more_91 A_95)).resolve_left (by omega)).2
            have hok := why_ok (n := Mmany) (by omega) (by assumption : ∃ x y, whyP ki lo sh wo on tw nu Morder_92 Mmany Mbars _ x y ∧ _)
            obtain ⟨_, _, B9, hB9⟩ := he9.resolve_right (by omega)
            refine Or.inl ⟨by omega, ?_, rfl, by assumption⟩
            rw [hB9, fil_mid (hok.mp (by omega)), List.getElem?_append_right (by omega), show k.toNat - (fil (okL ki lo sh wo on tw nu Mmany Mbars) A_95).length = 0 by omega, List.getElem?_cons_zero]
            congr 1
            exact preL_congr (fun a a0 a1 => ((by assumption : ∀ k, 0 ≤ k → k < Mmany → Mrow_148 k = Morder_92 k) a a0 (by omega)).symm)
          have hv_159 : (0 : Int) = 0 := by
            rfl
          exact W.zret (v := zI 1) hx hb hr rfl (fun t9 ht hW => ⟨⟨zI 1, (1, 0, Mrow_148, Morder_92, Mone_115, Mtwo_116, Mruns_149), rfl, ⟨rfl, ⟨hv_154, hq_150, hR_96, hv_155, hv_156, hv_157, hv_158, hv_159⟩⟩, by subst hAe; exact z_end hK hw ht hW⟩, by subst hAe; exact hw.2.2.F ht⟩) (by subst hAe; exact hw.2.2.2.2) dX8_pick_43
set_option maxRecDepth 100000 in
set_option maxHeartbeats 4000000 in
theorem c_X8_rank (l : Launch) (D : va_G) (cI cB cZ : ClassId) (oM : Nat → Nat) (sz : Nat) (Mthrown : Int) (Mmany : Int) (Mguest : Int → Int) (Mrow : Int → Int) (Mbars : Int) (Mbar : Int → Int) (Mfresh : Int → Int) (Mtape : Int → Int) (Mtaped : Int) (Mpos : Int) (Mtoken : Int) (MtokenAt : Int) (Mvalue : Int) (Mwrong : Int) (MwrongAt : Int) (MfaultKind : Int) (MfaultPlace : Int) (Mthing : Int) (Morder : Int → Int) (Mone : Int) (Mtwo : Int) (Mbest : Int → Int) (Mcells : Int) (Mgap : Int) (Mwire : Int → Int) (Mstand : Int → Int) (Mruns : Int) (Mminute : Int) (Mhead : Int → Int) (Mplays : Int → Int) (Mrests : Int → Int) (Mwent : Int → Int) (Mout : Int → Int) (Mcame : Int → Int) (Mgone : Int → Int) (MlastOut : Int) (ki : Int → Int) (le : Int → Int) (lo : Int → Int) (ta : Int → Int) (sh : Int → Int) (wo : Int → Int) (on : Int → Int) (tw : Int → Int) (nu : Int → Int) (qMthrown : 0 ≤ Mthrown ∧ Mthrown ≤ 2) (qMmany : 0 ≤ Mmany ∧ Mmany ≤ 8) (qMguest : RA Mguest (0) 9) (qMrow : RA Mrow (0) 7) (qMbars : 0 ≤ Mbars ∧ Mbars ≤ 10) (qMbar : RA Mbar (0) 104) (qMfresh : RA Mfresh (0) 104) (qMtape : RA Mtape (0) 255) (qMtaped : 0 ≤ Mtaped ∧ Mtaped ≤ 400) (qMpos : 0 ≤ Mpos ∧ Mpos ≤ 400) (qMtoken : 0 ≤ Mtoken ∧ Mtoken ≤ 15) (qMtokenAt : 0 ≤ MtokenAt ∧ MtokenAt ≤ 400) (qMvalue : 0 ≤ Mvalue ∧ Mvalue ≤ 99) (qMwrong : 0 ≤ Mwrong ∧ Mwrong ≤ 3) (qMwrongAt : 0 ≤ MwrongAt ∧ MwrongAt ≤ 400) (qMfaultKind : 0 ≤ MfaultKind ∧ MfaultKind ≤ 3) (qMfaultPlace : -1 ≤ MfaultPlace ∧ MfaultPlace ≤ 400) (qMthing : 0 ≤ Mthing ∧ Mthing ≤ 104) (qMorder : RA Morder (0) 7) (qMone : 0 ≤ Mone ∧ Mone ≤ 8) (qMtwo : 0 ≤ Mtwo ∧ Mtwo ≤ 8) (qMbest : RA Mbest (0) 7) (qMcells : 1 ≤ Mcells ∧ Mcells ≤ 50) (qMgap : 0 ≤ Mgap ∧ Mgap ≤ 3) (qMwire : RA Mwire (0) 9) (qMstand : RA Mstand (0) 9) (qMruns : 0 ≤ Mruns ∧ Mruns ≤ 1) (qMminute : 0 ≤ Mminute ∧ Mminute ≤ 1000000) (qMhead : RA Mhead (-1) 60) (qMplays : RA Mplays (0) 18) (qMrests : RA Mrests (0) 3) (qMwent : RA Mwent (0) 61) (qMout : RA Mout (0) 1) (qMcame : RA Mcame (-1) 1000000) (qMgone : RA Mgone (-1) 1000000) (qMlastOut : 0 ≤ MlastOut ∧ MlastOut ≤ 1000000) (hp0 : gRel Mmany ki le lo ta sh Mguest) (hp1 : bRel Mbars wo on tw nu Mbar) (hp2 : (ext Kp Mmany Mmany.toNat []).length ≤ 40320) : Met l yX8_rank wsX8_rank ({ frames := 4, cells := 0, slots := 0, locals := 94 }) (va_Pc [.ref (oM 0)] (zPre D cI cB cZ sz (kM cI cB cZ oM Mthrown Mmany Mguest Mrow Mbars Mbar Mfresh Mtape Mtaped Mpos Mtoken MtokenAt Mvalue Mwrong MwrongAt MfaultKind MfaultPlace Mthing Morder Mone Mtwo Mbest Mcells Mgap Mwire Mstand Mruns Mminute Mhead Mplays Mrests Mwent Mout Mcame Mgone MlastOut))) (va_Qi (fun (r9 : Int32) (u9 : Int × Int × (Int → Int) × Int × Int) => r9 = zI u9.1 ∧ (((0 : Int) ≤ u9.2.1 ∧ u9.2.1 ≤ 2) ∧ (RA u9.2.2.1 (0) 7) ∧ ((0 : Int) ≤ u9.2.2.2.1 ∧ u9.2.2.2.1 ≤ 8) ∧ ((0 : Int) ≤ u9.2.2.2.2 ∧ u9.2.2.2.2 ≤ 8) ∧ ((0 ≤ u9.1 ∧ (fil (okL ki lo sh wo on tw nu Mmany Mbars) (ext Kp Mmany Mmany.toNat []))[u9.1.toNat]? = some (preL Mrow Mmany.toNat) ∧ ∀ j : Nat, j < u9.1.toNat → ¬ (fil (okL ki lo sh wo on tw nu Mmany Mbars) (ext Kp Mmany Mmany.toNat []))[j]? = some (preL Mrow Mmany.toNat)) ∨ (u9.1 = -1 ∧ ∀ j : Nat, ¬ (fil (okL ki lo sh wo on tw nu Mmany Mbars) (ext Kp Mmany Mmany.toNat []))[j]? = some (preL Mrow Mmany.toNat))) ∧ (u9.2.1 = 0))) (fun u9 t9 => zAt D cI cB cZ (va_A (kM cI cB cZ oM Mthrown Mmany Mguest Mrow Mbars Mbar Mfresh Mtape Mtaped Mpos Mtoken MtokenAt Mvalue Mwrong MwrongAt MfaultKind MfaultPlace Mthing Morder Mone Mtwo Mbest Mcells Mgap Mwire Mstand Mruns Mminute Mhead Mplays Mrests Mwent Mout Mcame Mgone MlastOut) sz) (kM cI cB cZ oM (u9.2.1) Mmany Mguest Mrow Mbars Mbar Mfresh Mtape Mtaped Mpos Mtoken MtokenAt Mvalue Mwrong MwrongAt MfaultKind MfaultPlace Mthing (u9.2.2.1) (u9.2.2.2.1) (u9.2.2.2.2) Mbest Mcells Mgap Mwire Mstand Mruns Mminute Mhead Mplays Mrests Mwent Mout Mcame Mgone MlastOut) t9) (va_A (kM cI cB cZ oM Mthrown Mmany Mguest Mrow Mbars Mbar Mfresh Mtape Mtaped Mpos Mtoken MtokenAt Mvalue Mwrong MwrongAt MfaultKind MfaultPlace Mthing Morder Mone Mtwo Mbest Mcells Mgap Mwire Mstand Mruns Mminute Mhead Mplays Mrests Mwent Mout Mcame Mgone MlastOut) sz)) 0 0 (va_A (kM cI cB cZ oM Mthrown Mmany Mguest Mrow Mbars Mbar Mfresh Mtape Mtaped Mpos Mtoken MtokenAt Mvalue Mwrong MwrongAt MfaultKind MfaultPlace Mthing Morder Mone Mtwo Mbest Mcells Mgap Mwire Mstand Mruns Mminute Mhead Mplays Mrests Mwent Mout Mcame Mgone MlastOut) sz) := by
  refine Met.ofW (cc := cX8_rank) (maxL := 4) (ret := (some .int)) (by decide) rfl ?_
  intro pp ee s mm aa bw mt cd s₁ BL hml hv
  obtain ⟨rfl, hsz, hP, hK, hD0⟩ := hv
  have hx := BL.exec
  have hb := BL.bytes
  have hr := BL.returns
  have hts := atoms_spec (ws := wsX8_rank) BL.pre
  have hown : s.vm.findClass RX8 = some mm.cls := findClass_of_methodNamed BL.named
  have hlocks := BL.notSynchronized
  subst hsz
  generalize hAe : va_A (kM cI cB cZ oM Mthrown Mmany Mguest Mrow Mbars Mbar Mfresh Mtape Mtaped Mpos Mtoken MtokenAt Mvalue Mwrong MwrongAt MfaultKind MfaultPlace Mthing Morder Mone Mtwo Mbest Mcells Mgap Mwire Mstand Mruns Mminute Mhead Mplays Mrests Mwent Mout Mcame Mgone MlastOut) s.heap.size = A
  have hA : ∀ q : Nat, s.heap.size ≤ q → A q := fun q h => by rw [← hAe]; exact Or.inr h
  have hw : HW D A s.heap (kM cI cB cZ oM Mthrown Mmany Mguest Mrow Mbars Mbar Mfresh Mtape Mtaped Mpos Mtoken MtokenAt Mvalue Mwrong MwrongAt MfaultKind MfaultPlace Mthing Morder Mone Mtwo Mbest Mcells Mgap Mwire Mstand Mruns Mminute Mhead Mplays Mrests Mwent Mout Mcame Mgone MlastOut) s.heap [] := z_start hAe hP hD0
  clear hP hD0
  have hl := lv_entry ([.ref (oM 0)]) (n := 4) (Nat.le_of_ble_eq_true rfl)
  rw [lg_entry_eq]
  generalize (lg_sl ([.ref (oM 0)]) ++ List.replicate (4 - (lg_sl ([.ref (oM 0)])).length) Slot.unset).toArray = ls at hl ⊢
  have hl : lv_has ls 4 [(0, .ref (oM 0))] := hl
  have hinX8 : ∀ w ∈ wsX80, w ∈ wsX8_rank := by decide +kernel
  refine lv_aload_n hx hb dX8_rank_0 rfl (lv_at hl 0 rfl) ?_
  refine z_iconst hx hb dX8_rank_1 ?_
  refine z_put (D := D) (ci := 8) (v := .int (zI 0)) (ty := .int) (C := RX8) (T := TX8) (N := 36) (ws2 := kM cI cB cZ oM 0 Mmany Mguest Mrow Mbars Mbar Mfresh Mtape Mtaped Mpos Mtoken MtokenAt Mvalue Mwrong MwrongAt MfaultKind MfaultPlace Mthing Morder Mone Mtwo Mbest Mcells Mgap Mwire Mstand Mruns Mminute Mhead Mplays Mrests Mwent Mout Mcame Mgone MlastOut) hx hb hts hinX8 tyX8 tyX8_ok nmX8 hown hK hw 0 rfl rfl 0 (by decide) (hts (.fieldLink RX8 69 "CarnivalRoadModel" "thrown" "I") (by decide +kernel)) (fun _ h9 => h9) rfl (by decide +kernel) rfl rfl (Nat.le_of_ble_eq_true rfl) dX8_rank_2 rfl (fun H locs hw => ?_)
  refine lv_aload_n hx hb dX8_rank_5 rfl (lv_at hl 0 rfl) ?_
  have hF9 := z_free (wc := kM cI cB cZ oM 0 Mmany Mguest Mrow Mbars Mbar Mfresh Mtape Mtaped Mpos Mtoken MtokenAt Mvalue Mwrong MwrongAt MfaultKind MfaultPlace Mthing Morder Mone Mtwo Mbest Mcells Mgap Mwire Mstand Mruns Mminute Mhead Mplays Mrests Mwent Mout Mcame Mgone MlastOut) hw hA [0, 1, 2, 3, 4, 5, 6, 7, 8, 9, 10, 11, 12, 13, 14, 15, 16] rfl
  refine va_callv (va_runV (As := []) (rest := []) ⟨hx, hb, hml, hown, hts⟩ (c_X8_firstOrder l D cI cB cZ oM H.size 0 Mmany Mguest Mrow Mbars Mbar Mfresh Mtape Mtaped Mpos Mtoken MtokenAt Mvalue Mwrong MwrongAt MfaultKind MfaultPlace Mthing Morder Mone Mtwo Mbest Mcells Mgap Mwire Mstand Mruns Mminute Mhead Mplays Mrests Mwent Mout Mcame Mgone MlastOut (by omega) (by omega) qMguest qMrow (by omega) qMbar qMfresh qMtape (by omega) (by omega) (by omega) (by omega) (by omega) (by omega) (by omega) (by omega) (by omega) (by omega) qMorder (by omega) (by omega) qMbest (by omega) (by omega) qMwire qMstand (by omega) (by omega) qMhead qMplays qMrests qMwent qMout qMcame qMgone (by omega)) (cwV 0 hts gX8_rank_X8_firstOrder rfl rfl rfl (by decide +kernel) ⟨Nat.le_of_ble_eq_true rfl, Nat.le_of_ble_eq_true rfl⟩) ⟨zPre_blind, va_recv hK hw.1 (ci := 8) (q0 := 0) rfl rfl, z_pre hK hw [0, 1, 2, 3, 4, 5, 6, 7, 8, 9, 10, 11, 12, 13, 14, 15, 16] (by decide) rfl⟩ rfl rfl hl.1 rfl (lv_room (Nat.le_of_ble_eq_true rfl)) dX8_rank_6 ⟨Nat.zero_le _, Nat.zero_le _⟩) hw.2.2 (fun q _ h => hF9 q h) hF9 (fun u9 t9 H_1 locs9 ht9 hvm9 hq9 hB9 hz9 hk9 hS9 => ?_)
  obtain ⟨Morder_2, rfl⟩ : ∃ z, z = u9 := ⟨_, rfl⟩
  try dsimp only at hq9 hB9
  obtain ⟨hq_3, hq_4⟩ := hq9
  have hw : HW D A s.heap (kM cI cB cZ oM 0 Mmany Mguest Mrow Mbars Mbar Mfresh Mtape Mtaped Mpos Mtoken MtokenAt Mvalue Mwrong MwrongAt MfaultKind MfaultPlace Mthing Morder_2 Mone Mtwo Mbest Mcells Mgap Mwire Mstand Mruns Mminute Mhead Mplays Mrests Mwent Mout Mcame Mgone MlastOut) H_1 locs9 := z_after (wc := kM cI cB cZ oM 0 Mmany Mguest Mrow Mbars Mbar Mfresh Mtape Mtaped Mpos Mtoken MtokenAt Mvalue Mwrong MwrongAt MfaultKind MfaultPlace Mthing Morder Mone Mtwo Mbest Mcells Mgap Mwire Mstand Mruns Mminute Mhead Mplays Mrests Mwent Mout Mcame Mgone MlastOut) hw [0, 1, 2, 3, 4, 5, 6, 7, 8, 9, 10, 11, 12, 13, 14, 15, 16] [] rfl rfl (by decide) (by decide) hF9 hk9 ht9 hB9 hS9 [0, 1, 2, 3, 4, 5, 6, 7, 8, 9, 10, 11, 12, 13, 14, 15, 16] (by decide) rfl
  clear hF9 ht9 hvm9 hB9 hz9 hk9 hS9
  refine z_iconst hx hb dX8_rank_9 ?_
  refine lv_istore_n (lv' := [(1, .int (zI 0)), (0, .ref (oM 0))]) hx hb dX8_rank_10 rfl hl (by decide) rfl (fun ls hl => ?_)
  refine z_iconst hx hb dX8_rank_11 ?_
  refine lv_istore_n (lv' := [(2, .int (zI 1)), (1, .int (zI 0)), (0, .ref (oM 0))]) hx hb dX8_rank_12 rfl hl (by decide) rfl (fun ls hl => ?_)
  have hv_5 : (0 : Int) ≤ Mone ∧ Mone ≤ 8 := by
    first | assumption | omega | grind
  have hv_6 : (0 : Int) ≤ Mtwo ∧ Mtwo ≤ 8 := by
    first | assumption | omega | grind
  have hv_7 : enP Mmany Morder_2 (1 : Int) ([]) := by
    exact en_first (by omega) (by assumption)
  have hv_8 : (0 : Int) = ((fil (okL ki lo sh wo on tw nu Mmany Mbars) ([])).length : Int) := by
    rfl
  have hv_9 : ¬ preL Mrow Mmany.toNat ∈ ([]) := by
    exact List.not_mem_nil
  have hv_10 : (1 : Int) = 0 ∨ (1 : Int) = 1 := by
    first | assumption | omega | grind
  refine z_loop (σ := Int × Int × (Int → Int) × Int × Int × List (List Int)) (μ := fun x9 => (ext Kp Mmany Mmany.toNat []).length - x9.2.2.2.2.2.length) (I := fun x9 H locs ls => (RA (x9.2.2.1) (0) 7) ∧ ((0 : Int) ≤ (x9.2.2.2.1) ∧ (x9.2.2.2.1) ≤ 8) ∧ ((0 : Int) ≤ (x9.2.2.2.2.1) ∧ (x9.2.2.2.2.1) ≤ 8) ∧ (enP Mmany (x9.2.2.1) (x9.2.1) x9.2.2.2.2.2) ∧ ((x9.1) = ((fil (okL ki lo sh wo on tw nu Mmany Mbars) x9.2.2.2.2.2).length : Int)) ∧ (¬ preL Mrow Mmany.toNat ∈ x9.2.2.2.2.2) ∧ ((x9.2.1) = 0 ∨ (x9.2.1) = 1) ∧ HW D A s.heap (kM cI cB cZ oM 0 Mmany Mguest Mrow Mbars Mbar Mfresh Mtape Mtaped Mpos Mtoken MtokenAt Mvalue Mwrong MwrongAt MfaultKind MfaultPlace Mthing (x9.2.2.1) (x9.2.2.2.1) (x9.2.2.2.2.1) Mbest Mcells Mgap Mwire Mstand Mruns Mminute Mhead Mplays Mrests Mwent Mout Mcame Mgone MlastOut) H locs ∧ lv_has ls 4 [(0, .ref (oM 0)), (1, .int (zI (x9.1))), (2, .int (zI (x9.2.1)))]) (0, 1, Morder_2, Mone, Mtwo, ([])) ⟨hq_3, hv_5, hv_6, hv_7, hv_8, hv_9, hv_10, hw, lv_sub hl [2, 1, 0] rfl⟩ ?_
  clear hw hl
  intro x9 H locs ls hI ih_11
  obtain ⟨c_12, more_13, Morder_14, Mone_15, Mtwo_16, A_17⟩ := x9
  try dsimp only at hI
  obtain ⟨hR_18, hq_19, hq_20, hI_21, hI_22, hI_23, hI_24, hw, hl⟩ := hI
  refine lv_iload_n hx hb dX8_rank_13 rfl (lv_at hl 2 rfl) ?_
  refine z_if_eq (tgt := 68) hx hb dX8_rank_14 (by decide) (by omega) (fun hc_25 => ?_) (fun hc_25 => ?_)
  · skip
    refine z_iconst hx hb dX8_rank_68 ?_
    have hv_26 : (0 : Int) ≤ (0 : Int) ∧ (0 : Int) ≤ 2 := by
      first | assumption | omega | grind
    have hv_27 : (0 : Int) ≤ Mone_15 ∧ Mone_15 ≤ 8 := by
      first | assumption | omega | grind
    have hv_28 : (0 : Int) ≤ Mtwo_16 ∧ Mtwo_16 ≤ 8 := by
      first | assumption | omega | grind
    have hv_29 : (0 ≤ ((-1) : Int) ∧ (fil (okL ki lo sh wo on tw nu Mmany Mbars) (ext Kp Mmany Mmany.toNat []))[((-1) : Int).toNat]? = some (preL Mrow Mmany.toNat) ∧ ∀ j : Nat, j < ((-1) : Int).toNat → ¬ (fil (okL ki lo sh wo on tw nu Mmany Mbars) (ext Kp Mmany Mmany.toNat []))[j]? = some (preL Mrow Mmany.toNat)) ∨ (((-1) : Int) = -1 ∧ ∀ j : Nat, ¬ (fil (okL ki lo sh wo on tw nu Mmany Mbars) (ext Kp Mmany Mmany.toNat []))[j]? = some (preL Mrow Mmany.toNat)) := by
      refine Or.inr ⟨rfl, fun j q => ?_⟩
      have q9 := (fil_mem.mp (List.mem_of_getElem? q)).1
      rw [en_done (by assumption : enP Mmany Morder_14 more_13 A_17) (by omega)] at q9
      contradiction
    have hv_30 : (0 : Int) = 0 := by
      rfl
    exact W.iret (v := zI (-1)) hx hb hr (fun t9 ht hW => ⟨⟨zI (-1), ((-1), 0, Morder_14, Mone_15, Mtwo_16), rfl, ⟨rfl, ⟨hv_26, hR_18, hv_27, hv_28, hv_29, hv_30⟩⟩, by subst hAe; exact z_end hK hw ht hW⟩, by subst hAe; exact hw.2.2.F ht⟩) (by subst hAe; exact hw.2.2.2.2) dX8_rank_69
  · skip
    refine lv_aload_n hx hb dX8_rank_17 rfl (lv_at hl 0 rfl) ?_
    have hpre_31 : gRel Mmany ki le lo ta sh Mguest := by
      first | assumption | omega | grind
    have hpre_32 : bRel Mbars wo on tw nu Mbar := by
      first | assumption | omega | grind
    have hpre_33 : ∀ i, 0 ≤ i → i < Mmany → 0 ≤ Morder_14 i ∧ Morder_14 i < Mmany := by
      exact fun i i0 i1 => (en_perm (by assumption : enP Mmany Morder_14 more_13 A_17) (by omega)).1 i i0 i1
    have hF9 := z_free (wc := kM cI cB cZ oM 0 Mmany Mguest Mrow Mbars Mbar Mfresh Mtape Mtaped Mpos Mtoken MtokenAt Mvalue Mwrong MwrongAt MfaultKind MfaultPlace Mthing Morder_14 Mone_15 Mtwo_16 Mbest Mcells Mgap Mwire Mstand Mruns Mminute Mhead Mplays Mrests Mwent Mout Mcame Mgone MlastOut) hw hA [0, 1, 2, 3, 4, 5, 6, 7, 8, 9, 10, 11, 12, 13, 14, 15, 16] rfl
    refine va_calli (va_runV (As := []) (rest := []) ⟨hx, hb, hml, hown, hts⟩ (c_X8_broken l D cI cB cZ oM H.size 0 Mmany Mguest Mrow Mbars Mbar Mfresh Mtape Mtaped Mpos Mtoken MtokenAt Mvalue Mwrong MwrongAt MfaultKind MfaultPlace Mthing Morder_14 Mone_15 Mtwo_16 Mbest Mcells Mgap Mwire Mstand Mruns Mminute Mhead Mplays Mrests Mwent Mout Mcame Mgone MlastOut ki le lo ta sh wo on tw nu (by omega) (by omega) qMguest qMrow (by omega) qMbar qMfresh qMtape (by omega) (by omega) (by omega) (by omega) (by omega) (by omega) (by omega) (by omega) (by omega) (by omega) hR_18 (by omega) (by omega) qMbest (by omega) (by omega) qMwire qMstand (by omega) (by omega) qMhead qMplays qMrests qMwent qMout qMcame qMgone (by omega) hpre_31 hpre_32 hpre_33) (cwV 0 hts gX8_rank_X8_broken rfl rfl rfl (by decide +kernel) ⟨Nat.le_of_ble_eq_true rfl, Nat.le_of_ble_eq_true rfl⟩) ⟨zPre_blind, va_recv hK hw.1 (ci := 8) (q0 := 0) rfl rfl, z_pre hK hw [0, 1, 2, 3, 4, 5, 6, 7, 8, 9, 10, 11, 12, 13, 14, 15, 16] (by decide) rfl⟩ rfl rfl hl.1 rfl (lv_room (Nat.le_of_ble_eq_true rfl)) dX8_rank_18 ⟨Nat.zero_le _, Nat.zero_le _⟩) hw.2.2 (fun q _ h => hF9 q h) hF9 (fun r9 u9 t9 H_34 locs9 ht9 hvm9 hq9 hB9 hz9 hk9 hS9 => ?_)
    obtain ⟨r_35, Mone_36, Mtwo_37⟩ := u9
    try dsimp only at hq9 hB9
    obtain ⟨rfl, hq9⟩ := hq9
    obtain ⟨hq_38, hq_39, hq_40, hq_41⟩ := hq9
    have hw : HW D A s.heap (kM cI cB cZ oM 0 Mmany Mguest Mrow Mbars Mbar Mfresh Mtape Mtaped Mpos Mtoken MtokenAt Mvalue Mwrong MwrongAt MfaultKind MfaultPlace Mthing Morder_14 Mone_36 Mtwo_37 Mbest Mcells Mgap Mwire Mstand Mruns Mminute Mhead Mplays Mrests Mwent Mout Mcame Mgone MlastOut) H_34 locs9 := z_after (wc := kM cI cB cZ oM 0 Mmany Mguest Mrow Mbars Mbar Mfresh Mtape Mtaped Mpos Mtoken MtokenAt Mvalue Mwrong MwrongAt MfaultKind MfaultPlace Mthing Morder_14 Mone_15 Mtwo_16 Mbest Mcells Mgap Mwire Mstand Mruns Mminute Mhead Mplays Mrests Mwent Mout Mcame Mgone MlastOut) hw [0, 1, 2, 3, 4, 5, 6, 7, 8, 9, 10, 11, 12, 13, 14, 15, 16] [] rfl rfl (by decide) (by decide) hF9 hk9 ht9 hB9 hS9 [0, 1, 2, 3, 4, 5, 6, 7, 8, 9, 10, 11, 12, 13, 14, 15, 16] (by decide) rfl
    clear hF9 ht9 hvm9 hB9 hz9 hk9 hS9
    refine z_iconst hx hb dX8_rank_21 ?_
    refine z_icmp_ne (tgt := 29) hx hb dX8_rank_22 (by decide) (by omega) (fun hc_42 => ?_) (fun hc_42 => ?_)
    · skip
      refine z_iconst hx hb dX8_rank_29 ?_
      refine lv_istore_n (lv' := [(3, .int (zI 0)), (0, .ref (oM 0)), (1, .int (zI c_12)), (2, .int (zI more_13))]) hx hb dX8_rank_30 rfl hl (by decide) rfl (fun ls hl => ?_)
      refine lv_aload_n hx hb dX8_rank_31 rfl (lv_at hl 1 rfl) ?_
      have hF9 := z_free (wc := kM cI cB cZ oM 0 Mmany Mguest Mrow Mbars Mbar Mfresh Mtape Mtaped Mpos Mtoken MtokenAt Mvalue Mwrong MwrongAt MfaultKind MfaultPlace Mthing Morder_14 Mone_36 Mtwo_37 Mbest Mcells Mgap Mwire Mstand Mruns Mminute Mhead Mplays Mrests Mwent Mout Mcame Mgone MlastOut) hw hA [0, 1, 2, 3, 4, 5, 6, 7, 8, 9, 10, 11, 12, 13, 14, 15, 16] rfl
      refine va_calli (va_runV (As := []) (rest := []) ⟨hx, hb, hml, hown, hts⟩ (c_X8_isRow l D cI cB cZ oM H_34.size 0 Mmany Mguest Mrow Mbars Mbar Mfresh Mtape Mtaped Mpos Mtoken MtokenAt Mvalue Mwrong MwrongAt MfaultKind MfaultPlace Mthing Morder_14 Mone_36 Mtwo_37 Mbest Mcells Mgap Mwire Mstand Mruns Mminute Mhead Mplays Mrests Mwent Mout Mcame Mgone MlastOut (by omega) (by omega) qMguest qMrow (by omega) qMbar qMfresh qMtape (by omega) (by omega) (by omega) (by omega) (by omega) (by omega) (by omega) (by omega) (by omega) (by omega) hR_18 (by omega) (by omega) qMbest (by omega) (by omega) qMwire qMstand (by omega) (by omega) qMhead qMplays qMrests qMwent qMout qMcame qMgone (by omega)) (cwV 0 hts gX8_rank_X8_isRow rfl rfl rfl (by decide +kernel) ⟨Nat.le_of_ble_eq_true rfl, Nat.le_of_ble_eq_true rfl⟩) ⟨zPre_blind, va_recv hK hw.1 (ci := 8) (q0 := 0) rfl rfl, z_pre hK hw [0, 1, 2, 3, 4, 5, 6, 7, 8, 9, 10, 11, 12, 13, 14, 15, 16] (by decide) rfl⟩ rfl rfl hl.1 rfl (lv_room (Nat.le_of_ble_eq_true rfl)) dX8_rank_32 ⟨Nat.zero_le _, Nat.zero_le _⟩) hw.2.2 (fun q _ h => hF9 q h) hF9 (fun r9 u9 t9 H_43 locs9 ht9 hvm9 hq9 hB9 hz9 hk9 hS9 => ?_)
      obtain ⟨r_44, rfl⟩ : ∃ z, z = u9 := ⟨_, rfl⟩
      try dsimp only at hq9 hB9
      obtain ⟨rfl, hq9⟩ := hq9
      have hq_45 := hq9
      have hw : HW D A s.heap (kM cI cB cZ oM 0 Mmany Mguest Mrow Mbars Mbar Mfresh Mtape Mtaped Mpos Mtoken MtokenAt Mvalue Mwrong MwrongAt MfaultKind MfaultPlace Mthing Morder_14 Mone_36 Mtwo_37 Mbest Mcells Mgap Mwire Mstand Mruns Mminute Mhead Mplays Mrests Mwent Mout Mcame Mgone MlastOut) H_43 locs9 := z_after (wc := kM cI cB cZ oM 0 Mmany Mguest Mrow Mbars Mbar Mfresh Mtape Mtaped Mpos Mtoken MtokenAt Mvalue Mwrong MwrongAt MfaultKind MfaultPlace Mthing Morder_14 Mone_36 Mtwo_37 Mbest Mcells Mgap Mwire Mstand Mruns Mminute Mhead Mplays Mrests Mwent Mout Mcame Mgone MlastOut) hw [0, 1, 2, 3, 4, 5, 6, 7, 8, 9, 10, 11, 12, 13, 14, 15, 16] [] rfl rfl (by decide) (by decide) hF9 hk9 ht9 hB9 hS9 [0, 1, 2, 3, 4, 5, 6, 7, 8, 9, 10, 11, 12, 13, 14, 15, 16] (by decide) rfl
      clear hF9 ht9 hvm9 hB9 hz9 hk9 hS9 hq9
      rcases hq_45 with ⟨hc_46, rfl⟩ | ⟨hc_46, rfl⟩
      · skip
        refine z_if_eq (tgt := 48) hx hb dX8_rank_35 (by decide) (by omega) (fun hc_47 => absurd hc_47 (by omega)) (fun hc_47 => ?_)
        refine lv_iload_n hx hb dX8_rank_38 rfl (lv_at hl 0 rfl) ?_
        refine z_if_eq (tgt := 46) hx hb dX8_rank_39 (by decide) (by omega) (fun hc_48 => ?_) (fun hc_48 => absurd hc_48 (by omega))
        refine z_iconst hx hb dX8_rank_46 ?_
        have hv_49 : (0 : Int) ≤ (0 : Int) ∧ (0 : Int) ≤ 2 := by
          first | assumption | omega | grind
        have hv_50 : (0 : Int) ≤ Mone_36 ∧ Mone_36 ≤ 8 := by
          first | assumption | omega | grind
        have hv_51 : (0 : Int) ≤ Mtwo_37 ∧ Mtwo_37 ≤ 8 := by
          first | assumption | omega | grind
        have hv_52 : (0 ≤ ((-1) : Int) ∧ (fil (okL ki lo sh wo on tw nu Mmany Mbars) (ext Kp Mmany Mmany.toNat []))[((-1) : Int).toNat]? = some (preL Mrow Mmany.toNat) ∧ ∀ j : Nat, j < ((-1) : Int).toNat → ¬ (fil (okL ki lo sh wo on tw nu Mmany Mbars) (ext Kp Mmany Mmany.toNat []))[j]? = some (preL Mrow Mmany.toNat)) ∨ (((-1) : Int) = -1 ∧ ∀ j : Nat, ¬ (fil (okL ki lo sh wo on tw nu Mmany Mbars) (ext Kp Mmany Mmany.toNat []))[j]? = some (preL Mrow Mmany.toNat)) := by
          have hok := why_ok (n := Mmany) (by omega) (by assumption : ∃ x y, whyP ki lo sh wo on tw nu Morder_14 Mmany Mbars _ x y ∧ _)
          have e9 : preL Morder_14 Mmany.toNat = preL Mrow Mmany.toNat := preL_congr (fun a a0 a1 => (by assumption : ∀ k, 0 ≤ k → k < Mmany → Morder_14 k = Mrow k) a a0 (by omega))
          first | exact rank_yes (by assumption) (by omega) e9 (hok.mp (by omega)) (by assumption) (by assumption) | exact rank_no e9 (fun q => absurd (hok.mpr q) (by omega))
        have hv_53 : (0 : Int) = 0 := by
          rfl
        exact W.iret (v := zI (-1)) hx hb hr (fun t9 ht hW => ⟨⟨zI (-1), ((-1), 0, Morder_14, Mone_36, Mtwo_37), rfl, ⟨rfl, ⟨hv_49, hR_18, hv_50, hv_51, hv_52, hv_53⟩⟩, by subst hAe; exact z_end hK hw ht hW⟩, by subst hAe; exact hw.2.2.F ht⟩) (by subst hAe; exact hw.2.2.2.2) dX8_rank_47
      · skip
        refine z_if_eq (tgt := 48) hx hb dX8_rank_35 (by decide) (by omega) (fun hc_54 => ?_) (fun hc_54 => absurd hc_54 (by omega))
        refine lv_iload_n hx hb dX8_rank_48 rfl (lv_at hl 2 rfl) ?_
        refine lv_iload_n hx hb dX8_rank_49 rfl (lv_at hl 0 rfl) ?_
        refine z_if_eq (tgt := 57) hx hb dX8_rank_50 (by decide) (by omega) (fun hc_55 => ?_) (fun hc_55 => absurd hc_55 (by omega))
        refine z_iconst hx hb dX8_rank_57 ?_
        refine z_iadd hx hb dX8_rank_58 ?_
        refine lv_istore_n (lv' := [(1, .int (zI (c_12 + 0))), (3, .int (zI 0)), (0, .ref (oM 0)), (2, .int (zI more_13))]) hx hb dX8_rank_59 rfl hl (by decide) rfl (fun ls hl => ?_)
        refine lv_aload_n hx hb dX8_rank_60 rfl (lv_at hl 2 rfl) ?_
        have hF9 := z_free (wc := kM cI cB cZ oM 0 Mmany Mguest Mrow Mbars Mbar Mfresh Mtape Mtaped Mpos Mtoken MtokenAt Mvalue Mwrong MwrongAt MfaultKind MfaultPlace Mthing Morder_14 Mone_36 Mtwo_37 Mbest Mcells Mgap Mwire Mstand Mruns Mminute Mhead Mplays Mrests Mwent Mout Mcame Mgone MlastOut) hw hA [0, 1, 2, 3, 4, 5, 6, 7, 8, 9, 10, 11, 12, 13, 14, 15, 16] rfl
        refine va_calli (va_runV (As := []) (rest := []) ⟨hx, hb, hml, hown, hts⟩ (c_X8_nextOrder l D cI cB cZ oM H_43.size 0 Mmany Mguest Mrow Mbars Mbar Mfresh Mtape Mtaped Mpos Mtoken MtokenAt Mvalue Mwrong MwrongAt MfaultKind MfaultPlace Mthing Morder_14 Mone_36 Mtwo_37 Mbest Mcells Mgap Mwire Mstand Mruns Mminute Mhead Mplays Mrests Mwent Mout Mcame Mgone MlastOut (by omega) (by omega) qMguest qMrow (by omega) qMbar qMfresh qMtape (by omega) (by omega) (by omega) (by omega) (by omega) (by omega) (by omega) (by omega) (by omega) (by omega) hR_18 (by omega) (by omega) qMbest (by omega) (by omega) qMwire qMstand (by omega) (by omega) qMhead qMplays qMrests qMwent qMout qMcame qMgone (by omega)) (cwV 0 hts gX8_rank_X8_nextOrder rfl rfl rfl (by decide +kernel) ⟨Nat.le_of_ble_eq_true rfl, Nat.le_of_ble_eq_true rfl⟩) ⟨zPre_blind, va_recv hK hw.1 (ci := 8) (q0 := 0) rfl rfl, z_pre hK hw [0, 1, 2, 3, 4, 5, 6, 7, 8, 9, 10, 11, 12, 13, 14, 15, 16] (by decide) rfl⟩ rfl rfl hl.1 rfl (lv_room (Nat.le_of_ble_eq_true rfl)) dX8_rank_61 ⟨Nat.zero_le _, Nat.zero_le _⟩) hw.2.2 (fun q _ h => hF9 q h) hF9 (fun r9 u9 t9 H_56 locs9 ht9 hvm9 hq9 hB9 hz9 hk9 hS9 => ?_)
        obtain ⟨r_57, Morder_58⟩ := u9
        try dsimp only at hq9 hB9
        obtain ⟨rfl, hq9⟩ := hq9
        obtain ⟨hq_59, hq_60⟩ := hq9
        have hw : HW D A s.heap (kM cI cB cZ oM 0 Mmany Mguest Mrow Mbars Mbar Mfresh Mtape Mtaped Mpos Mtoken MtokenAt Mvalue Mwrong MwrongAt MfaultKind MfaultPlace Mthing Morder_58 Mone_36 Mtwo_37 Mbest Mcells Mgap Mwire Mstand Mruns Mminute Mhead Mplays Mrests Mwent Mout Mcame Mgone MlastOut) H_56 locs9 := z_after (wc := kM cI cB cZ oM 0 Mmany Mguest Mrow Mbars Mbar Mfresh Mtape Mtaped Mpos Mtoken MtokenAt Mvalue Mwrong MwrongAt MfaultKind MfaultPlace Mthing Morder_14 Mone_36 Mtwo_37 Mbest Mcells Mgap Mwire Mstand Mruns Mminute Mhead Mplays Mrests Mwent Mout Mcame Mgone MlastOut) hw [0, 1, 2, 3, 4, 5, 6, 7, 8, 9, 10, 11, 12, 13, 14, 15, 16] [] rfl rfl (by decide) (by decide) hF9 hk9 ht9 hB9 hS9 [0, 1, 2, 3, 4, 5, 6, 7, 8, 9, 10, 11, 12, 13, 14, 15, 16] (by decide) rfl
        clear hF9 ht9 hvm9 hB9 hz9 hk9 hS9
        refine lv_istore_n (lv' := [(2, .int (zI r_57)), (1, .int (zI (c_12 + 0))), (3, .int (zI 0)), (0, .ref (oM 0))]) hx hb dX8_rank_64 rfl hl (by decide) rfl (fun ls hl => ?_)
        refine lv_goto (tgt := 13) hx hb dX8_rank_65 (by decide) ?_
        have hv_61 : (0 : Int) ≤ Mone_36 ∧ Mone_36 ≤ 8 := by
          first | assumption | omega | grind
        have hv_62 : (0 : Int) ≤ Mtwo_37 ∧ Mtwo_37 ≤ 8 := by
          first | assumption | omega | grind
        have hv_63 : enP Mmany Morder_58 r_57 (A_17 ++ [preL Morder_14 Mmany.toNat]) := by
          exact en_next (by omega) (by assumption) (by omega) (by assumption)
        have hv_64 : (c_12 + 0) = ((fil (okL ki lo sh wo on tw nu Mmany Mbars) (A_17 ++ [preL Morder_14 Mmany.toNat])).length : Int) := by
          have hok := why_ok (n := Mmany) (by omega) (by assumption : ∃ x y, whyP ki lo sh wo on tw nu Morder_14 Mmany Mbars _ x y ∧ _)
          first | (rw [fil_t (hok.mp (by omega)), List.length_append, List.length_singleton]; omega) | (rw [fil_f (fun q => absurd (hok.mpr q) (by omega))]; omega)
        have hv_65 : ¬ preL Mrow Mmany.toNat ∈ (A_17 ++ [preL Morder_14 Mmany.toNat]) := by
          intro q
          rcases List.mem_append.mp q with q | q
          · contradiction
          · have e9 := List.mem_singleton.mp q
            have e8 := preL_inj e9.symm
            exact absurd (fun k k0 k1 => e8 k k0 (by omega)) (by assumption : ¬ ∀ k, 0 ≤ k → k < Mmany → Morder_14 k = Mrow k)
        have hv_66 : r_57 = 0 ∨ r_57 = 1 := by
          first | assumption | omega | grind
        have hm_67 : (ext Kp Mmany Mmany.toNat []).length - (A_17 ++ [preL Morder_14 Mmany.toNat]).length < (ext Kp Mmany Mmany.toNat []).length - A_17.length := by
          have hl9 := en_len (by assumption : enP Mmany Morder_14 more_13 A_17) (by omega)
          simp only [List.length_append, List.length_cons, List.length_nil] at hl9 ⊢
          omega
        exact ih_11 ((c_12 + 0), r_57, Morder_58, Mone_36, Mtwo_37, (A_17 ++ [preL Morder_14 Mmany.toNat])) _ _ _ ⟨hq_59, hv_61, hv_62, hv_63, hv_64, hv_65, hv_66, hw, lv_sub hl [3, 1, 0] rfl⟩ hm_67
    · skip
      refine z_iconst hx hb dX8_rank_25 ?_
      refine lv_goto (tgt := 30) hx hb dX8_rank_26 (by decide) ?_
      refine lv_istore_n (lv' := [(3, .int (zI 1)), (0, .ref (oM 0)), (1, .int (zI c_12)), (2, .int (zI more_13))]) hx hb dX8_rank_30 rfl hl (by decide) rfl (fun ls hl => ?_)
      refine lv_aload_n hx hb dX8_rank_31 rfl (lv_at hl 1 rfl) ?_
      have hF9 := z_free (wc := kM cI cB cZ oM 0 Mmany Mguest Mrow Mbars Mbar Mfresh Mtape Mtaped Mpos Mtoken MtokenAt Mvalue Mwrong MwrongAt MfaultKind MfaultPlace Mthing Morder_14 Mone_36 Mtwo_37 Mbest Mcells Mgap Mwire Mstand Mruns Mminute Mhead Mplays Mrests Mwent Mout Mcame Mgone MlastOut) hw hA [0, 1, 2, 3, 4, 5, 6, 7, 8, 9, 10, 11, 12, 13, 14, 15, 16] rfl
      refine va_calli (va_runV (As := []) (rest := []) ⟨hx, hb, hml, hown, hts⟩ (c_X8_isRow l D cI cB cZ oM H_34.size 0 Mmany Mguest Mrow Mbars Mbar Mfresh Mtape Mtaped Mpos Mtoken MtokenAt Mvalue Mwrong MwrongAt MfaultKind MfaultPlace Mthing Morder_14 Mone_36 Mtwo_37 Mbest Mcells Mgap Mwire Mstand Mruns Mminute Mhead Mplays Mrests Mwent Mout Mcame Mgone MlastOut (by omega) (by omega) qMguest qMrow (by omega) qMbar qMfresh qMtape (by omega) (by omega) (by omega) (by omega) (by omega) (by omega) (by omega) (by omega) (by omega) (by omega) hR_18 (by omega) (by omega) qMbest (by omega) (by omega) qMwire qMstand (by omega) (by omega) qMhead qMplays qMrests qMwent qMout qMcame qMgone (by omega)) (cwV 0 hts gX8_rank_X8_isRow rfl rfl rfl (by decide +kernel) ⟨Nat.le_of_ble_eq_true rfl, Nat.le_of_ble_eq_true rfl⟩) ⟨zPre_blind, va_recv hK hw.1 (ci := 8) (q0 := 0) rfl rfl, z_pre hK hw [0, 1, 2, 3, 4, 5, 6, 7, 8, 9, 10, 11, 12, 13, 14, 15, 16] (by decide) rfl⟩ rfl rfl hl.1 rfl (lv_room (Nat.le_of_ble_eq_true rfl)) dX8_rank_32 ⟨Nat.zero_le _, Nat.zero_le _⟩) hw.2.2 (fun q _ h => hF9 q h) hF9 (fun r9 u9 t9 H_68 locs9 ht9 hvm9 hq9 hB9 hz9 hk9 hS9 => ?_)
      obtain ⟨r_69, rfl⟩ : ∃ z, z = u9 := ⟨_, rfl⟩
      try dsimp only at hq9 hB9
      obtain ⟨rfl, hq9⟩ := hq9
      have hq_70 := hq9
      have hw : HW D A s.heap (kM cI cB cZ oM 0 Mmany Mguest Mrow Mbars Mbar Mfresh Mtape Mtaped Mpos Mtoken MtokenAt Mvalue Mwrong MwrongAt MfaultKind MfaultPlace Mthing Morder_14 Mone_36 Mtwo_37 Mbest Mcells Mgap Mwire Mstand Mruns Mminute Mhead Mplays Mrests Mwent Mout Mcame Mgone MlastOut) H_68 locs9 := z_after (wc := kM cI cB cZ oM 0 Mmany Mguest Mrow Mbars Mbar Mfresh Mtape Mtaped Mpos Mtoken MtokenAt Mvalue Mwrong MwrongAt MfaultKind MfaultPlace Mthing Morder_14 Mone_36 Mtwo_37 Mbest Mcells Mgap Mwire Mstand Mruns Mminute Mhead Mplays Mrests Mwent Mout Mcame Mgone MlastOut) hw [0, 1, 2, 3, 4, 5, 6, 7, 8, 9, 10, 11, 12, 13, 14, 15, 16] [] rfl rfl (by decide) (by decide) hF9 hk9 ht9 hB9 hS9 [0, 1, 2, 3, 4, 5, 6, 7, 8, 9, 10, 11, 12, 13, 14, 15, 16] (by decide) rfl
      clear hF9 ht9 hvm9 hB9 hz9 hk9 hS9 hq9
      rcases hq_70 with ⟨hc_71, rfl⟩ | ⟨hc_71, rfl⟩
      · skip
        refine z_if_eq (tgt := 48) hx hb dX8_rank_35 (by decide) (by omega) (fun hc_72 => absurd hc_72 (by omega)) (fun hc_72 => ?_)
        refine lv_iload_n hx hb dX8_rank_38 rfl (lv_at hl 0 rfl) ?_
        refine z_if_eq (tgt := 46) hx hb dX8_rank_39 (by decide) (by omega) (fun hc_73 => absurd hc_73 (by omega)) (fun hc_73 => ?_)
        refine lv_iload_n hx hb dX8_rank_42 rfl (lv_at hl 2 rfl) ?_
        refine lv_goto (tgt := 47) hx hb dX8_rank_43 (by decide) ?_
        have hv_74 : (0 : Int) ≤ (0 : Int) ∧ (0 : Int) ≤ 2 := by
          first | assumption | omega | grind
        have hv_75 : (0 : Int) ≤ Mone_36 ∧ Mone_36 ≤ 8 := by
          first | assumption | omega | grind
        have hv_76 : (0 : Int) ≤ Mtwo_37 ∧ Mtwo_37 ≤ 8 := by
          first | assumption | omega | grind
        have hv_77 : (0 ≤ c_12 ∧ (fil (okL ki lo sh wo on tw nu Mmany Mbars) (ext Kp Mmany Mmany.toNat []))[c_12.toNat]? = some (preL Mrow Mmany.toNat) ∧ ∀ j : Nat, j < c_12.toNat → ¬ (fil (okL ki lo sh wo on tw nu Mmany Mbars) (ext Kp Mmany Mmany.toNat []))[j]? = some (preL Mrow Mmany.toNat)) ∨ (c_12 = -1 ∧ ∀ j : Nat, ¬ (fil (okL ki lo sh wo on tw nu Mmany Mbars) (ext Kp Mmany Mmany.toNat []))[j]? = some (preL Mrow Mmany.toNat)) := by
          have hok := why_ok (n := Mmany) (by omega) (by assumption : ∃ x y, whyP ki lo sh wo on tw nu Morder_14 Mmany Mbars _ x y ∧ _)
          have e9 : preL Morder_14 Mmany.toNat = preL Mrow Mmany.toNat := preL_congr (fun a a0 a1 => (by assumption : ∀ k, 0 ≤ k → k < Mmany → Morder_14 k = Mrow k) a a0 (by omega))
          first | exact rank_yes (by assumption) (by omega) e9 (hok.mp (by omega)) (by assumption) (by assumption) | exact rank_no e9 (fun q => absurd (hok.mpr q) (by omega))
        have hv_78 : (0 : Int) = 0 := by
          rfl
        exact W.iret (v := zI c_12) hx hb hr (fun t9 ht hW => ⟨⟨zI c_12, (c_12, 0, Morder_14, Mone_36, Mtwo_37), rfl, ⟨rfl, ⟨hv_74, hR_18, hv_75, hv_76, hv_77, hv_78⟩⟩, by subst hAe; exact z_end hK hw ht hW⟩, by subst hAe; exact hw.2.2.F ht⟩) (by subst hAe; exact hw.2.2.2.2) dX8_rank_47
      · skip
        refine z_if_eq (tgt := 48) hx hb dX8_rank_35 (by decide) (by omega) (fun hc_79 => ?_) (fun hc_79 => absurd hc_79 (by omega))
        refine lv_iload_n hx hb dX8_rank_48 rfl (lv_at hl 2 rfl) ?_
        refine lv_iload_n hx hb dX8_rank_49 rfl (lv_at hl 0 rfl) ?_
        refine z_if_eq (tgt := 57) hx hb dX8_rank_50 (by decide) (by omega) (fun hc_80 => absurd hc_80 (by omega)) (fun hc_80 => ?_)
        refine z_iconst hx hb dX8_rank_53 ?_
        refine lv_goto (tgt := 58) hx hb dX8_rank_54 (by decide) ?_
        refine z_iadd hx hb dX8_rank_58 ?_
        refine lv_istore_n (lv' := [(1, .int (zI (c_12 + 1))), (3, .int (zI 1)), (0, .ref (oM 0)), (2, .int (zI more_13))]) hx hb dX8_rank_59 rfl hl (by decide) rfl (fun ls hl => ?_)
        refine lv_aload_n hx hb dX8_rank_60 rfl (lv_at hl 2 rfl) ?_
        have hF9 := z_free (wc := kM cI cB cZ oM 0 Mmany Mguest Mrow Mbars Mbar Mfresh Mtape Mtaped Mpos Mtoken MtokenAt Mvalue Mwrong MwrongAt MfaultKind MfaultPlace Mthing Morder_14 Mone_36 Mtwo_37 Mbest Mcells Mgap Mwire Mstand Mruns Mminute Mhead Mplays Mrests Mwent Mout Mcame Mgone MlastOut) hw hA [0, 1, 2, 3, 4, 5, 6, 7, 8, 9, 10, 11, 12, 13, 14, 15, 16] rfl
        refine va_calli (va_runV (As := []) (rest := []) ⟨hx, hb, hml, hown, hts⟩ (c_X8_nextOrder l D cI cB cZ oM H_68.size 0 Mmany Mguest Mrow Mbars Mbar Mfresh Mtape Mtaped Mpos Mtoken MtokenAt Mvalue Mwrong MwrongAt MfaultKind MfaultPlace Mthing Morder_14 Mone_36 Mtwo_37 Mbest Mcells Mgap Mwire Mstand Mruns Mminute Mhead Mplays Mrests Mwent Mout Mcame Mgone MlastOut (by omega) (by omega) qMguest qMrow (by omega) qMbar qMfresh qMtape (by omega) (by omega) (by omega) (by omega) (by omega) (by omega) (by omega) (by omega) (by omega) (by omega) hR_18 (by omega) (by omega) qMbest (by omega) (by omega) qMwire qMstand (by omega) (by omega) qMhead qMplays qMrests qMwent qMout qMcame qMgone (by omega)) (cwV 0 hts gX8_rank_X8_nextOrder rfl rfl rfl (by decide +kernel) ⟨Nat.le_of_ble_eq_true rfl, Nat.le_of_ble_eq_true rfl⟩) ⟨zPre_blind, va_recv hK hw.1 (ci := 8) (q0 := 0) rfl rfl, z_pre hK hw [0, 1, 2, 3, 4, 5, 6, 7, 8, 9, 10, 11, 12, 13, 14, 15, 16] (by decide) rfl⟩ rfl rfl hl.1 rfl (lv_room (Nat.le_of_ble_eq_true rfl)) dX8_rank_61 ⟨Nat.zero_le _, Nat.zero_le _⟩) hw.2.2 (fun q _ h => hF9 q h) hF9 (fun r9 u9 t9 H_81 locs9 ht9 hvm9 hq9 hB9 hz9 hk9 hS9 => ?_)
        obtain ⟨r_82, Morder_83⟩ := u9
        try dsimp only at hq9 hB9
        obtain ⟨rfl, hq9⟩ := hq9
        obtain ⟨hq_84, hq_85⟩ := hq9
        have hw : HW D A s.heap (kM cI cB cZ oM 0 Mmany Mguest Mrow Mbars Mbar Mfresh Mtape Mtaped Mpos Mtoken MtokenAt Mvalue Mwrong MwrongAt MfaultKind MfaultPlace Mthing Morder_83 Mone_36 Mtwo_37 Mbest Mcells Mgap Mwire Mstand Mruns Mminute Mhead Mplays Mrests Mwent Mout Mcame Mgone MlastOut) H_81 locs9 := z_after (wc := kM cI cB cZ oM 0 Mmany Mguest Mrow Mbars Mbar Mfresh Mtape Mtaped Mpos Mtoken MtokenAt Mvalue Mwrong MwrongAt MfaultKind MfaultPlace Mthing Morder_14 Mone_36 Mtwo_37 Mbest Mcells Mgap Mwire Mstand Mruns Mminute Mhead Mplays Mrests Mwent Mout Mcame Mgone MlastOut) hw [0, 1, 2, 3, 4, 5, 6, 7, 8, 9, 10, 11, 12, 13, 14, 15, 16] [] rfl rfl (by decide) (by decide) hF9 hk9 ht9 hB9 hS9 [0, 1, 2, 3, 4, 5, 6, 7, 8, 9, 10, 11, 12, 13, 14, 15, 16] (by decide) rfl
        clear hF9 ht9 hvm9 hB9 hz9 hk9 hS9
        refine lv_istore_n (lv' := [(2, .int (zI r_82)), (1, .int (zI (c_12 + 1))), (3, .int (zI 1)), (0, .ref (oM 0))]) hx hb dX8_rank_64 rfl hl (by decide) rfl (fun ls hl => ?_)
        refine lv_goto (tgt := 13) hx hb dX8_rank_65 (by decide) ?_
        have hv_86 : (0 : Int) ≤ Mone_36 ∧ Mone_36 ≤ 8 := by
          first | assumption | omega | grind
        have hv_87 : (0 : Int) ≤ Mtwo_37 ∧ Mtwo_37 ≤ 8 := by
          first | assumption | omega | grind
        have hv_88 : enP Mmany Morder_83 r_82 (A_17 ++ [preL Morder_14 Mmany.toNat]) := by
          exact en_next (by omega) (by assumption) (by omega) (by assumption)
        have hv_89 : (c_12 + 1) = ((fil (okL ki lo sh wo on tw nu Mmany Mbars) (A_17 ++ [preL Morder_14 Mmany.toNat])).length : Int) := by
          have hok := why_ok (n := Mmany) (by omega) (by assumption : ∃ x y, whyP ki lo sh wo on tw nu Morder_14 Mmany Mbars _ x y ∧ _)
          first | (rw [fil_t (hok.mp (by omega)), List.length_append, List.length_singleton]; omega) | (rw [fil_f (fun q => absurd (hok.mpr q) (by omega))]; omega)
        have hv_90 : ¬ preL Mrow Mmany.toNat ∈ (A_17 ++ [preL Morder_14 Mmany.toNat]) := by
          intro q
          rcases List.mem_append.mp q with q | q
          · contradiction
          · have e9 := List.mem_singleton.mp q
            have e8 := preL_inj e9.symm
            exact absurd (fun k k0 k1 => e8 k k0 (by omega)) (by assumption : ¬ ∀ k, 0 ≤ k → k < Mmany → Morder_14 k = Mrow k)
        have hv_91 : r_82 = 0 ∨ r_82 = 1 := by
          first | assumption | omega | grind
        have hm_92 : (ext Kp Mmany Mmany.toNat []).length - (A_17 ++ [preL Morder_14 Mmany.toNat]).length < (ext Kp Mmany Mmany.toNat []).length - A_17.length := by
          have hl9 := en_len (by assumption : enP Mmany Morder_14 more_13 A_17) (by omega)
          simp only [List.length_append, List.length_cons, List.length_nil] at hl9 ⊢
          omega
        exact ih_11 ((c_12 + 1), r_82, Morder_83, Mone_36, Mtwo_37, (A_17 ++ [preL Morder_14 Mmany.toNat])) _ _ _ ⟨hq_84, hv_86, hv_87, hv_88, hv_89, hv_90, hv_91, hw, lv_sub hl [3, 1, 0] rfl⟩ hm_92
