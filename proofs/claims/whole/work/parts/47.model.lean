set_option maxRecDepth 100000 in
set_option maxHeartbeats 4000000 in
theorem c_X8_best (l : Launch) (D : va_G) (cI cB cZ : ClassId) (oM : Nat → Nat) (sz : Nat) (Mthrown : Int) (Mmany : Int) (Mguest : Int → Int) (Mrow : Int → Int) (Mbars : Int) (Mbar : Int → Int) (Mfresh : Int → Int) (Mtape : Int → Int) (Mtaped : Int) (Mpos : Int) (Mtoken : Int) (MtokenAt : Int) (Mvalue : Int) (Mwrong : Int) (MwrongAt : Int) (MfaultKind : Int) (MfaultPlace : Int) (Mthing : Int) (Morder : Int → Int) (Mone : Int) (Mtwo : Int) (Mbest : Int → Int) (Mcells : Int) (Mgap : Int) (Mwire : Int → Int) (Mstand : Int → Int) (Mruns : Int) (Mminute : Int) (Mhead : Int → Int) (Mplays : Int → Int) (Mrests : Int → Int) (Mwent : Int → Int) (Mout : Int → Int) (Mcame : Int → Int) (Mgone : Int → Int) (MlastOut : Int) (ki : Int → Int) (le : Int → Int) (lo : Int → Int) (ta : Int → Int) (sh : Int → Int) (wo : Int → Int) (on : Int → Int) (tw : Int → Int) (nu : Int → Int) (qMthrown : 0 ≤ Mthrown ∧ Mthrown ≤ 2) (qMmany : 0 ≤ Mmany ∧ Mmany ≤ 8) (qMguest : RA Mguest (0) 9) (qMrow : RA Mrow (0) 7) (qMbars : 0 ≤ Mbars ∧ Mbars ≤ 10) (qMbar : RA Mbar (0) 104) (qMfresh : RA Mfresh (0) 104) (qMtape : RA Mtape (0) 255) (qMtaped : 0 ≤ Mtaped ∧ Mtaped ≤ 400) (qMpos : 0 ≤ Mpos ∧ Mpos ≤ 400) (qMtoken : 0 ≤ Mtoken ∧ Mtoken ≤ 15) (qMtokenAt : 0 ≤ MtokenAt ∧ MtokenAt ≤ 400) (qMvalue : 0 ≤ Mvalue ∧ Mvalue ≤ 99) (qMwrong : 0 ≤ Mwrong ∧ Mwrong ≤ 3) (qMwrongAt : 0 ≤ MwrongAt ∧ MwrongAt ≤ 400) (qMfaultKind : 0 ≤ MfaultKind ∧ MfaultKind ≤ 3) (qMfaultPlace : -1 ≤ MfaultPlace ∧ MfaultPlace ≤ 400) (qMthing : 0 ≤ Mthing ∧ Mthing ≤ 104) (qMorder : RA Morder (0) 7) (qMone : 0 ≤ Mone ∧ Mone ≤ 8) (qMtwo : 0 ≤ Mtwo ∧ Mtwo ≤ 8) (qMbest : RA Mbest (0) 7) (qMcells : 1 ≤ Mcells ∧ Mcells ≤ 50) (qMgap : 0 ≤ Mgap ∧ Mgap ≤ 3) (qMwire : RA Mwire (0) 9) (qMstand : RA Mstand (0) 9) (qMruns : 0 ≤ Mruns ∧ Mruns ≤ 1) (qMminute : 0 ≤ Mminute ∧ Mminute ≤ 1000000) (qMhead : RA Mhead (-1) 60) (qMplays : RA Mplays (0) 18) (qMrests : RA Mrests (0) 3) (qMwent : RA Mwent (0) 61) (qMout : RA Mout (0) 1) (qMcame : RA Mcame (-1) 1000000) (qMgone : RA Mgone (-1) 1000000) (qMlastOut : 0 ≤ MlastOut ∧ MlastOut ≤ 1000000) (hp0 : gRel Mmany ki le lo ta sh Mguest) (hp1 : bRel Mbars wo on tw nu Mbar) (hp2 : (ext Kp Mmany Mmany.toNat []).length ≤ 40320) (hp3 : RA lo 0 9) : Met l yX8_best wsX8_best ({ frames := 4, cells := 0, slots := 0, locals := 94 }) (va_Pc [.ref (oM 0)] (zPre D cI cB cZ sz (kM cI cB cZ oM Mthrown Mmany Mguest Mrow Mbars Mbar Mfresh Mtape Mtaped Mpos Mtoken MtokenAt Mvalue Mwrong MwrongAt MfaultKind MfaultPlace Mthing Morder Mone Mtwo Mbest Mcells Mgap Mwire Mstand Mruns Mminute Mhead Mplays Mrests Mwent Mout Mcame Mgone MlastOut))) (va_Qi (fun (r9 : Int32) (u9 : Int × Int × (Int → Int) × (Int → Int) × Int × Int × (Int → Int) × Int) => r9 = zI u9.1 ∧ (((0 : Int) ≤ u9.2.1 ∧ u9.2.1 ≤ 2) ∧ (RA u9.2.2.1 (0) 7) ∧ (RA u9.2.2.2.1 (0) 7) ∧ ((0 : Int) ≤ u9.2.2.2.2.1 ∧ u9.2.2.2.2.1 ≤ 8) ∧ ((0 : Int) ≤ u9.2.2.2.2.2.1 ∧ u9.2.2.2.2.2.1 ≤ 8) ∧ (RA u9.2.2.2.2.2.2.1 (0) 7) ∧ ((0 : Int) ≤ u9.2.2.2.2.2.2.2 ∧ u9.2.2.2.2.2.2.2 ≤ 1) ∧ (u9.1 = (bestK (noiL lo Mmany) (-1, []) (fil (okL ki lo sh wo on tw nu Mmany Mbars) (ext Kp Mmany Mmany.toNat []))).1) ∧ ((u9.1 = -1 ∧ u9.2.2.1 = Mrow ∧ u9.2.2.2.2.2.2.2 = Mruns) ∨ (¬ u9.1 = -1 ∧ preL u9.2.2.1 Mmany.toNat = (bestK (noiL lo Mmany) (-1, []) (fil (okL ki lo sh wo on tw nu Mmany Mbars) (ext Kp Mmany Mmany.toNat []))).2 ∧ u9.2.2.2.2.2.2.2 = 0)) ∧ (u9.2.1 = 0))) (fun u9 t9 => zAt D cI cB cZ (va_A (kM cI cB cZ oM Mthrown Mmany Mguest Mrow Mbars Mbar Mfresh Mtape Mtaped Mpos Mtoken MtokenAt Mvalue Mwrong MwrongAt MfaultKind MfaultPlace Mthing Morder Mone Mtwo Mbest Mcells Mgap Mwire Mstand Mruns Mminute Mhead Mplays Mrests Mwent Mout Mcame Mgone MlastOut) sz) (kM cI cB cZ oM (u9.2.1) Mmany Mguest (u9.2.2.1) Mbars Mbar Mfresh Mtape Mtaped Mpos Mtoken MtokenAt Mvalue Mwrong MwrongAt MfaultKind MfaultPlace Mthing (u9.2.2.2.1) (u9.2.2.2.2.1) (u9.2.2.2.2.2.1) (u9.2.2.2.2.2.2.1) Mcells Mgap Mwire Mstand (u9.2.2.2.2.2.2.2) Mminute Mhead Mplays Mrests Mwent Mout Mcame Mgone MlastOut) t9) (va_A (kM cI cB cZ oM Mthrown Mmany Mguest Mrow Mbars Mbar Mfresh Mtape Mtaped Mpos Mtoken MtokenAt Mvalue Mwrong MwrongAt MfaultKind MfaultPlace Mthing Morder Mone Mtwo Mbest Mcells Mgap Mwire Mstand Mruns Mminute Mhead Mplays Mrests Mwent Mout Mcame Mgone MlastOut) sz)) 0 0 (va_A (kM cI cB cZ oM Mthrown Mmany Mguest Mrow Mbars Mbar Mfresh Mtape Mtaped Mpos Mtoken MtokenAt Mvalue Mwrong MwrongAt MfaultKind MfaultPlace Mthing Morder Mone Mtwo Mbest Mcells Mgap Mwire Mstand Mruns Mminute Mhead Mplays Mrests Mwent Mout Mcame Mgone MlastOut) sz) := by
  refine Met.ofW (cc := cX8_best) (maxL := 5) (ret := (some .int)) (by decide) rfl ?_
  intro pp ee s mm aa bw mt cd s₁ BL hml hv
  obtain ⟨rfl, hsz, hP, hK, hD0⟩ := hv
  have hx := BL.exec
  have hb := BL.bytes
  have hr := BL.returns
  have hts := atoms_spec (ws := wsX8_best) BL.pre
  have hown : s.vm.findClass RX8 = some mm.cls := findClass_of_methodNamed BL.named
  have hlocks := BL.notSynchronized
  subst hsz
  generalize hAe : va_A (kM cI cB cZ oM Mthrown Mmany Mguest Mrow Mbars Mbar Mfresh Mtape Mtaped Mpos Mtoken MtokenAt Mvalue Mwrong MwrongAt MfaultKind MfaultPlace Mthing Morder Mone Mtwo Mbest Mcells Mgap Mwire Mstand Mruns Mminute Mhead Mplays Mrests Mwent Mout Mcame Mgone MlastOut) s.heap.size = A
  have hA : ∀ q : Nat, s.heap.size ≤ q → A q := fun q h => by rw [← hAe]; exact Or.inr h
  have hw : HW D A s.heap (kM cI cB cZ oM Mthrown Mmany Mguest Mrow Mbars Mbar Mfresh Mtape Mtaped Mpos Mtoken MtokenAt Mvalue Mwrong MwrongAt MfaultKind MfaultPlace Mthing Morder Mone Mtwo Mbest Mcells Mgap Mwire Mstand Mruns Mminute Mhead Mplays Mrests Mwent Mout Mcame Mgone MlastOut) s.heap [] := z_start hAe hP hD0
  clear hP hD0
  have hl := lv_entry ([.ref (oM 0)]) (n := 5) (Nat.le_of_ble_eq_true rfl)
  rw [lg_entry_eq]
  generalize (lg_sl ([.ref (oM 0)]) ++ List.replicate (5 - (lg_sl ([.ref (oM 0)])).length) Slot.unset).toArray = ls at hl ⊢
  have hl : lv_has ls 5 [(0, .ref (oM 0))] := hl
  have hinX8 : ∀ w ∈ wsX80, w ∈ wsX8_best := by decide +kernel
  refine lv_aload_n hx hb dX8_best_0 rfl (lv_at hl 0 rfl) ?_
  refine z_iconst hx hb dX8_best_1 ?_
  refine z_put (D := D) (ci := 8) (v := .int (zI 0)) (ty := .int) (C := RX8) (T := TX8) (N := 36) (ws2 := kM cI cB cZ oM 0 Mmany Mguest Mrow Mbars Mbar Mfresh Mtape Mtaped Mpos Mtoken MtokenAt Mvalue Mwrong MwrongAt MfaultKind MfaultPlace Mthing Morder Mone Mtwo Mbest Mcells Mgap Mwire Mstand Mruns Mminute Mhead Mplays Mrests Mwent Mout Mcame Mgone MlastOut) hx hb hts hinX8 tyX8 tyX8_ok nmX8 hown hK hw 0 rfl rfl 0 (by decide) (hts (.fieldLink RX8 69 "CarnivalRoadModel" "thrown" "I") (by decide +kernel)) (fun _ h9 => h9) rfl (by decide +kernel) rfl rfl (Nat.le_of_ble_eq_true rfl) dX8_best_2 rfl (fun H locs hw => ?_)
  refine lv_aload_n hx hb dX8_best_5 rfl (lv_at hl 0 rfl) ?_
  have hF9 := z_free (wc := kM cI cB cZ oM 0 Mmany Mguest Mrow Mbars Mbar Mfresh Mtape Mtaped Mpos Mtoken MtokenAt Mvalue Mwrong MwrongAt MfaultKind MfaultPlace Mthing Morder Mone Mtwo Mbest Mcells Mgap Mwire Mstand Mruns Mminute Mhead Mplays Mrests Mwent Mout Mcame Mgone MlastOut) hw hA [0, 1, 2, 3, 4, 5, 6, 7, 8, 9, 10, 11, 12, 13, 14, 15, 16] rfl
  refine va_callv (va_runV (As := []) (rest := []) ⟨hx, hb, hml, hown, hts⟩ (c_X8_firstOrder l D cI cB cZ oM H.size 0 Mmany Mguest Mrow Mbars Mbar Mfresh Mtape Mtaped Mpos Mtoken MtokenAt Mvalue Mwrong MwrongAt MfaultKind MfaultPlace Mthing Morder Mone Mtwo Mbest Mcells Mgap Mwire Mstand Mruns Mminute Mhead Mplays Mrests Mwent Mout Mcame Mgone MlastOut (by omega) (by omega) qMguest qMrow (by omega) qMbar qMfresh qMtape (by omega) (by omega) (by omega) (by omega) (by omega) (by omega) (by omega) (by omega) (by omega) (by omega) qMorder (by omega) (by omega) qMbest (by omega) (by omega) qMwire qMstand (by omega) (by omega) qMhead qMplays qMrests qMwent qMout qMcame qMgone (by omega)) (cwV 0 hts gX8_best_X8_firstOrder rfl rfl rfl (by decide +kernel) ⟨Nat.le_of_ble_eq_true rfl, Nat.le_of_ble_eq_true rfl⟩) ⟨zPre_blind, va_recv hK hw.1 (ci := 8) (q0 := 0) rfl rfl, z_pre hK hw [0, 1, 2, 3, 4, 5, 6, 7, 8, 9, 10, 11, 12, 13, 14, 15, 16] (by decide) rfl⟩ rfl rfl hl.1 rfl (lv_room (Nat.le_of_ble_eq_true rfl)) dX8_best_6 ⟨Nat.zero_le _, Nat.zero_le _⟩) hw.2.2 (fun q _ h => hF9 q h) hF9 (fun u9 t9 H_1 locs9 ht9 hvm9 hq9 hB9 hz9 hk9 hS9 => ?_)
  obtain ⟨Morder_2, rfl⟩ : ∃ z, z = u9 := ⟨_, rfl⟩
  try dsimp only at hq9 hB9
  obtain ⟨hq_3, hq_4⟩ := hq9
  have hw : HW D A s.heap (kM cI cB cZ oM 0 Mmany Mguest Mrow Mbars Mbar Mfresh Mtape Mtaped Mpos Mtoken MtokenAt Mvalue Mwrong MwrongAt MfaultKind MfaultPlace Mthing Morder_2 Mone Mtwo Mbest Mcells Mgap Mwire Mstand Mruns Mminute Mhead Mplays Mrests Mwent Mout Mcame Mgone MlastOut) H_1 locs9 := z_after (wc := kM cI cB cZ oM 0 Mmany Mguest Mrow Mbars Mbar Mfresh Mtape Mtaped Mpos Mtoken MtokenAt Mvalue Mwrong MwrongAt MfaultKind MfaultPlace Mthing Morder Mone Mtwo Mbest Mcells Mgap Mwire Mstand Mruns Mminute Mhead Mplays Mrests Mwent Mout Mcame Mgone MlastOut) hw [0, 1, 2, 3, 4, 5, 6, 7, 8, 9, 10, 11, 12, 13, 14, 15, 16] [] rfl rfl (by decide) (by decide) hF9 hk9 ht9 hB9 hS9 [0, 1, 2, 3, 4, 5, 6, 7, 8, 9, 10, 11, 12, 13, 14, 15, 16] (by decide) rfl
  clear hF9 ht9 hvm9 hB9 hz9 hk9 hS9
  refine z_iconst hx hb dX8_best_9 ?_
  refine lv_istore_n (lv' := [(1, .int (zI (-1))), (0, .ref (oM 0))]) hx hb dX8_best_10 rfl hl (by decide) rfl (fun ls hl => ?_)
  refine z_iconst hx hb dX8_best_11 ?_
  refine lv_istore_n (lv' := [(2, .int (zI 1)), (1, .int (zI (-1))), (0, .ref (oM 0))]) hx hb dX8_best_12 rfl hl (by decide) rfl (fun ls hl => ?_)
  have hv_5 : (0 : Int) ≤ Mone ∧ Mone ≤ 8 := by
    first | assumption | omega | grind
  have hv_6 : (0 : Int) ≤ Mtwo ∧ Mtwo ≤ 8 := by
    first | assumption | omega | grind
  have hv_7 : enP Mmany Morder_2 (1 : Int) ([]) := by
    exact en_first (by omega) (by assumption)
  have hv_8 : -1 ≤ ((-1) : Int) ∧ ((-1) : Int) ≤ 1000 := by
    first | assumption | omega | grind
  have hv_9 : ∃ bl, ((((-1) : Int) = -1 ∧ bl = []) ∨ (¬ ((-1) : Int) = -1 ∧ bl = preL Mbest Mmany.toNat)) ∧ bestK (noiL lo Mmany) (-1, []) (fil (okL ki lo sh wo on tw nu Mmany Mbars) ([])) = (((-1) : Int), bl) := by
    exact ⟨[], Or.inl ⟨rfl, rfl⟩, rfl⟩
  have hv_10 : (1 : Int) = 0 ∨ (1 : Int) = 1 := by
    first | assumption | omega | grind
  refine z_loop (σ := Int × Int × (Int → Int) × Int × Int × (Int → Int) × List (List Int)) (μ := fun x9 => (ext Kp Mmany Mmany.toNat []).length - x9.2.2.2.2.2.2.length) (I := fun x9 H locs ls => (RA (x9.2.2.1) (0) 7) ∧ ((0 : Int) ≤ (x9.2.2.2.1) ∧ (x9.2.2.2.1) ≤ 8) ∧ ((0 : Int) ≤ (x9.2.2.2.2.1) ∧ (x9.2.2.2.2.1) ≤ 8) ∧ (RA (x9.2.2.2.2.2.1) (0) 7) ∧ (enP Mmany (x9.2.2.1) (x9.2.1) x9.2.2.2.2.2.2) ∧ (-1 ≤ (x9.1) ∧ (x9.1) ≤ 1000) ∧ (∃ bl, (((x9.1) = -1 ∧ bl = []) ∨ (¬ (x9.1) = -1 ∧ bl = preL (x9.2.2.2.2.2.1) Mmany.toNat)) ∧ bestK (noiL lo Mmany) (-1, []) (fil (okL ki lo sh wo on tw nu Mmany Mbars) x9.2.2.2.2.2.2) = ((x9.1), bl)) ∧ ((x9.2.1) = 0 ∨ (x9.2.1) = 1) ∧ HW D A s.heap (kM cI cB cZ oM 0 Mmany Mguest Mrow Mbars Mbar Mfresh Mtape Mtaped Mpos Mtoken MtokenAt Mvalue Mwrong MwrongAt MfaultKind MfaultPlace Mthing (x9.2.2.1) (x9.2.2.2.1) (x9.2.2.2.2.1) (x9.2.2.2.2.2.1) Mcells Mgap Mwire Mstand Mruns Mminute Mhead Mplays Mrests Mwent Mout Mcame Mgone MlastOut) H locs ∧ lv_has ls 5 [(0, .ref (oM 0)), (1, .int (zI (x9.1))), (2, .int (zI (x9.2.1)))]) ((-1), 1, Morder_2, Mone, Mtwo, Mbest, ([])) ⟨hq_3, hv_5, hv_6, qMbest, hv_7, hv_8, hv_9, hv_10, hw, lv_sub hl [2, 1, 0] rfl⟩ ?_
  clear hw hl
  intro x9 H locs ls hI ih_11
  obtain ⟨lst_12, more_13, Morder_14, Mone_15, Mtwo_16, Mbest_17, A_18⟩ := x9
  try dsimp only at hI
  obtain ⟨hR_19, hq_20, hq_21, hR_22, hI_23, hI_24, hI_25, hI_26, hw, hl⟩ := hI
  refine lv_iload_n hx hb dX8_best_13 rfl (lv_at hl 2 rfl) ?_
  refine z_if_eq (tgt := 82) hx hb dX8_best_14 (by decide) (by omega) (fun hc_27 => ?_) (fun hc_27 => ?_)
  · skip
    refine lv_iload_n hx hb dX8_best_82 rfl (lv_at hl 1 rfl) ?_
    refine z_iconst hx hb dX8_best_83 ?_
    refine z_icmp_ne (tgt := 89) hx hb dX8_best_84 (by decide) (by omega) (fun hc_28 => ?_) (fun hc_28 => ?_)
    · skip
      refine z_iconst hx hb dX8_best_89 ?_
      refine lv_istore_n (lv' := [(3, .int (zI 0)), (0, .ref (oM 0)), (1, .int (zI lst_12)), (2, .int (zI more_13))]) hx hb dX8_best_90 rfl hl (by decide) rfl (fun ls hl => ?_)
      have hbi := (by assumption : ∃ bl, ((lst_12 = -1 ∧ bl = []) ∨ (¬ lst_12 = -1 ∧ bl = preL Mbest_17 Mmany.toNat)) ∧ bestK (noiL lo Mmany) (-1, []) (fil (okL ki lo sh wo on tw nu Mmany Mbars) A_18) = (lst_12, bl))
      have hdn := en_done (by assumption : enP Mmany Morder_14 more_13 A_18) (by omega)
      have hv_29 : 0 ≤ (0 : Int) ∧ (0 : Int) ≤ Mmany := by
        first | assumption | omega | grind
      have hv_30 : ∀ k, 0 ≤ k → k < (0 : Int) → Morder_14 k = Mbest_17 k := by
        exact all_0
      refine z_loop (σ := Int × (Int → Int)) (μ := fun x9 => (9 - (x9.1)).toNat) (I := fun x9 H locs ls => (RA (x9.2) (0) 7) ∧ (0 ≤ (x9.1) ∧ (x9.1) ≤ Mmany) ∧ (∀ k, 0 ≤ k → k < (x9.1) → (x9.2) k = Mbest_17 k) ∧ HW D A s.heap (kM cI cB cZ oM 0 Mmany Mguest Mrow Mbars Mbar Mfresh Mtape Mtaped Mpos Mtoken MtokenAt Mvalue Mwrong MwrongAt MfaultKind MfaultPlace Mthing (x9.2) Mone_15 Mtwo_16 Mbest_17 Mcells Mgap Mwire Mstand Mruns Mminute Mhead Mplays Mrests Mwent Mout Mcame Mgone MlastOut) H locs ∧ lv_has ls 5 [(0, .ref (oM 0)), (1, .int (zI lst_12)), (3, .int (zI (x9.1)))]) (0, Morder_14) ⟨hR_19, hv_29, hv_30, hw, lv_sub hl [1, 2, 0] rfl⟩ ?_
      clear hw hl
      intro x9 H locs ls hI ih_31
      obtain ⟨nn_32, Morder_33⟩ := x9
      try dsimp only at hI
      obtain ⟨hR_34, hI_35, hI_36, hw, hl⟩ := hI
      refine lv_iload_n hx hb dX8_best_91 rfl (lv_at hl 2 rfl) ?_
      refine lv_aload_n hx hb dX8_best_92 rfl (lv_at hl 0 rfl) ?_
      refine va_get (D := D) (ci := 8) (v := .int (zI Mmany)) (C := RX8) (T := TX8) (N := 36) hx hb hts hinX8 hown hK hw.1 0 rfl rfl 1 (by decide) (hts (.fieldLink RX8 72 "CarnivalRoadModel" "many" "I") (by decide +kernel)) (fun _ h9 => h9) rfl dX8_best_93 ?_
      refine z_icmp_ge (tgt := 117) hx hb dX8_best_96 (by decide) (by omega) (fun hc_37 => ?_) (fun hc_37 => ?_)
      · skip
        refine lv_aload_n hx hb dX8_best_117 rfl (lv_at hl 0 rfl) ?_
        have hF9 := z_free (wc := kM cI cB cZ oM 0 Mmany Mguest Mrow Mbars Mbar Mfresh Mtape Mtaped Mpos Mtoken MtokenAt Mvalue Mwrong MwrongAt MfaultKind MfaultPlace Mthing Morder_33 Mone_15 Mtwo_16 Mbest_17 Mcells Mgap Mwire Mstand Mruns Mminute Mhead Mplays Mrests Mwent Mout Mcame Mgone MlastOut) hw hA [0, 1, 2, 3, 4, 5, 6, 7, 8, 9, 10, 11, 12, 13, 14, 15, 16] rfl
        refine va_callv (va_runV (As := []) (rest := []) ⟨hx, hb, hml, hown, hts⟩ (c_X8_becomes l D cI cB cZ oM H.size 0 Mmany Mguest Mrow Mbars Mbar Mfresh Mtape Mtaped Mpos Mtoken MtokenAt Mvalue Mwrong MwrongAt MfaultKind MfaultPlace Mthing Morder_33 Mone_15 Mtwo_16 Mbest_17 Mcells Mgap Mwire Mstand Mruns Mminute Mhead Mplays Mrests Mwent Mout Mcame Mgone MlastOut (by omega) (by omega) qMguest qMrow (by omega) qMbar qMfresh qMtape (by omega) (by omega) (by omega) (by omega) (by omega) (by omega) (by omega) (by omega) (by omega) (by omega) hR_34 (by omega) (by omega) hR_22 (by omega) (by omega) qMwire qMstand (by omega) (by omega) qMhead qMplays qMrests qMwent qMout qMcame qMgone (by omega)) (cwV 0 hts gX8_best_X8_becomes rfl rfl rfl (by decide +kernel) ⟨Nat.le_of_ble_eq_true rfl, Nat.le_of_ble_eq_true rfl⟩) ⟨zPre_blind, va_recv hK hw.1 (ci := 8) (q0 := 0) rfl rfl, z_pre hK hw [0, 1, 2, 3, 4, 5, 6, 7, 8, 9, 10, 11, 12, 13, 14, 15, 16] (by decide) rfl⟩ rfl rfl hl.1 rfl (lv_room (Nat.le_of_ble_eq_true rfl)) dX8_best_118 ⟨Nat.zero_le _, Nat.zero_le _⟩) hw.2.2 (fun q _ h => hF9 q h) hF9 (fun u9 t9 H_38 locs9 ht9 hvm9 hq9 hB9 hz9 hk9 hS9 => ?_)
        obtain ⟨Mrow_39, Mruns_40⟩ := u9
        try dsimp only at hq9 hB9
        obtain ⟨hq_41, hq_42, hq_43, hq_44⟩ := hq9
        have hw : HW D A s.heap (kM cI cB cZ oM 0 Mmany Mguest Mrow_39 Mbars Mbar Mfresh Mtape Mtaped Mpos Mtoken MtokenAt Mvalue Mwrong MwrongAt MfaultKind MfaultPlace Mthing Morder_33 Mone_15 Mtwo_16 Mbest_17 Mcells Mgap Mwire Mstand Mruns_40 Mminute Mhead Mplays Mrests Mwent Mout Mcame Mgone MlastOut) H_38 locs9 := z_after (wc := kM cI cB cZ oM 0 Mmany Mguest Mrow Mbars Mbar Mfresh Mtape Mtaped Mpos Mtoken MtokenAt Mvalue Mwrong MwrongAt MfaultKind MfaultPlace Mthing Morder_33 Mone_15 Mtwo_16 Mbest_17 Mcells Mgap Mwire Mstand Mruns Mminute Mhead Mplays Mrests Mwent Mout Mcame Mgone MlastOut) hw [0, 1, 2, 3, 4, 5, 6, 7, 8, 9, 10, 11, 12, 13, 14, 15, 16] [] rfl rfl (by decide) (by decide) hF9 hk9 ht9 hB9 hS9 [0, 1, 2, 3, 4, 5, 6, 7, 8, 9, 10, 11, 12, 13, 14, 15, 16] (by decide) rfl
        clear hF9 ht9 hvm9 hB9 hz9 hk9 hS9
        refine lv_iload_n hx hb dX8_best_121 rfl (lv_at hl 1 rfl) ?_
        have hv_45 : (0 : Int) ≤ (0 : Int) ∧ (0 : Int) ≤ 2 := by
          first | assumption | omega | grind
        have hv_46 : (0 : Int) ≤ Mone_15 ∧ Mone_15 ≤ 8 := by
          first | assumption | omega | grind
        have hv_47 : (0 : Int) ≤ Mtwo_16 ∧ Mtwo_16 ≤ 8 := by
          first | assumption | omega | grind
        have hv_48 : (0 : Int) ≤ Mruns_40 ∧ Mruns_40 ≤ 1 := by
          first | assumption | omega | grind
        have hv_49 : lst_12 = (bestK (noiL lo Mmany) (-1, []) (fil (okL ki lo sh wo on tw nu Mmany Mbars) (ext Kp Mmany Mmany.toNat []))).1 := by
          obtain ⟨bl, hb1, hb2⟩ := hbi
          rw [hdn, hb2]
        have hv_50 : (lst_12 = -1 ∧ Mrow_39 = Mrow ∧ Mruns_40 = Mruns) ∨ (¬ lst_12 = -1 ∧ preL Mrow_39 Mmany.toNat = (bestK (noiL lo Mmany) (-1, []) (fil (okL ki lo sh wo on tw nu Mmany Mbars) (ext Kp Mmany Mmany.toNat []))).2 ∧ Mruns_40 = 0) := by
          obtain ⟨bl, hb1, hb2⟩ := hbi
          rw [hdn, hb2]
          refine Or.inr ⟨by omega, ?_, by assumption⟩
          have e9 : bl = preL Mbest_17 Mmany.toNat := (hb1.resolve_left (fun q => absurd q.1 (by omega))).2
          rw [e9]
          exact preL_congr (fun a a0 a1 => by
            rw [(by assumption : ∀ k, 0 ≤ k → k < Mmany → Mrow_39 k = Morder_33 k) a a0 (by omega)]
            exact (by assumption : ∀ k, 0 ≤ k → k < nn_32 → Morder_33 k = Mbest_17 k) a a0 (by omega))
        have hv_51 : (0 : Int) = 0 := by
          rfl
        exact W.iret (v := zI lst_12) hx hb hr (fun t9 ht hW => ⟨⟨zI lst_12, (lst_12, 0, Mrow_39, Morder_33, Mone_15, Mtwo_16, Mbest_17, Mruns_40), rfl, ⟨rfl, ⟨hv_45, hq_41, hR_34, hv_46, hv_47, hR_22, hv_48, hv_49, hv_50, hv_51⟩⟩, by subst hAe; exact z_end hK hw ht hW⟩, by subst hAe; exact hw.2.2.F ht⟩) (by subst hAe; exact hw.2.2.2.2) dX8_best_122
      · skip
        refine lv_aload_n hx hb dX8_best_99 rfl (lv_at hl 0 rfl) ?_
        refine va_get (D := D) (ci := 8) (v := .ref (oM 6)) (C := RX8) (T := TX8) (N := 36) hx hb hts hinX8 hown hK hw.1 0 rfl rfl 18 (by decide) (hts (.fieldLink RX8 29 "CarnivalRoadModel" "order" "[I") (by decide +kernel)) (fun _ h9 => h9) rfl dX8_best_100 ?_
        refine lv_iload_n hx hb dX8_best_103 rfl (lv_at hl 2 rfl) ?_
        refine lv_aload_n hx hb dX8_best_104 rfl (lv_at hl 0 rfl) ?_
        refine va_get (D := D) (ci := 8) (v := .ref (oM 7)) (C := RX8) (T := TX8) (N := 36) hx hb hts hinX8 hown hK hw.1 0 rfl rfl 21 (by decide) (hts (.fieldLink RX8 32 "CarnivalRoadModel" "best" "[I") (by decide +kernel)) (fun _ h9 => h9) rfl dX8_best_105 ?_
        refine lv_iload_n hx hb dX8_best_108 rfl (lv_at hl 2 rfl) ?_
        have hi_52 : (0 : Int) ≤ nn_32 ∧ nn_32 < ((8 : Nat) : Int) := by
          first | assumption | omega | grind
        refine z_iald (n := 8) (f := Mbest_17) hx hb hK hw 7 rfl (by decide) hi_52 dX8_best_109 ?_
        have hq_53 : 0 ≤ Mbest_17 nn_32 ∧ Mbest_17 nn_32 ≤ 7 := hR_22 nn_32
        have hi_54 : (0 : Int) ≤ nn_32 ∧ nn_32 < ((8 : Nat) : Int) := by
          first | assumption | omega | grind
        have hv_55 : (0 : Int) ≤ (Mbest_17 nn_32) ∧ (Mbest_17 nn_32) ≤ 7 := by
          first | assumption | omega | grind
        have hR_56 : RA (uZ Morder_33 nn_32 (Mbest_17 nn_32)) (0) 7 := RA_up hR_34 hv_55
        refine z_iast (n := 8) (f := Morder_33) (ws2 := kM cI cB cZ oM 0 Mmany Mguest Mrow Mbars Mbar Mfresh Mtape Mtaped Mpos Mtoken MtokenAt Mvalue Mwrong MwrongAt MfaultKind MfaultPlace Mthing (uZ Morder_33 nn_32 (Mbest_17 nn_32)) Mone_15 Mtwo_16 Mbest_17 Mcells Mgap Mwire Mstand Mruns Mminute Mhead Mplays Mrests Mwent Mout Mcame Mgone MlastOut) hx hb hK hw 6 rfl (by decide) hi_54 dX8_best_110 rfl (fun H locs hw => ?_)
        refine z_iinc (k := 2) (lv' := [(3, .int (zI (nn_32 + 1))), (0, .ref (oM 0)), (1, .int (zI lst_12))]) hx hb dX8_best_111 hl rfl (by decide) rfl (fun ls hl => ?_)
        refine lv_goto (tgt := 91) hx hb dX8_best_114 (by decide) ?_
        have hv_57 : 0 ≤ (nn_32 + 1) ∧ (nn_32 + 1) ≤ Mmany := by
          first | assumption | omega | grind
        have hv_58 : ∀ k, 0 ≤ k → k < (nn_32 + 1) → (uZ Morder_33 nn_32 (Mbest_17 nn_32)) k = Mbest_17 k := by
          refine all_s (fun k k0 k1 => ?_) uZ_s
          rw [uZ_n (by omega)]
          revert k1
          revert k0
          revert k
          assumption
        have hm_59 : (9 - (nn_32 + 1)).toNat < (9 - nn_32).toNat := by
          first | assumption | omega | grind
        exact ih_31 ((nn_32 + 1), (uZ Morder_33 nn_32 (Mbest_17 nn_32))) _ _ _ ⟨hR_56, hv_57, hv_58, hw, lv_sub hl [1, 2, 0] rfl⟩ hm_59
    · skip
      refine z_iconst hx hb dX8_best_87 ?_
      have hv_60 : (0 : Int) ≤ (0 : Int) ∧ (0 : Int) ≤ 2 := by
        first | assumption | omega | grind
      have hv_61 : (0 : Int) ≤ Mone_15 ∧ Mone_15 ≤ 8 := by
        first | assumption | omega | grind
      have hv_62 : (0 : Int) ≤ Mtwo_16 ∧ Mtwo_16 ≤ 8 := by
        first | assumption | omega | grind
      have hv_63 : (0 : Int) ≤ Mruns ∧ Mruns ≤ 1 := by
        first | assumption | omega | grind
      have hv_64 : ((-1) : Int) = (bestK (noiL lo Mmany) (-1, []) (fil (okL ki lo sh wo on tw nu Mmany Mbars) (ext Kp Mmany Mmany.toNat []))).1 := by
        obtain ⟨bl, hb1, hb2⟩ := (by assumption : ∃ bl, ((lst_12 = -1 ∧ bl = []) ∨ (¬ lst_12 = -1 ∧ bl = preL Mbest_17 Mmany.toNat)) ∧ bestK (noiL lo Mmany) (-1, []) (fil (okL ki lo sh wo on tw nu Mmany Mbars) A_18) = (lst_12, bl))
        rw [en_done (by assumption : enP Mmany Morder_14 more_13 A_18) (by omega), hb2]
        omega
      have hv_65 : (((-1) : Int) = -1 ∧ Mrow = Mrow ∧ Mruns = Mruns) ∨ (¬ ((-1) : Int) = -1 ∧ preL Mrow Mmany.toNat = (bestK (noiL lo Mmany) (-1, []) (fil (okL ki lo sh wo on tw nu Mmany Mbars) (ext Kp Mmany Mmany.toNat []))).2 ∧ Mruns = 0) := by
        exact Or.inl ⟨rfl, rfl, rfl⟩
      have hv_66 : (0 : Int) = 0 := by
        rfl
      exact W.iret (v := zI (-1)) hx hb hr (fun t9 ht hW => ⟨⟨zI (-1), ((-1), 0, Mrow, Morder_14, Mone_15, Mtwo_16, Mbest_17, Mruns), rfl, ⟨rfl, ⟨hv_60, qMrow, hR_19, hv_61, hv_62, hR_22, hv_63, hv_64, hv_65, hv_66⟩⟩, by subst hAe; exact z_end hK hw ht hW⟩, by subst hAe; exact hw.2.2.F ht⟩) (by subst hAe; exact hw.2.2.2.2) dX8_best_88
  · skip
    refine lv_aload_n hx hb dX8_best_17 rfl (lv_at hl 0 rfl) ?_
    have hpre_67 : ∀ g, 0 ≤ g → g < Mmany → Mguest (5 * g + 2) = lo g := by
      intro g g0 g1
      have q := hp0 g g0 g1
      exact q.2.2.1
    have hpre_68 : ∀ i, 0 ≤ i → i < Mmany → 0 ≤ Morder_14 i ∧ Morder_14 i < Mmany := by
      exact fun i i0 i1 => (en_perm (by assumption : enP Mmany Morder_14 more_13 A_18) (by omega)).1 i i0 i1
    have hpre_69 : RA lo 0 9 := by
      first | assumption | omega | grind
    have hF9 := z_free (wc := kM cI cB cZ oM 0 Mmany Mguest Mrow Mbars Mbar Mfresh Mtape Mtaped Mpos Mtoken MtokenAt Mvalue Mwrong MwrongAt MfaultKind MfaultPlace Mthing Morder_14 Mone_15 Mtwo_16 Mbest_17 Mcells Mgap Mwire Mstand Mruns Mminute Mhead Mplays Mrests Mwent Mout Mcame Mgone MlastOut) hw hA [0, 1, 2, 3, 4, 5, 6, 7, 8, 9, 10, 11, 12, 13, 14, 15, 16] rfl
    refine va_calli (va_runV (As := []) (rest := []) ⟨hx, hb, hml, hown, hts⟩ (c_X8_noiseOf l D cI cB cZ oM H.size 0 Mmany Mguest Mrow Mbars Mbar Mfresh Mtape Mtaped Mpos Mtoken MtokenAt Mvalue Mwrong MwrongAt MfaultKind MfaultPlace Mthing Morder_14 Mone_15 Mtwo_16 Mbest_17 Mcells Mgap Mwire Mstand Mruns Mminute Mhead Mplays Mrests Mwent Mout Mcame Mgone MlastOut lo (by omega) (by omega) qMguest qMrow (by omega) qMbar qMfresh qMtape (by omega) (by omega) (by omega) (by omega) (by omega) (by omega) (by omega) (by omega) (by omega) (by omega) hR_19 (by omega) (by omega) hR_22 (by omega) (by omega) qMwire qMstand (by omega) (by omega) qMhead qMplays qMrests qMwent qMout qMcame qMgone (by omega) hpre_67 hpre_68 hpre_69) (cwV 0 hts gX8_best_X8_noiseOf rfl rfl rfl (by decide +kernel) ⟨Nat.le_of_ble_eq_true rfl, Nat.le_of_ble_eq_true rfl⟩) ⟨zPre_blind, va_recv hK hw.1 (ci := 8) (q0 := 0) rfl rfl, z_pre hK hw [0, 1, 2, 3, 4, 5, 6, 7, 8, 9, 10, 11, 12, 13, 14, 15, 16] (by decide) rfl⟩ rfl rfl hl.1 rfl (lv_room (Nat.le_of_ble_eq_true rfl)) dX8_best_18 ⟨Nat.zero_le _, Nat.zero_le _⟩) hw.2.2 (fun q _ h => hF9 q h) hF9 (fun r9 u9 t9 H_70 locs9 ht9 hvm9 hq9 hB9 hz9 hk9 hS9 => ?_)
    obtain ⟨r_71, rfl⟩ : ∃ z, z = u9 := ⟨_, rfl⟩
    try dsimp only at hq9 hB9
    obtain ⟨rfl, hq9⟩ := hq9
    obtain ⟨hq_72, hq_73⟩ := hq9
    have hw : HW D A s.heap (kM cI cB cZ oM 0 Mmany Mguest Mrow Mbars Mbar Mfresh Mtape Mtaped Mpos Mtoken MtokenAt Mvalue Mwrong MwrongAt MfaultKind MfaultPlace Mthing Morder_14 Mone_15 Mtwo_16 Mbest_17 Mcells Mgap Mwire Mstand Mruns Mminute Mhead Mplays Mrests Mwent Mout Mcame Mgone MlastOut) H_70 locs9 := z_after (wc := kM cI cB cZ oM 0 Mmany Mguest Mrow Mbars Mbar Mfresh Mtape Mtaped Mpos Mtoken MtokenAt Mvalue Mwrong MwrongAt MfaultKind MfaultPlace Mthing Morder_14 Mone_15 Mtwo_16 Mbest_17 Mcells Mgap Mwire Mstand Mruns Mminute Mhead Mplays Mrests Mwent Mout Mcame Mgone MlastOut) hw [0, 1, 2, 3, 4, 5, 6, 7, 8, 9, 10, 11, 12, 13, 14, 15, 16] [] rfl rfl (by decide) (by decide) hF9 hk9 ht9 hB9 hS9 [0, 1, 2, 3, 4, 5, 6, 7, 8, 9, 10, 11, 12, 13, 14, 15, 16] (by decide) rfl
    clear hF9 ht9 hvm9 hB9 hz9 hk9 hS9
    refine lv_istore_n (lv' := [(3, .int (zI r_71)), (0, .ref (oM 0)), (1, .int (zI lst_12)), (2, .int (zI more_13))]) hx hb dX8_best_21 rfl hl (by decide) rfl (fun ls hl => ?_)
    refine lv_iload_n hx hb dX8_best_22 rfl (lv_at hl 2 rfl) ?_
    refine z_iconst hx hb dX8_best_23 ?_
    refine z_icmp_eq (tgt := 32) hx hb dX8_best_24 (by decide) (by omega) (fun hc_74 => ?_) (fun hc_74 => ?_)
    · skip
      refine lv_aload_n hx hb dX8_best_32 rfl (lv_at hl 1 rfl) ?_
      have hpre_75 : gRel Mmany ki le lo ta sh Mguest := by
        first | assumption | omega | grind
      have hpre_76 : bRel Mbars wo on tw nu Mbar := by
        first | assumption | omega | grind
      have hpre_77 : ∀ i, 0 ≤ i → i < Mmany → 0 ≤ Morder_14 i ∧ Morder_14 i < Mmany := by
        exact fun i i0 i1 => (en_perm (by assumption : enP Mmany Morder_14 more_13 A_18) (by omega)).1 i i0 i1
      have hF9 := z_free (wc := kM cI cB cZ oM 0 Mmany Mguest Mrow Mbars Mbar Mfresh Mtape Mtaped Mpos Mtoken MtokenAt Mvalue Mwrong MwrongAt MfaultKind MfaultPlace Mthing Morder_14 Mone_15 Mtwo_16 Mbest_17 Mcells Mgap Mwire Mstand Mruns Mminute Mhead Mplays Mrests Mwent Mout Mcame Mgone MlastOut) hw hA [0, 1, 2, 3, 4, 5, 6, 7, 8, 9, 10, 11, 12, 13, 14, 15, 16] rfl
      refine va_calli (va_runV (As := []) (rest := []) ⟨hx, hb, hml, hown, hts⟩ (c_X8_broken l D cI cB cZ oM H_70.size 0 Mmany Mguest Mrow Mbars Mbar Mfresh Mtape Mtaped Mpos Mtoken MtokenAt Mvalue Mwrong MwrongAt MfaultKind MfaultPlace Mthing Morder_14 Mone_15 Mtwo_16 Mbest_17 Mcells Mgap Mwire Mstand Mruns Mminute Mhead Mplays Mrests Mwent Mout Mcame Mgone MlastOut ki le lo ta sh wo on tw nu (by omega) (by omega) qMguest qMrow (by omega) qMbar qMfresh qMtape (by omega) (by omega) (by omega) (by omega) (by omega) (by omega) (by omega) (by omega) (by omega) (by omega) hR_19 (by omega) (by omega) hR_22 (by omega) (by omega) qMwire qMstand (by omega) (by omega) qMhead qMplays qMrests qMwent qMout qMcame qMgone (by omega) hpre_75 hpre_76 hpre_77) (cwV 0 hts gX8_best_X8_broken rfl rfl rfl (by decide +kernel) ⟨Nat.le_of_ble_eq_true rfl, Nat.le_of_ble_eq_true rfl⟩) ⟨zPre_blind, va_recv hK hw.1 (ci := 8) (q0 := 0) rfl rfl, z_pre hK hw [0, 1, 2, 3, 4, 5, 6, 7, 8, 9, 10, 11, 12, 13, 14, 15, 16] (by decide) rfl⟩ rfl rfl hl.1 rfl (lv_room (Nat.le_of_ble_eq_true rfl)) dX8_best_33 ⟨Nat.zero_le _, Nat.zero_le _⟩) hw.2.2 (fun q _ h => hF9 q h) hF9 (fun r9 u9 t9 H_78 locs9 ht9 hvm9 hq9 hB9 hz9 hk9 hS9 => ?_)
      obtain ⟨r_79, Mone_80, Mtwo_81⟩ := u9
      try dsimp only at hq9 hB9
      obtain ⟨rfl, hq9⟩ := hq9
      obtain ⟨hq_82, hq_83, hq_84, hq_85⟩ := hq9
      have hw : HW D A s.heap (kM cI cB cZ oM 0 Mmany Mguest Mrow Mbars Mbar Mfresh Mtape Mtaped Mpos Mtoken MtokenAt Mvalue Mwrong MwrongAt MfaultKind MfaultPlace Mthing Morder_14 Mone_80 Mtwo_81 Mbest_17 Mcells Mgap Mwire Mstand Mruns Mminute Mhead Mplays Mrests Mwent Mout Mcame Mgone MlastOut) H_78 locs9 := z_after (wc := kM cI cB cZ oM 0 Mmany Mguest Mrow Mbars Mbar Mfresh Mtape Mtaped Mpos Mtoken MtokenAt Mvalue Mwrong MwrongAt MfaultKind MfaultPlace Mthing Morder_14 Mone_15 Mtwo_16 Mbest_17 Mcells Mgap Mwire Mstand Mruns Mminute Mhead Mplays Mrests Mwent Mout Mcame Mgone MlastOut) hw [0, 1, 2, 3, 4, 5, 6, 7, 8, 9, 10, 11, 12, 13, 14, 15, 16] [] rfl rfl (by decide) (by decide) hF9 hk9 ht9 hB9 hS9 [0, 1, 2, 3, 4, 5, 6, 7, 8, 9, 10, 11, 12, 13, 14, 15, 16] (by decide) rfl
      clear hF9 ht9 hvm9 hB9 hz9 hk9 hS9
      refine z_iconst hx hb dX8_best_36 ?_
      refine z_icmp_ne (tgt := 74) hx hb dX8_best_37 (by decide) (by omega) (fun hc_86 => ?_) (fun hc_86 => ?_)
      · skip
        refine lv_aload_n hx hb dX8_best_74 rfl (lv_at hl 1 rfl) ?_
        have hF9 := z_free (wc := kM cI cB cZ oM 0 Mmany Mguest Mrow Mbars Mbar Mfresh Mtape Mtaped Mpos Mtoken MtokenAt Mvalue Mwrong MwrongAt MfaultKind MfaultPlace Mthing Morder_14 Mone_80 Mtwo_81 Mbest_17 Mcells Mgap Mwire Mstand Mruns Mminute Mhead Mplays Mrests Mwent Mout Mcame Mgone MlastOut) hw hA [0, 1, 2, 3, 4, 5, 6, 7, 8, 9, 10, 11, 12, 13, 14, 15, 16] rfl
        refine va_calli (va_runV (As := []) (rest := []) ⟨hx, hb, hml, hown, hts⟩ (c_X8_nextOrder l D cI cB cZ oM H_78.size 0 Mmany Mguest Mrow Mbars Mbar Mfresh Mtape Mtaped Mpos Mtoken MtokenAt Mvalue Mwrong MwrongAt MfaultKind MfaultPlace Mthing Morder_14 Mone_80 Mtwo_81 Mbest_17 Mcells Mgap Mwire Mstand Mruns Mminute Mhead Mplays Mrests Mwent Mout Mcame Mgone MlastOut (by omega) (by omega) qMguest qMrow (by omega) qMbar qMfresh qMtape (by omega) (by omega) (by omega) (by omega) (by omega) (by omega) (by omega) (by omega) (by omega) (by omega) hR_19 (by omega) (by omega) hR_22 (by omega) (by omega) qMwire qMstand (by omega) (by omega) qMhead qMplays qMrests qMwent qMout qMcame qMgone (by omega)) (cwV 0 hts gX8_best_X8_nextOrder rfl rfl rfl (by decide +kernel) ⟨Nat.le_of_ble_eq_true rfl, Nat.le_of_ble_eq_true rfl⟩) ⟨zPre_blind, va_recv hK hw.1 (ci := 8) (q0 := 0) rfl rfl, z_pre hK hw [0, 1, 2, 3, 4, 5, 6, 7, 8, 9, 10, 11, 12, 13, 14, 15, 16] (by decide) rfl⟩ rfl rfl hl.1 rfl (lv_room (Nat.le_of_ble_eq_true rfl)) dX8_best_75 ⟨Nat.zero_le _, Nat.zero_le _⟩) hw.2.2 (fun q _ h => hF9 q h) hF9 (fun r9 u9 t9 H_87 locs9 ht9 hvm9 hq9 hB9 hz9 hk9 hS9 => ?_)
        obtain ⟨r_88, Morder_89⟩ := u9
        try dsimp only at hq9 hB9
        obtain ⟨rfl, hq9⟩ := hq9
        obtain ⟨hq_90, hq_91⟩ := hq9
        have hw : HW D A s.heap (kM cI cB cZ oM 0 Mmany Mguest Mrow Mbars Mbar Mfresh Mtape Mtaped Mpos Mtoken MtokenAt Mvalue Mwrong MwrongAt MfaultKind MfaultPlace Mthing Morder_89 Mone_80 Mtwo_81 Mbest_17 Mcells Mgap Mwire Mstand Mruns Mminute Mhead Mplays Mrests Mwent Mout Mcame Mgone MlastOut) H_87 locs9 := z_after (wc := kM cI cB cZ oM 0 Mmany Mguest Mrow Mbars Mbar Mfresh Mtape Mtaped Mpos Mtoken MtokenAt Mvalue Mwrong MwrongAt MfaultKind MfaultPlace Mthing Morder_14 Mone_80 Mtwo_81 Mbest_17 Mcells Mgap Mwire Mstand Mruns Mminute Mhead Mplays Mrests Mwent Mout Mcame Mgone MlastOut) hw [0, 1, 2, 3, 4, 5, 6, 7, 8, 9, 10, 11, 12, 13, 14, 15, 16] [] rfl rfl (by decide) (by decide) hF9 hk9 ht9 hB9 hS9 [0, 1, 2, 3, 4, 5, 6, 7, 8, 9, 10, 11, 12, 13, 14, 15, 16] (by decide) rfl
        clear hF9 ht9 hvm9 hB9 hz9 hk9 hS9
        refine lv_istore_n (lv' := [(2, .int (zI r_88)), (3, .int (zI r_71)), (0, .ref (oM 0)), (1, .int (zI lst_12))]) hx hb dX8_best_78 rfl hl (by decide) rfl (fun ls hl => ?_)
        refine lv_goto (tgt := 13) hx hb dX8_best_79 (by decide) ?_
        have hv_92 : (0 : Int) ≤ Mone_80 ∧ Mone_80 ≤ 8 := by
          first | assumption | omega | grind
        have hv_93 : (0 : Int) ≤ Mtwo_81 ∧ Mtwo_81 ≤ 8 := by
          first | assumption | omega | grind
        have hv_94 : enP Mmany Morder_89 r_88 (A_18 ++ [preL Morder_14 Mmany.toNat]) := by
          exact en_next (by omega) (by assumption) (by omega) (by assumption)
        have hv_95 : -1 ≤ lst_12 ∧ lst_12 ≤ 1000 := by
          have q9 := noise_rng hp3 (f := Morder_14) (Mmany - 1).toNat
          omega
        have hv_96 : ∃ bl, ((lst_12 = -1 ∧ bl = []) ∨ (¬ lst_12 = -1 ∧ bl = preL Mbest_17 Mmany.toNat)) ∧ bestK (noiL lo Mmany) (-1, []) (fil (okL ki lo sh wo on tw nu Mmany Mbars) (A_18 ++ [preL Morder_14 Mmany.toNat])) = (lst_12, bl) := by
          obtain ⟨bl, hb1, hb2⟩ := (by assumption : ∃ bl, ((lst_12 = -1 ∧ bl = []) ∨ (¬ lst_12 = -1 ∧ bl = preL Mbest_17 Mmany.toNat)) ∧ bestK (noiL lo Mmany) (-1, []) (fil (okL ki lo sh wo on tw nu Mmany Mbars) A_18) = (lst_12, bl))
          have qn := noiL_pre0 (lo := lo) (f := Morder_14) (n := Mmany) (by omega)
          have q9 := noise_rng hp3 (f := Morder_14) (Mmany - 1).toNat
          first | exact mb_old (V := (okL ki lo sh wo on tw nu Mmany Mbars)) hb1 hb2 qn (by omega) | (have hok := why_ok (n := Mmany) (by omega) (by assumption : ∃ x y, whyP ki lo sh wo on tw nu Morder_14 Mmany Mbars _ x y ∧ _); first | exact mb_bad (V := (okL ki lo sh wo on tw nu Mmany Mbars)) hb1 hb2 (fun q => absurd (hok.mpr q) (by omega)) | exact mb_new (V := (okL ki lo sh wo on tw nu Mmany Mbars)) hb1 hb2 qn (hok.mp (by omega)) (by omega) (preL_congr (fun a a0 a1 => (by assumption : ∀ k, 0 ≤ k → k < _ → Mbest_17 k = Morder_14 k) a a0 (by omega))) (by omega) (by omega))
        have hv_97 : r_88 = 0 ∨ r_88 = 1 := by
          first | assumption | omega | grind
        have hm_98 : (ext Kp Mmany Mmany.toNat []).length - (A_18 ++ [preL Morder_14 Mmany.toNat]).length < (ext Kp Mmany Mmany.toNat []).length - A_18.length := by
          have hl9 := en_len (by assumption : enP Mmany Morder_14 more_13 A_18) (by omega)
          simp only [List.length_append, List.length_cons, List.length_nil] at hl9 ⊢
          omega
        exact ih_11 (lst_12, r_88, Morder_89, Mone_80, Mtwo_81, Mbest_17, (A_18 ++ [preL Morder_14 Mmany.toNat])) _ _ _ ⟨hq_90, hv_92, hv_93, hR_22, hv_94, hv_95, hv_96, hv_97, hw, lv_sub hl [2, 3, 0] rfl⟩ hm_98
      · skip
        refine lv_iload_n hx hb dX8_best_40 rfl (lv_at hl 0 rfl) ?_
        refine lv_istore_n (lv' := [(1, .int (zI r_71)), (3, .int (zI r_71)), (0, .ref (oM 0)), (2, .int (zI more_13))]) hx hb dX8_best_41 rfl hl (by decide) rfl (fun ls hl => ?_)
        refine z_iconst hx hb dX8_best_42 ?_
        refine lv_istore (lv' := [(4, .int (zI 0)), (1, .int (zI r_71)), (3, .int (zI r_71)), (0, .ref (oM 0)), (2, .int (zI more_13))]) hx hb dX8_best_43 hl (by decide) rfl (fun ls hl => ?_)
        have hv_99 : 0 ≤ (0 : Int) ∧ (0 : Int) ≤ Mmany := by
          first | assumption | omega | grind
        have hv_100 : ∀ k, 0 ≤ k → k < (0 : Int) → Mbest_17 k = Morder_14 k := by
          exact all_0
        refine z_loop (σ := Int × (Int → Int)) (μ := fun x9 => (9 - (x9.1)).toNat) (I := fun x9 H locs ls => (RA (x9.2) (0) 7) ∧ (0 ≤ (x9.1) ∧ (x9.1) ≤ Mmany) ∧ (∀ k, 0 ≤ k → k < (x9.1) → (x9.2) k = Morder_14 k) ∧ HW D A s.heap (kM cI cB cZ oM 0 Mmany Mguest Mrow Mbars Mbar Mfresh Mtape Mtaped Mpos Mtoken MtokenAt Mvalue Mwrong MwrongAt MfaultKind MfaultPlace Mthing Morder_14 Mone_80 Mtwo_81 (x9.2) Mcells Mgap Mwire Mstand Mruns Mminute Mhead Mplays Mrests Mwent Mout Mcame Mgone MlastOut) H locs ∧ lv_has ls 5 [(0, .ref (oM 0)), (1, .int (zI r_71)), (4, .int (zI (x9.1)))]) (0, Mbest_17) ⟨hR_22, hv_99, hv_100, hw, lv_sub hl [3, 1, 0] rfl⟩ ?_
        clear hw hl
        intro x9 H locs ls hI ih_101
        obtain ⟨i_102, Mbest_103⟩ := x9
        try dsimp only at hI
        obtain ⟨hR_104, hI_105, hI_106, hw, hl⟩ := hI
        refine lv_iload hx hb dX8_best_45 (lv_at hl 2 rfl) ?_
        refine lv_aload_n hx hb dX8_best_47 rfl (lv_at hl 0 rfl) ?_
        refine va_get (D := D) (ci := 8) (v := .int (zI Mmany)) (C := RX8) (T := TX8) (N := 36) hx hb hts hinX8 hown hK hw.1 0 rfl rfl 1 (by decide) (hts (.fieldLink RX8 72 "CarnivalRoadModel" "many" "I") (by decide +kernel)) (fun _ h9 => h9) rfl dX8_best_48 ?_
        refine z_icmp_ge (tgt := 74) hx hb dX8_best_51 (by decide) (by omega) (fun hc_107 => ?_) (fun hc_107 => ?_)
        · skip
          refine lv_aload_n hx hb dX8_best_74 rfl (lv_at hl 0 rfl) ?_
          have hF9 := z_free (wc := kM cI cB cZ oM 0 Mmany Mguest Mrow Mbars Mbar Mfresh Mtape Mtaped Mpos Mtoken MtokenAt Mvalue Mwrong MwrongAt MfaultKind MfaultPlace Mthing Morder_14 Mone_80 Mtwo_81 Mbest_103 Mcells Mgap Mwire Mstand Mruns Mminute Mhead Mplays Mrests Mwent Mout Mcame Mgone MlastOut) hw hA [0, 1, 2, 3, 4, 5, 6, 7, 8, 9, 10, 11, 12, 13, 14, 15, 16] rfl
          refine va_calli (va_runV (As := []) (rest := []) ⟨hx, hb, hml, hown, hts⟩ (c_X8_nextOrder l D cI cB cZ oM H.size 0 Mmany Mguest Mrow Mbars Mbar Mfresh Mtape Mtaped Mpos Mtoken MtokenAt Mvalue Mwrong MwrongAt MfaultKind MfaultPlace Mthing Morder_14 Mone_80 Mtwo_81 Mbest_103 Mcells Mgap Mwire Mstand Mruns Mminute Mhead Mplays Mrests Mwent Mout Mcame Mgone MlastOut (by omega) (by omega) qMguest qMrow (by omega) qMbar qMfresh qMtape (by omega) (by omega) (by omega) (by omega) (by omega) (by omega) (by omega) (by omega) (by omega) (by omega) hR_19 (by omega) (by omega) hR_104 (by omega) (by omega) qMwire qMstand (by omega) (by omega) qMhead qMplays qMrests qMwent qMout qMcame qMgone (by omega)) (cwV 0 hts gX8_best_X8_nextOrder rfl rfl rfl (by decide +kernel) ⟨Nat.le_of_ble_eq_true rfl, Nat.le_of_ble_eq_true rfl⟩) ⟨zPre_blind, va_recv hK hw.1 (ci := 8) (q0 := 0) rfl rfl, z_pre hK hw [0, 1, 2, 3, 4, 5, 6, 7, 8, 9, 10, 11, 12, 13, 14, 15, 16] (by decide) rfl⟩ rfl rfl hl.1 rfl (lv_room (Nat.le_of_ble_eq_true rfl)) dX8_best_75 ⟨Nat.zero_le _, Nat.zero_le _⟩) hw.2.2 (fun q _ h => hF9 q h) hF9 (fun r9 u9 t9 H_108 locs9 ht9 hvm9 hq9 hB9 hz9 hk9 hS9 => ?_)
          obtain ⟨r_109, Morder_110⟩ := u9
          try dsimp only at hq9 hB9
          obtain ⟨rfl, hq9⟩ := hq9
          obtain ⟨hq_111, hq_112⟩ := hq9
          have hw : HW D A s.heap (kM cI cB cZ oM 0 Mmany Mguest Mrow Mbars Mbar Mfresh Mtape Mtaped Mpos Mtoken MtokenAt Mvalue Mwrong MwrongAt MfaultKind MfaultPlace Mthing Morder_110 Mone_80 Mtwo_81 Mbest_103 Mcells Mgap Mwire Mstand Mruns Mminute Mhead Mplays Mrests Mwent Mout Mcame Mgone MlastOut) H_108 locs9 := z_after (wc := kM cI cB cZ oM 0 Mmany Mguest Mrow Mbars Mbar Mfresh Mtape Mtaped Mpos Mtoken MtokenAt Mvalue Mwrong MwrongAt MfaultKind MfaultPlace Mthing Morder_14 Mone_80 Mtwo_81 Mbest_103 Mcells Mgap Mwire Mstand Mruns Mminute Mhead Mplays Mrests Mwent Mout Mcame Mgone MlastOut) hw [0, 1, 2, 3, 4, 5, 6, 7, 8, 9, 10, 11, 12, 13, 14, 15, 16] [] rfl rfl (by decide) (by decide) hF9 hk9 ht9 hB9 hS9 [0, 1, 2, 3, 4, 5, 6, 7, 8, 9, 10, 11, 12, 13, 14, 15, 16] (by decide) rfl
          clear hF9 ht9 hvm9 hB9 hz9 hk9 hS9
          refine lv_istore_n (lv' := [(2, .int (zI r_109)), (0, .ref (oM 0)), (1, .int (zI r_71)), (4, .int (zI i_102))]) hx hb dX8_best_78 rfl hl (by decide) rfl (fun ls hl => ?_)
          refine lv_goto (tgt := 13) hx hb dX8_best_79 (by decide) ?_
          have hv_113 : (0 : Int) ≤ Mone_80 ∧ Mone_80 ≤ 8 := by
            first | assumption | omega | grind
          have hv_114 : (0 : Int) ≤ Mtwo_81 ∧ Mtwo_81 ≤ 8 := by
            first | assumption | omega | grind
          have hv_115 : enP Mmany Morder_110 r_109 (A_18 ++ [preL Morder_14 Mmany.toNat]) := by
            exact en_next (by omega) (by assumption) (by omega) (by assumption)
          have hv_116 : -1 ≤ r_71 ∧ r_71 ≤ 1000 := by
            have q9 := noise_rng hp3 (f := Morder_14) (Mmany - 1).toNat
            omega
          have hv_117 : ∃ bl, ((r_71 = -1 ∧ bl = []) ∨ (¬ r_71 = -1 ∧ bl = preL Mbest_103 Mmany.toNat)) ∧ bestK (noiL lo Mmany) (-1, []) (fil (okL ki lo sh wo on tw nu Mmany Mbars) (A_18 ++ [preL Morder_14 Mmany.toNat])) = (r_71, bl) := by
            obtain ⟨bl, hb1, hb2⟩ := (by assumption : ∃ bl, ((lst_12 = -1 ∧ bl = []) ∨ (¬ lst_12 = -1 ∧ bl = preL Mbest_17 Mmany.toNat)) ∧ bestK (noiL lo Mmany) (-1, []) (fil (okL ki lo sh wo on tw nu Mmany Mbars) A_18) = (lst_12, bl))
            have qn := noiL_pre0 (lo := lo) (f := Morder_14) (n := Mmany) (by omega)
            have q9 := noise_rng hp3 (f := Morder_14) (Mmany - 1).toNat
            first | exact mb_old (V := (okL ki lo sh wo on tw nu Mmany Mbars)) hb1 hb2 qn (by omega) | (have hok := why_ok (n := Mmany) (by omega) (by assumption : ∃ x y, whyP ki lo sh wo on tw nu Morder_14 Mmany Mbars _ x y ∧ _); first | exact mb_bad (V := (okL ki lo sh wo on tw nu Mmany Mbars)) hb1 hb2 (fun q => absurd (hok.mpr q) (by omega)) | exact mb_new (V := (okL ki lo sh wo on tw nu Mmany Mbars)) hb1 hb2 qn (hok.mp (by omega)) (by omega) (preL_congr (fun a a0 a1 => (by assumption : ∀ k, 0 ≤ k → k < _ → Mbest_103 k = Morder_14 k) a a0 (by omega))) (by omega) (by omega))
          have hv_118 : r_109 = 0 ∨ r_109 = 1 := by
            first | assumption | omega | grind
          have hm_119 : (ext Kp Mmany Mmany.toNat []).length - (A_18 ++ [preL Morder_14 Mmany.toNat]).length < (ext Kp Mmany Mmany.toNat []).length - A_18.length := by
            have hl9 := en_len (by assumption : enP Mmany Morder_14 more_13 A_18) (by omega)
            simp only [List.length_append, List.length_cons, List.length_nil] at hl9 ⊢
            omega
          exact ih_11 (r_71, r_109, Morder_110, Mone_80, Mtwo_81, Mbest_103, (A_18 ++ [preL Morder_14 Mmany.toNat])) _ _ _ ⟨hq_111, hv_113, hv_114, hR_104, hv_115, hv_116, hv_117, hv_118, hw, lv_sub hl [1, 2, 0] rfl⟩ hm_119
        · skip
          refine lv_aload_n hx hb dX8_best_54 rfl (lv_at hl 0 rfl) ?_
          refine va_get (D := D) (ci := 8) (v := .ref (oM 7)) (C := RX8) (T := TX8) (N := 36) hx hb hts hinX8 hown hK hw.1 0 rfl rfl 21 (by decide) (hts (.fieldLink RX8 32 "CarnivalRoadModel" "best" "[I") (by decide +kernel)) (fun _ h9 => h9) rfl dX8_best_55 ?_
          refine lv_iload hx hb dX8_best_58 (lv_at hl 2 rfl) ?_
          refine lv_aload_n hx hb dX8_best_60 rfl (lv_at hl 0 rfl) ?_
          refine va_get (D := D) (ci := 8) (v := .ref (oM 6)) (C := RX8) (T := TX8) (N := 36) hx hb hts hinX8 hown hK hw.1 0 rfl rfl 18 (by decide) (hts (.fieldLink RX8 29 "CarnivalRoadModel" "order" "[I") (by decide +kernel)) (fun _ h9 => h9) rfl dX8_best_61 ?_
          refine lv_iload hx hb dX8_best_64 (lv_at hl 2 rfl) ?_
          have hi_120 : (0 : Int) ≤ i_102 ∧ i_102 < ((8 : Nat) : Int) := by
            first | assumption | omega | grind
          refine z_iald (n := 8) (f := Morder_14) hx hb hK hw 6 rfl (by decide) hi_120 dX8_best_66 ?_
          have hq_121 : 0 ≤ Morder_14 i_102 ∧ Morder_14 i_102 ≤ 7 := hR_19 i_102
          have hi_122 : (0 : Int) ≤ i_102 ∧ i_102 < ((8 : Nat) : Int) := by
            first | assumption | omega | grind
          have hv_123 : (0 : Int) ≤ (Morder_14 i_102) ∧ (Morder_14 i_102) ≤ 7 := by
            first | assumption | omega | grind
          have hR_124 : RA (uZ Mbest_103 i_102 (Morder_14 i_102)) (0) 7 := RA_up hR_104 hv_123
          refine z_iast (n := 8) (f := Mbest_103) (ws2 := kM cI cB cZ oM 0 Mmany Mguest Mrow Mbars Mbar Mfresh Mtape Mtaped Mpos Mtoken MtokenAt Mvalue Mwrong MwrongAt MfaultKind MfaultPlace Mthing Morder_14 Mone_80 Mtwo_81 (uZ Mbest_103 i_102 (Morder_14 i_102)) Mcells Mgap Mwire Mstand Mruns Mminute Mhead Mplays Mrests Mwent Mout Mcame Mgone MlastOut) hx hb hK hw 7 rfl (by decide) hi_122 dX8_best_67 rfl (fun H locs hw => ?_)
          refine z_iinc (k := 2) (lv' := [(4, .int (zI (i_102 + 1))), (0, .ref (oM 0)), (1, .int (zI r_71))]) hx hb dX8_best_68 hl rfl (by decide) rfl (fun ls hl => ?_)
          refine lv_goto (tgt := 45) hx hb dX8_best_71 (by decide) ?_
          have hv_125 : 0 ≤ (i_102 + 1) ∧ (i_102 + 1) ≤ Mmany := by
            first | assumption | omega | grind
          have hv_126 : ∀ k, 0 ≤ k → k < (i_102 + 1) → (uZ Mbest_103 i_102 (Morder_14 i_102)) k = Morder_14 k := by
            refine all_s (fun k k0 k1 => ?_) uZ_s
            rw [uZ_n (by omega)]
            revert k1
            revert k0
            revert k
            assumption
          have hm_127 : (9 - (i_102 + 1)).toNat < (9 - i_102).toNat := by
            first | assumption | omega | grind
          exact ih_101 ((i_102 + 1), (uZ Mbest_103 i_102 (Morder_14 i_102))) _ _ _ ⟨hR_124, hv_125, hv_126, hw, lv_sub hl [1, 2, 0] rfl⟩ hm_127
    · skip
      refine lv_iload_n hx hb dX8_best_27 rfl (lv_at hl 0 rfl) ?_
      refine lv_iload_n hx hb dX8_best_28 rfl (lv_at hl 2 rfl) ?_
      refine z_icmp_ge (tgt := 74) hx hb dX8_best_29 (by decide) (by omega) (fun hc_128 => ?_) (fun hc_128 => ?_)
      · skip
        refine lv_aload_n hx hb dX8_best_74 rfl (lv_at hl 1 rfl) ?_
        have hF9 := z_free (wc := kM cI cB cZ oM 0 Mmany Mguest Mrow Mbars Mbar Mfresh Mtape Mtaped Mpos Mtoken MtokenAt Mvalue Mwrong MwrongAt MfaultKind MfaultPlace Mthing Morder_14 Mone_15 Mtwo_16 Mbest_17 Mcells Mgap Mwire Mstand Mruns Mminute Mhead Mplays Mrests Mwent Mout Mcame Mgone MlastOut) hw hA [0, 1, 2, 3, 4, 5, 6, 7, 8, 9, 10, 11, 12, 13, 14, 15, 16] rfl
        refine va_calli (va_runV (As := []) (rest := []) ⟨hx, hb, hml, hown, hts⟩ (c_X8_nextOrder l D cI cB cZ oM H_70.size 0 Mmany Mguest Mrow Mbars Mbar Mfresh Mtape Mtaped Mpos Mtoken MtokenAt Mvalue Mwrong MwrongAt MfaultKind MfaultPlace Mthing Morder_14 Mone_15 Mtwo_16 Mbest_17 Mcells Mgap Mwire Mstand Mruns Mminute Mhead Mplays Mrests Mwent Mout Mcame Mgone MlastOut (by omega) (by omega) qMguest qMrow (by omega) qMbar qMfresh qMtape (by omega) (by omega) (by omega) (by omega) (by omega) (by omega) (by omega) (by omega) (by omega) (by omega) hR_19 (by omega) (by omega) hR_22 (by omega) (by omega) qMwire qMstand (by omega) (by omega) qMhead qMplays qMrests qMwent qMout qMcame qMgone (by omega)) (cwV 0 hts gX8_best_X8_nextOrder rfl rfl rfl (by decide +kernel) ⟨Nat.le_of_ble_eq_true rfl, Nat.le_of_ble_eq_true rfl⟩) ⟨zPre_blind, va_recv hK hw.1 (ci := 8) (q0 := 0) rfl rfl, z_pre hK hw [0, 1, 2, 3, 4, 5, 6, 7, 8, 9, 10, 11, 12, 13, 14, 15, 16] (by decide) rfl⟩ rfl rfl hl.1 rfl (lv_room (Nat.le_of_ble_eq_true rfl)) dX8_best_75 ⟨Nat.zero_le _, Nat.zero_le _⟩) hw.2.2 (fun q _ h => hF9 q h) hF9 (fun r9 u9 t9 H_129 locs9 ht9 hvm9 hq9 hB9 hz9 hk9 hS9 => ?_)
        obtain ⟨r_130, Morder_131⟩ := u9
        try dsimp only at hq9 hB9
        obtain ⟨rfl, hq9⟩ := hq9
        obtain ⟨hq_132, hq_133⟩ := hq9
        have hw : HW D A s.heap (kM cI cB cZ oM 0 Mmany Mguest Mrow Mbars Mbar Mfresh Mtape Mtaped Mpos Mtoken MtokenAt Mvalue Mwrong MwrongAt MfaultKind MfaultPlace Mthing Morder_131 Mone_15 Mtwo_16 Mbest_17 Mcells Mgap Mwire Mstand Mruns Mminute Mhead Mplays Mrests Mwent Mout Mcame Mgone MlastOut) H_129 locs9 := z_after (wc := kM cI cB cZ oM 0 Mmany Mguest Mrow Mbars Mbar Mfresh Mtape Mtaped Mpos Mtoken MtokenAt Mvalue Mwrong MwrongAt MfaultKind MfaultPlace Mthing Morder_14 Mone_15 Mtwo_16 Mbest_17 Mcells Mgap Mwire Mstand Mruns Mminute Mhead Mplays Mrests Mwent Mout Mcame Mgone MlastOut) hw [0, 1, 2, 3, 4, 5, 6, 7, 8, 9, 10, 11, 12, 13, 14, 15, 16] [] rfl rfl (by decide) (by decide) hF9 hk9 ht9 hB9 hS9 [0, 1, 2, 3, 4, 5, 6, 7, 8, 9, 10, 11, 12, 13, 14, 15, 16] (by decide) rfl
        clear hF9 ht9 hvm9 hB9 hz9 hk9 hS9
        refine lv_istore_n (lv' := [(2, .int (zI r_130)), (3, .int (zI r_71)), (0, .ref (oM 0)), (1, .int (zI lst_12))]) hx hb dX8_best_78 rfl hl (by decide) rfl (fun ls hl => ?_)
        refine lv_goto (tgt := 13) hx hb dX8_best_79 (by decide) ?_
        have hv_134 : (0 : Int) ≤ Mone_15 ∧ Mone_15 ≤ 8 := by
          first | assumption | omega | grind
        have hv_135 : (0 : Int) ≤ Mtwo_16 ∧ Mtwo_16 ≤ 8 := by
          first | assumption | omega | grind
        have hv_136 : enP Mmany Morder_131 r_130 (A_18 ++ [preL Morder_14 Mmany.toNat]) := by
          exact en_next (by omega) (by assumption) (by omega) (by assumption)
        have hv_137 : -1 ≤ lst_12 ∧ lst_12 ≤ 1000 := by
          have q9 := noise_rng hp3 (f := Morder_14) (Mmany - 1).toNat
          omega
        have hv_138 : ∃ bl, ((lst_12 = -1 ∧ bl = []) ∨ (¬ lst_12 = -1 ∧ bl = preL Mbest_17 Mmany.toNat)) ∧ bestK (noiL lo Mmany) (-1, []) (fil (okL ki lo sh wo on tw nu Mmany Mbars) (A_18 ++ [preL Morder_14 Mmany.toNat])) = (lst_12, bl) := by
          obtain ⟨bl, hb1, hb2⟩ := (by assumption : ∃ bl, ((lst_12 = -1 ∧ bl = []) ∨ (¬ lst_12 = -1 ∧ bl = preL Mbest_17 Mmany.toNat)) ∧ bestK (noiL lo Mmany) (-1, []) (fil (okL ki lo sh wo on tw nu Mmany Mbars) A_18) = (lst_12, bl))
          have qn := noiL_pre0 (lo := lo) (f := Morder_14) (n := Mmany) (by omega)
          have q9 := noise_rng hp3 (f := Morder_14) (Mmany - 1).toNat
          first | exact mb_old (V := (okL ki lo sh wo on tw nu Mmany Mbars)) hb1 hb2 qn (by omega) | (have hok := why_ok (n := Mmany) (by omega) (by assumption : ∃ x y, whyP ki lo sh wo on tw nu Morder_14 Mmany Mbars _ x y ∧ _); first | exact mb_bad (V := (okL ki lo sh wo on tw nu Mmany Mbars)) hb1 hb2 (fun q => absurd (hok.mpr q) (by omega)) | exact mb_new (V := (okL ki lo sh wo on tw nu Mmany Mbars)) hb1 hb2 qn (hok.mp (by omega)) (by omega) (preL_congr (fun a a0 a1 => (by assumption : ∀ k, 0 ≤ k → k < _ → Mbest_17 k = Morder_14 k) a a0 (by omega))) (by omega) (by omega))
        have hv_139 : r_130 = 0 ∨ r_130 = 1 := by
          first | assumption | omega | grind
        have hm_140 : (ext Kp Mmany Mmany.toNat []).length - (A_18 ++ [preL Morder_14 Mmany.toNat]).length < (ext Kp Mmany Mmany.toNat []).length - A_18.length := by
          have hl9 := en_len (by assumption : enP Mmany Morder_14 more_13 A_18) (by omega)
          simp only [List.length_append, List.length_cons, List.length_nil] at hl9 ⊢
          omega
        exact ih_11 (lst_12, r_130, Morder_131, Mone_15, Mtwo_16, Mbest_17, (A_18 ++ [preL Morder_14 Mmany.toNat])) _ _ _ ⟨hq_132, hv_134, hv_135, hR_22, hv_136, hv_137, hv_138, hv_139, hw, lv_sub hl [2, 3, 0] rfl⟩ hm_140
      · skip
        refine lv_aload_n hx hb dX8_best_32 rfl (lv_at hl 1 rfl) ?_
        have hpre_141 : gRel Mmany ki le lo ta sh Mguest := by
          first | assumption | omega | grind
        have hpre_142 : bRel Mbars wo on tw nu Mbar := by
          first | assumption | omega | grind
        have hpre_143 : ∀ i, 0 ≤ i → i < Mmany → 0 ≤ Morder_14 i ∧ Morder_14 i < Mmany := by
          exact fun i i0 i1 => (en_perm (by assumption : enP Mmany Morder_14 more_13 A_18) (by omega)).1 i i0 i1
        have hF9 := z_free (wc := kM cI cB cZ oM 0 Mmany Mguest Mrow Mbars Mbar Mfresh Mtape Mtaped Mpos Mtoken MtokenAt Mvalue Mwrong MwrongAt MfaultKind MfaultPlace Mthing Morder_14 Mone_15 Mtwo_16 Mbest_17 Mcells Mgap Mwire Mstand Mruns Mminute Mhead Mplays Mrests Mwent Mout Mcame Mgone MlastOut) hw hA [0, 1, 2, 3, 4, 5, 6, 7, 8, 9, 10, 11, 12, 13, 14, 15, 16] rfl
        refine va_calli (va_runV (As := []) (rest := []) ⟨hx, hb, hml, hown, hts⟩ (c_X8_broken l D cI cB cZ oM H_70.size 0 Mmany Mguest Mrow Mbars Mbar Mfresh Mtape Mtaped Mpos Mtoken MtokenAt Mvalue Mwrong MwrongAt MfaultKind MfaultPlace Mthing Morder_14 Mone_15 Mtwo_16 Mbest_17 Mcells Mgap Mwire Mstand Mruns Mminute Mhead Mplays Mrests Mwent Mout Mcame Mgone MlastOut ki le lo ta sh wo on tw nu (by omega) (by omega) qMguest qMrow (by omega) qMbar qMfresh qMtape (by omega) (by omega) (by omega) (by omega) (by omega) (by omega) (by omega) (by omega) (by omega) (by omega) hR_19 (by omega) (by omega) hR_22 (by omega) (by omega) qMwire qMstand (by omega) (by omega) qMhead qMplays qMrests qMwent qMout qMcame qMgone (by omega) hpre_141 hpre_142 hpre_143) (cwV 0 hts gX8_best_X8_broken rfl rfl rfl (by decide +kernel) ⟨Nat.le_of_ble_eq_true rfl, Nat.le_of_ble_eq_true rfl⟩) ⟨zPre_blind, va_recv hK hw.1 (ci := 8) (q0 := 0) rfl rfl, z_pre hK hw [0, 1, 2, 3, 4, 5, 6, 7, 8, 9, 10, 11, 12, 13, 14, 15, 16] (by decide) rfl⟩ rfl rfl hl.1 rfl (lv_room (Nat.le_of_ble_eq_true rfl)) dX8_best_33 ⟨Nat.zero_le _, Nat.zero_le _⟩) hw.2.2 (fun q _ h => hF9 q h) hF9 (fun r9 u9 t9 H_144 locs9 ht9 hvm9 hq9 hB9 hz9 hk9 hS9 => ?_)
        obtain ⟨r_145, Mone_146, Mtwo_147⟩ := u9
        try dsimp only at hq9 hB9
        obtain ⟨rfl, hq9⟩ := hq9
        obtain ⟨hq_148, hq_149, hq_150, hq_151⟩ := hq9
        have hw : HW D A s.heap (kM cI cB cZ oM 0 Mmany Mguest Mrow Mbars Mbar Mfresh Mtape Mtaped Mpos Mtoken MtokenAt Mvalue Mwrong MwrongAt MfaultKind MfaultPlace Mthing Morder_14 Mone_146 Mtwo_147 Mbest_17 Mcells Mgap Mwire Mstand Mruns Mminute Mhead Mplays Mrests Mwent Mout Mcame Mgone MlastOut) H_144 locs9 := z_after (wc := kM cI cB cZ oM 0 Mmany Mguest Mrow Mbars Mbar Mfresh Mtape Mtaped Mpos Mtoken MtokenAt Mvalue Mwrong MwrongAt MfaultKind MfaultPlace Mthing Morder_14 Mone_15 Mtwo_16 Mbest_17 Mcells Mgap Mwire Mstand Mruns Mminute Mhead Mplays Mrests Mwent Mout Mcame Mgone MlastOut) hw [0, 1, 2, 3, 4, 5, 6, 7, 8, 9, 10, 11, 12, 13, 14, 15, 16] [] rfl rfl (by decide) (by decide) hF9 hk9 ht9 hB9 hS9 [0, 1, 2, 3, 4, 5, 6, 7, 8, 9, 10, 11, 12, 13, 14, 15, 16] (by decide) rfl
        clear hF9 ht9 hvm9 hB9 hz9 hk9 hS9
        refine z_iconst hx hb dX8_best_36 ?_
        refine z_icmp_ne (tgt := 74) hx hb dX8_best_37 (by decide) (by omega) (fun hc_152 => ?_) (fun hc_152 => ?_)
        · skip
          refine lv_aload_n hx hb dX8_best_74 rfl (lv_at hl 1 rfl) ?_
          have hF9 := z_free (wc := kM cI cB cZ oM 0 Mmany Mguest Mrow Mbars Mbar Mfresh Mtape Mtaped Mpos Mtoken MtokenAt Mvalue Mwrong MwrongAt MfaultKind MfaultPlace Mthing Morder_14 Mone_146 Mtwo_147 Mbest_17 Mcells Mgap Mwire Mstand Mruns Mminute Mhead Mplays Mrests Mwent Mout Mcame Mgone MlastOut) hw hA [0, 1, 2, 3, 4, 5, 6, 7, 8, 9, 10, 11, 12, 13, 14, 15, 16] rfl
          refine va_calli (va_runV (As := []) (rest := []) ⟨hx, hb, hml, hown, hts⟩ (c_X8_nextOrder l D cI cB cZ oM H_144.size 0 Mmany Mguest Mrow Mbars Mbar Mfresh Mtape Mtaped Mpos Mtoken MtokenAt Mvalue Mwrong MwrongAt MfaultKind MfaultPlace Mthing Morder_14 Mone_146 Mtwo_147 Mbest_17 Mcells Mgap Mwire Mstand Mruns Mminute Mhead Mplays Mrests Mwent Mout Mcame Mgone MlastOut (by omega) (by omega) qMguest qMrow (by omega) qMbar qMfresh qMtape (by omega) (by omega) (by omega) (by omega) (by omega) (by omega) (by omega) (by omega) (by omega) (by omega) hR_19 (by omega) (by omega) hR_22 (by omega) (by omega) qMwire qMstand (by omega) (by omega) qMhead qMplays qMrests qMwent qMout qMcame qMgone (by omega)) (cwV 0 hts gX8_best_X8_nextOrder rfl rfl rfl (by decide +kernel) ⟨Nat.le_of_ble_eq_true rfl, Nat.le_of_ble_eq_true rfl⟩) ⟨zPre_blind, va_recv hK hw.1 (ci := 8) (q0 := 0) rfl rfl, z_pre hK hw [0, 1, 2, 3, 4, 5, 6, 7, 8, 9, 10, 11, 12, 13, 14, 15, 16] (by decide) rfl⟩ rfl rfl hl.1 rfl (lv_room (Nat.le_of_ble_eq_true rfl)) dX8_best_75 ⟨Nat.zero_le _, Nat.zero_le _⟩) hw.2.2 (fun q _ h => hF9 q h) hF9 (fun r9 u9 t9 H_153 locs9 ht9 hvm9 hq9 hB9 hz9 hk9 hS9 => ?_)
          obtain ⟨r_154, Morder_155⟩ := u9
          try dsimp only at hq9 hB9
          obtain ⟨rfl, hq9⟩ := hq9
          obtain ⟨hq_156, hq_157⟩ := hq9
          have hw : HW D A s.heap (kM cI cB cZ oM 0 Mmany Mguest Mrow Mbars Mbar Mfresh Mtape Mtaped Mpos Mtoken MtokenAt Mvalue Mwrong MwrongAt MfaultKind MfaultPlace Mthing Morder_155 Mone_146 Mtwo_147 Mbest_17 Mcells Mgap Mwire Mstand Mruns Mminute Mhead Mplays Mrests Mwent Mout Mcame Mgone MlastOut) H_153 locs9 := z_after (wc := kM cI cB cZ oM 0 Mmany Mguest Mrow Mbars Mbar Mfresh Mtape Mtaped Mpos Mtoken MtokenAt Mvalue Mwrong MwrongAt MfaultKind MfaultPlace Mthing Morder_14 Mone_146 Mtwo_147 Mbest_17 Mcells Mgap Mwire Mstand Mruns Mminute Mhead Mplays Mrests Mwent Mout Mcame Mgone MlastOut) hw [0, 1, 2, 3, 4, 5, 6, 7, 8, 9, 10, 11, 12, 13, 14, 15, 16] [] rfl rfl (by decide) (by decide) hF9 hk9 ht9 hB9 hS9 [0, 1, 2, 3, 4, 5, 6, 7, 8, 9, 10, 11, 12, 13, 14, 15, 16] (by decide) rfl
          clear hF9 ht9 hvm9 hB9 hz9 hk9 hS9
          refine lv_istore_n (lv' := [(2, .int (zI r_154)), (3, .int (zI r_71)), (0, .ref (oM 0)), (1, .int (zI lst_12))]) hx hb dX8_best_78 rfl hl (by decide) rfl (fun ls hl => ?_)
          refine lv_goto (tgt := 13) hx hb dX8_best_79 (by decide) ?_
          have hv_158 : (0 : Int) ≤ Mone_146 ∧ Mone_146 ≤ 8 := by
            first | assumption | omega | grind
          have hv_159 : (0 : Int) ≤ Mtwo_147 ∧ Mtwo_147 ≤ 8 := by
            first | assumption | omega | grind
          have hv_160 : enP Mmany Morder_155 r_154 (A_18 ++ [preL Morder_14 Mmany.toNat]) := by
            exact en_next (by omega) (by assumption) (by omega) (by assumption)
          have hv_161 : -1 ≤ lst_12 ∧ lst_12 ≤ 1000 := by
            have q9 := noise_rng hp3 (f := Morder_14) (Mmany - 1).toNat
            omega
          have hv_162 : ∃ bl, ((lst_12 = -1 ∧ bl = []) ∨ (¬ lst_12 = -1 ∧ bl = preL Mbest_17 Mmany.toNat)) ∧ bestK (noiL lo Mmany) (-1, []) (fil (okL ki lo sh wo on tw nu Mmany Mbars) (A_18 ++ [preL Morder_14 Mmany.toNat])) = (lst_12, bl) := by
            obtain ⟨bl, hb1, hb2⟩ := (by assumption : ∃ bl, ((lst_12 = -1 ∧ bl = []) ∨ (¬ lst_12 = -1 ∧ bl = preL Mbest_17 Mmany.toNat)) ∧ bestK (noiL lo Mmany) (-1, []) (fil (okL ki lo sh wo on tw nu Mmany Mbars) A_18) = (lst_12, bl))
            have qn := noiL_pre0 (lo := lo) (f := Morder_14) (n := Mmany) (by omega)
            have q9 := noise_rng hp3 (f := Morder_14) (Mmany - 1).toNat
            first | exact mb_old (V := (okL ki lo sh wo on tw nu Mmany Mbars)) hb1 hb2 qn (by omega) | (have hok := why_ok (n := Mmany) (by omega) (by assumption : ∃ x y, whyP ki lo sh wo on tw nu Morder_14 Mmany Mbars _ x y ∧ _); first | exact mb_bad (V := (okL ki lo sh wo on tw nu Mmany Mbars)) hb1 hb2 (fun q => absurd (hok.mpr q) (by omega)) | exact mb_new (V := (okL ki lo sh wo on tw nu Mmany Mbars)) hb1 hb2 qn (hok.mp (by omega)) (by omega) (preL_congr (fun a a0 a1 => (by assumption : ∀ k, 0 ≤ k → k < _ → Mbest_17 k = Morder_14 k) a a0 (by omega))) (by omega) (by omega))
          have hv_163 : r_154 = 0 ∨ r_154 = 1 := by
            first | assumption | omega | grind
          have hm_164 : (ext Kp Mmany Mmany.toNat []).length - (A_18 ++ [preL Morder_14 Mmany.toNat]).length < (ext Kp Mmany Mmany.toNat []).length - A_18.length := by
            have hl9 := en_len (by assumption : enP Mmany Morder_14 more_13 A_18) (by omega)
            simp only [List.length_append, List.length_cons, List.length_nil] at hl9 ⊢
            omega
          exact ih_11 (lst_12, r_154, Morder_155, Mone_146, Mtwo_147, Mbest_17, (A_18 ++ [preL Morder_14 Mmany.toNat])) _ _ _ ⟨hq_156, hv_158, hv_159, hR_22, hv_160, hv_161, hv_162, hv_163, hw, lv_sub hl [2, 3, 0] rfl⟩ hm_164
        · skip
          refine lv_iload_n hx hb dX8_best_40 rfl (lv_at hl 0 rfl) ?_
          refine lv_istore_n (lv' := [(1, .int (zI r_71)), (3, .int (zI r_71)), (0, .ref (oM 0)), (2, .int (zI more_13))]) hx hb dX8_best_41 rfl hl (by decide) rfl (fun ls hl => ?_)
          refine z_iconst hx hb dX8_best_42 ?_
          refine lv_istore (lv' := [(4, .int (zI 0)), (1, .int (zI r_71)), (3, .int (zI r_71)), (0, .ref (oM 0)), (2, .int (zI more_13))]) hx hb dX8_best_43 hl (by decide) rfl (fun ls hl => ?_)
          have hv_165 : 0 ≤ (0 : Int) ∧ (0 : Int) ≤ Mmany := by
            first | assumption | omega | grind
          have hv_166 : ∀ k, 0 ≤ k → k < (0 : Int) → Mbest_17 k = Morder_14 k := by
            exact all_0
          refine z_loop (σ := Int × (Int → Int)) (μ := fun x9 => (9 - (x9.1)).toNat) (I := fun x9 H locs ls => (RA (x9.2) (0) 7) ∧ (0 ≤ (x9.1) ∧ (x9.1) ≤ Mmany) ∧ (∀ k, 0 ≤ k → k < (x9.1) → (x9.2) k = Morder_14 k) ∧ HW D A s.heap (kM cI cB cZ oM 0 Mmany Mguest Mrow Mbars Mbar Mfresh Mtape Mtaped Mpos Mtoken MtokenAt Mvalue Mwrong MwrongAt MfaultKind MfaultPlace Mthing Morder_14 Mone_146 Mtwo_147 (x9.2) Mcells Mgap Mwire Mstand Mruns Mminute Mhead Mplays Mrests Mwent Mout Mcame Mgone MlastOut) H locs ∧ lv_has ls 5 [(0, .ref (oM 0)), (1, .int (zI r_71)), (4, .int (zI (x9.1)))]) (0, Mbest_17) ⟨hR_22, hv_165, hv_166, hw, lv_sub hl [3, 1, 0] rfl⟩ ?_
          clear hw hl
          intro x9 H locs ls hI ih_167
          obtain ⟨i_168, Mbest_169⟩ := x9
          try dsimp only at hI
          obtain ⟨hR_170, hI_171, hI_172, hw, hl⟩ := hI
          refine lv_iload hx hb dX8_best_45 (lv_at hl 2 rfl) ?_
          refine lv_aload_n hx hb dX8_best_47 rfl (lv_at hl 0 rfl) ?_
          refine va_get (D := D) (ci := 8) (v := .int (zI Mmany)) (C := RX8) (T := TX8) (N := 36) hx hb hts hinX8 hown hK hw.1 0 rfl rfl 1 (by decide) (hts (.fieldLink RX8 72 "CarnivalRoadModel" "many" "I") (by decide +kernel)) (fun _ h9 => h9) rfl dX8_best_48 ?_
          refine z_icmp_ge (tgt := 74) hx hb dX8_best_51 (by decide) (by omega) (fun hc_173 => ?_) (fun hc_173 => ?_)
          · skip
            refine lv_aload_n hx hb dX8_best_74 rfl (lv_at hl 0 rfl) ?_
            have hF9 := z_free (wc := kM cI cB cZ oM 0 Mmany Mguest Mrow Mbars Mbar Mfresh Mtape Mtaped Mpos Mtoken MtokenAt Mvalue Mwrong MwrongAt MfaultKind MfaultPlace Mthing Morder_14 Mone_146 Mtwo_147 Mbest_169 Mcells Mgap Mwire Mstand Mruns Mminute Mhead Mplays Mrests Mwent Mout Mcame Mgone MlastOut) hw hA [0, 1, 2, 3, 4, 5, 6, 7, 8, 9, 10, 11, 12, 13, 14, 15, 16] rfl
            refine va_calli (va_runV (As := []) (rest := []) ⟨hx, hb, hml, hown, hts⟩ (c_X8_nextOrder l D cI cB cZ oM H.size 0 Mmany Mguest Mrow Mbars Mbar Mfresh Mtape Mtaped Mpos Mtoken MtokenAt Mvalue Mwrong MwrongAt MfaultKind MfaultPlace Mthing Morder_14 Mone_146 Mtwo_147 Mbest_169 Mcells Mgap Mwire Mstand Mruns Mminute Mhead Mplays Mrests Mwent Mout Mcame Mgone MlastOut (by omega) (by omega) qMguest qMrow (by omega) qMbar qMfresh qMtape (by omega) (by omega) (by omega) (by omega) (by omega) (by omega) (by omega) (by omega) (by omega) (by omega) hR_19 (by omega) (by omega) hR_170 (by omega) (by omega) qMwire qMstand (by omega) (by omega) qMhead qMplays qMrests qMwent qMout qMcame qMgone (by omega)) (cwV 0 hts gX8_best_X8_nextOrder rfl rfl rfl (by decide +kernel) ⟨Nat.le_of_ble_eq_true rfl, Nat.le_of_ble_eq_true rfl⟩) ⟨zPre_blind, va_recv hK hw.1 (ci := 8) (q0 := 0) rfl rfl, z_pre hK hw [0, 1, 2, 3, 4, 5, 6, 7, 8, 9, 10, 11, 12, 13, 14, 15, 16] (by decide) rfl⟩ rfl rfl hl.1 rfl (lv_room (Nat.le_of_ble_eq_true rfl)) dX8_best_75 ⟨Nat.zero_le _, Nat.zero_le _⟩) hw.2.2 (fun q _ h => hF9 q h) hF9 (fun r9 u9 t9 H_174 locs9 ht9 hvm9 hq9 hB9 hz9 hk9 hS9 => ?_)
            obtain ⟨r_175, Morder_176⟩ := u9
            try dsimp only at hq9 hB9
            obtain ⟨rfl, hq9⟩ := hq9
            obtain ⟨hq_177, hq_178⟩ := hq9
            have hw : HW D A s.heap (kM cI cB cZ oM 0 Mmany Mguest Mrow Mbars Mbar Mfresh Mtape Mtaped Mpos Mtoken MtokenAt Mvalue Mwrong MwrongAt MfaultKind MfaultPlace Mthing Morder_176 Mone_146 Mtwo_147 Mbest_169 Mcells Mgap Mwire Mstand Mruns Mminute Mhead Mplays Mrests Mwent Mout Mcame Mgone MlastOut) H_174 locs9 := z_after (wc := kM cI cB cZ oM 0 Mmany Mguest Mrow Mbars Mbar Mfresh Mtape Mtaped Mpos Mtoken MtokenAt Mvalue Mwrong MwrongAt MfaultKind MfaultPlace Mthing Morder_14 Mone_146 Mtwo_147 Mbest_169 Mcells Mgap Mwire Mstand Mruns Mminute Mhead Mplays Mrests Mwent Mout Mcame Mgone MlastOut) hw [0, 1, 2, 3, 4, 5, 6, 7, 8, 9, 10, 11, 12, 13, 14, 15, 16] [] rfl rfl (by decide) (by decide) hF9 hk9 ht9 hB9 hS9 [0, 1, 2, 3, 4, 5, 6, 7, 8, 9, 10, 11, 12, 13, 14, 15, 16] (by decide) rfl
            clear hF9 ht9 hvm9 hB9 hz9 hk9 hS9
            refine lv_istore_n (lv' := [(2, .int (zI r_175)), (0, .ref (oM 0)), (1, .int (zI r_71)), (4, .int (zI i_168))]) hx hb dX8_best_78 rfl hl (by decide) rfl (fun ls hl => ?_)
            refine lv_goto (tgt := 13) hx hb dX8_best_79 (by decide) ?_
            have hv_179 : (0 : Int) ≤ Mone_146 ∧ Mone_146 ≤ 8 := by
              first | assumption | omega | grind
            have hv_180 : (0 : Int) ≤ Mtwo_147 ∧ Mtwo_147 ≤ 8 := by
              first | assumption | omega | grind
            have hv_181 : enP Mmany Morder_176 r_175 (A_18 ++ [preL Morder_14 Mmany.toNat]) := by
              exact en_next (by omega) (by assumption) (by omega) (by assumption)
            have hv_182 : -1 ≤ r_71 ∧ r_71 ≤ 1000 := by
              have q9 := noise_rng hp3 (f := Morder_14) (Mmany - 1).toNat
              omega
            have hv_183 : ∃ bl, ((r_71 = -1 ∧ bl = []) ∨ (¬ r_71 = -1 ∧ bl = preL Mbest_169 Mmany.toNat)) ∧ bestK (noiL lo Mmany) (-1, []) (fil (okL ki lo sh wo on tw nu Mmany Mbars) (A_18 ++ [preL Morder_14 Mmany.toNat])) = (r_71, bl) := by
              obtain ⟨bl, hb1, hb2⟩ := (by assumption : ∃ bl, ((lst_12 = -1 ∧ bl = []) ∨ (¬ lst_12 = -1 ∧ bl = preL Mbest_17 Mmany.toNat)) ∧ bestK (noiL lo Mmany) (-1, []) (fil (okL ki lo sh wo on tw nu Mmany Mbars) A_18) = (lst_12, bl))
              have qn := noiL_pre0 (lo := lo) (f := Morder_14) (n := Mmany) (by omega)
              have q9 := noise_rng hp3 (f := Morder_14) (Mmany - 1).toNat
              first | exact mb_old (V := (okL ki lo sh wo on tw nu Mmany Mbars)) hb1 hb2 qn (by omega) | (have hok := why_ok (n := Mmany) (by omega) (by assumption : ∃ x y, whyP ki lo sh wo on tw nu Morder_14 Mmany Mbars _ x y ∧ _); first | exact mb_bad (V := (okL ki lo sh wo on tw nu Mmany Mbars)) hb1 hb2 (fun q => absurd (hok.mpr q) (by omega)) | exact mb_new (V := (okL ki lo sh wo on tw nu Mmany Mbars)) hb1 hb2 qn (hok.mp (by omega)) (by omega) (preL_congr (fun a a0 a1 => (by assumption : ∀ k, 0 ≤ k → k < _ → Mbest_169 k = Morder_14 k) a a0 (by omega))) (by omega) (by omega))
            have hv_184 : r_175 = 0 ∨ r_175 = 1 := by
              first | assumption | omega | grind
            have hm_185 : (ext Kp Mmany Mmany.toNat []).length - (A_18 ++ [preL Morder_14 Mmany.toNat]).length < (ext Kp Mmany Mmany.toNat []).length - A_18.length := by
              have hl9 := en_len (by assumption : enP Mmany Morder_14 more_13 A_18) (by omega)
              simp only [List.length_append, List.length_cons, List.length_nil] at hl9 ⊢
              omega
            exact ih_11 (r_71, r_175, Morder_176, Mone_146, Mtwo_147, Mbest_169, (A_18 ++ [preL Morder_14 Mmany.toNat])) _ _ _ ⟨hq_177, hv_179, hv_180, hR_170, hv_181, hv_182, hv_183, hv_184, hw, lv_sub hl [1, 2, 0] rfl⟩ hm_185
          · skip
            refine lv_aload_n hx hb dX8_best_54 rfl (lv_at hl 0 rfl) ?_
            refine va_get (D := D) (ci := 8) (v := .ref (oM 7)) (C := RX8) (T := TX8) (N := 36) hx hb hts hinX8 hown hK hw.1 0 rfl rfl 21 (by decide) (hts (.fieldLink RX8 32 "CarnivalRoadModel" "best" "[I") (by decide +kernel)) (fun _ h9 => h9) rfl dX8_best_55 ?_
            refine lv_iload hx hb dX8_best_58 (lv_at hl 2 rfl) ?_
            refine lv_aload_n hx hb dX8_best_60 rfl (lv_at hl 0 rfl) ?_
            refine va_get (D := D) (ci := 8) (v := .ref (oM 6)) (C := RX8) (T := TX8) (N := 36) hx hb hts hinX8 hown hK hw.1 0 rfl rfl 18 (by decide) (hts (.fieldLink RX8 29 "CarnivalRoadModel" "order" "[I") (by decide +kernel)) (fun _ h9 => h9) rfl dX8_best_61 ?_
            refine lv_iload hx hb dX8_best_64 (lv_at hl 2 rfl) ?_
            have hi_186 : (0 : Int) ≤ i_168 ∧ i_168 < ((8 : Nat) : Int) := by
              first | assumption | omega | grind
            refine z_iald (n := 8) (f := Morder_14) hx hb hK hw 6 rfl (by decide) hi_186 dX8_best_66 ?_
            have hq_187 : 0 ≤ Morder_14 i_168 ∧ Morder_14 i_168 ≤ 7 := hR_19 i_168
            have hi_188 : (0 : Int) ≤ i_168 ∧ i_168 < ((8 : Nat) : Int) := by
              first | assumption | omega | grind
            have hv_189 : (0 : Int) ≤ (Morder_14 i_168) ∧ (Morder_14 i_168) ≤ 7 := by
              first | assumption | omega | grind
            have hR_190 : RA (uZ Mbest_169 i_168 (Morder_14 i_168)) (0) 7 := RA_up hR_170 hv_189
            refine z_iast (n := 8) (f := Mbest_169) (ws2 := kM cI cB cZ oM 0 Mmany Mguest Mrow Mbars Mbar Mfresh Mtape Mtaped Mpos Mtoken MtokenAt Mvalue Mwrong MwrongAt MfaultKind MfaultPlace Mthing Morder_14 Mone_146 Mtwo_147 (uZ Mbest_169 i_168 (Morder_14 i_168)) Mcells Mgap Mwire Mstand Mruns Mminute Mhead Mplays Mrests Mwent Mout Mcame Mgone MlastOut) hx hb hK hw 7 rfl (by decide) hi_188 dX8_best_67 rfl (fun H locs hw => ?_)
            refine z_iinc (k := 2) (lv' := [(4, .int (zI (i_168 + 1))), (0, .ref (oM 0)), (1, .int (zI r_71))]) hx hb dX8_best_68 hl rfl (by decide) rfl (fun ls hl => ?_)
            refine lv_goto (tgt := 45) hx hb dX8_best_71 (by decide) ?_
            have hv_191 : 0 ≤ (i_168 + 1) ∧ (i_168 + 1) ≤ Mmany := by
              first | assumption | omega | grind
            have hv_192 : ∀ k, 0 ≤ k → k < (i_168 + 1) → (uZ Mbest_169 i_168 (Morder_14 i_168)) k = Morder_14 k := by
              refine all_s (fun k k0 k1 => ?_) uZ_s
              rw [uZ_n (by omega)]
              revert k1
              revert k0
              revert k
              assumption
            have hm_193 : (9 - (i_168 + 1)).toNat < (9 - i_168).toNat := by
              first | assumption | omega | grind
            exact ih_167 ((i_168 + 1), (uZ Mbest_169 i_168 (Morder_14 i_168))) _ _ _ ⟨hR_190, hv_191, hv_192, hw, lv_sub hl [1, 2, 0] rfl⟩ hm_193
set_option maxRecDepth 100000 in
set_option maxHeartbeats 4000000 in
theorem c_X8_noise (l : Launch) (D : va_G) (cI cB cZ : ClassId) (oM : Nat → Nat) (sz : Nat) (Mthrown : Int) (Mmany : Int) (Mguest : Int → Int) (Mrow : Int → Int) (Mbars : Int) (Mbar : Int → Int) (Mfresh : Int → Int) (Mtape : Int → Int) (Mtaped : Int) (Mpos : Int) (Mtoken : Int) (MtokenAt : Int) (Mvalue : Int) (Mwrong : Int) (MwrongAt : Int) (MfaultKind : Int) (MfaultPlace : Int) (Mthing : Int) (Morder : Int → Int) (Mone : Int) (Mtwo : Int) (Mbest : Int → Int) (Mcells : Int) (Mgap : Int) (Mwire : Int → Int) (Mstand : Int → Int) (Mruns : Int) (Mminute : Int) (Mhead : Int → Int) (Mplays : Int → Int) (Mrests : Int → Int) (Mwent : Int → Int) (Mout : Int → Int) (Mcame : Int → Int) (Mgone : Int → Int) (MlastOut : Int) (lo : Int → Int) (qMthrown : 0 ≤ Mthrown ∧ Mthrown ≤ 2) (qMmany : 0 ≤ Mmany ∧ Mmany ≤ 8) (qMguest : RA Mguest (0) 9) (qMrow : RA Mrow (0) 7) (qMbars : 0 ≤ Mbars ∧ Mbars ≤ 10) (qMbar : RA Mbar (0) 104) (qMfresh : RA Mfresh (0) 104) (qMtape : RA Mtape (0) 255) (qMtaped : 0 ≤ Mtaped ∧ Mtaped ≤ 400) (qMpos : 0 ≤ Mpos ∧ Mpos ≤ 400) (qMtoken : 0 ≤ Mtoken ∧ Mtoken ≤ 15) (qMtokenAt : 0 ≤ MtokenAt ∧ MtokenAt ≤ 400) (qMvalue : 0 ≤ Mvalue ∧ Mvalue ≤ 99) (qMwrong : 0 ≤ Mwrong ∧ Mwrong ≤ 3) (qMwrongAt : 0 ≤ MwrongAt ∧ MwrongAt ≤ 400) (qMfaultKind : 0 ≤ MfaultKind ∧ MfaultKind ≤ 3) (qMfaultPlace : -1 ≤ MfaultPlace ∧ MfaultPlace ≤ 400) (qMthing : 0 ≤ Mthing ∧ Mthing ≤ 104) (qMorder : RA Morder (0) 7) (qMone : 0 ≤ Mone ∧ Mone ≤ 8) (qMtwo : 0 ≤ Mtwo ∧ Mtwo ≤ 8) (qMbest : RA Mbest (0) 7) (qMcells : 1 ≤ Mcells ∧ Mcells ≤ 50) (qMgap : 0 ≤ Mgap ∧ Mgap ≤ 3) (qMwire : RA Mwire (0) 9) (qMstand : RA Mstand (0) 9) (qMruns : 0 ≤ Mruns ∧ Mruns ≤ 1) (qMminute : 0 ≤ Mminute ∧ Mminute ≤ 1000000) (qMhead : RA Mhead (-1) 60) (qMplays : RA Mplays (0) 18) (qMrests : RA Mrests (0) 3) (qMwent : RA Mwent (0) 61) (qMout : RA Mout (0) 1) (qMcame : RA Mcame (-1) 1000000) (qMgone : RA Mgone (-1) 1000000) (qMlastOut : 0 ≤ MlastOut ∧ MlastOut ≤ 1000000) (hp0 : ∀ g, 0 ≤ g → g < Mmany → Mguest (5 * g + 2) = lo g) (hp1 : ∀ i, 0 ≤ i → i < Mmany → 0 ≤ Mrow i ∧ Mrow i < Mmany) (hp2 : RA lo 0 9) : Met l yX8_noise wsX8_noise ({ frames := 2, cells := 0, slots := 0, locals := 44 }) (va_Pc [.ref (oM 0)] (zPre D cI cB cZ sz (kM cI cB cZ oM Mthrown Mmany Mguest Mrow Mbars Mbar Mfresh Mtape Mtaped Mpos Mtoken MtokenAt Mvalue Mwrong MwrongAt MfaultKind MfaultPlace Mthing Morder Mone Mtwo Mbest Mcells Mgap Mwire Mstand Mruns Mminute Mhead Mplays Mrests Mwent Mout Mcame Mgone MlastOut))) (va_Qi (fun (r9 : Int32) (u9 : Int × Int × (Int → Int)) => r9 = zI u9.1 ∧ (((0 : Int) ≤ u9.2.1 ∧ u9.2.1 ≤ 2) ∧ (RA u9.2.2 (0) 7) ∧ (u9.1 = noiseS lo Mrow (Mmany - 1).toNat) ∧ (u9.2.1 = 0))) (fun u9 t9 => zAt D cI cB cZ (va_A (kM cI cB cZ oM Mthrown Mmany Mguest Mrow Mbars Mbar Mfresh Mtape Mtaped Mpos Mtoken MtokenAt Mvalue Mwrong MwrongAt MfaultKind MfaultPlace Mthing Morder Mone Mtwo Mbest Mcells Mgap Mwire Mstand Mruns Mminute Mhead Mplays Mrests Mwent Mout Mcame Mgone MlastOut) sz) (kM cI cB cZ oM (u9.2.1) Mmany Mguest Mrow Mbars Mbar Mfresh Mtape Mtaped Mpos Mtoken MtokenAt Mvalue Mwrong MwrongAt MfaultKind MfaultPlace Mthing (u9.2.2) Mone Mtwo Mbest Mcells Mgap Mwire Mstand Mruns Mminute Mhead Mplays Mrests Mwent Mout Mcame Mgone MlastOut) t9) (va_A (kM cI cB cZ oM Mthrown Mmany Mguest Mrow Mbars Mbar Mfresh Mtape Mtaped Mpos Mtoken MtokenAt Mvalue Mwrong MwrongAt MfaultKind MfaultPlace Mthing Morder Mone Mtwo Mbest Mcells Mgap Mwire Mstand Mruns Mminute Mhead Mplays Mrests Mwent Mout Mcame Mgone MlastOut) sz)) 0 0 (va_A (kM cI cB cZ oM Mthrown Mmany Mguest Mrow Mbars Mbar Mfresh Mtape Mtaped Mpos Mtoken MtokenAt Mvalue Mwrong MwrongAt MfaultKind MfaultPlace Mthing Morder Mone Mtwo Mbest Mcells Mgap Mwire Mstand Mruns Mminute Mhead Mplays Mrests Mwent Mout Mcame Mgone MlastOut) sz) := by
  refine Met.ofW (cc := cX8_noise) (maxL := 1) (ret := (some .int)) (by decide) rfl ?_
  intro pp ee s mm aa bw mt cd s₁ BL hml hv
  obtain ⟨rfl, hsz, hP, hK, hD0⟩ := hv
  have hx := BL.exec
  have hb := BL.bytes
  have hr := BL.returns
  have hts := atoms_spec (ws := wsX8_noise) BL.pre
  have hown : s.vm.findClass RX8 = some mm.cls := findClass_of_methodNamed BL.named
  have hlocks := BL.notSynchronized
  subst hsz
  generalize hAe : va_A (kM cI cB cZ oM Mthrown Mmany Mguest Mrow Mbars Mbar Mfresh Mtape Mtaped Mpos Mtoken MtokenAt Mvalue Mwrong MwrongAt MfaultKind MfaultPlace Mthing Morder Mone Mtwo Mbest Mcells Mgap Mwire Mstand Mruns Mminute Mhead Mplays Mrests Mwent Mout Mcame Mgone MlastOut) s.heap.size = A
  have hA : ∀ q : Nat, s.heap.size ≤ q → A q := fun q h => by rw [← hAe]; exact Or.inr h
  have hw : HW D A s.heap (kM cI cB cZ oM Mthrown Mmany Mguest Mrow Mbars Mbar Mfresh Mtape Mtaped Mpos Mtoken MtokenAt Mvalue Mwrong MwrongAt MfaultKind MfaultPlace Mthing Morder Mone Mtwo Mbest Mcells Mgap Mwire Mstand Mruns Mminute Mhead Mplays Mrests Mwent Mout Mcame Mgone MlastOut) s.heap [] := z_start hAe hP hD0
  clear hP hD0
  have hl := lv_entry ([.ref (oM 0)]) (n := 1) (Nat.le_of_ble_eq_true rfl)
  rw [lg_entry_eq]
  generalize (lg_sl ([.ref (oM 0)]) ++ List.replicate (1 - (lg_sl ([.ref (oM 0)])).length) Slot.unset).toArray = ls at hl ⊢
  have hl : lv_has ls 1 [(0, .ref (oM 0))] := hl
  have hinX8 : ∀ w ∈ wsX80, w ∈ wsX8_noise := by decide +kernel
  refine lv_aload_n hx hb dX8_noise_0 rfl (lv_at hl 0 rfl) ?_
  refine z_iconst hx hb dX8_noise_1 ?_
  refine z_put (D := D) (ci := 8) (v := .int (zI 0)) (ty := .int) (C := RX8) (T := TX8) (N := 36) (ws2 := kM cI cB cZ oM 0 Mmany Mguest Mrow Mbars Mbar Mfresh Mtape Mtaped Mpos Mtoken MtokenAt Mvalue Mwrong MwrongAt MfaultKind MfaultPlace Mthing Morder Mone Mtwo Mbest Mcells Mgap Mwire Mstand Mruns Mminute Mhead Mplays Mrests Mwent Mout Mcame Mgone MlastOut) hx hb hts hinX8 tyX8 tyX8_ok nmX8 hown hK hw 0 rfl rfl 0 (by decide) (hts (.fieldLink RX8 69 "CarnivalRoadModel" "thrown" "I") (by decide +kernel)) (fun _ h9 => h9) rfl (by decide +kernel) rfl rfl (Nat.le_of_ble_eq_true rfl) dX8_noise_2 rfl (fun H locs hw => ?_)
  refine lv_aload_n hx hb dX8_noise_5 rfl (lv_at hl 0 rfl) ?_
  have hF9 := z_free (wc := kM cI cB cZ oM 0 Mmany Mguest Mrow Mbars Mbar Mfresh Mtape Mtaped Mpos Mtoken MtokenAt Mvalue Mwrong MwrongAt MfaultKind MfaultPlace Mthing Morder Mone Mtwo Mbest Mcells Mgap Mwire Mstand Mruns Mminute Mhead Mplays Mrests Mwent Mout Mcame Mgone MlastOut) hw hA [0, 1, 2, 3, 4, 5, 6, 7, 8, 9, 10, 11, 12, 13, 14, 15, 16] rfl
  refine va_callv (va_runV (As := []) (rest := []) ⟨hx, hb, hml, hown, hts⟩ (c_X8_takes l D cI cB cZ oM H.size 0 Mmany Mguest Mrow Mbars Mbar Mfresh Mtape Mtaped Mpos Mtoken MtokenAt Mvalue Mwrong MwrongAt MfaultKind MfaultPlace Mthing Morder Mone Mtwo Mbest Mcells Mgap Mwire Mstand Mruns Mminute Mhead Mplays Mrests Mwent Mout Mcame Mgone MlastOut (by omega) (by omega) qMguest qMrow (by omega) qMbar qMfresh qMtape (by omega) (by omega) (by omega) (by omega) (by omega) (by omega) (by omega) (by omega) (by omega) (by omega) qMorder (by omega) (by omega) qMbest (by omega) (by omega) qMwire qMstand (by omega) (by omega) qMhead qMplays qMrests qMwent qMout qMcame qMgone (by omega)) (cwV 0 hts gX8_noise_X8_takes rfl rfl rfl (by decide +kernel) ⟨Nat.le_of_ble_eq_true rfl, Nat.le_of_ble_eq_true rfl⟩) ⟨zPre_blind, va_recv hK hw.1 (ci := 8) (q0 := 0) rfl rfl, z_pre hK hw [0, 1, 2, 3, 4, 5, 6, 7, 8, 9, 10, 11, 12, 13, 14, 15, 16] (by decide) rfl⟩ rfl rfl hl.1 rfl (lv_room (Nat.le_of_ble_eq_true rfl)) dX8_noise_6 ⟨Nat.zero_le _, Nat.zero_le _⟩) hw.2.2 (fun q _ h => hF9 q h) hF9 (fun u9 t9 H_1 locs9 ht9 hvm9 hq9 hB9 hz9 hk9 hS9 => ?_)
  obtain ⟨Morder_2, rfl⟩ : ∃ z, z = u9 := ⟨_, rfl⟩
  try dsimp only at hq9 hB9
  obtain ⟨hq_3, hq_4⟩ := hq9
  have hw : HW D A s.heap (kM cI cB cZ oM 0 Mmany Mguest Mrow Mbars Mbar Mfresh Mtape Mtaped Mpos Mtoken MtokenAt Mvalue Mwrong MwrongAt MfaultKind MfaultPlace Mthing Morder_2 Mone Mtwo Mbest Mcells Mgap Mwire Mstand Mruns Mminute Mhead Mplays Mrests Mwent Mout Mcame Mgone MlastOut) H_1 locs9 := z_after (wc := kM cI cB cZ oM 0 Mmany Mguest Mrow Mbars Mbar Mfresh Mtape Mtaped Mpos Mtoken MtokenAt Mvalue Mwrong MwrongAt MfaultKind MfaultPlace Mthing Morder Mone Mtwo Mbest Mcells Mgap Mwire Mstand Mruns Mminute Mhead Mplays Mrests Mwent Mout Mcame Mgone MlastOut) hw [0, 1, 2, 3, 4, 5, 6, 7, 8, 9, 10, 11, 12, 13, 14, 15, 16] [] rfl rfl (by decide) (by decide) hF9 hk9 ht9 hB9 hS9 [0, 1, 2, 3, 4, 5, 6, 7, 8, 9, 10, 11, 12, 13, 14, 15, 16] (by decide) rfl
  clear hF9 ht9 hvm9 hB9 hz9 hk9 hS9
  refine lv_aload_n hx hb dX8_noise_9 rfl (lv_at hl 0 rfl) ?_
  have hpre_5 : ∀ g, 0 ≤ g → g < Mmany → Mguest (5 * g + 2) = lo g := by
    first | assumption | (intro i i0 i1; rw [(by assumption : ∀ k, 0 ≤ k → k < Mmany → Morder_2 k = Mrow k) i i0 i1]; exact hp1 i i0 i1)
  have hpre_6 : ∀ i, 0 ≤ i → i < Mmany → 0 ≤ Morder_2 i ∧ Morder_2 i < Mmany := by
    first | assumption | (intro i i0 i1; rw [(by assumption : ∀ k, 0 ≤ k → k < Mmany → Morder_2 k = Mrow k) i i0 i1]; exact hp1 i i0 i1)
  have hpre_7 : RA lo 0 9 := by
    first | assumption | (intro i i0 i1; rw [(by assumption : ∀ k, 0 ≤ k → k < Mmany → Morder_2 k = Mrow k) i i0 i1]; exact hp1 i i0 i1)
  have hF9 := z_free (wc := kM cI cB cZ oM 0 Mmany Mguest Mrow Mbars Mbar Mfresh Mtape Mtaped Mpos Mtoken MtokenAt Mvalue Mwrong MwrongAt MfaultKind MfaultPlace Mthing Morder_2 Mone Mtwo Mbest Mcells Mgap Mwire Mstand Mruns Mminute Mhead Mplays Mrests Mwent Mout Mcame Mgone MlastOut) hw hA [0, 1, 2, 3, 4, 5, 6, 7, 8, 9, 10, 11, 12, 13, 14, 15, 16] rfl
  refine va_calli (va_runV (As := []) (rest := []) ⟨hx, hb, hml, hown, hts⟩ (c_X8_noiseOf l D cI cB cZ oM H_1.size 0 Mmany Mguest Mrow Mbars Mbar Mfresh Mtape Mtaped Mpos Mtoken MtokenAt Mvalue Mwrong MwrongAt MfaultKind MfaultPlace Mthing Morder_2 Mone Mtwo Mbest Mcells Mgap Mwire Mstand Mruns Mminute Mhead Mplays Mrests Mwent Mout Mcame Mgone MlastOut lo (by omega) (by omega) qMguest qMrow (by omega) qMbar qMfresh qMtape (by omega) (by omega) (by omega) (by omega) (by omega) (by omega) (by omega) (by omega) (by omega) (by omega) hq_3 (by omega) (by omega) qMbest (by omega) (by omega) qMwire qMstand (by omega) (by omega) qMhead qMplays qMrests qMwent qMout qMcame qMgone (by omega) hpre_5 hpre_6 hpre_7) (cwV 0 hts gX8_noise_X8_noiseOf rfl rfl rfl (by decide +kernel) ⟨Nat.le_of_ble_eq_true rfl, Nat.le_of_ble_eq_true rfl⟩) ⟨zPre_blind, va_recv hK hw.1 (ci := 8) (q0 := 0) rfl rfl, z_pre hK hw [0, 1, 2, 3, 4, 5, 6, 7, 8, 9, 10, 11, 12, 13, 14, 15, 16] (by decide) rfl⟩ rfl rfl hl.1 rfl (lv_room (Nat.le_of_ble_eq_true rfl)) dX8_noise_10 ⟨Nat.zero_le _, Nat.zero_le _⟩) hw.2.2 (fun q _ h => hF9 q h) hF9 (fun r9 u9 t9 H_8 locs9 ht9 hvm9 hq9 hB9 hz9 hk9 hS9 => ?_)
  obtain ⟨r_9, rfl⟩ : ∃ z, z = u9 := ⟨_, rfl⟩
  try dsimp only at hq9 hB9
  obtain ⟨rfl, hq9⟩ := hq9
  obtain ⟨hq_10, hq_11⟩ := hq9
  have hw : HW D A s.heap (kM cI cB cZ oM 0 Mmany Mguest Mrow Mbars Mbar Mfresh Mtape Mtaped Mpos Mtoken MtokenAt Mvalue Mwrong MwrongAt MfaultKind MfaultPlace Mthing Morder_2 Mone Mtwo Mbest Mcells Mgap Mwire Mstand Mruns Mminute Mhead Mplays Mrests Mwent Mout Mcame Mgone MlastOut) H_8 locs9 := z_after (wc := kM cI cB cZ oM 0 Mmany Mguest Mrow Mbars Mbar Mfresh Mtape Mtaped Mpos Mtoken MtokenAt Mvalue Mwrong MwrongAt MfaultKind MfaultPlace Mthing Morder_2 Mone Mtwo Mbest Mcells Mgap Mwire Mstand Mruns Mminute Mhead Mplays Mrests Mwent Mout Mcame Mgone MlastOut) hw [0, 1, 2, 3, 4, 5, 6, 7, 8, 9, 10, 11, 12, 13, 14, 15, 16] [] rfl rfl (by decide) (by decide) hF9 hk9 ht9 hB9 hS9 [0, 1, 2, 3, 4, 5, 6, 7, 8, 9, 10, 11, 12, 13, 14, 15, 16] (by decide) rfl
  clear hF9 ht9 hvm9 hB9 hz9 hk9 hS9
  have hv_12 : (0 : Int) ≤ (0 : Int) ∧ (0 : Int) ≤ 2 := by
    first | assumption | omega | grind
  have hv_13 : r_9 = noiseS lo Mrow (Mmany - 1).toNat := by
    first | rfl | exact Eq.trans (by assumption : r_9 = noiseS lo Morder_2 (Mmany - 1).toNat) (noise_row (by assumption) (by omega))
  have hv_14 : (0 : Int) = 0 := by
    first | rfl | exact Eq.trans (by assumption : r_9 = noiseS lo Morder_2 (Mmany - 1).toNat) (noise_row (by assumption) (by omega))
  exact W.iret (v := zI r_9) hx hb hr (fun t9 ht hW => ⟨⟨zI r_9, (r_9, 0, Morder_2), rfl, ⟨rfl, ⟨hv_12, hq_3, hv_13, hv_14⟩⟩, by subst hAe; exact z_end hK hw ht hW⟩, by subst hAe; exact hw.2.2.F ht⟩) (by subst hAe; exact hw.2.2.2.2) dX8_noise_13
set_option maxRecDepth 100000 in
set_option maxHeartbeats 4000000 in
theorem c_X8_why (l : Launch) (D : va_G) (cI cB cZ : ClassId) (oM : Nat → Nat) (sz : Nat) (Mthrown : Int) (Mmany : Int) (Mguest : Int → Int) (Mrow : Int → Int) (Mbars : Int) (Mbar : Int → Int) (Mfresh : Int → Int) (Mtape : Int → Int) (Mtaped : Int) (Mpos : Int) (Mtoken : Int) (MtokenAt : Int) (Mvalue : Int) (Mwrong : Int) (MwrongAt : Int) (MfaultKind : Int) (MfaultPlace : Int) (Mthing : Int) (Morder : Int → Int) (Mone : Int) (Mtwo : Int) (Mbest : Int → Int) (Mcells : Int) (Mgap : Int) (Mwire : Int → Int) (Mstand : Int → Int) (Mruns : Int) (Mminute : Int) (Mhead : Int → Int) (Mplays : Int → Int) (Mrests : Int → Int) (Mwent : Int → Int) (Mout : Int → Int) (Mcame : Int → Int) (Mgone : Int → Int) (MlastOut : Int) (w : Int) (ki : Int → Int) (le : Int → Int) (lo : Int → Int) (ta : Int → Int) (sh : Int → Int) (wo : Int → Int) (on : Int → Int) (tw : Int → Int) (nu : Int → Int) (qMthrown : 0 ≤ Mthrown ∧ Mthrown ≤ 2) (qMmany : 0 ≤ Mmany ∧ Mmany ≤ 8) (qMguest : RA Mguest (0) 9) (qMrow : RA Mrow (0) 7) (qMbars : 0 ≤ Mbars ∧ Mbars ≤ 10) (qMbar : RA Mbar (0) 104) (qMfresh : RA Mfresh (0) 104) (qMtape : RA Mtape (0) 255) (qMtaped : 0 ≤ Mtaped ∧ Mtaped ≤ 400) (qMpos : 0 ≤ Mpos ∧ Mpos ≤ 400) (qMtoken : 0 ≤ Mtoken ∧ Mtoken ≤ 15) (qMtokenAt : 0 ≤ MtokenAt ∧ MtokenAt ≤ 400) (qMvalue : 0 ≤ Mvalue ∧ Mvalue ≤ 99) (qMwrong : 0 ≤ Mwrong ∧ Mwrong ≤ 3) (qMwrongAt : 0 ≤ MwrongAt ∧ MwrongAt ≤ 400) (qMfaultKind : 0 ≤ MfaultKind ∧ MfaultKind ≤ 3) (qMfaultPlace : -1 ≤ MfaultPlace ∧ MfaultPlace ≤ 400) (qMthing : 0 ≤ Mthing ∧ Mthing ≤ 104) (qMorder : RA Morder (0) 7) (qMone : 0 ≤ Mone ∧ Mone ≤ 8) (qMtwo : 0 ≤ Mtwo ∧ Mtwo ≤ 8) (qMbest : RA Mbest (0) 7) (qMcells : 1 ≤ Mcells ∧ Mcells ≤ 50) (qMgap : 0 ≤ Mgap ∧ Mgap ≤ 3) (qMwire : RA Mwire (0) 9) (qMstand : RA Mstand (0) 9) (qMruns : 0 ≤ Mruns ∧ Mruns ≤ 1) (qMminute : 0 ≤ Mminute ∧ Mminute ≤ 1000000) (qMhead : RA Mhead (-1) 60) (qMplays : RA Mplays (0) 18) (qMrests : RA Mrests (0) 3) (qMwent : RA Mwent (0) 61) (qMout : RA Mout (0) 1) (qMcame : RA Mcame (-1) 1000000) (qMgone : RA Mgone (-1) 1000000) (qMlastOut : 0 ≤ MlastOut ∧ MlastOut ≤ 1000000) (qw : -2147483648 ≤ w ∧ w ≤ 2147483647) (hp0 : gRel Mmany ki le lo ta sh Mguest) (hp1 : bRel Mbars wo on tw nu Mbar) (hp2 : ∀ i, 0 ≤ i → i < Mmany → 0 ≤ Mrow i ∧ Mrow i < Mmany) : Met l yX8_why wsX8_why ({ frames := 4, cells := 0, slots := 0, locals := 94 }) (va_Pc [.ref (oM 0), .int (zI w)] (zPre D cI cB cZ sz (kM cI cB cZ oM Mthrown Mmany Mguest Mrow Mbars Mbar Mfresh Mtape Mtaped Mpos Mtoken MtokenAt Mvalue Mwrong MwrongAt MfaultKind MfaultPlace Mthing Morder Mone Mtwo Mbest Mcells Mgap Mwire Mstand Mruns Mminute Mhead Mplays Mrests Mwent Mout Mcame Mgone MlastOut))) (va_Qi (fun (r9 : Int32) (u9 : Int × Int × (Int → Int) × Int × Int) => r9 = zI u9.1 ∧ (((0 : Int) ≤ u9.2.1 ∧ u9.2.1 ≤ 2) ∧ (RA u9.2.2.1 (0) 7) ∧ ((0 : Int) ≤ u9.2.2.2.1 ∧ u9.2.2.2.1 ≤ 8) ∧ ((0 : Int) ≤ u9.2.2.2.2 ∧ u9.2.2.2.2 ≤ 8) ∧ (∃ b l g, whyP ki lo sh wo on tw nu Mrow Mmany Mbars b l g ∧ ((w = 0 ∧ u9.1 = b) ∨ (w = 1 ∧ u9.1 = l) ∨ (w = 2 ∧ u9.1 = g) ∨ ((w < 0 ∨ 2 < w) ∧ u9.1 = -1))) ∧ (u9.2.1 = 0))) (fun u9 t9 => zAt D cI cB cZ (va_A (kM cI cB cZ oM Mthrown Mmany Mguest Mrow Mbars Mbar Mfresh Mtape Mtaped Mpos Mtoken MtokenAt Mvalue Mwrong MwrongAt MfaultKind MfaultPlace Mthing Morder Mone Mtwo Mbest Mcells Mgap Mwire Mstand Mruns Mminute Mhead Mplays Mrests Mwent Mout Mcame Mgone MlastOut) sz) (kM cI cB cZ oM (u9.2.1) Mmany Mguest Mrow Mbars Mbar Mfresh Mtape Mtaped Mpos Mtoken MtokenAt Mvalue Mwrong MwrongAt MfaultKind MfaultPlace Mthing (u9.2.2.1) (u9.2.2.2.1) (u9.2.2.2.2) Mbest Mcells Mgap Mwire Mstand Mruns Mminute Mhead Mplays Mrests Mwent Mout Mcame Mgone MlastOut) t9) (va_A (kM cI cB cZ oM Mthrown Mmany Mguest Mrow Mbars Mbar Mfresh Mtape Mtaped Mpos Mtoken MtokenAt Mvalue Mwrong MwrongAt MfaultKind MfaultPlace Mthing Morder Mone Mtwo Mbest Mcells Mgap Mwire Mstand Mruns Mminute Mhead Mplays Mrests Mwent Mout Mcame Mgone MlastOut) sz)) 0 0 (va_A (kM cI cB cZ oM Mthrown Mmany Mguest Mrow Mbars Mbar Mfresh Mtape Mtaped Mpos Mtoken MtokenAt Mvalue Mwrong MwrongAt MfaultKind MfaultPlace Mthing Morder Mone Mtwo Mbest Mcells Mgap Mwire Mstand Mruns Mminute Mhead Mplays Mrests Mwent Mout Mcame Mgone MlastOut) sz) := by
  refine Met.ofW (cc := cX8_why) (maxL := 3) (ret := (some .int)) (by decide) rfl ?_
  intro pp ee s mm aa bw mt cd s₁ BL hml hv
  obtain ⟨rfl, hsz, hP, hK, hD0⟩ := hv
  have hx := BL.exec
  have hb := BL.bytes
  have hr := BL.returns
  have hts := atoms_spec (ws := wsX8_why) BL.pre
  have hown : s.vm.findClass RX8 = some mm.cls := findClass_of_methodNamed BL.named
  have hlocks := BL.notSynchronized
  subst hsz
  generalize hAe : va_A (kM cI cB cZ oM Mthrown Mmany Mguest Mrow Mbars Mbar Mfresh Mtape Mtaped Mpos Mtoken MtokenAt Mvalue Mwrong MwrongAt MfaultKind MfaultPlace Mthing Morder Mone Mtwo Mbest Mcells Mgap Mwire Mstand Mruns Mminute Mhead Mplays Mrests Mwent Mout Mcame Mgone MlastOut) s.heap.size = A
  have hA : ∀ q : Nat, s.heap.size ≤ q → A q := fun q h => by rw [← hAe]; exact Or.inr h
  have hw : HW D A s.heap (kM cI cB cZ oM Mthrown Mmany Mguest Mrow Mbars Mbar Mfresh Mtape Mtaped Mpos Mtoken MtokenAt Mvalue Mwrong MwrongAt MfaultKind MfaultPlace Mthing Morder Mone Mtwo Mbest Mcells Mgap Mwire Mstand Mruns Mminute Mhead Mplays Mrests Mwent Mout Mcame Mgone MlastOut) s.heap [] := z_start hAe hP hD0
  clear hP hD0
  have hl := lv_entry ([.ref (oM 0), .int (zI w)]) (n := 3) (Nat.le_of_ble_eq_true rfl)
  rw [lg_entry_eq]
  generalize (lg_sl ([.ref (oM 0), .int (zI w)]) ++ List.replicate (3 - (lg_sl ([.ref (oM 0), .int (zI w)])).length) Slot.unset).toArray = ls at hl ⊢
  have hl : lv_has ls 3 [(0, .ref (oM 0)), (1, .int (zI w))] := hl
  have hinX8 : ∀ w ∈ wsX80, w ∈ wsX8_why := by decide +kernel
  refine lv_aload_n hx hb dX8_why_0 rfl (lv_at hl 0 rfl) ?_
  refine z_iconst hx hb dX8_why_1 ?_
  refine z_put (D := D) (ci := 8) (v := .int (zI 0)) (ty := .int) (C := RX8) (T := TX8) (N := 36) (ws2 := kM cI cB cZ oM 0 Mmany Mguest Mrow Mbars Mbar Mfresh Mtape Mtaped Mpos Mtoken MtokenAt Mvalue Mwrong MwrongAt MfaultKind MfaultPlace Mthing Morder Mone Mtwo Mbest Mcells Mgap Mwire Mstand Mruns Mminute Mhead Mplays Mrests Mwent Mout Mcame Mgone MlastOut) hx hb hts hinX8 tyX8 tyX8_ok nmX8 hown hK hw 0 rfl rfl 0 (by decide) (hts (.fieldLink RX8 69 "CarnivalRoadModel" "thrown" "I") (by decide +kernel)) (fun _ h9 => h9) rfl (by decide +kernel) rfl rfl (Nat.le_of_ble_eq_true rfl) dX8_why_2 rfl (fun H locs hw => ?_)
  refine lv_aload_n hx hb dX8_why_5 rfl (lv_at hl 0 rfl) ?_
  have hF9 := z_free (wc := kM cI cB cZ oM 0 Mmany Mguest Mrow Mbars Mbar Mfresh Mtape Mtaped Mpos Mtoken MtokenAt Mvalue Mwrong MwrongAt MfaultKind MfaultPlace Mthing Morder Mone Mtwo Mbest Mcells Mgap Mwire Mstand Mruns Mminute Mhead Mplays Mrests Mwent Mout Mcame Mgone MlastOut) hw hA [0, 1, 2, 3, 4, 5, 6, 7, 8, 9, 10, 11, 12, 13, 14, 15, 16] rfl
  refine va_callv (va_runV (As := []) (rest := []) ⟨hx, hb, hml, hown, hts⟩ (c_X8_takes l D cI cB cZ oM H.size 0 Mmany Mguest Mrow Mbars Mbar Mfresh Mtape Mtaped Mpos Mtoken MtokenAt Mvalue Mwrong MwrongAt MfaultKind MfaultPlace Mthing Morder Mone Mtwo Mbest Mcells Mgap Mwire Mstand Mruns Mminute Mhead Mplays Mrests Mwent Mout Mcame Mgone MlastOut (by omega) (by omega) qMguest qMrow (by omega) qMbar qMfresh qMtape (by omega) (by omega) (by omega) (by omega) (by omega) (by omega) (by omega) (by omega) (by omega) (by omega) qMorder (by omega) (by omega) qMbest (by omega) (by omega) qMwire qMstand (by omega) (by omega) qMhead qMplays qMrests qMwent qMout qMcame qMgone (by omega)) (cwV 0 hts gX8_why_X8_takes rfl rfl rfl (by decide +kernel) ⟨Nat.le_of_ble_eq_true rfl, Nat.le_of_ble_eq_true rfl⟩) ⟨zPre_blind, va_recv hK hw.1 (ci := 8) (q0 := 0) rfl rfl, z_pre hK hw [0, 1, 2, 3, 4, 5, 6, 7, 8, 9, 10, 11, 12, 13, 14, 15, 16] (by decide) rfl⟩ rfl rfl hl.1 rfl (lv_room (Nat.le_of_ble_eq_true rfl)) dX8_why_6 ⟨Nat.zero_le _, Nat.zero_le _⟩) hw.2.2 (fun q _ h => hF9 q h) hF9 (fun u9 t9 H_1 locs9 ht9 hvm9 hq9 hB9 hz9 hk9 hS9 => ?_)
  obtain ⟨Morder_2, rfl⟩ : ∃ z, z = u9 := ⟨_, rfl⟩
  try dsimp only at hq9 hB9
  obtain ⟨hq_3, hq_4⟩ := hq9
  have hw : HW D A s.heap (kM cI cB cZ oM 0 Mmany Mguest Mrow Mbars Mbar Mfresh Mtape Mtaped Mpos Mtoken MtokenAt Mvalue Mwrong MwrongAt MfaultKind MfaultPlace Mthing Morder_2 Mone Mtwo Mbest Mcells Mgap Mwire Mstand Mruns Mminute Mhead Mplays Mrests Mwent Mout Mcame Mgone MlastOut) H_1 locs9 := z_after (wc := kM cI cB cZ oM 0 Mmany Mguest Mrow Mbars Mbar Mfresh Mtape Mtaped Mpos Mtoken MtokenAt Mvalue Mwrong MwrongAt MfaultKind MfaultPlace Mthing Morder Mone Mtwo Mbest Mcells Mgap Mwire Mstand Mruns Mminute Mhead Mplays Mrests Mwent Mout Mcame Mgone MlastOut) hw [0, 1, 2, 3, 4, 5, 6, 7, 8, 9, 10, 11, 12, 13, 14, 15, 16] [] rfl rfl (by decide) (by decide) hF9 hk9 ht9 hB9 hS9 [0, 1, 2, 3, 4, 5, 6, 7, 8, 9, 10, 11, 12, 13, 14, 15, 16] (by decide) rfl
  clear hF9 ht9 hvm9 hB9 hz9 hk9 hS9
  refine lv_aload_n hx hb dX8_why_9 rfl (lv_at hl 0 rfl) ?_
  have hpre_5 : gRel Mmany ki le lo ta sh Mguest := by
    first | assumption | omega | grind
  have hpre_6 : bRel Mbars wo on tw nu Mbar := by
    first | assumption | omega | grind
  have hpre_7 : ∀ i, 0 ≤ i → i < Mmany → 0 ≤ Morder_2 i ∧ Morder_2 i < Mmany := by
    intro i i0 i1; rw [(by assumption : ∀ k, 0 ≤ k → k < Mmany → Morder_2 k = Mrow k) i i0 i1]; exact hp2 i i0 i1
  have hF9 := z_free (wc := kM cI cB cZ oM 0 Mmany Mguest Mrow Mbars Mbar Mfresh Mtape Mtaped Mpos Mtoken MtokenAt Mvalue Mwrong MwrongAt MfaultKind MfaultPlace Mthing Morder_2 Mone Mtwo Mbest Mcells Mgap Mwire Mstand Mruns Mminute Mhead Mplays Mrests Mwent Mout Mcame Mgone MlastOut) hw hA [0, 1, 2, 3, 4, 5, 6, 7, 8, 9, 10, 11, 12, 13, 14, 15, 16] rfl
  refine va_calli (va_runV (As := []) (rest := []) ⟨hx, hb, hml, hown, hts⟩ (c_X8_broken l D cI cB cZ oM H_1.size 0 Mmany Mguest Mrow Mbars Mbar Mfresh Mtape Mtaped Mpos Mtoken MtokenAt Mvalue Mwrong MwrongAt MfaultKind MfaultPlace Mthing Morder_2 Mone Mtwo Mbest Mcells Mgap Mwire Mstand Mruns Mminute Mhead Mplays Mrests Mwent Mout Mcame Mgone MlastOut ki le lo ta sh wo on tw nu (by omega) (by omega) qMguest qMrow (by omega) qMbar qMfresh qMtape (by omega) (by omega) (by omega) (by omega) (by omega) (by omega) (by omega) (by omega) (by omega) (by omega) hq_3 (by omega) (by omega) qMbest (by omega) (by omega) qMwire qMstand (by omega) (by omega) qMhead qMplays qMrests qMwent qMout qMcame qMgone (by omega) hpre_5 hpre_6 hpre_7) (cwV 0 hts gX8_why_X8_broken rfl rfl rfl (by decide +kernel) ⟨Nat.le_of_ble_eq_true rfl, Nat.le_of_ble_eq_true rfl⟩) ⟨zPre_blind, va_recv hK hw.1 (ci := 8) (q0 := 0) rfl rfl, z_pre hK hw [0, 1, 2, 3, 4, 5, 6, 7, 8, 9, 10, 11, 12, 13, 14, 15, 16] (by decide) rfl⟩ rfl rfl hl.1 rfl (lv_room (Nat.le_of_ble_eq_true rfl)) dX8_why_10 ⟨Nat.zero_le _, Nat.zero_le _⟩) hw.2.2 (fun q _ h => hF9 q h) hF9 (fun r9 u9 t9 H_8 locs9 ht9 hvm9 hq9 hB9 hz9 hk9 hS9 => ?_)
  obtain ⟨r_9, Mone_10, Mtwo_11⟩ := u9
  try dsimp only at hq9 hB9
  obtain ⟨rfl, hq9⟩ := hq9
  obtain ⟨hq_12, hq_13, hq_14, hq_15⟩ := hq9
  have hw : HW D A s.heap (kM cI cB cZ oM 0 Mmany Mguest Mrow Mbars Mbar Mfresh Mtape Mtaped Mpos Mtoken MtokenAt Mvalue Mwrong MwrongAt MfaultKind MfaultPlace Mthing Morder_2 Mone_10 Mtwo_11 Mbest Mcells Mgap Mwire Mstand Mruns Mminute Mhead Mplays Mrests Mwent Mout Mcame Mgone MlastOut) H_8 locs9 := z_after (wc := kM cI cB cZ oM 0 Mmany Mguest Mrow Mbars Mbar Mfresh Mtape Mtaped Mpos Mtoken MtokenAt Mvalue Mwrong MwrongAt MfaultKind MfaultPlace Mthing Morder_2 Mone Mtwo Mbest Mcells Mgap Mwire Mstand Mruns Mminute Mhead Mplays Mrests Mwent Mout Mcame Mgone MlastOut) hw [0, 1, 2, 3, 4, 5, 6, 7, 8, 9, 10, 11, 12, 13, 14, 15, 16] [] rfl rfl (by decide) (by decide) hF9 hk9 ht9 hB9 hS9 [0, 1, 2, 3, 4, 5, 6, 7, 8, 9, 10, 11, 12, 13, 14, 15, 16] (by decide) rfl
  clear hF9 ht9 hvm9 hB9 hz9 hk9 hS9
  refine lv_istore_n (lv' := [(2, .int (zI r_9)), (0, .ref (oM 0)), (1, .int (zI w))]) hx hb dX8_why_13 rfl hl (by decide) rfl (fun ls hl => ?_)
  refine lv_iload_n hx hb dX8_why_14 rfl (lv_at hl 0 rfl) ?_
  refine z_iconst hx hb dX8_why_15 ?_
  refine z_icmp_eq (tgt := 28) hx hb dX8_why_16 (by decide) (by omega) (fun hc_16 => ?_) (fun hc_16 => ?_)
  · skip
    refine z_iconst hx hb dX8_why_28 ?_
    refine lv_goto (tgt := 56) hx hb dX8_why_29 (by decide) ?_
    have hv_17 : (0 : Int) ≤ (0 : Int) ∧ (0 : Int) ≤ 2 := by
      first | assumption | omega | grind
    have hv_18 : (0 : Int) ≤ Mone_10 ∧ Mone_10 ≤ 8 := by
      first | assumption | omega | grind
    have hv_19 : (0 : Int) ≤ Mtwo_11 ∧ Mtwo_11 ≤ 8 := by
      first | assumption | omega | grind
    have hv_20 : ∃ b l g, whyP ki lo sh wo on tw nu Mrow Mmany Mbars b l g ∧ ((w = 0 ∧ ((-1) : Int) = b) ∨ (w = 1 ∧ ((-1) : Int) = l) ∨ (w = 2 ∧ ((-1) : Int) = g) ∨ ((w < 0 ∨ 2 < w) ∧ ((-1) : Int) = -1)) := by
      first | rfl | exact why_row (by assumption) (by omega) (by assumption) (by omega)
    have hv_21 : (0 : Int) = 0 := by
      first | rfl | exact why_row (by assumption) (by omega) (by assumption) (by omega)
    exact W.iret (v := zI (-1)) hx hb hr (fun t9 ht hW => ⟨⟨zI (-1), ((-1), 0, Morder_2, Mone_10, Mtwo_11), rfl, ⟨rfl, ⟨hv_17, hq_3, hv_18, hv_19, hv_20, hv_21⟩⟩, by subst hAe; exact z_end hK hw ht hW⟩, by subst hAe; exact hw.2.2.F ht⟩) (by subst hAe; exact hw.2.2.2.2) dX8_why_56
  · skip
    refine lv_iload_n hx hb dX8_why_19 rfl (lv_at hl 2 rfl) ?_
    refine z_iconst hx hb dX8_why_20 ?_
    refine z_iconst hx hb dX8_why_21 ?_
    have hF9 := z_free (wc := ([] : va_W)) hw hA [] rfl
    refine va_calli (va_runS (As := [.int (zI w), .int (zI 0), .int (zI 2)]) (rest := []) ⟨hx, hb, hml, hown, hts⟩ (c_X8_isIn l D cI cB cZ H_8.size w 0 2 (by omega) (by omega) (by omega)) (va_cwS 3 hts gX8_why_X8_isIn rfl rfl rfl (by decide +kernel) ⟨Nat.le_of_ble_eq_true rfl, Nat.le_of_ble_eq_true rfl⟩) ⟨zPre_blind, z_pre hK hw [] (by decide) rfl⟩ rfl rfl hl.1 rfl (lv_room (Nat.le_of_ble_eq_true rfl)) dX8_why_22 ⟨Nat.zero_le _, Nat.zero_le _⟩) hw.2.2 (fun q _ h => hF9 q h) hF9 (fun r9 u9 t9 H_22 locs9 ht9 hvm9 hq9 hB9 hz9 hk9 hS9 => ?_)
    obtain ⟨r_23, rfl⟩ : ∃ z, z = u9 := ⟨_, rfl⟩
    try dsimp only at hq9 hB9
    obtain ⟨rfl, hq9⟩ := hq9
    have hq_24 := hq9
    have hw : HW D A s.heap (kM cI cB cZ oM 0 Mmany Mguest Mrow Mbars Mbar Mfresh Mtape Mtaped Mpos Mtoken MtokenAt Mvalue Mwrong MwrongAt MfaultKind MfaultPlace Mthing Morder_2 Mone_10 Mtwo_11 Mbest Mcells Mgap Mwire Mstand Mruns Mminute Mhead Mplays Mrests Mwent Mout Mcame Mgone MlastOut) H_22 locs9 := z_after (wc := ([] : va_W)) hw [] [0, 1, 2, 3, 4, 5, 6, 7, 8, 9, 10, 11, 12, 13, 14, 15, 16] rfl rfl (by decide) (by decide) hF9 hk9 ht9 hB9 hS9 [0, 1, 2, 3, 4, 5, 6, 7, 8, 9, 10, 11, 12, 13, 14, 15, 16] (by decide) rfl
    clear hF9 ht9 hvm9 hB9 hz9 hk9 hS9 hq9
    rcases hq_24 with ⟨hc_25, rfl⟩ | ⟨hc_25, rfl⟩
    · skip
      refine z_if_ne (tgt := 32) hx hb dX8_why_25 (by decide) (by omega) (fun hc_26 => ?_) (fun hc_26 => absurd hc_26 (by omega))
      refine lv_iload_n hx hb dX8_why_32 rfl (lv_at hl 2 rfl) ?_
      refine z_if_ne (tgt := 40) hx hb dX8_why_33 (by decide) (by omega) (fun hc_27 => ?_) (fun hc_27 => ?_)
      · skip
        refine lv_iload_n hx hb dX8_why_40 rfl (lv_at hl 2 rfl) ?_
        refine z_iconst hx hb dX8_why_41 ?_
        refine z_icmp_ne (tgt := 52) hx hb dX8_why_42 (by decide) (by omega) (fun hc_28 => ?_) (fun hc_28 => ?_)
        · skip
          refine lv_aload_n hx hb dX8_why_52 rfl (lv_at hl 1 rfl) ?_
          refine va_get (D := D) (ci := 8) (v := .int (zI Mtwo_11)) (C := RX8) (T := TX8) (N := 36) hx hb hts hinX8 hown hK hw.1 0 rfl rfl 20 (by decide) (hts (.fieldLink RX8 171 "CarnivalRoadModel" "two" "I") (by decide +kernel)) (fun _ h9 => h9) rfl dX8_why_53 ?_
          have hv_29 : (0 : Int) ≤ (0 : Int) ∧ (0 : Int) ≤ 2 := by
            first | assumption | omega | grind
          have hv_30 : (0 : Int) ≤ Mone_10 ∧ Mone_10 ≤ 8 := by
            first | assumption | omega | grind
          have hv_31 : (0 : Int) ≤ Mtwo_11 ∧ Mtwo_11 ≤ 8 := by
            first | assumption | omega | grind
          have hv_32 : ∃ b l g, whyP ki lo sh wo on tw nu Mrow Mmany Mbars b l g ∧ ((w = 0 ∧ Mtwo_11 = b) ∨ (w = 1 ∧ Mtwo_11 = l) ∨ (w = 2 ∧ Mtwo_11 = g) ∨ ((w < 0 ∨ 2 < w) ∧ Mtwo_11 = -1)) := by
            first | rfl | exact why_row (by assumption) (by omega) (by assumption) (by omega)
          have hv_33 : (0 : Int) = 0 := by
            first | rfl | exact why_row (by assumption) (by omega) (by assumption) (by omega)
          exact W.iret (v := zI Mtwo_11) hx hb hr (fun t9 ht hW => ⟨⟨zI Mtwo_11, (Mtwo_11, 0, Morder_2, Mone_10, Mtwo_11), rfl, ⟨rfl, ⟨hv_29, hq_3, hv_30, hv_31, hv_32, hv_33⟩⟩, by subst hAe; exact z_end hK hw ht hW⟩, by subst hAe; exact hw.2.2.F ht⟩) (by subst hAe; exact hw.2.2.2.2) dX8_why_56
        · skip
          refine lv_aload_n hx hb dX8_why_45 rfl (lv_at hl 1 rfl) ?_
          refine va_get (D := D) (ci := 8) (v := .int (zI Mone_10)) (C := RX8) (T := TX8) (N := 36) hx hb hts hinX8 hown hK hw.1 0 rfl rfl 19 (by decide) (hts (.fieldLink RX8 168 "CarnivalRoadModel" "one" "I") (by decide +kernel)) (fun _ h9 => h9) rfl dX8_why_46 ?_
          refine lv_goto (tgt := 56) hx hb dX8_why_49 (by decide) ?_
          have hv_34 : (0 : Int) ≤ (0 : Int) ∧ (0 : Int) ≤ 2 := by
            first | assumption | omega | grind
          have hv_35 : (0 : Int) ≤ Mone_10 ∧ Mone_10 ≤ 8 := by
            first | assumption | omega | grind
          have hv_36 : (0 : Int) ≤ Mtwo_11 ∧ Mtwo_11 ≤ 8 := by
            first | assumption | omega | grind
          have hv_37 : ∃ b l g, whyP ki lo sh wo on tw nu Mrow Mmany Mbars b l g ∧ ((w = 0 ∧ Mone_10 = b) ∨ (w = 1 ∧ Mone_10 = l) ∨ (w = 2 ∧ Mone_10 = g) ∨ ((w < 0 ∨ 2 < w) ∧ Mone_10 = -1)) := by
            first | rfl | exact why_row (by assumption) (by omega) (by assumption) (by omega)
          have hv_38 : (0 : Int) = 0 := by
            first | rfl | exact why_row (by assumption) (by omega) (by assumption) (by omega)
          exact W.iret (v := zI Mone_10) hx hb hr (fun t9 ht hW => ⟨⟨zI Mone_10, (Mone_10, 0, Morder_2, Mone_10, Mtwo_11), rfl, ⟨rfl, ⟨hv_34, hq_3, hv_35, hv_36, hv_37, hv_38⟩⟩, by subst hAe; exact z_end hK hw ht hW⟩, by subst hAe; exact hw.2.2.F ht⟩) (by subst hAe; exact hw.2.2.2.2) dX8_why_56
      · skip
        refine lv_iload_n hx hb dX8_why_36 rfl (lv_at hl 0 rfl) ?_
        refine lv_goto (tgt := 56) hx hb dX8_why_37 (by decide) ?_
        have hv_39 : (0 : Int) ≤ (0 : Int) ∧ (0 : Int) ≤ 2 := by
          first | assumption | omega | grind
        have hv_40 : (0 : Int) ≤ Mone_10 ∧ Mone_10 ≤ 8 := by
          first | assumption | omega | grind
        have hv_41 : (0 : Int) ≤ Mtwo_11 ∧ Mtwo_11 ≤ 8 := by
          first | assumption | omega | grind
        have hv_42 : ∃ b l g, whyP ki lo sh wo on tw nu Mrow Mmany Mbars b l g ∧ ((w = 0 ∧ r_9 = b) ∨ (w = 1 ∧ r_9 = l) ∨ (w = 2 ∧ r_9 = g) ∨ ((w < 0 ∨ 2 < w) ∧ r_9 = -1)) := by
          first | rfl | exact why_row (by assumption) (by omega) (by assumption) (by omega)
        have hv_43 : (0 : Int) = 0 := by
          first | rfl | exact why_row (by assumption) (by omega) (by assumption) (by omega)
        exact W.iret (v := zI r_9) hx hb hr (fun t9 ht hW => ⟨⟨zI r_9, (r_9, 0, Morder_2, Mone_10, Mtwo_11), rfl, ⟨rfl, ⟨hv_39, hq_3, hv_40, hv_41, hv_42, hv_43⟩⟩, by subst hAe; exact z_end hK hw ht hW⟩, by subst hAe; exact hw.2.2.F ht⟩) (by subst hAe; exact hw.2.2.2.2) dX8_why_56
    · skip
      refine z_if_ne (tgt := 32) hx hb dX8_why_25 (by decide) (by omega) (fun hc_44 => absurd hc_44 (by omega)) (fun hc_44 => ?_)
      refine z_iconst hx hb dX8_why_28 ?_
      refine lv_goto (tgt := 56) hx hb dX8_why_29 (by decide) ?_
      have hv_45 : (0 : Int) ≤ (0 : Int) ∧ (0 : Int) ≤ 2 := by
        first | assumption | omega | grind
      have hv_46 : (0 : Int) ≤ Mone_10 ∧ Mone_10 ≤ 8 := by
        first | assumption | omega | grind
      have hv_47 : (0 : Int) ≤ Mtwo_11 ∧ Mtwo_11 ≤ 8 := by
        first | assumption | omega | grind
      have hv_48 : ∃ b l g, whyP ki lo sh wo on tw nu Mrow Mmany Mbars b l g ∧ ((w = 0 ∧ ((-1) : Int) = b) ∨ (w = 1 ∧ ((-1) : Int) = l) ∨ (w = 2 ∧ ((-1) : Int) = g) ∨ ((w < 0 ∨ 2 < w) ∧ ((-1) : Int) = -1)) := by
        first | rfl | exact why_row (by assumption) (by omega) (by assumption) (by omega)
      have hv_49 : (0 : Int) = 0 := by
        first | rfl | exact why_row (by assumption) (by omega) (by assumption) (by omega)
      exact W.iret (v := zI (-1)) hx hb hr (fun t9 ht hW => ⟨⟨zI (-1), ((-1), 0, Morder_2, Mone_10, Mtwo_11), rfl, ⟨rfl, ⟨hv_45, hq_3, hv_46, hv_47, hv_48, hv_49⟩⟩, by subst hAe; exact z_end hK hw ht hW⟩, by subst hAe; exact hw.2.2.F ht⟩) (by subst hAe; exact hw.2.2.2.2) dX8_why_56
