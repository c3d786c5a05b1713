set_option maxRecDepth 100000 in
set_option maxHeartbeats 4000000 in
theorem c_X8_load (l : Launch) (D : va_G) (cI cB cZ : ClassId) (oM : Nat → Nat) (sz : Nat) (Mthrown : Int) (Mmany : Int) (Mguest : Int → Int) (Mrow : Int → Int) (Mbars : Int) (Mbar : Int → Int) (Mfresh : Int → Int) (Mtape : Int → Int) (Mtaped : Int) (Mpos : Int) (Mtoken : Int) (MtokenAt : Int) (Mvalue : Int) (Mwrong : Int) (MwrongAt : Int) (MfaultKind : Int) (MfaultPlace : Int) (Mthing : Int) (Morder : Int → Int) (Mone : Int) (Mtwo : Int) (Mbest : Int → Int) (Mcells : Int) (Mgap : Int) (Mwire : Int → Int) (Mstand : Int → Int) (Mruns : Int) (Mminute : Int) (Mhead : Int → Int) (Mplays : Int → Int) (Mrests : Int → Int) (Mwent : Int → Int) (Mout : Int → Int) (Mcame : Int → Int) (Mgone : Int → Int) (MlastOut : Int) (f : Int → Int) (wo : Int → Int) (on : Int → Int) (tw : Int → Int) (nu : Int → Int) (qMthrown : 0 ≤ Mthrown ∧ Mthrown ≤ 2) (qMmany : 0 ≤ Mmany ∧ Mmany ≤ 8) (qMguest : RA Mguest (0) 9) (qMrow : RA Mrow (0) 7) (qMbars : 0 ≤ Mbars ∧ Mbars ≤ 10) (qMbar : RA Mbar (0) 104) (qMfresh : RA Mfresh (0) 104) (qMtape : RA Mtape (0) 255) (qMtaped : 0 ≤ Mtaped ∧ Mtaped ≤ 400) (qMpos : 0 ≤ Mpos ∧ Mpos ≤ 400) (qMtoken : 0 ≤ Mtoken ∧ Mtoken ≤ 15) (qMtokenAt : 0 ≤ MtokenAt ∧ MtokenAt ≤ 400) (qMvalue : 0 ≤ Mvalue ∧ Mvalue ≤ 99) (qMwrong : 0 ≤ Mwrong ∧ Mwrong ≤ 3) (qMwrongAt : 0 ≤ MwrongAt ∧ MwrongAt ≤ 400) (qMfaultKind : 0 ≤ MfaultKind ∧ MfaultKind ≤ 3) (qMfaultPlace : -1 ≤ MfaultPlace ∧ MfaultPlace ≤ 400) (qMthing : 0 ≤ Mthing ∧ Mthing ≤ 104) (qMorder : RA Morder (0) 7) (qMone : 0 ≤ Mone ∧ Mone ≤ 8) (qMtwo : 0 ≤ Mtwo ∧ Mtwo ≤ 8) (qMbest : RA Mbest (0) 7) (qMcells : 1 ≤ Mcells ∧ Mcells ≤ 50) (qMgap : 0 ≤ Mgap ∧ Mgap ≤ 3) (qMwire : RA Mwire (0) 9) (qMstand : RA Mstand (0) 9) (qMruns : 0 ≤ Mruns ∧ Mruns ≤ 1) (qMminute : 0 ≤ Mminute ∧ Mminute ≤ 1000000) (qMhead : RA Mhead (-1) 60) (qMplays : RA Mplays (0) 18) (qMrests : RA Mrests (0) 3) (qMwent : RA Mwent (0) 61) (qMout : RA Mout (0) 1) (qMcame : RA Mcame (-1) 1000000) (qMgone : RA Mgone (-1) 1000000) (qMlastOut : 0 ≤ MlastOut ∧ MlastOut ≤ 1000000) (hp0 : tpR Mtaped f Mtape) : Met l yX8_load wsX8_load ({ frames := 6, cells := 0, slots := 0, locals := 130 }) (va_Pc [.ref (oM 0)] (zPre D cI cB cZ sz (kM cI cB cZ oM Mthrown Mmany Mguest Mrow Mbars Mbar Mfresh Mtape Mtaped Mpos Mtoken MtokenAt Mvalue Mwrong MwrongAt MfaultKind MfaultPlace Mthing Morder Mone Mtwo Mbest Mcells Mgap Mwire Mstand Mruns Mminute Mhead Mplays Mrests Mwent Mout Mcame Mgone MlastOut))) (va_Qi (fun (r9 : Int32) (u9 : Int × Int × Int × (Int → Int) × (Int → Int) × Int × Int × Int × Int × Int × Int × Int × Int × Int × Int) => r9 = zI u9.1 ∧ (((0 : Int) ≤ u9.2.1 ∧ u9.2.1 ≤ 2) ∧ ((0 : Int) ≤ u9.2.2.1 ∧ u9.2.2.1 ≤ 10) ∧ (RA u9.2.2.2.1 (0) 104) ∧ (RA u9.2.2.2.2.1 (0) 104) ∧ ((0 : Int) ≤ u9.2.2.2.2.2.1 ∧ u9.2.2.2.2.2.1 ≤ 400) ∧ ((0 : Int) ≤ u9.2.2.2.2.2.2.1 ∧ u9.2.2.2.2.2.2.1 ≤ 400) ∧ ((0 : Int) ≤ u9.2.2.2.2.2.2.2.1 ∧ u9.2.2.2.2.2.2.2.1 ≤ 15) ∧ ((0 : Int) ≤ u9.2.2.2.2.2.2.2.2.1 ∧ u9.2.2.2.2.2.2.2.2.1 ≤ 400) ∧ ((0 : Int) ≤ u9.2.2.2.2.2.2.2.2.2.1 ∧ u9.2.2.2.2.2.2.2.2.2.1 ≤ 99) ∧ ((0 : Int) ≤ u9.2.2.2.2.2.2.2.2.2.2.1 ∧ u9.2.2.2.2.2.2.2.2.2.2.1 ≤ 3) ∧ ((0 : Int) ≤ u9.2.2.2.2.2.2.2.2.2.2.2.1 ∧ u9.2.2.2.2.2.2.2.2.2.2.2.1 ≤ 400) ∧ ((0 : Int) ≤ u9.2.2.2.2.2.2.2.2.2.2.2.2.1 ∧ u9.2.2.2.2.2.2.2.2.2.2.2.2.1 ≤ 3) ∧ ((-1 : Int) ≤ u9.2.2.2.2.2.2.2.2.2.2.2.2.2.1 ∧ u9.2.2.2.2.2.2.2.2.2.2.2.2.2.1 ≤ 400) ∧ ((0 : Int) ≤ u9.2.2.2.2.2.2.2.2.2.2.2.2.2.2 ∧ u9.2.2.2.2.2.2.2.2.2.2.2.2.2.2 ≤ 104) ∧ ((¬ (allQ f Mtaped Mmany wo on tw nu).1.1 = 0 ∧ u9.1 = -1 ∧ u9.2.2.1 = Mbars ∧ u9.2.2.2.1 = Mbar ∧ u9.2.2.2.2.2.2.2.2.2.2.2.2.1 = (allQ f Mtaped Mmany wo on tw nu).1.1 ∧ u9.2.2.2.2.2.2.2.2.2.2.2.2.2.1 = (allQ f Mtaped Mmany wo on tw nu).1.2.1) ∨ ((allQ f Mtaped Mmany wo on tw nu).1.1 = 0 ∧ u9.1 = (allQ f Mtaped Mmany wo on tw nu).2.1 ∧ u9.2.2.1 = (allQ f Mtaped Mmany wo on tw nu).2.1 ∧ u9.2.2.2.2.2.2.2.2.2.2.2.2.1 = 0 ∧ u9.2.2.2.2.2.2.2.2.2.2.2.2.2.1 = -1 ∧ frA u9.2.2.2.1 (allQ f Mtaped Mmany wo on tw nu).2.1 (allQ f Mtaped Mmany wo on tw nu).2)) ∧ (u9.2.2.2.2.2.1 = 0) ∧ (u9.2.1 = 0))) (fun u9 t9 => zAt D cI cB cZ (va_A (kM cI cB cZ oM Mthrown Mmany Mguest Mrow Mbars Mbar Mfresh Mtape Mtaped Mpos Mtoken MtokenAt Mvalue Mwrong MwrongAt MfaultKind MfaultPlace Mthing Morder Mone Mtwo Mbest Mcells Mgap Mwire Mstand Mruns Mminute Mhead Mplays Mrests Mwent Mout Mcame Mgone MlastOut) sz) (kM cI cB cZ oM (u9.2.1) Mmany Mguest Mrow (u9.2.2.1) (u9.2.2.2.1) (u9.2.2.2.2.1) Mtape (u9.2.2.2.2.2.1) (u9.2.2.2.2.2.2.1) (u9.2.2.2.2.2.2.2.1) (u9.2.2.2.2.2.2.2.2.1) (u9.2.2.2.2.2.2.2.2.2.1) (u9.2.2.2.2.2.2.2.2.2.2.1) (u9.2.2.2.2.2.2.2.2.2.2.2.1) (u9.2.2.2.2.2.2.2.2.2.2.2.2.1) (u9.2.2.2.2.2.2.2.2.2.2.2.2.2.1) (u9.2.2.2.2.2.2.2.2.2.2.2.2.2.2) Morder Mone Mtwo Mbest Mcells Mgap Mwire Mstand Mruns Mminute Mhead Mplays Mrests Mwent Mout Mcame Mgone MlastOut) t9) (va_A (kM cI cB cZ oM Mthrown Mmany Mguest Mrow Mbars Mbar Mfresh Mtape Mtaped Mpos Mtoken MtokenAt Mvalue Mwrong MwrongAt MfaultKind MfaultPlace Mthing Morder Mone Mtwo Mbest Mcells Mgap Mwire Mstand Mruns Mminute Mhead Mplays Mrests Mwent Mout Mcame Mgone MlastOut) sz)) 0 0 (va_A (kM cI cB cZ oM Mthrown Mmany Mguest Mrow Mbars Mbar Mfresh Mtape Mtaped Mpos Mtoken MtokenAt Mvalue Mwrong MwrongAt MfaultKind MfaultPlace Mthing Morder Mone Mtwo Mbest Mcells Mgap Mwire Mstand Mruns Mminute Mhead Mplays Mrests Mwent Mout Mcame Mgone MlastOut) sz) := by
  refine Met.ofW (cc := cX8_load) (maxL := 4) (ret := (some .int)) (by decide) rfl ?_
  intro pp ee s mm aa bw mt cd s₁ BL hml hv
  obtain ⟨rfl, hsz, hP, hK, hD0⟩ := hv
  have hx := BL.exec
  have hb := BL.bytes
  have hr := BL.returns
  have hts := atoms_spec (ws := wsX8_load) BL.pre
  have hown : s.vm.findClass RX8 = some mm.cls := findClass_of_methodNamed BL.named
  have hlocks := BL.notSynchronized
  subst hsz
  generalize hAe : va_A (kM cI cB cZ oM Mthrown Mmany Mguest Mrow Mbars Mbar Mfresh Mtape Mtaped Mpos Mtoken MtokenAt Mvalue Mwrong MwrongAt MfaultKind MfaultPlace Mthing Morder Mone Mtwo Mbest Mcells Mgap Mwire Mstand Mruns Mminute Mhead Mplays Mrests Mwent Mout Mcame Mgone MlastOut) s.heap.size = A
  have hA : ∀ q : Nat, s.heap.size ≤ q → A q := fun q h => by rw [← hAe]; exact Or.inr h
  have hw : HW D A s.heap (kM cI cB cZ oM Mthrown Mmany Mguest Mrow Mbars Mbar Mfresh Mtape Mtaped Mpos Mtoken MtokenAt Mvalue Mwrong MwrongAt MfaultKind MfaultPlace Mthing Morder Mone Mtwo Mbest Mcells Mgap Mwire Mstand Mruns Mminute Mhead Mplays Mrests Mwent Mout Mcame Mgone MlastOut) s.heap [] := z_start hAe hP hD0
  clear hP hD0
  have hl := lv_entry ([.ref (oM 0)]) (n := 4) (Nat.le_of_ble_eq_true rfl)
  rw [lg_entry_eq]
  generalize (lg_sl ([.ref (oM 0)]) ++ List.replicate (4 - (lg_sl ([.ref (oM 0)])).length) Slot.unset).toArray = ls at hl ⊢
  have hl : lv_has ls 4 [(0, .ref (oM 0))] := hl
  have hinX8 : ∀ w ∈ wsX80, w ∈ wsX8_load := by decide +kernel
  refine lv_aload_n hx hb dX8_load_0 rfl (lv_at hl 0 rfl) ?_
  refine z_iconst hx hb dX8_load_1 ?_
  refine z_put (D := D) (ci := 8) (v := .int (zI 0)) (ty := .int) (C := RX8) (T := TX8) (N := 36) (ws2 := kM cI cB cZ oM 0 Mmany Mguest Mrow Mbars Mbar Mfresh Mtape Mtaped Mpos Mtoken MtokenAt Mvalue Mwrong MwrongAt MfaultKind MfaultPlace Mthing Morder Mone Mtwo Mbest Mcells Mgap Mwire Mstand Mruns Mminute Mhead Mplays Mrests Mwent Mout Mcame Mgone MlastOut) hx hb hts hinX8 tyX8 tyX8_ok nmX8 hown hK hw 0 rfl rfl 0 (by decide) (hts (.fieldLink RX8 69 "CarnivalRoadModel" "thrown" "I") (by decide +kernel)) (fun _ h9 => h9) rfl (by decide +kernel) rfl rfl (Nat.le_of_ble_eq_true rfl) dX8_load_2 rfl (fun H locs hw => ?_)
  refine lv_aload_n hx hb dX8_load_5 rfl (lv_at hl 0 rfl) ?_
  refine z_iconst hx hb dX8_load_6 ?_
  refine z_put (D := D) (ci := 8) (v := .int (zI 0)) (ty := .int) (C := RX8) (T := TX8) (N := 36) (ws2 := kM cI cB cZ oM 0 Mmany Mguest Mrow Mbars Mbar Mfresh Mtape Mtaped Mpos Mtoken MtokenAt Mvalue 0 MwrongAt MfaultKind MfaultPlace Mthing Morder Mone Mtwo Mbest Mcells Mgap Mwire Mstand Mruns Mminute Mhead Mplays Mrests Mwent Mout Mcame Mgone MlastOut) hx hb hts hinX8 tyX8 tyX8_ok nmX8 hown hK hw 0 rfl rfl 13 (by decide) (hts (.fieldLink RX8 133 "CarnivalRoadModel" "wrong" "I") (by decide +kernel)) (fun _ h9 => h9) rfl (by decide +kernel) rfl rfl (Nat.le_of_ble_eq_true rfl) dX8_load_7 rfl (fun H locs hw => ?_)
  refine lv_aload_n hx hb dX8_load_10 rfl (lv_at hl 0 rfl) ?_
  refine z_iconst hx hb dX8_load_11 ?_
  refine z_put (D := D) (ci := 8) (v := .int (zI 0)) (ty := .int) (C := RX8) (T := TX8) (N := 36) (ws2 := kM cI cB cZ oM 0 Mmany Mguest Mrow Mbars Mbar Mfresh Mtape Mtaped 0 Mtoken MtokenAt Mvalue 0 MwrongAt MfaultKind MfaultPlace Mthing Morder Mone Mtwo Mbest Mcells Mgap Mwire Mstand Mruns Mminute Mhead Mplays Mrests Mwent Mout Mcame Mgone MlastOut) hx hb hts hinX8 tyX8 tyX8_ok nmX8 hown hK hw 0 rfl rfl 9 (by decide) (hts (.fieldLink RX8 110 "CarnivalRoadModel" "at" "I") (by decide +kernel)) (fun _ h9 => h9) rfl (by decide +kernel) rfl rfl (Nat.le_of_ble_eq_true rfl) dX8_load_12 rfl (fun H locs hw => ?_)
  refine lv_aload_n hx hb dX8_load_15 rfl (lv_at hl 0 rfl) ?_
  have hpre_1 : tpR Mtaped f Mtape := by
    assumption
  have hpre_2 : qM (0, -1, invT Mtoken, MtokenAt, 0, Mvalue) (0 : Int) MwrongAt Mtoken MtokenAt (0 : Int) Mvalue := by
    exact ⟨rfl, fun z => absurd rfl z, invT_e qMtoken, rfl, rfl, fun _ => rfl⟩
  have hpre_3 : (0 : Int) ≤ Mtaped := by
    omega
  have hF9 := z_free (wc := kM cI cB cZ oM 0 Mmany Mguest Mrow Mbars Mbar Mfresh Mtape Mtaped 0 Mtoken MtokenAt Mvalue 0 MwrongAt MfaultKind MfaultPlace Mthing Morder Mone Mtwo Mbest Mcells Mgap Mwire Mstand Mruns Mminute Mhead Mplays Mrests Mwent Mout Mcame Mgone MlastOut) hw hA [0, 1, 2, 3, 4, 5, 6, 7, 8, 9, 10, 11, 12, 13, 14, 15, 16] rfl
  refine va_callv (va_runV (As := []) (rest := []) ⟨hx, hb, hml, hown, hts⟩ (c_X8_look0 l D cI cB cZ oM H.size 0 Mmany Mguest Mrow Mbars Mbar Mfresh Mtape Mtaped 0 Mtoken MtokenAt Mvalue 0 MwrongAt MfaultKind MfaultPlace Mthing Morder Mone Mtwo Mbest Mcells Mgap Mwire Mstand Mruns Mminute Mhead Mplays Mrests Mwent Mout Mcame Mgone MlastOut f (0, -1, invT Mtoken, MtokenAt, 0, Mvalue) (by omega) (by omega) qMguest qMrow (by omega) qMbar qMfresh qMtape (by omega) (by omega) (by omega) (by omega) (by omega) (by omega) (by omega) (by omega) (by omega) (by omega) qMorder (by omega) (by omega) qMbest (by omega) (by omega) qMwire qMstand (by omega) (by omega) qMhead qMplays qMrests qMwent qMout qMcame qMgone (by omega) hpre_1 hpre_2 hpre_3) (cwV 0 hts gX8_load_X8_look0 rfl rfl rfl (by decide +kernel) ⟨Nat.le_of_ble_eq_true rfl, Nat.le_of_ble_eq_true rfl⟩) ⟨zPre_blind, va_recv hK hw.1 (ci := 8) (q0 := 0) rfl rfl, z_pre hK hw [0, 1, 2, 3, 4, 5, 6, 7, 8, 9, 10, 11, 12, 13, 14, 15, 16] (by decide) rfl⟩ rfl rfl hl.1 rfl (lv_room (Nat.le_of_ble_eq_true rfl)) dX8_load_16 ⟨Nat.zero_le _, Nat.zero_le _⟩) hw.2.2 (fun q _ h => hF9 q h) hF9 (fun u9 t9 H_4 locs9 ht9 hvm9 hq9 hB9 hz9 hk9 hS9 => ?_)
  obtain ⟨Mpos_5, Mtoken_6, MtokenAt_7, Mvalue_8⟩ := u9
  try dsimp only at hq9 hB9
  obtain ⟨hq_9, hq_10, hq_11, hq_12, hq_13, hq_14⟩ := hq9
  have hw : HW D A s.heap (kM cI cB cZ oM 0 Mmany Mguest Mrow Mbars Mbar Mfresh Mtape Mtaped Mpos_5 Mtoken_6 MtokenAt_7 Mvalue_8 0 MwrongAt MfaultKind MfaultPlace Mthing Morder Mone Mtwo Mbest Mcells Mgap Mwire Mstand Mruns Mminute Mhead Mplays Mrests Mwent Mout Mcame Mgone MlastOut) H_4 locs9 := z_after (wc := kM cI cB cZ oM 0 Mmany Mguest Mrow Mbars Mbar Mfresh Mtape Mtaped 0 Mtoken MtokenAt Mvalue 0 MwrongAt MfaultKind MfaultPlace Mthing Morder Mone Mtwo Mbest Mcells Mgap Mwire Mstand Mruns Mminute Mhead Mplays Mrests Mwent Mout Mcame Mgone MlastOut) hw [0, 1, 2, 3, 4, 5, 6, 7, 8, 9, 10, 11, 12, 13, 14, 15, 16] [] rfl rfl (by decide) (by decide) hF9 hk9 ht9 hB9 hS9 [0, 1, 2, 3, 4, 5, 6, 7, 8, 9, 10, 11, 12, 13, 14, 15, 16] (by decide) rfl
  clear hF9 ht9 hvm9 hB9 hz9 hk9 hS9
  refine z_cut (σ := Int × Int × Int × Int × Int × Int × Int × Int × Int × (Int → Int)) 77 (I := fun x9 H locs ls => ((0 : Int) ≤ (x9.2.2.1) ∧ (x9.2.2.1) ≤ 3) ∧ ((0 : Int) ≤ (x9.2.2.2.1) ∧ (x9.2.2.2.1) ≤ 400) ∧ ((0 : Int) ≤ (x9.2.2.2.2.1) ∧ (x9.2.2.2.2.1) ≤ 15) ∧ ((0 : Int) ≤ (x9.2.2.2.2.2.1) ∧ (x9.2.2.2.2.2.1) ≤ 400) ∧ ((0 : Int) ≤ (x9.2.2.2.2.2.2.1) ∧ (x9.2.2.2.2.2.2.1) ≤ 400) ∧ ((0 : Int) ≤ (x9.2.2.2.2.2.2.2.1) ∧ (x9.2.2.2.2.2.2.2.1) ≤ 99) ∧ ((0 : Int) ≤ (x9.2.2.2.2.2.2.2.2.1) ∧ (x9.2.2.2.2.2.2.2.2.1) ≤ 104) ∧ (RA (x9.2.2.2.2.2.2.2.2.2) (0) 104) ∧ (0 ≤ (x9.1) ∧ (x9.1) ≤ 11) ∧ (qM (allQ f Mtaped Mmany wo on tw nu).1 (x9.2.2.1) (x9.2.2.2.1) (x9.2.2.2.2.1) (x9.2.2.2.2.2.1) (x9.2.2.2.2.2.2.1) (x9.2.2.2.2.2.2.2.1)) ∧ (((x9.2.1) = 1 ∧ (allQ f Mtaped Mmany wo on tw nu).1.1 = 0) ∨ ((x9.2.1) = 0 ∧ ¬ (allQ f Mtaped Mmany wo on tw nu).1.1 = 0)) ∧ ((allQ f Mtaped Mmany wo on tw nu).1.1 = 0 → (x9.1) ≤ 10 ∧ frA (x9.2.2.2.2.2.2.2.2.2) (x9.1) (allQ f Mtaped Mmany wo on tw nu).2) ∧ HW D A s.heap (kM cI cB cZ oM 0 Mmany Mguest Mrow Mbars Mbar (x9.2.2.2.2.2.2.2.2.2) Mtape Mtaped (x9.2.2.2.2.2.2.1) (x9.2.2.2.2.1) (x9.2.2.2.2.2.1) (x9.2.2.2.2.2.2.2.1) (x9.2.2.1) (x9.2.2.2.1) MfaultKind MfaultPlace (x9.2.2.2.2.2.2.2.2.1) Morder Mone Mtwo Mbest Mcells Mgap Mwire Mstand Mruns Mminute Mhead Mplays Mrests Mwent Mout Mcame Mgone MlastOut) H locs ∧ lv_has ls 4 [(0, .ref (oM 0)), (1, .int (zI (x9.1))), (2, .int (zI (x9.2.1)))]) (st := fun x9 => []) ?_ (fun hj_15 => ?_)
  · clear hw hl
    intro x9 H locs ls hI
    obtain ⟨n_16, g_17, Mwrong_18, MwrongAt_19, Mtoken_20, MtokenAt_21, Mpos_22, Mvalue_23, Mthing_24, Mfresh_25⟩ := x9
    try dsimp only at hI ⊢
    obtain ⟨hq_26, hq_27, hq_28, hq_29, hq_30, hq_31, hq_32, hR_33, hI_34, hI_35, hI_36, hI_37, hw, hl⟩ := hI
    refine lv_aload_n hx hb dX8_load_77 rfl (lv_at hl 0 rfl) ?_
    refine lv_aload_n hx hb dX8_load_78 rfl (lv_at hl 0 rfl) ?_
    refine va_get (D := D) (ci := 8) (v := .int (zI Mwrong_18)) (C := RX8) (T := TX8) (N := 36) hx hb hts hinX8 hown hK hw.1 0 rfl rfl 13 (by decide) (hts (.fieldLink RX8 133 "CarnivalRoadModel" "wrong" "I") (by decide +kernel)) (fun _ h9 => h9) rfl dX8_load_79 ?_
    refine z_put (D := D) (ci := 8) (v := .int (zI Mwrong_18)) (ty := .int) (C := RX8) (T := TX8) (N := 36) (ws2 := kM cI cB cZ oM 0 Mmany Mguest Mrow Mbars Mbar Mfresh_25 Mtape Mtaped Mpos_22 Mtoken_20 MtokenAt_21 Mvalue_23 Mwrong_18 MwrongAt_19 Mwrong_18 MfaultPlace Mthing_24 Morder Mone Mtwo Mbest Mcells Mgap Mwire Mstand Mruns Mminute Mhead Mplays Mrests Mwent Mout Mcame Mgone MlastOut) hx hb hts hinX8 tyX8 tyX8_ok nmX8 hown hK hw 0 rfl rfl 15 (by decide) (hts (.fieldLink RX8 159 "CarnivalRoadModel" "faultKind" "I") (by decide +kernel)) (fun _ h9 => h9) rfl (by decide +kernel) rfl rfl (Nat.le_of_ble_eq_true rfl) dX8_load_82 rfl (fun H locs hw => ?_)
    refine z_cut (σ := Int) 98 (I := fun x9 H locs ls => ((g_17 = 1 ∧ x9 = -1) ∨ (g_17 = 0 ∧ x9 = MwrongAt_19)) ∧ HW D A s.heap (kM cI cB cZ oM 0 Mmany Mguest Mrow Mbars Mbar Mfresh_25 Mtape Mtaped Mpos_22 Mtoken_20 MtokenAt_21 Mvalue_23 Mwrong_18 MwrongAt_19 Mwrong_18 MfaultPlace Mthing_24 Morder Mone Mtwo Mbest Mcells Mgap Mwire Mstand Mruns Mminute Mhead Mplays Mrests Mwent Mout Mcame Mgone MlastOut) H locs ∧ lv_has ls 4 [(0, .ref (oM 0)), (1, .int (zI n_16)), (2, .int (zI g_17))]) (st := fun x9 => [.int (zI x9), .ref (oM 0)]) ?_ (fun hj_38 => ?_)
    · clear hw hl
      intro fp_39 H locs ls hI
      try dsimp only at hI ⊢
      obtain ⟨hI_40, hw, hl⟩ := hI
      refine z_put (D := D) (ci := 8) (v := .int (zI fp_39)) (ty := .int) (C := RX8) (T := TX8) (N := 36) (ws2 := kM cI cB cZ oM 0 Mmany Mguest Mrow Mbars Mbar Mfresh_25 Mtape Mtaped Mpos_22 Mtoken_20 MtokenAt_21 Mvalue_23 Mwrong_18 MwrongAt_19 Mwrong_18 fp_39 Mthing_24 Morder Mone Mtwo Mbest Mcells Mgap Mwire Mstand Mruns Mminute Mhead Mplays Mrests Mwent Mout Mcame Mgone MlastOut) hx hb hts hinX8 tyX8 tyX8_ok nmX8 hown hK hw 0 rfl rfl 16 (by decide) (hts (.fieldLink RX8 25 "CarnivalRoadModel" "faultPlace" "I") (by decide +kernel)) (fun _ h9 => h9) rfl (by decide +kernel) rfl rfl (Nat.le_of_ble_eq_true rfl) dX8_load_98 rfl (fun H locs hw => ?_)
      refine lv_aload_n hx hb dX8_load_101 rfl (lv_at hl 0 rfl) ?_
      refine z_iconst hx hb dX8_load_102 ?_
      refine z_put (D := D) (ci := 8) (v := .int (zI 0)) (ty := .int) (C := RX8) (T := TX8) (N := 36) (ws2 := kM cI cB cZ oM 0 Mmany Mguest Mrow Mbars Mbar Mfresh_25 Mtape 0 Mpos_22 Mtoken_20 MtokenAt_21 Mvalue_23 Mwrong_18 MwrongAt_19 Mwrong_18 fp_39 Mthing_24 Morder Mone Mtwo Mbest Mcells Mgap Mwire Mstand Mruns Mminute Mhead Mplays Mrests Mwent Mout Mcame Mgone MlastOut) hx hb hts hinX8 tyX8 tyX8_ok nmX8 hown hK hw 0 rfl rfl 8 (by decide) (hts (.fieldLink RX8 95 "CarnivalRoadModel" "taped" "I") (by decide +kernel)) (fun _ h9 => h9) rfl (by decide +kernel) rfl rfl (Nat.le_of_ble_eq_true rfl) dX8_load_103 rfl (fun H locs hw => ?_)
      refine lv_iload_n hx hb dX8_load_106 rfl (lv_at hl 2 rfl) ?_
      refine z_if_ne (tgt := 112) hx hb dX8_load_107 (by decide) (by omega) (fun hc_41 => ?_) (fun hc_41 => ?_)
      · skip
        refine lv_aload_n hx hb dX8_load_112 rfl (lv_at hl 0 rfl) ?_
        refine lv_iload_n hx hb dX8_load_113 rfl (lv_at hl 1 rfl) ?_
        refine z_put (D := D) (ci := 8) (v := .int (zI n_16)) (ty := .int) (C := RX8) (T := TX8) (N := 36) (ws2 := kM cI cB cZ oM 0 Mmany Mguest Mrow n_16 Mbar Mfresh_25 Mtape 0 Mpos_22 Mtoken_20 MtokenAt_21 Mvalue_23 Mwrong_18 MwrongAt_19 Mwrong_18 fp_39 Mthing_24 Morder Mone Mtwo Mbest Mcells Mgap Mwire Mstand Mruns Mminute Mhead Mplays Mrests Mwent Mout Mcame Mgone MlastOut) hx hb hts hinX8 tyX8 tyX8_ok nmX8 hown hK hw 0 rfl rfl 4 (by decide) (hts (.fieldLink RX8 162 "CarnivalRoadModel" "bars" "I") (by decide +kernel)) (fun _ h9 => h9) rfl (by decide +kernel) rfl rfl (Nat.le_of_ble_eq_true rfl) dX8_load_114 rfl (fun H locs hw => ?_)
        refine z_iconst hx hb dX8_load_117 ?_
        refine lv_istore_n (lv' := [(3, .int (zI 0)), (0, .ref (oM 0)), (1, .int (zI n_16)), (2, .int (zI g_17))]) hx hb dX8_load_118 rfl hl (by decide) rfl (fun ls hl => ?_)
        have hv_42 : 0 ≤ (0 : Int) ∧ (0 : Int) ≤ 4 * n_16 := by
          first | assumption | omega | grind
        have hv_43 : ∀ j, 0 ≤ j → j < (0 : Int) → Mbar j = Mfresh_25 j := by
          exact all_0
        refine z_loop (σ := Int × (Int → Int)) (μ := fun x9 => (4 * n_16 - (x9.1)).toNat) (I := fun x9 H locs ls => (RA (x9.2) (0) 104) ∧ (0 ≤ (x9.1) ∧ (x9.1) ≤ 4 * n_16) ∧ (∀ j, 0 ≤ j → j < (x9.1) → (x9.2) j = Mfresh_25 j) ∧ HW D A s.heap (kM cI cB cZ oM 0 Mmany Mguest Mrow n_16 (x9.2) Mfresh_25 Mtape 0 Mpos_22 Mtoken_20 MtokenAt_21 Mvalue_23 Mwrong_18 MwrongAt_19 Mwrong_18 fp_39 Mthing_24 Morder Mone Mtwo Mbest Mcells Mgap Mwire Mstand Mruns Mminute Mhead Mplays Mrests Mwent Mout Mcame Mgone MlastOut) H locs ∧ lv_has ls 4 [(0, .ref (oM 0)), (1, .int (zI n_16)), (3, .int (zI (x9.1)))]) (0, Mbar) ⟨qMbar, hv_42, hv_43, hw, lv_sub hl [1, 2, 0] rfl⟩ ?_
        clear hw hl
        intro x9 H locs ls hI ih_44
        obtain ⟨k_45, Mbar_46⟩ := x9
        try dsimp only at hI
        obtain ⟨hR_47, hI_48, hI_49, hw, hl⟩ := hI
        refine lv_iload_n hx hb dX8_load_119 rfl (lv_at hl 2 rfl) ?_
        refine z_iconst hx hb dX8_load_120 ?_
        refine lv_iload_n hx hb dX8_load_121 rfl (lv_at hl 1 rfl) ?_
        refine z_imul hx hb dX8_load_122 ?_
        refine z_icmp_ge (tgt := 144) hx hb dX8_load_123 (by decide) (by omega) (fun hc_50 => ?_) (fun hc_50 => ?_)
        · skip
          refine lv_iload_n hx hb dX8_load_144 rfl (lv_at hl 1 rfl) ?_
          have hv_51 : (0 : Int) ≤ (0 : Int) ∧ (0 : Int) ≤ 2 := by
            first | assumption | omega | grind
          have hv_52 : (0 : Int) ≤ n_16 ∧ n_16 ≤ 10 := by
            first | assumption | omega | grind
          have hv_53 : (0 : Int) ≤ (0 : Int) ∧ (0 : Int) ≤ 400 := by
            first | assumption | omega | grind
          have hv_54 : (0 : Int) ≤ Mpos_22 ∧ Mpos_22 ≤ 400 := by
            first | assumption | omega | grind
          have hv_55 : (0 : Int) ≤ Mtoken_20 ∧ Mtoken_20 ≤ 15 := by
            first | assumption | omega | grind
          have hv_56 : (0 : Int) ≤ MtokenAt_21 ∧ MtokenAt_21 ≤ 400 := by
            first | assumption | omega | grind
          have hv_57 : (0 : Int) ≤ Mvalue_23 ∧ Mvalue_23 ≤ 99 := by
            first | assumption | omega | grind
          have hv_58 : (0 : Int) ≤ Mwrong_18 ∧ Mwrong_18 ≤ 3 := by
            first | assumption | omega | grind
          have hv_59 : (0 : Int) ≤ MwrongAt_19 ∧ MwrongAt_19 ≤ 400 := by
            first | assumption | omega | grind
          have hv_60 : (0 : Int) ≤ Mwrong_18 ∧ Mwrong_18 ≤ 3 := by
            first | assumption | omega | grind
          have hv_61 : (-1 : Int) ≤ fp_39 ∧ fp_39 ≤ 400 := by
            first | assumption | omega | grind
          have hv_62 : (0 : Int) ≤ Mthing_24 ∧ Mthing_24 ≤ 104 := by
            first | assumption | omega | grind
          have hv_63 : (¬ (allQ f Mtaped Mmany wo on tw nu).1.1 = 0 ∧ n_16 = -1 ∧ n_16 = Mbars ∧ Mbar_46 = Mbar ∧ Mwrong_18 = (allQ f Mtaped Mmany wo on tw nu).1.1 ∧ fp_39 = (allQ f Mtaped Mmany wo on tw nu).1.2.1) ∨ ((allQ f Mtaped Mmany wo on tw nu).1.1 = 0 ∧ n_16 = (allQ f Mtaped Mmany wo on tw nu).2.1 ∧ n_16 = (allQ f Mtaped Mmany wo on tw nu).2.1 ∧ Mwrong_18 = 0 ∧ fp_39 = -1 ∧ frA Mbar_46 (allQ f Mtaped Mmany wo on tw nu).2.1 (allQ f Mtaped Mmany wo on tw nu).2) := by
            have hq := (by assumption : qM (allQ f Mtaped Mmany wo on tw nu).1 Mwrong_18 MwrongAt_19 Mtoken_20 MtokenAt_21 Mpos_22 Mvalue_23)
            unfold qM at hq
            have hf := (by assumption : (allQ f Mtaped Mmany wo on tw nu).1.1 = 0 → _ ∧ frA _ _ _) (by omega)
            have hb := hf.2.1
            exact Or.inr ⟨by omega, by omega, by omega, by omega, by omega, by rw [hb]; exact fr_copy hf.2 (all_le (by assumption) (by omega))⟩
          have hv_64 : (0 : Int) = 0 := by
            first | assumption | omega | grind
          have hv_65 : (0 : Int) = 0 := by
            first | assumption | omega | grind
          exact W.iret (v := zI n_16) hx hb hr (fun t9 ht hW => ⟨⟨zI n_16, (n_16, 0, n_16, Mbar_46, Mfresh_25, 0, Mpos_22, Mtoken_20, MtokenAt_21, Mvalue_23, Mwrong_18, MwrongAt_19, Mwrong_18, fp_39, Mthing_24), rfl, ⟨rfl, ⟨hv_51, hv_52, hR_47, hR_33, hv_53, hv_54, hv_55, hv_56, hv_57, hv_58, hv_59, hv_60, hv_61, hv_62, hv_63, hv_64, hv_65⟩⟩, by subst hAe; exact z_end hK hw ht hW⟩, by subst hAe; exact hw.2.2.F ht⟩) (by subst hAe; exact hw.2.2.2.2) dX8_load_145
        · skip
          refine lv_aload_n hx hb dX8_load_126 rfl (lv_at hl 0 rfl) ?_
          refine va_get (D := D) (ci := 8) (v := .ref (oM 3)) (C := RX8) (T := TX8) (N := 36) hx hb hts hinX8 hown hK hw.1 0 rfl rfl 5 (by decide) (hts (.fieldLink RX8 16 "CarnivalRoadModel" "bar" "[I") (by decide +kernel)) (fun _ h9 => h9) rfl dX8_load_127 ?_
          refine lv_iload_n hx hb dX8_load_130 rfl (lv_at hl 2 rfl) ?_
          refine lv_aload_n hx hb dX8_load_131 rfl (lv_at hl 0 rfl) ?_
          refine va_get (D := D) (ci := 8) (v := .ref (oM 4)) (C := RX8) (T := TX8) (N := 36) hx hb hts hinX8 hown hK hw.1 0 rfl rfl 6 (by decide) (hts (.fieldLink RX8 19 "CarnivalRoadModel" "fresh" "[I") (by decide +kernel)) (fun _ h9 => h9) rfl dX8_load_132 ?_
          refine lv_iload_n hx hb dX8_load_135 rfl (lv_at hl 2 rfl) ?_
          have hi_66 : (0 : Int) ≤ k_45 ∧ k_45 < ((40 : Nat) : Int) := by
            first | assumption | omega | grind
          refine z_iald (n := 40) (f := Mfresh_25) hx hb hK hw 4 rfl (by decide) hi_66 dX8_load_136 ?_
          have hq_67 : 0 ≤ Mfresh_25 k_45 ∧ Mfresh_25 k_45 ≤ 104 := hR_33 k_45
          have hi_68 : (0 : Int) ≤ k_45 ∧ k_45 < ((40 : Nat) : Int) := by
            first | assumption | omega | grind
          have hv_69 : (0 : Int) ≤ (Mfresh_25 k_45) ∧ (Mfresh_25 k_45) ≤ 104 := by
            first | assumption | omega | grind
          have hR_70 : RA (uZ Mbar_46 k_45 (Mfresh_25 k_45)) (0) 104 := RA_up hR_47 hv_69
          refine z_iast (n := 40) (f := Mbar_46) (ws2 := kM cI cB cZ oM 0 Mmany Mguest Mrow n_16 (uZ Mbar_46 k_45 (Mfresh_25 k_45)) Mfresh_25 Mtape 0 Mpos_22 Mtoken_20 MtokenAt_21 Mvalue_23 Mwrong_18 MwrongAt_19 Mwrong_18 fp_39 Mthing_24 Morder Mone Mtwo Mbest Mcells Mgap Mwire Mstand Mruns Mminute Mhead Mplays Mrests Mwent Mout Mcame Mgone MlastOut) hx hb hK hw 3 rfl (by decide) hi_68 dX8_load_137 rfl (fun H locs hw => ?_)
          refine z_iinc (k := 2) (lv' := [(3, .int (zI (k_45 + 1))), (0, .ref (oM 0)), (1, .int (zI n_16))]) hx hb dX8_load_138 hl rfl (by decide) rfl (fun ls hl => ?_)
          refine lv_goto (tgt := 119) hx hb dX8_load_141 (by decide) ?_
          have hv_71 : 0 ≤ (k_45 + 1) ∧ (k_45 + 1) ≤ 4 * n_16 := by
            first | assumption | omega | grind
          have hv_72 : ∀ j, 0 ≤ j → j < (k_45 + 1) → (uZ Mbar_46 k_45 (Mfresh_25 k_45)) j = Mfresh_25 j := by
            refine all_s (fun j j0 j1 => ?_) uZ_s
            rw [uZ_n (by omega)]
            revert j1
            revert j0
            revert j
            assumption
          have hm_73 : (4 * n_16 - (k_45 + 1)).toNat < (4 * n_16 - k_45).toNat := by
            first | assumption | omega | grind
          exact ih_44 ((k_45 + 1), (uZ Mbar_46 k_45 (Mfresh_25 k_45))) _ _ _ ⟨hR_70, hv_71, hv_72, hw, lv_sub hl [1, 2, 0] rfl⟩ hm_73
      · skip
        refine z_iconst hx hb dX8_load_110 ?_
        have hv_74 : (0 : Int) ≤ (0 : Int) ∧ (0 : Int) ≤ 2 := by
          first | assumption | omega | grind
        have hv_75 : (0 : Int) ≤ Mbars ∧ Mbars ≤ 10 := by
          first | assumption | omega | grind
        have hv_76 : (0 : Int) ≤ (0 : Int) ∧ (0 : Int) ≤ 400 := by
          first | assumption | omega | grind
        have hv_77 : (0 : Int) ≤ Mpos_22 ∧ Mpos_22 ≤ 400 := by
          first | assumption | omega | grind
        have hv_78 : (0 : Int) ≤ Mtoken_20 ∧ Mtoken_20 ≤ 15 := by
          first | assumption | omega | grind
        have hv_79 : (0 : Int) ≤ MtokenAt_21 ∧ MtokenAt_21 ≤ 400 := by
          first | assumption | omega | grind
        have hv_80 : (0 : Int) ≤ Mvalue_23 ∧ Mvalue_23 ≤ 99 := by
          first | assumption | omega | grind
        have hv_81 : (0 : Int) ≤ Mwrong_18 ∧ Mwrong_18 ≤ 3 := by
          first | assumption | omega | grind
        have hv_82 : (0 : Int) ≤ MwrongAt_19 ∧ MwrongAt_19 ≤ 400 := by
          first | assumption | omega | grind
        have hv_83 : (0 : Int) ≤ Mwrong_18 ∧ Mwrong_18 ≤ 3 := by
          first | assumption | omega | grind
        have hv_84 : (-1 : Int) ≤ fp_39 ∧ fp_39 ≤ 400 := by
          first | assumption | omega | grind
        have hv_85 : (0 : Int) ≤ Mthing_24 ∧ Mthing_24 ≤ 104 := by
          first | assumption | omega | grind
        have hv_86 : (¬ (allQ f Mtaped Mmany wo on tw nu).1.1 = 0 ∧ ((-1) : Int) = -1 ∧ Mbars = Mbars ∧ Mbar = Mbar ∧ Mwrong_18 = (allQ f Mtaped Mmany wo on tw nu).1.1 ∧ fp_39 = (allQ f Mtaped Mmany wo on tw nu).1.2.1) ∨ ((allQ f Mtaped Mmany wo on tw nu).1.1 = 0 ∧ ((-1) : Int) = (allQ f Mtaped Mmany wo on tw nu).2.1 ∧ Mbars = (allQ f Mtaped Mmany wo on tw nu).2.1 ∧ Mwrong_18 = 0 ∧ fp_39 = -1 ∧ frA Mbar (allQ f Mtaped Mmany wo on tw nu).2.1 (allQ f Mtaped Mmany wo on tw nu).2) := by
          have hq := (by assumption : qM (allQ f Mtaped Mmany wo on tw nu).1 Mwrong_18 MwrongAt_19 Mtoken_20 MtokenAt_21 Mpos_22 Mvalue_23)
          unfold qM at hq
          exact Or.inl ⟨by omega, rfl, rfl, rfl, by omega, by omega⟩
        have hv_87 : (0 : Int) = 0 := by
          first | assumption | omega | grind
        have hv_88 : (0 : Int) = 0 := by
          first | assumption | omega | grind
        exact W.iret (v := zI (-1)) hx hb hr (fun t9 ht hW => ⟨⟨zI (-1), ((-1), 0, Mbars, Mbar, Mfresh_25, 0, Mpos_22, Mtoken_20, MtokenAt_21, Mvalue_23, Mwrong_18, MwrongAt_19, Mwrong_18, fp_39, Mthing_24), rfl, ⟨rfl, ⟨hv_74, hv_75, qMbar, hR_33, hv_76, hv_77, hv_78, hv_79, hv_80, hv_81, hv_82, hv_83, hv_84, hv_85, hv_86, hv_87, hv_88⟩⟩, by subst hAe; exact z_end hK hw ht hW⟩, by subst hAe; exact hw.2.2.F ht⟩) (by subst hAe; exact hw.2.2.2.2) dX8_load_111
    refine lv_aload_n hx hb dX8_load_85 rfl (lv_at hl 0 rfl) ?_
    refine lv_iload_n hx hb dX8_load_86 rfl (lv_at hl 2 rfl) ?_
    refine z_if_eq (tgt := 94) hx hb dX8_load_87 (by decide) (by omega) (fun hc_89 => ?_) (fun hc_89 => ?_)
    · skip
      refine lv_aload_n hx hb dX8_load_94 rfl (lv_at hl 0 rfl) ?_
      refine va_get (D := D) (ci := 8) (v := .int (zI MwrongAt_19)) (C := RX8) (T := TX8) (N := 36) hx hb hts hinX8 hown hK hw.1 0 rfl rfl 14 (by decide) (hts (.fieldLink RX8 136 "CarnivalRoadModel" "wrongAt" "I") (by decide +kernel)) (fun _ h9 => h9) rfl dX8_load_95 ?_
      have hv_90 : (g_17 = 1 ∧ MwrongAt_19 = -1) ∨ (g_17 = 0 ∧ MwrongAt_19 = MwrongAt_19) := by
        first | assumption | omega | grind
      exact hj_38 MwrongAt_19 _ _ _ ⟨hv_90, hw, lv_sub hl [0, 1, 2] rfl⟩
    · skip
      refine z_iconst hx hb dX8_load_90 ?_
      refine lv_goto (tgt := 98) hx hb dX8_load_91 (by decide) ?_
      have hv_91 : (g_17 = 1 ∧ ((-1) : Int) = -1) ∨ (g_17 = 0 ∧ ((-1) : Int) = MwrongAt_19) := by
        first | assumption | omega | grind
      exact hj_38 (-1) _ _ _ ⟨hv_91, hw, lv_sub hl [0, 1, 2] rfl⟩
  refine z_iconst hx hb dX8_load_19 ?_
  refine lv_istore_n (lv' := [(1, .int (zI 0)), (0, .ref (oM 0))]) hx hb dX8_load_20 rfl hl (by decide) rfl (fun ls hl => ?_)
  refine z_iconst hx hb dX8_load_21 ?_
  refine lv_istore_n (lv' := [(2, .int (zI 1)), (1, .int (zI 0)), (0, .ref (oM 0))]) hx hb dX8_load_22 rfl hl (by decide) rfl (fun ls hl => ?_)
  have hv_92 : (0 : Int) ≤ (0 : Int) ∧ (0 : Int) ≤ 3 := by
    first | assumption | omega | grind
  have hv_93 : (0 : Int) ≤ MwrongAt ∧ MwrongAt ≤ 400 := by
    first | assumption | omega | grind
  have hv_94 : (0 : Int) ≤ Mtoken_6 ∧ Mtoken_6 ≤ 15 := by
    first | assumption | omega | grind
  have hv_95 : (0 : Int) ≤ MtokenAt_7 ∧ MtokenAt_7 ≤ 400 := by
    first | assumption | omega | grind
  have hv_96 : (0 : Int) ≤ Mpos_5 ∧ Mpos_5 ≤ 400 := by
    first | assumption | omega | grind
  have hv_97 : (0 : Int) ≤ Mvalue_8 ∧ Mvalue_8 ≤ 99 := by
    first | assumption | omega | grind
  have hv_98 : (0 : Int) ≤ Mthing ∧ Mthing ≤ 104 := by
    first | assumption | omega | grind
  have hv_99 : 0 ≤ (0 : Int) ∧ (0 : Int) ≤ 11 := by
    first | assumption | omega | grind
  have hv_100 : (goF f Mtaped (0, -1, 0, 0, 0, 0), (0, wo, on, tw, nu)) = parK f Mtaped Mmany (goF f Mtaped (0, -1, 0, 0, 0, 0), (0, wo, on, tw, nu)) (0 : Int).toNat := by
    rfl
  have hv_101 : qM (goF f Mtaped (0, -1, 0, 0, 0, 0), (0, wo, on, tw, nu)).1 (0 : Int) MwrongAt Mtoken_6 MtokenAt_7 Mpos_5 Mvalue_8 := by
    assumption
  have hv_102 : Mpos_5 ≤ Mtaped := by
    first | assumption | omega | grind
  have hv_103 : okQ Mtaped (goF f Mtaped (0, -1, 0, 0, 0, 0), (0, wo, on, tw, nu)).1 := by
    exact ok_go ⟨Int.le_refl _, by show (0 : Int) ≤ Mtaped; omega⟩
  have hv_104 : ((1 : Int) = 1 ∧ (goF f Mtaped (0, -1, 0, 0, 0, 0), (0, wo, on, tw, nu)).1.1 = 0) ∨ ((1 : Int) = 0 ∧ ¬ (goF f Mtaped (0, -1, 0, 0, 0, 0), (0, wo, on, tw, nu)).1.1 = 0) := by
    exact Or.inl ⟨rfl, rfl⟩
  have hv_105 : (goF f Mtaped (0, -1, 0, 0, 0, 0), (0, wo, on, tw, nu)).1.1 = 0 → (0 : Int) ≤ 10 ∧ frA Mfresh (0 : Int) (goF f Mtaped (0, -1, 0, 0, 0, 0), (0, wo, on, tw, nu)).2 := by
    intro _; exact ⟨by omega, rfl, fun k k0 k1 => absurd k1 (by omega)⟩
  refine z_loop (σ := Int × Int × Int × Int × Int × Int × Int × Int × Int × (Int → Int) × QS × BS) (μ := fun x9 => (11 - (x9.1)).toNat) (I := fun x9 H locs ls => ((0 : Int) ≤ (x9.2.2.1) ∧ (x9.2.2.1) ≤ 3) ∧ ((0 : Int) ≤ (x9.2.2.2.1) ∧ (x9.2.2.2.1) ≤ 400) ∧ ((0 : Int) ≤ (x9.2.2.2.2.1) ∧ (x9.2.2.2.2.1) ≤ 15) ∧ ((0 : Int) ≤ (x9.2.2.2.2.2.1) ∧ (x9.2.2.2.2.2.1) ≤ 400) ∧ ((0 : Int) ≤ (x9.2.2.2.2.2.2.1) ∧ (x9.2.2.2.2.2.2.1) ≤ 400) ∧ ((0 : Int) ≤ (x9.2.2.2.2.2.2.2.1) ∧ (x9.2.2.2.2.2.2.2.1) ≤ 99) ∧ ((0 : Int) ≤ (x9.2.2.2.2.2.2.2.2.1) ∧ (x9.2.2.2.2.2.2.2.2.1) ≤ 104) ∧ (RA (x9.2.2.2.2.2.2.2.2.2.1) (0) 104) ∧ (0 ≤ (x9.1) ∧ (x9.1) ≤ 11) ∧ (x9.2.2.2.2.2.2.2.2.2.2 = parK f Mtaped Mmany (goF f Mtaped (0, -1, 0, 0, 0, 0), (0, wo, on, tw, nu)) (x9.1).toNat) ∧ (qM x9.2.2.2.2.2.2.2.2.2.2.1 (x9.2.2.1) (x9.2.2.2.1) (x9.2.2.2.2.1) (x9.2.2.2.2.2.1) (x9.2.2.2.2.2.2.1) (x9.2.2.2.2.2.2.2.1)) ∧ ((x9.2.2.2.2.2.2.1) ≤ Mtaped) ∧ (okQ Mtaped x9.2.2.2.2.2.2.2.2.2.2.1) ∧ (((x9.2.1) = 1 ∧ x9.2.2.2.2.2.2.2.2.2.2.1.1 = 0) ∨ ((x9.2.1) = 0 ∧ ¬ x9.2.2.2.2.2.2.2.2.2.2.1.1 = 0)) ∧ (x9.2.2.2.2.2.2.2.2.2.2.1.1 = 0 → (x9.1) ≤ 10 ∧ frA (x9.2.2.2.2.2.2.2.2.2.1) (x9.1) x9.2.2.2.2.2.2.2.2.2.2.2) ∧ HW D A s.heap (kM cI cB cZ oM 0 Mmany Mguest Mrow Mbars Mbar (x9.2.2.2.2.2.2.2.2.2.1) Mtape Mtaped (x9.2.2.2.2.2.2.1) (x9.2.2.2.2.1) (x9.2.2.2.2.2.1) (x9.2.2.2.2.2.2.2.1) (x9.2.2.1) (x9.2.2.2.1) MfaultKind MfaultPlace (x9.2.2.2.2.2.2.2.2.1) Morder Mone Mtwo Mbest Mcells Mgap Mwire Mstand Mruns Mminute Mhead Mplays Mrests Mwent Mout Mcame Mgone MlastOut) H locs ∧ lv_has ls 4 [(0, .ref (oM 0)), (1, .int (zI (x9.1))), (2, .int (zI (x9.2.1)))]) (0, 1, 0, MwrongAt, Mtoken_6, MtokenAt_7, Mpos_5, Mvalue_8, Mthing, Mfresh, (goF f Mtaped (0, -1, 0, 0, 0, 0), (0, wo, on, tw, nu))) ⟨hv_92, hv_93, hv_94, hv_95, hv_96, hv_97, hv_98, qMfresh, hv_99, hv_100, hv_101, hv_102, hv_103, hv_104, hv_105, hw, lv_sub hl [2, 1, 0] rfl⟩ ?_
  clear hw hl
  intro x9 H locs ls hI ih_106
  obtain ⟨n_107, g_108, Mwrong_109, MwrongAt_110, Mtoken_111, MtokenAt_112, Mpos_113, Mvalue_114, Mthing_115, Mfresh_116, s_117⟩ := x9
  try dsimp only at hI
  obtain ⟨hq_118, hq_119, hq_120, hq_121, hq_122, hq_123, hq_124, hR_125, hI_126, hI_127, hI_128, hI_129, hI_130, hI_131, hI_132, hw, hl⟩ := hI
  have hok := (by assumption : okQ Mtaped s_117.1)
  have htk := tk_r hok.1
  have hok1 : 1 ≤ s_117.1.2.2.1 ∧ s_117.1.2.2.1 ≤ 10 := hok.1
  have hqm := (by assumption : qM s_117.1 Mwrong_109 MwrongAt_110 Mtoken_111 MtokenAt_112 Mpos_113 Mvalue_114)
  unfold qM at hqm
  refine lv_iload_n hx hb dX8_load_23 rfl (lv_at hl 2 rfl) ?_
  refine z_if_eq (tgt := 77) hx hb dX8_load_24 (by decide) (by omega) (fun hc_133 => ?_) (fun hc_133 => ?_)
  · skip
    have hv_134 : (0 : Int) ≤ Mwrong_109 ∧ Mwrong_109 ≤ 3 := by
      first | assumption | omega | grind
    have hv_135 : (0 : Int) ≤ MwrongAt_110 ∧ MwrongAt_110 ≤ 400 := by
      first | assumption | omega | grind
    have hv_136 : (0 : Int) ≤ Mtoken_111 ∧ Mtoken_111 ≤ 15 := by
      first | assumption | omega | grind
    have hv_137 : (0 : Int) ≤ MtokenAt_112 ∧ MtokenAt_112 ≤ 400 := by
      first | assumption | omega | grind
    have hv_138 : (0 : Int) ≤ Mpos_113 ∧ Mpos_113 ≤ 400 := by
      first | assumption | omega | grind
    have hv_139 : (0 : Int) ≤ Mvalue_114 ∧ Mvalue_114 ≤ 99 := by
      first | assumption | omega | grind
    have hv_140 : (0 : Int) ≤ Mthing_115 ∧ Mthing_115 ≤ 104 := by
      first | assumption | omega | grind
    have hv_141 : 0 ≤ n_107 ∧ n_107 ≤ 11 := by
      omega
    have hv_142 : qM (allQ f Mtaped Mmany wo on tw nu).1 Mwrong_109 MwrongAt_110 Mtoken_111 MtokenAt_112 Mpos_113 Mvalue_114 := by
      have hs := (by assumption : s_117 = parK f Mtaped Mmany (goF f Mtaped (0, -1, 0, 0, 0, 0), (0, wo, on, tw, nu)) n_107.toNat)
      have hz := (by assumption : qM s_117.1 Mwrong_109 MwrongAt_110 Mtoken_111 MtokenAt_112 Mpos_113 Mvalue_114)
      have hz2 := hz
      unfold qM at hz2
      have tk := tk_r (by assumption : okQ Mtaped s_117.1).1
      have hall := all_k (f := f) (len := Mtaped) (n := Mmany) (wo := wo) (on := on) (tw := tw) (nu := nu) (k := n_107.toNat) (by omega) (by rw [← hs]; omega)
      rw [hall, ← hs]
      assumption
    have hv_143 : (g_108 = 1 ∧ (allQ f Mtaped Mmany wo on tw nu).1.1 = 0) ∨ (g_108 = 0 ∧ ¬ (allQ f Mtaped Mmany wo on tw nu).1.1 = 0) := by
      have hs := (by assumption : s_117 = parK f Mtaped Mmany (goF f Mtaped (0, -1, 0, 0, 0, 0), (0, wo, on, tw, nu)) n_107.toNat)
      have hz := (by assumption : qM s_117.1 Mwrong_109 MwrongAt_110 Mtoken_111 MtokenAt_112 Mpos_113 Mvalue_114)
      have hz2 := hz
      unfold qM at hz2
      have tk := tk_r (by assumption : okQ Mtaped s_117.1).1
      have hall := all_k (f := f) (len := Mtaped) (n := Mmany) (wo := wo) (on := on) (tw := tw) (nu := nu) (k := n_107.toNat) (by omega) (by rw [← hs]; omega)
      rw [hall, ← hs]
      omega
    have hv_144 : (allQ f Mtaped Mmany wo on tw nu).1.1 = 0 → n_107 ≤ 10 ∧ frA Mfresh_116 n_107 (allQ f Mtaped Mmany wo on tw nu).2 := by
      have hs := (by assumption : s_117 = parK f Mtaped Mmany (goF f Mtaped (0, -1, 0, 0, 0, 0), (0, wo, on, tw, nu)) n_107.toNat)
      have hz := (by assumption : qM s_117.1 Mwrong_109 MwrongAt_110 Mtoken_111 MtokenAt_112 Mpos_113 Mvalue_114)
      have hz2 := hz
      unfold qM at hz2
      have tk := tk_r (by assumption : okQ Mtaped s_117.1).1
      have hall := all_k (f := f) (len := Mtaped) (n := Mmany) (wo := wo) (on := on) (tw := tw) (nu := nu) (k := n_107.toNat) (by omega) (by rw [← hs]; omega)
      rw [hall, ← hs]
      assumption
    exact hj_15 (n_107, g_108, Mwrong_109, MwrongAt_110, Mtoken_111, MtokenAt_112, Mpos_113, Mvalue_114, Mthing_115, Mfresh_116) _ _ _ ⟨hv_134, hv_135, hv_136, hv_137, hv_138, hv_139, hv_140, hR_125, hv_141, hv_142, hv_143, hv_144, hw, lv_sub hl [0, 1, 2] rfl⟩
  · skip
    refine lv_aload_n hx hb dX8_load_27 rfl (lv_at hl 0 rfl) ?_
    refine va_get (D := D) (ci := 8) (v := .int (zI Mtoken_111)) (C := RX8) (T := TX8) (N := 36) hx hb hts hinX8 hown hK hw.1 0 rfl rfl 10 (by decide) (hts (.fieldLink RX8 120 "CarnivalRoadModel" "token" "I") (by decide +kernel)) (fun _ h9 => h9) rfl dX8_load_28 ?_
    refine z_if_eq (tgt := 77) hx hb dX8_load_31 (by decide) (by omega) (fun hc_145 => ?_) (fun hc_145 => ?_)
    · skip
      have hv_146 : (0 : Int) ≤ Mwrong_109 ∧ Mwrong_109 ≤ 3 := by
        first | assumption | omega | grind
      have hv_147 : (0 : Int) ≤ MwrongAt_110 ∧ MwrongAt_110 ≤ 400 := by
        first | assumption | omega | grind
      have hv_148 : (0 : Int) ≤ Mtoken_111 ∧ Mtoken_111 ≤ 15 := by
        first | assumption | omega | grind
      have hv_149 : (0 : Int) ≤ MtokenAt_112 ∧ MtokenAt_112 ≤ 400 := by
        first | assumption | omega | grind
      have hv_150 : (0 : Int) ≤ Mpos_113 ∧ Mpos_113 ≤ 400 := by
        first | assumption | omega | grind
      have hv_151 : (0 : Int) ≤ Mvalue_114 ∧ Mvalue_114 ≤ 99 := by
        first | assumption | omega | grind
      have hv_152 : (0 : Int) ≤ Mthing_115 ∧ Mthing_115 ≤ 104 := by
        first | assumption | omega | grind
      have hv_153 : 0 ≤ n_107 ∧ n_107 ≤ 11 := by
        omega
      have hv_154 : qM (allQ f Mtaped Mmany wo on tw nu).1 Mwrong_109 MwrongAt_110 Mtoken_111 MtokenAt_112 Mpos_113 Mvalue_114 := by
        have hs := (by assumption : s_117 = parK f Mtaped Mmany (goF f Mtaped (0, -1, 0, 0, 0, 0), (0, wo, on, tw, nu)) n_107.toNat)
        have hz := (by assumption : qM s_117.1 Mwrong_109 MwrongAt_110 Mtoken_111 MtokenAt_112 Mpos_113 Mvalue_114)
        have hz2 := hz
        unfold qM at hz2
        have tk := tk_r (by assumption : okQ Mtaped s_117.1).1
        have hall := all_k (f := f) (len := Mtaped) (n := Mmany) (wo := wo) (on := on) (tw := tw) (nu := nu) (k := n_107.toNat) (by omega) (by rw [← hs]; omega)
        rw [hall, ← hs]
        assumption
      have hv_155 : (g_108 = 1 ∧ (allQ f Mtaped Mmany wo on tw nu).1.1 = 0) ∨ (g_108 = 0 ∧ ¬ (allQ f Mtaped Mmany wo on tw nu).1.1 = 0) := by
        have hs := (by assumption : s_117 = parK f Mtaped Mmany (goF f Mtaped (0, -1, 0, 0, 0, 0), (0, wo, on, tw, nu)) n_107.toNat)
        have hz := (by assumption : qM s_117.1 Mwrong_109 MwrongAt_110 Mtoken_111 MtokenAt_112 Mpos_113 Mvalue_114)
        have hz2 := hz
        unfold qM at hz2
        have tk := tk_r (by assumption : okQ Mtaped s_117.1).1
        have hall := all_k (f := f) (len := Mtaped) (n := Mmany) (wo := wo) (on := on) (tw := tw) (nu := nu) (k := n_107.toNat) (by omega) (by rw [← hs]; omega)
        rw [hall, ← hs]
        omega
      have hv_156 : (allQ f Mtaped Mmany wo on tw nu).1.1 = 0 → n_107 ≤ 10 ∧ frA Mfresh_116 n_107 (allQ f Mtaped Mmany wo on tw nu).2 := by
        have hs := (by assumption : s_117 = parK f Mtaped Mmany (goF f Mtaped (0, -1, 0, 0, 0, 0), (0, wo, on, tw, nu)) n_107.toNat)
        have hz := (by assumption : qM s_117.1 Mwrong_109 MwrongAt_110 Mtoken_111 MtokenAt_112 Mpos_113 Mvalue_114)
        have hz2 := hz
        unfold qM at hz2
        have tk := tk_r (by assumption : okQ Mtaped s_117.1).1
        have hall := all_k (f := f) (len := Mtaped) (n := Mmany) (wo := wo) (on := on) (tw := tw) (nu := nu) (k := n_107.toNat) (by omega) (by rw [← hs]; omega)
        rw [hall, ← hs]
        assumption
      exact hj_15 (n_107, g_108, Mwrong_109, MwrongAt_110, Mtoken_111, MtokenAt_112, Mpos_113, Mvalue_114, Mthing_115, Mfresh_116) _ _ _ ⟨hv_146, hv_147, hv_148, hv_149, hv_150, hv_151, hv_152, hR_125, hv_153, hv_154, hv_155, hv_156, hw, lv_sub hl [0, 1, 2] rfl⟩
    · skip
      refine z_cut (σ := Int × Int × Int × Int × Int × Int × Int × Int × (Int → Int)) 70 (I := fun x9 H locs ls => ((0 : Int) ≤ (x9.2.1) ∧ (x9.2.1) ≤ 3) ∧ ((0 : Int) ≤ (x9.2.2.1) ∧ (x9.2.2.1) ≤ 400) ∧ ((0 : Int) ≤ (x9.2.2.2.1) ∧ (x9.2.2.2.1) ≤ 15) ∧ ((0 : Int) ≤ (x9.2.2.2.2.1) ∧ (x9.2.2.2.2.1) ≤ 400) ∧ ((0 : Int) ≤ (x9.2.2.2.2.2.1) ∧ (x9.2.2.2.2.2.1) ≤ 400) ∧ ((0 : Int) ≤ (x9.2.2.2.2.2.2.1) ∧ (x9.2.2.2.2.2.2.1) ≤ 99) ∧ ((0 : Int) ≤ (x9.2.2.2.2.2.2.2.1) ∧ (x9.2.2.2.2.2.2.2.1) ≤ 104) ∧ (RA (x9.2.2.2.2.2.2.2.2) (0) 104) ∧ (qM (barQ f Mtaped Mmany s_117.2.1 s_117.1, barB f Mtaped Mmany s_117.1 s_117.2).1 (x9.2.1) (x9.2.2.1) (x9.2.2.2.1) (x9.2.2.2.2.1) (x9.2.2.2.2.2.1) (x9.2.2.2.2.2.2.1)) ∧ ((x9.2.2.2.2.2.1) ≤ Mtaped) ∧ ((x9.1 = 1 ∧ (barQ f Mtaped Mmany s_117.2.1 s_117.1, barB f Mtaped Mmany s_117.1 s_117.2).1.1 = 0) ∨ (x9.1 = 0 ∧ ¬ (barQ f Mtaped Mmany s_117.2.1 s_117.1, barB f Mtaped Mmany s_117.1 s_117.2).1.1 = 0)) ∧ ((barQ f Mtaped Mmany s_117.2.1 s_117.1, barB f Mtaped Mmany s_117.1 s_117.2).1.1 = 0 → n_107 < 10 ∧ frA (x9.2.2.2.2.2.2.2.2) (n_107 + 1) (barQ f Mtaped Mmany s_117.2.1 s_117.1, barB f Mtaped Mmany s_117.1 s_117.2).2) ∧ HW D A s.heap (kM cI cB cZ oM 0 Mmany Mguest Mrow Mbars Mbar (x9.2.2.2.2.2.2.2.2) Mtape Mtaped (x9.2.2.2.2.2.1) (x9.2.2.2.1) (x9.2.2.2.2.1) (x9.2.2.2.2.2.2.1) (x9.2.1) (x9.2.2.1) MfaultKind MfaultPlace (x9.2.2.2.2.2.2.2.1) Morder Mone Mtwo Mbest Mcells Mgap Mwire Mstand Mruns Mminute Mhead Mplays Mrests Mwent Mout Mcame Mgone MlastOut) H locs ∧ lv_has ls 4 [(0, .ref (oM 0)), (1, .int (zI n_107))]) (st := fun x9 => [.int (zI x9.1)]) ?_ (fun hj_157 => ?_)
      · clear hw hl
        intro x9 H locs ls hI
        obtain ⟨g_158, Mwrong_159, MwrongAt_160, Mtoken_161, MtokenAt_162, Mpos_163, Mvalue_164, Mthing_165, Mfresh_166⟩ := x9
        try dsimp only at hI ⊢
        obtain ⟨hq_167, hq_168, hq_169, hq_170, hq_171, hq_172, hq_173, hR_174, hI_175, hI_176, hI_177, hI_178, hw, hl⟩ := hI
        refine lv_istore_n (lv' := [(2, .int (zI g_158)), (0, .ref (oM 0)), (1, .int (zI n_107))]) hx hb dX8_load_70 rfl hl (by decide) rfl (fun ls hl => ?_)
        refine z_iinc (k := 2) (lv' := [(1, .int (zI (n_107 + 1))), (2, .int (zI g_158)), (0, .ref (oM 0))]) hx hb dX8_load_71 hl rfl (by decide) rfl (fun ls hl => ?_)
        refine lv_goto (tgt := 23) hx hb dX8_load_74 (by decide) ?_
        have hv_179 : (0 : Int) ≤ Mwrong_159 ∧ Mwrong_159 ≤ 3 := by
          first | assumption | omega | grind
        have hv_180 : (0 : Int) ≤ MwrongAt_160 ∧ MwrongAt_160 ≤ 400 := by
          first | assumption | omega | grind
        have hv_181 : (0 : Int) ≤ Mtoken_161 ∧ Mtoken_161 ≤ 15 := by
          first | assumption | omega | grind
        have hv_182 : (0 : Int) ≤ MtokenAt_162 ∧ MtokenAt_162 ≤ 400 := by
          first | assumption | omega | grind
        have hv_183 : (0 : Int) ≤ Mpos_163 ∧ Mpos_163 ≤ 400 := by
          first | assumption | omega | grind
        have hv_184 : (0 : Int) ≤ Mvalue_164 ∧ Mvalue_164 ≤ 99 := by
          first | assumption | omega | grind
        have hv_185 : (0 : Int) ≤ Mthing_165 ∧ Mthing_165 ≤ 104 := by
          first | assumption | omega | grind
        have hv_186 : 0 ≤ (n_107 + 1) ∧ (n_107 + 1) ≤ 11 := by
          first | assumption | omega | grind
        have hv_187 : (barQ f Mtaped Mmany s_117.2.1 s_117.1, barB f Mtaped Mmany s_117.1 s_117.2) = parK f Mtaped Mmany (goF f Mtaped (0, -1, 0, 0, 0, 0), (0, wo, on, tw, nu)) (n_107 + 1).toNat := by
          have hs := (by assumption : s_117 = parK f Mtaped Mmany (goF f Mtaped (0, -1, 0, 0, 0, 0), (0, wo, on, tw, nu)) n_107.toNat)
          have hg := par_go (f := f) (len := Mtaped) (n := Mmany) (s := (goF f Mtaped (0, -1, 0, 0, 0, 0), (0, wo, on, tw, nu))) (k := n_107.toNat) (by rw [← hs]; omega)
          rw [← hs] at hg
          rw [show (n_107 + 1).toNat = n_107.toNat + 1 by omega, hg]
        have hv_188 : qM (barQ f Mtaped Mmany s_117.2.1 s_117.1, barB f Mtaped Mmany s_117.1 s_117.2).1 Mwrong_159 MwrongAt_160 Mtoken_161 MtokenAt_162 Mpos_163 Mvalue_164 := by
          assumption
        have hv_189 : Mpos_163 ≤ Mtaped := by
          first | assumption | omega | grind
        have hv_190 : okQ Mtaped (barQ f Mtaped Mmany s_117.2.1 s_117.1, barB f Mtaped Mmany s_117.1 s_117.2).1 := by
          exact ok_bar hok
        have hv_191 : (g_158 = 1 ∧ (barQ f Mtaped Mmany s_117.2.1 s_117.1, barB f Mtaped Mmany s_117.1 s_117.2).1.1 = 0) ∨ (g_158 = 0 ∧ ¬ (barQ f Mtaped Mmany s_117.2.1 s_117.1, barB f Mtaped Mmany s_117.1 s_117.2).1.1 = 0) := by
          assumption
        have hv_192 : (barQ f Mtaped Mmany s_117.2.1 s_117.1, barB f Mtaped Mmany s_117.1 s_117.2).1.1 = 0 → (n_107 + 1) ≤ 10 ∧ frA Mfresh_166 (n_107 + 1) (barQ f Mtaped Mmany s_117.2.1 s_117.1, barB f Mtaped Mmany s_117.1 s_117.2).2 := by
          intro z
          have z2 := (by assumption : (barQ f Mtaped Mmany s_117.2.1 s_117.1, barB f Mtaped Mmany s_117.1 s_117.2).1.1 = 0 → n_107 < 10 ∧ frA _ _ _) z
          exact ⟨by omega, z2.2⟩
        have hm_193 : (11 - (n_107 + 1)).toNat < (11 - n_107).toNat := by
          first | assumption | omega | grind
        exact ih_106 ((n_107 + 1), g_158, Mwrong_159, MwrongAt_160, Mtoken_161, MtokenAt_162, Mpos_163, Mvalue_164, Mthing_165, Mfresh_166, (barQ f Mtaped Mmany s_117.2.1 s_117.1, barB f Mtaped Mmany s_117.1 s_117.2)) _ _ _ ⟨hv_179, hv_180, hv_181, hv_182, hv_183, hv_184, hv_185, hR_174, hv_186, hv_187, hv_188, hv_189, hv_190, hv_191, hv_192, hw, lv_sub hl [2, 0, 1] rfl⟩ hm_193
      refine lv_aload_n hx hb dX8_load_34 rfl (lv_at hl 0 rfl) ?_
      refine va_get (D := D) (ci := 8) (v := .int (zI Mtoken_111)) (C := RX8) (T := TX8) (N := 36) hx hb hts hinX8 hown hK hw.1 0 rfl rfl 10 (by decide) (hts (.fieldLink RX8 120 "CarnivalRoadModel" "token" "I") (by decide +kernel)) (fun _ h9 => h9) rfl dX8_load_35 ?_
      refine z_bipush hx hb dX8_load_38 (by decide) ?_
      refine z_icmp_ge (tgt := 51) hx hb dX8_load_40 (by decide) (by omega) (fun hc_194 => ?_) (fun hc_194 => ?_)
      · skip
        refine lv_iload_n hx hb dX8_load_51 rfl (lv_at hl 1 rfl) ?_
        refine z_bipush hx hb dX8_load_52 (by decide) ?_
        refine z_icmp_ne (tgt := 65) hx hb dX8_load_54 (by decide) (by omega) (fun hc_195 => ?_) (fun hc_195 => ?_)
        · skip
          refine lv_aload_n hx hb dX8_load_65 rfl (lv_at hl 0 rfl) ?_
          refine lv_iload_n hx hb dX8_load_66 rfl (lv_at hl 1 rfl) ?_
          have hpre_196 : tpR Mtaped f Mtape := by
            first | assumption | omega
          have hpre_197 : qM (s_117.1) Mwrong_109 MwrongAt_110 Mtoken_111 MtokenAt_112 Mpos_113 Mvalue_114 := by
            first | assumption | omega
          have hpre_198 : Mpos_113 ≤ Mtaped := by
            first | assumption | omega
          have hpre_199 : okQ Mtaped (s_117.1) := by
            first | assumption | omega
          have hpre_200 : (s_117.1).1 = 0 := by
            first | assumption | omega
          have hpre_201 : 1 ≤ (s_117.1).2.2.1 ∧ (s_117.1).2.2.1 ≤ 5 := by
            first | assumption | omega
          have hF9 := z_free (wc := kM cI cB cZ oM 0 Mmany Mguest Mrow Mbars Mbar Mfresh_116 Mtape Mtaped Mpos_113 Mtoken_111 MtokenAt_112 Mvalue_114 Mwrong_109 MwrongAt_110 MfaultKind MfaultPlace Mthing_115 Morder Mone Mtwo Mbest Mcells Mgap Mwire Mstand Mruns Mminute Mhead Mplays Mrests Mwent Mout Mcame Mgone MlastOut) hw hA [0, 1, 2, 3, 4, 5, 6, 7, 8, 9, 10, 11, 12, 13, 14, 15, 16] rfl
          refine va_calli (va_runV (As := [.int (zI n_107)]) (rest := []) ⟨hx, hb, hml, hown, hts⟩ (c_X8_aBar l D cI cB cZ oM H.size 0 Mmany Mguest Mrow Mbars Mbar Mfresh_116 Mtape Mtaped Mpos_113 Mtoken_111 MtokenAt_112 Mvalue_114 Mwrong_109 MwrongAt_110 MfaultKind MfaultPlace Mthing_115 Morder Mone Mtwo Mbest Mcells Mgap Mwire Mstand Mruns Mminute Mhead Mplays Mrests Mwent Mout Mcame Mgone MlastOut n_107 f (s_117.1) (by omega) (by omega) qMguest qMrow (by omega) qMbar hR_125 qMtape (by omega) (by omega) (by omega) (by omega) (by omega) (by omega) (by omega) (by omega) (by omega) (by omega) qMorder (by omega) (by omega) qMbest (by omega) (by omega) qMwire qMstand (by omega) (by omega) qMhead qMplays qMrests qMwent qMout qMcame qMgone (by omega) (by omega) hpre_196 hpre_197 hpre_198 hpre_199 hpre_200 hpre_201) (cwV 1 hts gX8_load_X8_aBar rfl rfl rfl (by decide +kernel) ⟨Nat.le_of_ble_eq_true rfl, Nat.le_of_ble_eq_true rfl⟩) ⟨zPre_blind, va_recv hK hw.1 (ci := 8) (q0 := 0) rfl rfl, z_pre hK hw [0, 1, 2, 3, 4, 5, 6, 7, 8, 9, 10, 11, 12, 13, 14, 15, 16] (by decide) rfl⟩ rfl rfl hl.1 rfl (lv_room (Nat.le_of_ble_eq_true rfl)) dX8_load_67 ⟨Nat.zero_le _, Nat.zero_le _⟩) hw.2.2 (fun q _ h => hF9 q h) hF9 (fun r9 u9 t9 H_202 locs9 ht9 hvm9 hq9 hB9 hz9 hk9 hS9 => ?_)
          obtain ⟨r_203, Mfresh_204, Mpos_205, Mtoken_206, MtokenAt_207, Mvalue_208, Mwrong_209, MwrongAt_210, Mthing_211⟩ := u9
          try dsimp only at hq9 hB9
          obtain ⟨rfl, hq9⟩ := hq9
          obtain ⟨hq_212, hq_213, hq_214, hq_215, hq_216, hq_217, hq_218, hq_219, hq_220, hq_221, hq_222, hq_223, hq_224⟩ := hq9
          have hw : HW D A s.heap (kM cI cB cZ oM 0 Mmany Mguest Mrow Mbars Mbar Mfresh_204 Mtape Mtaped Mpos_205 Mtoken_206 MtokenAt_207 Mvalue_208 Mwrong_209 MwrongAt_210 MfaultKind MfaultPlace Mthing_211 Morder Mone Mtwo Mbest Mcells Mgap Mwire Mstand Mruns Mminute Mhead Mplays Mrests Mwent Mout Mcame Mgone MlastOut) H_202 locs9 := z_after (wc := kM cI cB cZ oM 0 Mmany Mguest Mrow Mbars Mbar Mfresh_116 Mtape Mtaped Mpos_113 Mtoken_111 MtokenAt_112 Mvalue_114 Mwrong_109 MwrongAt_110 MfaultKind MfaultPlace Mthing_115 Morder Mone Mtwo Mbest Mcells Mgap Mwire Mstand Mruns Mminute Mhead Mplays Mrests Mwent Mout Mcame Mgone MlastOut) hw [0, 1, 2, 3, 4, 5, 6, 7, 8, 9, 10, 11, 12, 13, 14, 15, 16] [] rfl rfl (by decide) (by decide) hF9 hk9 ht9 hB9 hS9 [0, 1, 2, 3, 4, 5, 6, 7, 8, 9, 10, 11, 12, 13, 14, 15, 16] (by decide) rfl
          clear hF9 ht9 hvm9 hB9 hz9 hk9 hS9
          rcases hq_220 with ⟨hc_225, rfl⟩ | ⟨hc_225, rfl⟩
          · skip
            have hv_226 : (0 : Int) ≤ Mwrong_209 ∧ Mwrong_209 ≤ 3 := by
              first | assumption | omega | grind
            have hv_227 : (0 : Int) ≤ MwrongAt_210 ∧ MwrongAt_210 ≤ 400 := by
              first | assumption | omega | grind
            have hv_228 : (0 : Int) ≤ Mtoken_206 ∧ Mtoken_206 ≤ 15 := by
              first | assumption | omega | grind
            have hv_229 : (0 : Int) ≤ MtokenAt_207 ∧ MtokenAt_207 ≤ 400 := by
              first | assumption | omega | grind
            have hv_230 : (0 : Int) ≤ Mpos_205 ∧ Mpos_205 ≤ 400 := by
              first | assumption | omega | grind
            have hv_231 : (0 : Int) ≤ Mvalue_208 ∧ Mvalue_208 ≤ 99 := by
              first | assumption | omega | grind
            have hv_232 : (0 : Int) ≤ Mthing_211 ∧ Mthing_211 ≤ 104 := by
              first | assumption | omega | grind
            have hv_233 : qM (barQ f Mtaped Mmany s_117.2.1 s_117.1, barB f Mtaped Mmany s_117.1 s_117.2).1 Mwrong_209 MwrongAt_210 Mtoken_206 MtokenAt_207 Mpos_205 Mvalue_208 := by
              first | (show qM (barQ f Mtaped Mmany s_117.2.1 s_117.1) _ _ _ _ _ _; rw [bar_bad (by omega)]; subst_vars; exact ref_m (by assumption)) | (have hfr := (by assumption : s_117.1.1 = 0 → _ ∧ frA _ _ _) (by omega); have hc := hfr.2.1; show qM (barQ f Mtaped Mmany s_117.2.1 s_117.1) _ _ _ _ _ _; rw [bar_many (by omega) (by omega)]; subst_vars; exact ref_m (by assumption)) | (have hfr := (by assumption : s_117.1.1 = 0 → _ ∧ frA _ _ _) (by omega); have hc := hfr.2.1; show qM (barQ f Mtaped Mmany s_117.2.1 s_117.1) _ _ _ _ _ _; rw [bar_one (by omega) (by omega)]; assumption)
            have hv_234 : Mpos_205 ≤ Mtaped := by
              first | assumption | omega | grind
            have hv_235 : ((1 : Int) = 1 ∧ (barQ f Mtaped Mmany s_117.2.1 s_117.1, barB f Mtaped Mmany s_117.1 s_117.2).1.1 = 0) ∨ ((1 : Int) = 0 ∧ ¬ (barQ f Mtaped Mmany s_117.2.1 s_117.1, barB f Mtaped Mmany s_117.1 s_117.2).1.1 = 0) := by
              first | (refine Or.inr ⟨by omega, ?_⟩; show ¬ (barQ f Mtaped Mmany s_117.2.1 s_117.1).1 = 0; rw [bar_bad (by omega)]; show ¬ (1 : Int) = 0; decide) | (have hfr := (by assumption : s_117.1.1 = 0 → _ ∧ frA _ _ _) (by omega); have hc := hfr.2.1; refine Or.inr ⟨by omega, ?_⟩; show ¬ (barQ f Mtaped Mmany s_117.2.1 s_117.1).1 = 0; rw [bar_many (by omega) (by omega)]; show ¬ (3 : Int) = 0; decide) | (have hfr := (by assumption : s_117.1.1 = 0 → _ ∧ frA _ _ _) (by omega); have hc := hfr.2.1; show (_ ∧ (barQ f Mtaped Mmany s_117.2.1 s_117.1).1 = 0) ∨ (_ ∧ ¬ (barQ f Mtaped Mmany s_117.2.1 s_117.1).1 = 0); rw [bar_one (by omega) (by omega)]; first | exact Or.inl ⟨rfl, by assumption⟩ | exact Or.inr ⟨rfl, by assumption⟩)
            have hv_236 : (barQ f Mtaped Mmany s_117.2.1 s_117.1, barB f Mtaped Mmany s_117.1 s_117.2).1.1 = 0 → n_107 < 10 ∧ frA Mfresh_204 (n_107 + 1) (barQ f Mtaped Mmany s_117.2.1 s_117.1, barB f Mtaped Mmany s_117.1 s_117.2).2 := by
              have hfr := (by assumption : s_117.1.1 = 0 → _ ∧ frA _ _ _) (by omega)
              have hc := hfr.2.1
              intro z
              have z1 : (barQ f Mtaped Mmany s_117.2.1 s_117.1).1 = 0 := z
              first | (exfalso; rw [bar_bad (by omega)] at z1; exact absurd z1 (by show ¬ (1 : Int) = 0; decide)) | (exfalso; rw [bar_many (by omega) (by omega)] at z1; exact absurd z1 (by show ¬ (3 : Int) = 0; decide)) | (refine ⟨by omega, fr_bar hfr.2 (by omega) (by omega) (by omega) z1 (by assumption) ?_⟩; rw [bar_one (by omega) (by omega)] at z1; exact (by assumption : (semQ f Mtaped (thrQ f Mtaped Mmany s_117.1).2).1 = 0 → _) z1)
            exact hj_157 (1, Mwrong_209, MwrongAt_210, Mtoken_206, MtokenAt_207, Mpos_205, Mvalue_208, Mthing_211, Mfresh_204) _ _ _ ⟨hv_226, hv_227, hv_228, hv_229, hv_230, hv_231, hv_232, hq_212, hv_233, hv_234, hv_235, hv_236, hw, lv_sub hl [0, 1] rfl⟩
          · skip
            have hv_237 : (0 : Int) ≤ Mwrong_209 ∧ Mwrong_209 ≤ 3 := by
              first | assumption | omega | grind
            have hv_238 : (0 : Int) ≤ MwrongAt_210 ∧ MwrongAt_210 ≤ 400 := by
              first | assumption | omega | grind
            have hv_239 : (0 : Int) ≤ Mtoken_206 ∧ Mtoken_206 ≤ 15 := by
              first | assumption | omega | grind
            have hv_240 : (0 : Int) ≤ MtokenAt_207 ∧ MtokenAt_207 ≤ 400 := by
              first | assumption | omega | grind
            have hv_241 : (0 : Int) ≤ Mpos_205 ∧ Mpos_205 ≤ 400 := by
              first | assumption | omega | grind
            have hv_242 : (0 : Int) ≤ Mvalue_208 ∧ Mvalue_208 ≤ 99 := by
              first | assumption | omega | grind
            have hv_243 : (0 : Int) ≤ Mthing_211 ∧ Mthing_211 ≤ 104 := by
              first | assumption | omega | grind
            have hv_244 : qM (barQ f Mtaped Mmany s_117.2.1 s_117.1, barB f Mtaped Mmany s_117.1 s_117.2).1 Mwrong_209 MwrongAt_210 Mtoken_206 MtokenAt_207 Mpos_205 Mvalue_208 := by
              first | (show qM (barQ f Mtaped Mmany s_117.2.1 s_117.1) _ _ _ _ _ _; rw [bar_bad (by omega)]; subst_vars; exact ref_m (by assumption)) | (have hfr := (by assumption : s_117.1.1 = 0 → _ ∧ frA _ _ _) (by omega); have hc := hfr.2.1; show qM (barQ f Mtaped Mmany s_117.2.1 s_117.1) _ _ _ _ _ _; rw [bar_many (by omega) (by omega)]; subst_vars; exact ref_m (by assumption)) | (have hfr := (by assumption : s_117.1.1 = 0 → _ ∧ frA _ _ _) (by omega); have hc := hfr.2.1; show qM (barQ f Mtaped Mmany s_117.2.1 s_117.1) _ _ _ _ _ _; rw [bar_one (by omega) (by omega)]; assumption)
            have hv_245 : Mpos_205 ≤ Mtaped := by
              first | assumption | omega | grind
            have hv_246 : ((0 : Int) = 1 ∧ (barQ f Mtaped Mmany s_117.2.1 s_117.1, barB f Mtaped Mmany s_117.1 s_117.2).1.1 = 0) ∨ ((0 : Int) = 0 ∧ ¬ (barQ f Mtaped Mmany s_117.2.1 s_117.1, barB f Mtaped Mmany s_117.1 s_117.2).1.1 = 0) := by
              first | (refine Or.inr ⟨by omega, ?_⟩; show ¬ (barQ f Mtaped Mmany s_117.2.1 s_117.1).1 = 0; rw [bar_bad (by omega)]; show ¬ (1 : Int) = 0; decide) | (have hfr := (by assumption : s_117.1.1 = 0 → _ ∧ frA _ _ _) (by omega); have hc := hfr.2.1; refine Or.inr ⟨by omega, ?_⟩; show ¬ (barQ f Mtaped Mmany s_117.2.1 s_117.1).1 = 0; rw [bar_many (by omega) (by omega)]; show ¬ (3 : Int) = 0; decide) | (have hfr := (by assumption : s_117.1.1 = 0 → _ ∧ frA _ _ _) (by omega); have hc := hfr.2.1; show (_ ∧ (barQ f Mtaped Mmany s_117.2.1 s_117.1).1 = 0) ∨ (_ ∧ ¬ (barQ f Mtaped Mmany s_117.2.1 s_117.1).1 = 0); rw [bar_one (by omega) (by omega)]; first | exact Or.inl ⟨rfl, by assumption⟩ | exact Or.inr ⟨rfl, by assumption⟩)
            have hv_247 : (barQ f Mtaped Mmany s_117.2.1 s_117.1, barB f Mtaped Mmany s_117.1 s_117.2).1.1 = 0 → n_107 < 10 ∧ frA Mfresh_204 (n_107 + 1) (barQ f Mtaped Mmany s_117.2.1 s_117.1, barB f Mtaped Mmany s_117.1 s_117.2).2 := by
              have hfr := (by assumption : s_117.1.1 = 0 → _ ∧ frA _ _ _) (by omega)
              have hc := hfr.2.1
              intro z
              have z1 : (barQ f Mtaped Mmany s_117.2.1 s_117.1).1 = 0 := z
              first | (exfalso; rw [bar_bad (by omega)] at z1; exact absurd z1 (by show ¬ (1 : Int) = 0; decide)) | (exfalso; rw [bar_many (by omega) (by omega)] at z1; exact absurd z1 (by show ¬ (3 : Int) = 0; decide)) | (refine ⟨by omega, fr_bar hfr.2 (by omega) (by omega) (by omega) z1 (by assumption) ?_⟩; rw [bar_one (by omega) (by omega)] at z1; exact (by assumption : (semQ f Mtaped (thrQ f Mtaped Mmany s_117.1).2).1 = 0 → _) z1)
            exact hj_157 (0, Mwrong_209, MwrongAt_210, Mtoken_206, MtokenAt_207, Mpos_205, Mvalue_208, Mthing_211, Mfresh_204) _ _ _ ⟨hv_237, hv_238, hv_239, hv_240, hv_241, hv_242, hv_243, hq_212, hv_244, hv_245, hv_246, hv_247, hw, lv_sub hl [0, 1] rfl⟩
        · skip
          refine lv_aload_n hx hb dX8_load_57 rfl (lv_at hl 0 rfl) ?_
          refine z_iconst hx hb dX8_load_58 ?_
          have hF9 := z_free (wc := kM cI cB cZ oM 0 Mmany Mguest Mrow Mbars Mbar Mfresh_116 Mtape Mtaped Mpos_113 Mtoken_111 MtokenAt_112 Mvalue_114 Mwrong_109 MwrongAt_110 MfaultKind MfaultPlace Mthing_115 Morder Mone Mtwo Mbest Mcells Mgap Mwire Mstand Mruns Mminute Mhead Mplays Mrests Mwent Mout Mcame Mgone MlastOut) hw hA [0, 1, 2, 3, 4, 5, 6, 7, 8, 9, 10, 11, 12, 13, 14, 15, 16] rfl
          refine va_calli (va_runV (As := [.int (zI 3)]) (rest := []) ⟨hx, hb, hml, hown, hts⟩ (c_X8_bad l D cI cB cZ oM H.size 0 Mmany Mguest Mrow Mbars Mbar Mfresh_116 Mtape Mtaped Mpos_113 Mtoken_111 MtokenAt_112 Mvalue_114 Mwrong_109 MwrongAt_110 MfaultKind MfaultPlace Mthing_115 Morder Mone Mtwo Mbest Mcells Mgap Mwire Mstand Mruns Mminute Mhead Mplays Mrests Mwent Mout Mcame Mgone MlastOut 3 (by omega) (by omega) qMguest qMrow (by omega) qMbar hR_125 qMtape (by omega) (by omega) (by omega) (by omega) (by omega) (by omega) (by omega) (by omega) (by omega) (by omega) qMorder (by omega) (by omega) qMbest (by omega) (by omega) qMwire qMstand (by omega) (by omega) qMhead qMplays qMrests qMwent qMout qMcame qMgone (by omega) (by omega)) (cwV 1 hts gX8_load_X8_bad rfl rfl rfl (by decide +kernel) ⟨Nat.le_of_ble_eq_true rfl, Nat.le_of_ble_eq_true rfl⟩) ⟨zPre_blind, va_recv hK hw.1 (ci := 8) (q0 := 0) rfl rfl, z_pre hK hw [0, 1, 2, 3, 4, 5, 6, 7, 8, 9, 10, 11, 12, 13, 14, 15, 16] (by decide) rfl⟩ rfl rfl hl.1 rfl (lv_room (Nat.le_of_ble_eq_true rfl)) dX8_load_59 ⟨Nat.zero_le _, Nat.zero_le _⟩) hw.2.2 (fun q _ h => hF9 q h) hF9 (fun r9 u9 t9 H_248 locs9 ht9 hvm9 hq9 hB9 hz9 hk9 hS9 => ?_)
          obtain ⟨r_249, Mwrong_250, MwrongAt_251⟩ := u9
          try dsimp only at hq9 hB9
          obtain ⟨rfl, hq9⟩ := hq9
          obtain ⟨hq_252, hq_253, hq_254, hq_255, hq_256⟩ := hq9
          have hw : HW D A s.heap (kM cI cB cZ oM 0 Mmany Mguest Mrow Mbars Mbar Mfresh_116 Mtape Mtaped Mpos_113 Mtoken_111 MtokenAt_112 Mvalue_114 Mwrong_250 MwrongAt_251 MfaultKind MfaultPlace Mthing_115 Morder Mone Mtwo Mbest Mcells Mgap Mwire Mstand Mruns Mminute Mhead Mplays Mrests Mwent Mout Mcame Mgone MlastOut) H_248 locs9 := z_after (wc := kM cI cB cZ oM 0 Mmany Mguest Mrow Mbars Mbar Mfresh_116 Mtape Mtaped Mpos_113 Mtoken_111 MtokenAt_112 Mvalue_114 Mwrong_109 MwrongAt_110 MfaultKind MfaultPlace Mthing_115 Morder Mone Mtwo Mbest Mcells Mgap Mwire Mstand Mruns Mminute Mhead Mplays Mrests Mwent Mout Mcame Mgone MlastOut) hw [0, 1, 2, 3, 4, 5, 6, 7, 8, 9, 10, 11, 12, 13, 14, 15, 16] [] rfl rfl (by decide) (by decide) hF9 hk9 ht9 hB9 hS9 [0, 1, 2, 3, 4, 5, 6, 7, 8, 9, 10, 11, 12, 13, 14, 15, 16] (by decide) rfl
          clear hF9 ht9 hvm9 hB9 hz9 hk9 hS9
          refine lv_goto (tgt := 70) hx hb dX8_load_62 (by decide) ?_
          have hv_257 : (0 : Int) ≤ Mwrong_250 ∧ Mwrong_250 ≤ 3 := by
            first | assumption | omega | grind
          have hv_258 : (0 : Int) ≤ MwrongAt_251 ∧ MwrongAt_251 ≤ 400 := by
            first | assumption | omega | grind
          have hv_259 : (0 : Int) ≤ Mtoken_111 ∧ Mtoken_111 ≤ 15 := by
            first | assumption | omega | grind
          have hv_260 : (0 : Int) ≤ MtokenAt_112 ∧ MtokenAt_112 ≤ 400 := by
            first | assumption | omega | grind
          have hv_261 : (0 : Int) ≤ Mpos_113 ∧ Mpos_113 ≤ 400 := by
            first | assumption | omega | grind
          have hv_262 : (0 : Int) ≤ Mvalue_114 ∧ Mvalue_114 ≤ 99 := by
            first | assumption | omega | grind
          have hv_263 : (0 : Int) ≤ Mthing_115 ∧ Mthing_115 ≤ 104 := by
            first | assumption | omega | grind
          have hv_264 : qM (barQ f Mtaped Mmany s_117.2.1 s_117.1, barB f Mtaped Mmany s_117.1 s_117.2).1 Mwrong_250 MwrongAt_251 Mtoken_111 MtokenAt_112 Mpos_113 Mvalue_114 := by
            first | (show qM (barQ f Mtaped Mmany s_117.2.1 s_117.1) _ _ _ _ _ _; rw [bar_bad (by omega)]; subst_vars; exact ref_m (by assumption)) | (have hfr := (by assumption : s_117.1.1 = 0 → _ ∧ frA _ _ _) (by omega); have hc := hfr.2.1; show qM (barQ f Mtaped Mmany s_117.2.1 s_117.1) _ _ _ _ _ _; rw [bar_many (by omega) (by omega)]; subst_vars; exact ref_m (by assumption)) | (have hfr := (by assumption : s_117.1.1 = 0 → _ ∧ frA _ _ _) (by omega); have hc := hfr.2.1; show qM (barQ f Mtaped Mmany s_117.2.1 s_117.1) _ _ _ _ _ _; rw [bar_one (by omega) (by omega)]; assumption)
          have hv_265 : Mpos_113 ≤ Mtaped := by
            first | assumption | omega | grind
          have hv_266 : (r_249 = 1 ∧ (barQ f Mtaped Mmany s_117.2.1 s_117.1, barB f Mtaped Mmany s_117.1 s_117.2).1.1 = 0) ∨ (r_249 = 0 ∧ ¬ (barQ f Mtaped Mmany s_117.2.1 s_117.1, barB f Mtaped Mmany s_117.1 s_117.2).1.1 = 0) := by
            first | (refine Or.inr ⟨by omega, ?_⟩; show ¬ (barQ f Mtaped Mmany s_117.2.1 s_117.1).1 = 0; rw [bar_bad (by omega)]; show ¬ (1 : Int) = 0; decide) | (have hfr := (by assumption : s_117.1.1 = 0 → _ ∧ frA _ _ _) (by omega); have hc := hfr.2.1; refine Or.inr ⟨by omega, ?_⟩; show ¬ (barQ f Mtaped Mmany s_117.2.1 s_117.1).1 = 0; rw [bar_many (by omega) (by omega)]; show ¬ (3 : Int) = 0; decide) | (have hfr := (by assumption : s_117.1.1 = 0 → _ ∧ frA _ _ _) (by omega); have hc := hfr.2.1; show (_ ∧ (barQ f Mtaped Mmany s_117.2.1 s_117.1).1 = 0) ∨ (_ ∧ ¬ (barQ f Mtaped Mmany s_117.2.1 s_117.1).1 = 0); rw [bar_one (by omega) (by omega)]; first | exact Or.inl ⟨rfl, by assumption⟩ | exact Or.inr ⟨rfl, by assumption⟩)
          have hv_267 : (barQ f Mtaped Mmany s_117.2.1 s_117.1, barB f Mtaped Mmany s_117.1 s_117.2).1.1 = 0 → n_107 < 10 ∧ frA Mfresh_116 (n_107 + 1) (barQ f Mtaped Mmany s_117.2.1 s_117.1, barB f Mtaped Mmany s_117.1 s_117.2).2 := by
            have hfr := (by assumption : s_117.1.1 = 0 → _ ∧ frA _ _ _) (by omega)
            have hc := hfr.2.1
            intro z
            have z1 : (barQ f Mtaped Mmany s_117.2.1 s_117.1).1 = 0 := z
            first | (exfalso; rw [bar_bad (by omega)] at z1; exact absurd z1 (by show ¬ (1 : Int) = 0; decide)) | (exfalso; rw [bar_many (by omega) (by omega)] at z1; exact absurd z1 (by show ¬ (3 : Int) = 0; decide)) | (refine ⟨by omega, fr_bar hfr.2 (by omega) (by omega) (by omega) z1 (by assumption) ?_⟩; rw [bar_one (by omega) (by omega)] at z1; exact (by assumption : (semQ f Mtaped (thrQ f Mtaped Mmany s_117.1).2).1 = 0 → _) z1)
          exact hj_157 (r_249, Mwrong_250, MwrongAt_251, Mtoken_111, MtokenAt_112, Mpos_113, Mvalue_114, Mthing_115, Mfresh_116) _ _ _ ⟨hv_257, hv_258, hv_259, hv_260, hv_261, hv_262, hv_263, hR_125, hv_264, hv_265, hv_266, hv_267, hw, lv_sub hl [0, 1] rfl⟩
      · skip
        refine lv_aload_n hx hb dX8_load_43 rfl (lv_at hl 0 rfl) ?_
        refine z_iconst hx hb dX8_load_44 ?_
        have hF9 := z_free (wc := kM cI cB cZ oM 0 Mmany Mguest Mrow Mbars Mbar Mfresh_116 Mtape Mtaped Mpos_113 Mtoken_111 MtokenAt_112 Mvalue_114 Mwrong_109 MwrongAt_110 MfaultKind MfaultPlace Mthing_115 Morder Mone Mtwo Mbest Mcells Mgap Mwire Mstand Mruns Mminute Mhead Mplays Mrests Mwent Mout Mcame Mgone MlastOut) hw hA [0, 1, 2, 3, 4, 5, 6, 7, 8, 9, 10, 11, 12, 13, 14, 15, 16] rfl
        refine va_calli (va_runV (As := [.int (zI 1)]) (rest := []) ⟨hx, hb, hml, hown, hts⟩ (c_X8_bad l D cI cB cZ oM H.size 0 Mmany Mguest Mrow Mbars Mbar Mfresh_116 Mtape Mtaped Mpos_113 Mtoken_111 MtokenAt_112 Mvalue_114 Mwrong_109 MwrongAt_110 MfaultKind MfaultPlace Mthing_115 Morder Mone Mtwo Mbest Mcells Mgap Mwire Mstand Mruns Mminute Mhead Mplays Mrests Mwent Mout Mcame Mgone MlastOut 1 (by omega) (by omega) qMguest qMrow (by omega) qMbar hR_125 qMtape (by omega) (by omega) (by omega) (by omega) (by omega) (by omega) (by omega) (by omega) (by omega) (by omega) qMorder (by omega) (by omega) qMbest (by omega) (by omega) qMwire qMstand (by omega) (by omega) qMhead qMplays qMrests qMwent qMout qMcame qMgone (by omega) (by omega)) (cwV 1 hts gX8_load_X8_bad rfl rfl rfl (by decide +kernel) ⟨Nat.le_of_ble_eq_true rfl, Nat.le_of_ble_eq_true rfl⟩) ⟨zPre_blind, va_recv hK hw.1 (ci := 8) (q0 := 0) rfl rfl, z_pre hK hw [0, 1, 2, 3, 4, 5, 6, 7, 8, 9, 10, 11, 12, 13, 14, 15, 16] (by decide) rfl⟩ rfl rfl hl.1 rfl (lv_room (Nat.le_of_ble_eq_true rfl)) dX8_load_45 ⟨Nat.zero_le _, Nat.zero_le _⟩) hw.2.2 (fun q _ h => hF9 q h) hF9 (fun r9 u9 t9 H_268 locs9 ht9 hvm9 hq9 hB9 hz9 hk9 hS9 => ?_)
        obtain ⟨r_269, Mwrong_270, MwrongAt_271⟩ := u9
        try dsimp only at hq9 hB9
        obtain ⟨rfl, hq9⟩ := hq9
        obtain ⟨hq_272, hq_273, hq_274, hq_275, hq_276⟩ := hq9
        have hw : HW D A s.heap (kM cI cB cZ oM 0 Mmany Mguest Mrow Mbars Mbar Mfresh_116 Mtape Mtaped Mpos_113 Mtoken_111 MtokenAt_112 Mvalue_114 Mwrong_270 MwrongAt_271 MfaultKind MfaultPlace Mthing_115 Morder Mone Mtwo Mbest Mcells Mgap Mwire Mstand Mruns Mminute Mhead Mplays Mrests Mwent Mout Mcame Mgone MlastOut) H_268 locs9 := z_after (wc := kM cI cB cZ oM 0 Mmany Mguest Mrow Mbars Mbar Mfresh_116 Mtape Mtaped Mpos_113 Mtoken_111 MtokenAt_112 Mvalue_114 Mwrong_109 MwrongAt_110 MfaultKind MfaultPlace Mthing_115 Morder Mone Mtwo Mbest Mcells Mgap Mwire Mstand Mruns Mminute Mhead Mplays Mrests Mwent Mout Mcame Mgone MlastOut) hw [0, 1, 2, 3, 4, 5, 6, 7, 8, 9, 10, 11, 12, 13, 14, 15, 16] [] rfl rfl (by decide) (by decide) hF9 hk9 ht9 hB9 hS9 [0, 1, 2, 3, 4, 5, 6, 7, 8, 9, 10, 11, 12, 13, 14, 15, 16] (by decide) rfl
        clear hF9 ht9 hvm9 hB9 hz9 hk9 hS9
        refine lv_goto (tgt := 70) hx hb dX8_load_48 (by decide) ?_
        have hv_277 : (0 : Int) ≤ Mwrong_270 ∧ Mwrong_270 ≤ 3 := by
          first | assumption | omega | grind
        have hv_278 : (0 : Int) ≤ MwrongAt_271 ∧ MwrongAt_271 ≤ 400 := by
          first | assumption | omega | grind
        have hv_279 : (0 : Int) ≤ Mtoken_111 ∧ Mtoken_111 ≤ 15 := by
          first | assumption | omega | grind
        have hv_280 : (0 : Int) ≤ MtokenAt_112 ∧ MtokenAt_112 ≤ 400 := by
          first | assumption | omega | grind
        have hv_281 : (0 : Int) ≤ Mpos_113 ∧ Mpos_113 ≤ 400 := by
          first | assumption | omega | grind
        have hv_282 : (0 : Int) ≤ Mvalue_114 ∧ Mvalue_114 ≤ 99 := by
          first | assumption | omega | grind
        have hv_283 : (0 : Int) ≤ Mthing_115 ∧ Mthing_115 ≤ 104 := by
          first | assumption | omega | grind
        have hv_284 : qM (barQ f Mtaped Mmany s_117.2.1 s_117.1, barB f Mtaped Mmany s_117.1 s_117.2).1 Mwrong_270 MwrongAt_271 Mtoken_111 MtokenAt_112 Mpos_113 Mvalue_114 := by
          first | (show qM (barQ f Mtaped Mmany s_117.2.1 s_117.1) _ _ _ _ _ _; rw [bar_bad (by omega)]; subst_vars; exact ref_m (by assumption)) | (have hfr := (by assumption : s_117.1.1 = 0 → _ ∧ frA _ _ _) (by omega); have hc := hfr.2.1; show qM (barQ f Mtaped Mmany s_117.2.1 s_117.1) _ _ _ _ _ _; rw [bar_many (by omega) (by omega)]; subst_vars; exact ref_m (by assumption)) | (have hfr := (by assumption : s_117.1.1 = 0 → _ ∧ frA _ _ _) (by omega); have hc := hfr.2.1; show qM (barQ f Mtaped Mmany s_117.2.1 s_117.1) _ _ _ _ _ _; rw [bar_one (by omega) (by omega)]; assumption)
        have hv_285 : Mpos_113 ≤ Mtaped := by
          first | assumption | omega | grind
        have hv_286 : (r_269 = 1 ∧ (barQ f Mtaped Mmany s_117.2.1 s_117.1, barB f Mtaped Mmany s_117.1 s_117.2).1.1 = 0) ∨ (r_269 = 0 ∧ ¬ (barQ f Mtaped Mmany s_117.2.1 s_117.1, barB f Mtaped Mmany s_117.1 s_117.2).1.1 = 0) := by
          first | (refine Or.inr ⟨by omega, ?_⟩; show ¬ (barQ f Mtaped Mmany s_117.2.1 s_117.1).1 = 0; rw [bar_bad (by omega)]; show ¬ (1 : Int) = 0; decide) | (have hfr := (by assumption : s_117.1.1 = 0 → _ ∧ frA _ _ _) (by omega); have hc := hfr.2.1; refine Or.inr ⟨by omega, ?_⟩; show ¬ (barQ f Mtaped Mmany s_117.2.1 s_117.1).1 = 0; rw [bar_many (by omega) (by omega)]; show ¬ (3 : Int) = 0; decide) | (have hfr := (by assumption : s_117.1.1 = 0 → _ ∧ frA _ _ _) (by omega); have hc := hfr.2.1; show (_ ∧ (barQ f Mtaped Mmany s_117.2.1 s_117.1).1 = 0) ∨ (_ ∧ ¬ (barQ f Mtaped Mmany s_117.2.1 s_117.1).1 = 0); rw [bar_one (by omega) (by omega)]; first | exact Or.inl ⟨rfl, by assumption⟩ | exact Or.inr ⟨rfl, by assumption⟩)
        have hv_287 : (barQ f Mtaped Mmany s_117.2.1 s_117.1, barB f Mtaped Mmany s_117.1 s_117.2).1.1 = 0 → n_107 < 10 ∧ frA Mfresh_116 (n_107 + 1) (barQ f Mtaped Mmany s_117.2.1 s_117.1, barB f Mtaped Mmany s_117.1 s_117.2).2 := by
          have hfr := (by assumption : s_117.1.1 = 0 → _ ∧ frA _ _ _) (by omega)
          have hc := hfr.2.1
          intro z
          have z1 : (barQ f Mtaped Mmany s_117.2.1 s_117.1).1 = 0 := z
          first | (exfalso; rw [bar_bad (by omega)] at z1; exact absurd z1 (by show ¬ (1 : Int) = 0; decide)) | (exfalso; rw [bar_many (by omega) (by omega)] at z1; exact absurd z1 (by show ¬ (3 : Int) = 0; decide)) | (refine ⟨by omega, fr_bar hfr.2 (by omega) (by omega) (by omega) z1 (by assumption) ?_⟩; rw [bar_one (by omega) (by omega)] at z1; exact (by assumption : (semQ f Mtaped (thrQ f Mtaped Mmany s_117.1).2).1 = 0 → _) z1)
        exact hj_157 (r_269, Mwrong_270, MwrongAt_271, Mtoken_111, MtokenAt_112, Mpos_113, Mvalue_114, Mthing_115, Mfresh_116) _ _ _ ⟨hv_277, hv_278, hv_279, hv_280, hv_281, hv_282, hv_283, hR_125, hv_284, hv_285, hv_286, hv_287, hw, lv_sub hl [0, 1] rfl⟩
