set_option maxRecDepth 100000 in
set_option maxHeartbeats 4000000 in
theorem c_X8_aBar (l : Launch) (D : va_G) (cI cB cZ : ClassId) (oM : Nat → Nat) (sz : Nat) (Mthrown : Int) (Mmany : Int) (Mguest : Int → Int) (Mrow : Int → Int) (Mbars : Int) (Mbar : Int → Int) (Mfresh : Int → Int) (Mtape : Int → Int) (Mtaped : Int) (Mpos : Int) (Mtoken : Int) (MtokenAt : Int) (Mvalue : Int) (Mwrong : Int) (MwrongAt : Int) (MfaultKind : Int) (MfaultPlace : Int) (Mthing : Int) (Morder : Int → Int) (Mone : Int) (Mtwo : Int) (Mbest : Int → Int) (Mcells : Int) (Mgap : Int) (Mwire : Int → Int) (Mstand : Int → Int) (Mruns : Int) (Mminute : Int) (Mhead : Int → Int) (Mplays : Int → Int) (Mrests : Int → Int) (Mwent : Int → Int) (Mout : Int → Int) (Mcame : Int → Int) (Mgone : Int → Int) (MlastOut : Int) (k : Int) (f : Int → Int) (q : QS) (qMthrown : 0 ≤ Mthrown ∧ Mthrown ≤ 2) (qMmany : 0 ≤ Mmany ∧ Mmany ≤ 8) (qMguest : RA Mguest (0) 9) (qMrow : RA Mrow (0) 7) (qMbars : 0 ≤ Mbars ∧ Mbars ≤ 10) (qMbar : RA Mbar (0) 104) (qMfresh : RA Mfresh (0) 104) (qMtape : RA Mtape (0) 255) (qMtaped : 0 ≤ Mtaped ∧ Mtaped ≤ 400) (qMpos : 0 ≤ Mpos ∧ Mpos ≤ 400) (qMtoken : 0 ≤ Mtoken ∧ Mtoken ≤ 15) (qMtokenAt : 0 ≤ MtokenAt ∧ MtokenAt ≤ 400) (qMvalue : 0 ≤ Mvalue ∧ Mvalue ≤ 99) (qMwrong : 0 ≤ Mwrong ∧ Mwrong ≤ 3) (qMwrongAt : 0 ≤ MwrongAt ∧ MwrongAt ≤ 400) (qMfaultKind : 0 ≤ MfaultKind ∧ MfaultKind ≤ 3) (qMfaultPlace : -1 ≤ MfaultPlace ∧ MfaultPlace ≤ 400) (qMthing : 0 ≤ Mthing ∧ Mthing ≤ 104) (qMorder : RA Morder (0) 7) (qMone : 0 ≤ Mone ∧ Mone ≤ 8) (qMtwo : 0 ≤ Mtwo ∧ Mtwo ≤ 8) (qMbest : RA Mbest (0) 7) (qMcells : 1 ≤ Mcells ∧ Mcells ≤ 50) (qMgap : 0 ≤ Mgap ∧ Mgap ≤ 3) (qMwire : RA Mwire (0) 9) (qMstand : RA Mstand (0) 9) (qMruns : 0 ≤ Mruns ∧ Mruns ≤ 1) (qMminute : 0 ≤ Mminute ∧ Mminute ≤ 1000000) (qMhead : RA Mhead (-1) 60) (qMplays : RA Mplays (0) 18) (qMrests : RA Mrests (0) 3) (qMwent : RA Mwent (0) 61) (qMout : RA Mout (0) 1) (qMcame : RA Mcame (-1) 1000000) (qMgone : RA Mgone (-1) 1000000) (qMlastOut : 0 ≤ MlastOut ∧ MlastOut ≤ 1000000) (qk : 0 ≤ k ∧ k ≤ 9) (hp0 : tpR Mtaped f Mtape) (hp1 : qM q Mwrong MwrongAt Mtoken MtokenAt Mpos Mvalue) (hp2 : Mpos ≤ Mtaped) (hp3 : okQ Mtaped q) (hp4 : q.1 = 0) (hp5 : 1 ≤ q.2.2.1 ∧ q.2.2.1 ≤ 5) : Met l yX8_aBar wsX8_aBar ({ frames := 5, cells := 0, slots := 0, locals := 108 }) (va_Pc [.ref (oM 0), .int (zI k)] (zPre D cI cB cZ sz (kM cI cB cZ oM Mthrown Mmany Mguest Mrow Mbars Mbar Mfresh Mtape Mtaped Mpos Mtoken MtokenAt Mvalue Mwrong MwrongAt MfaultKind MfaultPlace Mthing Morder Mone Mtwo Mbest Mcells Mgap Mwire Mstand Mruns Mminute Mhead Mplays Mrests Mwent Mout Mcame Mgone MlastOut))) (va_Qi (fun (r9 : Int32) (u9 : Int × (Int → Int) × Int × Int × Int × Int × Int × Int × Int) => r9 = zI u9.1 ∧ ((RA u9.2.1 (0) 104) ∧ ((0 : Int) ≤ u9.2.2.1 ∧ u9.2.2.1 ≤ 400) ∧ ((0 : Int) ≤ u9.2.2.2.1 ∧ u9.2.2.2.1 ≤ 15) ∧ ((0 : Int) ≤ u9.2.2.2.2.1 ∧ u9.2.2.2.2.1 ≤ 400) ∧ ((0 : Int) ≤ u9.2.2.2.2.2.1 ∧ u9.2.2.2.2.2.1 ≤ 99) ∧ ((0 : Int) ≤ u9.2.2.2.2.2.2.1 ∧ u9.2.2.2.2.2.2.1 ≤ 3) ∧ ((0 : Int) ≤ u9.2.2.2.2.2.2.2.1 ∧ u9.2.2.2.2.2.2.2.1 ≤ 400) ∧ ((0 : Int) ≤ u9.2.2.2.2.2.2.2.2 ∧ u9.2.2.2.2.2.2.2.2 ≤ 104) ∧ (((semQ f Mtaped (thrQ f Mtaped Mmany q).2).1 = 0 ∧ u9.1 = 1) ∨ (¬ (semQ f Mtaped (thrQ f Mtaped Mmany q).2).1 = 0 ∧ u9.1 = 0)) ∧ (qM (semQ f Mtaped (thrQ f Mtaped Mmany q).2) u9.2.2.2.2.2.2.1 u9.2.2.2.2.2.2.2.1 u9.2.2.2.1 u9.2.2.2.2.1 u9.2.2.1 u9.2.2.2.2.2.1) ∧ (u9.2.2.1 ≤ Mtaped) ∧ ((semQ f Mtaped (thrQ f Mtaped Mmany q).2).1 = 0 → frR u9.2.1 k q.2.2.1 (oneQ f Mtaped Mmany q).1 (twoQ f Mtaped Mmany q).1 (thrQ f Mtaped Mmany q).1) ∧ (∀ j, 0 ≤ j → j < 4 * k → u9.2.1 j = Mfresh j))) (fun u9 t9 => zAt D cI cB cZ (va_A (kM cI cB cZ oM Mthrown Mmany Mguest Mrow Mbars Mbar Mfresh Mtape Mtaped Mpos Mtoken MtokenAt Mvalue Mwrong MwrongAt MfaultKind MfaultPlace Mthing Morder Mone Mtwo Mbest Mcells Mgap Mwire Mstand Mruns Mminute Mhead Mplays Mrests Mwent Mout Mcame Mgone MlastOut) sz) (kM cI cB cZ oM Mthrown Mmany Mguest Mrow Mbars Mbar (u9.2.1) Mtape Mtaped (u9.2.2.1) (u9.2.2.2.1) (u9.2.2.2.2.1) (u9.2.2.2.2.2.1) (u9.2.2.2.2.2.2.1) (u9.2.2.2.2.2.2.2.1) MfaultKind MfaultPlace (u9.2.2.2.2.2.2.2.2) Morder Mone Mtwo Mbest Mcells Mgap Mwire Mstand Mruns Mminute Mhead Mplays Mrests Mwent Mout Mcame Mgone MlastOut) t9) (va_A (kM cI cB cZ oM Mthrown Mmany Mguest Mrow Mbars Mbar Mfresh Mtape Mtaped Mpos Mtoken MtokenAt Mvalue Mwrong MwrongAt MfaultKind MfaultPlace Mthing Morder Mone Mtwo Mbest Mcells Mgap Mwire Mstand Mruns Mminute Mhead Mplays Mrests Mwent Mout Mcame Mgone MlastOut) sz)) 0 0 (va_A (kM cI cB cZ oM Mthrown Mmany Mguest Mrow Mbars Mbar Mfresh Mtape Mtaped Mpos Mtoken MtokenAt Mvalue Mwrong MwrongAt MfaultKind MfaultPlace Mthing Morder Mone Mtwo Mbest Mcells Mgap Mwire Mstand Mruns Mminute Mhead Mplays Mrests Mwent Mout Mcame Mgone MlastOut) sz) := by
  refine Met.ofW (cc := cX8_aBar) (maxL := 3) (ret := (some .boolean)) (by decide) rfl ?_
  intro pp ee s mm aa bw mt cd s₁ BL hml hv
  obtain ⟨rfl, hsz, hP, hK, hD0⟩ := hv
  have hx := BL.exec
  have hb := BL.bytes
  have hr := BL.returns
  have hts := atoms_spec (ws := wsX8_aBar) BL.pre
  have hown : s.vm.findClass RX8 = some mm.cls := findClass_of_methodNamed BL.named
  have hlocks := BL.notSynchronized
  subst hsz
  generalize hAe : va_A (kM cI cB cZ oM Mthrown Mmany Mguest Mrow Mbars Mbar Mfresh Mtape Mtaped Mpos Mtoken MtokenAt Mvalue Mwrong MwrongAt MfaultKind MfaultPlace Mthing Morder Mone Mtwo Mbest Mcells Mgap Mwire Mstand Mruns Mminute Mhead Mplays Mrests Mwent Mout Mcame Mgone MlastOut) s.heap.size = A
  have hA : ∀ q : Nat, s.heap.size ≤ q → A q := fun q h => by rw [← hAe]; exact Or.inr h
  have hw : HW D A s.heap (kM cI cB cZ oM Mthrown Mmany Mguest Mrow Mbars Mbar Mfresh Mtape Mtaped Mpos Mtoken MtokenAt Mvalue Mwrong MwrongAt MfaultKind MfaultPlace Mthing Morder Mone Mtwo Mbest Mcells Mgap Mwire Mstand Mruns Mminute Mhead Mplays Mrests Mwent Mout Mcame Mgone MlastOut) s.heap [] := z_start hAe hP hD0
  clear hP hD0
  have hl := lv_entry ([.ref (oM 0), .int (zI k)]) (n := 3) (Nat.le_of_ble_eq_true rfl)
  rw [lg_entry_eq]
  generalize (lg_sl ([.ref (oM 0), .int (zI k)]) ++ List.replicate (3 - (lg_sl ([.ref (oM 0), .int (zI k)])).length) Slot.unset).toArray = ls at hl ⊢
  have hl : lv_has ls 3 [(0, .ref (oM 0)), (1, .int (zI k))] := hl
  have hinX8 : ∀ w ∈ wsX80, w ∈ wsX8_aBar := by decide +kernel
  have hq0 := hp1
  unfold qM at hq0
  obtain ⟨e1, e2, e3, e4, e5, e6⟩ := hq0
  have tk := tk_r hp3.1
  refine lv_aload_n hx hb dX8_aBar_0 rfl (lv_at hl 0 rfl) ?_
  refine va_get (D := D) (ci := 8) (v := .int (zI Mtoken)) (C := RX8) (T := TX8) (N := 36) hx hb hts hinX8 hown hK hw.1 0 rfl rfl 10 (by decide) (hts (.fieldLink RX8 120 "CarnivalRoadModel" "token" "I") (by decide +kernel)) (fun _ h9 => h9) rfl dX8_aBar_1 ?_
  refine z_bipush hx hb dX8_aBar_4 (by decide) ?_
  refine z_isub hx hb dX8_aBar_6 ?_
  refine lv_istore_n (lv' := [(2, .int (zI (Mtoken - 10))), (0, .ref (oM 0)), (1, .int (zI k))]) hx hb dX8_aBar_7 rfl hl (by decide) rfl (fun ls hl => ?_)
  refine lv_aload_n hx hb dX8_aBar_8 rfl (lv_at hl 1 rfl) ?_
  have hpre_1 : tpR Mtaped f Mtape := by
    first | assumption | omega
  have hpre_2 : qM q Mwrong MwrongAt Mtoken MtokenAt Mpos Mvalue := by
    first | assumption | omega
  have hpre_3 : Mpos ≤ Mtaped := by
    first | assumption | omega
  have hF9 := z_free (wc := kM cI cB cZ oM Mthrown Mmany Mguest Mrow Mbars Mbar Mfresh Mtape Mtaped Mpos Mtoken MtokenAt Mvalue Mwrong MwrongAt MfaultKind MfaultPlace Mthing Morder Mone Mtwo Mbest Mcells Mgap Mwire Mstand Mruns Mminute Mhead Mplays Mrests Mwent Mout Mcame Mgone MlastOut) hw hA [0, 1, 2, 3, 4, 5, 6, 7, 8, 9, 10, 11, 12, 13, 14, 15, 16] rfl
  refine va_callv (va_runV (As := []) (rest := []) ⟨hx, hb, hml, hown, hts⟩ (c_X8_look0 l D cI cB cZ oM s.heap.size Mthrown Mmany Mguest Mrow Mbars Mbar Mfresh Mtape Mtaped Mpos Mtoken MtokenAt Mvalue Mwrong MwrongAt MfaultKind MfaultPlace Mthing Morder Mone Mtwo Mbest Mcells Mgap Mwire Mstand Mruns Mminute Mhead Mplays Mrests Mwent Mout Mcame Mgone MlastOut f q (by omega) (by omega) qMguest qMrow (by omega) qMbar qMfresh qMtape (by omega) (by omega) (by omega) (by omega) (by omega) (by omega) (by omega) (by omega) (by omega) (by omega) qMorder (by omega) (by omega) qMbest (by omega) (by omega) qMwire qMstand (by omega) (by omega) qMhead qMplays qMrests qMwent qMout qMcame qMgone (by omega) hpre_1 hpre_2 hpre_3) (cwV 0 hts gX8_aBar_X8_look0 rfl rfl rfl (by decide +kernel) ⟨Nat.le_of_ble_eq_true rfl, Nat.le_of_ble_eq_true rfl⟩) ⟨zPre_blind, va_recv hK hw.1 (ci := 8) (q0 := 0) rfl rfl, z_pre hK hw [0, 1, 2, 3, 4, 5, 6, 7, 8, 9, 10, 11, 12, 13, 14, 15, 16] (by decide) rfl⟩ rfl rfl hl.1 rfl (lv_room (Nat.le_of_ble_eq_true rfl)) dX8_aBar_9 ⟨Nat.zero_le _, Nat.zero_le _⟩) hw.2.2 (fun q _ h => hF9 q h) hF9 (fun u9 t9 H_4 locs9 ht9 hvm9 hq9 hB9 hz9 hk9 hS9 => ?_)
  obtain ⟨Mpos_5, Mtoken_6, MtokenAt_7, Mvalue_8⟩ := u9
  try dsimp only at hq9 hB9
  obtain ⟨hq_9, hq_10, hq_11, hq_12, hq_13, hq_14⟩ := hq9
  have hw : HW D A s.heap (kM cI cB cZ oM Mthrown Mmany Mguest Mrow Mbars Mbar Mfresh Mtape Mtaped Mpos_5 Mtoken_6 MtokenAt_7 Mvalue_8 Mwrong MwrongAt MfaultKind MfaultPlace Mthing Morder Mone Mtwo Mbest Mcells Mgap Mwire Mstand Mruns Mminute Mhead Mplays Mrests Mwent Mout Mcame Mgone MlastOut) H_4 locs9 := z_after (wc := kM cI cB cZ oM Mthrown Mmany Mguest Mrow Mbars Mbar Mfresh Mtape Mtaped Mpos Mtoken MtokenAt Mvalue Mwrong MwrongAt MfaultKind MfaultPlace Mthing Morder Mone Mtwo Mbest Mcells Mgap Mwire Mstand Mruns Mminute Mhead Mplays Mrests Mwent Mout Mcame Mgone MlastOut) hw [0, 1, 2, 3, 4, 5, 6, 7, 8, 9, 10, 11, 12, 13, 14, 15, 16] [] rfl rfl (by decide) (by decide) hF9 hk9 ht9 hB9 hS9 [0, 1, 2, 3, 4, 5, 6, 7, 8, 9, 10, 11, 12, 13, 14, 15, 16] (by decide) rfl
  clear hF9 ht9 hvm9 hB9 hz9 hk9 hS9
  refine z_cut (σ := Int × Int × Int × Int × Int × Int × Int × (Int → Int)) 137 (I := fun x9 H locs ls => ((0 : Int) ≤ (x9.1) ∧ (x9.1) ≤ 3) ∧ ((0 : Int) ≤ (x9.2.1) ∧ (x9.2.1) ≤ 400) ∧ ((0 : Int) ≤ (x9.2.2.1) ∧ (x9.2.2.1) ≤ 15) ∧ ((0 : Int) ≤ (x9.2.2.2.1) ∧ (x9.2.2.2.1) ≤ 400) ∧ ((0 : Int) ≤ (x9.2.2.2.2.1) ∧ (x9.2.2.2.2.1) ≤ 400) ∧ ((0 : Int) ≤ (x9.2.2.2.2.2.1) ∧ (x9.2.2.2.2.2.1) ≤ 99) ∧ ((0 : Int) ≤ (x9.2.2.2.2.2.2.1) ∧ (x9.2.2.2.2.2.2.1) ≤ 104) ∧ (RA (x9.2.2.2.2.2.2.2) (0) 104) ∧ (qM (thrQ f Mtaped Mmany q).2 (x9.1) (x9.2.1) (x9.2.2.1) (x9.2.2.2.1) (x9.2.2.2.2.1) (x9.2.2.2.2.2.1)) ∧ ((thrQ f Mtaped Mmany q).2.1 = 0) ∧ ((x9.2.2.2.2.1) ≤ Mtaped) ∧ (frR (x9.2.2.2.2.2.2.2) k q.2.2.1 (oneQ f Mtaped Mmany q).1 (twoQ f Mtaped Mmany q).1 (thrQ f Mtaped Mmany q).1) ∧ (∀ j, 0 ≤ j → j < 4 * k → (x9.2.2.2.2.2.2.2) j = Mfresh j) ∧ HW D A s.heap (kM cI cB cZ oM Mthrown Mmany Mguest Mrow Mbars Mbar (x9.2.2.2.2.2.2.2) Mtape Mtaped (x9.2.2.2.2.1) (x9.2.2.1) (x9.2.2.2.1) (x9.2.2.2.2.2.1) (x9.1) (x9.2.1) MfaultKind MfaultPlace (x9.2.2.2.2.2.2.1) Morder Mone Mtwo Mbest Mcells Mgap Mwire Mstand Mruns Mminute Mhead Mplays Mrests Mwent Mout Mcame Mgone MlastOut) H locs ∧ lv_has ls 3 [(0, .ref (oM 0))]) (st := fun x9 => []) ?_ (fun hj_15 => ?_)
  · clear hw hl
    intro x9 H locs ls hI
    obtain ⟨Mwrong_16, MwrongAt_17, Mtoken_18, MtokenAt_19, Mpos_20, Mvalue_21, Mthing_22, Mfresh_23⟩ := x9
    try dsimp only at hI ⊢
    obtain ⟨hq_24, hq_25, hq_26, hq_27, hq_28, hq_29, hq_30, hR_31, hI_32, hI_33, hI_34, hI_35, hI_36, hw, hl⟩ := hI
    have tk2 := tk_r (ok_thr (f := f) (n := Mmany) hp3).1
    have tk3 := (by assumption : qM (thrQ f Mtaped Mmany q).2 Mwrong_16 MwrongAt_17 Mtoken_18 MtokenAt_19 Mpos_20 Mvalue_21)
    unfold qM at tk3
    refine lv_aload_n hx hb dX8_aBar_137 rfl (lv_at hl 0 rfl) ?_
    refine va_get (D := D) (ci := 8) (v := .int (zI Mtoken_18)) (C := RX8) (T := TX8) (N := 36) hx hb hts hinX8 hown hK hw.1 0 rfl rfl 10 (by decide) (hts (.fieldLink RX8 120 "CarnivalRoadModel" "token" "I") (by decide +kernel)) (fun _ h9 => h9) rfl dX8_aBar_138 ?_
    refine z_iconst hx hb dX8_aBar_141 ?_
    refine z_icmp_eq (tgt := 151) hx hb dX8_aBar_142 (by decide) (by omega) (fun hc_37 => ?_) (fun hc_37 => ?_)
    · skip
      refine lv_aload_n hx hb dX8_aBar_151 rfl (lv_at hl 0 rfl) ?_
      have hpre_38 : tpR Mtaped f Mtape := by
        first | assumption | omega
      have hpre_39 : qM ((thrQ f Mtaped Mmany q).2) Mwrong_16 MwrongAt_17 Mtoken_18 MtokenAt_19 Mpos_20 Mvalue_21 := by
        first | assumption | omega
      have hpre_40 : Mpos_20 ≤ Mtaped := by
        first | assumption | omega
      have hF9 := z_free (wc := kM cI cB cZ oM Mthrown Mmany Mguest Mrow Mbars Mbar Mfresh_23 Mtape Mtaped Mpos_20 Mtoken_18 MtokenAt_19 Mvalue_21 Mwrong_16 MwrongAt_17 MfaultKind MfaultPlace Mthing_22 Morder Mone Mtwo Mbest Mcells Mgap Mwire Mstand Mruns Mminute Mhead Mplays Mrests Mwent Mout Mcame Mgone MlastOut) hw hA [0, 1, 2, 3, 4, 5, 6, 7, 8, 9, 10, 11, 12, 13, 14, 15, 16] rfl
      refine va_callv (va_runV (As := []) (rest := []) ⟨hx, hb, hml, hown, hts⟩ (c_X8_look0 l D cI cB cZ oM H.size Mthrown Mmany Mguest Mrow Mbars Mbar Mfresh_23 Mtape Mtaped Mpos_20 Mtoken_18 MtokenAt_19 Mvalue_21 Mwrong_16 MwrongAt_17 MfaultKind MfaultPlace Mthing_22 Morder Mone Mtwo Mbest Mcells Mgap Mwire Mstand Mruns Mminute Mhead Mplays Mrests Mwent Mout Mcame Mgone MlastOut f ((thrQ f Mtaped Mmany q).2) (by omega) (by omega) qMguest qMrow (by omega) qMbar hR_31 qMtape (by omega) (by omega) (by omega) (by omega) (by omega) (by omega) (by omega) (by omega) (by omega) (by omega) qMorder (by omega) (by omega) qMbest (by omega) (by omega) qMwire qMstand (by omega) (by omega) qMhead qMplays qMrests qMwent qMout qMcame qMgone (by omega) hpre_38 hpre_39 hpre_40) (cwV 0 hts gX8_aBar_X8_look0 rfl rfl rfl (by decide +kernel) ⟨Nat.le_of_ble_eq_true rfl, Nat.le_of_ble_eq_true rfl⟩) ⟨zPre_blind, va_recv hK hw.1 (ci := 8) (q0 := 0) rfl rfl, z_pre hK hw [0, 1, 2, 3, 4, 5, 6, 7, 8, 9, 10, 11, 12, 13, 14, 15, 16] (by decide) rfl⟩ rfl rfl hl.1 rfl (lv_room (Nat.le_of_ble_eq_true rfl)) dX8_aBar_152 ⟨Nat.zero_le _, Nat.zero_le _⟩) hw.2.2 (fun q _ h => hF9 q h) hF9 (fun u9 t9 H_41 locs9 ht9 hvm9 hq9 hB9 hz9 hk9 hS9 => ?_)
      obtain ⟨Mpos_42, Mtoken_43, MtokenAt_44, Mvalue_45⟩ := u9
      try dsimp only at hq9 hB9
      obtain ⟨hq_46, hq_47, hq_48, hq_49, hq_50, hq_51⟩ := hq9
      have hw : HW D A s.heap (kM cI cB cZ oM Mthrown Mmany Mguest Mrow Mbars Mbar Mfresh_23 Mtape Mtaped Mpos_42 Mtoken_43 MtokenAt_44 Mvalue_45 Mwrong_16 MwrongAt_17 MfaultKind MfaultPlace Mthing_22 Morder Mone Mtwo Mbest Mcells Mgap Mwire Mstand Mruns Mminute Mhead Mplays Mrests Mwent Mout Mcame Mgone MlastOut) H_41 locs9 := z_after (wc := kM cI cB cZ oM Mthrown Mmany Mguest Mrow Mbars Mbar Mfresh_23 Mtape Mtaped Mpos_20 Mtoken_18 MtokenAt_19 Mvalue_21 Mwrong_16 MwrongAt_17 MfaultKind MfaultPlace Mthing_22 Morder Mone Mtwo Mbest Mcells Mgap Mwire Mstand Mruns Mminute Mhead Mplays Mrests Mwent Mout Mcame Mgone MlastOut) hw [0, 1, 2, 3, 4, 5, 6, 7, 8, 9, 10, 11, 12, 13, 14, 15, 16] [] rfl rfl (by decide) (by decide) hF9 hk9 ht9 hB9 hS9 [0, 1, 2, 3, 4, 5, 6, 7, 8, 9, 10, 11, 12, 13, 14, 15, 16] (by decide) rfl
      clear hF9 ht9 hvm9 hB9 hz9 hk9 hS9
      refine z_iconst hx hb dX8_aBar_155 ?_
      have hv_52 : (0 : Int) ≤ Mpos_42 ∧ Mpos_42 ≤ 400 := by
        first | assumption | omega | grind
      have hv_53 : (0 : Int) ≤ Mtoken_43 ∧ Mtoken_43 ≤ 15 := by
        first | assumption | omega | grind
      have hv_54 : (0 : Int) ≤ MtokenAt_44 ∧ MtokenAt_44 ≤ 400 := by
        first | assumption | omega | grind
      have hv_55 : (0 : Int) ≤ Mvalue_45 ∧ Mvalue_45 ≤ 99 := by
        first | assumption | omega | grind
      have hv_56 : (0 : Int) ≤ Mwrong_16 ∧ Mwrong_16 ≤ 3 := by
        first | assumption | omega | grind
      have hv_57 : (0 : Int) ≤ MwrongAt_17 ∧ MwrongAt_17 ≤ 400 := by
        first | assumption | omega | grind
      have hv_58 : (0 : Int) ≤ Mthing_22 ∧ Mthing_22 ≤ 104 := by
        first | assumption | omega | grind
      have hv_59 : ((semQ f Mtaped (thrQ f Mtaped Mmany q).2).1 = 0 ∧ (1 : Int) = 1) ∨ (¬ (semQ f Mtaped (thrQ f Mtaped Mmany q).2).1 = 0 ∧ (1 : Int) = 0) := by
        rw [sem_y (by assumption) (by omega)]; exact Or.inl ⟨by assumption, rfl⟩
      have hv_60 : qM (semQ f Mtaped (thrQ f Mtaped Mmany q).2) Mwrong_16 MwrongAt_17 Mtoken_43 MtokenAt_44 Mpos_42 Mvalue_45 := by
        rw [sem_y (by assumption) (by omega)]; assumption
      have hv_61 : Mpos_42 ≤ Mtaped := by
        first | assumption | omega | grind
      have hv_62 : (semQ f Mtaped (thrQ f Mtaped Mmany q).2).1 = 0 → frR Mfresh_23 k q.2.2.1 (oneQ f Mtaped Mmany q).1 (twoQ f Mtaped Mmany q).1 (thrQ f Mtaped Mmany q).1 := by
        intro _; assumption
      have hv_63 : ∀ j, 0 ≤ j → j < 4 * k → Mfresh_23 j = Mfresh j := by
        assumption
      exact W.zret (v := zI 1) hx hb hr rfl (fun t9 ht hW => ⟨⟨zI 1, (1, Mfresh_23, Mpos_42, Mtoken_43, MtokenAt_44, Mvalue_45, Mwrong_16, MwrongAt_17, Mthing_22), rfl, ⟨rfl, ⟨hR_31, hv_52, hv_53, hv_54, hv_55, hv_56, hv_57, hv_58, hv_59, hv_60, hv_61, hv_62, hv_63⟩⟩, by subst hAe; exact z_end hK hw ht hW⟩, by subst hAe; exact hw.2.2.F ht⟩) (by subst hAe; exact hw.2.2.2.2) dX8_aBar_156
    · skip
      refine lv_aload_n hx hb dX8_aBar_145 rfl (lv_at hl 0 rfl) ?_
      refine z_iconst hx hb dX8_aBar_146 ?_
      have hF9 := z_free (wc := kM cI cB cZ oM Mthrown Mmany Mguest Mrow Mbars Mbar Mfresh_23 Mtape Mtaped Mpos_20 Mtoken_18 MtokenAt_19 Mvalue_21 Mwrong_16 MwrongAt_17 MfaultKind MfaultPlace Mthing_22 Morder Mone Mtwo Mbest Mcells Mgap Mwire Mstand Mruns Mminute Mhead Mplays Mrests Mwent Mout Mcame Mgone MlastOut) hw hA [0, 1, 2, 3, 4, 5, 6, 7, 8, 9, 10, 11, 12, 13, 14, 15, 16] rfl
      refine va_calli (va_runV (As := [.int (zI 1)]) (rest := []) ⟨hx, hb, hml, hown, hts⟩ (c_X8_bad l D cI cB cZ oM H.size Mthrown Mmany Mguest Mrow Mbars Mbar Mfresh_23 Mtape Mtaped Mpos_20 Mtoken_18 MtokenAt_19 Mvalue_21 Mwrong_16 MwrongAt_17 MfaultKind MfaultPlace Mthing_22 Morder Mone Mtwo Mbest Mcells Mgap Mwire Mstand Mruns Mminute Mhead Mplays Mrests Mwent Mout Mcame Mgone MlastOut 1 (by omega) (by omega) qMguest qMrow (by omega) qMbar hR_31 qMtape (by omega) (by omega) (by omega) (by omega) (by omega) (by omega) (by omega) (by omega) (by omega) (by omega) qMorder (by omega) (by omega) qMbest (by omega) (by omega) qMwire qMstand (by omega) (by omega) qMhead qMplays qMrests qMwent qMout qMcame qMgone (by omega) (by omega)) (cwV 1 hts gX8_aBar_X8_bad rfl rfl rfl (by decide +kernel) ⟨Nat.le_of_ble_eq_true rfl, Nat.le_of_ble_eq_true rfl⟩) ⟨zPre_blind, va_recv hK hw.1 (ci := 8) (q0 := 0) rfl rfl, z_pre hK hw [0, 1, 2, 3, 4, 5, 6, 7, 8, 9, 10, 11, 12, 13, 14, 15, 16] (by decide) rfl⟩ rfl rfl hl.1 rfl (lv_room (Nat.le_of_ble_eq_true rfl)) dX8_aBar_147 ⟨Nat.zero_le _, Nat.zero_le _⟩) hw.2.2 (fun q _ h => hF9 q h) hF9 (fun r9 u9 t9 H_64 locs9 ht9 hvm9 hq9 hB9 hz9 hk9 hS9 => ?_)
      obtain ⟨r_65, Mwrong_66, MwrongAt_67⟩ := u9
      try dsimp only at hq9 hB9
      obtain ⟨rfl, hq9⟩ := hq9
      obtain ⟨hq_68, hq_69, hq_70, hq_71, hq_72⟩ := hq9
      have hw : HW D A s.heap (kM cI cB cZ oM Mthrown Mmany Mguest Mrow Mbars Mbar Mfresh_23 Mtape Mtaped Mpos_20 Mtoken_18 MtokenAt_19 Mvalue_21 Mwrong_66 MwrongAt_67 MfaultKind MfaultPlace Mthing_22 Morder Mone Mtwo Mbest Mcells Mgap Mwire Mstand Mruns Mminute Mhead Mplays Mrests Mwent Mout Mcame Mgone MlastOut) H_64 locs9 := z_after (wc := kM cI cB cZ oM Mthrown Mmany Mguest Mrow Mbars Mbar Mfresh_23 Mtape Mtaped Mpos_20 Mtoken_18 MtokenAt_19 Mvalue_21 Mwrong_16 MwrongAt_17 MfaultKind MfaultPlace Mthing_22 Morder Mone Mtwo Mbest Mcells Mgap Mwire Mstand Mruns Mminute Mhead Mplays Mrests Mwent Mout Mcame Mgone MlastOut) hw [0, 1, 2, 3, 4, 5, 6, 7, 8, 9, 10, 11, 12, 13, 14, 15, 16] [] rfl rfl (by decide) (by decide) hF9 hk9 ht9 hB9 hS9 [0, 1, 2, 3, 4, 5, 6, 7, 8, 9, 10, 11, 12, 13, 14, 15, 16] (by decide) rfl
      clear hF9 ht9 hvm9 hB9 hz9 hk9 hS9
      have hv_73 : (0 : Int) ≤ Mpos_20 ∧ Mpos_20 ≤ 400 := by
        first | assumption | omega | grind
      have hv_74 : (0 : Int) ≤ Mtoken_18 ∧ Mtoken_18 ≤ 15 := by
        first | assumption | omega | grind
      have hv_75 : (0 : Int) ≤ MtokenAt_19 ∧ MtokenAt_19 ≤ 400 := by
        first | assumption | omega | grind
      have hv_76 : (0 : Int) ≤ Mvalue_21 ∧ Mvalue_21 ≤ 99 := by
        first | assumption | omega | grind
      have hv_77 : (0 : Int) ≤ Mwrong_66 ∧ Mwrong_66 ≤ 3 := by
        first | assumption | omega | grind
      have hv_78 : (0 : Int) ≤ MwrongAt_67 ∧ MwrongAt_67 ≤ 400 := by
        first | assumption | omega | grind
      have hv_79 : (0 : Int) ≤ Mthing_22 ∧ Mthing_22 ≤ 104 := by
        first | assumption | omega | grind
      have hv_80 : ((semQ f Mtaped (thrQ f Mtaped Mmany q).2).1 = 0 ∧ r_65 = 1) ∨ (¬ (semQ f Mtaped (thrQ f Mtaped Mmany q).2).1 = 0 ∧ r_65 = 0) := by
        rw [sem_n (by assumption) (by omega)]; exact Or.inr ⟨by show ¬ (1 : Int) = 0; decide, by omega⟩
      have hv_81 : qM (semQ f Mtaped (thrQ f Mtaped Mmany q).2) Mwrong_66 MwrongAt_67 Mtoken_18 MtokenAt_19 Mpos_20 Mvalue_21 := by
        rw [sem_n (by assumption) (by omega)]; subst_vars; exact ref_m (by assumption)
      have hv_82 : Mpos_20 ≤ Mtaped := by
        first | assumption | omega | grind
      have hv_83 : (semQ f Mtaped (thrQ f Mtaped Mmany q).2).1 = 0 → frR Mfresh_23 k q.2.2.1 (oneQ f Mtaped Mmany q).1 (twoQ f Mtaped Mmany q).1 (thrQ f Mtaped Mmany q).1 := by
        rw [sem_n (by assumption) (by omega)]; intro z; exact absurd z (by show ¬ (1 : Int) = 0; decide)
      have hv_84 : ∀ j, 0 ≤ j → j < 4 * k → Mfresh_23 j = Mfresh j := by
        assumption
      exact W.zret (v := zI r_65) hx hb hr (z_narZ (by omega)) (fun t9 ht hW => ⟨⟨zI r_65, (r_65, Mfresh_23, Mpos_20, Mtoken_18, MtokenAt_19, Mvalue_21, Mwrong_66, MwrongAt_67, Mthing_22), rfl, ⟨rfl, ⟨hR_31, hv_73, hv_74, hv_75, hv_76, hv_77, hv_78, hv_79, hv_80, hv_81, hv_82, hv_83, hv_84⟩⟩, by subst hAe; exact z_end hK hw ht hW⟩, by subst hAe; exact hw.2.2.F ht⟩) (by subst hAe; exact hw.2.2.2.2) dX8_aBar_150
  refine lv_aload_n hx hb dX8_aBar_12 rfl (lv_at hl 1 rfl) ?_
  refine va_get (D := D) (ci := 8) (v := .ref (oM 4)) (C := RX8) (T := TX8) (N := 36) hx hb hts hinX8 hown hK hw.1 0 rfl rfl 6 (by decide) (hts (.fieldLink RX8 19 "CarnivalRoadModel" "fresh" "[I") (by decide +kernel)) (fun _ h9 => h9) rfl dX8_aBar_13 ?_
  refine z_iconst hx hb dX8_aBar_16 ?_
  refine lv_iload_n hx hb dX8_aBar_17 rfl (lv_at hl 2 rfl) ?_
  refine z_imul hx hb dX8_aBar_18 ?_
  refine lv_iload_n hx hb dX8_aBar_19 rfl (lv_at hl 0 rfl) ?_
  have hi_85 : (0 : Int) ≤ (4 * k) ∧ (4 * k) < ((40 : Nat) : Int) := by
    first | assumption | omega | grind
  have hv_86 : (0 : Int) ≤ (Mtoken - 10) ∧ (Mtoken - 10) ≤ 104 := by
    first | assumption | omega | grind
  have hR_87 : RA (uZ Mfresh (4 * k) (Mtoken - 10)) (0) 104 := RA_up qMfresh hv_86
  refine z_iast (n := 40) (f := Mfresh) (ws2 := kM cI cB cZ oM Mthrown Mmany Mguest Mrow Mbars Mbar (uZ Mfresh (4 * k) (Mtoken - 10)) Mtape Mtaped Mpos_5 Mtoken_6 MtokenAt_7 Mvalue_8 Mwrong MwrongAt MfaultKind MfaultPlace Mthing Morder Mone Mtwo Mbest Mcells Mgap Mwire Mstand Mruns Mminute Mhead Mplays Mrests Mwent Mout Mcame Mgone MlastOut) hx hb hK hw 4 rfl (by decide) hi_85 dX8_aBar_20 rfl (fun H locs hw => ?_)
  refine lv_iload_n hx hb dX8_aBar_21 rfl (lv_at hl 0 rfl) ?_
  refine z_iconst hx hb dX8_aBar_22 ?_
  refine z_icmp_ne (tgt := 55) hx hb dX8_aBar_23 (by decide) (by omega) (fun hc_88 => ?_) (fun hc_88 => ?_)
  · skip
    refine lv_aload_n hx hb dX8_aBar_55 rfl (lv_at hl 1 rfl) ?_
    have hpre_89 : tpR Mtaped f Mtape := by
      first | assumption | omega | exact ok_go hp3.2.1 | exact hp4
    have hpre_90 : qM (goF f Mtaped q) Mwrong MwrongAt Mtoken_6 MtokenAt_7 Mpos_5 Mvalue_8 := by
      first | assumption | omega | exact ok_go hp3.2.1 | exact hp4
    have hpre_91 : Mpos_5 ≤ Mtaped := by
      first | assumption | omega | exact ok_go hp3.2.1 | exact hp4
    have hpre_92 : okQ Mtaped (goF f Mtaped q) := by
      first | assumption | omega | exact ok_go hp3.2.1 | exact hp4
    have hpre_93 : (goF f Mtaped q).1 = 0 := by
      first | assumption | omega | exact ok_go hp3.2.1 | exact hp4
    have hF9 := z_free (wc := kM cI cB cZ oM Mthrown Mmany Mguest Mrow Mbars Mbar (uZ Mfresh (4 * k) (Mtoken - 10)) Mtape Mtaped Mpos_5 Mtoken_6 MtokenAt_7 Mvalue_8 Mwrong MwrongAt MfaultKind MfaultPlace Mthing Morder Mone Mtwo Mbest Mcells Mgap Mwire Mstand Mruns Mminute Mhead Mplays Mrests Mwent Mout Mcame Mgone MlastOut) hw hA [0, 1, 2, 3, 4, 5, 6, 7, 8, 9, 10, 11, 12, 13, 14, 15, 16] rfl
    refine va_calli (va_runV (As := []) (rest := []) ⟨hx, hb, hml, hown, hts⟩ (c_X8_aThing l D cI cB cZ oM H.size Mthrown Mmany Mguest Mrow Mbars Mbar (uZ Mfresh (4 * k) (Mtoken - 10)) Mtape Mtaped Mpos_5 Mtoken_6 MtokenAt_7 Mvalue_8 Mwrong MwrongAt MfaultKind MfaultPlace Mthing Morder Mone Mtwo Mbest Mcells Mgap Mwire Mstand Mruns Mminute Mhead Mplays Mrests Mwent Mout Mcame Mgone MlastOut f (goF f Mtaped q) (by omega) (by omega) qMguest qMrow (by omega) qMbar hR_87 qMtape (by omega) (by omega) (by omega) (by omega) (by omega) (by omega) (by omega) (by omega) (by omega) (by omega) qMorder (by omega) (by omega) qMbest (by omega) (by omega) qMwire qMstand (by omega) (by omega) qMhead qMplays qMrests qMwent qMout qMcame qMgone (by omega) hpre_89 hpre_90 hpre_91 hpre_92 hpre_93) (cwV 0 hts gX8_aBar_X8_aThing rfl rfl rfl (by decide +kernel) ⟨Nat.le_of_ble_eq_true rfl, Nat.le_of_ble_eq_true rfl⟩) ⟨zPre_blind, va_recv hK hw.1 (ci := 8) (q0 := 0) rfl rfl, z_pre hK hw [0, 1, 2, 3, 4, 5, 6, 7, 8, 9, 10, 11, 12, 13, 14, 15, 16] (by decide) rfl⟩ rfl rfl hl.1 rfl (lv_room (Nat.le_of_ble_eq_true rfl)) dX8_aBar_56 ⟨Nat.zero_le _, Nat.zero_le _⟩) hw.2.2 (fun q _ h => hF9 q h) hF9 (fun r9 u9 t9 H_94 locs9 ht9 hvm9 hq9 hB9 hz9 hk9 hS9 => ?_)
    obtain ⟨r_95, Mpos_96, Mtoken_97, MtokenAt_98, Mvalue_99, Mwrong_100, MwrongAt_101, Mthing_102⟩ := u9
    try dsimp only at hq9 hB9
    obtain ⟨rfl, hq9⟩ := hq9
    obtain ⟨hq_103, hq_104, hq_105, hq_106, hq_107, hq_108, hq_109, hq_110, hq_111, hq_112, hq_113⟩ := hq9
    have hw : HW D A s.heap (kM cI cB cZ oM Mthrown Mmany Mguest Mrow Mbars Mbar (uZ Mfresh (4 * k) (Mtoken - 10)) Mtape Mtaped Mpos_96 Mtoken_97 MtokenAt_98 Mvalue_99 Mwrong_100 MwrongAt_101 MfaultKind MfaultPlace Mthing_102 Morder Mone Mtwo Mbest Mcells Mgap Mwire Mstand Mruns Mminute Mhead Mplays Mrests Mwent Mout Mcame Mgone MlastOut) H_94 locs9 := z_after (wc := kM cI cB cZ oM Mthrown Mmany Mguest Mrow Mbars Mbar (uZ Mfresh (4 * k) (Mtoken - 10)) Mtape Mtaped Mpos_5 Mtoken_6 MtokenAt_7 Mvalue_8 Mwrong MwrongAt MfaultKind MfaultPlace Mthing Morder Mone Mtwo Mbest Mcells Mgap Mwire Mstand Mruns Mminute Mhead Mplays Mrests Mwent Mout Mcame Mgone MlastOut) hw [0, 1, 2, 3, 4, 5, 6, 7, 8, 9, 10, 11, 12, 13, 14, 15, 16] [] rfl rfl (by decide) (by decide) hF9 hk9 ht9 hB9 hS9 [0, 1, 2, 3, 4, 5, 6, 7, 8, 9, 10, 11, 12, 13, 14, 15, 16] (by decide) rfl
    clear hF9 ht9 hvm9 hB9 hz9 hk9 hS9
    rcases hq_110 with ⟨hc_114, rfl⟩ | ⟨hc_114, rfl⟩
    · skip
      refine z_if_ne (tgt := 64) hx hb dX8_aBar_59 (by decide) (by omega) (fun hc_115 => ?_) (fun hc_115 => absurd hc_115 (by omega))
      refine lv_aload_n hx hb dX8_aBar_64 rfl (lv_at hl 1 rfl) ?_
      refine va_get (D := D) (ci := 8) (v := .ref (oM 4)) (C := RX8) (T := TX8) (N := 36) hx hb hts hinX8 hown hK hw.1 0 rfl rfl 6 (by decide) (hts (.fieldLink RX8 19 "CarnivalRoadModel" "fresh" "[I") (by decide +kernel)) (fun _ h9 => h9) rfl dX8_aBar_65 ?_
      refine z_iconst hx hb dX8_aBar_68 ?_
      refine lv_iload_n hx hb dX8_aBar_69 rfl (lv_at hl 2 rfl) ?_
      refine z_imul hx hb dX8_aBar_70 ?_
      refine z_iconst hx hb dX8_aBar_71 ?_
      refine z_iadd hx hb dX8_aBar_72 ?_
      refine lv_aload_n hx hb dX8_aBar_73 rfl (lv_at hl 1 rfl) ?_
      refine va_get (D := D) (ci := 8) (v := .int (zI Mthing_102)) (C := RX8) (T := TX8) (N := 36) hx hb hts hinX8 hown hK hw.1 0 rfl rfl 17 (by decide) (hts (.fieldLink RX8 142 "CarnivalRoadModel" "thing" "I") (by decide +kernel)) (fun _ h9 => h9) rfl dX8_aBar_74 ?_
      have hi_116 : (0 : Int) ≤ ((4 * k) + 1) ∧ ((4 * k) + 1) < ((40 : Nat) : Int) := by
        first | assumption | omega | grind
      have hv_117 : (0 : Int) ≤ Mthing_102 ∧ Mthing_102 ≤ 104 := by
        first | assumption | omega | grind
      have hR_118 : RA (uZ (uZ Mfresh (4 * k) (Mtoken - 10)) ((4 * k) + 1) Mthing_102) (0) 104 := RA_up hR_87 hv_117
      refine z_iast (n := 40) (f := (uZ Mfresh (4 * k) (Mtoken - 10))) (ws2 := kM cI cB cZ oM Mthrown Mmany Mguest Mrow Mbars Mbar (uZ (uZ Mfresh (4 * k) (Mtoken - 10)) ((4 * k) + 1) Mthing_102) Mtape Mtaped Mpos_96 Mtoken_97 MtokenAt_98 Mvalue_99 Mwrong_100 MwrongAt_101 MfaultKind MfaultPlace Mthing_102 Morder Mone Mtwo Mbest Mcells Mgap Mwire Mstand Mruns Mminute Mhead Mplays Mrests Mwent Mout Mcame Mgone MlastOut) hx hb hK hw 4 rfl (by decide) hi_116 dX8_aBar_77 rfl (fun H locs hw => ?_)
      refine z_cut (σ := Int × Int × Int × Int × Int × Int × Int) 92 (I := fun x9 H locs ls => ((0 : Int) ≤ (x9.1) ∧ (x9.1) ≤ 3) ∧ ((0 : Int) ≤ (x9.2.1) ∧ (x9.2.1) ≤ 400) ∧ ((0 : Int) ≤ (x9.2.2.1) ∧ (x9.2.2.1) ≤ 15) ∧ ((0 : Int) ≤ (x9.2.2.2.1) ∧ (x9.2.2.2.1) ≤ 400) ∧ ((0 : Int) ≤ (x9.2.2.2.2.1) ∧ (x9.2.2.2.2.1) ≤ 400) ∧ ((0 : Int) ≤ (x9.2.2.2.2.2.1) ∧ (x9.2.2.2.2.2.1) ≤ 99) ∧ ((0 : Int) ≤ (x9.2.2.2.2.2.2) ∧ (x9.2.2.2.2.2.2) ≤ 104) ∧ (qM (twoQ f Mtaped Mmany q).2 (x9.1) (x9.2.1) (x9.2.2.1) (x9.2.2.2.1) (x9.2.2.2.2.1) (x9.2.2.2.2.2.1)) ∧ ((twoQ f Mtaped Mmany q).2.1 = 0) ∧ ((x9.2.2.2.2.1) ≤ Mtaped) ∧ ((q.2.2.1 = 1 ∨ q.2.2.1 = 2) → (x9.2.2.2.2.2.2) = thM (twoQ f Mtaped Mmany q).1) ∧ HW D A s.heap (kM cI cB cZ oM Mthrown Mmany Mguest Mrow Mbars Mbar (uZ (uZ Mfresh (4 * k) (Mtoken - 10)) ((4 * k) + 1) Mthing_102) Mtape Mtaped (x9.2.2.2.2.1) (x9.2.2.1) (x9.2.2.2.1) (x9.2.2.2.2.2.1) (x9.1) (x9.2.1) MfaultKind MfaultPlace (x9.2.2.2.2.2.2) Morder Mone Mtwo Mbest Mcells Mgap Mwire Mstand Mruns Mminute Mhead Mplays Mrests Mwent Mout Mcame Mgone MlastOut) H locs ∧ lv_has ls 3 [(0, .ref (oM 0)), (1, .int (zI k)), (2, .int (zI (Mtoken - 10)))]) (st := fun x9 => []) ?_ (fun hj_119 => ?_)
      · clear hw hl
        intro x9 H locs ls hI
        obtain ⟨Mwrong_120, MwrongAt_121, Mtoken_122, MtokenAt_123, Mpos_124, Mvalue_125, Mthing_126⟩ := x9
        try dsimp only at hI ⊢
        obtain ⟨hq_127, hq_128, hq_129, hq_130, hq_131, hq_132, hq_133, hI_134, hI_135, hI_136, hI_137, hw, hl⟩ := hI
        refine lv_aload_n hx hb dX8_aBar_92 rfl (lv_at hl 0 rfl) ?_
        refine va_get (D := D) (ci := 8) (v := .ref (oM 4)) (C := RX8) (T := TX8) (N := 36) hx hb hts hinX8 hown hK hw.1 0 rfl rfl 6 (by decide) (hts (.fieldLink RX8 19 "CarnivalRoadModel" "fresh" "[I") (by decide +kernel)) (fun _ h9 => h9) rfl dX8_aBar_93 ?_
        refine z_iconst hx hb dX8_aBar_96 ?_
        refine lv_iload_n hx hb dX8_aBar_97 rfl (lv_at hl 1 rfl) ?_
        refine z_imul hx hb dX8_aBar_98 ?_
        refine z_iconst hx hb dX8_aBar_99 ?_
        refine z_iadd hx hb dX8_aBar_100 ?_
        refine lv_aload_n hx hb dX8_aBar_101 rfl (lv_at hl 0 rfl) ?_
        refine va_get (D := D) (ci := 8) (v := .int (zI Mthing_126)) (C := RX8) (T := TX8) (N := 36) hx hb hts hinX8 hown hK hw.1 0 rfl rfl 17 (by decide) (hts (.fieldLink RX8 142 "CarnivalRoadModel" "thing" "I") (by decide +kernel)) (fun _ h9 => h9) rfl dX8_aBar_102 ?_
        have hi_138 : (0 : Int) ≤ ((4 * k) + 2) ∧ ((4 * k) + 2) < ((40 : Nat) : Int) := by
          first | assumption | omega | grind
        have hv_139 : (0 : Int) ≤ Mthing_126 ∧ Mthing_126 ≤ 104 := by
          first | assumption | omega | grind
        have hR_140 : RA (uZ (uZ (uZ Mfresh (4 * k) (Mtoken - 10)) ((4 * k) + 1) Mthing_102) ((4 * k) + 2) Mthing_126) (0) 104 := RA_up hR_118 hv_139
        refine z_iast (n := 40) (f := (uZ (uZ Mfresh (4 * k) (Mtoken - 10)) ((4 * k) + 1) Mthing_102)) (ws2 := kM cI cB cZ oM Mthrown Mmany Mguest Mrow Mbars Mbar (uZ (uZ (uZ Mfresh (4 * k) (Mtoken - 10)) ((4 * k) + 1) Mthing_102) ((4 * k) + 2) Mthing_126) Mtape Mtaped Mpos_124 Mtoken_122 MtokenAt_123 Mvalue_125 Mwrong_120 MwrongAt_121 MfaultKind MfaultPlace Mthing_126 Morder Mone Mtwo Mbest Mcells Mgap Mwire Mstand Mruns Mminute Mhead Mplays Mrests Mwent Mout Mcame Mgone MlastOut) hx hb hK hw 4 rfl (by decide) hi_138 dX8_aBar_105 rfl (fun H locs hw => ?_)
        refine z_cut (σ := Int × Int × Int × Int × Int × Int × Int) 123 (I := fun x9 H locs ls => ((0 : Int) ≤ (x9.1) ∧ (x9.1) ≤ 3) ∧ ((0 : Int) ≤ (x9.2.1) ∧ (x9.2.1) ≤ 400) ∧ ((0 : Int) ≤ (x9.2.2.1) ∧ (x9.2.2.1) ≤ 15) ∧ ((0 : Int) ≤ (x9.2.2.2.1) ∧ (x9.2.2.2.1) ≤ 400) ∧ ((0 : Int) ≤ (x9.2.2.2.2.1) ∧ (x9.2.2.2.2.1) ≤ 400) ∧ ((0 : Int) ≤ (x9.2.2.2.2.2.1) ∧ (x9.2.2.2.2.2.1) ≤ 99) ∧ ((0 : Int) ≤ (x9.2.2.2.2.2.2) ∧ (x9.2.2.2.2.2.2) ≤ 104) ∧ (qM (thrQ f Mtaped Mmany q).2 (x9.1) (x9.2.1) (x9.2.2.1) (x9.2.2.2.1) (x9.2.2.2.2.1) (x9.2.2.2.2.2.1)) ∧ ((thrQ f Mtaped Mmany q).2.1 = 0) ∧ ((x9.2.2.2.2.1) ≤ Mtaped) ∧ (q.2.2.1 = 1 → (x9.2.2.2.2.2.2) = (thrQ f Mtaped Mmany q).1) ∧ HW D A s.heap (kM cI cB cZ oM Mthrown Mmany Mguest Mrow Mbars Mbar (uZ (uZ (uZ Mfresh (4 * k) (Mtoken - 10)) ((4 * k) + 1) Mthing_102) ((4 * k) + 2) Mthing_126) Mtape Mtaped (x9.2.2.2.2.1) (x9.2.2.1) (x9.2.2.2.1) (x9.2.2.2.2.2.1) (x9.1) (x9.2.1) MfaultKind MfaultPlace (x9.2.2.2.2.2.2) Morder Mone Mtwo Mbest Mcells Mgap Mwire Mstand Mruns Mminute Mhead Mplays Mrests Mwent Mout Mcame Mgone MlastOut) H locs ∧ lv_has ls 3 [(0, .ref (oM 0)), (1, .int (zI k))]) (st := fun x9 => []) ?_ (fun hj_141 => ?_)
        · clear hw hl
          intro x9 H locs ls hI
          obtain ⟨Mwrong_142, MwrongAt_143, Mtoken_144, MtokenAt_145, Mpos_146, Mvalue_147, Mthing_148⟩ := x9
          try dsimp only at hI ⊢
          obtain ⟨hq_149, hq_150, hq_151, hq_152, hq_153, hq_154, hq_155, hI_156, hI_157, hI_158, hI_159, hw, hl⟩ := hI
          refine lv_aload_n hx hb dX8_aBar_123 rfl (lv_at hl 0 rfl) ?_
          refine va_get (D := D) (ci := 8) (v := .ref (oM 4)) (C := RX8) (T := TX8) (N := 36) hx hb hts hinX8 hown hK hw.1 0 rfl rfl 6 (by decide) (hts (.fieldLink RX8 19 "CarnivalRoadModel" "fresh" "[I") (by decide +kernel)) (fun _ h9 => h9) rfl dX8_aBar_124 ?_
          refine z_iconst hx hb dX8_aBar_127 ?_
          refine lv_iload_n hx hb dX8_aBar_128 rfl (lv_at hl 1 rfl) ?_
          refine z_imul hx hb dX8_aBar_129 ?_
          refine z_iconst hx hb dX8_aBar_130 ?_
          refine z_iadd hx hb dX8_aBar_131 ?_
          refine lv_aload_n hx hb dX8_aBar_132 rfl (lv_at hl 0 rfl) ?_
          refine va_get (D := D) (ci := 8) (v := .int (zI Mthing_148)) (C := RX8) (T := TX8) (N := 36) hx hb hts hinX8 hown hK hw.1 0 rfl rfl 17 (by decide) (hts (.fieldLink RX8 142 "CarnivalRoadModel" "thing" "I") (by decide +kernel)) (fun _ h9 => h9) rfl dX8_aBar_133 ?_
          have hi_160 : (0 : Int) ≤ ((4 * k) + 3) ∧ ((4 * k) + 3) < ((40 : Nat) : Int) := by
            first | assumption | omega | grind
          have hv_161 : (0 : Int) ≤ Mthing_148 ∧ Mthing_148 ≤ 104 := by
            first | assumption | omega | grind
          have hR_162 : RA (uZ (uZ (uZ (uZ Mfresh (4 * k) (Mtoken - 10)) ((4 * k) + 1) Mthing_102) ((4 * k) + 2) Mthing_126) ((4 * k) + 3) Mthing_148) (0) 104 := RA_up hR_140 hv_161
          refine z_iast (n := 40) (f := (uZ (uZ (uZ Mfresh (4 * k) (Mtoken - 10)) ((4 * k) + 1) Mthing_102) ((4 * k) + 2) Mthing_126)) (ws2 := kM cI cB cZ oM Mthrown Mmany Mguest Mrow Mbars Mbar (uZ (uZ (uZ (uZ Mfresh (4 * k) (Mtoken - 10)) ((4 * k) + 1) Mthing_102) ((4 * k) + 2) Mthing_126) ((4 * k) + 3) Mthing_148) Mtape Mtaped Mpos_146 Mtoken_144 MtokenAt_145 Mvalue_147 Mwrong_142 MwrongAt_143 MfaultKind MfaultPlace Mthing_148 Morder Mone Mtwo Mbest Mcells Mgap Mwire Mstand Mruns Mminute Mhead Mplays Mrests Mwent Mout Mcame Mgone MlastOut) hx hb hK hw 4 rfl (by decide) hi_160 dX8_aBar_136 rfl (fun H locs hw => ?_)
          have hv_163 : (0 : Int) ≤ Mwrong_142 ∧ Mwrong_142 ≤ 3 := by
            first | assumption | omega | grind
          have hv_164 : (0 : Int) ≤ MwrongAt_143 ∧ MwrongAt_143 ≤ 400 := by
            first | assumption | omega | grind
          have hv_165 : (0 : Int) ≤ Mtoken_144 ∧ Mtoken_144 ≤ 15 := by
            first | assumption | omega | grind
          have hv_166 : (0 : Int) ≤ MtokenAt_145 ∧ MtokenAt_145 ≤ 400 := by
            first | assumption | omega | grind
          have hv_167 : (0 : Int) ≤ Mpos_146 ∧ Mpos_146 ≤ 400 := by
            first | assumption | omega | grind
          have hv_168 : (0 : Int) ≤ Mvalue_147 ∧ Mvalue_147 ≤ 99 := by
            first | assumption | omega | grind
          have hv_169 : (0 : Int) ≤ Mthing_148 ∧ Mthing_148 ≤ 104 := by
            first | assumption | omega | grind
          have hv_170 : qM (thrQ f Mtaped Mmany q).2 Mwrong_142 MwrongAt_143 Mtoken_144 MtokenAt_145 Mpos_146 Mvalue_147 := by
            first | assumption | (have e := loud_q (f := f) (len := Mtaped) (n := Mmany) (q := q) (by omega); rw [e.2.2]; assumption)
          have hv_171 : (thrQ f Mtaped Mmany q).2.1 = 0 := by
            first | assumption | (have e := loud_q (f := f) (len := Mtaped) (n := Mmany) (q := q) (by omega); rw [e.2.2]; assumption)
          have hv_172 : Mpos_146 ≤ Mtaped := by
            first | assumption | omega | grind
          have hv_173 : frR (uZ (uZ (uZ (uZ Mfresh (4 * k) (Mtoken - 10)) ((4 * k) + 1) Mthing_102) ((4 * k) + 2) Mthing_126) ((4 * k) + 3) Mthing_148) k q.2.2.1 (oneQ f Mtaped Mmany q).1 (twoQ f Mtaped Mmany q).1 (thrQ f Mtaped Mmany q).1 := by
            first | (exact ⟨by rw [uZ_n (by omega), uZ_s]; omega, fun z => by omega, fun z => by omega, fun _ => by have e := loud_q (f := f) (len := Mtaped) (n := Mmany) (q := q) (by omega); rw [uZ_s, e.2.2]; exact ((by assumption : (numQ f Mtaped 0 18 (goF f Mtaped q)).2.1 = 0 → _ = (numQ f Mtaped 0 18 (goF f Mtaped q)).1 ∧ _) (by assumption)).1⟩) | (exact ⟨by rw [uZ_n (by omega), uZ_n (by omega), uZ_n (by omega), uZ_s]; omega, fun z => by have e := one_n (f := f) (len := Mtaped) (n := Mmany) (q := q) (by omega); rw [uZ_n (by omega), uZ_n (by omega), uZ_s, e]; exact (by assumption : (thQ f Mtaped Mmany (goF f Mtaped q)).2.1 = 0 → _) (by assumption), fun z => by rw [uZ_n (by omega), uZ_s]; exact (by assumption : (q.2.2.1 = 1 ∨ q.2.2.1 = 2) → _ = thM (twoQ f Mtaped Mmany q).1) z, fun z => by rw [uZ_s]; exact (by assumption : q.2.2.1 = 1 → _ = (thrQ f Mtaped Mmany q).1) (by omega)⟩)
          have hv_174 : ∀ j, 0 ≤ j → j < 4 * k → (uZ (uZ (uZ (uZ Mfresh (4 * k) (Mtoken - 10)) ((4 * k) + 1) Mthing_102) ((4 * k) + 2) Mthing_126) ((4 * k) + 3) Mthing_148) j = Mfresh j := by
            intro j j0 j1
            repeat rw [uZ_n (by omega)]
          exact hj_15 (Mwrong_142, MwrongAt_143, Mtoken_144, MtokenAt_145, Mpos_146, Mvalue_147, Mthing_148, (uZ (uZ (uZ (uZ Mfresh (4 * k) (Mtoken - 10)) ((4 * k) + 1) Mthing_102) ((4 * k) + 2) Mthing_126) ((4 * k) + 3) Mthing_148)) _ _ _ ⟨hv_163, hv_164, hv_165, hv_166, hv_167, hv_168, hv_169, hR_162, hv_170, hv_171, hv_172, hv_173, hv_174, hw, lv_sub hl [0] rfl⟩
        refine lv_iload_n hx hb dX8_aBar_106 rfl (lv_at hl 2 rfl) ?_
        refine z_iconst hx hb dX8_aBar_107 ?_
        refine z_icmp_ne (tgt := 123) hx hb dX8_aBar_108 (by decide) (by omega) (fun hc_175 => ?_) (fun hc_175 => ?_)
        · skip
          have hv_176 : (0 : Int) ≤ Mwrong_120 ∧ Mwrong_120 ≤ 3 := by
            first | assumption | omega | grind
          have hv_177 : (0 : Int) ≤ MwrongAt_121 ∧ MwrongAt_121 ≤ 400 := by
            first | assumption | omega | grind
          have hv_178 : (0 : Int) ≤ Mtoken_122 ∧ Mtoken_122 ≤ 15 := by
            first | assumption | omega | grind
          have hv_179 : (0 : Int) ≤ MtokenAt_123 ∧ MtokenAt_123 ≤ 400 := by
            first | assumption | omega | grind
          have hv_180 : (0 : Int) ≤ Mpos_124 ∧ Mpos_124 ≤ 400 := by
            first | assumption | omega | grind
          have hv_181 : (0 : Int) ≤ Mvalue_125 ∧ Mvalue_125 ≤ 99 := by
            first | assumption | omega | grind
          have hv_182 : (0 : Int) ≤ Mthing_126 ∧ Mthing_126 ≤ 104 := by
            first | assumption | omega | grind
          have hv_183 : qM (thrQ f Mtaped Mmany q).2 Mwrong_120 MwrongAt_121 Mtoken_122 MtokenAt_123 Mpos_124 Mvalue_125 := by
            first | (have e := thr_y (f := f) (len := Mtaped) (n := Mmany) (q := q) (by omega); rw [e]; assumption) | (have e := thr_n (f := f) (len := Mtaped) (n := Mmany) (q := q) (by omega) (by omega); rw [e]; assumption)
          have hv_184 : (thrQ f Mtaped Mmany q).2.1 = 0 := by
            first | (have e := thr_y (f := f) (len := Mtaped) (n := Mmany) (q := q) (by omega); rw [e]; assumption) | (have e := thr_n (f := f) (len := Mtaped) (n := Mmany) (q := q) (by omega) (by omega); rw [e]; assumption)
          have hv_185 : Mpos_124 ≤ Mtaped := by
            first | assumption | omega | grind
          have hv_186 : q.2.2.1 = 1 → Mthing_126 = (thrQ f Mtaped Mmany q).1 := by
            intro z; first | (exfalso; omega) | (have e := thr_y (f := f) (len := Mtaped) (n := Mmany) (q := q) (by omega); rw [e]; exact ((by assumption : (numQ f Mtaped 1 7 (twoQ f Mtaped Mmany q).2).2.1 = 0 → _ = (numQ f Mtaped 1 7 (twoQ f Mtaped Mmany q).2).1 ∧ _) (by assumption)).1)
          exact hj_141 (Mwrong_120, MwrongAt_121, Mtoken_122, MtokenAt_123, Mpos_124, Mvalue_125, Mthing_126) _ _ _ ⟨hv_176, hv_177, hv_178, hv_179, hv_180, hv_181, hv_182, hv_183, hv_184, hv_185, hv_186, hw, lv_sub hl [0, 1] rfl⟩
        · skip
          refine lv_aload_n hx hb dX8_aBar_111 rfl (lv_at hl 0 rfl) ?_
          refine z_iconst hx hb dX8_aBar_112 ?_
          refine z_bipush hx hb dX8_aBar_113 (by decide) ?_
          have hpre_187 : tpR Mtaped f Mtape := by
            first | assumption | omega | exact ok_two hp3
          have hpre_188 : qM ((twoQ f Mtaped Mmany q).2) Mwrong_120 MwrongAt_121 Mtoken_122 MtokenAt_123 Mpos_124 Mvalue_125 := by
            first | assumption | omega | exact ok_two hp3
          have hpre_189 : Mpos_124 ≤ Mtaped := by
            first | assumption | omega | exact ok_two hp3
          have hpre_190 : okQ Mtaped ((twoQ f Mtaped Mmany q).2) := by
            first | assumption | omega | exact ok_two hp3
          have hpre_191 : ((twoQ f Mtaped Mmany q).2).1 = 0 := by
            first | assumption | omega | exact ok_two hp3
          have hF9 := z_free (wc := kM cI cB cZ oM Mthrown Mmany Mguest Mrow Mbars Mbar (uZ (uZ (uZ Mfresh (4 * k) (Mtoken - 10)) ((4 * k) + 1) Mthing_102) ((4 * k) + 2) Mthing_126) Mtape Mtaped Mpos_124 Mtoken_122 MtokenAt_123 Mvalue_125 Mwrong_120 MwrongAt_121 MfaultKind MfaultPlace Mthing_126 Morder Mone Mtwo Mbest Mcells Mgap Mwire Mstand Mruns Mminute Mhead Mplays Mrests Mwent Mout Mcame Mgone MlastOut) hw hA [0, 1, 2, 3, 4, 5, 6, 7, 8, 9, 10, 11, 12, 13, 14, 15, 16] rfl
          refine va_calli (va_runV (As := [.int (zI 1), .int (zI 7)]) (rest := []) ⟨hx, hb, hml, hown, hts⟩ (c_X8_number l D cI cB cZ oM H.size Mthrown Mmany Mguest Mrow Mbars Mbar (uZ (uZ (uZ Mfresh (4 * k) (Mtoken - 10)) ((4 * k) + 1) Mthing_102) ((4 * k) + 2) Mthing_126) Mtape Mtaped Mpos_124 Mtoken_122 MtokenAt_123 Mvalue_125 Mwrong_120 MwrongAt_121 MfaultKind MfaultPlace Mthing_126 Morder Mone Mtwo Mbest Mcells Mgap Mwire Mstand Mruns Mminute Mhead Mplays Mrests Mwent Mout Mcame Mgone MlastOut 1 7 f ((twoQ f Mtaped Mmany q).2) (by omega) (by omega) qMguest qMrow (by omega) qMbar hR_140 qMtape (by omega) (by omega) (by omega) (by omega) (by omega) (by omega) (by omega) (by omega) (by omega) (by omega) qMorder (by omega) (by omega) qMbest (by omega) (by omega) qMwire qMstand (by omega) (by omega) qMhead qMplays qMrests qMwent qMout qMcame qMgone (by omega) (by omega) (by omega) hpre_187 hpre_188 hpre_189 hpre_190 hpre_191) (cwV 2 hts gX8_aBar_X8_number rfl rfl rfl (by decide +kernel) ⟨Nat.le_of_ble_eq_true rfl, Nat.le_of_ble_eq_true rfl⟩) ⟨zPre_blind, va_recv hK hw.1 (ci := 8) (q0 := 0) rfl rfl, z_pre hK hw [0, 1, 2, 3, 4, 5, 6, 7, 8, 9, 10, 11, 12, 13, 14, 15, 16] (by decide) rfl⟩ rfl rfl hl.1 rfl (lv_room (Nat.le_of_ble_eq_true rfl)) dX8_aBar_115 ⟨Nat.zero_le _, Nat.zero_le _⟩) hw.2.2 (fun q _ h => hF9 q h) hF9 (fun r9 u9 t9 H_192 locs9 ht9 hvm9 hq9 hB9 hz9 hk9 hS9 => ?_)
          obtain ⟨r_193, Mpos_194, Mtoken_195, MtokenAt_196, Mvalue_197, Mwrong_198, MwrongAt_199, Mthing_200⟩ := u9
          try dsimp only at hq9 hB9
          obtain ⟨rfl, hq9⟩ := hq9
          obtain ⟨hq_201, hq_202, hq_203, hq_204, hq_205, hq_206, hq_207, hq_208, hq_209, hq_210, hq_211⟩ := hq9
          have hw : HW D A s.heap (kM cI cB cZ oM Mthrown Mmany Mguest Mrow Mbars Mbar (uZ (uZ (uZ Mfresh (4 * k) (Mtoken - 10)) ((4 * k) + 1) Mthing_102) ((4 * k) + 2) Mthing_126) Mtape Mtaped Mpos_194 Mtoken_195 MtokenAt_196 Mvalue_197 Mwrong_198 MwrongAt_199 MfaultKind MfaultPlace Mthing_200 Morder Mone Mtwo Mbest Mcells Mgap Mwire Mstand Mruns Mminute Mhead Mplays Mrests Mwent Mout Mcame Mgone MlastOut) H_192 locs9 := z_after (wc := kM cI cB cZ oM Mthrown Mmany Mguest Mrow Mbars Mbar (uZ (uZ (uZ Mfresh (4 * k) (Mtoken - 10)) ((4 * k) + 1) Mthing_102) ((4 * k) + 2) Mthing_126) Mtape Mtaped Mpos_124 Mtoken_122 MtokenAt_123 Mvalue_125 Mwrong_120 MwrongAt_121 MfaultKind MfaultPlace Mthing_126 Morder Mone Mtwo Mbest Mcells Mgap Mwire Mstand Mruns Mminute Mhead Mplays Mrests Mwent Mout Mcame Mgone MlastOut) hw [0, 1, 2, 3, 4, 5, 6, 7, 8, 9, 10, 11, 12, 13, 14, 15, 16] [] rfl rfl (by decide) (by decide) hF9 hk9 ht9 hB9 hS9 [0, 1, 2, 3, 4, 5, 6, 7, 8, 9, 10, 11, 12, 13, 14, 15, 16] (by decide) rfl
          clear hF9 ht9 hvm9 hB9 hz9 hk9 hS9
          rcases hq_208 with ⟨hc_212, rfl⟩ | ⟨hc_212, rfl⟩
          · skip
            refine z_if_ne (tgt := 123) hx hb dX8_aBar_118 (by decide) (by omega) (fun hc_213 => ?_) (fun hc_213 => absurd hc_213 (by omega))
            have hv_214 : (0 : Int) ≤ Mwrong_198 ∧ Mwrong_198 ≤ 3 := by
              first | assumption | omega | grind
            have hv_215 : (0 : Int) ≤ MwrongAt_199 ∧ MwrongAt_199 ≤ 400 := by
              first | assumption | omega | grind
            have hv_216 : (0 : Int) ≤ Mtoken_195 ∧ Mtoken_195 ≤ 15 := by
              first | assumption | omega | grind
            have hv_217 : (0 : Int) ≤ MtokenAt_196 ∧ MtokenAt_196 ≤ 400 := by
              first | assumption | omega | grind
            have hv_218 : (0 : Int) ≤ Mpos_194 ∧ Mpos_194 ≤ 400 := by
              first | assumption | omega | grind
            have hv_219 : (0 : Int) ≤ Mvalue_197 ∧ Mvalue_197 ≤ 99 := by
              first | assumption | omega | grind
            have hv_220 : (0 : Int) ≤ Mthing_200 ∧ Mthing_200 ≤ 104 := by
              first | assumption | omega | grind
            have hv_221 : qM (thrQ f Mtaped Mmany q).2 Mwrong_198 MwrongAt_199 Mtoken_195 MtokenAt_196 Mpos_194 Mvalue_197 := by
              first | (have e := thr_y (f := f) (len := Mtaped) (n := Mmany) (q := q) (by omega); rw [e]; assumption) | (have e := thr_n (f := f) (len := Mtaped) (n := Mmany) (q := q) (by omega) (by omega); rw [e]; assumption)
            have hv_222 : (thrQ f Mtaped Mmany q).2.1 = 0 := by
              first | (have e := thr_y (f := f) (len := Mtaped) (n := Mmany) (q := q) (by omega); rw [e]; assumption) | (have e := thr_n (f := f) (len := Mtaped) (n := Mmany) (q := q) (by omega) (by omega); rw [e]; assumption)
            have hv_223 : Mpos_194 ≤ Mtaped := by
              first | assumption | omega | grind
            have hv_224 : q.2.2.1 = 1 → Mthing_200 = (thrQ f Mtaped Mmany q).1 := by
              intro z; first | (exfalso; omega) | (have e := thr_y (f := f) (len := Mtaped) (n := Mmany) (q := q) (by omega); rw [e]; exact ((by assumption : (numQ f Mtaped 1 7 (twoQ f Mtaped Mmany q).2).2.1 = 0 → _ = (numQ f Mtaped 1 7 (twoQ f Mtaped Mmany q).2).1 ∧ _) (by assumption)).1)
            exact hj_141 (Mwrong_198, MwrongAt_199, Mtoken_195, MtokenAt_196, Mpos_194, Mvalue_197, Mthing_200) _ _ _ ⟨hv_214, hv_215, hv_216, hv_217, hv_218, hv_219, hv_220, hv_221, hv_222, hv_223, hv_224, hw, lv_sub hl [0, 1] rfl⟩
          · skip
            refine z_if_ne (tgt := 123) hx hb dX8_aBar_118 (by decide) (by omega) (fun hc_225 => absurd hc_225 (by omega)) (fun hc_225 => ?_)
            refine z_iconst hx hb dX8_aBar_121 ?_
            have hv_226 : (0 : Int) ≤ Mpos_194 ∧ Mpos_194 ≤ 400 := by
              first | assumption | omega | grind
            have hv_227 : (0 : Int) ≤ Mtoken_195 ∧ Mtoken_195 ≤ 15 := by
              first | assumption | omega | grind
            have hv_228 : (0 : Int) ≤ MtokenAt_196 ∧ MtokenAt_196 ≤ 400 := by
              first | assumption | omega | grind
            have hv_229 : (0 : Int) ≤ Mvalue_197 ∧ Mvalue_197 ≤ 99 := by
              first | assumption | omega | grind
            have hv_230 : (0 : Int) ≤ Mwrong_198 ∧ Mwrong_198 ≤ 3 := by
              first | assumption | omega | grind
            have hv_231 : (0 : Int) ≤ MwrongAt_199 ∧ MwrongAt_199 ≤ 400 := by
              first | assumption | omega | grind
            have hv_232 : (0 : Int) ≤ Mthing_200 ∧ Mthing_200 ≤ 104 := by
              first | assumption | omega | grind
            have hv_233 : ((semQ f Mtaped (thrQ f Mtaped Mmany q).2).1 = 0 ∧ (0 : Int) = 1) ∨ (¬ (semQ f Mtaped (thrQ f Mtaped Mmany q).2).1 = 0 ∧ (0 : Int) = 0) := by
              have e := thr_y (f := f) (len := Mtaped) (n := Mmany) (q := q) (by omega)
              rw [fail_thr (by rw [e]; assumption), e]; exact Or.inr ⟨by assumption, rfl⟩
            have hv_234 : qM (semQ f Mtaped (thrQ f Mtaped Mmany q).2) Mwrong_198 MwrongAt_199 Mtoken_195 MtokenAt_196 Mpos_194 Mvalue_197 := by
              have e := thr_y (f := f) (len := Mtaped) (n := Mmany) (q := q) (by omega)
              rw [fail_thr (by rw [e]; assumption), e]; assumption
            have hv_235 : Mpos_194 ≤ Mtaped := by
              first | assumption | omega | grind
            have hv_236 : (semQ f Mtaped (thrQ f Mtaped Mmany q).2).1 = 0 → frR (uZ (uZ (uZ Mfresh (4 * k) (Mtoken - 10)) ((4 * k) + 1) Mthing_102) ((4 * k) + 2) Mthing_126) k q.2.2.1 (oneQ f Mtaped Mmany q).1 (twoQ f Mtaped Mmany q).1 (thrQ f Mtaped Mmany q).1 := by
              have e := thr_y (f := f) (len := Mtaped) (n := Mmany) (q := q) (by omega)
              rw [fail_thr (by rw [e]; assumption), e]; intro z; exact absurd z (by assumption)
            have hv_237 : ∀ j, 0 ≤ j → j < 4 * k → (uZ (uZ (uZ Mfresh (4 * k) (Mtoken - 10)) ((4 * k) + 1) Mthing_102) ((4 * k) + 2) Mthing_126) j = Mfresh j := by
              intro j j0 j1
              repeat rw [uZ_n (by omega)]
            exact W.zret (v := zI 0) hx hb hr rfl (fun t9 ht hW => ⟨⟨zI 0, (0, (uZ (uZ (uZ Mfresh (4 * k) (Mtoken - 10)) ((4 * k) + 1) Mthing_102) ((4 * k) + 2) Mthing_126), Mpos_194, Mtoken_195, MtokenAt_196, Mvalue_197, Mwrong_198, MwrongAt_199, Mthing_200), rfl, ⟨rfl, ⟨hR_140, hv_226, hv_227, hv_228, hv_229, hv_230, hv_231, hv_232, hv_233, hv_234, hv_235, hv_236, hv_237⟩⟩, by subst hAe; exact z_end hK hw ht hW⟩, by subst hAe; exact hw.2.2.F ht⟩) (by subst hAe; exact hw.2.2.2.2) dX8_aBar_122
      refine lv_iload_n hx hb dX8_aBar_78 rfl (lv_at hl 0 rfl) ?_
      refine z_iconst hx hb dX8_aBar_79 ?_
      refine z_icmp_ge (tgt := 92) hx hb dX8_aBar_80 (by decide) (by omega) (fun hc_238 => ?_) (fun hc_238 => ?_)
      · skip
        have hv_239 : (0 : Int) ≤ Mwrong_100 ∧ Mwrong_100 ≤ 3 := by
          first | assumption | omega | grind
        have hv_240 : (0 : Int) ≤ MwrongAt_101 ∧ MwrongAt_101 ≤ 400 := by
          first | assumption | omega | grind
        have hv_241 : (0 : Int) ≤ Mtoken_97 ∧ Mtoken_97 ≤ 15 := by
          first | assumption | omega | grind
        have hv_242 : (0 : Int) ≤ MtokenAt_98 ∧ MtokenAt_98 ≤ 400 := by
          first | assumption | omega | grind
        have hv_243 : (0 : Int) ≤ Mpos_96 ∧ Mpos_96 ≤ 400 := by
          first | assumption | omega | grind
        have hv_244 : (0 : Int) ≤ Mvalue_99 ∧ Mvalue_99 ≤ 99 := by
          first | assumption | omega | grind
        have hv_245 : (0 : Int) ≤ Mthing_102 ∧ Mthing_102 ≤ 104 := by
          first | assumption | omega | grind
        have hv_246 : qM (twoQ f Mtaped Mmany q).2 Mwrong_100 MwrongAt_101 Mtoken_97 MtokenAt_98 Mpos_96 Mvalue_99 := by
          first | (have e := two_y (f := f) (len := Mtaped) (n := Mmany) (q := q) (by omega); rw [e]; assumption) | (have e := two_n (f := f) (len := Mtaped) (n := Mmany) (q := q) (by omega); have e2 := one_n (f := f) (len := Mtaped) (n := Mmany) (q := q) (by omega); rw [e, e2]; assumption)
        have hv_247 : (twoQ f Mtaped Mmany q).2.1 = 0 := by
          first | (have e := two_y (f := f) (len := Mtaped) (n := Mmany) (q := q) (by omega); rw [e]; assumption) | (have e := two_n (f := f) (len := Mtaped) (n := Mmany) (q := q) (by omega); have e2 := one_n (f := f) (len := Mtaped) (n := Mmany) (q := q) (by omega); rw [e, e2]; assumption)
        have hv_248 : Mpos_96 ≤ Mtaped := by
          first | assumption | omega | grind
        have hv_249 : (q.2.2.1 = 1 ∨ q.2.2.1 = 2) → Mthing_102 = thM (twoQ f Mtaped Mmany q).1 := by
          intro z; first | (exfalso; omega) | (have e := two_y (f := f) (len := Mtaped) (n := Mmany) (q := q) (by omega); rw [e]; exact (by assumption : (thQ f Mtaped Mmany (oneQ f Mtaped Mmany q).2).2.1 = 0 → _) (by assumption))
        exact hj_119 (Mwrong_100, MwrongAt_101, Mtoken_97, MtokenAt_98, Mpos_96, Mvalue_99, Mthing_102) _ _ _ ⟨hv_239, hv_240, hv_241, hv_242, hv_243, hv_244, hv_245, hv_246, hv_247, hv_248, hv_249, hw, lv_sub hl [1, 2, 0] rfl⟩
      · skip
        refine lv_aload_n hx hb dX8_aBar_83 rfl (lv_at hl 1 rfl) ?_
        have hpre_250 : tpR Mtaped f Mtape := by
          first | assumption | omega | exact ok_one hp3 | (have e := one_n (f := f) (len := Mtaped) (n := Mmany) (q := q) (by omega); rw [e]; assumption)
        have hpre_251 : qM ((oneQ f Mtaped Mmany q).2) Mwrong_100 MwrongAt_101 Mtoken_97 MtokenAt_98 Mpos_96 Mvalue_99 := by
          have e := one_n (f := f) (len := Mtaped) (n := Mmany) (q := q) (by omega)
          rw [e]; assumption
        have hpre_252 : Mpos_96 ≤ Mtaped := by
          first | assumption | omega | exact ok_one hp3 | (have e := one_n (f := f) (len := Mtaped) (n := Mmany) (q := q) (by omega); rw [e]; assumption)
        have hpre_253 : okQ Mtaped ((oneQ f Mtaped Mmany q).2) := by
          first | assumption | omega | exact ok_one hp3 | (have e := one_n (f := f) (len := Mtaped) (n := Mmany) (q := q) (by omega); rw [e]; assumption)
        have hpre_254 : ((oneQ f Mtaped Mmany q).2).1 = 0 := by
          first | assumption | omega | exact ok_one hp3 | (have e := one_n (f := f) (len := Mtaped) (n := Mmany) (q := q) (by omega); rw [e]; assumption)
        have hF9 := z_free (wc := kM cI cB cZ oM Mthrown Mmany Mguest Mrow Mbars Mbar (uZ (uZ Mfresh (4 * k) (Mtoken - 10)) ((4 * k) + 1) Mthing_102) Mtape Mtaped Mpos_96 Mtoken_97 MtokenAt_98 Mvalue_99 Mwrong_100 MwrongAt_101 MfaultKind MfaultPlace Mthing_102 Morder Mone Mtwo Mbest Mcells Mgap Mwire Mstand Mruns Mminute Mhead Mplays Mrests Mwent Mout Mcame Mgone MlastOut) hw hA [0, 1, 2, 3, 4, 5, 6, 7, 8, 9, 10, 11, 12, 13, 14, 15, 16] rfl
        refine va_calli (va_runV (As := []) (rest := []) ⟨hx, hb, hml, hown, hts⟩ (c_X8_aThing l D cI cB cZ oM H.size Mthrown Mmany Mguest Mrow Mbars Mbar (uZ (uZ Mfresh (4 * k) (Mtoken - 10)) ((4 * k) + 1) Mthing_102) Mtape Mtaped Mpos_96 Mtoken_97 MtokenAt_98 Mvalue_99 Mwrong_100 MwrongAt_101 MfaultKind MfaultPlace Mthing_102 Morder Mone Mtwo Mbest Mcells Mgap Mwire Mstand Mruns Mminute Mhead Mplays Mrests Mwent Mout Mcame Mgone MlastOut f ((oneQ f Mtaped Mmany q).2) (by omega) (by omega) qMguest qMrow (by omega) qMbar hR_118 qMtape (by omega) (by omega) (by omega) (by omega) (by omega) (by omega) (by omega) (by omega) (by omega) (by omega) qMorder (by omega) (by omega) qMbest (by omega) (by omega) qMwire qMstand (by omega) (by omega) qMhead qMplays qMrests qMwent qMout qMcame qMgone (by omega) hpre_250 hpre_251 hpre_252 hpre_253 hpre_254) (cwV 0 hts gX8_aBar_X8_aThing rfl rfl rfl (by decide +kernel) ⟨Nat.le_of_ble_eq_true rfl, Nat.le_of_ble_eq_true rfl⟩) ⟨zPre_blind, va_recv hK hw.1 (ci := 8) (q0 := 0) rfl rfl, z_pre hK hw [0, 1, 2, 3, 4, 5, 6, 7, 8, 9, 10, 11, 12, 13, 14, 15, 16] (by decide) rfl⟩ rfl rfl hl.1 rfl (lv_room (Nat.le_of_ble_eq_true rfl)) dX8_aBar_84 ⟨Nat.zero_le _, Nat.zero_le _⟩) hw.2.2 (fun q _ h => hF9 q h) hF9 (fun r9 u9 t9 H_255 locs9 ht9 hvm9 hq9 hB9 hz9 hk9 hS9 => ?_)
        obtain ⟨r_256, Mpos_257, Mtoken_258, MtokenAt_259, Mvalue_260, Mwrong_261, MwrongAt_262, Mthing_263⟩ := u9
        try dsimp only at hq9 hB9
        obtain ⟨rfl, hq9⟩ := hq9
        obtain ⟨hq_264, hq_265, hq_266, hq_267, hq_268, hq_269, hq_270, hq_271, hq_272, hq_273, hq_274⟩ := hq9
        have hw : HW D A s.heap (kM cI cB cZ oM Mthrown Mmany Mguest Mrow Mbars Mbar (uZ (uZ Mfresh (4 * k) (Mtoken - 10)) ((4 * k) + 1) Mthing_102) Mtape Mtaped Mpos_257 Mtoken_258 MtokenAt_259 Mvalue_260 Mwrong_261 MwrongAt_262 MfaultKind MfaultPlace Mthing_263 Morder Mone Mtwo Mbest Mcells Mgap Mwire Mstand Mruns Mminute Mhead Mplays Mrests Mwent Mout Mcame Mgone MlastOut) H_255 locs9 := z_after (wc := kM cI cB cZ oM Mthrown Mmany Mguest Mrow Mbars Mbar (uZ (uZ Mfresh (4 * k) (Mtoken - 10)) ((4 * k) + 1) Mthing_102) Mtape Mtaped Mpos_96 Mtoken_97 MtokenAt_98 Mvalue_99 Mwrong_100 MwrongAt_101 MfaultKind MfaultPlace Mthing_102 Morder Mone Mtwo Mbest Mcells Mgap Mwire Mstand Mruns Mminute Mhead Mplays Mrests Mwent Mout Mcame Mgone MlastOut) hw [0, 1, 2, 3, 4, 5, 6, 7, 8, 9, 10, 11, 12, 13, 14, 15, 16] [] rfl rfl (by decide) (by decide) hF9 hk9 ht9 hB9 hS9 [0, 1, 2, 3, 4, 5, 6, 7, 8, 9, 10, 11, 12, 13, 14, 15, 16] (by decide) rfl
        clear hF9 ht9 hvm9 hB9 hz9 hk9 hS9
        rcases hq_271 with ⟨hc_275, rfl⟩ | ⟨hc_275, rfl⟩
        · skip
          refine z_if_ne (tgt := 92) hx hb dX8_aBar_87 (by decide) (by omega) (fun hc_276 => ?_) (fun hc_276 => absurd hc_276 (by omega))
          have hv_277 : (0 : Int) ≤ Mwrong_261 ∧ Mwrong_261 ≤ 3 := by
            first | assumption | omega | grind
          have hv_278 : (0 : Int) ≤ MwrongAt_262 ∧ MwrongAt_262 ≤ 400 := by
            first | assumption | omega | grind
          have hv_279 : (0 : Int) ≤ Mtoken_258 ∧ Mtoken_258 ≤ 15 := by
            first | assumption | omega | grind
          have hv_280 : (0 : Int) ≤ MtokenAt_259 ∧ MtokenAt_259 ≤ 400 := by
            first | assumption | omega | grind
          have hv_281 : (0 : Int) ≤ Mpos_257 ∧ Mpos_257 ≤ 400 := by
            first | assumption | omega | grind
          have hv_282 : (0 : Int) ≤ Mvalue_260 ∧ Mvalue_260 ≤ 99 := by
            first | assumption | omega | grind
          have hv_283 : (0 : Int) ≤ Mthing_263 ∧ Mthing_263 ≤ 104 := by
            first | assumption | omega | grind
          have hv_284 : qM (twoQ f Mtaped Mmany q).2 Mwrong_261 MwrongAt_262 Mtoken_258 MtokenAt_259 Mpos_257 Mvalue_260 := by
            first | (have e := two_y (f := f) (len := Mtaped) (n := Mmany) (q := q) (by omega); rw [e]; assumption) | (have e := two_n (f := f) (len := Mtaped) (n := Mmany) (q := q) (by omega); have e2 := one_n (f := f) (len := Mtaped) (n := Mmany) (q := q) (by omega); rw [e, e2]; assumption)
          have hv_285 : (twoQ f Mtaped Mmany q).2.1 = 0 := by
            first | (have e := two_y (f := f) (len := Mtaped) (n := Mmany) (q := q) (by omega); rw [e]; assumption) | (have e := two_n (f := f) (len := Mtaped) (n := Mmany) (q := q) (by omega); have e2 := one_n (f := f) (len := Mtaped) (n := Mmany) (q := q) (by omega); rw [e, e2]; assumption)
          have hv_286 : Mpos_257 ≤ Mtaped := by
            first | assumption | omega | grind
          have hv_287 : (q.2.2.1 = 1 ∨ q.2.2.1 = 2) → Mthing_263 = thM (twoQ f Mtaped Mmany q).1 := by
            intro z; first | (exfalso; omega) | (have e := two_y (f := f) (len := Mtaped) (n := Mmany) (q := q) (by omega); rw [e]; exact (by assumption : (thQ f Mtaped Mmany (oneQ f Mtaped Mmany q).2).2.1 = 0 → _) (by assumption))
          exact hj_119 (Mwrong_261, MwrongAt_262, Mtoken_258, MtokenAt_259, Mpos_257, Mvalue_260, Mthing_263) _ _ _ ⟨hv_277, hv_278, hv_279, hv_280, hv_281, hv_282, hv_283, hv_284, hv_285, hv_286, hv_287, hw, lv_sub hl [1, 2, 0] rfl⟩
        · skip
          refine z_if_ne (tgt := 92) hx hb dX8_aBar_87 (by decide) (by omega) (fun hc_288 => absurd hc_288 (by omega)) (fun hc_288 => ?_)
          refine z_iconst hx hb dX8_aBar_90 ?_
          have hv_289 : (0 : Int) ≤ Mpos_257 ∧ Mpos_257 ≤ 400 := by
            first | assumption | omega | grind
          have hv_290 : (0 : Int) ≤ Mtoken_258 ∧ Mtoken_258 ≤ 15 := by
            first | assumption | omega | grind
          have hv_291 : (0 : Int) ≤ MtokenAt_259 ∧ MtokenAt_259 ≤ 400 := by
            first | assumption | omega | grind
          have hv_292 : (0 : Int) ≤ Mvalue_260 ∧ Mvalue_260 ≤ 99 := by
            first | assumption | omega | grind
          have hv_293 : (0 : Int) ≤ Mwrong_261 ∧ Mwrong_261 ≤ 3 := by
            first | assumption | omega | grind
          have hv_294 : (0 : Int) ≤ MwrongAt_262 ∧ MwrongAt_262 ≤ 400 := by
            first | assumption | omega | grind
          have hv_295 : (0 : Int) ≤ Mthing_263 ∧ Mthing_263 ≤ 104 := by
            first | assumption | omega | grind
          have hv_296 : ((semQ f Mtaped (thrQ f Mtaped Mmany q).2).1 = 0 ∧ (0 : Int) = 1) ∨ (¬ (semQ f Mtaped (thrQ f Mtaped Mmany q).2).1 = 0 ∧ (0 : Int) = 0) := by
            have e := two_y (f := f) (len := Mtaped) (n := Mmany) (q := q) (by omega)
            rw [fail_two hp4 (by rw [e]; assumption), e]; exact Or.inr ⟨by assumption, rfl⟩
          have hv_297 : qM (semQ f Mtaped (thrQ f Mtaped Mmany q).2) Mwrong_261 MwrongAt_262 Mtoken_258 MtokenAt_259 Mpos_257 Mvalue_260 := by
            have e := two_y (f := f) (len := Mtaped) (n := Mmany) (q := q) (by omega)
            rw [fail_two hp4 (by rw [e]; assumption), e]; assumption
          have hv_298 : Mpos_257 ≤ Mtaped := by
            first | assumption | omega | grind
          have hv_299 : (semQ f Mtaped (thrQ f Mtaped Mmany q).2).1 = 0 → frR (uZ (uZ Mfresh (4 * k) (Mtoken - 10)) ((4 * k) + 1) Mthing_102) k q.2.2.1 (oneQ f Mtaped Mmany q).1 (twoQ f Mtaped Mmany q).1 (thrQ f Mtaped Mmany q).1 := by
            have e := two_y (f := f) (len := Mtaped) (n := Mmany) (q := q) (by omega)
            rw [fail_two hp4 (by rw [e]; assumption), e]; intro z; exact absurd z (by assumption)
          have hv_300 : ∀ j, 0 ≤ j → j < 4 * k → (uZ (uZ Mfresh (4 * k) (Mtoken - 10)) ((4 * k) + 1) Mthing_102) j = Mfresh j := by
            intro j j0 j1
            repeat rw [uZ_n (by omega)]
          exact W.zret (v := zI 0) hx hb hr rfl (fun t9 ht hW => ⟨⟨zI 0, (0, (uZ (uZ Mfresh (4 * k) (Mtoken - 10)) ((4 * k) + 1) Mthing_102), Mpos_257, Mtoken_258, MtokenAt_259, Mvalue_260, Mwrong_261, MwrongAt_262, Mthing_263), rfl, ⟨rfl, ⟨hR_118, hv_289, hv_290, hv_291, hv_292, hv_293, hv_294, hv_295, hv_296, hv_297, hv_298, hv_299, hv_300⟩⟩, by subst hAe; exact z_end hK hw ht hW⟩, by subst hAe; exact hw.2.2.F ht⟩) (by subst hAe; exact hw.2.2.2.2) dX8_aBar_91
    · skip
      refine z_if_ne (tgt := 64) hx hb dX8_aBar_59 (by decide) (by omega) (fun hc_301 => absurd hc_301 (by omega)) (fun hc_301 => ?_)
      refine z_iconst hx hb dX8_aBar_62 ?_
      have hv_302 : (0 : Int) ≤ Mpos_96 ∧ Mpos_96 ≤ 400 := by
        first | assumption | omega | grind
      have hv_303 : (0 : Int) ≤ Mtoken_97 ∧ Mtoken_97 ≤ 15 := by
        first | assumption | omega | grind
      have hv_304 : (0 : Int) ≤ MtokenAt_98 ∧ MtokenAt_98 ≤ 400 := by
        first | assumption | omega | grind
      have hv_305 : (0 : Int) ≤ Mvalue_99 ∧ Mvalue_99 ≤ 99 := by
        first | assumption | omega | grind
      have hv_306 : (0 : Int) ≤ Mwrong_100 ∧ Mwrong_100 ≤ 3 := by
        first | assumption | omega | grind
      have hv_307 : (0 : Int) ≤ MwrongAt_101 ∧ MwrongAt_101 ≤ 400 := by
        first | assumption | omega | grind
      have hv_308 : (0 : Int) ≤ Mthing_102 ∧ Mthing_102 ≤ 104 := by
        first | assumption | omega | grind
      have hv_309 : ((semQ f Mtaped (thrQ f Mtaped Mmany q).2).1 = 0 ∧ (0 : Int) = 1) ∨ (¬ (semQ f Mtaped (thrQ f Mtaped Mmany q).2).1 = 0 ∧ (0 : Int) = 0) := by
        have e := one_n (f := f) (len := Mtaped) (n := Mmany) (q := q) (by omega)
        rw [fail_one hp4 (by rw [e]; assumption), e]; exact Or.inr ⟨by assumption, rfl⟩
      have hv_310 : qM (semQ f Mtaped (thrQ f Mtaped Mmany q).2) Mwrong_100 MwrongAt_101 Mtoken_97 MtokenAt_98 Mpos_96 Mvalue_99 := by
        have e := one_n (f := f) (len := Mtaped) (n := Mmany) (q := q) (by omega)
        rw [fail_one hp4 (by rw [e]; assumption), e]; assumption
      have hv_311 : Mpos_96 ≤ Mtaped := by
        first | assumption | omega | grind
      have hv_312 : (semQ f Mtaped (thrQ f Mtaped Mmany q).2).1 = 0 → frR (uZ Mfresh (4 * k) (Mtoken - 10)) k q.2.2.1 (oneQ f Mtaped Mmany q).1 (twoQ f Mtaped Mmany q).1 (thrQ f Mtaped Mmany q).1 := by
        have e := one_n (f := f) (len := Mtaped) (n := Mmany) (q := q) (by omega)
        rw [fail_one hp4 (by rw [e]; assumption), e]; intro z; exact absurd z (by assumption)
      have hv_313 : ∀ j, 0 ≤ j → j < 4 * k → (uZ Mfresh (4 * k) (Mtoken - 10)) j = Mfresh j := by
        intro j j0 j1
        repeat rw [uZ_n (by omega)]
      exact W.zret (v := zI 0) hx hb hr rfl (fun t9 ht hW => ⟨⟨zI 0, (0, (uZ Mfresh (4 * k) (Mtoken - 10)), Mpos_96, Mtoken_97, MtokenAt_98, Mvalue_99, Mwrong_100, MwrongAt_101, Mthing_102), rfl, ⟨rfl, ⟨hR_87, hv_302, hv_303, hv_304, hv_305, hv_306, hv_307, hv_308, hv_309, hv_310, hv_311, hv_312, hv_313⟩⟩, by subst hAe; exact z_end hK hw ht hW⟩, by subst hAe; exact hw.2.2.F ht⟩) (by subst hAe; exact hw.2.2.2.2) dX8_aBar_63
  · skip
    refine lv_aload_n hx hb dX8_aBar_26 rfl (lv_at hl 1 rfl) ?_
    refine z_iconst hx hb dX8_aBar_27 ?_
    refine z_bipush hx hb dX8_aBar_28 (by decide) ?_
    have hpre_314 : tpR Mtaped f Mtape := by
      first | assumption | omega | exact ok_go hp3.2.1 | exact hp4
    have hpre_315 : qM (goF f Mtaped q) Mwrong MwrongAt Mtoken_6 MtokenAt_7 Mpos_5 Mvalue_8 := by
      first | assumption | omega | exact ok_go hp3.2.1 | exact hp4
    have hpre_316 : Mpos_5 ≤ Mtaped := by
      first | assumption | omega | exact ok_go hp3.2.1 | exact hp4
    have hpre_317 : okQ Mtaped (goF f Mtaped q) := by
      first | assumption | omega | exact ok_go hp3.2.1 | exact hp4
    have hpre_318 : (goF f Mtaped q).1 = 0 := by
      first | assumption | omega | exact ok_go hp3.2.1 | exact hp4
    have hF9 := z_free (wc := kM cI cB cZ oM Mthrown Mmany Mguest Mrow Mbars Mbar (uZ Mfresh (4 * k) (Mtoken - 10)) Mtape Mtaped Mpos_5 Mtoken_6 MtokenAt_7 Mvalue_8 Mwrong MwrongAt MfaultKind MfaultPlace Mthing Morder Mone Mtwo Mbest Mcells Mgap Mwire Mstand Mruns Mminute Mhead Mplays Mrests Mwent Mout Mcame Mgone MlastOut) hw hA [0, 1, 2, 3, 4, 5, 6, 7, 8, 9, 10, 11, 12, 13, 14, 15, 16] rfl
    refine va_calli (va_runV (As := [.int (zI 0), .int (zI 18)]) (rest := []) ⟨hx, hb, hml, hown, hts⟩ (c_X8_number l D cI cB cZ oM H.size Mthrown Mmany Mguest Mrow Mbars Mbar (uZ Mfresh (4 * k) (Mtoken - 10)) Mtape Mtaped Mpos_5 Mtoken_6 MtokenAt_7 Mvalue_8 Mwrong MwrongAt MfaultKind MfaultPlace Mthing Morder Mone Mtwo Mbest Mcells Mgap Mwire Mstand Mruns Mminute Mhead Mplays Mrests Mwent Mout Mcame Mgone MlastOut 0 18 f (goF f Mtaped q) (by omega) (by omega) qMguest qMrow (by omega) qMbar hR_87 qMtape (by omega) (by omega) (by omega) (by omega) (by omega) (by omega) (by omega) (by omega) (by omega) (by omega) qMorder (by omega) (by omega) qMbest (by omega) (by omega) qMwire qMstand (by omega) (by omega) qMhead qMplays qMrests qMwent qMout qMcame qMgone (by omega) (by omega) (by omega) hpre_314 hpre_315 hpre_316 hpre_317 hpre_318) (cwV 2 hts gX8_aBar_X8_number rfl rfl rfl (by decide +kernel) ⟨Nat.le_of_ble_eq_true rfl, Nat.le_of_ble_eq_true rfl⟩) ⟨zPre_blind, va_recv hK hw.1 (ci := 8) (q0 := 0) rfl rfl, z_pre hK hw [0, 1, 2, 3, 4, 5, 6, 7, 8, 9, 10, 11, 12, 13, 14, 15, 16] (by decide) rfl⟩ rfl rfl hl.1 rfl (lv_room (Nat.le_of_ble_eq_true rfl)) dX8_aBar_30 ⟨Nat.zero_le _, Nat.zero_le _⟩) hw.2.2 (fun q _ h => hF9 q h) hF9 (fun r9 u9 t9 H_319 locs9 ht9 hvm9 hq9 hB9 hz9 hk9 hS9 => ?_)
    obtain ⟨r_320, Mpos_321, Mtoken_322, MtokenAt_323, Mvalue_324, Mwrong_325, MwrongAt_326, Mthing_327⟩ := u9
    try dsimp only at hq9 hB9
    obtain ⟨rfl, hq9⟩ := hq9
    obtain ⟨hq_328, hq_329, hq_330, hq_331, hq_332, hq_333, hq_334, hq_335, hq_336, hq_337, hq_338⟩ := hq9
    have hw : HW D A s.heap (kM cI cB cZ oM Mthrown Mmany Mguest Mrow Mbars Mbar (uZ Mfresh (4 * k) (Mtoken - 10)) Mtape Mtaped Mpos_321 Mtoken_322 MtokenAt_323 Mvalue_324 Mwrong_325 MwrongAt_326 MfaultKind MfaultPlace Mthing_327 Morder Mone Mtwo Mbest Mcells Mgap Mwire Mstand Mruns Mminute Mhead Mplays Mrests Mwent Mout Mcame Mgone MlastOut) H_319 locs9 := z_after (wc := kM cI cB cZ oM Mthrown Mmany Mguest Mrow Mbars Mbar (uZ Mfresh (4 * k) (Mtoken - 10)) Mtape Mtaped Mpos_5 Mtoken_6 MtokenAt_7 Mvalue_8 Mwrong MwrongAt MfaultKind MfaultPlace Mthing Morder Mone Mtwo Mbest Mcells Mgap Mwire Mstand Mruns Mminute Mhead Mplays Mrests Mwent Mout Mcame Mgone MlastOut) hw [0, 1, 2, 3, 4, 5, 6, 7, 8, 9, 10, 11, 12, 13, 14, 15, 16] [] rfl rfl (by decide) (by decide) hF9 hk9 ht9 hB9 hS9 [0, 1, 2, 3, 4, 5, 6, 7, 8, 9, 10, 11, 12, 13, 14, 15, 16] (by decide) rfl
    clear hF9 ht9 hvm9 hB9 hz9 hk9 hS9
    rcases hq_335 with ⟨hc_339, rfl⟩ | ⟨hc_339, rfl⟩
    · skip
      refine z_if_ne (tgt := 38) hx hb dX8_aBar_33 (by decide) (by omega) (fun hc_340 => ?_) (fun hc_340 => absurd hc_340 (by omega))
      refine lv_aload_n hx hb dX8_aBar_38 rfl (lv_at hl 1 rfl) ?_
      refine va_get (D := D) (ci := 8) (v := .ref (oM 4)) (C := RX8) (T := TX8) (N := 36) hx hb hts hinX8 hown hK hw.1 0 rfl rfl 6 (by decide) (hts (.fieldLink RX8 19 "CarnivalRoadModel" "fresh" "[I") (by decide +kernel)) (fun _ h9 => h9) rfl dX8_aBar_39 ?_
      refine z_iconst hx hb dX8_aBar_42 ?_
      refine lv_iload_n hx hb dX8_aBar_43 rfl (lv_at hl 2 rfl) ?_
      refine z_imul hx hb dX8_aBar_44 ?_
      refine z_iconst hx hb dX8_aBar_45 ?_
      refine z_iadd hx hb dX8_aBar_46 ?_
      refine lv_aload_n hx hb dX8_aBar_47 rfl (lv_at hl 1 rfl) ?_
      refine va_get (D := D) (ci := 8) (v := .int (zI Mthing_327)) (C := RX8) (T := TX8) (N := 36) hx hb hts hinX8 hown hK hw.1 0 rfl rfl 17 (by decide) (hts (.fieldLink RX8 142 "CarnivalRoadModel" "thing" "I") (by decide +kernel)) (fun _ h9 => h9) rfl dX8_aBar_48 ?_
      have hi_341 : (0 : Int) ≤ ((4 * k) + 3) ∧ ((4 * k) + 3) < ((40 : Nat) : Int) := by
        first | assumption | omega | grind
      have hv_342 : (0 : Int) ≤ Mthing_327 ∧ Mthing_327 ≤ 104 := by
        first | assumption | omega | grind
      have hR_343 : RA (uZ (uZ Mfresh (4 * k) (Mtoken - 10)) ((4 * k) + 3) Mthing_327) (0) 104 := RA_up hR_87 hv_342
      refine z_iast (n := 40) (f := (uZ Mfresh (4 * k) (Mtoken - 10))) (ws2 := kM cI cB cZ oM Mthrown Mmany Mguest Mrow Mbars Mbar (uZ (uZ Mfresh (4 * k) (Mtoken - 10)) ((4 * k) + 3) Mthing_327) Mtape Mtaped Mpos_321 Mtoken_322 MtokenAt_323 Mvalue_324 Mwrong_325 MwrongAt_326 MfaultKind MfaultPlace Mthing_327 Morder Mone Mtwo Mbest Mcells Mgap Mwire Mstand Mruns Mminute Mhead Mplays Mrests Mwent Mout Mcame Mgone MlastOut) hx hb hK hw 4 rfl (by decide) hi_341 dX8_aBar_51 rfl (fun H locs hw => ?_)
      refine lv_goto (tgt := 137) hx hb dX8_aBar_52 (by decide) ?_
      have hv_344 : (0 : Int) ≤ Mwrong_325 ∧ Mwrong_325 ≤ 3 := by
        first | assumption | omega | grind
      have hv_345 : (0 : Int) ≤ MwrongAt_326 ∧ MwrongAt_326 ≤ 400 := by
        first | assumption | omega | grind
      have hv_346 : (0 : Int) ≤ Mtoken_322 ∧ Mtoken_322 ≤ 15 := by
        first | assumption | omega | grind
      have hv_347 : (0 : Int) ≤ MtokenAt_323 ∧ MtokenAt_323 ≤ 400 := by
        first | assumption | omega | grind
      have hv_348 : (0 : Int) ≤ Mpos_321 ∧ Mpos_321 ≤ 400 := by
        first | assumption | omega | grind
      have hv_349 : (0 : Int) ≤ Mvalue_324 ∧ Mvalue_324 ≤ 99 := by
        first | assumption | omega | grind
      have hv_350 : (0 : Int) ≤ Mthing_327 ∧ Mthing_327 ≤ 104 := by
        first | assumption | omega | grind
      have hv_351 : qM (thrQ f Mtaped Mmany q).2 Mwrong_325 MwrongAt_326 Mtoken_322 MtokenAt_323 Mpos_321 Mvalue_324 := by
        first | assumption | (have e := loud_q (f := f) (len := Mtaped) (n := Mmany) (q := q) (by omega); rw [e.2.2]; assumption)
      have hv_352 : (thrQ f Mtaped Mmany q).2.1 = 0 := by
        first | assumption | (have e := loud_q (f := f) (len := Mtaped) (n := Mmany) (q := q) (by omega); rw [e.2.2]; assumption)
      have hv_353 : Mpos_321 ≤ Mtaped := by
        first | assumption | omega | grind
      have hv_354 : frR (uZ (uZ Mfresh (4 * k) (Mtoken - 10)) ((4 * k) + 3) Mthing_327) k q.2.2.1 (oneQ f Mtaped Mmany q).1 (twoQ f Mtaped Mmany q).1 (thrQ f Mtaped Mmany q).1 := by
        first | (exact ⟨by rw [uZ_n (by omega), uZ_s]; omega, fun z => by omega, fun z => by omega, fun _ => by have e := loud_q (f := f) (len := Mtaped) (n := Mmany) (q := q) (by omega); rw [uZ_s, e.2.2]; exact ((by assumption : (numQ f Mtaped 0 18 (goF f Mtaped q)).2.1 = 0 → _ = (numQ f Mtaped 0 18 (goF f Mtaped q)).1 ∧ _) (by assumption)).1⟩) | (exact ⟨by rw [uZ_n (by omega), uZ_n (by omega), uZ_n (by omega), uZ_s]; omega, fun z => by have e := one_n (f := f) (len := Mtaped) (n := Mmany) (q := q) (by omega); rw [uZ_n (by omega), uZ_n (by omega), uZ_s, e]; exact (by assumption : (thQ f Mtaped Mmany (goF f Mtaped q)).2.1 = 0 → _) (by assumption), fun z => by rw [uZ_n (by omega), uZ_s]; exact (by assumption : (q.2.2.1 = 1 ∨ q.2.2.1 = 2) → _ = thM (twoQ f Mtaped Mmany q).1) z, fun z => by rw [uZ_s]; exact (by assumption : q.2.2.1 = 1 → _ = (thrQ f Mtaped Mmany q).1) (by omega)⟩)
      have hv_355 : ∀ j, 0 ≤ j → j < 4 * k → (uZ (uZ Mfresh (4 * k) (Mtoken - 10)) ((4 * k) + 3) Mthing_327) j = Mfresh j := by
        intro j j0 j1
        repeat rw [uZ_n (by omega)]
      exact hj_15 (Mwrong_325, MwrongAt_326, Mtoken_322, MtokenAt_323, Mpos_321, Mvalue_324, Mthing_327, (uZ (uZ Mfresh (4 * k) (Mtoken - 10)) ((4 * k) + 3) Mthing_327)) _ _ _ ⟨hv_344, hv_345, hv_346, hv_347, hv_348, hv_349, hv_350, hR_343, hv_351, hv_352, hv_353, hv_354, hv_355, hw, lv_sub hl [1] rfl⟩
    · skip
      refine z_if_ne (tgt := 38) hx hb dX8_aBar_33 (by decide) (by omega) (fun hc_356 => absurd hc_356 (by omega)) (fun hc_356 => ?_)
      refine z_iconst hx hb dX8_aBar_36 ?_
      have hv_357 : (0 : Int) ≤ Mpos_321 ∧ Mpos_321 ≤ 400 := by
        first | assumption | omega | grind
      have hv_358 : (0 : Int) ≤ Mtoken_322 ∧ Mtoken_322 ≤ 15 := by
        first | assumption | omega | grind
      have hv_359 : (0 : Int) ≤ MtokenAt_323 ∧ MtokenAt_323 ≤ 400 := by
        first | assumption | omega | grind
      have hv_360 : (0 : Int) ≤ Mvalue_324 ∧ Mvalue_324 ≤ 99 := by
        first | assumption | omega | grind
      have hv_361 : (0 : Int) ≤ Mwrong_325 ∧ Mwrong_325 ≤ 3 := by
        first | assumption | omega | grind
      have hv_362 : (0 : Int) ≤ MwrongAt_326 ∧ MwrongAt_326 ≤ 400 := by
        first | assumption | omega | grind
      have hv_363 : (0 : Int) ≤ Mthing_327 ∧ Mthing_327 ≤ 104 := by
        first | assumption | omega | grind
      have hv_364 : ((semQ f Mtaped (thrQ f Mtaped Mmany q).2).1 = 0 ∧ (0 : Int) = 1) ∨ (¬ (semQ f Mtaped (thrQ f Mtaped Mmany q).2).1 = 0 ∧ (0 : Int) = 0) := by
        have e := loud_q (f := f) (len := Mtaped) (n := Mmany) (q := q) (by omega)
        rw [fail_thr (by rw [e.2.2]; assumption), e.2.2]; exact Or.inr ⟨by assumption, rfl⟩
      have hv_365 : qM (semQ f Mtaped (thrQ f Mtaped Mmany q).2) Mwrong_325 MwrongAt_326 Mtoken_322 MtokenAt_323 Mpos_321 Mvalue_324 := by
        have e := loud_q (f := f) (len := Mtaped) (n := Mmany) (q := q) (by omega)
        rw [fail_thr (by rw [e.2.2]; assumption), e.2.2]; assumption
      have hv_366 : Mpos_321 ≤ Mtaped := by
        first | assumption | omega | grind
      have hv_367 : (semQ f Mtaped (thrQ f Mtaped Mmany q).2).1 = 0 → frR (uZ Mfresh (4 * k) (Mtoken - 10)) k q.2.2.1 (oneQ f Mtaped Mmany q).1 (twoQ f Mtaped Mmany q).1 (thrQ f Mtaped Mmany q).1 := by
        have e := loud_q (f := f) (len := Mtaped) (n := Mmany) (q := q) (by omega)
        rw [fail_thr (by rw [e.2.2]; assumption), e.2.2]; intro z; exact absurd z (by assumption)
      have hv_368 : ∀ j, 0 ≤ j → j < 4 * k → (uZ Mfresh (4 * k) (Mtoken - 10)) j = Mfresh j := by
        intro j j0 j1
        repeat rw [uZ_n (by omega)]
      exact W.zret (v := zI 0) hx hb hr rfl (fun t9 ht hW => ⟨⟨zI 0, (0, (uZ Mfresh (4 * k) (Mtoken - 10)), Mpos_321, Mtoken_322, MtokenAt_323, Mvalue_324, Mwrong_325, MwrongAt_326, Mthing_327), rfl, ⟨rfl, ⟨hR_87, hv_357, hv_358, hv_359, hv_360, hv_361, hv_362, hv_363, hv_364, hv_365, hv_366, hv_367, hv_368⟩⟩, by subst hAe; exact z_end hK hw ht hW⟩, by subst hAe; exact hw.2.2.F ht⟩) (by subst hAe; exact hw.2.2.2.2) dX8_aBar_37
