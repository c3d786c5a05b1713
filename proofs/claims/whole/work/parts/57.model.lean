set_option maxRecDepth 100000 in
set_option maxHeartbeats 4000000 in
theorem c_X8_alone (l : Launch) (D : va_G) (cI cB cZ : ClassId) (oM : Nat → Nat) (sz : Nat) (Mthrown : Int) (Mmany : Int) (Mguest : Int → Int) (Mrow : Int → Int) (Mbars : Int) (Mbar : Int → Int) (Mfresh : Int → Int) (Mtape : Int → Int) (Mtaped : Int) (Mpos : Int) (Mtoken : Int) (MtokenAt : Int) (Mvalue : Int) (Mwrong : Int) (MwrongAt : Int) (MfaultKind : Int) (MfaultPlace : Int) (Mthing : Int) (Morder : Int → Int) (Mone : Int) (Mtwo : Int) (Mbest : Int → Int) (Mcells : Int) (Mgap : Int) (Mwire : Int → Int) (Mstand : Int → Int) (Mruns : Int) (Mminute : Int) (Mhead : Int → Int) (Mplays : Int → Int) (Mrests : Int → Int) (Mwent : Int → Int) (Mout : Int → Int) (Mcame : Int → Int) (Mgone : Int → Int) (MlastOut : Int) (ki : Int → Int) (le : Int → Int) (lo : Int → Int) (ta : Int → Int) (sh : Int → Int) (stn : Int → Int) (qMthrown : 0 ≤ Mthrown ∧ Mthrown ≤ 2) (qMmany : 0 ≤ Mmany ∧ Mmany ≤ 8) (qMguest : RA Mguest (0) 9) (qMrow : RA Mrow (0) 7) (qMbars : 0 ≤ Mbars ∧ Mbars ≤ 10) (qMbar : RA Mbar (0) 104) (qMfresh : RA Mfresh (0) 104) (qMtape : RA Mtape (0) 255) (qMtaped : 0 ≤ Mtaped ∧ Mtaped ≤ 400) (qMpos : 0 ≤ Mpos ∧ Mpos ≤ 400) (qMtoken : 0 ≤ Mtoken ∧ Mtoken ≤ 15) (qMtokenAt : 0 ≤ MtokenAt ∧ MtokenAt ≤ 400) (qMvalue : 0 ≤ Mvalue ∧ Mvalue ≤ 99) (qMwrong : 0 ≤ Mwrong ∧ Mwrong ≤ 3) (qMwrongAt : 0 ≤ MwrongAt ∧ MwrongAt ≤ 400) (qMfaultKind : 0 ≤ MfaultKind ∧ MfaultKind ≤ 3) (qMfaultPlace : -1 ≤ MfaultPlace ∧ MfaultPlace ≤ 400) (qMthing : 0 ≤ Mthing ∧ Mthing ≤ 104) (qMorder : RA Morder (0) 7) (qMone : 0 ≤ Mone ∧ Mone ≤ 8) (qMtwo : 0 ≤ Mtwo ∧ Mtwo ≤ 8) (qMbest : RA Mbest (0) 7) (qMcells : 1 ≤ Mcells ∧ Mcells ≤ 50) (qMgap : 0 ≤ Mgap ∧ Mgap ≤ 3) (qMwire : RA Mwire (0) 9) (qMstand : RA Mstand (0) 9) (qMruns : 0 ≤ Mruns ∧ Mruns ≤ 1) (qMminute : 0 ≤ Mminute ∧ Mminute ≤ 1000000) (qMhead : RA Mhead (-1) 60) (qMplays : RA Mplays (0) 18) (qMrests : RA Mrests (0) 3) (qMwent : RA Mwent (0) 61) (qMout : RA Mout (0) 1) (qMcame : RA Mcame (-1) 1000000) (qMgone : RA Mgone (-1) 1000000) (qMlastOut : 0 ≤ MlastOut ∧ MlastOut ≤ 1000000) (hp0 : permP Mmany Mrow) (hp1 : gRel Mmany ki le lo ta sh Mguest) (hp2 : ∀ c, 0 ≤ c → c < Mcells → Mstand c = stn c) (hp3 : ∀ g, 0 ≤ g → g < Mmany → 0 ≤ le g ∧ le g ≤ 5) : Met l yX8_alone wsX8_alone ({ frames := 3, cells := 0, slots := 0, locals := 71 }) (va_Pc [.ref (oM 0)] (zPre D cI cB cZ sz (kM cI cB cZ oM Mthrown Mmany Mguest Mrow Mbars Mbar Mfresh Mtape Mtaped Mpos Mtoken MtokenAt Mvalue Mwrong MwrongAt MfaultKind MfaultPlace Mthing Morder Mone Mtwo Mbest Mcells Mgap Mwire Mstand Mruns Mminute Mhead Mplays Mrests Mwent Mout Mcame Mgone MlastOut))) (va_Qi (fun (r9 : Int32) (u9 : Int × (Int → Int) × (Int → Int) × (Int → Int) × (Int → Int) × (Int → Int)) => r9 = zI u9.1 ∧ ((RA u9.2.1 (-1) 60) ∧ (RA u9.2.2.1 (0) 18) ∧ (RA u9.2.2.2.1 (0) 3) ∧ (RA u9.2.2.2.2.1 (0) 61) ∧ (RA u9.2.2.2.2.2 (0) 1) ∧ (soloM ki le Mcells Mgap stn Mmany u9.1) ∧ (0 ≤ u9.1 ∧ u9.1 ≤ 30000) ∧ (∀ k, k < 8 → u9.2.1 k = Mhead k ∧ u9.2.2.1 k = Mplays k ∧ u9.2.2.2.1 k = Mrests k ∧ u9.2.2.2.2.1 k = Mwent k ∧ u9.2.2.2.2.2 k = Mout k))) (fun u9 t9 => zAt D cI cB cZ (va_A (kM cI cB cZ oM Mthrown Mmany Mguest Mrow Mbars Mbar Mfresh Mtape Mtaped Mpos Mtoken MtokenAt Mvalue Mwrong MwrongAt MfaultKind MfaultPlace Mthing Morder Mone Mtwo Mbest Mcells Mgap Mwire Mstand Mruns Mminute Mhead Mplays Mrests Mwent Mout Mcame Mgone MlastOut) sz) (kM cI cB cZ oM Mthrown Mmany Mguest Mrow Mbars Mbar Mfresh Mtape Mtaped Mpos Mtoken MtokenAt Mvalue Mwrong MwrongAt MfaultKind MfaultPlace Mthing Morder Mone Mtwo Mbest Mcells Mgap Mwire Mstand Mruns Mminute (u9.2.1) (u9.2.2.1) (u9.2.2.2.1) (u9.2.2.2.2.1) (u9.2.2.2.2.2) Mcame Mgone MlastOut) t9) (va_A (kM cI cB cZ oM Mthrown Mmany Mguest Mrow Mbars Mbar Mfresh Mtape Mtaped Mpos Mtoken MtokenAt Mvalue Mwrong MwrongAt MfaultKind MfaultPlace Mthing Morder Mone Mtwo Mbest Mcells Mgap Mwire Mstand Mruns Mminute Mhead Mplays Mrests Mwent Mout Mcame Mgone MlastOut) sz)) 0 0 (va_A (kM cI cB cZ oM Mthrown Mmany Mguest Mrow Mbars Mbar Mfresh Mtape Mtaped Mpos Mtoken MtokenAt Mvalue Mwrong MwrongAt MfaultKind MfaultPlace Mthing Morder Mone Mtwo Mbest Mcells Mgap Mwire Mstand Mruns Mminute Mhead Mplays Mrests Mwent Mout Mcame Mgone MlastOut) sz) := by
  refine Met.ofW (cc := cX8_alone) (maxL := 5) (ret := (some .int)) (by decide) rfl ?_
  intro pp ee s mm aa bw mt cd s₁ BL hml hv
  obtain ⟨rfl, hsz, hP, hK, hD0⟩ := hv
  have hx := BL.exec
  have hb := BL.bytes
  have hr := BL.returns
  have hts := atoms_spec (ws := wsX8_alone) BL.pre
  have hown : s.vm.findClass RX8 = some mm.cls := findClass_of_methodNamed BL.named
  have hlocks := BL.notSynchronized
  subst hsz
  generalize hAe : va_A (kM cI cB cZ oM Mthrown Mmany Mguest Mrow Mbars Mbar Mfresh Mtape Mtaped Mpos Mtoken MtokenAt Mvalue Mwrong MwrongAt MfaultKind MfaultPlace Mthing Morder Mone Mtwo Mbest Mcells Mgap Mwire Mstand Mruns Mminute Mhead Mplays Mrests Mwent Mout Mcame Mgone MlastOut) s.heap.size = A
  have hA : ∀ q : Nat, s.heap.size ≤ q → A q := fun q h => by rw [← hAe]; exact Or.inr h
  have hw : HW D A s.heap (kM cI cB cZ oM Mthrown Mmany Mguest Mrow Mbars Mbar Mfresh Mtape Mtaped Mpos Mtoken MtokenAt Mvalue Mwrong MwrongAt MfaultKind MfaultPlace Mthing Morder Mone Mtwo Mbest Mcells Mgap Mwire Mstand Mruns Mminute Mhead Mplays Mrests Mwent Mout Mcame Mgone MlastOut) s.heap [] := z_start hAe hP hD0
  clear hP hD0
  have hl := lv_entry ([.ref (oM 0)]) (n := 5) (Nat.le_of_ble_eq_true rfl)
  rw [lg_entry_eq]
  generalize (lg_sl ([.ref (oM 0)]) ++ List.replicate (5 - (lg_sl ([.ref (oM 0)])).length) Slot.unset).toArray = ls at hl ⊢
  have hl : lv_has ls 5 [(0, .ref (oM 0))] := hl
  have hinX8 : ∀ w ∈ wsX80, w ∈ wsX8_alone := by decide +kernel
  refine z_iconst hx hb dX8_alone_0 ?_
  refine lv_istore_n (lv' := [(1, .int (zI 0)), (0, .ref (oM 0))]) hx hb dX8_alone_1 rfl hl (by decide) rfl (fun ls hl => ?_)
  refine z_iconst hx hb dX8_alone_2 ?_
  refine lv_istore_n (lv' := [(2, .int (zI 0)), (1, .int (zI 0)), (0, .ref (oM 0))]) hx hb dX8_alone_3 rfl hl (by decide) rfl (fun ls hl => ?_)
  have hv_1 : 0 ≤ (0 : Int) ∧ (0 : Int) ≤ Mmany := by
    first | assumption | omega | grind
  have hv_2 : (0 : Int) ≤ 30000 := by
    first | assumption | omega | grind
  have hv_3 : 0 ≤ (0 : Int) ∧ (∀ a, 0 ≤ a → a < (0 : Int) → ∀ t : Nat, soloE ki le Mcells Mgap stn (Mrow a) t → (t : Int) ≤ (0 : Int)) ∧ ((0 : Int) = 0 ∨ ∃ g, 0 ≤ g ∧ g < Mmany ∧ ∃ t : Nat, (0 : Int) = (t : Int) ∧ soloE ki le Mcells Mgap stn g t) := by
    exact ⟨by omega, fun a a0 a1 => absurd a1 (by omega), Or.inl rfl⟩
  have hv_4 : ∀ k, k < 8 → Mhead k = Mhead k ∧ Mplays k = Mplays k ∧ Mrests k = Mrests k ∧ Mwent k = Mwent k ∧ Mout k = Mout k := by
    exact fun k _ => ⟨rfl, rfl, rfl, rfl, rfl⟩
  refine z_loop (σ := Int × Int × (Int → Int) × (Int → Int) × (Int → Int) × (Int → Int) × (Int → Int)) (μ := fun x9 => (9 - (x9.2.1)).toNat) (I := fun x9 H locs ls => (RA (x9.2.2.1) (-1) 60) ∧ (RA (x9.2.2.2.1) (0) 18) ∧ (RA (x9.2.2.2.2.1) (0) 3) ∧ (RA (x9.2.2.2.2.2.1) (0) 61) ∧ (RA (x9.2.2.2.2.2.2) (0) 1) ∧ (0 ≤ (x9.2.1) ∧ (x9.2.1) ≤ Mmany) ∧ ((x9.1) ≤ 30000) ∧ (0 ≤ (x9.1) ∧ (∀ a, 0 ≤ a → a < (x9.2.1) → ∀ t : Nat, soloE ki le Mcells Mgap stn (Mrow a) t → (t : Int) ≤ (x9.1)) ∧ ((x9.1) = 0 ∨ ∃ g, 0 ≤ g ∧ g < Mmany ∧ ∃ t : Nat, (x9.1) = (t : Int) ∧ soloE ki le Mcells Mgap stn g t)) ∧ (∀ k, k < 8 → (x9.2.2.1) k = Mhead k ∧ (x9.2.2.2.1) k = Mplays k ∧ (x9.2.2.2.2.1) k = Mrests k ∧ (x9.2.2.2.2.2.1) k = Mwent k ∧ (x9.2.2.2.2.2.2) k = Mout k) ∧ HW D A s.heap (kM cI cB cZ oM Mthrown Mmany Mguest Mrow Mbars Mbar Mfresh Mtape Mtaped Mpos Mtoken MtokenAt Mvalue Mwrong MwrongAt MfaultKind MfaultPlace Mthing Morder Mone Mtwo Mbest Mcells Mgap Mwire Mstand Mruns Mminute (x9.2.2.1) (x9.2.2.2.1) (x9.2.2.2.2.1) (x9.2.2.2.2.2.1) (x9.2.2.2.2.2.2) Mcame Mgone MlastOut) H locs ∧ lv_has ls 5 [(0, .ref (oM 0)), (1, .int (zI (x9.1))), (2, .int (zI (x9.2.1)))]) (0, 0, Mhead, Mplays, Mrests, Mwent, Mout) ⟨qMhead, qMplays, qMrests, qMwent, qMout, hv_1, hv_2, hv_3, hv_4, hw, lv_sub hl [2, 1, 0] rfl⟩ ?_
  clear hw hl
  intro x9 H locs ls hI ih_5
  obtain ⟨most_6, i_7, Mhead_8, Mplays_9, Mrests_10, Mwent_11, Mout_12⟩ := x9
  try dsimp only at hI
  obtain ⟨hR_13, hR_14, hR_15, hR_16, hR_17, hI_18, hI_19, hI_20, hI_21, hw, hl⟩ := hI
  refine lv_iload_n hx hb dX8_alone_4 rfl (lv_at hl 2 rfl) ?_
  refine lv_aload_n hx hb dX8_alone_5 rfl (lv_at hl 0 rfl) ?_
  refine va_get (D := D) (ci := 8) (v := .int (zI Mmany)) (C := RX8) (T := TX8) (N := 36) hx hb hts hinX8 hown hK hw.1 0 rfl rfl 1 (by decide) (hts (.fieldLink RX8 72 "CarnivalRoadModel" "many" "I") (by decide +kernel)) (fun _ h9 => h9) rfl dX8_alone_6 ?_
  refine z_icmp_ge (tgt := 83) hx hb dX8_alone_9 (by decide) (by omega) (fun hc_22 => ?_) (fun hc_22 => ?_)
  · skip
    refine lv_iload_n hx hb dX8_alone_83 rfl (lv_at hl 1 rfl) ?_
    have hv_23 : soloM ki le Mcells Mgap stn Mmany most_6 := by
      exact ⟨(by assumption : 0 ≤ most_6 ∧ _ ∧ _).1, fun g g0 g1 t ht => by
        obtain ⟨a, a0, a1, e⟩ := perm_hit hp0 g g0 g1
        rw [← e] at ht
        exact (by assumption : 0 ≤ most_6 ∧ (∀ a, 0 ≤ a → a < i_7 → ∀ t : Nat, soloE ki le Mcells Mgap stn (Mrow a) t → (t : Int) ≤ most_6) ∧ _).2.1 a a0 (by omega) t ht, (by assumption : 0 ≤ most_6 ∧ _ ∧ _).2.2⟩
    have hv_24 : 0 ≤ most_6 ∧ most_6 ≤ 30000 := by
      first | assumption | omega | grind
    have hv_25 : ∀ k, k < 8 → Mhead_8 k = Mhead k ∧ Mplays_9 k = Mplays k ∧ Mrests_10 k = Mrests k ∧ Mwent_11 k = Mwent k ∧ Mout_12 k = Mout k := by
      first | assumption | omega | grind
    exact W.iret (v := zI most_6) hx hb hr (fun t9 ht hW => ⟨⟨zI most_6, (most_6, Mhead_8, Mplays_9, Mrests_10, Mwent_11, Mout_12), rfl, ⟨rfl, ⟨hR_13, hR_14, hR_15, hR_16, hR_17, hv_23, hv_24, hv_25⟩⟩, by subst hAe; exact z_end hK hw ht hW⟩, by subst hAe; exact hw.2.2.F ht⟩) (by subst hAe; exact hw.2.2.2.2) dX8_alone_84
  · skip
    refine lv_aload_n hx hb dX8_alone_12 rfl (lv_at hl 0 rfl) ?_
    refine z_bipush hx hb dX8_alone_13 (by decide) ?_
    refine lv_aload_n hx hb dX8_alone_15 rfl (lv_at hl 0 rfl) ?_
    refine va_get (D := D) (ci := 8) (v := .ref (oM 2)) (C := RX8) (T := TX8) (N := 36) hx hb hts hinX8 hown hK hw.1 0 rfl rfl 3 (by decide) (hts (.fieldLink RX8 13 "CarnivalRoadModel" "row" "[I") (by decide +kernel)) (fun _ h9 => h9) rfl dX8_alone_16 ?_
    refine lv_iload_n hx hb dX8_alone_19 rfl (lv_at hl 2 rfl) ?_
    have hi_26 : (0 : Int) ≤ i_7 ∧ i_7 < ((8 : Nat) : Int) := by
      first | assumption | omega | grind
    refine z_iald (n := 8) (f := Mrow) hx hb hK hw 2 rfl (by decide) hi_26 dX8_alone_20 ?_
    have hq_27 : 0 ≤ Mrow i_7 ∧ Mrow i_7 ≤ 7 := qMrow i_7
    refine z_iadd hx hb dX8_alone_21 ?_
    have hF9 := z_free (wc := kM cI cB cZ oM Mthrown Mmany Mguest Mrow Mbars Mbar Mfresh Mtape Mtaped Mpos Mtoken MtokenAt Mvalue Mwrong MwrongAt MfaultKind MfaultPlace Mthing Morder Mone Mtwo Mbest Mcells Mgap Mwire Mstand Mruns Mminute Mhead_8 Mplays_9 Mrests_10 Mwent_11 Mout_12 Mcame Mgone MlastOut) hw hA [0, 1, 2, 3, 4, 5, 6, 7, 8, 9, 10, 11, 12, 13, 14, 15, 16] rfl
    refine va_callv (va_runV (As := [.int (zI (8 + (Mrow i_7)))]) (rest := []) ⟨hx, hb, hml, hown, hts⟩ (c_X8_clear l D cI cB cZ oM H.size Mthrown Mmany Mguest Mrow Mbars Mbar Mfresh Mtape Mtaped Mpos Mtoken MtokenAt Mvalue Mwrong MwrongAt MfaultKind MfaultPlace Mthing Morder Mone Mtwo Mbest Mcells Mgap Mwire Mstand Mruns Mminute Mhead_8 Mplays_9 Mrests_10 Mwent_11 Mout_12 Mcame Mgone MlastOut (8 + (Mrow i_7)) (by omega) (by omega) qMguest qMrow (by omega) qMbar qMfresh qMtape (by omega) (by omega) (by omega) (by omega) (by omega) (by omega) (by omega) (by omega) (by omega) (by omega) qMorder (by omega) (by omega) qMbest (by omega) (by omega) qMwire qMstand (by omega) (by omega) hR_13 hR_14 hR_15 hR_16 hR_17 qMcame qMgone (by omega) (by omega)) (cwV 1 hts gX8_alone_X8_clear rfl rfl rfl (by decide +kernel) ⟨Nat.le_of_ble_eq_true rfl, Nat.le_of_ble_eq_true rfl⟩) ⟨zPre_blind, va_recv hK hw.1 (ci := 8) (q0 := 0) rfl rfl, z_pre hK hw [0, 1, 2, 3, 4, 5, 6, 7, 8, 9, 10, 11, 12, 13, 14, 15, 16] (by decide) rfl⟩ rfl rfl hl.1 rfl (lv_room (Nat.le_of_ble_eq_true rfl)) dX8_alone_22 ⟨Nat.zero_le _, Nat.zero_le _⟩) hw.2.2 (fun q _ h => hF9 q h) hF9 (fun u9 t9 H_28 locs9 ht9 hvm9 hq9 hB9 hz9 hk9 hS9 => ?_)
    obtain ⟨Mhead_29, Mplays_30, Mrests_31, Mwent_32, Mout_33⟩ := u9
    try dsimp only at hq9 hB9
    obtain ⟨hq_34, hq_35, hq_36, hq_37, hq_38, hq_39, hq_40, hq_41, hq_42, hq_43⟩ := hq9
    have hw : HW D A s.heap (kM cI cB cZ oM Mthrown Mmany Mguest Mrow Mbars Mbar Mfresh Mtape Mtaped Mpos Mtoken MtokenAt Mvalue Mwrong MwrongAt MfaultKind MfaultPlace Mthing Morder Mone Mtwo Mbest Mcells Mgap Mwire Mstand Mruns Mminute Mhead_29 Mplays_30 Mrests_31 Mwent_32 Mout_33 Mcame Mgone MlastOut) H_28 locs9 := z_after (wc := kM cI cB cZ oM Mthrown Mmany Mguest Mrow Mbars Mbar Mfresh Mtape Mtaped Mpos Mtoken MtokenAt Mvalue Mwrong MwrongAt MfaultKind MfaultPlace Mthing Morder Mone Mtwo Mbest Mcells Mgap Mwire Mstand Mruns Mminute Mhead_8 Mplays_9 Mrests_10 Mwent_11 Mout_12 Mcame Mgone MlastOut) hw [0, 1, 2, 3, 4, 5, 6, 7, 8, 9, 10, 11, 12, 13, 14, 15, 16] [] rfl rfl (by decide) (by decide) hF9 hk9 ht9 hB9 hS9 [0, 1, 2, 3, 4, 5, 6, 7, 8, 9, 10, 11, 12, 13, 14, 15, 16] (by decide) rfl
    clear hF9 ht9 hvm9 hB9 hz9 hk9 hS9
    refine z_iconst hx hb dX8_alone_25 ?_
    refine lv_istore_n (lv' := [(3, .int (zI 0)), (0, .ref (oM 0)), (1, .int (zI most_6)), (2, .int (zI i_7))]) hx hb dX8_alone_26 rfl hl (by decide) rfl (fun ls hl => ?_)
    have hri := hp0.1 i_7 (by omega) (by omega)
    obtain ⟨B9, hB9a, hB9b⟩ := solo_ends (ki := ki) (le := le) (gap := Mgap) (cells := Mcells) (stands := stn) (g := Mrow i_7) (by omega) (by have q := hp3 (Mrow i_7) hri.1 hri.2; omega) (fun c c0 c1 => by rw [← hp2 c c0 c1]; exact qMstand c)
    have hv_44 : 0 ≤ (0 : Int) ∧ (0 : Int) ≤ (B9 : Int) := by
      first | assumption | omega | grind
    have hv_45 : s00 = (soloK ki le Mcells Mgap stn (Mrow i_7) (0 : Int).toNat) := by
      rfl
    have hv_46 : simG 8 (Mrow i_7) Mhead_29 Mplays_30 Mrests_31 Mwent_32 Mout_33 s00.1 s00.2.1 s00.2.2.2 := by
      subst_vars
      exact ⟨uZ_s, by rw [uZ_s, uZ_s]; rfl, by rw [uZ_s]; exact ⟨fun z => by omega, fun z => absurd rfl z⟩, uZ_s⟩
    have hv_47 : wgP le Mcells s00 (Mrow i_7) := by
      have q := hp3 (Mrow i_7) hri.1 hri.2
      exact ⟨fun _ => by show (-1 : Int) - le _ + 1 < Mcells; omega, by show (-1 : Int) ≤ -1; omega, by show (0 : Int) ≤ 0; omega, by show (0 : Int) ≤ 21; omega⟩
    have hv_48 : ∀ j : Nat, j < (0 : Int).toNat → (soloK ki le Mcells Mgap stn (Mrow i_7) j).2.2.2 (Mrow i_7) = -1 := by
      exact fun j hj => absurd hj (by omega)
    have hv_49 : most_6 ≤ most_6 ∧ most_6 ≤ max most_6 (0 : Int) ∧ (Mout_33 (8 + Mrow i_7) = 1 → most_6 = max most_6 (0 : Int)) := by
      subst_vars
      rw [uZ_s]
      omega
    have hv_50 : ∀ k, k < 8 → Mhead_29 k = Mhead k ∧ Mplays_30 k = Mplays k ∧ Mrests_31 k = Mrests k ∧ Mwent_32 k = Mwent k ∧ Mout_33 k = Mout k := by
      subst_vars
      intro k k8
      rw [uZ_n (by omega), uZ_n (by omega), uZ_n (by omega), uZ_n (by omega), uZ_n (by omega)]
      revert k8
      revert k
      assumption
    refine z_loop (σ := Int × Int × (Int → Int) × (Int → Int) × (Int → Int) × (Int → Int) × (Int → Int) × PS) (μ := fun x9 => (B9 + 1 - (x9.2.1).toNat)) (I := fun x9 H locs ls => (RA (x9.2.2.1) (-1) 60) ∧ (RA (x9.2.2.2.1) (0) 18) ∧ (RA (x9.2.2.2.2.1) (0) 3) ∧ (RA (x9.2.2.2.2.2.1) (0) 61) ∧ (RA (x9.2.2.2.2.2.2.1) (0) 1) ∧ (0 ≤ (x9.2.1) ∧ (x9.2.1) ≤ (B9 : Int)) ∧ (x9.2.2.2.2.2.2.2 = (soloK ki le Mcells Mgap stn (Mrow i_7) (x9.2.1).toNat)) ∧ (simG 8 (Mrow i_7) (x9.2.2.1) (x9.2.2.2.1) (x9.2.2.2.2.1) (x9.2.2.2.2.2.1) (x9.2.2.2.2.2.2.1) x9.2.2.2.2.2.2.2.1 x9.2.2.2.2.2.2.2.2.1 x9.2.2.2.2.2.2.2.2.2.2) ∧ (wgP le Mcells x9.2.2.2.2.2.2.2 (Mrow i_7)) ∧ (∀ j : Nat, j < (x9.2.1).toNat → (soloK ki le Mcells Mgap stn (Mrow i_7) j).2.2.2 (Mrow i_7) = -1) ∧ (most_6 ≤ (x9.1) ∧ (x9.1) ≤ max most_6 (x9.2.1) ∧ ((x9.2.2.2.2.2.2.1) (8 + Mrow i_7) = 1 → (x9.1) = max most_6 (x9.2.1))) ∧ (∀ k, k < 8 → (x9.2.2.1) k = Mhead k ∧ (x9.2.2.2.1) k = Mplays k ∧ (x9.2.2.2.2.1) k = Mrests k ∧ (x9.2.2.2.2.2.1) k = Mwent k ∧ (x9.2.2.2.2.2.2.1) k = Mout k) ∧ HW D A s.heap (kM cI cB cZ oM Mthrown Mmany Mguest Mrow Mbars Mbar Mfresh Mtape Mtaped Mpos Mtoken MtokenAt Mvalue Mwrong MwrongAt MfaultKind MfaultPlace Mthing Morder Mone Mtwo Mbest Mcells Mgap Mwire Mstand Mruns Mminute (x9.2.2.1) (x9.2.2.2.1) (x9.2.2.2.2.1) (x9.2.2.2.2.2.1) (x9.2.2.2.2.2.2.1) Mcame Mgone MlastOut) H locs ∧ lv_has ls 5 [(0, .ref (oM 0)), (1, .int (zI (x9.1))), (2, .int (zI i_7)), (3, .int (zI (x9.2.1)))]) (most_6, 0, Mhead_29, Mplays_30, Mrests_31, Mwent_32, Mout_33, s00) ⟨hq_34, hq_35, hq_36, hq_37, hq_38, hv_44, hv_45, hv_46, hv_47, hv_48, hv_49, hv_50, hw, lv_sub hl [1, 2, 3, 0] rfl⟩ ?_
    clear hw hl
    intro x9 H locs ls hI ih_51
    obtain ⟨most_52, m_53, Mhead_54, Mplays_55, Mrests_56, Mwent_57, Mout_58, q_59⟩ := x9
    try dsimp only at hI
    obtain ⟨hR_60, hR_61, hR_62, hR_63, hR_64, hI_65, hI_66, hI_67, hI_68, hI_69, hI_70, hI_71, hw, hl⟩ := hI
    have hlt : q_59.2.2.2 (Mrow i_7) = -1 → m_53 < (B9 : Int) := fun z => by
        rcases Int.lt_or_eq_of_le (by assumption : 0 ≤ m_53 ∧ m_53 ≤ (B9 : Int)).2 with y | y
        · exact y
        · exfalso; apply hB9b; rw [show B9 = m_53.toNat by omega, ← (by assumption : q_59 = soloK ki le Mcells Mgap stn (Mrow i_7) m_53.toNat)]; exact z
    have hnq : ¬ Mout_58 (8 + Mrow i_7) = 1 → q_59.2.2.2 (Mrow i_7) = -1 := fun z => Classical.byContradiction fun y => z ((by assumption : simG 8 (Mrow i_7) Mhead_54 Mplays_55 Mrests_56 Mwent_57 Mout_58 q_59.1 q_59.2.1 q_59.2.2.2).2.2.1.mpr y)
    refine lv_aload_n hx hb dX8_alone_27 rfl (lv_at hl 0 rfl) ?_
    refine va_get (D := D) (ci := 8) (v := .ref (oM 14)) (C := RX8) (T := TX8) (N := 36) hx hb hts hinX8 hown hK hw.1 0 rfl rfl 32 (by decide) (hts (.fieldLink RX8 59 "CarnivalRoadModel" "out" "[Z") (by decide +kernel)) (fun _ h9 => h9) rfl dX8_alone_28 ?_
    refine z_bipush hx hb dX8_alone_31 (by decide) ?_
    refine lv_aload_n hx hb dX8_alone_33 rfl (lv_at hl 0 rfl) ?_
    refine va_get (D := D) (ci := 8) (v := .ref (oM 2)) (C := RX8) (T := TX8) (N := 36) hx hb hts hinX8 hown hK hw.1 0 rfl rfl 3 (by decide) (hts (.fieldLink RX8 13 "CarnivalRoadModel" "row" "[I") (by decide +kernel)) (fun _ h9 => h9) rfl dX8_alone_34 ?_
    refine lv_iload_n hx hb dX8_alone_37 rfl (lv_at hl 2 rfl) ?_
    have hi_72 : (0 : Int) ≤ i_7 ∧ i_7 < ((8 : Nat) : Int) := by
      first | assumption | omega | grind
    refine z_iald (n := 8) (f := Mrow) hx hb hK hw 2 rfl (by decide) hi_72 dX8_alone_38 ?_
    have hq_73 : 0 ≤ Mrow i_7 ∧ Mrow i_7 ≤ 7 := qMrow i_7
    refine z_iadd hx hb dX8_alone_39 ?_
    have hi_74 : (0 : Int) ≤ (8 + (Mrow i_7)) ∧ (8 + (Mrow i_7)) < ((16 : Nat) : Int) := by
      first | assumption | omega | grind
    refine z_zald (n := 16) (f := Mout_58) hx hb hK hw 14 rfl (by decide) hi_74 dX8_alone_40 ?_
    have hq_75 : 0 ≤ Mout_58 (8 + (Mrow i_7)) ∧ Mout_58 (8 + (Mrow i_7)) ≤ 1 := hR_64 (8 + (Mrow i_7))
    refine z_if_ne (tgt := 77) hx hb dX8_alone_41 (by decide) (by omega) (fun hc_76 => ?_) (fun hc_76 => ?_)
    · skip
      refine z_iinc (k := 2) (lv' := [(2, .int (zI (i_7 + 1))), (0, .ref (oM 0)), (1, .int (zI most_52)), (3, .int (zI m_53))]) hx hb dX8_alone_77 hl rfl (by decide) rfl (fun ls hl => ?_)
      refine lv_goto (tgt := 4) hx hb dX8_alone_80 (by decide) ?_
      have hv_77 : 0 ≤ (i_7 + 1) ∧ (i_7 + 1) ≤ Mmany := by
        first | assumption | omega | grind
      have hv_78 : most_52 ≤ 30000 := by
        have hz := (by assumption : most_6 ≤ most_52 ∧ most_52 ≤ max most_6 m_53 ∧ _)
        omega
      have hv_79 : 0 ≤ most_52 ∧ (∀ a, 0 ≤ a → a < (i_7 + 1) → ∀ t : Nat, soloE ki le Mcells Mgap stn (Mrow a) t → (t : Int) ≤ most_52) ∧ (most_52 = 0 ∨ ∃ g, 0 ≤ g ∧ g < Mmany ∧ ∃ t : Nat, most_52 = (t : Int) ∧ soloE ki le Mcells Mgap stn g t) := by
        exact solo_grow (row := Mrow) (t := m_53.toNat) (by assumption) (hp0.1 i_7 (by omega) (by omega)) ⟨by rw [← (by assumption : q_59 = soloK ki le Mcells Mgap stn (Mrow i_7) m_53.toNat)]; exact (by assumption : simG 8 (Mrow i_7) _ _ _ _ _ _ _ _).2.2.1.mp (by omega), by assumption⟩ (by have hz := (by assumption : most_6 ≤ most_52 ∧ most_52 ≤ max most_6 m_53 ∧ _); omega)
      have hv_80 : ∀ k, k < 8 → Mhead_54 k = Mhead k ∧ Mplays_55 k = Mplays k ∧ Mrests_56 k = Mrests k ∧ Mwent_57 k = Mwent k ∧ Mout_58 k = Mout k := by
        first | assumption | omega | grind
      have hm_81 : (9 - (i_7 + 1)).toNat < (9 - i_7).toNat := by
        first | assumption | omega | grind
      exact ih_5 (most_52, (i_7 + 1), Mhead_54, Mplays_55, Mrests_56, Mwent_57, Mout_58) _ _ _ ⟨hR_60, hR_61, hR_62, hR_63, hR_64, hv_77, hv_78, hv_79, hv_80, hw, lv_sub hl [1, 2, 0] rfl⟩ hm_81
    · skip
      refine z_iinc (k := 3) (lv' := [(3, .int (zI (m_53 + 1))), (0, .ref (oM 0)), (1, .int (zI most_52)), (2, .int (zI i_7))]) hx hb dX8_alone_44 hl rfl (by decide) rfl (fun ls hl => ?_)
      refine lv_aload_n hx hb dX8_alone_47 rfl (lv_at hl 1 rfl) ?_
      refine z_bipush hx hb dX8_alone_48 (by decide) ?_
      refine lv_iload_n hx hb dX8_alone_50 rfl (lv_at hl 3 rfl) ?_
      refine lv_iload_n hx hb dX8_alone_51 rfl (lv_at hl 0 rfl) ?_
      refine z_iconst hx hb dX8_alone_52 ?_
      have hpre_82 : (8 : Int) = 0 ∨ (8 : Int) = 8 := by
        first | assumption | omega | grind
      have hpre_83 : i_7 < Mmany := by
        first | assumption | omega | grind
      have hpre_84 : ∀ i, 0 ≤ i → i < Mmany → 0 ≤ Mrow i ∧ Mrow i < Mmany := by
        exact hp0.1
      have hpre_85 : gRel Mmany ki le lo ta sh Mguest := by
        first | assumption | omega | grind
      have hpre_86 : simG (8 : Int) (Mrow i_7) Mhead_54 Mplays_55 Mrests_56 Mwent_57 Mout_58 (q_59.1) (q_59.2.1) (q_59.2.2.2) := by
        assumption
      have hpre_87 : (q_59.2.2.2) (Mrow i_7) = -1 → (q_59.1) (Mrow i_7) - le (Mrow i_7) + 1 < Mcells := by
        exact (by assumption : wgP le Mcells q_59 (Mrow i_7)).1
      have hF9 := z_free (wc := kM cI cB cZ oM Mthrown Mmany Mguest Mrow Mbars Mbar Mfresh Mtape Mtaped Mpos Mtoken MtokenAt Mvalue Mwrong MwrongAt MfaultKind MfaultPlace Mthing Morder Mone Mtwo Mbest Mcells Mgap Mwire Mstand Mruns Mminute Mhead_54 Mplays_55 Mrests_56 Mwent_57 Mout_58 Mcame Mgone MlastOut) hw hA [0, 1, 2, 3, 4, 5, 6, 7, 8, 9, 10, 11, 12, 13, 14, 15, 16] rfl
      refine va_calli (va_runV (As := [.int (zI 8), .int (zI i_7), .int (zI (m_53 + 1)), .int (zI 1)]) (rest := []) ⟨hx, hb, hml, hown, hts⟩ (c_X8_goes1 l D cI cB cZ oM H.size Mthrown Mmany Mguest Mrow Mbars Mbar Mfresh Mtape Mtaped Mpos Mtoken MtokenAt Mvalue Mwrong MwrongAt MfaultKind MfaultPlace Mthing Morder Mone Mtwo Mbest Mcells Mgap Mwire Mstand Mruns Mminute Mhead_54 Mplays_55 Mrests_56 Mwent_57 Mout_58 Mcame Mgone MlastOut 8 i_7 (m_53 + 1) 1 ki le lo ta sh (q_59.1) (q_59.2.1) (q_59.2.2.1) (q_59.2.2.2) (by omega) (by omega) qMguest qMrow (by omega) qMbar qMfresh qMtape (by omega) (by omega) (by omega) (by omega) (by omega) (by omega) (by omega) (by omega) (by omega) (by omega) qMorder (by omega) (by omega) qMbest (by omega) (by omega) qMwire qMstand (by omega) (by omega) hR_60 hR_61 hR_62 hR_63 hR_64 qMcame qMgone (by omega) (by first | omega | (have hz := hlt (hnq (by omega)); omega)) (by first | omega | (have hz := hlt (hnq (by omega)); omega)) (by first | omega | (have hz := hlt (hnq (by omega)); omega)) (by first | omega | (have hz := hlt (hnq (by omega)); omega)) hpre_82 hpre_83 hpre_84 hpre_85 hpre_86 hpre_87) (cwV 4 hts gX8_alone_X8_goes rfl rfl rfl (by decide +kernel) ⟨Nat.le_of_ble_eq_true rfl, Nat.le_of_ble_eq_true rfl⟩) ⟨zPre_blind, va_recv hK hw.1 (ci := 8) (q0 := 0) rfl rfl, z_pre hK hw [0, 1, 2, 3, 4, 5, 6, 7, 8, 9, 10, 11, 12, 13, 14, 15, 16] (by decide) rfl⟩ rfl rfl hl.1 rfl (lv_room (Nat.le_of_ble_eq_true rfl)) dX8_alone_53 ⟨Nat.zero_le _, Nat.zero_le _⟩) hw.2.2 (fun q _ h => hF9 q h) hF9 (fun r9 u9 t9 H_88 locs9 ht9 hvm9 hq9 hB9 hz9 hk9 hS9 => ?_)
      obtain ⟨r_89, Mhead_90, Mplays_91, Mrests_92, Mwent_93, Mout_94⟩ := u9
      try dsimp only at hq9 hB9
      obtain ⟨rfl, hq9⟩ := hq9
      obtain ⟨hq_95, hq_96, hq_97, hq_98, hq_99, hq_100, hq_101⟩ := hq9
      have hw : HW D A s.heap (kM cI cB cZ oM Mthrown Mmany Mguest Mrow Mbars Mbar Mfresh Mtape Mtaped Mpos Mtoken MtokenAt Mvalue Mwrong MwrongAt MfaultKind MfaultPlace Mthing Morder Mone Mtwo Mbest Mcells Mgap Mwire Mstand Mruns Mminute Mhead_90 Mplays_91 Mrests_92 Mwent_93 Mout_94 Mcame Mgone MlastOut) H_88 locs9 := z_after (wc := kM cI cB cZ oM Mthrown Mmany Mguest Mrow Mbars Mbar Mfresh Mtape Mtaped Mpos Mtoken MtokenAt Mvalue Mwrong MwrongAt MfaultKind MfaultPlace Mthing Morder Mone Mtwo Mbest Mcells Mgap Mwire Mstand Mruns Mminute Mhead_54 Mplays_55 Mrests_56 Mwent_57 Mout_58 Mcame Mgone MlastOut) hw [0, 1, 2, 3, 4, 5, 6, 7, 8, 9, 10, 11, 12, 13, 14, 15, 16] [] rfl rfl (by decide) (by decide) hF9 hk9 ht9 hB9 hS9 [0, 1, 2, 3, 4, 5, 6, 7, 8, 9, 10, 11, 12, 13, 14, 15, 16] (by decide) rfl
      clear hF9 ht9 hvm9 hB9 hz9 hk9 hS9
      refine lv_istore (lv' := [(4, .int (zI r_89)), (3, .int (zI (m_53 + 1))), (0, .ref (oM 0)), (1, .int (zI most_52)), (2, .int (zI i_7))]) hx hb dX8_alone_56 hl (by decide) rfl (fun ls hl => ?_)
      refine lv_iload hx hb dX8_alone_58 (lv_at hl 0 rfl) ?_
      refine z_if_eq (tgt := 72) hx hb dX8_alone_60 (by decide) (by omega) (fun hc_102 => ?_) (fun hc_102 => ?_)
      · skip
        refine lv_iload_n hx hb dX8_alone_72 rfl (lv_at hl 3 rfl) ?_
        refine lv_istore_n (lv' := [(1, .int (zI most_52)), (4, .int (zI r_89)), (3, .int (zI (m_53 + 1))), (0, .ref (oM 0)), (2, .int (zI i_7))]) hx hb dX8_alone_73 rfl hl (by decide) rfl (fun ls hl => ?_)
        refine lv_goto (tgt := 27) hx hb dX8_alone_74 (by decide) ?_
        have hv_103 : 0 ≤ (m_53 + 1) ∧ (m_53 + 1) ≤ (B9 : Int) := by
          have hz := hlt (hnq (by omega))
          omega
        have hv_104 : (soloK ki le Mcells Mgap stn (Mrow i_7) (m_53 + 1).toNat) = (soloK ki le Mcells Mgap stn (Mrow i_7) (m_53 + 1).toNat) := by
          rfl
        have hv_105 : simG 8 (Mrow i_7) Mhead_90 Mplays_91 Mrests_92 Mwent_93 Mout_94 (soloK ki le Mcells Mgap stn (Mrow i_7) (m_53 + 1).toNat).1 (soloK ki le Mcells Mgap stn (Mrow i_7) (m_53 + 1).toNat).2.1 (soloK ki le Mcells Mgap stn (Mrow i_7) (m_53 + 1).toNat).2.2.2 := by
          have hgo : soloK ki le Mcells Mgap stn (Mrow i_7) (m_53 + 1).toNat = goG ki le Mcells Mstand (m_53 + 1) (Mrow i_7) True q_59 := by
            rw [show (m_53 + 1).toNat = m_53.toNat + 1 by omega, solo_step (room := True) True.intro, show ((m_53.toNat : Nat) : Int) = m_53 by omega, ← (by assumption : q_59 = soloK ki le Mcells Mgap stn (Mrow i_7) m_53.toNat)]
            exact (goG_congr hp2 Iff.rfl).symm
          rw [hgo]
          exact (by assumption : goPost1 8 (Mrow i_7) _ _ _ _ _ _ _ _ _ _ _ _).1
        have hv_106 : wgP le Mcells (soloK ki le Mcells Mgap stn (Mrow i_7) (m_53 + 1).toNat) (Mrow i_7) := by
          have hgo : soloK ki le Mcells Mgap stn (Mrow i_7) (m_53 + 1).toNat = goG ki le Mcells Mstand (m_53 + 1) (Mrow i_7) True q_59 := by
            rw [show (m_53 + 1).toNat = m_53.toNat + 1 by omega, solo_step (room := True) True.intro, show ((m_53.toNat : Nat) : Int) = m_53 by omega, ← (by assumption : q_59 = soloK ki le Mcells Mgap stn (Mrow i_7) m_53.toNat)]
            exact (goG_congr hp2 Iff.rfl).symm
          rw [hgo]
          exact (goG_self (by assumption) (fun c _ _ => qMstand c) (by omega)).1
        have hv_107 : ∀ j : Nat, j < (m_53 + 1).toNat → (soloK ki le Mcells Mgap stn (Mrow i_7) j).2.2.2 (Mrow i_7) = -1 := by
          intro j hj
          by_cases e : j = m_53.toNat
          · rw [e, ← (by assumption : q_59 = soloK ki le Mcells Mgap stn (Mrow i_7) m_53.toNat)]; exact hnq (by omega)
          · exact (by assumption : ∀ j : Nat, j < m_53.toNat → (soloK ki le Mcells Mgap stn (Mrow i_7) j).2.2.2 (Mrow i_7) = -1) j (by omega)
        have hv_108 : most_6 ≤ most_52 ∧ most_52 ≤ max most_6 (m_53 + 1) ∧ (Mout_94 (8 + Mrow i_7) = 1 → most_52 = max most_6 (m_53 + 1)) := by
          have hz := (by assumption : goPost1 8 (Mrow i_7) _ _ _ _ _ _ _ _ _ _ _ _).2.2
          omega
        have hv_109 : ∀ k, k < 8 → Mhead_90 k = Mhead k ∧ Mplays_91 k = Mplays k ∧ Mrests_92 k = Mrests k ∧ Mwent_93 k = Mwent k ∧ Mout_94 k = Mout k := by
          intro k k8
          have q1 := (by assumption : goPost1 8 (Mrow i_7) _ _ _ _ _ _ _ _ _ _ _ _).2.1 k (by omega)
          have q2 := (by assumption : ∀ k, k < 8 → Mhead_54 k = Mhead k ∧ Mplays_55 k = Mplays k ∧ Mrests_56 k = Mrests k ∧ Mwent_57 k = Mwent k ∧ Mout_58 k = Mout k) k k8
          exact ⟨q1.1.trans q2.1, q1.2.1.trans q2.2.1, q1.2.2.1.trans q2.2.2.1, q1.2.2.2.1.trans q2.2.2.2.1, q1.2.2.2.2.trans q2.2.2.2.2⟩
        have hm_110 : (B9 + 1 - (m_53 + 1).toNat) < (B9 + 1 - m_53.toNat) := by
          have hz := hlt (hnq (by omega))
          omega
        exact ih_51 (most_52, (m_53 + 1), Mhead_90, Mplays_91, Mrests_92, Mwent_93, Mout_94, (soloK ki le Mcells Mgap stn (Mrow i_7) (m_53 + 1).toNat)) _ _ _ ⟨hq_95, hq_96, hq_97, hq_98, hq_99, hv_103, hv_104, hv_105, hv_106, hv_107, hv_108, hv_109, hw, lv_sub hl [3, 0, 4, 2] rfl⟩ hm_110
      · skip
        refine lv_iload_n hx hb dX8_alone_63 rfl (lv_at hl 1 rfl) ?_
        refine lv_iload_n hx hb dX8_alone_64 rfl (lv_at hl 3 rfl) ?_
        refine z_icmp_le (tgt := 72) hx hb dX8_alone_65 (by decide) (by omega) (fun hc_111 => ?_) (fun hc_111 => ?_)
        · skip
          refine lv_iload_n hx hb dX8_alone_72 rfl (lv_at hl 3 rfl) ?_
          refine lv_istore_n (lv' := [(1, .int (zI most_52)), (4, .int (zI r_89)), (3, .int (zI (m_53 + 1))), (0, .ref (oM 0)), (2, .int (zI i_7))]) hx hb dX8_alone_73 rfl hl (by decide) rfl (fun ls hl => ?_)
          refine lv_goto (tgt := 27) hx hb dX8_alone_74 (by decide) ?_
          have hv_112 : 0 ≤ (m_53 + 1) ∧ (m_53 + 1) ≤ (B9 : Int) := by
            have hz := hlt (hnq (by omega))
            omega
          have hv_113 : (soloK ki le Mcells Mgap stn (Mrow i_7) (m_53 + 1).toNat) = (soloK ki le Mcells Mgap stn (Mrow i_7) (m_53 + 1).toNat) := by
            rfl
          have hv_114 : simG 8 (Mrow i_7) Mhead_90 Mplays_91 Mrests_92 Mwent_93 Mout_94 (soloK ki le Mcells Mgap stn (Mrow i_7) (m_53 + 1).toNat).1 (soloK ki le Mcells Mgap stn (Mrow i_7) (m_53 + 1).toNat).2.1 (soloK ki le Mcells Mgap stn (Mrow i_7) (m_53 + 1).toNat).2.2.2 := by
            have hgo : soloK ki le Mcells Mgap stn (Mrow i_7) (m_53 + 1).toNat = goG ki le Mcells Mstand (m_53 + 1) (Mrow i_7) True q_59 := by
              rw [show (m_53 + 1).toNat = m_53.toNat + 1 by omega, solo_step (room := True) True.intro, show ((m_53.toNat : Nat) : Int) = m_53 by omega, ← (by assumption : q_59 = soloK ki le Mcells Mgap stn (Mrow i_7) m_53.toNat)]
              exact (goG_congr hp2 Iff.rfl).symm
            rw [hgo]
            exact (by assumption : goPost1 8 (Mrow i_7) _ _ _ _ _ _ _ _ _ _ _ _).1
          have hv_115 : wgP le Mcells (soloK ki le Mcells Mgap stn (Mrow i_7) (m_53 + 1).toNat) (Mrow i_7) := by
            have hgo : soloK ki le Mcells Mgap stn (Mrow i_7) (m_53 + 1).toNat = goG ki le Mcells Mstand (m_53 + 1) (Mrow i_7) True q_59 := by
              rw [show (m_53 + 1).toNat = m_53.toNat + 1 by omega, solo_step (room := True) True.intro, show ((m_53.toNat : Nat) : Int) = m_53 by omega, ← (by assumption : q_59 = soloK ki le Mcells Mgap stn (Mrow i_7) m_53.toNat)]
              exact (goG_congr hp2 Iff.rfl).symm
            rw [hgo]
            exact (goG_self (by assumption) (fun c _ _ => qMstand c) (by omega)).1
          have hv_116 : ∀ j : Nat, j < (m_53 + 1).toNat → (soloK ki le Mcells Mgap stn (Mrow i_7) j).2.2.2 (Mrow i_7) = -1 := by
            intro j hj
            by_cases e : j = m_53.toNat
            · rw [e, ← (by assumption : q_59 = soloK ki le Mcells Mgap stn (Mrow i_7) m_53.toNat)]; exact hnq (by omega)
            · exact (by assumption : ∀ j : Nat, j < m_53.toNat → (soloK ki le Mcells Mgap stn (Mrow i_7) j).2.2.2 (Mrow i_7) = -1) j (by omega)
          have hv_117 : most_6 ≤ most_52 ∧ most_52 ≤ max most_6 (m_53 + 1) ∧ (Mout_94 (8 + Mrow i_7) = 1 → most_52 = max most_6 (m_53 + 1)) := by
            have hz := (by assumption : goPost1 8 (Mrow i_7) _ _ _ _ _ _ _ _ _ _ _ _).2.2
            omega
          have hv_118 : ∀ k, k < 8 → Mhead_90 k = Mhead k ∧ Mplays_91 k = Mplays k ∧ Mrests_92 k = Mrests k ∧ Mwent_93 k = Mwent k ∧ Mout_94 k = Mout k := by
            intro k k8
            have q1 := (by assumption : goPost1 8 (Mrow i_7) _ _ _ _ _ _ _ _ _ _ _ _).2.1 k (by omega)
            have q2 := (by assumption : ∀ k, k < 8 → Mhead_54 k = Mhead k ∧ Mplays_55 k = Mplays k ∧ Mrests_56 k = Mrests k ∧ Mwent_57 k = Mwent k ∧ Mout_58 k = Mout k) k k8
            exact ⟨q1.1.trans q2.1, q1.2.1.trans q2.2.1, q1.2.2.1.trans q2.2.2.1, q1.2.2.2.1.trans q2.2.2.2.1, q1.2.2.2.2.trans q2.2.2.2.2⟩
          have hm_119 : (B9 + 1 - (m_53 + 1).toNat) < (B9 + 1 - m_53.toNat) := by
            have hz := hlt (hnq (by omega))
            omega
          exact ih_51 (most_52, (m_53 + 1), Mhead_90, Mplays_91, Mrests_92, Mwent_93, Mout_94, (soloK ki le Mcells Mgap stn (Mrow i_7) (m_53 + 1).toNat)) _ _ _ ⟨hq_95, hq_96, hq_97, hq_98, hq_99, hv_112, hv_113, hv_114, hv_115, hv_116, hv_117, hv_118, hw, lv_sub hl [3, 0, 4, 2] rfl⟩ hm_119
        · skip
          refine lv_iload_n hx hb dX8_alone_68 rfl (lv_at hl 1 rfl) ?_
          refine lv_goto (tgt := 73) hx hb dX8_alone_69 (by decide) ?_
          refine lv_istore_n (lv' := [(1, .int (zI (m_53 + 1))), (4, .int (zI r_89)), (3, .int (zI (m_53 + 1))), (0, .ref (oM 0)), (2, .int (zI i_7))]) hx hb dX8_alone_73 rfl hl (by decide) rfl (fun ls hl => ?_)
          refine lv_goto (tgt := 27) hx hb dX8_alone_74 (by decide) ?_
          have hv_120 : 0 ≤ (m_53 + 1) ∧ (m_53 + 1) ≤ (B9 : Int) := by
            have hz := hlt (hnq (by omega))
            omega
          have hv_121 : (soloK ki le Mcells Mgap stn (Mrow i_7) (m_53 + 1).toNat) = (soloK ki le Mcells Mgap stn (Mrow i_7) (m_53 + 1).toNat) := by
            rfl
          have hv_122 : simG 8 (Mrow i_7) Mhead_90 Mplays_91 Mrests_92 Mwent_93 Mout_94 (soloK ki le Mcells Mgap stn (Mrow i_7) (m_53 + 1).toNat).1 (soloK ki le Mcells Mgap stn (Mrow i_7) (m_53 + 1).toNat).2.1 (soloK ki le Mcells Mgap stn (Mrow i_7) (m_53 + 1).toNat).2.2.2 := by
            have hgo : soloK ki le Mcells Mgap stn (Mrow i_7) (m_53 + 1).toNat = goG ki le Mcells Mstand (m_53 + 1) (Mrow i_7) True q_59 := by
              rw [show (m_53 + 1).toNat = m_53.toNat + 1 by omega, solo_step (room := True) True.intro, show ((m_53.toNat : Nat) : Int) = m_53 by omega, ← (by assumption : q_59 = soloK ki le Mcells Mgap stn (Mrow i_7) m_53.toNat)]
              exact (goG_congr hp2 Iff.rfl).symm
            rw [hgo]
            exact (by assumption : goPost1 8 (Mrow i_7) _ _ _ _ _ _ _ _ _ _ _ _).1
          have hv_123 : wgP le Mcells (soloK ki le Mcells Mgap stn (Mrow i_7) (m_53 + 1).toNat) (Mrow i_7) := by
            have hgo : soloK ki le Mcells Mgap stn (Mrow i_7) (m_53 + 1).toNat = goG ki le Mcells Mstand (m_53 + 1) (Mrow i_7) True q_59 := by
              rw [show (m_53 + 1).toNat = m_53.toNat + 1 by omega, solo_step (room := True) True.intro, show ((m_53.toNat : Nat) : Int) = m_53 by omega, ← (by assumption : q_59 = soloK ki le Mcells Mgap stn (Mrow i_7) m_53.toNat)]
              exact (goG_congr hp2 Iff.rfl).symm
            rw [hgo]
            exact (goG_self (by assumption) (fun c _ _ => qMstand c) (by omega)).1
          have hv_124 : ∀ j : Nat, j < (m_53 + 1).toNat → (soloK ki le Mcells Mgap stn (Mrow i_7) j).2.2.2 (Mrow i_7) = -1 := by
            intro j hj
            by_cases e : j = m_53.toNat
            · rw [e, ← (by assumption : q_59 = soloK ki le Mcells Mgap stn (Mrow i_7) m_53.toNat)]; exact hnq (by omega)
            · exact (by assumption : ∀ j : Nat, j < m_53.toNat → (soloK ki le Mcells Mgap stn (Mrow i_7) j).2.2.2 (Mrow i_7) = -1) j (by omega)
          have hv_125 : most_6 ≤ (m_53 + 1) ∧ (m_53 + 1) ≤ max most_6 (m_53 + 1) ∧ (Mout_94 (8 + Mrow i_7) = 1 → (m_53 + 1) = max most_6 (m_53 + 1)) := by
            have hz := (by assumption : goPost1 8 (Mrow i_7) _ _ _ _ _ _ _ _ _ _ _ _).2.2
            omega
          have hv_126 : ∀ k, k < 8 → Mhead_90 k = Mhead k ∧ Mplays_91 k = Mplays k ∧ Mrests_92 k = Mrests k ∧ Mwent_93 k = Mwent k ∧ Mout_94 k = Mout k := by
            intro k k8
            have q1 := (by assumption : goPost1 8 (Mrow i_7) _ _ _ _ _ _ _ _ _ _ _ _).2.1 k (by omega)
            have q2 := (by assumption : ∀ k, k < 8 → Mhead_54 k = Mhead k ∧ Mplays_55 k = Mplays k ∧ Mrests_56 k = Mrests k ∧ Mwent_57 k = Mwent k ∧ Mout_58 k = Mout k) k k8
            exact ⟨q1.1.trans q2.1, q1.2.1.trans q2.2.1, q1.2.2.1.trans q2.2.2.1, q1.2.2.2.1.trans q2.2.2.2.1, q1.2.2.2.2.trans q2.2.2.2.2⟩
          have hm_127 : (B9 + 1 - (m_53 + 1).toNat) < (B9 + 1 - m_53.toNat) := by
            have hz := hlt (hnq (by omega))
            omega
          exact ih_51 ((m_53 + 1), (m_53 + 1), Mhead_90, Mplays_91, Mrests_92, Mwent_93, Mout_94, (soloK ki le Mcells Mgap stn (Mrow i_7) (m_53 + 1).toNat)) _ _ _ ⟨hq_95, hq_96, hq_97, hq_98, hq_99, hv_120, hv_121, hv_122, hv_123, hv_124, hv_125, hv_126, hw, lv_sub hl [3, 0, 4, 2] rfl⟩ hm_127
