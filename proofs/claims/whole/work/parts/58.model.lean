set_option maxRecDepth 100000 in
set_option maxHeartbeats 4000000 in
theorem c_X8_ends (l : Launch) (D : va_G) (cI cB cZ : ClassId) (oM : Nat → Nat) (sz : Nat) (Mthrown : Int) (Mmany : Int) (Mguest : Int → Int) (Mrow : Int → Int) (Mbars : Int) (Mbar : Int → Int) (Mfresh : Int → Int) (Mtape : Int → Int) (Mtaped : Int) (Mpos : Int) (Mtoken : Int) (MtokenAt : Int) (Mvalue : Int) (Mwrong : Int) (MwrongAt : Int) (MfaultKind : Int) (MfaultPlace : Int) (Mthing : Int) (Morder : Int → Int) (Mone : Int) (Mtwo : Int) (Mbest : Int → Int) (Mcells : Int) (Mgap : Int) (Mwire : Int → Int) (Mstand : Int → Int) (Mruns : Int) (Mminute : Int) (Mhead : Int → Int) (Mplays : Int → Int) (Mrests : Int → Int) (Mwent : Int → Int) (Mout : Int → Int) (Mcame : Int → Int) (Mgone : Int → Int) (MlastOut : Int) (w : Int) (ki : Int → Int) (le : Int → Int) (lo : Int → Int) (ta : Int → Int) (sh : Int → Int) (ln : Int → Int) (stn : Int → Int) (s0 : PS) (B : Nat) (qMthrown : 0 ≤ Mthrown ∧ Mthrown ≤ 2) (qMmany : 0 ≤ Mmany ∧ Mmany ≤ 8) (qMguest : RA Mguest (0) 9) (qMrow : RA Mrow (0) 7) (qMbars : 0 ≤ Mbars ∧ Mbars ≤ 10) (qMbar : RA Mbar (0) 104) (qMfresh : RA Mfresh (0) 104) (qMtape : RA Mtape (0) 255) (qMtaped : 0 ≤ Mtaped ∧ Mtaped ≤ 400) (qMpos : 0 ≤ Mpos ∧ Mpos ≤ 400) (qMtoken : 0 ≤ Mtoken ∧ Mtoken ≤ 15) (qMtokenAt : 0 ≤ MtokenAt ∧ MtokenAt ≤ 400) (qMvalue : 0 ≤ Mvalue ∧ Mvalue ≤ 99) (qMwrong : 0 ≤ Mwrong ∧ Mwrong ≤ 3) (qMwrongAt : 0 ≤ MwrongAt ∧ MwrongAt ≤ 400) (qMfaultKind : 0 ≤ MfaultKind ∧ MfaultKind ≤ 3) (qMfaultPlace : -1 ≤ MfaultPlace ∧ MfaultPlace ≤ 400) (qMthing : 0 ≤ Mthing ∧ Mthing ≤ 104) (qMorder : RA Morder (0) 7) (qMone : 0 ≤ Mone ∧ Mone ≤ 8) (qMtwo : 0 ≤ Mtwo ∧ Mtwo ≤ 8) (qMbest : RA Mbest (0) 7) (qMcells : 1 ≤ Mcells ∧ Mcells ≤ 50) (qMgap : 0 ≤ Mgap ∧ Mgap ≤ 3) (qMwire : RA Mwire (0) 9) (qMstand : RA Mstand (0) 9) (qMruns : 0 ≤ Mruns ∧ Mruns ≤ 1) (qMminute : 0 ≤ Mminute ∧ Mminute ≤ 1000000) (qMhead : RA Mhead (-1) 60) (qMplays : RA Mplays (0) 18) (qMrests : RA Mrests (0) 3) (qMwent : RA Mwent (0) 61) (qMout : RA Mout (0) 1) (qMcame : RA Mcame (-1) 1000000) (qMgone : RA Mgone (-1) 1000000) (qMlastOut : 0 ≤ MlastOut ∧ MlastOut ≤ 1000000) (qw : -2147483648 ≤ w ∧ w ≤ 2147483647) (hp0 : permP Mmany Mrow) (hp1 : gRel Mmany ki le lo ta sh Mguest) (hp2 : ∀ i, 0 ≤ i → i < Mmany → Mrow i = ln i) (hp3 : ∀ c, 0 ≤ c → c < Mcells → Mstand c = stn c) (hp4 : ∀ g, 0 ≤ g → g < Mmany → 0 ≤ le g ∧ le g ≤ 5) (hp5 : Mruns = 1 → runR Mmany le Mcells Mrow Mhead Mplays Mrests Mwent Mout Mcame Mgone MlastOut Mminute s0 ∧ Mminute ≤ 900000 ∧ B ≤ 30000 ∧ allP ln Mmany (runK ki le Mcells Mgap stn ln Mmany Mminute s0 B).2.2.2) : Met l yX8_ends wsX8_ends ({ frames := 4, cells := 0, slots := 0, locals := 95 }) (va_Pc [.ref (oM 0), .int (zI w)] (zPre D cI cB cZ sz (kM cI cB cZ oM Mthrown Mmany Mguest Mrow Mbars Mbar Mfresh Mtape Mtaped Mpos Mtoken MtokenAt Mvalue Mwrong MwrongAt MfaultKind MfaultPlace Mthing Morder Mone Mtwo Mbest Mcells Mgap Mwire Mstand Mruns Mminute Mhead Mplays Mrests Mwent Mout Mcame Mgone MlastOut))) (va_Qi (fun (r9 : Int32) (u9 : Int × Int × (Int → Int) × (Int → Int) × (Int → Int) × (Int → Int) × (Int → Int)) => r9 = zI u9.1 ∧ (((0 : Int) ≤ u9.2.1 ∧ u9.2.1 ≤ 2) ∧ (RA u9.2.2.1 (-1) 60) ∧ (RA u9.2.2.2.1 (0) 18) ∧ (RA u9.2.2.2.2.1 (0) 3) ∧ (RA u9.2.2.2.2.2.1 (0) 61) ∧ (RA u9.2.2.2.2.2.2 (0) 1) ∧ ((Mruns = 0 ∧ u9.2.1 = 1) ∨ (Mruns = 1 ∧ u9.2.1 = 0 ∧ ((¬ (0 ≤ w ∧ w ≤ 1) ∧ u9.1 = -1) ∨ (w = 1 ∧ soloM ki le Mcells Mgap stn Mmany u9.1) ∨ (w = 0 ∧ ∃ k : Nat, u9.1 = Mminute + (k : Int) ∧ allP ln Mmany (runK ki le Mcells Mgap stn ln Mmany Mminute s0 k).2.2.2 ∧ ∀ j : Nat, j < k → ¬ allP ln Mmany (runK ki le Mcells Mgap stn ln Mmany Mminute s0 j).2.2.2)))) ∧ (∀ k, k < 8 → u9.2.2.1 k = Mhead k ∧ u9.2.2.2.1 k = Mplays k ∧ u9.2.2.2.2.1 k = Mrests k ∧ u9.2.2.2.2.2.1 k = Mwent k ∧ u9.2.2.2.2.2.2 k = Mout k))) (fun u9 t9 => zAt D cI cB cZ (va_A (kM cI cB cZ oM Mthrown Mmany Mguest Mrow Mbars Mbar Mfresh Mtape Mtaped Mpos Mtoken MtokenAt Mvalue Mwrong MwrongAt MfaultKind MfaultPlace Mthing Morder Mone Mtwo Mbest Mcells Mgap Mwire Mstand Mruns Mminute Mhead Mplays Mrests Mwent Mout Mcame Mgone MlastOut) sz) (kM cI cB cZ oM (u9.2.1) Mmany Mguest Mrow Mbars Mbar Mfresh Mtape Mtaped Mpos Mtoken MtokenAt Mvalue Mwrong MwrongAt MfaultKind MfaultPlace Mthing Morder Mone Mtwo Mbest Mcells Mgap Mwire Mstand Mruns Mminute (u9.2.2.1) (u9.2.2.2.1) (u9.2.2.2.2.1) (u9.2.2.2.2.2.1) (u9.2.2.2.2.2.2) Mcame Mgone MlastOut) t9) (va_A (kM cI cB cZ oM Mthrown Mmany Mguest Mrow Mbars Mbar Mfresh Mtape Mtaped Mpos Mtoken MtokenAt Mvalue Mwrong MwrongAt MfaultKind MfaultPlace Mthing Morder Mone Mtwo Mbest Mcells Mgap Mwire Mstand Mruns Mminute Mhead Mplays Mrests Mwent Mout Mcame Mgone MlastOut) sz)) 0 0 (va_A (kM cI cB cZ oM Mthrown Mmany Mguest Mrow Mbars Mbar Mfresh Mtape Mtaped Mpos Mtoken MtokenAt Mvalue Mwrong MwrongAt MfaultKind MfaultPlace Mthing Morder Mone Mtwo Mbest Mcells Mgap Mwire Mstand Mruns Mminute Mhead Mplays Mrests Mwent Mout Mcame Mgone MlastOut) sz) := by
  refine Met.ofW (cc := cX8_ends) (maxL := 5) (ret := (some .int)) (by decide) rfl ?_
  intro pp ee s mm aa bw mt cd s₁ BL hml hv
  obtain ⟨rfl, hsz, hP, hK, hD0⟩ := hv
  have hx := BL.exec
  have hb := BL.bytes
  have hr := BL.returns
  have hts := atoms_spec (ws := wsX8_ends) BL.pre
  have hown : s.vm.findClass RX8 = some mm.cls := findClass_of_methodNamed BL.named
  have hlocks := BL.notSynchronized
  subst hsz
  generalize hAe : va_A (kM cI cB cZ oM Mthrown Mmany Mguest Mrow Mbars Mbar Mfresh Mtape Mtaped Mpos Mtoken MtokenAt Mvalue Mwrong MwrongAt MfaultKind MfaultPlace Mthing Morder Mone Mtwo Mbest Mcells Mgap Mwire Mstand Mruns Mminute Mhead Mplays Mrests Mwent Mout Mcame Mgone MlastOut) s.heap.size = A
  have hA : ∀ q : Nat, s.heap.size ≤ q → A q := fun q h => by rw [← hAe]; exact Or.inr h
  have hw : HW D A s.heap (kM cI cB cZ oM Mthrown Mmany Mguest Mrow Mbars Mbar Mfresh Mtape Mtaped Mpos Mtoken MtokenAt Mvalue Mwrong MwrongAt MfaultKind MfaultPlace Mthing Morder Mone Mtwo Mbest Mcells Mgap Mwire Mstand Mruns Mminute Mhead Mplays Mrests Mwent Mout Mcame Mgone MlastOut) s.heap [] := z_start hAe hP hD0
  clear hP hD0
  have hl := lv_entry ([.ref (oM 0), .int (zI w)]) (n := 5) (Nat.le_of_ble_eq_true rfl)
  rw [lg_entry_eq]
  generalize (lg_sl ([.ref (oM 0), .int (zI w)]) ++ List.replicate (5 - (lg_sl ([.ref (oM 0), .int (zI w)])).length) Slot.unset).toArray = ls at hl ⊢
  have hl : lv_has ls 5 [(0, .ref (oM 0)), (1, .int (zI w))] := hl
  have hinX8 : ∀ w ∈ wsX80, w ∈ wsX8_ends := by decide +kernel
  refine lv_aload_n hx hb dX8_ends_0 rfl (lv_at hl 0 rfl) ?_
  refine lv_aload_n hx hb dX8_ends_1 rfl (lv_at hl 0 rfl) ?_
  refine va_get (D := D) (ci := 8) (v := .int (zI Mruns)) (C := RX8) (T := TX8) (N := 36) hx hb hts hinX8 hown hK hw.1 0 rfl rfl 26 (by decide) (hts (.fieldLink RX8 79 "CarnivalRoadModel" "runs" "Z") (by decide +kernel)) (fun _ h9 => h9) rfl dX8_ends_2 ?_
  refine z_if_ne (tgt := 12) hx hb dX8_ends_5 (by decide) (by omega) (fun hc_1 => ?_) (fun hc_1 => ?_)
  · skip
    refine z_iconst hx hb dX8_ends_12 ?_
    refine z_iconst hx hb dX8_ends_13 ?_
    have hF9 := z_free (wc := kM cI cB cZ oM Mthrown Mmany Mguest Mrow Mbars Mbar Mfresh Mtape Mtaped Mpos Mtoken MtokenAt Mvalue Mwrong MwrongAt MfaultKind MfaultPlace Mthing Morder Mone Mtwo Mbest Mcells Mgap Mwire Mstand Mruns Mminute Mhead Mplays Mrests Mwent Mout Mcame Mgone MlastOut) hw hA [0, 1, 2, 3, 4, 5, 6, 7, 8, 9, 10, 11, 12, 13, 14, 15, 16] rfl
    refine va_calli (va_runV (As := [.int (zI 0), .int (zI 0)]) (rest := []) ⟨hx, hb, hml, hown, hts⟩ (c_X8_fails l D cI cB cZ oM s.heap.size Mthrown Mmany Mguest Mrow Mbars Mbar Mfresh Mtape Mtaped Mpos Mtoken MtokenAt Mvalue Mwrong MwrongAt MfaultKind MfaultPlace Mthing Morder Mone Mtwo Mbest Mcells Mgap Mwire Mstand Mruns Mminute Mhead Mplays Mrests Mwent Mout Mcame Mgone MlastOut 0 0 (by omega) (by omega) qMguest qMrow (by omega) qMbar qMfresh qMtape (by omega) (by omega) (by omega) (by omega) (by omega) (by omega) (by omega) (by omega) (by omega) (by omega) qMorder (by omega) (by omega) qMbest (by omega) (by omega) qMwire qMstand (by omega) (by omega) qMhead qMplays qMrests qMwent qMout qMcame qMgone (by omega) (by omega) (by omega)) (cwV 2 hts gX8_ends_X8_fails rfl rfl rfl (by decide +kernel) ⟨Nat.le_of_ble_eq_true rfl, Nat.le_of_ble_eq_true rfl⟩) ⟨zPre_blind, va_recv hK hw.1 (ci := 8) (q0 := 0) rfl rfl, z_pre hK hw [0, 1, 2, 3, 4, 5, 6, 7, 8, 9, 10, 11, 12, 13, 14, 15, 16] (by decide) rfl⟩ rfl rfl hl.1 rfl (lv_room (Nat.le_of_ble_eq_true rfl)) dX8_ends_14 ⟨Nat.zero_le _, Nat.zero_le _⟩) hw.2.2 (fun q _ h => hF9 q h) hF9 (fun r9 u9 t9 H_2 locs9 ht9 hvm9 hq9 hB9 hz9 hk9 hS9 => ?_)
    obtain ⟨r_3, Mthrown_4⟩ := u9
    try dsimp only at hq9 hB9
    obtain ⟨rfl, hq9⟩ := hq9
    obtain ⟨hq_5, hq_6, hq_7⟩ := hq9
    have hw : HW D A s.heap (kM cI cB cZ oM Mthrown_4 Mmany Mguest Mrow Mbars Mbar Mfresh Mtape Mtaped Mpos Mtoken MtokenAt Mvalue Mwrong MwrongAt MfaultKind MfaultPlace Mthing Morder Mone Mtwo Mbest Mcells Mgap Mwire Mstand Mruns Mminute Mhead Mplays Mrests Mwent Mout Mcame Mgone MlastOut) H_2 locs9 := z_after (wc := kM cI cB cZ oM Mthrown Mmany Mguest Mrow Mbars Mbar Mfresh Mtape Mtaped Mpos Mtoken MtokenAt Mvalue Mwrong MwrongAt MfaultKind MfaultPlace Mthing Morder Mone Mtwo Mbest Mcells Mgap Mwire Mstand Mruns Mminute Mhead Mplays Mrests Mwent Mout Mcame Mgone MlastOut) hw [0, 1, 2, 3, 4, 5, 6, 7, 8, 9, 10, 11, 12, 13, 14, 15, 16] [] rfl rfl (by decide) (by decide) hF9 hk9 ht9 hB9 hS9 [0, 1, 2, 3, 4, 5, 6, 7, 8, 9, 10, 11, 12, 13, 14, 15, 16] (by decide) rfl
    clear hF9 ht9 hvm9 hB9 hz9 hk9 hS9
    rcases hq_6 with ⟨hc_8, rfl⟩ | ⟨hc_8, rfl⟩
    · skip
      refine z_if_eq (tgt := 22) hx hb dX8_ends_17 (by decide) (by omega) (fun hc_9 => absurd hc_9 (by omega)) (fun hc_9 => ?_)
      refine z_iconst hx hb dX8_ends_20 ?_
      have hv_10 : (0 : Int) ≤ Mthrown_4 ∧ Mthrown_4 ≤ 2 := by
        first | assumption | omega | grind
      have hv_11 : (Mruns = 0 ∧ Mthrown_4 = 1) ∨ (Mruns = 1 ∧ Mthrown_4 = 0 ∧ ((¬ (0 ≤ w ∧ w ≤ 1) ∧ (0 : Int) = -1) ∨ (w = 1 ∧ soloM ki le Mcells Mgap stn Mmany (0 : Int)) ∨ (w = 0 ∧ ∃ k : Nat, (0 : Int) = Mminute + (k : Int) ∧ allP ln Mmany (runK ki le Mcells Mgap stn ln Mmany Mminute s0 k).2.2.2 ∧ ∀ j : Nat, j < k → ¬ allP ln Mmany (runK ki le Mcells Mgap stn ln Mmany Mminute s0 j).2.2.2))) := by
        exact Or.inl ⟨by omega, by omega⟩
      have hv_12 : ∀ k, k < 8 → Mhead k = Mhead k ∧ Mplays k = Mplays k ∧ Mrests k = Mrests k ∧ Mwent k = Mwent k ∧ Mout k = Mout k := by
        exact fun k _ => ⟨rfl, rfl, rfl, rfl, rfl⟩
      exact W.iret (v := zI 0) hx hb hr (fun t9 ht hW => ⟨⟨zI 0, (0, Mthrown_4, Mhead, Mplays, Mrests, Mwent, Mout), rfl, ⟨rfl, ⟨hv_10, qMhead, qMplays, qMrests, qMwent, qMout, hv_11, hv_12⟩⟩, by subst hAe; exact z_end hK hw ht hW⟩, by subst hAe; exact hw.2.2.F ht⟩) (by subst hAe; exact hw.2.2.2.2) dX8_ends_21
    · skip
      refine z_if_eq (tgt := 22) hx hb dX8_ends_17 (by decide) (by omega) (fun hc_13 => ?_) (fun hc_13 => absurd hc_13 (by omega))
      refine lv_iload_n hx hb dX8_ends_22 rfl (lv_at hl 1 rfl) ?_
      refine z_iconst hx hb dX8_ends_23 ?_
      refine z_iconst hx hb dX8_ends_24 ?_
      have hF9 := z_free (wc := ([] : va_W)) hw hA [] rfl
      refine va_calli (va_runS (As := [.int (zI w), .int (zI 0), .int (zI 1)]) (rest := []) ⟨hx, hb, hml, hown, hts⟩ (c_X8_isIn l D cI cB cZ H_2.size w 0 1 (by omega) (by omega) (by omega)) (va_cwS 3 hts gX8_ends_X8_isIn rfl rfl rfl (by decide +kernel) ⟨Nat.le_of_ble_eq_true rfl, Nat.le_of_ble_eq_true rfl⟩) ⟨zPre_blind, z_pre hK hw [] (by decide) rfl⟩ rfl rfl hl.1 rfl (lv_room (Nat.le_of_ble_eq_true rfl)) dX8_ends_25 ⟨Nat.zero_le _, Nat.zero_le _⟩) hw.2.2 (fun q _ h => hF9 q h) hF9 (fun r9 u9 t9 H_14 locs9 ht9 hvm9 hq9 hB9 hz9 hk9 hS9 => ?_)
      obtain ⟨r_15, rfl⟩ : ∃ z, z = u9 := ⟨_, rfl⟩
      try dsimp only at hq9 hB9
      obtain ⟨rfl, hq9⟩ := hq9
      have hq_16 := hq9
      have hw : HW D A s.heap (kM cI cB cZ oM Mthrown_4 Mmany Mguest Mrow Mbars Mbar Mfresh Mtape Mtaped Mpos Mtoken MtokenAt Mvalue Mwrong MwrongAt MfaultKind MfaultPlace Mthing Morder Mone Mtwo Mbest Mcells Mgap Mwire Mstand Mruns Mminute Mhead Mplays Mrests Mwent Mout Mcame Mgone MlastOut) H_14 locs9 := z_after (wc := ([] : va_W)) hw [] [0, 1, 2, 3, 4, 5, 6, 7, 8, 9, 10, 11, 12, 13, 14, 15, 16] rfl rfl (by decide) (by decide) hF9 hk9 ht9 hB9 hS9 [0, 1, 2, 3, 4, 5, 6, 7, 8, 9, 10, 11, 12, 13, 14, 15, 16] (by decide) rfl
      clear hF9 ht9 hvm9 hB9 hz9 hk9 hS9 hq9
      rcases hq_16 with ⟨hc_17, rfl⟩ | ⟨hc_17, rfl⟩
      · skip
        refine z_if_ne (tgt := 33) hx hb dX8_ends_28 (by decide) (by omega) (fun hc_18 => ?_) (fun hc_18 => absurd hc_18 (by omega))
        refine lv_iload_n hx hb dX8_ends_33 rfl (lv_at hl 1 rfl) ?_
        refine z_iconst hx hb dX8_ends_34 ?_
        refine z_icmp_ne (tgt := 43) hx hb dX8_ends_35 (by decide) (by omega) (fun hc_19 => ?_) (fun hc_19 => ?_)
        · skip
          refine z_iconst hx hb dX8_ends_43 ?_
          refine lv_istore_n (lv' := [(2, .int (zI 0)), (0, .ref (oM 0)), (1, .int (zI w))]) hx hb dX8_ends_44 rfl hl (by decide) rfl (fun ls hl => ?_)
          have hv_20 : 0 ≤ (0 : Int) ∧ (0 : Int) ≤ Mmany := by
            first | assumption | omega | grind
          have hv_21 : ∀ a, 0 ≤ a → a < (0 : Int) → Mhead (8 + a) = Mhead a ∧ Mplays (8 + a) = Mplays a ∧ Mrests (8 + a) = Mrests a ∧ Mwent (8 + a) = Mwent a ∧ Mout (8 + a) = Mout a := by
            exact fun a a0 a1 => absurd a1 (by omega)
          have hv_22 : ∀ k, k < 8 → Mhead k = Mhead k ∧ Mplays k = Mplays k ∧ Mrests k = Mrests k ∧ Mwent k = Mwent k ∧ Mout k = Mout k := by
            exact fun k _ => ⟨rfl, rfl, rfl, rfl, rfl⟩
          refine z_loop (σ := Int × (Int → Int) × (Int → Int) × (Int → Int) × (Int → Int) × (Int → Int)) (μ := fun x9 => (9 - (x9.1)).toNat) (I := fun x9 H locs ls => (RA (x9.2.1) (-1) 60) ∧ (RA (x9.2.2.1) (0) 18) ∧ (RA (x9.2.2.2.1) (0) 3) ∧ (RA (x9.2.2.2.2.1) (0) 61) ∧ (RA (x9.2.2.2.2.2) (0) 1) ∧ (0 ≤ (x9.1) ∧ (x9.1) ≤ Mmany) ∧ (∀ a, 0 ≤ a → a < (x9.1) → (x9.2.1) (8 + a) = Mhead a ∧ (x9.2.2.1) (8 + a) = Mplays a ∧ (x9.2.2.2.1) (8 + a) = Mrests a ∧ (x9.2.2.2.2.1) (8 + a) = Mwent a ∧ (x9.2.2.2.2.2) (8 + a) = Mout a) ∧ (∀ k, k < 8 → (x9.2.1) k = Mhead k ∧ (x9.2.2.1) k = Mplays k ∧ (x9.2.2.2.1) k = Mrests k ∧ (x9.2.2.2.2.1) k = Mwent k ∧ (x9.2.2.2.2.2) k = Mout k) ∧ HW D A s.heap (kM cI cB cZ oM Mthrown_4 Mmany Mguest Mrow Mbars Mbar Mfresh Mtape Mtaped Mpos Mtoken MtokenAt Mvalue Mwrong MwrongAt MfaultKind MfaultPlace Mthing Morder Mone Mtwo Mbest Mcells Mgap Mwire Mstand Mruns Mminute (x9.2.1) (x9.2.2.1) (x9.2.2.2.1) (x9.2.2.2.2.1) (x9.2.2.2.2.2) Mcame Mgone MlastOut) H locs ∧ lv_has ls 5 [(0, .ref (oM 0)), (2, .int (zI (x9.1)))]) (0, Mhead, Mplays, Mrests, Mwent, Mout) ⟨qMhead, qMplays, qMrests, qMwent, qMout, hv_20, hv_21, hv_22, hw, lv_sub hl [1, 0] rfl⟩ ?_
          clear hw hl
          intro x9 H locs ls hI ih_23
          obtain ⟨m_24, Mhead_25, Mplays_26, Mrests_27, Mwent_28, Mout_29⟩ := x9
          try dsimp only at hI
          obtain ⟨hR_30, hR_31, hR_32, hR_33, hR_34, hI_35, hI_36, hI_37, hw, hl⟩ := hI
          have hsm : Mmany ≤ m_24 → simR Mmany 8 Mhead_25 Mplays_26 Mrests_27 Mwent_28 Mout_29 s0.1 s0.2.1 s0.2.2.2 := fun z g g0 g1 => by
              have q1 := (hp5 (by omega)).1.1 g g0 g1
              have q2 := (by assumption : ∀ a, 0 ≤ a → a < m_24 → Mhead_25 (8 + a) = Mhead a ∧ Mplays_26 (8 + a) = Mplays a ∧ Mrests_27 (8 + a) = Mrests a ∧ Mwent_28 (8 + a) = Mwent a ∧ Mout_29 (8 + a) = Mout a) g g0 (by omega)
              rw [Int.zero_add] at q1
              rw [q2.1, q2.2.1, q2.2.2.1, q2.2.2.2.1, q2.2.2.2.2]
              exact q1
          refine lv_iload_n hx hb dX8_ends_45 rfl (lv_at hl 1 rfl) ?_
          refine lv_aload_n hx hb dX8_ends_46 rfl (lv_at hl 0 rfl) ?_
          refine va_get (D := D) (ci := 8) (v := .int (zI Mmany)) (C := RX8) (T := TX8) (N := 36) hx hb hts hinX8 hown hK hw.1 0 rfl rfl 1 (by decide) (hts (.fieldLink RX8 72 "CarnivalRoadModel" "many" "I") (by decide +kernel)) (fun _ h9 => h9) rfl dX8_ends_47 ?_
          refine z_icmp_ge (tgt := 134) hx hb dX8_ends_50 (by decide) (by omega) (fun hc_38 => ?_) (fun hc_38 => ?_)
          · skip
            refine lv_aload_n hx hb dX8_ends_134 rfl (lv_at hl 0 rfl) ?_
            refine z_bipush hx hb dX8_ends_135 (by decide) ?_
            have hF9 := z_free (wc := kM cI cB cZ oM Mthrown_4 Mmany Mguest Mrow Mbars Mbar Mfresh Mtape Mtaped Mpos Mtoken MtokenAt Mvalue Mwrong MwrongAt MfaultKind MfaultPlace Mthing Morder Mone Mtwo Mbest Mcells Mgap Mwire Mstand Mruns Mminute Mhead_25 Mplays_26 Mrests_27 Mwent_28 Mout_29 Mcame Mgone MlastOut) hw hA [0, 1, 2, 3, 4, 5, 6, 7, 8, 9, 10, 11, 12, 13, 14, 15, 16] rfl
            refine va_calli (va_runV (As := [.int (zI 8)]) (rest := []) ⟨hx, hb, hml, hown, hts⟩ (c_X8_isOver l D cI cB cZ oM H.size Mthrown_4 Mmany Mguest Mrow Mbars Mbar Mfresh Mtape Mtaped Mpos Mtoken MtokenAt Mvalue Mwrong MwrongAt MfaultKind MfaultPlace Mthing Morder Mone Mtwo Mbest Mcells Mgap Mwire Mstand Mruns Mminute Mhead_25 Mplays_26 Mrests_27 Mwent_28 Mout_29 Mcame Mgone MlastOut 8 (by omega) (by omega) qMguest qMrow (by omega) qMbar qMfresh qMtape (by omega) (by omega) (by omega) (by omega) (by omega) (by omega) (by omega) (by omega) (by omega) (by omega) qMorder (by omega) (by omega) qMbest (by omega) (by omega) qMwire qMstand (by omega) (by omega) hR_30 hR_31 hR_32 hR_33 hR_34 qMcame qMgone (by omega) (by omega)) (cwV 1 hts gX8_ends_X8_isOver rfl rfl rfl (by decide +kernel) ⟨Nat.le_of_ble_eq_true rfl, Nat.le_of_ble_eq_true rfl⟩) ⟨zPre_blind, va_recv hK hw.1 (ci := 8) (q0 := 0) rfl rfl, z_pre hK hw [0, 1, 2, 3, 4, 5, 6, 7, 8, 9, 10, 11, 12, 13, 14, 15, 16] (by decide) rfl⟩ rfl rfl hl.1 rfl (lv_room (Nat.le_of_ble_eq_true rfl)) dX8_ends_137 ⟨Nat.zero_le _, Nat.zero_le _⟩) hw.2.2 (fun q _ h => hF9 q h) hF9 (fun r9 u9 t9 H_39 locs9 ht9 hvm9 hq9 hB9 hz9 hk9 hS9 => ?_)
            obtain ⟨r_40, rfl⟩ : ∃ z, z = u9 := ⟨_, rfl⟩
            try dsimp only at hq9 hB9
            obtain ⟨rfl, hq9⟩ := hq9
            have hq_41 := hq9
            have hw : HW D A s.heap (kM cI cB cZ oM Mthrown_4 Mmany Mguest Mrow Mbars Mbar Mfresh Mtape Mtaped Mpos Mtoken MtokenAt Mvalue Mwrong MwrongAt MfaultKind MfaultPlace Mthing Morder Mone Mtwo Mbest Mcells Mgap Mwire Mstand Mruns Mminute Mhead_25 Mplays_26 Mrests_27 Mwent_28 Mout_29 Mcame Mgone MlastOut) H_39 locs9 := z_after (wc := kM cI cB cZ oM Mthrown_4 Mmany Mguest Mrow Mbars Mbar Mfresh Mtape Mtaped Mpos Mtoken MtokenAt Mvalue Mwrong MwrongAt MfaultKind MfaultPlace Mthing Morder Mone Mtwo Mbest Mcells Mgap Mwire Mstand Mruns Mminute Mhead_25 Mplays_26 Mrests_27 Mwent_28 Mout_29 Mcame Mgone MlastOut) hw [0, 1, 2, 3, 4, 5, 6, 7, 8, 9, 10, 11, 12, 13, 14, 15, 16] [] rfl rfl (by decide) (by decide) hF9 hk9 ht9 hB9 hS9 [0, 1, 2, 3, 4, 5, 6, 7, 8, 9, 10, 11, 12, 13, 14, 15, 16] (by decide) rfl
            clear hF9 ht9 hvm9 hB9 hz9 hk9 hS9 hq9
            rcases hq_41 with ⟨hc_42, rfl⟩ | ⟨hc_42, rfl⟩
            · skip
              refine z_if_eq (tgt := 148) hx hb dX8_ends_140 (by decide) (by omega) (fun hc_43 => absurd hc_43 (by omega)) (fun hc_43 => ?_)
              refine lv_aload_n hx hb dX8_ends_143 rfl (lv_at hl 0 rfl) ?_
              refine va_get (D := D) (ci := 8) (v := .int (zI MlastOut)) (C := RX8) (T := TX8) (N := 36) hx hb hts hinX8 hown hK hw.1 0 rfl rfl 35 (by decide) (hts (.fieldLink RX8 211 "CarnivalRoadModel" "lastOut" "I") (by decide +kernel)) (fun _ h9 => h9) rfl dX8_ends_144 ?_
              have hv_44 : (0 : Int) ≤ Mthrown_4 ∧ Mthrown_4 ≤ 2 := by
                first | assumption | omega | grind
              have hv_45 : (Mruns = 0 ∧ Mthrown_4 = 1) ∨ (Mruns = 1 ∧ Mthrown_4 = 0 ∧ ((¬ (0 ≤ w ∧ w ≤ 1) ∧ MlastOut = -1) ∨ (w = 1 ∧ soloM ki le Mcells Mgap stn Mmany MlastOut) ∨ (w = 0 ∧ ∃ k : Nat, MlastOut = Mminute + (k : Int) ∧ allP ln Mmany (runK ki le Mcells Mgap stn ln Mmany Mminute s0 k).2.2.2 ∧ ∀ j : Nat, j < k → ¬ allP ln Mmany (runK ki le Mcells Mgap stn ln Mmany Mminute s0 j).2.2.2))) := by
                refine Or.inr ⟨by omega, by omega, Or.inr (Or.inr ⟨by omega, 0, ?_, ?_, fun j hj => absurd hj (by omega)⟩)⟩
                · have hr := (hp5 (by omega)).1.2.2.2 ((over_iff (hsm (by omega)) hp0).mp (by assumption))
                  omega
                · exact (all_congr hp2).mp ((over_iff (hsm (by omega)) hp0).mp (by assumption))
              have hv_46 : ∀ k, k < 8 → Mhead_25 k = Mhead k ∧ Mplays_26 k = Mplays k ∧ Mrests_27 k = Mrests k ∧ Mwent_28 k = Mwent k ∧ Mout_29 k = Mout k := by
                assumption
              exact W.iret (v := zI MlastOut) hx hb hr (fun t9 ht hW => ⟨⟨zI MlastOut, (MlastOut, Mthrown_4, Mhead_25, Mplays_26, Mrests_27, Mwent_28, Mout_29), rfl, ⟨rfl, ⟨hv_44, hR_30, hR_31, hR_32, hR_33, hR_34, hv_45, hv_46⟩⟩, by subst hAe; exact z_end hK hw ht hW⟩, by subst hAe; exact hw.2.2.F ht⟩) (by subst hAe; exact hw.2.2.2.2) dX8_ends_147
            · skip
              refine z_if_eq (tgt := 148) hx hb dX8_ends_140 (by decide) (by omega) (fun hc_47 => ?_) (fun hc_47 => absurd hc_47 (by omega))
              refine lv_aload_n hx hb dX8_ends_148 rfl (lv_at hl 0 rfl) ?_
              refine va_get (D := D) (ci := 8) (v := .int (zI Mminute)) (C := RX8) (T := TX8) (N := 36) hx hb hts hinX8 hown hK hw.1 0 rfl rfl 27 (by decide) (hts (.fieldLink RX8 208 "CarnivalRoadModel" "minute" "I") (by decide +kernel)) (fun _ h9 => h9) rfl dX8_ends_149 ?_
              refine lv_istore_n (lv' := [(2, .int (zI Mminute)), (0, .ref (oM 0))]) hx hb dX8_ends_152 rfl hl (by decide) rfl (fun ls hl => ?_)
              refine z_iconst hx hb dX8_ends_153 ?_
              refine lv_istore_n (lv' := [(3, .int (zI 0)), (2, .int (zI Mminute)), (0, .ref (oM 0))]) hx hb dX8_ends_154 rfl hl (by decide) rfl (fun ls hl => ?_)
              have hv_48 : 0 ≤ Mminute - Mminute ∧ Mminute - Mminute ≤ (B : Int) := by
                first | assumption | omega | grind
              have hv_49 : s0 = (runK ki le Mcells Mgap stn ln Mmany Mminute s0 (Mminute - Mminute).toNat) := by
                rw [show (Mminute - Mminute).toNat = 0 by omega]; rfl
              have hv_50 : simR Mmany 8 Mhead_25 Mplays_26 Mrests_27 Mwent_28 Mout_29 s0.1 s0.2.1 s0.2.2.2 := by
                exact hsm (by omega)
              have hv_51 : jpN Mmany le Mcells s0.1 s0.2.2.2 := by
                exact (hp5 (by omega)).1.2.2.1
              have hv_52 : ∀ j : Nat, j < (Mminute - Mminute).toNat → ¬ allP ln Mmany (runK ki le Mcells Mgap stn ln Mmany Mminute s0 j).2.2.2 := by
                exact fun j hj => absurd hj (by omega)
              have hv_53 : ∀ k, k < 8 → Mhead_25 k = Mhead k ∧ Mplays_26 k = Mplays k ∧ Mrests_27 k = Mrests k ∧ Mwent_28 k = Mwent k ∧ Mout_29 k = Mout k := by
                first | assumption | omega | grind
              have hv_54 : (0 : Int) = 0 ∨ (0 : Int) = 1 := by
                omega
              refine z_loop (σ := Int × Int × (Int → Int) × (Int → Int) × (Int → Int) × (Int → Int) × (Int → Int) × PS) (μ := fun x9 => (B + 1 - ((x9.1) - Mminute).toNat)) (I := fun x9 H locs ls => (RA (x9.2.2.1) (-1) 60) ∧ (RA (x9.2.2.2.1) (0) 18) ∧ (RA (x9.2.2.2.2.1) (0) 3) ∧ (RA (x9.2.2.2.2.2.1) (0) 61) ∧ (RA (x9.2.2.2.2.2.2.1) (0) 1) ∧ (0 ≤ (x9.1) - Mminute ∧ (x9.1) - Mminute ≤ (B : Int)) ∧ (x9.2.2.2.2.2.2.2 = (runK ki le Mcells Mgap stn ln Mmany Mminute s0 ((x9.1) - Mminute).toNat)) ∧ (simR Mmany 8 (x9.2.2.1) (x9.2.2.2.1) (x9.2.2.2.2.1) (x9.2.2.2.2.2.1) (x9.2.2.2.2.2.2.1) x9.2.2.2.2.2.2.2.1 x9.2.2.2.2.2.2.2.2.1 x9.2.2.2.2.2.2.2.2.2.2) ∧ (jpN Mmany le Mcells x9.2.2.2.2.2.2.2.1 x9.2.2.2.2.2.2.2.2.2.2) ∧ (∀ j : Nat, j < ((x9.1) - Mminute).toNat → ¬ allP ln Mmany (runK ki le Mcells Mgap stn ln Mmany Mminute s0 j).2.2.2) ∧ (∀ k, k < 8 → (x9.2.2.1) k = Mhead k ∧ (x9.2.2.2.1) k = Mplays k ∧ (x9.2.2.2.2.1) k = Mrests k ∧ (x9.2.2.2.2.2.1) k = Mwent k ∧ (x9.2.2.2.2.2.2.1) k = Mout k) ∧ ((x9.2.1) = 0 ∨ (x9.2.1) = 1) ∧ HW D A s.heap (kM cI cB cZ oM Mthrown_4 Mmany Mguest Mrow Mbars Mbar Mfresh Mtape Mtaped Mpos Mtoken MtokenAt Mvalue Mwrong MwrongAt MfaultKind MfaultPlace Mthing Morder Mone Mtwo Mbest Mcells Mgap Mwire Mstand Mruns Mminute (x9.2.2.1) (x9.2.2.2.1) (x9.2.2.2.2.1) (x9.2.2.2.2.2.1) (x9.2.2.2.2.2.2.1) Mcame Mgone MlastOut) H locs ∧ lv_has ls 5 [(0, .ref (oM 0)), (2, .int (zI (x9.1))), (3, .int (zI (x9.2.1)))]) (Mminute, 0, Mhead_25, Mplays_26, Mrests_27, Mwent_28, Mout_29, s0) ⟨hR_30, hR_31, hR_32, hR_33, hR_34, hv_48, hv_49, hv_50, hv_51, hv_52, hv_53, hv_54, hw, lv_sub hl [2, 1, 0] rfl⟩ ?_
              clear hw hl
              intro x9 H locs ls hI ih_55
              obtain ⟨m_56, mv_57, Mhead_58, Mplays_59, Mrests_60, Mwent_61, Mout_62, q_63⟩ := x9
              try dsimp only at hI
              obtain ⟨hR_64, hR_65, hR_66, hR_67, hR_68, hI_69, hI_70, hI_71, hI_72, hI_73, hI_74, hI_75, hw, hl⟩ := hI
              have hlt : ¬ allP ln Mmany q_63.2.2.2 → m_56 - Mminute < (B : Int) := fun z => by
                  rcases Int.lt_or_eq_of_le (by assumption : 0 ≤ m_56 - Mminute ∧ m_56 - Mminute ≤ (B : Int)).2 with y | y
                  · exact y
                  · exfalso; apply z; rw [(by assumption : q_63 = (runK ki le Mcells Mgap stn ln Mmany Mminute s0 (m_56 - Mminute).toNat)), show (m_56 - Mminute).toNat = B by omega]; exact (hp5 (by omega)).2.2.2
              have hov : (∀ g, 0 ≤ g → g < Mmany → Mout_62 (8 + g) = 1) ↔ allP ln Mmany q_63.2.2.2 := (over_iff (by assumption : simR Mmany 8 Mhead_58 Mplays_59 Mrests_60 Mwent_61 Mout_62 q_63.1 q_63.2.1 q_63.2.2.2) hp0).trans (all_congr hp2)
              refine lv_aload_n hx hb dX8_ends_155 rfl (lv_at hl 0 rfl) ?_
              refine z_bipush hx hb dX8_ends_156 (by decide) ?_
              have hF9 := z_free (wc := kM cI cB cZ oM Mthrown_4 Mmany Mguest Mrow Mbars Mbar Mfresh Mtape Mtaped Mpos Mtoken MtokenAt Mvalue Mwrong MwrongAt MfaultKind MfaultPlace Mthing Morder Mone Mtwo Mbest Mcells Mgap Mwire Mstand Mruns Mminute Mhead_58 Mplays_59 Mrests_60 Mwent_61 Mout_62 Mcame Mgone MlastOut) hw hA [0, 1, 2, 3, 4, 5, 6, 7, 8, 9, 10, 11, 12, 13, 14, 15, 16] rfl
              refine va_calli (va_runV (As := [.int (zI 8)]) (rest := []) ⟨hx, hb, hml, hown, hts⟩ (c_X8_isOver l D cI cB cZ oM H.size Mthrown_4 Mmany Mguest Mrow Mbars Mbar Mfresh Mtape Mtaped Mpos Mtoken MtokenAt Mvalue Mwrong MwrongAt MfaultKind MfaultPlace Mthing Morder Mone Mtwo Mbest Mcells Mgap Mwire Mstand Mruns Mminute Mhead_58 Mplays_59 Mrests_60 Mwent_61 Mout_62 Mcame Mgone MlastOut 8 (by omega) (by omega) qMguest qMrow (by omega) qMbar qMfresh qMtape (by omega) (by omega) (by omega) (by omega) (by omega) (by omega) (by omega) (by omega) (by omega) (by omega) qMorder (by omega) (by omega) qMbest (by omega) (by omega) qMwire qMstand (by omega) (by omega) hR_64 hR_65 hR_66 hR_67 hR_68 qMcame qMgone (by omega) (by omega)) (cwV 1 hts gX8_ends_X8_isOver rfl rfl rfl (by decide +kernel) ⟨Nat.le_of_ble_eq_true rfl, Nat.le_of_ble_eq_true rfl⟩) ⟨zPre_blind, va_recv hK hw.1 (ci := 8) (q0 := 0) rfl rfl, z_pre hK hw [0, 1, 2, 3, 4, 5, 6, 7, 8, 9, 10, 11, 12, 13, 14, 15, 16] (by decide) rfl⟩ rfl rfl hl.1 rfl (lv_room (Nat.le_of_ble_eq_true rfl)) dX8_ends_158 ⟨Nat.zero_le _, Nat.zero_le _⟩) hw.2.2 (fun q _ h => hF9 q h) hF9 (fun r9 u9 t9 H_76 locs9 ht9 hvm9 hq9 hB9 hz9 hk9 hS9 => ?_)
              obtain ⟨r_77, rfl⟩ : ∃ z, z = u9 := ⟨_, rfl⟩
              try dsimp only at hq9 hB9
              obtain ⟨rfl, hq9⟩ := hq9
              have hq_78 := hq9
              have hw : HW D A s.heap (kM cI cB cZ oM Mthrown_4 Mmany Mguest Mrow Mbars Mbar Mfresh Mtape Mtaped Mpos Mtoken MtokenAt Mvalue Mwrong MwrongAt MfaultKind MfaultPlace Mthing Morder Mone Mtwo Mbest Mcells Mgap Mwire Mstand Mruns Mminute Mhead_58 Mplays_59 Mrests_60 Mwent_61 Mout_62 Mcame Mgone MlastOut) H_76 locs9 := z_after (wc := kM cI cB cZ oM Mthrown_4 Mmany Mguest Mrow Mbars Mbar Mfresh Mtape Mtaped Mpos Mtoken MtokenAt Mvalue Mwrong MwrongAt MfaultKind MfaultPlace Mthing Morder Mone Mtwo Mbest Mcells Mgap Mwire Mstand Mruns Mminute Mhead_58 Mplays_59 Mrests_60 Mwent_61 Mout_62 Mcame Mgone MlastOut) hw [0, 1, 2, 3, 4, 5, 6, 7, 8, 9, 10, 11, 12, 13, 14, 15, 16] [] rfl rfl (by decide) (by decide) hF9 hk9 ht9 hB9 hS9 [0, 1, 2, 3, 4, 5, 6, 7, 8, 9, 10, 11, 12, 13, 14, 15, 16] (by decide) rfl
              clear hF9 ht9 hvm9 hB9 hz9 hk9 hS9 hq9
              rcases hq_78 with ⟨hc_79, rfl⟩ | ⟨hc_79, rfl⟩
              · skip
                refine z_if_ne (tgt := 211) hx hb dX8_ends_161 (by decide) (by omega) (fun hc_80 => ?_) (fun hc_80 => absurd hc_80 (by omega))
                refine lv_iload_n hx hb dX8_ends_211 rfl (lv_at hl 1 rfl) ?_
                have hv_81 : (0 : Int) ≤ Mthrown_4 ∧ Mthrown_4 ≤ 2 := by
                  first | assumption | omega | grind
                have hv_82 : (Mruns = 0 ∧ Mthrown_4 = 1) ∨ (Mruns = 1 ∧ Mthrown_4 = 0 ∧ ((¬ (0 ≤ w ∧ w ≤ 1) ∧ m_56 = -1) ∨ (w = 1 ∧ soloM ki le Mcells Mgap stn Mmany m_56) ∨ (w = 0 ∧ ∃ k : Nat, m_56 = Mminute + (k : Int) ∧ allP ln Mmany (runK ki le Mcells Mgap stn ln Mmany Mminute s0 k).2.2.2 ∧ ∀ j : Nat, j < k → ¬ allP ln Mmany (runK ki le Mcells Mgap stn ln Mmany Mminute s0 j).2.2.2))) := by
                  refine Or.inr ⟨by omega, by omega, Or.inr (Or.inr ⟨by omega, (m_56 - Mminute).toNat, by omega, ?_, by assumption⟩)⟩
                  rw [← (by assumption : q_63 = (runK ki le Mcells Mgap stn ln Mmany Mminute s0 (m_56 - Mminute).toNat))]
                  exact hov.mp (by assumption)
                have hv_83 : ∀ k, k < 8 → Mhead_58 k = Mhead k ∧ Mplays_59 k = Mplays k ∧ Mrests_60 k = Mrests k ∧ Mwent_61 k = Mwent k ∧ Mout_62 k = Mout k := by
                  assumption
                exact W.iret (v := zI m_56) hx hb hr (fun t9 ht hW => ⟨⟨zI m_56, (m_56, Mthrown_4, Mhead_58, Mplays_59, Mrests_60, Mwent_61, Mout_62), rfl, ⟨rfl, ⟨hv_81, hR_64, hR_65, hR_66, hR_67, hR_68, hv_82, hv_83⟩⟩, by subst hAe; exact z_end hK hw ht hW⟩, by subst hAe; exact hw.2.2.F ht⟩) (by subst hAe; exact hw.2.2.2.2) dX8_ends_212
              · skip
                refine z_if_ne (tgt := 211) hx hb dX8_ends_161 (by decide) (by omega) (fun hc_84 => absurd hc_84 (by omega)) (fun hc_84 => ?_)
                refine z_iinc (k := 1) (lv' := [(2, .int (zI (m_56 + 1))), (0, .ref (oM 0)), (3, .int (zI mv_57))]) hx hb dX8_ends_164 hl rfl (by decide) rfl (fun ls hl => ?_)
                refine z_iconst hx hb dX8_ends_167 ?_
                refine lv_istore (lv' := [(4, .int (zI 0)), (2, .int (zI (m_56 + 1))), (0, .ref (oM 0)), (3, .int (zI mv_57))]) hx hb dX8_ends_168 hl (by decide) rfl (fun ls hl => ?_)
                have hrr := (by assumption : simR Mmany 8 Mhead_58 Mplays_59 Mrests_60 Mwent_61 Mout_62 _ _ _)
                have hjj := (by assumption : jpN Mmany le Mcells _ _)
                have hqq := (by assumption : _ = (runK ki le Mcells Mgap stn ln Mmany Mminute s0 (m_56 - Mminute).toNat))
                have hv_85 : 0 ≤ (0 : Int) ∧ (0 : Int) ≤ Mmany := by
                  first | assumption | omega | grind
                have hv_86 : (runK ki le Mcells Mgap stn ln Mmany Mminute s0 (m_56 - Mminute).toNat) = stepK ki le Mcells Mgap stn ln (m_56 + 1) (0 : Int).toNat (runK ki le Mcells Mgap stn ln Mmany Mminute s0 (m_56 - Mminute).toNat) := by
                  rfl
                have hv_87 : simR Mmany 8 Mhead_58 Mplays_59 Mrests_60 Mwent_61 Mout_62 (runK ki le Mcells Mgap stn ln Mmany Mminute s0 (m_56 - Mminute).toNat).1 (runK ki le Mcells Mgap stn ln Mmany Mminute s0 (m_56 - Mminute).toNat).2.1 (runK ki le Mcells Mgap stn ln Mmany Mminute s0 (m_56 - Mminute).toNat).2.2.2 := by
                  rw [← hqq]; exact hrr
                have hv_88 : jpN Mmany le Mcells (runK ki le Mcells Mgap stn ln Mmany Mminute s0 (m_56 - Mminute).toNat).1 (runK ki le Mcells Mgap stn ln Mmany Mminute s0 (m_56 - Mminute).toNat).2.2.2 := by
                  rw [← hqq]; exact hjj
                have hv_89 : (runK ki le Mcells Mgap stn ln Mmany Mminute s0 (m_56 - Mminute).toNat) = (runK ki le Mcells Mgap stn ln Mmany Mminute s0 (m_56 - Mminute).toNat) ∧ ¬ allP ln Mmany (runK ki le Mcells Mgap stn ln Mmany Mminute s0 (m_56 - Mminute).toNat).2.2.2 := by
                  rw [← hqq]; exact ⟨rfl, fun y => absurd (hov.mpr y) (by assumption)⟩
                have hv_90 : ∀ k, k < 8 → Mhead_58 k = Mhead k ∧ Mplays_59 k = Mplays k ∧ Mrests_60 k = Mrests k ∧ Mwent_61 k = Mwent k ∧ Mout_62 k = Mout k := by
                  first | assumption | omega | grind
                have hv_91 : mv_57 = 0 ∨ mv_57 = 1 := by
                  first | assumption | omega | grind
                refine z_loop (σ := Int × Int × (Int → Int) × (Int → Int) × (Int → Int) × (Int → Int) × (Int → Int) × PS × PS) (μ := fun x9 => (9 - (x9.2.1)).toNat) (I := fun x9 H locs ls => (RA (x9.2.2.1) (-1) 60) ∧ (RA (x9.2.2.2.1) (0) 18) ∧ (RA (x9.2.2.2.2.1) (0) 3) ∧ (RA (x9.2.2.2.2.2.1) (0) 61) ∧ (RA (x9.2.2.2.2.2.2.1) (0) 1) ∧ (0 ≤ (x9.2.1) ∧ (x9.2.1) ≤ Mmany) ∧ (x9.2.2.2.2.2.2.2.1 = stepK ki le Mcells Mgap stn ln (m_56 + 1) (x9.2.1).toNat x9.2.2.2.2.2.2.2.2) ∧ (simR Mmany 8 (x9.2.2.1) (x9.2.2.2.1) (x9.2.2.2.2.1) (x9.2.2.2.2.2.1) (x9.2.2.2.2.2.2.1) x9.2.2.2.2.2.2.2.1.1 x9.2.2.2.2.2.2.2.1.2.1 x9.2.2.2.2.2.2.2.1.2.2.2) ∧ (jpN Mmany le Mcells x9.2.2.2.2.2.2.2.1.1 x9.2.2.2.2.2.2.2.1.2.2.2) ∧ (x9.2.2.2.2.2.2.2.2 = (runK ki le Mcells Mgap stn ln Mmany Mminute s0 (m_56 - Mminute).toNat) ∧ ¬ allP ln Mmany x9.2.2.2.2.2.2.2.2.2.2.2) ∧ (∀ k, k < 8 → (x9.2.2.1) k = Mhead k ∧ (x9.2.2.2.1) k = Mplays k ∧ (x9.2.2.2.2.1) k = Mrests k ∧ (x9.2.2.2.2.2.1) k = Mwent k ∧ (x9.2.2.2.2.2.2.1) k = Mout k) ∧ ((x9.1) = 0 ∨ (x9.1) = 1) ∧ HW D A s.heap (kM cI cB cZ oM Mthrown_4 Mmany Mguest Mrow Mbars Mbar Mfresh Mtape Mtaped Mpos Mtoken MtokenAt Mvalue Mwrong MwrongAt MfaultKind MfaultPlace Mthing Morder Mone Mtwo Mbest Mcells Mgap Mwire Mstand Mruns Mminute (x9.2.2.1) (x9.2.2.2.1) (x9.2.2.2.2.1) (x9.2.2.2.2.2.1) (x9.2.2.2.2.2.2.1) Mcame Mgone MlastOut) H locs ∧ lv_has ls 5 [(0, .ref (oM 0)), (2, .int (zI (m_56 + 1))), (3, .int (zI (x9.1))), (4, .int (zI (x9.2.1)))]) (mv_57, 0, Mhead_58, Mplays_59, Mrests_60, Mwent_61, Mout_62, (runK ki le Mcells Mgap stn ln Mmany Mminute s0 (m_56 - Mminute).toNat), (runK ki le Mcells Mgap stn ln Mmany Mminute s0 (m_56 - Mminute).toNat)) ⟨hR_64, hR_65, hR_66, hR_67, hR_68, hv_85, hv_86, hv_87, hv_88, hv_89, hv_90, hv_91, hw, lv_sub hl [2, 1, 3, 0] rfl⟩ ?_
                clear hw hl
                intro x9 H locs ls hI ih_92
                obtain ⟨mv_93, i_94, Mhead_95, Mplays_96, Mrests_97, Mwent_98, Mout_99, q_100, qz_101⟩ := x9
                try dsimp only at hI
                obtain ⟨hR_102, hR_103, hR_104, hR_105, hR_106, hI_107, hI_108, hI_109, hI_110, hI_111, hI_112, hI_113, hw, hl⟩ := hI
                refine lv_iload hx hb dX8_ends_170 (lv_at hl 3 rfl) ?_
                refine lv_aload_n hx hb dX8_ends_172 rfl (lv_at hl 0 rfl) ?_
                refine va_get (D := D) (ci := 8) (v := .int (zI Mmany)) (C := RX8) (T := TX8) (N := 36) hx hb hts hinX8 hown hK hw.1 0 rfl rfl 1 (by decide) (hts (.fieldLink RX8 72 "CarnivalRoadModel" "many" "I") (by decide +kernel)) (fun _ h9 => h9) rfl dX8_ends_173 ?_
                refine z_icmp_ge (tgt := 208) hx hb dX8_ends_176 (by decide) (by omega) (fun hc_114 => ?_) (fun hc_114 => ?_)
                · skip
                  refine lv_goto (tgt := 155) hx hb dX8_ends_208 (by decide) ?_
                  have hv_115 : 0 ≤ (m_56 + 1) - Mminute ∧ (m_56 + 1) - Mminute ≤ (B : Int) := by
                    have hz := hlt (fun y => absurd (hov.mpr y) (by assumption))
                    omega
                  have hv_116 : (runK ki le Mcells Mgap stn ln Mmany Mminute s0 (m_56 + 1 - Mminute).toNat) = (runK ki le Mcells Mgap stn ln Mmany Mminute s0 ((m_56 + 1) - Mminute).toNat) := by
                    rfl
                  have hv_117 : simR Mmany 8 Mhead_95 Mplays_96 Mrests_97 Mwent_98 Mout_99 (runK ki le Mcells Mgap stn ln Mmany Mminute s0 (m_56 + 1 - Mminute).toNat).1 (runK ki le Mcells Mgap stn ln Mmany Mminute s0 (m_56 + 1 - Mminute).toNat).2.1 (runK ki le Mcells Mgap stn ln Mmany Mminute s0 (m_56 + 1 - Mminute).toNat).2.2.2 := by
                    rw [show (m_56 + 1 - Mminute).toNat = (m_56 - Mminute).toNat + 1 by omega]
                    exact run_sim (by assumption : qz_101 = _ ∧ _).1 (by assumption : _ = stepK ki le Mcells Mgap stn ln (m_56 + 1) i_94.toNat qz_101) (by omega) (by omega) (by assumption)
                  have hv_118 : jpN Mmany le Mcells (runK ki le Mcells Mgap stn ln Mmany Mminute s0 (m_56 + 1 - Mminute).toNat).1 (runK ki le Mcells Mgap stn ln Mmany Mminute s0 (m_56 + 1 - Mminute).toNat).2.2.2 := by
                    rw [show (m_56 + 1 - Mminute).toNat = (m_56 - Mminute).toNat + 1 by omega]
                    exact run_jp (by assumption : qz_101 = _ ∧ _).1 (by assumption : _ = stepK ki le Mcells Mgap stn ln (m_56 + 1) i_94.toNat qz_101) (by omega) (by omega) (by assumption)
                  have hv_119 : ∀ j : Nat, j < ((m_56 + 1) - Mminute).toNat → ¬ allP ln Mmany (runK ki le Mcells Mgap stn ln Mmany Mminute s0 j).2.2.2 := by
                    have h6 := (by assumption : qz_101 = _ ∧ ¬ allP ln Mmany qz_101.2.2.2)
                    intro j hj
                    by_cases e : j = (m_56 - Mminute).toNat
                    · rw [e, ← h6.1]; exact h6.2
                    · exact (by assumption : ∀ j : Nat, j < (m_56 - Mminute).toNat → ¬ allP ln Mmany (runK ki le Mcells Mgap stn ln Mmany Mminute s0 j).2.2.2) j (by omega)
                  have hv_120 : ∀ k, k < 8 → Mhead_95 k = Mhead k ∧ Mplays_96 k = Mplays k ∧ Mrests_97 k = Mrests k ∧ Mwent_98 k = Mwent k ∧ Mout_99 k = Mout k := by
                    first | assumption | omega | grind
                  have hv_121 : mv_93 = 0 ∨ mv_93 = 1 := by
                    first | assumption | omega | grind
                  have hm_122 : (B + 1 - ((m_56 + 1) - Mminute).toNat) < (B + 1 - (m_56 - Mminute).toNat) := by
                    have hz := hlt (fun y => absurd (hov.mpr y) (by assumption))
                    omega
                  exact ih_55 ((m_56 + 1), mv_93, Mhead_95, Mplays_96, Mrests_97, Mwent_98, Mout_99, (runK ki le Mcells Mgap stn ln Mmany Mminute s0 (m_56 + 1 - Mminute).toNat)) _ _ _ ⟨hR_102, hR_103, hR_104, hR_105, hR_106, hv_115, hv_116, hv_117, hv_118, hv_119, hv_120, hv_121, hw, lv_sub hl [0, 1, 2] rfl⟩ hm_122
                · skip
                  refine lv_aload_n hx hb dX8_ends_179 rfl (lv_at hl 0 rfl) ?_
                  refine z_bipush hx hb dX8_ends_180 (by decide) ?_
                  refine lv_iload hx hb dX8_ends_182 (lv_at hl 3 rfl) ?_
                  refine lv_iload_n hx hb dX8_ends_184 rfl (lv_at hl 1 rfl) ?_
                  refine z_iconst hx hb dX8_ends_185 ?_
                  have hpre_123 : (8 : Int) = 0 ∨ (8 : Int) = 8 := by
                    first | assumption | omega | grind
                  have hpre_124 : i_94 < Mmany := by
                    first | assumption | omega | grind
                  have hpre_125 : ∀ i, 0 ≤ i → i < Mmany → 0 ≤ Mrow i ∧ Mrow i < Mmany := by
                    exact hp0.1
                  have hpre_126 : gRel Mmany ki le lo ta sh Mguest := by
                    first | assumption | omega | grind
                  have hpre_127 : simR Mmany (8 : Int) Mhead_95 Mplays_96 Mrests_97 Mwent_98 Mout_99 (q_100.1) (q_100.2.1) (q_100.2.2.2) := by
                    first | assumption | omega | grind
                  have hpre_128 : ∀ g, 0 ≤ g → g < Mmany → (q_100.2.2.2) g = -1 → (q_100.1) g - le g + 1 < Mcells := by
                    exact (by assumption : jpN Mmany le Mcells q_100.1 q_100.2.2.2)
                  have hF9 := z_free (wc := kM cI cB cZ oM Mthrown_4 Mmany Mguest Mrow Mbars Mbar Mfresh Mtape Mtaped Mpos Mtoken MtokenAt Mvalue Mwrong MwrongAt MfaultKind MfaultPlace Mthing Morder Mone Mtwo Mbest Mcells Mgap Mwire Mstand Mruns Mminute Mhead_95 Mplays_96 Mrests_97 Mwent_98 Mout_99 Mcame Mgone MlastOut) hw hA [0, 1, 2, 3, 4, 5, 6, 7, 8, 9, 10, 11, 12, 13, 14, 15, 16] rfl
                  refine va_calli (va_runV (As := [.int (zI 8), .int (zI i_94), .int (zI (m_56 + 1)), .int (zI 0)]) (rest := []) ⟨hx, hb, hml, hown, hts⟩ (c_X8_goes l D cI cB cZ oM H.size Mthrown_4 Mmany Mguest Mrow Mbars Mbar Mfresh Mtape Mtaped Mpos Mtoken MtokenAt Mvalue Mwrong MwrongAt MfaultKind MfaultPlace Mthing Morder Mone Mtwo Mbest Mcells Mgap Mwire Mstand Mruns Mminute Mhead_95 Mplays_96 Mrests_97 Mwent_98 Mout_99 Mcame Mgone MlastOut 8 i_94 (m_56 + 1) 0 ki le lo ta sh (q_100.1) (q_100.2.1) (q_100.2.2.1) (q_100.2.2.2) (by omega) (by omega) qMguest qMrow (by omega) qMbar qMfresh qMtape (by omega) (by omega) (by omega) (by omega) (by omega) (by omega) (by omega) (by omega) (by omega) (by omega) qMorder (by omega) (by omega) qMbest (by omega) (by omega) qMwire qMstand (by omega) (by omega) hR_102 hR_103 hR_104 hR_105 hR_106 qMcame qMgone (by omega) (by first | omega | (have hz := hlt (fun y => absurd (hov.mpr y) (by assumption)); have hb := (hp5 (by omega)).2; omega)) (by first | omega | (have hz := hlt (fun y => absurd (hov.mpr y) (by assumption)); have hb := (hp5 (by omega)).2; omega)) (by first | omega | (have hz := hlt (fun y => absurd (hov.mpr y) (by assumption)); have hb := (hp5 (by omega)).2; omega)) (by first | omega | (have hz := hlt (fun y => absurd (hov.mpr y) (by assumption)); have hb := (hp5 (by omega)).2; omega)) hpre_123 hpre_124 hpre_125 hpre_126 hpre_127 hpre_128) (cwV 4 hts gX8_ends_X8_goes rfl rfl rfl (by decide +kernel) ⟨Nat.le_of_ble_eq_true rfl, Nat.le_of_ble_eq_true rfl⟩) ⟨zPre_blind, va_recv hK hw.1 (ci := 8) (q0 := 0) rfl rfl, z_pre hK hw [0, 1, 2, 3, 4, 5, 6, 7, 8, 9, 10, 11, 12, 13, 14, 15, 16] (by decide) rfl⟩ rfl rfl hl.1 rfl (lv_room (Nat.le_of_ble_eq_true rfl)) dX8_ends_186 ⟨Nat.zero_le _, Nat.zero_le _⟩) hw.2.2 (fun q _ h => hF9 q h) hF9 (fun r9 u9 t9 H_129 locs9 ht9 hvm9 hq9 hB9 hz9 hk9 hS9 => ?_)
                  obtain ⟨r_130, Mhead_131, Mplays_132, Mrests_133, Mwent_134, Mout_135⟩ := u9
                  try dsimp only at hq9 hB9
                  obtain ⟨rfl, hq9⟩ := hq9
                  obtain ⟨hq_136, hq_137, hq_138, hq_139, hq_140, hq_141, hq_142⟩ := hq9
                  have hw : HW D A s.heap (kM cI cB cZ oM Mthrown_4 Mmany Mguest Mrow Mbars Mbar Mfresh Mtape Mtaped Mpos Mtoken MtokenAt Mvalue Mwrong MwrongAt MfaultKind MfaultPlace Mthing Morder Mone Mtwo Mbest Mcells Mgap Mwire Mstand Mruns Mminute Mhead_131 Mplays_132 Mrests_133 Mwent_134 Mout_135 Mcame Mgone MlastOut) H_129 locs9 := z_after (wc := kM cI cB cZ oM Mthrown_4 Mmany Mguest Mrow Mbars Mbar Mfresh Mtape Mtaped Mpos Mtoken MtokenAt Mvalue Mwrong MwrongAt MfaultKind MfaultPlace Mthing Morder Mone Mtwo Mbest Mcells Mgap Mwire Mstand Mruns Mminute Mhead_95 Mplays_96 Mrests_97 Mwent_98 Mout_99 Mcame Mgone MlastOut) hw [0, 1, 2, 3, 4, 5, 6, 7, 8, 9, 10, 11, 12, 13, 14, 15, 16] [] rfl rfl (by decide) (by decide) hF9 hk9 ht9 hB9 hS9 [0, 1, 2, 3, 4, 5, 6, 7, 8, 9, 10, 11, 12, 13, 14, 15, 16] (by decide) rfl
                  clear hF9 ht9 hvm9 hB9 hz9 hk9 hS9
                  refine z_if_ne (tgt := 196) hx hb dX8_ends_189 (by decide) (by omega) (fun hc_143 => ?_) (fun hc_143 => ?_)
                  · skip
                    refine z_iconst hx hb dX8_ends_196 ?_
                    refine lv_goto (tgt := 201) hx hb dX8_ends_197 (by decide) ?_
                    refine lv_istore_n (lv' := [(3, .int (zI 1)), (0, .ref (oM 0)), (2, .int (zI (m_56 + 1))), (4, .int (zI i_94))]) hx hb dX8_ends_201 rfl hl (by decide) rfl (fun ls hl => ?_)
                    refine z_iinc (k := 3) (lv' := [(4, .int (zI (i_94 + 1))), (3, .int (zI 1)), (0, .ref (oM 0)), (2, .int (zI (m_56 + 1)))]) hx hb dX8_ends_202 hl rfl (by decide) rfl (fun ls hl => ?_)
                    refine lv_goto (tgt := 170) hx hb dX8_ends_205 (by decide) ?_
                    have hv_144 : 0 ≤ (i_94 + 1) ∧ (i_94 + 1) ≤ Mmany := by
                      first | assumption | omega | grind
                    have hv_145 : (stepK ki le Mcells Mgap stn ln (m_56 + 1) (i_94 + 1).toNat qz_101) = stepK ki le Mcells Mgap stn ln (m_56 + 1) (i_94 + 1).toNat qz_101 := by
                      rfl
                    have hv_146 : simR Mmany 8 Mhead_131 Mplays_132 Mrests_133 Mwent_134 Mout_135 (stepK ki le Mcells Mgap stn ln (m_56 + 1) (i_94 + 1).toNat qz_101).1 (stepK ki le Mcells Mgap stn ln (m_56 + 1) (i_94 + 1).toNat qz_101).2.1 (stepK ki le Mcells Mgap stn ln (m_56 + 1) (i_94 + 1).toNat qz_101).2.2.2 := by
                      have hst : stepK ki le Mcells Mgap stn ln (m_56 + 1) (i_94 + 1).toNat qz_101 = goG ki le Mcells Mstand (m_56 + 1) (Mrow i_94) ((0 : Int) = 1 ∨ roomP le Mgap Mrow i_94 q_100.1 q_100.2.2.2) q_100 := by
                        rw [go_conv (s := q_100) (p := i_94) (alone := 0) (n := Mmany) (ln := ln) (stn := stn) (by omega) (by omega) hp2 hp3, show (i_94 + 1).toNat = i_94.toNat + 1 by omega, step_go, show ((i_94.toNat : Nat) : Int) = i_94 by omega, ← (by assumption : q_100 = stepK ki le Mcells Mgap stn ln (m_56 + 1) i_94.toNat qz_101)]
                      rw [hst]
                      exact (by assumption : goPost Mmany 8 (Mrow i_94) _ _ _ _ _ _ _ _ _ _ _ _).1
                    have hv_147 : jpN Mmany le Mcells (stepK ki le Mcells Mgap stn ln (m_56 + 1) (i_94 + 1).toNat qz_101).1 (stepK ki le Mcells Mgap stn ln (m_56 + 1) (i_94 + 1).toNat qz_101).2.2.2 := by
                      have hst : stepK ki le Mcells Mgap stn ln (m_56 + 1) (i_94 + 1).toNat qz_101 = goG ki le Mcells Mstand (m_56 + 1) (Mrow i_94) ((0 : Int) = 1 ∨ roomP le Mgap Mrow i_94 q_100.1 q_100.2.2.2) q_100 := by
                        rw [go_conv (s := q_100) (p := i_94) (alone := 0) (n := Mmany) (ln := ln) (stn := stn) (by omega) (by omega) hp2 hp3, show (i_94 + 1).toNat = i_94.toNat + 1 by omega, step_go, show ((i_94.toNat : Nat) : Int) = i_94 by omega, ← (by assumption : q_100 = stepK ki le Mcells Mgap stn ln (m_56 + 1) i_94.toNat qz_101)]
                      rw [hst]
                      exact jpN_go (by assumption) (by omega)
                    have hv_148 : qz_101 = (runK ki le Mcells Mgap stn ln Mmany Mminute s0 (m_56 - Mminute).toNat) ∧ ¬ allP ln Mmany qz_101.2.2.2 := by
                      assumption
                    have hv_149 : ∀ k, k < 8 → Mhead_131 k = Mhead k ∧ Mplays_132 k = Mplays k ∧ Mrests_133 k = Mrests k ∧ Mwent_134 k = Mwent k ∧ Mout_135 k = Mout k := by
                      intro k k8
                      have q1 := (by assumption : goPost Mmany 8 (Mrow i_94) _ _ _ _ _ _ _ _ _ _ _ _).2.1 k (by have q9 := hp0.1 i_94 (by omega) (by omega); omega)
                      have q2 := (by assumption : ∀ k, k < 8 → Mhead_95 k = Mhead k ∧ Mplays_96 k = Mplays k ∧ Mrests_97 k = Mrests k ∧ Mwent_98 k = Mwent k ∧ Mout_99 k = Mout k) k k8
                      exact ⟨q1.1.trans q2.1, q1.2.1.trans q2.2.1, q1.2.2.1.trans q2.2.2.1, q1.2.2.2.1.trans q2.2.2.2.1, q1.2.2.2.2.trans q2.2.2.2.2⟩
                    have hv_150 : (1 : Int) = 0 ∨ (1 : Int) = 1 := by
                      first | assumption | omega | grind
                    have hm_151 : (9 - (i_94 + 1)).toNat < (9 - i_94).toNat := by
                      first | assumption | omega | grind
                    exact ih_92 (1, (i_94 + 1), Mhead_131, Mplays_132, Mrests_133, Mwent_134, Mout_135, (stepK ki le Mcells Mgap stn ln (m_56 + 1) (i_94 + 1).toNat qz_101), qz_101) _ _ _ ⟨hq_136, hq_137, hq_138, hq_139, hq_140, hv_144, hv_145, hv_146, hv_147, hv_148, hv_149, hv_150, hw, lv_sub hl [2, 3, 1, 0] rfl⟩ hm_151
                  · skip
                    refine lv_iload_n hx hb dX8_ends_192 rfl (lv_at hl 2 rfl) ?_
                    refine z_if_eq (tgt := 200) hx hb dX8_ends_193 (by decide) (by omega) (fun hc_152 => ?_) (fun hc_152 => ?_)
                    · skip
                      refine z_iconst hx hb dX8_ends_200 ?_
                      refine lv_istore_n (lv' := [(3, .int (zI 0)), (0, .ref (oM 0)), (2, .int (zI (m_56 + 1))), (4, .int (zI i_94))]) hx hb dX8_ends_201 rfl hl (by decide) rfl (fun ls hl => ?_)
                      refine z_iinc (k := 3) (lv' := [(4, .int (zI (i_94 + 1))), (3, .int (zI 0)), (0, .ref (oM 0)), (2, .int (zI (m_56 + 1)))]) hx hb dX8_ends_202 hl rfl (by decide) rfl (fun ls hl => ?_)
                      refine lv_goto (tgt := 170) hx hb dX8_ends_205 (by decide) ?_
                      have hv_153 : 0 ≤ (i_94 + 1) ∧ (i_94 + 1) ≤ Mmany := by
                        first | assumption | omega | grind
                      have hv_154 : (stepK ki le Mcells Mgap stn ln (m_56 + 1) (i_94 + 1).toNat qz_101) = stepK ki le Mcells Mgap stn ln (m_56 + 1) (i_94 + 1).toNat qz_101 := by
                        rfl
                      have hv_155 : simR Mmany 8 Mhead_131 Mplays_132 Mrests_133 Mwent_134 Mout_135 (stepK ki le Mcells Mgap stn ln (m_56 + 1) (i_94 + 1).toNat qz_101).1 (stepK ki le Mcells Mgap stn ln (m_56 + 1) (i_94 + 1).toNat qz_101).2.1 (stepK ki le Mcells Mgap stn ln (m_56 + 1) (i_94 + 1).toNat qz_101).2.2.2 := by
                        have hst : stepK ki le Mcells Mgap stn ln (m_56 + 1) (i_94 + 1).toNat qz_101 = goG ki le Mcells Mstand (m_56 + 1) (Mrow i_94) ((0 : Int) = 1 ∨ roomP le Mgap Mrow i_94 q_100.1 q_100.2.2.2) q_100 := by
                          rw [go_conv (s := q_100) (p := i_94) (alone := 0) (n := Mmany) (ln := ln) (stn := stn) (by omega) (by omega) hp2 hp3, show (i_94 + 1).toNat = i_94.toNat + 1 by omega, step_go, show ((i_94.toNat : Nat) : Int) = i_94 by omega, ← (by assumption : q_100 = stepK ki le Mcells Mgap stn ln (m_56 + 1) i_94.toNat qz_101)]
                        rw [hst]
                        exact (by assumption : goPost Mmany 8 (Mrow i_94) _ _ _ _ _ _ _ _ _ _ _ _).1
                      have hv_156 : jpN Mmany le Mcells (stepK ki le Mcells Mgap stn ln (m_56 + 1) (i_94 + 1).toNat qz_101).1 (stepK ki le Mcells Mgap stn ln (m_56 + 1) (i_94 + 1).toNat qz_101).2.2.2 := by
                        have hst : stepK ki le Mcells Mgap stn ln (m_56 + 1) (i_94 + 1).toNat qz_101 = goG ki le Mcells Mstand (m_56 + 1) (Mrow i_94) ((0 : Int) = 1 ∨ roomP le Mgap Mrow i_94 q_100.1 q_100.2.2.2) q_100 := by
                          rw [go_conv (s := q_100) (p := i_94) (alone := 0) (n := Mmany) (ln := ln) (stn := stn) (by omega) (by omega) hp2 hp3, show (i_94 + 1).toNat = i_94.toNat + 1 by omega, step_go, show ((i_94.toNat : Nat) : Int) = i_94 by omega, ← (by assumption : q_100 = stepK ki le Mcells Mgap stn ln (m_56 + 1) i_94.toNat qz_101)]
                        rw [hst]
                        exact jpN_go (by assumption) (by omega)
                      have hv_157 : qz_101 = (runK ki le Mcells Mgap stn ln Mmany Mminute s0 (m_56 - Mminute).toNat) ∧ ¬ allP ln Mmany qz_101.2.2.2 := by
                        assumption
                      have hv_158 : ∀ k, k < 8 → Mhead_131 k = Mhead k ∧ Mplays_132 k = Mplays k ∧ Mrests_133 k = Mrests k ∧ Mwent_134 k = Mwent k ∧ Mout_135 k = Mout k := by
                        intro k k8
                        have q1 := (by assumption : goPost Mmany 8 (Mrow i_94) _ _ _ _ _ _ _ _ _ _ _ _).2.1 k (by have q9 := hp0.1 i_94 (by omega) (by omega); omega)
                        have q2 := (by assumption : ∀ k, k < 8 → Mhead_95 k = Mhead k ∧ Mplays_96 k = Mplays k ∧ Mrests_97 k = Mrests k ∧ Mwent_98 k = Mwent k ∧ Mout_99 k = Mout k) k k8
                        exact ⟨q1.1.trans q2.1, q1.2.1.trans q2.2.1, q1.2.2.1.trans q2.2.2.1, q1.2.2.2.1.trans q2.2.2.2.1, q1.2.2.2.2.trans q2.2.2.2.2⟩
                      have hv_159 : (0 : Int) = 0 ∨ (0 : Int) = 1 := by
                        first | assumption | omega | grind
                      have hm_160 : (9 - (i_94 + 1)).toNat < (9 - i_94).toNat := by
                        first | assumption | omega | grind
                      exact ih_92 (0, (i_94 + 1), Mhead_131, Mplays_132, Mrests_133, Mwent_134, Mout_135, (stepK ki le Mcells Mgap stn ln (m_56 + 1) (i_94 + 1).toNat qz_101), qz_101) _ _ _ ⟨hq_136, hq_137, hq_138, hq_139, hq_140, hv_153, hv_154, hv_155, hv_156, hv_157, hv_158, hv_159, hw, lv_sub hl [2, 3, 1, 0] rfl⟩ hm_160
                    · skip
                      refine z_iconst hx hb dX8_ends_196 ?_
                      refine lv_goto (tgt := 201) hx hb dX8_ends_197 (by decide) ?_
                      refine lv_istore_n (lv' := [(3, .int (zI 1)), (0, .ref (oM 0)), (2, .int (zI (m_56 + 1))), (4, .int (zI i_94))]) hx hb dX8_ends_201 rfl hl (by decide) rfl (fun ls hl => ?_)
                      refine z_iinc (k := 3) (lv' := [(4, .int (zI (i_94 + 1))), (3, .int (zI 1)), (0, .ref (oM 0)), (2, .int (zI (m_56 + 1)))]) hx hb dX8_ends_202 hl rfl (by decide) rfl (fun ls hl => ?_)
                      refine lv_goto (tgt := 170) hx hb dX8_ends_205 (by decide) ?_
                      have hv_161 : 0 ≤ (i_94 + 1) ∧ (i_94 + 1) ≤ Mmany := by
                        first | assumption | omega | grind
                      have hv_162 : (stepK ki le Mcells Mgap stn ln (m_56 + 1) (i_94 + 1).toNat qz_101) = stepK ki le Mcells Mgap stn ln (m_56 + 1) (i_94 + 1).toNat qz_101 := by
                        rfl
                      have hv_163 : simR Mmany 8 Mhead_131 Mplays_132 Mrests_133 Mwent_134 Mout_135 (stepK ki le Mcells Mgap stn ln (m_56 + 1) (i_94 + 1).toNat qz_101).1 (stepK ki le Mcells Mgap stn ln (m_56 + 1) (i_94 + 1).toNat qz_101).2.1 (stepK ki le Mcells Mgap stn ln (m_56 + 1) (i_94 + 1).toNat qz_101).2.2.2 := by
                        have hst : stepK ki le Mcells Mgap stn ln (m_56 + 1) (i_94 + 1).toNat qz_101 = goG ki le Mcells Mstand (m_56 + 1) (Mrow i_94) ((0 : Int) = 1 ∨ roomP le Mgap Mrow i_94 q_100.1 q_100.2.2.2) q_100 := by
                          rw [go_conv (s := q_100) (p := i_94) (alone := 0) (n := Mmany) (ln := ln) (stn := stn) (by omega) (by omega) hp2 hp3, show (i_94 + 1).toNat = i_94.toNat + 1 by omega, step_go, show ((i_94.toNat : Nat) : Int) = i_94 by omega, ← (by assumption : q_100 = stepK ki le Mcells Mgap stn ln (m_56 + 1) i_94.toNat qz_101)]
                        rw [hst]
                        exact (by assumption : goPost Mmany 8 (Mrow i_94) _ _ _ _ _ _ _ _ _ _ _ _).1
                      have hv_164 : jpN Mmany le Mcells (stepK ki le Mcells Mgap stn ln (m_56 + 1) (i_94 + 1).toNat qz_101).1 (stepK ki le Mcells Mgap stn ln (m_56 + 1) (i_94 + 1).toNat qz_101).2.2.2 := by
                        have hst : stepK ki le Mcells Mgap stn ln (m_56 + 1) (i_94 + 1).toNat qz_101 = goG ki le Mcells Mstand (m_56 + 1) (Mrow i_94) ((0 : Int) = 1 ∨ roomP le Mgap Mrow i_94 q_100.1 q_100.2.2.2) q_100 := by
                          rw [go_conv (s := q_100) (p := i_94) (alone := 0) (n := Mmany) (ln := ln) (stn := stn) (by omega) (by omega) hp2 hp3, show (i_94 + 1).toNat = i_94.toNat + 1 by omega, step_go, show ((i_94.toNat : Nat) : Int) = i_94 by omega, ← (by assumption : q_100 = stepK ki le Mcells Mgap stn ln (m_56 + 1) i_94.toNat qz_101)]
                        rw [hst]
                        exact jpN_go (by assumption) (by omega)
                      have hv_165 : qz_101 = (runK ki le Mcells Mgap stn ln Mmany Mminute s0 (m_56 - Mminute).toNat) ∧ ¬ allP ln Mmany qz_101.2.2.2 := by
                        assumption
                      have hv_166 : ∀ k, k < 8 → Mhead_131 k = Mhead k ∧ Mplays_132 k = Mplays k ∧ Mrests_133 k = Mrests k ∧ Mwent_134 k = Mwent k ∧ Mout_135 k = Mout k := by
                        intro k k8
                        have q1 := (by assumption : goPost Mmany 8 (Mrow i_94) _ _ _ _ _ _ _ _ _ _ _ _).2.1 k (by have q9 := hp0.1 i_94 (by omega) (by omega); omega)
                        have q2 := (by assumption : ∀ k, k < 8 → Mhead_95 k = Mhead k ∧ Mplays_96 k = Mplays k ∧ Mrests_97 k = Mrests k ∧ Mwent_98 k = Mwent k ∧ Mout_99 k = Mout k) k k8
                        exact ⟨q1.1.trans q2.1, q1.2.1.trans q2.2.1, q1.2.2.1.trans q2.2.2.1, q1.2.2.2.1.trans q2.2.2.2.1, q1.2.2.2.2.trans q2.2.2.2.2⟩
                      have hv_167 : (1 : Int) = 0 ∨ (1 : Int) = 1 := by
                        first | assumption | omega | grind
                      have hm_168 : (9 - (i_94 + 1)).toNat < (9 - i_94).toNat := by
                        first | assumption | omega | grind
                      exact ih_92 (1, (i_94 + 1), Mhead_131, Mplays_132, Mrests_133, Mwent_134, Mout_135, (stepK ki le Mcells Mgap stn ln (m_56 + 1) (i_94 + 1).toNat qz_101), qz_101) _ _ _ ⟨hq_136, hq_137, hq_138, hq_139, hq_140, hv_161, hv_162, hv_163, hv_164, hv_165, hv_166, hv_167, hw, lv_sub hl [2, 3, 1, 0] rfl⟩ hm_168
          · skip
            refine lv_aload_n hx hb dX8_ends_53 rfl (lv_at hl 0 rfl) ?_
            refine va_get (D := D) (ci := 8) (v := .ref (oM 10)) (C := RX8) (T := TX8) (N := 36) hx hb hts hinX8 hown hK hw.1 0 rfl rfl 28 (by decide) (hts (.fieldLink RX8 47 "CarnivalRoadModel" "head" "[I") (by decide +kernel)) (fun _ h9 => h9) rfl dX8_ends_54 ?_
            refine z_bipush hx hb dX8_ends_57 (by decide) ?_
            refine lv_iload_n hx hb dX8_ends_59 rfl (lv_at hl 1 rfl) ?_
            refine z_iadd hx hb dX8_ends_60 ?_
            refine lv_aload_n hx hb dX8_ends_61 rfl (lv_at hl 0 rfl) ?_
            refine va_get (D := D) (ci := 8) (v := .ref (oM 10)) (C := RX8) (T := TX8) (N := 36) hx hb hts hinX8 hown hK hw.1 0 rfl rfl 28 (by decide) (hts (.fieldLink RX8 47 "CarnivalRoadModel" "head" "[I") (by decide +kernel)) (fun _ h9 => h9) rfl dX8_ends_62 ?_
            refine lv_iload_n hx hb dX8_ends_65 rfl (lv_at hl 1 rfl) ?_
            have hi_169 : (0 : Int) ≤ m_24 ∧ m_24 < ((16 : Nat) : Int) := by
              first | assumption | omega | grind
            refine z_iald (n := 16) (f := Mhead_25) hx hb hK hw 10 rfl (by decide) hi_169 dX8_ends_66 ?_
            have hq_170 : -1 ≤ Mhead_25 m_24 ∧ Mhead_25 m_24 ≤ 60 := hR_30 m_24
            have hi_171 : (0 : Int) ≤ (8 + m_24) ∧ (8 + m_24) < ((16 : Nat) : Int) := by
              first | assumption | omega | grind
            have hv_172 : (-1 : Int) ≤ (Mhead_25 m_24) ∧ (Mhead_25 m_24) ≤ 60 := by
              first | assumption | omega | grind
            have hR_173 : RA (uZ Mhead_25 (8 + m_24) (Mhead_25 m_24)) (-1) 60 := RA_up hR_30 hv_172
            refine z_iast (n := 16) (f := Mhead_25) (ws2 := kM cI cB cZ oM Mthrown_4 Mmany Mguest Mrow Mbars Mbar Mfresh Mtape Mtaped Mpos Mtoken MtokenAt Mvalue Mwrong MwrongAt MfaultKind MfaultPlace Mthing Morder Mone Mtwo Mbest Mcells Mgap Mwire Mstand Mruns Mminute (uZ Mhead_25 (8 + m_24) (Mhead_25 m_24)) Mplays_26 Mrests_27 Mwent_28 Mout_29 Mcame Mgone MlastOut) hx hb hK hw 10 rfl (by decide) hi_171 dX8_ends_67 rfl (fun H locs hw => ?_)
            refine lv_aload_n hx hb dX8_ends_68 rfl (lv_at hl 0 rfl) ?_
            refine va_get (D := D) (ci := 8) (v := .ref (oM 11)) (C := RX8) (T := TX8) (N := 36) hx hb hts hinX8 hown hK hw.1 0 rfl rfl 29 (by decide) (hts (.fieldLink RX8 50 "CarnivalRoadModel" "plays" "[I") (by decide +kernel)) (fun _ h9 => h9) rfl dX8_ends_69 ?_
            refine z_bipush hx hb dX8_ends_72 (by decide) ?_
            refine lv_iload_n hx hb dX8_ends_74 rfl (lv_at hl 1 rfl) ?_
            refine z_iadd hx hb dX8_ends_75 ?_
            refine lv_aload_n hx hb dX8_ends_76 rfl (lv_at hl 0 rfl) ?_
            refine va_get (D := D) (ci := 8) (v := .ref (oM 11)) (C := RX8) (T := TX8) (N := 36) hx hb hts hinX8 hown hK hw.1 0 rfl rfl 29 (by decide) (hts (.fieldLink RX8 50 "CarnivalRoadModel" "plays" "[I") (by decide +kernel)) (fun _ h9 => h9) rfl dX8_ends_77 ?_
            refine lv_iload_n hx hb dX8_ends_80 rfl (lv_at hl 1 rfl) ?_
            have hi_174 : (0 : Int) ≤ m_24 ∧ m_24 < ((16 : Nat) : Int) := by
              first | assumption | omega | grind
            refine z_iald (n := 16) (f := Mplays_26) hx hb hK hw 11 rfl (by decide) hi_174 dX8_ends_81 ?_
            have hq_175 : 0 ≤ Mplays_26 m_24 ∧ Mplays_26 m_24 ≤ 18 := hR_31 m_24
            have hi_176 : (0 : Int) ≤ (8 + m_24) ∧ (8 + m_24) < ((16 : Nat) : Int) := by
              first | assumption | omega | grind
            have hv_177 : (0 : Int) ≤ (Mplays_26 m_24) ∧ (Mplays_26 m_24) ≤ 18 := by
              first | assumption | omega | grind
            have hR_178 : RA (uZ Mplays_26 (8 + m_24) (Mplays_26 m_24)) (0) 18 := RA_up hR_31 hv_177
            refine z_iast (n := 16) (f := Mplays_26) (ws2 := kM cI cB cZ oM Mthrown_4 Mmany Mguest Mrow Mbars Mbar Mfresh Mtape Mtaped Mpos Mtoken MtokenAt Mvalue Mwrong MwrongAt MfaultKind MfaultPlace Mthing Morder Mone Mtwo Mbest Mcells Mgap Mwire Mstand Mruns Mminute (uZ Mhead_25 (8 + m_24) (Mhead_25 m_24)) (uZ Mplays_26 (8 + m_24) (Mplays_26 m_24)) Mrests_27 Mwent_28 Mout_29 Mcame Mgone MlastOut) hx hb hK hw 11 rfl (by decide) hi_176 dX8_ends_82 rfl (fun H locs hw => ?_)
            refine lv_aload_n hx hb dX8_ends_83 rfl (lv_at hl 0 rfl) ?_
            refine va_get (D := D) (ci := 8) (v := .ref (oM 12)) (C := RX8) (T := TX8) (N := 36) hx hb hts hinX8 hown hK hw.1 0 rfl rfl 30 (by decide) (hts (.fieldLink RX8 53 "CarnivalRoadModel" "rests" "[I") (by decide +kernel)) (fun _ h9 => h9) rfl dX8_ends_84 ?_
            refine z_bipush hx hb dX8_ends_87 (by decide) ?_
            refine lv_iload_n hx hb dX8_ends_89 rfl (lv_at hl 1 rfl) ?_
            refine z_iadd hx hb dX8_ends_90 ?_
            refine lv_aload_n hx hb dX8_ends_91 rfl (lv_at hl 0 rfl) ?_
            refine va_get (D := D) (ci := 8) (v := .ref (oM 12)) (C := RX8) (T := TX8) (N := 36) hx hb hts hinX8 hown hK hw.1 0 rfl rfl 30 (by decide) (hts (.fieldLink RX8 53 "CarnivalRoadModel" "rests" "[I") (by decide +kernel)) (fun _ h9 => h9) rfl dX8_ends_92 ?_
            refine lv_iload_n hx hb dX8_ends_95 rfl (lv_at hl 1 rfl) ?_
            have hi_179 : (0 : Int) ≤ m_24 ∧ m_24 < ((16 : Nat) : Int) := by
              first | assumption | omega | grind
            refine z_iald (n := 16) (f := Mrests_27) hx hb hK hw 12 rfl (by decide) hi_179 dX8_ends_96 ?_
            have hq_180 : 0 ≤ Mrests_27 m_24 ∧ Mrests_27 m_24 ≤ 3 := hR_32 m_24
            have hi_181 : (0 : Int) ≤ (8 + m_24) ∧ (8 + m_24) < ((16 : Nat) : Int) := by
              first | assumption | omega | grind
            have hv_182 : (0 : Int) ≤ (Mrests_27 m_24) ∧ (Mrests_27 m_24) ≤ 3 := by
              first | assumption | omega | grind
            have hR_183 : RA (uZ Mrests_27 (8 + m_24) (Mrests_27 m_24)) (0) 3 := RA_up hR_32 hv_182
            refine z_iast (n := 16) (f := Mrests_27) (ws2 := kM cI cB cZ oM Mthrown_4 Mmany Mguest Mrow Mbars Mbar Mfresh Mtape Mtaped Mpos Mtoken MtokenAt Mvalue Mwrong MwrongAt MfaultKind MfaultPlace Mthing Morder Mone Mtwo Mbest Mcells Mgap Mwire Mstand Mruns Mminute (uZ Mhead_25 (8 + m_24) (Mhead_25 m_24)) (uZ Mplays_26 (8 + m_24) (Mplays_26 m_24)) (uZ Mrests_27 (8 + m_24) (Mrests_27 m_24)) Mwent_28 Mout_29 Mcame Mgone MlastOut) hx hb hK hw 12 rfl (by decide) hi_181 dX8_ends_97 rfl (fun H locs hw => ?_)
            refine lv_aload_n hx hb dX8_ends_98 rfl (lv_at hl 0 rfl) ?_
            refine va_get (D := D) (ci := 8) (v := .ref (oM 13)) (C := RX8) (T := TX8) (N := 36) hx hb hts hinX8 hown hK hw.1 0 rfl rfl 31 (by decide) (hts (.fieldLink RX8 56 "CarnivalRoadModel" "went" "[I") (by decide +kernel)) (fun _ h9 => h9) rfl dX8_ends_99 ?_
            refine z_bipush hx hb dX8_ends_102 (by decide) ?_
            refine lv_iload_n hx hb dX8_ends_104 rfl (lv_at hl 1 rfl) ?_
            refine z_iadd hx hb dX8_ends_105 ?_
            refine lv_aload_n hx hb dX8_ends_106 rfl (lv_at hl 0 rfl) ?_
            refine va_get (D := D) (ci := 8) (v := .ref (oM 13)) (C := RX8) (T := TX8) (N := 36) hx hb hts hinX8 hown hK hw.1 0 rfl rfl 31 (by decide) (hts (.fieldLink RX8 56 "CarnivalRoadModel" "went" "[I") (by decide +kernel)) (fun _ h9 => h9) rfl dX8_ends_107 ?_
            refine lv_iload_n hx hb dX8_ends_110 rfl (lv_at hl 1 rfl) ?_
            have hi_184 : (0 : Int) ≤ m_24 ∧ m_24 < ((16 : Nat) : Int) := by
              first | assumption | omega | grind
            refine z_iald (n := 16) (f := Mwent_28) hx hb hK hw 13 rfl (by decide) hi_184 dX8_ends_111 ?_
            have hq_185 : 0 ≤ Mwent_28 m_24 ∧ Mwent_28 m_24 ≤ 61 := hR_33 m_24
            have hi_186 : (0 : Int) ≤ (8 + m_24) ∧ (8 + m_24) < ((16 : Nat) : Int) := by
              first | assumption | omega | grind
            have hv_187 : (0 : Int) ≤ (Mwent_28 m_24) ∧ (Mwent_28 m_24) ≤ 61 := by
              first | assumption | omega | grind
            have hR_188 : RA (uZ Mwent_28 (8 + m_24) (Mwent_28 m_24)) (0) 61 := RA_up hR_33 hv_187
            refine z_iast (n := 16) (f := Mwent_28) (ws2 := kM cI cB cZ oM Mthrown_4 Mmany Mguest Mrow Mbars Mbar Mfresh Mtape Mtaped Mpos Mtoken MtokenAt Mvalue Mwrong MwrongAt MfaultKind MfaultPlace Mthing Morder Mone Mtwo Mbest Mcells Mgap Mwire Mstand Mruns Mminute (uZ Mhead_25 (8 + m_24) (Mhead_25 m_24)) (uZ Mplays_26 (8 + m_24) (Mplays_26 m_24)) (uZ Mrests_27 (8 + m_24) (Mrests_27 m_24)) (uZ Mwent_28 (8 + m_24) (Mwent_28 m_24)) Mout_29 Mcame Mgone MlastOut) hx hb hK hw 13 rfl (by decide) hi_186 dX8_ends_112 rfl (fun H locs hw => ?_)
            refine lv_aload_n hx hb dX8_ends_113 rfl (lv_at hl 0 rfl) ?_
            refine va_get (D := D) (ci := 8) (v := .ref (oM 14)) (C := RX8) (T := TX8) (N := 36) hx hb hts hinX8 hown hK hw.1 0 rfl rfl 32 (by decide) (hts (.fieldLink RX8 59 "CarnivalRoadModel" "out" "[Z") (by decide +kernel)) (fun _ h9 => h9) rfl dX8_ends_114 ?_
            refine z_bipush hx hb dX8_ends_117 (by decide) ?_
            refine lv_iload_n hx hb dX8_ends_119 rfl (lv_at hl 1 rfl) ?_
            refine z_iadd hx hb dX8_ends_120 ?_
            refine lv_aload_n hx hb dX8_ends_121 rfl (lv_at hl 0 rfl) ?_
            refine va_get (D := D) (ci := 8) (v := .ref (oM 14)) (C := RX8) (T := TX8) (N := 36) hx hb hts hinX8 hown hK hw.1 0 rfl rfl 32 (by decide) (hts (.fieldLink RX8 59 "CarnivalRoadModel" "out" "[Z") (by decide +kernel)) (fun _ h9 => h9) rfl dX8_ends_122 ?_
            refine lv_iload_n hx hb dX8_ends_125 rfl (lv_at hl 1 rfl) ?_
            have hi_189 : (0 : Int) ≤ m_24 ∧ m_24 < ((16 : Nat) : Int) := by
              first | assumption | omega | grind
            refine z_zald (n := 16) (f := Mout_29) hx hb hK hw 14 rfl (by decide) hi_189 dX8_ends_126 ?_
            have hq_190 : 0 ≤ Mout_29 m_24 ∧ Mout_29 m_24 ≤ 1 := hR_34 m_24
            have hi_191 : (0 : Int) ≤ (8 + m_24) ∧ (8 + m_24) < ((16 : Nat) : Int) := by
              first | assumption | omega | grind
            have hv_192 : (0 : Int) ≤ (Mout_29 m_24) ∧ (Mout_29 m_24) ≤ 1 := by
              first | assumption | omega | grind
            have hR_193 : RA (uZ Mout_29 (8 + m_24) (Mout_29 m_24)) (0) 1 := RA_up hR_34 hv_192
            refine z_zast (n := 16) (f := Mout_29) (ws2 := kM cI cB cZ oM Mthrown_4 Mmany Mguest Mrow Mbars Mbar Mfresh Mtape Mtaped Mpos Mtoken MtokenAt Mvalue Mwrong MwrongAt MfaultKind MfaultPlace Mthing Morder Mone Mtwo Mbest Mcells Mgap Mwire Mstand Mruns Mminute (uZ Mhead_25 (8 + m_24) (Mhead_25 m_24)) (uZ Mplays_26 (8 + m_24) (Mplays_26 m_24)) (uZ Mrests_27 (8 + m_24) (Mrests_27 m_24)) (uZ Mwent_28 (8 + m_24) (Mwent_28 m_24)) (uZ Mout_29 (8 + m_24) (Mout_29 m_24)) Mcame Mgone MlastOut) hx hb hK hw 14 rfl (z_narZ2 (by omega)) (by decide) hi_191 dX8_ends_127 rfl (fun H locs hw => ?_)
            refine z_iinc (k := 1) (lv' := [(2, .int (zI (m_24 + 1))), (0, .ref (oM 0))]) hx hb dX8_ends_128 hl rfl (by decide) rfl (fun ls hl => ?_)
            refine lv_goto (tgt := 45) hx hb dX8_ends_131 (by decide) ?_
            have hv_194 : 0 ≤ (m_24 + 1) ∧ (m_24 + 1) ≤ Mmany := by
              first | assumption | omega | grind
            have hv_195 : ∀ a, 0 ≤ a → a < (m_24 + 1) → (uZ Mhead_25 (8 + m_24) (Mhead_25 m_24)) (8 + a) = Mhead a ∧ (uZ Mplays_26 (8 + m_24) (Mplays_26 m_24)) (8 + a) = Mplays a ∧ (uZ Mrests_27 (8 + m_24) (Mrests_27 m_24)) (8 + a) = Mrests a ∧ (uZ Mwent_28 (8 + m_24) (Mwent_28 m_24)) (8 + a) = Mwent a ∧ (uZ Mout_29 (8 + m_24) (Mout_29 m_24)) (8 + a) = Mout a := by
              subst_vars
              have hf := (by assumption : ∀ k, k < 8 → Mhead_25 k = Mhead k ∧ Mplays_26 k = Mplays k ∧ Mrests_27 k = Mrests k ∧ Mwent_28 k = Mwent k ∧ Mout_29 k = Mout k) m_24 (by omega)
              refine all_s (fun a a0 a1 => ?_) ⟨by rw [uZ_s]; exact hf.1, by rw [uZ_s]; exact hf.2.1, by rw [uZ_s]; exact hf.2.2.1, by rw [uZ_s]; exact hf.2.2.2.1, by rw [uZ_s]; exact hf.2.2.2.2⟩
              rw [uZ_n (by omega), uZ_n (by omega), uZ_n (by omega), uZ_n (by omega), uZ_n (by omega)]
              revert a1
              revert a0
              revert a
              assumption
            have hv_196 : ∀ k, k < 8 → (uZ Mhead_25 (8 + m_24) (Mhead_25 m_24)) k = Mhead k ∧ (uZ Mplays_26 (8 + m_24) (Mplays_26 m_24)) k = Mplays k ∧ (uZ Mrests_27 (8 + m_24) (Mrests_27 m_24)) k = Mrests k ∧ (uZ Mwent_28 (8 + m_24) (Mwent_28 m_24)) k = Mwent k ∧ (uZ Mout_29 (8 + m_24) (Mout_29 m_24)) k = Mout k := by
              intro k k8
              rw [uZ_n (by omega), uZ_n (by omega), uZ_n (by omega), uZ_n (by omega), uZ_n (by omega)]
              revert k8
              revert k
              assumption
            have hm_197 : (9 - (m_24 + 1)).toNat < (9 - m_24).toNat := by
              first | assumption | omega | grind
            exact ih_23 ((m_24 + 1), (uZ Mhead_25 (8 + m_24) (Mhead_25 m_24)), (uZ Mplays_26 (8 + m_24) (Mplays_26 m_24)), (uZ Mrests_27 (8 + m_24) (Mrests_27 m_24)), (uZ Mwent_28 (8 + m_24) (Mwent_28 m_24)), (uZ Mout_29 (8 + m_24) (Mout_29 m_24))) _ _ _ ⟨hR_173, hR_178, hR_183, hR_188, hR_193, hv_194, hv_195, hv_196, hw, lv_sub hl [1, 0] rfl⟩ hm_197
        · skip
          refine lv_aload_n hx hb dX8_ends_38 rfl (lv_at hl 0 rfl) ?_
          have hpre_198 : permP Mmany Mrow := by
            assumption
          have hpre_199 : gRel Mmany ki le lo ta sh Mguest := by
            assumption
          have hpre_200 : ∀ c, 0 ≤ c → c < Mcells → Mstand c = stn c := by
            assumption
          have hpre_201 : ∀ g, 0 ≤ g → g < Mmany → 0 ≤ le g ∧ le g ≤ 5 := by
            assumption
          have hF9 := z_free (wc := kM cI cB cZ oM Mthrown_4 Mmany Mguest Mrow Mbars Mbar Mfresh Mtape Mtaped Mpos Mtoken MtokenAt Mvalue Mwrong MwrongAt MfaultKind MfaultPlace Mthing Morder Mone Mtwo Mbest Mcells Mgap Mwire Mstand Mruns Mminute Mhead Mplays Mrests Mwent Mout Mcame Mgone MlastOut) hw hA [0, 1, 2, 3, 4, 5, 6, 7, 8, 9, 10, 11, 12, 13, 14, 15, 16] rfl
          refine va_calli (va_runV (As := []) (rest := []) ⟨hx, hb, hml, hown, hts⟩ (c_X8_alone l D cI cB cZ oM H_14.size Mthrown_4 Mmany Mguest Mrow Mbars Mbar Mfresh Mtape Mtaped Mpos Mtoken MtokenAt Mvalue Mwrong MwrongAt MfaultKind MfaultPlace Mthing Morder Mone Mtwo Mbest Mcells Mgap Mwire Mstand Mruns Mminute Mhead Mplays Mrests Mwent Mout Mcame Mgone MlastOut ki le lo ta sh stn (by omega) (by omega) qMguest qMrow (by omega) qMbar qMfresh qMtape (by omega) (by omega) (by omega) (by omega) (by omega) (by omega) (by omega) (by omega) (by omega) (by omega) qMorder (by omega) (by omega) qMbest (by omega) (by omega) qMwire qMstand (by omega) (by omega) qMhead qMplays qMrests qMwent qMout qMcame qMgone (by omega) hpre_198 hpre_199 hpre_200 hpre_201) (cwV 0 hts gX8_ends_X8_alone rfl rfl rfl (by decide +kernel) ⟨Nat.le_of_ble_eq_true rfl, Nat.le_of_ble_eq_true rfl⟩) ⟨zPre_blind, va_recv hK hw.1 (ci := 8) (q0 := 0) rfl rfl, z_pre hK hw [0, 1, 2, 3, 4, 5, 6, 7, 8, 9, 10, 11, 12, 13, 14, 15, 16] (by decide) rfl⟩ rfl rfl hl.1 rfl (lv_room (Nat.le_of_ble_eq_true rfl)) dX8_ends_39 ⟨Nat.zero_le _, Nat.zero_le _⟩) hw.2.2 (fun q _ h => hF9 q h) hF9 (fun r9 u9 t9 H_202 locs9 ht9 hvm9 hq9 hB9 hz9 hk9 hS9 => ?_)
          obtain ⟨r_203, Mhead_204, Mplays_205, Mrests_206, Mwent_207, Mout_208⟩ := u9
          try dsimp only at hq9 hB9
          obtain ⟨rfl, hq9⟩ := hq9
          obtain ⟨hq_209, hq_210, hq_211, hq_212, hq_213, hq_214, hq_215, hq_216⟩ := hq9
          have hw : HW D A s.heap (kM cI cB cZ oM Mthrown_4 Mmany Mguest Mrow Mbars Mbar Mfresh Mtape Mtaped Mpos Mtoken MtokenAt Mvalue Mwrong MwrongAt MfaultKind MfaultPlace Mthing Morder Mone Mtwo Mbest Mcells Mgap Mwire Mstand Mruns Mminute Mhead_204 Mplays_205 Mrests_206 Mwent_207 Mout_208 Mcame Mgone MlastOut) H_202 locs9 := z_after (wc := kM cI cB cZ oM Mthrown_4 Mmany Mguest Mrow Mbars Mbar Mfresh Mtape Mtaped Mpos Mtoken MtokenAt Mvalue Mwrong MwrongAt MfaultKind MfaultPlace Mthing Morder Mone Mtwo Mbest Mcells Mgap Mwire Mstand Mruns Mminute Mhead Mplays Mrests Mwent Mout Mcame Mgone MlastOut) hw [0, 1, 2, 3, 4, 5, 6, 7, 8, 9, 10, 11, 12, 13, 14, 15, 16] [] rfl rfl (by decide) (by decide) hF9 hk9 ht9 hB9 hS9 [0, 1, 2, 3, 4, 5, 6, 7, 8, 9, 10, 11, 12, 13, 14, 15, 16] (by decide) rfl
          clear hF9 ht9 hvm9 hB9 hz9 hk9 hS9
          have hv_217 : (0 : Int) ≤ Mthrown_4 ∧ Mthrown_4 ≤ 2 := by
            first | assumption | omega | grind
          have hv_218 : (Mruns = 0 ∧ Mthrown_4 = 1) ∨ (Mruns = 1 ∧ Mthrown_4 = 0 ∧ ((¬ (0 ≤ w ∧ w ≤ 1) ∧ r_203 = -1) ∨ (w = 1 ∧ soloM ki le Mcells Mgap stn Mmany r_203) ∨ (w = 0 ∧ ∃ k : Nat, r_203 = Mminute + (k : Int) ∧ allP ln Mmany (runK ki le Mcells Mgap stn ln Mmany Mminute s0 k).2.2.2 ∧ ∀ j : Nat, j < k → ¬ allP ln Mmany (runK ki le Mcells Mgap stn ln Mmany Mminute s0 j).2.2.2))) := by
            exact Or.inr ⟨by omega, by omega, Or.inr (Or.inl ⟨by omega, by assumption⟩)⟩
          have hv_219 : ∀ k, k < 8 → Mhead_204 k = Mhead k ∧ Mplays_205 k = Mplays k ∧ Mrests_206 k = Mrests k ∧ Mwent_207 k = Mwent k ∧ Mout_208 k = Mout k := by
            assumption
          exact W.iret (v := zI r_203) hx hb hr (fun t9 ht hW => ⟨⟨zI r_203, (r_203, Mthrown_4, Mhead_204, Mplays_205, Mrests_206, Mwent_207, Mout_208), rfl, ⟨rfl, ⟨hv_217, hq_209, hq_210, hq_211, hq_212, hq_213, hv_218, hv_219⟩⟩, by subst hAe; exact z_end hK hw ht hW⟩, by subst hAe; exact hw.2.2.F ht⟩) (by subst hAe; exact hw.2.2.2.2) dX8_ends_42
      · skip
        refine z_if_ne (tgt := 33) hx hb dX8_ends_28 (by decide) (by omega) (fun hc_220 => absurd hc_220 (by omega)) (fun hc_220 => ?_)
        refine z_iconst hx hb dX8_ends_31 ?_
        have hv_221 : (0 : Int) ≤ Mthrown_4 ∧ Mthrown_4 ≤ 2 := by
          first | assumption | omega | grind
        have hv_222 : (Mruns = 0 ∧ Mthrown_4 = 1) ∨ (Mruns = 1 ∧ Mthrown_4 = 0 ∧ ((¬ (0 ≤ w ∧ w ≤ 1) ∧ ((-1) : Int) = -1) ∨ (w = 1 ∧ soloM ki le Mcells Mgap stn Mmany ((-1) : Int)) ∨ (w = 0 ∧ ∃ k : Nat, ((-1) : Int) = Mminute + (k : Int) ∧ allP ln Mmany (runK ki le Mcells Mgap stn ln Mmany Mminute s0 k).2.2.2 ∧ ∀ j : Nat, j < k → ¬ allP ln Mmany (runK ki le Mcells Mgap stn ln Mmany Mminute s0 j).2.2.2))) := by
          exact Or.inr ⟨by omega, by omega, Or.inl ⟨by omega, rfl⟩⟩
        have hv_223 : ∀ k, k < 8 → Mhead k = Mhead k ∧ Mplays k = Mplays k ∧ Mrests k = Mrests k ∧ Mwent k = Mwent k ∧ Mout k = Mout k := by
          exact fun k _ => ⟨rfl, rfl, rfl, rfl, rfl⟩
        exact W.iret (v := zI (-1)) hx hb hr (fun t9 ht hW => ⟨⟨zI (-1), ((-1), Mthrown_4, Mhead, Mplays, Mrests, Mwent, Mout), rfl, ⟨rfl, ⟨hv_221, qMhead, qMplays, qMrests, qMwent, qMout, hv_222, hv_223⟩⟩, by subst hAe; exact z_end hK hw ht hW⟩, by subst hAe; exact hw.2.2.F ht⟩) (by subst hAe; exact hw.2.2.2.2) dX8_ends_32
  · skip
    refine z_iconst hx hb dX8_ends_8 ?_
    refine lv_goto (tgt := 13) hx hb dX8_ends_9 (by decide) ?_
    refine z_iconst hx hb dX8_ends_13 ?_
    have hF9 := z_free (wc := kM cI cB cZ oM Mthrown Mmany Mguest Mrow Mbars Mbar Mfresh Mtape Mtaped Mpos Mtoken MtokenAt Mvalue Mwrong MwrongAt MfaultKind MfaultPlace Mthing Morder Mone Mtwo Mbest Mcells Mgap Mwire Mstand Mruns Mminute Mhead Mplays Mrests Mwent Mout Mcame Mgone MlastOut) hw hA [0, 1, 2, 3, 4, 5, 6, 7, 8, 9, 10, 11, 12, 13, 14, 15, 16] rfl
    refine va_calli (va_runV (As := [.int (zI 1), .int (zI 0)]) (rest := []) ⟨hx, hb, hml, hown, hts⟩ (c_X8_fails l D cI cB cZ oM s.heap.size Mthrown Mmany Mguest Mrow Mbars Mbar Mfresh Mtape Mtaped Mpos Mtoken MtokenAt Mvalue Mwrong MwrongAt MfaultKind MfaultPlace Mthing Morder Mone Mtwo Mbest Mcells Mgap Mwire Mstand Mruns Mminute Mhead Mplays Mrests Mwent Mout Mcame Mgone MlastOut 1 0 (by omega) (by omega) qMguest qMrow (by omega) qMbar qMfresh qMtape (by omega) (by omega) (by omega) (by omega) (by omega) (by omega) (by omega) (by omega) (by omega) (by omega) qMorder (by omega) (by omega) qMbest (by omega) (by omega) qMwire qMstand (by omega) (by omega) qMhead qMplays qMrests qMwent qMout qMcame qMgone (by omega) (by omega) (by omega)) (cwV 2 hts gX8_ends_X8_fails rfl rfl rfl (by decide +kernel) ⟨Nat.le_of_ble_eq_true rfl, Nat.le_of_ble_eq_true rfl⟩) ⟨zPre_blind, va_recv hK hw.1 (ci := 8) (q0 := 0) rfl rfl, z_pre hK hw [0, 1, 2, 3, 4, 5, 6, 7, 8, 9, 10, 11, 12, 13, 14, 15, 16] (by decide) rfl⟩ rfl rfl hl.1 rfl (lv_room (Nat.le_of_ble_eq_true rfl)) dX8_ends_14 ⟨Nat.zero_le _, Nat.zero_le _⟩) hw.2.2 (fun q _ h => hF9 q h) hF9 (fun r9 u9 t9 H_224 locs9 ht9 hvm9 hq9 hB9 hz9 hk9 hS9 => ?_)
    obtain ⟨r_225, Mthrown_226⟩ := u9
    try dsimp only at hq9 hB9
    obtain ⟨rfl, hq9⟩ := hq9
    obtain ⟨hq_227, hq_228, hq_229⟩ := hq9
    have hw : HW D A s.heap (kM cI cB cZ oM Mthrown_226 Mmany Mguest Mrow Mbars Mbar Mfresh Mtape Mtaped Mpos Mtoken MtokenAt Mvalue Mwrong MwrongAt MfaultKind MfaultPlace Mthing Morder Mone Mtwo Mbest Mcells Mgap Mwire Mstand Mruns Mminute Mhead Mplays Mrests Mwent Mout Mcame Mgone MlastOut) H_224 locs9 := z_after (wc := kM cI cB cZ oM Mthrown Mmany Mguest Mrow Mbars Mbar Mfresh Mtape Mtaped Mpos Mtoken MtokenAt Mvalue Mwrong MwrongAt MfaultKind MfaultPlace Mthing Morder Mone Mtwo Mbest Mcells Mgap Mwire Mstand Mruns Mminute Mhead Mplays Mrests Mwent Mout Mcame Mgone MlastOut) hw [0, 1, 2, 3, 4, 5, 6, 7, 8, 9, 10, 11, 12, 13, 14, 15, 16] [] rfl rfl (by decide) (by decide) hF9 hk9 ht9 hB9 hS9 [0, 1, 2, 3, 4, 5, 6, 7, 8, 9, 10, 11, 12, 13, 14, 15, 16] (by decide) rfl
    clear hF9 ht9 hvm9 hB9 hz9 hk9 hS9
    rcases hq_228 with ⟨hc_230, rfl⟩ | ⟨hc_230, rfl⟩
    · skip
      refine z_if_eq (tgt := 22) hx hb dX8_ends_17 (by decide) (by omega) (fun hc_231 => absurd hc_231 (by omega)) (fun hc_231 => ?_)
      refine z_iconst hx hb dX8_ends_20 ?_
      have hv_232 : (0 : Int) ≤ Mthrown_226 ∧ Mthrown_226 ≤ 2 := by
        first | assumption | omega | grind
      have hv_233 : (Mruns = 0 ∧ Mthrown_226 = 1) ∨ (Mruns = 1 ∧ Mthrown_226 = 0 ∧ ((¬ (0 ≤ w ∧ w ≤ 1) ∧ (0 : Int) = -1) ∨ (w = 1 ∧ soloM ki le Mcells Mgap stn Mmany (0 : Int)) ∨ (w = 0 ∧ ∃ k : Nat, (0 : Int) = Mminute + (k : Int) ∧ allP ln Mmany (runK ki le Mcells Mgap stn ln Mmany Mminute s0 k).2.2.2 ∧ ∀ j : Nat, j < k → ¬ allP ln Mmany (runK ki le Mcells Mgap stn ln Mmany Mminute s0 j).2.2.2))) := by
        exact Or.inl ⟨by omega, by omega⟩
      have hv_234 : ∀ k, k < 8 → Mhead k = Mhead k ∧ Mplays k = Mplays k ∧ Mrests k = Mrests k ∧ Mwent k = Mwent k ∧ Mout k = Mout k := by
        exact fun k _ => ⟨rfl, rfl, rfl, rfl, rfl⟩
      exact W.iret (v := zI 0) hx hb hr (fun t9 ht hW => ⟨⟨zI 0, (0, Mthrown_226, Mhead, Mplays, Mrests, Mwent, Mout), rfl, ⟨rfl, ⟨hv_232, qMhead, qMplays, qMrests, qMwent, qMout, hv_233, hv_234⟩⟩, by subst hAe; exact z_end hK hw ht hW⟩, by subst hAe; exact hw.2.2.F ht⟩) (by subst hAe; exact hw.2.2.2.2) dX8_ends_21
    · skip
      refine z_if_eq (tgt := 22) hx hb dX8_ends_17 (by decide) (by omega) (fun hc_235 => ?_) (fun hc_235 => absurd hc_235 (by omega))
      refine lv_iload_n hx hb dX8_ends_22 rfl (lv_at hl 1 rfl) ?_
      refine z_iconst hx hb dX8_ends_23 ?_
      refine z_iconst hx hb dX8_ends_24 ?_
      have hF9 := z_free (wc := ([] : va_W)) hw hA [] rfl
      refine va_calli (va_runS (As := [.int (zI w), .int (zI 0), .int (zI 1)]) (rest := []) ⟨hx, hb, hml, hown, hts⟩ (c_X8_isIn l D cI cB cZ H_224.size w 0 1 (by omega) (by omega) (by omega)) (va_cwS 3 hts gX8_ends_X8_isIn rfl rfl rfl (by decide +kernel) ⟨Nat.le_of_ble_eq_true rfl, Nat.le_of_ble_eq_true rfl⟩) ⟨zPre_blind, z_pre hK hw [] (by decide) rfl⟩ rfl rfl hl.1 rfl (lv_room (Nat.le_of_ble_eq_true rfl)) dX8_ends_25 ⟨Nat.zero_le _, Nat.zero_le _⟩) hw.2.2 (fun q _ h => hF9 q h) hF9 (fun r9 u9 t9 H_236 locs9 ht9 hvm9 hq9 hB9 hz9 hk9 hS9 => ?_)
      obtain ⟨r_237, rfl⟩ : ∃ z, z = u9 := ⟨_, rfl⟩
      try dsimp only at hq9 hB9
      obtain ⟨rfl, hq9⟩ := hq9
      have hq_238 := hq9
      have hw : HW D A s.heap (kM cI cB cZ oM Mthrown_226 Mmany Mguest Mrow Mbars Mbar Mfresh Mtape Mtaped Mpos Mtoken MtokenAt Mvalue Mwrong MwrongAt MfaultKind MfaultPlace Mthing Morder Mone Mtwo Mbest Mcells Mgap Mwire Mstand Mruns Mminute Mhead Mplays Mrests Mwent Mout Mcame Mgone MlastOut) H_236 locs9 := z_after (wc := ([] : va_W)) hw [] [0, 1, 2, 3, 4, 5, 6, 7, 8, 9, 10, 11, 12, 13, 14, 15, 16] rfl rfl (by decide) (by decide) hF9 hk9 ht9 hB9 hS9 [0, 1, 2, 3, 4, 5, 6, 7, 8, 9, 10, 11, 12, 13, 14, 15, 16] (by decide) rfl
      clear hF9 ht9 hvm9 hB9 hz9 hk9 hS9 hq9
      rcases hq_238 with ⟨hc_239, rfl⟩ | ⟨hc_239, rfl⟩
      · skip
        refine z_if_ne (tgt := 33) hx hb dX8_ends_28 (by decide) (by omega) (fun hc_240 => ?_) (fun hc_240 => absurd hc_240 (by omega))
        refine lv_iload_n hx hb dX8_ends_33 rfl (lv_at hl 1 rfl) ?_
        refine z_iconst hx hb dX8_ends_34 ?_
        refine z_icmp_ne (tgt := 43) hx hb dX8_ends_35 (by decide) (by omega) (fun hc_241 => ?_) (fun hc_241 => ?_)
        · skip
          refine z_iconst hx hb dX8_ends_43 ?_
          refine lv_istore_n (lv' := [(2, .int (zI 0)), (0, .ref (oM 0)), (1, .int (zI w))]) hx hb dX8_ends_44 rfl hl (by decide) rfl (fun ls hl => ?_)
          have hv_242 : 0 ≤ (0 : Int) ∧ (0 : Int) ≤ Mmany := by
            first | assumption | omega | grind
          have hv_243 : ∀ a, 0 ≤ a → a < (0 : Int) → Mhead (8 + a) = Mhead a ∧ Mplays (8 + a) = Mplays a ∧ Mrests (8 + a) = Mrests a ∧ Mwent (8 + a) = Mwent a ∧ Mout (8 + a) = Mout a := by
            exact fun a a0 a1 => absurd a1 (by omega)
          have hv_244 : ∀ k, k < 8 → Mhead k = Mhead k ∧ Mplays k = Mplays k ∧ Mrests k = Mrests k ∧ Mwent k = Mwent k ∧ Mout k = Mout k := by
            exact fun k _ => ⟨rfl, rfl, rfl, rfl, rfl⟩
          refine z_loop (σ := Int × (Int → Int) × (Int → Int) × (Int → Int) × (Int → Int) × (Int → Int)) (μ := fun x9 => (9 - (x9.1)).toNat) (I := fun x9 H locs ls => (RA (x9.2.1) (-1) 60) ∧ (RA (x9.2.2.1) (0) 18) ∧ (RA (x9.2.2.2.1) (0) 3) ∧ (RA (x9.2.2.2.2.1) (0) 61) ∧ (RA (x9.2.2.2.2.2) (0) 1) ∧ (0 ≤ (x9.1) ∧ (x9.1) ≤ Mmany) ∧ (∀ a, 0 ≤ a → a < (x9.1) → (x9.2.1) (8 + a) = Mhead a ∧ (x9.2.2.1) (8 + a) = Mplays a ∧ (x9.2.2.2.1) (8 + a) = Mrests a ∧ (x9.2.2.2.2.1) (8 + a) = Mwent a ∧ (x9.2.2.2.2.2) (8 + a) = Mout a) ∧ (∀ k, k < 8 → (x9.2.1) k = Mhead k ∧ (x9.2.2.1) k = Mplays k ∧ (x9.2.2.2.1) k = Mrests k ∧ (x9.2.2.2.2.1) k = Mwent k ∧ (x9.2.2.2.2.2) k = Mout k) ∧ HW D A s.heap (kM cI cB cZ oM Mthrown_226 Mmany Mguest Mrow Mbars Mbar Mfresh Mtape Mtaped Mpos Mtoken MtokenAt Mvalue Mwrong MwrongAt MfaultKind MfaultPlace Mthing Morder Mone Mtwo Mbest Mcells Mgap Mwire Mstand Mruns Mminute (x9.2.1) (x9.2.2.1) (x9.2.2.2.1) (x9.2.2.2.2.1) (x9.2.2.2.2.2) Mcame Mgone MlastOut) H locs ∧ lv_has ls 5 [(0, .ref (oM 0)), (2, .int (zI (x9.1)))]) (0, Mhead, Mplays, Mrests, Mwent, Mout) ⟨qMhead, qMplays, qMrests, qMwent, qMout, hv_242, hv_243, hv_244, hw, lv_sub hl [1, 0] rfl⟩ ?_
          clear hw hl
          intro x9 H locs ls hI ih_245
          obtain ⟨m_246, Mhead_247, Mplays_248, Mrests_249, Mwent_250, Mout_251⟩ := x9
          try dsimp only at hI
          obtain ⟨hR_252, hR_253, hR_254, hR_255, hR_256, hI_257, hI_258, hI_259, hw, hl⟩ := hI
          have hsm : Mmany ≤ m_246 → simR Mmany 8 Mhead_247 Mplays_248 Mrests_249 Mwent_250 Mout_251 s0.1 s0.2.1 s0.2.2.2 := fun z g g0 g1 => by
              have q1 := (hp5 (by omega)).1.1 g g0 g1
              have q2 := (by assumption : ∀ a, 0 ≤ a → a < m_246 → Mhead_247 (8 + a) = Mhead a ∧ Mplays_248 (8 + a) = Mplays a ∧ Mrests_249 (8 + a) = Mrests a ∧ Mwent_250 (8 + a) = Mwent a ∧ Mout_251 (8 + a) = Mout a) g g0 (by omega)
              rw [Int.zero_add] at q1
              rw [q2.1, q2.2.1, q2.2.2.1, q2.2.2.2.1, q2.2.2.2.2]
              exact q1
          refine lv_iload_n hx hb dX8_ends_45 rfl (lv_at hl 1 rfl) ?_
          refine lv_aload_n hx hb dX8_ends_46 rfl (lv_at hl 0 rfl) ?_
          refine va_get (D := D) (ci := 8) (v := .int (zI Mmany)) (C := RX8) (T := TX8) (N := 36) hx hb hts hinX8 hown hK hw.1 0 rfl rfl 1 (by decide) (hts (.fieldLink RX8 72 "CarnivalRoadModel" "many" "I") (by decide +kernel)) (fun _ h9 => h9) rfl dX8_ends_47 ?_
          refine z_icmp_ge (tgt := 134) hx hb dX8_ends_50 (by decide) (by omega) (fun hc_260 => ?_) (fun hc_260 => ?_)
          · skip
            refine lv_aload_n hx hb dX8_ends_134 rfl (lv_at hl 0 rfl) ?_
            refine z_bipush hx hb dX8_ends_135 (by decide) ?_
            have hF9 := z_free (wc := kM cI cB cZ oM Mthrown_226 Mmany Mguest Mrow Mbars Mbar Mfresh Mtape Mtaped Mpos Mtoken MtokenAt Mvalue Mwrong MwrongAt MfaultKind MfaultPlace Mthing Morder Mone Mtwo Mbest Mcells Mgap Mwire Mstand Mruns Mminute Mhead_247 Mplays_248 Mrests_249 Mwent_250 Mout_251 Mcame Mgone MlastOut) hw hA [0, 1, 2, 3, 4, 5, 6, 7, 8, 9, 10, 11, 12, 13, 14, 15, 16] rfl
            refine va_calli (va_runV (As := [.int (zI 8)]) (rest := []) ⟨hx, hb, hml, hown, hts⟩ (c_X8_isOver l D cI cB cZ oM H.size Mthrown_226 Mmany Mguest Mrow Mbars Mbar Mfresh Mtape Mtaped Mpos Mtoken MtokenAt Mvalue Mwrong MwrongAt MfaultKind MfaultPlace Mthing Morder Mone Mtwo Mbest Mcells Mgap Mwire Mstand Mruns Mminute Mhead_247 Mplays_248 Mrests_249 Mwent_250 Mout_251 Mcame Mgone MlastOut 8 (by omega) (by omega) qMguest qMrow (by omega) qMbar qMfresh qMtape (by omega) (by omega) (by omega) (by omega) (by omega) (by omega) (by omega) (by omega) (by omega) (by omega) qMorder (by omega) (by omega) qMbest (by omega) (by omega) qMwire qMstand (by omega) (by omega) hR_252 hR_253 hR_254 hR_255 hR_256 qMcame qMgone (by omega) (by omega)) (cwV 1 hts gX8_ends_X8_isOver rfl rfl rfl (by decide +kernel) ⟨Nat.le_of_ble_eq_true rfl, Nat.le_of_ble_eq_true rfl⟩) ⟨zPre_blind, va_recv hK hw.1 (ci := 8) (q0 := 0) rfl rfl, z_pre hK hw [0, 1, 2, 3, 4, 5, 6, 7, 8, 9, 10, 11, 12, 13, 14, 15, 16] (by decide) rfl⟩ rfl rfl hl.1 rfl (lv_room (Nat.le_of_ble_eq_true rfl)) dX8_ends_137 ⟨Nat.zero_le _, Nat.zero_le _⟩) hw.2.2 (fun q _ h => hF9 q h) hF9 (fun r9 u9 t9 H_261 locs9 ht9 hvm9 hq9 hB9 hz9 hk9 hS9 => ?_)
            obtain ⟨r_262, rfl⟩ : ∃ z, z = u9 := ⟨_, rfl⟩
            try dsimp only at hq9 hB9
            obtain ⟨rfl, hq9⟩ := hq9
            have hq_263 := hq9
            have hw : HW D A s.heap (kM cI cB cZ oM Mthrown_226 Mmany Mguest Mrow Mbars Mbar Mfresh Mtape Mtaped Mpos Mtoken MtokenAt Mvalue Mwrong MwrongAt MfaultKind MfaultPlace Mthing Morder Mone Mtwo Mbest Mcells Mgap Mwire Mstand Mruns Mminute Mhead_247 Mplays_248 Mrests_249 Mwent_250 Mout_251 Mcame Mgone MlastOut) H_261 locs9 := z_after (wc := kM cI cB cZ oM Mthrown_226 Mmany Mguest Mrow Mbars Mbar Mfresh Mtape Mtaped Mpos Mtoken MtokenAt Mvalue Mwrong MwrongAt MfaultKind MfaultPlace Mthing Morder Mone Mtwo Mbest Mcells Mgap Mwire Mstand Mruns Mminute Mhead_247 Mplays_248 Mrests_249 Mwent_250 Mout_251 Mcame Mgone MlastOut) hw [0, 1, 2, 3, 4, 5, 6, 7, 8, 9, 10, 11, 12, 13, 14, 15, 16] [] rfl rfl (by decide) (by decide) hF9 hk9 ht9 hB9 hS9 [0, 1, 2, 3, 4, 5, 6, 7, 8, 9, 10, 11, 12, 13, 14, 15, 16] (by decide) rfl
            clear hF9 ht9 hvm9 hB9 hz9 hk9 hS9 hq9
            rcases hq_263 with ⟨hc_264, rfl⟩ | ⟨hc_264, rfl⟩
            · skip
              refine z_if_eq (tgt := 148) hx hb dX8_ends_140 (by decide) (by omega) (fun hc_265 => absurd hc_265 (by omega)) (fun hc_265 => ?_)
              refine lv_aload_n hx hb dX8_ends_143 rfl (lv_at hl 0 rfl) ?_
              refine va_get (D := D) (ci := 8) (v := .int (zI MlastOut)) (C := RX8) (T := TX8) (N := 36) hx hb hts hinX8 hown hK hw.1 0 rfl rfl 35 (by decide) (hts (.fieldLink RX8 211 "CarnivalRoadModel" "lastOut" "I") (by decide +kernel)) (fun _ h9 => h9) rfl dX8_ends_144 ?_
              have hv_266 : (0 : Int) ≤ Mthrown_226 ∧ Mthrown_226 ≤ 2 := by
                first | assumption | omega | grind
              have hv_267 : (Mruns = 0 ∧ Mthrown_226 = 1) ∨ (Mruns = 1 ∧ Mthrown_226 = 0 ∧ ((¬ (0 ≤ w ∧ w ≤ 1) ∧ MlastOut = -1) ∨ (w = 1 ∧ soloM ki le Mcells Mgap stn Mmany MlastOut) ∨ (w = 0 ∧ ∃ k : Nat, MlastOut = Mminute + (k : Int) ∧ allP ln Mmany (runK ki le Mcells Mgap stn ln Mmany Mminute s0 k).2.2.2 ∧ ∀ j : Nat, j < k → ¬ allP ln Mmany (runK ki le Mcells Mgap stn ln Mmany Mminute s0 j).2.2.2))) := by
                refine Or.inr ⟨by omega, by omega, Or.inr (Or.inr ⟨by omega, 0, ?_, ?_, fun j hj => absurd hj (by omega)⟩)⟩
                · have hr := (hp5 (by omega)).1.2.2.2 ((over_iff (hsm (by omega)) hp0).mp (by assumption))
                  omega
                · exact (all_congr hp2).mp ((over_iff (hsm (by omega)) hp0).mp (by assumption))
              have hv_268 : ∀ k, k < 8 → Mhead_247 k = Mhead k ∧ Mplays_248 k = Mplays k ∧ Mrests_249 k = Mrests k ∧ Mwent_250 k = Mwent k ∧ Mout_251 k = Mout k := by
                assumption
              exact W.iret (v := zI MlastOut) hx hb hr (fun t9 ht hW => ⟨⟨zI MlastOut, (MlastOut, Mthrown_226, Mhead_247, Mplays_248, Mrests_249, Mwent_250, Mout_251), rfl, ⟨rfl, ⟨hv_266, hR_252, hR_253, hR_254, hR_255, hR_256, hv_267, hv_268⟩⟩, by subst hAe; exact z_end hK hw ht hW⟩, by subst hAe; exact hw.2.2.F ht⟩) (by subst hAe; exact hw.2.2.2.2) dX8_ends_147
            · skip
              refine z_if_eq (tgt := 148) hx hb dX8_ends_140 (by decide) (by omega) (fun hc_269 => ?_) (fun hc_269 => absurd hc_269 (by omega))
              refine lv_aload_n hx hb dX8_ends_148 rfl (lv_at hl 0 rfl) ?_
              refine va_get (D := D) (ci := 8) (v := .int (zI Mminute)) (C := RX8) (T := TX8) (N := 36) hx hb hts hinX8 hown hK hw.1 0 rfl rfl 27 (by decide) (hts (.fieldLink RX8 208 "CarnivalRoadModel" "minute" "I") (by decide +kernel)) (fun _ h9 => h9) rfl dX8_ends_149 ?_
              refine lv_istore_n (lv' := [(2, .int (zI Mminute)), (0, .ref (oM 0))]) hx hb dX8_ends_152 rfl hl (by decide) rfl (fun ls hl => ?_)
              refine z_iconst hx hb dX8_ends_153 ?_
              refine lv_istore_n (lv' := [(3, .int (zI 0)), (2, .int (zI Mminute)), (0, .ref (oM 0))]) hx hb dX8_ends_154 rfl hl (by decide) rfl (fun ls hl => ?_)
              have hv_270 : 0 ≤ Mminute - Mminute ∧ Mminute - Mminute ≤ (B : Int) := by
                first | assumption | omega | grind
              have hv_271 : s0 = (runK ki le Mcells Mgap stn ln Mmany Mminute s0 (Mminute - Mminute).toNat) := by
                rw [show (Mminute - Mminute).toNat = 0 by omega]; rfl
              have hv_272 : simR Mmany 8 Mhead_247 Mplays_248 Mrests_249 Mwent_250 Mout_251 s0.1 s0.2.1 s0.2.2.2 := by
                exact hsm (by omega)
              have hv_273 : jpN Mmany le Mcells s0.1 s0.2.2.2 := by
                exact (hp5 (by omega)).1.2.2.1
              have hv_274 : ∀ j : Nat, j < (Mminute - Mminute).toNat → ¬ allP ln Mmany (runK ki le Mcells Mgap stn ln Mmany Mminute s0 j).2.2.2 := by
                exact fun j hj => absurd hj (by omega)
              have hv_275 : ∀ k, k < 8 → Mhead_247 k = Mhead k ∧ Mplays_248 k = Mplays k ∧ Mrests_249 k = Mrests k ∧ Mwent_250 k = Mwent k ∧ Mout_251 k = Mout k := by
                first | assumption | omega | grind
              have hv_276 : (0 : Int) = 0 ∨ (0 : Int) = 1 := by
                omega
              refine z_loop (σ := Int × Int × (Int → Int) × (Int → Int) × (Int → Int) × (Int → Int) × (Int → Int) × PS) (μ := fun x9 => (B + 1 - ((x9.1) - Mminute).toNat)) (I := fun x9 H locs ls => (RA (x9.2.2.1) (-1) 60) ∧ (RA (x9.2.2.2.1) (0) 18) ∧ (RA (x9.2.2.2.2.1) (0) 3) ∧ (RA (x9.2.2.2.2.2.1) (0) 61) ∧ (RA (x9.2.2.2.2.2.2.1) (0) 1) ∧ (0 ≤ (x9.1) - Mminute ∧ (x9.1) - Mminute ≤ (B : Int)) ∧ (x9.2.2.2.2.2.2.2 = (runK ki le Mcells Mgap stn ln Mmany Mminute s0 ((x9.1) - Mminute).toNat)) ∧ (simR Mmany 8 (x9.2.2.1) (x9.2.2.2.1) (x9.2.2.2.2.1) (x9.2.2.2.2.2.1) (x9.2.2.2.2.2.2.1) x9.2.2.2.2.2.2.2.1 x9.2.2.2.2.2.2.2.2.1 x9.2.2.2.2.2.2.2.2.2.2) ∧ (jpN Mmany le Mcells x9.2.2.2.2.2.2.2.1 x9.2.2.2.2.2.2.2.2.2.2) ∧ (∀ j : Nat, j < ((x9.1) - Mminute).toNat → ¬ allP ln Mmany (runK ki le Mcells Mgap stn ln Mmany Mminute s0 j).2.2.2) ∧ (∀ k, k < 8 → (x9.2.2.1) k = Mhead k ∧ (x9.2.2.2.1) k = Mplays k ∧ (x9.2.2.2.2.1) k = Mrests k ∧ (x9.2.2.2.2.2.1) k = Mwent k ∧ (x9.2.2.2.2.2.2.1) k = Mout k) ∧ ((x9.2.1) = 0 ∨ (x9.2.1) = 1) ∧ HW D A s.heap (kM cI cB cZ oM Mthrown_226 Mmany Mguest Mrow Mbars Mbar Mfresh Mtape Mtaped Mpos Mtoken MtokenAt Mvalue Mwrong MwrongAt MfaultKind MfaultPlace Mthing Morder Mone Mtwo Mbest Mcells Mgap Mwire Mstand Mruns Mminute (x9.2.2.1) (x9.2.2.2.1) (x9.2.2.2.2.1) (x9.2.2.2.2.2.1) (x9.2.2.2.2.2.2.1) Mcame Mgone MlastOut) H locs ∧ lv_has ls 5 [(0, .ref (oM 0)), (2, .int (zI (x9.1))), (3, .int (zI (x9.2.1)))]) (Mminute, 0, Mhead_247, Mplays_248, Mrests_249, Mwent_250, Mout_251, s0) ⟨hR_252, hR_253, hR_254, hR_255, hR_256, hv_270, hv_271, hv_272, hv_273, hv_274, hv_275, hv_276, hw, lv_sub hl [2, 1, 0] rfl⟩ ?_
              clear hw hl
              intro x9 H locs ls hI ih_277
              obtain ⟨m_278, mv_279, Mhead_280, Mplays_281, Mrests_282, Mwent_283, Mout_284, q_285⟩ := x9
              try dsimp only at hI
              obtain ⟨hR_286, hR_287, hR_288, hR_289, hR_290, hI_291, hI_292, hI_293, hI_294, hI_295, hI_296, hI_297, hw, hl⟩ := hI
              have hlt : ¬ allP ln Mmany q_285.2.2.2 → m_278 - Mminute < (B : Int) := fun z => by
                  rcases Int.lt_or_eq_of_le (by assumption : 0 ≤ m_278 - Mminute ∧ m_278 - Mminute ≤ (B : Int)).2 with y | y
                  · exact y
                  · exfalso; apply z; rw [(by assumption : q_285 = (runK ki le Mcells Mgap stn ln Mmany Mminute s0 (m_278 - Mminute).toNat)), show (m_278 - Mminute).toNat = B by omega]; exact (hp5 (by omega)).2.2.2
              have hov : (∀ g, 0 ≤ g → g < Mmany → Mout_284 (8 + g) = 1) ↔ allP ln Mmany q_285.2.2.2 := (over_iff (by assumption : simR Mmany 8 Mhead_280 Mplays_281 Mrests_282 Mwent_283 Mout_284 q_285.1 q_285.2.1 q_285.2.2.2) hp0).trans (all_congr hp2)
              refine lv_aload_n hx hb dX8_ends_155 rfl (lv_at hl 0 rfl) ?_
              refine z_bipush hx hb dX8_ends_156 (by decide) ?_
              have hF9 := z_free (wc := kM cI cB cZ oM Mthrown_226 Mmany Mguest Mrow Mbars Mbar Mfresh Mtape Mtaped Mpos Mtoken MtokenAt Mvalue Mwrong MwrongAt MfaultKind MfaultPlace Mthing Morder Mone Mtwo Mbest Mcells Mgap Mwire Mstand Mruns Mminute Mhead_280 Mplays_281 Mrests_282 Mwent_283 Mout_284 Mcame Mgone MlastOut) hw hA [0, 1, 2, 3, 4, 5, 6, 7, 8, 9, 10, 11, 12, 13, 14, 15, 16] rfl
              refine va_calli (va_runV (As := [.int (zI 8)]) (rest := []) ⟨hx, hb, hml, hown, hts⟩ (c_X8_isOver l D cI cB cZ oM H.size Mthrown_226 Mmany Mguest Mrow Mbars Mbar Mfresh Mtape Mtaped Mpos Mtoken MtokenAt Mvalue Mwrong MwrongAt MfaultKind MfaultPlace Mthing Morder Mone Mtwo Mbest Mcells Mgap Mwire Mstand Mruns Mminute Mhead_280 Mplays_281 Mrests_282 Mwent_283 Mout_284 Mcame Mgone MlastOut 8 (by omega) (by omega) qMguest qMrow (by omega) qMbar qMfresh qMtape (by omega) (by omega) (by omega) (by omega) (by omega) (by omega) (by omega) (by omega) (by omega) (by omega) qMorder (by omega) (by omega) qMbest (by omega) (by omega) qMwire qMstand (by omega) (by omega) hR_286 hR_287 hR_288 hR_289 hR_290 qMcame qMgone (by omega) (by omega)) (cwV 1 hts gX8_ends_X8_isOver rfl rfl rfl (by decide +kernel) ⟨Nat.le_of_ble_eq_true rfl, Nat.le_of_ble_eq_true rfl⟩) ⟨zPre_blind, va_recv hK hw.1 (ci := 8) (q0 := 0) rfl rfl, z_pre hK hw [0, 1, 2, 3, 4, 5, 6, 7, 8, 9, 10, 11, 12, 13, 14, 15, 16] (by decide) rfl⟩ rfl rfl hl.1 rfl (lv_room (Nat.le_of_ble_eq_true rfl)) dX8_ends_158 ⟨Nat.zero_le _, Nat.zero_le _⟩) hw.2.2 (fun q _ h => hF9 q h) hF9 (fun r9 u9 t9 H_298 locs9 ht9 hvm9 hq9 hB9 hz9 hk9 hS9 => ?_)
              obtain ⟨r_299, rfl⟩ : ∃ z, z = u9 := ⟨_, rfl⟩
              try dsimp only at hq9 hB9
              obtain ⟨rfl, hq9⟩ := hq9
              have hq_300 := hq9
              have hw : HW D A s.heap (kM cI cB cZ oM Mthrown_226 Mmany Mguest Mrow Mbars Mbar Mfresh Mtape Mtaped Mpos Mtoken MtokenAt Mvalue Mwrong MwrongAt MfaultKind MfaultPlace Mthing Morder Mone Mtwo Mbest Mcells Mgap Mwire Mstand Mruns Mminute Mhead_280 Mplays_281 Mrests_282 Mwent_283 Mout_284 Mcame Mgone MlastOut) H_298 locs9 := z_after (wc := kM cI cB cZ oM Mthrown_226 Mmany Mguest Mrow Mbars Mbar Mfresh Mtape Mtaped Mpos Mtoken MtokenAt Mvalue Mwrong MwrongAt MfaultKind MfaultPlace Mthing Morder Mone Mtwo Mbest Mcells Mgap Mwire Mstand Mruns Mminute Mhead_280 Mplays_281 Mrests_282 Mwent_283 Mout_284 Mcame Mgone MlastOut) hw [0, 1, 2, 3, 4, 5, 6, 7, 8, 9, 10, 11, 12, 13, 14, 15, 16] [] rfl rfl (by decide) (by decide) hF9 hk9 ht9 hB9 hS9 [0, 1, 2, 3, 4, 5, 6, 7, 8, 9, 10, 11, 12, 13, 14, 15, 16] (by decide) rfl
              clear hF9 ht9 hvm9 hB9 hz9 hk9 hS9 hq9
              rcases hq_300 with ⟨hc_301, rfl⟩ | ⟨hc_301, rfl⟩
              · skip
                refine z_if_ne (tgt := 211) hx hb dX8_ends_161 (by decide) (by omega) (fun hc_302 => ?_) (fun hc_302 => absurd hc_302 (by omega))
                refine lv_iload_n hx hb dX8_ends_211 rfl (lv_at hl 1 rfl) ?_
                have hv_303 : (0 : Int) ≤ Mthrown_226 ∧ Mthrown_226 ≤ 2 := by
                  first | assumption | omega | grind
                have hv_304 : (Mruns = 0 ∧ Mthrown_226 = 1) ∨ (Mruns = 1 ∧ Mthrown_226 = 0 ∧ ((¬ (0 ≤ w ∧ w ≤ 1) ∧ m_278 = -1) ∨ (w = 1 ∧ soloM ki le Mcells Mgap stn Mmany m_278) ∨ (w = 0 ∧ ∃ k : Nat, m_278 = Mminute + (k : Int) ∧ allP ln Mmany (runK ki le Mcells Mgap stn ln Mmany Mminute s0 k).2.2.2 ∧ ∀ j : Nat, j < k → ¬ allP ln Mmany (runK ki le Mcells Mgap stn ln Mmany Mminute s0 j).2.2.2))) := by
                  refine Or.inr ⟨by omega, by omega, Or.inr (Or.inr ⟨by omega, (m_278 - Mminute).toNat, by omega, ?_, by assumption⟩)⟩
                  rw [← (by assumption : q_285 = (runK ki le Mcells Mgap stn ln Mmany Mminute s0 (m_278 - Mminute).toNat))]
                  exact hov.mp (by assumption)
                have hv_305 : ∀ k, k < 8 → Mhead_280 k = Mhead k ∧ Mplays_281 k = Mplays k ∧ Mrests_282 k = Mrests k ∧ Mwent_283 k = Mwent k ∧ Mout_284 k = Mout k := by
                  assumption
                exact W.iret (v := zI m_278) hx hb hr (fun t9 ht hW => ⟨⟨zI m_278, (m_278, Mthrown_226, Mhead_280, Mplays_281, Mrests_282, Mwent_283, Mout_284), rfl, ⟨rfl, ⟨hv_303, hR_286, hR_287, hR_288, hR_289, hR_290, hv_304, hv_305⟩⟩, by subst hAe; exact z_end hK hw ht hW⟩, by subst hAe; exact hw.2.2.F ht⟩) (by subst hAe; exact hw.2.2.2.2) dX8_ends_212
              · skip
                refine z_if_ne (tgt := 211) hx hb dX8_ends_161 (by decide) (by omega) (fun hc_306 => absurd hc_306 (by omega)) (fun hc_306 => ?_)
                refine z_iinc (k := 1) (lv' := [(2, .int (zI (m_278 + 1))), (0, .ref (oM 0)), (3, .int (zI mv_279))]) hx hb dX8_ends_164 hl rfl (by decide) rfl (fun ls hl => ?_)
                refine z_iconst hx hb dX8_ends_167 ?_
                refine lv_istore (lv' := [(4, .int (zI 0)), (2, .int (zI (m_278 + 1))), (0, .ref (oM 0)), (3, .int (zI mv_279))]) hx hb dX8_ends_168 hl (by decide) rfl (fun ls hl => ?_)
                have hrr := (by assumption : simR Mmany 8 Mhead_280 Mplays_281 Mrests_282 Mwent_283 Mout_284 _ _ _)
                have hjj := (by assumption : jpN Mmany le Mcells _ _)
                have hqq := (by assumption : _ = (runK ki le Mcells Mgap stn ln Mmany Mminute s0 (m_278 - Mminute).toNat))
                have hv_307 : 0 ≤ (0 : Int) ∧ (0 : Int) ≤ Mmany := by
                  first | assumption | omega | grind
                have hv_308 : (runK ki le Mcells Mgap stn ln Mmany Mminute s0 (m_278 - Mminute).toNat) = stepK ki le Mcells Mgap stn ln (m_278 + 1) (0 : Int).toNat (runK ki le Mcells Mgap stn ln Mmany Mminute s0 (m_278 - Mminute).toNat) := by
                  rfl
                have hv_309 : simR Mmany 8 Mhead_280 Mplays_281 Mrests_282 Mwent_283 Mout_284 (runK ki le Mcells Mgap stn ln Mmany Mminute s0 (m_278 - Mminute).toNat).1 (runK ki le Mcells Mgap stn ln Mmany Mminute s0 (m_278 - Mminute).toNat).2.1 (runK ki le Mcells Mgap stn ln Mmany Mminute s0 (m_278 - Mminute).toNat).2.2.2 := by
                  rw [← hqq]; exact hrr
                have hv_310 : jpN Mmany le Mcells (runK ki le Mcells Mgap stn ln Mmany Mminute s0 (m_278 - Mminute).toNat).1 (runK ki le Mcells Mgap stn ln Mmany Mminute s0 (m_278 - Mminute).toNat).2.2.2 := by
                  rw [← hqq]; exact hjj
                have hv_311 : (runK ki le Mcells Mgap stn ln Mmany Mminute s0 (m_278 - Mminute).toNat) = (runK ki le Mcells Mgap stn ln Mmany Mminute s0 (m_278 - Mminute).toNat) ∧ ¬ allP ln Mmany (runK ki le Mcells Mgap stn ln Mmany Mminute s0 (m_278 - Mminute).toNat).2.2.2 := by
                  rw [← hqq]; exact ⟨rfl, fun y => absurd (hov.mpr y) (by assumption)⟩
                have hv_312 : ∀ k, k < 8 → Mhead_280 k = Mhead k ∧ Mplays_281 k = Mplays k ∧ Mrests_282 k = Mrests k ∧ Mwent_283 k = Mwent k ∧ Mout_284 k = Mout k := by
                  first | assumption | omega | grind
                have hv_313 : mv_279 = 0 ∨ mv_279 = 1 := by
                  first | assumption | omega | grind
                refine z_loop (σ := Int × Int × (Int → Int) × (Int → Int) × (Int → Int) × (Int → Int) × (Int → Int) × PS × PS) (μ := fun x9 => (9 - (x9.2.1)).toNat) (I := fun x9 H locs ls => (RA (x9.2.2.1) (-1) 60) ∧ (RA (x9.2.2.2.1) (0) 18) ∧ (RA (x9.2.2.2.2.1) (0) 3) ∧ (RA (x9.2.2.2.2.2.1) (0) 61) ∧ (RA (x9.2.2.2.2.2.2.1) (0) 1) ∧ (0 ≤ (x9.2.1) ∧ (x9.2.1) ≤ Mmany) ∧ (x9.2.2.2.2.2.2.2.1 = stepK ki le Mcells Mgap stn ln (m_278 + 1) (x9.2.1).toNat x9.2.2.2.2.2.2.2.2) ∧ (simR Mmany 8 (x9.2.2.1) (x9.2.2.2.1) (x9.2.2.2.2.1) (x9.2.2.2.2.2.1) (x9.2.2.2.2.2.2.1) x9.2.2.2.2.2.2.2.1.1 x9.2.2.2.2.2.2.2.1.2.1 x9.2.2.2.2.2.2.2.1.2.2.2) ∧ (jpN Mmany le Mcells x9.2.2.2.2.2.2.2.1.1 x9.2.2.2.2.2.2.2.1.2.2.2) ∧ (x9.2.2.2.2.2.2.2.2 = (runK ki le Mcells Mgap stn ln Mmany Mminute s0 (m_278 - Mminute).toNat) ∧ ¬ allP ln Mmany x9.2.2.2.2.2.2.2.2.2.2.2) ∧ (∀ k, k < 8 → (x9.2.2.1) k = Mhead k ∧ (x9.2.2.2.1) k = Mplays k ∧ (x9.2.2.2.2.1) k = Mrests k ∧ (x9.2.2.2.2.2.1) k = Mwent k ∧ (x9.2.2.2.2.2.2.1) k = Mout k) ∧ ((x9.1) = 0 ∨ (x9.1) = 1) ∧ HW D A s.heap (kM cI cB cZ oM Mthrown_226 Mmany Mguest Mrow Mbars Mbar Mfresh Mtape Mtaped Mpos Mtoken MtokenAt Mvalue Mwrong MwrongAt MfaultKind MfaultPlace Mthing Morder Mone Mtwo Mbest Mcells Mgap Mwire Mstand Mruns Mminute (x9.2.2.1) (x9.2.2.2.1) (x9.2.2.2.2.1) (x9.2.2.2.2.2.1) (x9.2.2.2.2.2.2.1) Mcame Mgone MlastOut) H locs ∧ lv_has ls 5 [(0, .ref (oM 0)), (2, .int (zI (m_278 + 1))), (3, .int (zI (x9.1))), (4, .int (zI (x9.2.1)))]) (mv_279, 0, Mhead_280, Mplays_281, Mrests_282, Mwent_283, Mout_284, (runK ki le Mcells Mgap stn ln Mmany Mminute s0 (m_278 - Mminute).toNat), (runK ki le Mcells Mgap stn ln Mmany Mminute s0 (m_278 - Mminute).toNat)) ⟨hR_286, hR_287, hR_288, hR_289, hR_290, hv_307, hv_308, hv_309, hv_310, hv_311, hv_312, hv_313, hw, lv_sub hl [2, 1, 3, 0] rfl⟩ ?_
                clear hw hl
                intro x9 H locs ls hI ih_314
                obtain ⟨mv_315, i_316, Mhead_317, Mplays_318, Mrests_319, Mwent_320, Mout_321, q_322, qz_323⟩ := x9
                try dsimp only at hI
                obtain ⟨hR_324, hR_325, hR_326, hR_327, hR_328, hI_329, hI_330, hI_331, hI_332, hI_333, hI_334, hI_335, hw, hl⟩ := hI
                refine lv_iload hx hb dX8_ends_170 (lv_at hl 3 rfl) ?_
                refine lv_aload_n hx hb dX8_ends_172 rfl (lv_at hl 0 rfl) ?_
                refine va_get (D := D) (ci := 8) (v := .int (zI Mmany)) (C := RX8) (T := TX8) (N := 36) hx hb hts hinX8 hown hK hw.1 0 rfl rfl 1 (by decide) (hts (.fieldLink RX8 72 "CarnivalRoadModel" "many" "I") (by decide +kernel)) (fun _ h9 => h9) rfl dX8_ends_173 ?_
                refine z_icmp_ge (tgt := 208) hx hb dX8_ends_176 (by decide) (by omega) (fun hc_336 => ?_) (fun hc_336 => ?_)
                · skip
                  refine lv_goto (tgt := 155) hx hb dX8_ends_208 (by decide) ?_
                  have hv_337 : 0 ≤ (m_278 + 1) - Mminute ∧ (m_278 + 1) - Mminute ≤ (B : Int) := by
                    have hz := hlt (fun y => absurd (hov.mpr y) (by assumption))
                    omega
                  have hv_338 : (runK ki le Mcells Mgap stn ln Mmany Mminute s0 (m_278 + 1 - Mminute).toNat) = (runK ki le Mcells Mgap stn ln Mmany Mminute s0 ((m_278 + 1) - Mminute).toNat) := by
                    rfl
                  have hv_339 : simR Mmany 8 Mhead_317 Mplays_318 Mrests_319 Mwent_320 Mout_321 (runK ki le Mcells Mgap stn ln Mmany Mminute s0 (m_278 + 1 - Mminute).toNat).1 (runK ki le Mcells Mgap stn ln Mmany Mminute s0 (m_278 + 1 - Mminute).toNat).2.1 (runK ki le Mcells Mgap stn ln Mmany Mminute s0 (m_278 + 1 - Mminute).toNat).2.2.2 := by
                    rw [show (m_278 + 1 - Mminute).toNat = (m_278 - Mminute).toNat + 1 by omega]
                    exact run_sim (by assumption : qz_323 = _ ∧ _).1 (by assumption : _ = stepK ki le Mcells Mgap stn ln (m_278 + 1) i_316.toNat qz_323) (by omega) (by omega) (by assumption)
                  have hv_340 : jpN Mmany le Mcells (runK ki le Mcells Mgap stn ln Mmany Mminute s0 (m_278 + 1 - Mminute).toNat).1 (runK ki le Mcells Mgap stn ln Mmany Mminute s0 (m_278 + 1 - Mminute).toNat).2.2.2 := by
                    rw [show (m_278 + 1 - Mminute).toNat = (m_278 - Mminute).toNat + 1 by omega]
                    exact run_jp (by assumption : qz_323 = _ ∧ _).1 (by assumption : _ = stepK ki le Mcells Mgap stn ln (m_278 + 1) i_316.toNat qz_323) (by omega) (by omega) (by assumption)
                  have hv_341 : ∀ j : Nat, j < ((m_278 + 1) - Mminute).toNat → ¬ allP ln Mmany (runK ki le Mcells Mgap stn ln Mmany Mminute s0 j).2.2.2 := by
                    have h6 := (by assumption : qz_323 = _ ∧ ¬ allP ln Mmany qz_323.2.2.2)
                    intro j hj
                    by_cases e : j = (m_278 - Mminute).toNat
                    · rw [e, ← h6.1]; exact h6.2
                    · exact (by assumption : ∀ j : Nat, j < (m_278 - Mminute).toNat → ¬ allP ln Mmany (runK ki le Mcells Mgap stn ln Mmany Mminute s0 j).2.2.2) j (by omega)
                  have hv_342 : ∀ k, k < 8 → Mhead_317 k = Mhead k ∧ Mplays_318 k = Mplays k ∧ Mrests_319 k = Mrests k ∧ Mwent_320 k = Mwent k ∧ Mout_321 k = Mout k := by
                    first | assumption | omega | grind
                  have hv_343 : mv_315 = 0 ∨ mv_315 = 1 := by
                    first | assumption | omega | grind
                  have hm_344 : (B + 1 - ((m_278 + 1) - Mminute).toNat) < (B + 1 - (m_278 - Mminute).toNat) := by
                    have hz := hlt (fun y => absurd (hov.mpr y) (by assumption))
                    omega
                  exact ih_277 ((m_278 + 1), mv_315, Mhead_317, Mplays_318, Mrests_319, Mwent_320, Mout_321, (runK ki le Mcells Mgap stn ln Mmany Mminute s0 (m_278 + 1 - Mminute).toNat)) _ _ _ ⟨hR_324, hR_325, hR_326, hR_327, hR_328, hv_337, hv_338, hv_339, hv_340, hv_341, hv_342, hv_343, hw, lv_sub hl [0, 1, 2] rfl⟩ hm_344
                · skip
                  refine lv_aload_n hx hb dX8_ends_179 rfl (lv_at hl 0 rfl) ?_
                  refine z_bipush hx hb dX8_ends_180 (by decide) ?_
                  refine lv_iload hx hb dX8_ends_182 (lv_at hl 3 rfl) ?_
                  refine lv_iload_n hx hb dX8_ends_184 rfl (lv_at hl 1 rfl) ?_
                  refine z_iconst hx hb dX8_ends_185 ?_
                  have hpre_345 : (8 : Int) = 0 ∨ (8 : Int) = 8 := by
                    first | assumption | omega | grind
                  have hpre_346 : i_316 < Mmany := by
                    first | assumption | omega | grind
                  have hpre_347 : ∀ i, 0 ≤ i → i < Mmany → 0 ≤ Mrow i ∧ Mrow i < Mmany := by
                    exact hp0.1
                  have hpre_348 : gRel Mmany ki le lo ta sh Mguest := by
                    first | assumption | omega | grind
                  have hpre_349 : simR Mmany (8 : Int) Mhead_317 Mplays_318 Mrests_319 Mwent_320 Mout_321 (q_322.1) (q_322.2.1) (q_322.2.2.2) := by
                    first | assumption | omega | grind
                  have hpre_350 : ∀ g, 0 ≤ g → g < Mmany → (q_322.2.2.2) g = -1 → (q_322.1) g - le g + 1 < Mcells := by
                    exact (by assumption : jpN Mmany le Mcells q_322.1 q_322.2.2.2)
                  have hF9 := z_free (wc := kM cI cB cZ oM Mthrown_226 Mmany Mguest Mrow Mbars Mbar Mfresh Mtape Mtaped Mpos Mtoken MtokenAt Mvalue Mwrong MwrongAt MfaultKind MfaultPlace Mthing Morder Mone Mtwo Mbest Mcells Mgap Mwire Mstand Mruns Mminute Mhead_317 Mplays_318 Mrests_319 Mwent_320 Mout_321 Mcame Mgone MlastOut) hw hA [0, 1, 2, 3, 4, 5, 6, 7, 8, 9, 10, 11, 12, 13, 14, 15, 16] rfl
                  refine va_calli (va_runV (As := [.int (zI 8), .int (zI i_316), .int (zI (m_278 + 1)), .int (zI 0)]) (rest := []) ⟨hx, hb, hml, hown, hts⟩ (c_X8_goes l D cI cB cZ oM H.size Mthrown_226 Mmany Mguest Mrow Mbars Mbar Mfresh Mtape Mtaped Mpos Mtoken MtokenAt Mvalue Mwrong MwrongAt MfaultKind MfaultPlace Mthing Morder Mone Mtwo Mbest Mcells Mgap Mwire Mstand Mruns Mminute Mhead_317 Mplays_318 Mrests_319 Mwent_320 Mout_321 Mcame Mgone MlastOut 8 i_316 (m_278 + 1) 0 ki le lo ta sh (q_322.1) (q_322.2.1) (q_322.2.2.1) (q_322.2.2.2) (by omega) (by omega) qMguest qMrow (by omega) qMbar qMfresh qMtape (by omega) (by omega) (by omega) (by omega) (by omega) (by omega) (by omega) (by omega) (by omega) (by omega) qMorder (by omega) (by omega) qMbest (by omega) (by omega) qMwire qMstand (by omega) (by omega) hR_324 hR_325 hR_326 hR_327 hR_328 qMcame qMgone (by omega) (by first | omega | (have hz := hlt (fun y => absurd (hov.mpr y) (by assumption)); have hb := (hp5 (by omega)).2; omega)) (by first | omega | (have hz := hlt (fun y => absurd (hov.mpr y) (by assumption)); have hb := (hp5 (by omega)).2; omega)) (by first | omega | (have hz := hlt (fun y => absurd (hov.mpr y) (by assumption)); have hb := (hp5 (by omega)).2; omega)) (by first | omega | (have hz := hlt (fun y => absurd (hov.mpr y) (by assumption)); have hb := (hp5 (by omega)).2; omega)) hpre_345 hpre_346 hpre_347 hpre_348 hpre_349 hpre_350) (cwV 4 hts gX8_ends_X8_goes rfl rfl rfl (by decide +kernel) ⟨Nat.le_of_ble_eq_true rfl, Nat.le_of_ble_eq_true rfl⟩) ⟨zPre_blind, va_recv hK hw.1 (ci := 8) (q0 := 0) rfl rfl, z_pre hK hw [0, 1, 2, 3, 4, 5, 6, 7, 8, 9, 10, 11, 12, 13, 14, 15, 16] (by decide) rfl⟩ rfl rfl hl.1 rfl (lv_room (Nat.le_of_ble_eq_true rfl)) dX8_ends_186 ⟨Nat.zero_le _, Nat.zero_le _⟩) hw.2.2 (fun q _ h => hF9 q h) hF9 (fun r9 u9 t9 H_351 locs9 ht9 hvm9 hq9 hB9 hz9 hk9 hS9 => ?_)
                  obtain ⟨r_352, Mhead_353, Mplays_354, Mrests_355, Mwent_356, Mout_357⟩ := u9
                  try dsimp only at hq9 hB9
                  obtain ⟨rfl, hq9⟩ := hq9
                  obtain ⟨hq_358, hq_359, hq_360, hq_361, hq_362, hq_363, hq_364⟩ := hq9
                  have hw : HW D A s.heap (kM cI cB cZ oM Mthrown_226 Mmany Mguest Mrow Mbars Mbar Mfresh Mtape Mtaped Mpos Mtoken MtokenAt Mvalue Mwrong MwrongAt MfaultKind MfaultPlace Mthing Morder Mone Mtwo Mbest Mcells Mgap Mwire Mstand Mruns Mminute Mhead_353 Mplays_354 Mrests_355 Mwent_356 Mout_357 Mcame Mgone MlastOut) H_351 locs9 := z_after (wc := kM cI cB cZ oM Mthrown_226 Mmany Mguest Mrow Mbars Mbar Mfresh Mtape Mtaped Mpos Mtoken MtokenAt Mvalue Mwrong MwrongAt MfaultKind MfaultPlace Mthing Morder Mone Mtwo Mbest Mcells Mgap Mwire Mstand Mruns Mminute Mhead_317 Mplays_318 Mrests_319 Mwent_320 Mout_321 Mcame Mgone MlastOut) hw [0, 1, 2, 3, 4, 5, 6, 7, 8, 9, 10, 11, 12, 13, 14, 15, 16] [] rfl rfl (by decide) (by decide) hF9 hk9 ht9 hB9 hS9 [0, 1, 2, 3, 4, 5, 6, 7, 8, 9, 10, 11, 12, 13, 14, 15, 16] (by decide) rfl
                  clear hF9 ht9 hvm9 hB9 hz9 hk9 hS9
                  refine z_if_ne (tgt := 196) hx hb dX8_ends_189 (by decide) (by omega) (fun hc_365 => ?_) (fun hc_365 => ?_)
                  · skip
                    refine z_iconst hx hb dX8_ends_196 ?_
                    refine lv_goto (tgt := 201) hx hb dX8_ends_197 (by decide) ?_
                    refine lv_istore_n (lv' := [(3, .int (zI 1)), (0, .ref (oM 0)), (2, .int (zI (m_278 + 1))), (4, .int (zI i_316))]) hx hb dX8_ends_201 rfl hl (by decide) rfl (fun ls hl => ?_)
                    refine z_iinc (k := 3) (lv' := [(4, .int (zI (i_316 + 1))), (3, .int (zI 1)), (0, .ref (oM 0)), (2, .int (zI (m_278 + 1)))]) hx hb dX8_ends_202 hl rfl (by decide) rfl (fun ls hl => ?_)
                    refine lv_goto (tgt := 170) hx hb dX8_ends_205 (by decide) ?_
                    have hv_366 : 0 ≤ (i_316 + 1) ∧ (i_316 + 1) ≤ Mmany := by
                      first | assumption | omega | grind
                    have hv_367 : (stepK ki le Mcells Mgap stn ln (m_278 + 1) (i_316 + 1).toNat qz_323) = stepK ki le Mcells Mgap stn ln (m_278 + 1) (i_316 + 1).toNat qz_323 := by
                      rfl
                    have hv_368 : simR Mmany 8 Mhead_353 Mplays_354 Mrests_355 Mwent_356 Mout_357 (stepK ki le Mcells Mgap stn ln (m_278 + 1) (i_316 + 1).toNat qz_323).1 (stepK ki le Mcells Mgap stn ln (m_278 + 1) (i_316 + 1).toNat qz_323).2.1 (stepK ki le Mcells Mgap stn ln (m_278 + 1) (i_316 + 1).toNat qz_323).2.2.2 := by
                      have hst : stepK ki le Mcells Mgap stn ln (m_278 + 1) (i_316 + 1).toNat qz_323 = goG ki le Mcells Mstand (m_278 + 1) (Mrow i_316) ((0 : Int) = 1 ∨ roomP le Mgap Mrow i_316 q_322.1 q_322.2.2.2) q_322 := by
                        rw [go_conv (s := q_322) (p := i_316) (alone := 0) (n := Mmany) (ln := ln) (stn := stn) (by omega) (by omega) hp2 hp3, show (i_316 + 1).toNat = i_316.toNat + 1 by omega, step_go, show ((i_316.toNat : Nat) : Int) = i_316 by omega, ← (by assumption : q_322 = stepK ki le Mcells Mgap stn ln (m_278 + 1) i_316.toNat qz_323)]
                      rw [hst]
                      exact (by assumption : goPost Mmany 8 (Mrow i_316) _ _ _ _ _ _ _ _ _ _ _ _).1
                    have hv_369 : jpN Mmany le Mcells (stepK ki le Mcells Mgap stn ln (m_278 + 1) (i_316 + 1).toNat qz_323).1 (stepK ki le Mcells Mgap stn ln (m_278 + 1) (i_316 + 1).toNat qz_323).2.2.2 := by
                      have hst : stepK ki le Mcells Mgap stn ln (m_278 + 1) (i_316 + 1).toNat qz_323 = goG ki le Mcells Mstand (m_278 + 1) (Mrow i_316) ((0 : Int) = 1 ∨ roomP le Mgap Mrow i_316 q_322.1 q_322.2.2.2) q_322 := by
                        rw [go_conv (s := q_322) (p := i_316) (alone := 0) (n := Mmany) (ln := ln) (stn := stn) (by omega) (by omega) hp2 hp3, show (i_316 + 1).toNat = i_316.toNat + 1 by omega, step_go, show ((i_316.toNat : Nat) : Int) = i_316 by omega, ← (by assumption : q_322 = stepK ki le Mcells Mgap stn ln (m_278 + 1) i_316.toNat qz_323)]
                      rw [hst]
                      exact jpN_go (by assumption) (by omega)
                    have hv_370 : qz_323 = (runK ki le Mcells Mgap stn ln Mmany Mminute s0 (m_278 - Mminute).toNat) ∧ ¬ allP ln Mmany qz_323.2.2.2 := by
                      assumption
                    have hv_371 : ∀ k, k < 8 → Mhead_353 k = Mhead k ∧ Mplays_354 k = Mplays k ∧ Mrests_355 k = Mrests k ∧ Mwent_356 k = Mwent k ∧ Mout_357 k = Mout k := by
                      intro k k8
                      have q1 := (by assumption : goPost Mmany 8 (Mrow i_316) _ _ _ _ _ _ _ _ _ _ _ _).2.1 k (by have q9 := hp0.1 i_316 (by omega) (by omega); omega)
                      have q2 := (by assumption : ∀ k, k < 8 → Mhead_317 k = Mhead k ∧ Mplays_318 k = Mplays k ∧ Mrests_319 k = Mrests k ∧ Mwent_320 k = Mwent k ∧ Mout_321 k = Mout k) k k8
                      exact ⟨q1.1.trans q2.1, q1.2.1.trans q2.2.1, q1.2.2.1.trans q2.2.2.1, q1.2.2.2.1.trans q2.2.2.2.1, q1.2.2.2.2.trans q2.2.2.2.2⟩
                    have hv_372 : (1 : Int) = 0 ∨ (1 : Int) = 1 := by
                      first | assumption | omega | grind
                    have hm_373 : (9 - (i_316 + 1)).toNat < (9 - i_316).toNat := by
                      first | assumption | omega | grind
                    exact ih_314 (1, (i_316 + 1), Mhead_353, Mplays_354, Mrests_355, Mwent_356, Mout_357, (stepK ki le Mcells Mgap stn ln (m_278 + 1) (i_316 + 1).toNat qz_323), qz_323) _ _ _ ⟨hq_358, hq_359, hq_360, hq_361, hq_362, hv_366, hv_367, hv_368, hv_369, hv_370, hv_371, hv_372, hw, lv_sub hl [2, 3, 1, 0] rfl⟩ hm_373
                  · skip
                    refine lv_iload_n hx hb dX8_ends_192 rfl (lv_at hl 2 rfl) ?_
                    refine z_if_eq (tgt := 200) hx hb dX8_ends_193 (by decide) (by omega) (fun hc_374 => ?_) (fun hc_374 => ?_)
                    · skip
                      refine z_iconst hx hb dX8_ends_200 ?_
                      refine lv_istore_n (lv' := [(3, .int (zI 0)), (0, .ref (oM 0)), (2, .int (zI (m_278 + 1))), (4, .int (zI i_316))]) hx hb dX8_ends_201 rfl hl (by decide) rfl (fun ls hl => ?_)
                      refine z_iinc (k := 3) (lv' := [(4, .int (zI (i_316 + 1))), (3, .int (zI 0)), (0, .ref (oM 0)), (2, .int (zI (m_278 + 1)))]) hx hb dX8_ends_202 hl rfl (by decide) rfl (fun ls hl => ?_)
                      refine lv_goto (tgt := 170) hx hb dX8_ends_205 (by decide) ?_
                      have hv_375 : 0 ≤ (i_316 + 1) ∧ (i_316 + 1) ≤ Mmany := by
                        first | assumption | omega | grind
                      have hv_376 : (stepK ki le Mcells Mgap stn ln (m_278 + 1) (i_316 + 1).toNat qz_323) = stepK ki le Mcells Mgap stn ln (m_278 + 1) (i_316 + 1).toNat qz_323 := by
                        rfl
                      have hv_377 : simR Mmany 8 Mhead_353 Mplays_354 Mrests_355 Mwent_356 Mout_357 (stepK ki le Mcells Mgap stn ln (m_278 + 1) (i_316 + 1).toNat qz_323).1 (stepK ki le Mcells Mgap stn ln (m_278 + 1) (i_316 + 1).toNat qz_323).2.1 (stepK ki le Mcells Mgap stn ln (m_278 + 1) (i_316 + 1).toNat qz_323).2.2.2 := by
                        have hst : stepK ki le Mcells Mgap stn ln (m_278 + 1) (i_316 + 1).toNat qz_323 = goG ki le Mcells Mstand (m_278 + 1) (Mrow i_316) ((0 : Int) = 1 ∨ roomP le Mgap Mrow i_316 q_322.1 q_322.2.2.2) q_322 := by
                          rw [go_conv (s := q_322) (p := i_316) (alone := 0) (n := Mmany) (ln := ln) (stn := stn) (by omega) (by omega) hp2 hp3, show (i_316 + 1).toNat = i_316.toNat + 1 by omega, step_go, show ((i_316.toNat : Nat) : Int) = i_316 by omega, ← (by assumption : q_322 = stepK ki le Mcells Mgap stn ln (m_278 + 1) i_316.toNat qz_323)]
                        rw [hst]
                        exact (by assumption : goPost Mmany 8 (Mrow i_316) _ _ _ _ _ _ _ _ _ _ _ _).1
                      have hv_378 : jpN Mmany le Mcells (stepK ki le Mcells Mgap stn ln (m_278 + 1) (i_316 + 1).toNat qz_323).1 (stepK ki le Mcells Mgap stn ln (m_278 + 1) (i_316 + 1).toNat qz_323).2.2.2 := by
                        have hst : stepK ki le Mcells Mgap stn ln (m_278 + 1) (i_316 + 1).toNat qz_323 = goG ki le Mcells Mstand (m_278 + 1) (Mrow i_316) ((0 : Int) = 1 ∨ roomP le Mgap Mrow i_316 q_322.1 q_322.2.2.2) q_322 := by
                          rw [go_conv (s := q_322) (p := i_316) (alone := 0) (n := Mmany) (ln := ln) (stn := stn) (by omega) (by omega) hp2 hp3, show (i_316 + 1).toNat = i_316.toNat + 1 by omega, step_go, show ((i_316.toNat : Nat) : Int) = i_316 by omega, ← (by assumption : q_322 = stepK ki le Mcells Mgap stn ln (m_278 + 1) i_316.toNat qz_323)]
                        rw [hst]
                        exact jpN_go (by assumption) (by omega)
                      have hv_379 : qz_323 = (runK ki le Mcells Mgap stn ln Mmany Mminute s0 (m_278 - Mminute).toNat) ∧ ¬ allP ln Mmany qz_323.2.2.2 := by
                        assumption
                      have hv_380 : ∀ k, k < 8 → Mhead_353 k = Mhead k ∧ Mplays_354 k = Mplays k ∧ Mrests_355 k = Mrests k ∧ Mwent_356 k = Mwent k ∧ Mout_357 k = Mout k := by
                        intro k k8
                        have q1 := (by assumption : goPost Mmany 8 (Mrow i_316) _ _ _ _ _ _ _ _ _ _ _ _).2.1 k (by have q9 := hp0.1 i_316 (by omega) (by omega); omega)
                        have q2 := (by assumption : ∀ k, k < 8 → Mhead_317 k = Mhead k ∧ Mplays_318 k = Mplays k ∧ Mrests_319 k = Mrests k ∧ Mwent_320 k = Mwent k ∧ Mout_321 k = Mout k) k k8
                        exact ⟨q1.1.trans q2.1, q1.2.1.trans q2.2.1, q1.2.2.1.trans q2.2.2.1, q1.2.2.2.1.trans q2.2.2.2.1, q1.2.2.2.2.trans q2.2.2.2.2⟩
                      have hv_381 : (0 : Int) = 0 ∨ (0 : Int) = 1 := by
                        first | assumption | omega | grind
                      have hm_382 : (9 - (i_316 + 1)).toNat < (9 - i_316).toNat := by
                        first | assumption | omega | grind
                      exact ih_314 (0, (i_316 + 1), Mhead_353, Mplays_354, Mrests_355, Mwent_356, Mout_357, (stepK ki le Mcells Mgap stn ln (m_278 + 1) (i_316 + 1).toNat qz_323), qz_323) _ _ _ ⟨hq_358, hq_359, hq_360, hq_361, hq_362, hv_375, hv_376, hv_377, hv_378, hv_379, hv_380, hv_381, hw, lv_sub hl [2, 3, 1, 0] rfl⟩ hm_382
                    · skip
                      refine z_iconst hx hb dX8_ends_196 ?_
                      refine lv_goto (tgt := 201) hx hb dX8_ends_197 (by decide) ?_
                      refine lv_istore_n (lv' := [(3, .int (zI 1)), (0, .ref (oM 0)), (2, .int (zI (m_278 + 1))), (4, .int (zI i_316))]) hx hb dX8_ends_201 rfl hl (by decide) rfl (fun ls hl => ?_)
                      refine z_iinc (k := 3) (lv' := [(4, .int (zI (i_316 + 1))), (3, .int (zI 1)), (0, .ref (oM 0)), (2, .int (zI (m_278 + 1)))]) hx hb dX8_ends_202 hl rfl (by decide) rfl (fun ls hl => ?_)
                      refine lv_goto (tgt := 170) hx hb dX8_ends_205 (by decide) ?_
                      have hv_383 : 0 ≤ (i_316 + 1) ∧ (i_316 + 1) ≤ Mmany := by
                        first | assumption | omega | grind
                      have hv_384 : (stepK ki le Mcells Mgap stn ln (m_278 + 1) (i_316 + 1).toNat qz_323) = stepK ki le Mcells Mgap stn ln (m_278 + 1) (i_316 + 1).toNat qz_323 := by
                        rfl
                      have hv_385 : simR Mmany 8 Mhead_353 Mplays_354 Mrests_355 Mwent_356 Mout_357 (stepK ki le Mcells Mgap stn ln (m_278 + 1) (i_316 + 1).toNat qz_323).1 (stepK ki le Mcells Mgap stn ln (m_278 + 1) (i_316 + 1).toNat qz_323).2.1 (stepK ki le Mcells Mgap stn ln (m_278 + 1) (i_316 + 1).toNat qz_323).2.2.2 := by
                        have hst : stepK ki le Mcells Mgap stn ln (m_278 + 1) (i_316 + 1).toNat qz_323 = goG ki le Mcells Mstand (m_278 + 1) (Mrow i_316) ((0 : Int) = 1 ∨ roomP le Mgap Mrow i_316 q_322.1 q_322.2.2.2) q_322 := by
                          rw [go_conv (s := q_322) (p := i_316) (alone := 0) (n := Mmany) (ln := ln) (stn := stn) (by omega) (by omega) hp2 hp3, show (i_316 + 1).toNat = i_316.toNat + 1 by omega, step_go, show ((i_316.toNat : Nat) : Int) = i_316 by omega, ← (by assumption : q_322 = stepK ki le Mcells Mgap stn ln (m_278 + 1) i_316.toNat qz_323)]
                        rw [hst]
                        exact (by assumption : goPost Mmany 8 (Mrow i_316) _ _ _ _ _ _ _ _ _ _ _ _).1
                      have hv_386 : jpN Mmany le Mcells (stepK ki le Mcells Mgap stn ln (m_278 + 1) (i_316 + 1).toNat qz_323).1 (stepK ki le Mcells Mgap stn ln (m_278 + 1) (i_316 + 1).toNat qz_323).2.2.2 := by
                        have hst : stepK ki le Mcells Mgap stn ln (m_278 + 1) (i_316 + 1).toNat qz_323 = goG ki le Mcells Mstand (m_278 + 1) (Mrow i_316) ((0 : Int) = 1 ∨ roomP le Mgap Mrow i_316 q_322.1 q_322.2.2.2) q_322 := by
                          rw [go_conv (s := q_322) (p := i_316) (alone := 0) (n := Mmany) (ln := ln) (stn := stn) (by omega) (by omega) hp2 hp3, show (i_316 + 1).toNat = i_316.toNat + 1 by omega, step_go, show ((i_316.toNat : Nat) : Int) = i_316 by omega, ← (by assumption : q_322 = stepK ki le Mcells Mgap stn ln (m_278 + 1) i_316.toNat qz_323)]
                        rw [hst]
                        exact jpN_go (by assumption) (by omega)
                      have hv_387 : qz_323 = (runK ki le Mcells Mgap stn ln Mmany Mminute s0 (m_278 - Mminute).toNat) ∧ ¬ allP ln Mmany qz_323.2.2.2 := by
                        assumption
                      have hv_388 : ∀ k, k < 8 → Mhead_353 k = Mhead k ∧ Mplays_354 k = Mplays k ∧ Mrests_355 k = Mrests k ∧ Mwent_356 k = Mwent k ∧ Mout_357 k = Mout k := by
                        intro k k8
                        have q1 := (by assumption : goPost Mmany 8 (Mrow i_316) _ _ _ _ _ _ _ _ _ _ _ _).2.1 k (by have q9 := hp0.1 i_316 (by omega) (by omega); omega)
                        have q2 := (by assumption : ∀ k, k < 8 → Mhead_317 k = Mhead k ∧ Mplays_318 k = Mplays k ∧ Mrests_319 k = Mrests k ∧ Mwent_320 k = Mwent k ∧ Mout_321 k = Mout k) k k8
                        exact ⟨q1.1.trans q2.1, q1.2.1.trans q2.2.1, q1.2.2.1.trans q2.2.2.1, q1.2.2.2.1.trans q2.2.2.2.1, q1.2.2.2.2.trans q2.2.2.2.2⟩
                      have hv_389 : (1 : Int) = 0 ∨ (1 : Int) = 1 := by
                        first | assumption | omega | grind
                      have hm_390 : (9 - (i_316 + 1)).toNat < (9 - i_316).toNat := by
                        first | assumption | omega | grind
                      exact ih_314 (1, (i_316 + 1), Mhead_353, Mplays_354, Mrests_355, Mwent_356, Mout_357, (stepK ki le Mcells Mgap stn ln (m_278 + 1) (i_316 + 1).toNat qz_323), qz_323) _ _ _ ⟨hq_358, hq_359, hq_360, hq_361, hq_362, hv_383, hv_384, hv_385, hv_386, hv_387, hv_388, hv_389, hw, lv_sub hl [2, 3, 1, 0] rfl⟩ hm_390
          · skip
            refine lv_aload_n hx hb dX8_ends_53 rfl (lv_at hl 0 rfl) ?_
            refine va_get (D := D) (ci := 8) (v := .ref (oM 10)) (C := RX8) (T := TX8) (N := 36) hx hb hts hinX8 hown hK hw.1 0 rfl rfl 28 (by decide) (hts (.fieldLink RX8 47 "CarnivalRoadModel" "head" "[I") (by decide +kernel)) (fun _ h9 => h9) rfl dX8_ends_54 ?_
            refine z_bipush hx hb dX8_ends_57 (by decide) ?_
            refine lv_iload_n hx hb dX8_ends_59 rfl (lv_at hl 1 rfl) ?_
            refine z_iadd hx hb dX8_ends_60 ?_
            refine lv_aload_n hx hb dX8_ends_61 rfl (lv_at hl 0 rfl) ?_
            refine va_get (D := D) (ci := 8) (v := .ref (oM 10)) (C := RX8) (T := TX8) (N := 36) hx hb hts hinX8 hown hK hw.1 0 rfl rfl 28 (by decide) (hts (.fieldLink RX8 47 "CarnivalRoadModel" "head" "[I") (by decide +kernel)) (fun _ h9 => h9) rfl dX8_ends_62 ?_
            refine lv_iload_n hx hb dX8_ends_65 rfl (lv_at hl 1 rfl) ?_
            have hi_391 : (0 : Int) ≤ m_246 ∧ m_246 < ((16 : Nat) : Int) := by
              first | assumption | omega | grind
            refine z_iald (n := 16) (f := Mhead_247) hx hb hK hw 10 rfl (by decide) hi_391 dX8_ends_66 ?_
            have hq_392 : -1 ≤ Mhead_247 m_246 ∧ Mhead_247 m_246 ≤ 60 := hR_252 m_246
            have hi_393 : (0 : Int) ≤ (8 + m_246) ∧ (8 + m_246) < ((16 : Nat) : Int) := by
              first | assumption | omega | grind
            have hv_394 : (-1 : Int) ≤ (Mhead_247 m_246) ∧ (Mhead_247 m_246) ≤ 60 := by
              first | assumption | omega | grind
            have hR_395 : RA (uZ Mhead_247 (8 + m_246) (Mhead_247 m_246)) (-1) 60 := RA_up hR_252 hv_394
            refine z_iast (n := 16) (f := Mhead_247) (ws2 := kM cI cB cZ oM Mthrown_226 Mmany Mguest Mrow Mbars Mbar Mfresh Mtape Mtaped Mpos Mtoken MtokenAt Mvalue Mwrong MwrongAt MfaultKind MfaultPlace Mthing Morder Mone Mtwo Mbest Mcells Mgap Mwire Mstand Mruns Mminute (uZ Mhead_247 (8 + m_246) (Mhead_247 m_246)) Mplays_248 Mrests_249 Mwent_250 Mout_251 Mcame Mgone MlastOut) hx hb hK hw 10 rfl (by decide) hi_393 dX8_ends_67 rfl (fun H locs hw => ?_)
            refine lv_aload_n hx hb dX8_ends_68 rfl (lv_at hl 0 rfl) ?_
            refine va_get (D := D) (ci := 8) (v := .ref (oM 11)) (C := RX8) (T := TX8) (N := 36) hx hb hts hinX8 hown hK hw.1 0 rfl rfl 29 (by decide) (hts (.fieldLink RX8 50 "CarnivalRoadModel" "plays" "[I") (by decide +kernel)) (fun _ h9 => h9) rfl dX8_ends_69 ?_
            refine z_bipush hx hb dX8_ends_72 (by decide) ?_
            refine lv_iload_n hx hb dX8_ends_74 rfl (lv_at hl 1 rfl) ?_
            refine z_iadd hx hb dX8_ends_75 ?_
            refine lv_aload_n hx hb dX8_ends_76 rfl (lv_at hl 0 rfl) ?_
            refine va_get (D := D) (ci := 8) (v := .ref (oM 11)) (C := RX8) (T := TX8) (N := 36) hx hb hts hinX8 hown hK hw.1 0 rfl rfl 29 (by decide) (hts (.fieldLink RX8 50 "CarnivalRoadModel" "plays" "[I") (by decide +kernel)) (fun _ h9 => h9) rfl dX8_ends_77 ?_
            refine lv_iload_n hx hb dX8_ends_80 rfl (lv_at hl 1 rfl) ?_
            have hi_396 : (0 : Int) ≤ m_246 ∧ m_246 < ((16 : Nat) : Int) := by
              first | assumption | omega | grind
            refine z_iald (n := 16) (f := Mplays_248) hx hb hK hw 11 rfl (by decide) hi_396 dX8_ends_81 ?_
            have hq_397 : 0 ≤ Mplays_248 m_246 ∧ Mplays_248 m_246 ≤ 18 := hR_253 m_246
            have hi_398 : (0 : Int) ≤ (8 + m_246) ∧ (8 + m_246) < ((16 : Nat) : Int) := by
              first | assumption | omega | grind
            have hv_399 : (0 : Int) ≤ (Mplays_248 m_246) ∧ (Mplays_248 m_246) ≤ 18 := by
              first | assumption | omega | grind
            have hR_400 : RA (uZ Mplays_248 (8 + m_246) (Mplays_248 m_246)) (0) 18 := RA_up hR_253 hv_399
            refine z_iast (n := 16) (f := Mplays_248) (ws2 := kM cI cB cZ oM Mthrown_226 Mmany Mguest Mrow Mbars Mbar Mfresh Mtape Mtaped Mpos Mtoken MtokenAt Mvalue Mwrong MwrongAt MfaultKind MfaultPlace Mthing Morder Mone Mtwo Mbest Mcells Mgap Mwire Mstand Mruns Mminute (uZ Mhead_247 (8 + m_246) (Mhead_247 m_246)) (uZ Mplays_248 (8 + m_246) (Mplays_248 m_246)) Mrests_249 Mwent_250 Mout_251 Mcame Mgone MlastOut) hx hb hK hw 11 rfl (by decide) hi_398 dX8_ends_82 rfl (fun H locs hw => ?_)
            refine lv_aload_n hx hb dX8_ends_83 rfl (lv_at hl 0 rfl) ?_
            refine va_get (D := D) (ci := 8) (v := .ref (oM 12)) (C := RX8) (T := TX8) (N := 36) hx hb hts hinX8 hown hK hw.1 0 rfl rfl 30 (by decide) (hts (.fieldLink RX8 53 "CarnivalRoadModel" "rests" "[I") (by decide +kernel)) (fun _ h9 => h9) rfl dX8_ends_84 ?_
            refine z_bipush hx hb dX8_ends_87 (by decide) ?_
            refine lv_iload_n hx hb dX8_ends_89 rfl (lv_at hl 1 rfl) ?_
            refine z_iadd hx hb dX8_ends_90 ?_
            refine lv_aload_n hx hb dX8_ends_91 rfl (lv_at hl 0 rfl) ?_
            refine va_get (D := D) (ci := 8) (v := .ref (oM 12)) (C := RX8) (T := TX8) (N := 36) hx hb hts hinX8 hown hK hw.1 0 rfl rfl 30 (by decide) (hts (.fieldLink RX8 53 "CarnivalRoadModel" "rests" "[I") (by decide +kernel)) (fun _ h9 => h9) rfl dX8_ends_92 ?_
            refine lv_iload_n hx hb dX8_ends_95 rfl (lv_at hl 1 rfl) ?_
            have hi_401 : (0 : Int) ≤ m_246 ∧ m_246 < ((16 : Nat) : Int) := by
              first | assumption | omega | grind
            refine z_iald (n := 16) (f := Mrests_249) hx hb hK hw 12 rfl (by decide) hi_401 dX8_ends_96 ?_
            have hq_402 : 0 ≤ Mrests_249 m_246 ∧ Mrests_249 m_246 ≤ 3 := hR_254 m_246
            have hi_403 : (0 : Int) ≤ (8 + m_246) ∧ (8 + m_246) < ((16 : Nat) : Int) := by
              first | assumption | omega | grind
            have hv_404 : (0 : Int) ≤ (Mrests_249 m_246) ∧ (Mrests_249 m_246) ≤ 3 := by
              first | assumption | omega | grind
            have hR_405 : RA (uZ Mrests_249 (8 + m_246) (Mrests_249 m_246)) (0) 3 := RA_up hR_254 hv_404
            refine z_iast (n := 16) (f := Mrests_249) (ws2 := kM cI cB cZ oM Mthrown_226 Mmany Mguest Mrow Mbars Mbar Mfresh Mtape Mtaped Mpos Mtoken MtokenAt Mvalue Mwrong MwrongAt MfaultKind MfaultPlace Mthing Morder Mone Mtwo Mbest Mcells Mgap Mwire Mstand Mruns Mminute (uZ Mhead_247 (8 + m_246) (Mhead_247 m_246)) (uZ Mplays_248 (8 + m_246) (Mplays_248 m_246)) (uZ Mrests_249 (8 + m_246) (Mrests_249 m_246)) Mwent_250 Mout_251 Mcame Mgone MlastOut) hx hb hK hw 12 rfl (by decide) hi_403 dX8_ends_97 rfl (fun H locs hw => ?_)
            refine lv_aload_n hx hb dX8_ends_98 rfl (lv_at hl 0 rfl) ?_
            refine va_get (D := D) (ci := 8) (v := .ref (oM 13)) (C := RX8) (T := TX8) (N := 36) hx hb hts hinX8 hown hK hw.1 0 rfl rfl 31 (by decide) (hts (.fieldLink RX8 56 "CarnivalRoadModel" "went" "[I") (by decide +kernel)) (fun _ h9 => h9) rfl dX8_ends_99 ?_
            refine z_bipush hx hb dX8_ends_102 (by decide) ?_
            refine lv_iload_n hx hb dX8_ends_104 rfl (lv_at hl 1 rfl) ?_
            refine z_iadd hx hb dX8_ends_105 ?_
            refine lv_aload_n hx hb dX8_ends_106 rfl (lv_at hl 0 rfl) ?_
            refine va_get (D := D) (ci := 8) (v := .ref (oM 13)) (C := RX8) (T := TX8) (N := 36) hx hb hts hinX8 hown hK hw.1 0 rfl rfl 31 (by decide) (hts (.fieldLink RX8 56 "CarnivalRoadModel" "went" "[I") (by decide +kernel)) (fun _ h9 => h9) rfl dX8_ends_107 ?_
            refine lv_iload_n hx hb dX8_ends_110 rfl (lv_at hl 1 rfl) ?_
            have hi_406 : (0 : Int) ≤ m_246 ∧ m_246 < ((16 : Nat) : Int) := by
              first | assumption | omega | grind
            refine z_iald (n := 16) (f := Mwent_250) hx hb hK hw 13 rfl (by decide) hi_406 dX8_ends_111 ?_
            have hq_407 : 0 ≤ Mwent_250 m_246 ∧ Mwent_250 m_246 ≤ 61 := hR_255 m_246
            have hi_408 : (0 : Int) ≤ (8 + m_246) ∧ (8 + m_246) < ((16 : Nat) : Int) := by
              first | assumption | omega | grind
            have hv_409 : (0 : Int) ≤ (Mwent_250 m_246) ∧ (Mwent_250 m_246) ≤ 61 := by
              first | assumption | omega | grind
            have hR_410 : RA (uZ Mwent_250 (8 + m_246) (Mwent_250 m_246)) (0) 61 := RA_up hR_255 hv_409
            refine z_iast (n := 16) (f := Mwent_250) (ws2 := kM cI cB cZ oM Mthrown_226 Mmany Mguest Mrow Mbars Mbar Mfresh Mtape Mtaped Mpos Mtoken MtokenAt Mvalue Mwrong MwrongAt MfaultKind MfaultPlace Mthing Morder Mone Mtwo Mbest Mcells Mgap Mwire Mstand Mruns Mminute (uZ Mhead_247 (8 + m_246) (Mhead_247 m_246)) (uZ Mplays_248 (8 + m_246) (Mplays_248 m_246)) (uZ Mrests_249 (8 + m_246) (Mrests_249 m_246)) (uZ Mwent_250 (8 + m_246) (Mwent_250 m_246)) Mout_251 Mcame Mgone MlastOut) hx hb hK hw 13 rfl (by decide) hi_408 dX8_ends_112 rfl (fun H locs hw => ?_)
            refine lv_aload_n hx hb dX8_ends_113 rfl (lv_at hl 0 rfl) ?_
            refine va_get (D := D) (ci := 8) (v := .ref (oM 14)) (C := RX8) (T := TX8) (N := 36) hx hb hts hinX8 hown hK hw.1 0 rfl rfl 32 (by decide) (hts (.fieldLink RX8 59 "CarnivalRoadModel" "out" "[Z") (by decide +kernel)) (fun _ h9 => h9) rfl dX8_ends_114 ?_
            refine z_bipush hx hb dX8_ends_117 (by decide) ?_
            refine lv_iload_n hx hb dX8_ends_119 rfl (lv_at hl 1 rfl) ?_
            refine z_iadd hx hb dX8_ends_120 ?_
            refine lv_aload_n hx hb dX8_ends_121 rfl (lv_at hl 0 rfl) ?_
            refine va_get (D := D) (ci := 8) (v := .ref (oM 14)) (C := RX8) (T := TX8) (N := 36) hx hb hts hinX8 hown hK hw.1 0 rfl rfl 32 (by decide) (hts (.fieldLink RX8 59 "CarnivalRoadModel" "out" "[Z") (by decide +kernel)) (fun _ h9 => h9) rfl dX8_ends_122 ?_
            refine lv_iload_n hx hb dX8_ends_125 rfl (lv_at hl 1 rfl) ?_
            have hi_411 : (0 : Int) ≤ m_246 ∧ m_246 < ((16 : Nat) : Int) := by
              first | assumption | omega | grind
            refine z_zald (n := 16) (f := Mout_251) hx hb hK hw 14 rfl (by decide) hi_411 dX8_ends_126 ?_
            have hq_412 : 0 ≤ Mout_251 m_246 ∧ Mout_251 m_246 ≤ 1 := hR_256 m_246
            have hi_413 : (0 : Int) ≤ (8 + m_246) ∧ (8 + m_246) < ((16 : Nat) : Int) := by
              first | assumption | omega | grind
            have hv_414 : (0 : Int) ≤ (Mout_251 m_246) ∧ (Mout_251 m_246) ≤ 1 := by
              first | assumption | omega | grind
            have hR_415 : RA (uZ Mout_251 (8 + m_246) (Mout_251 m_246)) (0) 1 := RA_up hR_256 hv_414
            refine z_zast (n := 16) (f := Mout_251) (ws2 := kM cI cB cZ oM Mthrown_226 Mmany Mguest Mrow Mbars Mbar Mfresh Mtape Mtaped Mpos Mtoken MtokenAt Mvalue Mwrong MwrongAt MfaultKind MfaultPlace Mthing Morder Mone Mtwo Mbest Mcells Mgap Mwire Mstand Mruns Mminute (uZ Mhead_247 (8 + m_246) (Mhead_247 m_246)) (uZ Mplays_248 (8 + m_246) (Mplays_248 m_246)) (uZ Mrests_249 (8 + m_246) (Mrests_249 m_246)) (uZ Mwent_250 (8 + m_246) (Mwent_250 m_246)) (uZ Mout_251 (8 + m_246) (Mout_251 m_246)) Mcame Mgone MlastOut) hx hb hK hw 14 rfl (z_narZ2 (by omega)) (by decide) hi_413 dX8_ends_127 rfl (fun H locs hw => ?_)
            refine z_iinc (k := 1) (lv' := [(2, .int (zI (m_246 + 1))), (0, .ref (oM 0))]) hx hb dX8_ends_128 hl rfl (by decide) rfl (fun ls hl => ?_)
            refine lv_goto (tgt := 45) hx hb dX8_ends_131 (by decide) ?_
            have hv_416 : 0 ≤ (m_246 + 1) ∧ (m_246 + 1) ≤ Mmany := by
              first | assumption | omega | grind
            have hv_417 : ∀ a, 0 ≤ a → a < (m_246 + 1) → (uZ Mhead_247 (8 + m_246) (Mhead_247 m_246)) (8 + a) = Mhead a ∧ (uZ Mplays_248 (8 + m_246) (Mplays_248 m_246)) (8 + a) = Mplays a ∧ (uZ Mrests_249 (8 + m_246) (Mrests_249 m_246)) (8 + a) = Mrests a ∧ (uZ Mwent_250 (8 + m_246) (Mwent_250 m_246)) (8 + a) = Mwent a ∧ (uZ Mout_251 (8 + m_246) (Mout_251 m_246)) (8 + a) = Mout a := by
              subst_vars
              have hf := (by assumption : ∀ k, k < 8 → Mhead_247 k = Mhead k ∧ Mplays_248 k = Mplays k ∧ Mrests_249 k = Mrests k ∧ Mwent_250 k = Mwent k ∧ Mout_251 k = Mout k) m_246 (by omega)
              refine all_s (fun a a0 a1 => ?_) ⟨by rw [uZ_s]; exact hf.1, by rw [uZ_s]; exact hf.2.1, by rw [uZ_s]; exact hf.2.2.1, by rw [uZ_s]; exact hf.2.2.2.1, by rw [uZ_s]; exact hf.2.2.2.2⟩
              rw [uZ_n (by omega), uZ_n (by omega), uZ_n (by omega), uZ_n (by omega), uZ_n (by omega)]
              revert a1
              revert a0
              revert a
              assumption
            have hv_418 : ∀ k, k < 8 → (uZ Mhead_247 (8 + m_246) (Mhead_247 m_246)) k = Mhead k ∧ (uZ Mplays_248 (8 + m_246) (Mplays_248 m_246)) k = Mplays k ∧ (uZ Mrests_249 (8 + m_246) (Mrests_249 m_246)) k = Mrests k ∧ (uZ Mwent_250 (8 + m_246) (Mwent_250 m_246)) k = Mwent k ∧ (uZ Mout_251 (8 + m_246) (Mout_251 m_246)) k = Mout k := by
              intro k k8
              rw [uZ_n (by omega), uZ_n (by omega), uZ_n (by omega), uZ_n (by omega), uZ_n (by omega)]
              revert k8
              revert k
              assumption
            have hm_419 : (9 - (m_246 + 1)).toNat < (9 - m_246).toNat := by
              first | assumption | omega | grind
            exact ih_245 ((m_246 + 1), (uZ Mhead_247 (8 + m_246) (Mhead_247 m_246)), (uZ Mplays_248 (8 + m_246) (Mplays_248 m_246)), (uZ Mrests_249 (8 + m_246) (Mrests_249 m_246)), (uZ Mwent_250 (8 + m_246) (Mwent_250 m_246)), (uZ Mout_251 (8 + m_246) (Mout_251 m_246))) _ _ _ ⟨hR_395, hR_400, hR_405, hR_410, hR_415, hv_416, hv_417, hv_418, hw, lv_sub hl [1, 0] rfl⟩ hm_419
        · skip
          refine lv_aload_n hx hb dX8_ends_38 rfl (lv_at hl 0 rfl) ?_
          have hpre_420 : permP Mmany Mrow := by
            assumption
          have hpre_421 : gRel Mmany ki le lo ta sh Mguest := by
            assumption
          have hpre_422 : ∀ c, 0 ≤ c → c < Mcells → Mstand c = stn c := by
            assumption
          have hpre_423 : ∀ g, 0 ≤ g → g < Mmany → 0 ≤ le g ∧ le g ≤ 5 := by
            assumption
          have hF9 := z_free (wc := kM cI cB cZ oM Mthrown_226 Mmany Mguest Mrow Mbars Mbar Mfresh Mtape Mtaped Mpos Mtoken MtokenAt Mvalue Mwrong MwrongAt MfaultKind MfaultPlace Mthing Morder Mone Mtwo Mbest Mcells Mgap Mwire Mstand Mruns Mminute Mhead Mplays Mrests Mwent Mout Mcame Mgone MlastOut) hw hA [0, 1, 2, 3, 4, 5, 6, 7, 8, 9, 10, 11, 12, 13, 14, 15, 16] rfl
          refine va_calli (va_runV (As := []) (rest := []) ⟨hx, hb, hml, hown, hts⟩ (c_X8_alone l D cI cB cZ oM H_236.size Mthrown_226 Mmany Mguest Mrow Mbars Mbar Mfresh Mtape Mtaped Mpos Mtoken MtokenAt Mvalue Mwrong MwrongAt MfaultKind MfaultPlace Mthing Morder Mone Mtwo Mbest Mcells Mgap Mwire Mstand Mruns Mminute Mhead Mplays Mrests Mwent Mout Mcame Mgone MlastOut ki le lo ta sh stn (by omega) (by omega) qMguest qMrow (by omega) qMbar qMfresh qMtape (by omega) (by omega) (by omega) (by omega) (by omega) (by omega) (by omega) (by omega) (by omega) (by omega) qMorder (by omega) (by omega) qMbest (by omega) (by omega) qMwire qMstand (by omega) (by omega) qMhead qMplays qMrests qMwent qMout qMcame qMgone (by omega) hpre_420 hpre_421 hpre_422 hpre_423) (cwV 0 hts gX8_ends_X8_alone rfl rfl rfl (by decide +kernel) ⟨Nat.le_of_ble_eq_true rfl, Nat.le_of_ble_eq_true rfl⟩) ⟨zPre_blind, va_recv hK hw.1 (ci := 8) (q0 := 0) rfl rfl, z_pre hK hw [0, 1, 2, 3, 4, 5, 6, 7, 8, 9, 10, 11, 12, 13, 14, 15, 16] (by decide) rfl⟩ rfl rfl hl.1 rfl (lv_room (Nat.le_of_ble_eq_true rfl)) dX8_ends_39 ⟨Nat.zero_le _, Nat.zero_le _⟩) hw.2.2 (fun q _ h => hF9 q h) hF9 (fun r9 u9 t9 H_424 locs9 ht9 hvm9 hq9 hB9 hz9 hk9 hS9 => ?_)
          obtain ⟨r_425, Mhead_426, Mplays_427, Mrests_428, Mwent_429, Mout_430⟩ := u9
          try dsimp only at hq9 hB9
          obtain ⟨rfl, hq9⟩ := hq9
          obtain ⟨hq_431, hq_432, hq_433, hq_434, hq_435, hq_436, hq_437, hq_438⟩ := hq9
          have hw : HW D A s.heap (kM cI cB cZ oM Mthrown_226 Mmany Mguest Mrow Mbars Mbar Mfresh Mtape Mtaped Mpos Mtoken MtokenAt Mvalue Mwrong MwrongAt MfaultKind MfaultPlace Mthing Morder Mone Mtwo Mbest Mcells Mgap Mwire Mstand Mruns Mminute Mhead_426 Mplays_427 Mrests_428 Mwent_429 Mout_430 Mcame Mgone MlastOut) H_424 locs9 := z_after (wc := kM cI cB cZ oM Mthrown_226 Mmany Mguest Mrow Mbars Mbar Mfresh Mtape Mtaped Mpos Mtoken MtokenAt Mvalue Mwrong MwrongAt MfaultKind MfaultPlace Mthing Morder Mone Mtwo Mbest Mcells Mgap Mwire Mstand Mruns Mminute Mhead Mplays Mrests Mwent Mout Mcame Mgone MlastOut) hw [0, 1, 2, 3, 4, 5, 6, 7, 8, 9, 10, 11, 12, 13, 14, 15, 16] [] rfl rfl (by decide) (by decide) hF9 hk9 ht9 hB9 hS9 [0, 1, 2, 3, 4, 5, 6, 7, 8, 9, 10, 11, 12, 13, 14, 15, 16] (by decide) rfl
          clear hF9 ht9 hvm9 hB9 hz9 hk9 hS9
          have hv_439 : (0 : Int) ≤ Mthrown_226 ∧ Mthrown_226 ≤ 2 := by
            first | assumption | omega | grind
          have hv_440 : (Mruns = 0 ∧ Mthrown_226 = 1) ∨ (Mruns = 1 ∧ Mthrown_226 = 0 ∧ ((¬ (0 ≤ w ∧ w ≤ 1) ∧ r_425 = -1) ∨ (w = 1 ∧ soloM ki le Mcells Mgap stn Mmany r_425) ∨ (w = 0 ∧ ∃ k : Nat, r_425 = Mminute + (k : Int) ∧ allP ln Mmany (runK ki le Mcells Mgap stn ln Mmany Mminute s0 k).2.2.2 ∧ ∀ j : Nat, j < k → ¬ allP ln Mmany (runK ki le Mcells Mgap stn ln Mmany Mminute s0 j).2.2.2))) := by
            exact Or.inr ⟨by omega, by omega, Or.inr (Or.inl ⟨by omega, by assumption⟩)⟩
          have hv_441 : ∀ k, k < 8 → Mhead_426 k = Mhead k ∧ Mplays_427 k = Mplays k ∧ Mrests_428 k = Mrests k ∧ Mwent_429 k = Mwent k ∧ Mout_430 k = Mout k := by
            assumption
          exact W.iret (v := zI r_425) hx hb hr (fun t9 ht hW => ⟨⟨zI r_425, (r_425, Mthrown_226, Mhead_426, Mplays_427, Mrests_428, Mwent_429, Mout_430), rfl, ⟨rfl, ⟨hv_439, hq_431, hq_432, hq_433, hq_434, hq_435, hv_440, hv_441⟩⟩, by subst hAe; exact z_end hK hw ht hW⟩, by subst hAe; exact hw.2.2.F ht⟩) (by subst hAe; exact hw.2.2.2.2) dX8_ends_42
      · skip
        refine z_if_ne (tgt := 33) hx hb dX8_ends_28 (by decide) (by omega) (fun hc_442 => absurd hc_442 (by omega)) (fun hc_442 => ?_)
        refine z_iconst hx hb dX8_ends_31 ?_
        have hv_443 : (0 : Int) ≤ Mthrown_226 ∧ Mthrown_226 ≤ 2 := by
          first | assumption | omega | grind
        have hv_444 : (Mruns = 0 ∧ Mthrown_226 = 1) ∨ (Mruns = 1 ∧ Mthrown_226 = 0 ∧ ((¬ (0 ≤ w ∧ w ≤ 1) ∧ ((-1) : Int) = -1) ∨ (w = 1 ∧ soloM ki le Mcells Mgap stn Mmany ((-1) : Int)) ∨ (w = 0 ∧ ∃ k : Nat, ((-1) : Int) = Mminute + (k : Int) ∧ allP ln Mmany (runK ki le Mcells Mgap stn ln Mmany Mminute s0 k).2.2.2 ∧ ∀ j : Nat, j < k → ¬ allP ln Mmany (runK ki le Mcells Mgap stn ln Mmany Mminute s0 j).2.2.2))) := by
          exact Or.inr ⟨by omega, by omega, Or.inl ⟨by omega, rfl⟩⟩
        have hv_445 : ∀ k, k < 8 → Mhead k = Mhead k ∧ Mplays k = Mplays k ∧ Mrests k = Mrests k ∧ Mwent k = Mwent k ∧ Mout k = Mout k := by
          exact fun k _ => ⟨rfl, rfl, rfl, rfl, rfl⟩
        exact W.iret (v := zI (-1)) hx hb hr (fun t9 ht hW => ⟨⟨zI (-1), ((-1), Mthrown_226, Mhead, Mplays, Mrests, Mwent, Mout), rfl, ⟨rfl, ⟨hv_443, qMhead, qMplays, qMrests, qMwent, qMout, hv_444, hv_445⟩⟩, by subst hAe; exact z_end hK hw ht hW⟩, by subst hAe; exact hw.2.2.F ht⟩) (by subst hAe; exact hw.2.2.2.2) dX8_ends_32
