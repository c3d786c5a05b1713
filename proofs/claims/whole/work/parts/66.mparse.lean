set_option maxRecDepth 100000 in
set_option maxHeartbeats 4000000 in
theorem c_X8_see (l : Launch) (D : va_G) (cI cB cZ : ClassId) (oM : Nat → Nat) (sz : Nat) (Mthrown : Int) (Mmany : Int) (Mguest : Int → Int) (Mrow : Int → Int) (Mbars : Int) (Mbar : Int → Int) (Mfresh : Int → Int) (Mtape : Int → Int) (Mtaped : Int) (Mpos : Int) (Mtoken : Int) (MtokenAt : Int) (Mvalue : Int) (Mwrong : Int) (MwrongAt : Int) (MfaultKind : Int) (MfaultPlace : Int) (Mthing : Int) (Morder : Int → Int) (Mone : Int) (Mtwo : Int) (Mbest : Int → Int) (Mcells : Int) (Mgap : Int) (Mwire : Int → Int) (Mstand : Int → Int) (Mruns : Int) (Mminute : Int) (Mhead : Int → Int) (Mplays : Int → Int) (Mrests : Int → Int) (Mwent : Int → Int) (Mout : Int → Int) (Mcame : Int → Int) (Mgone : Int → Int) (MlastOut : Int) (k : Int) (qMthrown : 0 ≤ Mthrown ∧ Mthrown ≤ 2) (qMmany : 0 ≤ Mmany ∧ Mmany ≤ 8) (qMguest : RA Mguest (0) 9) (qMrow : RA Mrow (0) 7) (qMbars : 0 ≤ Mbars ∧ Mbars ≤ 10) (qMbar : RA Mbar (0) 104) (qMfresh : RA Mfresh (0) 104) (qMtape : RA Mtape (0) 255) (qMtaped : 0 ≤ Mtaped ∧ Mtaped ≤ 400) (qMpos : 0 ≤ Mpos ∧ Mpos ≤ 400) (qMtoken : 0 ≤ Mtoken ∧ Mtoken ≤ 15) (qMtokenAt : 0 ≤ MtokenAt ∧ MtokenAt ≤ 400) (qMvalue : 0 ≤ Mvalue ∧ Mvalue ≤ 99) (qMwrong : 0 ≤ Mwrong ∧ Mwrong ≤ 3) (qMwrongAt : 0 ≤ MwrongAt ∧ MwrongAt ≤ 400) (qMfaultKind : 0 ≤ MfaultKind ∧ MfaultKind ≤ 3) (qMfaultPlace : -1 ≤ MfaultPlace ∧ MfaultPlace ≤ 400) (qMthing : 0 ≤ Mthing ∧ Mthing ≤ 104) (qMorder : RA Morder (0) 7) (qMone : 0 ≤ Mone ∧ Mone ≤ 8) (qMtwo : 0 ≤ Mtwo ∧ Mtwo ≤ 8) (qMbest : RA Mbest (0) 7) (qMcells : 1 ≤ Mcells ∧ Mcells ≤ 50) (qMgap : 0 ≤ Mgap ∧ Mgap ≤ 3) (qMwire : RA Mwire (0) 9) (qMstand : RA Mstand (0) 9) (qMruns : 0 ≤ Mruns ∧ Mruns ≤ 1) (qMminute : 0 ≤ Mminute ∧ Mminute ≤ 1000000) (qMhead : RA Mhead (-1) 60) (qMplays : RA Mplays (0) 18) (qMrests : RA Mrests (0) 3) (qMwent : RA Mwent (0) 61) (qMout : RA Mout (0) 1) (qMcame : RA Mcame (-1) 1000000) (qMgone : RA Mgone (-1) 1000000) (qMlastOut : 0 ≤ MlastOut ∧ MlastOut ≤ 1000000) (qk : 0 ≤ k ∧ k ≤ 400) : Met l yX8_see wsX8_see ({ frames := 0, cells := 0, slots := 0, locals := 0 }) (va_Pc [.ref (oM 0), .int (zI k)] (zPre D cI cB cZ sz (kM cI cB cZ oM Mthrown Mmany Mguest Mrow Mbars Mbar Mfresh Mtape Mtaped Mpos Mtoken MtokenAt Mvalue Mwrong MwrongAt MfaultKind MfaultPlace Mthing Morder Mone Mtwo Mbest Mcells Mgap Mwire Mstand Mruns Mminute Mhead Mplays Mrests Mwent Mout Mcame Mgone MlastOut))) (va_Qi (fun (r9 : Int32) (u9 : Int) => r9 = zI u9 ∧ (((k < Mtaped ∧ u9 = Mtape k ∧ 0 ≤ u9) ∨ (Mtaped ≤ k ∧ u9 = -1)) ∧ (-1 ≤ u9 ∧ u9 ≤ 255))) (fun u9 t9 => zAt D cI cB cZ (va_A (kM cI cB cZ oM Mthrown Mmany Mguest Mrow Mbars Mbar Mfresh Mtape Mtaped Mpos Mtoken MtokenAt Mvalue Mwrong MwrongAt MfaultKind MfaultPlace Mthing Morder Mone Mtwo Mbest Mcells Mgap Mwire Mstand Mruns Mminute Mhead Mplays Mrests Mwent Mout Mcame Mgone MlastOut) sz) (kM cI cB cZ oM Mthrown Mmany Mguest Mrow Mbars Mbar Mfresh Mtape Mtaped Mpos Mtoken MtokenAt Mvalue Mwrong MwrongAt MfaultKind MfaultPlace Mthing Morder Mone Mtwo Mbest Mcells Mgap Mwire Mstand Mruns Mminute Mhead Mplays Mrests Mwent Mout Mcame Mgone MlastOut) t9) (va_A (kM cI cB cZ oM Mthrown Mmany Mguest Mrow Mbars Mbar Mfresh Mtape Mtaped Mpos Mtoken MtokenAt Mvalue Mwrong MwrongAt MfaultKind MfaultPlace Mthing Morder Mone Mtwo Mbest Mcells Mgap Mwire Mstand Mruns Mminute Mhead Mplays Mrests Mwent Mout Mcame Mgone MlastOut) sz)) 0 0 (va_A (kM cI cB cZ oM Mthrown Mmany Mguest Mrow Mbars Mbar Mfresh Mtape Mtaped Mpos Mtoken MtokenAt Mvalue Mwrong MwrongAt MfaultKind MfaultPlace Mthing Morder Mone Mtwo Mbest Mcells Mgap Mwire Mstand Mruns Mminute Mhead Mplays Mrests Mwent Mout Mcame Mgone MlastOut) sz) := by
  refine Met.ofW (cc := cX8_see) (maxL := 2) (ret := (some .int)) (by decide) rfl ?_
  intro pp ee s mm aa bw mt cd s₁ BL hml hv
  obtain ⟨rfl, hsz, hP, hK, hD0⟩ := hv
  have hx := BL.exec
  have hb := BL.bytes
  have hr := BL.returns
  have hts := atoms_spec (ws := wsX8_see) BL.pre
  have hown : s.vm.findClass RX8 = some mm.cls := findClass_of_methodNamed BL.named
  have hlocks := BL.notSynchronized
  subst hsz
  generalize hAe : va_A (kM cI cB cZ oM Mthrown Mmany Mguest Mrow Mbars Mbar Mfresh Mtape Mtaped Mpos Mtoken MtokenAt Mvalue Mwrong MwrongAt MfaultKind MfaultPlace Mthing Morder Mone Mtwo Mbest Mcells Mgap Mwire Mstand Mruns Mminute Mhead Mplays Mrests Mwent Mout Mcame Mgone MlastOut) s.heap.size = A
  have hA : ∀ q : Nat, s.heap.size ≤ q → A q := fun q h => by rw [← hAe]; exact Or.inr h
  have hw : HW D A s.heap (kM cI cB cZ oM Mthrown Mmany Mguest Mrow Mbars Mbar Mfresh Mtape Mtaped Mpos Mtoken MtokenAt Mvalue Mwrong MwrongAt MfaultKind MfaultPlace Mthing Morder Mone Mtwo Mbest Mcells Mgap Mwire Mstand Mruns Mminute Mhead Mplays Mrests Mwent Mout Mcame Mgone MlastOut) s.heap [] := z_start hAe hP hD0
  clear hP hD0
  have hl := lv_entry ([.ref (oM 0), .int (zI k)]) (n := 2) (Nat.le_of_ble_eq_true rfl)
  rw [lg_entry_eq]
  generalize (lg_sl ([.ref (oM 0), .int (zI k)]) ++ List.replicate (2 - (lg_sl ([.ref (oM 0), .int (zI k)])).length) Slot.unset).toArray = ls at hl ⊢
  have hl : lv_has ls 2 [(0, .ref (oM 0)), (1, .int (zI k))] := hl
  have hinX8 : ∀ w ∈ wsX80, w ∈ wsX8_see := by decide +kernel
  refine lv_iload_n hx hb dX8_see_0 rfl (lv_at hl 1 rfl) ?_
  refine lv_aload_n hx hb dX8_see_1 rfl (lv_at hl 0 rfl) ?_
  refine va_get (D := D) (ci := 8) (v := .int (zI Mtaped)) (C := RX8) (T := TX8) (N := 36) hx hb hts hinX8 hown hK hw.1 0 rfl rfl 8 (by decide) (hts (.fieldLink RX8 95 "CarnivalRoadModel" "taped" "I") (by decide +kernel)) (fun _ h9 => h9) rfl dX8_see_2 ?_
  refine z_icmp_ge (tgt := 17) hx hb dX8_see_5 (by decide) (by omega) (fun hc_1 => ?_) (fun hc_1 => ?_)
  · skip
    refine z_iconst hx hb dX8_see_17 ?_
    have hv_2 : (k < Mtaped ∧ ((-1) : Int) = Mtape k ∧ 0 ≤ ((-1) : Int)) ∨ (Mtaped ≤ k ∧ ((-1) : Int) = -1) := by
      first | assumption | omega | grind
    have hv_3 : -1 ≤ ((-1) : Int) ∧ ((-1) : Int) ≤ 255 := by
      first | assumption | omega | grind
    exact W.iret (v := zI (-1)) hx hb hr (fun t9 ht hW => ⟨⟨zI (-1), (-1), rfl, ⟨rfl, ⟨hv_2, hv_3⟩⟩, by subst hAe; exact z_end hK hw ht hW⟩, by subst hAe; exact hw.2.2.F ht⟩) (by subst hAe; exact hw.2.2.2.2) dX8_see_18
  · skip
    refine lv_aload_n hx hb dX8_see_8 rfl (lv_at hl 0 rfl) ?_
    refine va_get (D := D) (ci := 8) (v := .ref (oM 5)) (C := RX8) (T := TX8) (N := 36) hx hb hts hinX8 hown hK hw.1 0 rfl rfl 7 (by decide) (hts (.fieldLink RX8 22 "CarnivalRoadModel" "tape" "[I") (by decide +kernel)) (fun _ h9 => h9) rfl dX8_see_9 ?_
    refine lv_iload_n hx hb dX8_see_12 rfl (lv_at hl 1 rfl) ?_
    have hi_4 : (0 : Int) ≤ k ∧ k < ((400 : Nat) : Int) := by
      first | assumption | omega | grind
    refine z_iald (n := 400) (f := Mtape) hx hb hK hw 5 rfl (by decide) hi_4 dX8_see_13 ?_
    have hq_5 : 0 ≤ Mtape k ∧ Mtape k ≤ 255 := qMtape k
    refine lv_goto (tgt := 18) hx hb dX8_see_14 (by decide) ?_
    have hv_6 : (k < Mtaped ∧ (Mtape k) = Mtape k ∧ 0 ≤ (Mtape k)) ∨ (Mtaped ≤ k ∧ (Mtape k) = -1) := by
      first | assumption | omega | grind
    have hv_7 : -1 ≤ (Mtape k) ∧ (Mtape k) ≤ 255 := by
      first | assumption | omega | grind
    exact W.iret (v := zI (Mtape k)) hx hb hr (fun t9 ht hW => ⟨⟨zI (Mtape k), (Mtape k), rfl, ⟨rfl, ⟨hv_6, hv_7⟩⟩, by subst hAe; exact z_end hK hw ht hW⟩, by subst hAe; exact hw.2.2.F ht⟩) (by subst hAe; exact hw.2.2.2.2) dX8_see_18
set_option maxRecDepth 100000 in
set_option maxHeartbeats 4000000 in
theorem c_X8_isLetter (l : Launch) (D : va_G) (cI cB cZ : ClassId) (sz : Nat) (c : Int) (qc : -2147483648 ≤ c ∧ c ≤ 2147483647) : Met l yX8_isLetter wsX8_isLetter ({ frames := 1, cells := 0, slots := 0, locals := 22 }) (va_Pc [.int (zI c)] (zPre D cI cB cZ sz (([] : va_W)))) (va_Qi (fun (r9 : Int32) (u9 : Int) => r9 = zI u9 ∧ ((((97 ≤ c ∧ c ≤ 122) ∨ (65 ≤ c ∧ c ≤ 90)) ∧ u9 = 1 ∨ ¬ ((97 ≤ c ∧ c ≤ 122) ∨ (65 ≤ c ∧ c ≤ 90)) ∧ u9 = 0))) (fun u9 t9 => zAt D cI cB cZ (va_A (([] : va_W)) sz) (([] : va_W)) t9) (va_A (([] : va_W)) sz)) 0 0 (va_A (([] : va_W)) sz) := by
  refine Met.ofW (cc := cX8_isLetter) (maxL := 1) (ret := (some .boolean)) (by decide) rfl ?_
  intro pp ee s mm aa bw mt cd s₁ BL hml hv
  obtain ⟨rfl, hsz, hP, hK, hD0⟩ := hv
  have hx := BL.exec
  have hb := BL.bytes
  have hr := BL.returns
  have hts := atoms_spec (ws := wsX8_isLetter) BL.pre
  have hown : s.vm.findClass RX8 = some mm.cls := findClass_of_methodNamed BL.named
  have hlocks := BL.notSynchronized
  subst hsz
  generalize hAe : va_A (([] : va_W)) s.heap.size = A
  have hA : ∀ q : Nat, s.heap.size ≤ q → A q := fun q h => by rw [← hAe]; exact Or.inr h
  have hw : HW D A s.heap (([] : va_W)) s.heap [] := z_start hAe hP hD0
  clear hP hD0
  have hl := lv_entry ([.int (zI c)]) (n := 1) (Nat.le_of_ble_eq_true rfl)
  rw [lg_entry_eq]
  generalize (lg_sl ([.int (zI c)]) ++ List.replicate (1 - (lg_sl ([.int (zI c)])).length) Slot.unset).toArray = ls at hl ⊢
  have hl : lv_has ls 1 [(0, .int (zI c))] := hl
  refine lv_iload_n hx hb dX8_isLetter_0 rfl (lv_at hl 0 rfl) ?_
  refine z_bipush hx hb dX8_isLetter_1 (by decide) ?_
  refine z_bipush hx hb dX8_isLetter_3 (by decide) ?_
  have hF9 := z_free (wc := ([] : va_W)) hw hA [] rfl
  refine va_calli (va_runS (As := [.int (zI c), .int (zI 97), .int (zI 122)]) (rest := []) ⟨hx, hb, hml, hown, hts⟩ (c_X8_isIn l D cI cB cZ s.heap.size c 97 122 (by omega) (by omega) (by omega)) (va_cwS 3 hts gX8_isLetter_X8_isIn rfl rfl rfl (by decide +kernel) ⟨Nat.le_of_ble_eq_true rfl, Nat.le_of_ble_eq_true rfl⟩) ⟨zPre_blind, z_pre hK hw [] (by decide) rfl⟩ rfl rfl hl.1 rfl (lv_room (Nat.le_of_ble_eq_true rfl)) dX8_isLetter_5 ⟨Nat.zero_le _, Nat.zero_le _⟩) hw.2.2 (fun q _ h => hF9 q h) hF9 (fun r9 u9 t9 H_1 locs9 ht9 hvm9 hq9 hB9 hz9 hk9 hS9 => ?_)
  obtain ⟨r_2, rfl⟩ : ∃ z, z = u9 := ⟨_, rfl⟩
  try dsimp only at hq9 hB9
  obtain ⟨rfl, hq9⟩ := hq9
  have hq_3 := hq9
  have hw : HW D A s.heap (([] : va_W)) H_1 locs9 := z_after (wc := ([] : va_W)) hw [] [] rfl rfl (by decide) (by decide) hF9 hk9 ht9 hB9 hS9 [] (by decide) rfl
  clear hF9 ht9 hvm9 hB9 hz9 hk9 hS9 hq9
  rcases hq_3 with ⟨hc_4, rfl⟩ | ⟨hc_4, rfl⟩
  · skip
    refine z_if_ne (tgt := 22) hx hb dX8_isLetter_8 (by decide) (by omega) (fun hc_5 => ?_) (fun hc_5 => absurd hc_5 (by omega))
    refine z_iconst hx hb dX8_isLetter_22 ?_
    refine lv_goto (tgt := 27) hx hb dX8_isLetter_23 (by decide) ?_
    have hv_6 : ((97 ≤ c ∧ c ≤ 122) ∨ (65 ≤ c ∧ c ≤ 90)) ∧ (1 : Int) = 1 ∨ ¬ ((97 ≤ c ∧ c ≤ 122) ∨ (65 ≤ c ∧ c ≤ 90)) ∧ (1 : Int) = 0 := by
      first | assumption | omega | grind
    exact W.zret (v := zI 1) hx hb hr rfl (fun t9 ht hW => ⟨⟨zI 1, 1, rfl, ⟨rfl, hv_6⟩, by subst hAe; exact z_end hK hw ht hW⟩, by subst hAe; exact hw.2.2.F ht⟩) (by subst hAe; exact hw.2.2.2.2) dX8_isLetter_27
  · skip
    refine z_if_ne (tgt := 22) hx hb dX8_isLetter_8 (by decide) (by omega) (fun hc_7 => absurd hc_7 (by omega)) (fun hc_7 => ?_)
    refine lv_iload_n hx hb dX8_isLetter_11 rfl (lv_at hl 0 rfl) ?_
    refine z_bipush hx hb dX8_isLetter_12 (by decide) ?_
    refine z_bipush hx hb dX8_isLetter_14 (by decide) ?_
    have hF9 := z_free (wc := ([] : va_W)) hw hA [] rfl
    refine va_calli (va_runS (As := [.int (zI c), .int (zI 65), .int (zI 90)]) (rest := []) ⟨hx, hb, hml, hown, hts⟩ (c_X8_isIn l D cI cB cZ H_1.size c 65 90 (by omega) (by omega) (by omega)) (va_cwS 3 hts gX8_isLetter_X8_isIn rfl rfl rfl (by decide +kernel) ⟨Nat.le_of_ble_eq_true rfl, Nat.le_of_ble_eq_true rfl⟩) ⟨zPre_blind, z_pre hK hw [] (by decide) rfl⟩ rfl rfl hl.1 rfl (lv_room (Nat.le_of_ble_eq_true rfl)) dX8_isLetter_16 ⟨Nat.zero_le _, Nat.zero_le _⟩) hw.2.2 (fun q _ h => hF9 q h) hF9 (fun r9 u9 t9 H_8 locs9 ht9 hvm9 hq9 hB9 hz9 hk9 hS9 => ?_)
    obtain ⟨r_9, rfl⟩ : ∃ z, z = u9 := ⟨_, rfl⟩
    try dsimp only at hq9 hB9
    obtain ⟨rfl, hq9⟩ := hq9
    have hq_10 := hq9
    have hw : HW D A s.heap (([] : va_W)) H_8 locs9 := z_after (wc := ([] : va_W)) hw [] [] rfl rfl (by decide) (by decide) hF9 hk9 ht9 hB9 hS9 [] (by decide) rfl
    clear hF9 ht9 hvm9 hB9 hz9 hk9 hS9 hq9
    rcases hq_10 with ⟨hc_11, rfl⟩ | ⟨hc_11, rfl⟩
    · skip
      refine z_if_eq (tgt := 26) hx hb dX8_isLetter_19 (by decide) (by omega) (fun hc_12 => absurd hc_12 (by omega)) (fun hc_12 => ?_)
      refine z_iconst hx hb dX8_isLetter_22 ?_
      refine lv_goto (tgt := 27) hx hb dX8_isLetter_23 (by decide) ?_
      have hv_13 : ((97 ≤ c ∧ c ≤ 122) ∨ (65 ≤ c ∧ c ≤ 90)) ∧ (1 : Int) = 1 ∨ ¬ ((97 ≤ c ∧ c ≤ 122) ∨ (65 ≤ c ∧ c ≤ 90)) ∧ (1 : Int) = 0 := by
        first | assumption | omega | grind
      exact W.zret (v := zI 1) hx hb hr rfl (fun t9 ht hW => ⟨⟨zI 1, 1, rfl, ⟨rfl, hv_13⟩, by subst hAe; exact z_end hK hw ht hW⟩, by subst hAe; exact hw.2.2.F ht⟩) (by subst hAe; exact hw.2.2.2.2) dX8_isLetter_27
    · skip
      refine z_if_eq (tgt := 26) hx hb dX8_isLetter_19 (by decide) (by omega) (fun hc_14 => ?_) (fun hc_14 => absurd hc_14 (by omega))
      refine z_iconst hx hb dX8_isLetter_26 ?_
      have hv_15 : ((97 ≤ c ∧ c ≤ 122) ∨ (65 ≤ c ∧ c ≤ 90)) ∧ (0 : Int) = 1 ∨ ¬ ((97 ≤ c ∧ c ≤ 122) ∨ (65 ≤ c ∧ c ≤ 90)) ∧ (0 : Int) = 0 := by
        first | assumption | omega | grind
      exact W.zret (v := zI 0) hx hb hr rfl (fun t9 ht hW => ⟨⟨zI 0, 0, rfl, ⟨rfl, hv_15⟩, by subst hAe; exact z_end hK hw ht hW⟩, by subst hAe; exact hw.2.2.F ht⟩) (by subst hAe; exact hw.2.2.2.2) dX8_isLetter_27
set_option maxRecDepth 100000 in
set_option maxHeartbeats 4000000 in
theorem c_X8_word (l : Launch) (D : va_G) (cI cB cZ : ClassId) (sz : Nat) (w : Int) (qw : 0 ≤ w ∧ w ≤ 281474976710656) : Met l yX8_word wsX8_word ({ frames := 0, cells := 0, slots := 0, locals := 0 }) (va_Pc [.long (zL w)] (zPre D cI cB cZ sz (([] : va_W)))) (va_Qi (fun (r9 : Int32) (u9 : Int) => r9 = zI u9 ∧ ((u9 = wordM w) ∧ (1 ≤ u9 ∧ u9 ≤ 15))) (fun u9 t9 => zAt D cI cB cZ (va_A (([] : va_W)) sz) (([] : va_W)) t9) (va_A (([] : va_W)) sz)) 0 0 (va_A (([] : va_W)) sz) := by
  refine Met.ofW (cc := cX8_word) (maxL := 2) (ret := (some .int)) (by decide) rfl ?_
  intro pp ee s mm aa bw mt cd s₁ BL hml hv
  obtain ⟨rfl, hsz, hP, hK, hD0⟩ := hv
  have hx := BL.exec
  have hb := BL.bytes
  have hr := BL.returns
  have hts := atoms_spec (ws := wsX8_word) BL.pre
  have hown : s.vm.findClass RX8 = some mm.cls := findClass_of_methodNamed BL.named
  have hlocks := BL.notSynchronized
  subst hsz
  generalize hAe : va_A (([] : va_W)) s.heap.size = A
  have hA : ∀ q : Nat, s.heap.size ≤ q → A q := fun q h => by rw [← hAe]; exact Or.inr h
  have hw : HW D A s.heap (([] : va_W)) s.heap [] := z_start hAe hP hD0
  clear hP hD0
  have hl := lv_entry ([.long (zL w)]) (n := 2) (Nat.le_of_ble_eq_true rfl)
  rw [lg_entry_eq]
  generalize (lg_sl ([.long (zL w)]) ++ List.replicate (2 - (lg_sl ([.long (zL w)])).length) Slot.unset).toArray = ls at hl ⊢
  have hl : lv_has ls 2 [(0, .long (zL w))] := hl
  refine lv_lload_n hx hb dX8_word_0 rfl (lv_at hl 0 rfl) ?_
  refine lv_ldc2 (v := zL 6709618) hx hb hown (hts (.constantLong RX8 98 (6709618)) (by decide +kernel)) dX8_word_1 ?_
  have hbit_1 : lg_cmp (zL w) (zL 6709618) = zI (cmpL w (6709618 : Int)) := by
    exact zL_cmp (by omega) (by omega)
  refine W.lcmp hx hb dX8_word_4 ?_
  rw [hbit_1]
  clear hbit_1
  have hq_2 : (w = (6709618 : Int) ∧ cmpL w (6709618 : Int) = 0) ∨ (¬ w = (6709618 : Int) ∧ (cmpL w (6709618 : Int) = 1 ∨ cmpL w (6709618 : Int) = -1)) := by
    exact cmpL_f
  refine z_if_ne (tgt := 11) hx hb dX8_word_5 (by decide) (by omega) (fun hc_3 => ?_) (fun hc_3 => ?_)
  · skip
    refine lv_lload_n hx hb dX8_word_11 rfl (lv_at hl 0 rfl) ?_
    refine lv_ldc2 (v := zL 418363302244) hx hb hown (hts (.constantLong RX8 100 (418363302244)) (by decide +kernel)) dX8_word_12 ?_
    have hbit_4 : lg_cmp (zL w) (zL 418363302244) = zI (cmpL w (418363302244 : Int)) := by
      exact zL_cmp (by omega) (by omega)
    refine W.lcmp hx hb dX8_word_15 ?_
    rw [hbit_4]
    clear hbit_4
    have hq_5 : (w = (418363302244 : Int) ∧ cmpL w (418363302244 : Int) = 0) ∨ (¬ w = (418363302244 : Int) ∧ (cmpL w (418363302244 : Int) = 1 ∨ cmpL w (418363302244 : Int) = -1)) := by
      exact cmpL_f
    refine z_if_ne (tgt := 22) hx hb dX8_word_16 (by decide) (by omega) (fun hc_6 => ?_) (fun hc_6 => ?_)
    · skip
      refine lv_lload_n hx hb dX8_word_22 rfl (lv_at hl 0 rfl) ?_
      refine lv_ldc2 (v := zL 439855772532) hx hb hown (hts (.constantLong RX8 102 (439855772532)) (by decide +kernel)) dX8_word_23 ?_
      have hbit_7 : lg_cmp (zL w) (zL 439855772532) = zI (cmpL w (439855772532 : Int)) := by
        exact zL_cmp (by omega) (by omega)
      refine W.lcmp hx hb dX8_word_26 ?_
      rw [hbit_7]
      clear hbit_7
      have hq_8 : (w = (439855772532 : Int) ∧ cmpL w (439855772532 : Int) = 0) ∨ (¬ w = (439855772532 : Int) ∧ (cmpL w (439855772532 : Int) = 1 ∨ cmpL w (439855772532 : Int) = -1)) := by
        exact cmpL_f
      refine z_if_ne (tgt := 33) hx hb dX8_word_27 (by decide) (by omega) (fun hc_9 => ?_) (fun hc_9 => ?_)
      · skip
        refine lv_lload_n hx hb dX8_word_33 rfl (lv_at hl 0 rfl) ?_
        refine lv_ldc2 (v := zL 1818325876) hx hb hown (hts (.constantLong RX8 104 (1818325876)) (by decide +kernel)) dX8_word_34 ?_
        have hbit_10 : lg_cmp (zL w) (zL 1818325876) = zI (cmpL w (1818325876 : Int)) := by
          exact zL_cmp (by omega) (by omega)
        refine W.lcmp hx hb dX8_word_37 ?_
        rw [hbit_10]
        clear hbit_10
        have hq_11 : (w = (1818325876 : Int) ∧ cmpL w (1818325876 : Int) = 0) ∨ (¬ w = (1818325876 : Int) ∧ (cmpL w (1818325876 : Int) = 1 ∨ cmpL w (1818325876 : Int) = -1)) := by
          exact cmpL_f
        refine z_if_ne (tgt := 44) hx hb dX8_word_38 (by decide) (by omega) (fun hc_12 => ?_) (fun hc_12 => ?_)
        · skip
          refine lv_lload_n hx hb dX8_word_44 rfl (lv_at hl 0 rfl) ?_
          refine lv_ldc2 (v := zL 1819243876) hx hb hown (hts (.constantLong RX8 106 (1819243876)) (by decide +kernel)) dX8_word_45 ?_
          have hbit_13 : lg_cmp (zL w) (zL 1819243876) = zI (cmpL w (1819243876 : Int)) := by
            exact zL_cmp (by omega) (by omega)
          refine W.lcmp hx hb dX8_word_48 ?_
          rw [hbit_13]
          clear hbit_13
          have hq_14 : (w = (1819243876 : Int) ∧ cmpL w (1819243876 : Int) = 0) ∨ (¬ w = (1819243876 : Int) ∧ (cmpL w (1819243876 : Int) = 1 ∨ cmpL w (1819243876 : Int) = -1)) := by
            exact cmpL_f
          refine z_if_ne (tgt := 55) hx hb dX8_word_49 (by decide) (by omega) (fun hc_15 => ?_) (fun hc_15 => ?_)
          · skip
            refine lv_lload_n hx hb dX8_word_55 rfl (lv_at hl 0 rfl) ?_
            refine lv_ldc2 (v := zL 1802071652) hx hb hown (hts (.constantLong RX8 108 (1802071652)) (by decide +kernel)) dX8_word_56 ?_
            have hbit_16 : lg_cmp (zL w) (zL 1802071652) = zI (cmpL w (1802071652 : Int)) := by
              exact zL_cmp (by omega) (by omega)
            refine W.lcmp hx hb dX8_word_59 ?_
            rw [hbit_16]
            clear hbit_16
            have hq_17 : (w = (1802071652 : Int) ∧ cmpL w (1802071652 : Int) = 0) ∨ (¬ w = (1802071652 : Int) ∧ (cmpL w (1802071652 : Int) = 1 ∨ cmpL w (1802071652 : Int) = -1)) := by
              exact cmpL_f
            refine z_if_ne (tgt := 67) hx hb dX8_word_60 (by decide) (by omega) (fun hc_18 => ?_) (fun hc_18 => ?_)
            · skip
              refine z_iconst hx hb dX8_word_67 ?_
              have hv_19 : (1 : Int) = wordM w := by
                first | omega | (unfold wordM; first | rw [if_pos (by omega)] | rw [if_neg (by omega), if_pos (by omega)] | rw [if_neg (by omega), if_neg (by omega), if_pos (by omega)] | rw [if_neg (by omega), if_neg (by omega), if_neg (by omega), if_pos (by omega)] | rw [if_neg (by omega), if_neg (by omega), if_neg (by omega), if_neg (by omega), if_pos (by omega)] | rw [if_neg (by omega), if_neg (by omega), if_neg (by omega), if_neg (by omega), if_neg (by omega), if_pos (by omega)] | rw [if_neg (by omega), if_neg (by omega), if_neg (by omega), if_neg (by omega), if_neg (by omega), if_neg (by omega)])
              have hv_20 : 1 ≤ (1 : Int) ∧ (1 : Int) ≤ 15 := by
                first | omega | (unfold wordM; first | rw [if_pos (by omega)] | rw [if_neg (by omega), if_pos (by omega)] | rw [if_neg (by omega), if_neg (by omega), if_pos (by omega)] | rw [if_neg (by omega), if_neg (by omega), if_neg (by omega), if_pos (by omega)] | rw [if_neg (by omega), if_neg (by omega), if_neg (by omega), if_neg (by omega), if_pos (by omega)] | rw [if_neg (by omega), if_neg (by omega), if_neg (by omega), if_neg (by omega), if_neg (by omega), if_pos (by omega)] | rw [if_neg (by omega), if_neg (by omega), if_neg (by omega), if_neg (by omega), if_neg (by omega), if_neg (by omega)])
              exact W.iret (v := zI 1) hx hb hr (fun t9 ht hW => ⟨⟨zI 1, 1, rfl, ⟨rfl, ⟨hv_19, hv_20⟩⟩, by subst hAe; exact z_end hK hw ht hW⟩, by subst hAe; exact hw.2.2.F ht⟩) (by subst hAe; exact hw.2.2.2.2) dX8_word_68
            · skip
              refine z_iconst hx hb dX8_word_63 ?_
              refine lv_goto (tgt := 68) hx hb dX8_word_64 (by decide) ?_
              have hv_21 : (4 : Int) = wordM w := by
                first | omega | (unfold wordM; first | rw [if_pos (by omega)] | rw [if_neg (by omega), if_pos (by omega)] | rw [if_neg (by omega), if_neg (by omega), if_pos (by omega)] | rw [if_neg (by omega), if_neg (by omega), if_neg (by omega), if_pos (by omega)] | rw [if_neg (by omega), if_neg (by omega), if_neg (by omega), if_neg (by omega), if_pos (by omega)] | rw [if_neg (by omega), if_neg (by omega), if_neg (by omega), if_neg (by omega), if_neg (by omega), if_pos (by omega)] | rw [if_neg (by omega), if_neg (by omega), if_neg (by omega), if_neg (by omega), if_neg (by omega), if_neg (by omega)])
              have hv_22 : 1 ≤ (4 : Int) ∧ (4 : Int) ≤ 15 := by
                first | omega | (unfold wordM; first | rw [if_pos (by omega)] | rw [if_neg (by omega), if_pos (by omega)] | rw [if_neg (by omega), if_neg (by omega), if_pos (by omega)] | rw [if_neg (by omega), if_neg (by omega), if_neg (by omega), if_pos (by omega)] | rw [if_neg (by omega), if_neg (by omega), if_neg (by omega), if_neg (by omega), if_pos (by omega)] | rw [if_neg (by omega), if_neg (by omega), if_neg (by omega), if_neg (by omega), if_neg (by omega), if_pos (by omega)] | rw [if_neg (by omega), if_neg (by omega), if_neg (by omega), if_neg (by omega), if_neg (by omega), if_neg (by omega)])
              exact W.iret (v := zI 4) hx hb hr (fun t9 ht hW => ⟨⟨zI 4, 4, rfl, ⟨rfl, ⟨hv_21, hv_22⟩⟩, by subst hAe; exact z_end hK hw ht hW⟩, by subst hAe; exact hw.2.2.F ht⟩) (by subst hAe; exact hw.2.2.2.2) dX8_word_68
          · skip
            refine z_bipush hx hb dX8_word_52 (by decide) ?_
            have hv_23 : (15 : Int) = wordM w := by
              first | omega | (unfold wordM; first | rw [if_pos (by omega)] | rw [if_neg (by omega), if_pos (by omega)] | rw [if_neg (by omega), if_neg (by omega), if_pos (by omega)] | rw [if_neg (by omega), if_neg (by omega), if_neg (by omega), if_pos (by omega)] | rw [if_neg (by omega), if_neg (by omega), if_neg (by omega), if_neg (by omega), if_pos (by omega)] | rw [if_neg (by omega), if_neg (by omega), if_neg (by omega), if_neg (by omega), if_neg (by omega), if_pos (by omega)] | rw [if_neg (by omega), if_neg (by omega), if_neg (by omega), if_neg (by omega), if_neg (by omega), if_neg (by omega)])
            have hv_24 : 1 ≤ (15 : Int) ∧ (15 : Int) ≤ 15 := by
              first | omega | (unfold wordM; first | rw [if_pos (by omega)] | rw [if_neg (by omega), if_pos (by omega)] | rw [if_neg (by omega), if_neg (by omega), if_pos (by omega)] | rw [if_neg (by omega), if_neg (by omega), if_neg (by omega), if_pos (by omega)] | rw [if_neg (by omega), if_neg (by omega), if_neg (by omega), if_neg (by omega), if_pos (by omega)] | rw [if_neg (by omega), if_neg (by omega), if_neg (by omega), if_neg (by omega), if_neg (by omega), if_pos (by omega)] | rw [if_neg (by omega), if_neg (by omega), if_neg (by omega), if_neg (by omega), if_neg (by omega), if_neg (by omega)])
            exact W.iret (v := zI 15) hx hb hr (fun t9 ht hW => ⟨⟨zI 15, 15, rfl, ⟨rfl, ⟨hv_23, hv_24⟩⟩, by subst hAe; exact z_end hK hw ht hW⟩, by subst hAe; exact hw.2.2.F ht⟩) (by subst hAe; exact hw.2.2.2.2) dX8_word_54
        · skip
          refine z_bipush hx hb dX8_word_41 (by decide) ?_
          have hv_25 : (14 : Int) = wordM w := by
            first | omega | (unfold wordM; first | rw [if_pos (by omega)] | rw [if_neg (by omega), if_pos (by omega)] | rw [if_neg (by omega), if_neg (by omega), if_pos (by omega)] | rw [if_neg (by omega), if_neg (by omega), if_neg (by omega), if_pos (by omega)] | rw [if_neg (by omega), if_neg (by omega), if_neg (by omega), if_neg (by omega), if_pos (by omega)] | rw [if_neg (by omega), if_neg (by omega), if_neg (by omega), if_neg (by omega), if_neg (by omega), if_pos (by omega)] | rw [if_neg (by omega), if_neg (by omega), if_neg (by omega), if_neg (by omega), if_neg (by omega), if_neg (by omega)])
          have hv_26 : 1 ≤ (14 : Int) ∧ (14 : Int) ≤ 15 := by
            first | omega | (unfold wordM; first | rw [if_pos (by omega)] | rw [if_neg (by omega), if_pos (by omega)] | rw [if_neg (by omega), if_neg (by omega), if_pos (by omega)] | rw [if_neg (by omega), if_neg (by omega), if_neg (by omega), if_pos (by omega)] | rw [if_neg (by omega), if_neg (by omega), if_neg (by omega), if_neg (by omega), if_pos (by omega)] | rw [if_neg (by omega), if_neg (by omega), if_neg (by omega), if_neg (by omega), if_neg (by omega), if_pos (by omega)] | rw [if_neg (by omega), if_neg (by omega), if_neg (by omega), if_neg (by omega), if_neg (by omega), if_neg (by omega)])
          exact W.iret (v := zI 14) hx hb hr (fun t9 ht hW => ⟨⟨zI 14, 14, rfl, ⟨rfl, ⟨hv_25, hv_26⟩⟩, by subst hAe; exact z_end hK hw ht hW⟩, by subst hAe; exact hw.2.2.F ht⟩) (by subst hAe; exact hw.2.2.2.2) dX8_word_43
      · skip
        refine z_bipush hx hb dX8_word_30 (by decide) ?_
        have hv_27 : (13 : Int) = wordM w := by
          first | omega | (unfold wordM; first | rw [if_pos (by omega)] | rw [if_neg (by omega), if_pos (by omega)] | rw [if_neg (by omega), if_neg (by omega), if_pos (by omega)] | rw [if_neg (by omega), if_neg (by omega), if_neg (by omega), if_pos (by omega)] | rw [if_neg (by omega), if_neg (by omega), if_neg (by omega), if_neg (by omega), if_pos (by omega)] | rw [if_neg (by omega), if_neg (by omega), if_neg (by omega), if_neg (by omega), if_neg (by omega), if_pos (by omega)] | rw [if_neg (by omega), if_neg (by omega), if_neg (by omega), if_neg (by omega), if_neg (by omega), if_neg (by omega)])
        have hv_28 : 1 ≤ (13 : Int) ∧ (13 : Int) ≤ 15 := by
          first | omega | (unfold wordM; first | rw [if_pos (by omega)] | rw [if_neg (by omega), if_pos (by omega)] | rw [if_neg (by omega), if_neg (by omega), if_pos (by omega)] | rw [if_neg (by omega), if_neg (by omega), if_neg (by omega), if_pos (by omega)] | rw [if_neg (by omega), if_neg (by omega), if_neg (by omega), if_neg (by omega), if_pos (by omega)] | rw [if_neg (by omega), if_neg (by omega), if_neg (by omega), if_neg (by omega), if_neg (by omega), if_pos (by omega)] | rw [if_neg (by omega), if_neg (by omega), if_neg (by omega), if_neg (by omega), if_neg (by omega), if_neg (by omega)])
        exact W.iret (v := zI 13) hx hb hr (fun t9 ht hW => ⟨⟨zI 13, 13, rfl, ⟨rfl, ⟨hv_27, hv_28⟩⟩, by subst hAe; exact z_end hK hw ht hW⟩, by subst hAe; exact hw.2.2.F ht⟩) (by subst hAe; exact hw.2.2.2.2) dX8_word_32
    · skip
      refine z_bipush hx hb dX8_word_19 (by decide) ?_
      have hv_29 : (12 : Int) = wordM w := by
        first | omega | (unfold wordM; first | rw [if_pos (by omega)] | rw [if_neg (by omega), if_pos (by omega)] | rw [if_neg (by omega), if_neg (by omega), if_pos (by omega)] | rw [if_neg (by omega), if_neg (by omega), if_neg (by omega), if_pos (by omega)] | rw [if_neg (by omega), if_neg (by omega), if_neg (by omega), if_neg (by omega), if_pos (by omega)] | rw [if_neg (by omega), if_neg (by omega), if_neg (by omega), if_neg (by omega), if_neg (by omega), if_pos (by omega)] | rw [if_neg (by omega), if_neg (by omega), if_neg (by omega), if_neg (by omega), if_neg (by omega), if_neg (by omega)])
      have hv_30 : 1 ≤ (12 : Int) ∧ (12 : Int) ≤ 15 := by
        first | omega | (unfold wordM; first | rw [if_pos (by omega)] | rw [if_neg (by omega), if_pos (by omega)] | rw [if_neg (by omega), if_neg (by omega), if_pos (by omega)] | rw [if_neg (by omega), if_neg (by omega), if_neg (by omega), if_pos (by omega)] | rw [if_neg (by omega), if_neg (by omega), if_neg (by omega), if_neg (by omega), if_pos (by omega)] | rw [if_neg (by omega), if_neg (by omega), if_neg (by omega), if_neg (by omega), if_neg (by omega), if_pos (by omega)] | rw [if_neg (by omega), if_neg (by omega), if_neg (by omega), if_neg (by omega), if_neg (by omega), if_neg (by omega)])
      exact W.iret (v := zI 12) hx hb hr (fun t9 ht hW => ⟨⟨zI 12, 12, rfl, ⟨rfl, ⟨hv_29, hv_30⟩⟩, by subst hAe; exact z_end hK hw ht hW⟩, by subst hAe; exact hw.2.2.F ht⟩) (by subst hAe; exact hw.2.2.2.2) dX8_word_21
  · skip
    refine z_bipush hx hb dX8_word_8 (by decide) ?_
    have hv_31 : (11 : Int) = wordM w := by
      first | omega | (unfold wordM; first | rw [if_pos (by omega)] | rw [if_neg (by omega), if_pos (by omega)] | rw [if_neg (by omega), if_neg (by omega), if_pos (by omega)] | rw [if_neg (by omega), if_neg (by omega), if_neg (by omega), if_pos (by omega)] | rw [if_neg (by omega), if_neg (by omega), if_neg (by omega), if_neg (by omega), if_pos (by omega)] | rw [if_neg (by omega), if_neg (by omega), if_neg (by omega), if_neg (by omega), if_neg (by omega), if_pos (by omega)] | rw [if_neg (by omega), if_neg (by omega), if_neg (by omega), if_neg (by omega), if_neg (by omega), if_neg (by omega)])
    have hv_32 : 1 ≤ (11 : Int) ∧ (11 : Int) ≤ 15 := by
      first | omega | (unfold wordM; first | rw [if_pos (by omega)] | rw [if_neg (by omega), if_pos (by omega)] | rw [if_neg (by omega), if_neg (by omega), if_pos (by omega)] | rw [if_neg (by omega), if_neg (by omega), if_neg (by omega), if_pos (by omega)] | rw [if_neg (by omega), if_neg (by omega), if_neg (by omega), if_neg (by omega), if_pos (by omega)] | rw [if_neg (by omega), if_neg (by omega), if_neg (by omega), if_neg (by omega), if_neg (by omega), if_pos (by omega)] | rw [if_neg (by omega), if_neg (by omega), if_neg (by omega), if_neg (by omega), if_neg (by omega), if_neg (by omega)])
    exact W.iret (v := zI 11) hx hb hr (fun t9 ht hW => ⟨⟨zI 11, 11, rfl, ⟨rfl, ⟨hv_31, hv_32⟩⟩, by subst hAe; exact z_end hK hw ht hW⟩, by subst hAe; exact hw.2.2.F ht⟩) (by subst hAe; exact hw.2.2.2.2) dX8_word_10
set_option maxRecDepth 100000 in
set_option maxHeartbeats 4000000 in
theorem c_X8_bad (l : Launch) (D : va_G) (cI cB cZ : ClassId) (oM : Nat → Nat) (sz : Nat) (Mthrown : Int) (Mmany : Int) (Mguest : Int → Int) (Mrow : Int → Int) (Mbars : Int) (Mbar : Int → Int) (Mfresh : Int → Int) (Mtape : Int → Int) (Mtaped : Int) (Mpos : Int) (Mtoken : Int) (MtokenAt : Int) (Mvalue : Int) (Mwrong : Int) (MwrongAt : Int) (MfaultKind : Int) (MfaultPlace : Int) (Mthing : Int) (Morder : Int → Int) (Mone : Int) (Mtwo : Int) (Mbest : Int → Int) (Mcells : Int) (Mgap : Int) (Mwire : Int → Int) (Mstand : Int → Int) (Mruns : Int) (Mminute : Int) (Mhead : Int → Int) (Mplays : Int → Int) (Mrests : Int → Int) (Mwent : Int → Int) (Mout : Int → Int) (Mcame : Int → Int) (Mgone : Int → Int) (MlastOut : Int) (k : Int) (qMthrown : 0 ≤ Mthrown ∧ Mthrown ≤ 2) (qMmany : 0 ≤ Mmany ∧ Mmany ≤ 8) (qMguest : RA Mguest (0) 9) (qMrow : RA Mrow (0) 7) (qMbars : 0 ≤ Mbars ∧ Mbars ≤ 10) (qMbar : RA Mbar (0) 104) (qMfresh : RA Mfresh (0) 104) (qMtape : RA Mtape (0) 255) (qMtaped : 0 ≤ Mtaped ∧ Mtaped ≤ 400) (qMpos : 0 ≤ Mpos ∧ Mpos ≤ 400) (qMtoken : 0 ≤ Mtoken ∧ Mtoken ≤ 15) (qMtokenAt : 0 ≤ MtokenAt ∧ MtokenAt ≤ 400) (qMvalue : 0 ≤ Mvalue ∧ Mvalue ≤ 99) (qMwrong : 0 ≤ Mwrong ∧ Mwrong ≤ 3) (qMwrongAt : 0 ≤ MwrongAt ∧ MwrongAt ≤ 400) (qMfaultKind : 0 ≤ MfaultKind ∧ MfaultKind ≤ 3) (qMfaultPlace : -1 ≤ MfaultPlace ∧ MfaultPlace ≤ 400) (qMthing : 0 ≤ Mthing ∧ Mthing ≤ 104) (qMorder : RA Morder (0) 7) (qMone : 0 ≤ Mone ∧ Mone ≤ 8) (qMtwo : 0 ≤ Mtwo ∧ Mtwo ≤ 8) (qMbest : RA Mbest (0) 7) (qMcells : 1 ≤ Mcells ∧ Mcells ≤ 50) (qMgap : 0 ≤ Mgap ∧ Mgap ≤ 3) (qMwire : RA Mwire (0) 9) (qMstand : RA Mstand (0) 9) (qMruns : 0 ≤ Mruns ∧ Mruns ≤ 1) (qMminute : 0 ≤ Mminute ∧ Mminute ≤ 1000000) (qMhead : RA Mhead (-1) 60) (qMplays : RA Mplays (0) 18) (qMrests : RA Mrests (0) 3) (qMwent : RA Mwent (0) 61) (qMout : RA Mout (0) 1) (qMcame : RA Mcame (-1) 1000000) (qMgone : RA Mgone (-1) 1000000) (qMlastOut : 0 ≤ MlastOut ∧ MlastOut ≤ 1000000) (qk : 1 ≤ k ∧ k ≤ 3) : Met l yX8_bad wsX8_bad ({ frames := 0, cells := 0, slots := 0, locals := 0 }) (va_Pc [.ref (oM 0), .int (zI k)] (zPre D cI cB cZ sz (kM cI cB cZ oM Mthrown Mmany Mguest Mrow Mbars Mbar Mfresh Mtape Mtaped Mpos Mtoken MtokenAt Mvalue Mwrong MwrongAt MfaultKind MfaultPlace Mthing Morder Mone Mtwo Mbest Mcells Mgap Mwire Mstand Mruns Mminute Mhead Mplays Mrests Mwent Mout Mcame Mgone MlastOut))) (va_Qi (fun (r9 : Int32) (u9 : Int × Int × Int) => r9 = zI u9.1 ∧ (((0 : Int) ≤ u9.2.1 ∧ u9.2.1 ≤ 3) ∧ ((0 : Int) ≤ u9.2.2 ∧ u9.2.2 ≤ 400) ∧ (u9.1 = 0) ∧ (u9.2.1 = k) ∧ (u9.2.2 = MtokenAt))) (fun u9 t9 => zAt D cI cB cZ (va_A (kM cI cB cZ oM Mthrown Mmany Mguest Mrow Mbars Mbar Mfresh Mtape Mtaped Mpos Mtoken MtokenAt Mvalue Mwrong MwrongAt MfaultKind MfaultPlace Mthing Morder Mone Mtwo Mbest Mcells Mgap Mwire Mstand Mruns Mminute Mhead Mplays Mrests Mwent Mout Mcame Mgone MlastOut) sz) (kM cI cB cZ oM Mthrown Mmany Mguest Mrow Mbars Mbar Mfresh Mtape Mtaped Mpos Mtoken MtokenAt Mvalue (u9.2.1) (u9.2.2) MfaultKind MfaultPlace Mthing Morder Mone Mtwo Mbest Mcells Mgap Mwire Mstand Mruns Mminute Mhead Mplays Mrests Mwent Mout Mcame Mgone MlastOut) t9) (va_A (kM cI cB cZ oM Mthrown Mmany Mguest Mrow Mbars Mbar Mfresh Mtape Mtaped Mpos Mtoken MtokenAt Mvalue Mwrong MwrongAt MfaultKind MfaultPlace Mthing Morder Mone Mtwo Mbest Mcells Mgap Mwire Mstand Mruns Mminute Mhead Mplays Mrests Mwent Mout Mcame Mgone MlastOut) sz)) 0 0 (va_A (kM cI cB cZ oM Mthrown Mmany Mguest Mrow Mbars Mbar Mfresh Mtape Mtaped Mpos Mtoken MtokenAt Mvalue Mwrong MwrongAt MfaultKind MfaultPlace Mthing Morder Mone Mtwo Mbest Mcells Mgap Mwire Mstand Mruns Mminute Mhead Mplays Mrests Mwent Mout Mcame Mgone MlastOut) sz) := by
  refine Met.ofW (cc := cX8_bad) (maxL := 2) (ret := (some .boolean)) (by decide) rfl ?_
  intro pp ee s mm aa bw mt cd s₁ BL hml hv
  obtain ⟨rfl, hsz, hP, hK, hD0⟩ := hv
  have hx := BL.exec
  have hb := BL.bytes
  have hr := BL.returns
  have hts := atoms_spec (ws := wsX8_bad) BL.pre
  have hown : s.vm.findClass RX8 = some mm.cls := findClass_of_methodNamed BL.named
  have hlocks := BL.notSynchronized
  subst hsz
  generalize hAe : va_A (kM cI cB cZ oM Mthrown Mmany Mguest Mrow Mbars Mbar Mfresh Mtape Mtaped Mpos Mtoken MtokenAt Mvalue Mwrong MwrongAt MfaultKind MfaultPlace Mthing Morder Mone Mtwo Mbest Mcells Mgap Mwire Mstand Mruns Mminute Mhead Mplays Mrests Mwent Mout Mcame Mgone MlastOut) s.heap.size = A
  have hA : ∀ q : Nat, s.heap.size ≤ q → A q := fun q h => by rw [← hAe]; exact Or.inr h
  have hw : HW D A s.heap (kM cI cB cZ oM Mthrown Mmany Mguest Mrow Mbars Mbar Mfresh Mtape Mtaped Mpos Mtoken MtokenAt Mvalue Mwrong MwrongAt MfaultKind MfaultPlace Mthing Morder Mone Mtwo Mbest Mcells Mgap Mwire Mstand Mruns Mminute Mhead Mplays Mrests Mwent Mout Mcame Mgone MlastOut) s.heap [] := z_start hAe hP hD0
  clear hP hD0
  have hl := lv_entry ([.ref (oM 0), .int (zI k)]) (n := 2) (Nat.le_of_ble_eq_true rfl)
  rw [lg_entry_eq]
  generalize (lg_sl ([.ref (oM 0), .int (zI k)]) ++ List.replicate (2 - (lg_sl ([.ref (oM 0), .int (zI k)])).length) Slot.unset).toArray = ls at hl ⊢
  have hl : lv_has ls 2 [(0, .ref (oM 0)), (1, .int (zI k))] := hl
  have hinX8 : ∀ w ∈ wsX80, w ∈ wsX8_bad := by decide +kernel
  refine lv_aload_n hx hb dX8_bad_0 rfl (lv_at hl 0 rfl) ?_
  refine lv_iload_n hx hb dX8_bad_1 rfl (lv_at hl 1 rfl) ?_
  refine z_put (D := D) (ci := 8) (v := .int (zI k)) (ty := .int) (C := RX8) (T := TX8) (N := 36) (ws2 := kM cI cB cZ oM Mthrown Mmany Mguest Mrow Mbars Mbar Mfresh Mtape Mtaped Mpos Mtoken MtokenAt Mvalue k MwrongAt MfaultKind MfaultPlace Mthing Morder Mone Mtwo Mbest Mcells Mgap Mwire Mstand Mruns Mminute Mhead Mplays Mrests Mwent Mout Mcame Mgone MlastOut) hx hb hts hinX8 tyX8 tyX8_ok nmX8 hown hK hw 0 rfl rfl 13 (by decide) (hts (.fieldLink RX8 133 "CarnivalRoadModel" "wrong" "I") (by decide +kernel)) (fun _ h9 => h9) rfl (by decide +kernel) rfl rfl (Nat.le_of_ble_eq_true rfl) dX8_bad_2 rfl (fun H locs hw => ?_)
  refine lv_aload_n hx hb dX8_bad_5 rfl (lv_at hl 0 rfl) ?_
  refine lv_aload_n hx hb dX8_bad_6 rfl (lv_at hl 0 rfl) ?_
  refine va_get (D := D) (ci := 8) (v := .int (zI MtokenAt)) (C := RX8) (T := TX8) (N := 36) hx hb hts hinX8 hown hK hw.1 0 rfl rfl 11 (by decide) (hts (.fieldLink RX8 117 "CarnivalRoadModel" "tokenAt" "I") (by decide +kernel)) (fun _ h9 => h9) rfl dX8_bad_7 ?_
  refine z_put (D := D) (ci := 8) (v := .int (zI MtokenAt)) (ty := .int) (C := RX8) (T := TX8) (N := 36) (ws2 := kM cI cB cZ oM Mthrown Mmany Mguest Mrow Mbars Mbar Mfresh Mtape Mtaped Mpos Mtoken MtokenAt Mvalue k MtokenAt MfaultKind MfaultPlace Mthing Morder Mone Mtwo Mbest Mcells Mgap Mwire Mstand Mruns Mminute Mhead Mplays Mrests Mwent Mout Mcame Mgone MlastOut) hx hb hts hinX8 tyX8 tyX8_ok nmX8 hown hK hw 0 rfl rfl 14 (by decide) (hts (.fieldLink RX8 136 "CarnivalRoadModel" "wrongAt" "I") (by decide +kernel)) (fun _ h9 => h9) rfl (by decide +kernel) rfl rfl (Nat.le_of_ble_eq_true rfl) dX8_bad_10 rfl (fun H locs hw => ?_)
  refine z_iconst hx hb dX8_bad_13 ?_
  have hv_1 : (0 : Int) ≤ k ∧ k ≤ 3 := by
    first | rfl | omega
  have hv_2 : (0 : Int) ≤ MtokenAt ∧ MtokenAt ≤ 400 := by
    first | rfl | omega
  have hv_3 : (0 : Int) = 0 := by
    first | rfl | omega
  have hv_4 : k = k := by
    first | rfl | omega
  have hv_5 : MtokenAt = MtokenAt := by
    first | rfl | omega
  exact W.zret (v := zI 0) hx hb hr rfl (fun t9 ht hW => ⟨⟨zI 0, (0, k, MtokenAt), rfl, ⟨rfl, ⟨hv_1, hv_2, hv_3, hv_4, hv_5⟩⟩, by subst hAe; exact z_end hK hw ht hW⟩, by subst hAe; exact hw.2.2.F ht⟩) (by subst hAe; exact hw.2.2.2.2) dX8_bad_14
set_option maxRecDepth 100000 in
set_option maxHeartbeats 4000000 in
theorem c_X8_look0 (l : Launch) (D : va_G) (cI cB cZ : ClassId) (oM : Nat → Nat) (sz : Nat) (Mthrown : Int) (Mmany : Int) (Mguest : Int → Int) (Mrow : Int → Int) (Mbars : Int) (Mbar : Int → Int) (Mfresh : Int → Int) (Mtape : Int → Int) (Mtaped : Int) (Mpos : Int) (Mtoken : Int) (MtokenAt : Int) (Mvalue : Int) (Mwrong : Int) (MwrongAt : Int) (MfaultKind : Int) (MfaultPlace : Int) (Mthing : Int) (Morder : Int → Int) (Mone : Int) (Mtwo : Int) (Mbest : Int → Int) (Mcells : Int) (Mgap : Int) (Mwire : Int → Int) (Mstand : Int → Int) (Mruns : Int) (Mminute : Int) (Mhead : Int → Int) (Mplays : Int → Int) (Mrests : Int → Int) (Mwent : Int → Int) (Mout : Int → Int) (Mcame : Int → Int) (Mgone : Int → Int) (MlastOut : Int) (f : Int → Int) (q : QS) (qMthrown : 0 ≤ Mthrown ∧ Mthrown ≤ 2) (qMmany : 0 ≤ Mmany ∧ Mmany ≤ 8) (qMguest : RA Mguest (0) 9) (qMrow : RA Mrow (0) 7) (qMbars : 0 ≤ Mbars ∧ Mbars ≤ 10) (qMbar : RA Mbar (0) 104) (qMfresh : RA Mfresh (0) 104) (qMtape : RA Mtape (0) 255) (qMtaped : 0 ≤ Mtaped ∧ Mtaped ≤ 400) (qMpos : 0 ≤ Mpos ∧ Mpos ≤ 400) (qMtoken : 0 ≤ Mtoken ∧ Mtoken ≤ 15) (qMtokenAt : 0 ≤ MtokenAt ∧ MtokenAt ≤ 400) (qMvalue : 0 ≤ Mvalue ∧ Mvalue ≤ 99) (qMwrong : 0 ≤ Mwrong ∧ Mwrong ≤ 3) (qMwrongAt : 0 ≤ MwrongAt ∧ MwrongAt ≤ 400) (qMfaultKind : 0 ≤ MfaultKind ∧ MfaultKind ≤ 3) (qMfaultPlace : -1 ≤ MfaultPlace ∧ MfaultPlace ≤ 400) (qMthing : 0 ≤ Mthing ∧ Mthing ≤ 104) (qMorder : RA Morder (0) 7) (qMone : 0 ≤ Mone ∧ Mone ≤ 8) (qMtwo : 0 ≤ Mtwo ∧ Mtwo ≤ 8) (qMbest : RA Mbest (0) 7) (qMcells : 1 ≤ Mcells ∧ Mcells ≤ 50) (qMgap : 0 ≤ Mgap ∧ Mgap ≤ 3) (qMwire : RA Mwire (0) 9) (qMstand : RA Mstand (0) 9) (qMruns : 0 ≤ Mruns ∧ Mruns ≤ 1) (qMminute : 0 ≤ Mminute ∧ Mminute ≤ 1000000) (qMhead : RA Mhead (-1) 60) (qMplays : RA Mplays (0) 18) (qMrests : RA Mrests (0) 3) (qMwent : RA Mwent (0) 61) (qMout : RA Mout (0) 1) (qMcame : RA Mcame (-1) 1000000) (qMgone : RA Mgone (-1) 1000000) (qMlastOut : 0 ≤ MlastOut ∧ MlastOut ≤ 1000000) (hp0 : tpR Mtaped f Mtape) (hp1 : qM q Mwrong MwrongAt Mtoken MtokenAt Mpos Mvalue) (hp2 : Mpos ≤ Mtaped) : Met l yX8_look0 wsX8_look0 ({ frames := 2, cells := 0, slots := 0, locals := 42 }) (va_Pc [.ref (oM 0)] (zPre D cI cB cZ sz (kM cI cB cZ oM Mthrown Mmany Mguest Mrow Mbars Mbar Mfresh Mtape Mtaped Mpos Mtoken MtokenAt Mvalue Mwrong MwrongAt MfaultKind MfaultPlace Mthing Morder Mone Mtwo Mbest Mcells Mgap Mwire Mstand Mruns Mminute Mhead Mplays Mrests Mwent Mout Mcame Mgone MlastOut))) (va_Qv (fun (u9 : Int × Int × Int × Int) => ((0 : Int) ≤ u9.1 ∧ u9.1 ≤ 400) ∧ ((0 : Int) ≤ u9.2.1 ∧ u9.2.1 ≤ 15) ∧ ((0 : Int) ≤ u9.2.2.1 ∧ u9.2.2.1 ≤ 400) ∧ ((0 : Int) ≤ u9.2.2.2 ∧ u9.2.2.2 ≤ 99) ∧ (qM (goF f Mtaped q) Mwrong MwrongAt u9.2.1 u9.2.2.1 u9.1 u9.2.2.2) ∧ (u9.1 ≤ Mtaped)) (fun u9 t9 => zAt D cI cB cZ (va_A (kM cI cB cZ oM Mthrown Mmany Mguest Mrow Mbars Mbar Mfresh Mtape Mtaped Mpos Mtoken MtokenAt Mvalue Mwrong MwrongAt MfaultKind MfaultPlace Mthing Morder Mone Mtwo Mbest Mcells Mgap Mwire Mstand Mruns Mminute Mhead Mplays Mrests Mwent Mout Mcame Mgone MlastOut) sz) (kM cI cB cZ oM Mthrown Mmany Mguest Mrow Mbars Mbar Mfresh Mtape Mtaped (u9.1) (u9.2.1) (u9.2.2.1) (u9.2.2.2) Mwrong MwrongAt MfaultKind MfaultPlace Mthing Morder Mone Mtwo Mbest Mcells Mgap Mwire Mstand Mruns Mminute Mhead Mplays Mrests Mwent Mout Mcame Mgone MlastOut) t9) (va_A (kM cI cB cZ oM Mthrown Mmany Mguest Mrow Mbars Mbar Mfresh Mtape Mtaped Mpos Mtoken MtokenAt Mvalue Mwrong MwrongAt MfaultKind MfaultPlace Mthing Morder Mone Mtwo Mbest Mcells Mgap Mwire Mstand Mruns Mminute Mhead Mplays Mrests Mwent Mout Mcame Mgone MlastOut) sz)) 0 0 (va_A (kM cI cB cZ oM Mthrown Mmany Mguest Mrow Mbars Mbar Mfresh Mtape Mtaped Mpos Mtoken MtokenAt Mvalue Mwrong MwrongAt MfaultKind MfaultPlace Mthing Morder Mone Mtwo Mbest Mcells Mgap Mwire Mstand Mruns Mminute Mhead Mplays Mrests Mwent Mout Mcame Mgone MlastOut) sz) := by
  refine Met.ofW (cc := cX8_look0) (maxL := 5) (ret := none) (by decide) rfl ?_
  intro pp ee s mm aa bw mt cd s₁ BL hml hv
  obtain ⟨rfl, hsz, hP, hK, hD0⟩ := hv
  have hx := BL.exec
  have hb := BL.bytes
  have hr := BL.returns
  have hts := atoms_spec (ws := wsX8_look0) BL.pre
  have hown : s.vm.findClass RX8 = some mm.cls := findClass_of_methodNamed BL.named
  have hlocks := BL.notSynchronized
  subst hsz
  generalize hAe : va_A (kM cI cB cZ oM Mthrown Mmany Mguest Mrow Mbars Mbar Mfresh Mtape Mtaped Mpos Mtoken MtokenAt Mvalue Mwrong MwrongAt MfaultKind MfaultPlace Mthing Morder Mone Mtwo Mbest Mcells Mgap Mwire Mstand Mruns Mminute Mhead Mplays Mrests Mwent Mout Mcame Mgone MlastOut) s.heap.size = A
  have hA : ∀ q : Nat, s.heap.size ≤ q → A q := fun q h => by rw [← hAe]; exact Or.inr h
  have hw : HW D A s.heap (kM cI cB cZ oM Mthrown Mmany Mguest Mrow Mbars Mbar Mfresh Mtape Mtaped Mpos Mtoken MtokenAt Mvalue Mwrong MwrongAt MfaultKind MfaultPlace Mthing Morder Mone Mtwo Mbest Mcells Mgap Mwire Mstand Mruns Mminute Mhead Mplays Mrests Mwent Mout Mcame Mgone MlastOut) s.heap [] := z_start hAe hP hD0
  clear hP hD0
  have hl := lv_entry ([.ref (oM 0)]) (n := 5) (Nat.le_of_ble_eq_true rfl)
  rw [lg_entry_eq]
  generalize (lg_sl ([.ref (oM 0)]) ++ List.replicate (5 - (lg_sl ([.ref (oM 0)])).length) Slot.unset).toArray = ls at hl ⊢
  have hl : lv_has ls 5 [(0, .ref (oM 0))] := hl
  have hinX8 : ∀ w ∈ wsX80, w ∈ wsX8_look0 := by decide +kernel
  refine z_cut (σ := Int) 39 (I := fun x9 H locs ls => ((0 : Int) ≤ x9 ∧ x9 ≤ 400) ∧ (Mpos ≤ x9 ∧ x9 ≤ Mtaped) ∧ (scanL blkP f Mtaped Mpos = x9) ∧ HW D A s.heap (kM cI cB cZ oM Mthrown Mmany Mguest Mrow Mbars Mbar Mfresh Mtape Mtaped x9 Mtoken MtokenAt Mvalue Mwrong MwrongAt MfaultKind MfaultPlace Mthing Morder Mone Mtwo Mbest Mcells Mgap Mwire Mstand Mruns Mminute Mhead Mplays Mrests Mwent Mout Mcame Mgone MlastOut) H locs ∧ lv_has ls 5 [(0, .ref (oM 0))]) (st := fun x9 => []) ?_ (fun hj_1 => ?_)
  · clear hw hl
    intro Mpos_2 H locs ls hI
    try dsimp only at hI ⊢
    obtain ⟨hq_3, hI_4, hI_5, hw, hl⟩ := hI
    refine lv_aload_n hx hb dX8_look0_39 rfl (lv_at hl 0 rfl) ?_
    refine lv_aload_n hx hb dX8_look0_40 rfl (lv_at hl 0 rfl) ?_
    refine va_get (D := D) (ci := 8) (v := .int (zI Mpos_2)) (C := RX8) (T := TX8) (N := 36) hx hb hts hinX8 hown hK hw.1 0 rfl rfl 9 (by decide) (hts (.fieldLink RX8 110 "CarnivalRoadModel" "at" "I") (by decide +kernel)) (fun _ h9 => h9) rfl dX8_look0_41 ?_
    refine z_put (D := D) (ci := 8) (v := .int (zI Mpos_2)) (ty := .int) (C := RX8) (T := TX8) (N := 36) (ws2 := kM cI cB cZ oM Mthrown Mmany Mguest Mrow Mbars Mbar Mfresh Mtape Mtaped Mpos_2 Mtoken Mpos_2 Mvalue Mwrong MwrongAt MfaultKind MfaultPlace Mthing Morder Mone Mtwo Mbest Mcells Mgap Mwire Mstand Mruns Mminute Mhead Mplays Mrests Mwent Mout Mcame Mgone MlastOut) hx hb hts hinX8 tyX8 tyX8_ok nmX8 hown hK hw 0 rfl rfl 11 (by decide) (hts (.fieldLink RX8 117 "CarnivalRoadModel" "tokenAt" "I") (by decide +kernel)) (fun _ h9 => h9) rfl (by decide +kernel) rfl rfl (Nat.le_of_ble_eq_true rfl) dX8_look0_44 rfl (fun H locs hw => ?_)
    refine lv_aload_n hx hb dX8_look0_47 rfl (lv_at hl 0 rfl) ?_
    refine lv_aload_n hx hb dX8_look0_48 rfl (lv_at hl 0 rfl) ?_
    refine va_get (D := D) (ci := 8) (v := .int (zI Mpos_2)) (C := RX8) (T := TX8) (N := 36) hx hb hts hinX8 hown hK hw.1 0 rfl rfl 9 (by decide) (hts (.fieldLink RX8 110 "CarnivalRoadModel" "at" "I") (by decide +kernel)) (fun _ h9 => h9) rfl dX8_look0_49 ?_
    have hF9 := z_free (wc := kM cI cB cZ oM Mthrown Mmany Mguest Mrow Mbars Mbar Mfresh Mtape Mtaped Mpos_2 Mtoken Mpos_2 Mvalue Mwrong MwrongAt MfaultKind MfaultPlace Mthing Morder Mone Mtwo Mbest Mcells Mgap Mwire Mstand Mruns Mminute Mhead Mplays Mrests Mwent Mout Mcame Mgone MlastOut) hw hA [0, 1, 2, 3, 4, 5, 6, 7, 8, 9, 10, 11, 12, 13, 14, 15, 16] rfl
    refine va_calli (va_runV (As := [.int (zI Mpos_2)]) (rest := []) ⟨hx, hb, hml, hown, hts⟩ (c_X8_see l D cI cB cZ oM H.size Mthrown Mmany Mguest Mrow Mbars Mbar Mfresh Mtape Mtaped Mpos_2 Mtoken Mpos_2 Mvalue Mwrong MwrongAt MfaultKind MfaultPlace Mthing Morder Mone Mtwo Mbest Mcells Mgap Mwire Mstand Mruns Mminute Mhead Mplays Mrests Mwent Mout Mcame Mgone MlastOut Mpos_2 (by omega) (by omega) qMguest qMrow (by omega) qMbar qMfresh qMtape (by omega) (by omega) (by omega) (by omega) (by omega) (by omega) (by omega) (by omega) (by omega) (by omega) qMorder (by omega) (by omega) qMbest (by omega) (by omega) qMwire qMstand (by omega) (by omega) qMhead qMplays qMrests qMwent qMout qMcame qMgone (by omega) (by omega)) (cwV 1 hts gX8_look0_X8_see rfl rfl rfl (by decide +kernel) ⟨Nat.le_of_ble_eq_true rfl, Nat.le_of_ble_eq_true rfl⟩) ⟨zPre_blind, va_recv hK hw.1 (ci := 8) (q0 := 0) rfl rfl, z_pre hK hw [0, 1, 2, 3, 4, 5, 6, 7, 8, 9, 10, 11, 12, 13, 14, 15, 16] (by decide) rfl⟩ rfl rfl hl.1 rfl (lv_room (Nat.le_of_ble_eq_true rfl)) dX8_look0_52 ⟨Nat.zero_le _, Nat.zero_le _⟩) hw.2.2 (fun q _ h => hF9 q h) hF9 (fun r9 u9 t9 H_6 locs9 ht9 hvm9 hq9 hB9 hz9 hk9 hS9 => ?_)
    obtain ⟨r_7, rfl⟩ : ∃ z, z = u9 := ⟨_, rfl⟩
    try dsimp only at hq9 hB9
    obtain ⟨rfl, hq9⟩ := hq9
    obtain ⟨hq_8, hq_9⟩ := hq9
    have hw : HW D A s.heap (kM cI cB cZ oM Mthrown Mmany Mguest Mrow Mbars Mbar Mfresh Mtape Mtaped Mpos_2 Mtoken Mpos_2 Mvalue Mwrong MwrongAt MfaultKind MfaultPlace Mthing Morder Mone Mtwo Mbest Mcells Mgap Mwire Mstand Mruns Mminute Mhead Mplays Mrests Mwent Mout Mcame Mgone MlastOut) H_6 locs9 := z_after (wc := kM cI cB cZ oM Mthrown Mmany Mguest Mrow Mbars Mbar Mfresh Mtape Mtaped Mpos_2 Mtoken Mpos_2 Mvalue Mwrong MwrongAt MfaultKind MfaultPlace Mthing Morder Mone Mtwo Mbest Mcells Mgap Mwire Mstand Mruns Mminute Mhead Mplays Mrests Mwent Mout Mcame Mgone MlastOut) hw [0, 1, 2, 3, 4, 5, 6, 7, 8, 9, 10, 11, 12, 13, 14, 15, 16] [] rfl rfl (by decide) (by decide) hF9 hk9 ht9 hB9 hS9 [0, 1, 2, 3, 4, 5, 6, 7, 8, 9, 10, 11, 12, 13, 14, 15, 16] (by decide) rfl
    clear hF9 ht9 hvm9 hB9 hz9 hk9 hS9
    refine lv_istore_n (lv' := [(1, .int (zI r_7)), (0, .ref (oM 0))]) hx hb dX8_look0_55 rfl hl (by decide) rfl (fun ls hl => ?_)
    refine lv_aload_n hx hb dX8_look0_56 rfl (lv_at hl 1 rfl) ?_
    refine z_iconst hx hb dX8_look0_57 ?_
    refine z_put (D := D) (ci := 8) (v := .int (zI 1)) (ty := .int) (C := RX8) (T := TX8) (N := 36) (ws2 := kM cI cB cZ oM Mthrown Mmany Mguest Mrow Mbars Mbar Mfresh Mtape Mtaped Mpos_2 1 Mpos_2 Mvalue Mwrong MwrongAt MfaultKind MfaultPlace Mthing Morder Mone Mtwo Mbest Mcells Mgap Mwire Mstand Mruns Mminute Mhead Mplays Mrests Mwent Mout Mcame Mgone MlastOut) hx hb hts hinX8 tyX8 tyX8_ok nmX8 hown hK hw 0 rfl rfl 10 (by decide) (hts (.fieldLink RX8 120 "CarnivalRoadModel" "token" "I") (by decide +kernel)) (fun _ h9 => h9) rfl (by decide +kernel) rfl rfl (Nat.le_of_ble_eq_true rfl) dX8_look0_58 rfl (fun H locs hw => ?_)
    refine z_iconst hx hb dX8_look0_61 ?_
    refine lv_istore_n (lv' := [(2, .int (zI 0)), (1, .int (zI r_7)), (0, .ref (oM 0))]) hx hb dX8_look0_62 rfl hl (by decide) rfl (fun ls hl => ?_)
    refine lv_iload_n hx hb dX8_look0_63 rfl (lv_at hl 1 rfl) ?_
    refine z_iconst hx hb dX8_look0_64 ?_
    refine z_icmp_ne (tgt := 76) hx hb dX8_look0_65 (by decide) (by omega) (fun hc_10 => ?_) (fun hc_10 => ?_)
    · skip
      refine lv_iload_n hx hb dX8_look0_76 rfl (lv_at hl 1 rfl) ?_
      have hF9 := z_free (wc := ([] : va_W)) hw hA [] rfl
      refine va_calli (va_runS (As := [.int (zI r_7)]) (rest := []) ⟨hx, hb, hml, hown, hts⟩ (c_X8_isLetter l D cI cB cZ H.size r_7 (by omega)) (va_cwS 1 hts gX8_look0_X8_isLetter rfl rfl rfl (by decide +kernel) ⟨Nat.le_of_ble_eq_true rfl, Nat.le_of_ble_eq_true rfl⟩) ⟨zPre_blind, z_pre hK hw [] (by decide) rfl⟩ rfl rfl hl.1 rfl (lv_room (Nat.le_of_ble_eq_true rfl)) dX8_look0_77 ⟨Nat.zero_le _, Nat.zero_le _⟩) hw.2.2 (fun q _ h => hF9 q h) hF9 (fun r9 u9 t9 H_11 locs9 ht9 hvm9 hq9 hB9 hz9 hk9 hS9 => ?_)
      obtain ⟨r_12, rfl⟩ : ∃ z, z = u9 := ⟨_, rfl⟩
      try dsimp only at hq9 hB9
      obtain ⟨rfl, hq9⟩ := hq9
      have hq_13 := hq9
      have hw : HW D A s.heap (kM cI cB cZ oM Mthrown Mmany Mguest Mrow Mbars Mbar Mfresh Mtape Mtaped Mpos_2 1 Mpos_2 Mvalue Mwrong MwrongAt MfaultKind MfaultPlace Mthing Morder Mone Mtwo Mbest Mcells Mgap Mwire Mstand Mruns Mminute Mhead Mplays Mrests Mwent Mout Mcame Mgone MlastOut) H_11 locs9 := z_after (wc := ([] : va_W)) hw [] [0, 1, 2, 3, 4, 5, 6, 7, 8, 9, 10, 11, 12, 13, 14, 15, 16] rfl rfl (by decide) (by decide) hF9 hk9 ht9 hB9 hS9 [0, 1, 2, 3, 4, 5, 6, 7, 8, 9, 10, 11, 12, 13, 14, 15, 16] (by decide) rfl
      clear hF9 ht9 hvm9 hB9 hz9 hk9 hS9 hq9
      rcases hq_13 with ⟨hc_14, rfl⟩ | ⟨hc_14, rfl⟩
      · skip
        refine z_if_eq (tgt := 157) hx hb dX8_look0_80 (by decide) (by omega) (fun hc_15 => absurd hc_15 (by omega)) (fun hc_15 => ?_)
        refine lv_lconst (v := zL 0) hx hb dX8_look0_83 (by decide) ?_
        refine lv_lstore_n (lv' := [(3, .long (zL 0)), (2, .int (zI 0)), (1, .int (zI r_7)), (0, .ref (oM 0))]) hx hb dX8_look0_84 rfl hl (by decide) rfl (fun ls hl => ?_)
        have hv_16 : (0 : Int) ≤ Mpos_2 ∧ Mpos_2 ≤ 400 := by
          first | assumption | omega | grind
        have hv_17 : Mpos_2 ≤ Mpos_2 ∧ Mpos_2 ≤ Mtaped := by
          first | assumption | omega | grind
        have hv_18 : (0 : Int) = Mpos_2 - Mpos_2 := by
          first | assumption | omega | grind
        have hv_19 : scanL letP f Mtaped Mpos_2 = scanL letP f Mtaped Mpos_2 := by
          rfl
        have hv_20 : 0 ≤ (0 : Int) ∧ (0 : Int) ≤ 72057594037927935 := by
          first | assumption | omega | grind
        have hv_21 : (0 : Int) ≤ 7 → (0 : Int) = numW Mtape Mpos_2 (0 : Int).toNat := by
          intro _; rfl
        have hv_22 : ∀ j, Mpos_2 ≤ j → j < Mpos_2 → f j = Mtape j ∧ 65 ≤ f j ∧ f j ≤ 122 := by
          intro j j0 j1; omega
        refine z_loop (σ := Int × Int × Int) (μ := fun x9 => (Mtaped - (x9.2.2)).toNat) (I := fun x9 H locs ls => ((0 : Int) ≤ (x9.2.2) ∧ (x9.2.2) ≤ 400) ∧ (Mpos_2 ≤ (x9.2.2) ∧ (x9.2.2) ≤ Mtaped) ∧ ((x9.1) = (x9.2.2) - Mpos_2) ∧ (scanL letP f Mtaped Mpos_2 = scanL letP f Mtaped (x9.2.2)) ∧ (0 ≤ (x9.2.1) ∧ (x9.2.1) ≤ 72057594037927935) ∧ ((x9.1) ≤ 7 → (x9.2.1) = numW Mtape Mpos_2 (x9.1).toNat) ∧ (∀ j, Mpos_2 ≤ j → j < (x9.2.2) → f j = Mtape j ∧ 65 ≤ f j ∧ f j ≤ 122) ∧ HW D A s.heap (kM cI cB cZ oM Mthrown Mmany Mguest Mrow Mbars Mbar Mfresh Mtape Mtaped (x9.2.2) 1 Mpos_2 Mvalue Mwrong MwrongAt MfaultKind MfaultPlace Mthing Morder Mone Mtwo Mbest Mcells Mgap Mwire Mstand Mruns Mminute Mhead Mplays Mrests Mwent Mout Mcame Mgone MlastOut) H locs ∧ lv_has ls 5 [(0, .ref (oM 0)), (2, .int (zI (x9.1))), (3, .long (zL (x9.2.1)))]) (0, 0, Mpos_2) ⟨hv_16, hv_17, hv_18, hv_19, hv_20, hv_21, hv_22, hw, lv_sub hl [3, 1, 0] rfl⟩ ?_
        clear hw hl
        intro x9 H locs ls hI ih_23
        obtain ⟨n_24, w_25, Mpos_26⟩ := x9
        try dsimp only at hI
        obtain ⟨hq_27, hI_28, hI_29, hI_30, hI_31, hI_32, hI_33, hw, hl⟩ := hI
        have hwr : n_24 ≤ 6 → 0 ≤ w_25 ∧ w_25 ≤ 281474976710655 := fun z => by rw [(by assumption : n_24 ≤ 7 → w_25 = numW Mtape Mpos_2 n_24.toNat) (by omega)]; exact numW_6 (by omega) qMtape
        refine lv_aload_n hx hb dX8_look0_85 rfl (lv_at hl 0 rfl) ?_
        refine lv_aload_n hx hb dX8_look0_86 rfl (lv_at hl 0 rfl) ?_
        refine va_get (D := D) (ci := 8) (v := .int (zI Mpos_26)) (C := RX8) (T := TX8) (N := 36) hx hb hts hinX8 hown hK hw.1 0 rfl rfl 9 (by decide) (hts (.fieldLink RX8 110 "CarnivalRoadModel" "at" "I") (by decide +kernel)) (fun _ h9 => h9) rfl dX8_look0_87 ?_
        have hF9 := z_free (wc := kM cI cB cZ oM Mthrown Mmany Mguest Mrow Mbars Mbar Mfresh Mtape Mtaped Mpos_26 1 Mpos_2 Mvalue Mwrong MwrongAt MfaultKind MfaultPlace Mthing Morder Mone Mtwo Mbest Mcells Mgap Mwire Mstand Mruns Mminute Mhead Mplays Mrests Mwent Mout Mcame Mgone MlastOut) hw hA [0, 1, 2, 3, 4, 5, 6, 7, 8, 9, 10, 11, 12, 13, 14, 15, 16] rfl
        refine va_calli (va_runV (As := [.int (zI Mpos_26)]) (rest := []) ⟨hx, hb, hml, hown, hts⟩ (c_X8_see l D cI cB cZ oM H.size Mthrown Mmany Mguest Mrow Mbars Mbar Mfresh Mtape Mtaped Mpos_26 1 Mpos_2 Mvalue Mwrong MwrongAt MfaultKind MfaultPlace Mthing Morder Mone Mtwo Mbest Mcells Mgap Mwire Mstand Mruns Mminute Mhead Mplays Mrests Mwent Mout Mcame Mgone MlastOut Mpos_26 (by omega) (by omega) qMguest qMrow (by omega) qMbar qMfresh qMtape (by omega) (by omega) (by omega) (by omega) (by omega) (by omega) (by omega) (by omega) (by omega) (by omega) qMorder (by omega) (by omega) qMbest (by omega) (by omega) qMwire qMstand (by omega) (by omega) qMhead qMplays qMrests qMwent qMout qMcame qMgone (by omega) (by omega)) (cwV 1 hts gX8_look0_X8_see rfl rfl rfl (by decide +kernel) ⟨Nat.le_of_ble_eq_true rfl, Nat.le_of_ble_eq_true rfl⟩) ⟨zPre_blind, va_recv hK hw.1 (ci := 8) (q0 := 0) rfl rfl, z_pre hK hw [0, 1, 2, 3, 4, 5, 6, 7, 8, 9, 10, 11, 12, 13, 14, 15, 16] (by decide) rfl⟩ rfl rfl hl.1 rfl (lv_room (Nat.le_of_ble_eq_true rfl)) dX8_look0_90 ⟨Nat.zero_le _, Nat.zero_le _⟩) hw.2.2 (fun q _ h => hF9 q h) hF9 (fun r9 u9 t9 H_34 locs9 ht9 hvm9 hq9 hB9 hz9 hk9 hS9 => ?_)
        obtain ⟨r_35, rfl⟩ : ∃ z, z = u9 := ⟨_, rfl⟩
        try dsimp only at hq9 hB9
        obtain ⟨rfl, hq9⟩ := hq9
        obtain ⟨hq_36, hq_37⟩ := hq9
        have hw : HW D A s.heap (kM cI cB cZ oM Mthrown Mmany Mguest Mrow Mbars Mbar Mfresh Mtape Mtaped Mpos_26 1 Mpos_2 Mvalue Mwrong MwrongAt MfaultKind MfaultPlace Mthing Morder Mone Mtwo Mbest Mcells Mgap Mwire Mstand Mruns Mminute Mhead Mplays Mrests Mwent Mout Mcame Mgone MlastOut) H_34 locs9 := z_after (wc := kM cI cB cZ oM Mthrown Mmany Mguest Mrow Mbars Mbar Mfresh Mtape Mtaped Mpos_26 1 Mpos_2 Mvalue Mwrong MwrongAt MfaultKind MfaultPlace Mthing Morder Mone Mtwo Mbest Mcells Mgap Mwire Mstand Mruns Mminute Mhead Mplays Mrests Mwent Mout Mcame Mgone MlastOut) hw [0, 1, 2, 3, 4, 5, 6, 7, 8, 9, 10, 11, 12, 13, 14, 15, 16] [] rfl rfl (by decide) (by decide) hF9 hk9 ht9 hB9 hS9 [0, 1, 2, 3, 4, 5, 6, 7, 8, 9, 10, 11, 12, 13, 14, 15, 16] (by decide) rfl
        clear hF9 ht9 hvm9 hB9 hz9 hk9 hS9
        have hF9 := z_free (wc := ([] : va_W)) hw hA [] rfl
        refine va_calli (va_runS (As := [.int (zI r_35)]) (rest := []) ⟨hx, hb, hml, hown, hts⟩ (c_X8_isLetter l D cI cB cZ H_34.size r_35 (by omega)) (va_cwS 1 hts gX8_look0_X8_isLetter rfl rfl rfl (by decide +kernel) ⟨Nat.le_of_ble_eq_true rfl, Nat.le_of_ble_eq_true rfl⟩) ⟨zPre_blind, z_pre hK hw [] (by decide) rfl⟩ rfl rfl hl.1 rfl (lv_room (Nat.le_of_ble_eq_true rfl)) dX8_look0_93 ⟨Nat.zero_le _, Nat.zero_le _⟩) hw.2.2 (fun q _ h => hF9 q h) hF9 (fun r9 u9 t9 H_38 locs9 ht9 hvm9 hq9 hB9 hz9 hk9 hS9 => ?_)
        obtain ⟨r_39, rfl⟩ : ∃ z, z = u9 := ⟨_, rfl⟩
        try dsimp only at hq9 hB9
        obtain ⟨rfl, hq9⟩ := hq9
        have hq_40 := hq9
        have hw : HW D A s.heap (kM cI cB cZ oM Mthrown Mmany Mguest Mrow Mbars Mbar Mfresh Mtape Mtaped Mpos_26 1 Mpos_2 Mvalue Mwrong MwrongAt MfaultKind MfaultPlace Mthing Morder Mone Mtwo Mbest Mcells Mgap Mwire Mstand Mruns Mminute Mhead Mplays Mrests Mwent Mout Mcame Mgone MlastOut) H_38 locs9 := z_after (wc := ([] : va_W)) hw [] [0, 1, 2, 3, 4, 5, 6, 7, 8, 9, 10, 11, 12, 13, 14, 15, 16] rfl rfl (by decide) (by decide) hF9 hk9 ht9 hB9 hS9 [0, 1, 2, 3, 4, 5, 6, 7, 8, 9, 10, 11, 12, 13, 14, 15, 16] (by decide) rfl
        clear hF9 ht9 hvm9 hB9 hz9 hk9 hS9 hq9
        rcases hq_40 with ⟨hc_41, rfl⟩ | ⟨hc_41, rfl⟩
        · skip
          refine z_if_eq (tgt := 136) hx hb dX8_look0_96 (by decide) (by omega) (fun hc_42 => absurd hc_42 (by omega)) (fun hc_42 => ?_)
          refine lv_iload_n hx hb dX8_look0_99 rfl (lv_at hl 1 rfl) ?_
          refine z_bipush hx hb dX8_look0_100 (by decide) ?_
          refine z_icmp_ge (tgt := 120) hx hb dX8_look0_102 (by decide) (by omega) (fun hc_43 => ?_) (fun hc_43 => ?_)
          · skip
            refine z_iinc (k := 1) (lv' := [(2, .int (zI (n_24 + 1))), (0, .ref (oM 0)), (3, .long (zL w_25))]) hx hb dX8_look0_120 hl rfl (by decide) rfl (fun ls hl => ?_)
            refine lv_aload_n hx hb dX8_look0_123 rfl (lv_at hl 1 rfl) ?_
            refine lv_dup hx hb dX8_look0_124 rfl ?_
            refine va_get (D := D) (ci := 8) (v := .int (zI Mpos_26)) (C := RX8) (T := TX8) (N := 36) hx hb hts hinX8 hown hK hw.1 0 rfl rfl 9 (by decide) (hts (.fieldLink RX8 110 "CarnivalRoadModel" "at" "I") (by decide +kernel)) (fun _ h9 => h9) rfl dX8_look0_125 ?_
            refine z_iconst hx hb dX8_look0_128 ?_
            refine z_iadd hx hb dX8_look0_129 ?_
            refine z_put (D := D) (ci := 8) (v := .int (zI (Mpos_26 + 1))) (ty := .int) (C := RX8) (T := TX8) (N := 36) (ws2 := kM cI cB cZ oM Mthrown Mmany Mguest Mrow Mbars Mbar Mfresh Mtape Mtaped (Mpos_26 + 1) 1 Mpos_2 Mvalue Mwrong MwrongAt MfaultKind MfaultPlace Mthing Morder Mone Mtwo Mbest Mcells Mgap Mwire Mstand Mruns Mminute Mhead Mplays Mrests Mwent Mout Mcame Mgone MlastOut) hx hb hts hinX8 tyX8 tyX8_ok nmX8 hown hK hw 0 rfl rfl 9 (by decide) (hts (.fieldLink RX8 110 "CarnivalRoadModel" "at" "I") (by decide +kernel)) (fun _ h9 => h9) rfl (by decide +kernel) rfl rfl (Nat.le_of_ble_eq_true rfl) dX8_look0_130 rfl (fun H locs hw => ?_)
            refine lv_goto (tgt := 85) hx hb dX8_look0_133 (by decide) ?_
            have hv_44 : (0 : Int) ≤ (Mpos_26 + 1) ∧ (Mpos_26 + 1) ≤ 400 := by
              first | assumption | omega | grind
            have hv_45 : Mpos_2 ≤ (Mpos_26 + 1) ∧ (Mpos_26 + 1) ≤ Mtaped := by
              first | assumption | omega | grind
            have hv_46 : (n_24 + 1) = (Mpos_26 + 1) - Mpos_2 := by
              first | assumption | omega | grind
            have hv_47 : scanL letP f Mtaped Mpos_2 = scanL letP f Mtaped (Mpos_26 + 1) := by
              have ht := hp0 Mpos_26 (by omega) (by omega)
              rw [← scan_on (p := letP) (by omega) (by unfold letP; omega)]; assumption
            have hv_48 : 0 ≤ w_25 ∧ w_25 ≤ 72057594037927935 := by
              first | assumption | omega | grind
            have hv_49 : (n_24 + 1) ≤ 7 → w_25 = numW Mtape Mpos_2 (n_24 + 1).toNat := by
              intro z
              first | (exfalso; omega) | (have hw := (by assumption : n_24 ≤ 7 → w_25 = numW Mtape Mpos_2 n_24.toNat) (by omega); rw [show (n_24 + 1).toNat = n_24.toNat + 1 by omega]; show _ = numW Mtape Mpos_2 n_24.toNat * 256 + Mtape (Mpos_2 + (((n_24).toNat : Nat) : Int)); rw [← hw, show Mpos_2 + (((n_24).toNat : Nat) : Int) = Mpos_26 by omega]; omega)
            have hv_50 : ∀ j, Mpos_2 ≤ j → j < (Mpos_26 + 1) → f j = Mtape j ∧ 65 ≤ f j ∧ f j ≤ 122 := by
              have ht := hp0 Mpos_26 (by omega) (by omega)
              intro j j0 j1
              by_cases e : j = Mpos_26
              · rw [e]; omega
              · exact (by assumption : ∀ j, Mpos_2 ≤ j → j < Mpos_26 → f j = Mtape j ∧ 65 ≤ f j ∧ f j ≤ 122) j j0 (by omega)
            have hm_51 : (Mtaped - (Mpos_26 + 1)).toNat < (Mtaped - Mpos_26).toNat := by
              first | assumption | omega | grind
            exact ih_23 ((n_24 + 1), w_25, (Mpos_26 + 1)) _ _ _ ⟨hv_44, hv_45, hv_46, hv_47, hv_48, hv_49, hv_50, hw, lv_sub hl [1, 0, 2] rfl⟩ hm_51
          · skip
            refine lv_lload_n hx hb dX8_look0_105 rfl (lv_at hl 2 rfl) ?_
            refine z_bipush hx hb dX8_look0_106 (by decide) ?_
            have hbit_52 : zL w_25 <<< ((zI 8).toInt64 &&& 63) = zL (w_25 * 256) := by
              exact zL_shl8 (by omega)
            refine lv_lshl hx hb dX8_look0_108 hbit_52 ?_
            clear hbit_52
            refine lv_aload_n hx hb dX8_look0_109 rfl (lv_at hl 0 rfl) ?_
            refine lv_aload_n hx hb dX8_look0_110 rfl (lv_at hl 0 rfl) ?_
            refine va_get (D := D) (ci := 8) (v := .int (zI Mpos_26)) (C := RX8) (T := TX8) (N := 36) hx hb hts hinX8 hown hK hw.1 0 rfl rfl 9 (by decide) (hts (.fieldLink RX8 110 "CarnivalRoadModel" "at" "I") (by decide +kernel)) (fun _ h9 => h9) rfl dX8_look0_111 ?_
            have hF9 := z_free (wc := kM cI cB cZ oM Mthrown Mmany Mguest Mrow Mbars Mbar Mfresh Mtape Mtaped Mpos_26 1 Mpos_2 Mvalue Mwrong MwrongAt MfaultKind MfaultPlace Mthing Morder Mone Mtwo Mbest Mcells Mgap Mwire Mstand Mruns Mminute Mhead Mplays Mrests Mwent Mout Mcame Mgone MlastOut) hw hA [0, 1, 2, 3, 4, 5, 6, 7, 8, 9, 10, 11, 12, 13, 14, 15, 16] rfl
            refine va_calli (va_runV (As := [.int (zI Mpos_26)]) (rest := [.long (zL (w_25 * 256))]) ⟨hx, hb, hml, hown, hts⟩ (c_X8_see l D cI cB cZ oM H_38.size Mthrown Mmany Mguest Mrow Mbars Mbar Mfresh Mtape Mtaped Mpos_26 1 Mpos_2 Mvalue Mwrong MwrongAt MfaultKind MfaultPlace Mthing Morder Mone Mtwo Mbest Mcells Mgap Mwire Mstand Mruns Mminute Mhead Mplays Mrests Mwent Mout Mcame Mgone MlastOut Mpos_26 (by omega) (by omega) qMguest qMrow (by omega) qMbar qMfresh qMtape (by omega) (by omega) (by omega) (by omega) (by omega) (by omega) (by omega) (by omega) (by omega) (by omega) qMorder (by omega) (by omega) qMbest (by omega) (by omega) qMwire qMstand (by omega) (by omega) qMhead qMplays qMrests qMwent qMout qMcame qMgone (by omega) (by omega)) (cwV 1 hts gX8_look0_X8_see rfl rfl rfl (by decide +kernel) ⟨Nat.le_of_ble_eq_true rfl, Nat.le_of_ble_eq_true rfl⟩) ⟨zPre_blind, va_recv hK hw.1 (ci := 8) (q0 := 0) rfl rfl, z_pre hK hw [0, 1, 2, 3, 4, 5, 6, 7, 8, 9, 10, 11, 12, 13, 14, 15, 16] (by decide) rfl⟩ rfl rfl hl.1 rfl (lv_room (Nat.le_of_ble_eq_true rfl)) dX8_look0_114 ⟨Nat.zero_le _, Nat.zero_le _⟩) hw.2.2 (fun q _ h => hF9 q h) hF9 (fun r9 u9 t9 H_53 locs9 ht9 hvm9 hq9 hB9 hz9 hk9 hS9 => ?_)
            obtain ⟨r_54, rfl⟩ : ∃ z, z = u9 := ⟨_, rfl⟩
            try dsimp only at hq9 hB9
            obtain ⟨rfl, hq9⟩ := hq9
            obtain ⟨hq_55, hq_56⟩ := hq9
            have hw : HW D A s.heap (kM cI cB cZ oM Mthrown Mmany Mguest Mrow Mbars Mbar Mfresh Mtape Mtaped Mpos_26 1 Mpos_2 Mvalue Mwrong MwrongAt MfaultKind MfaultPlace Mthing Morder Mone Mtwo Mbest Mcells Mgap Mwire Mstand Mruns Mminute Mhead Mplays Mrests Mwent Mout Mcame Mgone MlastOut) H_53 locs9 := z_after (wc := kM cI cB cZ oM Mthrown Mmany Mguest Mrow Mbars Mbar Mfresh Mtape Mtaped Mpos_26 1 Mpos_2 Mvalue Mwrong MwrongAt MfaultKind MfaultPlace Mthing Morder Mone Mtwo Mbest Mcells Mgap Mwire Mstand Mruns Mminute Mhead Mplays Mrests Mwent Mout Mcame Mgone MlastOut) hw [0, 1, 2, 3, 4, 5, 6, 7, 8, 9, 10, 11, 12, 13, 14, 15, 16] [] rfl rfl (by decide) (by decide) hF9 hk9 ht9 hB9 hS9 [0, 1, 2, 3, 4, 5, 6, 7, 8, 9, 10, 11, 12, 13, 14, 15, 16] (by decide) rfl
            clear hF9 ht9 hvm9 hB9 hz9 hk9 hS9
            have hbit_57 : (zI r_54).toInt64 = zL r_54 := by
              exact zL_of (by omega)
            refine lv_i2l hx hb dX8_look0_117 hbit_57 ?_
            clear hbit_57
            have hbit_58 : zL (w_25 * 256) ||| zL r_54 = zL ((w_25 * 256) + r_54) := by
              exact zL_or (by omega) (by omega) (by omega)
            refine lv_lor hx hb dX8_look0_118 ?_
            rw [hbit_58]
            clear hbit_58
            refine lv_lstore_n (lv' := [(3, .long (zL ((w_25 * 256) + r_54))), (0, .ref (oM 0)), (2, .int (zI n_24))]) hx hb dX8_look0_119 rfl hl (by decide) rfl (fun ls hl => ?_)
            refine z_iinc (k := 2) (lv' := [(2, .int (zI (n_24 + 1))), (3, .long (zL ((w_25 * 256) + r_54))), (0, .ref (oM 0))]) hx hb dX8_look0_120 hl rfl (by decide) rfl (fun ls hl => ?_)
            refine lv_aload_n hx hb dX8_look0_123 rfl (lv_at hl 2 rfl) ?_
            refine lv_dup hx hb dX8_look0_124 rfl ?_
            refine va_get (D := D) (ci := 8) (v := .int (zI Mpos_26)) (C := RX8) (T := TX8) (N := 36) hx hb hts hinX8 hown hK hw.1 0 rfl rfl 9 (by decide) (hts (.fieldLink RX8 110 "CarnivalRoadModel" "at" "I") (by decide +kernel)) (fun _ h9 => h9) rfl dX8_look0_125 ?_
            refine z_iconst hx hb dX8_look0_128 ?_
            refine z_iadd hx hb dX8_look0_129 ?_
            refine z_put (D := D) (ci := 8) (v := .int (zI (Mpos_26 + 1))) (ty := .int) (C := RX8) (T := TX8) (N := 36) (ws2 := kM cI cB cZ oM Mthrown Mmany Mguest Mrow Mbars Mbar Mfresh Mtape Mtaped (Mpos_26 + 1) 1 Mpos_2 Mvalue Mwrong MwrongAt MfaultKind MfaultPlace Mthing Morder Mone Mtwo Mbest Mcells Mgap Mwire Mstand Mruns Mminute Mhead Mplays Mrests Mwent Mout Mcame Mgone MlastOut) hx hb hts hinX8 tyX8 tyX8_ok nmX8 hown hK hw 0 rfl rfl 9 (by decide) (hts (.fieldLink RX8 110 "CarnivalRoadModel" "at" "I") (by decide +kernel)) (fun _ h9 => h9) rfl (by decide +kernel) rfl rfl (Nat.le_of_ble_eq_true rfl) dX8_look0_130 rfl (fun H locs hw => ?_)
            refine lv_goto (tgt := 85) hx hb dX8_look0_133 (by decide) ?_
            have hv_59 : (0 : Int) ≤ (Mpos_26 + 1) ∧ (Mpos_26 + 1) ≤ 400 := by
              first | assumption | omega | grind
            have hv_60 : Mpos_2 ≤ (Mpos_26 + 1) ∧ (Mpos_26 + 1) ≤ Mtaped := by
              first | assumption | omega | grind
            have hv_61 : (n_24 + 1) = (Mpos_26 + 1) - Mpos_2 := by
              first | assumption | omega | grind
            have hv_62 : scanL letP f Mtaped Mpos_2 = scanL letP f Mtaped (Mpos_26 + 1) := by
              have ht := hp0 Mpos_26 (by omega) (by omega)
              rw [← scan_on (p := letP) (by omega) (by unfold letP; omega)]; assumption
            have hv_63 : 0 ≤ ((w_25 * 256) + r_54) ∧ ((w_25 * 256) + r_54) ≤ 72057594037927935 := by
              first | assumption | omega | grind
            have hv_64 : (n_24 + 1) ≤ 7 → ((w_25 * 256) + r_54) = numW Mtape Mpos_2 (n_24 + 1).toNat := by
              intro z
              first | (exfalso; omega) | (have hw := (by assumption : n_24 ≤ 7 → w_25 = numW Mtape Mpos_2 n_24.toNat) (by omega); rw [show (n_24 + 1).toNat = n_24.toNat + 1 by omega]; show _ = numW Mtape Mpos_2 n_24.toNat * 256 + Mtape (Mpos_2 + (((n_24).toNat : Nat) : Int)); rw [← hw, show Mpos_2 + (((n_24).toNat : Nat) : Int) = Mpos_26 by omega]; omega)
            have hv_65 : ∀ j, Mpos_2 ≤ j → j < (Mpos_26 + 1) → f j = Mtape j ∧ 65 ≤ f j ∧ f j ≤ 122 := by
              have ht := hp0 Mpos_26 (by omega) (by omega)
              intro j j0 j1
              by_cases e : j = Mpos_26
              · rw [e]; omega
              · exact (by assumption : ∀ j, Mpos_2 ≤ j → j < Mpos_26 → f j = Mtape j ∧ 65 ≤ f j ∧ f j ≤ 122) j j0 (by omega)
            have hm_66 : (Mtaped - (Mpos_26 + 1)).toNat < (Mtaped - Mpos_26).toNat := by
              first | assumption | omega | grind
            exact ih_23 ((n_24 + 1), ((w_25 * 256) + r_54), (Mpos_26 + 1)) _ _ _ ⟨hv_59, hv_60, hv_61, hv_62, hv_63, hv_64, hv_65, hw, lv_sub hl [2, 0, 1] rfl⟩ hm_66
        · skip
          refine z_if_eq (tgt := 136) hx hb dX8_look0_96 (by decide) (by omega) (fun hc_67 => ?_) (fun hc_67 => absurd hc_67 (by omega))
          refine z_cut (σ := Int) 151 (I := fun x9 H locs ls => (x9 = tkM (wordF f Mpos_2 Mpos_26)) ∧ (1 ≤ x9 ∧ x9 ≤ 15) ∧ HW D A s.heap (kM cI cB cZ oM Mthrown Mmany Mguest Mrow Mbars Mbar Mfresh Mtape Mtaped Mpos_26 1 Mpos_2 Mvalue Mwrong MwrongAt MfaultKind MfaultPlace Mthing Morder Mone Mtwo Mbest Mcells Mgap Mwire Mstand Mruns Mminute Mhead Mplays Mrests Mwent Mout Mcame Mgone MlastOut) H locs ∧ lv_has ls 5 []) (st := fun x9 => [.int (zI x9), .ref (oM 0)]) ?_ (fun hj_68 => ?_)
          · clear hw hl
            intro tk_69 H locs ls hI
            try dsimp only at hI ⊢
            obtain ⟨hI_70, hI_71, hw, hl⟩ := hI
            have hsl : scanL letP f Mtaped Mpos_2 = Mpos_26 := by
              rcases Int.lt_or_le Mpos_26 Mtaped with hh | hh
              · have ht := hp0 Mpos_26 (by omega) hh
                rw [← scan_off (p := letP) (f := f) (len := Mtaped) (i := Mpos_26) (by unfold letP; omega)]; assumption
              · rw [← scan_end (p := letP) (f := f) (len := Mtaped) (i := Mpos_26) (by omega)]; assumption
            refine z_put (D := D) (ci := 8) (v := .int (zI tk_69)) (ty := .int) (C := RX8) (T := TX8) (N := 36) (ws2 := kM cI cB cZ oM Mthrown Mmany Mguest Mrow Mbars Mbar Mfresh Mtape Mtaped Mpos_26 tk_69 Mpos_2 Mvalue Mwrong MwrongAt MfaultKind MfaultPlace Mthing Morder Mone Mtwo Mbest Mcells Mgap Mwire Mstand Mruns Mminute Mhead Mplays Mrests Mwent Mout Mcame Mgone MlastOut) hx hb hts hinX8 tyX8 tyX8_ok nmX8 hown hK hw 0 rfl rfl 10 (by decide) (hts (.fieldLink RX8 120 "CarnivalRoadModel" "token" "I") (by decide +kernel)) (fun _ h9 => h9) rfl (by decide +kernel) rfl rfl (Nat.le_of_ble_eq_true rfl) dX8_look0_151 rfl (fun H locs hw => ?_)
            refine lv_goto (tgt := 277) hx hb dX8_look0_154 (by decide) ?_
            have hv_72 : (0 : Int) ≤ Mpos_26 ∧ Mpos_26 ≤ 400 := by
              first | assumption | omega | grind
            have hv_73 : (0 : Int) ≤ tk_69 ∧ tk_69 ≤ 15 := by
              first | assumption | omega | grind
            have hv_74 : (0 : Int) ≤ Mpos_2 ∧ Mpos_2 ≤ 400 := by
              first | assumption | omega | grind
            have hv_75 : (0 : Int) ≤ Mvalue ∧ Mvalue ≤ 99 := by
              first | assumption | omega | grind
            have hv_76 : qM (goF f Mtaped q) Mwrong MwrongAt tk_69 Mpos_2 Mpos_26 Mvalue := by
              have hsc := (by assumption : scanL blkP f Mtaped Mpos = Mpos_2)
              have ht : Mpos_2 < Mtaped → _ := fun z => hp0 Mpos_2 (by omega) z
              have e7 : tkM 7 = 2 := rfl
              have e8 : tkM 8 = 3 := rfl
              have e9 : tkM 9 = 0 := rfl
              have e10 : tkM 10 = 1 := rfl
              refine go_m hp1 ?_
              first
              | (rw [lex_1 hsc (by omega)]; exact ⟨e9.symm, rfl, rfl, fun z => by dsimp only at z; omega⟩)
              | (rw [lex_2 hsc (by omega) (by unfold letP; omega)]
                 refine ⟨?_, rfl, hsl.symm, fun z => ?_⟩
                 · dsimp only; rw [hsl]; assumption
                 · exfalso; dsimp only at z; rw [hsl] at z; have z2 := wordF_r (f := f) (a := Mpos_2) (e := Mpos_26); omega)
              | (rw [lex_3 hsc (by omega) (by unfold letP; omega) (by unfold digP; omega)]
                 refine ⟨?_, rfl, hsd.symm, fun z => ?_⟩
                 · dsimp only; rw [hsd]; split
                   · rw [e7]; omega
                   · rw [e10]; omega
                 · dsimp only at z ⊢; rw [hsd] at z ⊢
                   have z2 : Mpos_26 - Mpos_2 ≤ 2 := by
                     apply Classical.byContradiction; intro z3; rw [if_neg z3] at z; omega
                   exact ((by assumption : Mpos_26 - Mpos_2 ≤ 2 → Mvalue = numF f Mpos_2 Mpos_26 ∧ _) z2).1)
              | (rw [lex_4 hsc (by omega) (by unfold letP; omega) (by unfold digP; omega)]
                 refine ⟨?_, rfl, rfl, fun z => ?_⟩
                 · dsimp only; split
                   · rw [e8]; omega
                   · rw [e10]; omega
                 · exfalso; dsimp only at z; split at z <;> omega)
            have hv_77 : Mpos_26 ≤ Mtaped := by
              omega
            exact W.vret hx hb hr (fun t9 ht hW => ⟨⟨(Mpos_26, tk_69, Mpos_2, Mvalue), rfl, ⟨hv_72, hv_73, hv_74, hv_75, hv_76, hv_77⟩, by subst hAe; exact z_end hK hw ht hW⟩, by subst hAe; exact hw.2.2.F ht⟩) (by subst hAe; exact hw.2.2.2.2) dX8_look0_277
          refine lv_aload_n hx hb dX8_look0_136 rfl (lv_at hl 0 rfl) ?_
          refine lv_iload_n hx hb dX8_look0_137 rfl (lv_at hl 1 rfl) ?_
          refine z_bipush hx hb dX8_look0_138 (by decide) ?_
          refine z_icmp_le (tgt := 147) hx hb dX8_look0_140 (by decide) (by omega) (fun hc_78 => ?_) (fun hc_78 => ?_)
          · skip
            refine lv_lload_n hx hb dX8_look0_147 rfl (lv_at hl 2 rfl) ?_
            have hF9 := z_free (wc := ([] : va_W)) hw hA [] rfl
            refine va_calli (va_runS (As := [.long (zL w_25)]) (rest := [.ref (oM 0)]) ⟨hx, hb, hml, hown, hts⟩ (c_X8_word l D cI cB cZ H_38.size w_25 (by have z := hwr (by omega); omega)) (va_cwS 1 hts gX8_look0_X8_word rfl rfl rfl (by decide +kernel) ⟨Nat.le_of_ble_eq_true rfl, Nat.le_of_ble_eq_true rfl⟩) ⟨zPre_blind, z_pre hK hw [] (by decide) rfl⟩ rfl rfl hl.1 rfl (lv_room (Nat.le_of_ble_eq_true rfl)) dX8_look0_148 ⟨Nat.zero_le _, Nat.zero_le _⟩) hw.2.2 (fun q _ h => hF9 q h) hF9 (fun r9 u9 t9 H_79 locs9 ht9 hvm9 hq9 hB9 hz9 hk9 hS9 => ?_)
            obtain ⟨r_80, rfl⟩ : ∃ z, z = u9 := ⟨_, rfl⟩
            try dsimp only at hq9 hB9
            obtain ⟨rfl, hq9⟩ := hq9
            obtain ⟨hq_81, hq_82⟩ := hq9
            have hw : HW D A s.heap (kM cI cB cZ oM Mthrown Mmany Mguest Mrow Mbars Mbar Mfresh Mtape Mtaped Mpos_26 1 Mpos_2 Mvalue Mwrong MwrongAt MfaultKind MfaultPlace Mthing Morder Mone Mtwo Mbest Mcells Mgap Mwire Mstand Mruns Mminute Mhead Mplays Mrests Mwent Mout Mcame Mgone MlastOut) H_79 locs9 := z_after (wc := ([] : va_W)) hw [] [0, 1, 2, 3, 4, 5, 6, 7, 8, 9, 10, 11, 12, 13, 14, 15, 16] rfl rfl (by decide) (by decide) hF9 hk9 ht9 hB9 hS9 [0, 1, 2, 3, 4, 5, 6, 7, 8, 9, 10, 11, 12, 13, 14, 15, 16] (by decide) rfl
            clear hF9 ht9 hvm9 hB9 hz9 hk9 hS9
            have hv_83 : r_80 = tkM (wordF f Mpos_2 Mpos_26) := by
              have hl9 := (by assumption : ∀ j, Mpos_2 ≤ j → j < Mpos_26 → f j = Mtape j ∧ 65 ≤ f j ∧ f j ≤ 122)
              first | (rw [wordF_long (by omega)]; done) | (rw [wordF_long (by omega)]; decide) | (have hw := (by assumption : n_24 ≤ 7 → w_25 = numW Mtape Mpos_2 n_24.toNat) (by omega); have hc := numW_congr (f := f) (g := Mtape) (a := Mpos_2) n_24.toNat (fun j j0 j1 => (hl9 j j0 (by omega)).1); have hz := nw_word (f := f) (a := Mpos_2) (n := n_24.toNat) (by omega) (fun j j0 j1 => (hl9 j j0 (by omega)).2); rw [show Mpos_2 + (((n_24).toNat : Nat) : Int) = Mpos_26 by omega, hc, ← hw] at hz; rw [← hz]; assumption)
            have hv_84 : 1 ≤ r_80 ∧ r_80 ≤ 15 := by
              first | assumption | omega | grind
            exact hj_68 r_80 _ _ _ ⟨hv_83, hv_84, hw, lv_sub hl [] rfl⟩
          · skip
            refine z_iconst hx hb dX8_look0_143 ?_
            refine lv_goto (tgt := 151) hx hb dX8_look0_144 (by decide) ?_
            have hv_85 : (1 : Int) = tkM (wordF f Mpos_2 Mpos_26) := by
              have hl9 := (by assumption : ∀ j, Mpos_2 ≤ j → j < Mpos_26 → f j = Mtape j ∧ 65 ≤ f j ∧ f j ≤ 122)
              first | (rw [wordF_long (by omega)]; done) | (rw [wordF_long (by omega)]; decide) | (have hw := (by assumption : n_24 ≤ 7 → w_25 = numW Mtape Mpos_2 n_24.toNat) (by omega); have hc := numW_congr (f := f) (g := Mtape) (a := Mpos_2) n_24.toNat (fun j j0 j1 => (hl9 j j0 (by omega)).1); have hz := nw_word (f := f) (a := Mpos_2) (n := n_24.toNat) (by omega) (fun j j0 j1 => (hl9 j j0 (by omega)).2); rw [show Mpos_2 + (((n_24).toNat : Nat) : Int) = Mpos_26 by omega, hc, ← hw] at hz; rw [← hz]; assumption)
            have hv_86 : 1 ≤ (1 : Int) ∧ (1 : Int) ≤ 15 := by
              first | assumption | omega | grind
            exact hj_68 1 _ _ _ ⟨hv_85, hv_86, hw, lv_sub hl [] rfl⟩
      · skip
        refine z_if_eq (tgt := 157) hx hb dX8_look0_80 (by decide) (by omega) (fun hc_87 => ?_) (fun hc_87 => absurd hc_87 (by omega))
        refine lv_iload_n hx hb dX8_look0_157 rfl (lv_at hl 1 rfl) ?_
        refine z_bipush hx hb dX8_look0_158 (by decide) ?_
        refine z_bipush hx hb dX8_look0_160 (by decide) ?_
        have hF9 := z_free (wc := ([] : va_W)) hw hA [] rfl
        refine va_calli (va_runS (As := [.int (zI r_7), .int (zI 48), .int (zI 57)]) (rest := []) ⟨hx, hb, hml, hown, hts⟩ (c_X8_isIn l D cI cB cZ H_11.size r_7 48 57 (by omega) (by omega) (by omega)) (va_cwS 3 hts gX8_look0_X8_isIn rfl rfl rfl (by decide +kernel) ⟨Nat.le_of_ble_eq_true rfl, Nat.le_of_ble_eq_true rfl⟩) ⟨zPre_blind, z_pre hK hw [] (by decide) rfl⟩ rfl rfl hl.1 rfl (lv_room (Nat.le_of_ble_eq_true rfl)) dX8_look0_162 ⟨Nat.zero_le _, Nat.zero_le _⟩) hw.2.2 (fun q _ h => hF9 q h) hF9 (fun r9 u9 t9 H_88 locs9 ht9 hvm9 hq9 hB9 hz9 hk9 hS9 => ?_)
        obtain ⟨r_89, rfl⟩ : ∃ z, z = u9 := ⟨_, rfl⟩
        try dsimp only at hq9 hB9
        obtain ⟨rfl, hq9⟩ := hq9
        have hq_90 := hq9
        have hw : HW D A s.heap (kM cI cB cZ oM Mthrown Mmany Mguest Mrow Mbars Mbar Mfresh Mtape Mtaped Mpos_2 1 Mpos_2 Mvalue Mwrong MwrongAt MfaultKind MfaultPlace Mthing Morder Mone Mtwo Mbest Mcells Mgap Mwire Mstand Mruns Mminute Mhead Mplays Mrests Mwent Mout Mcame Mgone MlastOut) H_88 locs9 := z_after (wc := ([] : va_W)) hw [] [0, 1, 2, 3, 4, 5, 6, 7, 8, 9, 10, 11, 12, 13, 14, 15, 16] rfl rfl (by decide) (by decide) hF9 hk9 ht9 hB9 hS9 [0, 1, 2, 3, 4, 5, 6, 7, 8, 9, 10, 11, 12, 13, 14, 15, 16] (by decide) rfl
        clear hF9 ht9 hvm9 hB9 hz9 hk9 hS9 hq9
        rcases hq_90 with ⟨hc_91, rfl⟩ | ⟨hc_91, rfl⟩
        · skip
          refine z_if_eq (tgt := 252) hx hb dX8_look0_165 (by decide) (by omega) (fun hc_92 => absurd hc_92 (by omega)) (fun hc_92 => ?_)
          refine lv_aload_n hx hb dX8_look0_168 rfl (lv_at hl 2 rfl) ?_
          refine z_iconst hx hb dX8_look0_169 ?_
          refine z_put (D := D) (ci := 8) (v := .int (zI 0)) (ty := .int) (C := RX8) (T := TX8) (N := 36) (ws2 := kM cI cB cZ oM Mthrown Mmany Mguest Mrow Mbars Mbar Mfresh Mtape Mtaped Mpos_2 1 Mpos_2 0 Mwrong MwrongAt MfaultKind MfaultPlace Mthing Morder Mone Mtwo Mbest Mcells Mgap Mwire Mstand Mruns Mminute Mhead Mplays Mrests Mwent Mout Mcame Mgone MlastOut) hx hb hts hinX8 tyX8 tyX8_ok nmX8 hown hK hw 0 rfl rfl 12 (by decide) (hts (.fieldLink RX8 130 "CarnivalRoadModel" "value" "I") (by decide +kernel)) (fun _ h9 => h9) rfl (by decide +kernel) rfl rfl (Nat.le_of_ble_eq_true rfl) dX8_look0_170 rfl (fun H locs hw => ?_)
          have hv_93 : (0 : Int) ≤ Mpos_2 ∧ Mpos_2 ≤ 400 := by
            first | assumption | omega | grind
          have hv_94 : (0 : Int) ≤ (0 : Int) ∧ (0 : Int) ≤ 99 := by
            first | assumption | omega | grind
          have hv_95 : Mpos_2 ≤ Mpos_2 ∧ Mpos_2 ≤ Mtaped := by
            first | assumption | omega | grind
          have hv_96 : (0 : Int) = Mpos_2 - Mpos_2 := by
            first | assumption | omega | grind
          have hv_97 : scanL digP f Mtaped Mpos_2 = scanL digP f Mtaped Mpos_2 := by
            rfl
          have hv_98 : Mpos_2 - Mpos_2 ≤ 2 → (0 : Int) = numF f Mpos_2 Mpos_2 ∧ 0 ≤ (0 : Int) ∧ (Mpos_2 ≤ Mpos_2 + 1 → (0 : Int) ≤ 9) := by
            intro _; exact ⟨numF_0.symm, by omega, fun _ => by omega⟩
          refine z_loop (σ := Int × Int × Int) (μ := fun x9 => (Mtaped - (x9.2.1)).toNat) (I := fun x9 H locs ls => ((0 : Int) ≤ (x9.2.1) ∧ (x9.2.1) ≤ 400) ∧ ((0 : Int) ≤ (x9.2.2) ∧ (x9.2.2) ≤ 99) ∧ (Mpos_2 ≤ (x9.2.1) ∧ (x9.2.1) ≤ Mtaped) ∧ ((x9.1) = (x9.2.1) - Mpos_2) ∧ (scanL digP f Mtaped Mpos_2 = scanL digP f Mtaped (x9.2.1)) ∧ ((x9.2.1) - Mpos_2 ≤ 2 → (x9.2.2) = numF f Mpos_2 (x9.2.1) ∧ 0 ≤ (x9.2.2) ∧ ((x9.2.1) ≤ Mpos_2 + 1 → (x9.2.2) ≤ 9)) ∧ HW D A s.heap (kM cI cB cZ oM Mthrown Mmany Mguest Mrow Mbars Mbar Mfresh Mtape Mtaped (x9.2.1) 1 Mpos_2 (x9.2.2) Mwrong MwrongAt MfaultKind MfaultPlace Mthing Morder Mone Mtwo Mbest Mcells Mgap Mwire Mstand Mruns Mminute Mhead Mplays Mrests Mwent Mout Mcame Mgone MlastOut) H locs ∧ lv_has ls 5 [(0, .ref (oM 0)), (2, .int (zI (x9.1)))]) (0, Mpos_2, 0) ⟨hv_93, hv_94, hv_95, hv_96, hv_97, hv_98, hw, lv_sub hl [2, 0] rfl⟩ ?_
          clear hw hl
          intro x9 H locs ls hI ih_99
          obtain ⟨n_100, Mpos_101, Mvalue_102⟩ := x9
          try dsimp only at hI
          obtain ⟨hq_103, hq_104, hI_105, hI_106, hI_107, hI_108, hw, hl⟩ := hI
          refine lv_aload_n hx hb dX8_look0_173 rfl (lv_at hl 0 rfl) ?_
          refine lv_aload_n hx hb dX8_look0_174 rfl (lv_at hl 0 rfl) ?_
          refine va_get (D := D) (ci := 8) (v := .int (zI Mpos_101)) (C := RX8) (T := TX8) (N := 36) hx hb hts hinX8 hown hK hw.1 0 rfl rfl 9 (by decide) (hts (.fieldLink RX8 110 "CarnivalRoadModel" "at" "I") (by decide +kernel)) (fun _ h9 => h9) rfl dX8_look0_175 ?_
          have hF9 := z_free (wc := kM cI cB cZ oM Mthrown Mmany Mguest Mrow Mbars Mbar Mfresh Mtape Mtaped Mpos_101 1 Mpos_2 Mvalue_102 Mwrong MwrongAt MfaultKind MfaultPlace Mthing Morder Mone Mtwo Mbest Mcells Mgap Mwire Mstand Mruns Mminute Mhead Mplays Mrests Mwent Mout Mcame Mgone MlastOut) hw hA [0, 1, 2, 3, 4, 5, 6, 7, 8, 9, 10, 11, 12, 13, 14, 15, 16] rfl
          refine va_calli (va_runV (As := [.int (zI Mpos_101)]) (rest := []) ⟨hx, hb, hml, hown, hts⟩ (c_X8_see l D cI cB cZ oM H.size Mthrown Mmany Mguest Mrow Mbars Mbar Mfresh Mtape Mtaped Mpos_101 1 Mpos_2 Mvalue_102 Mwrong MwrongAt MfaultKind MfaultPlace Mthing Morder Mone Mtwo Mbest Mcells Mgap Mwire Mstand Mruns Mminute Mhead Mplays Mrests Mwent Mout Mcame Mgone MlastOut Mpos_101 (by omega) (by omega) qMguest qMrow (by omega) qMbar qMfresh qMtape (by omega) (by omega) (by omega) (by omega) (by omega) (by omega) (by omega) (by omega) (by omega) (by omega) qMorder (by omega) (by omega) qMbest (by omega) (by omega) qMwire qMstand (by omega) (by omega) qMhead qMplays qMrests qMwent qMout qMcame qMgone (by omega) (by omega)) (cwV 1 hts gX8_look0_X8_see rfl rfl rfl (by decide +kernel) ⟨Nat.le_of_ble_eq_true rfl, Nat.le_of_ble_eq_true rfl⟩) ⟨zPre_blind, va_recv hK hw.1 (ci := 8) (q0 := 0) rfl rfl, z_pre hK hw [0, 1, 2, 3, 4, 5, 6, 7, 8, 9, 10, 11, 12, 13, 14, 15, 16] (by decide) rfl⟩ rfl rfl hl.1 rfl (lv_room (Nat.le_of_ble_eq_true rfl)) dX8_look0_178 ⟨Nat.zero_le _, Nat.zero_le _⟩) hw.2.2 (fun q _ h => hF9 q h) hF9 (fun r9 u9 t9 H_109 locs9 ht9 hvm9 hq9 hB9 hz9 hk9 hS9 => ?_)
          obtain ⟨r_110, rfl⟩ : ∃ z, z = u9 := ⟨_, rfl⟩
          try dsimp only at hq9 hB9
          obtain ⟨rfl, hq9⟩ := hq9
          obtain ⟨hq_111, hq_112⟩ := hq9
          have hw : HW D A s.heap (kM cI cB cZ oM Mthrown Mmany Mguest Mrow Mbars Mbar Mfresh Mtape Mtaped Mpos_101 1 Mpos_2 Mvalue_102 Mwrong MwrongAt MfaultKind MfaultPlace Mthing Morder Mone Mtwo Mbest Mcells Mgap Mwire Mstand Mruns Mminute Mhead Mplays Mrests Mwent Mout Mcame Mgone MlastOut) H_109 locs9 := z_after (wc := kM cI cB cZ oM Mthrown Mmany Mguest Mrow Mbars Mbar Mfresh Mtape Mtaped Mpos_101 1 Mpos_2 Mvalue_102 Mwrong MwrongAt MfaultKind MfaultPlace Mthing Morder Mone Mtwo Mbest Mcells Mgap Mwire Mstand Mruns Mminute Mhead Mplays Mrests Mwent Mout Mcame Mgone MlastOut) hw [0, 1, 2, 3, 4, 5, 6, 7, 8, 9, 10, 11, 12, 13, 14, 15, 16] [] rfl rfl (by decide) (by decide) hF9 hk9 ht9 hB9 hS9 [0, 1, 2, 3, 4, 5, 6, 7, 8, 9, 10, 11, 12, 13, 14, 15, 16] (by decide) rfl
          clear hF9 ht9 hvm9 hB9 hz9 hk9 hS9
          refine z_bipush hx hb dX8_look0_181 (by decide) ?_
          refine z_bipush hx hb dX8_look0_183 (by decide) ?_
          have hF9 := z_free (wc := ([] : va_W)) hw hA [] rfl
          refine va_calli (va_runS (As := [.int (zI r_110), .int (zI 48), .int (zI 57)]) (rest := []) ⟨hx, hb, hml, hown, hts⟩ (c_X8_isIn l D cI cB cZ H_109.size r_110 48 57 (by omega) (by omega) (by omega)) (va_cwS 3 hts gX8_look0_X8_isIn rfl rfl rfl (by decide +kernel) ⟨Nat.le_of_ble_eq_true rfl, Nat.le_of_ble_eq_true rfl⟩) ⟨zPre_blind, z_pre hK hw [] (by decide) rfl⟩ rfl rfl hl.1 rfl (lv_room (Nat.le_of_ble_eq_true rfl)) dX8_look0_185 ⟨Nat.zero_le _, Nat.zero_le _⟩) hw.2.2 (fun q _ h => hF9 q h) hF9 (fun r9 u9 t9 H_113 locs9 ht9 hvm9 hq9 hB9 hz9 hk9 hS9 => ?_)
          obtain ⟨r_114, rfl⟩ : ∃ z, z = u9 := ⟨_, rfl⟩
          try dsimp only at hq9 hB9
          obtain ⟨rfl, hq9⟩ := hq9
          have hq_115 := hq9
          have hw : HW D A s.heap (kM cI cB cZ oM Mthrown Mmany Mguest Mrow Mbars Mbar Mfresh Mtape Mtaped Mpos_101 1 Mpos_2 Mvalue_102 Mwrong MwrongAt MfaultKind MfaultPlace Mthing Morder Mone Mtwo Mbest Mcells Mgap Mwire Mstand Mruns Mminute Mhead Mplays Mrests Mwent Mout Mcame Mgone MlastOut) H_113 locs9 := z_after (wc := ([] : va_W)) hw [] [0, 1, 2, 3, 4, 5, 6, 7, 8, 9, 10, 11, 12, 13, 14, 15, 16] rfl rfl (by decide) (by decide) hF9 hk9 ht9 hB9 hS9 [0, 1, 2, 3, 4, 5, 6, 7, 8, 9, 10, 11, 12, 13, 14, 15, 16] (by decide) rfl
          clear hF9 ht9 hvm9 hB9 hz9 hk9 hS9 hq9
          rcases hq_115 with ⟨hc_116, rfl⟩ | ⟨hc_116, rfl⟩
          · skip
            refine z_if_eq (tgt := 235) hx hb dX8_look0_188 (by decide) (by omega) (fun hc_117 => absurd hc_117 (by omega)) (fun hc_117 => ?_)
            refine lv_iload_n hx hb dX8_look0_191 rfl (lv_at hl 1 rfl) ?_
            refine z_iconst hx hb dX8_look0_192 ?_
            refine z_icmp_ge (tgt := 219) hx hb dX8_look0_193 (by decide) (by omega) (fun hc_118 => ?_) (fun hc_118 => ?_)
            · skip
              refine z_iinc (k := 1) (lv' := [(2, .int (zI (n_100 + 1))), (0, .ref (oM 0))]) hx hb dX8_look0_219 hl rfl (by decide) rfl (fun ls hl => ?_)
              refine lv_aload_n hx hb dX8_look0_222 rfl (lv_at hl 1 rfl) ?_
              refine lv_dup hx hb dX8_look0_223 rfl ?_
              refine va_get (D := D) (ci := 8) (v := .int (zI Mpos_101)) (C := RX8) (T := TX8) (N := 36) hx hb hts hinX8 hown hK hw.1 0 rfl rfl 9 (by decide) (hts (.fieldLink RX8 110 "CarnivalRoadModel" "at" "I") (by decide +kernel)) (fun _ h9 => h9) rfl dX8_look0_224 ?_
              refine z_iconst hx hb dX8_look0_227 ?_
              refine z_iadd hx hb dX8_look0_228 ?_
              refine z_put (D := D) (ci := 8) (v := .int (zI (Mpos_101 + 1))) (ty := .int) (C := RX8) (T := TX8) (N := 36) (ws2 := kM cI cB cZ oM Mthrown Mmany Mguest Mrow Mbars Mbar Mfresh Mtape Mtaped (Mpos_101 + 1) 1 Mpos_2 Mvalue_102 Mwrong MwrongAt MfaultKind MfaultPlace Mthing Morder Mone Mtwo Mbest Mcells Mgap Mwire Mstand Mruns Mminute Mhead Mplays Mrests Mwent Mout Mcame Mgone MlastOut) hx hb hts hinX8 tyX8 tyX8_ok nmX8 hown hK hw 0 rfl rfl 9 (by decide) (hts (.fieldLink RX8 110 "CarnivalRoadModel" "at" "I") (by decide +kernel)) (fun _ h9 => h9) rfl (by decide +kernel) rfl rfl (Nat.le_of_ble_eq_true rfl) dX8_look0_229 rfl (fun H locs hw => ?_)
              refine lv_goto (tgt := 173) hx hb dX8_look0_232 (by decide) ?_
              have hv_119 : (0 : Int) ≤ (Mpos_101 + 1) ∧ (Mpos_101 + 1) ≤ 400 := by
                first | assumption | omega | grind
              have hv_120 : (0 : Int) ≤ Mvalue_102 ∧ Mvalue_102 ≤ 99 := by
                first | assumption | omega | grind
              have hv_121 : Mpos_2 ≤ (Mpos_101 + 1) ∧ (Mpos_101 + 1) ≤ Mtaped := by
                first | assumption | omega | grind
              have hv_122 : (n_100 + 1) = (Mpos_101 + 1) - Mpos_2 := by
                first | assumption | omega | grind
              have hv_123 : scanL digP f Mtaped Mpos_2 = scanL digP f Mtaped (Mpos_101 + 1) := by
                have ht := hp0 Mpos_101 (by omega) (by omega)
                rw [← scan_on (p := digP) (by omega) (by unfold digP; omega)]; assumption
              have hv_124 : (Mpos_101 + 1) - Mpos_2 ≤ 2 → Mvalue_102 = numF f Mpos_2 (Mpos_101 + 1) ∧ 0 ≤ Mvalue_102 ∧ ((Mpos_101 + 1) ≤ Mpos_2 + 1 → Mvalue_102 ≤ 9) := by
                have ht := hp0 Mpos_101 (by omega) (by omega)
                first | exact num_m (by assumption) (by omega) (by omega) (by omega) (by omega) | (intro z; exfalso; omega)
              have hm_125 : (Mtaped - (Mpos_101 + 1)).toNat < (Mtaped - Mpos_101).toNat := by
                first | assumption | omega | grind
              exact ih_99 ((n_100 + 1), (Mpos_101 + 1), Mvalue_102) _ _ _ ⟨hv_119, hv_120, hv_121, hv_122, hv_123, hv_124, hw, lv_sub hl [1, 0] rfl⟩ hm_125
            · skip
              refine lv_aload_n hx hb dX8_look0_196 rfl (lv_at hl 0 rfl) ?_
              refine z_bipush hx hb dX8_look0_197 (by decide) ?_
              refine lv_aload_n hx hb dX8_look0_199 rfl (lv_at hl 0 rfl) ?_
              refine va_get (D := D) (ci := 8) (v := .int (zI Mvalue_102)) (C := RX8) (T := TX8) (N := 36) hx hb hts hinX8 hown hK hw.1 0 rfl rfl 12 (by decide) (hts (.fieldLink RX8 130 "CarnivalRoadModel" "value" "I") (by decide +kernel)) (fun _ h9 => h9) rfl dX8_look0_200 ?_
              refine z_imul hx hb dX8_look0_203 ?_
              refine lv_aload_n hx hb dX8_look0_204 rfl (lv_at hl 0 rfl) ?_
              refine lv_aload_n hx hb dX8_look0_205 rfl (lv_at hl 0 rfl) ?_
              refine va_get (D := D) (ci := 8) (v := .int (zI Mpos_101)) (C := RX8) (T := TX8) (N := 36) hx hb hts hinX8 hown hK hw.1 0 rfl rfl 9 (by decide) (hts (.fieldLink RX8 110 "CarnivalRoadModel" "at" "I") (by decide +kernel)) (fun _ h9 => h9) rfl dX8_look0_206 ?_
              have hF9 := z_free (wc := kM cI cB cZ oM Mthrown Mmany Mguest Mrow Mbars Mbar Mfresh Mtape Mtaped Mpos_101 1 Mpos_2 Mvalue_102 Mwrong MwrongAt MfaultKind MfaultPlace Mthing Morder Mone Mtwo Mbest Mcells Mgap Mwire Mstand Mruns Mminute Mhead Mplays Mrests Mwent Mout Mcame Mgone MlastOut) hw hA [0, 1, 2, 3, 4, 5, 6, 7, 8, 9, 10, 11, 12, 13, 14, 15, 16] rfl
              refine va_calli (va_runV (As := [.int (zI Mpos_101)]) (rest := [.int (zI (10 * Mvalue_102)), .ref (oM 0)]) ⟨hx, hb, hml, hown, hts⟩ (c_X8_see l D cI cB cZ oM H_113.size Mthrown Mmany Mguest Mrow Mbars Mbar Mfresh Mtape Mtaped Mpos_101 1 Mpos_2 Mvalue_102 Mwrong MwrongAt MfaultKind MfaultPlace Mthing Morder Mone Mtwo Mbest Mcells Mgap Mwire Mstand Mruns Mminute Mhead Mplays Mrests Mwent Mout Mcame Mgone MlastOut Mpos_101 (by omega) (by omega) qMguest qMrow (by omega) qMbar qMfresh qMtape (by omega) (by omega) (by omega) (by omega) (by omega) (by omega) (by omega) (by omega) (by omega) (by omega) qMorder (by omega) (by omega) qMbest (by omega) (by omega) qMwire qMstand (by omega) (by omega) qMhead qMplays qMrests qMwent qMout qMcame qMgone (by omega) (by omega)) (cwV 1 hts gX8_look0_X8_see rfl rfl rfl (by decide +kernel) ⟨Nat.le_of_ble_eq_true rfl, Nat.le_of_ble_eq_true rfl⟩) ⟨zPre_blind, va_recv hK hw.1 (ci := 8) (q0 := 0) rfl rfl, z_pre hK hw [0, 1, 2, 3, 4, 5, 6, 7, 8, 9, 10, 11, 12, 13, 14, 15, 16] (by decide) rfl⟩ rfl rfl hl.1 rfl (lv_room (Nat.le_of_ble_eq_true rfl)) dX8_look0_209 ⟨Nat.zero_le _, Nat.zero_le _⟩) hw.2.2 (fun q _ h => hF9 q h) hF9 (fun r9 u9 t9 H_126 locs9 ht9 hvm9 hq9 hB9 hz9 hk9 hS9 => ?_)
              obtain ⟨r_127, rfl⟩ : ∃ z, z = u9 := ⟨_, rfl⟩
              try dsimp only at hq9 hB9
              obtain ⟨rfl, hq9⟩ := hq9
              obtain ⟨hq_128, hq_129⟩ := hq9
              have hw : HW D A s.heap (kM cI cB cZ oM Mthrown Mmany Mguest Mrow Mbars Mbar Mfresh Mtape Mtaped Mpos_101 1 Mpos_2 Mvalue_102 Mwrong MwrongAt MfaultKind MfaultPlace Mthing Morder Mone Mtwo Mbest Mcells Mgap Mwire Mstand Mruns Mminute Mhead Mplays Mrests Mwent Mout Mcame Mgone MlastOut) H_126 locs9 := z_after (wc := kM cI cB cZ oM Mthrown Mmany Mguest Mrow Mbars Mbar Mfresh Mtape Mtaped Mpos_101 1 Mpos_2 Mvalue_102 Mwrong MwrongAt MfaultKind MfaultPlace Mthing Morder Mone Mtwo Mbest Mcells Mgap Mwire Mstand Mruns Mminute Mhead Mplays Mrests Mwent Mout Mcame Mgone MlastOut) hw [0, 1, 2, 3, 4, 5, 6, 7, 8, 9, 10, 11, 12, 13, 14, 15, 16] [] rfl rfl (by decide) (by decide) hF9 hk9 ht9 hB9 hS9 [0, 1, 2, 3, 4, 5, 6, 7, 8, 9, 10, 11, 12, 13, 14, 15, 16] (by decide) rfl
              clear hF9 ht9 hvm9 hB9 hz9 hk9 hS9
              refine z_iadd hx hb dX8_look0_212 ?_
              refine z_bipush hx hb dX8_look0_213 (by decide) ?_
              refine z_isub hx hb dX8_look0_215 ?_
              refine z_put (D := D) (ci := 8) (v := .int (zI (((10 * Mvalue_102) + r_127) - 48))) (ty := .int) (C := RX8) (T := TX8) (N := 36) (ws2 := kM cI cB cZ oM Mthrown Mmany Mguest Mrow Mbars Mbar Mfresh Mtape Mtaped Mpos_101 1 Mpos_2 (((10 * Mvalue_102) + r_127) - 48) Mwrong MwrongAt MfaultKind MfaultPlace Mthing Morder Mone Mtwo Mbest Mcells Mgap Mwire Mstand Mruns Mminute Mhead Mplays Mrests Mwent Mout Mcame Mgone MlastOut) hx hb hts hinX8 tyX8 tyX8_ok nmX8 hown hK hw 0 rfl rfl 12 (by decide) (hts (.fieldLink RX8 130 "CarnivalRoadModel" "value" "I") (by decide +kernel)) (fun _ h9 => h9) rfl (by decide +kernel) rfl rfl (Nat.le_of_ble_eq_true rfl) dX8_look0_216 rfl (fun H locs hw => ?_)
              refine z_iinc (k := 1) (lv' := [(2, .int (zI (n_100 + 1))), (0, .ref (oM 0))]) hx hb dX8_look0_219 hl rfl (by decide) rfl (fun ls hl => ?_)
              refine lv_aload_n hx hb dX8_look0_222 rfl (lv_at hl 1 rfl) ?_
              refine lv_dup hx hb dX8_look0_223 rfl ?_
              refine va_get (D := D) (ci := 8) (v := .int (zI Mpos_101)) (C := RX8) (T := TX8) (N := 36) hx hb hts hinX8 hown hK hw.1 0 rfl rfl 9 (by decide) (hts (.fieldLink RX8 110 "CarnivalRoadModel" "at" "I") (by decide +kernel)) (fun _ h9 => h9) rfl dX8_look0_224 ?_
              refine z_iconst hx hb dX8_look0_227 ?_
              refine z_iadd hx hb dX8_look0_228 ?_
              refine z_put (D := D) (ci := 8) (v := .int (zI (Mpos_101 + 1))) (ty := .int) (C := RX8) (T := TX8) (N := 36) (ws2 := kM cI cB cZ oM Mthrown Mmany Mguest Mrow Mbars Mbar Mfresh Mtape Mtaped (Mpos_101 + 1) 1 Mpos_2 (((10 * Mvalue_102) + r_127) - 48) Mwrong MwrongAt MfaultKind MfaultPlace Mthing Morder Mone Mtwo Mbest Mcells Mgap Mwire Mstand Mruns Mminute Mhead Mplays Mrests Mwent Mout Mcame Mgone MlastOut) hx hb hts hinX8 tyX8 tyX8_ok nmX8 hown hK hw 0 rfl rfl 9 (by decide) (hts (.fieldLink RX8 110 "CarnivalRoadModel" "at" "I") (by decide +kernel)) (fun _ h9 => h9) rfl (by decide +kernel) rfl rfl (Nat.le_of_ble_eq_true rfl) dX8_look0_229 rfl (fun H locs hw => ?_)
              refine lv_goto (tgt := 173) hx hb dX8_look0_232 (by decide) ?_
              have hv_130 : (0 : Int) ≤ (Mpos_101 + 1) ∧ (Mpos_101 + 1) ≤ 400 := by
                first | assumption | omega | grind
              have hv_131 : (0 : Int) ≤ (((10 * Mvalue_102) + r_127) - 48) ∧ (((10 * Mvalue_102) + r_127) - 48) ≤ 99 := by
                first | assumption | omega | grind
              have hv_132 : Mpos_2 ≤ (Mpos_101 + 1) ∧ (Mpos_101 + 1) ≤ Mtaped := by
                first | assumption | omega | grind
              have hv_133 : (n_100 + 1) = (Mpos_101 + 1) - Mpos_2 := by
                first | assumption | omega | grind
              have hv_134 : scanL digP f Mtaped Mpos_2 = scanL digP f Mtaped (Mpos_101 + 1) := by
                have ht := hp0 Mpos_101 (by omega) (by omega)
                rw [← scan_on (p := digP) (by omega) (by unfold digP; omega)]; assumption
              have hv_135 : (Mpos_101 + 1) - Mpos_2 ≤ 2 → (((10 * Mvalue_102) + r_127) - 48) = numF f Mpos_2 (Mpos_101 + 1) ∧ 0 ≤ (((10 * Mvalue_102) + r_127) - 48) ∧ ((Mpos_101 + 1) ≤ Mpos_2 + 1 → (((10 * Mvalue_102) + r_127) - 48) ≤ 9) := by
                have ht := hp0 Mpos_101 (by omega) (by omega)
                first | exact num_m (by assumption) (by omega) (by omega) (by omega) (by omega) | (intro z; exfalso; omega)
              have hm_136 : (Mtaped - (Mpos_101 + 1)).toNat < (Mtaped - Mpos_101).toNat := by
                first | assumption | omega | grind
              exact ih_99 ((n_100 + 1), (Mpos_101 + 1), (((10 * Mvalue_102) + r_127) - 48)) _ _ _ ⟨hv_130, hv_131, hv_132, hv_133, hv_134, hv_135, hw, lv_sub hl [1, 0] rfl⟩ hm_136
          · skip
            refine z_if_eq (tgt := 235) hx hb dX8_look0_188 (by decide) (by omega) (fun hc_137 => ?_) (fun hc_137 => absurd hc_137 (by omega))
            refine z_cut (σ := Int) 246 (I := fun x9 H locs ls => ((Mpos_101 - Mpos_2 ≤ 2 ∧ x9 = 2) ∨ (2 < Mpos_101 - Mpos_2 ∧ x9 = 1)) ∧ HW D A s.heap (kM cI cB cZ oM Mthrown Mmany Mguest Mrow Mbars Mbar Mfresh Mtape Mtaped Mpos_101 1 Mpos_2 Mvalue_102 Mwrong MwrongAt MfaultKind MfaultPlace Mthing Morder Mone Mtwo Mbest Mcells Mgap Mwire Mstand Mruns Mminute Mhead Mplays Mrests Mwent Mout Mcame Mgone MlastOut) H locs ∧ lv_has ls 5 []) (st := fun x9 => [.int (zI x9), .ref (oM 0)]) ?_ (fun hj_138 => ?_)
            · clear hw hl
              intro tk_139 H locs ls hI
              try dsimp only at hI ⊢
              obtain ⟨hI_140, hw, hl⟩ := hI
              have hsd : scanL digP f Mtaped Mpos_2 = Mpos_101 := by
                rcases Int.lt_or_le Mpos_101 Mtaped with hh | hh
                · have ht := hp0 Mpos_101 (by omega) hh
                  rw [← scan_off (p := digP) (f := f) (len := Mtaped) (i := Mpos_101) (by unfold digP; omega)]; assumption
                · rw [← scan_end (p := digP) (f := f) (len := Mtaped) (i := Mpos_101) (by omega)]; assumption
              refine z_put (D := D) (ci := 8) (v := .int (zI tk_139)) (ty := .int) (C := RX8) (T := TX8) (N := 36) (ws2 := kM cI cB cZ oM Mthrown Mmany Mguest Mrow Mbars Mbar Mfresh Mtape Mtaped Mpos_101 tk_139 Mpos_2 Mvalue_102 Mwrong MwrongAt MfaultKind MfaultPlace Mthing Morder Mone Mtwo Mbest Mcells Mgap Mwire Mstand Mruns Mminute Mhead Mplays Mrests Mwent Mout Mcame Mgone MlastOut) hx hb hts hinX8 tyX8 tyX8_ok nmX8 hown hK hw 0 rfl rfl 10 (by decide) (hts (.fieldLink RX8 120 "CarnivalRoadModel" "token" "I") (by decide +kernel)) (fun _ h9 => h9) rfl (by decide +kernel) rfl rfl (Nat.le_of_ble_eq_true rfl) dX8_look0_246 rfl (fun H locs hw => ?_)
              refine lv_goto (tgt := 277) hx hb dX8_look0_249 (by decide) ?_
              have hv_141 : (0 : Int) ≤ Mpos_101 ∧ Mpos_101 ≤ 400 := by
                first | assumption | omega | grind
              have hv_142 : (0 : Int) ≤ tk_139 ∧ tk_139 ≤ 15 := by
                first | assumption | omega | grind
              have hv_143 : (0 : Int) ≤ Mpos_2 ∧ Mpos_2 ≤ 400 := by
                first | assumption | omega | grind
              have hv_144 : (0 : Int) ≤ Mvalue_102 ∧ Mvalue_102 ≤ 99 := by
                first | assumption | omega | grind
              have hv_145 : qM (goF f Mtaped q) Mwrong MwrongAt tk_139 Mpos_2 Mpos_101 Mvalue_102 := by
                have hsc := (by assumption : scanL blkP f Mtaped Mpos = Mpos_2)
                have ht : Mpos_2 < Mtaped → _ := fun z => hp0 Mpos_2 (by omega) z
                have e7 : tkM 7 = 2 := rfl
                have e8 : tkM 8 = 3 := rfl
                have e9 : tkM 9 = 0 := rfl
                have e10 : tkM 10 = 1 := rfl
                refine go_m hp1 ?_
                first
                | (rw [lex_1 hsc (by omega)]; exact ⟨e9.symm, rfl, rfl, fun z => by dsimp only at z; omega⟩)
                | (rw [lex_2 hsc (by omega) (by unfold letP; omega)]
                   refine ⟨?_, rfl, hsl.symm, fun z => ?_⟩
                   · dsimp only; rw [hsl]; assumption
                   · exfalso; dsimp only at z; rw [hsl] at z; have z2 := wordF_r (f := f) (a := Mpos_2) (e := Mpos_101); omega)
                | (rw [lex_3 hsc (by omega) (by unfold letP; omega) (by unfold digP; omega)]
                   refine ⟨?_, rfl, hsd.symm, fun z => ?_⟩
                   · dsimp only; rw [hsd]; split
                     · rw [e7]; omega
                     · rw [e10]; omega
                   · dsimp only at z ⊢; rw [hsd] at z ⊢
                     have z2 : Mpos_101 - Mpos_2 ≤ 2 := by
                       apply Classical.byContradiction; intro z3; rw [if_neg z3] at z; omega
                     exact ((by assumption : Mpos_101 - Mpos_2 ≤ 2 → Mvalue_102 = numF f Mpos_2 Mpos_101 ∧ _) z2).1)
                | (rw [lex_4 hsc (by omega) (by unfold letP; omega) (by unfold digP; omega)]
                   refine ⟨?_, rfl, rfl, fun z => ?_⟩
                   · dsimp only; split
                     · rw [e8]; omega
                     · rw [e10]; omega
                   · exfalso; dsimp only at z; split at z <;> omega)
              have hv_146 : Mpos_101 ≤ Mtaped := by
                omega
              exact W.vret hx hb hr (fun t9 ht hW => ⟨⟨(Mpos_101, tk_139, Mpos_2, Mvalue_102), rfl, ⟨hv_141, hv_142, hv_143, hv_144, hv_145, hv_146⟩, by subst hAe; exact z_end hK hw ht hW⟩, by subst hAe; exact hw.2.2.F ht⟩) (by subst hAe; exact hw.2.2.2.2) dX8_look0_277
            refine lv_aload_n hx hb dX8_look0_235 rfl (lv_at hl 0 rfl) ?_
            refine lv_iload_n hx hb dX8_look0_236 rfl (lv_at hl 1 rfl) ?_
            refine z_iconst hx hb dX8_look0_237 ?_
            refine z_icmp_ge (tgt := 245) hx hb dX8_look0_238 (by decide) (by omega) (fun hc_147 => ?_) (fun hc_147 => ?_)
            · skip
              refine z_iconst hx hb dX8_look0_245 ?_
              have hv_148 : (Mpos_101 - Mpos_2 ≤ 2 ∧ (1 : Int) = 2) ∨ (2 < Mpos_101 - Mpos_2 ∧ (1 : Int) = 1) := by
                omega
              exact hj_138 1 _ _ _ ⟨hv_148, hw, lv_sub hl [] rfl⟩
            · skip
              refine z_iconst hx hb dX8_look0_241 ?_
              refine lv_goto (tgt := 246) hx hb dX8_look0_242 (by decide) ?_
              have hv_149 : (Mpos_101 - Mpos_2 ≤ 2 ∧ (2 : Int) = 2) ∨ (2 < Mpos_101 - Mpos_2 ∧ (2 : Int) = 1) := by
                omega
              exact hj_138 2 _ _ _ ⟨hv_149, hw, lv_sub hl [] rfl⟩
        · skip
          refine z_if_eq (tgt := 252) hx hb dX8_look0_165 (by decide) (by omega) (fun hc_150 => ?_) (fun hc_150 => absurd hc_150 (by omega))
          refine lv_aload_n hx hb dX8_look0_252 rfl (lv_at hl 2 rfl) ?_
          refine lv_dup hx hb dX8_look0_253 rfl ?_
          refine va_get (D := D) (ci := 8) (v := .int (zI Mpos_2)) (C := RX8) (T := TX8) (N := 36) hx hb hts hinX8 hown hK hw.1 0 rfl rfl 9 (by decide) (hts (.fieldLink RX8 110 "CarnivalRoadModel" "at" "I") (by decide +kernel)) (fun _ h9 => h9) rfl dX8_look0_254 ?_
          refine z_iconst hx hb dX8_look0_257 ?_
          refine z_iadd hx hb dX8_look0_258 ?_
          refine z_put (D := D) (ci := 8) (v := .int (zI (Mpos_2 + 1))) (ty := .int) (C := RX8) (T := TX8) (N := 36) (ws2 := kM cI cB cZ oM Mthrown Mmany Mguest Mrow Mbars Mbar Mfresh Mtape Mtaped (Mpos_2 + 1) 1 Mpos_2 Mvalue Mwrong MwrongAt MfaultKind MfaultPlace Mthing Morder Mone Mtwo Mbest Mcells Mgap Mwire Mstand Mruns Mminute Mhead Mplays Mrests Mwent Mout Mcame Mgone MlastOut) hx hb hts hinX8 tyX8 tyX8_ok nmX8 hown hK hw 0 rfl rfl 9 (by decide) (hts (.fieldLink RX8 110 "CarnivalRoadModel" "at" "I") (by decide +kernel)) (fun _ h9 => h9) rfl (by decide +kernel) rfl rfl (Nat.le_of_ble_eq_true rfl) dX8_look0_259 rfl (fun H locs hw => ?_)
          refine z_cut (σ := Int) 274 (I := fun x9 H locs ls => ((f Mpos_2 = 59 ∧ x9 = 3) ∨ (¬ f Mpos_2 = 59 ∧ x9 = 1)) ∧ HW D A s.heap (kM cI cB cZ oM Mthrown Mmany Mguest Mrow Mbars Mbar Mfresh Mtape Mtaped (Mpos_2 + 1) 1 Mpos_2 Mvalue Mwrong MwrongAt MfaultKind MfaultPlace Mthing Morder Mone Mtwo Mbest Mcells Mgap Mwire Mstand Mruns Mminute Mhead Mplays Mrests Mwent Mout Mcame Mgone MlastOut) H locs ∧ lv_has ls 5 []) (st := fun x9 => [.int (zI x9), .ref (oM 0)]) ?_ (fun hj_151 => ?_)
          · clear hw hl
            intro tk_152 H locs ls hI
            try dsimp only at hI ⊢
            obtain ⟨hI_153, hw, hl⟩ := hI
            refine z_put (D := D) (ci := 8) (v := .int (zI tk_152)) (ty := .int) (C := RX8) (T := TX8) (N := 36) (ws2 := kM cI cB cZ oM Mthrown Mmany Mguest Mrow Mbars Mbar Mfresh Mtape Mtaped (Mpos_2 + 1) tk_152 Mpos_2 Mvalue Mwrong MwrongAt MfaultKind MfaultPlace Mthing Morder Mone Mtwo Mbest Mcells Mgap Mwire Mstand Mruns Mminute Mhead Mplays Mrests Mwent Mout Mcame Mgone MlastOut) hx hb hts hinX8 tyX8 tyX8_ok nmX8 hown hK hw 0 rfl rfl 10 (by decide) (hts (.fieldLink RX8 120 "CarnivalRoadModel" "token" "I") (by decide +kernel)) (fun _ h9 => h9) rfl (by decide +kernel) rfl rfl (Nat.le_of_ble_eq_true rfl) dX8_look0_274 rfl (fun H locs hw => ?_)
            have hv_154 : (0 : Int) ≤ (Mpos_2 + 1) ∧ (Mpos_2 + 1) ≤ 400 := by
              first | assumption | omega | grind
            have hv_155 : (0 : Int) ≤ tk_152 ∧ tk_152 ≤ 15 := by
              first | assumption | omega | grind
            have hv_156 : (0 : Int) ≤ Mpos_2 ∧ Mpos_2 ≤ 400 := by
              first | assumption | omega | grind
            have hv_157 : (0 : Int) ≤ Mvalue ∧ Mvalue ≤ 99 := by
              first | assumption | omega | grind
            have hv_158 : qM (goF f Mtaped q) Mwrong MwrongAt tk_152 Mpos_2 (Mpos_2 + 1) Mvalue := by
              have hsc := (by assumption : scanL blkP f Mtaped Mpos = Mpos_2)
              have ht : Mpos_2 < Mtaped → _ := fun z => hp0 Mpos_2 (by omega) z
              have e7 : tkM 7 = 2 := rfl
              have e8 : tkM 8 = 3 := rfl
              have e9 : tkM 9 = 0 := rfl
              have e10 : tkM 10 = 1 := rfl
              refine go_m hp1 ?_
              first
              | (rw [lex_1 hsc (by omega)]; exact ⟨e9.symm, rfl, rfl, fun z => by dsimp only at z; omega⟩)
              | (rw [lex_2 hsc (by omega) (by unfold letP; omega)]
                 refine ⟨?_, rfl, hsl.symm, fun z => ?_⟩
                 · dsimp only; rw [hsl]; assumption
                 · exfalso; dsimp only at z; rw [hsl] at z; have z2 := wordF_r (f := f) (a := Mpos_2) (e := (Mpos_2 + 1)); omega)
              | (rw [lex_3 hsc (by omega) (by unfold letP; omega) (by unfold digP; omega)]
                 refine ⟨?_, rfl, hsd.symm, fun z => ?_⟩
                 · dsimp only; rw [hsd]; split
                   · rw [e7]; omega
                   · rw [e10]; omega
                 · dsimp only at z ⊢; rw [hsd] at z ⊢
                   have z2 : (Mpos_2 + 1) - Mpos_2 ≤ 2 := by
                     apply Classical.byContradiction; intro z3; rw [if_neg z3] at z; omega
                   exact ((by assumption : (Mpos_2 + 1) - Mpos_2 ≤ 2 → Mvalue = numF f Mpos_2 (Mpos_2 + 1) ∧ _) z2).1)
              | (rw [lex_4 hsc (by omega) (by unfold letP; omega) (by unfold digP; omega)]
                 refine ⟨?_, rfl, rfl, fun z => ?_⟩
                 · dsimp only; split
                   · rw [e8]; omega
                   · rw [e10]; omega
                 · exfalso; dsimp only at z; split at z <;> omega)
            have hv_159 : (Mpos_2 + 1) ≤ Mtaped := by
              omega
            exact W.vret hx hb hr (fun t9 ht hW => ⟨⟨((Mpos_2 + 1), tk_152, Mpos_2, Mvalue), rfl, ⟨hv_154, hv_155, hv_156, hv_157, hv_158, hv_159⟩, by subst hAe; exact z_end hK hw ht hW⟩, by subst hAe; exact hw.2.2.F ht⟩) (by subst hAe; exact hw.2.2.2.2) dX8_look0_277
          refine lv_aload_n hx hb dX8_look0_262 rfl (lv_at hl 2 rfl) ?_
          refine lv_iload_n hx hb dX8_look0_263 rfl (lv_at hl 1 rfl) ?_
          refine z_bipush hx hb dX8_look0_264 (by decide) ?_
          refine z_icmp_ne (tgt := 273) hx hb dX8_look0_266 (by decide) (by omega) (fun hc_160 => ?_) (fun hc_160 => ?_)
          · skip
            refine z_iconst hx hb dX8_look0_273 ?_
            have hv_161 : (f Mpos_2 = 59 ∧ (1 : Int) = 3) ∨ (¬ f Mpos_2 = 59 ∧ (1 : Int) = 1) := by
              have ht := hp0 Mpos_2 (by omega) (by omega)
              omega
            exact hj_151 1 _ _ _ ⟨hv_161, hw, lv_sub hl [] rfl⟩
          · skip
            refine z_iconst hx hb dX8_look0_269 ?_
            refine lv_goto (tgt := 274) hx hb dX8_look0_270 (by decide) ?_
            have hv_162 : (f Mpos_2 = 59 ∧ (3 : Int) = 3) ∨ (¬ f Mpos_2 = 59 ∧ (3 : Int) = 1) := by
              have ht := hp0 Mpos_2 (by omega) (by omega)
              omega
            exact hj_151 3 _ _ _ ⟨hv_162, hw, lv_sub hl [] rfl⟩
    · skip
      refine lv_aload_n hx hb dX8_look0_68 rfl (lv_at hl 2 rfl) ?_
      refine z_iconst hx hb dX8_look0_69 ?_
      refine z_put (D := D) (ci := 8) (v := .int (zI 0)) (ty := .int) (C := RX8) (T := TX8) (N := 36) (ws2 := kM cI cB cZ oM Mthrown Mmany Mguest Mrow Mbars Mbar Mfresh Mtape Mtaped Mpos_2 0 Mpos_2 Mvalue Mwrong MwrongAt MfaultKind MfaultPlace Mthing Morder Mone Mtwo Mbest Mcells Mgap Mwire Mstand Mruns Mminute Mhead Mplays Mrests Mwent Mout Mcame Mgone MlastOut) hx hb hts hinX8 tyX8 tyX8_ok nmX8 hown hK hw 0 rfl rfl 10 (by decide) (hts (.fieldLink RX8 120 "CarnivalRoadModel" "token" "I") (by decide +kernel)) (fun _ h9 => h9) rfl (by decide +kernel) rfl rfl (Nat.le_of_ble_eq_true rfl) dX8_look0_70 rfl (fun H locs hw => ?_)
      refine lv_goto (tgt := 277) hx hb dX8_look0_73 (by decide) ?_
      have hv_163 : (0 : Int) ≤ Mpos_2 ∧ Mpos_2 ≤ 400 := by
        first | assumption | omega | grind
      have hv_164 : (0 : Int) ≤ (0 : Int) ∧ (0 : Int) ≤ 15 := by
        first | assumption | omega | grind
      have hv_165 : (0 : Int) ≤ Mpos_2 ∧ Mpos_2 ≤ 400 := by
        first | assumption | omega | grind
      have hv_166 : (0 : Int) ≤ Mvalue ∧ Mvalue ≤ 99 := by
        first | assumption | omega | grind
      have hv_167 : qM (goF f Mtaped q) Mwrong MwrongAt (0 : Int) Mpos_2 Mpos_2 Mvalue := by
        have hsc := (by assumption : scanL blkP f Mtaped Mpos = Mpos_2)
        have ht : Mpos_2 < Mtaped → _ := fun z => hp0 Mpos_2 (by omega) z
        have e7 : tkM 7 = 2 := rfl
        have e8 : tkM 8 = 3 := rfl
        have e9 : tkM 9 = 0 := rfl
        have e10 : tkM 10 = 1 := rfl
        refine go_m hp1 ?_
        first
        | (rw [lex_1 hsc (by omega)]; exact ⟨e9.symm, rfl, rfl, fun z => by dsimp only at z; omega⟩)
        | (rw [lex_2 hsc (by omega) (by unfold letP; omega)]
           refine ⟨?_, rfl, hsl.symm, fun z => ?_⟩
           · dsimp only; rw [hsl]; assumption
           · exfalso; dsimp only at z; rw [hsl] at z; have z2 := wordF_r (f := f) (a := Mpos_2) (e := Mpos_2); omega)
        | (rw [lex_3 hsc (by omega) (by unfold letP; omega) (by unfold digP; omega)]
           refine ⟨?_, rfl, hsd.symm, fun z => ?_⟩
           · dsimp only; rw [hsd]; split
             · rw [e7]; omega
             · rw [e10]; omega
           · dsimp only at z ⊢; rw [hsd] at z ⊢
             have z2 : Mpos_2 - Mpos_2 ≤ 2 := by
               apply Classical.byContradiction; intro z3; rw [if_neg z3] at z; omega
             exact ((by assumption : Mpos_2 - Mpos_2 ≤ 2 → Mvalue = numF f Mpos_2 Mpos_2 ∧ _) z2).1)
        | (rw [lex_4 hsc (by omega) (by unfold letP; omega) (by unfold digP; omega)]
           refine ⟨?_, rfl, rfl, fun z => ?_⟩
           · dsimp only; split
             · rw [e8]; omega
             · rw [e10]; omega
           · exfalso; dsimp only at z; split at z <;> omega)
      have hv_168 : Mpos_2 ≤ Mtaped := by
        omega
      exact W.vret hx hb hr (fun t9 ht hW => ⟨⟨(Mpos_2, 0, Mpos_2, Mvalue), rfl, ⟨hv_163, hv_164, hv_165, hv_166, hv_167, hv_168⟩, by subst hAe; exact z_end hK hw ht hW⟩, by subst hAe; exact hw.2.2.F ht⟩) (by subst hAe; exact hw.2.2.2.2) dX8_look0_277
  have hv_169 : (0 : Int) ≤ Mpos ∧ Mpos ≤ 400 := by
    first | assumption | omega | grind
  have hv_170 : Mpos ≤ Mpos ∧ Mpos ≤ Mtaped := by
    first | assumption | omega | grind
  have hv_171 : scanL blkP f Mtaped Mpos = scanL blkP f Mtaped Mpos := by
    rfl
  refine z_loop (σ := Int) (μ := fun x9 => (Mtaped - x9).toNat) (I := fun x9 H locs ls => ((0 : Int) ≤ x9 ∧ x9 ≤ 400) ∧ (Mpos ≤ x9 ∧ x9 ≤ Mtaped) ∧ (scanL blkP f Mtaped Mpos = scanL blkP f Mtaped x9) ∧ HW D A s.heap (kM cI cB cZ oM Mthrown Mmany Mguest Mrow Mbars Mbar Mfresh Mtape Mtaped x9 Mtoken MtokenAt Mvalue Mwrong MwrongAt MfaultKind MfaultPlace Mthing Morder Mone Mtwo Mbest Mcells Mgap Mwire Mstand Mruns Mminute Mhead Mplays Mrests Mwent Mout Mcame Mgone MlastOut) H locs ∧ lv_has ls 5 [(0, .ref (oM 0))]) Mpos ⟨hv_169, hv_170, hv_171, hw, lv_sub hl [0] rfl⟩ ?_
  clear hw hl
  intro Mpos_173 H locs ls hI ih_172
  try dsimp only at hI
  obtain ⟨hq_174, hI_175, hI_176, hw, hl⟩ := hI
  refine lv_aload_n hx hb dX8_look0_0 rfl (lv_at hl 0 rfl) ?_
  refine lv_aload_n hx hb dX8_look0_1 rfl (lv_at hl 0 rfl) ?_
  refine va_get (D := D) (ci := 8) (v := .int (zI Mpos_173)) (C := RX8) (T := TX8) (N := 36) hx hb hts hinX8 hown hK hw.1 0 rfl rfl 9 (by decide) (hts (.fieldLink RX8 110 "CarnivalRoadModel" "at" "I") (by decide +kernel)) (fun _ h9 => h9) rfl dX8_look0_2 ?_
  have hF9 := z_free (wc := kM cI cB cZ oM Mthrown Mmany Mguest Mrow Mbars Mbar Mfresh Mtape Mtaped Mpos_173 Mtoken MtokenAt Mvalue Mwrong MwrongAt MfaultKind MfaultPlace Mthing Morder Mone Mtwo Mbest Mcells Mgap Mwire Mstand Mruns Mminute Mhead Mplays Mrests Mwent Mout Mcame Mgone MlastOut) hw hA [0, 1, 2, 3, 4, 5, 6, 7, 8, 9, 10, 11, 12, 13, 14, 15, 16] rfl
  refine va_calli (va_runV (As := [.int (zI Mpos_173)]) (rest := []) ⟨hx, hb, hml, hown, hts⟩ (c_X8_see l D cI cB cZ oM H.size Mthrown Mmany Mguest Mrow Mbars Mbar Mfresh Mtape Mtaped Mpos_173 Mtoken MtokenAt Mvalue Mwrong MwrongAt MfaultKind MfaultPlace Mthing Morder Mone Mtwo Mbest Mcells Mgap Mwire Mstand Mruns Mminute Mhead Mplays Mrests Mwent Mout Mcame Mgone MlastOut Mpos_173 (by omega) (by omega) qMguest qMrow (by omega) qMbar qMfresh qMtape (by omega) (by omega) (by omega) (by omega) (by omega) (by omega) (by omega) (by omega) (by omega) (by omega) qMorder (by omega) (by omega) qMbest (by omega) (by omega) qMwire qMstand (by omega) (by omega) qMhead qMplays qMrests qMwent qMout qMcame qMgone (by omega) (by omega)) (cwV 1 hts gX8_look0_X8_see rfl rfl rfl (by decide +kernel) ⟨Nat.le_of_ble_eq_true rfl, Nat.le_of_ble_eq_true rfl⟩) ⟨zPre_blind, va_recv hK hw.1 (ci := 8) (q0 := 0) rfl rfl, z_pre hK hw [0, 1, 2, 3, 4, 5, 6, 7, 8, 9, 10, 11, 12, 13, 14, 15, 16] (by decide) rfl⟩ rfl rfl hl.1 rfl (lv_room (Nat.le_of_ble_eq_true rfl)) dX8_look0_5 ⟨Nat.zero_le _, Nat.zero_le _⟩) hw.2.2 (fun q _ h => hF9 q h) hF9 (fun r9 u9 t9 H_177 locs9 ht9 hvm9 hq9 hB9 hz9 hk9 hS9 => ?_)
  obtain ⟨r_178, rfl⟩ : ∃ z, z = u9 := ⟨_, rfl⟩
  try dsimp only at hq9 hB9
  obtain ⟨rfl, hq9⟩ := hq9
  obtain ⟨hq_179, hq_180⟩ := hq9
  have hw : HW D A s.heap (kM cI cB cZ oM Mthrown Mmany Mguest Mrow Mbars Mbar Mfresh Mtape Mtaped Mpos_173 Mtoken MtokenAt Mvalue Mwrong MwrongAt MfaultKind MfaultPlace Mthing Morder Mone Mtwo Mbest Mcells Mgap Mwire Mstand Mruns Mminute Mhead Mplays Mrests Mwent Mout Mcame Mgone MlastOut) H_177 locs9 := z_after (wc := kM cI cB cZ oM Mthrown Mmany Mguest Mrow Mbars Mbar Mfresh Mtape Mtaped Mpos_173 Mtoken MtokenAt Mvalue Mwrong MwrongAt MfaultKind MfaultPlace Mthing Morder Mone Mtwo Mbest Mcells Mgap Mwire Mstand Mruns Mminute Mhead Mplays Mrests Mwent Mout Mcame Mgone MlastOut) hw [0, 1, 2, 3, 4, 5, 6, 7, 8, 9, 10, 11, 12, 13, 14, 15, 16] [] rfl rfl (by decide) (by decide) hF9 hk9 ht9 hB9 hS9 [0, 1, 2, 3, 4, 5, 6, 7, 8, 9, 10, 11, 12, 13, 14, 15, 16] (by decide) rfl
  clear hF9 ht9 hvm9 hB9 hz9 hk9 hS9
  refine z_bipush hx hb dX8_look0_8 (by decide) ?_
  refine z_icmp_eq (tgt := 26) hx hb dX8_look0_10 (by decide) (by omega) (fun hc_181 => ?_) (fun hc_181 => ?_)
  · skip
    refine lv_aload_n hx hb dX8_look0_26 rfl (lv_at hl 0 rfl) ?_
    refine lv_dup hx hb dX8_look0_27 rfl ?_
    refine va_get (D := D) (ci := 8) (v := .int (zI Mpos_173)) (C := RX8) (T := TX8) (N := 36) hx hb hts hinX8 hown hK hw.1 0 rfl rfl 9 (by decide) (hts (.fieldLink RX8 110 "CarnivalRoadModel" "at" "I") (by decide +kernel)) (fun _ h9 => h9) rfl dX8_look0_28 ?_
    refine z_iconst hx hb dX8_look0_31 ?_
    refine z_iadd hx hb dX8_look0_32 ?_
    refine z_put (D := D) (ci := 8) (v := .int (zI (Mpos_173 + 1))) (ty := .int) (C := RX8) (T := TX8) (N := 36) (ws2 := kM cI cB cZ oM Mthrown Mmany Mguest Mrow Mbars Mbar Mfresh Mtape Mtaped (Mpos_173 + 1) Mtoken MtokenAt Mvalue Mwrong MwrongAt MfaultKind MfaultPlace Mthing Morder Mone Mtwo Mbest Mcells Mgap Mwire Mstand Mruns Mminute Mhead Mplays Mrests Mwent Mout Mcame Mgone MlastOut) hx hb hts hinX8 tyX8 tyX8_ok nmX8 hown hK hw 0 rfl rfl 9 (by decide) (hts (.fieldLink RX8 110 "CarnivalRoadModel" "at" "I") (by decide +kernel)) (fun _ h9 => h9) rfl (by decide +kernel) rfl rfl (Nat.le_of_ble_eq_true rfl) dX8_look0_33 rfl (fun H locs hw => ?_)
    refine lv_goto (tgt := 0) hx hb dX8_look0_36 (by decide) ?_
    have hv_182 : (0 : Int) ≤ (Mpos_173 + 1) ∧ (Mpos_173 + 1) ≤ 400 := by
      first | assumption | omega | grind
    have hv_183 : Mpos ≤ (Mpos_173 + 1) ∧ (Mpos_173 + 1) ≤ Mtaped := by
      first | assumption | omega | grind
    have hv_184 : scanL blkP f Mtaped Mpos = scanL blkP f Mtaped (Mpos_173 + 1) := by
      have ht := hp0 Mpos_173 (by omega) (by omega)
      rw [← scan_on (p := blkP) (by omega) (by unfold blkP; omega)]; assumption
    have hm_185 : (Mtaped - (Mpos_173 + 1)).toNat < (Mtaped - Mpos_173).toNat := by
      first | assumption | omega | grind
    exact ih_172 (Mpos_173 + 1) _ _ _ ⟨hv_182, hv_183, hv_184, hw, lv_sub hl [0] rfl⟩ hm_185
  · skip
    refine lv_aload_n hx hb dX8_look0_13 rfl (lv_at hl 0 rfl) ?_
    refine lv_aload_n hx hb dX8_look0_14 rfl (lv_at hl 0 rfl) ?_
    refine va_get (D := D) (ci := 8) (v := .int (zI Mpos_173)) (C := RX8) (T := TX8) (N := 36) hx hb hts hinX8 hown hK hw.1 0 rfl rfl 9 (by decide) (hts (.fieldLink RX8 110 "CarnivalRoadModel" "at" "I") (by decide +kernel)) (fun _ h9 => h9) rfl dX8_look0_15 ?_
    have hF9 := z_free (wc := kM cI cB cZ oM Mthrown Mmany Mguest Mrow Mbars Mbar Mfresh Mtape Mtaped Mpos_173 Mtoken MtokenAt Mvalue Mwrong MwrongAt MfaultKind MfaultPlace Mthing Morder Mone Mtwo Mbest Mcells Mgap Mwire Mstand Mruns Mminute Mhead Mplays Mrests Mwent Mout Mcame Mgone MlastOut) hw hA [0, 1, 2, 3, 4, 5, 6, 7, 8, 9, 10, 11, 12, 13, 14, 15, 16] rfl
    refine va_calli (va_runV (As := [.int (zI Mpos_173)]) (rest := []) ⟨hx, hb, hml, hown, hts⟩ (c_X8_see l D cI cB cZ oM H_177.size Mthrown Mmany Mguest Mrow Mbars Mbar Mfresh Mtape Mtaped Mpos_173 Mtoken MtokenAt Mvalue Mwrong MwrongAt MfaultKind MfaultPlace Mthing Morder Mone Mtwo Mbest Mcells Mgap Mwire Mstand Mruns Mminute Mhead Mplays Mrests Mwent Mout Mcame Mgone MlastOut Mpos_173 (by omega) (by omega) qMguest qMrow (by omega) qMbar qMfresh qMtape (by omega) (by omega) (by omega) (by omega) (by omega) (by omega) (by omega) (by omega) (by omega) (by omega) qMorder (by omega) (by omega) qMbest (by omega) (by omega) qMwire qMstand (by omega) (by omega) qMhead qMplays qMrests qMwent qMout qMcame qMgone (by omega) (by omega)) (cwV 1 hts gX8_look0_X8_see rfl rfl rfl (by decide +kernel) ⟨Nat.le_of_ble_eq_true rfl, Nat.le_of_ble_eq_true rfl⟩) ⟨zPre_blind, va_recv hK hw.1 (ci := 8) (q0 := 0) rfl rfl, z_pre hK hw [0, 1, 2, 3, 4, 5, 6, 7, 8, 9, 10, 11, 12, 13, 14, 15, 16] (by decide) rfl⟩ rfl rfl hl.1 rfl (lv_room (Nat.le_of_ble_eq_true rfl)) dX8_look0_18 ⟨Nat.zero_le _, Nat.zero_le _⟩) hw.2.2 (fun q _ h => hF9 q h) hF9 (fun r9 u9 t9 H_186 locs9 ht9 hvm9 hq9 hB9 hz9 hk9 hS9 => ?_)
    obtain ⟨r_187, rfl⟩ : ∃ z, z = u9 := ⟨_, rfl⟩
    try dsimp only at hq9 hB9
    obtain ⟨rfl, hq9⟩ := hq9
    obtain ⟨hq_188, hq_189⟩ := hq9
    have hw : HW D A s.heap (kM cI cB cZ oM Mthrown Mmany Mguest Mrow Mbars Mbar Mfresh Mtape Mtaped Mpos_173 Mtoken MtokenAt Mvalue Mwrong MwrongAt MfaultKind MfaultPlace Mthing Morder Mone Mtwo Mbest Mcells Mgap Mwire Mstand Mruns Mminute Mhead Mplays Mrests Mwent Mout Mcame Mgone MlastOut) H_186 locs9 := z_after (wc := kM cI cB cZ oM Mthrown Mmany Mguest Mrow Mbars Mbar Mfresh Mtape Mtaped Mpos_173 Mtoken MtokenAt Mvalue Mwrong MwrongAt MfaultKind MfaultPlace Mthing Morder Mone Mtwo Mbest Mcells Mgap Mwire Mstand Mruns Mminute Mhead Mplays Mrests Mwent Mout Mcame Mgone MlastOut) hw [0, 1, 2, 3, 4, 5, 6, 7, 8, 9, 10, 11, 12, 13, 14, 15, 16] [] rfl rfl (by decide) (by decide) hF9 hk9 ht9 hB9 hS9 [0, 1, 2, 3, 4, 5, 6, 7, 8, 9, 10, 11, 12, 13, 14, 15, 16] (by decide) rfl
    clear hF9 ht9 hvm9 hB9 hz9 hk9 hS9
    refine z_bipush hx hb dX8_look0_21 (by decide) ?_
    refine z_icmp_ne (tgt := 39) hx hb dX8_look0_23 (by decide) (by omega) (fun hc_190 => ?_) (fun hc_190 => ?_)
    · skip
      have hv_191 : (0 : Int) ≤ Mpos_173 ∧ Mpos_173 ≤ 400 := by
        first | assumption | omega | grind
      have hv_192 : Mpos ≤ Mpos_173 ∧ Mpos_173 ≤ Mtaped := by
        first | assumption | omega | grind
      have hv_193 : scanL blkP f Mtaped Mpos = Mpos_173 := by
        rcases Int.lt_or_le Mpos_173 Mtaped with hh | hh
        · have ht := hp0 Mpos_173 (by omega) hh
          rw [← scan_off (p := blkP) (f := f) (len := Mtaped) (i := Mpos_173) (by unfold blkP; omega)]; assumption
        · rw [← scan_end (p := blkP) (f := f) (len := Mtaped) (i := Mpos_173) (by omega)]; assumption
      exact hj_1 Mpos_173 _ _ _ ⟨hv_191, hv_192, hv_193, hw, lv_sub hl [0] rfl⟩
    · skip
      refine lv_aload_n hx hb dX8_look0_26 rfl (lv_at hl 0 rfl) ?_
      refine lv_dup hx hb dX8_look0_27 rfl ?_
      refine va_get (D := D) (ci := 8) (v := .int (zI Mpos_173)) (C := RX8) (T := TX8) (N := 36) hx hb hts hinX8 hown hK hw.1 0 rfl rfl 9 (by decide) (hts (.fieldLink RX8 110 "CarnivalRoadModel" "at" "I") (by decide +kernel)) (fun _ h9 => h9) rfl dX8_look0_28 ?_
      refine z_iconst hx hb dX8_look0_31 ?_
      refine z_iadd hx hb dX8_look0_32 ?_
      refine z_put (D := D) (ci := 8) (v := .int (zI (Mpos_173 + 1))) (ty := .int) (C := RX8) (T := TX8) (N := 36) (ws2 := kM cI cB cZ oM Mthrown Mmany Mguest Mrow Mbars Mbar Mfresh Mtape Mtaped (Mpos_173 + 1) Mtoken MtokenAt Mvalue Mwrong MwrongAt MfaultKind MfaultPlace Mthing Morder Mone Mtwo Mbest Mcells Mgap Mwire Mstand Mruns Mminute Mhead Mplays Mrests Mwent Mout Mcame Mgone MlastOut) hx hb hts hinX8 tyX8 tyX8_ok nmX8 hown hK hw 0 rfl rfl 9 (by decide) (hts (.fieldLink RX8 110 "CarnivalRoadModel" "at" "I") (by decide +kernel)) (fun _ h9 => h9) rfl (by decide +kernel) rfl rfl (Nat.le_of_ble_eq_true rfl) dX8_look0_33 rfl (fun H locs hw => ?_)
      refine lv_goto (tgt := 0) hx hb dX8_look0_36 (by decide) ?_
      have hv_194 : (0 : Int) ≤ (Mpos_173 + 1) ∧ (Mpos_173 + 1) ≤ 400 := by
        first | assumption | omega | grind
      have hv_195 : Mpos ≤ (Mpos_173 + 1) ∧ (Mpos_173 + 1) ≤ Mtaped := by
        first | assumption | omega | grind
      have hv_196 : scanL blkP f Mtaped Mpos = scanL blkP f Mtaped (Mpos_173 + 1) := by
        have ht := hp0 Mpos_173 (by omega) (by omega)
        rw [← scan_on (p := blkP) (by omega) (by unfold blkP; omega)]; assumption
      have hm_197 : (Mtaped - (Mpos_173 + 1)).toNat < (Mtaped - Mpos_173).toNat := by
        first | assumption | omega | grind
      exact ih_172 (Mpos_173 + 1) _ _ _ ⟨hv_194, hv_195, hv_196, hw, lv_sub hl [0] rfl⟩ hm_197
