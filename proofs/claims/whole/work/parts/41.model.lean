set_option maxRecDepth 100000 in
set_option maxHeartbeats 4000000 in
theorem c_X8_isIn (l : Launch) (D : va_G) (cI cB cZ : ClassId) (sz : Nat) (v : Int) (a : Int) (b : Int) (qv : -2147483648 ≤ v ∧ v ≤ 2147483647) (qa : -2147483648 ≤ a ∧ a ≤ 2147483647) (qb : -2147483648 ≤ b ∧ b ≤ 2147483647) : Met l yX8_isIn wsX8_isIn ({ frames := 0, cells := 0, slots := 0, locals := 0 }) (va_Pc [.int (zI v), .int (zI a), .int (zI b)] (zPre D cI cB cZ sz (([] : va_W)))) (va_Qi (fun (r9 : Int32) (u9 : Int) => r9 = zI u9 ∧ ((((a ≤ v ∧ v ≤ b) ∧ u9 = 1) ∨ (¬ (a ≤ v ∧ v ≤ b) ∧ u9 = 0)))) (fun u9 t9 => zAt D cI cB cZ (va_A (([] : va_W)) sz) (([] : va_W)) t9) (va_A (([] : va_W)) sz)) 0 0 (va_A (([] : va_W)) sz) := by
  refine Met.ofW (cc := cX8_isIn) (maxL := 3) (ret := (some .boolean)) (by decide) rfl ?_
  intro pp ee s mm aa bw mt cd s₁ BL hml hv
  obtain ⟨rfl, hsz, hP, hK, hD0⟩ := hv
  have hx := BL.exec
  have hb := BL.bytes
  have hr := BL.returns
  have hts := atoms_spec (ws := wsX8_isIn) BL.pre
  have hown : s.vm.findClass RX8 = some mm.cls := findClass_of_methodNamed BL.named
  have hlocks := BL.notSynchronized
  subst hsz
  generalize hAe : va_A (([] : va_W)) s.heap.size = A
  have hA : ∀ q : Nat, s.heap.size ≤ q → A q := fun q h => by rw [← hAe]; exact Or.inr h
  have hw : HW D A s.heap (([] : va_W)) s.heap [] := z_start hAe hP hD0
  clear hP hD0
  have hl := lv_entry ([.int (zI v), .int (zI a), .int (zI b)]) (n := 3) (Nat.le_of_ble_eq_true rfl)
  rw [lg_entry_eq]
  generalize (lg_sl ([.int (zI v), .int (zI a), .int (zI b)]) ++ List.replicate (3 - (lg_sl ([.int (zI v), .int (zI a), .int (zI b)])).length) Slot.unset).toArray = ls at hl ⊢
  have hl : lv_has ls 3 [(0, .int (zI v)), (1, .int (zI a)), (2, .int (zI b))] := hl
  refine lv_iload_n hx hb dX8_isIn_0 rfl (lv_at hl 0 rfl) ?_
  refine lv_iload_n hx hb dX8_isIn_1 rfl (lv_at hl 1 rfl) ?_
  refine z_icmp_lt (tgt := 14) hx hb dX8_isIn_2 (by decide) (by omega) (fun hc_1 => ?_) (fun hc_1 => ?_)
  · skip
    refine z_iconst hx hb dX8_isIn_14 ?_
    have hv_2 : ((a ≤ v ∧ v ≤ b) ∧ (0 : Int) = 1) ∨ (¬ (a ≤ v ∧ v ≤ b) ∧ (0 : Int) = 0) := by
      first | assumption | omega | grind
    exact W.zret (v := zI 0) hx hb hr rfl (fun t9 ht hW => ⟨⟨zI 0, 0, rfl, ⟨rfl, hv_2⟩, by subst hAe; exact z_end hK hw ht hW⟩, by subst hAe; exact hw.2.2.F ht⟩) (by subst hAe; exact hw.2.2.2.2) dX8_isIn_15
  · skip
    refine lv_iload_n hx hb dX8_isIn_5 rfl (lv_at hl 0 rfl) ?_
    refine lv_iload_n hx hb dX8_isIn_6 rfl (lv_at hl 2 rfl) ?_
    refine z_icmp_gt (tgt := 14) hx hb dX8_isIn_7 (by decide) (by omega) (fun hc_3 => ?_) (fun hc_3 => ?_)
    · skip
      refine z_iconst hx hb dX8_isIn_14 ?_
      have hv_4 : ((a ≤ v ∧ v ≤ b) ∧ (0 : Int) = 1) ∨ (¬ (a ≤ v ∧ v ≤ b) ∧ (0 : Int) = 0) := by
        first | assumption | omega | grind
      exact W.zret (v := zI 0) hx hb hr rfl (fun t9 ht hW => ⟨⟨zI 0, 0, rfl, ⟨rfl, hv_4⟩, by subst hAe; exact z_end hK hw ht hW⟩, by subst hAe; exact hw.2.2.F ht⟩) (by subst hAe; exact hw.2.2.2.2) dX8_isIn_15
    · skip
      refine z_iconst hx hb dX8_isIn_10 ?_
      refine lv_goto (tgt := 15) hx hb dX8_isIn_11 (by decide) ?_
      have hv_5 : ((a ≤ v ∧ v ≤ b) ∧ (1 : Int) = 1) ∨ (¬ (a ≤ v ∧ v ≤ b) ∧ (1 : Int) = 0) := by
        first | assumption | omega | grind
      exact W.zret (v := zI 1) hx hb hr rfl (fun t9 ht hW => ⟨⟨zI 1, 1, rfl, ⟨rfl, hv_5⟩, by subst hAe; exact z_end hK hw ht hW⟩, by subst hAe; exact hw.2.2.F ht⟩) (by subst hAe; exact hw.2.2.2.2) dX8_isIn_15
set_option maxRecDepth 100000 in
set_option maxHeartbeats 4000000 in
theorem c_X8_thrown (l : Launch) (D : va_G) (cI cB cZ : ClassId) (oM : Nat → Nat) (sz : Nat) (Mthrown : Int) (Mmany : Int) (Mguest : Int → Int) (Mrow : Int → Int) (Mbars : Int) (Mbar : Int → Int) (Mfresh : Int → Int) (Mtape : Int → Int) (Mtaped : Int) (Mpos : Int) (Mtoken : Int) (MtokenAt : Int) (Mvalue : Int) (Mwrong : Int) (MwrongAt : Int) (MfaultKind : Int) (MfaultPlace : Int) (Mthing : Int) (Morder : Int → Int) (Mone : Int) (Mtwo : Int) (Mbest : Int → Int) (Mcells : Int) (Mgap : Int) (Mwire : Int → Int) (Mstand : Int → Int) (Mruns : Int) (Mminute : Int) (Mhead : Int → Int) (Mplays : Int → Int) (Mrests : Int → Int) (Mwent : Int → Int) (Mout : Int → Int) (Mcame : Int → Int) (Mgone : Int → Int) (MlastOut : Int) (qMthrown : 0 ≤ Mthrown ∧ Mthrown ≤ 2) (qMmany : 0 ≤ Mmany ∧ Mmany ≤ 8) (qMguest : RA Mguest (0) 9) (qMrow : RA Mrow (0) 7) (qMbars : 0 ≤ Mbars ∧ Mbars ≤ 10) (qMbar : RA Mbar (0) 104) (qMfresh : RA Mfresh (0) 104) (qMtape : RA Mtape (0) 255) (qMtaped : 0 ≤ Mtaped ∧ Mtaped ≤ 400) (qMpos : 0 ≤ Mpos ∧ Mpos ≤ 400) (qMtoken : 0 ≤ Mtoken ∧ Mtoken ≤ 15) (qMtokenAt : 0 ≤ MtokenAt ∧ MtokenAt ≤ 400) (qMvalue : 0 ≤ Mvalue ∧ Mvalue ≤ 99) (qMwrong : 0 ≤ Mwrong ∧ Mwrong ≤ 3) (qMwrongAt : 0 ≤ MwrongAt ∧ MwrongAt ≤ 400) (qMfaultKind : 0 ≤ MfaultKind ∧ MfaultKind ≤ 3) (qMfaultPlace : -1 ≤ MfaultPlace ∧ MfaultPlace ≤ 400) (qMthing : 0 ≤ Mthing ∧ Mthing ≤ 104) (qMorder : RA Morder (0) 7) (qMone : 0 ≤ Mone ∧ Mone ≤ 8) (qMtwo : 0 ≤ Mtwo ∧ Mtwo ≤ 8) (qMbest : RA Mbest (0) 7) (qMcells : 1 ≤ Mcells ∧ Mcells ≤ 50) (qMgap : 0 ≤ Mgap ∧ Mgap ≤ 3) (qMwire : RA Mwire (0) 9) (qMstand : RA Mstand (0) 9) (qMruns : 0 ≤ Mruns ∧ Mruns ≤ 1) (qMminute : 0 ≤ Mminute ∧ Mminute ≤ 1000000) (qMhead : RA Mhead (-1) 60) (qMplays : RA Mplays (0) 18) (qMrests : RA Mrests (0) 3) (qMwent : RA Mwent (0) 61) (qMout : RA Mout (0) 1) (qMcame : RA Mcame (-1) 1000000) (qMgone : RA Mgone (-1) 1000000) (qMlastOut : 0 ≤ MlastOut ∧ MlastOut ≤ 1000000) : Met l yX8_thrown wsX8_thrown ({ frames := 0, cells := 0, slots := 0, locals := 0 }) (va_Pc [.ref (oM 0)] (zPre D cI cB cZ sz (kM cI cB cZ oM Mthrown Mmany Mguest Mrow Mbars Mbar Mfresh Mtape Mtaped Mpos Mtoken MtokenAt Mvalue Mwrong MwrongAt MfaultKind MfaultPlace Mthing Morder Mone Mtwo Mbest Mcells Mgap Mwire Mstand Mruns Mminute Mhead Mplays Mrests Mwent Mout Mcame Mgone MlastOut))) (va_Qi (fun (r9 : Int32) (u9 : Int) => r9 = zI u9 ∧ ((u9 = Mthrown))) (fun u9 t9 => zAt D cI cB cZ (va_A (kM cI cB cZ oM Mthrown Mmany Mguest Mrow Mbars Mbar Mfresh Mtape Mtaped Mpos Mtoken MtokenAt Mvalue Mwrong MwrongAt MfaultKind MfaultPlace Mthing Morder Mone Mtwo Mbest Mcells Mgap Mwire Mstand Mruns Mminute Mhead Mplays Mrests Mwent Mout Mcame Mgone MlastOut) sz) (kM cI cB cZ oM Mthrown Mmany Mguest Mrow Mbars Mbar Mfresh Mtape Mtaped Mpos Mtoken MtokenAt Mvalue Mwrong MwrongAt MfaultKind MfaultPlace Mthing Morder Mone Mtwo Mbest Mcells Mgap Mwire Mstand Mruns Mminute Mhead Mplays Mrests Mwent Mout Mcame Mgone MlastOut) t9) (va_A (kM cI cB cZ oM Mthrown Mmany Mguest Mrow Mbars Mbar Mfresh Mtape Mtaped Mpos Mtoken MtokenAt Mvalue Mwrong MwrongAt MfaultKind MfaultPlace Mthing Morder Mone Mtwo Mbest Mcells Mgap Mwire Mstand Mruns Mminute Mhead Mplays Mrests Mwent Mout Mcame Mgone MlastOut) sz)) 0 0 (va_A (kM cI cB cZ oM Mthrown Mmany Mguest Mrow Mbars Mbar Mfresh Mtape Mtaped Mpos Mtoken MtokenAt Mvalue Mwrong MwrongAt MfaultKind MfaultPlace Mthing Morder Mone Mtwo Mbest Mcells Mgap Mwire Mstand Mruns Mminute Mhead Mplays Mrests Mwent Mout Mcame Mgone MlastOut) sz) := by
  refine Met.ofW (cc := cX8_thrown) (maxL := 1) (ret := (some .int)) (by decide) rfl ?_
  intro pp ee s mm aa bw mt cd s₁ BL hml hv
  obtain ⟨rfl, hsz, hP, hK, hD0⟩ := hv
  have hx := BL.exec
  have hb := BL.bytes
  have hr := BL.returns
  have hts := atoms_spec (ws := wsX8_thrown) BL.pre
  have hown : s.vm.findClass RX8 = some mm.cls := findClass_of_methodNamed BL.named
  have hlocks := BL.notSynchronized
  subst hsz
  generalize hAe : va_A (kM cI cB cZ oM Mthrown Mmany Mguest Mrow Mbars Mbar Mfresh Mtape Mtaped Mpos Mtoken MtokenAt Mvalue Mwrong MwrongAt MfaultKind MfaultPlace Mthing Morder Mone Mtwo Mbest Mcells Mgap Mwire Mstand Mruns Mminute Mhead Mplays Mrests Mwent Mout Mcame Mgone MlastOut) s.heap.size = A
  have hA : ∀ q : Nat, s.heap.size ≤ q → A q := fun q h => by rw [← hAe]; exact Or.inr h
  have hw : HW D A s.heap (kM cI cB cZ oM Mthrown Mmany Mguest Mrow Mbars Mbar Mfresh Mtape Mtaped Mpos Mtoken MtokenAt Mvalue Mwrong MwrongAt MfaultKind MfaultPlace Mthing Morder Mone Mtwo Mbest Mcells Mgap Mwire Mstand Mruns Mminute Mhead Mplays Mrests Mwent Mout Mcame Mgone MlastOut) s.heap [] := z_start hAe hP hD0
  clear hP hD0
  have hl := lv_entry ([.ref (oM 0)]) (n := 1) (Nat.le_of_ble_eq_true rfl)
  rw [lg_entry_eq]
  generalize (lg_sl ([.ref (oM 0)]) ++ List.replicate (1 - (lg_sl ([.ref (oM 0)])).length) Slot.unset).toArray = ls at hl ⊢
  have hl : lv_has ls 1 [(0, .ref (oM 0))] := hl
  have hinX8 : ∀ w ∈ wsX80, w ∈ wsX8_thrown := by decide +kernel
  refine lv_aload_n hx hb dX8_thrown_0 rfl (lv_at hl 0 rfl) ?_
  refine va_get (D := D) (ci := 8) (v := .int (zI Mthrown)) (C := RX8) (T := TX8) (N := 36) hx hb hts hinX8 hown hK hw.1 0 rfl rfl 0 (by decide) (hts (.fieldLink RX8 69 "CarnivalRoadModel" "thrown" "I") (by decide +kernel)) (fun _ h9 => h9) rfl dX8_thrown_1 ?_
  have hv_1 : Mthrown = Mthrown := by
    first | rfl | omega
  exact W.iret (v := zI Mthrown) hx hb hr (fun t9 ht hW => ⟨⟨zI Mthrown, Mthrown, rfl, ⟨rfl, hv_1⟩, by subst hAe; exact z_end hK hw ht hW⟩, by subst hAe; exact hw.2.2.F ht⟩) (by subst hAe; exact hw.2.2.2.2) dX8_thrown_4
set_option maxRecDepth 100000 in
set_option maxHeartbeats 4000000 in
theorem c_X8_fails (l : Launch) (D : va_G) (cI cB cZ : ClassId) (oM : Nat → Nat) (sz : Nat) (Mthrown : Int) (Mmany : Int) (Mguest : Int → Int) (Mrow : Int → Int) (Mbars : Int) (Mbar : Int → Int) (Mfresh : Int → Int) (Mtape : Int → Int) (Mtaped : Int) (Mpos : Int) (Mtoken : Int) (MtokenAt : Int) (Mvalue : Int) (Mwrong : Int) (MwrongAt : Int) (MfaultKind : Int) (MfaultPlace : Int) (Mthing : Int) (Morder : Int → Int) (Mone : Int) (Mtwo : Int) (Mbest : Int → Int) (Mcells : Int) (Mgap : Int) (Mwire : Int → Int) (Mstand : Int → Int) (Mruns : Int) (Mminute : Int) (Mhead : Int → Int) (Mplays : Int → Int) (Mrests : Int → Int) (Mwent : Int → Int) (Mout : Int → Int) (Mcame : Int → Int) (Mgone : Int → Int) (MlastOut : Int) (f : Int) (s2 : Int) (qMthrown : 0 ≤ Mthrown ∧ Mthrown ≤ 2) (qMmany : 0 ≤ Mmany ∧ Mmany ≤ 8) (qMguest : RA Mguest (0) 9) (qMrow : RA Mrow (0) 7) (qMbars : 0 ≤ Mbars ∧ Mbars ≤ 10) (qMbar : RA Mbar (0) 104) (qMfresh : RA Mfresh (0) 104) (qMtape : RA Mtape (0) 255) (qMtaped : 0 ≤ Mtaped ∧ Mtaped ≤ 400) (qMpos : 0 ≤ Mpos ∧ Mpos ≤ 400) (qMtoken : 0 ≤ Mtoken ∧ Mtoken ≤ 15) (qMtokenAt : 0 ≤ MtokenAt ∧ MtokenAt ≤ 400) (qMvalue : 0 ≤ Mvalue ∧ Mvalue ≤ 99) (qMwrong : 0 ≤ Mwrong ∧ Mwrong ≤ 3) (qMwrongAt : 0 ≤ MwrongAt ∧ MwrongAt ≤ 400) (qMfaultKind : 0 ≤ MfaultKind ∧ MfaultKind ≤ 3) (qMfaultPlace : -1 ≤ MfaultPlace ∧ MfaultPlace ≤ 400) (qMthing : 0 ≤ Mthing ∧ Mthing ≤ 104) (qMorder : RA Morder (0) 7) (qMone : 0 ≤ Mone ∧ Mone ≤ 8) (qMtwo : 0 ≤ Mtwo ∧ Mtwo ≤ 8) (qMbest : RA Mbest (0) 7) (qMcells : 1 ≤ Mcells ∧ Mcells ≤ 50) (qMgap : 0 ≤ Mgap ∧ Mgap ≤ 3) (qMwire : RA Mwire (0) 9) (qMstand : RA Mstand (0) 9) (qMruns : 0 ≤ Mruns ∧ Mruns ≤ 1) (qMminute : 0 ≤ Mminute ∧ Mminute ≤ 1000000) (qMhead : RA Mhead (-1) 60) (qMplays : RA Mplays (0) 18) (qMrests : RA Mrests (0) 3) (qMwent : RA Mwent (0) 61) (qMout : RA Mout (0) 1) (qMcame : RA Mcame (-1) 1000000) (qMgone : RA Mgone (-1) 1000000) (qMlastOut : 0 ≤ MlastOut ∧ MlastOut ≤ 1000000) (qf : 0 ≤ f ∧ f ≤ 1) (qs2 : 0 ≤ s2 ∧ s2 ≤ 1) : Met l yX8_fails wsX8_fails ({ frames := 0, cells := 0, slots := 0, locals := 0 }) (va_Pc [.ref (oM 0), .int (zI f), .int (zI s2)] (zPre D cI cB cZ sz (kM cI cB cZ oM Mthrown Mmany Mguest Mrow Mbars Mbar Mfresh Mtape Mtaped Mpos Mtoken MtokenAt Mvalue Mwrong MwrongAt MfaultKind MfaultPlace Mthing Morder Mone Mtwo Mbest Mcells Mgap Mwire Mstand Mruns Mminute Mhead Mplays Mrests Mwent Mout Mcame Mgone MlastOut))) (va_Qi (fun (r9 : Int32) (u9 : Int × Int) => r9 = zI u9.1 ∧ (((0 : Int) ≤ u9.2 ∧ u9.2 ≤ 2) ∧ (((f = 1 ∨ s2 = 1) ∧ u9.1 = 1) ∨ (¬ (f = 1 ∨ s2 = 1) ∧ u9.1 = 0)) ∧ ((f = 1 ∧ u9.2 = 1) ∨ (f = 0 ∧ s2 = 1 ∧ u9.2 = 2) ∨ (f = 0 ∧ s2 = 0 ∧ u9.2 = 0)))) (fun u9 t9 => zAt D cI cB cZ (va_A (kM cI cB cZ oM Mthrown Mmany Mguest Mrow Mbars Mbar Mfresh Mtape Mtaped Mpos Mtoken MtokenAt Mvalue Mwrong MwrongAt MfaultKind MfaultPlace Mthing Morder Mone Mtwo Mbest Mcells Mgap Mwire Mstand Mruns Mminute Mhead Mplays Mrests Mwent Mout Mcame Mgone MlastOut) sz) (kM cI cB cZ oM (u9.2) Mmany Mguest Mrow Mbars Mbar Mfresh Mtape Mtaped Mpos Mtoken MtokenAt Mvalue Mwrong MwrongAt MfaultKind MfaultPlace Mthing Morder Mone Mtwo Mbest Mcells Mgap Mwire Mstand Mruns Mminute Mhead Mplays Mrests Mwent Mout Mcame Mgone MlastOut) t9) (va_A (kM cI cB cZ oM Mthrown Mmany Mguest Mrow Mbars Mbar Mfresh Mtape Mtaped Mpos Mtoken MtokenAt Mvalue Mwrong MwrongAt MfaultKind MfaultPlace Mthing Morder Mone Mtwo Mbest Mcells Mgap Mwire Mstand Mruns Mminute Mhead Mplays Mrests Mwent Mout Mcame Mgone MlastOut) sz)) 0 0 (va_A (kM cI cB cZ oM Mthrown Mmany Mguest Mrow Mbars Mbar Mfresh Mtape Mtaped Mpos Mtoken MtokenAt Mvalue Mwrong MwrongAt MfaultKind MfaultPlace Mthing Morder Mone Mtwo Mbest Mcells Mgap Mwire Mstand Mruns Mminute Mhead Mplays Mrests Mwent Mout Mcame Mgone MlastOut) sz) := by
  refine Met.ofW (cc := cX8_fails) (maxL := 3) (ret := (some .boolean)) (by decide) rfl ?_
  intro pp ee s mm aa bw mt cd s₁ BL hml hv
  obtain ⟨rfl, hsz, hP, hK, hD0⟩ := hv
  have hx := BL.exec
  have hb := BL.bytes
  have hr := BL.returns
  have hts := atoms_spec (ws := wsX8_fails) BL.pre
  have hown : s.vm.findClass RX8 = some mm.cls := findClass_of_methodNamed BL.named
  have hlocks := BL.notSynchronized
  subst hsz
  generalize hAe : va_A (kM cI cB cZ oM Mthrown Mmany Mguest Mrow Mbars Mbar Mfresh Mtape Mtaped Mpos Mtoken MtokenAt Mvalue Mwrong MwrongAt MfaultKind MfaultPlace Mthing Morder Mone Mtwo Mbest Mcells Mgap Mwire Mstand Mruns Mminute Mhead Mplays Mrests Mwent Mout Mcame Mgone MlastOut) s.heap.size = A
  have hA : ∀ q : Nat, s.heap.size ≤ q → A q := fun q h => by rw [← hAe]; exact Or.inr h
  have hw : HW D A s.heap (kM cI cB cZ oM Mthrown Mmany Mguest Mrow Mbars Mbar Mfresh Mtape Mtaped Mpos Mtoken MtokenAt Mvalue Mwrong MwrongAt MfaultKind MfaultPlace Mthing Morder Mone Mtwo Mbest Mcells Mgap Mwire Mstand Mruns Mminute Mhead Mplays Mrests Mwent Mout Mcame Mgone MlastOut) s.heap [] := z_start hAe hP hD0
  clear hP hD0
  have hl := lv_entry ([.ref (oM 0), .int (zI f), .int (zI s2)]) (n := 3) (Nat.le_of_ble_eq_true rfl)
  rw [lg_entry_eq]
  generalize (lg_sl ([.ref (oM 0), .int (zI f), .int (zI s2)]) ++ List.replicate (3 - (lg_sl ([.ref (oM 0), .int (zI f), .int (zI s2)])).length) Slot.unset).toArray = ls at hl ⊢
  have hl : lv_has ls 3 [(0, .ref (oM 0)), (1, .int (zI f)), (2, .int (zI s2))] := hl
  have hinX8 : ∀ w ∈ wsX80, w ∈ wsX8_fails := by decide +kernel
  refine lv_aload_n hx hb dX8_fails_0 rfl (lv_at hl 0 rfl) ?_
  refine lv_iload_n hx hb dX8_fails_1 rfl (lv_at hl 1 rfl) ?_
  refine z_if_eq (tgt := 9) hx hb dX8_fails_2 (by decide) (by omega) (fun hc_1 => ?_) (fun hc_1 => ?_)
  · skip
    refine lv_iload_n hx hb dX8_fails_9 rfl (lv_at hl 2 rfl) ?_
    refine z_if_eq (tgt := 17) hx hb dX8_fails_10 (by decide) (by omega) (fun hc_2 => ?_) (fun hc_2 => ?_)
    · skip
      refine z_iconst hx hb dX8_fails_17 ?_
      refine z_put (D := D) (ci := 8) (v := .int (zI 0)) (ty := .int) (C := RX8) (T := TX8) (N := 36) (ws2 := kM cI cB cZ oM 0 Mmany Mguest Mrow Mbars Mbar Mfresh Mtape Mtaped Mpos Mtoken MtokenAt Mvalue Mwrong MwrongAt MfaultKind MfaultPlace Mthing Morder Mone Mtwo Mbest Mcells Mgap Mwire Mstand Mruns Mminute Mhead Mplays Mrests Mwent Mout Mcame Mgone MlastOut) hx hb hts hinX8 tyX8 tyX8_ok nmX8 hown hK hw 0 rfl rfl 0 (by decide) (hts (.fieldLink RX8 69 "CarnivalRoadModel" "thrown" "I") (by decide +kernel)) (fun _ h9 => h9) rfl (by decide +kernel) rfl rfl (Nat.le_of_ble_eq_true rfl) dX8_fails_18 rfl (fun H locs hw => ?_)
      refine lv_aload_n hx hb dX8_fails_21 rfl (lv_at hl 0 rfl) ?_
      refine va_get (D := D) (ci := 8) (v := .int (zI 0)) (C := RX8) (T := TX8) (N := 36) hx hb hts hinX8 hown hK hw.1 0 rfl rfl 0 (by decide) (hts (.fieldLink RX8 69 "CarnivalRoadModel" "thrown" "I") (by decide +kernel)) (fun _ h9 => h9) rfl dX8_fails_22 ?_
      refine z_if_eq (tgt := 32) hx hb dX8_fails_25 (by decide) (by omega) (fun hc_3 => ?_) (fun hc_3 => absurd hc_3 (by omega))
      refine z_iconst hx hb dX8_fails_32 ?_
      have hv_4 : (0 : Int) ≤ (0 : Int) ∧ (0 : Int) ≤ 2 := by
        first | assumption | omega | grind
      have hv_5 : ((f = 1 ∨ s2 = 1) ∧ (0 : Int) = 1) ∨ (¬ (f = 1 ∨ s2 = 1) ∧ (0 : Int) = 0) := by
        first | assumption | omega | grind
      have hv_6 : (f = 1 ∧ (0 : Int) = 1) ∨ (f = 0 ∧ s2 = 1 ∧ (0 : Int) = 2) ∨ (f = 0 ∧ s2 = 0 ∧ (0 : Int) = 0) := by
        first | assumption | omega | grind
      exact W.zret (v := zI 0) hx hb hr rfl (fun t9 ht hW => ⟨⟨zI 0, (0, 0), rfl, ⟨rfl, ⟨hv_4, hv_5, hv_6⟩⟩, by subst hAe; exact z_end hK hw ht hW⟩, by subst hAe; exact hw.2.2.F ht⟩) (by subst hAe; exact hw.2.2.2.2) dX8_fails_33
    · skip
      refine z_iconst hx hb dX8_fails_13 ?_
      refine lv_goto (tgt := 18) hx hb dX8_fails_14 (by decide) ?_
      refine z_put (D := D) (ci := 8) (v := .int (zI 2)) (ty := .int) (C := RX8) (T := TX8) (N := 36) (ws2 := kM cI cB cZ oM 2 Mmany Mguest Mrow Mbars Mbar Mfresh Mtape Mtaped Mpos Mtoken MtokenAt Mvalue Mwrong MwrongAt MfaultKind MfaultPlace Mthing Morder Mone Mtwo Mbest Mcells Mgap Mwire Mstand Mruns Mminute Mhead Mplays Mrests Mwent Mout Mcame Mgone MlastOut) hx hb hts hinX8 tyX8 tyX8_ok nmX8 hown hK hw 0 rfl rfl 0 (by decide) (hts (.fieldLink RX8 69 "CarnivalRoadModel" "thrown" "I") (by decide +kernel)) (fun _ h9 => h9) rfl (by decide +kernel) rfl rfl (Nat.le_of_ble_eq_true rfl) dX8_fails_18 rfl (fun H locs hw => ?_)
      refine lv_aload_n hx hb dX8_fails_21 rfl (lv_at hl 0 rfl) ?_
      refine va_get (D := D) (ci := 8) (v := .int (zI 2)) (C := RX8) (T := TX8) (N := 36) hx hb hts hinX8 hown hK hw.1 0 rfl rfl 0 (by decide) (hts (.fieldLink RX8 69 "CarnivalRoadModel" "thrown" "I") (by decide +kernel)) (fun _ h9 => h9) rfl dX8_fails_22 ?_
      refine z_if_eq (tgt := 32) hx hb dX8_fails_25 (by decide) (by omega) (fun hc_7 => absurd hc_7 (by omega)) (fun hc_7 => ?_)
      refine z_iconst hx hb dX8_fails_28 ?_
      refine lv_goto (tgt := 33) hx hb dX8_fails_29 (by decide) ?_
      have hv_8 : (0 : Int) ≤ (2 : Int) ∧ (2 : Int) ≤ 2 := by
        first | assumption | omega | grind
      have hv_9 : ((f = 1 ∨ s2 = 1) ∧ (1 : Int) = 1) ∨ (¬ (f = 1 ∨ s2 = 1) ∧ (1 : Int) = 0) := by
        first | assumption | omega | grind
      have hv_10 : (f = 1 ∧ (2 : Int) = 1) ∨ (f = 0 ∧ s2 = 1 ∧ (2 : Int) = 2) ∨ (f = 0 ∧ s2 = 0 ∧ (2 : Int) = 0) := by
        first | assumption | omega | grind
      exact W.zret (v := zI 1) hx hb hr rfl (fun t9 ht hW => ⟨⟨zI 1, (1, 2), rfl, ⟨rfl, ⟨hv_8, hv_9, hv_10⟩⟩, by subst hAe; exact z_end hK hw ht hW⟩, by subst hAe; exact hw.2.2.F ht⟩) (by subst hAe; exact hw.2.2.2.2) dX8_fails_33
  · skip
    refine z_iconst hx hb dX8_fails_5 ?_
    refine lv_goto (tgt := 18) hx hb dX8_fails_6 (by decide) ?_
    refine z_put (D := D) (ci := 8) (v := .int (zI 1)) (ty := .int) (C := RX8) (T := TX8) (N := 36) (ws2 := kM cI cB cZ oM 1 Mmany Mguest Mrow Mbars Mbar Mfresh Mtape Mtaped Mpos Mtoken MtokenAt Mvalue Mwrong MwrongAt MfaultKind MfaultPlace Mthing Morder Mone Mtwo Mbest Mcells Mgap Mwire Mstand Mruns Mminute Mhead Mplays Mrests Mwent Mout Mcame Mgone MlastOut) hx hb hts hinX8 tyX8 tyX8_ok nmX8 hown hK hw 0 rfl rfl 0 (by decide) (hts (.fieldLink RX8 69 "CarnivalRoadModel" "thrown" "I") (by decide +kernel)) (fun _ h9 => h9) rfl (by decide +kernel) rfl rfl (Nat.le_of_ble_eq_true rfl) dX8_fails_18 rfl (fun H locs hw => ?_)
    refine lv_aload_n hx hb dX8_fails_21 rfl (lv_at hl 0 rfl) ?_
    refine va_get (D := D) (ci := 8) (v := .int (zI 1)) (C := RX8) (T := TX8) (N := 36) hx hb hts hinX8 hown hK hw.1 0 rfl rfl 0 (by decide) (hts (.fieldLink RX8 69 "CarnivalRoadModel" "thrown" "I") (by decide +kernel)) (fun _ h9 => h9) rfl dX8_fails_22 ?_
    refine z_if_eq (tgt := 32) hx hb dX8_fails_25 (by decide) (by omega) (fun hc_11 => absurd hc_11 (by omega)) (fun hc_11 => ?_)
    refine z_iconst hx hb dX8_fails_28 ?_
    refine lv_goto (tgt := 33) hx hb dX8_fails_29 (by decide) ?_
    have hv_12 : (0 : Int) ≤ (1 : Int) ∧ (1 : Int) ≤ 2 := by
      first | assumption | omega | grind
    have hv_13 : ((f = 1 ∨ s2 = 1) ∧ (1 : Int) = 1) ∨ (¬ (f = 1 ∨ s2 = 1) ∧ (1 : Int) = 0) := by
      first | assumption | omega | grind
    have hv_14 : (f = 1 ∧ (1 : Int) = 1) ∨ (f = 0 ∧ s2 = 1 ∧ (1 : Int) = 2) ∨ (f = 0 ∧ s2 = 0 ∧ (1 : Int) = 0) := by
      first | assumption | omega | grind
    exact W.zret (v := zI 1) hx hb hr rfl (fun t9 ht hW => ⟨⟨zI 1, (1, 1), rfl, ⟨rfl, ⟨hv_12, hv_13, hv_14⟩⟩, by subst hAe; exact z_end hK hw ht hW⟩, by subst hAe; exact hw.2.2.F ht⟩) (by subst hAe; exact hw.2.2.2.2) dX8_fails_33
set_option maxRecDepth 100000 in
set_option maxHeartbeats 4000000 in
theorem c_X8_get (l : Launch) (D : va_G) (cI cB cZ : ClassId) (oM : Nat → Nat) (sz : Nat) (Mthrown : Int) (Mmany : Int) (Mguest : Int → Int) (Mrow : Int → Int) (Mbars : Int) (Mbar : Int → Int) (Mfresh : Int → Int) (Mtape : Int → Int) (Mtaped : Int) (Mpos : Int) (Mtoken : Int) (MtokenAt : Int) (Mvalue : Int) (Mwrong : Int) (MwrongAt : Int) (MfaultKind : Int) (MfaultPlace : Int) (Mthing : Int) (Morder : Int → Int) (Mone : Int) (Mtwo : Int) (Mbest : Int → Int) (Mcells : Int) (Mgap : Int) (Mwire : Int → Int) (Mstand : Int → Int) (Mruns : Int) (Mminute : Int) (Mhead : Int → Int) (Mplays : Int → Int) (Mrests : Int → Int) (Mwent : Int → Int) (Mout : Int → Int) (Mcame : Int → Int) (Mgone : Int → Int) (MlastOut : Int) (g : Int) (w : Int) (qMthrown : 0 ≤ Mthrown ∧ Mthrown ≤ 2) (qMmany : 0 ≤ Mmany ∧ Mmany ≤ 8) (qMguest : RA Mguest (0) 9) (qMrow : RA Mrow (0) 7) (qMbars : 0 ≤ Mbars ∧ Mbars ≤ 10) (qMbar : RA Mbar (0) 104) (qMfresh : RA Mfresh (0) 104) (qMtape : RA Mtape (0) 255) (qMtaped : 0 ≤ Mtaped ∧ Mtaped ≤ 400) (qMpos : 0 ≤ Mpos ∧ Mpos ≤ 400) (qMtoken : 0 ≤ Mtoken ∧ Mtoken ≤ 15) (qMtokenAt : 0 ≤ MtokenAt ∧ MtokenAt ≤ 400) (qMvalue : 0 ≤ Mvalue ∧ Mvalue ≤ 99) (qMwrong : 0 ≤ Mwrong ∧ Mwrong ≤ 3) (qMwrongAt : 0 ≤ MwrongAt ∧ MwrongAt ≤ 400) (qMfaultKind : 0 ≤ MfaultKind ∧ MfaultKind ≤ 3) (qMfaultPlace : -1 ≤ MfaultPlace ∧ MfaultPlace ≤ 400) (qMthing : 0 ≤ Mthing ∧ Mthing ≤ 104) (qMorder : RA Morder (0) 7) (qMone : 0 ≤ Mone ∧ Mone ≤ 8) (qMtwo : 0 ≤ Mtwo ∧ Mtwo ≤ 8) (qMbest : RA Mbest (0) 7) (qMcells : 1 ≤ Mcells ∧ Mcells ≤ 50) (qMgap : 0 ≤ Mgap ∧ Mgap ≤ 3) (qMwire : RA Mwire (0) 9) (qMstand : RA Mstand (0) 9) (qMruns : 0 ≤ Mruns ∧ Mruns ≤ 1) (qMminute : 0 ≤ Mminute ∧ Mminute ≤ 1000000) (qMhead : RA Mhead (-1) 60) (qMplays : RA Mplays (0) 18) (qMrests : RA Mrests (0) 3) (qMwent : RA Mwent (0) 61) (qMout : RA Mout (0) 1) (qMcame : RA Mcame (-1) 1000000) (qMgone : RA Mgone (-1) 1000000) (qMlastOut : 0 ≤ MlastOut ∧ MlastOut ≤ 1000000) (qg : 0 ≤ g ∧ g ≤ 7) (qw : 0 ≤ w ∧ w ≤ 4) : Met l yX8_get wsX8_get ({ frames := 0, cells := 0, slots := 0, locals := 0 }) (va_Pc [.ref (oM 0), .int (zI g), .int (zI w)] (zPre D cI cB cZ sz (kM cI cB cZ oM Mthrown Mmany Mguest Mrow Mbars Mbar Mfresh Mtape Mtaped Mpos Mtoken MtokenAt Mvalue Mwrong MwrongAt MfaultKind MfaultPlace Mthing Morder Mone Mtwo Mbest Mcells Mgap Mwire Mstand Mruns Mminute Mhead Mplays Mrests Mwent Mout Mcame Mgone MlastOut))) (va_Qi (fun (r9 : Int32) (u9 : Int) => r9 = zI u9 ∧ ((u9 = Mguest (5 * g + w)) ∧ (0 ≤ u9 ∧ u9 ≤ 9))) (fun u9 t9 => zAt D cI cB cZ (va_A (kM cI cB cZ oM Mthrown Mmany Mguest Mrow Mbars Mbar Mfresh Mtape Mtaped Mpos Mtoken MtokenAt Mvalue Mwrong MwrongAt MfaultKind MfaultPlace Mthing Morder Mone Mtwo Mbest Mcells Mgap Mwire Mstand Mruns Mminute Mhead Mplays Mrests Mwent Mout Mcame Mgone MlastOut) sz) (kM cI cB cZ oM Mthrown Mmany Mguest Mrow Mbars Mbar Mfresh Mtape Mtaped Mpos Mtoken MtokenAt Mvalue Mwrong MwrongAt MfaultKind MfaultPlace Mthing Morder Mone Mtwo Mbest Mcells Mgap Mwire Mstand Mruns Mminute Mhead Mplays Mrests Mwent Mout Mcame Mgone MlastOut) t9) (va_A (kM cI cB cZ oM Mthrown Mmany Mguest Mrow Mbars Mbar Mfresh Mtape Mtaped Mpos Mtoken MtokenAt Mvalue Mwrong MwrongAt MfaultKind MfaultPlace Mthing Morder Mone Mtwo Mbest Mcells Mgap Mwire Mstand Mruns Mminute Mhead Mplays Mrests Mwent Mout Mcame Mgone MlastOut) sz)) 0 0 (va_A (kM cI cB cZ oM Mthrown Mmany Mguest Mrow Mbars Mbar Mfresh Mtape Mtaped Mpos Mtoken MtokenAt Mvalue Mwrong MwrongAt MfaultKind MfaultPlace Mthing Morder Mone Mtwo Mbest Mcells Mgap Mwire Mstand Mruns Mminute Mhead Mplays Mrests Mwent Mout Mcame Mgone MlastOut) sz) := by
  refine Met.ofW (cc := cX8_get) (maxL := 3) (ret := (some .int)) (by decide) rfl ?_
  intro pp ee s mm aa bw mt cd s₁ BL hml hv
  obtain ⟨rfl, hsz, hP, hK, hD0⟩ := hv
  have hx := BL.exec
  have hb := BL.bytes
  have hr := BL.returns
  have hts := atoms_spec (ws := wsX8_get) BL.pre
  have hown : s.vm.findClass RX8 = some mm.cls := findClass_of_methodNamed BL.named
  have hlocks := BL.notSynchronized
  subst hsz
  generalize hAe : va_A (kM cI cB cZ oM Mthrown Mmany Mguest Mrow Mbars Mbar Mfresh Mtape Mtaped Mpos Mtoken MtokenAt Mvalue Mwrong MwrongAt MfaultKind MfaultPlace Mthing Morder Mone Mtwo Mbest Mcells Mgap Mwire Mstand Mruns Mminute Mhead Mplays Mrests Mwent Mout Mcame Mgone MlastOut) s.heap.size = A
  have hA : ∀ q : Nat, s.heap.size ≤ q → A q := fun q h => by rw [← hAe]; exact Or.inr h
  have hw : HW D A s.heap (kM cI cB cZ oM Mthrown Mmany Mguest Mrow Mbars Mbar Mfresh Mtape Mtaped Mpos Mtoken MtokenAt Mvalue Mwrong MwrongAt MfaultKind MfaultPlace Mthing Morder Mone Mtwo Mbest Mcells Mgap Mwire Mstand Mruns Mminute Mhead Mplays Mrests Mwent Mout Mcame Mgone MlastOut) s.heap [] := z_start hAe hP hD0
  clear hP hD0
  have hl := lv_entry ([.ref (oM 0), .int (zI g), .int (zI w)]) (n := 3) (Nat.le_of_ble_eq_true rfl)
  rw [lg_entry_eq]
  generalize (lg_sl ([.ref (oM 0), .int (zI g), .int (zI w)]) ++ List.replicate (3 - (lg_sl ([.ref (oM 0), .int (zI g), .int (zI w)])).length) Slot.unset).toArray = ls at hl ⊢
  have hl : lv_has ls 3 [(0, .ref (oM 0)), (1, .int (zI g)), (2, .int (zI w))] := hl
  have hinX8 : ∀ w ∈ wsX80, w ∈ wsX8_get := by decide +kernel
  refine lv_aload_n hx hb dX8_get_0 rfl (lv_at hl 0 rfl) ?_
  refine va_get (D := D) (ci := 8) (v := .ref (oM 1)) (C := RX8) (T := TX8) (N := 36) hx hb hts hinX8 hown hK hw.1 0 rfl rfl 2 (by decide) (hts (.fieldLink RX8 7 "CarnivalRoadModel" "guest" "[I") (by decide +kernel)) (fun _ h9 => h9) rfl dX8_get_1 ?_
  refine z_iconst hx hb dX8_get_4 ?_
  refine lv_iload_n hx hb dX8_get_5 rfl (lv_at hl 1 rfl) ?_
  refine z_imul hx hb dX8_get_6 ?_
  refine lv_iload_n hx hb dX8_get_7 rfl (lv_at hl 2 rfl) ?_
  refine z_iadd hx hb dX8_get_8 ?_
  have hi_1 : (0 : Int) ≤ ((5 * g) + w) ∧ ((5 * g) + w) < ((40 : Nat) : Int) := by
    first | rfl | assumption | omega
  refine z_iald (n := 40) (f := Mguest) hx hb hK hw 1 rfl (by decide) hi_1 dX8_get_9 ?_
  have hq_2 : 0 ≤ Mguest ((5 * g) + w) ∧ Mguest ((5 * g) + w) ≤ 9 := qMguest ((5 * g) + w)
  have hv_3 : (Mguest ((5 * g) + w)) = Mguest (5 * g + w) := by
    first | rfl | assumption | omega
  have hv_4 : 0 ≤ (Mguest ((5 * g) + w)) ∧ (Mguest ((5 * g) + w)) ≤ 9 := by
    first | rfl | assumption | omega
  exact W.iret (v := zI (Mguest ((5 * g) + w))) hx hb hr (fun t9 ht hW => ⟨⟨zI (Mguest ((5 * g) + w)), (Mguest ((5 * g) + w)), rfl, ⟨rfl, ⟨hv_3, hv_4⟩⟩, by subst hAe; exact z_end hK hw ht hW⟩, by subst hAe; exact hw.2.2.F ht⟩) (by subst hAe; exact hw.2.2.2.2) dX8_get_10
set_option maxRecDepth 100000 in
set_option maxHeartbeats 4000000 in
theorem c_X8_isNo (l : Launch) (D : va_G) (cI cB cZ : ClassId) (oM : Nat → Nat) (sz : Nat) (Mthrown : Int) (Mmany : Int) (Mguest : Int → Int) (Mrow : Int → Int) (Mbars : Int) (Mbar : Int → Int) (Mfresh : Int → Int) (Mtape : Int → Int) (Mtaped : Int) (Mpos : Int) (Mtoken : Int) (MtokenAt : Int) (Mvalue : Int) (Mwrong : Int) (MwrongAt : Int) (MfaultKind : Int) (MfaultPlace : Int) (Mthing : Int) (Morder : Int → Int) (Mone : Int) (Mtwo : Int) (Mbest : Int → Int) (Mcells : Int) (Mgap : Int) (Mwire : Int → Int) (Mstand : Int → Int) (Mruns : Int) (Mminute : Int) (Mhead : Int → Int) (Mplays : Int → Int) (Mrests : Int → Int) (Mwent : Int → Int) (Mout : Int → Int) (Mcame : Int → Int) (Mgone : Int → Int) (MlastOut : Int) (g : Int) (qMthrown : 0 ≤ Mthrown ∧ Mthrown ≤ 2) (qMmany : 0 ≤ Mmany ∧ Mmany ≤ 8) (qMguest : RA Mguest (0) 9) (qMrow : RA Mrow (0) 7) (qMbars : 0 ≤ Mbars ∧ Mbars ≤ 10) (qMbar : RA Mbar (0) 104) (qMfresh : RA Mfresh (0) 104) (qMtape : RA Mtape (0) 255) (qMtaped : 0 ≤ Mtaped ∧ Mtaped ≤ 400) (qMpos : 0 ≤ Mpos ∧ Mpos ≤ 400) (qMtoken : 0 ≤ Mtoken ∧ Mtoken ≤ 15) (qMtokenAt : 0 ≤ MtokenAt ∧ MtokenAt ≤ 400) (qMvalue : 0 ≤ Mvalue ∧ Mvalue ≤ 99) (qMwrong : 0 ≤ Mwrong ∧ Mwrong ≤ 3) (qMwrongAt : 0 ≤ MwrongAt ∧ MwrongAt ≤ 400) (qMfaultKind : 0 ≤ MfaultKind ∧ MfaultKind ≤ 3) (qMfaultPlace : -1 ≤ MfaultPlace ∧ MfaultPlace ≤ 400) (qMthing : 0 ≤ Mthing ∧ Mthing ≤ 104) (qMorder : RA Morder (0) 7) (qMone : 0 ≤ Mone ∧ Mone ≤ 8) (qMtwo : 0 ≤ Mtwo ∧ Mtwo ≤ 8) (qMbest : RA Mbest (0) 7) (qMcells : 1 ≤ Mcells ∧ Mcells ≤ 50) (qMgap : 0 ≤ Mgap ∧ Mgap ≤ 3) (qMwire : RA Mwire (0) 9) (qMstand : RA Mstand (0) 9) (qMruns : 0 ≤ Mruns ∧ Mruns ≤ 1) (qMminute : 0 ≤ Mminute ∧ Mminute ≤ 1000000) (qMhead : RA Mhead (-1) 60) (qMplays : RA Mplays (0) 18) (qMrests : RA Mrests (0) 3) (qMwent : RA Mwent (0) 61) (qMout : RA Mout (0) 1) (qMcame : RA Mcame (-1) 1000000) (qMgone : RA Mgone (-1) 1000000) (qMlastOut : 0 ≤ MlastOut ∧ MlastOut ≤ 1000000) (qg : -2147483648 ≤ g ∧ g ≤ 2147483647) : Met l yX8_isNo wsX8_isNo ({ frames := 1, cells := 0, slots := 0, locals := 22 }) (va_Pc [.ref (oM 0), .int (zI g)] (zPre D cI cB cZ sz (kM cI cB cZ oM Mthrown Mmany Mguest Mrow Mbars Mbar Mfresh Mtape Mtaped Mpos Mtoken MtokenAt Mvalue Mwrong MwrongAt MfaultKind MfaultPlace Mthing Morder Mone Mtwo Mbest Mcells Mgap Mwire Mstand Mruns Mminute Mhead Mplays Mrests Mwent Mout Mcame Mgone MlastOut))) (va_Qi (fun (r9 : Int32) (u9 : Int) => r9 = zI u9 ∧ (((¬ (0 ≤ g ∧ g < Mmany) ∧ u9 = 1) ∨ (¬ ¬ (0 ≤ g ∧ g < Mmany) ∧ u9 = 0)))) (fun u9 t9 => zAt D cI cB cZ (va_A (kM cI cB cZ oM Mthrown Mmany Mguest Mrow Mbars Mbar Mfresh Mtape Mtaped Mpos Mtoken MtokenAt Mvalue Mwrong MwrongAt MfaultKind MfaultPlace Mthing Morder Mone Mtwo Mbest Mcells Mgap Mwire Mstand Mruns Mminute Mhead Mplays Mrests Mwent Mout Mcame Mgone MlastOut) sz) (kM cI cB cZ oM Mthrown Mmany Mguest Mrow Mbars Mbar Mfresh Mtape Mtaped Mpos Mtoken MtokenAt Mvalue Mwrong MwrongAt MfaultKind MfaultPlace Mthing Morder Mone Mtwo Mbest Mcells Mgap Mwire Mstand Mruns Mminute Mhead Mplays Mrests Mwent Mout Mcame Mgone MlastOut) t9) (va_A (kM cI cB cZ oM Mthrown Mmany Mguest Mrow Mbars Mbar Mfresh Mtape Mtaped Mpos Mtoken MtokenAt Mvalue Mwrong MwrongAt MfaultKind MfaultPlace Mthing Morder Mone Mtwo Mbest Mcells Mgap Mwire Mstand Mruns Mminute Mhead Mplays Mrests Mwent Mout Mcame Mgone MlastOut) sz)) 0 0 (va_A (kM cI cB cZ oM Mthrown Mmany Mguest Mrow Mbars Mbar Mfresh Mtape Mtaped Mpos Mtoken MtokenAt Mvalue Mwrong MwrongAt MfaultKind MfaultPlace Mthing Morder Mone Mtwo Mbest Mcells Mgap Mwire Mstand Mruns Mminute Mhead Mplays Mrests Mwent Mout Mcame Mgone MlastOut) sz) := by
  refine Met.ofW (cc := cX8_isNo) (maxL := 2) (ret := (some .boolean)) (by decide) rfl ?_
  intro pp ee s mm aa bw mt cd s₁ BL hml hv
  obtain ⟨rfl, hsz, hP, hK, hD0⟩ := hv
  have hx := BL.exec
  have hb := BL.bytes
  have hr := BL.returns
  have hts := atoms_spec (ws := wsX8_isNo) BL.pre
  have hown : s.vm.findClass RX8 = some mm.cls := findClass_of_methodNamed BL.named
  have hlocks := BL.notSynchronized
  subst hsz
  generalize hAe : va_A (kM cI cB cZ oM Mthrown Mmany Mguest Mrow Mbars Mbar Mfresh Mtape Mtaped Mpos Mtoken MtokenAt Mvalue Mwrong MwrongAt MfaultKind MfaultPlace Mthing Morder Mone Mtwo Mbest Mcells Mgap Mwire Mstand Mruns Mminute Mhead Mplays Mrests Mwent Mout Mcame Mgone MlastOut) s.heap.size = A
  have hA : ∀ q : Nat, s.heap.size ≤ q → A q := fun q h => by rw [← hAe]; exact Or.inr h
  have hw : HW D A s.heap (kM cI cB cZ oM Mthrown Mmany Mguest Mrow Mbars Mbar Mfresh Mtape Mtaped Mpos Mtoken MtokenAt Mvalue Mwrong MwrongAt MfaultKind MfaultPlace Mthing Morder Mone Mtwo Mbest Mcells Mgap Mwire Mstand Mruns Mminute Mhead Mplays Mrests Mwent Mout Mcame Mgone MlastOut) s.heap [] := z_start hAe hP hD0
  clear hP hD0
  have hl := lv_entry ([.ref (oM 0), .int (zI g)]) (n := 2) (Nat.le_of_ble_eq_true rfl)
  rw [lg_entry_eq]
  generalize (lg_sl ([.ref (oM 0), .int (zI g)]) ++ List.replicate (2 - (lg_sl ([.ref (oM 0), .int (zI g)])).length) Slot.unset).toArray = ls at hl ⊢
  have hl : lv_has ls 2 [(0, .ref (oM 0)), (1, .int (zI g))] := hl
  have hinX8 : ∀ w ∈ wsX80, w ∈ wsX8_isNo := by decide +kernel
  refine lv_iload_n hx hb dX8_isNo_0 rfl (lv_at hl 1 rfl) ?_
  refine z_iconst hx hb dX8_isNo_1 ?_
  refine lv_aload_n hx hb dX8_isNo_2 rfl (lv_at hl 0 rfl) ?_
  refine va_get (D := D) (ci := 8) (v := .int (zI Mmany)) (C := RX8) (T := TX8) (N := 36) hx hb hts hinX8 hown hK hw.1 0 rfl rfl 1 (by decide) (hts (.fieldLink RX8 72 "CarnivalRoadModel" "many" "I") (by decide +kernel)) (fun _ h9 => h9) rfl dX8_isNo_3 ?_
  refine z_iconst hx hb dX8_isNo_6 ?_
  refine z_isub hx hb dX8_isNo_7 ?_
  have hF9 := z_free (wc := ([] : va_W)) hw hA [] rfl
  refine va_calli (va_runS (As := [.int (zI g), .int (zI 0), .int (zI (Mmany - 1))]) (rest := []) ⟨hx, hb, hml, hown, hts⟩ (c_X8_isIn l D cI cB cZ s.heap.size g 0 (Mmany - 1) (by omega) (by omega) (by omega)) (va_cwS 3 hts gX8_isNo_X8_isIn rfl rfl rfl (by decide +kernel) ⟨Nat.le_of_ble_eq_true rfl, Nat.le_of_ble_eq_true rfl⟩) ⟨zPre_blind, z_pre hK hw [] (by decide) rfl⟩ rfl rfl hl.1 rfl (lv_room (Nat.le_of_ble_eq_true rfl)) dX8_isNo_8 ⟨Nat.zero_le _, Nat.zero_le _⟩) hw.2.2 (fun q _ h => hF9 q h) hF9 (fun r9 u9 t9 H_1 locs9 ht9 hvm9 hq9 hB9 hz9 hk9 hS9 => ?_)
  obtain ⟨r_2, rfl⟩ : ∃ z, z = u9 := ⟨_, rfl⟩
  try dsimp only at hq9 hB9
  obtain ⟨rfl, hq9⟩ := hq9
  have hq_3 := hq9
  have hw : HW D A s.heap (kM cI cB cZ oM Mthrown Mmany Mguest Mrow Mbars Mbar Mfresh Mtape Mtaped Mpos Mtoken MtokenAt Mvalue Mwrong MwrongAt MfaultKind MfaultPlace Mthing Morder Mone Mtwo Mbest Mcells Mgap Mwire Mstand Mruns Mminute Mhead Mplays Mrests Mwent Mout Mcame Mgone MlastOut) H_1 locs9 := z_after (wc := ([] : va_W)) hw [] [0, 1, 2, 3, 4, 5, 6, 7, 8, 9, 10, 11, 12, 13, 14, 15, 16] rfl rfl (by decide) (by decide) hF9 hk9 ht9 hB9 hS9 [0, 1, 2, 3, 4, 5, 6, 7, 8, 9, 10, 11, 12, 13, 14, 15, 16] (by decide) rfl
  clear hF9 ht9 hvm9 hB9 hz9 hk9 hS9 hq9
  rcases hq_3 with ⟨hc_4, rfl⟩ | ⟨hc_4, rfl⟩
  · skip
    refine z_if_ne (tgt := 18) hx hb dX8_isNo_11 (by decide) (by omega) (fun hc_5 => ?_) (fun hc_5 => absurd hc_5 (by omega))
    refine z_iconst hx hb dX8_isNo_18 ?_
    have hv_6 : (¬ (0 ≤ g ∧ g < Mmany) ∧ (0 : Int) = 1) ∨ (¬ ¬ (0 ≤ g ∧ g < Mmany) ∧ (0 : Int) = 0) := by
      first | assumption | omega | grind
    exact W.zret (v := zI 0) hx hb hr rfl (fun t9 ht hW => ⟨⟨zI 0, 0, rfl, ⟨rfl, hv_6⟩, by subst hAe; exact z_end hK hw ht hW⟩, by subst hAe; exact hw.2.2.F ht⟩) (by subst hAe; exact hw.2.2.2.2) dX8_isNo_19
  · skip
    refine z_if_ne (tgt := 18) hx hb dX8_isNo_11 (by decide) (by omega) (fun hc_7 => absurd hc_7 (by omega)) (fun hc_7 => ?_)
    refine z_iconst hx hb dX8_isNo_14 ?_
    refine lv_goto (tgt := 19) hx hb dX8_isNo_15 (by decide) ?_
    have hv_8 : (¬ (0 ≤ g ∧ g < Mmany) ∧ (1 : Int) = 1) ∨ (¬ ¬ (0 ≤ g ∧ g < Mmany) ∧ (1 : Int) = 0) := by
      first | assumption | omega | grind
    exact W.zret (v := zI 1) hx hb hr rfl (fun t9 ht hW => ⟨⟨zI 1, 1, rfl, ⟨rfl, hv_8⟩, by subst hAe; exact z_end hK hw ht hW⟩, by subst hAe; exact hw.2.2.F ht⟩) (by subst hAe; exact hw.2.2.2.2) dX8_isNo_19
set_option maxRecDepth 100000 in
set_option maxHeartbeats 4000000 in
theorem c_X8_is (l : Launch) (D : va_G) (cI cB cZ : ClassId) (oM : Nat → Nat) (sz : Nat) (Mthrown : Int) (Mmany : Int) (Mguest : Int → Int) (Mrow : Int → Int) (Mbars : Int) (Mbar : Int → Int) (Mfresh : Int → Int) (Mtape : Int → Int) (Mtaped : Int) (Mpos : Int) (Mtoken : Int) (MtokenAt : Int) (Mvalue : Int) (Mwrong : Int) (MwrongAt : Int) (MfaultKind : Int) (MfaultPlace : Int) (Mthing : Int) (Morder : Int → Int) (Mone : Int) (Mtwo : Int) (Mbest : Int → Int) (Mcells : Int) (Mgap : Int) (Mwire : Int → Int) (Mstand : Int → Int) (Mruns : Int) (Mminute : Int) (Mhead : Int → Int) (Mplays : Int → Int) (Mrests : Int → Int) (Mwent : Int → Int) (Mout : Int → Int) (Mcame : Int → Int) (Mgone : Int → Int) (MlastOut : Int) (g : Int) (t : Int) (qMthrown : 0 ≤ Mthrown ∧ Mthrown ≤ 2) (qMmany : 0 ≤ Mmany ∧ Mmany ≤ 8) (qMguest : RA Mguest (0) 9) (qMrow : RA Mrow (0) 7) (qMbars : 0 ≤ Mbars ∧ Mbars ≤ 10) (qMbar : RA Mbar (0) 104) (qMfresh : RA Mfresh (0) 104) (qMtape : RA Mtape (0) 255) (qMtaped : 0 ≤ Mtaped ∧ Mtaped ≤ 400) (qMpos : 0 ≤ Mpos ∧ Mpos ≤ 400) (qMtoken : 0 ≤ Mtoken ∧ Mtoken ≤ 15) (qMtokenAt : 0 ≤ MtokenAt ∧ MtokenAt ≤ 400) (qMvalue : 0 ≤ Mvalue ∧ Mvalue ≤ 99) (qMwrong : 0 ≤ Mwrong ∧ Mwrong ≤ 3) (qMwrongAt : 0 ≤ MwrongAt ∧ MwrongAt ≤ 400) (qMfaultKind : 0 ≤ MfaultKind ∧ MfaultKind ≤ 3) (qMfaultPlace : -1 ≤ MfaultPlace ∧ MfaultPlace ≤ 400) (qMthing : 0 ≤ Mthing ∧ Mthing ≤ 104) (qMorder : RA Morder (0) 7) (qMone : 0 ≤ Mone ∧ Mone ≤ 8) (qMtwo : 0 ≤ Mtwo ∧ Mtwo ≤ 8) (qMbest : RA Mbest (0) 7) (qMcells : 1 ≤ Mcells ∧ Mcells ≤ 50) (qMgap : 0 ≤ Mgap ∧ Mgap ≤ 3) (qMwire : RA Mwire (0) 9) (qMstand : RA Mstand (0) 9) (qMruns : 0 ≤ Mruns ∧ Mruns ≤ 1) (qMminute : 0 ≤ Mminute ∧ Mminute ≤ 1000000) (qMhead : RA Mhead (-1) 60) (qMplays : RA Mplays (0) 18) (qMrests : RA Mrests (0) 3) (qMwent : RA Mwent (0) 61) (qMout : RA Mout (0) 1) (qMcame : RA Mcame (-1) 1000000) (qMgone : RA Mgone (-1) 1000000) (qMlastOut : 0 ≤ MlastOut ∧ MlastOut ≤ 1000000) (qg : 0 ≤ g ∧ g ≤ 7) (qt : 0 ≤ t ∧ t ≤ 104) : Met l yX8_is wsX8_is ({ frames := 1, cells := 0, slots := 0, locals := 22 }) (va_Pc [.ref (oM 0), .int (zI g), .int (zI t)] (zPre D cI cB cZ sz (kM cI cB cZ oM Mthrown Mmany Mguest Mrow Mbars Mbar Mfresh Mtape Mtaped Mpos Mtoken MtokenAt Mvalue Mwrong MwrongAt MfaultKind MfaultPlace Mthing Morder Mone Mtwo Mbest Mcells Mgap Mwire Mstand Mruns Mminute Mhead Mplays Mrests Mwent Mout Mcame Mgone MlastOut))) (va_Qi (fun (r9 : Int32) (u9 : Int) => r9 = zI u9 ∧ (((isM Mguest g t ∧ u9 = 1) ∨ (¬ isM Mguest g t ∧ u9 = 0)))) (fun u9 t9 => zAt D cI cB cZ (va_A (kM cI cB cZ oM Mthrown Mmany Mguest Mrow Mbars Mbar Mfresh Mtape Mtaped Mpos Mtoken MtokenAt Mvalue Mwrong MwrongAt MfaultKind MfaultPlace Mthing Morder Mone Mtwo Mbest Mcells Mgap Mwire Mstand Mruns Mminute Mhead Mplays Mrests Mwent Mout Mcame Mgone MlastOut) sz) (kM cI cB cZ oM Mthrown Mmany Mguest Mrow Mbars Mbar Mfresh Mtape Mtaped Mpos Mtoken MtokenAt Mvalue Mwrong MwrongAt MfaultKind MfaultPlace Mthing Morder Mone Mtwo Mbest Mcells Mgap Mwire Mstand Mruns Mminute Mhead Mplays Mrests Mwent Mout Mcame Mgone MlastOut) t9) (va_A (kM cI cB cZ oM Mthrown Mmany Mguest Mrow Mbars Mbar Mfresh Mtape Mtaped Mpos Mtoken MtokenAt Mvalue Mwrong MwrongAt MfaultKind MfaultPlace Mthing Morder Mone Mtwo Mbest Mcells Mgap Mwire Mstand Mruns Mminute Mhead Mplays Mrests Mwent Mout Mcame Mgone MlastOut) sz)) 0 0 (va_A (kM cI cB cZ oM Mthrown Mmany Mguest Mrow Mbars Mbar Mfresh Mtape Mtaped Mpos Mtoken MtokenAt Mvalue Mwrong MwrongAt MfaultKind MfaultPlace Mthing Morder Mone Mtwo Mbest Mcells Mgap Mwire Mstand Mruns Mminute Mhead Mplays Mrests Mwent Mout Mcame Mgone MlastOut) sz) := by
  refine Met.ofW (cc := cX8_is) (maxL := 3) (ret := (some .boolean)) (by decide) rfl ?_
  intro pp ee s mm aa bw mt cd s₁ BL hml hv
  obtain ⟨rfl, hsz, hP, hK, hD0⟩ := hv
  have hx := BL.exec
  have hb := BL.bytes
  have hr := BL.returns
  have hts := atoms_spec (ws := wsX8_is) BL.pre
  have hown : s.vm.findClass RX8 = some mm.cls := findClass_of_methodNamed BL.named
  have hlocks := BL.notSynchronized
  subst hsz
  generalize hAe : va_A (kM cI cB cZ oM Mthrown Mmany Mguest Mrow Mbars Mbar Mfresh Mtape Mtaped Mpos Mtoken MtokenAt Mvalue Mwrong MwrongAt MfaultKind MfaultPlace Mthing Morder Mone Mtwo Mbest Mcells Mgap Mwire Mstand Mruns Mminute Mhead Mplays Mrests Mwent Mout Mcame Mgone MlastOut) s.heap.size = A
  have hA : ∀ q : Nat, s.heap.size ≤ q → A q := fun q h => by rw [← hAe]; exact Or.inr h
  have hw : HW D A s.heap (kM cI cB cZ oM Mthrown Mmany Mguest Mrow Mbars Mbar Mfresh Mtape Mtaped Mpos Mtoken MtokenAt Mvalue Mwrong MwrongAt MfaultKind MfaultPlace Mthing Morder Mone Mtwo Mbest Mcells Mgap Mwire Mstand Mruns Mminute Mhead Mplays Mrests Mwent Mout Mcame Mgone MlastOut) s.heap [] := z_start hAe hP hD0
  clear hP hD0
  have hl := lv_entry ([.ref (oM 0), .int (zI g), .int (zI t)]) (n := 3) (Nat.le_of_ble_eq_true rfl)
  rw [lg_entry_eq]
  generalize (lg_sl ([.ref (oM 0), .int (zI g), .int (zI t)]) ++ List.replicate (3 - (lg_sl ([.ref (oM 0), .int (zI g), .int (zI t)])).length) Slot.unset).toArray = ls at hl ⊢
  have hl : lv_has ls 3 [(0, .ref (oM 0)), (1, .int (zI g)), (2, .int (zI t))] := hl
  refine lv_iload_n hx hb dX8_is_0 rfl (lv_at hl 2 rfl) ?_
  refine z_bipush hx hb dX8_is_1 (by decide) ?_
  refine z_icmp_lt (tgt := 27) hx hb dX8_is_3 (by decide) (by omega) (fun hc_1 => ?_) (fun hc_1 => ?_)
  · skip
    refine lv_iload_n hx hb dX8_is_27 rfl (lv_at hl 1 rfl) ?_
    refine lv_iload_n hx hb dX8_is_28 rfl (lv_at hl 2 rfl) ?_
    refine z_icmp_ne (tgt := 36) hx hb dX8_is_29 (by decide) (by omega) (fun hc_2 => ?_) (fun hc_2 => ?_)
    · skip
      refine z_iconst hx hb dX8_is_36 ?_
      have hv_3 : (isM Mguest g t ∧ (0 : Int) = 1) ∨ (¬ isM Mguest g t ∧ (0 : Int) = 0) := by
        unfold isM; omega
      exact W.zret (v := zI 0) hx hb hr rfl (fun t9 ht hW => ⟨⟨zI 0, 0, rfl, ⟨rfl, hv_3⟩, by subst hAe; exact z_end hK hw ht hW⟩, by subst hAe; exact hw.2.2.F ht⟩) (by subst hAe; exact hw.2.2.2.2) dX8_is_37
    · skip
      refine z_iconst hx hb dX8_is_32 ?_
      refine lv_goto (tgt := 37) hx hb dX8_is_33 (by decide) ?_
      have hv_4 : (isM Mguest g t ∧ (1 : Int) = 1) ∨ (¬ isM Mguest g t ∧ (1 : Int) = 0) := by
        unfold isM; omega
      exact W.zret (v := zI 1) hx hb hr rfl (fun t9 ht hW => ⟨⟨zI 1, 1, rfl, ⟨rfl, hv_4⟩, by subst hAe; exact z_end hK hw ht hW⟩, by subst hAe; exact hw.2.2.F ht⟩) (by subst hAe; exact hw.2.2.2.2) dX8_is_37
  · skip
    refine lv_aload_n hx hb dX8_is_6 rfl (lv_at hl 0 rfl) ?_
    refine lv_iload_n hx hb dX8_is_7 rfl (lv_at hl 1 rfl) ?_
    refine z_iconst hx hb dX8_is_8 ?_
    have hF9 := z_free (wc := kM cI cB cZ oM Mthrown Mmany Mguest Mrow Mbars Mbar Mfresh Mtape Mtaped Mpos Mtoken MtokenAt Mvalue Mwrong MwrongAt MfaultKind MfaultPlace Mthing Morder Mone Mtwo Mbest Mcells Mgap Mwire Mstand Mruns Mminute Mhead Mplays Mrests Mwent Mout Mcame Mgone MlastOut) hw hA [0, 1, 2, 3, 4, 5, 6, 7, 8, 9, 10, 11, 12, 13, 14, 15, 16] rfl
    refine va_calli (va_runV (As := [.int (zI g), .int (zI 0)]) (rest := []) ⟨hx, hb, hml, hown, hts⟩ (c_X8_get l D cI cB cZ oM s.heap.size Mthrown Mmany Mguest Mrow Mbars Mbar Mfresh Mtape Mtaped Mpos Mtoken MtokenAt Mvalue Mwrong MwrongAt MfaultKind MfaultPlace Mthing Morder Mone Mtwo Mbest Mcells Mgap Mwire Mstand Mruns Mminute Mhead Mplays Mrests Mwent Mout Mcame Mgone MlastOut g 0 (by omega) (by omega) qMguest qMrow (by omega) qMbar qMfresh qMtape (by omega) (by omega) (by omega) (by omega) (by omega) (by omega) (by omega) (by omega) (by omega) (by omega) qMorder (by omega) (by omega) qMbest (by omega) (by omega) qMwire qMstand (by omega) (by omega) qMhead qMplays qMrests qMwent qMout qMcame qMgone (by omega) (by omega) (by omega)) (cwV 2 hts gX8_is_X8_get rfl rfl rfl (by decide +kernel) ⟨Nat.le_of_ble_eq_true rfl, Nat.le_of_ble_eq_true rfl⟩) ⟨zPre_blind, va_recv hK hw.1 (ci := 8) (q0 := 0) rfl rfl, z_pre hK hw [0, 1, 2, 3, 4, 5, 6, 7, 8, 9, 10, 11, 12, 13, 14, 15, 16] (by decide) rfl⟩ rfl rfl hl.1 rfl (lv_room (Nat.le_of_ble_eq_true rfl)) dX8_is_9 ⟨Nat.zero_le _, Nat.zero_le _⟩) hw.2.2 (fun q _ h => hF9 q h) hF9 (fun r9 u9 t9 H_5 locs9 ht9 hvm9 hq9 hB9 hz9 hk9 hS9 => ?_)
    obtain ⟨r_6, rfl⟩ : ∃ z, z = u9 := ⟨_, rfl⟩
    try dsimp only at hq9 hB9
    obtain ⟨rfl, hq9⟩ := hq9
    obtain ⟨hq_7, hq_8⟩ := hq9
    have hw : HW D A s.heap (kM cI cB cZ oM Mthrown Mmany Mguest Mrow Mbars Mbar Mfresh Mtape Mtaped Mpos Mtoken MtokenAt Mvalue Mwrong MwrongAt MfaultKind MfaultPlace Mthing Morder Mone Mtwo Mbest Mcells Mgap Mwire Mstand Mruns Mminute Mhead Mplays Mrests Mwent Mout Mcame Mgone MlastOut) H_5 locs9 := z_after (wc := kM cI cB cZ oM Mthrown Mmany Mguest Mrow Mbars Mbar Mfresh Mtape Mtaped Mpos Mtoken MtokenAt Mvalue Mwrong MwrongAt MfaultKind MfaultPlace Mthing Morder Mone Mtwo Mbest Mcells Mgap Mwire Mstand Mruns Mminute Mhead Mplays Mrests Mwent Mout Mcame Mgone MlastOut) hw [0, 1, 2, 3, 4, 5, 6, 7, 8, 9, 10, 11, 12, 13, 14, 15, 16] [] rfl rfl (by decide) (by decide) hF9 hk9 ht9 hB9 hS9 [0, 1, 2, 3, 4, 5, 6, 7, 8, 9, 10, 11, 12, 13, 14, 15, 16] (by decide) rfl
    clear hF9 ht9 hvm9 hB9 hz9 hk9 hS9
    refine lv_iload_n hx hb dX8_is_12 rfl (lv_at hl 2 rfl) ?_
    refine z_bipush hx hb dX8_is_13 (by decide) ?_
    refine z_isub hx hb dX8_is_15 ?_
    refine z_icmp_ne (tgt := 23) hx hb dX8_is_16 (by decide) (by omega) (fun hc_9 => ?_) (fun hc_9 => ?_)
    · skip
      refine z_iconst hx hb dX8_is_23 ?_
      refine lv_goto (tgt := 37) hx hb dX8_is_24 (by decide) ?_
      have hv_10 : (isM Mguest g t ∧ (0 : Int) = 1) ∨ (¬ isM Mguest g t ∧ (0 : Int) = 0) := by
        unfold isM; omega
      exact W.zret (v := zI 0) hx hb hr rfl (fun t9 ht hW => ⟨⟨zI 0, 0, rfl, ⟨rfl, hv_10⟩, by subst hAe; exact z_end hK hw ht hW⟩, by subst hAe; exact hw.2.2.F ht⟩) (by subst hAe; exact hw.2.2.2.2) dX8_is_37
    · skip
      refine z_iconst hx hb dX8_is_19 ?_
      refine lv_goto (tgt := 37) hx hb dX8_is_20 (by decide) ?_
      have hv_11 : (isM Mguest g t ∧ (1 : Int) = 1) ∨ (¬ isM Mguest g t ∧ (1 : Int) = 0) := by
        unfold isM; omega
      exact W.zret (v := zI 1) hx hb hr rfl (fun t9 ht hW => ⟨⟨zI 1, 1, rfl, ⟨rfl, hv_11⟩, by subst hAe; exact z_end hK hw ht hW⟩, by subst hAe; exact hw.2.2.F ht⟩) (by subst hAe; exact hw.2.2.2.2) dX8_is_37
set_option maxRecDepth 100000 in
set_option maxHeartbeats 4000000 in
theorem c_X8_breaks (l : Launch) (D : va_G) (cI cB cZ : ClassId) (oM : Nat → Nat) (sz : Nat) (Mthrown : Int) (Mmany : Int) (Mguest : Int → Int) (Mrow : Int → Int) (Mbars : Int) (Mbar : Int → Int) (Mfresh : Int → Int) (Mtape : Int → Int) (Mtaped : Int) (Mpos : Int) (Mtoken : Int) (MtokenAt : Int) (Mvalue : Int) (Mwrong : Int) (MwrongAt : Int) (MfaultKind : Int) (MfaultPlace : Int) (Mthing : Int) (Morder : Int → Int) (Mone : Int) (Mtwo : Int) (Mbest : Int → Int) (Mcells : Int) (Mgap : Int) (Mwire : Int → Int) (Mstand : Int → Int) (Mruns : Int) (Mminute : Int) (Mhead : Int → Int) (Mplays : Int → Int) (Mrests : Int → Int) (Mwent : Int → Int) (Mout : Int → Int) (Mcame : Int → Int) (Mgone : Int → Int) (MlastOut : Int) (k : Int) (i : Int) (j : Int) (qMthrown : 0 ≤ Mthrown ∧ Mthrown ≤ 2) (qMmany : 0 ≤ Mmany ∧ Mmany ≤ 8) (qMguest : RA Mguest (0) 9) (qMrow : RA Mrow (0) 7) (qMbars : 0 ≤ Mbars ∧ Mbars ≤ 10) (qMbar : RA Mbar (0) 104) (qMfresh : RA Mfresh (0) 104) (qMtape : RA Mtape (0) 255) (qMtaped : 0 ≤ Mtaped ∧ Mtaped ≤ 400) (qMpos : 0 ≤ Mpos ∧ Mpos ≤ 400) (qMtoken : 0 ≤ Mtoken ∧ Mtoken ≤ 15) (qMtokenAt : 0 ≤ MtokenAt ∧ MtokenAt ≤ 400) (qMvalue : 0 ≤ Mvalue ∧ Mvalue ≤ 99) (qMwrong : 0 ≤ Mwrong ∧ Mwrong ≤ 3) (qMwrongAt : 0 ≤ MwrongAt ∧ MwrongAt ≤ 400) (qMfaultKind : 0 ≤ MfaultKind ∧ MfaultKind ≤ 3) (qMfaultPlace : -1 ≤ MfaultPlace ∧ MfaultPlace ≤ 400) (qMthing : 0 ≤ Mthing ∧ Mthing ≤ 104) (qMorder : RA Morder (0) 7) (qMone : 0 ≤ Mone ∧ Mone ≤ 8) (qMtwo : 0 ≤ Mtwo ∧ Mtwo ≤ 8) (qMbest : RA Mbest (0) 7) (qMcells : 1 ≤ Mcells ∧ Mcells ≤ 50) (qMgap : 0 ≤ Mgap ∧ Mgap ≤ 3) (qMwire : RA Mwire (0) 9) (qMstand : RA Mstand (0) 9) (qMruns : 0 ≤ Mruns ∧ Mruns ≤ 1) (qMminute : 0 ≤ Mminute ∧ Mminute ≤ 1000000) (qMhead : RA Mhead (-1) 60) (qMplays : RA Mplays (0) 18) (qMrests : RA Mrests (0) 3) (qMwent : RA Mwent (0) 61) (qMout : RA Mout (0) 1) (qMcame : RA Mcame (-1) 1000000) (qMgone : RA Mgone (-1) 1000000) (qMlastOut : 0 ≤ MlastOut ∧ MlastOut ≤ 1000000) (qk : 0 ≤ k ∧ k ≤ 9) (qi : 0 ≤ i ∧ i ≤ 7) (qj : 0 ≤ j ∧ j ≤ 7) : Met l yX8_breaks wsX8_breaks ({ frames := 2, cells := 0, slots := 0, locals := 44 }) (va_Pc [.ref (oM 0), .int (zI k), .int (zI i), .int (zI j)] (zPre D cI cB cZ sz (kM cI cB cZ oM Mthrown Mmany Mguest Mrow Mbars Mbar Mfresh Mtape Mtaped Mpos Mtoken MtokenAt Mvalue Mwrong MwrongAt MfaultKind MfaultPlace Mthing Morder Mone Mtwo Mbest Mcells Mgap Mwire Mstand Mruns Mminute Mhead Mplays Mrests Mwent Mout Mcame Mgone MlastOut))) (va_Qi (fun (r9 : Int32) (u9 : Int) => r9 = zI u9 ∧ (((brM Mguest (Mbar (4 * k)) (Mbar (4 * k + 1)) (Mbar (4 * k + 2)) (Mbar (4 * k + 3)) (Morder i) (Morder j) i j ∧ u9 = 1) ∨ (¬ brM Mguest (Mbar (4 * k)) (Mbar (4 * k + 1)) (Mbar (4 * k + 2)) (Mbar (4 * k + 3)) (Morder i) (Morder j) i j ∧ u9 = 0)))) (fun u9 t9 => zAt D cI cB cZ (va_A (kM cI cB cZ oM Mthrown Mmany Mguest Mrow Mbars Mbar Mfresh Mtape Mtaped Mpos Mtoken MtokenAt Mvalue Mwrong MwrongAt MfaultKind MfaultPlace Mthing Morder Mone Mtwo Mbest Mcells Mgap Mwire Mstand Mruns Mminute Mhead Mplays Mrests Mwent Mout Mcame Mgone MlastOut) sz) (kM cI cB cZ oM Mthrown Mmany Mguest Mrow Mbars Mbar Mfresh Mtape Mtaped Mpos Mtoken MtokenAt Mvalue Mwrong MwrongAt MfaultKind MfaultPlace Mthing Morder Mone Mtwo Mbest Mcells Mgap Mwire Mstand Mruns Mminute Mhead Mplays Mrests Mwent Mout Mcame Mgone MlastOut) t9) (va_A (kM cI cB cZ oM Mthrown Mmany Mguest Mrow Mbars Mbar Mfresh Mtape Mtaped Mpos Mtoken MtokenAt Mvalue Mwrong MwrongAt MfaultKind MfaultPlace Mthing Morder Mone Mtwo Mbest Mcells Mgap Mwire Mstand Mruns Mminute Mhead Mplays Mrests Mwent Mout Mcame Mgone MlastOut) sz)) 0 0 (va_A (kM cI cB cZ oM Mthrown Mmany Mguest Mrow Mbars Mbar Mfresh Mtape Mtaped Mpos Mtoken MtokenAt Mvalue Mwrong MwrongAt MfaultKind MfaultPlace Mthing Morder Mone Mtwo Mbest Mcells Mgap Mwire Mstand Mruns Mminute Mhead Mplays Mrests Mwent Mout Mcame Mgone MlastOut) sz) := by
  refine Met.ofW (cc := cX8_breaks) (maxL := 9) (ret := (some .boolean)) (by decide) rfl ?_
  intro pp ee s mm aa bw mt cd s₁ BL hml hv
  obtain ⟨rfl, hsz, hP, hK, hD0⟩ := hv
  have hx := BL.exec
  have hb := BL.bytes
  have hr := BL.returns
  have hts := atoms_spec (ws := wsX8_breaks) BL.pre
  have hown : s.vm.findClass RX8 = some mm.cls := findClass_of_methodNamed BL.named
  have hlocks := BL.notSynchronized
  subst hsz
  generalize hAe : va_A (kM cI cB cZ oM Mthrown Mmany Mguest Mrow Mbars Mbar Mfresh Mtape Mtaped Mpos Mtoken MtokenAt Mvalue Mwrong MwrongAt MfaultKind MfaultPlace Mthing Morder Mone Mtwo Mbest Mcells Mgap Mwire Mstand Mruns Mminute Mhead Mplays Mrests Mwent Mout Mcame Mgone MlastOut) s.heap.size = A
  have hA : ∀ q : Nat, s.heap.size ≤ q → A q := fun q h => by rw [← hAe]; exact Or.inr h
  have hw : HW D A s.heap (kM cI cB cZ oM Mthrown Mmany Mguest Mrow Mbars Mbar Mfresh Mtape Mtaped Mpos Mtoken MtokenAt Mvalue Mwrong MwrongAt MfaultKind MfaultPlace Mthing Morder Mone Mtwo Mbest Mcells Mgap Mwire Mstand Mruns Mminute Mhead Mplays Mrests Mwent Mout Mcame Mgone MlastOut) s.heap [] := z_start hAe hP hD0
  clear hP hD0
  have hl := lv_entry ([.ref (oM 0), .int (zI k), .int (zI i), .int (zI j)]) (n := 9) (Nat.le_of_ble_eq_true rfl)
  rw [lg_entry_eq]
  generalize (lg_sl ([.ref (oM 0), .int (zI k), .int (zI i), .int (zI j)]) ++ List.replicate (9 - (lg_sl ([.ref (oM 0), .int (zI k), .int (zI i), .int (zI j)])).length) Slot.unset).toArray = ls at hl ⊢
  have hl : lv_has ls 9 [(0, .ref (oM 0)), (1, .int (zI k)), (2, .int (zI i)), (3, .int (zI j))] := hl
  have hinX8 : ∀ w ∈ wsX80, w ∈ wsX8_breaks := by decide +kernel
  refine lv_aload_n hx hb dX8_breaks_0 rfl (lv_at hl 0 rfl) ?_
  refine va_get (D := D) (ci := 8) (v := .ref (oM 6)) (C := RX8) (T := TX8) (N := 36) hx hb hts hinX8 hown hK hw.1 0 rfl rfl 18 (by decide) (hts (.fieldLink RX8 29 "CarnivalRoadModel" "order" "[I") (by decide +kernel)) (fun _ h9 => h9) rfl dX8_breaks_1 ?_
  refine lv_iload_n hx hb dX8_breaks_4 rfl (lv_at hl 2 rfl) ?_
  have hi_1 : (0 : Int) ≤ i ∧ i < ((8 : Nat) : Int) := by
    first | assumption | omega | grind
  refine z_iald (n := 8) (f := Morder) hx hb hK hw 6 rfl (by decide) hi_1 dX8_breaks_5 ?_
  have hq_2 : 0 ≤ Morder i ∧ Morder i ≤ 7 := qMorder i
  refine lv_istore (lv' := [(4, .int (zI (Morder i))), (0, .ref (oM 0)), (1, .int (zI k)), (2, .int (zI i)), (3, .int (zI j))]) hx hb dX8_breaks_6 hl (by decide) rfl (fun ls hl => ?_)
  refine lv_aload_n hx hb dX8_breaks_8 rfl (lv_at hl 1 rfl) ?_
  refine va_get (D := D) (ci := 8) (v := .ref (oM 6)) (C := RX8) (T := TX8) (N := 36) hx hb hts hinX8 hown hK hw.1 0 rfl rfl 18 (by decide) (hts (.fieldLink RX8 29 "CarnivalRoadModel" "order" "[I") (by decide +kernel)) (fun _ h9 => h9) rfl dX8_breaks_9 ?_
  refine lv_iload_n hx hb dX8_breaks_12 rfl (lv_at hl 4 rfl) ?_
  have hi_3 : (0 : Int) ≤ j ∧ j < ((8 : Nat) : Int) := by
    first | assumption | omega | grind
  refine z_iald (n := 8) (f := Morder) hx hb hK hw 6 rfl (by decide) hi_3 dX8_breaks_13 ?_
  have hq_4 : 0 ≤ Morder j ∧ Morder j ≤ 7 := qMorder j
  refine lv_istore (lv' := [(5, .int (zI (Morder j))), (4, .int (zI (Morder i))), (0, .ref (oM 0)), (1, .int (zI k)), (2, .int (zI i)), (3, .int (zI j))]) hx hb dX8_breaks_14 hl (by decide) rfl (fun ls hl => ?_)
  refine lv_aload_n hx hb dX8_breaks_16 rfl (lv_at hl 2 rfl) ?_
  refine va_get (D := D) (ci := 8) (v := .ref (oM 3)) (C := RX8) (T := TX8) (N := 36) hx hb hts hinX8 hown hK hw.1 0 rfl rfl 5 (by decide) (hts (.fieldLink RX8 16 "CarnivalRoadModel" "bar" "[I") (by decide +kernel)) (fun _ h9 => h9) rfl dX8_breaks_17 ?_
  refine z_iconst hx hb dX8_breaks_20 ?_
  refine lv_iload_n hx hb dX8_breaks_21 rfl (lv_at hl 3 rfl) ?_
  refine z_imul hx hb dX8_breaks_22 ?_
  refine z_iconst hx hb dX8_breaks_23 ?_
  refine z_iadd hx hb dX8_breaks_24 ?_
  have hi_5 : (0 : Int) ≤ ((4 * k) + 1) ∧ ((4 * k) + 1) < ((40 : Nat) : Int) := by
    first | assumption | omega | grind
  refine z_iald (n := 40) (f := Mbar) hx hb hK hw 3 rfl (by decide) hi_5 dX8_breaks_25 ?_
  have hq_6 : 0 ≤ Mbar ((4 * k) + 1) ∧ Mbar ((4 * k) + 1) ≤ 104 := qMbar ((4 * k) + 1)
  refine lv_istore (lv' := [(6, .int (zI (Mbar ((4 * k) + 1)))), (5, .int (zI (Morder j))), (4, .int (zI (Morder i))), (0, .ref (oM 0)), (1, .int (zI k)), (2, .int (zI i)), (3, .int (zI j))]) hx hb dX8_breaks_26 hl (by decide) rfl (fun ls hl => ?_)
  refine lv_aload_n hx hb dX8_breaks_28 rfl (lv_at hl 3 rfl) ?_
  refine va_get (D := D) (ci := 8) (v := .ref (oM 3)) (C := RX8) (T := TX8) (N := 36) hx hb hts hinX8 hown hK hw.1 0 rfl rfl 5 (by decide) (hts (.fieldLink RX8 16 "CarnivalRoadModel" "bar" "[I") (by decide +kernel)) (fun _ h9 => h9) rfl dX8_breaks_29 ?_
  refine z_iconst hx hb dX8_breaks_32 ?_
  refine lv_iload_n hx hb dX8_breaks_33 rfl (lv_at hl 4 rfl) ?_
  refine z_imul hx hb dX8_breaks_34 ?_
  refine z_iconst hx hb dX8_breaks_35 ?_
  refine z_iadd hx hb dX8_breaks_36 ?_
  have hi_7 : (0 : Int) ≤ ((4 * k) + 2) ∧ ((4 * k) + 2) < ((40 : Nat) : Int) := by
    first | assumption | omega | grind
  refine z_iald (n := 40) (f := Mbar) hx hb hK hw 3 rfl (by decide) hi_7 dX8_breaks_37 ?_
  have hq_8 : 0 ≤ Mbar ((4 * k) + 2) ∧ Mbar ((4 * k) + 2) ≤ 104 := qMbar ((4 * k) + 2)
  refine lv_istore (lv' := [(7, .int (zI (Mbar ((4 * k) + 2)))), (6, .int (zI (Mbar ((4 * k) + 1)))), (5, .int (zI (Morder j))), (4, .int (zI (Morder i))), (0, .ref (oM 0)), (1, .int (zI k)), (2, .int (zI i)), (3, .int (zI j))]) hx hb dX8_breaks_38 hl (by decide) rfl (fun ls hl => ?_)
  refine lv_aload_n hx hb dX8_breaks_40 rfl (lv_at hl 4 rfl) ?_
  refine va_get (D := D) (ci := 8) (v := .ref (oM 3)) (C := RX8) (T := TX8) (N := 36) hx hb hts hinX8 hown hK hw.1 0 rfl rfl 5 (by decide) (hts (.fieldLink RX8 16 "CarnivalRoadModel" "bar" "[I") (by decide +kernel)) (fun _ h9 => h9) rfl dX8_breaks_41 ?_
  refine z_iconst hx hb dX8_breaks_44 ?_
  refine lv_iload_n hx hb dX8_breaks_45 rfl (lv_at hl 5 rfl) ?_
  refine z_imul hx hb dX8_breaks_46 ?_
  refine z_iconst hx hb dX8_breaks_47 ?_
  refine z_iadd hx hb dX8_breaks_48 ?_
  have hi_9 : (0 : Int) ≤ ((4 * k) + 3) ∧ ((4 * k) + 3) < ((40 : Nat) : Int) := by
    first | assumption | omega | grind
  refine z_iald (n := 40) (f := Mbar) hx hb hK hw 3 rfl (by decide) hi_9 dX8_breaks_49 ?_
  have hq_10 : 0 ≤ Mbar ((4 * k) + 3) ∧ Mbar ((4 * k) + 3) ≤ 104 := qMbar ((4 * k) + 3)
  refine lv_istore (lv' := [(8, .int (zI (Mbar ((4 * k) + 3)))), (7, .int (zI (Mbar ((4 * k) + 2)))), (6, .int (zI (Mbar ((4 * k) + 1)))), (5, .int (zI (Morder j))), (4, .int (zI (Morder i))), (0, .ref (oM 0)), (1, .int (zI k)), (2, .int (zI i)), (3, .int (zI j))]) hx hb dX8_breaks_50 hl (by decide) rfl (fun ls hl => ?_)
  refine lv_aload_n hx hb dX8_breaks_52 rfl (lv_at hl 5 rfl) ?_
  refine va_get (D := D) (ci := 8) (v := .ref (oM 3)) (C := RX8) (T := TX8) (N := 36) hx hb hts hinX8 hown hK hw.1 0 rfl rfl 5 (by decide) (hts (.fieldLink RX8 16 "CarnivalRoadModel" "bar" "[I") (by decide +kernel)) (fun _ h9 => h9) rfl dX8_breaks_53 ?_
  refine z_iconst hx hb dX8_breaks_56 ?_
  refine lv_iload_n hx hb dX8_breaks_57 rfl (lv_at hl 6 rfl) ?_
  refine z_imul hx hb dX8_breaks_58 ?_
  have hi_11 : (0 : Int) ≤ (4 * k) ∧ (4 * k) < ((40 : Nat) : Int) := by
    first | assumption | omega | grind
  refine z_iald (n := 40) (f := Mbar) hx hb hK hw 3 rfl (by decide) hi_11 dX8_breaks_59 ?_
  have hq_12 : 0 ≤ Mbar (4 * k) ∧ Mbar (4 * k) ≤ 104 := qMbar (4 * k)
  rcases (show ((Mbar (4 * k)) < 1 ∨ 5 < (Mbar (4 * k))) ∨ (Mbar (4 * k)) = 1 ∨ (Mbar (4 * k)) = 2 ∨ (Mbar (4 * k)) = 3 ∨ (Mbar (4 * k)) = 4 ∨ (Mbar (4 * k)) = 5 by omega) with hc_13 | hc_13 | hc_13 | hc_13 | hc_13 | hc_13
  · skip
    refine z_tableOut (tgt := 215) hx hb (by omega) hc_13 dX8_breaks_60 (by decide) ?_
    refine z_iconst hx hb dX8_breaks_215 ?_
    have hv_14 : (brM Mguest (Mbar (4 * k)) (Mbar (4 * k + 1)) (Mbar (4 * k + 2)) (Mbar (4 * k + 3)) (Morder i) (Morder j) i j ∧ (0 : Int) = 1) ∨ (¬ brM Mguest (Mbar (4 * k)) (Mbar (4 * k + 1)) (Mbar (4 * k + 2)) (Mbar (4 * k + 3)) (Morder i) (Morder j) i j ∧ (0 : Int) = 0) := by
      unfold brM
      first | grind | omega
    exact W.zret (v := zI 0) hx hb hr rfl (fun t9 ht hW => ⟨⟨zI 0, 0, rfl, ⟨rfl, hv_14⟩, by subst hAe; exact z_end hK hw ht hW⟩, by subst hAe; exact hw.2.2.F ht⟩) (by subst hAe; exact hw.2.2.2.2) dX8_breaks_216
  · skip
    refine z_tableIn (k := 1) (off := 36) (tgt := 96) hx hb hc_13 dX8_breaks_60 (by decide) (by decide) rfl (by decide) ?_
    refine lv_iload_n hx hb dX8_breaks_96 rfl (lv_at hl 8 rfl) ?_
    refine lv_iload_n hx hb dX8_breaks_97 rfl (lv_at hl 7 rfl) ?_
    refine z_isub hx hb dX8_breaks_98 ?_
    refine lv_iload hx hb dX8_breaks_99 (lv_at hl 0 rfl) ?_
    refine z_icmp_ge (tgt := 152) hx hb dX8_breaks_101 (by decide) (by omega) (fun hc_15 => ?_) (fun hc_15 => ?_)
    · skip
      refine z_iconst hx hb dX8_breaks_152 ?_
      have hv_16 : (brM Mguest (Mbar (4 * k)) (Mbar (4 * k + 1)) (Mbar (4 * k + 2)) (Mbar (4 * k + 3)) (Morder i) (Morder j) i j ∧ (0 : Int) = 1) ∨ (¬ brM Mguest (Mbar (4 * k)) (Mbar (4 * k + 1)) (Mbar (4 * k + 2)) (Mbar (4 * k + 3)) (Morder i) (Morder j) i j ∧ (0 : Int) = 0) := by
        unfold brM
        first | grind | omega
      exact W.zret (v := zI 0) hx hb hr rfl (fun t9 ht hW => ⟨⟨zI 0, 0, rfl, ⟨rfl, hv_16⟩, by subst hAe; exact z_end hK hw ht hW⟩, by subst hAe; exact hw.2.2.F ht⟩) (by subst hAe; exact hw.2.2.2.2) dX8_breaks_153
    · skip
      refine lv_aload_n hx hb dX8_breaks_104 rfl (lv_at hl 5 rfl) ?_
      refine lv_iload hx hb dX8_breaks_105 (lv_at hl 4 rfl) ?_
      refine lv_iload hx hb dX8_breaks_107 (lv_at hl 2 rfl) ?_
      have hF9 := z_free (wc := kM cI cB cZ oM Mthrown Mmany Mguest Mrow Mbars Mbar Mfresh Mtape Mtaped Mpos Mtoken MtokenAt Mvalue Mwrong MwrongAt MfaultKind MfaultPlace Mthing Morder Mone Mtwo Mbest Mcells Mgap Mwire Mstand Mruns Mminute Mhead Mplays Mrests Mwent Mout Mcame Mgone MlastOut) hw hA [0, 1, 2, 3, 4, 5, 6, 7, 8, 9, 10, 11, 12, 13, 14, 15, 16] rfl
      refine va_calli (va_runV (As := [.int (zI (Morder i)), .int (zI (Mbar ((4 * k) + 1)))]) (rest := []) ⟨hx, hb, hml, hown, hts⟩ (c_X8_is l D cI cB cZ oM s.heap.size Mthrown Mmany Mguest Mrow Mbars Mbar Mfresh Mtape Mtaped Mpos Mtoken MtokenAt Mvalue Mwrong MwrongAt MfaultKind MfaultPlace Mthing Morder Mone Mtwo Mbest Mcells Mgap Mwire Mstand Mruns Mminute Mhead Mplays Mrests Mwent Mout Mcame Mgone MlastOut (Morder i) (Mbar ((4 * k) + 1)) (by omega) (by omega) qMguest qMrow (by omega) qMbar qMfresh qMtape (by omega) (by omega) (by omega) (by omega) (by omega) (by omega) (by omega) (by omega) (by omega) (by omega) qMorder (by omega) (by omega) qMbest (by omega) (by omega) qMwire qMstand (by omega) (by omega) qMhead qMplays qMrests qMwent qMout qMcame qMgone (by omega) (by omega) (by omega)) (cwV 2 hts gX8_breaks_X8_is rfl rfl rfl (by decide +kernel) ⟨Nat.le_of_ble_eq_true rfl, Nat.le_of_ble_eq_true rfl⟩) ⟨zPre_blind, va_recv hK hw.1 (ci := 8) (q0 := 0) rfl rfl, z_pre hK hw [0, 1, 2, 3, 4, 5, 6, 7, 8, 9, 10, 11, 12, 13, 14, 15, 16] (by decide) rfl⟩ rfl rfl hl.1 rfl (lv_room (Nat.le_of_ble_eq_true rfl)) dX8_breaks_109 ⟨Nat.zero_le _, Nat.zero_le _⟩) hw.2.2 (fun q _ h => hF9 q h) hF9 (fun r9 u9 t9 H_17 locs9 ht9 hvm9 hq9 hB9 hz9 hk9 hS9 => ?_)
      obtain ⟨r_18, rfl⟩ : ∃ z, z = u9 := ⟨_, rfl⟩
      try dsimp only at hq9 hB9
      obtain ⟨rfl, hq9⟩ := hq9
      have hq_19 := hq9
      have hw : HW D A s.heap (kM cI cB cZ oM Mthrown Mmany Mguest Mrow Mbars Mbar Mfresh Mtape Mtaped Mpos Mtoken MtokenAt Mvalue Mwrong MwrongAt MfaultKind MfaultPlace Mthing Morder Mone Mtwo Mbest Mcells Mgap Mwire Mstand Mruns Mminute Mhead Mplays Mrests Mwent Mout Mcame Mgone MlastOut) H_17 locs9 := z_after (wc := kM cI cB cZ oM Mthrown Mmany Mguest Mrow Mbars Mbar Mfresh Mtape Mtaped Mpos Mtoken MtokenAt Mvalue Mwrong MwrongAt MfaultKind MfaultPlace Mthing Morder Mone Mtwo Mbest Mcells Mgap Mwire Mstand Mruns Mminute Mhead Mplays Mrests Mwent Mout Mcame Mgone MlastOut) hw [0, 1, 2, 3, 4, 5, 6, 7, 8, 9, 10, 11, 12, 13, 14, 15, 16] [] rfl rfl (by decide) (by decide) hF9 hk9 ht9 hB9 hS9 [0, 1, 2, 3, 4, 5, 6, 7, 8, 9, 10, 11, 12, 13, 14, 15, 16] (by decide) rfl
      clear hF9 ht9 hvm9 hB9 hz9 hk9 hS9 hq9
      rcases hq_19 with ⟨hc_20, rfl⟩ | ⟨hc_20, rfl⟩
      · skip
        refine z_if_eq (tgt := 126) hx hb dX8_breaks_112 (by decide) (by omega) (fun hc_21 => absurd hc_21 (by omega)) (fun hc_21 => ?_)
        refine lv_aload_n hx hb dX8_breaks_115 rfl (lv_at hl 5 rfl) ?_
        refine lv_iload hx hb dX8_breaks_116 (lv_at hl 3 rfl) ?_
        refine lv_iload hx hb dX8_breaks_118 (lv_at hl 1 rfl) ?_
        have hF9 := z_free (wc := kM cI cB cZ oM Mthrown Mmany Mguest Mrow Mbars Mbar Mfresh Mtape Mtaped Mpos Mtoken MtokenAt Mvalue Mwrong MwrongAt MfaultKind MfaultPlace Mthing Morder Mone Mtwo Mbest Mcells Mgap Mwire Mstand Mruns Mminute Mhead Mplays Mrests Mwent Mout Mcame Mgone MlastOut) hw hA [0, 1, 2, 3, 4, 5, 6, 7, 8, 9, 10, 11, 12, 13, 14, 15, 16] rfl
        refine va_calli (va_runV (As := [.int (zI (Morder j)), .int (zI (Mbar ((4 * k) + 2)))]) (rest := []) ⟨hx, hb, hml, hown, hts⟩ (c_X8_is l D cI cB cZ oM H_17.size Mthrown Mmany Mguest Mrow Mbars Mbar Mfresh Mtape Mtaped Mpos Mtoken MtokenAt Mvalue Mwrong MwrongAt MfaultKind MfaultPlace Mthing Morder Mone Mtwo Mbest Mcells Mgap Mwire Mstand Mruns Mminute Mhead Mplays Mrests Mwent Mout Mcame Mgone MlastOut (Morder j) (Mbar ((4 * k) + 2)) (by omega) (by omega) qMguest qMrow (by omega) qMbar qMfresh qMtape (by omega) (by omega) (by omega) (by omega) (by omega) (by omega) (by omega) (by omega) (by omega) (by omega) qMorder (by omega) (by omega) qMbest (by omega) (by omega) qMwire qMstand (by omega) (by omega) qMhead qMplays qMrests qMwent qMout qMcame qMgone (by omega) (by omega) (by omega)) (cwV 2 hts gX8_breaks_X8_is rfl rfl rfl (by decide +kernel) ⟨Nat.le_of_ble_eq_true rfl, Nat.le_of_ble_eq_true rfl⟩) ⟨zPre_blind, va_recv hK hw.1 (ci := 8) (q0 := 0) rfl rfl, z_pre hK hw [0, 1, 2, 3, 4, 5, 6, 7, 8, 9, 10, 11, 12, 13, 14, 15, 16] (by decide) rfl⟩ rfl rfl hl.1 rfl (lv_room (Nat.le_of_ble_eq_true rfl)) dX8_breaks_120 ⟨Nat.zero_le _, Nat.zero_le _⟩) hw.2.2 (fun q _ h => hF9 q h) hF9 (fun r9 u9 t9 H_22 locs9 ht9 hvm9 hq9 hB9 hz9 hk9 hS9 => ?_)
        obtain ⟨r_23, rfl⟩ : ∃ z, z = u9 := ⟨_, rfl⟩
        try dsimp only at hq9 hB9
        obtain ⟨rfl, hq9⟩ := hq9
        have hq_24 := hq9
        have hw : HW D A s.heap (kM cI cB cZ oM Mthrown Mmany Mguest Mrow Mbars Mbar Mfresh Mtape Mtaped Mpos Mtoken MtokenAt Mvalue Mwrong MwrongAt MfaultKind MfaultPlace Mthing Morder Mone Mtwo Mbest Mcells Mgap Mwire Mstand Mruns Mminute Mhead Mplays Mrests Mwent Mout Mcame Mgone MlastOut) H_22 locs9 := z_after (wc := kM cI cB cZ oM Mthrown Mmany Mguest Mrow Mbars Mbar Mfresh Mtape Mtaped Mpos Mtoken MtokenAt Mvalue Mwrong MwrongAt MfaultKind MfaultPlace Mthing Morder Mone Mtwo Mbest Mcells Mgap Mwire Mstand Mruns Mminute Mhead Mplays Mrests Mwent Mout Mcame Mgone MlastOut) hw [0, 1, 2, 3, 4, 5, 6, 7, 8, 9, 10, 11, 12, 13, 14, 15, 16] [] rfl rfl (by decide) (by decide) hF9 hk9 ht9 hB9 hS9 [0, 1, 2, 3, 4, 5, 6, 7, 8, 9, 10, 11, 12, 13, 14, 15, 16] (by decide) rfl
        clear hF9 ht9 hvm9 hB9 hz9 hk9 hS9 hq9
        rcases hq_24 with ⟨hc_25, rfl⟩ | ⟨hc_25, rfl⟩
        · skip
          refine z_if_ne (tgt := 148) hx hb dX8_breaks_123 (by decide) (by omega) (fun hc_26 => ?_) (fun hc_26 => absurd hc_26 (by omega))
          refine z_iconst hx hb dX8_breaks_148 ?_
          refine lv_goto (tgt := 153) hx hb dX8_breaks_149 (by decide) ?_
          have hv_27 : (brM Mguest (Mbar (4 * k)) (Mbar (4 * k + 1)) (Mbar (4 * k + 2)) (Mbar (4 * k + 3)) (Morder i) (Morder j) i j ∧ (1 : Int) = 1) ∨ (¬ brM Mguest (Mbar (4 * k)) (Mbar (4 * k + 1)) (Mbar (4 * k + 2)) (Mbar (4 * k + 3)) (Morder i) (Morder j) i j ∧ (1 : Int) = 0) := by
            unfold brM
            first | grind | omega
          exact W.zret (v := zI 1) hx hb hr rfl (fun t9 ht hW => ⟨⟨zI 1, 1, rfl, ⟨rfl, hv_27⟩, by subst hAe; exact z_end hK hw ht hW⟩, by subst hAe; exact hw.2.2.F ht⟩) (by subst hAe; exact hw.2.2.2.2) dX8_breaks_153
        · skip
          refine z_if_ne (tgt := 148) hx hb dX8_breaks_123 (by decide) (by omega) (fun hc_28 => absurd hc_28 (by omega)) (fun hc_28 => ?_)
          refine lv_aload_n hx hb dX8_breaks_126 rfl (lv_at hl 5 rfl) ?_
          refine lv_iload hx hb dX8_breaks_127 (lv_at hl 3 rfl) ?_
          refine lv_iload hx hb dX8_breaks_129 (lv_at hl 2 rfl) ?_
          have hF9 := z_free (wc := kM cI cB cZ oM Mthrown Mmany Mguest Mrow Mbars Mbar Mfresh Mtape Mtaped Mpos Mtoken MtokenAt Mvalue Mwrong MwrongAt MfaultKind MfaultPlace Mthing Morder Mone Mtwo Mbest Mcells Mgap Mwire Mstand Mruns Mminute Mhead Mplays Mrests Mwent Mout Mcame Mgone MlastOut) hw hA [0, 1, 2, 3, 4, 5, 6, 7, 8, 9, 10, 11, 12, 13, 14, 15, 16] rfl
          refine va_calli (va_runV (As := [.int (zI (Morder j)), .int (zI (Mbar ((4 * k) + 1)))]) (rest := []) ⟨hx, hb, hml, hown, hts⟩ (c_X8_is l D cI cB cZ oM H_22.size Mthrown Mmany Mguest Mrow Mbars Mbar Mfresh Mtape Mtaped Mpos Mtoken MtokenAt Mvalue Mwrong MwrongAt MfaultKind MfaultPlace Mthing Morder Mone Mtwo Mbest Mcells Mgap Mwire Mstand Mruns Mminute Mhead Mplays Mrests Mwent Mout Mcame Mgone MlastOut (Morder j) (Mbar ((4 * k) + 1)) (by omega) (by omega) qMguest qMrow (by omega) qMbar qMfresh qMtape (by omega) (by omega) (by omega) (by omega) (by omega) (by omega) (by omega) (by omega) (by omega) (by omega) qMorder (by omega) (by omega) qMbest (by omega) (by omega) qMwire qMstand (by omega) (by omega) qMhead qMplays qMrests qMwent qMout qMcame qMgone (by omega) (by omega) (by omega)) (cwV 2 hts gX8_breaks_X8_is rfl rfl rfl (by decide +kernel) ⟨Nat.le_of_ble_eq_true rfl, Nat.le_of_ble_eq_true rfl⟩) ⟨zPre_blind, va_recv hK hw.1 (ci := 8) (q0 := 0) rfl rfl, z_pre hK hw [0, 1, 2, 3, 4, 5, 6, 7, 8, 9, 10, 11, 12, 13, 14, 15, 16] (by decide) rfl⟩ rfl rfl hl.1 rfl (lv_room (Nat.le_of_ble_eq_true rfl)) dX8_breaks_131 ⟨Nat.zero_le _, Nat.zero_le _⟩) hw.2.2 (fun q _ h => hF9 q h) hF9 (fun r9 u9 t9 H_29 locs9 ht9 hvm9 hq9 hB9 hz9 hk9 hS9 => ?_)
          obtain ⟨r_30, rfl⟩ : ∃ z, z = u9 := ⟨_, rfl⟩
          try dsimp only at hq9 hB9
          obtain ⟨rfl, hq9⟩ := hq9
          have hq_31 := hq9
          have hw : HW D A s.heap (kM cI cB cZ oM Mthrown Mmany Mguest Mrow Mbars Mbar Mfresh Mtape Mtaped Mpos Mtoken MtokenAt Mvalue Mwrong MwrongAt MfaultKind MfaultPlace Mthing Morder Mone Mtwo Mbest Mcells Mgap Mwire Mstand Mruns Mminute Mhead Mplays Mrests Mwent Mout Mcame Mgone MlastOut) H_29 locs9 := z_after (wc := kM cI cB cZ oM Mthrown Mmany Mguest Mrow Mbars Mbar Mfresh Mtape Mtaped Mpos Mtoken MtokenAt Mvalue Mwrong MwrongAt MfaultKind MfaultPlace Mthing Morder Mone Mtwo Mbest Mcells Mgap Mwire Mstand Mruns Mminute Mhead Mplays Mrests Mwent Mout Mcame Mgone MlastOut) hw [0, 1, 2, 3, 4, 5, 6, 7, 8, 9, 10, 11, 12, 13, 14, 15, 16] [] rfl rfl (by decide) (by decide) hF9 hk9 ht9 hB9 hS9 [0, 1, 2, 3, 4, 5, 6, 7, 8, 9, 10, 11, 12, 13, 14, 15, 16] (by decide) rfl
          clear hF9 ht9 hvm9 hB9 hz9 hk9 hS9 hq9
          rcases hq_31 with ⟨hc_32, rfl⟩ | ⟨hc_32, rfl⟩
          · skip
            refine z_if_eq (tgt := 152) hx hb dX8_breaks_134 (by decide) (by omega) (fun hc_33 => absurd hc_33 (by omega)) (fun hc_33 => ?_)
            refine lv_aload_n hx hb dX8_breaks_137 rfl (lv_at hl 5 rfl) ?_
            refine lv_iload hx hb dX8_breaks_138 (lv_at hl 4 rfl) ?_
            refine lv_iload hx hb dX8_breaks_140 (lv_at hl 1 rfl) ?_
            have hF9 := z_free (wc := kM cI cB cZ oM Mthrown Mmany Mguest Mrow Mbars Mbar Mfresh Mtape Mtaped Mpos Mtoken MtokenAt Mvalue Mwrong MwrongAt MfaultKind MfaultPlace Mthing Morder Mone Mtwo Mbest Mcells Mgap Mwire Mstand Mruns Mminute Mhead Mplays Mrests Mwent Mout Mcame Mgone MlastOut) hw hA [0, 1, 2, 3, 4, 5, 6, 7, 8, 9, 10, 11, 12, 13, 14, 15, 16] rfl
            refine va_calli (va_runV (As := [.int (zI (Morder i)), .int (zI (Mbar ((4 * k) + 2)))]) (rest := []) ⟨hx, hb, hml, hown, hts⟩ (c_X8_is l D cI cB cZ oM H_29.size Mthrown Mmany Mguest Mrow Mbars Mbar Mfresh Mtape Mtaped Mpos Mtoken MtokenAt Mvalue Mwrong MwrongAt MfaultKind MfaultPlace Mthing Morder Mone Mtwo Mbest Mcells Mgap Mwire Mstand Mruns Mminute Mhead Mplays Mrests Mwent Mout Mcame Mgone MlastOut (Morder i) (Mbar ((4 * k) + 2)) (by omega) (by omega) qMguest qMrow (by omega) qMbar qMfresh qMtape (by omega) (by omega) (by omega) (by omega) (by omega) (by omega) (by omega) (by omega) (by omega) (by omega) qMorder (by omega) (by omega) qMbest (by omega) (by omega) qMwire qMstand (by omega) (by omega) qMhead qMplays qMrests qMwent qMout qMcame qMgone (by omega) (by omega) (by omega)) (cwV 2 hts gX8_breaks_X8_is rfl rfl rfl (by decide +kernel) ⟨Nat.le_of_ble_eq_true rfl, Nat.le_of_ble_eq_true rfl⟩) ⟨zPre_blind, va_recv hK hw.1 (ci := 8) (q0 := 0) rfl rfl, z_pre hK hw [0, 1, 2, 3, 4, 5, 6, 7, 8, 9, 10, 11, 12, 13, 14, 15, 16] (by decide) rfl⟩ rfl rfl hl.1 rfl (lv_room (Nat.le_of_ble_eq_true rfl)) dX8_breaks_142 ⟨Nat.zero_le _, Nat.zero_le _⟩) hw.2.2 (fun q _ h => hF9 q h) hF9 (fun r9 u9 t9 H_34 locs9 ht9 hvm9 hq9 hB9 hz9 hk9 hS9 => ?_)
            obtain ⟨r_35, rfl⟩ : ∃ z, z = u9 := ⟨_, rfl⟩
            try dsimp only at hq9 hB9
            obtain ⟨rfl, hq9⟩ := hq9
            have hq_36 := hq9
            have hw : HW D A s.heap (kM cI cB cZ oM Mthrown Mmany Mguest Mrow Mbars Mbar Mfresh Mtape Mtaped Mpos Mtoken MtokenAt Mvalue Mwrong MwrongAt MfaultKind MfaultPlace Mthing Morder Mone Mtwo Mbest Mcells Mgap Mwire Mstand Mruns Mminute Mhead Mplays Mrests Mwent Mout Mcame Mgone MlastOut) H_34 locs9 := z_after (wc := kM cI cB cZ oM Mthrown Mmany Mguest Mrow Mbars Mbar Mfresh Mtape Mtaped Mpos Mtoken MtokenAt Mvalue Mwrong MwrongAt MfaultKind MfaultPlace Mthing Morder Mone Mtwo Mbest Mcells Mgap Mwire Mstand Mruns Mminute Mhead Mplays Mrests Mwent Mout Mcame Mgone MlastOut) hw [0, 1, 2, 3, 4, 5, 6, 7, 8, 9, 10, 11, 12, 13, 14, 15, 16] [] rfl rfl (by decide) (by decide) hF9 hk9 ht9 hB9 hS9 [0, 1, 2, 3, 4, 5, 6, 7, 8, 9, 10, 11, 12, 13, 14, 15, 16] (by decide) rfl
            clear hF9 ht9 hvm9 hB9 hz9 hk9 hS9 hq9
            rcases hq_36 with ⟨hc_37, rfl⟩ | ⟨hc_37, rfl⟩
            · skip
              refine z_if_eq (tgt := 152) hx hb dX8_breaks_145 (by decide) (by omega) (fun hc_38 => absurd hc_38 (by omega)) (fun hc_38 => ?_)
              refine z_iconst hx hb dX8_breaks_148 ?_
              refine lv_goto (tgt := 153) hx hb dX8_breaks_149 (by decide) ?_
              have hv_39 : (brM Mguest (Mbar (4 * k)) (Mbar (4 * k + 1)) (Mbar (4 * k + 2)) (Mbar (4 * k + 3)) (Morder i) (Morder j) i j ∧ (1 : Int) = 1) ∨ (¬ brM Mguest (Mbar (4 * k)) (Mbar (4 * k + 1)) (Mbar (4 * k + 2)) (Mbar (4 * k + 3)) (Morder i) (Morder j) i j ∧ (1 : Int) = 0) := by
                unfold brM
                first | grind | omega
              exact W.zret (v := zI 1) hx hb hr rfl (fun t9 ht hW => ⟨⟨zI 1, 1, rfl, ⟨rfl, hv_39⟩, by subst hAe; exact z_end hK hw ht hW⟩, by subst hAe; exact hw.2.2.F ht⟩) (by subst hAe; exact hw.2.2.2.2) dX8_breaks_153
            · skip
              refine z_if_eq (tgt := 152) hx hb dX8_breaks_145 (by decide) (by omega) (fun hc_40 => ?_) (fun hc_40 => absurd hc_40 (by omega))
              refine z_iconst hx hb dX8_breaks_152 ?_
              have hv_41 : (brM Mguest (Mbar (4 * k)) (Mbar (4 * k + 1)) (Mbar (4 * k + 2)) (Mbar (4 * k + 3)) (Morder i) (Morder j) i j ∧ (0 : Int) = 1) ∨ (¬ brM Mguest (Mbar (4 * k)) (Mbar (4 * k + 1)) (Mbar (4 * k + 2)) (Mbar (4 * k + 3)) (Morder i) (Morder j) i j ∧ (0 : Int) = 0) := by
                unfold brM
                first | grind | omega
              exact W.zret (v := zI 0) hx hb hr rfl (fun t9 ht hW => ⟨⟨zI 0, 0, rfl, ⟨rfl, hv_41⟩, by subst hAe; exact z_end hK hw ht hW⟩, by subst hAe; exact hw.2.2.F ht⟩) (by subst hAe; exact hw.2.2.2.2) dX8_breaks_153
          · skip
            refine z_if_eq (tgt := 152) hx hb dX8_breaks_134 (by decide) (by omega) (fun hc_42 => ?_) (fun hc_42 => absurd hc_42 (by omega))
            refine z_iconst hx hb dX8_breaks_152 ?_
            have hv_43 : (brM Mguest (Mbar (4 * k)) (Mbar (4 * k + 1)) (Mbar (4 * k + 2)) (Mbar (4 * k + 3)) (Morder i) (Morder j) i j ∧ (0 : Int) = 1) ∨ (¬ brM Mguest (Mbar (4 * k)) (Mbar (4 * k + 1)) (Mbar (4 * k + 2)) (Mbar (4 * k + 3)) (Morder i) (Morder j) i j ∧ (0 : Int) = 0) := by
              unfold brM
              first | grind | omega
            exact W.zret (v := zI 0) hx hb hr rfl (fun t9 ht hW => ⟨⟨zI 0, 0, rfl, ⟨rfl, hv_43⟩, by subst hAe; exact z_end hK hw ht hW⟩, by subst hAe; exact hw.2.2.F ht⟩) (by subst hAe; exact hw.2.2.2.2) dX8_breaks_153
      · skip
        refine z_if_eq (tgt := 126) hx hb dX8_breaks_112 (by decide) (by omega) (fun hc_44 => ?_) (fun hc_44 => absurd hc_44 (by omega))
        refine lv_aload_n hx hb dX8_breaks_126 rfl (lv_at hl 5 rfl) ?_
        refine lv_iload hx hb dX8_breaks_127 (lv_at hl 3 rfl) ?_
        refine lv_iload hx hb dX8_breaks_129 (lv_at hl 2 rfl) ?_
        have hF9 := z_free (wc := kM cI cB cZ oM Mthrown Mmany Mguest Mrow Mbars Mbar Mfresh Mtape Mtaped Mpos Mtoken MtokenAt Mvalue Mwrong MwrongAt MfaultKind MfaultPlace Mthing Morder Mone Mtwo Mbest Mcells Mgap Mwire Mstand Mruns Mminute Mhead Mplays Mrests Mwent Mout Mcame Mgone MlastOut) hw hA [0, 1, 2, 3, 4, 5, 6, 7, 8, 9, 10, 11, 12, 13, 14, 15, 16] rfl
        refine va_calli (va_runV (As := [.int (zI (Morder j)), .int (zI (Mbar ((4 * k) + 1)))]) (rest := []) ⟨hx, hb, hml, hown, hts⟩ (c_X8_is l D cI cB cZ oM H_17.size Mthrown Mmany Mguest Mrow Mbars Mbar Mfresh Mtape Mtaped Mpos Mtoken MtokenAt Mvalue Mwrong MwrongAt MfaultKind MfaultPlace Mthing Morder Mone Mtwo Mbest Mcells Mgap Mwire Mstand Mruns Mminute Mhead Mplays Mrests Mwent Mout Mcame Mgone MlastOut (Morder j) (Mbar ((4 * k) + 1)) (by omega) (by omega) qMguest qMrow (by omega) qMbar qMfresh qMtape (by omega) (by omega) (by omega) (by omega) (by omega) (by omega) (by omega) (by omega) (by omega) (by omega) qMorder (by omega) (by omega) qMbest (by omega) (by omega) qMwire qMstand (by omega) (by omega) qMhead qMplays qMrests qMwent qMout qMcame qMgone (by omega) (by omega) (by omega)) (cwV 2 hts gX8_breaks_X8_is rfl rfl rfl (by decide +kernel) ⟨Nat.le_of_ble_eq_true rfl, Nat.le_of_ble_eq_true rfl⟩) ⟨zPre_blind, va_recv hK hw.1 (ci := 8) (q0 := 0) rfl rfl, z_pre hK hw [0, 1, 2, 3, 4, 5, 6, 7, 8, 9, 10, 11, 12, 13, 14, 15, 16] (by decide) rfl⟩ rfl rfl hl.1 rfl (lv_room (Nat.le_of_ble_eq_true rfl)) dX8_breaks_131 ⟨Nat.zero_le _, Nat.zero_le _⟩) hw.2.2 (fun q _ h => hF9 q h) hF9 (fun r9 u9 t9 H_45 locs9 ht9 hvm9 hq9 hB9 hz9 hk9 hS9 => ?_)
        obtain ⟨r_46, rfl⟩ : ∃ z, z = u9 := ⟨_, rfl⟩
        try dsimp only at hq9 hB9
        obtain ⟨rfl, hq9⟩ := hq9
        have hq_47 := hq9
        have hw : HW D A s.heap (kM cI cB cZ oM Mthrown Mmany Mguest Mrow Mbars Mbar Mfresh Mtape Mtaped Mpos Mtoken MtokenAt Mvalue Mwrong MwrongAt MfaultKind MfaultPlace Mthing Morder Mone Mtwo Mbest Mcells Mgap Mwire Mstand Mruns Mminute Mhead Mplays Mrests Mwent Mout Mcame Mgone MlastOut) H_45 locs9 := z_after (wc := kM cI cB cZ oM Mthrown Mmany Mguest Mrow Mbars Mbar Mfresh Mtape Mtaped Mpos Mtoken MtokenAt Mvalue Mwrong MwrongAt MfaultKind MfaultPlace Mthing Morder Mone Mtwo Mbest Mcells Mgap Mwire Mstand Mruns Mminute Mhead Mplays Mrests Mwent Mout Mcame Mgone MlastOut) hw [0, 1, 2, 3, 4, 5, 6, 7, 8, 9, 10, 11, 12, 13, 14, 15, 16] [] rfl rfl (by decide) (by decide) hF9 hk9 ht9 hB9 hS9 [0, 1, 2, 3, 4, 5, 6, 7, 8, 9, 10, 11, 12, 13, 14, 15, 16] (by decide) rfl
        clear hF9 ht9 hvm9 hB9 hz9 hk9 hS9 hq9
        rcases hq_47 with ⟨hc_48, rfl⟩ | ⟨hc_48, rfl⟩
        · skip
          refine z_if_eq (tgt := 152) hx hb dX8_breaks_134 (by decide) (by omega) (fun hc_49 => absurd hc_49 (by omega)) (fun hc_49 => ?_)
          refine lv_aload_n hx hb dX8_breaks_137 rfl (lv_at hl 5 rfl) ?_
          refine lv_iload hx hb dX8_breaks_138 (lv_at hl 4 rfl) ?_
          refine lv_iload hx hb dX8_breaks_140 (lv_at hl 1 rfl) ?_
          have hF9 := z_free (wc := kM cI cB cZ oM Mthrown Mmany Mguest Mrow Mbars Mbar Mfresh Mtape Mtaped Mpos Mtoken MtokenAt Mvalue Mwrong MwrongAt MfaultKind MfaultPlace Mthing Morder Mone Mtwo Mbest Mcells Mgap Mwire Mstand Mruns Mminute Mhead Mplays Mrests Mwent Mout Mcame Mgone MlastOut) hw hA [0, 1, 2, 3, 4, 5, 6, 7, 8, 9, 10, 11, 12, 13, 14, 15, 16] rfl
          refine va_calli (va_runV (As := [.int (zI (Morder i)), .int (zI (Mbar ((4 * k) + 2)))]) (rest := []) ⟨hx, hb, hml, hown, hts⟩ (c_X8_is l D cI cB cZ oM H_45.size Mthrown Mmany Mguest Mrow Mbars Mbar Mfresh Mtape Mtaped Mpos Mtoken MtokenAt Mvalue Mwrong MwrongAt MfaultKind MfaultPlace Mthing Morder Mone Mtwo Mbest Mcells Mgap Mwire Mstand Mruns Mminute Mhead Mplays Mrests Mwent Mout Mcame Mgone MlastOut (Morder i) (Mbar ((4 * k) + 2)) (by omega) (by omega) qMguest qMrow (by omega) qMbar qMfresh qMtape (by omega) (by omega) (by omega) (by omega) (by omega) (by omega) (by omega) (by omega) (by omega) (by omega) qMorder (by omega) (by omega) qMbest (by omega) (by omega) qMwire qMstand (by omega) (by omega) qMhead qMplays qMrests qMwent qMout qMcame qMgone (by omega) (by omega) (by omega)) (cwV 2 hts gX8_breaks_X8_is rfl rfl rfl (by decide +kernel) ⟨Nat.le_of_ble_eq_true rfl, Nat.le_of_ble_eq_true rfl⟩) ⟨zPre_blind, va_recv hK hw.1 (ci := 8) (q0 := 0) rfl rfl, z_pre hK hw [0, 1, 2, 3, 4, 5, 6, 7, 8, 9, 10, 11, 12, 13, 14, 15, 16] (by decide) rfl⟩ rfl rfl hl.1 rfl (lv_room (Nat.le_of_ble_eq_true rfl)) dX8_breaks_142 ⟨Nat.zero_le _, Nat.zero_le _⟩) hw.2.2 (fun q _ h => hF9 q h) hF9 (fun r9 u9 t9 H_50 locs9 ht9 hvm9 hq9 hB9 hz9 hk9 hS9 => ?_)
          obtain ⟨r_51, rfl⟩ : ∃ z, z = u9 := ⟨_, rfl⟩
          try dsimp only at hq9 hB9
          obtain ⟨rfl, hq9⟩ := hq9
          have hq_52 := hq9
          have hw : HW D A s.heap (kM cI cB cZ oM Mthrown Mmany Mguest Mrow Mbars Mbar Mfresh Mtape Mtaped Mpos Mtoken MtokenAt Mvalue Mwrong MwrongAt MfaultKind MfaultPlace Mthing Morder Mone Mtwo Mbest Mcells Mgap Mwire Mstand Mruns Mminute Mhead Mplays Mrests Mwent Mout Mcame Mgone MlastOut) H_50 locs9 := z_after (wc := kM cI cB cZ oM Mthrown Mmany Mguest Mrow Mbars Mbar Mfresh Mtape Mtaped Mpos Mtoken MtokenAt Mvalue Mwrong MwrongAt MfaultKind MfaultPlace Mthing Morder Mone Mtwo Mbest Mcells Mgap Mwire Mstand Mruns Mminute Mhead Mplays Mrests Mwent Mout Mcame Mgone MlastOut) hw [0, 1, 2, 3, 4, 5, 6, 7, 8, 9, 10, 11, 12, 13, 14, 15, 16] [] rfl rfl (by decide) (by decide) hF9 hk9 ht9 hB9 hS9 [0, 1, 2, 3, 4, 5, 6, 7, 8, 9, 10, 11, 12, 13, 14, 15, 16] (by decide) rfl
          clear hF9 ht9 hvm9 hB9 hz9 hk9 hS9 hq9
          rcases hq_52 with ⟨hc_53, rfl⟩ | ⟨hc_53, rfl⟩
          · skip
            refine z_if_eq (tgt := 152) hx hb dX8_breaks_145 (by decide) (by omega) (fun hc_54 => absurd hc_54 (by omega)) (fun hc_54 => ?_)
            refine z_iconst hx hb dX8_breaks_148 ?_
            refine lv_goto (tgt := 153) hx hb dX8_breaks_149 (by decide) ?_
            have hv_55 : (brM Mguest (Mbar (4 * k)) (Mbar (4 * k + 1)) (Mbar (4 * k + 2)) (Mbar (4 * k + 3)) (Morder i) (Morder j) i j ∧ (1 : Int) = 1) ∨ (¬ brM Mguest (Mbar (4 * k)) (Mbar (4 * k + 1)) (Mbar (4 * k + 2)) (Mbar (4 * k + 3)) (Morder i) (Morder j) i j ∧ (1 : Int) = 0) := by
              unfold brM
              first | grind | omega
            exact W.zret (v := zI 1) hx hb hr rfl (fun t9 ht hW => ⟨⟨zI 1, 1, rfl, ⟨rfl, hv_55⟩, by subst hAe; exact z_end hK hw ht hW⟩, by subst hAe; exact hw.2.2.F ht⟩) (by subst hAe; exact hw.2.2.2.2) dX8_breaks_153
          · skip
            refine z_if_eq (tgt := 152) hx hb dX8_breaks_145 (by decide) (by omega) (fun hc_56 => ?_) (fun hc_56 => absurd hc_56 (by omega))
            refine z_iconst hx hb dX8_breaks_152 ?_
            have hv_57 : (brM Mguest (Mbar (4 * k)) (Mbar (4 * k + 1)) (Mbar (4 * k + 2)) (Mbar (4 * k + 3)) (Morder i) (Morder j) i j ∧ (0 : Int) = 1) ∨ (¬ brM Mguest (Mbar (4 * k)) (Mbar (4 * k + 1)) (Mbar (4 * k + 2)) (Mbar (4 * k + 3)) (Morder i) (Morder j) i j ∧ (0 : Int) = 0) := by
              unfold brM
              first | grind | omega
            exact W.zret (v := zI 0) hx hb hr rfl (fun t9 ht hW => ⟨⟨zI 0, 0, rfl, ⟨rfl, hv_57⟩, by subst hAe; exact z_end hK hw ht hW⟩, by subst hAe; exact hw.2.2.F ht⟩) (by subst hAe; exact hw.2.2.2.2) dX8_breaks_153
        · skip
          refine z_if_eq (tgt := 152) hx hb dX8_breaks_134 (by decide) (by omega) (fun hc_58 => ?_) (fun hc_58 => absurd hc_58 (by omega))
          refine z_iconst hx hb dX8_breaks_152 ?_
          have hv_59 : (brM Mguest (Mbar (4 * k)) (Mbar (4 * k + 1)) (Mbar (4 * k + 2)) (Mbar (4 * k + 3)) (Morder i) (Morder j) i j ∧ (0 : Int) = 1) ∨ (¬ brM Mguest (Mbar (4 * k)) (Mbar (4 * k + 1)) (Mbar (4 * k + 2)) (Mbar (4 * k + 3)) (Morder i) (Morder j) i j ∧ (0 : Int) = 0) := by
            unfold brM
            first | grind | omega
          exact W.zret (v := zI 0) hx hb hr rfl (fun t9 ht hW => ⟨⟨zI 0, 0, rfl, ⟨rfl, hv_59⟩, by subst hAe; exact z_end hK hw ht hW⟩, by subst hAe; exact hw.2.2.F ht⟩) (by subst hAe; exact hw.2.2.2.2) dX8_breaks_153
  · skip
    refine z_tableIn (k := 2) (off := 94) (tgt := 154) hx hb hc_13 dX8_breaks_60 (by decide) (by decide) rfl (by decide) ?_
    refine lv_aload_n hx hb dX8_breaks_154 rfl (lv_at hl 5 rfl) ?_
    refine lv_iload hx hb dX8_breaks_155 (lv_at hl 3 rfl) ?_
    refine lv_iload hx hb dX8_breaks_157 (lv_at hl 2 rfl) ?_
    have hF9 := z_free (wc := kM cI cB cZ oM Mthrown Mmany Mguest Mrow Mbars Mbar Mfresh Mtape Mtaped Mpos Mtoken MtokenAt Mvalue Mwrong MwrongAt MfaultKind MfaultPlace Mthing Morder Mone Mtwo Mbest Mcells Mgap Mwire Mstand Mruns Mminute Mhead Mplays Mrests Mwent Mout Mcame Mgone MlastOut) hw hA [0, 1, 2, 3, 4, 5, 6, 7, 8, 9, 10, 11, 12, 13, 14, 15, 16] rfl
    refine va_calli (va_runV (As := [.int (zI (Morder j)), .int (zI (Mbar ((4 * k) + 1)))]) (rest := []) ⟨hx, hb, hml, hown, hts⟩ (c_X8_is l D cI cB cZ oM s.heap.size Mthrown Mmany Mguest Mrow Mbars Mbar Mfresh Mtape Mtaped Mpos Mtoken MtokenAt Mvalue Mwrong MwrongAt MfaultKind MfaultPlace Mthing Morder Mone Mtwo Mbest Mcells Mgap Mwire Mstand Mruns Mminute Mhead Mplays Mrests Mwent Mout Mcame Mgone MlastOut (Morder j) (Mbar ((4 * k) + 1)) (by omega) (by omega) qMguest qMrow (by omega) qMbar qMfresh qMtape (by omega) (by omega) (by omega) (by omega) (by omega) (by omega) (by omega) (by omega) (by omega) (by omega) qMorder (by omega) (by omega) qMbest (by omega) (by omega) qMwire qMstand (by omega) (by omega) qMhead qMplays qMrests qMwent qMout qMcame qMgone (by omega) (by omega) (by omega)) (cwV 2 hts gX8_breaks_X8_is rfl rfl rfl (by decide +kernel) ⟨Nat.le_of_ble_eq_true rfl, Nat.le_of_ble_eq_true rfl⟩) ⟨zPre_blind, va_recv hK hw.1 (ci := 8) (q0 := 0) rfl rfl, z_pre hK hw [0, 1, 2, 3, 4, 5, 6, 7, 8, 9, 10, 11, 12, 13, 14, 15, 16] (by decide) rfl⟩ rfl rfl hl.1 rfl (lv_room (Nat.le_of_ble_eq_true rfl)) dX8_breaks_159 ⟨Nat.zero_le _, Nat.zero_le _⟩) hw.2.2 (fun q _ h => hF9 q h) hF9 (fun r9 u9 t9 H_60 locs9 ht9 hvm9 hq9 hB9 hz9 hk9 hS9 => ?_)
    obtain ⟨r_61, rfl⟩ : ∃ z, z = u9 := ⟨_, rfl⟩
    try dsimp only at hq9 hB9
    obtain ⟨rfl, hq9⟩ := hq9
    have hq_62 := hq9
    have hw : HW D A s.heap (kM cI cB cZ oM Mthrown Mmany Mguest Mrow Mbars Mbar Mfresh Mtape Mtaped Mpos Mtoken MtokenAt Mvalue Mwrong MwrongAt MfaultKind MfaultPlace Mthing Morder Mone Mtwo Mbest Mcells Mgap Mwire Mstand Mruns Mminute Mhead Mplays Mrests Mwent Mout Mcame Mgone MlastOut) H_60 locs9 := z_after (wc := kM cI cB cZ oM Mthrown Mmany Mguest Mrow Mbars Mbar Mfresh Mtape Mtaped Mpos Mtoken MtokenAt Mvalue Mwrong MwrongAt MfaultKind MfaultPlace Mthing Morder Mone Mtwo Mbest Mcells Mgap Mwire Mstand Mruns Mminute Mhead Mplays Mrests Mwent Mout Mcame Mgone MlastOut) hw [0, 1, 2, 3, 4, 5, 6, 7, 8, 9, 10, 11, 12, 13, 14, 15, 16] [] rfl rfl (by decide) (by decide) hF9 hk9 ht9 hB9 hS9 [0, 1, 2, 3, 4, 5, 6, 7, 8, 9, 10, 11, 12, 13, 14, 15, 16] (by decide) rfl
    clear hF9 ht9 hvm9 hB9 hz9 hk9 hS9 hq9
    rcases hq_62 with ⟨hc_63, rfl⟩ | ⟨hc_63, rfl⟩
    · skip
      refine z_if_eq (tgt := 180) hx hb dX8_breaks_162 (by decide) (by omega) (fun hc_64 => absurd hc_64 (by omega)) (fun hc_64 => ?_)
      refine lv_aload_n hx hb dX8_breaks_165 rfl (lv_at hl 5 rfl) ?_
      refine lv_iload hx hb dX8_breaks_166 (lv_at hl 4 rfl) ?_
      refine lv_iload hx hb dX8_breaks_168 (lv_at hl 1 rfl) ?_
      have hF9 := z_free (wc := kM cI cB cZ oM Mthrown Mmany Mguest Mrow Mbars Mbar Mfresh Mtape Mtaped Mpos Mtoken MtokenAt Mvalue Mwrong MwrongAt MfaultKind MfaultPlace Mthing Morder Mone Mtwo Mbest Mcells Mgap Mwire Mstand Mruns Mminute Mhead Mplays Mrests Mwent Mout Mcame Mgone MlastOut) hw hA [0, 1, 2, 3, 4, 5, 6, 7, 8, 9, 10, 11, 12, 13, 14, 15, 16] rfl
      refine va_calli (va_runV (As := [.int (zI (Morder i)), .int (zI (Mbar ((4 * k) + 2)))]) (rest := []) ⟨hx, hb, hml, hown, hts⟩ (c_X8_is l D cI cB cZ oM H_60.size Mthrown Mmany Mguest Mrow Mbars Mbar Mfresh Mtape Mtaped Mpos Mtoken MtokenAt Mvalue Mwrong MwrongAt MfaultKind MfaultPlace Mthing Morder Mone Mtwo Mbest Mcells Mgap Mwire Mstand Mruns Mminute Mhead Mplays Mrests Mwent Mout Mcame Mgone MlastOut (Morder i) (Mbar ((4 * k) + 2)) (by omega) (by omega) qMguest qMrow (by omega) qMbar qMfresh qMtape (by omega) (by omega) (by omega) (by omega) (by omega) (by omega) (by omega) (by omega) (by omega) (by omega) qMorder (by omega) (by omega) qMbest (by omega) (by omega) qMwire qMstand (by omega) (by omega) qMhead qMplays qMrests qMwent qMout qMcame qMgone (by omega) (by omega) (by omega)) (cwV 2 hts gX8_breaks_X8_is rfl rfl rfl (by decide +kernel) ⟨Nat.le_of_ble_eq_true rfl, Nat.le_of_ble_eq_true rfl⟩) ⟨zPre_blind, va_recv hK hw.1 (ci := 8) (q0 := 0) rfl rfl, z_pre hK hw [0, 1, 2, 3, 4, 5, 6, 7, 8, 9, 10, 11, 12, 13, 14, 15, 16] (by decide) rfl⟩ rfl rfl hl.1 rfl (lv_room (Nat.le_of_ble_eq_true rfl)) dX8_breaks_170 ⟨Nat.zero_le _, Nat.zero_le _⟩) hw.2.2 (fun q _ h => hF9 q h) hF9 (fun r9 u9 t9 H_65 locs9 ht9 hvm9 hq9 hB9 hz9 hk9 hS9 => ?_)
      obtain ⟨r_66, rfl⟩ : ∃ z, z = u9 := ⟨_, rfl⟩
      try dsimp only at hq9 hB9
      obtain ⟨rfl, hq9⟩ := hq9
      have hq_67 := hq9
      have hw : HW D A s.heap (kM cI cB cZ oM Mthrown Mmany Mguest Mrow Mbars Mbar Mfresh Mtape Mtaped Mpos Mtoken MtokenAt Mvalue Mwrong MwrongAt MfaultKind MfaultPlace Mthing Morder Mone Mtwo Mbest Mcells Mgap Mwire Mstand Mruns Mminute Mhead Mplays Mrests Mwent Mout Mcame Mgone MlastOut) H_65 locs9 := z_after (wc := kM cI cB cZ oM Mthrown Mmany Mguest Mrow Mbars Mbar Mfresh Mtape Mtaped Mpos Mtoken MtokenAt Mvalue Mwrong MwrongAt MfaultKind MfaultPlace Mthing Morder Mone Mtwo Mbest Mcells Mgap Mwire Mstand Mruns Mminute Mhead Mplays Mrests Mwent Mout Mcame Mgone MlastOut) hw [0, 1, 2, 3, 4, 5, 6, 7, 8, 9, 10, 11, 12, 13, 14, 15, 16] [] rfl rfl (by decide) (by decide) hF9 hk9 ht9 hB9 hS9 [0, 1, 2, 3, 4, 5, 6, 7, 8, 9, 10, 11, 12, 13, 14, 15, 16] (by decide) rfl
      clear hF9 ht9 hvm9 hB9 hz9 hk9 hS9 hq9
      rcases hq_67 with ⟨hc_68, rfl⟩ | ⟨hc_68, rfl⟩
      · skip
        refine z_if_eq (tgt := 180) hx hb dX8_breaks_173 (by decide) (by omega) (fun hc_69 => absurd hc_69 (by omega)) (fun hc_69 => ?_)
        refine z_iconst hx hb dX8_breaks_176 ?_
        refine lv_goto (tgt := 181) hx hb dX8_breaks_177 (by decide) ?_
        have hv_70 : (brM Mguest (Mbar (4 * k)) (Mbar (4 * k + 1)) (Mbar (4 * k + 2)) (Mbar (4 * k + 3)) (Morder i) (Morder j) i j ∧ (1 : Int) = 1) ∨ (¬ brM Mguest (Mbar (4 * k)) (Mbar (4 * k + 1)) (Mbar (4 * k + 2)) (Mbar (4 * k + 3)) (Morder i) (Morder j) i j ∧ (1 : Int) = 0) := by
          unfold brM
          first | grind | omega
        exact W.zret (v := zI 1) hx hb hr rfl (fun t9 ht hW => ⟨⟨zI 1, 1, rfl, ⟨rfl, hv_70⟩, by subst hAe; exact z_end hK hw ht hW⟩, by subst hAe; exact hw.2.2.F ht⟩) (by subst hAe; exact hw.2.2.2.2) dX8_breaks_181
      · skip
        refine z_if_eq (tgt := 180) hx hb dX8_breaks_173 (by decide) (by omega) (fun hc_71 => ?_) (fun hc_71 => absurd hc_71 (by omega))
        refine z_iconst hx hb dX8_breaks_180 ?_
        have hv_72 : (brM Mguest (Mbar (4 * k)) (Mbar (4 * k + 1)) (Mbar (4 * k + 2)) (Mbar (4 * k + 3)) (Morder i) (Morder j) i j ∧ (0 : Int) = 1) ∨ (¬ brM Mguest (Mbar (4 * k)) (Mbar (4 * k + 1)) (Mbar (4 * k + 2)) (Mbar (4 * k + 3)) (Morder i) (Morder j) i j ∧ (0 : Int) = 0) := by
          unfold brM
          first | grind | omega
        exact W.zret (v := zI 0) hx hb hr rfl (fun t9 ht hW => ⟨⟨zI 0, 0, rfl, ⟨rfl, hv_72⟩, by subst hAe; exact z_end hK hw ht hW⟩, by subst hAe; exact hw.2.2.F ht⟩) (by subst hAe; exact hw.2.2.2.2) dX8_breaks_181
    · skip
      refine z_if_eq (tgt := 180) hx hb dX8_breaks_162 (by decide) (by omega) (fun hc_73 => ?_) (fun hc_73 => absurd hc_73 (by omega))
      refine z_iconst hx hb dX8_breaks_180 ?_
      have hv_74 : (brM Mguest (Mbar (4 * k)) (Mbar (4 * k + 1)) (Mbar (4 * k + 2)) (Mbar (4 * k + 3)) (Morder i) (Morder j) i j ∧ (0 : Int) = 1) ∨ (¬ brM Mguest (Mbar (4 * k)) (Mbar (4 * k + 1)) (Mbar (4 * k + 2)) (Mbar (4 * k + 3)) (Morder i) (Morder j) i j ∧ (0 : Int) = 0) := by
        unfold brM
        first | grind | omega
      exact W.zret (v := zI 0) hx hb hr rfl (fun t9 ht hW => ⟨⟨zI 0, 0, rfl, ⟨rfl, hv_74⟩, by subst hAe; exact z_end hK hw ht hW⟩, by subst hAe; exact hw.2.2.F ht⟩) (by subst hAe; exact hw.2.2.2.2) dX8_breaks_181
  · skip
    refine z_tableIn (k := 3) (off := 155) (tgt := 215) hx hb hc_13 dX8_breaks_60 (by decide) (by decide) rfl (by decide) ?_
    refine z_iconst hx hb dX8_breaks_215 ?_
    have hv_75 : (brM Mguest (Mbar (4 * k)) (Mbar (4 * k + 1)) (Mbar (4 * k + 2)) (Mbar (4 * k + 3)) (Morder i) (Morder j) i j ∧ (0 : Int) = 1) ∨ (¬ brM Mguest (Mbar (4 * k)) (Mbar (4 * k + 1)) (Mbar (4 * k + 2)) (Mbar (4 * k + 3)) (Morder i) (Morder j) i j ∧ (0 : Int) = 0) := by
      unfold brM
      first | grind | omega
    exact W.zret (v := zI 0) hx hb hr rfl (fun t9 ht hW => ⟨⟨zI 0, 0, rfl, ⟨rfl, hv_75⟩, by subst hAe; exact z_end hK hw ht hW⟩, by subst hAe; exact hw.2.2.F ht⟩) (by subst hAe; exact hw.2.2.2.2) dX8_breaks_216
  · skip
    refine z_tableIn (k := 4) (off := 155) (tgt := 215) hx hb hc_13 dX8_breaks_60 (by decide) (by decide) rfl (by decide) ?_
    refine z_iconst hx hb dX8_breaks_215 ?_
    have hv_76 : (brM Mguest (Mbar (4 * k)) (Mbar (4 * k + 1)) (Mbar (4 * k + 2)) (Mbar (4 * k + 3)) (Morder i) (Morder j) i j ∧ (0 : Int) = 1) ∨ (¬ brM Mguest (Mbar (4 * k)) (Mbar (4 * k + 1)) (Mbar (4 * k + 2)) (Mbar (4 * k + 3)) (Morder i) (Morder j) i j ∧ (0 : Int) = 0) := by
      unfold brM
      first | grind | omega
    exact W.zret (v := zI 0) hx hb hr rfl (fun t9 ht hW => ⟨⟨zI 0, 0, rfl, ⟨rfl, hv_76⟩, by subst hAe; exact z_end hK hw ht hW⟩, by subst hAe; exact hw.2.2.F ht⟩) (by subst hAe; exact hw.2.2.2.2) dX8_breaks_216
  · skip
    refine z_tableIn (k := 5) (off := 122) (tgt := 182) hx hb hc_13 dX8_breaks_60 (by decide) (by decide) rfl (by decide) ?_
    refine lv_iload_n hx hb dX8_breaks_182 rfl (lv_at hl 8 rfl) ?_
    refine lv_iload_n hx hb dX8_breaks_183 rfl (lv_at hl 7 rfl) ?_
    refine z_iconst hx hb dX8_breaks_184 ?_
    refine z_iadd hx hb dX8_breaks_185 ?_
    refine z_icmp_ne (tgt := 213) hx hb dX8_breaks_186 (by decide) (by omega) (fun hc_77 => ?_) (fun hc_77 => ?_)
    · skip
      refine z_iconst hx hb dX8_breaks_213 ?_
      have hv_78 : (brM Mguest (Mbar (4 * k)) (Mbar (4 * k + 1)) (Mbar (4 * k + 2)) (Mbar (4 * k + 3)) (Morder i) (Morder j) i j ∧ (0 : Int) = 1) ∨ (¬ brM Mguest (Mbar (4 * k)) (Mbar (4 * k + 1)) (Mbar (4 * k + 2)) (Mbar (4 * k + 3)) (Morder i) (Morder j) i j ∧ (0 : Int) = 0) := by
        unfold brM
        first | grind | omega
      exact W.zret (v := zI 0) hx hb hr rfl (fun t9 ht hW => ⟨⟨zI 0, 0, rfl, ⟨rfl, hv_78⟩, by subst hAe; exact z_end hK hw ht hW⟩, by subst hAe; exact hw.2.2.F ht⟩) (by subst hAe; exact hw.2.2.2.2) dX8_breaks_214
    · skip
      refine lv_aload_n hx hb dX8_breaks_189 rfl (lv_at hl 5 rfl) ?_
      refine lv_iload hx hb dX8_breaks_190 (lv_at hl 4 rfl) ?_
      refine z_iconst hx hb dX8_breaks_192 ?_
      have hF9 := z_free (wc := kM cI cB cZ oM Mthrown Mmany Mguest Mrow Mbars Mbar Mfresh Mtape Mtaped Mpos Mtoken MtokenAt Mvalue Mwrong MwrongAt MfaultKind MfaultPlace Mthing Morder Mone Mtwo Mbest Mcells Mgap Mwire Mstand Mruns Mminute Mhead Mplays Mrests Mwent Mout Mcame Mgone MlastOut) hw hA [0, 1, 2, 3, 4, 5, 6, 7, 8, 9, 10, 11, 12, 13, 14, 15, 16] rfl
      refine va_calli (va_runV (As := [.int (zI (Morder i)), .int (zI 2)]) (rest := []) ⟨hx, hb, hml, hown, hts⟩ (c_X8_get l D cI cB cZ oM s.heap.size Mthrown Mmany Mguest Mrow Mbars Mbar Mfresh Mtape Mtaped Mpos Mtoken MtokenAt Mvalue Mwrong MwrongAt MfaultKind MfaultPlace Mthing Morder Mone Mtwo Mbest Mcells Mgap Mwire Mstand Mruns Mminute Mhead Mplays Mrests Mwent Mout Mcame Mgone MlastOut (Morder i) 2 (by omega) (by omega) qMguest qMrow (by omega) qMbar qMfresh qMtape (by omega) (by omega) (by omega) (by omega) (by omega) (by omega) (by omega) (by omega) (by omega) (by omega) qMorder (by omega) (by omega) qMbest (by omega) (by omega) qMwire qMstand (by omega) (by omega) qMhead qMplays qMrests qMwent qMout qMcame qMgone (by omega) (by omega) (by omega)) (cwV 2 hts gX8_breaks_X8_get rfl rfl rfl (by decide +kernel) ⟨Nat.le_of_ble_eq_true rfl, Nat.le_of_ble_eq_true rfl⟩) ⟨zPre_blind, va_recv hK hw.1 (ci := 8) (q0 := 0) rfl rfl, z_pre hK hw [0, 1, 2, 3, 4, 5, 6, 7, 8, 9, 10, 11, 12, 13, 14, 15, 16] (by decide) rfl⟩ rfl rfl hl.1 rfl (lv_room (Nat.le_of_ble_eq_true rfl)) dX8_breaks_193 ⟨Nat.zero_le _, Nat.zero_le _⟩) hw.2.2 (fun q _ h => hF9 q h) hF9 (fun r9 u9 t9 H_79 locs9 ht9 hvm9 hq9 hB9 hz9 hk9 hS9 => ?_)
      obtain ⟨r_80, rfl⟩ : ∃ z, z = u9 := ⟨_, rfl⟩
      try dsimp only at hq9 hB9
      obtain ⟨rfl, hq9⟩ := hq9
      obtain ⟨hq_81, hq_82⟩ := hq9
      have hw : HW D A s.heap (kM cI cB cZ oM Mthrown Mmany Mguest Mrow Mbars Mbar Mfresh Mtape Mtaped Mpos Mtoken MtokenAt Mvalue Mwrong MwrongAt MfaultKind MfaultPlace Mthing Morder Mone Mtwo Mbest Mcells Mgap Mwire Mstand Mruns Mminute Mhead Mplays Mrests Mwent Mout Mcame Mgone MlastOut) H_79 locs9 := z_after (wc := kM cI cB cZ oM Mthrown Mmany Mguest Mrow Mbars Mbar Mfresh Mtape Mtaped Mpos Mtoken MtokenAt Mvalue Mwrong MwrongAt MfaultKind MfaultPlace Mthing Morder Mone Mtwo Mbest Mcells Mgap Mwire Mstand Mruns Mminute Mhead Mplays Mrests Mwent Mout Mcame Mgone MlastOut) hw [0, 1, 2, 3, 4, 5, 6, 7, 8, 9, 10, 11, 12, 13, 14, 15, 16] [] rfl rfl (by decide) (by decide) hF9 hk9 ht9 hB9 hS9 [0, 1, 2, 3, 4, 5, 6, 7, 8, 9, 10, 11, 12, 13, 14, 15, 16] (by decide) rfl
      clear hF9 ht9 hvm9 hB9 hz9 hk9 hS9
      refine lv_aload_n hx hb dX8_breaks_196 rfl (lv_at hl 5 rfl) ?_
      refine lv_iload hx hb dX8_breaks_197 (lv_at hl 3 rfl) ?_
      refine z_iconst hx hb dX8_breaks_199 ?_
      have hF9 := z_free (wc := kM cI cB cZ oM Mthrown Mmany Mguest Mrow Mbars Mbar Mfresh Mtape Mtaped Mpos Mtoken MtokenAt Mvalue Mwrong MwrongAt MfaultKind MfaultPlace Mthing Morder Mone Mtwo Mbest Mcells Mgap Mwire Mstand Mruns Mminute Mhead Mplays Mrests Mwent Mout Mcame Mgone MlastOut) hw hA [0, 1, 2, 3, 4, 5, 6, 7, 8, 9, 10, 11, 12, 13, 14, 15, 16] rfl
      refine va_calli (va_runV (As := [.int (zI (Morder j)), .int (zI 2)]) (rest := [.int (zI r_80)]) ⟨hx, hb, hml, hown, hts⟩ (c_X8_get l D cI cB cZ oM H_79.size Mthrown Mmany Mguest Mrow Mbars Mbar Mfresh Mtape Mtaped Mpos Mtoken MtokenAt Mvalue Mwrong MwrongAt MfaultKind MfaultPlace Mthing Morder Mone Mtwo Mbest Mcells Mgap Mwire Mstand Mruns Mminute Mhead Mplays Mrests Mwent Mout Mcame Mgone MlastOut (Morder j) 2 (by omega) (by omega) qMguest qMrow (by omega) qMbar qMfresh qMtape (by omega) (by omega) (by omega) (by omega) (by omega) (by omega) (by omega) (by omega) (by omega) (by omega) qMorder (by omega) (by omega) qMbest (by omega) (by omega) qMwire qMstand (by omega) (by omega) qMhead qMplays qMrests qMwent qMout qMcame qMgone (by omega) (by omega) (by omega)) (cwV 2 hts gX8_breaks_X8_get rfl rfl rfl (by decide +kernel) ⟨Nat.le_of_ble_eq_true rfl, Nat.le_of_ble_eq_true rfl⟩) ⟨zPre_blind, va_recv hK hw.1 (ci := 8) (q0 := 0) rfl rfl, z_pre hK hw [0, 1, 2, 3, 4, 5, 6, 7, 8, 9, 10, 11, 12, 13, 14, 15, 16] (by decide) rfl⟩ rfl rfl hl.1 rfl (lv_room (Nat.le_of_ble_eq_true rfl)) dX8_breaks_200 ⟨Nat.zero_le _, Nat.zero_le _⟩) hw.2.2 (fun q _ h => hF9 q h) hF9 (fun r9 u9 t9 H_83 locs9 ht9 hvm9 hq9 hB9 hz9 hk9 hS9 => ?_)
      obtain ⟨r_84, rfl⟩ : ∃ z, z = u9 := ⟨_, rfl⟩
      try dsimp only at hq9 hB9
      obtain ⟨rfl, hq9⟩ := hq9
      obtain ⟨hq_85, hq_86⟩ := hq9
      have hw : HW D A s.heap (kM cI cB cZ oM Mthrown Mmany Mguest Mrow Mbars Mbar Mfresh Mtape Mtaped Mpos Mtoken MtokenAt Mvalue Mwrong MwrongAt MfaultKind MfaultPlace Mthing Morder Mone Mtwo Mbest Mcells Mgap Mwire Mstand Mruns Mminute Mhead Mplays Mrests Mwent Mout Mcame Mgone MlastOut) H_83 locs9 := z_after (wc := kM cI cB cZ oM Mthrown Mmany Mguest Mrow Mbars Mbar Mfresh Mtape Mtaped Mpos Mtoken MtokenAt Mvalue Mwrong MwrongAt MfaultKind MfaultPlace Mthing Morder Mone Mtwo Mbest Mcells Mgap Mwire Mstand Mruns Mminute Mhead Mplays Mrests Mwent Mout Mcame Mgone MlastOut) hw [0, 1, 2, 3, 4, 5, 6, 7, 8, 9, 10, 11, 12, 13, 14, 15, 16] [] rfl rfl (by decide) (by decide) hF9 hk9 ht9 hB9 hS9 [0, 1, 2, 3, 4, 5, 6, 7, 8, 9, 10, 11, 12, 13, 14, 15, 16] (by decide) rfl
      clear hF9 ht9 hvm9 hB9 hz9 hk9 hS9
      refine z_iadd hx hb dX8_breaks_203 ?_
      refine lv_iload hx hb dX8_breaks_204 (lv_at hl 0 rfl) ?_
      refine z_icmp_le (tgt := 213) hx hb dX8_breaks_206 (by decide) (by omega) (fun hc_87 => ?_) (fun hc_87 => ?_)
      · skip
        refine z_iconst hx hb dX8_breaks_213 ?_
        have hv_88 : (brM Mguest (Mbar (4 * k)) (Mbar (4 * k + 1)) (Mbar (4 * k + 2)) (Mbar (4 * k + 3)) (Morder i) (Morder j) i j ∧ (0 : Int) = 1) ∨ (¬ brM Mguest (Mbar (4 * k)) (Mbar (4 * k + 1)) (Mbar (4 * k + 2)) (Mbar (4 * k + 3)) (Morder i) (Morder j) i j ∧ (0 : Int) = 0) := by
          unfold brM
          first | grind | omega
        exact W.zret (v := zI 0) hx hb hr rfl (fun t9 ht hW => ⟨⟨zI 0, 0, rfl, ⟨rfl, hv_88⟩, by subst hAe; exact z_end hK hw ht hW⟩, by subst hAe; exact hw.2.2.F ht⟩) (by subst hAe; exact hw.2.2.2.2) dX8_breaks_214
      · skip
        refine z_iconst hx hb dX8_breaks_209 ?_
        refine lv_goto (tgt := 214) hx hb dX8_breaks_210 (by decide) ?_
        have hv_89 : (brM Mguest (Mbar (4 * k)) (Mbar (4 * k + 1)) (Mbar (4 * k + 2)) (Mbar (4 * k + 3)) (Morder i) (Morder j) i j ∧ (1 : Int) = 1) ∨ (¬ brM Mguest (Mbar (4 * k)) (Mbar (4 * k + 1)) (Mbar (4 * k + 2)) (Mbar (4 * k + 3)) (Morder i) (Morder j) i j ∧ (1 : Int) = 0) := by
          unfold brM
          first | grind | omega
        exact W.zret (v := zI 1) hx hb hr rfl (fun t9 ht hW => ⟨⟨zI 1, 1, rfl, ⟨rfl, hv_89⟩, by subst hAe; exact z_end hK hw ht hW⟩, by subst hAe; exact hw.2.2.F ht⟩) (by subst hAe; exact hw.2.2.2.2) dX8_breaks_214
set_option maxRecDepth 100000 in
set_option maxHeartbeats 4000000 in
theorem c_X8_scares (l : Launch) (D : va_G) (cI cB cZ : ClassId) (oM : Nat → Nat) (sz : Nat) (Mthrown : Int) (Mmany : Int) (Mguest : Int → Int) (Mrow : Int → Int) (Mbars : Int) (Mbar : Int → Int) (Mfresh : Int → Int) (Mtape : Int → Int) (Mtaped : Int) (Mpos : Int) (Mtoken : Int) (MtokenAt : Int) (Mvalue : Int) (Mwrong : Int) (MwrongAt : Int) (MfaultKind : Int) (MfaultPlace : Int) (Mthing : Int) (Morder : Int → Int) (Mone : Int) (Mtwo : Int) (Mbest : Int → Int) (Mcells : Int) (Mgap : Int) (Mwire : Int → Int) (Mstand : Int → Int) (Mruns : Int) (Mminute : Int) (Mhead : Int → Int) (Mplays : Int → Int) (Mrests : Int → Int) (Mwent : Int → Int) (Mout : Int → Int) (Mcame : Int → Int) (Mgone : Int → Int) (MlastOut : Int) (a : Int) (b : Int) (qMthrown : 0 ≤ Mthrown ∧ Mthrown ≤ 2) (qMmany : 0 ≤ Mmany ∧ Mmany ≤ 8) (qMguest : RA Mguest (0) 9) (qMrow : RA Mrow (0) 7) (qMbars : 0 ≤ Mbars ∧ Mbars ≤ 10) (qMbar : RA Mbar (0) 104) (qMfresh : RA Mfresh (0) 104) (qMtape : RA Mtape (0) 255) (qMtaped : 0 ≤ Mtaped ∧ Mtaped ≤ 400) (qMpos : 0 ≤ Mpos ∧ Mpos ≤ 400) (qMtoken : 0 ≤ Mtoken ∧ Mtoken ≤ 15) (qMtokenAt : 0 ≤ MtokenAt ∧ MtokenAt ≤ 400) (qMvalue : 0 ≤ Mvalue ∧ Mvalue ≤ 99) (qMwrong : 0 ≤ Mwrong ∧ Mwrong ≤ 3) (qMwrongAt : 0 ≤ MwrongAt ∧ MwrongAt ≤ 400) (qMfaultKind : 0 ≤ MfaultKind ∧ MfaultKind ≤ 3) (qMfaultPlace : -1 ≤ MfaultPlace ∧ MfaultPlace ≤ 400) (qMthing : 0 ≤ Mthing ∧ Mthing ≤ 104) (qMorder : RA Morder (0) 7) (qMone : 0 ≤ Mone ∧ Mone ≤ 8) (qMtwo : 0 ≤ Mtwo ∧ Mtwo ≤ 8) (qMbest : RA Mbest (0) 7) (qMcells : 1 ≤ Mcells ∧ Mcells ≤ 50) (qMgap : 0 ≤ Mgap ∧ Mgap ≤ 3) (qMwire : RA Mwire (0) 9) (qMstand : RA Mstand (0) 9) (qMruns : 0 ≤ Mruns ∧ Mruns ≤ 1) (qMminute : 0 ≤ Mminute ∧ Mminute ≤ 1000000) (qMhead : RA Mhead (-1) 60) (qMplays : RA Mplays (0) 18) (qMrests : RA Mrests (0) 3) (qMwent : RA Mwent (0) 61) (qMout : RA Mout (0) 1) (qMcame : RA Mcame (-1) 1000000) (qMgone : RA Mgone (-1) 1000000) (qMlastOut : 0 ≤ MlastOut ∧ MlastOut ≤ 1000000) (qa : 0 ≤ a ∧ a ≤ 7) (qb : 0 ≤ b ∧ b ≤ 7) : Met l yX8_scares wsX8_scares ({ frames := 1, cells := 0, slots := 0, locals := 22 }) (va_Pc [.ref (oM 0), .int (zI a), .int (zI b)] (zPre D cI cB cZ sz (kM cI cB cZ oM Mthrown Mmany Mguest Mrow Mbars Mbar Mfresh Mtape Mtaped Mpos Mtoken MtokenAt Mvalue Mwrong MwrongAt MfaultKind MfaultPlace Mthing Morder Mone Mtwo Mbest Mcells Mgap Mwire Mstand Mruns Mminute Mhead Mplays Mrests Mwent Mout Mcame Mgone MlastOut))) (va_Qi (fun (r9 : Int32) (u9 : Int) => r9 = zI u9 ∧ (((scM Mguest a b ∧ u9 = 1) ∨ (¬ scM Mguest a b ∧ u9 = 0)))) (fun u9 t9 => zAt D cI cB cZ (va_A (kM cI cB cZ oM Mthrown Mmany Mguest Mrow Mbars Mbar Mfresh Mtape Mtaped Mpos Mtoken MtokenAt Mvalue Mwrong MwrongAt MfaultKind MfaultPlace Mthing Morder Mone Mtwo Mbest Mcells Mgap Mwire Mstand Mruns Mminute Mhead Mplays Mrests Mwent Mout Mcame Mgone MlastOut) sz) (kM cI cB cZ oM Mthrown Mmany Mguest Mrow Mbars Mbar Mfresh Mtape Mtaped Mpos Mtoken MtokenAt Mvalue Mwrong MwrongAt MfaultKind MfaultPlace Mthing Morder Mone Mtwo Mbest Mcells Mgap Mwire Mstand Mruns Mminute Mhead Mplays Mrests Mwent Mout Mcame Mgone MlastOut) t9) (va_A (kM cI cB cZ oM Mthrown Mmany Mguest Mrow Mbars Mbar Mfresh Mtape Mtaped Mpos Mtoken MtokenAt Mvalue Mwrong MwrongAt MfaultKind MfaultPlace Mthing Morder Mone Mtwo Mbest Mcells Mgap Mwire Mstand Mruns Mminute Mhead Mplays Mrests Mwent Mout Mcame Mgone MlastOut) sz)) 0 0 (va_A (kM cI cB cZ oM Mthrown Mmany Mguest Mrow Mbars Mbar Mfresh Mtape Mtaped Mpos Mtoken MtokenAt Mvalue Mwrong MwrongAt MfaultKind MfaultPlace Mthing Morder Mone Mtwo Mbest Mcells Mgap Mwire Mstand Mruns Mminute Mhead Mplays Mrests Mwent Mout Mcame Mgone MlastOut) sz) := by
  refine Met.ofW (cc := cX8_scares) (maxL := 3) (ret := (some .boolean)) (by decide) rfl ?_
  intro pp ee s mm aa bw mt cd s₁ BL hml hv
  obtain ⟨rfl, hsz, hP, hK, hD0⟩ := hv
  have hx := BL.exec
  have hb := BL.bytes
  have hr := BL.returns
  have hts := atoms_spec (ws := wsX8_scares) BL.pre
  have hown : s.vm.findClass RX8 = some mm.cls := findClass_of_methodNamed BL.named
  have hlocks := BL.notSynchronized
  subst hsz
  generalize hAe : va_A (kM cI cB cZ oM Mthrown Mmany Mguest Mrow Mbars Mbar Mfresh Mtape Mtaped Mpos Mtoken MtokenAt Mvalue Mwrong MwrongAt MfaultKind MfaultPlace Mthing Morder Mone Mtwo Mbest Mcells Mgap Mwire Mstand Mruns Mminute Mhead Mplays Mrests Mwent Mout Mcame Mgone MlastOut) s.heap.size = A
  have hA : ∀ q : Nat, s.heap.size ≤ q → A q := fun q h => by rw [← hAe]; exact Or.inr h
  have hw : HW D A s.heap (kM cI cB cZ oM Mthrown Mmany Mguest Mrow Mbars Mbar Mfresh Mtape Mtaped Mpos Mtoken MtokenAt Mvalue Mwrong MwrongAt MfaultKind MfaultPlace Mthing Morder Mone Mtwo Mbest Mcells Mgap Mwire Mstand Mruns Mminute Mhead Mplays Mrests Mwent Mout Mcame Mgone MlastOut) s.heap [] := z_start hAe hP hD0
  clear hP hD0
  have hl := lv_entry ([.ref (oM 0), .int (zI a), .int (zI b)]) (n := 3) (Nat.le_of_ble_eq_true rfl)
  rw [lg_entry_eq]
  generalize (lg_sl ([.ref (oM 0), .int (zI a), .int (zI b)]) ++ List.replicate (3 - (lg_sl ([.ref (oM 0), .int (zI a), .int (zI b)])).length) Slot.unset).toArray = ls at hl ⊢
  have hl : lv_has ls 3 [(0, .ref (oM 0)), (1, .int (zI a)), (2, .int (zI b))] := hl
  refine lv_aload_n hx hb dX8_scares_0 rfl (lv_at hl 0 rfl) ?_
  refine lv_iload_n hx hb dX8_scares_1 rfl (lv_at hl 1 rfl) ?_
  refine z_iconst hx hb dX8_scares_2 ?_
  have hF9 := z_free (wc := kM cI cB cZ oM Mthrown Mmany Mguest Mrow Mbars Mbar Mfresh Mtape Mtaped Mpos Mtoken MtokenAt Mvalue Mwrong MwrongAt MfaultKind MfaultPlace Mthing Morder Mone Mtwo Mbest Mcells Mgap Mwire Mstand Mruns Mminute Mhead Mplays Mrests Mwent Mout Mcame Mgone MlastOut) hw hA [0, 1, 2, 3, 4, 5, 6, 7, 8, 9, 10, 11, 12, 13, 14, 15, 16] rfl
  refine va_calli (va_runV (As := [.int (zI a), .int (zI 0)]) (rest := []) ⟨hx, hb, hml, hown, hts⟩ (c_X8_get l D cI cB cZ oM s.heap.size Mthrown Mmany Mguest Mrow Mbars Mbar Mfresh Mtape Mtaped Mpos Mtoken MtokenAt Mvalue Mwrong MwrongAt MfaultKind MfaultPlace Mthing Morder Mone Mtwo Mbest Mcells Mgap Mwire Mstand Mruns Mminute Mhead Mplays Mrests Mwent Mout Mcame Mgone MlastOut a 0 (by omega) (by omega) qMguest qMrow (by omega) qMbar qMfresh qMtape (by omega) (by omega) (by omega) (by omega) (by omega) (by omega) (by omega) (by omega) (by omega) (by omega) qMorder (by omega) (by omega) qMbest (by omega) (by omega) qMwire qMstand (by omega) (by omega) qMhead qMplays qMrests qMwent qMout qMcame qMgone (by omega) (by omega) (by omega)) (cwV 2 hts gX8_scares_X8_get rfl rfl rfl (by decide +kernel) ⟨Nat.le_of_ble_eq_true rfl, Nat.le_of_ble_eq_true rfl⟩) ⟨zPre_blind, va_recv hK hw.1 (ci := 8) (q0 := 0) rfl rfl, z_pre hK hw [0, 1, 2, 3, 4, 5, 6, 7, 8, 9, 10, 11, 12, 13, 14, 15, 16] (by decide) rfl⟩ rfl rfl hl.1 rfl (lv_room (Nat.le_of_ble_eq_true rfl)) dX8_scares_3 ⟨Nat.zero_le _, Nat.zero_le _⟩) hw.2.2 (fun q _ h => hF9 q h) hF9 (fun r9 u9 t9 H_1 locs9 ht9 hvm9 hq9 hB9 hz9 hk9 hS9 => ?_)
  obtain ⟨r_2, rfl⟩ : ∃ z, z = u9 := ⟨_, rfl⟩
  try dsimp only at hq9 hB9
  obtain ⟨rfl, hq9⟩ := hq9
  obtain ⟨hq_3, hq_4⟩ := hq9
  have hw : HW D A s.heap (kM cI cB cZ oM Mthrown Mmany Mguest Mrow Mbars Mbar Mfresh Mtape Mtaped Mpos Mtoken MtokenAt Mvalue Mwrong MwrongAt MfaultKind MfaultPlace Mthing Morder Mone Mtwo Mbest Mcells Mgap Mwire Mstand Mruns Mminute Mhead Mplays Mrests Mwent Mout Mcame Mgone MlastOut) H_1 locs9 := z_after (wc := kM cI cB cZ oM Mthrown Mmany Mguest Mrow Mbars Mbar Mfresh Mtape Mtaped Mpos Mtoken MtokenAt Mvalue Mwrong MwrongAt MfaultKind MfaultPlace Mthing Morder Mone Mtwo Mbest Mcells Mgap Mwire Mstand Mruns Mminute Mhead Mplays Mrests Mwent Mout Mcame Mgone MlastOut) hw [0, 1, 2, 3, 4, 5, 6, 7, 8, 9, 10, 11, 12, 13, 14, 15, 16] [] rfl rfl (by decide) (by decide) hF9 hk9 ht9 hB9 hS9 [0, 1, 2, 3, 4, 5, 6, 7, 8, 9, 10, 11, 12, 13, 14, 15, 16] (by decide) rfl
  clear hF9 ht9 hvm9 hB9 hz9 hk9 hS9
  refine z_iconst hx hb dX8_scares_6 ?_
  refine z_icmp_ne (tgt := 29) hx hb dX8_scares_7 (by decide) (by omega) (fun hc_5 => ?_) (fun hc_5 => ?_)
  · skip
    refine z_iconst hx hb dX8_scares_29 ?_
    have hv_6 : (scM Mguest a b ∧ (0 : Int) = 1) ∨ (¬ scM Mguest a b ∧ (0 : Int) = 0) := by
      unfold scM; omega
    exact W.zret (v := zI 0) hx hb hr rfl (fun t9 ht hW => ⟨⟨zI 0, 0, rfl, ⟨rfl, hv_6⟩, by subst hAe; exact z_end hK hw ht hW⟩, by subst hAe; exact hw.2.2.F ht⟩) (by subst hAe; exact hw.2.2.2.2) dX8_scares_30
  · skip
    refine lv_aload_n hx hb dX8_scares_10 rfl (lv_at hl 0 rfl) ?_
    refine lv_iload_n hx hb dX8_scares_11 rfl (lv_at hl 2 rfl) ?_
    refine z_iconst hx hb dX8_scares_12 ?_
    have hF9 := z_free (wc := kM cI cB cZ oM Mthrown Mmany Mguest Mrow Mbars Mbar Mfresh Mtape Mtaped Mpos Mtoken MtokenAt Mvalue Mwrong MwrongAt MfaultKind MfaultPlace Mthing Morder Mone Mtwo Mbest Mcells Mgap Mwire Mstand Mruns Mminute Mhead Mplays Mrests Mwent Mout Mcame Mgone MlastOut) hw hA [0, 1, 2, 3, 4, 5, 6, 7, 8, 9, 10, 11, 12, 13, 14, 15, 16] rfl
    refine va_calli (va_runV (As := [.int (zI b), .int (zI 2)]) (rest := []) ⟨hx, hb, hml, hown, hts⟩ (c_X8_get l D cI cB cZ oM H_1.size Mthrown Mmany Mguest Mrow Mbars Mbar Mfresh Mtape Mtaped Mpos Mtoken MtokenAt Mvalue Mwrong MwrongAt MfaultKind MfaultPlace Mthing Morder Mone Mtwo Mbest Mcells Mgap Mwire Mstand Mruns Mminute Mhead Mplays Mrests Mwent Mout Mcame Mgone MlastOut b 2 (by omega) (by omega) qMguest qMrow (by omega) qMbar qMfresh qMtape (by omega) (by omega) (by omega) (by omega) (by omega) (by omega) (by omega) (by omega) (by omega) (by omega) qMorder (by omega) (by omega) qMbest (by omega) (by omega) qMwire qMstand (by omega) (by omega) qMhead qMplays qMrests qMwent qMout qMcame qMgone (by omega) (by omega) (by omega)) (cwV 2 hts gX8_scares_X8_get rfl rfl rfl (by decide +kernel) ⟨Nat.le_of_ble_eq_true rfl, Nat.le_of_ble_eq_true rfl⟩) ⟨zPre_blind, va_recv hK hw.1 (ci := 8) (q0 := 0) rfl rfl, z_pre hK hw [0, 1, 2, 3, 4, 5, 6, 7, 8, 9, 10, 11, 12, 13, 14, 15, 16] (by decide) rfl⟩ rfl rfl hl.1 rfl (lv_room (Nat.le_of_ble_eq_true rfl)) dX8_scares_13 ⟨Nat.zero_le _, Nat.zero_le _⟩) hw.2.2 (fun q _ h => hF9 q h) hF9 (fun r9 u9 t9 H_7 locs9 ht9 hvm9 hq9 hB9 hz9 hk9 hS9 => ?_)
    obtain ⟨r_8, rfl⟩ : ∃ z, z = u9 := ⟨_, rfl⟩
    try dsimp only at hq9 hB9
    obtain ⟨rfl, hq9⟩ := hq9
    obtain ⟨hq_9, hq_10⟩ := hq9
    have hw : HW D A s.heap (kM cI cB cZ oM Mthrown Mmany Mguest Mrow Mbars Mbar Mfresh Mtape Mtaped Mpos Mtoken MtokenAt Mvalue Mwrong MwrongAt MfaultKind MfaultPlace Mthing Morder Mone Mtwo Mbest Mcells Mgap Mwire Mstand Mruns Mminute Mhead Mplays Mrests Mwent Mout Mcame Mgone MlastOut) H_7 locs9 := z_after (wc := kM cI cB cZ oM Mthrown Mmany Mguest Mrow Mbars Mbar Mfresh Mtape Mtaped Mpos Mtoken MtokenAt Mvalue Mwrong MwrongAt MfaultKind MfaultPlace Mthing Morder Mone Mtwo Mbest Mcells Mgap Mwire Mstand Mruns Mminute Mhead Mplays Mrests Mwent Mout Mcame Mgone MlastOut) hw [0, 1, 2, 3, 4, 5, 6, 7, 8, 9, 10, 11, 12, 13, 14, 15, 16] [] rfl rfl (by decide) (by decide) hF9 hk9 ht9 hB9 hS9 [0, 1, 2, 3, 4, 5, 6, 7, 8, 9, 10, 11, 12, 13, 14, 15, 16] (by decide) rfl
    clear hF9 ht9 hvm9 hB9 hz9 hk9 hS9
    refine lv_aload_n hx hb dX8_scares_16 rfl (lv_at hl 0 rfl) ?_
    refine lv_iload_n hx hb dX8_scares_17 rfl (lv_at hl 1 rfl) ?_
    refine z_iconst hx hb dX8_scares_18 ?_
    have hF9 := z_free (wc := kM cI cB cZ oM Mthrown Mmany Mguest Mrow Mbars Mbar Mfresh Mtape Mtaped Mpos Mtoken MtokenAt Mvalue Mwrong MwrongAt MfaultKind MfaultPlace Mthing Morder Mone Mtwo Mbest Mcells Mgap Mwire Mstand Mruns Mminute Mhead Mplays Mrests Mwent Mout Mcame Mgone MlastOut) hw hA [0, 1, 2, 3, 4, 5, 6, 7, 8, 9, 10, 11, 12, 13, 14, 15, 16] rfl
    refine va_calli (va_runV (As := [.int (zI a), .int (zI 4)]) (rest := [.int (zI r_8)]) ⟨hx, hb, hml, hown, hts⟩ (c_X8_get l D cI cB cZ oM H_7.size Mthrown Mmany Mguest Mrow Mbars Mbar Mfresh Mtape Mtaped Mpos Mtoken MtokenAt Mvalue Mwrong MwrongAt MfaultKind MfaultPlace Mthing Morder Mone Mtwo Mbest Mcells Mgap Mwire Mstand Mruns Mminute Mhead Mplays Mrests Mwent Mout Mcame Mgone MlastOut a 4 (by omega) (by omega) qMguest qMrow (by omega) qMbar qMfresh qMtape (by omega) (by omega) (by omega) (by omega) (by omega) (by omega) (by omega) (by omega) (by omega) (by omega) qMorder (by omega) (by omega) qMbest (by omega) (by omega) qMwire qMstand (by omega) (by omega) qMhead qMplays qMrests qMwent qMout qMcame qMgone (by omega) (by omega) (by omega)) (cwV 2 hts gX8_scares_X8_get rfl rfl rfl (by decide +kernel) ⟨Nat.le_of_ble_eq_true rfl, Nat.le_of_ble_eq_true rfl⟩) ⟨zPre_blind, va_recv hK hw.1 (ci := 8) (q0 := 0) rfl rfl, z_pre hK hw [0, 1, 2, 3, 4, 5, 6, 7, 8, 9, 10, 11, 12, 13, 14, 15, 16] (by decide) rfl⟩ rfl rfl hl.1 rfl (lv_room (Nat.le_of_ble_eq_true rfl)) dX8_scares_19 ⟨Nat.zero_le _, Nat.zero_le _⟩) hw.2.2 (fun q _ h => hF9 q h) hF9 (fun r9 u9 t9 H_11 locs9 ht9 hvm9 hq9 hB9 hz9 hk9 hS9 => ?_)
    obtain ⟨r_12, rfl⟩ : ∃ z, z = u9 := ⟨_, rfl⟩
    try dsimp only at hq9 hB9
    obtain ⟨rfl, hq9⟩ := hq9
    obtain ⟨hq_13, hq_14⟩ := hq9
    have hw : HW D A s.heap (kM cI cB cZ oM Mthrown Mmany Mguest Mrow Mbars Mbar Mfresh Mtape Mtaped Mpos Mtoken MtokenAt Mvalue Mwrong MwrongAt MfaultKind MfaultPlace Mthing Morder Mone Mtwo Mbest Mcells Mgap Mwire Mstand Mruns Mminute Mhead Mplays Mrests Mwent Mout Mcame Mgone MlastOut) H_11 locs9 := z_after (wc := kM cI cB cZ oM Mthrown Mmany Mguest Mrow Mbars Mbar Mfresh Mtape Mtaped Mpos Mtoken MtokenAt Mvalue Mwrong MwrongAt MfaultKind MfaultPlace Mthing Morder Mone Mtwo Mbest Mcells Mgap Mwire Mstand Mruns Mminute Mhead Mplays Mrests Mwent Mout Mcame Mgone MlastOut) hw [0, 1, 2, 3, 4, 5, 6, 7, 8, 9, 10, 11, 12, 13, 14, 15, 16] [] rfl rfl (by decide) (by decide) hF9 hk9 ht9 hB9 hS9 [0, 1, 2, 3, 4, 5, 6, 7, 8, 9, 10, 11, 12, 13, 14, 15, 16] (by decide) rfl
    clear hF9 ht9 hvm9 hB9 hz9 hk9 hS9
    refine z_icmp_le (tgt := 29) hx hb dX8_scares_22 (by decide) (by omega) (fun hc_15 => ?_) (fun hc_15 => ?_)
    · skip
      refine z_iconst hx hb dX8_scares_29 ?_
      have hv_16 : (scM Mguest a b ∧ (0 : Int) = 1) ∨ (¬ scM Mguest a b ∧ (0 : Int) = 0) := by
        unfold scM; omega
      exact W.zret (v := zI 0) hx hb hr rfl (fun t9 ht hW => ⟨⟨zI 0, 0, rfl, ⟨rfl, hv_16⟩, by subst hAe; exact z_end hK hw ht hW⟩, by subst hAe; exact hw.2.2.F ht⟩) (by subst hAe; exact hw.2.2.2.2) dX8_scares_30
    · skip
      refine z_iconst hx hb dX8_scares_25 ?_
      refine lv_goto (tgt := 30) hx hb dX8_scares_26 (by decide) ?_
      have hv_17 : (scM Mguest a b ∧ (1 : Int) = 1) ∨ (¬ scM Mguest a b ∧ (1 : Int) = 0) := by
        unfold scM; omega
      exact W.zret (v := zI 1) hx hb hr rfl (fun t9 ht hW => ⟨⟨zI 1, 1, rfl, ⟨rfl, hv_17⟩, by subst hAe; exact z_end hK hw ht hW⟩, by subst hAe; exact hw.2.2.F ht⟩) (by subst hAe; exact hw.2.2.2.2) dX8_scares_30
set_option maxRecDepth 100000 in
set_option maxHeartbeats 4000000 in
theorem c_X8_isCell (l : Launch) (D : va_G) (cI cB cZ : ClassId) (oM : Nat → Nat) (sz : Nat) (Mthrown : Int) (Mmany : Int) (Mguest : Int → Int) (Mrow : Int → Int) (Mbars : Int) (Mbar : Int → Int) (Mfresh : Int → Int) (Mtape : Int → Int) (Mtaped : Int) (Mpos : Int) (Mtoken : Int) (MtokenAt : Int) (Mvalue : Int) (Mwrong : Int) (MwrongAt : Int) (MfaultKind : Int) (MfaultPlace : Int) (Mthing : Int) (Morder : Int → Int) (Mone : Int) (Mtwo : Int) (Mbest : Int → Int) (Mcells : Int) (Mgap : Int) (Mwire : Int → Int) (Mstand : Int → Int) (Mruns : Int) (Mminute : Int) (Mhead : Int → Int) (Mplays : Int → Int) (Mrests : Int → Int) (Mwent : Int → Int) (Mout : Int → Int) (Mcame : Int → Int) (Mgone : Int → Int) (MlastOut : Int) (c : Int) (qMthrown : 0 ≤ Mthrown ∧ Mthrown ≤ 2) (qMmany : 0 ≤ Mmany ∧ Mmany ≤ 8) (qMguest : RA Mguest (0) 9) (qMrow : RA Mrow (0) 7) (qMbars : 0 ≤ Mbars ∧ Mbars ≤ 10) (qMbar : RA Mbar (0) 104) (qMfresh : RA Mfresh (0) 104) (qMtape : RA Mtape (0) 255) (qMtaped : 0 ≤ Mtaped ∧ Mtaped ≤ 400) (qMpos : 0 ≤ Mpos ∧ Mpos ≤ 400) (qMtoken : 0 ≤ Mtoken ∧ Mtoken ≤ 15) (qMtokenAt : 0 ≤ MtokenAt ∧ MtokenAt ≤ 400) (qMvalue : 0 ≤ Mvalue ∧ Mvalue ≤ 99) (qMwrong : 0 ≤ Mwrong ∧ Mwrong ≤ 3) (qMwrongAt : 0 ≤ MwrongAt ∧ MwrongAt ≤ 400) (qMfaultKind : 0 ≤ MfaultKind ∧ MfaultKind ≤ 3) (qMfaultPlace : -1 ≤ MfaultPlace ∧ MfaultPlace ≤ 400) (qMthing : 0 ≤ Mthing ∧ Mthing ≤ 104) (qMorder : RA Morder (0) 7) (qMone : 0 ≤ Mone ∧ Mone ≤ 8) (qMtwo : 0 ≤ Mtwo ∧ Mtwo ≤ 8) (qMbest : RA Mbest (0) 7) (qMcells : 1 ≤ Mcells ∧ Mcells ≤ 50) (qMgap : 0 ≤ Mgap ∧ Mgap ≤ 3) (qMwire : RA Mwire (0) 9) (qMstand : RA Mstand (0) 9) (qMruns : 0 ≤ Mruns ∧ Mruns ≤ 1) (qMminute : 0 ≤ Mminute ∧ Mminute ≤ 1000000) (qMhead : RA Mhead (-1) 60) (qMplays : RA Mplays (0) 18) (qMrests : RA Mrests (0) 3) (qMwent : RA Mwent (0) 61) (qMout : RA Mout (0) 1) (qMcame : RA Mcame (-1) 1000000) (qMgone : RA Mgone (-1) 1000000) (qMlastOut : 0 ≤ MlastOut ∧ MlastOut ≤ 1000000) (qc : -2147483648 ≤ c ∧ c ≤ 2147483647) : Met l yX8_isCell wsX8_isCell ({ frames := 1, cells := 0, slots := 0, locals := 22 }) (va_Pc [.ref (oM 0), .int (zI c)] (zPre D cI cB cZ sz (kM cI cB cZ oM Mthrown Mmany Mguest Mrow Mbars Mbar Mfresh Mtape Mtaped Mpos Mtoken MtokenAt Mvalue Mwrong MwrongAt MfaultKind MfaultPlace Mthing Morder Mone Mtwo Mbest Mcells Mgap Mwire Mstand Mruns Mminute Mhead Mplays Mrests Mwent Mout Mcame Mgone MlastOut))) (va_Qi (fun (r9 : Int32) (u9 : Int) => r9 = zI u9 ∧ ((((0 ≤ c ∧ c < Mcells) ∧ u9 = 1) ∨ (¬ (0 ≤ c ∧ c < Mcells) ∧ u9 = 0)))) (fun u9 t9 => zAt D cI cB cZ (va_A (kM cI cB cZ oM Mthrown Mmany Mguest Mrow Mbars Mbar Mfresh Mtape Mtaped Mpos Mtoken MtokenAt Mvalue Mwrong MwrongAt MfaultKind MfaultPlace Mthing Morder Mone Mtwo Mbest Mcells Mgap Mwire Mstand Mruns Mminute Mhead Mplays Mrests Mwent Mout Mcame Mgone MlastOut) sz) (kM cI cB cZ oM Mthrown Mmany Mguest Mrow Mbars Mbar Mfresh Mtape Mtaped Mpos Mtoken MtokenAt Mvalue Mwrong MwrongAt MfaultKind MfaultPlace Mthing Morder Mone Mtwo Mbest Mcells Mgap Mwire Mstand Mruns Mminute Mhead Mplays Mrests Mwent Mout Mcame Mgone MlastOut) t9) (va_A (kM cI cB cZ oM Mthrown Mmany Mguest Mrow Mbars Mbar Mfresh Mtape Mtaped Mpos Mtoken MtokenAt Mvalue Mwrong MwrongAt MfaultKind MfaultPlace Mthing Morder Mone Mtwo Mbest Mcells Mgap Mwire Mstand Mruns Mminute Mhead Mplays Mrests Mwent Mout Mcame Mgone MlastOut) sz)) 0 0 (va_A (kM cI cB cZ oM Mthrown Mmany Mguest Mrow Mbars Mbar Mfresh Mtape Mtaped Mpos Mtoken MtokenAt Mvalue Mwrong MwrongAt MfaultKind MfaultPlace Mthing Morder Mone Mtwo Mbest Mcells Mgap Mwire Mstand Mruns Mminute Mhead Mplays Mrests Mwent Mout Mcame Mgone MlastOut) sz) := by
  refine Met.ofW (cc := cX8_isCell) (maxL := 2) (ret := (some .boolean)) (by decide) rfl ?_
  intro pp ee s mm aa bw mt cd s₁ BL hml hv
  obtain ⟨rfl, hsz, hP, hK, hD0⟩ := hv
  have hx := BL.exec
  have hb := BL.bytes
  have hr := BL.returns
  have hts := atoms_spec (ws := wsX8_isCell) BL.pre
  have hown : s.vm.findClass RX8 = some mm.cls := findClass_of_methodNamed BL.named
  have hlocks := BL.notSynchronized
  subst hsz
  generalize hAe : va_A (kM cI cB cZ oM Mthrown Mmany Mguest Mrow Mbars Mbar Mfresh Mtape Mtaped Mpos Mtoken MtokenAt Mvalue Mwrong MwrongAt MfaultKind MfaultPlace Mthing Morder Mone Mtwo Mbest Mcells Mgap Mwire Mstand Mruns Mminute Mhead Mplays Mrests Mwent Mout Mcame Mgone MlastOut) s.heap.size = A
  have hA : ∀ q : Nat, s.heap.size ≤ q → A q := fun q h => by rw [← hAe]; exact Or.inr h
  have hw : HW D A s.heap (kM cI cB cZ oM Mthrown Mmany Mguest Mrow Mbars Mbar Mfresh Mtape Mtaped Mpos Mtoken MtokenAt Mvalue Mwrong MwrongAt MfaultKind MfaultPlace Mthing Morder Mone Mtwo Mbest Mcells Mgap Mwire Mstand Mruns Mminute Mhead Mplays Mrests Mwent Mout Mcame Mgone MlastOut) s.heap [] := z_start hAe hP hD0
  clear hP hD0
  have hl := lv_entry ([.ref (oM 0), .int (zI c)]) (n := 2) (Nat.le_of_ble_eq_true rfl)
  rw [lg_entry_eq]
  generalize (lg_sl ([.ref (oM 0), .int (zI c)]) ++ List.replicate (2 - (lg_sl ([.ref (oM 0), .int (zI c)])).length) Slot.unset).toArray = ls at hl ⊢
  have hl : lv_has ls 2 [(0, .ref (oM 0)), (1, .int (zI c))] := hl
  have hinX8 : ∀ w ∈ wsX80, w ∈ wsX8_isCell := by decide +kernel
  refine lv_iload_n hx hb dX8_isCell_0 rfl (lv_at hl 1 rfl) ?_
  refine z_iconst hx hb dX8_isCell_1 ?_
  refine lv_aload_n hx hb dX8_isCell_2 rfl (lv_at hl 0 rfl) ?_
  refine va_get (D := D) (ci := 8) (v := .int (zI Mcells)) (C := RX8) (T := TX8) (N := 36) hx hb hts hinX8 hown hK hw.1 0 rfl rfl 22 (by decide) (hts (.fieldLink RX8 35 "CarnivalRoadModel" "cells" "I") (by decide +kernel)) (fun _ h9 => h9) rfl dX8_isCell_3 ?_
  refine z_iconst hx hb dX8_isCell_6 ?_
  refine z_isub hx hb dX8_isCell_7 ?_
  have hF9 := z_free (wc := ([] : va_W)) hw hA [] rfl
  refine va_calli (va_runS (As := [.int (zI c), .int (zI 0), .int (zI (Mcells - 1))]) (rest := []) ⟨hx, hb, hml, hown, hts⟩ (c_X8_isIn l D cI cB cZ s.heap.size c 0 (Mcells - 1) (by omega) (by omega) (by omega)) (va_cwS 3 hts gX8_isCell_X8_isIn rfl rfl rfl (by decide +kernel) ⟨Nat.le_of_ble_eq_true rfl, Nat.le_of_ble_eq_true rfl⟩) ⟨zPre_blind, z_pre hK hw [] (by decide) rfl⟩ rfl rfl hl.1 rfl (lv_room (Nat.le_of_ble_eq_true rfl)) dX8_isCell_8 ⟨Nat.zero_le _, Nat.zero_le _⟩) hw.2.2 (fun q _ h => hF9 q h) hF9 (fun r9 u9 t9 H_1 locs9 ht9 hvm9 hq9 hB9 hz9 hk9 hS9 => ?_)
  obtain ⟨r_2, rfl⟩ : ∃ z, z = u9 := ⟨_, rfl⟩
  try dsimp only at hq9 hB9
  obtain ⟨rfl, hq9⟩ := hq9
  have hq_3 := hq9
  have hw : HW D A s.heap (kM cI cB cZ oM Mthrown Mmany Mguest Mrow Mbars Mbar Mfresh Mtape Mtaped Mpos Mtoken MtokenAt Mvalue Mwrong MwrongAt MfaultKind MfaultPlace Mthing Morder Mone Mtwo Mbest Mcells Mgap Mwire Mstand Mruns Mminute Mhead Mplays Mrests Mwent Mout Mcame Mgone MlastOut) H_1 locs9 := z_after (wc := ([] : va_W)) hw [] [0, 1, 2, 3, 4, 5, 6, 7, 8, 9, 10, 11, 12, 13, 14, 15, 16] rfl rfl (by decide) (by decide) hF9 hk9 ht9 hB9 hS9 [0, 1, 2, 3, 4, 5, 6, 7, 8, 9, 10, 11, 12, 13, 14, 15, 16] (by decide) rfl
  clear hF9 ht9 hvm9 hB9 hz9 hk9 hS9 hq9
  rcases hq_3 with ⟨hc_4, rfl⟩ | ⟨hc_4, rfl⟩
  · skip
    have hv_5 : ((0 ≤ c ∧ c < Mcells) ∧ (1 : Int) = 1) ∨ (¬ (0 ≤ c ∧ c < Mcells) ∧ (1 : Int) = 0) := by
      first | assumption | omega | grind
    exact W.zret (v := zI 1) hx hb hr rfl (fun t9 ht hW => ⟨⟨zI 1, 1, rfl, ⟨rfl, hv_5⟩, by subst hAe; exact z_end hK hw ht hW⟩, by subst hAe; exact hw.2.2.F ht⟩) (by subst hAe; exact hw.2.2.2.2) dX8_isCell_11
  · skip
    have hv_6 : ((0 ≤ c ∧ c < Mcells) ∧ (0 : Int) = 1) ∨ (¬ (0 ≤ c ∧ c < Mcells) ∧ (0 : Int) = 0) := by
      first | assumption | omega | grind
    exact W.zret (v := zI 0) hx hb hr rfl (fun t9 ht hW => ⟨⟨zI 0, 0, rfl, ⟨rfl, hv_6⟩, by subst hAe; exact z_end hK hw ht hW⟩, by subst hAe; exact hw.2.2.F ht⟩) (by subst hAe; exact hw.2.2.2.2) dX8_isCell_11
set_option maxRecDepth 100000 in
set_option maxHeartbeats 4000000 in
theorem c_X8_stops (l : Launch) (D : va_G) (cI cB cZ : ClassId) (oM : Nat → Nat) (sz : Nat) (Mthrown : Int) (Mmany : Int) (Mguest : Int → Int) (Mrow : Int → Int) (Mbars : Int) (Mbar : Int → Int) (Mfresh : Int → Int) (Mtape : Int → Int) (Mtaped : Int) (Mpos : Int) (Mtoken : Int) (MtokenAt : Int) (Mvalue : Int) (Mwrong : Int) (MwrongAt : Int) (MfaultKind : Int) (MfaultPlace : Int) (Mthing : Int) (Morder : Int → Int) (Mone : Int) (Mtwo : Int) (Mbest : Int → Int) (Mcells : Int) (Mgap : Int) (Mwire : Int → Int) (Mstand : Int → Int) (Mruns : Int) (Mminute : Int) (Mhead : Int → Int) (Mplays : Int → Int) (Mrests : Int → Int) (Mwent : Int → Int) (Mout : Int → Int) (Mcame : Int → Int) (Mgone : Int → Int) (MlastOut : Int) (g : Int) (qMthrown : 0 ≤ Mthrown ∧ Mthrown ≤ 2) (qMmany : 0 ≤ Mmany ∧ Mmany ≤ 8) (qMguest : RA Mguest (0) 9) (qMrow : RA Mrow (0) 7) (qMbars : 0 ≤ Mbars ∧ Mbars ≤ 10) (qMbar : RA Mbar (0) 104) (qMfresh : RA Mfresh (0) 104) (qMtape : RA Mtape (0) 255) (qMtaped : 0 ≤ Mtaped ∧ Mtaped ≤ 400) (qMpos : 0 ≤ Mpos ∧ Mpos ≤ 400) (qMtoken : 0 ≤ Mtoken ∧ Mtoken ≤ 15) (qMtokenAt : 0 ≤ MtokenAt ∧ MtokenAt ≤ 400) (qMvalue : 0 ≤ Mvalue ∧ Mvalue ≤ 99) (qMwrong : 0 ≤ Mwrong ∧ Mwrong ≤ 3) (qMwrongAt : 0 ≤ MwrongAt ∧ MwrongAt ≤ 400) (qMfaultKind : 0 ≤ MfaultKind ∧ MfaultKind ≤ 3) (qMfaultPlace : -1 ≤ MfaultPlace ∧ MfaultPlace ≤ 400) (qMthing : 0 ≤ Mthing ∧ Mthing ≤ 104) (qMorder : RA Morder (0) 7) (qMone : 0 ≤ Mone ∧ Mone ≤ 8) (qMtwo : 0 ≤ Mtwo ∧ Mtwo ≤ 8) (qMbest : RA Mbest (0) 7) (qMcells : 1 ≤ Mcells ∧ Mcells ≤ 50) (qMgap : 0 ≤ Mgap ∧ Mgap ≤ 3) (qMwire : RA Mwire (0) 9) (qMstand : RA Mstand (0) 9) (qMruns : 0 ≤ Mruns ∧ Mruns ≤ 1) (qMminute : 0 ≤ Mminute ∧ Mminute ≤ 1000000) (qMhead : RA Mhead (-1) 60) (qMplays : RA Mplays (0) 18) (qMrests : RA Mrests (0) 3) (qMwent : RA Mwent (0) 61) (qMout : RA Mout (0) 1) (qMcame : RA Mcame (-1) 1000000) (qMgone : RA Mgone (-1) 1000000) (qMlastOut : 0 ≤ MlastOut ∧ MlastOut ≤ 1000000) (qg : 0 ≤ g ∧ g ≤ 7) : Met l yX8_stops wsX8_stops ({ frames := 1, cells := 0, slots := 0, locals := 22 }) (va_Pc [.ref (oM 0), .int (zI g)] (zPre D cI cB cZ sz (kM cI cB cZ oM Mthrown Mmany Mguest Mrow Mbars Mbar Mfresh Mtape Mtaped Mpos Mtoken MtokenAt Mvalue Mwrong MwrongAt MfaultKind MfaultPlace Mthing Morder Mone Mtwo Mbest Mcells Mgap Mwire Mstand Mruns Mminute Mhead Mplays Mrests Mwent Mout Mcame Mgone MlastOut))) (va_Qi (fun (r9 : Int32) (u9 : Int) => r9 = zI u9 ∧ ((fstP (lowP Mwire (Mguest (5 * g + 3))) Mcells u9) ∧ (-1 ≤ u9 ∧ u9 ≤ 49))) (fun u9 t9 => zAt D cI cB cZ (va_A (kM cI cB cZ oM Mthrown Mmany Mguest Mrow Mbars Mbar Mfresh Mtape Mtaped Mpos Mtoken MtokenAt Mvalue Mwrong MwrongAt MfaultKind MfaultPlace Mthing Morder Mone Mtwo Mbest Mcells Mgap Mwire Mstand Mruns Mminute Mhead Mplays Mrests Mwent Mout Mcame Mgone MlastOut) sz) (kM cI cB cZ oM Mthrown Mmany Mguest Mrow Mbars Mbar Mfresh Mtape Mtaped Mpos Mtoken MtokenAt Mvalue Mwrong MwrongAt MfaultKind MfaultPlace Mthing Morder Mone Mtwo Mbest Mcells Mgap Mwire Mstand Mruns Mminute Mhead Mplays Mrests Mwent Mout Mcame Mgone MlastOut) t9) (va_A (kM cI cB cZ oM Mthrown Mmany Mguest Mrow Mbars Mbar Mfresh Mtape Mtaped Mpos Mtoken MtokenAt Mvalue Mwrong MwrongAt MfaultKind MfaultPlace Mthing Morder Mone Mtwo Mbest Mcells Mgap Mwire Mstand Mruns Mminute Mhead Mplays Mrests Mwent Mout Mcame Mgone MlastOut) sz)) 0 0 (va_A (kM cI cB cZ oM Mthrown Mmany Mguest Mrow Mbars Mbar Mfresh Mtape Mtaped Mpos Mtoken MtokenAt Mvalue Mwrong MwrongAt MfaultKind MfaultPlace Mthing Morder Mone Mtwo Mbest Mcells Mgap Mwire Mstand Mruns Mminute Mhead Mplays Mrests Mwent Mout Mcame Mgone MlastOut) sz) := by
  refine Met.ofW (cc := cX8_stops) (maxL := 3) (ret := (some .int)) (by decide) rfl ?_
  intro pp ee s mm aa bw mt cd s₁ BL hml hv
  obtain ⟨rfl, hsz, hP, hK, hD0⟩ := hv
  have hx := BL.exec
  have hb := BL.bytes
  have hr := BL.returns
  have hts := atoms_spec (ws := wsX8_stops) BL.pre
  have hown : s.vm.findClass RX8 = some mm.cls := findClass_of_methodNamed BL.named
  have hlocks := BL.notSynchronized
  subst hsz
  generalize hAe : va_A (kM cI cB cZ oM Mthrown Mmany Mguest Mrow Mbars Mbar Mfresh Mtape Mtaped Mpos Mtoken MtokenAt Mvalue Mwrong MwrongAt MfaultKind MfaultPlace Mthing Morder Mone Mtwo Mbest Mcells Mgap Mwire Mstand Mruns Mminute Mhead Mplays Mrests Mwent Mout Mcame Mgone MlastOut) s.heap.size = A
  have hA : ∀ q : Nat, s.heap.size ≤ q → A q := fun q h => by rw [← hAe]; exact Or.inr h
  have hw : HW D A s.heap (kM cI cB cZ oM Mthrown Mmany Mguest Mrow Mbars Mbar Mfresh Mtape Mtaped Mpos Mtoken MtokenAt Mvalue Mwrong MwrongAt MfaultKind MfaultPlace Mthing Morder Mone Mtwo Mbest Mcells Mgap Mwire Mstand Mruns Mminute Mhead Mplays Mrests Mwent Mout Mcame Mgone MlastOut) s.heap [] := z_start hAe hP hD0
  clear hP hD0
  have hl := lv_entry ([.ref (oM 0), .int (zI g)]) (n := 3) (Nat.le_of_ble_eq_true rfl)
  rw [lg_entry_eq]
  generalize (lg_sl ([.ref (oM 0), .int (zI g)]) ++ List.replicate (3 - (lg_sl ([.ref (oM 0), .int (zI g)])).length) Slot.unset).toArray = ls at hl ⊢
  have hl : lv_has ls 3 [(0, .ref (oM 0)), (1, .int (zI g))] := hl
  have hinX8 : ∀ w ∈ wsX80, w ∈ wsX8_stops := by decide +kernel
  refine z_iconst hx hb dX8_stops_0 ?_
  refine lv_istore_n (lv' := [(2, .int (zI 0)), (0, .ref (oM 0)), (1, .int (zI g))]) hx hb dX8_stops_1 rfl hl (by decide) rfl (fun ls hl => ?_)
  have hv_1 : 0 ≤ (0 : Int) ∧ (0 : Int) ≤ Mcells := by
    first | assumption | omega | grind
  have hv_2 : ∀ k, 0 ≤ k → k < (0 : Int) → ¬ lowP Mwire (Mguest (5 * g + 3)) k := by
    exact all_0
  refine z_loop (σ := Int) (μ := fun x9 => (50 - x9).toNat) (I := fun x9 H locs ls => (0 ≤ x9 ∧ x9 ≤ Mcells) ∧ (∀ k, 0 ≤ k → k < x9 → ¬ lowP Mwire (Mguest (5 * g + 3)) k) ∧ HW D A s.heap (kM cI cB cZ oM Mthrown Mmany Mguest Mrow Mbars Mbar Mfresh Mtape Mtaped Mpos Mtoken MtokenAt Mvalue Mwrong MwrongAt MfaultKind MfaultPlace Mthing Morder Mone Mtwo Mbest Mcells Mgap Mwire Mstand Mruns Mminute Mhead Mplays Mrests Mwent Mout Mcame Mgone MlastOut) H locs ∧ lv_has ls 3 [(0, .ref (oM 0)), (1, .int (zI g)), (2, .int (zI x9))]) 0 ⟨hv_1, hv_2, hw, lv_sub hl [1, 2, 0] rfl⟩ ?_
  clear hw hl
  intro i_4 H locs ls hI ih_3
  try dsimp only at hI
  obtain ⟨hI_5, hI_6, hw, hl⟩ := hI
  refine lv_iload_n hx hb dX8_stops_2 rfl (lv_at hl 2 rfl) ?_
  refine lv_aload_n hx hb dX8_stops_3 rfl (lv_at hl 0 rfl) ?_
  refine va_get (D := D) (ci := 8) (v := .int (zI Mcells)) (C := RX8) (T := TX8) (N := 36) hx hb hts hinX8 hown hK hw.1 0 rfl rfl 22 (by decide) (hts (.fieldLink RX8 35 "CarnivalRoadModel" "cells" "I") (by decide +kernel)) (fun _ h9 => h9) rfl dX8_stops_4 ?_
  refine z_icmp_ge (tgt := 42) hx hb dX8_stops_7 (by decide) (by omega) (fun hc_7 => ?_) (fun hc_7 => ?_)
  · skip
    refine z_iconst hx hb dX8_stops_42 ?_
    have hv_8 : fstP (lowP Mwire (Mguest (5 * g + 3))) Mcells ((-1) : Int) := by
      first | omega | exact fst_none (by assumption) (by omega) rfl | exact fst_some (by assumption) (by omega) (by unfold lowP; omega)
    have hv_9 : -1 ≤ ((-1) : Int) ∧ ((-1) : Int) ≤ 49 := by
      first | omega | exact fst_none (by assumption) (by omega) rfl | exact fst_some (by assumption) (by omega) (by unfold lowP; omega)
    exact W.iret (v := zI (-1)) hx hb hr (fun t9 ht hW => ⟨⟨zI (-1), (-1), rfl, ⟨rfl, ⟨hv_8, hv_9⟩⟩, by subst hAe; exact z_end hK hw ht hW⟩, by subst hAe; exact hw.2.2.F ht⟩) (by subst hAe; exact hw.2.2.2.2) dX8_stops_43
  · skip
    refine lv_aload_n hx hb dX8_stops_10 rfl (lv_at hl 0 rfl) ?_
    refine va_get (D := D) (ci := 8) (v := .ref (oM 8)) (C := RX8) (T := TX8) (N := 36) hx hb hts hinX8 hown hK hw.1 0 rfl rfl 24 (by decide) (hts (.fieldLink RX8 41 "CarnivalRoadModel" "wire" "[I") (by decide +kernel)) (fun _ h9 => h9) rfl dX8_stops_11 ?_
    refine lv_iload_n hx hb dX8_stops_14 rfl (lv_at hl 2 rfl) ?_
    have hi_10 : (0 : Int) ≤ i_4 ∧ i_4 < ((50 : Nat) : Int) := by
      first | assumption | omega | grind
    refine z_iald (n := 50) (f := Mwire) hx hb hK hw 8 rfl (by decide) hi_10 dX8_stops_15 ?_
    have hq_11 : 0 ≤ Mwire i_4 ∧ Mwire i_4 ≤ 9 := qMwire i_4
    refine z_if_le (tgt := 36) hx hb dX8_stops_16 (by decide) (by omega) (fun hc_12 => ?_) (fun hc_12 => ?_)
    · skip
      refine z_iinc (k := 2) (lv' := [(2, .int (zI (i_4 + 1))), (0, .ref (oM 0)), (1, .int (zI g))]) hx hb dX8_stops_36 hl rfl (by decide) rfl (fun ls hl => ?_)
      refine lv_goto (tgt := 2) hx hb dX8_stops_39 (by decide) ?_
      have hv_13 : 0 ≤ (i_4 + 1) ∧ (i_4 + 1) ≤ Mcells := by
        first | assumption | omega | grind
      have hv_14 : ∀ k, 0 ≤ k → k < (i_4 + 1) → ¬ lowP Mwire (Mguest (5 * g + 3)) k := by
        refine all_s (by assumption) ?_; unfold lowP; omega
      have hm_15 : (50 - (i_4 + 1)).toNat < (50 - i_4).toNat := by
        first | assumption | omega | grind
      exact ih_3 (i_4 + 1) _ _ _ ⟨hv_13, hv_14, hw, lv_sub hl [1, 2, 0] rfl⟩ hm_15
    · skip
      refine lv_aload_n hx hb dX8_stops_19 rfl (lv_at hl 0 rfl) ?_
      refine lv_iload_n hx hb dX8_stops_20 rfl (lv_at hl 1 rfl) ?_
      refine z_iconst hx hb dX8_stops_21 ?_
      have hF9 := z_free (wc := kM cI cB cZ oM Mthrown Mmany Mguest Mrow Mbars Mbar Mfresh Mtape Mtaped Mpos Mtoken MtokenAt Mvalue Mwrong MwrongAt MfaultKind MfaultPlace Mthing Morder Mone Mtwo Mbest Mcells Mgap Mwire Mstand Mruns Mminute Mhead Mplays Mrests Mwent Mout Mcame Mgone MlastOut) hw hA [0, 1, 2, 3, 4, 5, 6, 7, 8, 9, 10, 11, 12, 13, 14, 15, 16] rfl
      refine va_calli (va_runV (As := [.int (zI g), .int (zI 3)]) (rest := []) ⟨hx, hb, hml, hown, hts⟩ (c_X8_get l D cI cB cZ oM H.size Mthrown Mmany Mguest Mrow Mbars Mbar Mfresh Mtape Mtaped Mpos Mtoken MtokenAt Mvalue Mwrong MwrongAt MfaultKind MfaultPlace Mthing Morder Mone Mtwo Mbest Mcells Mgap Mwire Mstand Mruns Mminute Mhead Mplays Mrests Mwent Mout Mcame Mgone MlastOut g 3 (by omega) (by omega) qMguest qMrow (by omega) qMbar qMfresh qMtape (by omega) (by omega) (by omega) (by omega) (by omega) (by omega) (by omega) (by omega) (by omega) (by omega) qMorder (by omega) (by omega) qMbest (by omega) (by omega) qMwire qMstand (by omega) (by omega) qMhead qMplays qMrests qMwent qMout qMcame qMgone (by omega) (by omega) (by omega)) (cwV 2 hts gX8_stops_X8_get rfl rfl rfl (by decide +kernel) ⟨Nat.le_of_ble_eq_true rfl, Nat.le_of_ble_eq_true rfl⟩) ⟨zPre_blind, va_recv hK hw.1 (ci := 8) (q0 := 0) rfl rfl, z_pre hK hw [0, 1, 2, 3, 4, 5, 6, 7, 8, 9, 10, 11, 12, 13, 14, 15, 16] (by decide) rfl⟩ rfl rfl hl.1 rfl (lv_room (Nat.le_of_ble_eq_true rfl)) dX8_stops_22 ⟨Nat.zero_le _, Nat.zero_le _⟩) hw.2.2 (fun q _ h => hF9 q h) hF9 (fun r9 u9 t9 H_16 locs9 ht9 hvm9 hq9 hB9 hz9 hk9 hS9 => ?_)
      obtain ⟨r_17, rfl⟩ : ∃ z, z = u9 := ⟨_, rfl⟩
      try dsimp only at hq9 hB9
      obtain ⟨rfl, hq9⟩ := hq9
      obtain ⟨hq_18, hq_19⟩ := hq9
      have hw : HW D A s.heap (kM cI cB cZ oM Mthrown Mmany Mguest Mrow Mbars Mbar Mfresh Mtape Mtaped Mpos Mtoken MtokenAt Mvalue Mwrong MwrongAt MfaultKind MfaultPlace Mthing Morder Mone Mtwo Mbest Mcells Mgap Mwire Mstand Mruns Mminute Mhead Mplays Mrests Mwent Mout Mcame Mgone MlastOut) H_16 locs9 := z_after (wc := kM cI cB cZ oM Mthrown Mmany Mguest Mrow Mbars Mbar Mfresh Mtape Mtaped Mpos Mtoken MtokenAt Mvalue Mwrong MwrongAt MfaultKind MfaultPlace Mthing Morder Mone Mtwo Mbest Mcells Mgap Mwire Mstand Mruns Mminute Mhead Mplays Mrests Mwent Mout Mcame Mgone MlastOut) hw [0, 1, 2, 3, 4, 5, 6, 7, 8, 9, 10, 11, 12, 13, 14, 15, 16] [] rfl rfl (by decide) (by decide) hF9 hk9 ht9 hB9 hS9 [0, 1, 2, 3, 4, 5, 6, 7, 8, 9, 10, 11, 12, 13, 14, 15, 16] (by decide) rfl
      clear hF9 ht9 hvm9 hB9 hz9 hk9 hS9
      refine lv_aload_n hx hb dX8_stops_25 rfl (lv_at hl 0 rfl) ?_
      refine va_get (D := D) (ci := 8) (v := .ref (oM 8)) (C := RX8) (T := TX8) (N := 36) hx hb hts hinX8 hown hK hw.1 0 rfl rfl 24 (by decide) (hts (.fieldLink RX8 41 "CarnivalRoadModel" "wire" "[I") (by decide +kernel)) (fun _ h9 => h9) rfl dX8_stops_26 ?_
      refine lv_iload_n hx hb dX8_stops_29 rfl (lv_at hl 2 rfl) ?_
      have hi_20 : (0 : Int) ≤ i_4 ∧ i_4 < ((50 : Nat) : Int) := by
        first | assumption | omega | grind
      refine z_iald (n := 50) (f := Mwire) hx hb hK hw 8 rfl (by decide) hi_20 dX8_stops_30 ?_
      have hq_21 : 0 ≤ Mwire i_4 ∧ Mwire i_4 ≤ 9 := qMwire i_4
      refine z_icmp_le (tgt := 36) hx hb dX8_stops_31 (by decide) (by omega) (fun hc_22 => ?_) (fun hc_22 => ?_)
      · skip
        refine z_iinc (k := 2) (lv' := [(2, .int (zI (i_4 + 1))), (0, .ref (oM 0)), (1, .int (zI g))]) hx hb dX8_stops_36 hl rfl (by decide) rfl (fun ls hl => ?_)
        refine lv_goto (tgt := 2) hx hb dX8_stops_39 (by decide) ?_
        have hv_23 : 0 ≤ (i_4 + 1) ∧ (i_4 + 1) ≤ Mcells := by
          first | assumption | omega | grind
        have hv_24 : ∀ k, 0 ≤ k → k < (i_4 + 1) → ¬ lowP Mwire (Mguest (5 * g + 3)) k := by
          refine all_s (by assumption) ?_; unfold lowP; omega
        have hm_25 : (50 - (i_4 + 1)).toNat < (50 - i_4).toNat := by
          first | assumption | omega | grind
        exact ih_3 (i_4 + 1) _ _ _ ⟨hv_23, hv_24, hw, lv_sub hl [1, 2, 0] rfl⟩ hm_25
      · skip
        refine lv_iload_n hx hb dX8_stops_34 rfl (lv_at hl 2 rfl) ?_
        have hv_26 : fstP (lowP Mwire (Mguest (5 * g + 3))) Mcells i_4 := by
          first | omega | exact fst_none (by assumption) (by omega) rfl | exact fst_some (by assumption) (by omega) (by unfold lowP; omega)
        have hv_27 : -1 ≤ i_4 ∧ i_4 ≤ 49 := by
          first | omega | exact fst_none (by assumption) (by omega) rfl | exact fst_some (by assumption) (by omega) (by unfold lowP; omega)
        exact W.iret (v := zI i_4) hx hb hr (fun t9 ht hW => ⟨⟨zI i_4, i_4, rfl, ⟨rfl, ⟨hv_26, hv_27⟩⟩, by subst hAe; exact z_end hK hw ht hW⟩, by subst hAe; exact hw.2.2.F ht⟩) (by subst hAe; exact hw.2.2.2.2) dX8_stops_35
set_option maxRecDepth 100000 in
set_option maxHeartbeats 4000000 in
theorem c_X8_takes (l : Launch) (D : va_G) (cI cB cZ : ClassId) (oM : Nat → Nat) (sz : Nat) (Mthrown : Int) (Mmany : Int) (Mguest : Int → Int) (Mrow : Int → Int) (Mbars : Int) (Mbar : Int → Int) (Mfresh : Int → Int) (Mtape : Int → Int) (Mtaped : Int) (Mpos : Int) (Mtoken : Int) (MtokenAt : Int) (Mvalue : Int) (Mwrong : Int) (MwrongAt : Int) (MfaultKind : Int) (MfaultPlace : Int) (Mthing : Int) (Morder : Int → Int) (Mone : Int) (Mtwo : Int) (Mbest : Int → Int) (Mcells : Int) (Mgap : Int) (Mwire : Int → Int) (Mstand : Int → Int) (Mruns : Int) (Mminute : Int) (Mhead : Int → Int) (Mplays : Int → Int) (Mrests : Int → Int) (Mwent : Int → Int) (Mout : Int → Int) (Mcame : Int → Int) (Mgone : Int → Int) (MlastOut : Int) (qMthrown : 0 ≤ Mthrown ∧ Mthrown ≤ 2) (qMmany : 0 ≤ Mmany ∧ Mmany ≤ 8) (qMguest : RA Mguest (0) 9) (qMrow : RA Mrow (0) 7) (qMbars : 0 ≤ Mbars ∧ Mbars ≤ 10) (qMbar : RA Mbar (0) 104) (qMfresh : RA Mfresh (0) 104) (qMtape : RA Mtape (0) 255) (qMtaped : 0 ≤ Mtaped ∧ Mtaped ≤ 400) (qMpos : 0 ≤ Mpos ∧ Mpos ≤ 400) (qMtoken : 0 ≤ Mtoken ∧ Mtoken ≤ 15) (qMtokenAt : 0 ≤ MtokenAt ∧ MtokenAt ≤ 400) (qMvalue : 0 ≤ Mvalue ∧ Mvalue ≤ 99) (qMwrong : 0 ≤ Mwrong ∧ Mwrong ≤ 3) (qMwrongAt : 0 ≤ MwrongAt ∧ MwrongAt ≤ 400) (qMfaultKind : 0 ≤ MfaultKind ∧ MfaultKind ≤ 3) (qMfaultPlace : -1 ≤ MfaultPlace ∧ MfaultPlace ≤ 400) (qMthing : 0 ≤ Mthing ∧ Mthing ≤ 104) (qMorder : RA Morder (0) 7) (qMone : 0 ≤ Mone ∧ Mone ≤ 8) (qMtwo : 0 ≤ Mtwo ∧ Mtwo ≤ 8) (qMbest : RA Mbest (0) 7) (qMcells : 1 ≤ Mcells ∧ Mcells ≤ 50) (qMgap : 0 ≤ Mgap ∧ Mgap ≤ 3) (qMwire : RA Mwire (0) 9) (qMstand : RA Mstand (0) 9) (qMruns : 0 ≤ Mruns ∧ Mruns ≤ 1) (qMminute : 0 ≤ Mminute ∧ Mminute ≤ 1000000) (qMhead : RA Mhead (-1) 60) (qMplays : RA Mplays (0) 18) (qMrests : RA Mrests (0) 3) (qMwent : RA Mwent (0) 61) (qMout : RA Mout (0) 1) (qMcame : RA Mcame (-1) 1000000) (qMgone : RA Mgone (-1) 1000000) (qMlastOut : 0 ≤ MlastOut ∧ MlastOut ≤ 1000000) : Met l yX8_takes wsX8_takes ({ frames := 0, cells := 0, slots := 0, locals := 0 }) (va_Pc [.ref (oM 0)] (zPre D cI cB cZ sz (kM cI cB cZ oM Mthrown Mmany Mguest Mrow Mbars Mbar Mfresh Mtape Mtaped Mpos Mtoken MtokenAt Mvalue Mwrong MwrongAt MfaultKind MfaultPlace Mthing Morder Mone Mtwo Mbest Mcells Mgap Mwire Mstand Mruns Mminute Mhead Mplays Mrests Mwent Mout Mcame Mgone MlastOut))) (va_Qv (fun (u9 : (Int → Int)) => (RA u9 (0) 7) ∧ (∀ k, 0 ≤ k → k < Mmany → u9 k = Mrow k)) (fun u9 t9 => zAt D cI cB cZ (va_A (kM cI cB cZ oM Mthrown Mmany Mguest Mrow Mbars Mbar Mfresh Mtape Mtaped Mpos Mtoken MtokenAt Mvalue Mwrong MwrongAt MfaultKind MfaultPlace Mthing Morder Mone Mtwo Mbest Mcells Mgap Mwire Mstand Mruns Mminute Mhead Mplays Mrests Mwent Mout Mcame Mgone MlastOut) sz) (kM cI cB cZ oM Mthrown Mmany Mguest Mrow Mbars Mbar Mfresh Mtape Mtaped Mpos Mtoken MtokenAt Mvalue Mwrong MwrongAt MfaultKind MfaultPlace Mthing u9 Mone Mtwo Mbest Mcells Mgap Mwire Mstand Mruns Mminute Mhead Mplays Mrests Mwent Mout Mcame Mgone MlastOut) t9) (va_A (kM cI cB cZ oM Mthrown Mmany Mguest Mrow Mbars Mbar Mfresh Mtape Mtaped Mpos Mtoken MtokenAt Mvalue Mwrong MwrongAt MfaultKind MfaultPlace Mthing Morder Mone Mtwo Mbest Mcells Mgap Mwire Mstand Mruns Mminute Mhead Mplays Mrests Mwent Mout Mcame Mgone MlastOut) sz)) 0 0 (va_A (kM cI cB cZ oM Mthrown Mmany Mguest Mrow Mbars Mbar Mfresh Mtape Mtaped Mpos Mtoken MtokenAt Mvalue Mwrong MwrongAt MfaultKind MfaultPlace Mthing Morder Mone Mtwo Mbest Mcells Mgap Mwire Mstand Mruns Mminute Mhead Mplays Mrests Mwent Mout Mcame Mgone MlastOut) sz) := by
  refine Met.ofW (cc := cX8_takes) (maxL := 2) (ret := none) (by decide) rfl ?_
  intro pp ee s mm aa bw mt cd s₁ BL hml hv
  obtain ⟨rfl, hsz, hP, hK, hD0⟩ := hv
  have hx := BL.exec
  have hb := BL.bytes
  have hr := BL.returns
  have hts := atoms_spec (ws := wsX8_takes) BL.pre
  have hown : s.vm.findClass RX8 = some mm.cls := findClass_of_methodNamed BL.named
  have hlocks := BL.notSynchronized
  subst hsz
  generalize hAe : va_A (kM cI cB cZ oM Mthrown Mmany Mguest Mrow Mbars Mbar Mfresh Mtape Mtaped Mpos Mtoken MtokenAt Mvalue Mwrong MwrongAt MfaultKind MfaultPlace Mthing Morder Mone Mtwo Mbest Mcells Mgap Mwire Mstand Mruns Mminute Mhead Mplays Mrests Mwent Mout Mcame Mgone MlastOut) s.heap.size = A
  have hA : ∀ q : Nat, s.heap.size ≤ q → A q := fun q h => by rw [← hAe]; exact Or.inr h
  have hw : HW D A s.heap (kM cI cB cZ oM Mthrown Mmany Mguest Mrow Mbars Mbar Mfresh Mtape Mtaped Mpos Mtoken MtokenAt Mvalue Mwrong MwrongAt MfaultKind MfaultPlace Mthing Morder Mone Mtwo Mbest Mcells Mgap Mwire Mstand Mruns Mminute Mhead Mplays Mrests Mwent Mout Mcame Mgone MlastOut) s.heap [] := z_start hAe hP hD0
  clear hP hD0
  have hl := lv_entry ([.ref (oM 0)]) (n := 2) (Nat.le_of_ble_eq_true rfl)
  rw [lg_entry_eq]
  generalize (lg_sl ([.ref (oM 0)]) ++ List.replicate (2 - (lg_sl ([.ref (oM 0)])).length) Slot.unset).toArray = ls at hl ⊢
  have hl : lv_has ls 2 [(0, .ref (oM 0))] := hl
  have hinX8 : ∀ w ∈ wsX80, w ∈ wsX8_takes := by decide +kernel
  refine z_iconst hx hb dX8_takes_0 ?_
  refine lv_istore_n (lv' := [(1, .int (zI 0)), (0, .ref (oM 0))]) hx hb dX8_takes_1 rfl hl (by decide) rfl (fun ls hl => ?_)
  have hv_1 : 0 ≤ (0 : Int) ∧ (0 : Int) ≤ Mmany := by
    first | assumption | omega | grind
  have hv_2 : ∀ k, 0 ≤ k → k < (0 : Int) → Morder k = Mrow k := by
    exact all_0
  refine z_loop (σ := Int × (Int → Int)) (μ := fun x9 => (9 - (x9.1)).toNat) (I := fun x9 H locs ls => (RA (x9.2) (0) 7) ∧ (0 ≤ (x9.1) ∧ (x9.1) ≤ Mmany) ∧ (∀ k, 0 ≤ k → k < (x9.1) → (x9.2) k = Mrow k) ∧ HW D A s.heap (kM cI cB cZ oM Mthrown Mmany Mguest Mrow Mbars Mbar Mfresh Mtape Mtaped Mpos Mtoken MtokenAt Mvalue Mwrong MwrongAt MfaultKind MfaultPlace Mthing (x9.2) Mone Mtwo Mbest Mcells Mgap Mwire Mstand Mruns Mminute Mhead Mplays Mrests Mwent Mout Mcame Mgone MlastOut) H locs ∧ lv_has ls 2 [(0, .ref (oM 0)), (1, .int (zI (x9.1)))]) (0, Morder) ⟨qMorder, hv_1, hv_2, hw, lv_sub hl [1, 0] rfl⟩ ?_
  clear hw hl
  intro x9 H locs ls hI ih_3
  obtain ⟨i_4, Morder_5⟩ := x9
  try dsimp only at hI
  obtain ⟨hR_6, hI_7, hI_8, hw, hl⟩ := hI
  refine lv_iload_n hx hb dX8_takes_2 rfl (lv_at hl 1 rfl) ?_
  refine lv_aload_n hx hb dX8_takes_3 rfl (lv_at hl 0 rfl) ?_
  refine va_get (D := D) (ci := 8) (v := .int (zI Mmany)) (C := RX8) (T := TX8) (N := 36) hx hb hts hinX8 hown hK hw.1 0 rfl rfl 1 (by decide) (hts (.fieldLink RX8 72 "CarnivalRoadModel" "many" "I") (by decide +kernel)) (fun _ h9 => h9) rfl dX8_takes_4 ?_
  refine z_icmp_ge (tgt := 28) hx hb dX8_takes_7 (by decide) (by omega) (fun hc_9 => ?_) (fun hc_9 => ?_)
  · skip
    have hv_10 : ∀ k, 0 ≤ k → k < Mmany → Morder_5 k = Mrow k := by
      exact all_le (by assumption) (by omega)
    exact W.vret hx hb hr (fun t9 ht hW => ⟨⟨Morder_5, rfl, ⟨hR_6, hv_10⟩, by subst hAe; exact z_end hK hw ht hW⟩, by subst hAe; exact hw.2.2.F ht⟩) (by subst hAe; exact hw.2.2.2.2) dX8_takes_28
  · skip
    refine lv_aload_n hx hb dX8_takes_10 rfl (lv_at hl 0 rfl) ?_
    refine va_get (D := D) (ci := 8) (v := .ref (oM 6)) (C := RX8) (T := TX8) (N := 36) hx hb hts hinX8 hown hK hw.1 0 rfl rfl 18 (by decide) (hts (.fieldLink RX8 29 "CarnivalRoadModel" "order" "[I") (by decide +kernel)) (fun _ h9 => h9) rfl dX8_takes_11 ?_
    refine lv_iload_n hx hb dX8_takes_14 rfl (lv_at hl 1 rfl) ?_
    refine lv_aload_n hx hb dX8_takes_15 rfl (lv_at hl 0 rfl) ?_
    refine va_get (D := D) (ci := 8) (v := .ref (oM 2)) (C := RX8) (T := TX8) (N := 36) hx hb hts hinX8 hown hK hw.1 0 rfl rfl 3 (by decide) (hts (.fieldLink RX8 13 "CarnivalRoadModel" "row" "[I") (by decide +kernel)) (fun _ h9 => h9) rfl dX8_takes_16 ?_
    refine lv_iload_n hx hb dX8_takes_19 rfl (lv_at hl 1 rfl) ?_
    have hi_11 : (0 : Int) ≤ i_4 ∧ i_4 < ((8 : Nat) : Int) := by
      first | assumption | omega | grind
    refine z_iald (n := 8) (f := Mrow) hx hb hK hw 2 rfl (by decide) hi_11 dX8_takes_20 ?_
    have hq_12 : 0 ≤ Mrow i_4 ∧ Mrow i_4 ≤ 7 := qMrow i_4
    have hi_13 : (0 : Int) ≤ i_4 ∧ i_4 < ((8 : Nat) : Int) := by
      first | assumption | omega | grind
    have hv_14 : (0 : Int) ≤ (Mrow i_4) ∧ (Mrow i_4) ≤ 7 := by
      first | assumption | omega | grind
    have hR_15 : RA (uZ Morder_5 i_4 (Mrow i_4)) (0) 7 := RA_up hR_6 hv_14
    refine z_iast (n := 8) (f := Morder_5) (ws2 := kM cI cB cZ oM Mthrown Mmany Mguest Mrow Mbars Mbar Mfresh Mtape Mtaped Mpos Mtoken MtokenAt Mvalue Mwrong MwrongAt MfaultKind MfaultPlace Mthing (uZ Morder_5 i_4 (Mrow i_4)) Mone Mtwo Mbest Mcells Mgap Mwire Mstand Mruns Mminute Mhead Mplays Mrests Mwent Mout Mcame Mgone MlastOut) hx hb hK hw 6 rfl (by decide) hi_13 dX8_takes_21 rfl (fun H locs hw => ?_)
    refine z_iinc (k := 1) (lv' := [(1, .int (zI (i_4 + 1))), (0, .ref (oM 0))]) hx hb dX8_takes_22 hl rfl (by decide) rfl (fun ls hl => ?_)
    refine lv_goto (tgt := 2) hx hb dX8_takes_25 (by decide) ?_
    have hv_16 : 0 ≤ (i_4 + 1) ∧ (i_4 + 1) ≤ Mmany := by
      first | assumption | omega | grind
    have hv_17 : ∀ k, 0 ≤ k → k < (i_4 + 1) → (uZ Morder_5 i_4 (Mrow i_4)) k = Mrow k := by
      refine all_s (fun k k0 k1 => ?_) uZ_s
      rw [uZ_n (by omega)]
      revert k1
      revert k0
      revert k
      assumption
    have hm_18 : (9 - (i_4 + 1)).toNat < (9 - i_4).toNat := by
      first | assumption | omega | grind
    exact ih_3 ((i_4 + 1), (uZ Morder_5 i_4 (Mrow i_4))) _ _ _ ⟨hR_15, hv_16, hv_17, hw, lv_sub hl [1, 0] rfl⟩ hm_18
set_option maxRecDepth 100000 in
set_option maxHeartbeats 4000000 in
theorem c_X8_becomes (l : Launch) (D : va_G) (cI cB cZ : ClassId) (oM : Nat → Nat) (sz : Nat) (Mthrown : Int) (Mmany : Int) (Mguest : Int → Int) (Mrow : Int → Int) (Mbars : Int) (Mbar : Int → Int) (Mfresh : Int → Int) (Mtape : Int → Int) (Mtaped : Int) (Mpos : Int) (Mtoken : Int) (MtokenAt : Int) (Mvalue : Int) (Mwrong : Int) (MwrongAt : Int) (MfaultKind : Int) (MfaultPlace : Int) (Mthing : Int) (Morder : Int → Int) (Mone : Int) (Mtwo : Int) (Mbest : Int → Int) (Mcells : Int) (Mgap : Int) (Mwire : Int → Int) (Mstand : Int → Int) (Mruns : Int) (Mminute : Int) (Mhead : Int → Int) (Mplays : Int → Int) (Mrests : Int → Int) (Mwent : Int → Int) (Mout : Int → Int) (Mcame : Int → Int) (Mgone : Int → Int) (MlastOut : Int) (qMthrown : 0 ≤ Mthrown ∧ Mthrown ≤ 2) (qMmany : 0 ≤ Mmany ∧ Mmany ≤ 8) (qMguest : RA Mguest (0) 9) (qMrow : RA Mrow (0) 7) (qMbars : 0 ≤ Mbars ∧ Mbars ≤ 10) (qMbar : RA Mbar (0) 104) (qMfresh : RA Mfresh (0) 104) (qMtape : RA Mtape (0) 255) (qMtaped : 0 ≤ Mtaped ∧ Mtaped ≤ 400) (qMpos : 0 ≤ Mpos ∧ Mpos ≤ 400) (qMtoken : 0 ≤ Mtoken ∧ Mtoken ≤ 15) (qMtokenAt : 0 ≤ MtokenAt ∧ MtokenAt ≤ 400) (qMvalue : 0 ≤ Mvalue ∧ Mvalue ≤ 99) (qMwrong : 0 ≤ Mwrong ∧ Mwrong ≤ 3) (qMwrongAt : 0 ≤ MwrongAt ∧ MwrongAt ≤ 400) (qMfaultKind : 0 ≤ MfaultKind ∧ MfaultKind ≤ 3) (qMfaultPlace : -1 ≤ MfaultPlace ∧ MfaultPlace ≤ 400) (qMthing : 0 ≤ Mthing ∧ Mthing ≤ 104) (qMorder : RA Morder (0) 7) (qMone : 0 ≤ Mone ∧ Mone ≤ 8) (qMtwo : 0 ≤ Mtwo ∧ Mtwo ≤ 8) (qMbest : RA Mbest (0) 7) (qMcells : 1 ≤ Mcells ∧ Mcells ≤ 50) (qMgap : 0 ≤ Mgap ∧ Mgap ≤ 3) (qMwire : RA Mwire (0) 9) (qMstand : RA Mstand (0) 9) (qMruns : 0 ≤ Mruns ∧ Mruns ≤ 1) (qMminute : 0 ≤ Mminute ∧ Mminute ≤ 1000000) (qMhead : RA Mhead (-1) 60) (qMplays : RA Mplays (0) 18) (qMrests : RA Mrests (0) 3) (qMwent : RA Mwent (0) 61) (qMout : RA Mout (0) 1) (qMcame : RA Mcame (-1) 1000000) (qMgone : RA Mgone (-1) 1000000) (qMlastOut : 0 ≤ MlastOut ∧ MlastOut ≤ 1000000) : Met l yX8_becomes wsX8_becomes ({ frames := 0, cells := 0, slots := 0, locals := 0 }) (va_Pc [.ref (oM 0)] (zPre D cI cB cZ sz (kM cI cB cZ oM Mthrown Mmany Mguest Mrow Mbars Mbar Mfresh Mtape Mtaped Mpos Mtoken MtokenAt Mvalue Mwrong MwrongAt MfaultKind MfaultPlace Mthing Morder Mone Mtwo Mbest Mcells Mgap Mwire Mstand Mruns Mminute Mhead Mplays Mrests Mwent Mout Mcame Mgone MlastOut))) (va_Qv (fun (u9 : (Int → Int) × Int) => (RA u9.1 (0) 7) ∧ ((0 : Int) ≤ u9.2 ∧ u9.2 ≤ 1) ∧ (∀ k, 0 ≤ k → k < Mmany → u9.1 k = Morder k) ∧ (u9.2 = 0)) (fun u9 t9 => zAt D cI cB cZ (va_A (kM cI cB cZ oM Mthrown Mmany Mguest Mrow Mbars Mbar Mfresh Mtape Mtaped Mpos Mtoken MtokenAt Mvalue Mwrong MwrongAt MfaultKind MfaultPlace Mthing Morder Mone Mtwo Mbest Mcells Mgap Mwire Mstand Mruns Mminute Mhead Mplays Mrests Mwent Mout Mcame Mgone MlastOut) sz) (kM cI cB cZ oM Mthrown Mmany Mguest (u9.1) Mbars Mbar Mfresh Mtape Mtaped Mpos Mtoken MtokenAt Mvalue Mwrong MwrongAt MfaultKind MfaultPlace Mthing Morder Mone Mtwo Mbest Mcells Mgap Mwire Mstand (u9.2) Mminute Mhead Mplays Mrests Mwent Mout Mcame Mgone MlastOut) t9) (va_A (kM cI cB cZ oM Mthrown Mmany Mguest Mrow Mbars Mbar Mfresh Mtape Mtaped Mpos Mtoken MtokenAt Mvalue Mwrong MwrongAt MfaultKind MfaultPlace Mthing Morder Mone Mtwo Mbest Mcells Mgap Mwire Mstand Mruns Mminute Mhead Mplays Mrests Mwent Mout Mcame Mgone MlastOut) sz)) 0 0 (va_A (kM cI cB cZ oM Mthrown Mmany Mguest Mrow Mbars Mbar Mfresh Mtape Mtaped Mpos Mtoken MtokenAt Mvalue Mwrong MwrongAt MfaultKind MfaultPlace Mthing Morder Mone Mtwo Mbest Mcells Mgap Mwire Mstand Mruns Mminute Mhead Mplays Mrests Mwent Mout Mcame Mgone MlastOut) sz) := by
  refine Met.ofW (cc := cX8_becomes) (maxL := 2) (ret := none) (by decide) rfl ?_
  intro pp ee s mm aa bw mt cd s₁ BL hml hv
  obtain ⟨rfl, hsz, hP, hK, hD0⟩ := hv
  have hx := BL.exec
  have hb := BL.bytes
  have hr := BL.returns
  have hts := atoms_spec (ws := wsX8_becomes) BL.pre
  have hown : s.vm.findClass RX8 = some mm.cls := findClass_of_methodNamed BL.named
  have hlocks := BL.notSynchronized
  subst hsz
  generalize hAe : va_A (kM cI cB cZ oM Mthrown Mmany Mguest Mrow Mbars Mbar Mfresh Mtape Mtaped Mpos Mtoken MtokenAt Mvalue Mwrong MwrongAt MfaultKind MfaultPlace Mthing Morder Mone Mtwo Mbest Mcells Mgap Mwire Mstand Mruns Mminute Mhead Mplays Mrests Mwent Mout Mcame Mgone MlastOut) s.heap.size = A
  have hA : ∀ q : Nat, s.heap.size ≤ q → A q := fun q h => by rw [← hAe]; exact Or.inr h
  have hw : HW D A s.heap (kM cI cB cZ oM Mthrown Mmany Mguest Mrow Mbars Mbar Mfresh Mtape Mtaped Mpos Mtoken MtokenAt Mvalue Mwrong MwrongAt MfaultKind MfaultPlace Mthing Morder Mone Mtwo Mbest Mcells Mgap Mwire Mstand Mruns Mminute Mhead Mplays Mrests Mwent Mout Mcame Mgone MlastOut) s.heap [] := z_start hAe hP hD0
  clear hP hD0
  have hl := lv_entry ([.ref (oM 0)]) (n := 2) (Nat.le_of_ble_eq_true rfl)
  rw [lg_entry_eq]
  generalize (lg_sl ([.ref (oM 0)]) ++ List.replicate (2 - (lg_sl ([.ref (oM 0)])).length) Slot.unset).toArray = ls at hl ⊢
  have hl : lv_has ls 2 [(0, .ref (oM 0))] := hl
  have hinX8 : ∀ w ∈ wsX80, w ∈ wsX8_becomes := by decide +kernel
  refine z_iconst hx hb dX8_becomes_0 ?_
  refine lv_istore_n (lv' := [(1, .int (zI 0)), (0, .ref (oM 0))]) hx hb dX8_becomes_1 rfl hl (by decide) rfl (fun ls hl => ?_)
  have hv_1 : 0 ≤ (0 : Int) ∧ (0 : Int) ≤ Mmany := by
    first | assumption | omega | grind
  have hv_2 : ∀ k, 0 ≤ k → k < (0 : Int) → Mrow k = Morder k := by
    exact all_0
  refine z_loop (σ := Int × (Int → Int)) (μ := fun x9 => (9 - (x9.1)).toNat) (I := fun x9 H locs ls => (RA (x9.2) (0) 7) ∧ (0 ≤ (x9.1) ∧ (x9.1) ≤ Mmany) ∧ (∀ k, 0 ≤ k → k < (x9.1) → (x9.2) k = Morder k) ∧ HW D A s.heap (kM cI cB cZ oM Mthrown Mmany Mguest (x9.2) Mbars Mbar Mfresh Mtape Mtaped Mpos Mtoken MtokenAt Mvalue Mwrong MwrongAt MfaultKind MfaultPlace Mthing Morder Mone Mtwo Mbest Mcells Mgap Mwire Mstand Mruns Mminute Mhead Mplays Mrests Mwent Mout Mcame Mgone MlastOut) H locs ∧ lv_has ls 2 [(0, .ref (oM 0)), (1, .int (zI (x9.1)))]) (0, Mrow) ⟨qMrow, hv_1, hv_2, hw, lv_sub hl [1, 0] rfl⟩ ?_
  clear hw hl
  intro x9 H locs ls hI ih_3
  obtain ⟨i_4, Mrow_5⟩ := x9
  try dsimp only at hI
  obtain ⟨hR_6, hI_7, hI_8, hw, hl⟩ := hI
  refine lv_iload_n hx hb dX8_becomes_2 rfl (lv_at hl 1 rfl) ?_
  refine lv_aload_n hx hb dX8_becomes_3 rfl (lv_at hl 0 rfl) ?_
  refine va_get (D := D) (ci := 8) (v := .int (zI Mmany)) (C := RX8) (T := TX8) (N := 36) hx hb hts hinX8 hown hK hw.1 0 rfl rfl 1 (by decide) (hts (.fieldLink RX8 72 "CarnivalRoadModel" "many" "I") (by decide +kernel)) (fun _ h9 => h9) rfl dX8_becomes_4 ?_
  refine z_icmp_ge (tgt := 28) hx hb dX8_becomes_7 (by decide) (by omega) (fun hc_9 => ?_) (fun hc_9 => ?_)
  · skip
    refine lv_aload_n hx hb dX8_becomes_28 rfl (lv_at hl 0 rfl) ?_
    refine z_iconst hx hb dX8_becomes_29 ?_
    refine z_put (D := D) (ci := 8) (v := .int (zI 0)) (ty := .boolean) (C := RX8) (T := TX8) (N := 36) (ws2 := kM cI cB cZ oM Mthrown Mmany Mguest Mrow_5 Mbars Mbar Mfresh Mtape Mtaped Mpos Mtoken MtokenAt Mvalue Mwrong MwrongAt MfaultKind MfaultPlace Mthing Morder Mone Mtwo Mbest Mcells Mgap Mwire Mstand 0 Mminute Mhead Mplays Mrests Mwent Mout Mcame Mgone MlastOut) hx hb hts hinX8 tyX8 tyX8_ok nmX8 hown hK hw 0 rfl rfl 26 (by decide) (hts (.fieldLink RX8 79 "CarnivalRoadModel" "runs" "Z") (by decide +kernel)) (fun _ h9 => h9) rfl (by decide +kernel) rfl rfl (Nat.le_of_ble_eq_true rfl) dX8_becomes_30 rfl (fun H locs hw => ?_)
    have hv_10 : (0 : Int) ≤ (0 : Int) ∧ (0 : Int) ≤ 1 := by
      first | assumption | omega | grind
    have hv_11 : ∀ k, 0 ≤ k → k < Mmany → Mrow_5 k = Morder k := by
      first | rfl | exact all_le (by assumption) (by omega)
    have hv_12 : (0 : Int) = 0 := by
      first | rfl | exact all_le (by assumption) (by omega)
    exact W.vret hx hb hr (fun t9 ht hW => ⟨⟨(Mrow_5, 0), rfl, ⟨hR_6, hv_10, hv_11, hv_12⟩, by subst hAe; exact z_end hK hw ht hW⟩, by subst hAe; exact hw.2.2.F ht⟩) (by subst hAe; exact hw.2.2.2.2) dX8_becomes_33
  · skip
    refine lv_aload_n hx hb dX8_becomes_10 rfl (lv_at hl 0 rfl) ?_
    refine va_get (D := D) (ci := 8) (v := .ref (oM 2)) (C := RX8) (T := TX8) (N := 36) hx hb hts hinX8 hown hK hw.1 0 rfl rfl 3 (by decide) (hts (.fieldLink RX8 13 "CarnivalRoadModel" "row" "[I") (by decide +kernel)) (fun _ h9 => h9) rfl dX8_becomes_11 ?_
    refine lv_iload_n hx hb dX8_becomes_14 rfl (lv_at hl 1 rfl) ?_
    refine lv_aload_n hx hb dX8_becomes_15 rfl (lv_at hl 0 rfl) ?_
    refine va_get (D := D) (ci := 8) (v := .ref (oM 6)) (C := RX8) (T := TX8) (N := 36) hx hb hts hinX8 hown hK hw.1 0 rfl rfl 18 (by decide) (hts (.fieldLink RX8 29 "CarnivalRoadModel" "order" "[I") (by decide +kernel)) (fun _ h9 => h9) rfl dX8_becomes_16 ?_
    refine lv_iload_n hx hb dX8_becomes_19 rfl (lv_at hl 1 rfl) ?_
    have hi_13 : (0 : Int) ≤ i_4 ∧ i_4 < ((8 : Nat) : Int) := by
      first | assumption | omega | grind
    refine z_iald (n := 8) (f := Morder) hx hb hK hw 6 rfl (by decide) hi_13 dX8_becomes_20 ?_
    have hq_14 : 0 ≤ Morder i_4 ∧ Morder i_4 ≤ 7 := qMorder i_4
    have hi_15 : (0 : Int) ≤ i_4 ∧ i_4 < ((8 : Nat) : Int) := by
      first | assumption | omega | grind
    have hv_16 : (0 : Int) ≤ (Morder i_4) ∧ (Morder i_4) ≤ 7 := by
      first | assumption | omega | grind
    have hR_17 : RA (uZ Mrow_5 i_4 (Morder i_4)) (0) 7 := RA_up hR_6 hv_16
    refine z_iast (n := 8) (f := Mrow_5) (ws2 := kM cI cB cZ oM Mthrown Mmany Mguest (uZ Mrow_5 i_4 (Morder i_4)) Mbars Mbar Mfresh Mtape Mtaped Mpos Mtoken MtokenAt Mvalue Mwrong MwrongAt MfaultKind MfaultPlace Mthing Morder Mone Mtwo Mbest Mcells Mgap Mwire Mstand Mruns Mminute Mhead Mplays Mrests Mwent Mout Mcame Mgone MlastOut) hx hb hK hw 2 rfl (by decide) hi_15 dX8_becomes_21 rfl (fun H locs hw => ?_)
    refine z_iinc (k := 1) (lv' := [(1, .int (zI (i_4 + 1))), (0, .ref (oM 0))]) hx hb dX8_becomes_22 hl rfl (by decide) rfl (fun ls hl => ?_)
    refine lv_goto (tgt := 2) hx hb dX8_becomes_25 (by decide) ?_
    have hv_18 : 0 ≤ (i_4 + 1) ∧ (i_4 + 1) ≤ Mmany := by
      first | assumption | omega | grind
    have hv_19 : ∀ k, 0 ≤ k → k < (i_4 + 1) → (uZ Mrow_5 i_4 (Morder i_4)) k = Morder k := by
      refine all_s (fun k k0 k1 => ?_) uZ_s
      rw [uZ_n (by omega)]
      revert k1
      revert k0
      revert k
      assumption
    have hm_20 : (9 - (i_4 + 1)).toNat < (9 - i_4).toNat := by
      first | assumption | omega | grind
    exact ih_3 ((i_4 + 1), (uZ Mrow_5 i_4 (Morder i_4))) _ _ _ ⟨hR_17, hv_18, hv_19, hw, lv_sub hl [1, 0] rfl⟩ hm_20
set_option maxRecDepth 100000 in
set_option maxHeartbeats 4000000 in
theorem c_X8_firstOrder (l : Launch) (D : va_G) (cI cB cZ : ClassId) (oM : Nat → Nat) (sz : Nat) (Mthrown : Int) (Mmany : Int) (Mguest : Int → Int) (Mrow : Int → Int) (Mbars : Int) (Mbar : Int → Int) (Mfresh : Int → Int) (Mtape : Int → Int) (Mtaped : Int) (Mpos : Int) (Mtoken : Int) (MtokenAt : Int) (Mvalue : Int) (Mwrong : Int) (MwrongAt : Int) (MfaultKind : Int) (MfaultPlace : Int) (Mthing : Int) (Morder : Int → Int) (Mone : Int) (Mtwo : Int) (Mbest : Int → Int) (Mcells : Int) (Mgap : Int) (Mwire : Int → Int) (Mstand : Int → Int) (Mruns : Int) (Mminute : Int) (Mhead : Int → Int) (Mplays : Int → Int) (Mrests : Int → Int) (Mwent : Int → Int) (Mout : Int → Int) (Mcame : Int → Int) (Mgone : Int → Int) (MlastOut : Int) (qMthrown : 0 ≤ Mthrown ∧ Mthrown ≤ 2) (qMmany : 0 ≤ Mmany ∧ Mmany ≤ 8) (qMguest : RA Mguest (0) 9) (qMrow : RA Mrow (0) 7) (qMbars : 0 ≤ Mbars ∧ Mbars ≤ 10) (qMbar : RA Mbar (0) 104) (qMfresh : RA Mfresh (0) 104) (qMtape : RA Mtape (0) 255) (qMtaped : 0 ≤ Mtaped ∧ Mtaped ≤ 400) (qMpos : 0 ≤ Mpos ∧ Mpos ≤ 400) (qMtoken : 0 ≤ Mtoken ∧ Mtoken ≤ 15) (qMtokenAt : 0 ≤ MtokenAt ∧ MtokenAt ≤ 400) (qMvalue : 0 ≤ Mvalue ∧ Mvalue ≤ 99) (qMwrong : 0 ≤ Mwrong ∧ Mwrong ≤ 3) (qMwrongAt : 0 ≤ MwrongAt ∧ MwrongAt ≤ 400) (qMfaultKind : 0 ≤ MfaultKind ∧ MfaultKind ≤ 3) (qMfaultPlace : -1 ≤ MfaultPlace ∧ MfaultPlace ≤ 400) (qMthing : 0 ≤ Mthing ∧ Mthing ≤ 104) (qMorder : RA Morder (0) 7) (qMone : 0 ≤ Mone ∧ Mone ≤ 8) (qMtwo : 0 ≤ Mtwo ∧ Mtwo ≤ 8) (qMbest : RA Mbest (0) 7) (qMcells : 1 ≤ Mcells ∧ Mcells ≤ 50) (qMgap : 0 ≤ Mgap ∧ Mgap ≤ 3) (qMwire : RA Mwire (0) 9) (qMstand : RA Mstand (0) 9) (qMruns : 0 ≤ Mruns ∧ Mruns ≤ 1) (qMminute : 0 ≤ Mminute ∧ Mminute ≤ 1000000) (qMhead : RA Mhead (-1) 60) (qMplays : RA Mplays (0) 18) (qMrests : RA Mrests (0) 3) (qMwent : RA Mwent (0) 61) (qMout : RA Mout (0) 1) (qMcame : RA Mcame (-1) 1000000) (qMgone : RA Mgone (-1) 1000000) (qMlastOut : 0 ≤ MlastOut ∧ MlastOut ≤ 1000000) : Met l yX8_firstOrder wsX8_firstOrder ({ frames := 0, cells := 0, slots := 0, locals := 0 }) (va_Pc [.ref (oM 0)] (zPre D cI cB cZ sz (kM cI cB cZ oM Mthrown Mmany Mguest Mrow Mbars Mbar Mfresh Mtape Mtaped Mpos Mtoken MtokenAt Mvalue Mwrong MwrongAt MfaultKind MfaultPlace Mthing Morder Mone Mtwo Mbest Mcells Mgap Mwire Mstand Mruns Mminute Mhead Mplays Mrests Mwent Mout Mcame Mgone MlastOut))) (va_Qv (fun (u9 : (Int → Int)) => (RA u9 (0) 7) ∧ (∀ k, 0 ≤ k → k < Mmany → u9 k = k)) (fun u9 t9 => zAt D cI cB cZ (va_A (kM cI cB cZ oM Mthrown Mmany Mguest Mrow Mbars Mbar Mfresh Mtape Mtaped Mpos Mtoken MtokenAt Mvalue Mwrong MwrongAt MfaultKind MfaultPlace Mthing Morder Mone Mtwo Mbest Mcells Mgap Mwire Mstand Mruns Mminute Mhead Mplays Mrests Mwent Mout Mcame Mgone MlastOut) sz) (kM cI cB cZ oM Mthrown Mmany Mguest Mrow Mbars Mbar Mfresh Mtape Mtaped Mpos Mtoken MtokenAt Mvalue Mwrong MwrongAt MfaultKind MfaultPlace Mthing u9 Mone Mtwo Mbest Mcells Mgap Mwire Mstand Mruns Mminute Mhead Mplays Mrests Mwent Mout Mcame Mgone MlastOut) t9) (va_A (kM cI cB cZ oM Mthrown Mmany Mguest Mrow Mbars Mbar Mfresh Mtape Mtaped Mpos Mtoken MtokenAt Mvalue Mwrong MwrongAt MfaultKind MfaultPlace Mthing Morder Mone Mtwo Mbest Mcells Mgap Mwire Mstand Mruns Mminute Mhead Mplays Mrests Mwent Mout Mcame Mgone MlastOut) sz)) 0 0 (va_A (kM cI cB cZ oM Mthrown Mmany Mguest Mrow Mbars Mbar Mfresh Mtape Mtaped Mpos Mtoken MtokenAt Mvalue Mwrong MwrongAt MfaultKind MfaultPlace Mthing Morder Mone Mtwo Mbest Mcells Mgap Mwire Mstand Mruns Mminute Mhead Mplays Mrests Mwent Mout Mcame Mgone MlastOut) sz) := by
  refine Met.ofW (cc := cX8_firstOrder) (maxL := 2) (ret := none) (by decide) rfl ?_
  intro pp ee s mm aa bw mt cd s₁ BL hml hv
  obtain ⟨rfl, hsz, hP, hK, hD0⟩ := hv
  have hx := BL.exec
  have hb := BL.bytes
  have hr := BL.returns
  have hts := atoms_spec (ws := wsX8_firstOrder) BL.pre
  have hown : s.vm.findClass RX8 = some mm.cls := findClass_of_methodNamed BL.named
  have hlocks := BL.notSynchronized
  subst hsz
  generalize hAe : va_A (kM cI cB cZ oM Mthrown Mmany Mguest Mrow Mbars Mbar Mfresh Mtape Mtaped Mpos Mtoken MtokenAt Mvalue Mwrong MwrongAt MfaultKind MfaultPlace Mthing Morder Mone Mtwo Mbest Mcells Mgap Mwire Mstand Mruns Mminute Mhead Mplays Mrests Mwent Mout Mcame Mgone MlastOut) s.heap.size = A
  have hA : ∀ q : Nat, s.heap.size ≤ q → A q := fun q h => by rw [← hAe]; exact Or.inr h
  have hw : HW D A s.heap (kM cI cB cZ oM Mthrown Mmany Mguest Mrow Mbars Mbar Mfresh Mtape Mtaped Mpos Mtoken MtokenAt Mvalue Mwrong MwrongAt MfaultKind MfaultPlace Mthing Morder Mone Mtwo Mbest Mcells Mgap Mwire Mstand Mruns Mminute Mhead Mplays Mrests Mwent Mout Mcame Mgone MlastOut) s.heap [] := z_start hAe hP hD0
  clear hP hD0
  have hl := lv_entry ([.ref (oM 0)]) (n := 2) (Nat.le_of_ble_eq_true rfl)
  rw [lg_entry_eq]
  generalize (lg_sl ([.ref (oM 0)]) ++ List.replicate (2 - (lg_sl ([.ref (oM 0)])).length) Slot.unset).toArray = ls at hl ⊢
  have hl : lv_has ls 2 [(0, .ref (oM 0))] := hl
  have hinX8 : ∀ w ∈ wsX80, w ∈ wsX8_firstOrder := by decide +kernel
  refine z_iconst hx hb dX8_firstOrder_0 ?_
  refine lv_istore_n (lv' := [(1, .int (zI 0)), (0, .ref (oM 0))]) hx hb dX8_firstOrder_1 rfl hl (by decide) rfl (fun ls hl => ?_)
  have hv_1 : 0 ≤ (0 : Int) ∧ (0 : Int) ≤ Mmany := by
    first | assumption | omega | grind
  have hv_2 : ∀ k, 0 ≤ k → k < (0 : Int) → Morder k = k := by
    exact all_0
  refine z_loop (σ := Int × (Int → Int)) (μ := fun x9 => (9 - (x9.1)).toNat) (I := fun x9 H locs ls => (RA (x9.2) (0) 7) ∧ (0 ≤ (x9.1) ∧ (x9.1) ≤ Mmany) ∧ (∀ k, 0 ≤ k → k < (x9.1) → (x9.2) k = k) ∧ HW D A s.heap (kM cI cB cZ oM Mthrown Mmany Mguest Mrow Mbars Mbar Mfresh Mtape Mtaped Mpos Mtoken MtokenAt Mvalue Mwrong MwrongAt MfaultKind MfaultPlace Mthing (x9.2) Mone Mtwo Mbest Mcells Mgap Mwire Mstand Mruns Mminute Mhead Mplays Mrests Mwent Mout Mcame Mgone MlastOut) H locs ∧ lv_has ls 2 [(0, .ref (oM 0)), (1, .int (zI (x9.1)))]) (0, Morder) ⟨qMorder, hv_1, hv_2, hw, lv_sub hl [1, 0] rfl⟩ ?_
  clear hw hl
  intro x9 H locs ls hI ih_3
  obtain ⟨i_4, Morder_5⟩ := x9
  try dsimp only at hI
  obtain ⟨hR_6, hI_7, hI_8, hw, hl⟩ := hI
  refine lv_iload_n hx hb dX8_firstOrder_2 rfl (lv_at hl 1 rfl) ?_
  refine lv_aload_n hx hb dX8_firstOrder_3 rfl (lv_at hl 0 rfl) ?_
  refine va_get (D := D) (ci := 8) (v := .int (zI Mmany)) (C := RX8) (T := TX8) (N := 36) hx hb hts hinX8 hown hK hw.1 0 rfl rfl 1 (by decide) (hts (.fieldLink RX8 72 "CarnivalRoadModel" "many" "I") (by decide +kernel)) (fun _ h9 => h9) rfl dX8_firstOrder_4 ?_
  refine z_icmp_ge (tgt := 23) hx hb dX8_firstOrder_7 (by decide) (by omega) (fun hc_9 => ?_) (fun hc_9 => ?_)
  · skip
    have hv_10 : ∀ k, 0 ≤ k → k < Mmany → Morder_5 k = k := by
      exact all_le (by assumption) (by omega)
    exact W.vret hx hb hr (fun t9 ht hW => ⟨⟨Morder_5, rfl, ⟨hR_6, hv_10⟩, by subst hAe; exact z_end hK hw ht hW⟩, by subst hAe; exact hw.2.2.F ht⟩) (by subst hAe; exact hw.2.2.2.2) dX8_firstOrder_23
  · skip
    refine lv_aload_n hx hb dX8_firstOrder_10 rfl (lv_at hl 0 rfl) ?_
    refine va_get (D := D) (ci := 8) (v := .ref (oM 6)) (C := RX8) (T := TX8) (N := 36) hx hb hts hinX8 hown hK hw.1 0 rfl rfl 18 (by decide) (hts (.fieldLink RX8 29 "CarnivalRoadModel" "order" "[I") (by decide +kernel)) (fun _ h9 => h9) rfl dX8_firstOrder_11 ?_
    refine lv_iload_n hx hb dX8_firstOrder_14 rfl (lv_at hl 1 rfl) ?_
    refine lv_iload_n hx hb dX8_firstOrder_15 rfl (lv_at hl 1 rfl) ?_
    have hi_11 : (0 : Int) ≤ i_4 ∧ i_4 < ((8 : Nat) : Int) := by
      first | assumption | omega | grind
    have hv_12 : (0 : Int) ≤ i_4 ∧ i_4 ≤ 7 := by
      first | assumption | omega | grind
    have hR_13 : RA (uZ Morder_5 i_4 i_4) (0) 7 := RA_up hR_6 hv_12
    refine z_iast (n := 8) (f := Morder_5) (ws2 := kM cI cB cZ oM Mthrown Mmany Mguest Mrow Mbars Mbar Mfresh Mtape Mtaped Mpos Mtoken MtokenAt Mvalue Mwrong MwrongAt MfaultKind MfaultPlace Mthing (uZ Morder_5 i_4 i_4) Mone Mtwo Mbest Mcells Mgap Mwire Mstand Mruns Mminute Mhead Mplays Mrests Mwent Mout Mcame Mgone MlastOut) hx hb hK hw 6 rfl (by decide) hi_11 dX8_firstOrder_16 rfl (fun H locs hw => ?_)
    refine z_iinc (k := 1) (lv' := [(1, .int (zI (i_4 + 1))), (0, .ref (oM 0))]) hx hb dX8_firstOrder_17 hl rfl (by decide) rfl (fun ls hl => ?_)
    refine lv_goto (tgt := 2) hx hb dX8_firstOrder_20 (by decide) ?_
    have hv_14 : 0 ≤ (i_4 + 1) ∧ (i_4 + 1) ≤ Mmany := by
      first | assumption | omega | grind
    have hv_15 : ∀ k, 0 ≤ k → k < (i_4 + 1) → (uZ Morder_5 i_4 i_4) k = k := by
      refine all_s (fun k k0 k1 => ?_) uZ_s
      rw [uZ_n (by omega)]
      revert k1
      revert k0
      revert k
      assumption
    have hm_16 : (9 - (i_4 + 1)).toNat < (9 - i_4).toNat := by
      first | assumption | omega | grind
    exact ih_3 ((i_4 + 1), (uZ Morder_5 i_4 i_4)) _ _ _ ⟨hR_13, hv_14, hv_15, hw, lv_sub hl [1, 0] rfl⟩ hm_16
set_option maxRecDepth 100000 in
set_option maxHeartbeats 4000000 in
theorem c_X8_noiseOf (l : Launch) (D : va_G) (cI cB cZ : ClassId) (oM : Nat → Nat) (sz : Nat) (Mthrown : Int) (Mmany : Int) (Mguest : Int → Int) (Mrow : Int → Int) (Mbars : Int) (Mbar : Int → Int) (Mfresh : Int → Int) (Mtape : Int → Int) (Mtaped : Int) (Mpos : Int) (Mtoken : Int) (MtokenAt : Int) (Mvalue : Int) (Mwrong : Int) (MwrongAt : Int) (MfaultKind : Int) (MfaultPlace : Int) (Mthing : Int) (Morder : Int → Int) (Mone : Int) (Mtwo : Int) (Mbest : Int → Int) (Mcells : Int) (Mgap : Int) (Mwire : Int → Int) (Mstand : Int → Int) (Mruns : Int) (Mminute : Int) (Mhead : Int → Int) (Mplays : Int → Int) (Mrests : Int → Int) (Mwent : Int → Int) (Mout : Int → Int) (Mcame : Int → Int) (Mgone : Int → Int) (MlastOut : Int) (lo : Int → Int) (qMthrown : 0 ≤ Mthrown ∧ Mthrown ≤ 2) (qMmany : 0 ≤ Mmany ∧ Mmany ≤ 8) (qMguest : RA Mguest (0) 9) (qMrow : RA Mrow (0) 7) (qMbars : 0 ≤ Mbars ∧ Mbars ≤ 10) (qMbar : RA Mbar (0) 104) (qMfresh : RA Mfresh (0) 104) (qMtape : RA Mtape (0) 255) (qMtaped : 0 ≤ Mtaped ∧ Mtaped ≤ 400) (qMpos : 0 ≤ Mpos ∧ Mpos ≤ 400) (qMtoken : 0 ≤ Mtoken ∧ Mtoken ≤ 15) (qMtokenAt : 0 ≤ MtokenAt ∧ MtokenAt ≤ 400) (qMvalue : 0 ≤ Mvalue ∧ Mvalue ≤ 99) (qMwrong : 0 ≤ Mwrong ∧ Mwrong ≤ 3) (qMwrongAt : 0 ≤ MwrongAt ∧ MwrongAt ≤ 400) (qMfaultKind : 0 ≤ MfaultKind ∧ MfaultKind ≤ 3) (qMfaultPlace : -1 ≤ MfaultPlace ∧ MfaultPlace ≤ 400) (qMthing : 0 ≤ Mthing ∧ Mthing ≤ 104) (qMorder : RA Morder (0) 7) (qMone : 0 ≤ Mone ∧ Mone ≤ 8) (qMtwo : 0 ≤ Mtwo ∧ Mtwo ≤ 8) (qMbest : RA Mbest (0) 7) (qMcells : 1 ≤ Mcells ∧ Mcells ≤ 50) (qMgap : 0 ≤ Mgap ∧ Mgap ≤ 3) (qMwire : RA Mwire (0) 9) (qMstand : RA Mstand (0) 9) (qMruns : 0 ≤ Mruns ∧ Mruns ≤ 1) (qMminute : 0 ≤ Mminute ∧ Mminute ≤ 1000000) (qMhead : RA Mhead (-1) 60) (qMplays : RA Mplays (0) 18) (qMrests : RA Mrests (0) 3) (qMwent : RA Mwent (0) 61) (qMout : RA Mout (0) 1) (qMcame : RA Mcame (-1) 1000000) (qMgone : RA Mgone (-1) 1000000) (qMlastOut : 0 ≤ MlastOut ∧ MlastOut ≤ 1000000) (hp0 : ∀ g, 0 ≤ g → g < Mmany → Mguest (5 * g + 2) = lo g) (hp1 : ∀ i, 0 ≤ i → i < Mmany → 0 ≤ Morder i ∧ Morder i < Mmany) (hp2 : RA lo 0 9) : Met l yX8_noiseOf wsX8_noiseOf ({ frames := 1, cells := 0, slots := 0, locals := 22 }) (va_Pc [.ref (oM 0)] (zPre D cI cB cZ sz (kM cI cB cZ oM Mthrown Mmany Mguest Mrow Mbars Mbar Mfresh Mtape Mtaped Mpos Mtoken MtokenAt Mvalue Mwrong MwrongAt MfaultKind MfaultPlace Mthing Morder Mone Mtwo Mbest Mcells Mgap Mwire Mstand Mruns Mminute Mhead Mplays Mrests Mwent Mout Mcame Mgone MlastOut))) (va_Qi (fun (r9 : Int32) (u9 : Int) => r9 = zI u9 ∧ ((u9 = noiseS lo Morder (Mmany - 1).toNat) ∧ (0 ≤ u9 ∧ u9 ≤ 648))) (fun u9 t9 => zAt D cI cB cZ (va_A (kM cI cB cZ oM Mthrown Mmany Mguest Mrow Mbars Mbar Mfresh Mtape Mtaped Mpos Mtoken MtokenAt Mvalue Mwrong MwrongAt MfaultKind MfaultPlace Mthing Morder Mone Mtwo Mbest Mcells Mgap Mwire Mstand Mruns Mminute Mhead Mplays Mrests Mwent Mout Mcame Mgone MlastOut) sz) (kM cI cB cZ oM Mthrown Mmany Mguest Mrow Mbars Mbar Mfresh Mtape Mtaped Mpos Mtoken MtokenAt Mvalue Mwrong MwrongAt MfaultKind MfaultPlace Mthing Morder Mone Mtwo Mbest Mcells Mgap Mwire Mstand Mruns Mminute Mhead Mplays Mrests Mwent Mout Mcame Mgone MlastOut) t9) (va_A (kM cI cB cZ oM Mthrown Mmany Mguest Mrow Mbars Mbar Mfresh Mtape Mtaped Mpos Mtoken MtokenAt Mvalue Mwrong MwrongAt MfaultKind MfaultPlace Mthing Morder Mone Mtwo Mbest Mcells Mgap Mwire Mstand Mruns Mminute Mhead Mplays Mrests Mwent Mout Mcame Mgone MlastOut) sz)) 0 0 (va_A (kM cI cB cZ oM Mthrown Mmany Mguest Mrow Mbars Mbar Mfresh Mtape Mtaped Mpos Mtoken MtokenAt Mvalue Mwrong MwrongAt MfaultKind MfaultPlace Mthing Morder Mone Mtwo Mbest Mcells Mgap Mwire Mstand Mruns Mminute Mhead Mplays Mrests Mwent Mout Mcame Mgone MlastOut) sz) := by
  refine Met.ofW (cc := cX8_noiseOf) (maxL := 3) (ret := (some .int)) (by decide) rfl ?_
  intro pp ee s mm aa bw mt cd s₁ BL hml hv
  obtain ⟨rfl, hsz, hP, hK, hD0⟩ := hv
  have hx := BL.exec
  have hb := BL.bytes
  have hr := BL.returns
  have hts := atoms_spec (ws := wsX8_noiseOf) BL.pre
  have hown : s.vm.findClass RX8 = some mm.cls := findClass_of_methodNamed BL.named
  have hlocks := BL.notSynchronized
  subst hsz
  generalize hAe : va_A (kM cI cB cZ oM Mthrown Mmany Mguest Mrow Mbars Mbar Mfresh Mtape Mtaped Mpos Mtoken MtokenAt Mvalue Mwrong MwrongAt MfaultKind MfaultPlace Mthing Morder Mone Mtwo Mbest Mcells Mgap Mwire Mstand Mruns Mminute Mhead Mplays Mrests Mwent Mout Mcame Mgone MlastOut) s.heap.size = A
  have hA : ∀ q : Nat, s.heap.size ≤ q → A q := fun q h => by rw [← hAe]; exact Or.inr h
  have hw : HW D A s.heap (kM cI cB cZ oM Mthrown Mmany Mguest Mrow Mbars Mbar Mfresh Mtape Mtaped Mpos Mtoken MtokenAt Mvalue Mwrong MwrongAt MfaultKind MfaultPlace Mthing Morder Mone Mtwo Mbest Mcells Mgap Mwire Mstand Mruns Mminute Mhead Mplays Mrests Mwent Mout Mcame Mgone MlastOut) s.heap [] := z_start hAe hP hD0
  clear hP hD0
  have hl := lv_entry ([.ref (oM 0)]) (n := 3) (Nat.le_of_ble_eq_true rfl)
  rw [lg_entry_eq]
  generalize (lg_sl ([.ref (oM 0)]) ++ List.replicate (3 - (lg_sl ([.ref (oM 0)])).length) Slot.unset).toArray = ls at hl ⊢
  have hl : lv_has ls 3 [(0, .ref (oM 0))] := hl
  have hinX8 : ∀ w ∈ wsX80, w ∈ wsX8_noiseOf := by decide +kernel
  refine z_iconst hx hb dX8_noiseOf_0 ?_
  refine lv_istore_n (lv' := [(1, .int (zI 0)), (0, .ref (oM 0))]) hx hb dX8_noiseOf_1 rfl hl (by decide) rfl (fun ls hl => ?_)
  refine z_iconst hx hb dX8_noiseOf_2 ?_
  refine lv_istore_n (lv' := [(2, .int (zI 0)), (1, .int (zI 0)), (0, .ref (oM 0))]) hx hb dX8_noiseOf_3 rfl hl (by decide) rfl (fun ls hl => ?_)
  have hv_1 : 0 ≤ (0 : Int) ∧ ((0 : Int) + 1 ≤ Mmany ∨ (0 : Int) = 0) := by
    first | assumption | omega | grind
  have hv_2 : (0 : Int) = noiseS lo Morder (0 : Int).toNat := by
    rfl
  refine z_loop (σ := Int × Int) (μ := fun x9 => (9 - (x9.2)).toNat) (I := fun x9 H locs ls => (0 ≤ (x9.2) ∧ ((x9.2) + 1 ≤ Mmany ∨ (x9.2) = 0)) ∧ ((x9.1) = noiseS lo Morder (x9.2).toNat) ∧ HW D A s.heap (kM cI cB cZ oM Mthrown Mmany Mguest Mrow Mbars Mbar Mfresh Mtape Mtaped Mpos Mtoken MtokenAt Mvalue Mwrong MwrongAt MfaultKind MfaultPlace Mthing Morder Mone Mtwo Mbest Mcells Mgap Mwire Mstand Mruns Mminute Mhead Mplays Mrests Mwent Mout Mcame Mgone MlastOut) H locs ∧ lv_has ls 3 [(0, .ref (oM 0)), (1, .int (zI (x9.1))), (2, .int (zI (x9.2)))]) (0, 0) ⟨hv_1, hv_2, hw, lv_sub hl [2, 1, 0] rfl⟩ ?_
  clear hw hl
  intro x9 H locs ls hI ih_3
  obtain ⟨sum_4, i_5⟩ := x9
  try dsimp only at hI
  obtain ⟨hI_6, hI_7, hw, hl⟩ := hI
  refine lv_iload_n hx hb dX8_noiseOf_4 rfl (lv_at hl 2 rfl) ?_
  refine z_iconst hx hb dX8_noiseOf_5 ?_
  refine z_iadd hx hb dX8_noiseOf_6 ?_
  refine lv_aload_n hx hb dX8_noiseOf_7 rfl (lv_at hl 0 rfl) ?_
  refine va_get (D := D) (ci := 8) (v := .int (zI Mmany)) (C := RX8) (T := TX8) (N := 36) hx hb hts hinX8 hown hK hw.1 0 rfl rfl 1 (by decide) (hts (.fieldLink RX8 72 "CarnivalRoadModel" "many" "I") (by decide +kernel)) (fun _ h9 => h9) rfl dX8_noiseOf_8 ?_
  refine z_icmp_ge (tgt := 48) hx hb dX8_noiseOf_11 (by decide) (by omega) (fun hc_8 => ?_) (fun hc_8 => ?_)
  · skip
    refine lv_iload_n hx hb dX8_noiseOf_48 rfl (lv_at hl 1 rfl) ?_
    have hv_9 : sum_4 = noiseS lo Morder (Mmany - 1).toNat := by
      first | (rw [show (Mmany - 1).toNat = i_5.toNat by omega]; assumption) | (have q9 := noise_rng hp2 (f := Morder) i_5.toNat; rw [← (by assumption : sum_4 = noiseS lo Morder i_5.toNat)] at q9; omega)
    have hv_10 : 0 ≤ sum_4 ∧ sum_4 ≤ 648 := by
      first | (rw [show (Mmany - 1).toNat = i_5.toNat by omega]; assumption) | (have q9 := noise_rng hp2 (f := Morder) i_5.toNat; rw [← (by assumption : sum_4 = noiseS lo Morder i_5.toNat)] at q9; omega)
    exact W.iret (v := zI sum_4) hx hb hr (fun t9 ht hW => ⟨⟨zI sum_4, sum_4, rfl, ⟨rfl, ⟨hv_9, hv_10⟩⟩, by subst hAe; exact z_end hK hw ht hW⟩, by subst hAe; exact hw.2.2.F ht⟩) (by subst hAe; exact hw.2.2.2.2) dX8_noiseOf_49
  · skip
    refine lv_iload_n hx hb dX8_noiseOf_14 rfl (lv_at hl 1 rfl) ?_
    refine lv_aload_n hx hb dX8_noiseOf_15 rfl (lv_at hl 0 rfl) ?_
    refine lv_aload_n hx hb dX8_noiseOf_16 rfl (lv_at hl 0 rfl) ?_
    refine va_get (D := D) (ci := 8) (v := .ref (oM 6)) (C := RX8) (T := TX8) (N := 36) hx hb hts hinX8 hown hK hw.1 0 rfl rfl 18 (by decide) (hts (.fieldLink RX8 29 "CarnivalRoadModel" "order" "[I") (by decide +kernel)) (fun _ h9 => h9) rfl dX8_noiseOf_17 ?_
    refine lv_iload_n hx hb dX8_noiseOf_20 rfl (lv_at hl 2 rfl) ?_
    have hi_11 : (0 : Int) ≤ i_5 ∧ i_5 < ((8 : Nat) : Int) := by
      first | assumption | omega | grind
    refine z_iald (n := 8) (f := Morder) hx hb hK hw 6 rfl (by decide) hi_11 dX8_noiseOf_21 ?_
    have hq_12 : 0 ≤ Morder i_5 ∧ Morder i_5 ≤ 7 := qMorder i_5
    refine z_iconst hx hb dX8_noiseOf_22 ?_
    have hF9 := z_free (wc := kM cI cB cZ oM Mthrown Mmany Mguest Mrow Mbars Mbar Mfresh Mtape Mtaped Mpos Mtoken MtokenAt Mvalue Mwrong MwrongAt MfaultKind MfaultPlace Mthing Morder Mone Mtwo Mbest Mcells Mgap Mwire Mstand Mruns Mminute Mhead Mplays Mrests Mwent Mout Mcame Mgone MlastOut) hw hA [0, 1, 2, 3, 4, 5, 6, 7, 8, 9, 10, 11, 12, 13, 14, 15, 16] rfl
    refine va_calli (va_runV (As := [.int (zI (Morder i_5)), .int (zI 2)]) (rest := [.int (zI sum_4)]) ⟨hx, hb, hml, hown, hts⟩ (c_X8_get l D cI cB cZ oM H.size Mthrown Mmany Mguest Mrow Mbars Mbar Mfresh Mtape Mtaped Mpos Mtoken MtokenAt Mvalue Mwrong MwrongAt MfaultKind MfaultPlace Mthing Morder Mone Mtwo Mbest Mcells Mgap Mwire Mstand Mruns Mminute Mhead Mplays Mrests Mwent Mout Mcame Mgone MlastOut (Morder i_5) 2 (by omega) (by omega) qMguest qMrow (by omega) qMbar qMfresh qMtape (by omega) (by omega) (by omega) (by omega) (by omega) (by omega) (by omega) (by omega) (by omega) (by omega) qMorder (by omega) (by omega) qMbest (by omega) (by omega) qMwire qMstand (by omega) (by omega) qMhead qMplays qMrests qMwent qMout qMcame qMgone (by omega) (by omega) (by omega)) (cwV 2 hts gX8_noiseOf_X8_get rfl rfl rfl (by decide +kernel) ⟨Nat.le_of_ble_eq_true rfl, Nat.le_of_ble_eq_true rfl⟩) ⟨zPre_blind, va_recv hK hw.1 (ci := 8) (q0 := 0) rfl rfl, z_pre hK hw [0, 1, 2, 3, 4, 5, 6, 7, 8, 9, 10, 11, 12, 13, 14, 15, 16] (by decide) rfl⟩ rfl rfl hl.1 rfl (lv_room (Nat.le_of_ble_eq_true rfl)) dX8_noiseOf_23 ⟨Nat.zero_le _, Nat.zero_le _⟩) hw.2.2 (fun q _ h => hF9 q h) hF9 (fun r9 u9 t9 H_13 locs9 ht9 hvm9 hq9 hB9 hz9 hk9 hS9 => ?_)
    obtain ⟨r_14, rfl⟩ : ∃ z, z = u9 := ⟨_, rfl⟩
    try dsimp only at hq9 hB9
    obtain ⟨rfl, hq9⟩ := hq9
    obtain ⟨hq_15, hq_16⟩ := hq9
    have hw : HW D A s.heap (kM cI cB cZ oM Mthrown Mmany Mguest Mrow Mbars Mbar Mfresh Mtape Mtaped Mpos Mtoken MtokenAt Mvalue Mwrong MwrongAt MfaultKind MfaultPlace Mthing Morder Mone Mtwo Mbest Mcells Mgap Mwire Mstand Mruns Mminute Mhead Mplays Mrests Mwent Mout Mcame Mgone MlastOut) H_13 locs9 := z_after (wc := kM cI cB cZ oM Mthrown Mmany Mguest Mrow Mbars Mbar Mfresh Mtape Mtaped Mpos Mtoken MtokenAt Mvalue Mwrong MwrongAt MfaultKind MfaultPlace Mthing Morder Mone Mtwo Mbest Mcells Mgap Mwire Mstand Mruns Mminute Mhead Mplays Mrests Mwent Mout Mcame Mgone MlastOut) hw [0, 1, 2, 3, 4, 5, 6, 7, 8, 9, 10, 11, 12, 13, 14, 15, 16] [] rfl rfl (by decide) (by decide) hF9 hk9 ht9 hB9 hS9 [0, 1, 2, 3, 4, 5, 6, 7, 8, 9, 10, 11, 12, 13, 14, 15, 16] (by decide) rfl
    clear hF9 ht9 hvm9 hB9 hz9 hk9 hS9
    refine lv_aload_n hx hb dX8_noiseOf_26 rfl (lv_at hl 0 rfl) ?_
    refine lv_aload_n hx hb dX8_noiseOf_27 rfl (lv_at hl 0 rfl) ?_
    refine va_get (D := D) (ci := 8) (v := .ref (oM 6)) (C := RX8) (T := TX8) (N := 36) hx hb hts hinX8 hown hK hw.1 0 rfl rfl 18 (by decide) (hts (.fieldLink RX8 29 "CarnivalRoadModel" "order" "[I") (by decide +kernel)) (fun _ h9 => h9) rfl dX8_noiseOf_28 ?_
    refine lv_iload_n hx hb dX8_noiseOf_31 rfl (lv_at hl 2 rfl) ?_
    refine z_iconst hx hb dX8_noiseOf_32 ?_
    refine z_iadd hx hb dX8_noiseOf_33 ?_
    have hi_17 : (0 : Int) ≤ (i_5 + 1) ∧ (i_5 + 1) < ((8 : Nat) : Int) := by
      first | assumption | omega | grind
    refine z_iald (n := 8) (f := Morder) hx hb hK hw 6 rfl (by decide) hi_17 dX8_noiseOf_34 ?_
    have hq_18 : 0 ≤ Morder (i_5 + 1) ∧ Morder (i_5 + 1) ≤ 7 := qMorder (i_5 + 1)
    refine z_iconst hx hb dX8_noiseOf_35 ?_
    have hF9 := z_free (wc := kM cI cB cZ oM Mthrown Mmany Mguest Mrow Mbars Mbar Mfresh Mtape Mtaped Mpos Mtoken MtokenAt Mvalue Mwrong MwrongAt MfaultKind MfaultPlace Mthing Morder Mone Mtwo Mbest Mcells Mgap Mwire Mstand Mruns Mminute Mhead Mplays Mrests Mwent Mout Mcame Mgone MlastOut) hw hA [0, 1, 2, 3, 4, 5, 6, 7, 8, 9, 10, 11, 12, 13, 14, 15, 16] rfl
    refine va_calli (va_runV (As := [.int (zI (Morder (i_5 + 1))), .int (zI 2)]) (rest := [.int (zI r_14), .int (zI sum_4)]) ⟨hx, hb, hml, hown, hts⟩ (c_X8_get l D cI cB cZ oM H_13.size Mthrown Mmany Mguest Mrow Mbars Mbar Mfresh Mtape Mtaped Mpos Mtoken MtokenAt Mvalue Mwrong MwrongAt MfaultKind MfaultPlace Mthing Morder Mone Mtwo Mbest Mcells Mgap Mwire Mstand Mruns Mminute Mhead Mplays Mrests Mwent Mout Mcame Mgone MlastOut (Morder (i_5 + 1)) 2 (by omega) (by omega) qMguest qMrow (by omega) qMbar qMfresh qMtape (by omega) (by omega) (by omega) (by omega) (by omega) (by omega) (by omega) (by omega) (by omega) (by omega) qMorder (by omega) (by omega) qMbest (by omega) (by omega) qMwire qMstand (by omega) (by omega) qMhead qMplays qMrests qMwent qMout qMcame qMgone (by omega) (by omega) (by omega)) (cwV 2 hts gX8_noiseOf_X8_get rfl rfl rfl (by decide +kernel) ⟨Nat.le_of_ble_eq_true rfl, Nat.le_of_ble_eq_true rfl⟩) ⟨zPre_blind, va_recv hK hw.1 (ci := 8) (q0 := 0) rfl rfl, z_pre hK hw [0, 1, 2, 3, 4, 5, 6, 7, 8, 9, 10, 11, 12, 13, 14, 15, 16] (by decide) rfl⟩ rfl rfl hl.1 rfl (lv_room (Nat.le_of_ble_eq_true rfl)) dX8_noiseOf_36 ⟨Nat.zero_le _, Nat.zero_le _⟩) hw.2.2 (fun q _ h => hF9 q h) hF9 (fun r9 u9 t9 H_19 locs9 ht9 hvm9 hq9 hB9 hz9 hk9 hS9 => ?_)
    obtain ⟨r_20, rfl⟩ : ∃ z, z = u9 := ⟨_, rfl⟩
    try dsimp only at hq9 hB9
    obtain ⟨rfl, hq9⟩ := hq9
    obtain ⟨hq_21, hq_22⟩ := hq9
    have hw : HW D A s.heap (kM cI cB cZ oM Mthrown Mmany Mguest Mrow Mbars Mbar Mfresh Mtape Mtaped Mpos Mtoken MtokenAt Mvalue Mwrong MwrongAt MfaultKind MfaultPlace Mthing Morder Mone Mtwo Mbest Mcells Mgap Mwire Mstand Mruns Mminute Mhead Mplays Mrests Mwent Mout Mcame Mgone MlastOut) H_19 locs9 := z_after (wc := kM cI cB cZ oM Mthrown Mmany Mguest Mrow Mbars Mbar Mfresh Mtape Mtaped Mpos Mtoken MtokenAt Mvalue Mwrong MwrongAt MfaultKind MfaultPlace Mthing Morder Mone Mtwo Mbest Mcells Mgap Mwire Mstand Mruns Mminute Mhead Mplays Mrests Mwent Mout Mcame Mgone MlastOut) hw [0, 1, 2, 3, 4, 5, 6, 7, 8, 9, 10, 11, 12, 13, 14, 15, 16] [] rfl rfl (by decide) (by decide) hF9 hk9 ht9 hB9 hS9 [0, 1, 2, 3, 4, 5, 6, 7, 8, 9, 10, 11, 12, 13, 14, 15, 16] (by decide) rfl
    clear hF9 ht9 hvm9 hB9 hz9 hk9 hS9
    refine z_imul hx hb dX8_noiseOf_39 ?_
    refine z_iadd hx hb dX8_noiseOf_40 ?_
    refine lv_istore_n (lv' := [(1, .int (zI (sum_4 + (r_14 * r_20)))), (0, .ref (oM 0)), (2, .int (zI i_5))]) hx hb dX8_noiseOf_41 rfl hl (by decide) rfl (fun ls hl => ?_)
    refine z_iinc (k := 2) (lv' := [(2, .int (zI (i_5 + 1))), (1, .int (zI (sum_4 + (r_14 * r_20)))), (0, .ref (oM 0))]) hx hb dX8_noiseOf_42 hl rfl (by decide) rfl (fun ls hl => ?_)
    refine lv_goto (tgt := 4) hx hb dX8_noiseOf_45 (by decide) ?_
    have hv_23 : 0 ≤ (i_5 + 1) ∧ ((i_5 + 1) + 1 ≤ Mmany ∨ (i_5 + 1) = 0) := by
      first | assumption | omega | grind
    have hv_24 : (sum_4 + (r_14 * r_20)) = noiseS lo Morder (i_5 + 1).toNat := by
      rw [noise_step0 (by omega), ← hp0 (Morder i_5) (hp1 i_5 (by omega) (by omega)).1 (hp1 i_5 (by omega) (by omega)).2, ← hp0 (Morder (i_5 + 1)) (hp1 (i_5 + 1) (by omega) (by omega)).1 (hp1 (i_5 + 1) (by omega) (by omega)).2]
      subst_vars
      omega
    have hm_25 : (9 - (i_5 + 1)).toNat < (9 - i_5).toNat := by
      first | assumption | omega | grind
    exact ih_3 ((sum_4 + (r_14 * r_20)), (i_5 + 1)) _ _ _ ⟨hv_23, hv_24, hw, lv_sub hl [2, 1, 0] rfl⟩ hm_25
set_option maxRecDepth 100000 in
set_option maxHeartbeats 4000000 in
theorem c_X8_isRow (l : Launch) (D : va_G) (cI cB cZ : ClassId) (oM : Nat → Nat) (sz : Nat) (Mthrown : Int) (Mmany : Int) (Mguest : Int → Int) (Mrow : Int → Int) (Mbars : Int) (Mbar : Int → Int) (Mfresh : Int → Int) (Mtape : Int → Int) (Mtaped : Int) (Mpos : Int) (Mtoken : Int) (MtokenAt : Int) (Mvalue : Int) (Mwrong : Int) (MwrongAt : Int) (MfaultKind : Int) (MfaultPlace : Int) (Mthing : Int) (Morder : Int → Int) (Mone : Int) (Mtwo : Int) (Mbest : Int → Int) (Mcells : Int) (Mgap : Int) (Mwire : Int → Int) (Mstand : Int → Int) (Mruns : Int) (Mminute : Int) (Mhead : Int → Int) (Mplays : Int → Int) (Mrests : Int → Int) (Mwent : Int → Int) (Mout : Int → Int) (Mcame : Int → Int) (Mgone : Int → Int) (MlastOut : Int) (qMthrown : 0 ≤ Mthrown ∧ Mthrown ≤ 2) (qMmany : 0 ≤ Mmany ∧ Mmany ≤ 8) (qMguest : RA Mguest (0) 9) (qMrow : RA Mrow (0) 7) (qMbars : 0 ≤ Mbars ∧ Mbars ≤ 10) (qMbar : RA Mbar (0) 104) (qMfresh : RA Mfresh (0) 104) (qMtape : RA Mtape (0) 255) (qMtaped : 0 ≤ Mtaped ∧ Mtaped ≤ 400) (qMpos : 0 ≤ Mpos ∧ Mpos ≤ 400) (qMtoken : 0 ≤ Mtoken ∧ Mtoken ≤ 15) (qMtokenAt : 0 ≤ MtokenAt ∧ MtokenAt ≤ 400) (qMvalue : 0 ≤ Mvalue ∧ Mvalue ≤ 99) (qMwrong : 0 ≤ Mwrong ∧ Mwrong ≤ 3) (qMwrongAt : 0 ≤ MwrongAt ∧ MwrongAt ≤ 400) (qMfaultKind : 0 ≤ MfaultKind ∧ MfaultKind ≤ 3) (qMfaultPlace : -1 ≤ MfaultPlace ∧ MfaultPlace ≤ 400) (qMthing : 0 ≤ Mthing ∧ Mthing ≤ 104) (qMorder : RA Morder (0) 7) (qMone : 0 ≤ Mone ∧ Mone ≤ 8) (qMtwo : 0 ≤ Mtwo ∧ Mtwo ≤ 8) (qMbest : RA Mbest (0) 7) (qMcells : 1 ≤ Mcells ∧ Mcells ≤ 50) (qMgap : 0 ≤ Mgap ∧ Mgap ≤ 3) (qMwire : RA Mwire (0) 9) (qMstand : RA Mstand (0) 9) (qMruns : 0 ≤ Mruns ∧ Mruns ≤ 1) (qMminute : 0 ≤ Mminute ∧ Mminute ≤ 1000000) (qMhead : RA Mhead (-1) 60) (qMplays : RA Mplays (0) 18) (qMrests : RA Mrests (0) 3) (qMwent : RA Mwent (0) 61) (qMout : RA Mout (0) 1) (qMcame : RA Mcame (-1) 1000000) (qMgone : RA Mgone (-1) 1000000) (qMlastOut : 0 ≤ MlastOut ∧ MlastOut ≤ 1000000) : Met l yX8_isRow wsX8_isRow ({ frames := 0, cells := 0, slots := 0, locals := 0 }) (va_Pc [.ref (oM 0)] (zPre D cI cB cZ sz (kM cI cB cZ oM Mthrown Mmany Mguest Mrow Mbars Mbar Mfresh Mtape Mtaped Mpos Mtoken MtokenAt Mvalue Mwrong MwrongAt MfaultKind MfaultPlace Mthing Morder Mone Mtwo Mbest Mcells Mgap Mwire Mstand Mruns Mminute Mhead Mplays Mrests Mwent Mout Mcame Mgone MlastOut))) (va_Qi (fun (r9 : Int32) (u9 : Int) => r9 = zI u9 ∧ ((((∀ k, 0 ≤ k → k < Mmany → Morder k = Mrow k) ∧ u9 = 1) ∨ (¬ (∀ k, 0 ≤ k → k < Mmany → Morder k = Mrow k) ∧ u9 = 0)))) (fun u9 t9 => zAt D cI cB cZ (va_A (kM cI cB cZ oM Mthrown Mmany Mguest Mrow Mbars Mbar Mfresh Mtape Mtaped Mpos Mtoken MtokenAt Mvalue Mwrong MwrongAt MfaultKind MfaultPlace Mthing Morder Mone Mtwo Mbest Mcells Mgap Mwire Mstand Mruns Mminute Mhead Mplays Mrests Mwent Mout Mcame Mgone MlastOut) sz) (kM cI cB cZ oM Mthrown Mmany Mguest Mrow Mbars Mbar Mfresh Mtape Mtaped Mpos Mtoken MtokenAt Mvalue Mwrong MwrongAt MfaultKind MfaultPlace Mthing Morder Mone Mtwo Mbest Mcells Mgap Mwire Mstand Mruns Mminute Mhead Mplays Mrests Mwent Mout Mcame Mgone MlastOut) t9) (va_A (kM cI cB cZ oM Mthrown Mmany Mguest Mrow Mbars Mbar Mfresh Mtape Mtaped Mpos Mtoken MtokenAt Mvalue Mwrong MwrongAt MfaultKind MfaultPlace Mthing Morder Mone Mtwo Mbest Mcells Mgap Mwire Mstand Mruns Mminute Mhead Mplays Mrests Mwent Mout Mcame Mgone MlastOut) sz)) 0 0 (va_A (kM cI cB cZ oM Mthrown Mmany Mguest Mrow Mbars Mbar Mfresh Mtape Mtaped Mpos Mtoken MtokenAt Mvalue Mwrong MwrongAt MfaultKind MfaultPlace Mthing Morder Mone Mtwo Mbest Mcells Mgap Mwire Mstand Mruns Mminute Mhead Mplays Mrests Mwent Mout Mcame Mgone MlastOut) sz) := by
  refine Met.ofW (cc := cX8_isRow) (maxL := 3) (ret := (some .boolean)) (by decide) rfl ?_
  intro pp ee s mm aa bw mt cd s₁ BL hml hv
  obtain ⟨rfl, hsz, hP, hK, hD0⟩ := hv
  have hx := BL.exec
  have hb := BL.bytes
  have hr := BL.returns
  have hts := atoms_spec (ws := wsX8_isRow) BL.pre
  have hown : s.vm.findClass RX8 = some mm.cls := findClass_of_methodNamed BL.named
  have hlocks := BL.notSynchronized
  subst hsz
  generalize hAe : va_A (kM cI cB cZ oM Mthrown Mmany Mguest Mrow Mbars Mbar Mfresh Mtape Mtaped Mpos Mtoken MtokenAt Mvalue Mwrong MwrongAt MfaultKind MfaultPlace Mthing Morder Mone Mtwo Mbest Mcells Mgap Mwire Mstand Mruns Mminute Mhead Mplays Mrests Mwent Mout Mcame Mgone MlastOut) s.heap.size = A
  have hA : ∀ q : Nat, s.heap.size ≤ q → A q := fun q h => by rw [← hAe]; exact Or.inr h
  have hw : HW D A s.heap (kM cI cB cZ oM Mthrown Mmany Mguest Mrow Mbars Mbar Mfresh Mtape Mtaped Mpos Mtoken MtokenAt Mvalue Mwrong MwrongAt MfaultKind MfaultPlace Mthing Morder Mone Mtwo Mbest Mcells Mgap Mwire Mstand Mruns Mminute Mhead Mplays Mrests Mwent Mout Mcame Mgone MlastOut) s.heap [] := z_start hAe hP hD0
  clear hP hD0
  have hl := lv_entry ([.ref (oM 0)]) (n := 3) (Nat.le_of_ble_eq_true rfl)
  rw [lg_entry_eq]
  generalize (lg_sl ([.ref (oM 0)]) ++ List.replicate (3 - (lg_sl ([.ref (oM 0)])).length) Slot.unset).toArray = ls at hl ⊢
  have hl : lv_has ls 3 [(0, .ref (oM 0))] := hl
  have hinX8 : ∀ w ∈ wsX80, w ∈ wsX8_isRow := by decide +kernel
  refine z_iconst hx hb dX8_isRow_0 ?_
  refine lv_istore_n (lv' := [(1, .int (zI 1)), (0, .ref (oM 0))]) hx hb dX8_isRow_1 rfl hl (by decide) rfl (fun ls hl => ?_)
  refine z_iconst hx hb dX8_isRow_2 ?_
  refine lv_istore_n (lv' := [(2, .int (zI 0)), (1, .int (zI 1)), (0, .ref (oM 0))]) hx hb dX8_isRow_3 rfl hl (by decide) rfl (fun ls hl => ?_)
  have hv_1 : 0 ≤ (0 : Int) ∧ (0 : Int) ≤ Mmany := by
    first | assumption | omega | grind
  have hv_2 : ((1 : Int) = 1 ∧ ∀ k, 0 ≤ k → k < (0 : Int) → Morder k = Mrow k) ∨ ((1 : Int) = 0 ∧ ¬ ∀ k, 0 ≤ k → k < (0 : Int) → Morder k = Mrow k) := by
    exact Or.inl ⟨rfl, all_0⟩
  refine z_loop (σ := Int × Int) (μ := fun x9 => (9 - (x9.2)).toNat) (I := fun x9 H locs ls => (0 ≤ (x9.2) ∧ (x9.2) ≤ Mmany) ∧ (((x9.1) = 1 ∧ ∀ k, 0 ≤ k → k < (x9.2) → Morder k = Mrow k) ∨ ((x9.1) = 0 ∧ ¬ ∀ k, 0 ≤ k → k < (x9.2) → Morder k = Mrow k)) ∧ HW D A s.heap (kM cI cB cZ oM Mthrown Mmany Mguest Mrow Mbars Mbar Mfresh Mtape Mtaped Mpos Mtoken MtokenAt Mvalue Mwrong MwrongAt MfaultKind MfaultPlace Mthing Morder Mone Mtwo Mbest Mcells Mgap Mwire Mstand Mruns Mminute Mhead Mplays Mrests Mwent Mout Mcame Mgone MlastOut) H locs ∧ lv_has ls 3 [(0, .ref (oM 0)), (1, .int (zI (x9.1))), (2, .int (zI (x9.2)))]) (1, 0) ⟨hv_1, hv_2, hw, lv_sub hl [2, 1, 0] rfl⟩ ?_
  clear hw hl
  intro x9 H locs ls hI ih_3
  obtain ⟨b_4, i_5⟩ := x9
  try dsimp only at hI
  obtain ⟨hI_6, hI_7, hw, hl⟩ := hI
  refine lv_iload_n hx hb dX8_isRow_4 rfl (lv_at hl 2 rfl) ?_
  refine lv_aload_n hx hb dX8_isRow_5 rfl (lv_at hl 0 rfl) ?_
  refine va_get (D := D) (ci := 8) (v := .int (zI Mmany)) (C := RX8) (T := TX8) (N := 36) hx hb hts hinX8 hown hK hw.1 0 rfl rfl 1 (by decide) (hts (.fieldLink RX8 72 "CarnivalRoadModel" "many" "I") (by decide +kernel)) (fun _ h9 => h9) rfl dX8_isRow_6 ?_
  refine z_icmp_ge (tgt := 43) hx hb dX8_isRow_9 (by decide) (by omega) (fun hc_8 => ?_) (fun hc_8 => ?_)
  · skip
    refine lv_iload_n hx hb dX8_isRow_43 rfl (lv_at hl 1 rfl) ?_
    have hv_9 : ((∀ k, 0 ≤ k → k < Mmany → Morder k = Mrow k) ∧ b_4 = 1) ∨ (¬ (∀ k, 0 ≤ k → k < Mmany → Morder k = Mrow k) ∧ b_4 = 0) := by
      exact isrow_end (by assumption) (by omega)
    exact W.zret (v := zI b_4) hx hb hr (z_narZ (by omega)) (fun t9 ht hW => ⟨⟨zI b_4, b_4, rfl, ⟨rfl, hv_9⟩, by subst hAe; exact z_end hK hw ht hW⟩, by subst hAe; exact hw.2.2.F ht⟩) (by subst hAe; exact hw.2.2.2.2) dX8_isRow_44
  · skip
    refine lv_iload_n hx hb dX8_isRow_12 rfl (lv_at hl 1 rfl) ?_
    refine z_if_eq (tgt := 35) hx hb dX8_isRow_13 (by decide) (by omega) (fun hc_10 => ?_) (fun hc_10 => ?_)
    · skip
      refine z_iconst hx hb dX8_isRow_35 ?_
      refine lv_istore_n (lv' := [(1, .int (zI 0)), (0, .ref (oM 0)), (2, .int (zI i_5))]) hx hb dX8_isRow_36 rfl hl (by decide) rfl (fun ls hl => ?_)
      refine z_iinc (k := 2) (lv' := [(2, .int (zI (i_5 + 1))), (1, .int (zI 0)), (0, .ref (oM 0))]) hx hb dX8_isRow_37 hl rfl (by decide) rfl (fun ls hl => ?_)
      refine lv_goto (tgt := 4) hx hb dX8_isRow_40 (by decide) ?_
      have hv_11 : 0 ≤ (i_5 + 1) ∧ (i_5 + 1) ≤ Mmany := by
        first | assumption | omega | grind
      have hv_12 : ((0 : Int) = 1 ∧ ∀ k, 0 ≤ k → k < (i_5 + 1) → Morder k = Mrow k) ∨ ((0 : Int) = 0 ∧ ¬ ∀ k, 0 ≤ k → k < (i_5 + 1) → Morder k = Mrow k) := by
        exact isrow_next (by assumption) (by omega) (by omega)
      have hm_13 : (9 - (i_5 + 1)).toNat < (9 - i_5).toNat := by
        first | assumption | omega | grind
      exact ih_3 (0, (i_5 + 1)) _ _ _ ⟨hv_11, hv_12, hw, lv_sub hl [2, 1, 0] rfl⟩ hm_13
    · skip
      refine lv_aload_n hx hb dX8_isRow_16 rfl (lv_at hl 0 rfl) ?_
      refine va_get (D := D) (ci := 8) (v := .ref (oM 6)) (C := RX8) (T := TX8) (N := 36) hx hb hts hinX8 hown hK hw.1 0 rfl rfl 18 (by decide) (hts (.fieldLink RX8 29 "CarnivalRoadModel" "order" "[I") (by decide +kernel)) (fun _ h9 => h9) rfl dX8_isRow_17 ?_
      refine lv_iload_n hx hb dX8_isRow_20 rfl (lv_at hl 2 rfl) ?_
      have hi_14 : (0 : Int) ≤ i_5 ∧ i_5 < ((8 : Nat) : Int) := by
        first | assumption | omega | grind
      refine z_iald (n := 8) (f := Morder) hx hb hK hw 6 rfl (by decide) hi_14 dX8_isRow_21 ?_
      have hq_15 : 0 ≤ Morder i_5 ∧ Morder i_5 ≤ 7 := qMorder i_5
      refine lv_aload_n hx hb dX8_isRow_22 rfl (lv_at hl 0 rfl) ?_
      refine va_get (D := D) (ci := 8) (v := .ref (oM 2)) (C := RX8) (T := TX8) (N := 36) hx hb hts hinX8 hown hK hw.1 0 rfl rfl 3 (by decide) (hts (.fieldLink RX8 13 "CarnivalRoadModel" "row" "[I") (by decide +kernel)) (fun _ h9 => h9) rfl dX8_isRow_23 ?_
      refine lv_iload_n hx hb dX8_isRow_26 rfl (lv_at hl 2 rfl) ?_
      have hi_16 : (0 : Int) ≤ i_5 ∧ i_5 < ((8 : Nat) : Int) := by
        first | assumption | omega | grind
      refine z_iald (n := 8) (f := Mrow) hx hb hK hw 2 rfl (by decide) hi_16 dX8_isRow_27 ?_
      have hq_17 : 0 ≤ Mrow i_5 ∧ Mrow i_5 ≤ 7 := qMrow i_5
      refine z_icmp_ne (tgt := 35) hx hb dX8_isRow_28 (by decide) (by omega) (fun hc_18 => ?_) (fun hc_18 => ?_)
      · skip
        refine z_iconst hx hb dX8_isRow_35 ?_
        refine lv_istore_n (lv' := [(1, .int (zI 0)), (0, .ref (oM 0)), (2, .int (zI i_5))]) hx hb dX8_isRow_36 rfl hl (by decide) rfl (fun ls hl => ?_)
        refine z_iinc (k := 2) (lv' := [(2, .int (zI (i_5 + 1))), (1, .int (zI 0)), (0, .ref (oM 0))]) hx hb dX8_isRow_37 hl rfl (by decide) rfl (fun ls hl => ?_)
        refine lv_goto (tgt := 4) hx hb dX8_isRow_40 (by decide) ?_
        have hv_19 : 0 ≤ (i_5 + 1) ∧ (i_5 + 1) ≤ Mmany := by
          first | assumption | omega | grind
        have hv_20 : ((0 : Int) = 1 ∧ ∀ k, 0 ≤ k → k < (i_5 + 1) → Morder k = Mrow k) ∨ ((0 : Int) = 0 ∧ ¬ ∀ k, 0 ≤ k → k < (i_5 + 1) → Morder k = Mrow k) := by
          exact isrow_next (by assumption) (by omega) (by omega)
        have hm_21 : (9 - (i_5 + 1)).toNat < (9 - i_5).toNat := by
          first | assumption | omega | grind
        exact ih_3 (0, (i_5 + 1)) _ _ _ ⟨hv_19, hv_20, hw, lv_sub hl [2, 1, 0] rfl⟩ hm_21
      · skip
        refine z_iconst hx hb dX8_isRow_31 ?_
        refine lv_goto (tgt := 36) hx hb dX8_isRow_32 (by decide) ?_
        refine lv_istore_n (lv' := [(1, .int (zI 1)), (0, .ref (oM 0)), (2, .int (zI i_5))]) hx hb dX8_isRow_36 rfl hl (by decide) rfl (fun ls hl => ?_)
        refine z_iinc (k := 2) (lv' := [(2, .int (zI (i_5 + 1))), (1, .int (zI 1)), (0, .ref (oM 0))]) hx hb dX8_isRow_37 hl rfl (by decide) rfl (fun ls hl => ?_)
        refine lv_goto (tgt := 4) hx hb dX8_isRow_40 (by decide) ?_
        have hv_22 : 0 ≤ (i_5 + 1) ∧ (i_5 + 1) ≤ Mmany := by
          first | assumption | omega | grind
        have hv_23 : ((1 : Int) = 1 ∧ ∀ k, 0 ≤ k → k < (i_5 + 1) → Morder k = Mrow k) ∨ ((1 : Int) = 0 ∧ ¬ ∀ k, 0 ≤ k → k < (i_5 + 1) → Morder k = Mrow k) := by
          exact isrow_next (by assumption) (by omega) (by omega)
        have hm_24 : (9 - (i_5 + 1)).toNat < (9 - i_5).toNat := by
          first | assumption | omega | grind
        exact ih_3 (1, (i_5 + 1)) _ _ _ ⟨hv_22, hv_23, hw, lv_sub hl [2, 1, 0] rfl⟩ hm_24
set_option maxRecDepth 100000 in
set_option maxHeartbeats 4000000 in
theorem c_X8_fault (l : Launch) (D : va_G) (cI cB cZ : ClassId) (oM : Nat → Nat) (sz : Nat) (Mthrown : Int) (Mmany : Int) (Mguest : Int → Int) (Mrow : Int → Int) (Mbars : Int) (Mbar : Int → Int) (Mfresh : Int → Int) (Mtape : Int → Int) (Mtaped : Int) (Mpos : Int) (Mtoken : Int) (MtokenAt : Int) (Mvalue : Int) (Mwrong : Int) (MwrongAt : Int) (MfaultKind : Int) (MfaultPlace : Int) (Mthing : Int) (Morder : Int → Int) (Mone : Int) (Mtwo : Int) (Mbest : Int → Int) (Mcells : Int) (Mgap : Int) (Mwire : Int → Int) (Mstand : Int → Int) (Mruns : Int) (Mminute : Int) (Mhead : Int → Int) (Mplays : Int → Int) (Mrests : Int → Int) (Mwent : Int → Int) (Mout : Int → Int) (Mcame : Int → Int) (Mgone : Int → Int) (MlastOut : Int) (w : Int) (qMthrown : 0 ≤ Mthrown ∧ Mthrown ≤ 2) (qMmany : 0 ≤ Mmany ∧ Mmany ≤ 8) (qMguest : RA Mguest (0) 9) (qMrow : RA Mrow (0) 7) (qMbars : 0 ≤ Mbars ∧ Mbars ≤ 10) (qMbar : RA Mbar (0) 104) (qMfresh : RA Mfresh (0) 104) (qMtape : RA Mtape (0) 255) (qMtaped : 0 ≤ Mtaped ∧ Mtaped ≤ 400) (qMpos : 0 ≤ Mpos ∧ Mpos ≤ 400) (qMtoken : 0 ≤ Mtoken ∧ Mtoken ≤ 15) (qMtokenAt : 0 ≤ MtokenAt ∧ MtokenAt ≤ 400) (qMvalue : 0 ≤ Mvalue ∧ Mvalue ≤ 99) (qMwrong : 0 ≤ Mwrong ∧ Mwrong ≤ 3) (qMwrongAt : 0 ≤ MwrongAt ∧ MwrongAt ≤ 400) (qMfaultKind : 0 ≤ MfaultKind ∧ MfaultKind ≤ 3) (qMfaultPlace : -1 ≤ MfaultPlace ∧ MfaultPlace ≤ 400) (qMthing : 0 ≤ Mthing ∧ Mthing ≤ 104) (qMorder : RA Morder (0) 7) (qMone : 0 ≤ Mone ∧ Mone ≤ 8) (qMtwo : 0 ≤ Mtwo ∧ Mtwo ≤ 8) (qMbest : RA Mbest (0) 7) (qMcells : 1 ≤ Mcells ∧ Mcells ≤ 50) (qMgap : 0 ≤ Mgap ∧ Mgap ≤ 3) (qMwire : RA Mwire (0) 9) (qMstand : RA Mstand (0) 9) (qMruns : 0 ≤ Mruns ∧ Mruns ≤ 1) (qMminute : 0 ≤ Mminute ∧ Mminute ≤ 1000000) (qMhead : RA Mhead (-1) 60) (qMplays : RA Mplays (0) 18) (qMrests : RA Mrests (0) 3) (qMwent : RA Mwent (0) 61) (qMout : RA Mout (0) 1) (qMcame : RA Mcame (-1) 1000000) (qMgone : RA Mgone (-1) 1000000) (qMlastOut : 0 ≤ MlastOut ∧ MlastOut ≤ 1000000) (qw : -2147483648 ≤ w ∧ w ≤ 2147483647) : Met l yX8_fault wsX8_fault ({ frames := 0, cells := 0, slots := 0, locals := 0 }) (va_Pc [.ref (oM 0), .int (zI w)] (zPre D cI cB cZ sz (kM cI cB cZ oM Mthrown Mmany Mguest Mrow Mbars Mbar Mfresh Mtape Mtaped Mpos Mtoken MtokenAt Mvalue Mwrong MwrongAt MfaultKind MfaultPlace Mthing Morder Mone Mtwo Mbest Mcells Mgap Mwire Mstand Mruns Mminute Mhead Mplays Mrests Mwent Mout Mcame Mgone MlastOut))) (va_Qi (fun (r9 : Int32) (u9 : Int × Int) => r9 = zI u9.1 ∧ (((0 : Int) ≤ u9.2 ∧ u9.2 ≤ 2) ∧ ((w = 0 ∧ u9.1 = MfaultKind) ∨ (w = 1 ∧ u9.1 = MfaultPlace) ∨ ((¬ w = 0 ∧ ¬ w = 1) ∧ u9.1 = -1)) ∧ (u9.2 = 0))) (fun u9 t9 => zAt D cI cB cZ (va_A (kM cI cB cZ oM Mthrown Mmany Mguest Mrow Mbars Mbar Mfresh Mtape Mtaped Mpos Mtoken MtokenAt Mvalue Mwrong MwrongAt MfaultKind MfaultPlace Mthing Morder Mone Mtwo Mbest Mcells Mgap Mwire Mstand Mruns Mminute Mhead Mplays Mrests Mwent Mout Mcame Mgone MlastOut) sz) (kM cI cB cZ oM (u9.2) Mmany Mguest Mrow Mbars Mbar Mfresh Mtape Mtaped Mpos Mtoken MtokenAt Mvalue Mwrong MwrongAt MfaultKind MfaultPlace Mthing Morder Mone Mtwo Mbest Mcells Mgap Mwire Mstand Mruns Mminute Mhead Mplays Mrests Mwent Mout Mcame Mgone MlastOut) t9) (va_A (kM cI cB cZ oM Mthrown Mmany Mguest Mrow Mbars Mbar Mfresh Mtape Mtaped Mpos Mtoken MtokenAt Mvalue Mwrong MwrongAt MfaultKind MfaultPlace Mthing Morder Mone Mtwo Mbest Mcells Mgap Mwire Mstand Mruns Mminute Mhead Mplays Mrests Mwent Mout Mcame Mgone MlastOut) sz)) 0 0 (va_A (kM cI cB cZ oM Mthrown Mmany Mguest Mrow Mbars Mbar Mfresh Mtape Mtaped Mpos Mtoken MtokenAt Mvalue Mwrong MwrongAt MfaultKind MfaultPlace Mthing Morder Mone Mtwo Mbest Mcells Mgap Mwire Mstand Mruns Mminute Mhead Mplays Mrests Mwent Mout Mcame Mgone MlastOut) sz) := by
  refine Met.ofW (cc := cX8_fault) (maxL := 2) (ret := (some .int)) (by decide) rfl ?_
  intro pp ee s mm aa bw mt cd s₁ BL hml hv
  obtain ⟨rfl, hsz, hP, hK, hD0⟩ := hv
  have hx := BL.exec
  have hb := BL.bytes
  have hr := BL.returns
  have hts := atoms_spec (ws := wsX8_fault) BL.pre
  have hown : s.vm.findClass RX8 = some mm.cls := findClass_of_methodNamed BL.named
  have hlocks := BL.notSynchronized
  subst hsz
  generalize hAe : va_A (kM cI cB cZ oM Mthrown Mmany Mguest Mrow Mbars Mbar Mfresh Mtape Mtaped Mpos Mtoken MtokenAt Mvalue Mwrong MwrongAt MfaultKind MfaultPlace Mthing Morder Mone Mtwo Mbest Mcells Mgap Mwire Mstand Mruns Mminute Mhead Mplays Mrests Mwent Mout Mcame Mgone MlastOut) s.heap.size = A
  have hA : ∀ q : Nat, s.heap.size ≤ q → A q := fun q h => by rw [← hAe]; exact Or.inr h
  have hw : HW D A s.heap (kM cI cB cZ oM Mthrown Mmany Mguest Mrow Mbars Mbar Mfresh Mtape Mtaped Mpos Mtoken MtokenAt Mvalue Mwrong MwrongAt MfaultKind MfaultPlace Mthing Morder Mone Mtwo Mbest Mcells Mgap Mwire Mstand Mruns Mminute Mhead Mplays Mrests Mwent Mout Mcame Mgone MlastOut) s.heap [] := z_start hAe hP hD0
  clear hP hD0
  have hl := lv_entry ([.ref (oM 0), .int (zI w)]) (n := 2) (Nat.le_of_ble_eq_true rfl)
  rw [lg_entry_eq]
  generalize (lg_sl ([.ref (oM 0), .int (zI w)]) ++ List.replicate (2 - (lg_sl ([.ref (oM 0), .int (zI w)])).length) Slot.unset).toArray = ls at hl ⊢
  have hl : lv_has ls 2 [(0, .ref (oM 0)), (1, .int (zI w))] := hl
  have hinX8 : ∀ w ∈ wsX80, w ∈ wsX8_fault := by decide +kernel
  refine lv_aload_n hx hb dX8_fault_0 rfl (lv_at hl 0 rfl) ?_
  refine z_iconst hx hb dX8_fault_1 ?_
  refine z_put (D := D) (ci := 8) (v := .int (zI 0)) (ty := .int) (C := RX8) (T := TX8) (N := 36) (ws2 := kM cI cB cZ oM 0 Mmany Mguest Mrow Mbars Mbar Mfresh Mtape Mtaped Mpos Mtoken MtokenAt Mvalue Mwrong MwrongAt MfaultKind MfaultPlace Mthing Morder Mone Mtwo Mbest Mcells Mgap Mwire Mstand Mruns Mminute Mhead Mplays Mrests Mwent Mout Mcame Mgone MlastOut) hx hb hts hinX8 tyX8 tyX8_ok nmX8 hown hK hw 0 rfl rfl 0 (by decide) (hts (.fieldLink RX8 69 "CarnivalRoadModel" "thrown" "I") (by decide +kernel)) (fun _ h9 => h9) rfl (by decide +kernel) rfl rfl (Nat.le_of_ble_eq_true rfl) dX8_fault_2 rfl (fun H locs hw => ?_)
  refine lv_iload_n hx hb dX8_fault_5 rfl (lv_at hl 1 rfl) ?_
  refine z_if_ne (tgt := 16) hx hb dX8_fault_6 (by decide) (by omega) (fun hc_1 => ?_) (fun hc_1 => ?_)
  · skip
    refine lv_iload_n hx hb dX8_fault_16 rfl (lv_at hl 1 rfl) ?_
    refine z_iconst hx hb dX8_fault_17 ?_
    refine z_icmp_ne (tgt := 28) hx hb dX8_fault_18 (by decide) (by omega) (fun hc_2 => ?_) (fun hc_2 => ?_)
    · skip
      refine z_iconst hx hb dX8_fault_28 ?_
      have hv_3 : (0 : Int) ≤ (0 : Int) ∧ (0 : Int) ≤ 2 := by
        first | assumption | omega | grind
      have hv_4 : (w = 0 ∧ ((-1) : Int) = MfaultKind) ∨ (w = 1 ∧ ((-1) : Int) = MfaultPlace) ∨ ((¬ w = 0 ∧ ¬ w = 1) ∧ ((-1) : Int) = -1) := by
        first | assumption | omega | grind
      have hv_5 : (0 : Int) = 0 := by
        first | assumption | omega | grind
      exact W.iret (v := zI (-1)) hx hb hr (fun t9 ht hW => ⟨⟨zI (-1), ((-1), 0), rfl, ⟨rfl, ⟨hv_3, hv_4, hv_5⟩⟩, by subst hAe; exact z_end hK hw ht hW⟩, by subst hAe; exact hw.2.2.F ht⟩) (by subst hAe; exact hw.2.2.2.2) dX8_fault_29
    · skip
      refine lv_aload_n hx hb dX8_fault_21 rfl (lv_at hl 0 rfl) ?_
      refine va_get (D := D) (ci := 8) (v := .int (zI MfaultPlace)) (C := RX8) (T := TX8) (N := 36) hx hb hts hinX8 hown hK hw.1 0 rfl rfl 16 (by decide) (hts (.fieldLink RX8 25 "CarnivalRoadModel" "faultPlace" "I") (by decide +kernel)) (fun _ h9 => h9) rfl dX8_fault_22 ?_
      refine lv_goto (tgt := 29) hx hb dX8_fault_25 (by decide) ?_
      have hv_6 : (0 : Int) ≤ (0 : Int) ∧ (0 : Int) ≤ 2 := by
        first | assumption | omega | grind
      have hv_7 : (w = 0 ∧ MfaultPlace = MfaultKind) ∨ (w = 1 ∧ MfaultPlace = MfaultPlace) ∨ ((¬ w = 0 ∧ ¬ w = 1) ∧ MfaultPlace = -1) := by
        first | assumption | omega | grind
      have hv_8 : (0 : Int) = 0 := by
        first | assumption | omega | grind
      exact W.iret (v := zI MfaultPlace) hx hb hr (fun t9 ht hW => ⟨⟨zI MfaultPlace, (MfaultPlace, 0), rfl, ⟨rfl, ⟨hv_6, hv_7, hv_8⟩⟩, by subst hAe; exact z_end hK hw ht hW⟩, by subst hAe; exact hw.2.2.F ht⟩) (by subst hAe; exact hw.2.2.2.2) dX8_fault_29
  · skip
    refine lv_aload_n hx hb dX8_fault_9 rfl (lv_at hl 0 rfl) ?_
    refine va_get (D := D) (ci := 8) (v := .int (zI MfaultKind)) (C := RX8) (T := TX8) (N := 36) hx hb hts hinX8 hown hK hw.1 0 rfl rfl 15 (by decide) (hts (.fieldLink RX8 159 "CarnivalRoadModel" "faultKind" "I") (by decide +kernel)) (fun _ h9 => h9) rfl dX8_fault_10 ?_
    refine lv_goto (tgt := 29) hx hb dX8_fault_13 (by decide) ?_
    have hv_9 : (0 : Int) ≤ (0 : Int) ∧ (0 : Int) ≤ 2 := by
      first | assumption | omega | grind
    have hv_10 : (w = 0 ∧ MfaultKind = MfaultKind) ∨ (w = 1 ∧ MfaultKind = MfaultPlace) ∨ ((¬ w = 0 ∧ ¬ w = 1) ∧ MfaultKind = -1) := by
      first | assumption | omega | grind
    have hv_11 : (0 : Int) = 0 := by
      first | assumption | omega | grind
    exact W.iret (v := zI MfaultKind) hx hb hr (fun t9 ht hW => ⟨⟨zI MfaultKind, (MfaultKind, 0), rfl, ⟨rfl, ⟨hv_9, hv_10, hv_11⟩⟩, by subst hAe; exact z_end hK hw ht hW⟩, by subst hAe; exact hw.2.2.F ht⟩) (by subst hAe; exact hw.2.2.2.2) dX8_fault_29
set_option maxRecDepth 100000 in
set_option maxHeartbeats 4000000 in
theorem c_X8_place (l : Launch) (D : va_G) (cI cB cZ : ClassId) (oM : Nat → Nat) (sz : Nat) (Mthrown : Int) (Mmany : Int) (Mguest : Int → Int) (Mrow : Int → Int) (Mbars : Int) (Mbar : Int → Int) (Mfresh : Int → Int) (Mtape : Int → Int) (Mtaped : Int) (Mpos : Int) (Mtoken : Int) (MtokenAt : Int) (Mvalue : Int) (Mwrong : Int) (MwrongAt : Int) (MfaultKind : Int) (MfaultPlace : Int) (Mthing : Int) (Morder : Int → Int) (Mone : Int) (Mtwo : Int) (Mbest : Int → Int) (Mcells : Int) (Mgap : Int) (Mwire : Int → Int) (Mstand : Int → Int) (Mruns : Int) (Mminute : Int) (Mhead : Int → Int) (Mplays : Int → Int) (Mrests : Int → Int) (Mwent : Int → Int) (Mout : Int → Int) (Mcame : Int → Int) (Mgone : Int → Int) (MlastOut : Int) (i : Int) (qMthrown : 0 ≤ Mthrown ∧ Mthrown ≤ 2) (qMmany : 0 ≤ Mmany ∧ Mmany ≤ 8) (qMguest : RA Mguest (0) 9) (qMrow : RA Mrow (0) 7) (qMbars : 0 ≤ Mbars ∧ Mbars ≤ 10) (qMbar : RA Mbar (0) 104) (qMfresh : RA Mfresh (0) 104) (qMtape : RA Mtape (0) 255) (qMtaped : 0 ≤ Mtaped ∧ Mtaped ≤ 400) (qMpos : 0 ≤ Mpos ∧ Mpos ≤ 400) (qMtoken : 0 ≤ Mtoken ∧ Mtoken ≤ 15) (qMtokenAt : 0 ≤ MtokenAt ∧ MtokenAt ≤ 400) (qMvalue : 0 ≤ Mvalue ∧ Mvalue ≤ 99) (qMwrong : 0 ≤ Mwrong ∧ Mwrong ≤ 3) (qMwrongAt : 0 ≤ MwrongAt ∧ MwrongAt ≤ 400) (qMfaultKind : 0 ≤ MfaultKind ∧ MfaultKind ≤ 3) (qMfaultPlace : -1 ≤ MfaultPlace ∧ MfaultPlace ≤ 400) (qMthing : 0 ≤ Mthing ∧ Mthing ≤ 104) (qMorder : RA Morder (0) 7) (qMone : 0 ≤ Mone ∧ Mone ≤ 8) (qMtwo : 0 ≤ Mtwo ∧ Mtwo ≤ 8) (qMbest : RA Mbest (0) 7) (qMcells : 1 ≤ Mcells ∧ Mcells ≤ 50) (qMgap : 0 ≤ Mgap ∧ Mgap ≤ 3) (qMwire : RA Mwire (0) 9) (qMstand : RA Mstand (0) 9) (qMruns : 0 ≤ Mruns ∧ Mruns ≤ 1) (qMminute : 0 ≤ Mminute ∧ Mminute ≤ 1000000) (qMhead : RA Mhead (-1) 60) (qMplays : RA Mplays (0) 18) (qMrests : RA Mrests (0) 3) (qMwent : RA Mwent (0) 61) (qMout : RA Mout (0) 1) (qMcame : RA Mcame (-1) 1000000) (qMgone : RA Mgone (-1) 1000000) (qMlastOut : 0 ≤ MlastOut ∧ MlastOut ≤ 1000000) (qi : -2147483648 ≤ i ∧ i ≤ 2147483647) : Met l yX8_place wsX8_place ({ frames := 1, cells := 0, slots := 0, locals := 22 }) (va_Pc [.ref (oM 0), .int (zI i)] (zPre D cI cB cZ sz (kM cI cB cZ oM Mthrown Mmany Mguest Mrow Mbars Mbar Mfresh Mtape Mtaped Mpos Mtoken MtokenAt Mvalue Mwrong MwrongAt MfaultKind MfaultPlace Mthing Morder Mone Mtwo Mbest Mcells Mgap Mwire Mstand Mruns Mminute Mhead Mplays Mrests Mwent Mout Mcame Mgone MlastOut))) (va_Qi (fun (r9 : Int32) (u9 : Int × Int) => r9 = zI u9.1 ∧ (((0 : Int) ≤ u9.2 ∧ u9.2 ≤ 2) ∧ (((0 ≤ i ∧ i < Mmany) ∧ u9.1 = Mrow i) ∨ (¬ (0 ≤ i ∧ i < Mmany) ∧ u9.1 = -1)) ∧ (u9.2 = 0))) (fun u9 t9 => zAt D cI cB cZ (va_A (kM cI cB cZ oM Mthrown Mmany Mguest Mrow Mbars Mbar Mfresh Mtape Mtaped Mpos Mtoken MtokenAt Mvalue Mwrong MwrongAt MfaultKind MfaultPlace Mthing Morder Mone Mtwo Mbest Mcells Mgap Mwire Mstand Mruns Mminute Mhead Mplays Mrests Mwent Mout Mcame Mgone MlastOut) sz) (kM cI cB cZ oM (u9.2) Mmany Mguest Mrow Mbars Mbar Mfresh Mtape Mtaped Mpos Mtoken MtokenAt Mvalue Mwrong MwrongAt MfaultKind MfaultPlace Mthing Morder Mone Mtwo Mbest Mcells Mgap Mwire Mstand Mruns Mminute Mhead Mplays Mrests Mwent Mout Mcame Mgone MlastOut) t9) (va_A (kM cI cB cZ oM Mthrown Mmany Mguest Mrow Mbars Mbar Mfresh Mtape Mtaped Mpos Mtoken MtokenAt Mvalue Mwrong MwrongAt MfaultKind MfaultPlace Mthing Morder Mone Mtwo Mbest Mcells Mgap Mwire Mstand Mruns Mminute Mhead Mplays Mrests Mwent Mout Mcame Mgone MlastOut) sz)) 0 0 (va_A (kM cI cB cZ oM Mthrown Mmany Mguest Mrow Mbars Mbar Mfresh Mtape Mtaped Mpos Mtoken MtokenAt Mvalue Mwrong MwrongAt MfaultKind MfaultPlace Mthing Morder Mone Mtwo Mbest Mcells Mgap Mwire Mstand Mruns Mminute Mhead Mplays Mrests Mwent Mout Mcame Mgone MlastOut) sz) := by
  refine Met.ofW (cc := cX8_place) (maxL := 2) (ret := (some .int)) (by decide) rfl ?_
  intro pp ee s mm aa bw mt cd s₁ BL hml hv
  obtain ⟨rfl, hsz, hP, hK, hD0⟩ := hv
  have hx := BL.exec
  have hb := BL.bytes
  have hr := BL.returns
  have hts := atoms_spec (ws := wsX8_place) BL.pre
  have hown : s.vm.findClass RX8 = some mm.cls := findClass_of_methodNamed BL.named
  have hlocks := BL.notSynchronized
  subst hsz
  generalize hAe : va_A (kM cI cB cZ oM Mthrown Mmany Mguest Mrow Mbars Mbar Mfresh Mtape Mtaped Mpos Mtoken MtokenAt Mvalue Mwrong MwrongAt MfaultKind MfaultPlace Mthing Morder Mone Mtwo Mbest Mcells Mgap Mwire Mstand Mruns Mminute Mhead Mplays Mrests Mwent Mout Mcame Mgone MlastOut) s.heap.size = A
  have hA : ∀ q : Nat, s.heap.size ≤ q → A q := fun q h => by rw [← hAe]; exact Or.inr h
  have hw : HW D A s.heap (kM cI cB cZ oM Mthrown Mmany Mguest Mrow Mbars Mbar Mfresh Mtape Mtaped Mpos Mtoken MtokenAt Mvalue Mwrong MwrongAt MfaultKind MfaultPlace Mthing Morder Mone Mtwo Mbest Mcells Mgap Mwire Mstand Mruns Mminute Mhead Mplays Mrests Mwent Mout Mcame Mgone MlastOut) s.heap [] := z_start hAe hP hD0
  clear hP hD0
  have hl := lv_entry ([.ref (oM 0), .int (zI i)]) (n := 2) (Nat.le_of_ble_eq_true rfl)
  rw [lg_entry_eq]
  generalize (lg_sl ([.ref (oM 0), .int (zI i)]) ++ List.replicate (2 - (lg_sl ([.ref (oM 0), .int (zI i)])).length) Slot.unset).toArray = ls at hl ⊢
  have hl : lv_has ls 2 [(0, .ref (oM 0)), (1, .int (zI i))] := hl
  have hinX8 : ∀ w ∈ wsX80, w ∈ wsX8_place := by decide +kernel
  refine lv_aload_n hx hb dX8_place_0 rfl (lv_at hl 0 rfl) ?_
  refine z_iconst hx hb dX8_place_1 ?_
  refine z_put (D := D) (ci := 8) (v := .int (zI 0)) (ty := .int) (C := RX8) (T := TX8) (N := 36) (ws2 := kM cI cB cZ oM 0 Mmany Mguest Mrow Mbars Mbar Mfresh Mtape Mtaped Mpos Mtoken MtokenAt Mvalue Mwrong MwrongAt MfaultKind MfaultPlace Mthing Morder Mone Mtwo Mbest Mcells Mgap Mwire Mstand Mruns Mminute Mhead Mplays Mrests Mwent Mout Mcame Mgone MlastOut) hx hb hts hinX8 tyX8 tyX8_ok nmX8 hown hK hw 0 rfl rfl 0 (by decide) (hts (.fieldLink RX8 69 "CarnivalRoadModel" "thrown" "I") (by decide +kernel)) (fun _ h9 => h9) rfl (by decide +kernel) rfl rfl (Nat.le_of_ble_eq_true rfl) dX8_place_2 rfl (fun H locs hw => ?_)
  refine lv_iload_n hx hb dX8_place_5 rfl (lv_at hl 1 rfl) ?_
  refine z_iconst hx hb dX8_place_6 ?_
  refine lv_aload_n hx hb dX8_place_7 rfl (lv_at hl 0 rfl) ?_
  refine va_get (D := D) (ci := 8) (v := .int (zI Mmany)) (C := RX8) (T := TX8) (N := 36) hx hb hts hinX8 hown hK hw.1 0 rfl rfl 1 (by decide) (hts (.fieldLink RX8 72 "CarnivalRoadModel" "many" "I") (by decide +kernel)) (fun _ h9 => h9) rfl dX8_place_8 ?_
  refine z_iconst hx hb dX8_place_11 ?_
  refine z_isub hx hb dX8_place_12 ?_
  have hF9 := z_free (wc := ([] : va_W)) hw hA [] rfl
  refine va_calli (va_runS (As := [.int (zI i), .int (zI 0), .int (zI (Mmany - 1))]) (rest := []) ⟨hx, hb, hml, hown, hts⟩ (c_X8_isIn l D cI cB cZ H.size i 0 (Mmany - 1) (by omega) (by omega) (by omega)) (va_cwS 3 hts gX8_place_X8_isIn rfl rfl rfl (by decide +kernel) ⟨Nat.le_of_ble_eq_true rfl, Nat.le_of_ble_eq_true rfl⟩) ⟨zPre_blind, z_pre hK hw [] (by decide) rfl⟩ rfl rfl hl.1 rfl (lv_room (Nat.le_of_ble_eq_true rfl)) dX8_place_13 ⟨Nat.zero_le _, Nat.zero_le _⟩) hw.2.2 (fun q _ h => hF9 q h) hF9 (fun r9 u9 t9 H_1 locs9 ht9 hvm9 hq9 hB9 hz9 hk9 hS9 => ?_)
  obtain ⟨r_2, rfl⟩ : ∃ z, z = u9 := ⟨_, rfl⟩
  try dsimp only at hq9 hB9
  obtain ⟨rfl, hq9⟩ := hq9
  have hq_3 := hq9
  have hw : HW D A s.heap (kM cI cB cZ oM 0 Mmany Mguest Mrow Mbars Mbar Mfresh Mtape Mtaped Mpos Mtoken MtokenAt Mvalue Mwrong MwrongAt MfaultKind MfaultPlace Mthing Morder Mone Mtwo Mbest Mcells Mgap Mwire Mstand Mruns Mminute Mhead Mplays Mrests Mwent Mout Mcame Mgone MlastOut) H_1 locs9 := z_after (wc := ([] : va_W)) hw [] [0, 1, 2, 3, 4, 5, 6, 7, 8, 9, 10, 11, 12, 13, 14, 15, 16] rfl rfl (by decide) (by decide) hF9 hk9 ht9 hB9 hS9 [0, 1, 2, 3, 4, 5, 6, 7, 8, 9, 10, 11, 12, 13, 14, 15, 16] (by decide) rfl
  clear hF9 ht9 hvm9 hB9 hz9 hk9 hS9 hq9
  rcases hq_3 with ⟨hc_4, rfl⟩ | ⟨hc_4, rfl⟩
  · skip
    refine z_if_eq (tgt := 28) hx hb dX8_place_16 (by decide) (by omega) (fun hc_5 => absurd hc_5 (by omega)) (fun hc_5 => ?_)
    refine lv_aload_n hx hb dX8_place_19 rfl (lv_at hl 0 rfl) ?_
    refine va_get (D := D) (ci := 8) (v := .ref (oM 2)) (C := RX8) (T := TX8) (N := 36) hx hb hts hinX8 hown hK hw.1 0 rfl rfl 3 (by decide) (hts (.fieldLink RX8 13 "CarnivalRoadModel" "row" "[I") (by decide +kernel)) (fun _ h9 => h9) rfl dX8_place_20 ?_
    refine lv_iload_n hx hb dX8_place_23 rfl (lv_at hl 1 rfl) ?_
    have hi_6 : (0 : Int) ≤ i ∧ i < ((8 : Nat) : Int) := by
      first | assumption | omega | grind
    refine z_iald (n := 8) (f := Mrow) hx hb hK hw 2 rfl (by decide) hi_6 dX8_place_24 ?_
    have hq_7 : 0 ≤ Mrow i ∧ Mrow i ≤ 7 := qMrow i
    refine lv_goto (tgt := 29) hx hb dX8_place_25 (by decide) ?_
    have hv_8 : (0 : Int) ≤ (0 : Int) ∧ (0 : Int) ≤ 2 := by
      first | assumption | omega | grind
    have hv_9 : ((0 ≤ i ∧ i < Mmany) ∧ (Mrow i) = Mrow i) ∨ (¬ (0 ≤ i ∧ i < Mmany) ∧ (Mrow i) = -1) := by
      first | assumption | omega | grind
    have hv_10 : (0 : Int) = 0 := by
      first | assumption | omega | grind
    exact W.iret (v := zI (Mrow i)) hx hb hr (fun t9 ht hW => ⟨⟨zI (Mrow i), ((Mrow i), 0), rfl, ⟨rfl, ⟨hv_8, hv_9, hv_10⟩⟩, by subst hAe; exact z_end hK hw ht hW⟩, by subst hAe; exact hw.2.2.F ht⟩) (by subst hAe; exact hw.2.2.2.2) dX8_place_29
  · skip
    refine z_if_eq (tgt := 28) hx hb dX8_place_16 (by decide) (by omega) (fun hc_11 => ?_) (fun hc_11 => absurd hc_11 (by omega))
    refine z_iconst hx hb dX8_place_28 ?_
    have hv_12 : (0 : Int) ≤ (0 : Int) ∧ (0 : Int) ≤ 2 := by
      first | assumption | omega | grind
    have hv_13 : ((0 ≤ i ∧ i < Mmany) ∧ ((-1) : Int) = Mrow i) ∨ (¬ (0 ≤ i ∧ i < Mmany) ∧ ((-1) : Int) = -1) := by
      first | assumption | omega | grind
    have hv_14 : (0 : Int) = 0 := by
      first | assumption | omega | grind
    exact W.iret (v := zI (-1)) hx hb hr (fun t9 ht hW => ⟨⟨zI (-1), ((-1), 0), rfl, ⟨rfl, ⟨hv_12, hv_13, hv_14⟩⟩, by subst hAe; exact z_end hK hw ht hW⟩, by subst hAe; exact hw.2.2.F ht⟩) (by subst hAe; exact hw.2.2.2.2) dX8_place_29
set_option maxRecDepth 100000 in
set_option maxHeartbeats 4000000 in
theorem c_X8_end (l : Launch) (D : va_G) (cI cB cZ : ClassId) (oM : Nat → Nat) (sz : Nat) (Mthrown : Int) (Mmany : Int) (Mguest : Int → Int) (Mrow : Int → Int) (Mbars : Int) (Mbar : Int → Int) (Mfresh : Int → Int) (Mtape : Int → Int) (Mtaped : Int) (Mpos : Int) (Mtoken : Int) (MtokenAt : Int) (Mvalue : Int) (Mwrong : Int) (MwrongAt : Int) (MfaultKind : Int) (MfaultPlace : Int) (Mthing : Int) (Morder : Int → Int) (Mone : Int) (Mtwo : Int) (Mbest : Int → Int) (Mcells : Int) (Mgap : Int) (Mwire : Int → Int) (Mstand : Int → Int) (Mruns : Int) (Mminute : Int) (Mhead : Int → Int) (Mplays : Int → Int) (Mrests : Int → Int) (Mwent : Int → Int) (Mout : Int → Int) (Mcame : Int → Int) (Mgone : Int → Int) (MlastOut : Int) (k : Int) (qMthrown : 0 ≤ Mthrown ∧ Mthrown ≤ 2) (qMmany : 0 ≤ Mmany ∧ Mmany ≤ 8) (qMguest : RA Mguest (0) 9) (qMrow : RA Mrow (0) 7) (qMbars : 0 ≤ Mbars ∧ Mbars ≤ 10) (qMbar : RA Mbar (0) 104) (qMfresh : RA Mfresh (0) 104) (qMtape : RA Mtape (0) 255) (qMtaped : 0 ≤ Mtaped ∧ Mtaped ≤ 400) (qMpos : 0 ≤ Mpos ∧ Mpos ≤ 400) (qMtoken : 0 ≤ Mtoken ∧ Mtoken ≤ 15) (qMtokenAt : 0 ≤ MtokenAt ∧ MtokenAt ≤ 400) (qMvalue : 0 ≤ Mvalue ∧ Mvalue ≤ 99) (qMwrong : 0 ≤ Mwrong ∧ Mwrong ≤ 3) (qMwrongAt : 0 ≤ MwrongAt ∧ MwrongAt ≤ 400) (qMfaultKind : 0 ≤ MfaultKind ∧ MfaultKind ≤ 3) (qMfaultPlace : -1 ≤ MfaultPlace ∧ MfaultPlace ≤ 400) (qMthing : 0 ≤ Mthing ∧ Mthing ≤ 104) (qMorder : RA Morder (0) 7) (qMone : 0 ≤ Mone ∧ Mone ≤ 8) (qMtwo : 0 ≤ Mtwo ∧ Mtwo ≤ 8) (qMbest : RA Mbest (0) 7) (qMcells : 1 ≤ Mcells ∧ Mcells ≤ 50) (qMgap : 0 ≤ Mgap ∧ Mgap ≤ 3) (qMwire : RA Mwire (0) 9) (qMstand : RA Mstand (0) 9) (qMruns : 0 ≤ Mruns ∧ Mruns ≤ 1) (qMminute : 0 ≤ Mminute ∧ Mminute ≤ 1000000) (qMhead : RA Mhead (-1) 60) (qMplays : RA Mplays (0) 18) (qMrests : RA Mrests (0) 3) (qMwent : RA Mwent (0) 61) (qMout : RA Mout (0) 1) (qMcame : RA Mcame (-1) 1000000) (qMgone : RA Mgone (-1) 1000000) (qMlastOut : 0 ≤ MlastOut ∧ MlastOut ≤ 1000000) (qk : -2147483648 ≤ k ∧ k ≤ 2147483647) : Met l yX8_end wsX8_end ({ frames := 1, cells := 0, slots := 0, locals := 22 }) (va_Pc [.ref (oM 0), .int (zI k)] (zPre D cI cB cZ sz (kM cI cB cZ oM Mthrown Mmany Mguest Mrow Mbars Mbar Mfresh Mtape Mtaped Mpos Mtoken MtokenAt Mvalue Mwrong MwrongAt MfaultKind MfaultPlace Mthing Morder Mone Mtwo Mbest Mcells Mgap Mwire Mstand Mruns Mminute Mhead Mplays Mrests Mwent Mout Mcame Mgone MlastOut))) (va_Qi (fun (r9 : Int32) (u9 : Int × Int × Int) => r9 = zI u9.1 ∧ (((0 : Int) ≤ u9.2.1 ∧ u9.2.1 ≤ 2) ∧ ((0 : Int) ≤ u9.2.2 ∧ u9.2.2 ≤ 400) ∧ (((0 ≤ k ∧ k ≤ Mtaped) ∧ u9.1 = 1 ∧ u9.2.2 = k) ∨ (¬ (0 ≤ k ∧ k ≤ Mtaped) ∧ u9.1 = 0 ∧ u9.2.2 = Mtaped)) ∧ (u9.2.1 = 0))) (fun u9 t9 => zAt D cI cB cZ (va_A (kM cI cB cZ oM Mthrown Mmany Mguest Mrow Mbars Mbar Mfresh Mtape Mtaped Mpos Mtoken MtokenAt Mvalue Mwrong MwrongAt MfaultKind MfaultPlace Mthing Morder Mone Mtwo Mbest Mcells Mgap Mwire Mstand Mruns Mminute Mhead Mplays Mrests Mwent Mout Mcame Mgone MlastOut) sz) (kM cI cB cZ oM (u9.2.1) Mmany Mguest Mrow Mbars Mbar Mfresh Mtape (u9.2.2) Mpos Mtoken MtokenAt Mvalue Mwrong MwrongAt MfaultKind MfaultPlace Mthing Morder Mone Mtwo Mbest Mcells Mgap Mwire Mstand Mruns Mminute Mhead Mplays Mrests Mwent Mout Mcame Mgone MlastOut) t9) (va_A (kM cI cB cZ oM Mthrown Mmany Mguest Mrow Mbars Mbar Mfresh Mtape Mtaped Mpos Mtoken MtokenAt Mvalue Mwrong MwrongAt MfaultKind MfaultPlace Mthing Morder Mone Mtwo Mbest Mcells Mgap Mwire Mstand Mruns Mminute Mhead Mplays Mrests Mwent Mout Mcame Mgone MlastOut) sz)) 0 0 (va_A (kM cI cB cZ oM Mthrown Mmany Mguest Mrow Mbars Mbar Mfresh Mtape Mtaped Mpos Mtoken MtokenAt Mvalue Mwrong MwrongAt MfaultKind MfaultPlace Mthing Morder Mone Mtwo Mbest Mcells Mgap Mwire Mstand Mruns Mminute Mhead Mplays Mrests Mwent Mout Mcame Mgone MlastOut) sz) := by
  refine Met.ofW (cc := cX8_end) (maxL := 2) (ret := (some .boolean)) (by decide) rfl ?_
  intro pp ee s mm aa bw mt cd s₁ BL hml hv
  obtain ⟨rfl, hsz, hP, hK, hD0⟩ := hv
  have hx := BL.exec
  have hb := BL.bytes
  have hr := BL.returns
  have hts := atoms_spec (ws := wsX8_end) BL.pre
  have hown : s.vm.findClass RX8 = some mm.cls := findClass_of_methodNamed BL.named
  have hlocks := BL.notSynchronized
  subst hsz
  generalize hAe : va_A (kM cI cB cZ oM Mthrown Mmany Mguest Mrow Mbars Mbar Mfresh Mtape Mtaped Mpos Mtoken MtokenAt Mvalue Mwrong MwrongAt MfaultKind MfaultPlace Mthing Morder Mone Mtwo Mbest Mcells Mgap Mwire Mstand Mruns Mminute Mhead Mplays Mrests Mwent Mout Mcame Mgone MlastOut) s.heap.size = A
  have hA : ∀ q : Nat, s.heap.size ≤ q → A q := fun q h => by rw [← hAe]; exact Or.inr h
  have hw : HW D A s.heap (kM cI cB cZ oM Mthrown Mmany Mguest Mrow Mbars Mbar Mfresh Mtape Mtaped Mpos Mtoken MtokenAt Mvalue Mwrong MwrongAt MfaultKind MfaultPlace Mthing Morder Mone Mtwo Mbest Mcells Mgap Mwire Mstand Mruns Mminute Mhead Mplays Mrests Mwent Mout Mcame Mgone MlastOut) s.heap [] := z_start hAe hP hD0
  clear hP hD0
  have hl := lv_entry ([.ref (oM 0), .int (zI k)]) (n := 2) (Nat.le_of_ble_eq_true rfl)
  rw [lg_entry_eq]
  generalize (lg_sl ([.ref (oM 0), .int (zI k)]) ++ List.replicate (2 - (lg_sl ([.ref (oM 0), .int (zI k)])).length) Slot.unset).toArray = ls at hl ⊢
  have hl : lv_has ls 2 [(0, .ref (oM 0)), (1, .int (zI k))] := hl
  have hinX8 : ∀ w ∈ wsX80, w ∈ wsX8_end := by decide +kernel
  refine lv_aload_n hx hb dX8_end_0 rfl (lv_at hl 0 rfl) ?_
  refine z_iconst hx hb dX8_end_1 ?_
  refine z_put (D := D) (ci := 8) (v := .int (zI 0)) (ty := .int) (C := RX8) (T := TX8) (N := 36) (ws2 := kM cI cB cZ oM 0 Mmany Mguest Mrow Mbars Mbar Mfresh Mtape Mtaped Mpos Mtoken MtokenAt Mvalue Mwrong MwrongAt MfaultKind MfaultPlace Mthing Morder Mone Mtwo Mbest Mcells Mgap Mwire Mstand Mruns Mminute Mhead Mplays Mrests Mwent Mout Mcame Mgone MlastOut) hx hb hts hinX8 tyX8 tyX8_ok nmX8 hown hK hw 0 rfl rfl 0 (by decide) (hts (.fieldLink RX8 69 "CarnivalRoadModel" "thrown" "I") (by decide +kernel)) (fun _ h9 => h9) rfl (by decide +kernel) rfl rfl (Nat.le_of_ble_eq_true rfl) dX8_end_2 rfl (fun H locs hw => ?_)
  refine lv_iload_n hx hb dX8_end_5 rfl (lv_at hl 1 rfl) ?_
  refine z_iconst hx hb dX8_end_6 ?_
  refine lv_aload_n hx hb dX8_end_7 rfl (lv_at hl 0 rfl) ?_
  refine va_get (D := D) (ci := 8) (v := .int (zI Mtaped)) (C := RX8) (T := TX8) (N := 36) hx hb hts hinX8 hown hK hw.1 0 rfl rfl 8 (by decide) (hts (.fieldLink RX8 95 "CarnivalRoadModel" "taped" "I") (by decide +kernel)) (fun _ h9 => h9) rfl dX8_end_8 ?_
  have hF9 := z_free (wc := ([] : va_W)) hw hA [] rfl
  refine va_calli (va_runS (As := [.int (zI k), .int (zI 0), .int (zI Mtaped)]) (rest := []) ⟨hx, hb, hml, hown, hts⟩ (c_X8_isIn l D cI cB cZ H.size k 0 Mtaped (by omega) (by omega) (by omega)) (va_cwS 3 hts gX8_end_X8_isIn rfl rfl rfl (by decide +kernel) ⟨Nat.le_of_ble_eq_true rfl, Nat.le_of_ble_eq_true rfl⟩) ⟨zPre_blind, z_pre hK hw [] (by decide) rfl⟩ rfl rfl hl.1 rfl (lv_room (Nat.le_of_ble_eq_true rfl)) dX8_end_11 ⟨Nat.zero_le _, Nat.zero_le _⟩) hw.2.2 (fun q _ h => hF9 q h) hF9 (fun r9 u9 t9 H_1 locs9 ht9 hvm9 hq9 hB9 hz9 hk9 hS9 => ?_)
  obtain ⟨r_2, rfl⟩ : ∃ z, z = u9 := ⟨_, rfl⟩
  try dsimp only at hq9 hB9
  obtain ⟨rfl, hq9⟩ := hq9
  have hq_3 := hq9
  have hw : HW D A s.heap (kM cI cB cZ oM 0 Mmany Mguest Mrow Mbars Mbar Mfresh Mtape Mtaped Mpos Mtoken MtokenAt Mvalue Mwrong MwrongAt MfaultKind MfaultPlace Mthing Morder Mone Mtwo Mbest Mcells Mgap Mwire Mstand Mruns Mminute Mhead Mplays Mrests Mwent Mout Mcame Mgone MlastOut) H_1 locs9 := z_after (wc := ([] : va_W)) hw [] [0, 1, 2, 3, 4, 5, 6, 7, 8, 9, 10, 11, 12, 13, 14, 15, 16] rfl rfl (by decide) (by decide) hF9 hk9 ht9 hB9 hS9 [0, 1, 2, 3, 4, 5, 6, 7, 8, 9, 10, 11, 12, 13, 14, 15, 16] (by decide) rfl
  clear hF9 ht9 hvm9 hB9 hz9 hk9 hS9 hq9
  rcases hq_3 with ⟨hc_4, rfl⟩ | ⟨hc_4, rfl⟩
  · skip
    refine z_if_ne (tgt := 19) hx hb dX8_end_14 (by decide) (by omega) (fun hc_5 => ?_) (fun hc_5 => absurd hc_5 (by omega))
    refine lv_aload_n hx hb dX8_end_19 rfl (lv_at hl 0 rfl) ?_
    refine lv_iload_n hx hb dX8_end_20 rfl (lv_at hl 1 rfl) ?_
    refine z_put (D := D) (ci := 8) (v := .int (zI k)) (ty := .int) (C := RX8) (T := TX8) (N := 36) (ws2 := kM cI cB cZ oM 0 Mmany Mguest Mrow Mbars Mbar Mfresh Mtape k Mpos Mtoken MtokenAt Mvalue Mwrong MwrongAt MfaultKind MfaultPlace Mthing Morder Mone Mtwo Mbest Mcells Mgap Mwire Mstand Mruns Mminute Mhead Mplays Mrests Mwent Mout Mcame Mgone MlastOut) hx hb hts hinX8 tyX8 tyX8_ok nmX8 hown hK hw 0 rfl rfl 8 (by decide) (hts (.fieldLink RX8 95 "CarnivalRoadModel" "taped" "I") (by decide +kernel)) (fun _ h9 => h9) rfl (by decide +kernel) rfl rfl (Nat.le_of_ble_eq_true rfl) dX8_end_21 rfl (fun H locs hw => ?_)
    refine z_iconst hx hb dX8_end_24 ?_
    have hv_6 : (0 : Int) ≤ (0 : Int) ∧ (0 : Int) ≤ 2 := by
      first | assumption | omega | grind
    have hv_7 : (0 : Int) ≤ k ∧ k ≤ 400 := by
      first | assumption | omega | grind
    have hv_8 : ((0 ≤ k ∧ k ≤ Mtaped) ∧ (1 : Int) = 1 ∧ k = k) ∨ (¬ (0 ≤ k ∧ k ≤ Mtaped) ∧ (1 : Int) = 0 ∧ k = Mtaped) := by
      first | assumption | omega | grind
    have hv_9 : (0 : Int) = 0 := by
      first | assumption | omega | grind
    exact W.zret (v := zI 1) hx hb hr rfl (fun t9 ht hW => ⟨⟨zI 1, (1, 0, k), rfl, ⟨rfl, ⟨hv_6, hv_7, hv_8, hv_9⟩⟩, by subst hAe; exact z_end hK hw ht hW⟩, by subst hAe; exact hw.2.2.F ht⟩) (by subst hAe; exact hw.2.2.2.2) dX8_end_25
  · skip
    refine z_if_ne (tgt := 19) hx hb dX8_end_14 (by decide) (by omega) (fun hc_10 => absurd hc_10 (by omega)) (fun hc_10 => ?_)
    refine z_iconst hx hb dX8_end_17 ?_
    have hv_11 : (0 : Int) ≤ (0 : Int) ∧ (0 : Int) ≤ 2 := by
      first | assumption | omega | grind
    have hv_12 : (0 : Int) ≤ Mtaped ∧ Mtaped ≤ 400 := by
      first | assumption | omega | grind
    have hv_13 : ((0 ≤ k ∧ k ≤ Mtaped) ∧ (0 : Int) = 1 ∧ Mtaped = k) ∨ (¬ (0 ≤ k ∧ k ≤ Mtaped) ∧ (0 : Int) = 0 ∧ Mtaped = Mtaped) := by
      first | assumption | omega | grind
    have hv_14 : (0 : Int) = 0 := by
      first | assumption | omega | grind
    exact W.zret (v := zI 0) hx hb hr rfl (fun t9 ht hW => ⟨⟨zI 0, (0, 0, Mtaped), rfl, ⟨rfl, ⟨hv_11, hv_12, hv_13, hv_14⟩⟩, by subst hAe; exact z_end hK hw ht hW⟩, by subst hAe; exact hw.2.2.F ht⟩) (by subst hAe; exact hw.2.2.2.2) dX8_end_18
set_option maxRecDepth 100000 in
set_option maxHeartbeats 4000000 in
theorem c_X8_look (l : Launch) (D : va_G) (cI cB cZ : ClassId) (oM : Nat → Nat) (sz : Nat) (Mthrown : Int) (Mmany : Int) (Mguest : Int → Int) (Mrow : Int → Int) (Mbars : Int) (Mbar : Int → Int) (Mfresh : Int → Int) (Mtape : Int → Int) (Mtaped : Int) (Mpos : Int) (Mtoken : Int) (MtokenAt : Int) (Mvalue : Int) (Mwrong : Int) (MwrongAt : Int) (MfaultKind : Int) (MfaultPlace : Int) (Mthing : Int) (Morder : Int → Int) (Mone : Int) (Mtwo : Int) (Mbest : Int → Int) (Mcells : Int) (Mgap : Int) (Mwire : Int → Int) (Mstand : Int → Int) (Mruns : Int) (Mminute : Int) (Mhead : Int → Int) (Mplays : Int → Int) (Mrests : Int → Int) (Mwent : Int → Int) (Mout : Int → Int) (Mcame : Int → Int) (Mgone : Int → Int) (MlastOut : Int) (w : Int) (qMthrown : 0 ≤ Mthrown ∧ Mthrown ≤ 2) (qMmany : 0 ≤ Mmany ∧ Mmany ≤ 8) (qMguest : RA Mguest (0) 9) (qMrow : RA Mrow (0) 7) (qMbars : 0 ≤ Mbars ∧ Mbars ≤ 10) (qMbar : RA Mbar (0) 104) (qMfresh : RA Mfresh (0) 104) (qMtape : RA Mtape (0) 255) (qMtaped : 0 ≤ Mtaped ∧ Mtaped ≤ 400) (qMpos : 0 ≤ Mpos ∧ Mpos ≤ 400) (qMtoken : 0 ≤ Mtoken ∧ Mtoken ≤ 15) (qMtokenAt : 0 ≤ MtokenAt ∧ MtokenAt ≤ 400) (qMvalue : 0 ≤ Mvalue ∧ Mvalue ≤ 99) (qMwrong : 0 ≤ Mwrong ∧ Mwrong ≤ 3) (qMwrongAt : 0 ≤ MwrongAt ∧ MwrongAt ≤ 400) (qMfaultKind : 0 ≤ MfaultKind ∧ MfaultKind ≤ 3) (qMfaultPlace : -1 ≤ MfaultPlace ∧ MfaultPlace ≤ 400) (qMthing : 0 ≤ Mthing ∧ Mthing ≤ 104) (qMorder : RA Morder (0) 7) (qMone : 0 ≤ Mone ∧ Mone ≤ 8) (qMtwo : 0 ≤ Mtwo ∧ Mtwo ≤ 8) (qMbest : RA Mbest (0) 7) (qMcells : 1 ≤ Mcells ∧ Mcells ≤ 50) (qMgap : 0 ≤ Mgap ∧ Mgap ≤ 3) (qMwire : RA Mwire (0) 9) (qMstand : RA Mstand (0) 9) (qMruns : 0 ≤ Mruns ∧ Mruns ≤ 1) (qMminute : 0 ≤ Mminute ∧ Mminute ≤ 1000000) (qMhead : RA Mhead (-1) 60) (qMplays : RA Mplays (0) 18) (qMrests : RA Mrests (0) 3) (qMwent : RA Mwent (0) 61) (qMout : RA Mout (0) 1) (qMcame : RA Mcame (-1) 1000000) (qMgone : RA Mgone (-1) 1000000) (qMlastOut : 0 ≤ MlastOut ∧ MlastOut ≤ 1000000) (qw : -2147483648 ≤ w ∧ w ≤ 2147483647) : Met l yX8_look wsX8_look ({ frames := 0, cells := 0, slots := 0, locals := 0 }) (va_Pc [.ref (oM 0), .int (zI w)] (zPre D cI cB cZ sz (kM cI cB cZ oM Mthrown Mmany Mguest Mrow Mbars Mbar Mfresh Mtape Mtaped Mpos Mtoken MtokenAt Mvalue Mwrong MwrongAt MfaultKind MfaultPlace Mthing Morder Mone Mtwo Mbest Mcells Mgap Mwire Mstand Mruns Mminute Mhead Mplays Mrests Mwent Mout Mcame Mgone MlastOut))) (va_Qi (fun (r9 : Int32) (u9 : Int × Int) => r9 = zI u9.1 ∧ (((0 : Int) ≤ u9.2 ∧ u9.2 ≤ 2) ∧ ((w = 0 ∧ u9.1 = Mmany) ∨ (w = 1 ∧ u9.1 = Mbars) ∨ (w = 2 ∧ u9.1 = Mcells) ∨ (w = 3 ∧ u9.1 = Mgap) ∨ (w = 4 ∧ u9.1 = Mruns) ∨ ((w < 0 ∨ 4 < w) ∧ u9.1 = -1)) ∧ (u9.2 = 0))) (fun u9 t9 => zAt D cI cB cZ (va_A (kM cI cB cZ oM Mthrown Mmany Mguest Mrow Mbars Mbar Mfresh Mtape Mtaped Mpos Mtoken MtokenAt Mvalue Mwrong MwrongAt MfaultKind MfaultPlace Mthing Morder Mone Mtwo Mbest Mcells Mgap Mwire Mstand Mruns Mminute Mhead Mplays Mrests Mwent Mout Mcame Mgone MlastOut) sz) (kM cI cB cZ oM (u9.2) Mmany Mguest Mrow Mbars Mbar Mfresh Mtape Mtaped Mpos Mtoken MtokenAt Mvalue Mwrong MwrongAt MfaultKind MfaultPlace Mthing Morder Mone Mtwo Mbest Mcells Mgap Mwire Mstand Mruns Mminute Mhead Mplays Mrests Mwent Mout Mcame Mgone MlastOut) t9) (va_A (kM cI cB cZ oM Mthrown Mmany Mguest Mrow Mbars Mbar Mfresh Mtape Mtaped Mpos Mtoken MtokenAt Mvalue Mwrong MwrongAt MfaultKind MfaultPlace Mthing Morder Mone Mtwo Mbest Mcells Mgap Mwire Mstand Mruns Mminute Mhead Mplays Mrests Mwent Mout Mcame Mgone MlastOut) sz)) 0 0 (va_A (kM cI cB cZ oM Mthrown Mmany Mguest Mrow Mbars Mbar Mfresh Mtape Mtaped Mpos Mtoken MtokenAt Mvalue Mwrong MwrongAt MfaultKind MfaultPlace Mthing Morder Mone Mtwo Mbest Mcells Mgap Mwire Mstand Mruns Mminute Mhead Mplays Mrests Mwent Mout Mcame Mgone MlastOut) sz) := by
  refine Met.ofW (cc := cX8_look) (maxL := 2) (ret := (some .int)) (by decide) rfl ?_
  intro pp ee s mm aa bw mt cd s₁ BL hml hv
  obtain ⟨rfl, hsz, hP, hK, hD0⟩ := hv
  have hx := BL.exec
  have hb := BL.bytes
  have hr := BL.returns
  have hts := atoms_spec (ws := wsX8_look) BL.pre
  have hown : s.vm.findClass RX8 = some mm.cls := findClass_of_methodNamed BL.named
  have hlocks := BL.notSynchronized
  subst hsz
  generalize hAe : va_A (kM cI cB cZ oM Mthrown Mmany Mguest Mrow Mbars Mbar Mfresh Mtape Mtaped Mpos Mtoken MtokenAt Mvalue Mwrong MwrongAt MfaultKind MfaultPlace Mthing Morder Mone Mtwo Mbest Mcells Mgap Mwire Mstand Mruns Mminute Mhead Mplays Mrests Mwent Mout Mcame Mgone MlastOut) s.heap.size = A
  have hA : ∀ q : Nat, s.heap.size ≤ q → A q := fun q h => by rw [← hAe]; exact Or.inr h
  have hw : HW D A s.heap (kM cI cB cZ oM Mthrown Mmany Mguest Mrow Mbars Mbar Mfresh Mtape Mtaped Mpos Mtoken MtokenAt Mvalue Mwrong MwrongAt MfaultKind MfaultPlace Mthing Morder Mone Mtwo Mbest Mcells Mgap Mwire Mstand Mruns Mminute Mhead Mplays Mrests Mwent Mout Mcame Mgone MlastOut) s.heap [] := z_start hAe hP hD0
  clear hP hD0
  have hl := lv_entry ([.ref (oM 0), .int (zI w)]) (n := 2) (Nat.le_of_ble_eq_true rfl)
  rw [lg_entry_eq]
  generalize (lg_sl ([.ref (oM 0), .int (zI w)]) ++ List.replicate (2 - (lg_sl ([.ref (oM 0), .int (zI w)])).length) Slot.unset).toArray = ls at hl ⊢
  have hl : lv_has ls 2 [(0, .ref (oM 0)), (1, .int (zI w))] := hl
  have hinX8 : ∀ w ∈ wsX80, w ∈ wsX8_look := by decide +kernel
  refine lv_aload_n hx hb dX8_look_0 rfl (lv_at hl 0 rfl) ?_
  refine z_iconst hx hb dX8_look_1 ?_
  refine z_put (D := D) (ci := 8) (v := .int (zI 0)) (ty := .int) (C := RX8) (T := TX8) (N := 36) (ws2 := kM cI cB cZ oM 0 Mmany Mguest Mrow Mbars Mbar Mfresh Mtape Mtaped Mpos Mtoken MtokenAt Mvalue Mwrong MwrongAt MfaultKind MfaultPlace Mthing Morder Mone Mtwo Mbest Mcells Mgap Mwire Mstand Mruns Mminute Mhead Mplays Mrests Mwent Mout Mcame Mgone MlastOut) hx hb hts hinX8 tyX8 tyX8_ok nmX8 hown hK hw 0 rfl rfl 0 (by decide) (hts (.fieldLink RX8 69 "CarnivalRoadModel" "thrown" "I") (by decide +kernel)) (fun _ h9 => h9) rfl (by decide +kernel) rfl rfl (Nat.le_of_ble_eq_true rfl) dX8_look_2 rfl (fun H locs hw => ?_)
  refine lv_iload_n hx hb dX8_look_5 rfl (lv_at hl 1 rfl) ?_
  rcases (show (w < 0 ∨ 4 < w) ∨ w = 0 ∨ w = 1 ∨ w = 2 ∨ w = 3 ∨ w = 4 by omega) with hc_1 | hc_1 | hc_1 | hc_1 | hc_1 | hc_1
  · skip
    refine z_tableOut (tgt := 73) hx hb (by omega) hc_1 dX8_look_6 (by decide) ?_
    refine z_iconst hx hb dX8_look_73 ?_
    have hv_2 : (0 : Int) ≤ (0 : Int) ∧ (0 : Int) ≤ 2 := by
      first | assumption | omega | grind
    have hv_3 : (w = 0 ∧ ((-1) : Int) = Mmany) ∨ (w = 1 ∧ ((-1) : Int) = Mbars) ∨ (w = 2 ∧ ((-1) : Int) = Mcells) ∨ (w = 3 ∧ ((-1) : Int) = Mgap) ∨ (w = 4 ∧ ((-1) : Int) = Mruns) ∨ ((w < 0 ∨ 4 < w) ∧ ((-1) : Int) = -1) := by
      first | assumption | omega | grind
    have hv_4 : (0 : Int) = 0 := by
      first | assumption | omega | grind
    exact W.iret (v := zI (-1)) hx hb hr (fun t9 ht hW => ⟨⟨zI (-1), ((-1), 0), rfl, ⟨rfl, ⟨hv_2, hv_3, hv_4⟩⟩, by subst hAe; exact z_end hK hw ht hW⟩, by subst hAe; exact hw.2.2.F ht⟩) (by subst hAe; exact hw.2.2.2.2) dX8_look_74
  · skip
    refine z_tableIn (k := 0) (off := 34) (tgt := 40) hx hb hc_1 dX8_look_6 (by decide) (by decide) rfl (by decide) ?_
    refine lv_aload_n hx hb dX8_look_40 rfl (lv_at hl 0 rfl) ?_
    refine va_get (D := D) (ci := 8) (v := .int (zI Mmany)) (C := RX8) (T := TX8) (N := 36) hx hb hts hinX8 hown hK hw.1 0 rfl rfl 1 (by decide) (hts (.fieldLink RX8 72 "CarnivalRoadModel" "many" "I") (by decide +kernel)) (fun _ h9 => h9) rfl dX8_look_41 ?_
    have hv_5 : (0 : Int) ≤ (0 : Int) ∧ (0 : Int) ≤ 2 := by
      first | assumption | omega | grind
    have hv_6 : (w = 0 ∧ Mmany = Mmany) ∨ (w = 1 ∧ Mmany = Mbars) ∨ (w = 2 ∧ Mmany = Mcells) ∨ (w = 3 ∧ Mmany = Mgap) ∨ (w = 4 ∧ Mmany = Mruns) ∨ ((w < 0 ∨ 4 < w) ∧ Mmany = -1) := by
      first | assumption | omega | grind
    have hv_7 : (0 : Int) = 0 := by
      first | assumption | omega | grind
    exact W.iret (v := zI Mmany) hx hb hr (fun t9 ht hW => ⟨⟨zI Mmany, (Mmany, 0), rfl, ⟨rfl, ⟨hv_5, hv_6, hv_7⟩⟩, by subst hAe; exact z_end hK hw ht hW⟩, by subst hAe; exact hw.2.2.F ht⟩) (by subst hAe; exact hw.2.2.2.2) dX8_look_44
  · skip
    refine z_tableIn (k := 1) (off := 39) (tgt := 45) hx hb hc_1 dX8_look_6 (by decide) (by decide) rfl (by decide) ?_
    refine lv_aload_n hx hb dX8_look_45 rfl (lv_at hl 0 rfl) ?_
    refine va_get (D := D) (ci := 8) (v := .int (zI Mbars)) (C := RX8) (T := TX8) (N := 36) hx hb hts hinX8 hown hK hw.1 0 rfl rfl 4 (by decide) (hts (.fieldLink RX8 162 "CarnivalRoadModel" "bars" "I") (by decide +kernel)) (fun _ h9 => h9) rfl dX8_look_46 ?_
    have hv_8 : (0 : Int) ≤ (0 : Int) ∧ (0 : Int) ≤ 2 := by
      first | assumption | omega | grind
    have hv_9 : (w = 0 ∧ Mbars = Mmany) ∨ (w = 1 ∧ Mbars = Mbars) ∨ (w = 2 ∧ Mbars = Mcells) ∨ (w = 3 ∧ Mbars = Mgap) ∨ (w = 4 ∧ Mbars = Mruns) ∨ ((w < 0 ∨ 4 < w) ∧ Mbars = -1) := by
      first | assumption | omega | grind
    have hv_10 : (0 : Int) = 0 := by
      first | assumption | omega | grind
    exact W.iret (v := zI Mbars) hx hb hr (fun t9 ht hW => ⟨⟨zI Mbars, (Mbars, 0), rfl, ⟨rfl, ⟨hv_8, hv_9, hv_10⟩⟩, by subst hAe; exact z_end hK hw ht hW⟩, by subst hAe; exact hw.2.2.F ht⟩) (by subst hAe; exact hw.2.2.2.2) dX8_look_49
  · skip
    refine z_tableIn (k := 2) (off := 44) (tgt := 50) hx hb hc_1 dX8_look_6 (by decide) (by decide) rfl (by decide) ?_
    refine lv_aload_n hx hb dX8_look_50 rfl (lv_at hl 0 rfl) ?_
    refine va_get (D := D) (ci := 8) (v := .int (zI Mcells)) (C := RX8) (T := TX8) (N := 36) hx hb hts hinX8 hown hK hw.1 0 rfl rfl 22 (by decide) (hts (.fieldLink RX8 35 "CarnivalRoadModel" "cells" "I") (by decide +kernel)) (fun _ h9 => h9) rfl dX8_look_51 ?_
    have hv_11 : (0 : Int) ≤ (0 : Int) ∧ (0 : Int) ≤ 2 := by
      first | assumption | omega | grind
    have hv_12 : (w = 0 ∧ Mcells = Mmany) ∨ (w = 1 ∧ Mcells = Mbars) ∨ (w = 2 ∧ Mcells = Mcells) ∨ (w = 3 ∧ Mcells = Mgap) ∨ (w = 4 ∧ Mcells = Mruns) ∨ ((w < 0 ∨ 4 < w) ∧ Mcells = -1) := by
      first | assumption | omega | grind
    have hv_13 : (0 : Int) = 0 := by
      first | assumption | omega | grind
    exact W.iret (v := zI Mcells) hx hb hr (fun t9 ht hW => ⟨⟨zI Mcells, (Mcells, 0), rfl, ⟨rfl, ⟨hv_11, hv_12, hv_13⟩⟩, by subst hAe; exact z_end hK hw ht hW⟩, by subst hAe; exact hw.2.2.F ht⟩) (by subst hAe; exact hw.2.2.2.2) dX8_look_54
  · skip
    refine z_tableIn (k := 3) (off := 49) (tgt := 55) hx hb hc_1 dX8_look_6 (by decide) (by decide) rfl (by decide) ?_
    refine lv_aload_n hx hb dX8_look_55 rfl (lv_at hl 0 rfl) ?_
    refine va_get (D := D) (ci := 8) (v := .int (zI Mgap)) (C := RX8) (T := TX8) (N := 36) hx hb hts hinX8 hown hK hw.1 0 rfl rfl 23 (by decide) (hts (.fieldLink RX8 38 "CarnivalRoadModel" "gap" "I") (by decide +kernel)) (fun _ h9 => h9) rfl dX8_look_56 ?_
    have hv_14 : (0 : Int) ≤ (0 : Int) ∧ (0 : Int) ≤ 2 := by
      first | assumption | omega | grind
    have hv_15 : (w = 0 ∧ Mgap = Mmany) ∨ (w = 1 ∧ Mgap = Mbars) ∨ (w = 2 ∧ Mgap = Mcells) ∨ (w = 3 ∧ Mgap = Mgap) ∨ (w = 4 ∧ Mgap = Mruns) ∨ ((w < 0 ∨ 4 < w) ∧ Mgap = -1) := by
      first | assumption | omega | grind
    have hv_16 : (0 : Int) = 0 := by
      first | assumption | omega | grind
    exact W.iret (v := zI Mgap) hx hb hr (fun t9 ht hW => ⟨⟨zI Mgap, (Mgap, 0), rfl, ⟨rfl, ⟨hv_14, hv_15, hv_16⟩⟩, by subst hAe; exact z_end hK hw ht hW⟩, by subst hAe; exact hw.2.2.F ht⟩) (by subst hAe; exact hw.2.2.2.2) dX8_look_59
  · skip
    refine z_tableIn (k := 4) (off := 54) (tgt := 60) hx hb hc_1 dX8_look_6 (by decide) (by decide) rfl (by decide) ?_
    refine lv_aload_n hx hb dX8_look_60 rfl (lv_at hl 0 rfl) ?_
    refine va_get (D := D) (ci := 8) (v := .int (zI Mruns)) (C := RX8) (T := TX8) (N := 36) hx hb hts hinX8 hown hK hw.1 0 rfl rfl 26 (by decide) (hts (.fieldLink RX8 79 "CarnivalRoadModel" "runs" "Z") (by decide +kernel)) (fun _ h9 => h9) rfl dX8_look_61 ?_
    refine z_if_eq (tgt := 71) hx hb dX8_look_64 (by decide) (by omega) (fun hc_17 => ?_) (fun hc_17 => ?_)
    · skip
      refine z_iconst hx hb dX8_look_71 ?_
      have hv_18 : (0 : Int) ≤ (0 : Int) ∧ (0 : Int) ≤ 2 := by
        first | assumption | omega | grind
      have hv_19 : (w = 0 ∧ (0 : Int) = Mmany) ∨ (w = 1 ∧ (0 : Int) = Mbars) ∨ (w = 2 ∧ (0 : Int) = Mcells) ∨ (w = 3 ∧ (0 : Int) = Mgap) ∨ (w = 4 ∧ (0 : Int) = Mruns) ∨ ((w < 0 ∨ 4 < w) ∧ (0 : Int) = -1) := by
        first | assumption | omega | grind
      have hv_20 : (0 : Int) = 0 := by
        first | assumption | omega | grind
      exact W.iret (v := zI 0) hx hb hr (fun t9 ht hW => ⟨⟨zI 0, (0, 0), rfl, ⟨rfl, ⟨hv_18, hv_19, hv_20⟩⟩, by subst hAe; exact z_end hK hw ht hW⟩, by subst hAe; exact hw.2.2.F ht⟩) (by subst hAe; exact hw.2.2.2.2) dX8_look_72
    · skip
      refine z_iconst hx hb dX8_look_67 ?_
      refine lv_goto (tgt := 72) hx hb dX8_look_68 (by decide) ?_
      have hv_21 : (0 : Int) ≤ (0 : Int) ∧ (0 : Int) ≤ 2 := by
        first | assumption | omega | grind
      have hv_22 : (w = 0 ∧ (1 : Int) = Mmany) ∨ (w = 1 ∧ (1 : Int) = Mbars) ∨ (w = 2 ∧ (1 : Int) = Mcells) ∨ (w = 3 ∧ (1 : Int) = Mgap) ∨ (w = 4 ∧ (1 : Int) = Mruns) ∨ ((w < 0 ∨ 4 < w) ∧ (1 : Int) = -1) := by
        first | assumption | omega | grind
      have hv_23 : (0 : Int) = 0 := by
        first | assumption | omega | grind
      exact W.iret (v := zI 1) hx hb hr (fun t9 ht hW => ⟨⟨zI 1, (1, 0), rfl, ⟨rfl, ⟨hv_21, hv_22, hv_23⟩⟩, by subst hAe; exact z_end hK hw ht hW⟩, by subst hAe; exact hw.2.2.F ht⟩) (by subst hAe; exact hw.2.2.2.2) dX8_look_72
set_option maxRecDepth 100000 in
set_option maxHeartbeats 4000000 in
theorem c_X8_road (l : Launch) (D : va_G) (cI cB cZ : ClassId) (oM : Nat → Nat) (sz : Nat) (Mthrown : Int) (Mmany : Int) (Mguest : Int → Int) (Mrow : Int → Int) (Mbars : Int) (Mbar : Int → Int) (Mfresh : Int → Int) (Mtape : Int → Int) (Mtaped : Int) (Mpos : Int) (Mtoken : Int) (MtokenAt : Int) (Mvalue : Int) (Mwrong : Int) (MwrongAt : Int) (MfaultKind : Int) (MfaultPlace : Int) (Mthing : Int) (Morder : Int → Int) (Mone : Int) (Mtwo : Int) (Mbest : Int → Int) (Mcells : Int) (Mgap : Int) (Mwire : Int → Int) (Mstand : Int → Int) (Mruns : Int) (Mminute : Int) (Mhead : Int → Int) (Mplays : Int → Int) (Mrests : Int → Int) (Mwent : Int → Int) (Mout : Int → Int) (Mcame : Int → Int) (Mgone : Int → Int) (MlastOut : Int) (c : Int) (gp : Int) (qMthrown : 0 ≤ Mthrown ∧ Mthrown ≤ 2) (qMmany : 0 ≤ Mmany ∧ Mmany ≤ 8) (qMguest : RA Mguest (0) 9) (qMrow : RA Mrow (0) 7) (qMbars : 0 ≤ Mbars ∧ Mbars ≤ 10) (qMbar : RA Mbar (0) 104) (qMfresh : RA Mfresh (0) 104) (qMtape : RA Mtape (0) 255) (qMtaped : 0 ≤ Mtaped ∧ Mtaped ≤ 400) (qMpos : 0 ≤ Mpos ∧ Mpos ≤ 400) (qMtoken : 0 ≤ Mtoken ∧ Mtoken ≤ 15) (qMtokenAt : 0 ≤ MtokenAt ∧ MtokenAt ≤ 400) (qMvalue : 0 ≤ Mvalue ∧ Mvalue ≤ 99) (qMwrong : 0 ≤ Mwrong ∧ Mwrong ≤ 3) (qMwrongAt : 0 ≤ MwrongAt ∧ MwrongAt ≤ 400) (qMfaultKind : 0 ≤ MfaultKind ∧ MfaultKind ≤ 3) (qMfaultPlace : -1 ≤ MfaultPlace ∧ MfaultPlace ≤ 400) (qMthing : 0 ≤ Mthing ∧ Mthing ≤ 104) (qMorder : RA Morder (0) 7) (qMone : 0 ≤ Mone ∧ Mone ≤ 8) (qMtwo : 0 ≤ Mtwo ∧ Mtwo ≤ 8) (qMbest : RA Mbest (0) 7) (qMcells : 1 ≤ Mcells ∧ Mcells ≤ 50) (qMgap : 0 ≤ Mgap ∧ Mgap ≤ 3) (qMwire : RA Mwire (0) 9) (qMstand : RA Mstand (0) 9) (qMruns : 0 ≤ Mruns ∧ Mruns ≤ 1) (qMminute : 0 ≤ Mminute ∧ Mminute ≤ 1000000) (qMhead : RA Mhead (-1) 60) (qMplays : RA Mplays (0) 18) (qMrests : RA Mrests (0) 3) (qMwent : RA Mwent (0) 61) (qMout : RA Mout (0) 1) (qMcame : RA Mcame (-1) 1000000) (qMgone : RA Mgone (-1) 1000000) (qMlastOut : 0 ≤ MlastOut ∧ MlastOut ≤ 1000000) (qc : -2147483648 ≤ c ∧ c ≤ 2147483647) (qgp : -2147483648 ≤ gp ∧ gp ≤ 2147483647) : Met l yX8_road wsX8_road ({ frames := 1, cells := 0, slots := 0, locals := 22 }) (va_Pc [.ref (oM 0), .int (zI c), .int (zI gp)] (zPre D cI cB cZ sz (kM cI cB cZ oM Mthrown Mmany Mguest Mrow Mbars Mbar Mfresh Mtape Mtaped Mpos Mtoken MtokenAt Mvalue Mwrong MwrongAt MfaultKind MfaultPlace Mthing Morder Mone Mtwo Mbest Mcells Mgap Mwire Mstand Mruns Mminute Mhead Mplays Mrests Mwent Mout Mcame Mgone MlastOut))) (va_Qi (fun (r9 : Int32) (u9 : Int × Int × Int × Int × (Int → Int) × (Int → Int) × Int) => r9 = zI u9.1 ∧ (((0 : Int) ≤ u9.2.1 ∧ u9.2.1 ≤ 2) ∧ ((1 : Int) ≤ u9.2.2.1 ∧ u9.2.2.1 ≤ 50) ∧ ((0 : Int) ≤ u9.2.2.2.1 ∧ u9.2.2.2.1 ≤ 3) ∧ (RA u9.2.2.2.2.1 (0) 9) ∧ (RA u9.2.2.2.2.2.1 (0) 9) ∧ ((0 : Int) ≤ u9.2.2.2.2.2.2 ∧ u9.2.2.2.2.2.2 ≤ 1) ∧ ((((1 ≤ c ∧ c ≤ 50) ∧ 0 ≤ gp ∧ gp ≤ 3) ∧ u9.1 = 1 ∧ u9.2.2.1 = c ∧ u9.2.2.2.1 = gp ∧ (∀ k, 0 ≤ k → k < 50 → u9.2.2.2.2.1 k = 0 ∧ u9.2.2.2.2.2.1 k = 0) ∧ u9.2.2.2.2.2.2 = 0) ∨ (¬ ((1 ≤ c ∧ c ≤ 50) ∧ 0 ≤ gp ∧ gp ≤ 3) ∧ u9.1 = 0 ∧ u9.2.2.1 = Mcells ∧ u9.2.2.2.1 = Mgap ∧ u9.2.2.2.2.1 = Mwire ∧ u9.2.2.2.2.2.1 = Mstand ∧ u9.2.2.2.2.2.2 = Mruns)) ∧ (u9.2.1 = 0))) (fun u9 t9 => zAt D cI cB cZ (va_A (kM cI cB cZ oM Mthrown Mmany Mguest Mrow Mbars Mbar Mfresh Mtape Mtaped Mpos Mtoken MtokenAt Mvalue Mwrong MwrongAt MfaultKind MfaultPlace Mthing Morder Mone Mtwo Mbest Mcells Mgap Mwire Mstand Mruns Mminute Mhead Mplays Mrests Mwent Mout Mcame Mgone MlastOut) sz) (kM cI cB cZ oM (u9.2.1) Mmany Mguest Mrow Mbars Mbar Mfresh Mtape Mtaped Mpos Mtoken MtokenAt Mvalue Mwrong MwrongAt MfaultKind MfaultPlace Mthing Morder Mone Mtwo Mbest (u9.2.2.1) (u9.2.2.2.1) (u9.2.2.2.2.1) (u9.2.2.2.2.2.1) (u9.2.2.2.2.2.2) Mminute Mhead Mplays Mrests Mwent Mout Mcame Mgone MlastOut) t9) (va_A (kM cI cB cZ oM Mthrown Mmany Mguest Mrow Mbars Mbar Mfresh Mtape Mtaped Mpos Mtoken MtokenAt Mvalue Mwrong MwrongAt MfaultKind MfaultPlace Mthing Morder Mone Mtwo Mbest Mcells Mgap Mwire Mstand Mruns Mminute Mhead Mplays Mrests Mwent Mout Mcame Mgone MlastOut) sz)) 0 0 (va_A (kM cI cB cZ oM Mthrown Mmany Mguest Mrow Mbars Mbar Mfresh Mtape Mtaped Mpos Mtoken MtokenAt Mvalue Mwrong MwrongAt MfaultKind MfaultPlace Mthing Morder Mone Mtwo Mbest Mcells Mgap Mwire Mstand Mruns Mminute Mhead Mplays Mrests Mwent Mout Mcame Mgone MlastOut) sz) := by
  refine Met.ofW (cc := cX8_road) (maxL := 4) (ret := (some .boolean)) (by decide) rfl ?_
  intro pp ee s mm aa bw mt cd s₁ BL hml hv
  obtain ⟨rfl, hsz, hP, hK, hD0⟩ := hv
  have hx := BL.exec
  have hb := BL.bytes
  have hr := BL.returns
  have hts := atoms_spec (ws := wsX8_road) BL.pre
  have hown : s.vm.findClass RX8 = some mm.cls := findClass_of_methodNamed BL.named
  have hlocks := BL.notSynchronized
  subst hsz
  generalize hAe : va_A (kM cI cB cZ oM Mthrown Mmany Mguest Mrow Mbars Mbar Mfresh Mtape Mtaped Mpos Mtoken MtokenAt Mvalue Mwrong MwrongAt MfaultKind MfaultPlace Mthing Morder Mone Mtwo Mbest Mcells Mgap Mwire Mstand Mruns Mminute Mhead Mplays Mrests Mwent Mout Mcame Mgone MlastOut) s.heap.size = A
  have hA : ∀ q : Nat, s.heap.size ≤ q → A q := fun q h => by rw [← hAe]; exact Or.inr h
  have hw : HW D A s.heap (kM cI cB cZ oM Mthrown Mmany Mguest Mrow Mbars Mbar Mfresh Mtape Mtaped Mpos Mtoken MtokenAt Mvalue Mwrong MwrongAt MfaultKind MfaultPlace Mthing Morder Mone Mtwo Mbest Mcells Mgap Mwire Mstand Mruns Mminute Mhead Mplays Mrests Mwent Mout Mcame Mgone MlastOut) s.heap [] := z_start hAe hP hD0
  clear hP hD0
  have hl := lv_entry ([.ref (oM 0), .int (zI c), .int (zI gp)]) (n := 4) (Nat.le_of_ble_eq_true rfl)
  rw [lg_entry_eq]
  generalize (lg_sl ([.ref (oM 0), .int (zI c), .int (zI gp)]) ++ List.replicate (4 - (lg_sl ([.ref (oM 0), .int (zI c), .int (zI gp)])).length) Slot.unset).toArray = ls at hl ⊢
  have hl : lv_has ls 4 [(0, .ref (oM 0)), (1, .int (zI c)), (2, .int (zI gp))] := hl
  have hinX8 : ∀ w ∈ wsX80, w ∈ wsX8_road := by decide +kernel
  refine lv_aload_n hx hb dX8_road_0 rfl (lv_at hl 0 rfl) ?_
  refine z_iconst hx hb dX8_road_1 ?_
  refine z_put (D := D) (ci := 8) (v := .int (zI 0)) (ty := .int) (C := RX8) (T := TX8) (N := 36) (ws2 := kM cI cB cZ oM 0 Mmany Mguest Mrow Mbars Mbar Mfresh Mtape Mtaped Mpos Mtoken MtokenAt Mvalue Mwrong MwrongAt MfaultKind MfaultPlace Mthing Morder Mone Mtwo Mbest Mcells Mgap Mwire Mstand Mruns Mminute Mhead Mplays Mrests Mwent Mout Mcame Mgone MlastOut) hx hb hts hinX8 tyX8 tyX8_ok nmX8 hown hK hw 0 rfl rfl 0 (by decide) (hts (.fieldLink RX8 69 "CarnivalRoadModel" "thrown" "I") (by decide +kernel)) (fun _ h9 => h9) rfl (by decide +kernel) rfl rfl (Nat.le_of_ble_eq_true rfl) dX8_road_2 rfl (fun H locs hw => ?_)
  refine lv_iload_n hx hb dX8_road_5 rfl (lv_at hl 1 rfl) ?_
  refine z_iconst hx hb dX8_road_6 ?_
  refine z_bipush hx hb dX8_road_7 (by decide) ?_
  have hF9 := z_free (wc := ([] : va_W)) hw hA [] rfl
  refine va_calli (va_runS (As := [.int (zI c), .int (zI 1), .int (zI 50)]) (rest := []) ⟨hx, hb, hml, hown, hts⟩ (c_X8_isIn l D cI cB cZ H.size c 1 50 (by omega) (by omega) (by omega)) (va_cwS 3 hts gX8_road_X8_isIn rfl rfl rfl (by decide +kernel) ⟨Nat.le_of_ble_eq_true rfl, Nat.le_of_ble_eq_true rfl⟩) ⟨zPre_blind, z_pre hK hw [] (by decide) rfl⟩ rfl rfl hl.1 rfl (lv_room (Nat.le_of_ble_eq_true rfl)) dX8_road_9 ⟨Nat.zero_le _, Nat.zero_le _⟩) hw.2.2 (fun q _ h => hF9 q h) hF9 (fun r9 u9 t9 H_1 locs9 ht9 hvm9 hq9 hB9 hz9 hk9 hS9 => ?_)
  obtain ⟨r_2, rfl⟩ : ∃ z, z = u9 := ⟨_, rfl⟩
  try dsimp only at hq9 hB9
  obtain ⟨rfl, hq9⟩ := hq9
  have hq_3 := hq9
  have hw : HW D A s.heap (kM cI cB cZ oM 0 Mmany Mguest Mrow Mbars Mbar Mfresh Mtape Mtaped Mpos Mtoken MtokenAt Mvalue Mwrong MwrongAt MfaultKind MfaultPlace Mthing Morder Mone Mtwo Mbest Mcells Mgap Mwire Mstand Mruns Mminute Mhead Mplays Mrests Mwent Mout Mcame Mgone MlastOut) H_1 locs9 := z_after (wc := ([] : va_W)) hw [] [0, 1, 2, 3, 4, 5, 6, 7, 8, 9, 10, 11, 12, 13, 14, 15, 16] rfl rfl (by decide) (by decide) hF9 hk9 ht9 hB9 hS9 [0, 1, 2, 3, 4, 5, 6, 7, 8, 9, 10, 11, 12, 13, 14, 15, 16] (by decide) rfl
  clear hF9 ht9 hvm9 hB9 hz9 hk9 hS9 hq9
  rcases hq_3 with ⟨hc_4, rfl⟩ | ⟨hc_4, rfl⟩
  · skip
    refine z_if_eq (tgt := 24) hx hb dX8_road_12 (by decide) (by omega) (fun hc_5 => absurd hc_5 (by omega)) (fun hc_5 => ?_)
    refine lv_iload_n hx hb dX8_road_15 rfl (lv_at hl 2 rfl) ?_
    refine z_iconst hx hb dX8_road_16 ?_
    refine z_iconst hx hb dX8_road_17 ?_
    have hF9 := z_free (wc := ([] : va_W)) hw hA [] rfl
    refine va_calli (va_runS (As := [.int (zI gp), .int (zI 0), .int (zI 3)]) (rest := []) ⟨hx, hb, hml, hown, hts⟩ (c_X8_isIn l D cI cB cZ H_1.size gp 0 3 (by omega) (by omega) (by omega)) (va_cwS 3 hts gX8_road_X8_isIn rfl rfl rfl (by decide +kernel) ⟨Nat.le_of_ble_eq_true rfl, Nat.le_of_ble_eq_true rfl⟩) ⟨zPre_blind, z_pre hK hw [] (by decide) rfl⟩ rfl rfl hl.1 rfl (lv_room (Nat.le_of_ble_eq_true rfl)) dX8_road_18 ⟨Nat.zero_le _, Nat.zero_le _⟩) hw.2.2 (fun q _ h => hF9 q h) hF9 (fun r9 u9 t9 H_6 locs9 ht9 hvm9 hq9 hB9 hz9 hk9 hS9 => ?_)
    obtain ⟨r_7, rfl⟩ : ∃ z, z = u9 := ⟨_, rfl⟩
    try dsimp only at hq9 hB9
    obtain ⟨rfl, hq9⟩ := hq9
    have hq_8 := hq9
    have hw : HW D A s.heap (kM cI cB cZ oM 0 Mmany Mguest Mrow Mbars Mbar Mfresh Mtape Mtaped Mpos Mtoken MtokenAt Mvalue Mwrong MwrongAt MfaultKind MfaultPlace Mthing Morder Mone Mtwo Mbest Mcells Mgap Mwire Mstand Mruns Mminute Mhead Mplays Mrests Mwent Mout Mcame Mgone MlastOut) H_6 locs9 := z_after (wc := ([] : va_W)) hw [] [0, 1, 2, 3, 4, 5, 6, 7, 8, 9, 10, 11, 12, 13, 14, 15, 16] rfl rfl (by decide) (by decide) hF9 hk9 ht9 hB9 hS9 [0, 1, 2, 3, 4, 5, 6, 7, 8, 9, 10, 11, 12, 13, 14, 15, 16] (by decide) rfl
    clear hF9 ht9 hvm9 hB9 hz9 hk9 hS9 hq9
    rcases hq_8 with ⟨hc_9, rfl⟩ | ⟨hc_9, rfl⟩
    · skip
      refine z_if_ne (tgt := 26) hx hb dX8_road_21 (by decide) (by omega) (fun hc_10 => ?_) (fun hc_10 => absurd hc_10 (by omega))
      refine lv_aload_n hx hb dX8_road_26 rfl (lv_at hl 0 rfl) ?_
      refine lv_iload_n hx hb dX8_road_27 rfl (lv_at hl 1 rfl) ?_
      refine z_put (D := D) (ci := 8) (v := .int (zI c)) (ty := .int) (C := RX8) (T := TX8) (N := 36) (ws2 := kM cI cB cZ oM 0 Mmany Mguest Mrow Mbars Mbar Mfresh Mtape Mtaped Mpos Mtoken MtokenAt Mvalue Mwrong MwrongAt MfaultKind MfaultPlace Mthing Morder Mone Mtwo Mbest c Mgap Mwire Mstand Mruns Mminute Mhead Mplays Mrests Mwent Mout Mcame Mgone MlastOut) hx hb hts hinX8 tyX8 tyX8_ok nmX8 hown hK hw 0 rfl rfl 22 (by decide) (hts (.fieldLink RX8 35 "CarnivalRoadModel" "cells" "I") (by decide +kernel)) (fun _ h9 => h9) rfl (by decide +kernel) rfl rfl (Nat.le_of_ble_eq_true rfl) dX8_road_28 rfl (fun H locs hw => ?_)
      refine lv_aload_n hx hb dX8_road_31 rfl (lv_at hl 0 rfl) ?_
      refine lv_iload_n hx hb dX8_road_32 rfl (lv_at hl 2 rfl) ?_
      refine z_put (D := D) (ci := 8) (v := .int (zI gp)) (ty := .int) (C := RX8) (T := TX8) (N := 36) (ws2 := kM cI cB cZ oM 0 Mmany Mguest Mrow Mbars Mbar Mfresh Mtape Mtaped Mpos Mtoken MtokenAt Mvalue Mwrong MwrongAt MfaultKind MfaultPlace Mthing Morder Mone Mtwo Mbest c gp Mwire Mstand Mruns Mminute Mhead Mplays Mrests Mwent Mout Mcame Mgone MlastOut) hx hb hts hinX8 tyX8 tyX8_ok nmX8 hown hK hw 0 rfl rfl 23 (by decide) (hts (.fieldLink RX8 38 "CarnivalRoadModel" "gap" "I") (by decide +kernel)) (fun _ h9 => h9) rfl (by decide +kernel) rfl rfl (Nat.le_of_ble_eq_true rfl) dX8_road_33 rfl (fun H locs hw => ?_)
      refine z_iconst hx hb dX8_road_36 ?_
      refine lv_istore_n (lv' := [(3, .int (zI 0)), (0, .ref (oM 0)), (1, .int (zI c)), (2, .int (zI gp))]) hx hb dX8_road_37 rfl hl (by decide) rfl (fun ls hl => ?_)
      have hv_11 : 0 ≤ (0 : Int) ∧ (0 : Int) ≤ 50 := by
        first | assumption | omega | grind
      have hv_12 : ∀ k, 0 ≤ k → k < (0 : Int) → Mwire k = 0 ∧ Mstand k = 0 := by
        exact all_0
      refine z_loop (σ := Int × (Int → Int) × (Int → Int)) (μ := fun x9 => (50 - (x9.1)).toNat) (I := fun x9 H locs ls => (RA (x9.2.1) (0) 9) ∧ (RA (x9.2.2) (0) 9) ∧ (0 ≤ (x9.1) ∧ (x9.1) ≤ 50) ∧ (∀ k, 0 ≤ k → k < (x9.1) → (x9.2.1) k = 0 ∧ (x9.2.2) k = 0) ∧ HW D A s.heap (kM cI cB cZ oM 0 Mmany Mguest Mrow Mbars Mbar Mfresh Mtape Mtaped Mpos Mtoken MtokenAt Mvalue Mwrong MwrongAt MfaultKind MfaultPlace Mthing Morder Mone Mtwo Mbest c gp (x9.2.1) (x9.2.2) Mruns Mminute Mhead Mplays Mrests Mwent Mout Mcame Mgone MlastOut) H locs ∧ lv_has ls 4 [(0, .ref (oM 0)), (3, .int (zI (x9.1)))]) (0, Mwire, Mstand) ⟨qMwire, qMstand, hv_11, hv_12, hw, lv_sub hl [1, 0] rfl⟩ ?_
      clear hw hl
      intro x9 H locs ls hI ih_13
      obtain ⟨i_14, Mwire_15, Mstand_16⟩ := x9
      try dsimp only at hI
      obtain ⟨hR_17, hR_18, hI_19, hI_20, hw, hl⟩ := hI
      refine lv_iload_n hx hb dX8_road_38 rfl (lv_at hl 1 rfl) ?_
      refine z_bipush hx hb dX8_road_39 (by decide) ?_
      refine z_icmp_ge (tgt := 64) hx hb dX8_road_41 (by decide) (by omega) (fun hc_21 => ?_) (fun hc_21 => ?_)
      · skip
        refine lv_aload_n hx hb dX8_road_64 rfl (lv_at hl 0 rfl) ?_
        refine z_iconst hx hb dX8_road_65 ?_
        refine z_put (D := D) (ci := 8) (v := .int (zI 0)) (ty := .boolean) (C := RX8) (T := TX8) (N := 36) (ws2 := kM cI cB cZ oM 0 Mmany Mguest Mrow Mbars Mbar Mfresh Mtape Mtaped Mpos Mtoken MtokenAt Mvalue Mwrong MwrongAt MfaultKind MfaultPlace Mthing Morder Mone Mtwo Mbest c gp Mwire_15 Mstand_16 0 Mminute Mhead Mplays Mrests Mwent Mout Mcame Mgone MlastOut) hx hb hts hinX8 tyX8 tyX8_ok nmX8 hown hK hw 0 rfl rfl 26 (by decide) (hts (.fieldLink RX8 79 "CarnivalRoadModel" "runs" "Z") (by decide +kernel)) (fun _ h9 => h9) rfl (by decide +kernel) rfl rfl (Nat.le_of_ble_eq_true rfl) dX8_road_66 rfl (fun H locs hw => ?_)
        refine z_iconst hx hb dX8_road_69 ?_
        have hv_22 : (0 : Int) ≤ (0 : Int) ∧ (0 : Int) ≤ 2 := by
          first | assumption | omega | grind
        have hv_23 : (1 : Int) ≤ c ∧ c ≤ 50 := by
          first | assumption | omega | grind
        have hv_24 : (0 : Int) ≤ gp ∧ gp ≤ 3 := by
          first | assumption | omega | grind
        have hv_25 : (0 : Int) ≤ (0 : Int) ∧ (0 : Int) ≤ 1 := by
          first | assumption | omega | grind
        have hv_26 : (((1 ≤ c ∧ c ≤ 50) ∧ 0 ≤ gp ∧ gp ≤ 3) ∧ (1 : Int) = 1 ∧ c = c ∧ gp = gp ∧ (∀ k, 0 ≤ k → k < 50 → Mwire_15 k = 0 ∧ Mstand_16 k = 0) ∧ (0 : Int) = 0) ∨ (¬ ((1 ≤ c ∧ c ≤ 50) ∧ 0 ≤ gp ∧ gp ≤ 3) ∧ (1 : Int) = 0 ∧ c = Mcells ∧ gp = Mgap ∧ Mwire_15 = Mwire ∧ Mstand_16 = Mstand ∧ (0 : Int) = Mruns) := by
          first | rfl | exact Or.inl ⟨by omega, rfl, rfl, rfl, all_le (by assumption) (by omega), rfl⟩ | exact Or.inr ⟨by omega, rfl, rfl, rfl, rfl, rfl, rfl⟩
        have hv_27 : (0 : Int) = 0 := by
          first | rfl | exact Or.inl ⟨by omega, rfl, rfl, rfl, all_le (by assumption) (by omega), rfl⟩ | exact Or.inr ⟨by omega, rfl, rfl, rfl, rfl, rfl, rfl⟩
        exact W.zret (v := zI 1) hx hb hr rfl (fun t9 ht hW => ⟨⟨zI 1, (1, 0, c, gp, Mwire_15, Mstand_16, 0), rfl, ⟨rfl, ⟨hv_22, hv_23, hv_24, hR_17, hR_18, hv_25, hv_26, hv_27⟩⟩, by subst hAe; exact z_end hK hw ht hW⟩, by subst hAe; exact hw.2.2.F ht⟩) (by subst hAe; exact hw.2.2.2.2) dX8_road_70
      · skip
        refine lv_aload_n hx hb dX8_road_44 rfl (lv_at hl 0 rfl) ?_
        refine va_get (D := D) (ci := 8) (v := .ref (oM 8)) (C := RX8) (T := TX8) (N := 36) hx hb hts hinX8 hown hK hw.1 0 rfl rfl 24 (by decide) (hts (.fieldLink RX8 41 "CarnivalRoadModel" "wire" "[I") (by decide +kernel)) (fun _ h9 => h9) rfl dX8_road_45 ?_
        refine lv_iload_n hx hb dX8_road_48 rfl (lv_at hl 1 rfl) ?_
        refine z_iconst hx hb dX8_road_49 ?_
        have hi_28 : (0 : Int) ≤ i_14 ∧ i_14 < ((50 : Nat) : Int) := by
          first | assumption | omega | grind
        have hv_29 : (0 : Int) ≤ (0 : Int) ∧ (0 : Int) ≤ 9 := by
          first | assumption | omega | grind
        have hR_30 : RA (uZ Mwire_15 i_14 0) (0) 9 := RA_up hR_17 hv_29
        refine z_iast (n := 50) (f := Mwire_15) (ws2 := kM cI cB cZ oM 0 Mmany Mguest Mrow Mbars Mbar Mfresh Mtape Mtaped Mpos Mtoken MtokenAt Mvalue Mwrong MwrongAt MfaultKind MfaultPlace Mthing Morder Mone Mtwo Mbest c gp (uZ Mwire_15 i_14 0) Mstand_16 Mruns Mminute Mhead Mplays Mrests Mwent Mout Mcame Mgone MlastOut) hx hb hK hw 8 rfl (by decide) hi_28 dX8_road_50 rfl (fun H locs hw => ?_)
        refine lv_aload_n hx hb dX8_road_51 rfl (lv_at hl 0 rfl) ?_
        refine va_get (D := D) (ci := 8) (v := .ref (oM 9)) (C := RX8) (T := TX8) (N := 36) hx hb hts hinX8 hown hK hw.1 0 rfl rfl 25 (by decide) (hts (.fieldLink RX8 44 "CarnivalRoadModel" "stand" "[I") (by decide +kernel)) (fun _ h9 => h9) rfl dX8_road_52 ?_
        refine lv_iload_n hx hb dX8_road_55 rfl (lv_at hl 1 rfl) ?_
        refine z_iconst hx hb dX8_road_56 ?_
        have hi_31 : (0 : Int) ≤ i_14 ∧ i_14 < ((50 : Nat) : Int) := by
          first | assumption | omega | grind
        have hv_32 : (0 : Int) ≤ (0 : Int) ∧ (0 : Int) ≤ 9 := by
          first | assumption | omega | grind
        have hR_33 : RA (uZ Mstand_16 i_14 0) (0) 9 := RA_up hR_18 hv_32
        refine z_iast (n := 50) (f := Mstand_16) (ws2 := kM cI cB cZ oM 0 Mmany Mguest Mrow Mbars Mbar Mfresh Mtape Mtaped Mpos Mtoken MtokenAt Mvalue Mwrong MwrongAt MfaultKind MfaultPlace Mthing Morder Mone Mtwo Mbest c gp (uZ Mwire_15 i_14 0) (uZ Mstand_16 i_14 0) Mruns Mminute Mhead Mplays Mrests Mwent Mout Mcame Mgone MlastOut) hx hb hK hw 9 rfl (by decide) hi_31 dX8_road_57 rfl (fun H locs hw => ?_)
        refine z_iinc (k := 1) (lv' := [(3, .int (zI (i_14 + 1))), (0, .ref (oM 0))]) hx hb dX8_road_58 hl rfl (by decide) rfl (fun ls hl => ?_)
        refine lv_goto (tgt := 38) hx hb dX8_road_61 (by decide) ?_
        have hv_34 : 0 ≤ (i_14 + 1) ∧ (i_14 + 1) ≤ 50 := by
          first | assumption | omega | grind
        have hv_35 : ∀ k, 0 ≤ k → k < (i_14 + 1) → (uZ Mwire_15 i_14 0) k = 0 ∧ (uZ Mstand_16 i_14 0) k = 0 := by
          refine all_s (fun k h0 h1 => ?_) ⟨uZ_s, uZ_s⟩
          rw [uZ_n (by omega), uZ_n (by omega)]
          revert h1
          revert h0
          revert k
          assumption
        have hm_36 : (50 - (i_14 + 1)).toNat < (50 - i_14).toNat := by
          first | assumption | omega | grind
        exact ih_13 ((i_14 + 1), (uZ Mwire_15 i_14 0), (uZ Mstand_16 i_14 0)) _ _ _ ⟨hR_30, hR_33, hv_34, hv_35, hw, lv_sub hl [1, 0] rfl⟩ hm_36
    · skip
      refine z_if_ne (tgt := 26) hx hb dX8_road_21 (by decide) (by omega) (fun hc_37 => absurd hc_37 (by omega)) (fun hc_37 => ?_)
      refine z_iconst hx hb dX8_road_24 ?_
      have hv_38 : (0 : Int) ≤ (0 : Int) ∧ (0 : Int) ≤ 2 := by
        first | assumption | omega | grind
      have hv_39 : (1 : Int) ≤ Mcells ∧ Mcells ≤ 50 := by
        first | assumption | omega | grind
      have hv_40 : (0 : Int) ≤ Mgap ∧ Mgap ≤ 3 := by
        first | assumption | omega | grind
      have hv_41 : (0 : Int) ≤ Mruns ∧ Mruns ≤ 1 := by
        first | assumption | omega | grind
      have hv_42 : (((1 ≤ c ∧ c ≤ 50) ∧ 0 ≤ gp ∧ gp ≤ 3) ∧ (0 : Int) = 1 ∧ Mcells = c ∧ Mgap = gp ∧ (∀ k, 0 ≤ k → k < 50 → Mwire k = 0 ∧ Mstand k = 0) ∧ Mruns = 0) ∨ (¬ ((1 ≤ c ∧ c ≤ 50) ∧ 0 ≤ gp ∧ gp ≤ 3) ∧ (0 : Int) = 0 ∧ Mcells = Mcells ∧ Mgap = Mgap ∧ Mwire = Mwire ∧ Mstand = Mstand ∧ Mruns = Mruns) := by
        first | rfl | exact Or.inl ⟨by omega, rfl, rfl, rfl, all_le (by assumption) (by omega), rfl⟩ | exact Or.inr ⟨by omega, rfl, rfl, rfl, rfl, rfl, rfl⟩
      have hv_43 : (0 : Int) = 0 := by
        first | rfl | exact Or.inl ⟨by omega, rfl, rfl, rfl, all_le (by assumption) (by omega), rfl⟩ | exact Or.inr ⟨by omega, rfl, rfl, rfl, rfl, rfl, rfl⟩
      exact W.zret (v := zI 0) hx hb hr rfl (fun t9 ht hW => ⟨⟨zI 0, (0, 0, Mcells, Mgap, Mwire, Mstand, Mruns), rfl, ⟨rfl, ⟨hv_38, hv_39, hv_40, qMwire, qMstand, hv_41, hv_42, hv_43⟩⟩, by subst hAe; exact z_end hK hw ht hW⟩, by subst hAe; exact hw.2.2.F ht⟩) (by subst hAe; exact hw.2.2.2.2) dX8_road_25
  · skip
    refine z_if_eq (tgt := 24) hx hb dX8_road_12 (by decide) (by omega) (fun hc_44 => ?_) (fun hc_44 => absurd hc_44 (by omega))
    refine z_iconst hx hb dX8_road_24 ?_
    have hv_45 : (0 : Int) ≤ (0 : Int) ∧ (0 : Int) ≤ 2 := by
      first | assumption | omega | grind
    have hv_46 : (1 : Int) ≤ Mcells ∧ Mcells ≤ 50 := by
      first | assumption | omega | grind
    have hv_47 : (0 : Int) ≤ Mgap ∧ Mgap ≤ 3 := by
      first | assumption | omega | grind
    have hv_48 : (0 : Int) ≤ Mruns ∧ Mruns ≤ 1 := by
      first | assumption | omega | grind
    have hv_49 : (((1 ≤ c ∧ c ≤ 50) ∧ 0 ≤ gp ∧ gp ≤ 3) ∧ (0 : Int) = 1 ∧ Mcells = c ∧ Mgap = gp ∧ (∀ k, 0 ≤ k → k < 50 → Mwire k = 0 ∧ Mstand k = 0) ∧ Mruns = 0) ∨ (¬ ((1 ≤ c ∧ c ≤ 50) ∧ 0 ≤ gp ∧ gp ≤ 3) ∧ (0 : Int) = 0 ∧ Mcells = Mcells ∧ Mgap = Mgap ∧ Mwire = Mwire ∧ Mstand = Mstand ∧ Mruns = Mruns) := by
      first | rfl | exact Or.inl ⟨by omega, rfl, rfl, rfl, all_le (by assumption) (by omega), rfl⟩ | exact Or.inr ⟨by omega, rfl, rfl, rfl, rfl, rfl, rfl⟩
    have hv_50 : (0 : Int) = 0 := by
      first | rfl | exact Or.inl ⟨by omega, rfl, rfl, rfl, all_le (by assumption) (by omega), rfl⟩ | exact Or.inr ⟨by omega, rfl, rfl, rfl, rfl, rfl, rfl⟩
    exact W.zret (v := zI 0) hx hb hr rfl (fun t9 ht hW => ⟨⟨zI 0, (0, 0, Mcells, Mgap, Mwire, Mstand, Mruns), rfl, ⟨rfl, ⟨hv_45, hv_46, hv_47, qMwire, qMstand, hv_48, hv_49, hv_50⟩⟩, by subst hAe; exact z_end hK hw ht hW⟩, by subst hAe; exact hw.2.2.F ht⟩) (by subst hAe; exact hw.2.2.2.2) dX8_road_25
set_option maxRecDepth 100000 in
set_option maxHeartbeats 4000000 in
theorem c_X8_wire (l : Launch) (D : va_G) (cI cB cZ : ClassId) (oM : Nat → Nat) (sz : Nat) (Mthrown : Int) (Mmany : Int) (Mguest : Int → Int) (Mrow : Int → Int) (Mbars : Int) (Mbar : Int → Int) (Mfresh : Int → Int) (Mtape : Int → Int) (Mtaped : Int) (Mpos : Int) (Mtoken : Int) (MtokenAt : Int) (Mvalue : Int) (Mwrong : Int) (MwrongAt : Int) (MfaultKind : Int) (MfaultPlace : Int) (Mthing : Int) (Morder : Int → Int) (Mone : Int) (Mtwo : Int) (Mbest : Int → Int) (Mcells : Int) (Mgap : Int) (Mwire : Int → Int) (Mstand : Int → Int) (Mruns : Int) (Mminute : Int) (Mhead : Int → Int) (Mplays : Int → Int) (Mrests : Int → Int) (Mwent : Int → Int) (Mout : Int → Int) (Mcame : Int → Int) (Mgone : Int → Int) (MlastOut : Int) (c : Int) (h : Int) (qMthrown : 0 ≤ Mthrown ∧ Mthrown ≤ 2) (qMmany : 0 ≤ Mmany ∧ Mmany ≤ 8) (qMguest : RA Mguest (0) 9) (qMrow : RA Mrow (0) 7) (qMbars : 0 ≤ Mbars ∧ Mbars ≤ 10) (qMbar : RA Mbar (0) 104) (qMfresh : RA Mfresh (0) 104) (qMtape : RA Mtape (0) 255) (qMtaped : 0 ≤ Mtaped ∧ Mtaped ≤ 400) (qMpos : 0 ≤ Mpos ∧ Mpos ≤ 400) (qMtoken : 0 ≤ Mtoken ∧ Mtoken ≤ 15) (qMtokenAt : 0 ≤ MtokenAt ∧ MtokenAt ≤ 400) (qMvalue : 0 ≤ Mvalue ∧ Mvalue ≤ 99) (qMwrong : 0 ≤ Mwrong ∧ Mwrong ≤ 3) (qMwrongAt : 0 ≤ MwrongAt ∧ MwrongAt ≤ 400) (qMfaultKind : 0 ≤ MfaultKind ∧ MfaultKind ≤ 3) (qMfaultPlace : -1 ≤ MfaultPlace ∧ MfaultPlace ≤ 400) (qMthing : 0 ≤ Mthing ∧ Mthing ≤ 104) (qMorder : RA Morder (0) 7) (qMone : 0 ≤ Mone ∧ Mone ≤ 8) (qMtwo : 0 ≤ Mtwo ∧ Mtwo ≤ 8) (qMbest : RA Mbest (0) 7) (qMcells : 1 ≤ Mcells ∧ Mcells ≤ 50) (qMgap : 0 ≤ Mgap ∧ Mgap ≤ 3) (qMwire : RA Mwire (0) 9) (qMstand : RA Mstand (0) 9) (qMruns : 0 ≤ Mruns ∧ Mruns ≤ 1) (qMminute : 0 ≤ Mminute ∧ Mminute ≤ 1000000) (qMhead : RA Mhead (-1) 60) (qMplays : RA Mplays (0) 18) (qMrests : RA Mrests (0) 3) (qMwent : RA Mwent (0) 61) (qMout : RA Mout (0) 1) (qMcame : RA Mcame (-1) 1000000) (qMgone : RA Mgone (-1) 1000000) (qMlastOut : 0 ≤ MlastOut ∧ MlastOut ≤ 1000000) (qc : -2147483648 ≤ c ∧ c ≤ 2147483647) (qh : -2147483648 ≤ h ∧ h ≤ 2147483647) : Met l yX8_wire wsX8_wire ({ frames := 2, cells := 0, slots := 0, locals := 43 }) (va_Pc [.ref (oM 0), .int (zI c), .int (zI h)] (zPre D cI cB cZ sz (kM cI cB cZ oM Mthrown Mmany Mguest Mrow Mbars Mbar Mfresh Mtape Mtaped Mpos Mtoken MtokenAt Mvalue Mwrong MwrongAt MfaultKind MfaultPlace Mthing Morder Mone Mtwo Mbest Mcells Mgap Mwire Mstand Mruns Mminute Mhead Mplays Mrests Mwent Mout Mcame Mgone MlastOut))) (va_Qi (fun (r9 : Int32) (u9 : Int × Int × (Int → Int) × Int) => r9 = zI u9.1 ∧ (((0 : Int) ≤ u9.2.1 ∧ u9.2.1 ≤ 2) ∧ (RA u9.2.2.1 (0) 9) ∧ ((0 : Int) ≤ u9.2.2.2 ∧ u9.2.2.2 ≤ 1) ∧ ((((0 ≤ c ∧ c < Mcells) ∧ 0 ≤ h ∧ h ≤ 9) ∧ u9.1 = 1 ∧ u9.2.2.1 = uZ Mwire c h ∧ u9.2.2.2 = 0) ∨ (¬ ((0 ≤ c ∧ c < Mcells) ∧ 0 ≤ h ∧ h ≤ 9) ∧ u9.1 = 0 ∧ u9.2.2.1 = Mwire ∧ u9.2.2.2 = Mruns)) ∧ (u9.2.1 = 0))) (fun u9 t9 => zAt D cI cB cZ (va_A (kM cI cB cZ oM Mthrown Mmany Mguest Mrow Mbars Mbar Mfresh Mtape Mtaped Mpos Mtoken MtokenAt Mvalue Mwrong MwrongAt MfaultKind MfaultPlace Mthing Morder Mone Mtwo Mbest Mcells Mgap Mwire Mstand Mruns Mminute Mhead Mplays Mrests Mwent Mout Mcame Mgone MlastOut) sz) (kM cI cB cZ oM (u9.2.1) Mmany Mguest Mrow Mbars Mbar Mfresh Mtape Mtaped Mpos Mtoken MtokenAt Mvalue Mwrong MwrongAt MfaultKind MfaultPlace Mthing Morder Mone Mtwo Mbest Mcells Mgap (u9.2.2.1) Mstand (u9.2.2.2) Mminute Mhead Mplays Mrests Mwent Mout Mcame Mgone MlastOut) t9) (va_A (kM cI cB cZ oM Mthrown Mmany Mguest Mrow Mbars Mbar Mfresh Mtape Mtaped Mpos Mtoken MtokenAt Mvalue Mwrong MwrongAt MfaultKind MfaultPlace Mthing Morder Mone Mtwo Mbest Mcells Mgap Mwire Mstand Mruns Mminute Mhead Mplays Mrests Mwent Mout Mcame Mgone MlastOut) sz)) 0 0 (va_A (kM cI cB cZ oM Mthrown Mmany Mguest Mrow Mbars Mbar Mfresh Mtape Mtaped Mpos Mtoken MtokenAt Mvalue Mwrong MwrongAt MfaultKind MfaultPlace Mthing Morder Mone Mtwo Mbest Mcells Mgap Mwire Mstand Mruns Mminute Mhead Mplays Mrests Mwent Mout Mcame Mgone MlastOut) sz) := by
  refine Met.ofW (cc := cX8_wire) (maxL := 3) (ret := (some .boolean)) (by decide) rfl ?_
  intro pp ee s mm aa bw mt cd s₁ BL hml hv
  obtain ⟨rfl, hsz, hP, hK, hD0⟩ := hv
  have hx := BL.exec
  have hb := BL.bytes
  have hr := BL.returns
  have hts := atoms_spec (ws := wsX8_wire) BL.pre
  have hown : s.vm.findClass RX8 = some mm.cls := findClass_of_methodNamed BL.named
  have hlocks := BL.notSynchronized
  subst hsz
  generalize hAe : va_A (kM cI cB cZ oM Mthrown Mmany Mguest Mrow Mbars Mbar Mfresh Mtape Mtaped Mpos Mtoken MtokenAt Mvalue Mwrong MwrongAt MfaultKind MfaultPlace Mthing Morder Mone Mtwo Mbest Mcells Mgap Mwire Mstand Mruns Mminute Mhead Mplays Mrests Mwent Mout Mcame Mgone MlastOut) s.heap.size = A
  have hA : ∀ q : Nat, s.heap.size ≤ q → A q := fun q h => by rw [← hAe]; exact Or.inr h
  have hw : HW D A s.heap (kM cI cB cZ oM Mthrown Mmany Mguest Mrow Mbars Mbar Mfresh Mtape Mtaped Mpos Mtoken MtokenAt Mvalue Mwrong MwrongAt MfaultKind MfaultPlace Mthing Morder Mone Mtwo Mbest Mcells Mgap Mwire Mstand Mruns Mminute Mhead Mplays Mrests Mwent Mout Mcame Mgone MlastOut) s.heap [] := z_start hAe hP hD0
  clear hP hD0
  have hl := lv_entry ([.ref (oM 0), .int (zI c), .int (zI h)]) (n := 3) (Nat.le_of_ble_eq_true rfl)
  rw [lg_entry_eq]
  generalize (lg_sl ([.ref (oM 0), .int (zI c), .int (zI h)]) ++ List.replicate (3 - (lg_sl ([.ref (oM 0), .int (zI c), .int (zI h)])).length) Slot.unset).toArray = ls at hl ⊢
  have hl : lv_has ls 3 [(0, .ref (oM 0)), (1, .int (zI c)), (2, .int (zI h))] := hl
  have hinX8 : ∀ w ∈ wsX80, w ∈ wsX8_wire := by decide +kernel
  refine lv_aload_n hx hb dX8_wire_0 rfl (lv_at hl 0 rfl) ?_
  refine z_iconst hx hb dX8_wire_1 ?_
  refine z_put (D := D) (ci := 8) (v := .int (zI 0)) (ty := .int) (C := RX8) (T := TX8) (N := 36) (ws2 := kM cI cB cZ oM 0 Mmany Mguest Mrow Mbars Mbar Mfresh Mtape Mtaped Mpos Mtoken MtokenAt Mvalue Mwrong MwrongAt MfaultKind MfaultPlace Mthing Morder Mone Mtwo Mbest Mcells Mgap Mwire Mstand Mruns Mminute Mhead Mplays Mrests Mwent Mout Mcame Mgone MlastOut) hx hb hts hinX8 tyX8 tyX8_ok nmX8 hown hK hw 0 rfl rfl 0 (by decide) (hts (.fieldLink RX8 69 "CarnivalRoadModel" "thrown" "I") (by decide +kernel)) (fun _ h9 => h9) rfl (by decide +kernel) rfl rfl (Nat.le_of_ble_eq_true rfl) dX8_wire_2 rfl (fun H locs hw => ?_)
  refine lv_aload_n hx hb dX8_wire_5 rfl (lv_at hl 0 rfl) ?_
  refine lv_iload_n hx hb dX8_wire_6 rfl (lv_at hl 1 rfl) ?_
  have hF9 := z_free (wc := kM cI cB cZ oM 0 Mmany Mguest Mrow Mbars Mbar Mfresh Mtape Mtaped Mpos Mtoken MtokenAt Mvalue Mwrong MwrongAt MfaultKind MfaultPlace Mthing Morder Mone Mtwo Mbest Mcells Mgap Mwire Mstand Mruns Mminute Mhead Mplays Mrests Mwent Mout Mcame Mgone MlastOut) hw hA [0, 1, 2, 3, 4, 5, 6, 7, 8, 9, 10, 11, 12, 13, 14, 15, 16] rfl
  refine va_calli (va_runV (As := [.int (zI c)]) (rest := []) ⟨hx, hb, hml, hown, hts⟩ (c_X8_isCell l D cI cB cZ oM H.size 0 Mmany Mguest Mrow Mbars Mbar Mfresh Mtape Mtaped Mpos Mtoken MtokenAt Mvalue Mwrong MwrongAt MfaultKind MfaultPlace Mthing Morder Mone Mtwo Mbest Mcells Mgap Mwire Mstand Mruns Mminute Mhead Mplays Mrests Mwent Mout Mcame Mgone MlastOut c (by omega) (by omega) qMguest qMrow (by omega) qMbar qMfresh qMtape (by omega) (by omega) (by omega) (by omega) (by omega) (by omega) (by omega) (by omega) (by omega) (by omega) qMorder (by omega) (by omega) qMbest (by omega) (by omega) qMwire qMstand (by omega) (by omega) qMhead qMplays qMrests qMwent qMout qMcame qMgone (by omega) (by omega)) (cwV 1 hts gX8_wire_X8_isCell rfl rfl rfl (by decide +kernel) ⟨Nat.le_of_ble_eq_true rfl, Nat.le_of_ble_eq_true rfl⟩) ⟨zPre_blind, va_recv hK hw.1 (ci := 8) (q0 := 0) rfl rfl, z_pre hK hw [0, 1, 2, 3, 4, 5, 6, 7, 8, 9, 10, 11, 12, 13, 14, 15, 16] (by decide) rfl⟩ rfl rfl hl.1 rfl (lv_room (Nat.le_of_ble_eq_true rfl)) dX8_wire_7 ⟨Nat.zero_le _, Nat.zero_le _⟩) hw.2.2 (fun q _ h => hF9 q h) hF9 (fun r9 u9 t9 H_1 locs9 ht9 hvm9 hq9 hB9 hz9 hk9 hS9 => ?_)
  obtain ⟨r_2, rfl⟩ : ∃ z, z = u9 := ⟨_, rfl⟩
  try dsimp only at hq9 hB9
  obtain ⟨rfl, hq9⟩ := hq9
  have hq_3 := hq9
  have hw : HW D A s.heap (kM cI cB cZ oM 0 Mmany Mguest Mrow Mbars Mbar Mfresh Mtape Mtaped Mpos Mtoken MtokenAt Mvalue Mwrong MwrongAt MfaultKind MfaultPlace Mthing Morder Mone Mtwo Mbest Mcells Mgap Mwire Mstand Mruns Mminute Mhead Mplays Mrests Mwent Mout Mcame Mgone MlastOut) H_1 locs9 := z_after (wc := kM cI cB cZ oM 0 Mmany Mguest Mrow Mbars Mbar Mfresh Mtape Mtaped Mpos Mtoken MtokenAt Mvalue Mwrong MwrongAt MfaultKind MfaultPlace Mthing Morder Mone Mtwo Mbest Mcells Mgap Mwire Mstand Mruns Mminute Mhead Mplays Mrests Mwent Mout Mcame Mgone MlastOut) hw [0, 1, 2, 3, 4, 5, 6, 7, 8, 9, 10, 11, 12, 13, 14, 15, 16] [] rfl rfl (by decide) (by decide) hF9 hk9 ht9 hB9 hS9 [0, 1, 2, 3, 4, 5, 6, 7, 8, 9, 10, 11, 12, 13, 14, 15, 16] (by decide) rfl
  clear hF9 ht9 hvm9 hB9 hz9 hk9 hS9 hq9
  rcases hq_3 with ⟨hc_4, rfl⟩ | ⟨hc_4, rfl⟩
  · skip
    refine z_if_eq (tgt := 23) hx hb dX8_wire_10 (by decide) (by omega) (fun hc_5 => absurd hc_5 (by omega)) (fun hc_5 => ?_)
    refine lv_iload_n hx hb dX8_wire_13 rfl (lv_at hl 2 rfl) ?_
    refine z_iconst hx hb dX8_wire_14 ?_
    refine z_bipush hx hb dX8_wire_15 (by decide) ?_
    have hF9 := z_free (wc := ([] : va_W)) hw hA [] rfl
    refine va_calli (va_runS (As := [.int (zI h), .int (zI 0), .int (zI 9)]) (rest := []) ⟨hx, hb, hml, hown, hts⟩ (c_X8_isIn l D cI cB cZ H_1.size h 0 9 (by omega) (by omega) (by omega)) (va_cwS 3 hts gX8_wire_X8_isIn rfl rfl rfl (by decide +kernel) ⟨Nat.le_of_ble_eq_true rfl, Nat.le_of_ble_eq_true rfl⟩) ⟨zPre_blind, z_pre hK hw [] (by decide) rfl⟩ rfl rfl hl.1 rfl (lv_room (Nat.le_of_ble_eq_true rfl)) dX8_wire_17 ⟨Nat.zero_le _, Nat.zero_le _⟩) hw.2.2 (fun q _ h => hF9 q h) hF9 (fun r9 u9 t9 H_6 locs9 ht9 hvm9 hq9 hB9 hz9 hk9 hS9 => ?_)
    obtain ⟨r_7, rfl⟩ : ∃ z, z = u9 := ⟨_, rfl⟩
    try dsimp only at hq9 hB9
    obtain ⟨rfl, hq9⟩ := hq9
    have hq_8 := hq9
    have hw : HW D A s.heap (kM cI cB cZ oM 0 Mmany Mguest Mrow Mbars Mbar Mfresh Mtape Mtaped Mpos Mtoken MtokenAt Mvalue Mwrong MwrongAt MfaultKind MfaultPlace Mthing Morder Mone Mtwo Mbest Mcells Mgap Mwire Mstand Mruns Mminute Mhead Mplays Mrests Mwent Mout Mcame Mgone MlastOut) H_6 locs9 := z_after (wc := ([] : va_W)) hw [] [0, 1, 2, 3, 4, 5, 6, 7, 8, 9, 10, 11, 12, 13, 14, 15, 16] rfl rfl (by decide) (by decide) hF9 hk9 ht9 hB9 hS9 [0, 1, 2, 3, 4, 5, 6, 7, 8, 9, 10, 11, 12, 13, 14, 15, 16] (by decide) rfl
    clear hF9 ht9 hvm9 hB9 hz9 hk9 hS9 hq9
    rcases hq_8 with ⟨hc_9, rfl⟩ | ⟨hc_9, rfl⟩
    · skip
      refine z_if_ne (tgt := 25) hx hb dX8_wire_20 (by decide) (by omega) (fun hc_10 => ?_) (fun hc_10 => absurd hc_10 (by omega))
      refine lv_aload_n hx hb dX8_wire_25 rfl (lv_at hl 0 rfl) ?_
      refine va_get (D := D) (ci := 8) (v := .ref (oM 8)) (C := RX8) (T := TX8) (N := 36) hx hb hts hinX8 hown hK hw.1 0 rfl rfl 24 (by decide) (hts (.fieldLink RX8 41 "CarnivalRoadModel" "wire" "[I") (by decide +kernel)) (fun _ h9 => h9) rfl dX8_wire_26 ?_
      refine lv_iload_n hx hb dX8_wire_29 rfl (lv_at hl 1 rfl) ?_
      refine lv_iload_n hx hb dX8_wire_30 rfl (lv_at hl 2 rfl) ?_
      have hi_11 : (0 : Int) ≤ c ∧ c < ((50 : Nat) : Int) := by
        first | assumption | omega | grind
      have hv_12 : (0 : Int) ≤ h ∧ h ≤ 9 := by
        first | assumption | omega | grind
      have hR_13 : RA (uZ Mwire c h) (0) 9 := RA_up qMwire hv_12
      refine z_iast (n := 50) (f := Mwire) (ws2 := kM cI cB cZ oM 0 Mmany Mguest Mrow Mbars Mbar Mfresh Mtape Mtaped Mpos Mtoken MtokenAt Mvalue Mwrong MwrongAt MfaultKind MfaultPlace Mthing Morder Mone Mtwo Mbest Mcells Mgap (uZ Mwire c h) Mstand Mruns Mminute Mhead Mplays Mrests Mwent Mout Mcame Mgone MlastOut) hx hb hK hw 8 rfl (by decide) hi_11 dX8_wire_31 rfl (fun H locs hw => ?_)
      refine lv_aload_n hx hb dX8_wire_32 rfl (lv_at hl 0 rfl) ?_
      refine z_iconst hx hb dX8_wire_33 ?_
      refine z_put (D := D) (ci := 8) (v := .int (zI 0)) (ty := .boolean) (C := RX8) (T := TX8) (N := 36) (ws2 := kM cI cB cZ oM 0 Mmany Mguest Mrow Mbars Mbar Mfresh Mtape Mtaped Mpos Mtoken MtokenAt Mvalue Mwrong MwrongAt MfaultKind MfaultPlace Mthing Morder Mone Mtwo Mbest Mcells Mgap (uZ Mwire c h) Mstand 0 Mminute Mhead Mplays Mrests Mwent Mout Mcame Mgone MlastOut) hx hb hts hinX8 tyX8 tyX8_ok nmX8 hown hK hw 0 rfl rfl 26 (by decide) (hts (.fieldLink RX8 79 "CarnivalRoadModel" "runs" "Z") (by decide +kernel)) (fun _ h9 => h9) rfl (by decide +kernel) rfl rfl (Nat.le_of_ble_eq_true rfl) dX8_wire_34 rfl (fun H locs hw => ?_)
      refine z_iconst hx hb dX8_wire_37 ?_
      have hv_14 : (0 : Int) ≤ (0 : Int) ∧ (0 : Int) ≤ 2 := by
        first | assumption | omega | grind
      have hv_15 : (0 : Int) ≤ (0 : Int) ∧ (0 : Int) ≤ 1 := by
        first | assumption | omega | grind
      have hv_16 : (((0 ≤ c ∧ c < Mcells) ∧ 0 ≤ h ∧ h ≤ 9) ∧ (1 : Int) = 1 ∧ (uZ Mwire c h) = uZ Mwire c h ∧ (0 : Int) = 0) ∨ (¬ ((0 ≤ c ∧ c < Mcells) ∧ 0 ≤ h ∧ h ≤ 9) ∧ (1 : Int) = 0 ∧ (uZ Mwire c h) = Mwire ∧ (0 : Int) = Mruns) := by
        first | rfl | exact Or.inl ⟨by omega, rfl, rfl, rfl⟩ | exact Or.inr ⟨by omega, rfl, rfl, rfl⟩
      have hv_17 : (0 : Int) = 0 := by
        first | rfl | exact Or.inl ⟨by omega, rfl, rfl, rfl⟩ | exact Or.inr ⟨by omega, rfl, rfl, rfl⟩
      exact W.zret (v := zI 1) hx hb hr rfl (fun t9 ht hW => ⟨⟨zI 1, (1, 0, (uZ Mwire c h), 0), rfl, ⟨rfl, ⟨hv_14, hR_13, hv_15, hv_16, hv_17⟩⟩, by subst hAe; exact z_end hK hw ht hW⟩, by subst hAe; exact hw.2.2.F ht⟩) (by subst hAe; exact hw.2.2.2.2) dX8_wire_38
    · skip
      refine z_if_ne (tgt := 25) hx hb dX8_wire_20 (by decide) (by omega) (fun hc_18 => absurd hc_18 (by omega)) (fun hc_18 => ?_)
      refine z_iconst hx hb dX8_wire_23 ?_
      have hv_19 : (0 : Int) ≤ (0 : Int) ∧ (0 : Int) ≤ 2 := by
        first | assumption | omega | grind
      have hv_20 : (0 : Int) ≤ Mruns ∧ Mruns ≤ 1 := by
        first | assumption | omega | grind
      have hv_21 : (((0 ≤ c ∧ c < Mcells) ∧ 0 ≤ h ∧ h ≤ 9) ∧ (0 : Int) = 1 ∧ Mwire = uZ Mwire c h ∧ Mruns = 0) ∨ (¬ ((0 ≤ c ∧ c < Mcells) ∧ 0 ≤ h ∧ h ≤ 9) ∧ (0 : Int) = 0 ∧ Mwire = Mwire ∧ Mruns = Mruns) := by
        first | rfl | exact Or.inl ⟨by omega, rfl, rfl, rfl⟩ | exact Or.inr ⟨by omega, rfl, rfl, rfl⟩
      have hv_22 : (0 : Int) = 0 := by
        first | rfl | exact Or.inl ⟨by omega, rfl, rfl, rfl⟩ | exact Or.inr ⟨by omega, rfl, rfl, rfl⟩
      exact W.zret (v := zI 0) hx hb hr rfl (fun t9 ht hW => ⟨⟨zI 0, (0, 0, Mwire, Mruns), rfl, ⟨rfl, ⟨hv_19, qMwire, hv_20, hv_21, hv_22⟩⟩, by subst hAe; exact z_end hK hw ht hW⟩, by subst hAe; exact hw.2.2.F ht⟩) (by subst hAe; exact hw.2.2.2.2) dX8_wire_24
  · skip
    refine z_if_eq (tgt := 23) hx hb dX8_wire_10 (by decide) (by omega) (fun hc_23 => ?_) (fun hc_23 => absurd hc_23 (by omega))
    refine z_iconst hx hb dX8_wire_23 ?_
    have hv_24 : (0 : Int) ≤ (0 : Int) ∧ (0 : Int) ≤ 2 := by
      first | assumption | omega | grind
    have hv_25 : (0 : Int) ≤ Mruns ∧ Mruns ≤ 1 := by
      first | assumption | omega | grind
    have hv_26 : (((0 ≤ c ∧ c < Mcells) ∧ 0 ≤ h ∧ h ≤ 9) ∧ (0 : Int) = 1 ∧ Mwire = uZ Mwire c h ∧ Mruns = 0) ∨ (¬ ((0 ≤ c ∧ c < Mcells) ∧ 0 ≤ h ∧ h ≤ 9) ∧ (0 : Int) = 0 ∧ Mwire = Mwire ∧ Mruns = Mruns) := by
      first | rfl | exact Or.inl ⟨by omega, rfl, rfl, rfl⟩ | exact Or.inr ⟨by omega, rfl, rfl, rfl⟩
    have hv_27 : (0 : Int) = 0 := by
      first | rfl | exact Or.inl ⟨by omega, rfl, rfl, rfl⟩ | exact Or.inr ⟨by omega, rfl, rfl, rfl⟩
    exact W.zret (v := zI 0) hx hb hr rfl (fun t9 ht hW => ⟨⟨zI 0, (0, 0, Mwire, Mruns), rfl, ⟨rfl, ⟨hv_24, qMwire, hv_25, hv_26, hv_27⟩⟩, by subst hAe; exact z_end hK hw ht hW⟩, by subst hAe; exact hw.2.2.F ht⟩) (by subst hAe; exact hw.2.2.2.2) dX8_wire_24
set_option maxRecDepth 100000 in
set_option maxHeartbeats 4000000 in
theorem c_X8_stand (l : Launch) (D : va_G) (cI cB cZ : ClassId) (oM : Nat → Nat) (sz : Nat) (Mthrown : Int) (Mmany : Int) (Mguest : Int → Int) (Mrow : Int → Int) (Mbars : Int) (Mbar : Int → Int) (Mfresh : Int → Int) (Mtape : Int → Int) (Mtaped : Int) (Mpos : Int) (Mtoken : Int) (MtokenAt : Int) (Mvalue : Int) (Mwrong : Int) (MwrongAt : Int) (MfaultKind : Int) (MfaultPlace : Int) (Mthing : Int) (Morder : Int → Int) (Mone : Int) (Mtwo : Int) (Mbest : Int → Int) (Mcells : Int) (Mgap : Int) (Mwire : Int → Int) (Mstand : Int → Int) (Mruns : Int) (Mminute : Int) (Mhead : Int → Int) (Mplays : Int → Int) (Mrests : Int → Int) (Mwent : Int → Int) (Mout : Int → Int) (Mcame : Int → Int) (Mgone : Int → Int) (MlastOut : Int) (c : Int) (h : Int) (qMthrown : 0 ≤ Mthrown ∧ Mthrown ≤ 2) (qMmany : 0 ≤ Mmany ∧ Mmany ≤ 8) (qMguest : RA Mguest (0) 9) (qMrow : RA Mrow (0) 7) (qMbars : 0 ≤ Mbars ∧ Mbars ≤ 10) (qMbar : RA Mbar (0) 104) (qMfresh : RA Mfresh (0) 104) (qMtape : RA Mtape (0) 255) (qMtaped : 0 ≤ Mtaped ∧ Mtaped ≤ 400) (qMpos : 0 ≤ Mpos ∧ Mpos ≤ 400) (qMtoken : 0 ≤ Mtoken ∧ Mtoken ≤ 15) (qMtokenAt : 0 ≤ MtokenAt ∧ MtokenAt ≤ 400) (qMvalue : 0 ≤ Mvalue ∧ Mvalue ≤ 99) (qMwrong : 0 ≤ Mwrong ∧ Mwrong ≤ 3) (qMwrongAt : 0 ≤ MwrongAt ∧ MwrongAt ≤ 400) (qMfaultKind : 0 ≤ MfaultKind ∧ MfaultKind ≤ 3) (qMfaultPlace : -1 ≤ MfaultPlace ∧ MfaultPlace ≤ 400) (qMthing : 0 ≤ Mthing ∧ Mthing ≤ 104) (qMorder : RA Morder (0) 7) (qMone : 0 ≤ Mone ∧ Mone ≤ 8) (qMtwo : 0 ≤ Mtwo ∧ Mtwo ≤ 8) (qMbest : RA Mbest (0) 7) (qMcells : 1 ≤ Mcells ∧ Mcells ≤ 50) (qMgap : 0 ≤ Mgap ∧ Mgap ≤ 3) (qMwire : RA Mwire (0) 9) (qMstand : RA Mstand (0) 9) (qMruns : 0 ≤ Mruns ∧ Mruns ≤ 1) (qMminute : 0 ≤ Mminute ∧ Mminute ≤ 1000000) (qMhead : RA Mhead (-1) 60) (qMplays : RA Mplays (0) 18) (qMrests : RA Mrests (0) 3) (qMwent : RA Mwent (0) 61) (qMout : RA Mout (0) 1) (qMcame : RA Mcame (-1) 1000000) (qMgone : RA Mgone (-1) 1000000) (qMlastOut : 0 ≤ MlastOut ∧ MlastOut ≤ 1000000) (qc : -2147483648 ≤ c ∧ c ≤ 2147483647) (qh : -2147483648 ≤ h ∧ h ≤ 2147483647) : Met l yX8_stand wsX8_stand ({ frames := 2, cells := 0, slots := 0, locals := 43 }) (va_Pc [.ref (oM 0), .int (zI c), .int (zI h)] (zPre D cI cB cZ sz (kM cI cB cZ oM Mthrown Mmany Mguest Mrow Mbars Mbar Mfresh Mtape Mtaped Mpos Mtoken MtokenAt Mvalue Mwrong MwrongAt MfaultKind MfaultPlace Mthing Morder Mone Mtwo Mbest Mcells Mgap Mwire Mstand Mruns Mminute Mhead Mplays Mrests Mwent Mout Mcame Mgone MlastOut))) (va_Qi (fun (r9 : Int32) (u9 : Int × Int × (Int → Int) × Int) => r9 = zI u9.1 ∧ (((0 : Int) ≤ u9.2.1 ∧ u9.2.1 ≤ 2) ∧ (RA u9.2.2.1 (0) 9) ∧ ((0 : Int) ≤ u9.2.2.2 ∧ u9.2.2.2 ≤ 1) ∧ ((((0 ≤ c ∧ c < Mcells) ∧ 0 ≤ h ∧ h ≤ 9) ∧ u9.1 = 1 ∧ u9.2.2.1 = uZ Mstand c h ∧ u9.2.2.2 = 0) ∨ (¬ ((0 ≤ c ∧ c < Mcells) ∧ 0 ≤ h ∧ h ≤ 9) ∧ u9.1 = 0 ∧ u9.2.2.1 = Mstand ∧ u9.2.2.2 = Mruns)) ∧ (u9.2.1 = 0))) (fun u9 t9 => zAt D cI cB cZ (va_A (kM cI cB cZ oM Mthrown Mmany Mguest Mrow Mbars Mbar Mfresh Mtape Mtaped Mpos Mtoken MtokenAt Mvalue Mwrong MwrongAt MfaultKind MfaultPlace Mthing Morder Mone Mtwo Mbest Mcells Mgap Mwire Mstand Mruns Mminute Mhead Mplays Mrests Mwent Mout Mcame Mgone MlastOut) sz) (kM cI cB cZ oM (u9.2.1) Mmany Mguest Mrow Mbars Mbar Mfresh Mtape Mtaped Mpos Mtoken MtokenAt Mvalue Mwrong MwrongAt MfaultKind MfaultPlace Mthing Morder Mone Mtwo Mbest Mcells Mgap Mwire (u9.2.2.1) (u9.2.2.2) Mminute Mhead Mplays Mrests Mwent Mout Mcame Mgone MlastOut) t9) (va_A (kM cI cB cZ oM Mthrown Mmany Mguest Mrow Mbars Mbar Mfresh Mtape Mtaped Mpos Mtoken MtokenAt Mvalue Mwrong MwrongAt MfaultKind MfaultPlace Mthing Morder Mone Mtwo Mbest Mcells Mgap Mwire Mstand Mruns Mminute Mhead Mplays Mrests Mwent Mout Mcame Mgone MlastOut) sz)) 0 0 (va_A (kM cI cB cZ oM Mthrown Mmany Mguest Mrow Mbars Mbar Mfresh Mtape Mtaped Mpos Mtoken MtokenAt Mvalue Mwrong MwrongAt MfaultKind MfaultPlace Mthing Morder Mone Mtwo Mbest Mcells Mgap Mwire Mstand Mruns Mminute Mhead Mplays Mrests Mwent Mout Mcame Mgone MlastOut) sz) := by
  refine Met.ofW (cc := cX8_stand) (maxL := 3) (ret := (some .boolean)) (by decide) rfl ?_
  intro pp ee s mm aa bw mt cd s₁ BL hml hv
  obtain ⟨rfl, hsz, hP, hK, hD0⟩ := hv
  have hx := BL.exec
  have hb := BL.bytes
  have hr := BL.returns
  have hts := atoms_spec (ws := wsX8_stand) BL.pre
  have hown : s.vm.findClass RX8 = some mm.cls := findClass_of_methodNamed BL.named
  have hlocks := BL.notSynchronized
  subst hsz
  generalize hAe : va_A (kM cI cB cZ oM Mthrown Mmany Mguest Mrow Mbars Mbar Mfresh Mtape Mtaped Mpos Mtoken MtokenAt Mvalue Mwrong MwrongAt MfaultKind MfaultPlace Mthing Morder Mone Mtwo Mbest Mcells Mgap Mwire Mstand Mruns Mminute Mhead Mplays Mrests Mwent Mout Mcame Mgone MlastOut) s.heap.size = A
  have hA : ∀ q : Nat, s.heap.size ≤ q → A q := fun q h => by rw [← hAe]; exact Or.inr h
  have hw : HW D A s.heap (kM cI cB cZ oM Mthrown Mmany Mguest Mrow Mbars Mbar Mfresh Mtape Mtaped Mpos Mtoken MtokenAt Mvalue Mwrong MwrongAt MfaultKind MfaultPlace Mthing Morder Mone Mtwo Mbest Mcells Mgap Mwire Mstand Mruns Mminute Mhead Mplays Mrests Mwent Mout Mcame Mgone MlastOut) s.heap [] := z_start hAe hP hD0
  clear hP hD0
  have hl := lv_entry ([.ref (oM 0), .int (zI c), .int (zI h)]) (n := 3) (Nat.le_of_ble_eq_true rfl)
  rw [lg_entry_eq]
  generalize (lg_sl ([.ref (oM 0), .int (zI c), .int (zI h)]) ++ List.replicate (3 - (lg_sl ([.ref (oM 0), .int (zI c), .int (zI h)])).length) Slot.unset).toArray = ls at hl ⊢
  have hl : lv_has ls 3 [(0, .ref (oM 0)), (1, .int (zI c)), (2, .int (zI h))] := hl
  have hinX8 : ∀ w ∈ wsX80, w ∈ wsX8_stand := by decide +kernel
  refine lv_aload_n hx hb dX8_stand_0 rfl (lv_at hl 0 rfl) ?_
  refine z_iconst hx hb dX8_stand_1 ?_
  refine z_put (D := D) (ci := 8) (v := .int (zI 0)) (ty := .int) (C := RX8) (T := TX8) (N := 36) (ws2 := kM cI cB cZ oM 0 Mmany Mguest Mrow Mbars Mbar Mfresh Mtape Mtaped Mpos Mtoken MtokenAt Mvalue Mwrong MwrongAt MfaultKind MfaultPlace Mthing Morder Mone Mtwo Mbest Mcells Mgap Mwire Mstand Mruns Mminute Mhead Mplays Mrests Mwent Mout Mcame Mgone MlastOut) hx hb hts hinX8 tyX8 tyX8_ok nmX8 hown hK hw 0 rfl rfl 0 (by decide) (hts (.fieldLink RX8 69 "CarnivalRoadModel" "thrown" "I") (by decide +kernel)) (fun _ h9 => h9) rfl (by decide +kernel) rfl rfl (Nat.le_of_ble_eq_true rfl) dX8_stand_2 rfl (fun H locs hw => ?_)
  refine lv_aload_n hx hb dX8_stand_5 rfl (lv_at hl 0 rfl) ?_
  refine lv_iload_n hx hb dX8_stand_6 rfl (lv_at hl 1 rfl) ?_
  have hF9 := z_free (wc := kM cI cB cZ oM 0 Mmany Mguest Mrow Mbars Mbar Mfresh Mtape Mtaped Mpos Mtoken MtokenAt Mvalue Mwrong MwrongAt MfaultKind MfaultPlace Mthing Morder Mone Mtwo Mbest Mcells Mgap Mwire Mstand Mruns Mminute Mhead Mplays Mrests Mwent Mout Mcame Mgone MlastOut) hw hA [0, 1, 2, 3, 4, 5, 6, 7, 8, 9, 10, 11, 12, 13, 14, 15, 16] rfl
  refine va_calli (va_runV (As := [.int (zI c)]) (rest := []) ⟨hx, hb, hml, hown, hts⟩ (c_X8_isCell l D cI cB cZ oM H.size 0 Mmany Mguest Mrow Mbars Mbar Mfresh Mtape Mtaped Mpos Mtoken MtokenAt Mvalue Mwrong MwrongAt MfaultKind MfaultPlace Mthing Morder Mone Mtwo Mbest Mcells Mgap Mwire Mstand Mruns Mminute Mhead Mplays Mrests Mwent Mout Mcame Mgone MlastOut c (by omega) (by omega) qMguest qMrow (by omega) qMbar qMfresh qMtape (by omega) (by omega) (by omega) (by omega) (by omega) (by omega) (by omega) (by omega) (by omega) (by omega) qMorder (by omega) (by omega) qMbest (by omega) (by omega) qMwire qMstand (by omega) (by omega) qMhead qMplays qMrests qMwent qMout qMcame qMgone (by omega) (by omega)) (cwV 1 hts gX8_stand_X8_isCell rfl rfl rfl (by decide +kernel) ⟨Nat.le_of_ble_eq_true rfl, Nat.le_of_ble_eq_true rfl⟩) ⟨zPre_blind, va_recv hK hw.1 (ci := 8) (q0 := 0) rfl rfl, z_pre hK hw [0, 1, 2, 3, 4, 5, 6, 7, 8, 9, 10, 11, 12, 13, 14, 15, 16] (by decide) rfl⟩ rfl rfl hl.1 rfl (lv_room (Nat.le_of_ble_eq_true rfl)) dX8_stand_7 ⟨Nat.zero_le _, Nat.zero_le _⟩) hw.2.2 (fun q _ h => hF9 q h) hF9 (fun r9 u9 t9 H_1 locs9 ht9 hvm9 hq9 hB9 hz9 hk9 hS9 => ?_)
  obtain ⟨r_2, rfl⟩ : ∃ z, z = u9 := ⟨_, rfl⟩
  try dsimp only at hq9 hB9
  obtain ⟨rfl, hq9⟩ := hq9
  have hq_3 := hq9
  have hw : HW D A s.heap (kM cI cB cZ oM 0 Mmany Mguest Mrow Mbars Mbar Mfresh Mtape Mtaped Mpos Mtoken MtokenAt Mvalue Mwrong MwrongAt MfaultKind MfaultPlace Mthing Morder Mone Mtwo Mbest Mcells Mgap Mwire Mstand Mruns Mminute Mhead Mplays Mrests Mwent Mout Mcame Mgone MlastOut) H_1 locs9 := z_after (wc := kM cI cB cZ oM 0 Mmany Mguest Mrow Mbars Mbar Mfresh Mtape Mtaped Mpos Mtoken MtokenAt Mvalue Mwrong MwrongAt MfaultKind MfaultPlace Mthing Morder Mone Mtwo Mbest Mcells Mgap Mwire Mstand Mruns Mminute Mhead Mplays Mrests Mwent Mout Mcame Mgone MlastOut) hw [0, 1, 2, 3, 4, 5, 6, 7, 8, 9, 10, 11, 12, 13, 14, 15, 16] [] rfl rfl (by decide) (by decide) hF9 hk9 ht9 hB9 hS9 [0, 1, 2, 3, 4, 5, 6, 7, 8, 9, 10, 11, 12, 13, 14, 15, 16] (by decide) rfl
  clear hF9 ht9 hvm9 hB9 hz9 hk9 hS9 hq9
  rcases hq_3 with ⟨hc_4, rfl⟩ | ⟨hc_4, rfl⟩
  · skip
    refine z_if_eq (tgt := 23) hx hb dX8_stand_10 (by decide) (by omega) (fun hc_5 => absurd hc_5 (by omega)) (fun hc_5 => ?_)
    refine lv_iload_n hx hb dX8_stand_13 rfl (lv_at hl 2 rfl) ?_
    refine z_iconst hx hb dX8_stand_14 ?_
    refine z_bipush hx hb dX8_stand_15 (by decide) ?_
    have hF9 := z_free (wc := ([] : va_W)) hw hA [] rfl
    refine va_calli (va_runS (As := [.int (zI h), .int (zI 0), .int (zI 9)]) (rest := []) ⟨hx, hb, hml, hown, hts⟩ (c_X8_isIn l D cI cB cZ H_1.size h 0 9 (by omega) (by omega) (by omega)) (va_cwS 3 hts gX8_stand_X8_isIn rfl rfl rfl (by decide +kernel) ⟨Nat.le_of_ble_eq_true rfl, Nat.le_of_ble_eq_true rfl⟩) ⟨zPre_blind, z_pre hK hw [] (by decide) rfl⟩ rfl rfl hl.1 rfl (lv_room (Nat.le_of_ble_eq_true rfl)) dX8_stand_17 ⟨Nat.zero_le _, Nat.zero_le _⟩) hw.2.2 (fun q _ h => hF9 q h) hF9 (fun r9 u9 t9 H_6 locs9 ht9 hvm9 hq9 hB9 hz9 hk9 hS9 => ?_)
    obtain ⟨r_7, rfl⟩ : ∃ z, z = u9 := ⟨_, rfl⟩
    try dsimp only at hq9 hB9
    obtain ⟨rfl, hq9⟩ := hq9
    have hq_8 := hq9
    have hw : HW D A s.heap (kM cI cB cZ oM 0 Mmany Mguest Mrow Mbars Mbar Mfresh Mtape Mtaped Mpos Mtoken MtokenAt Mvalue Mwrong MwrongAt MfaultKind MfaultPlace Mthing Morder Mone Mtwo Mbest Mcells Mgap Mwire Mstand Mruns Mminute Mhead Mplays Mrests Mwent Mout Mcame Mgone MlastOut) H_6 locs9 := z_after (wc := ([] : va_W)) hw [] [0, 1, 2, 3, 4, 5, 6, 7, 8, 9, 10, 11, 12, 13, 14, 15, 16] rfl rfl (by decide) (by decide) hF9 hk9 ht9 hB9 hS9 [0, 1, 2, 3, 4, 5, 6, 7, 8, 9, 10, 11, 12, 13, 14, 15, 16] (by decide) rfl
    clear hF9 ht9 hvm9 hB9 hz9 hk9 hS9 hq9
    rcases hq_8 with ⟨hc_9, rfl⟩ | ⟨hc_9, rfl⟩
    · skip
      refine z_if_ne (tgt := 25) hx hb dX8_stand_20 (by decide) (by omega) (fun hc_10 => ?_) (fun hc_10 => absurd hc_10 (by omega))
      refine lv_aload_n hx hb dX8_stand_25 rfl (lv_at hl 0 rfl) ?_
      refine va_get (D := D) (ci := 8) (v := .ref (oM 9)) (C := RX8) (T := TX8) (N := 36) hx hb hts hinX8 hown hK hw.1 0 rfl rfl 25 (by decide) (hts (.fieldLink RX8 44 "CarnivalRoadModel" "stand" "[I") (by decide +kernel)) (fun _ h9 => h9) rfl dX8_stand_26 ?_
      refine lv_iload_n hx hb dX8_stand_29 rfl (lv_at hl 1 rfl) ?_
      refine lv_iload_n hx hb dX8_stand_30 rfl (lv_at hl 2 rfl) ?_
      have hi_11 : (0 : Int) ≤ c ∧ c < ((50 : Nat) : Int) := by
        first | assumption | omega | grind
      have hv_12 : (0 : Int) ≤ h ∧ h ≤ 9 := by
        first | assumption | omega | grind
      have hR_13 : RA (uZ Mstand c h) (0) 9 := RA_up qMstand hv_12
      refine z_iast (n := 50) (f := Mstand) (ws2 := kM cI cB cZ oM 0 Mmany Mguest Mrow Mbars Mbar Mfresh Mtape Mtaped Mpos Mtoken MtokenAt Mvalue Mwrong MwrongAt MfaultKind MfaultPlace Mthing Morder Mone Mtwo Mbest Mcells Mgap Mwire (uZ Mstand c h) Mruns Mminute Mhead Mplays Mrests Mwent Mout Mcame Mgone MlastOut) hx hb hK hw 9 rfl (by decide) hi_11 dX8_stand_31 rfl (fun H locs hw => ?_)
      refine lv_aload_n hx hb dX8_stand_32 rfl (lv_at hl 0 rfl) ?_
      refine z_iconst hx hb dX8_stand_33 ?_
      refine z_put (D := D) (ci := 8) (v := .int (zI 0)) (ty := .boolean) (C := RX8) (T := TX8) (N := 36) (ws2 := kM cI cB cZ oM 0 Mmany Mguest Mrow Mbars Mbar Mfresh Mtape Mtaped Mpos Mtoken MtokenAt Mvalue Mwrong MwrongAt MfaultKind MfaultPlace Mthing Morder Mone Mtwo Mbest Mcells Mgap Mwire (uZ Mstand c h) 0 Mminute Mhead Mplays Mrests Mwent Mout Mcame Mgone MlastOut) hx hb hts hinX8 tyX8 tyX8_ok nmX8 hown hK hw 0 rfl rfl 26 (by decide) (hts (.fieldLink RX8 79 "CarnivalRoadModel" "runs" "Z") (by decide +kernel)) (fun _ h9 => h9) rfl (by decide +kernel) rfl rfl (Nat.le_of_ble_eq_true rfl) dX8_stand_34 rfl (fun H locs hw => ?_)
      refine z_iconst hx hb dX8_stand_37 ?_
      have hv_14 : (0 : Int) ≤ (0 : Int) ∧ (0 : Int) ≤ 2 := by
        first | assumption | omega | grind
      have hv_15 : (0 : Int) ≤ (0 : Int) ∧ (0 : Int) ≤ 1 := by
        first | assumption | omega | grind
      have hv_16 : (((0 ≤ c ∧ c < Mcells) ∧ 0 ≤ h ∧ h ≤ 9) ∧ (1 : Int) = 1 ∧ (uZ Mstand c h) = uZ Mstand c h ∧ (0 : Int) = 0) ∨ (¬ ((0 ≤ c ∧ c < Mcells) ∧ 0 ≤ h ∧ h ≤ 9) ∧ (1 : Int) = 0 ∧ (uZ Mstand c h) = Mstand ∧ (0 : Int) = Mruns) := by
        first | rfl | exact Or.inl ⟨by omega, rfl, rfl, rfl⟩ | exact Or.inr ⟨by omega, rfl, rfl, rfl⟩
      have hv_17 : (0 : Int) = 0 := by
        first | rfl | exact Or.inl ⟨by omega, rfl, rfl, rfl⟩ | exact Or.inr ⟨by omega, rfl, rfl, rfl⟩
      exact W.zret (v := zI 1) hx hb hr rfl (fun t9 ht hW => ⟨⟨zI 1, (1, 0, (uZ Mstand c h), 0), rfl, ⟨rfl, ⟨hv_14, hR_13, hv_15, hv_16, hv_17⟩⟩, by subst hAe; exact z_end hK hw ht hW⟩, by subst hAe; exact hw.2.2.F ht⟩) (by subst hAe; exact hw.2.2.2.2) dX8_stand_38
    · skip
      refine z_if_ne (tgt := 25) hx hb dX8_stand_20 (by decide) (by omega) (fun hc_18 => absurd hc_18 (by omega)) (fun hc_18 => ?_)
      refine z_iconst hx hb dX8_stand_23 ?_
      have hv_19 : (0 : Int) ≤ (0 : Int) ∧ (0 : Int) ≤ 2 := by
        first | assumption | omega | grind
      have hv_20 : (0 : Int) ≤ Mruns ∧ Mruns ≤ 1 := by
        first | assumption | omega | grind
      have hv_21 : (((0 ≤ c ∧ c < Mcells) ∧ 0 ≤ h ∧ h ≤ 9) ∧ (0 : Int) = 1 ∧ Mstand = uZ Mstand c h ∧ Mruns = 0) ∨ (¬ ((0 ≤ c ∧ c < Mcells) ∧ 0 ≤ h ∧ h ≤ 9) ∧ (0 : Int) = 0 ∧ Mstand = Mstand ∧ Mruns = Mruns) := by
        first | rfl | exact Or.inl ⟨by omega, rfl, rfl, rfl⟩ | exact Or.inr ⟨by omega, rfl, rfl, rfl⟩
      have hv_22 : (0 : Int) = 0 := by
        first | rfl | exact Or.inl ⟨by omega, rfl, rfl, rfl⟩ | exact Or.inr ⟨by omega, rfl, rfl, rfl⟩
      exact W.zret (v := zI 0) hx hb hr rfl (fun t9 ht hW => ⟨⟨zI 0, (0, 0, Mstand, Mruns), rfl, ⟨rfl, ⟨hv_19, qMstand, hv_20, hv_21, hv_22⟩⟩, by subst hAe; exact z_end hK hw ht hW⟩, by subst hAe; exact hw.2.2.F ht⟩) (by subst hAe; exact hw.2.2.2.2) dX8_stand_24
  · skip
    refine z_if_eq (tgt := 23) hx hb dX8_stand_10 (by decide) (by omega) (fun hc_23 => ?_) (fun hc_23 => absurd hc_23 (by omega))
    refine z_iconst hx hb dX8_stand_23 ?_
    have hv_24 : (0 : Int) ≤ (0 : Int) ∧ (0 : Int) ≤ 2 := by
      first | assumption | omega | grind
    have hv_25 : (0 : Int) ≤ Mruns ∧ Mruns ≤ 1 := by
      first | assumption | omega | grind
    have hv_26 : (((0 ≤ c ∧ c < Mcells) ∧ 0 ≤ h ∧ h ≤ 9) ∧ (0 : Int) = 1 ∧ Mstand = uZ Mstand c h ∧ Mruns = 0) ∨ (¬ ((0 ≤ c ∧ c < Mcells) ∧ 0 ≤ h ∧ h ≤ 9) ∧ (0 : Int) = 0 ∧ Mstand = Mstand ∧ Mruns = Mruns) := by
      first | rfl | exact Or.inl ⟨by omega, rfl, rfl, rfl⟩ | exact Or.inr ⟨by omega, rfl, rfl, rfl⟩
    have hv_27 : (0 : Int) = 0 := by
      first | rfl | exact Or.inl ⟨by omega, rfl, rfl, rfl⟩ | exact Or.inr ⟨by omega, rfl, rfl, rfl⟩
    exact W.zret (v := zI 0) hx hb hr rfl (fun t9 ht hW => ⟨⟨zI 0, (0, 0, Mstand, Mruns), rfl, ⟨rfl, ⟨hv_24, qMstand, hv_25, hv_26, hv_27⟩⟩, by subst hAe; exact z_end hK hw ht hW⟩, by subst hAe; exact hw.2.2.F ht⟩) (by subst hAe; exact hw.2.2.2.2) dX8_stand_24
