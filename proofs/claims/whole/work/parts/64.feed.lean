set_option maxRecDepth 100000 in
set_option maxHeartbeats 4000000 in
theorem c_X7_feed (l : Launch) (D : va_G) (cI cB cZ : ClassId) (oR : Nat → Nat) (oC : Nat → Nat) (aRguests : Nat) (aCguests : Nat) (aCbars : Nat) (aCspare : Nat) (aCsearch : Nat) (aCbreach : Nat) (aCstreet : Nat) (aCparade : Nat) (aCtrial : Nat) (sz : Nat) (Rtape : Int → Int) (Rlen : Int) (Rfn : Int) (Rfp : Int) (Rtok : Int) (Rts : Int) (Rte : Int) (Rval : Int) (Crow : Int → Int) (Cquiet : Int → Int) (Crun : Int) (a : Int) (b : Int) (c : Int) (d : Int) (e : Int) (qRtape : RA Rtape (-128) 127) (qRlen : 0 ≤ Rlen ∧ Rlen ≤ 400) (qRfn : 0 ≤ Rfn ∧ Rfn ≤ 3) (qRfp : -1 ≤ Rfp ∧ Rfp ≤ 400) (qRtok : 1 ≤ Rtok ∧ Rtok ≤ 11) (qRts : 0 ≤ Rts ∧ Rts ≤ 400) (qRte : 0 ≤ Rte ∧ Rte ≤ 400) (qRval : 0 ≤ Rval ∧ Rval ≤ 999) (qCrow : RA Crow (0) 7) (qCquiet : RA Cquiet (0) 7) (qCrun : 0 ≤ Crun ∧ Crun ≤ 1) (qa : -2147483648 ≤ a ∧ a ≤ 2147483647) (qb : -2147483648 ≤ b ∧ b ≤ 2147483647) (qc : -2147483648 ≤ c ∧ c ≤ 2147483647) (qd : -2147483648 ≤ d ∧ d ≤ 2147483647) (qe : -2147483648 ≤ e ∧ e ≤ 2147483647) : Met l yX7_feed wsX7_feed ({ frames := 1, cells := 0, slots := 0, locals := 22 }) (va_Pc [.ref (oC 0), .int (zI a), .int (zI b), .int (zI c), .int (zI d), .int (zI e)] (zPre D cI cB cZ sz (kR cI cB cZ oR aRguests Rtape Rlen Rfn Rfp Rtok Rts Rte Rval ++ kC cI cB cZ oC aCguests Crow Cquiet (oR 0) aCbars aCspare aCsearch aCbreach aCstreet aCparade aCtrial Crun))) (va_Qi (fun (r9 : Int32) (u9 : Int × (Int → Int) × Int) => r9 = zI u9.1 ∧ ((RA u9.2.1 (-128) 127) ∧ ((0 : Int) ≤ u9.2.2 ∧ u9.2.2 ≤ 400) ∧ ((400 < Rlen + 20 ∧ u9.1 = -1 ∧ u9.2.1 = Rtape ∧ u9.2.2 = Rlen) ∨ (Rlen + 20 ≤ 400 ∧ u9.1 = u9.2.2 ∧ u9.2.2 = Rlen + 20 ∧ fedP sgU Rtape u9.2.1 Rlen a b c d e)))) (fun u9 t9 => zAt D cI cB cZ (va_A (kR cI cB cZ oR aRguests Rtape Rlen Rfn Rfp Rtok Rts Rte Rval ++ kC cI cB cZ oC aCguests Crow Cquiet (oR 0) aCbars aCspare aCsearch aCbreach aCstreet aCparade aCtrial Crun) sz) (kR cI cB cZ oR aRguests (u9.2.1) (u9.2.2) Rfn Rfp Rtok Rts Rte Rval ++ kC cI cB cZ oC aCguests Crow Cquiet (oR 0) aCbars aCspare aCsearch aCbreach aCstreet aCparade aCtrial Crun) t9) (va_A (kR cI cB cZ oR aRguests Rtape Rlen Rfn Rfp Rtok Rts Rte Rval ++ kC cI cB cZ oC aCguests Crow Cquiet (oR 0) aCbars aCspare aCsearch aCbreach aCstreet aCparade aCtrial Crun) sz)) 0 0 (va_A (kR cI cB cZ oR aRguests Rtape Rlen Rfn Rfp Rtok Rts Rte Rval ++ kC cI cB cZ oC aCguests Crow Cquiet (oR 0) aCbars aCspare aCsearch aCbreach aCstreet aCparade aCtrial Crun) sz) := by
  refine Met.ofW (cc := cX7_feed) (maxL := 6) (ret := (some .int)) (by decide) rfl ?_
  intro pp ee s mm aa bw mt cd s₁ BL hml hv
  obtain ⟨rfl, hsz, hP, hK, hD0⟩ := hv
  have hx := BL.exec
  have hb := BL.bytes
  have hr := BL.returns
  have hts := atoms_spec (ws := wsX7_feed) BL.pre
  have hown : s.vm.findClass RX7 = some mm.cls := findClass_of_methodNamed BL.named
  have hlocks := BL.notSynchronized
  subst hsz
  generalize hAe : va_A (kR cI cB cZ oR aRguests Rtape Rlen Rfn Rfp Rtok Rts Rte Rval ++ kC cI cB cZ oC aCguests Crow Cquiet (oR 0) aCbars aCspare aCsearch aCbreach aCstreet aCparade aCtrial Crun) s.heap.size = A
  have hA : ∀ q : Nat, s.heap.size ≤ q → A q := fun q h => by rw [← hAe]; exact Or.inr h
  have hw : HW D A s.heap (kR cI cB cZ oR aRguests Rtape Rlen Rfn Rfp Rtok Rts Rte Rval ++ kC cI cB cZ oC aCguests Crow Cquiet (oR 0) aCbars aCspare aCsearch aCbreach aCstreet aCparade aCtrial Crun) s.heap [] := z_start hAe hP hD0
  clear hP hD0
  have hl := lv_entry ([.ref (oC 0), .int (zI a), .int (zI b), .int (zI c), .int (zI d), .int (zI e)]) (n := 6) (Nat.le_of_ble_eq_true rfl)
  rw [lg_entry_eq]
  generalize (lg_sl ([.ref (oC 0), .int (zI a), .int (zI b), .int (zI c), .int (zI d), .int (zI e)]) ++ List.replicate (6 - (lg_sl ([.ref (oC 0), .int (zI a), .int (zI b), .int (zI c), .int (zI d), .int (zI e)])).length) Slot.unset).toArray = ls at hl ⊢
  have hl : lv_has ls 6 [(0, .ref (oC 0)), (1, .int (zI a)), (2, .int (zI b)), (3, .int (zI c)), (4, .int (zI d)), (5, .int (zI e))] := hl
  have hinX4 : ∀ w ∈ wsX40, w ∈ wsX7_feed := by decide +kernel
  have hinX7 : ∀ w ∈ wsX70, w ∈ wsX7_feed := by decide +kernel
  refine lv_aload_n hx hb dX7_feed_0 rfl (lv_at hl 0 rfl) ?_
  refine va_get (D := D) (ci := 7) (v := .ref (oR 0)) (C := RX7) (T := TX7) (N := 12) hx hb hts hinX7 hown hK hw.1 2 rfl rfl 3 (by decide) (hts (.fieldLink RX7 28 "CarnivalRoad" "reader" "LCarnivalRoad$Reader;") (by decide +kernel)) (fun _ h9 => h9) rfl dX7_feed_1 ?_
  refine va_get (D := D) (ci := 4) (v := .int (zI Rlen)) (C := RX4) (T := TX4) (N := 9) hx hb hts hinX4 hown hK hw.1 0 rfl rfl 2 (by decide) (hts (.fieldLink RX7 110 "CarnivalRoad$Reader" "length" "I") (by decide +kernel)) (fun _ h9 => h9) rfl dX7_feed_4 ?_
  refine z_bipush hx hb dX7_feed_7 (by decide) ?_
  refine z_iadd hx hb dX7_feed_9 ?_
  refine z_sipush hx hb dX7_feed_10 (by decide) ?_
  refine z_icmp_le (tgt := 18) hx hb dX7_feed_13 (by decide) (by omega) (fun hc_1 => ?_) (fun hc_1 => ?_)
  · skip
    refine lv_aload_n hx hb dX7_feed_18 rfl (lv_at hl 0 rfl) ?_
    refine va_get (D := D) (ci := 7) (v := .ref (oR 0)) (C := RX7) (T := TX7) (N := 12) hx hb hts hinX7 hown hK hw.1 2 rfl rfl 3 (by decide) (hts (.fieldLink RX7 28 "CarnivalRoad" "reader" "LCarnivalRoad$Reader;") (by decide +kernel)) (fun _ h9 => h9) rfl dX7_feed_19 ?_
    refine lv_iload_n hx hb dX7_feed_22 rfl (lv_at hl 1 rfl) ?_
    have hpre_2 : Rlen ≤ 396 := by
      omega
    have hF9 := z_free (wc := kR cI cB cZ oR aRguests Rtape Rlen Rfn Rfp Rtok Rts Rte Rval) hw hA [0, 1] rfl
    refine va_callv (va_runV (As := [.int (zI a)]) (rest := []) ⟨hx, hb, hml, hown, hts⟩ (c_X4_addFour l D cI cB cZ oR aRguests s.heap.size Rtape Rlen Rfn Rfp Rtok Rts Rte Rval a qRtape (by omega) (by omega) (by omega) (by omega) (by omega) (by omega) (by omega) (by omega) hpre_2) (cwV 1 hts gX7_feed_X4_addFour rfl rfl rfl (by decide +kernel) ⟨Nat.le_of_ble_eq_true rfl, Nat.le_of_ble_eq_true rfl⟩) ⟨zPre_blind, va_recv hK hw.1 (ci := 4) (q0 := 0) rfl rfl, z_pre hK hw [0, 1] (by decide) rfl⟩ rfl rfl hl.1 rfl (lv_room (Nat.le_of_ble_eq_true rfl)) dX7_feed_23 ⟨Nat.zero_le _, Nat.zero_le _⟩) hw.2.2 (fun q _ h => hF9 q h) hF9 (fun u9 t9 H_3 locs9 ht9 hvm9 hq9 hB9 hz9 hk9 hS9 => ?_)
    obtain ⟨Rtape_4, Rlen_5⟩ := u9
    try dsimp only at hq9 hB9
    obtain ⟨hq_6, hq_7, hq_8, hq_9, hq_10⟩ := hq9
    have hw : HW D A s.heap (kR cI cB cZ oR aRguests Rtape_4 Rlen_5 Rfn Rfp Rtok Rts Rte Rval ++ kC cI cB cZ oC aCguests Crow Cquiet (oR 0) aCbars aCspare aCsearch aCbreach aCstreet aCparade aCtrial Crun) H_3 locs9 := z_after (wc := kR cI cB cZ oR aRguests Rtape Rlen Rfn Rfp Rtok Rts Rte Rval) hw [0, 1] [2, 3, 4] rfl rfl (by decide) (by decide) hF9 hk9 ht9 hB9 hS9 [3, 4, 0, 1, 2] (by decide) rfl
    clear hF9 ht9 hvm9 hB9 hz9 hk9 hS9
    have l1 := hq_8
    have f1 := hq_9
    have g1 := hq_10
    refine lv_aload_n hx hb dX7_feed_26 rfl (lv_at hl 0 rfl) ?_
    refine va_get (D := D) (ci := 7) (v := .ref (oR 0)) (C := RX7) (T := TX7) (N := 12) hx hb hts hinX7 hown hK hw.1 2 rfl rfl 3 (by decide) (hts (.fieldLink RX7 28 "CarnivalRoad" "reader" "LCarnivalRoad$Reader;") (by decide +kernel)) (fun _ h9 => h9) rfl dX7_feed_27 ?_
    refine lv_iload_n hx hb dX7_feed_30 rfl (lv_at hl 2 rfl) ?_
    have hpre_11 : Rlen_5 ≤ 396 := by
      omega
    have hF9 := z_free (wc := kR cI cB cZ oR aRguests Rtape_4 Rlen_5 Rfn Rfp Rtok Rts Rte Rval) hw hA [0, 1] rfl
    refine va_callv (va_runV (As := [.int (zI b)]) (rest := []) ⟨hx, hb, hml, hown, hts⟩ (c_X4_addFour l D cI cB cZ oR aRguests H_3.size Rtape_4 Rlen_5 Rfn Rfp Rtok Rts Rte Rval b hq_6 (by omega) (by omega) (by omega) (by omega) (by omega) (by omega) (by omega) (by omega) hpre_11) (cwV 1 hts gX7_feed_X4_addFour rfl rfl rfl (by decide +kernel) ⟨Nat.le_of_ble_eq_true rfl, Nat.le_of_ble_eq_true rfl⟩) ⟨zPre_blind, va_recv hK hw.1 (ci := 4) (q0 := 0) rfl rfl, z_pre hK hw [0, 1] (by decide) rfl⟩ rfl rfl hl.1 rfl (lv_room (Nat.le_of_ble_eq_true rfl)) dX7_feed_31 ⟨Nat.zero_le _, Nat.zero_le _⟩) hw.2.2 (fun q _ h => hF9 q h) hF9 (fun u9 t9 H_12 locs9 ht9 hvm9 hq9 hB9 hz9 hk9 hS9 => ?_)
    obtain ⟨Rtape_13, Rlen_14⟩ := u9
    try dsimp only at hq9 hB9
    obtain ⟨hq_15, hq_16, hq_17, hq_18, hq_19⟩ := hq9
    have hw : HW D A s.heap (kR cI cB cZ oR aRguests Rtape_13 Rlen_14 Rfn Rfp Rtok Rts Rte Rval ++ kC cI cB cZ oC aCguests Crow Cquiet (oR 0) aCbars aCspare aCsearch aCbreach aCstreet aCparade aCtrial Crun) H_12 locs9 := z_after (wc := kR cI cB cZ oR aRguests Rtape_4 Rlen_5 Rfn Rfp Rtok Rts Rte Rval) hw [0, 1] [2, 3, 4] rfl rfl (by decide) (by decide) hF9 hk9 ht9 hB9 hS9 [3, 4, 0, 1, 2] (by decide) rfl
    clear hF9 ht9 hvm9 hB9 hz9 hk9 hS9
    have l2 := hq_17
    have f2 := hq_18
    have g2 := hq_19
    refine lv_aload_n hx hb dX7_feed_34 rfl (lv_at hl 0 rfl) ?_
    refine va_get (D := D) (ci := 7) (v := .ref (oR 0)) (C := RX7) (T := TX7) (N := 12) hx hb hts hinX7 hown hK hw.1 2 rfl rfl 3 (by decide) (hts (.fieldLink RX7 28 "CarnivalRoad" "reader" "LCarnivalRoad$Reader;") (by decide +kernel)) (fun _ h9 => h9) rfl dX7_feed_35 ?_
    refine lv_iload_n hx hb dX7_feed_38 rfl (lv_at hl 3 rfl) ?_
    have hpre_20 : Rlen_14 ≤ 396 := by
      omega
    have hF9 := z_free (wc := kR cI cB cZ oR aRguests Rtape_13 Rlen_14 Rfn Rfp Rtok Rts Rte Rval) hw hA [0, 1] rfl
    refine va_callv (va_runV (As := [.int (zI c)]) (rest := []) ⟨hx, hb, hml, hown, hts⟩ (c_X4_addFour l D cI cB cZ oR aRguests H_12.size Rtape_13 Rlen_14 Rfn Rfp Rtok Rts Rte Rval c hq_15 (by omega) (by omega) (by omega) (by omega) (by omega) (by omega) (by omega) (by omega) hpre_20) (cwV 1 hts gX7_feed_X4_addFour rfl rfl rfl (by decide +kernel) ⟨Nat.le_of_ble_eq_true rfl, Nat.le_of_ble_eq_true rfl⟩) ⟨zPre_blind, va_recv hK hw.1 (ci := 4) (q0 := 0) rfl rfl, z_pre hK hw [0, 1] (by decide) rfl⟩ rfl rfl hl.1 rfl (lv_room (Nat.le_of_ble_eq_true rfl)) dX7_feed_39 ⟨Nat.zero_le _, Nat.zero_le _⟩) hw.2.2 (fun q _ h => hF9 q h) hF9 (fun u9 t9 H_21 locs9 ht9 hvm9 hq9 hB9 hz9 hk9 hS9 => ?_)
    obtain ⟨Rtape_22, Rlen_23⟩ := u9
    try dsimp only at hq9 hB9
    obtain ⟨hq_24, hq_25, hq_26, hq_27, hq_28⟩ := hq9
    have hw : HW D A s.heap (kR cI cB cZ oR aRguests Rtape_22 Rlen_23 Rfn Rfp Rtok Rts Rte Rval ++ kC cI cB cZ oC aCguests Crow Cquiet (oR 0) aCbars aCspare aCsearch aCbreach aCstreet aCparade aCtrial Crun) H_21 locs9 := z_after (wc := kR cI cB cZ oR aRguests Rtape_13 Rlen_14 Rfn Rfp Rtok Rts Rte Rval) hw [0, 1] [2, 3, 4] rfl rfl (by decide) (by decide) hF9 hk9 ht9 hB9 hS9 [3, 4, 0, 1, 2] (by decide) rfl
    clear hF9 ht9 hvm9 hB9 hz9 hk9 hS9
    have l3 := hq_26
    have f3 := hq_27
    have g3 := hq_28
    refine lv_aload_n hx hb dX7_feed_42 rfl (lv_at hl 0 rfl) ?_
    refine va_get (D := D) (ci := 7) (v := .ref (oR 0)) (C := RX7) (T := TX7) (N := 12) hx hb hts hinX7 hown hK hw.1 2 rfl rfl 3 (by decide) (hts (.fieldLink RX7 28 "CarnivalRoad" "reader" "LCarnivalRoad$Reader;") (by decide +kernel)) (fun _ h9 => h9) rfl dX7_feed_43 ?_
    refine lv_iload hx hb dX7_feed_46 (lv_at hl 4 rfl) ?_
    have hpre_29 : Rlen_23 ≤ 396 := by
      omega
    have hF9 := z_free (wc := kR cI cB cZ oR aRguests Rtape_22 Rlen_23 Rfn Rfp Rtok Rts Rte Rval) hw hA [0, 1] rfl
    refine va_callv (va_runV (As := [.int (zI d)]) (rest := []) ⟨hx, hb, hml, hown, hts⟩ (c_X4_addFour l D cI cB cZ oR aRguests H_21.size Rtape_22 Rlen_23 Rfn Rfp Rtok Rts Rte Rval d hq_24 (by omega) (by omega) (by omega) (by omega) (by omega) (by omega) (by omega) (by omega) hpre_29) (cwV 1 hts gX7_feed_X4_addFour rfl rfl rfl (by decide +kernel) ⟨Nat.le_of_ble_eq_true rfl, Nat.le_of_ble_eq_true rfl⟩) ⟨zPre_blind, va_recv hK hw.1 (ci := 4) (q0 := 0) rfl rfl, z_pre hK hw [0, 1] (by decide) rfl⟩ rfl rfl hl.1 rfl (lv_room (Nat.le_of_ble_eq_true rfl)) dX7_feed_48 ⟨Nat.zero_le _, Nat.zero_le _⟩) hw.2.2 (fun q _ h => hF9 q h) hF9 (fun u9 t9 H_30 locs9 ht9 hvm9 hq9 hB9 hz9 hk9 hS9 => ?_)
    obtain ⟨Rtape_31, Rlen_32⟩ := u9
    try dsimp only at hq9 hB9
    obtain ⟨hq_33, hq_34, hq_35, hq_36, hq_37⟩ := hq9
    have hw : HW D A s.heap (kR cI cB cZ oR aRguests Rtape_31 Rlen_32 Rfn Rfp Rtok Rts Rte Rval ++ kC cI cB cZ oC aCguests Crow Cquiet (oR 0) aCbars aCspare aCsearch aCbreach aCstreet aCparade aCtrial Crun) H_30 locs9 := z_after (wc := kR cI cB cZ oR aRguests Rtape_22 Rlen_23 Rfn Rfp Rtok Rts Rte Rval) hw [0, 1] [2, 3, 4] rfl rfl (by decide) (by decide) hF9 hk9 ht9 hB9 hS9 [3, 4, 0, 1, 2] (by decide) rfl
    clear hF9 ht9 hvm9 hB9 hz9 hk9 hS9
    have l4 := hq_35
    have f4 := hq_36
    have g4 := hq_37
    refine lv_aload_n hx hb dX7_feed_51 rfl (lv_at hl 0 rfl) ?_
    refine va_get (D := D) (ci := 7) (v := .ref (oR 0)) (C := RX7) (T := TX7) (N := 12) hx hb hts hinX7 hown hK hw.1 2 rfl rfl 3 (by decide) (hts (.fieldLink RX7 28 "CarnivalRoad" "reader" "LCarnivalRoad$Reader;") (by decide +kernel)) (fun _ h9 => h9) rfl dX7_feed_52 ?_
    refine lv_iload hx hb dX7_feed_55 (lv_at hl 5 rfl) ?_
    have hpre_38 : Rlen_32 ≤ 396 := by
      omega
    have hF9 := z_free (wc := kR cI cB cZ oR aRguests Rtape_31 Rlen_32 Rfn Rfp Rtok Rts Rte Rval) hw hA [0, 1] rfl
    refine va_callv (va_runV (As := [.int (zI e)]) (rest := []) ⟨hx, hb, hml, hown, hts⟩ (c_X4_addFour l D cI cB cZ oR aRguests H_30.size Rtape_31 Rlen_32 Rfn Rfp Rtok Rts Rte Rval e hq_33 (by omega) (by omega) (by omega) (by omega) (by omega) (by omega) (by omega) (by omega) hpre_38) (cwV 1 hts gX7_feed_X4_addFour rfl rfl rfl (by decide +kernel) ⟨Nat.le_of_ble_eq_true rfl, Nat.le_of_ble_eq_true rfl⟩) ⟨zPre_blind, va_recv hK hw.1 (ci := 4) (q0 := 0) rfl rfl, z_pre hK hw [0, 1] (by decide) rfl⟩ rfl rfl hl.1 rfl (lv_room (Nat.le_of_ble_eq_true rfl)) dX7_feed_57 ⟨Nat.zero_le _, Nat.zero_le _⟩) hw.2.2 (fun q _ h => hF9 q h) hF9 (fun u9 t9 H_39 locs9 ht9 hvm9 hq9 hB9 hz9 hk9 hS9 => ?_)
    obtain ⟨Rtape_40, Rlen_41⟩ := u9
    try dsimp only at hq9 hB9
    obtain ⟨hq_42, hq_43, hq_44, hq_45, hq_46⟩ := hq9
    have hw : HW D A s.heap (kR cI cB cZ oR aRguests Rtape_40 Rlen_41 Rfn Rfp Rtok Rts Rte Rval ++ kC cI cB cZ oC aCguests Crow Cquiet (oR 0) aCbars aCspare aCsearch aCbreach aCstreet aCparade aCtrial Crun) H_39 locs9 := z_after (wc := kR cI cB cZ oR aRguests Rtape_31 Rlen_32 Rfn Rfp Rtok Rts Rte Rval) hw [0, 1] [2, 3, 4] rfl rfl (by decide) (by decide) hF9 hk9 ht9 hB9 hS9 [3, 4, 0, 1, 2] (by decide) rfl
    clear hF9 ht9 hvm9 hB9 hz9 hk9 hS9
    have l5 := hq_44
    have f5 := hq_45
    have g5 := hq_46
    refine lv_aload_n hx hb dX7_feed_60 rfl (lv_at hl 0 rfl) ?_
    refine va_get (D := D) (ci := 7) (v := .ref (oR 0)) (C := RX7) (T := TX7) (N := 12) hx hb hts hinX7 hown hK hw.1 2 rfl rfl 3 (by decide) (hts (.fieldLink RX7 28 "CarnivalRoad" "reader" "LCarnivalRoad$Reader;") (by decide +kernel)) (fun _ h9 => h9) rfl dX7_feed_61 ?_
    refine va_get (D := D) (ci := 4) (v := .int (zI Rlen_41)) (C := RX4) (T := TX4) (N := 9) hx hb hts hinX4 hown hK hw.1 0 rfl rfl 2 (by decide) (hts (.fieldLink RX7 110 "CarnivalRoad$Reader" "length" "I") (by decide +kernel)) (fun _ h9 => h9) rfl dX7_feed_64 ?_
    have hv_47 : (0 : Int) ≤ Rlen_41 ∧ Rlen_41 ≤ 400 := by
      first | assumption | omega | grind
    have hv_48 : (400 < Rlen + 20 ∧ Rlen_41 = -1 ∧ Rtape_40 = Rtape ∧ Rlen_41 = Rlen) ∨ (Rlen + 20 ≤ 400 ∧ Rlen_41 = Rlen_41 ∧ Rlen_41 = Rlen + 20 ∧ fedP sgU Rtape Rtape_40 Rlen a b c d e) := by
      exact Or.inr ⟨by omega, rfl, by omega, fed_5 (by omega) l1 f1 g1 l2 f2 g2 l3 f3 g3 l4 f4 g4 l5 f5 g5⟩
    exact W.iret (v := zI Rlen_41) hx hb hr (fun t9 ht hW => ⟨⟨zI Rlen_41, (Rlen_41, Rtape_40, Rlen_41), rfl, ⟨rfl, ⟨hq_42, hv_47, hv_48⟩⟩, by subst hAe; exact z_end hK hw ht hW⟩, by subst hAe; exact hw.2.2.F ht⟩) (by subst hAe; exact hw.2.2.2.2) dX7_feed_67
  · skip
    refine z_iconst hx hb dX7_feed_16 ?_
    have hv_49 : (0 : Int) ≤ Rlen ∧ Rlen ≤ 400 := by
      first | assumption | omega | grind
    have hv_50 : (400 < Rlen + 20 ∧ ((-1) : Int) = -1 ∧ Rtape = Rtape ∧ Rlen = Rlen) ∨ (Rlen + 20 ≤ 400 ∧ ((-1) : Int) = Rlen ∧ Rlen = Rlen + 20 ∧ fedP sgU Rtape Rtape Rlen a b c d e) := by
      exact Or.inl ⟨by omega, rfl, rfl, rfl⟩
    exact W.iret (v := zI (-1)) hx hb hr (fun t9 ht hW => ⟨⟨zI (-1), ((-1), Rtape, Rlen), rfl, ⟨rfl, ⟨qRtape, hv_49, hv_50⟩⟩, by subst hAe; exact z_end hK hw ht hW⟩, by subst hAe; exact hw.2.2.F ht⟩) (by subst hAe; exact hw.2.2.2.2) dX7_feed_17
