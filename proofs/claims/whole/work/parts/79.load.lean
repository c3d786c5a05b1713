set_option maxRecDepth 100000 in
set_option maxHeartbeats 4000000 in
theorem c_X7_load (l : Launch) (D : va_G) (cI cB cZ : ClassId) (aK aV : Nat → Nat) (oG : Nat → Nat) (oR : Nat → Nat) (oB : Nat → Nat) (oD : Nat → Nat) (oC : Nat → Nat) (aCsearch : Nat) (aCbreach : Nat) (aCstreet : Nat) (aCparade : Nat) (aCtrial : Nat) (sz : Nat) (Gn : Int) (Gki : Int → Int) (Gle : Int → Int) (Glo : Int → Int) (Gta : Int → Int) (Gsh : Int → Int) (Rtape : Int → Int) (Rlen : Int) (Rfn : Int) (Rfp : Int) (Rtok : Int) (Rts : Int) (Rte : Int) (Rval : Int) (Bcnt : Int) (Bwo : Int → Int) (Bon : Int → Int) (Btw : Int → Int) (Bnu : Int → Int) (Dcnt : Int) (Dwo : Int → Int) (Don : Int → Int) (Dtw : Int → Int) (Dnu : Int → Int) (Crow : Int → Int) (Cquiet : Int → Int) (Crun : Int) (qGn : 0 ≤ Gn ∧ Gn ≤ 8) (qGki : RA Gki (0) 4) (qGle : RA Gle (0) 5) (qGlo : RA Glo (0) 9) (qGta : RA Gta (0) 9) (qGsh : RA Gsh (0) 9) (qRtape : RA Rtape (-128) 127) (qRlen : 0 ≤ Rlen ∧ Rlen ≤ 400) (qRfn : 0 ≤ Rfn ∧ Rfn ≤ 3) (qRfp : -1 ≤ Rfp ∧ Rfp ≤ 400) (qRtok : 1 ≤ Rtok ∧ Rtok ≤ 11) (qRts : 0 ≤ Rts ∧ Rts ≤ 400) (qRte : 0 ≤ Rte ∧ Rte ≤ 400) (qRval : 0 ≤ Rval ∧ Rval ≤ 999) (qBcnt : 0 ≤ Bcnt ∧ Bcnt ≤ 10) (qBwo : RA Bwo (0) 11) (qBon : RA Bon (0) 12) (qBtw : RA Btw (0) 12) (qBnu : RA Bnu (0) 18) (qDcnt : 0 ≤ Dcnt ∧ Dcnt ≤ 10) (qDwo : RA Dwo (0) 11) (qDon : RA Don (0) 12) (qDtw : RA Dtw (0) 12) (qDnu : RA Dnu (0) 18) (qCrow : RA Crow (0) 7) (qCquiet : RA Cquiet (0) 7) (qCrun : 0 ≤ Crun ∧ Crun ≤ 1) : Met l yX7_load wsX7_load ({ frames := 11, cells := 0, slots := 0, locals := 241 }) (va_Pc [.ref (oC 0)] (zPreX aK aV D cI cB cZ sz (kG cI cB cZ oG Gn Gki Gle Glo Gta Gsh ++ kR cI cB cZ oR (oG 0) Rtape Rlen Rfn Rfp Rtok Rts Rte Rval ++ kB cI cB cZ oB (oG 0) Bcnt Bwo Bon Btw Bnu ++ kB cI cB cZ oD (oG 0) Dcnt Dwo Don Dtw Dnu ++ kC cI cB cZ oC (oG 0) Crow Cquiet (oR 0) (oB 0) (oD 0) aCsearch aCbreach aCstreet aCparade aCtrial Crun))) (va_Qi (fun (r9 : Int32) (u9 : Int × Int × Int × Int × Int × Int × Int × Int × Int × (Int → Int) × (Int → Int) × (Int → Int) × (Int → Int) × Int × (Int → Int) × (Int → Int) × (Int → Int) × (Int → Int) × (Nat → Nat) × (Nat → Nat)) => r9 = zI u9.1 ∧ (((0 : Int) ≤ u9.2.1 ∧ u9.2.1 ≤ 400) ∧ ((0 : Int) ≤ u9.2.2.1 ∧ u9.2.2.1 ≤ 3) ∧ ((-1 : Int) ≤ u9.2.2.2.1 ∧ u9.2.2.2.1 ≤ 400) ∧ ((1 : Int) ≤ u9.2.2.2.2.1 ∧ u9.2.2.2.2.1 ≤ 11) ∧ ((0 : Int) ≤ u9.2.2.2.2.2.1 ∧ u9.2.2.2.2.2.1 ≤ 400) ∧ ((0 : Int) ≤ u9.2.2.2.2.2.2.1 ∧ u9.2.2.2.2.2.2.1 ≤ 400) ∧ ((0 : Int) ≤ u9.2.2.2.2.2.2.2.1 ∧ u9.2.2.2.2.2.2.2.1 ≤ 999) ∧ ((0 : Int) ≤ u9.2.2.2.2.2.2.2.2.1 ∧ u9.2.2.2.2.2.2.2.2.1 ≤ 10) ∧ (RA u9.2.2.2.2.2.2.2.2.2.1 (0) 11) ∧ (RA u9.2.2.2.2.2.2.2.2.2.2.1 (0) 12) ∧ (RA u9.2.2.2.2.2.2.2.2.2.2.2.1 (0) 12) ∧ (RA u9.2.2.2.2.2.2.2.2.2.2.2.2.1 (0) 18) ∧ ((0 : Int) ≤ u9.2.2.2.2.2.2.2.2.2.2.2.2.2.1 ∧ u9.2.2.2.2.2.2.2.2.2.2.2.2.2.1 ≤ 10) ∧ (RA u9.2.2.2.2.2.2.2.2.2.2.2.2.2.2.1 (0) 11) ∧ (RA u9.2.2.2.2.2.2.2.2.2.2.2.2.2.2.2.1 (0) 12) ∧ (RA u9.2.2.2.2.2.2.2.2.2.2.2.2.2.2.2.2.1 (0) 12) ∧ (RA u9.2.2.2.2.2.2.2.2.2.2.2.2.2.2.2.2.2.1 (0) 18) ∧ ((¬ (allQ Rtape Rlen Gn Dwo Don Dtw Dnu).1.1 = 0 ∧ u9.1 = -1 ∧ u9.2.2.2.2.2.2.2.2.2.2.2.2.2.2.2.2.2.2.1 = oB ∧ u9.2.2.2.2.2.2.2.2.2.2.2.2.2.2.2.2.2.2.2 = oD ∧ u9.2.2.2.2.2.2.2.2.1 = Bcnt ∧ u9.2.2.2.2.2.2.2.2.2.1 = Bwo ∧ u9.2.2.2.2.2.2.2.2.2.2.1 = Bon ∧ u9.2.2.2.2.2.2.2.2.2.2.2.1 = Btw ∧ u9.2.2.2.2.2.2.2.2.2.2.2.2.1 = Bnu ∧ u9.2.2.2.2.2.2.2.2.2.2.2.2.2.2.1 = (allQ Rtape Rlen Gn Dwo Don Dtw Dnu).2.2.1) ∨ ((allQ Rtape Rlen Gn Dwo Don Dtw Dnu).1.1 = 0 ∧ u9.1 = (allQ Rtape Rlen Gn Dwo Don Dtw Dnu).2.1 ∧ u9.2.2.2.2.2.2.2.2.2.2.2.2.2.2.2.2.2.2.1 = oD ∧ u9.2.2.2.2.2.2.2.2.2.2.2.2.2.2.2.2.2.2.2 = oB ∧ (u9.2.2.2.2.2.2.2.2.1, u9.2.2.2.2.2.2.2.2.2.1, u9.2.2.2.2.2.2.2.2.2.2.1, u9.2.2.2.2.2.2.2.2.2.2.2.1, u9.2.2.2.2.2.2.2.2.2.2.2.2.1) = (allQ Rtape Rlen Gn Dwo Don Dtw Dnu).2 ∧ u9.2.2.2.2.2.2.2.2.2.2.2.2.2.2.1 = Bwo)) ∧ (u9.2.1 = 0) ∧ (u9.2.2.1 = (allQ Rtape Rlen Gn Dwo Don Dtw Dnu).1.1) ∧ (u9.2.2.2.1 = (allQ Rtape Rlen Gn Dwo Don Dtw Dnu).1.2.1))) (fun u9 t9 => zAt D cI cB cZ (va_A (kG cI cB cZ oG Gn Gki Gle Glo Gta Gsh ++ kR cI cB cZ oR (oG 0) Rtape Rlen Rfn Rfp Rtok Rts Rte Rval ++ kB cI cB cZ oB (oG 0) Bcnt Bwo Bon Btw Bnu ++ kB cI cB cZ oD (oG 0) Dcnt Dwo Don Dtw Dnu ++ kC cI cB cZ oC (oG 0) Crow Cquiet (oR 0) (oB 0) (oD 0) aCsearch aCbreach aCstreet aCparade aCtrial Crun) sz) (kG cI cB cZ oG Gn Gki Gle Glo Gta Gsh ++ kR cI cB cZ oR (oG 0) Rtape (u9.2.1) (u9.2.2.1) (u9.2.2.2.1) (u9.2.2.2.2.1) (u9.2.2.2.2.2.1) (u9.2.2.2.2.2.2.1) (u9.2.2.2.2.2.2.2.1) ++ kB cI cB cZ (u9.2.2.2.2.2.2.2.2.2.2.2.2.2.2.2.2.2.2.1) (oG 0) (u9.2.2.2.2.2.2.2.2.1) (u9.2.2.2.2.2.2.2.2.2.1) (u9.2.2.2.2.2.2.2.2.2.2.1) (u9.2.2.2.2.2.2.2.2.2.2.2.1) (u9.2.2.2.2.2.2.2.2.2.2.2.2.1) ++ kB cI cB cZ (u9.2.2.2.2.2.2.2.2.2.2.2.2.2.2.2.2.2.2.2) (oG 0) (u9.2.2.2.2.2.2.2.2.2.2.2.2.2.1) (u9.2.2.2.2.2.2.2.2.2.2.2.2.2.2.1) (u9.2.2.2.2.2.2.2.2.2.2.2.2.2.2.2.1) (u9.2.2.2.2.2.2.2.2.2.2.2.2.2.2.2.2.1) (u9.2.2.2.2.2.2.2.2.2.2.2.2.2.2.2.2.2.1) ++ kC cI cB cZ oC (oG 0) Crow Cquiet (oR 0) ((u9.2.2.2.2.2.2.2.2.2.2.2.2.2.2.2.2.2.2.1) 0) ((u9.2.2.2.2.2.2.2.2.2.2.2.2.2.2.2.2.2.2.2) 0) aCsearch aCbreach aCstreet aCparade aCtrial Crun) t9) (va_A (kG cI cB cZ oG Gn Gki Gle Glo Gta Gsh ++ kR cI cB cZ oR (oG 0) Rtape Rlen Rfn Rfp Rtok Rts Rte Rval ++ kB cI cB cZ oB (oG 0) Bcnt Bwo Bon Btw Bnu ++ kB cI cB cZ oD (oG 0) Dcnt Dwo Don Dtw Dnu ++ kC cI cB cZ oC (oG 0) Crow Cquiet (oR 0) (oB 0) (oD 0) aCsearch aCbreach aCstreet aCparade aCtrial Crun) sz)) 0 0 (va_A (kG cI cB cZ oG Gn Gki Gle Glo Gta Gsh ++ kR cI cB cZ oR (oG 0) Rtape Rlen Rfn Rfp Rtok Rts Rte Rval ++ kB cI cB cZ oB (oG 0) Bcnt Bwo Bon Btw Bnu ++ kB cI cB cZ oD (oG 0) Dcnt Dwo Don Dtw Dnu ++ kC cI cB cZ oC (oG 0) Crow Cquiet (oR 0) (oB 0) (oD 0) aCsearch aCbreach aCstreet aCparade aCtrial Crun) sz) := by
  refine Met.ofW (cc := cX7_load) (maxL := 2) (ret := (some .int)) (by decide) rfl ?_
  intro pp ee s mm aa bw mt cd s₁ BL hml hv
  obtain ⟨rfl, ⟨hsz, hP, hK, hD0⟩, hZX⟩ := hv
  have hx := BL.exec
  have hb := BL.bytes
  have hr := BL.returns
  have hts := atoms_spec (ws := wsX7_load) BL.pre
  have hown : s.vm.findClass RX7 = some mm.cls := findClass_of_methodNamed BL.named
  have hlocks := BL.notSynchronized
  subst hsz
  generalize hAe : va_A (kG cI cB cZ oG Gn Gki Gle Glo Gta Gsh ++ kR cI cB cZ oR (oG 0) Rtape Rlen Rfn Rfp Rtok Rts Rte Rval ++ kB cI cB cZ oB (oG 0) Bcnt Bwo Bon Btw Bnu ++ kB cI cB cZ oD (oG 0) Dcnt Dwo Don Dtw Dnu ++ kC cI cB cZ oC (oG 0) Crow Cquiet (oR 0) (oB 0) (oD 0) aCsearch aCbreach aCstreet aCparade aCtrial Crun) s.heap.size = A at hZX ⊢
  have hA : ∀ q : Nat, s.heap.size ≤ q → A q := fun q h => by rw [← hAe]; exact Or.inr h
  have hw : HW D A s.heap (kG cI cB cZ oG Gn Gki Gle Glo Gta Gsh ++ kR cI cB cZ oR (oG 0) Rtape Rlen Rfn Rfp Rtok Rts Rte Rval ++ kB cI cB cZ oB (oG 0) Bcnt Bwo Bon Btw Bnu ++ kB cI cB cZ oD (oG 0) Dcnt Dwo Don Dtw Dnu ++ kC cI cB cZ oC (oG 0) Crow Cquiet (oR 0) (oB 0) (oD 0) aCsearch aCbreach aCstreet aCparade aCtrial Crun) s.heap [] := z_start hAe hP hD0
  clear hP hD0
  have hl := lv_entry ([.ref (oC 0)]) (n := 2) (Nat.le_of_ble_eq_true rfl)
  rw [lg_entry_eq]
  generalize (lg_sl ([.ref (oC 0)]) ++ List.replicate (2 - (lg_sl ([.ref (oC 0)])).length) Slot.unset).toArray = ls at hl ⊢
  have hl : lv_has ls 2 [(0, .ref (oC 0))] := hl
  have hinX0 : ∀ w ∈ wsX00, w ∈ wsX7_load := by decide +kernel
  have hinX4 : ∀ w ∈ wsX40, w ∈ wsX7_load := by decide +kernel
  have hinX7 : ∀ w ∈ wsX70, w ∈ wsX7_load := by decide +kernel
  refine lv_aload_n hx hb dX7_load_0 rfl (lv_at hl 0 rfl) ?_
  refine va_get (D := D) (ci := 7) (v := .ref (oR 0)) (C := RX7) (T := TX7) (N := 12) hx hb hts hinX7 hown hK hw.1 18 rfl rfl 3 (by decide) (hts (.fieldLink RX7 28 "CarnivalRoad" "reader" "LCarnivalRoad$Reader;") (by decide +kernel)) (fun _ h9 => h9) rfl dX7_load_1 ?_
  refine lv_aload_n hx hb dX7_load_4 rfl (lv_at hl 0 rfl) ?_
  refine va_get (D := D) (ci := 7) (v := .ref (oD 0)) (C := RX7) (T := TX7) (N := 12) hx hb hts hinX7 hown hK hw.1 18 rfl rfl 5 (by decide) (hts (.fieldLink RX7 39 "CarnivalRoad" "spare" "LCarnivalRoad$Bars;") (by decide +kernel)) (fun _ h9 => h9) rfl dX7_load_5 ?_
  have hF9 := z_free (wc := kG cI cB cZ oG Gn Gki Gle Glo Gta Gsh ++ kR cI cB cZ oR (oG 0) Rtape Rlen Rfn Rfp Rtok Rts Rte Rval ++ kB cI cB cZ oD (oG 0) Dcnt Dwo Don Dtw Dnu) hw hA [0, 1, 2, 3, 4, 5, 6, 7, 13, 14, 15, 16, 17] rfl
  refine va_callv (va_runV (As := [.ref (oD 0)]) (rest := []) ⟨hx, hb, hml, hown, hts⟩ (c_X4_readAll l D cI cB cZ aK aV oG oR oD s.heap.size Gn Gki Gle Glo Gta Gsh Rtape Rlen Rfn Rfp Rtok Rts Rte Rval Dcnt Dwo Don Dtw Dnu (by omega) qGki qGle qGlo qGta qGsh qRtape (by omega) (by omega) (by omega) (by omega) (by omega) (by omega) (by omega) (by omega) qDwo qDon qDtw qDnu) (cwV 1 hts gX7_load_X4_readAll rfl rfl rfl (by decide +kernel) ⟨Nat.le_of_ble_eq_true rfl, Nat.le_of_ble_eq_true rfl⟩) ⟨zPreX_blind, va_recv hK hw.1 (ci := 4) (q0 := 6) rfl rfl, z_preX hK hw [0, 1, 2, 3, 4, 5, 6, 7, 13, 14, 15, 16, 17] (by decide) rfl hZX hF9⟩ rfl rfl hl.1 rfl (lv_room (Nat.le_of_ble_eq_true rfl)) dX7_load_8 ⟨Nat.zero_le _, Nat.zero_le _⟩) hw.2.2 (fun q _ h => hF9 q h) hF9 (fun u9 t9 H_1 locs9 ht9 hvm9 hq9 hB9 hz9 hk9 hS9 => ?_)
  obtain ⟨Rfn_2, Rfp_3, Rtok_4, Rts_5, Rte_6, Rval_7, Bcnt_8, Bwo_9, Bon_10, Btw_11, Bnu_12⟩ := u9
  try dsimp only at hq9 hB9
  obtain ⟨hq_13, hq_14, hq_15, hq_16, hq_17, hq_18, hq_19, hq_20, hq_21, hq_22, hq_23, hq_24, hq_25⟩ := hq9
  have hw : HW D A s.heap (kG cI cB cZ oG Gn Gki Gle Glo Gta Gsh ++ kR cI cB cZ oR (oG 0) Rtape Rlen Rfn_2 Rfp_3 Rtok_4 Rts_5 Rte_6 Rval_7 ++ kB cI cB cZ oB (oG 0) Bcnt Bwo Bon Btw Bnu ++ kB cI cB cZ oD (oG 0) Bcnt_8 Bwo_9 Bon_10 Btw_11 Bnu_12 ++ kC cI cB cZ oC (oG 0) Crow Cquiet (oR 0) (oB 0) (oD 0) aCsearch aCbreach aCstreet aCparade aCtrial Crun) H_1 locs9 := z_after (wc := kG cI cB cZ oG Gn Gki Gle Glo Gta Gsh ++ kR cI cB cZ oR (oG 0) Rtape Rlen Rfn Rfp Rtok Rts Rte Rval ++ kB cI cB cZ oD (oG 0) Dcnt Dwo Don Dtw Dnu) hw [0, 1, 2, 3, 4, 5, 6, 7, 13, 14, 15, 16, 17] [8, 9, 10, 11, 12, 18, 19, 20] rfl rfl (by decide) (by decide) hF9 hk9 ht9 hB9 hS9 [8, 9, 10, 11, 12, 13, 14, 15, 0, 1, 2, 3, 4, 16, 17, 18, 19, 20, 5, 6, 7] (by decide) rfl
  clear hF9 ht9 hvm9 hB9 hz9 hk9 hS9
  have hq8 := hq_24
  have ht8 := hq_25
  unfold qR at hq8
  refine lv_aload_n hx hb dX7_load_11 rfl (lv_at hl 0 rfl) ?_
  refine va_get (D := D) (ci := 7) (v := .ref (oR 0)) (C := RX7) (T := TX7) (N := 12) hx hb hts hinX7 hown hK hw.1 18 rfl rfl 3 (by decide) (hts (.fieldLink RX7 28 "CarnivalRoad" "reader" "LCarnivalRoad$Reader;") (by decide +kernel)) (fun _ h9 => h9) rfl dX7_load_12 ?_
  refine z_iconst hx hb dX7_load_15 ?_
  refine z_put (D := D) (ci := 4) (v := .int (zI 0)) (ty := .int) (C := RX4) (T := TX4) (N := 9) (ws2 := kG cI cB cZ oG Gn Gki Gle Glo Gta Gsh ++ kR cI cB cZ oR (oG 0) Rtape 0 Rfn_2 Rfp_3 Rtok_4 Rts_5 Rte_6 Rval_7 ++ kB cI cB cZ oB (oG 0) Bcnt Bwo Bon Btw Bnu ++ kB cI cB cZ oD (oG 0) Bcnt_8 Bwo_9 Bon_10 Btw_11 Bnu_12 ++ kC cI cB cZ oC (oG 0) Crow Cquiet (oR 0) (oB 0) (oD 0) aCsearch aCbreach aCstreet aCparade aCtrial Crun) hx hb hts hinX4 tyX4 tyX4_ok nmX4 hown hK hw 6 rfl rfl 2 (by decide) (hts (.fieldLink RX7 110 "CarnivalRoad$Reader" "length" "I") (by decide +kernel)) (fun _ h9 => h9) rfl (by decide +kernel) rfl rfl (Nat.le_of_ble_eq_true rfl) dX7_load_16 rfl (fun H locs hw => ?_)
  refine lv_aload_n hx hb dX7_load_19 rfl (lv_at hl 0 rfl) ?_
  refine va_get (D := D) (ci := 7) (v := .ref (oR 0)) (C := RX7) (T := TX7) (N := 12) hx hb hts hinX7 hown hK hw.1 18 rfl rfl 3 (by decide) (hts (.fieldLink RX7 28 "CarnivalRoad" "reader" "LCarnivalRoad$Reader;") (by decide +kernel)) (fun _ h9 => h9) rfl dX7_load_20 ?_
  refine va_get (D := D) (ci := 4) (v := .int (zI Rfn_2)) (C := RX4) (T := TX4) (N := 9) hx hb hts hinX4 hown hK hw.1 6 rfl rfl 3 (by decide) (hts (.fieldLink RX7 120 "CarnivalRoad$Reader" "faultNumber" "I") (by decide +kernel)) (fun _ h9 => h9) rfl dX7_load_23 ?_
  refine z_if_eq (tgt := 31) hx hb dX7_load_26 (by decide) (by omega) (fun hc_26 => ?_) (fun hc_26 => ?_)
  · skip
    refine lv_aload_n hx hb dX7_load_31 rfl (lv_at hl 0 rfl) ?_
    refine va_get (D := D) (ci := 7) (v := .ref (oB 0)) (C := RX7) (T := TX7) (N := 12) hx hb hts hinX7 hown hK hw.1 18 rfl rfl 4 (by decide) (hts (.fieldLink RX7 35 "CarnivalRoad" "bars" "LCarnivalRoad$Bars;") (by decide +kernel)) (fun _ h9 => h9) rfl dX7_load_32 ?_
    refine lv_astore_n (lv' := [(1, .ref (oB 0)), (0, .ref (oC 0))]) hx hb dX7_load_35 rfl hl (by decide) rfl (fun ls hl => ?_)
    refine lv_aload_n hx hb dX7_load_36 rfl (lv_at hl 1 rfl) ?_
    refine lv_aload_n hx hb dX7_load_37 rfl (lv_at hl 1 rfl) ?_
    refine va_get (D := D) (ci := 7) (v := .ref (oD 0)) (C := RX7) (T := TX7) (N := 12) hx hb hts hinX7 hown hK hw.1 18 rfl rfl 5 (by decide) (hts (.fieldLink RX7 39 "CarnivalRoad" "spare" "LCarnivalRoad$Bars;") (by decide +kernel)) (fun _ h9 => h9) rfl dX7_load_38 ?_
    refine z_put (D := D) (ci := 7) (v := .ref (oD 0)) (ty := .object "CarnivalRoad$Bars") (C := RX7) (T := TX7) (N := 12) (ws2 := kG cI cB cZ oG Gn Gki Gle Glo Gta Gsh ++ kR cI cB cZ oR (oG 0) Rtape 0 Rfn_2 Rfp_3 Rtok_4 Rts_5 Rte_6 Rval_7 ++ kB cI cB cZ oB (oG 0) Bcnt Bwo Bon Btw Bnu ++ kB cI cB cZ oD (oG 0) Bcnt_8 Bwo_9 Bon_10 Btw_11 Bnu_12 ++ kC cI cB cZ oC (oG 0) Crow Cquiet (oR 0) (oD 0) (oD 0) aCsearch aCbreach aCstreet aCparade aCtrial Crun) hx hb hts hinX7 tyX7 tyX7_ok nmX7 hown hK hw 18 rfl rfl 4 (by decide) (hts (.fieldLink RX7 35 "CarnivalRoad" "bars" "LCarnivalRoad$Bars;") (by decide +kernel)) (fun _ h9 => h9) rfl (by decide +kernel) rfl rfl (Nat.le_of_ble_eq_true rfl) dX7_load_41 rfl (fun H locs hw => ?_)
    refine lv_aload_n hx hb dX7_load_44 rfl (lv_at hl 1 rfl) ?_
    refine lv_aload_n hx hb dX7_load_45 rfl (lv_at hl 0 rfl) ?_
    refine z_put (D := D) (ci := 7) (v := .ref (oB 0)) (ty := .object "CarnivalRoad$Bars") (C := RX7) (T := TX7) (N := 12) (ws2 := kG cI cB cZ oG Gn Gki Gle Glo Gta Gsh ++ kR cI cB cZ oR (oG 0) Rtape 0 Rfn_2 Rfp_3 Rtok_4 Rts_5 Rte_6 Rval_7 ++ kB cI cB cZ oB (oG 0) Bcnt Bwo Bon Btw Bnu ++ kB cI cB cZ oD (oG 0) Bcnt_8 Bwo_9 Bon_10 Btw_11 Bnu_12 ++ kC cI cB cZ oC (oG 0) Crow Cquiet (oR 0) (oD 0) (oB 0) aCsearch aCbreach aCstreet aCparade aCtrial Crun) hx hb hts hinX7 tyX7 tyX7_ok nmX7 hown hK hw 18 rfl rfl 5 (by decide) (hts (.fieldLink RX7 39 "CarnivalRoad" "spare" "LCarnivalRoad$Bars;") (by decide +kernel)) (fun _ h9 => h9) rfl (by decide +kernel) rfl rfl (Nat.le_of_ble_eq_true rfl) dX7_load_46 rfl (fun H locs hw => ?_)
    refine lv_aload_n hx hb dX7_load_49 rfl (lv_at hl 1 rfl) ?_
    refine va_get (D := D) (ci := 7) (v := .ref (oD 0)) (C := RX7) (T := TX7) (N := 12) hx hb hts hinX7 hown hK hw.1 18 rfl rfl 4 (by decide) (hts (.fieldLink RX7 35 "CarnivalRoad" "bars" "LCarnivalRoad$Bars;") (by decide +kernel)) (fun _ h9 => h9) rfl dX7_load_50 ?_
    refine va_get (D := D) (ci := 0) (v := .int (zI Bcnt_8)) (C := RX0) (T := TX0) (N := 6) hx hb hts hinX0 hown hK hw.1 13 rfl rfl 1 (by decide) (hts (.fieldLink RX7 123 "CarnivalRoad$Bars" "count" "I") (by decide +kernel)) (fun _ h9 => h9) rfl dX7_load_53 ?_
    have hv_27 : (0 : Int) ≤ (0 : Int) ∧ (0 : Int) ≤ 400 := by
      first | assumption | omega | grind
    have hv_28 : (0 : Int) ≤ Rfn_2 ∧ Rfn_2 ≤ 3 := by
      first | assumption | omega | grind
    have hv_29 : (-1 : Int) ≤ Rfp_3 ∧ Rfp_3 ≤ 400 := by
      first | assumption | omega | grind
    have hv_30 : (1 : Int) ≤ Rtok_4 ∧ Rtok_4 ≤ 11 := by
      first | assumption | omega | grind
    have hv_31 : (0 : Int) ≤ Rts_5 ∧ Rts_5 ≤ 400 := by
      first | assumption | omega | grind
    have hv_32 : (0 : Int) ≤ Rte_6 ∧ Rte_6 ≤ 400 := by
      first | assumption | omega | grind
    have hv_33 : (0 : Int) ≤ Rval_7 ∧ Rval_7 ≤ 999 := by
      first | assumption | omega | grind
    have hv_34 : (0 : Int) ≤ Bcnt_8 ∧ Bcnt_8 ≤ 10 := by
      first | assumption | omega | grind
    have hv_35 : (0 : Int) ≤ Bcnt ∧ Bcnt ≤ 10 := by
      first | assumption | omega | grind
    have hv_36 : (¬ (allQ Rtape Rlen Gn Dwo Don Dtw Dnu).1.1 = 0 ∧ Bcnt_8 = -1 ∧ oD = oB ∧ oB = oD ∧ Bcnt_8 = Bcnt ∧ Bwo_9 = Bwo ∧ Bon_10 = Bon ∧ Btw_11 = Btw ∧ Bnu_12 = Bnu ∧ Bwo = (allQ Rtape Rlen Gn Dwo Don Dtw Dnu).2.2.1) ∨ ((allQ Rtape Rlen Gn Dwo Don Dtw Dnu).1.1 = 0 ∧ Bcnt_8 = (allQ Rtape Rlen Gn Dwo Don Dtw Dnu).2.1 ∧ oD = oD ∧ oB = oB ∧ (Bcnt_8, Bwo_9, Bon_10, Btw_11, Bnu_12) = (allQ Rtape Rlen Gn Dwo Don Dtw Dnu).2 ∧ Bwo = Bwo) := by
      have e9 := congrArg (fun b : BS => b.1) ht8
      dsimp only at e9
      exact Or.inr ⟨by omega, by omega, rfl, rfl, ht8, rfl⟩
    have hv_37 : (0 : Int) = 0 := by
      rfl
    have hv_38 : Rfn_2 = (allQ Rtape Rlen Gn Dwo Don Dtw Dnu).1.1 := by
      omega
    have hv_39 : Rfp_3 = (allQ Rtape Rlen Gn Dwo Don Dtw Dnu).1.2.1 := by
      omega
    have hw := z_perm (ws2 := kG cI cB cZ oG Gn Gki Gle Glo Gta Gsh ++ kR cI cB cZ oR (oG 0) Rtape 0 Rfn_2 Rfp_3 Rtok_4 Rts_5 Rte_6 Rval_7 ++ kB cI cB cZ oD (oG 0) Bcnt_8 Bwo_9 Bon_10 Btw_11 Bnu_12 ++ kB cI cB cZ oB (oG 0) Bcnt Bwo Bon Btw Bnu ++ kC cI cB cZ oC (oG 0) Crow Cquiet (oR 0) (oD 0) (oB 0) aCsearch aCbreach aCstreet aCparade aCtrial Crun) hw [0, 1, 2, 3, 4, 5, 6, 7, 13, 14, 15, 16, 17, 8, 9, 10, 11, 12, 18, 19, 20] (by decide) rfl
    exact W.iret (v := zI Bcnt_8) hx hb hr (fun t9 ht hW => ⟨⟨zI Bcnt_8, (Bcnt_8, 0, Rfn_2, Rfp_3, Rtok_4, Rts_5, Rte_6, Rval_7, Bcnt_8, Bwo_9, Bon_10, Btw_11, Bnu_12, Bcnt, Bwo, Bon, Btw, Bnu, oD, oB), rfl, ⟨rfl, ⟨hv_27, hv_28, hv_29, hv_30, hv_31, hv_32, hv_33, hv_34, hq_20, hq_21, hq_22, hq_23, hv_35, qBwo, qBon, qBtw, qBnu, hv_36, hv_37, hv_38, hv_39⟩⟩, by subst hAe; exact z_end hK hw ht hW⟩, by subst hAe; exact hw.2.2.F ht⟩) (by subst hAe; exact hw.2.2.2.2) dX7_load_56
  · skip
    refine z_iconst hx hb dX7_load_29 ?_
    have hv_40 : (0 : Int) ≤ (0 : Int) ∧ (0 : Int) ≤ 400 := by
      first | assumption | omega | grind
    have hv_41 : (0 : Int) ≤ Rfn_2 ∧ Rfn_2 ≤ 3 := by
      first | assumption | omega | grind
    have hv_42 : (-1 : Int) ≤ Rfp_3 ∧ Rfp_3 ≤ 400 := by
      first | assumption | omega | grind
    have hv_43 : (1 : Int) ≤ Rtok_4 ∧ Rtok_4 ≤ 11 := by
      first | assumption | omega | grind
    have hv_44 : (0 : Int) ≤ Rts_5 ∧ Rts_5 ≤ 400 := by
      first | assumption | omega | grind
    have hv_45 : (0 : Int) ≤ Rte_6 ∧ Rte_6 ≤ 400 := by
      first | assumption | omega | grind
    have hv_46 : (0 : Int) ≤ Rval_7 ∧ Rval_7 ≤ 999 := by
      first | assumption | omega | grind
    have hv_47 : (0 : Int) ≤ Bcnt ∧ Bcnt ≤ 10 := by
      first | assumption | omega | grind
    have hv_48 : (0 : Int) ≤ Bcnt_8 ∧ Bcnt_8 ≤ 10 := by
      first | assumption | omega | grind
    have hv_49 : (¬ (allQ Rtape Rlen Gn Dwo Don Dtw Dnu).1.1 = 0 ∧ ((-1) : Int) = -1 ∧ oB = oB ∧ oD = oD ∧ Bcnt = Bcnt ∧ Bwo = Bwo ∧ Bon = Bon ∧ Btw = Btw ∧ Bnu = Bnu ∧ Bwo_9 = (allQ Rtape Rlen Gn Dwo Don Dtw Dnu).2.2.1) ∨ ((allQ Rtape Rlen Gn Dwo Don Dtw Dnu).1.1 = 0 ∧ ((-1) : Int) = (allQ Rtape Rlen Gn Dwo Don Dtw Dnu).2.1 ∧ oB = oD ∧ oD = oB ∧ (Bcnt, Bwo, Bon, Btw, Bnu) = (allQ Rtape Rlen Gn Dwo Don Dtw Dnu).2 ∧ Bwo_9 = Bwo) := by
      have e9 := congrArg (fun b : BS => b.2.1) ht8
      dsimp only at e9
      exact Or.inl ⟨by omega, rfl, rfl, rfl, rfl, rfl, rfl, rfl, rfl, e9⟩
    have hv_50 : (0 : Int) = 0 := by
      rfl
    have hv_51 : Rfn_2 = (allQ Rtape Rlen Gn Dwo Don Dtw Dnu).1.1 := by
      omega
    have hv_52 : Rfp_3 = (allQ Rtape Rlen Gn Dwo Don Dtw Dnu).1.2.1 := by
      omega
    exact W.iret (v := zI (-1)) hx hb hr (fun t9 ht hW => ⟨⟨zI (-1), ((-1), 0, Rfn_2, Rfp_3, Rtok_4, Rts_5, Rte_6, Rval_7, Bcnt, Bwo, Bon, Btw, Bnu, Bcnt_8, Bwo_9, Bon_10, Btw_11, Bnu_12, oB, oD), rfl, ⟨rfl, ⟨hv_40, hv_41, hv_42, hv_43, hv_44, hv_45, hv_46, hv_47, qBwo, qBon, qBtw, qBnu, hv_48, hq_20, hq_21, hq_22, hq_23, hv_49, hv_50, hv_51, hv_52⟩⟩, by subst hAe; exact z_end hK hw ht hW⟩, by subst hAe; exact hw.2.2.F ht⟩) (by subst hAe; exact hw.2.2.2.2) dX7_load_30
