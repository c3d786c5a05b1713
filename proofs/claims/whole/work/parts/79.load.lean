set_option maxRecDepth 100000 in
set_option maxHeartbeats 4000000 in
theorem c_X7_load (l : Launch) (D : va_G) (cI cB cZ : ClassId) (aK aV : Nat → Nat) (oG : Nat → Nat) (oR : Nat → Nat) (oB : Nat → Nat) (oD : Nat → Nat) (oC : Nat → Nat) (aCsearch : Nat) (aCbreach : Nat) (aCstreet : Nat) (aCparade : Nat) (aCtrial : Nat) (sz : Nat) (Gn : Int) (Gki : Int → Int) (Gle : Int → Int) (Glo : Int → Int) (Gta : Int → Int) (Gsh : Int → Int) (Rtape : Int → Int) (Rlen : Int) (Rfn : Int) (Rfp : Int) (Rtok : Int) (Rts : Int) (Rte : Int) (Rval : Int) (Bcnt : Int) (Bwo : Int → Int) (Bon : Int → Int) (Btw : Int → Int) (Bnu : Int → Int) (Dcnt : Int) (Dwo : Int → Int) (Don : Int → Int) (Dtw : Int → Int) (Dnu : Int → Int) (Crow : Int → Int) (Cquiet : Int → Int) (Crun : Int) (qGn : 0 ≤ Gn ∧ Gn ≤ 8) (qGki : RA Gki (0) 4) (qGle : RA Gle (0) 5) (qGlo : RA Glo (0) 9) (qGta : RA Gta (0) 9) (qGsh : RA Gsh (0) 9) (qRtape : RA Rtape (-128) 127) (qRlen : 0 ≤ Rlen ∧ Rlen ≤ 400) (qRfn : 0 ≤ Rfn ∧ Rfn ≤ 3) (qRfp : -1 ≤ Rfp ∧ Rfp ≤ 400) (qRtok : 1 ≤ Rtok ∧ Rtok ≤ 11) (qRts : 0 ≤ Rts ∧ Rts ≤ 400) (qRte : 0 ≤ Rte ∧ Rte ≤ 400) (qRval : 0 ≤ Rval ∧ Rval ≤ 999) (qBcnt : 0 ≤ Bcnt ∧ Bcnt ≤ 10) (qBwo : RA Bwo (0) 11) (qBon : RA Bon (0) 12) (qBtw : RA Btw (0) 12) (qBnu : RA Bnu (0) 18) (qDcnt : 0 ≤ Dcnt ∧ Dcnt ≤ 10) (qDwo : RA Dwo (0) 11) (qDon : RA Don (0) 12) (qDtw : RA Dtw (0) 12) (qDnu : RA Dnu (0) 18) (qCrow : RA Crow (0) 7) (qCquiet : RA Cquiet (0) 7) (qCrun : 0 ≤ Crun ∧ Crun ≤ 1) : Met l yX7_load wsX7_load ({ frames := 10, cells := 0, slots := 0, locals := 219 }) (va_Pc [.ref (oC 0)] (zPreX aK aV D cI cB cZ sz (kG cI cB cZ oG Gn Gki Gle Glo Gta Gsh ++ kR cI cB cZ oR (oG 0) Rtape Rlen Rfn Rfp Rtok Rts Rte Rval ++ kB cI cB cZ oB (oG 0) Bcnt Bwo Bon Btw Bnu ++ kB cI cB cZ oD (oG 0) Dcnt Dwo Don Dtw Dnu ++ kC cI cB cZ oC (oG 0) Crow Cquiet (oR 0) (oB 0) (oD 0) aCsearch aCbreach aCstreet aCparade aCtrial Crun))) (va_Qi (fun (r9 : Int32) (u9 : Int × Int × Int × Int × Int × Int × Int × Int × Int × (Int → Int) × (Int → Int) × (Int → Int) × (Int → Int) × Int × (Int → Int) × (Int → Int) × (Int → Int) × (Int → Int) × (Nat → Nat) × (Nat → Nat)) => r9 = zI u9.1 ∧ (((0 : Int) ≤ u9.2.1 ∧ u9.2.1 ≤ 400) ∧ ((0 : Int) ≤ u9.2.2.1 ∧ u9.2.2.1 ≤ 3) ∧ ((-1 : Int) ≤ u9.2.2.2.1 ∧ u9.2.2.2.1 ≤ 400) ∧ ((1 : Int) ≤ u9.2.2.2.2.1 ∧ u9.2.2.2.2.1 ≤ 11) ∧ ((0 : Int) ≤ u9.2.2.2.2.2.1 ∧ u9.2.2.2.2.2.1 ≤ 400) ∧ ((0 : Int) ≤ u9.2.2.2.2.2.2.1 ∧ u9.2.2.2.2.2.2.1 ≤ 400) ∧ ((0 : Int) ≤ u9.2.2.2.2.2.2.2.1 ∧ u9.2.2.2.2.2.2.2.1 ≤ 999) ∧ ((0 : Int) ≤ u9.2.2.2.2.2.2.2.2.1 ∧ u9.2.2.2.2.2.2.2.2.1 ≤ 10) ∧ (RA u9.2.2.2.2.2.2.2.2.2.1 (0) 11) ∧ (RA u9.2.2.2.2.2.2.2.2.2.2.1 (0) 12) ∧ (RA u9.2.2.2.2.2.2.2.2.2.2.2.1 (0) 12) ∧ (RA u9.2.2.2.2.2.2.2.2.2.2.2.2.1 (0) 18) ∧ ((0 : Int) ≤ u9.2.2.2.2.2.2.2.2.2.2.2.2.2.1 ∧ u9.2.2.2.2.2.2.2.2.2.2.2.2.2.1 ≤ 10) ∧ (RA u9.2.2.2.2.2.2.2.2.2.2.2.2.2.2.1 (0) 11) ∧ (RA u9.2.2.2.2.2.2.2.2.2.2.2.2.2.2.2.1 (0) 12) ∧ (RA u9.2.2.2.2.2.2.2.2.2.2.2.2.2.2.2.2.1 (0) 12) ∧ (RA u9.2.2.2.2.2.2.2.2.2.2.2.2.2.2.2.2.2.1 (0) 18) ∧ ((¬ (allQ Rtape Rlen Gn Dwo Don Dtw Dnu).1.1 = 0 ∧ u9.1 = -1 ∧ u9.2.2.2.2.2.2.2.2.2.2.2.2.2.2.2.2.2.2.1 = oB ∧ u9.2.2.2.2.2.2.2.2.2.2.2.2.2.2.2.2.2.2.2 = oD ∧ u9.2.2.2.2.2.2.2.2.1 = Bcnt ∧ u9.2.2.2.2.2.2.2.2.2.1 = Bwo ∧ u9.2.2.2.2.2.2.2.2.2.2.1 = Bon ∧ u9.2.2.2.2.2.2.2.2.2.2.2.1 = Btw ∧ u9.2.2.2.2.2.2.2.2.2.2.2.2.1 = Bnu ∧ u9.2.2.2.2.2.2.2.2.2.2.2.2.2.2.1 = (allQ Rtape Rlen Gn Dwo Don Dtw Dnu).2.2.1) ∨ ((allQ Rtape Rlen Gn Dwo Don Dtw Dnu).1.1 = 0 ∧ u9.1 = (allQ Rtape Rlen Gn Dwo Don Dtw Dnu).2.1 ∧ u9.2.2.2.2.2.2.2.2.2.2.2.2.2.2.2.2.2.2.1 = oD ∧ u9.2.2.2.2.2.2.2.2.2.2.2.2.2.2.2.2.2.2.2 = oB ∧ (u9.2.2.2.2.2.2.2.2.1, u9.2.2.2.2.2.2.2.2.2.1, u9.2.2.2.2.2.2.2.2.2.2.1, u9.2.2.2.2.2.2.2.2.2.2.2.1, u9.2.2.2.2.2.2.2.2.2.2.2.2.1) = (allQ Rtape Rlen Gn Dwo Don Dtw Dnu).2 ∧ u9.2.2.2.2.2.2.2.2.2.2.2.2.2.2.1 = Bwo)) ∧ (u9.2.1 = 0) ∧ (u9.2.2.1 = (allQ Rtape Rlen Gn Dwo Don Dtw Dnu).1.1) ∧ (u9.2.2.2.1 = (allQ Rtape Rlen Gn Dwo Don Dtw Dnu).1.2.1))) (fun u9 t9 => zAt D cI cB cZ (va_A (kG cI cB cZ oG Gn Gki Gle Glo Gta Gsh ++ kR cI cB cZ oR (oG 0) Rtape Rlen Rfn Rfp Rtok Rts Rte Rval ++ kB cI cB cZ oB (oG 0) Bcnt Bwo Bon Btw Bnu ++ kB cI cB cZ oD (oG 0) Dcnt Dwo Don Dtw Dnu ++ kC cI cB cZ oC (oG 0) Crow Cquiet (oR 0) (oB 0) (oD 0) aCsearch aCbreach aCstreet aCparade aCtrial Crun) sz) (kG cI cB cZ oG Gn Gki Gle Glo Gta Gsh ++ kR cI cB cZ oR (oG 0) Rtape (u9.2.1) (u9.2.2.1) (u9.2.2.2.1) (u9.2.2.2.2.1) (u9.2.2.2.2.2.1) (u9.2.2.2.2.2.2.1) (u9.2.2.2.2.2.2.2.1) ++ kB cI cB cZ (u9.2.2.2.2.2.2.2.2.2.2.2.2.2.2.2.2.2.2.1) (oG 0) (u9.2.2.2.2.2.2.2.2.1) (u9.2.2.2.2.2.2.2.2.2.1) (u9.2.2.2.2.2.2.2.2.2.2.1) (u9.2.2.2.2.2.2.2.2.2.2.2.1) (u9.2.2.2.2.2.2.2.2.2.2.2.2.1) ++ kB cI cB cZ (u9.2.2.2.2.2.2.2.2.2.2.2.2.2.2.2.2.2.2.2) (oG 0) (u9.2.2.2.2.2.2.2.2.2.2.2.2.2.1) (u9.2.2.2.2.2.2.2.2.2.2.2.2.2.2.1) (u9.2.2.2.2.2.2.2.2.2.2.2.2.2.2.2.1) (u9.2.2.2.2.2.2.2.2.2.2.2.2.2.2.2.2.1) (u9.2.2.2.2.2.2.2.2.2.2.2.2.2.2.2.2.2.1) ++ kC cI cB cZ oC (oG 0) Crow Cquiet (oR 0) ((u9.2.2.2.2.2.2.2.2.2.2.2.2.2.2.2.2.2.2.1) 0) ((u9.2.2.2.2.2.2.2.2.2.2.2.2.2.2.2.2.2.2.2) 0) aCsearch aCbreach aCstreet aCparade aCtrial Crun) t9) (va_A (kG cI cB cZ oG Gn Gki Gle Glo Gta Gsh ++ kR cI cB cZ oR (oG 0) Rtape Rlen Rfn Rfp Rtok Rts Rte Rval ++ kB cI cB cZ oB (oG 0) Bcnt Bwo Bon Btw Bnu ++ kB cI cB cZ oD (oG 0) Dcnt Dwo Don Dtw Dnu ++ kC cI cB cZ oC (oG 0) Crow Cquiet (oR 0) (oB 0) (oD 0) aCsearch aCbreach aCstreet aCparade aCtrial Crun) sz)) 0 0 (va_A (kG cI cB cZ oG Gn Gki Gle Glo Gta Gsh ++ kR cI cB cZ oR (oG 0) Rtape Rlen Rfn Rfp Rtok Rts Rte Rval ++ kB cI cB cZ oB (oG 0) Bcnt Bwo Bon Btw Bnu ++ kB cI cB cZ oD (oG 0) Dcnt Dwo Don Dtw Dnu ++ kC cI cB cZ oC (oG 0) Crow Cquiet (oR 0) (oB 0) (oD 0) aCsearch aCbreach aCstreet aCparade aCtrial Crun) sz) := by
  refine Met.ofW (cc := cX7_load) (maxL := 2) (ret := (some .int)) (by decide) rfl ?_
  intro pp ee s mm aa bw mt cd s₁ BL hml hv
  obtain ⟨rfl, ⟨hsz, hP, hK, hD0⟩, hZX⟩ := hv
  have hx := BL.exec
  have hb := BL.bytes
  have hr := BL.returns
  have hts := atoms_spec (ws := wsX7_load) BL.pre
  have hown : s.vm.findClass RX7 = some mm.cls := findClass_of_methodNamed BL.named
  have hlocks := BL.notSynchronized
  subst hsz
  generalize hAe : va_A (kG cI cB cZ oG Gn Gki Gle Glo Gta Gsh ++ kR cI cB cZ oR (oG 0) Rtape Rlen Rfn Rfp Rtok Rts Rte Rval ++ kB cI cB cZ oB (oG 0) Bcnt Bwo Bon Btw Bnu ++ kB cI cB cZ oD (oG 0) Dcnt Dwo Don Dtw Dnu ++ kC cI cB cZ oC (oG 0) Crow Cquiet (oR 0) (oB 0) (oD 0) aCsearch aCbreach aCstreet aCparade aCtrial Crun) s.heap.size = A at hZX ⊢
  have hA : ∀ q : Nat, s.heap.size ≤ q → A q := fun q h => by rw [← hAe]; exact Or.inr h
  have hw : HW D A s.heap (kG cI cB cZ oG Gn Gki Gle Glo Gta Gsh ++ kR cI cB cZ oR (oG 0) Rtape Rlen Rfn Rfp Rtok Rts Rte Rval ++ kB cI cB cZ oB (oG 0) Bcnt Bwo Bon Btw Bnu ++ kB cI cB cZ oD (oG 0) Dcnt Dwo Don Dtw Dnu ++ kC cI cB cZ oC (oG 0) Crow Cquiet (oR 0) (oB 0) (oD 0) aCsearch aCbreach aCstreet aCparade aCtrial Crun) s.heap [] := z_start hAe hP hD0
  clear hP hD0
  have hl := lv_entry ([.ref (oC 0)]) (n := 2) (Nat.le_of_ble_eq_true rfl)
  rw [lg_entry_eq]
  generalize (lg_sl ([.ref (oC 0)]) ++ List.replicate (2 - (lg_sl ([.ref (oC 0)])).length) Slot.unset).toArray = ls at hl ⊢
  have hl : lv_has ls 2 [(0, .ref (oC 0))] := hl
  have hinX0 : ∀ w ∈ wsX00, w ∈ wsX7_load := by decide +kernel
  have hinX4 : ∀ w ∈ wsX40, w ∈ wsX7_load := by decide +kernel
  have hinX7 : ∀ w ∈ wsX70, w ∈ wsX7_load := by decide +kernel
  refine lv_aload_n hx hb dX7_load_0 rfl (lv_at hl 0 rfl) ?_
  refine va_get (D := D) (ci := 7) (v := .ref (oD 0)) (C := RX7) (T := TX7) (N := 12) hx hb hts hinX7 hown hK hw.1 18 rfl rfl 5 (by decide) (hts (.fieldLink RX7 39 "CarnivalRoad" "spare" "LCarnivalRoad$Bars;") (by decide +kernel)) (fun _ h9 => h9) rfl dX7_load_1 ?_
  refine z_iconst hx hb dX7_load_4 ?_
  refine z_put (D := D) (ci := 0) (v := .int (zI 0)) (ty := .int) (C := RX0) (T := TX0) (N := 6) (ws2 := kG cI cB cZ oG Gn Gki Gle Glo Gta Gsh ++ kR cI cB cZ oR (oG 0) Rtape Rlen Rfn Rfp Rtok Rts Rte Rval ++ kB cI cB cZ oB (oG 0) Bcnt Bwo Bon Btw Bnu ++ kB cI cB cZ oD (oG 0) 0 Dwo Don Dtw Dnu ++ kC cI cB cZ oC (oG 0) Crow Cquiet (oR 0) (oB 0) (oD 0) aCsearch aCbreach aCstreet aCparade aCtrial Crun) hx hb hts hinX0 tyX0 tyX0_ok nmX0 hown hK hw 13 rfl rfl 1 (by decide) (hts (.fieldLink RX7 116 "CarnivalRoad$Bars" "count" "I") (by decide +kernel)) (fun _ h9 => h9) rfl (by decide +kernel) rfl rfl (Nat.le_of_ble_eq_true rfl) dX7_load_5 rfl (fun H locs hw => ?_)
  refine lv_aload_n hx hb dX7_load_8 rfl (lv_at hl 0 rfl) ?_
  refine va_get (D := D) (ci := 7) (v := .ref (oR 0)) (C := RX7) (T := TX7) (N := 12) hx hb hts hinX7 hown hK hw.1 18 rfl rfl 3 (by decide) (hts (.fieldLink RX7 28 "CarnivalRoad" "reader" "LCarnivalRoad$Reader;") (by decide +kernel)) (fun _ h9 => h9) rfl dX7_load_9 ?_
  have hF9 := z_free (wc := kR cI cB cZ oR (oG 0) Rtape Rlen Rfn Rfp Rtok Rts Rte Rval) hw hA [6, 7] rfl
  refine va_callv (va_runV (As := []) (rest := []) ⟨hx, hb, hml, hown, hts⟩ (c_X4_start l D cI cB cZ aK aV oR (oG 0) H.size Rtape Rlen Rfn Rfp Rtok Rts Rte Rval qRtape (by omega) (by omega) (by omega) (by omega) (by omega) (by omega) (by omega)) (cwV 0 hts gX7_load_X4_start rfl rfl rfl (by decide +kernel) ⟨Nat.le_of_ble_eq_true rfl, Nat.le_of_ble_eq_true rfl⟩) ⟨zPreX_blind, va_recv hK hw.1 (ci := 4) (q0 := 6) rfl rfl, z_preX hK hw [6, 7] (by decide) rfl hZX hF9⟩ rfl rfl hl.1 rfl (lv_room (Nat.le_of_ble_eq_true rfl)) dX7_load_12 ⟨Nat.zero_le _, Nat.zero_le _⟩) hw.2.2 (fun q _ h => hF9 q h) hF9 (fun u9 t9 H_1 locs9 ht9 hvm9 hq9 hB9 hz9 hk9 hS9 => ?_)
  obtain ⟨Rfn_2, Rfp_3, Rtok_4, Rts_5, Rte_6, Rval_7⟩ := u9
  try dsimp only at hq9 hB9
  obtain ⟨hq_8, hq_9, hq_10, hq_11, hq_12, hq_13, hq_14, hq_15⟩ := hq9
  have hw : HW D A s.heap (kG cI cB cZ oG Gn Gki Gle Glo Gta Gsh ++ kR cI cB cZ oR (oG 0) Rtape Rlen Rfn_2 Rfp_3 Rtok_4 Rts_5 Rte_6 Rval_7 ++ kB cI cB cZ oB (oG 0) Bcnt Bwo Bon Btw Bnu ++ kB cI cB cZ oD (oG 0) 0 Dwo Don Dtw Dnu ++ kC cI cB cZ oC (oG 0) Crow Cquiet (oR 0) (oB 0) (oD 0) aCsearch aCbreach aCstreet aCparade aCtrial Crun) H_1 locs9 := z_after (wc := kR cI cB cZ oR (oG 0) Rtape Rlen Rfn Rfp Rtok Rts Rte Rval) hw [6, 7] [0, 1, 2, 3, 4, 5, 8, 9, 10, 11, 12, 13, 14, 15, 16, 17, 18, 19, 20] rfl rfl (by decide) (by decide) hF9 hk9 ht9 hB9 hS9 [0, 1, 2, 3, 4, 5, 19, 20, 6, 7, 8, 9, 10, 11, 12, 13, 14, 15, 16, 17, 18] (by decide) rfl
  clear hF9 ht9 hvm9 hB9 hz9 hk9 hS9
  refine z_cut (σ := Int × Int × Int × Int × Int × Int × Int × (Int → Int) × (Int → Int) × (Int → Int) × (Int → Int)) 50 (I := fun x9 H locs ls => ((0 : Int) ≤ (x9.1) ∧ (x9.1) ≤ 3) ∧ ((-1 : Int) ≤ (x9.2.1) ∧ (x9.2.1) ≤ 400) ∧ ((1 : Int) ≤ (x9.2.2.1) ∧ (x9.2.2.1) ≤ 11) ∧ ((0 : Int) ≤ (x9.2.2.2.1) ∧ (x9.2.2.2.1) ≤ 400) ∧ ((0 : Int) ≤ (x9.2.2.2.2.1) ∧ (x9.2.2.2.2.1) ≤ 400) ∧ ((0 : Int) ≤ (x9.2.2.2.2.2.1) ∧ (x9.2.2.2.2.2.1) ≤ 999) ∧ ((0 : Int) ≤ (x9.2.2.2.2.2.2.1) ∧ (x9.2.2.2.2.2.2.1) ≤ 10) ∧ (RA (x9.2.2.2.2.2.2.2.1) (0) 11) ∧ (RA (x9.2.2.2.2.2.2.2.2.1) (0) 12) ∧ (RA (x9.2.2.2.2.2.2.2.2.2.1) (0) 12) ∧ (RA (x9.2.2.2.2.2.2.2.2.2.2) (0) 18) ∧ (qR (allQ Rtape Rlen Gn Dwo Don Dtw Dnu).1 (x9.1) (x9.2.1) (x9.2.2.1) (x9.2.2.2.1) (x9.2.2.2.2.1) (x9.2.2.2.2.2.1)) ∧ (((x9.2.2.2.2.2.2.1), (x9.2.2.2.2.2.2.2.1), (x9.2.2.2.2.2.2.2.2.1), (x9.2.2.2.2.2.2.2.2.2.1), (x9.2.2.2.2.2.2.2.2.2.2)) = (allQ Rtape Rlen Gn Dwo Don Dtw Dnu).2) ∧ HW D A s.heap (kG cI cB cZ oG Gn Gki Gle Glo Gta Gsh ++ kR cI cB cZ oR (oG 0) Rtape Rlen (x9.1) (x9.2.1) (x9.2.2.1) (x9.2.2.2.1) (x9.2.2.2.2.1) (x9.2.2.2.2.2.1) ++ kB cI cB cZ oB (oG 0) Bcnt Bwo Bon Btw Bnu ++ kB cI cB cZ oD (oG 0) (x9.2.2.2.2.2.2.1) (x9.2.2.2.2.2.2.2.1) (x9.2.2.2.2.2.2.2.2.1) (x9.2.2.2.2.2.2.2.2.2.1) (x9.2.2.2.2.2.2.2.2.2.2) ++ kC cI cB cZ oC (oG 0) Crow Cquiet (oR 0) (oB 0) (oD 0) aCsearch aCbreach aCstreet aCparade aCtrial Crun) H locs ∧ lv_has ls 2 [(0, .ref (oC 0))]) (st := fun x9 => []) ?_ (fun hj_16 => ?_)
  · clear hw hl
    intro x9 H locs ls hI
    obtain ⟨Rfn_17, Rfp_18, Rtok_19, Rts_20, Rte_21, Rval_22, Dcnt_23, Dwo_24, Don_25, Dtw_26, Dnu_27⟩ := x9
    try dsimp only at hI ⊢
    obtain ⟨hq_28, hq_29, hq_30, hq_31, hq_32, hq_33, hq_34, hR_35, hR_36, hR_37, hR_38, hI_39, hI_40, hw, hl⟩ := hI
    have hq8 := (by assumption : qR (allQ Rtape Rlen Gn Dwo Don Dtw Dnu).1 Rfn_17 Rfp_18 Rtok_19 Rts_20 Rte_21 Rval_22)
    have ht8 := (by assumption : (Dcnt_23, Dwo_24, Don_25, Dtw_26, Dnu_27) = (allQ Rtape Rlen Gn Dwo Don Dtw Dnu).2)
    unfold qR at hq8
    refine lv_aload_n hx hb dX7_load_50 rfl (lv_at hl 0 rfl) ?_
    refine va_get (D := D) (ci := 7) (v := .ref (oR 0)) (C := RX7) (T := TX7) (N := 12) hx hb hts hinX7 hown hK hw.1 18 rfl rfl 3 (by decide) (hts (.fieldLink RX7 28 "CarnivalRoad" "reader" "LCarnivalRoad$Reader;") (by decide +kernel)) (fun _ h9 => h9) rfl dX7_load_51 ?_
    refine z_iconst hx hb dX7_load_54 ?_
    refine z_put (D := D) (ci := 4) (v := .int (zI 0)) (ty := .int) (C := RX4) (T := TX4) (N := 9) (ws2 := kG cI cB cZ oG Gn Gki Gle Glo Gta Gsh ++ kR cI cB cZ oR (oG 0) Rtape 0 Rfn_17 Rfp_18 Rtok_19 Rts_20 Rte_21 Rval_22 ++ kB cI cB cZ oB (oG 0) Bcnt Bwo Bon Btw Bnu ++ kB cI cB cZ oD (oG 0) Dcnt_23 Dwo_24 Don_25 Dtw_26 Dnu_27 ++ kC cI cB cZ oC (oG 0) Crow Cquiet (oR 0) (oB 0) (oD 0) aCsearch aCbreach aCstreet aCparade aCtrial Crun) hx hb hts hinX4 tyX4 tyX4_ok nmX4 hown hK hw 6 rfl rfl 2 (by decide) (hts (.fieldLink RX7 110 "CarnivalRoad$Reader" "length" "I") (by decide +kernel)) (fun _ h9 => h9) rfl (by decide +kernel) rfl rfl (Nat.le_of_ble_eq_true rfl) dX7_load_55 rfl (fun H locs hw => ?_)
    refine lv_aload_n hx hb dX7_load_58 rfl (lv_at hl 0 rfl) ?_
    refine va_get (D := D) (ci := 7) (v := .ref (oR 0)) (C := RX7) (T := TX7) (N := 12) hx hb hts hinX7 hown hK hw.1 18 rfl rfl 3 (by decide) (hts (.fieldLink RX7 28 "CarnivalRoad" "reader" "LCarnivalRoad$Reader;") (by decide +kernel)) (fun _ h9 => h9) rfl dX7_load_59 ?_
    refine va_get (D := D) (ci := 4) (v := .int (zI Rfn_17)) (C := RX4) (T := TX4) (N := 9) hx hb hts hinX4 hown hK hw.1 6 rfl rfl 3 (by decide) (hts (.fieldLink RX7 128 "CarnivalRoad$Reader" "faultNumber" "I") (by decide +kernel)) (fun _ h9 => h9) rfl dX7_load_62 ?_
    refine z_if_eq (tgt := 70) hx hb dX7_load_65 (by decide) (by omega) (fun hc_41 => ?_) (fun hc_41 => ?_)
    · skip
      refine lv_aload_n hx hb dX7_load_70 rfl (lv_at hl 0 rfl) ?_
      refine va_get (D := D) (ci := 7) (v := .ref (oB 0)) (C := RX7) (T := TX7) (N := 12) hx hb hts hinX7 hown hK hw.1 18 rfl rfl 4 (by decide) (hts (.fieldLink RX7 35 "CarnivalRoad" "bars" "LCarnivalRoad$Bars;") (by decide +kernel)) (fun _ h9 => h9) rfl dX7_load_71 ?_
      refine lv_astore_n (lv' := [(1, .ref (oB 0)), (0, .ref (oC 0))]) hx hb dX7_load_74 rfl hl (by decide) rfl (fun ls hl => ?_)
      refine lv_aload_n hx hb dX7_load_75 rfl (lv_at hl 1 rfl) ?_
      refine lv_aload_n hx hb dX7_load_76 rfl (lv_at hl 1 rfl) ?_
      refine va_get (D := D) (ci := 7) (v := .ref (oD 0)) (C := RX7) (T := TX7) (N := 12) hx hb hts hinX7 hown hK hw.1 18 rfl rfl 5 (by decide) (hts (.fieldLink RX7 39 "CarnivalRoad" "spare" "LCarnivalRoad$Bars;") (by decide +kernel)) (fun _ h9 => h9) rfl dX7_load_77 ?_
      refine z_put (D := D) (ci := 7) (v := .ref (oD 0)) (ty := .object "CarnivalRoad$Bars") (C := RX7) (T := TX7) (N := 12) (ws2 := kG cI cB cZ oG Gn Gki Gle Glo Gta Gsh ++ kR cI cB cZ oR (oG 0) Rtape 0 Rfn_17 Rfp_18 Rtok_19 Rts_20 Rte_21 Rval_22 ++ kB cI cB cZ oB (oG 0) Bcnt Bwo Bon Btw Bnu ++ kB cI cB cZ oD (oG 0) Dcnt_23 Dwo_24 Don_25 Dtw_26 Dnu_27 ++ kC cI cB cZ oC (oG 0) Crow Cquiet (oR 0) (oD 0) (oD 0) aCsearch aCbreach aCstreet aCparade aCtrial Crun) hx hb hts hinX7 tyX7 tyX7_ok nmX7 hown hK hw 18 rfl rfl 4 (by decide) (hts (.fieldLink RX7 35 "CarnivalRoad" "bars" "LCarnivalRoad$Bars;") (by decide +kernel)) (fun _ h9 => h9) rfl (by decide +kernel) rfl rfl (Nat.le_of_ble_eq_true rfl) dX7_load_80 rfl (fun H locs hw => ?_)
      refine lv_aload_n hx hb dX7_load_83 rfl (lv_at hl 1 rfl) ?_
      refine lv_aload_n hx hb dX7_load_84 rfl (lv_at hl 0 rfl) ?_
      refine z_put (D := D) (ci := 7) (v := .ref (oB 0)) (ty := .object "CarnivalRoad$Bars") (C := RX7) (T := TX7) (N := 12) (ws2 := kG cI cB cZ oG Gn Gki Gle Glo Gta Gsh ++ kR cI cB cZ oR (oG 0) Rtape 0 Rfn_17 Rfp_18 Rtok_19 Rts_20 Rte_21 Rval_22 ++ kB cI cB cZ oB (oG 0) Bcnt Bwo Bon Btw Bnu ++ kB cI cB cZ oD (oG 0) Dcnt_23 Dwo_24 Don_25 Dtw_26 Dnu_27 ++ kC cI cB cZ oC (oG 0) Crow Cquiet (oR 0) (oD 0) (oB 0) aCsearch aCbreach aCstreet aCparade aCtrial Crun) hx hb hts hinX7 tyX7 tyX7_ok nmX7 hown hK hw 18 rfl rfl 5 (by decide) (hts (.fieldLink RX7 39 "CarnivalRoad" "spare" "LCarnivalRoad$Bars;") (by decide +kernel)) (fun _ h9 => h9) rfl (by decide +kernel) rfl rfl (Nat.le_of_ble_eq_true rfl) dX7_load_85 rfl (fun H locs hw => ?_)
      refine lv_aload_n hx hb dX7_load_88 rfl (lv_at hl 1 rfl) ?_
      refine va_get (D := D) (ci := 7) (v := .ref (oD 0)) (C := RX7) (T := TX7) (N := 12) hx hb hts hinX7 hown hK hw.1 18 rfl rfl 4 (by decide) (hts (.fieldLink RX7 35 "CarnivalRoad" "bars" "LCarnivalRoad$Bars;") (by decide +kernel)) (fun _ h9 => h9) rfl dX7_load_89 ?_
      refine va_get (D := D) (ci := 0) (v := .int (zI Dcnt_23)) (C := RX0) (T := TX0) (N := 6) hx hb hts hinX0 hown hK hw.1 13 rfl rfl 1 (by decide) (hts (.fieldLink RX7 116 "CarnivalRoad$Bars" "count" "I") (by decide +kernel)) (fun _ h9 => h9) rfl dX7_load_92 ?_
      have hv_42 : (0 : Int) ≤ (0 : Int) ∧ (0 : Int) ≤ 400 := by
        first | assumption | omega | grind
      have hv_43 : (0 : Int) ≤ Rfn_17 ∧ Rfn_17 ≤ 3 := by
        first | assumption | omega | grind
      have hv_44 : (-1 : Int) ≤ Rfp_18 ∧ Rfp_18 ≤ 400 := by
        first | assumption | omega | grind
      have hv_45 : (1 : Int) ≤ Rtok_19 ∧ Rtok_19 ≤ 11 := by
        first | assumption | omega | grind
      have hv_46 : (0 : Int) ≤ Rts_20 ∧ Rts_20 ≤ 400 := by
        first | assumption | omega | grind
      have hv_47 : (0 : Int) ≤ Rte_21 ∧ Rte_21 ≤ 400 := by
        first | assumption | omega | grind
      have hv_48 : (0 : Int) ≤ Rval_22 ∧ Rval_22 ≤ 999 := by
        first | assumption | omega | grind
      have hv_49 : (0 : Int) ≤ Dcnt_23 ∧ Dcnt_23 ≤ 10 := by
        first | assumption | omega | grind
      have hv_50 : (0 : Int) ≤ Bcnt ∧ Bcnt ≤ 10 := by
        first | assumption | omega | grind
      have hv_51 : (¬ (allQ Rtape Rlen Gn Dwo Don Dtw Dnu).1.1 = 0 ∧ Dcnt_23 = -1 ∧ oD = oB ∧ oB = oD ∧ Dcnt_23 = Bcnt ∧ Dwo_24 = Bwo ∧ Don_25 = Bon ∧ Dtw_26 = Btw ∧ Dnu_27 = Bnu ∧ Bwo = (allQ Rtape Rlen Gn Dwo Don Dtw Dnu).2.2.1) ∨ ((allQ Rtape Rlen Gn Dwo Don Dtw Dnu).1.1 = 0 ∧ Dcnt_23 = (allQ Rtape Rlen Gn Dwo Don Dtw Dnu).2.1 ∧ oD = oD ∧ oB = oB ∧ (Dcnt_23, Dwo_24, Don_25, Dtw_26, Dnu_27) = (allQ Rtape Rlen Gn Dwo Don Dtw Dnu).2 ∧ Bwo = Bwo) := by
        have e9 := congrArg (fun b : BS => b.1) ht8
        dsimp only at e9
        exact Or.inr ⟨by omega, by omega, rfl, rfl, ht8, rfl⟩
      have hv_52 : (0 : Int) = 0 := by
        rfl
      have hv_53 : Rfn_17 = (allQ Rtape Rlen Gn Dwo Don Dtw Dnu).1.1 := by
        omega
      have hv_54 : Rfp_18 = (allQ Rtape Rlen Gn Dwo Don Dtw Dnu).1.2.1 := by
        omega
      have hw := z_perm (ws2 := kG cI cB cZ oG Gn Gki Gle Glo Gta Gsh ++ kR cI cB cZ oR (oG 0) Rtape 0 Rfn_17 Rfp_18 Rtok_19 Rts_20 Rte_21 Rval_22 ++ kB cI cB cZ oD (oG 0) Dcnt_23 Dwo_24 Don_25 Dtw_26 Dnu_27 ++ kB cI cB cZ oB (oG 0) Bcnt Bwo Bon Btw Bnu ++ kC cI cB cZ oC (oG 0) Crow Cquiet (oR 0) (oD 0) (oB 0) aCsearch aCbreach aCstreet aCparade aCtrial Crun) hw [0, 1, 2, 3, 4, 5, 6, 7, 13, 14, 15, 16, 17, 8, 9, 10, 11, 12, 18, 19, 20] (by decide) rfl
      exact W.iret (v := zI Dcnt_23) hx hb hr (fun t9 ht hW => ⟨⟨zI Dcnt_23, (Dcnt_23, 0, Rfn_17, Rfp_18, Rtok_19, Rts_20, Rte_21, Rval_22, Dcnt_23, Dwo_24, Don_25, Dtw_26, Dnu_27, Bcnt, Bwo, Bon, Btw, Bnu, oD, oB), rfl, ⟨rfl, ⟨hv_42, hv_43, hv_44, hv_45, hv_46, hv_47, hv_48, hv_49, hR_35, hR_36, hR_37, hR_38, hv_50, qBwo, qBon, qBtw, qBnu, hv_51, hv_52, hv_53, hv_54⟩⟩, by subst hAe; exact z_end hK hw ht hW⟩, by subst hAe; exact hw.2.2.F ht⟩) (by subst hAe; exact hw.2.2.2.2) dX7_load_95
    · skip
      refine z_iconst hx hb dX7_load_68 ?_
      have hv_55 : (0 : Int) ≤ (0 : Int) ∧ (0 : Int) ≤ 400 := by
        first | assumption | omega | grind
      have hv_56 : (0 : Int) ≤ Rfn_17 ∧ Rfn_17 ≤ 3 := by
        first | assumption | omega | grind
      have hv_57 : (-1 : Int) ≤ Rfp_18 ∧ Rfp_18 ≤ 400 := by
        first | assumption | omega | grind
      have hv_58 : (1 : Int) ≤ Rtok_19 ∧ Rtok_19 ≤ 11 := by
        first | assumption | omega | grind
      have hv_59 : (0 : Int) ≤ Rts_20 ∧ Rts_20 ≤ 400 := by
        first | assumption | omega | grind
      have hv_60 : (0 : Int) ≤ Rte_21 ∧ Rte_21 ≤ 400 := by
        first | assumption | omega | grind
      have hv_61 : (0 : Int) ≤ Rval_22 ∧ Rval_22 ≤ 999 := by
        first | assumption | omega | grind
      have hv_62 : (0 : Int) ≤ Bcnt ∧ Bcnt ≤ 10 := by
        first | assumption | omega | grind
      have hv_63 : (0 : Int) ≤ Dcnt_23 ∧ Dcnt_23 ≤ 10 := by
        first | assumption | omega | grind
      have hv_64 : (¬ (allQ Rtape Rlen Gn Dwo Don Dtw Dnu).1.1 = 0 ∧ ((-1) : Int) = -1 ∧ oB = oB ∧ oD = oD ∧ Bcnt = Bcnt ∧ Bwo = Bwo ∧ Bon = Bon ∧ Btw = Btw ∧ Bnu = Bnu ∧ Dwo_24 = (allQ Rtape Rlen Gn Dwo Don Dtw Dnu).2.2.1) ∨ ((allQ Rtape Rlen Gn Dwo Don Dtw Dnu).1.1 = 0 ∧ ((-1) : Int) = (allQ Rtape Rlen Gn Dwo Don Dtw Dnu).2.1 ∧ oB = oD ∧ oD = oB ∧ (Bcnt, Bwo, Bon, Btw, Bnu) = (allQ Rtape Rlen Gn Dwo Don Dtw Dnu).2 ∧ Dwo_24 = Bwo) := by
        have e9 := congrArg (fun b : BS => b.2.1) ht8
        dsimp only at e9
        exact Or.inl ⟨by omega, rfl, rfl, rfl, rfl, rfl, rfl, rfl, rfl, e9⟩
      have hv_65 : (0 : Int) = 0 := by
        rfl
      have hv_66 : Rfn_17 = (allQ Rtape Rlen Gn Dwo Don Dtw Dnu).1.1 := by
        omega
      have hv_67 : Rfp_18 = (allQ Rtape Rlen Gn Dwo Don Dtw Dnu).1.2.1 := by
        omega
      exact W.iret (v := zI (-1)) hx hb hr (fun t9 ht hW => ⟨⟨zI (-1), ((-1), 0, Rfn_17, Rfp_18, Rtok_19, Rts_20, Rte_21, Rval_22, Bcnt, Bwo, Bon, Btw, Bnu, Dcnt_23, Dwo_24, Don_25, Dtw_26, Dnu_27, oB, oD), rfl, ⟨rfl, ⟨hv_55, hv_56, hv_57, hv_58, hv_59, hv_60, hv_61, hv_62, qBwo, qBon, qBtw, qBnu, hv_63, hR_35, hR_36, hR_37, hR_38, hv_64, hv_65, hv_66, hv_67⟩⟩, by subst hAe; exact z_end hK hw ht hW⟩, by subst hAe; exact hw.2.2.F ht⟩) (by subst hAe; exact hw.2.2.2.2) dX7_load_69
  refine z_iconst hx hb dX7_load_15 ?_
  refine lv_istore_n (lv' := [(1, .int (zI 0)), (0, .ref (oC 0))]) hx hb dX7_load_16 rfl hl (by decide) rfl (fun ls hl => ?_)
  have hv_68 : (0 : Int) ≤ Rfn_2 ∧ Rfn_2 ≤ 3 := by
    first | assumption | omega | grind
  have hv_69 : (-1 : Int) ≤ Rfp_3 ∧ Rfp_3 ≤ 400 := by
    first | assumption | omega | grind
  have hv_70 : (1 : Int) ≤ Rtok_4 ∧ Rtok_4 ≤ 11 := by
    first | assumption | omega | grind
  have hv_71 : (0 : Int) ≤ Rts_5 ∧ Rts_5 ≤ 400 := by
    first | assumption | omega | grind
  have hv_72 : (0 : Int) ≤ Rte_6 ∧ Rte_6 ≤ 400 := by
    first | assumption | omega | grind
  have hv_73 : (0 : Int) ≤ Rval_7 ∧ Rval_7 ≤ 999 := by
    first | assumption | omega | grind
  have hv_74 : (0 : Int) ≤ (0 : Int) ∧ (0 : Int) ≤ 10 := by
    first | assumption | omega | grind
  have hv_75 : 0 ≤ (0 : Int) ∧ (0 : Int) ≤ 11 := by
    first | assumption | omega | grind
  have hv_76 : (goF Rtape Rlen (0, -1, 0, 0, 0, 0), (0, Dwo, Don, Dtw, Dnu)) = parK Rtape Rlen Gn (goF Rtape Rlen (0, -1, 0, 0, 0, 0), (0, Dwo, Don, Dtw, Dnu)) (0 : Int).toNat := by
    rfl
  have hv_77 : qR (goF Rtape Rlen (0, -1, 0, 0, 0, 0), (0, Dwo, Don, Dtw, Dnu)).1 Rfn_2 Rfp_3 Rtok_4 Rts_5 Rte_6 Rval_7 := by
    assumption
  have hv_78 : Rte_6 ≤ Rlen := by
    first | assumption | omega | grind
  have hv_79 : ((0 : Int), Dwo, Don, Dtw, Dnu) = (goF Rtape Rlen (0, -1, 0, 0, 0, 0), (0, Dwo, Don, Dtw, Dnu)).2 := by
    rfl
  refine z_loop (σ := Int × Int × Int × Int × Int × Int × Int × Int × (Int → Int) × (Int → Int) × (Int → Int) × (Int → Int) × QS × BS) (μ := fun x9 => (11 - (x9.1)).toNat) (I := fun x9 H locs ls => ((0 : Int) ≤ (x9.2.1) ∧ (x9.2.1) ≤ 3) ∧ ((-1 : Int) ≤ (x9.2.2.1) ∧ (x9.2.2.1) ≤ 400) ∧ ((1 : Int) ≤ (x9.2.2.2.1) ∧ (x9.2.2.2.1) ≤ 11) ∧ ((0 : Int) ≤ (x9.2.2.2.2.1) ∧ (x9.2.2.2.2.1) ≤ 400) ∧ ((0 : Int) ≤ (x9.2.2.2.2.2.1) ∧ (x9.2.2.2.2.2.1) ≤ 400) ∧ ((0 : Int) ≤ (x9.2.2.2.2.2.2.1) ∧ (x9.2.2.2.2.2.2.1) ≤ 999) ∧ ((0 : Int) ≤ (x9.2.2.2.2.2.2.2.1) ∧ (x9.2.2.2.2.2.2.2.1) ≤ 10) ∧ (RA (x9.2.2.2.2.2.2.2.2.1) (0) 11) ∧ (RA (x9.2.2.2.2.2.2.2.2.2.1) (0) 12) ∧ (RA (x9.2.2.2.2.2.2.2.2.2.2.1) (0) 12) ∧ (RA (x9.2.2.2.2.2.2.2.2.2.2.2.1) (0) 18) ∧ (0 ≤ (x9.1) ∧ (x9.1) ≤ 11) ∧ (x9.2.2.2.2.2.2.2.2.2.2.2.2 = parK Rtape Rlen Gn (goF Rtape Rlen (0, -1, 0, 0, 0, 0), (0, Dwo, Don, Dtw, Dnu)) (x9.1).toNat) ∧ (qR x9.2.2.2.2.2.2.2.2.2.2.2.2.1 (x9.2.1) (x9.2.2.1) (x9.2.2.2.1) (x9.2.2.2.2.1) (x9.2.2.2.2.2.1) (x9.2.2.2.2.2.2.1)) ∧ ((x9.2.2.2.2.2.1) ≤ Rlen) ∧ (((x9.2.2.2.2.2.2.2.1), (x9.2.2.2.2.2.2.2.2.1), (x9.2.2.2.2.2.2.2.2.2.1), (x9.2.2.2.2.2.2.2.2.2.2.1), (x9.2.2.2.2.2.2.2.2.2.2.2.1)) = x9.2.2.2.2.2.2.2.2.2.2.2.2.2) ∧ HW D A s.heap (kG cI cB cZ oG Gn Gki Gle Glo Gta Gsh ++ kR cI cB cZ oR (oG 0) Rtape Rlen (x9.2.1) (x9.2.2.1) (x9.2.2.2.1) (x9.2.2.2.2.1) (x9.2.2.2.2.2.1) (x9.2.2.2.2.2.2.1) ++ kB cI cB cZ oB (oG 0) Bcnt Bwo Bon Btw Bnu ++ kB cI cB cZ oD (oG 0) (x9.2.2.2.2.2.2.2.1) (x9.2.2.2.2.2.2.2.2.1) (x9.2.2.2.2.2.2.2.2.2.1) (x9.2.2.2.2.2.2.2.2.2.2.1) (x9.2.2.2.2.2.2.2.2.2.2.2.1) ++ kC cI cB cZ oC (oG 0) Crow Cquiet (oR 0) (oB 0) (oD 0) aCsearch aCbreach aCstreet aCparade aCtrial Crun) H locs ∧ lv_has ls 2 [(0, .ref (oC 0)), (1, .int (zI (x9.1)))]) (0, Rfn_2, Rfp_3, Rtok_4, Rts_5, Rte_6, Rval_7, 0, Dwo, Don, Dtw, Dnu, (goF Rtape Rlen (0, -1, 0, 0, 0, 0), (0, Dwo, Don, Dtw, Dnu))) ⟨hv_68, hv_69, hv_70, hv_71, hv_72, hv_73, hv_74, qDwo, qDon, qDtw, qDnu, hv_75, hv_76, hv_77, hv_78, hv_79, hw, lv_sub hl [1, 0] rfl⟩ ?_
  clear hw hl
  intro x9 H locs ls hI ih_80
  obtain ⟨i_81, Rfn_82, Rfp_83, Rtok_84, Rts_85, Rte_86, Rval_87, Dcnt_88, Dwo_89, Don_90, Dtw_91, Dnu_92, s_93⟩ := x9
  try dsimp only at hI
  obtain ⟨hq_94, hq_95, hq_96, hq_97, hq_98, hq_99, hq_100, hR_101, hR_102, hR_103, hR_104, hI_105, hI_106, hI_107, hI_108, hI_109, hw, hl⟩ := hI
  refine lv_iload_n hx hb dX7_load_17 rfl (lv_at hl 1 rfl) ?_
  refine z_bipush hx hb dX7_load_18 (by decide) ?_
  refine z_icmp_gt (tgt := 50) hx hb dX7_load_20 (by decide) (by omega) (fun hc_110 => ?_) (fun hc_110 => ?_)
  · skip
    have hv_111 : (0 : Int) ≤ Rfn_82 ∧ Rfn_82 ≤ 3 := by
      first | assumption | omega | grind
    have hv_112 : (-1 : Int) ≤ Rfp_83 ∧ Rfp_83 ≤ 400 := by
      first | assumption | omega | grind
    have hv_113 : (1 : Int) ≤ Rtok_84 ∧ Rtok_84 ≤ 11 := by
      first | assumption | omega | grind
    have hv_114 : (0 : Int) ≤ Rts_85 ∧ Rts_85 ≤ 400 := by
      first | assumption | omega | grind
    have hv_115 : (0 : Int) ≤ Rte_86 ∧ Rte_86 ≤ 400 := by
      first | assumption | omega | grind
    have hv_116 : (0 : Int) ≤ Rval_87 ∧ Rval_87 ≤ 999 := by
      first | assumption | omega | grind
    have hv_117 : (0 : Int) ≤ Dcnt_88 ∧ Dcnt_88 ≤ 10 := by
      first | assumption | omega | grind
    have hv_118 : qR (allQ Rtape Rlen Gn Dwo Don Dtw Dnu).1 Rfn_82 Rfp_83 Rtok_84 Rts_85 Rte_86 Rval_87 := by
      have hs := (by assumption : s_93 = parK Rtape Rlen Gn (goF Rtape Rlen (0, -1, 0, 0, 0, 0), (0, Dwo, Don, Dtw, Dnu)) i_81.toNat)
      have hz := (by assumption : qR s_93.1 _ _ _ _ _ _)
      have hz2 := hz
      unfold qR at hz2
      have hall := all_k (f := Rtape) (len := Rlen) (n := Gn) (wo := Dwo) (on := Don) (tw := Dtw) (nu := Dnu) (k := i_81.toNat) (by omega) (by rw [← hs]; omega)
      rw [hall, ← hs]; assumption
    have hv_119 : (Dcnt_88, Dwo_89, Don_90, Dtw_91, Dnu_92) = (allQ Rtape Rlen Gn Dwo Don Dtw Dnu).2 := by
      have hs := (by assumption : s_93 = parK Rtape Rlen Gn (goF Rtape Rlen (0, -1, 0, 0, 0, 0), (0, Dwo, Don, Dtw, Dnu)) i_81.toNat)
      have hz := (by assumption : qR s_93.1 _ _ _ _ _ _)
      have hz2 := hz
      unfold qR at hz2
      have hall := all_k (f := Rtape) (len := Rlen) (n := Gn) (wo := Dwo) (on := Don) (tw := Dtw) (nu := Dnu) (k := i_81.toNat) (by omega) (by rw [← hs]; omega)
      rw [hall, ← hs]; assumption
    exact hj_16 (Rfn_82, Rfp_83, Rtok_84, Rts_85, Rte_86, Rval_87, Dcnt_88, Dwo_89, Don_90, Dtw_91, Dnu_92) _ _ _ ⟨hv_111, hv_112, hv_113, hv_114, hv_115, hv_116, hv_117, hR_101, hR_102, hR_103, hR_104, hv_118, hv_119, hw, lv_sub hl [0] rfl⟩
  · skip
    refine lv_aload_n hx hb dX7_load_23 rfl (lv_at hl 0 rfl) ?_
    refine va_get (D := D) (ci := 7) (v := .ref (oR 0)) (C := RX7) (T := TX7) (N := 12) hx hb hts hinX7 hown hK hw.1 18 rfl rfl 3 (by decide) (hts (.fieldLink RX7 28 "CarnivalRoad" "reader" "LCarnivalRoad$Reader;") (by decide +kernel)) (fun _ h9 => h9) rfl dX7_load_24 ?_
    have hF9 := z_free (wc := kR cI cB cZ oR (oG 0) Rtape Rlen Rfn_82 Rfp_83 Rtok_84 Rts_85 Rte_86 Rval_87) hw hA [6, 7] rfl
    refine va_calli (va_runV (As := []) (rest := []) ⟨hx, hb, hml, hown, hts⟩ (c_X4_hasMore l D cI cB cZ oR (oG 0) H.size Rtape Rlen Rfn_82 Rfp_83 Rtok_84 Rts_85 Rte_86 Rval_87 qRtape (by omega) (by omega) (by omega) (by omega) (by omega) (by omega) (by omega)) (cwV 0 hts gX7_load_X4_hasMore rfl rfl rfl (by decide +kernel) ⟨Nat.le_of_ble_eq_true rfl, Nat.le_of_ble_eq_true rfl⟩) ⟨zPre_blind, va_recv hK hw.1 (ci := 4) (q0 := 6) rfl rfl, z_pre hK hw [6, 7] (by decide) rfl⟩ rfl rfl hl.1 rfl (lv_room (Nat.le_of_ble_eq_true rfl)) dX7_load_27 ⟨Nat.zero_le _, Nat.zero_le _⟩) hw.2.2 (fun q _ h => hF9 q h) hF9 (fun r9 u9 t9 H_120 locs9 ht9 hvm9 hq9 hB9 hz9 hk9 hS9 => ?_)
    obtain ⟨r_121, rfl⟩ : ∃ z, z = u9 := ⟨_, rfl⟩
    try dsimp only at hq9 hB9
    obtain ⟨rfl, hq9⟩ := hq9
    have hq_122 := hq9
    have hw : HW D A s.heap (kG cI cB cZ oG Gn Gki Gle Glo Gta Gsh ++ kR cI cB cZ oR (oG 0) Rtape Rlen Rfn_82 Rfp_83 Rtok_84 Rts_85 Rte_86 Rval_87 ++ kB cI cB cZ oB (oG 0) Bcnt Bwo Bon Btw Bnu ++ kB cI cB cZ oD (oG 0) Dcnt_88 Dwo_89 Don_90 Dtw_91 Dnu_92 ++ kC cI cB cZ oC (oG 0) Crow Cquiet (oR 0) (oB 0) (oD 0) aCsearch aCbreach aCstreet aCparade aCtrial Crun) H_120 locs9 := z_after (wc := kR cI cB cZ oR (oG 0) Rtape Rlen Rfn_82 Rfp_83 Rtok_84 Rts_85 Rte_86 Rval_87) hw [6, 7] [0, 1, 2, 3, 4, 5, 8, 9, 10, 11, 12, 13, 14, 15, 16, 17, 18, 19, 20] rfl rfl (by decide) (by decide) hF9 hk9 ht9 hB9 hS9 [0, 1, 2, 3, 4, 5, 19, 20, 6, 7, 8, 9, 10, 11, 12, 13, 14, 15, 16, 17, 18] (by decide) rfl
    clear hF9 ht9 hvm9 hB9 hz9 hk9 hS9 hq9
    rcases hq_122 with ⟨hc_123, rfl⟩ | ⟨hc_123, rfl⟩
    · skip
      refine z_if_eq (tgt := 50) hx hb dX7_load_30 (by decide) (by omega) (fun hc_124 => absurd hc_124 (by omega)) (fun hc_124 => ?_)
      refine lv_aload_n hx hb dX7_load_33 rfl (lv_at hl 0 rfl) ?_
      refine va_get (D := D) (ci := 7) (v := .ref (oR 0)) (C := RX7) (T := TX7) (N := 12) hx hb hts hinX7 hown hK hw.1 18 rfl rfl 3 (by decide) (hts (.fieldLink RX7 28 "CarnivalRoad" "reader" "LCarnivalRoad$Reader;") (by decide +kernel)) (fun _ h9 => h9) rfl dX7_load_34 ?_
      refine lv_aload_n hx hb dX7_load_37 rfl (lv_at hl 0 rfl) ?_
      refine va_get (D := D) (ci := 7) (v := .ref (oD 0)) (C := RX7) (T := TX7) (N := 12) hx hb hts hinX7 hown hK hw.1 18 rfl rfl 5 (by decide) (hts (.fieldLink RX7 39 "CarnivalRoad" "spare" "LCarnivalRoad$Bars;") (by decide +kernel)) (fun _ h9 => h9) rfl dX7_load_38 ?_
      have hpre_125 : qR (s_93.1) Rfn_82 Rfp_83 Rtok_84 Rts_85 Rte_86 Rval_87 := by
        first | assumption | omega
      have hpre_126 : Rte_86 ≤ Rlen := by
        first | assumption | omega
      have hF9 := z_free (wc := kG cI cB cZ oG Gn Gki Gle Glo Gta Gsh ++ kR cI cB cZ oR (oG 0) Rtape Rlen Rfn_82 Rfp_83 Rtok_84 Rts_85 Rte_86 Rval_87 ++ kB cI cB cZ oD (oG 0) Dcnt_88 Dwo_89 Don_90 Dtw_91 Dnu_92) hw hA [0, 1, 2, 3, 4, 5, 6, 7, 13, 14, 15, 16, 17] rfl
      refine va_callv (va_runV (As := [.ref (oD 0)]) (rest := []) ⟨hx, hb, hml, hown, hts⟩ (c_X4_readBar l D cI cB cZ aK aV oG oR oD H_120.size Gn Gki Gle Glo Gta Gsh Rtape Rlen Rfn_82 Rfp_83 Rtok_84 Rts_85 Rte_86 Rval_87 Dcnt_88 Dwo_89 Don_90 Dtw_91 Dnu_92 (s_93.1) (by omega) qGki qGle qGlo qGta qGsh qRtape (by omega) (by omega) (by omega) (by omega) (by omega) (by omega) (by omega) (by omega) hR_101 hR_102 hR_103 hR_104 hpre_125 hpre_126) (cwV 1 hts gX7_load_X4_readBar rfl rfl rfl (by decide +kernel) ⟨Nat.le_of_ble_eq_true rfl, Nat.le_of_ble_eq_true rfl⟩) ⟨zPreX_blind, va_recv hK hw.1 (ci := 4) (q0 := 6) rfl rfl, z_preX hK hw [0, 1, 2, 3, 4, 5, 6, 7, 13, 14, 15, 16, 17] (by decide) rfl hZX hF9⟩ rfl rfl hl.1 rfl (lv_room (Nat.le_of_ble_eq_true rfl)) dX7_load_41 ⟨Nat.zero_le _, Nat.zero_le _⟩) hw.2.2 (fun q _ h => hF9 q h) hF9 (fun u9 t9 H_127 locs9 ht9 hvm9 hq9 hB9 hz9 hk9 hS9 => ?_)
      obtain ⟨Rfn_128, Rfp_129, Rtok_130, Rts_131, Rte_132, Rval_133, Bcnt_134, Bwo_135, Bon_136, Btw_137, Bnu_138⟩ := u9
      try dsimp only at hq9 hB9
      obtain ⟨hq_139, hq_140, hq_141, hq_142, hq_143, hq_144, hq_145, hq_146, hq_147, hq_148, hq_149, hq_150, hq_151, hq_152⟩ := hq9
      have hw : HW D A s.heap (kG cI cB cZ oG Gn Gki Gle Glo Gta Gsh ++ kR cI cB cZ oR (oG 0) Rtape Rlen Rfn_128 Rfp_129 Rtok_130 Rts_131 Rte_132 Rval_133 ++ kB cI cB cZ oB (oG 0) Bcnt Bwo Bon Btw Bnu ++ kB cI cB cZ oD (oG 0) Bcnt_134 Bwo_135 Bon_136 Btw_137 Bnu_138 ++ kC cI cB cZ oC (oG 0) Crow Cquiet (oR 0) (oB 0) (oD 0) aCsearch aCbreach aCstreet aCparade aCtrial Crun) H_127 locs9 := z_after (wc := kG cI cB cZ oG Gn Gki Gle Glo Gta Gsh ++ kR cI cB cZ oR (oG 0) Rtape Rlen Rfn_82 Rfp_83 Rtok_84 Rts_85 Rte_86 Rval_87 ++ kB cI cB cZ oD (oG 0) Dcnt_88 Dwo_89 Don_90 Dtw_91 Dnu_92) hw [0, 1, 2, 3, 4, 5, 6, 7, 13, 14, 15, 16, 17] [8, 9, 10, 11, 12, 18, 19, 20] rfl rfl (by decide) (by decide) hF9 hk9 ht9 hB9 hS9 [8, 9, 10, 11, 12, 13, 14, 15, 0, 1, 2, 3, 4, 16, 17, 18, 19, 20, 5, 6, 7] (by decide) rfl
      clear hF9 ht9 hvm9 hB9 hz9 hk9 hS9
      refine z_iinc (k := 1) (lv' := [(1, .int (zI (i_81 + 1))), (0, .ref (oC 0))]) hx hb dX7_load_44 hl rfl (by decide) rfl (fun ls hl => ?_)
      refine lv_goto (tgt := 17) hx hb dX7_load_47 (by decide) ?_
      have hv_153 : (0 : Int) ≤ Rfn_128 ∧ Rfn_128 ≤ 3 := by
        first | assumption | omega | grind
      have hv_154 : (-1 : Int) ≤ Rfp_129 ∧ Rfp_129 ≤ 400 := by
        first | assumption | omega | grind
      have hv_155 : (1 : Int) ≤ Rtok_130 ∧ Rtok_130 ≤ 11 := by
        first | assumption | omega | grind
      have hv_156 : (0 : Int) ≤ Rts_131 ∧ Rts_131 ≤ 400 := by
        first | assumption | omega | grind
      have hv_157 : (0 : Int) ≤ Rte_132 ∧ Rte_132 ≤ 400 := by
        first | assumption | omega | grind
      have hv_158 : (0 : Int) ≤ Rval_133 ∧ Rval_133 ≤ 999 := by
        first | assumption | omega | grind
      have hv_159 : (0 : Int) ≤ Bcnt_134 ∧ Bcnt_134 ≤ 10 := by
        first | assumption | omega | grind
      have hv_160 : 0 ≤ (i_81 + 1) ∧ (i_81 + 1) ≤ 11 := by
        first | assumption | omega | grind
      have hv_161 : (barQ Rtape Rlen Gn s_93.2.1 s_93.1, barB Rtape Rlen Gn s_93.1 s_93.2) = parK Rtape Rlen Gn (goF Rtape Rlen (0, -1, 0, 0, 0, 0), (0, Dwo, Don, Dtw, Dnu)) (i_81 + 1).toNat := by
        have hs := (by assumption : s_93 = parK Rtape Rlen Gn (goF Rtape Rlen (0, -1, 0, 0, 0, 0), (0, Dwo, Don, Dtw, Dnu)) i_81.toNat)
        have hz := (by assumption : qR s_93.1 _ _ _ _ _ _)
        unfold qR at hz
        have hg := par_go (f := Rtape) (len := Rlen) (n := Gn) (s := (goF Rtape Rlen (0, -1, 0, 0, 0, 0), (0, Dwo, Don, Dtw, Dnu))) (k := i_81.toNat) (by rw [← hs]; omega)
        rw [← hs] at hg
        rw [show (i_81 + 1).toNat = i_81.toNat + 1 by omega, hg]
      have hv_162 : qR (barQ Rtape Rlen Gn s_93.2.1 s_93.1, barB Rtape Rlen Gn s_93.1 s_93.2).1 Rfn_128 Rfp_129 Rtok_130 Rts_131 Rte_132 Rval_133 := by
        have z := congrArg Prod.fst (by assumption : (Dcnt_88, Dwo_89, Don_90, Dtw_91, Dnu_92) = s_93.2)
        dsimp only at z
        rw [← z]; assumption
      have hv_163 : Rte_132 ≤ Rlen := by
        assumption
      have hv_164 : (Bcnt_134, Bwo_135, Bon_136, Btw_137, Bnu_138) = (barQ Rtape Rlen Gn s_93.2.1 s_93.1, barB Rtape Rlen Gn s_93.1 s_93.2).2 := by
        rw [← (by assumption : (Dcnt_88, Dwo_89, Don_90, Dtw_91, Dnu_92) = s_93.2)]; assumption
      have hm_165 : (11 - (i_81 + 1)).toNat < (11 - i_81).toNat := by
        first | assumption | omega | grind
      exact ih_80 ((i_81 + 1), Rfn_128, Rfp_129, Rtok_130, Rts_131, Rte_132, Rval_133, Bcnt_134, Bwo_135, Bon_136, Btw_137, Bnu_138, (barQ Rtape Rlen Gn s_93.2.1 s_93.1, barB Rtape Rlen Gn s_93.1 s_93.2)) _ _ _ ⟨hv_153, hv_154, hv_155, hv_156, hv_157, hv_158, hv_159, hq_146, hq_147, hq_148, hq_149, hv_160, hv_161, hv_162, hv_163, hv_164, hw, lv_sub hl [1, 0] rfl⟩ hm_165
    · skip
      refine z_if_eq (tgt := 50) hx hb dX7_load_30 (by decide) (by omega) (fun hc_166 => ?_) (fun hc_166 => absurd hc_166 (by omega))
      have hv_167 : (0 : Int) ≤ Rfn_82 ∧ Rfn_82 ≤ 3 := by
        first | assumption | omega | grind
      have hv_168 : (-1 : Int) ≤ Rfp_83 ∧ Rfp_83 ≤ 400 := by
        first | assumption | omega | grind
      have hv_169 : (1 : Int) ≤ Rtok_84 ∧ Rtok_84 ≤ 11 := by
        first | assumption | omega | grind
      have hv_170 : (0 : Int) ≤ Rts_85 ∧ Rts_85 ≤ 400 := by
        first | assumption | omega | grind
      have hv_171 : (0 : Int) ≤ Rte_86 ∧ Rte_86 ≤ 400 := by
        first | assumption | omega | grind
      have hv_172 : (0 : Int) ≤ Rval_87 ∧ Rval_87 ≤ 999 := by
        first | assumption | omega | grind
      have hv_173 : (0 : Int) ≤ Dcnt_88 ∧ Dcnt_88 ≤ 10 := by
        first | assumption | omega | grind
      have hv_174 : qR (allQ Rtape Rlen Gn Dwo Don Dtw Dnu).1 Rfn_82 Rfp_83 Rtok_84 Rts_85 Rte_86 Rval_87 := by
        have hs := (by assumption : s_93 = parK Rtape Rlen Gn (goF Rtape Rlen (0, -1, 0, 0, 0, 0), (0, Dwo, Don, Dtw, Dnu)) i_81.toNat)
        have hz := (by assumption : qR s_93.1 _ _ _ _ _ _)
        have hz2 := hz
        unfold qR at hz2
        have hall := all_k (f := Rtape) (len := Rlen) (n := Gn) (wo := Dwo) (on := Don) (tw := Dtw) (nu := Dnu) (k := i_81.toNat) (by omega) (by rw [← hs]; omega)
        rw [hall, ← hs]; assumption
      have hv_175 : (Dcnt_88, Dwo_89, Don_90, Dtw_91, Dnu_92) = (allQ Rtape Rlen Gn Dwo Don Dtw Dnu).2 := by
        have hs := (by assumption : s_93 = parK Rtape Rlen Gn (goF Rtape Rlen (0, -1, 0, 0, 0, 0), (0, Dwo, Don, Dtw, Dnu)) i_81.toNat)
        have hz := (by assumption : qR s_93.1 _ _ _ _ _ _)
        have hz2 := hz
        unfold qR at hz2
        have hall := all_k (f := Rtape) (len := Rlen) (n := Gn) (wo := Dwo) (on := Don) (tw := Dtw) (nu := Dnu) (k := i_81.toNat) (by omega) (by rw [← hs]; omega)
        rw [hall, ← hs]; assumption
      exact hj_16 (Rfn_82, Rfp_83, Rtok_84, Rts_85, Rte_86, Rval_87, Dcnt_88, Dwo_89, Don_90, Dtw_91, Dnu_92) _ _ _ ⟨hv_167, hv_168, hv_169, hv_170, hv_171, hv_172, hv_173, hR_101, hR_102, hR_103, hR_104, hv_174, hv_175, hw, lv_sub hl [0] rfl⟩
