set_option maxRecDepth 100000 in
set_option maxHeartbeats 4000000 in
theorem c_X1_note (l : Launch) (D : va_G) (cI cB cZ : ClassId) (oX : Nat → Nat) (sz : Nat) (Xbar : Int) (Xle : Int) (Xgr : Int) (b : Int) (p : Int) (q : Int) (qXbar : -1 ≤ Xbar ∧ Xbar ≤ 10) (qXle : -1 ≤ Xle ∧ Xle ≤ 7) (qXgr : -1 ≤ Xgr ∧ Xgr ≤ 7) (qb : -1 ≤ b ∧ b ≤ 10) (qp : -1 ≤ p ∧ p ≤ 7) (qq : -1 ≤ q ∧ q ≤ 7) : Met l yX1_note wsX1_note ({ frames := 0, cells := 0, slots := 0, locals := 0 }) (va_Pc [.ref (oX 0), .int (zI b), .int (zI p), .int (zI q)] (zPre D cI cB cZ sz (kX cI cB cZ oX Xbar Xle Xgr))) (va_Qv (fun (u9 : Int × Int × Int) => ((-1 : Int) ≤ u9.1 ∧ u9.1 ≤ 10) ∧ ((-1 : Int) ≤ u9.2.1 ∧ u9.2.1 ≤ 7) ∧ ((-1 : Int) ≤ u9.2.2 ∧ u9.2.2 ≤ 7) ∧ (u9.1 = b) ∧ (u9.2.1 = p) ∧ (u9.2.2 = q)) (fun u9 t9 => zAt D cI cB cZ (va_A (kX cI cB cZ oX Xbar Xle Xgr) sz) (kX cI cB cZ oX (u9.1) (u9.2.1) (u9.2.2)) t9) (va_A (kX cI cB cZ oX Xbar Xle Xgr) sz)) 0 0 (va_A (kX cI cB cZ oX Xbar Xle Xgr) sz) := by
  refine Met.ofW (cc := cX1_note) (maxL := 4) (ret := none) (by decide) rfl ?_
  intro pp ee s mm aa bw mt cd s₁ BL hml hv
  obtain ⟨rfl, hsz, hP, hK, hD0⟩ := hv
  have hx := BL.exec
  have hb := BL.bytes
  have hr := BL.returns
  have hts := atoms_spec (ws := wsX1_note) BL.pre
  have hown : s.vm.findClass RX1 = some mm.cls := findClass_of_methodNamed BL.named
  have hlocks := BL.notSynchronized
  subst hsz
  generalize hAe : va_A (kX cI cB cZ oX Xbar Xle Xgr) s.heap.size = A
  have hA : ∀ q : Nat, s.heap.size ≤ q → A q := fun q h => by rw [← hAe]; exact Or.inr h
  have hw : HW D A s.heap (kX cI cB cZ oX Xbar Xle Xgr) s.heap [] := z_start hAe hP hD0
  clear hP hD0
  have hl := lv_entry ([.ref (oX 0), .int (zI b), .int (zI p), .int (zI q)]) (n := 4) (Nat.le_of_ble_eq_true rfl)
  rw [lg_entry_eq]
  generalize (lg_sl ([.ref (oX 0), .int (zI b), .int (zI p), .int (zI q)]) ++ List.replicate (4 - (lg_sl ([.ref (oX 0), .int (zI b), .int (zI p), .int (zI q)])).length) Slot.unset).toArray = ls at hl ⊢
  have hl : lv_has ls 4 [(0, .ref (oX 0)), (1, .int (zI b)), (2, .int (zI p)), (3, .int (zI q))] := hl
  have hinX1 : ∀ w ∈ wsX10, w ∈ wsX1_note := by decide +kernel
  refine lv_aload_n hx hb dX1_note_0 rfl (lv_at hl 0 rfl) ?_
  refine lv_iload_n hx hb dX1_note_1 rfl (lv_at hl 1 rfl) ?_
  refine z_put (D := D) (ci := 1) (v := .int (zI b)) (ty := .int) (C := RX1) (T := TX1) (N := 3) (ws2 := kX cI cB cZ oX b Xle Xgr) hx hb hts hinX1 tyX1 tyX1_ok nmX1 hown hK hw 0 rfl rfl 0 (by decide) (hts (.fieldLink RX1 9 "CarnivalRoad$Breach" "bar" "I") (by decide +kernel)) (fun _ h9 => h9) rfl (by decide +kernel) rfl rfl (Nat.le_of_ble_eq_true rfl) dX1_note_2 rfl (fun H locs hw => ?_)
  refine lv_aload_n hx hb dX1_note_5 rfl (lv_at hl 0 rfl) ?_
  refine lv_iload_n hx hb dX1_note_6 rfl (lv_at hl 2 rfl) ?_
  refine z_put (D := D) (ci := 1) (v := .int (zI p)) (ty := .int) (C := RX1) (T := TX1) (N := 3) (ws2 := kX cI cB cZ oX b p Xgr) hx hb hts hinX1 tyX1 tyX1_ok nmX1 hown hK hw 0 rfl rfl 1 (by decide) (hts (.fieldLink RX1 15 "CarnivalRoad$Breach" "lesser" "I") (by decide +kernel)) (fun _ h9 => h9) rfl (by decide +kernel) rfl rfl (Nat.le_of_ble_eq_true rfl) dX1_note_7 rfl (fun H locs hw => ?_)
  refine lv_aload_n hx hb dX1_note_10 rfl (lv_at hl 0 rfl) ?_
  refine lv_iload_n hx hb dX1_note_11 rfl (lv_at hl 3 rfl) ?_
  refine z_put (D := D) (ci := 1) (v := .int (zI q)) (ty := .int) (C := RX1) (T := TX1) (N := 3) (ws2 := kX cI cB cZ oX b p q) hx hb hts hinX1 tyX1 tyX1_ok nmX1 hown hK hw 0 rfl rfl 2 (by decide) (hts (.fieldLink RX1 18 "CarnivalRoad$Breach" "greater" "I") (by decide +kernel)) (fun _ h9 => h9) rfl (by decide +kernel) rfl rfl (Nat.le_of_ble_eq_true rfl) dX1_note_12 rfl (fun H locs hw => ?_)
  have hv_1 : (-1 : Int) ≤ b ∧ b ≤ 10 := by
    first | rfl | omega
  have hv_2 : (-1 : Int) ≤ p ∧ p ≤ 7 := by
    first | rfl | omega
  have hv_3 : (-1 : Int) ≤ q ∧ q ≤ 7 := by
    first | rfl | omega
  have hv_4 : b = b := by
    first | rfl | omega
  have hv_5 : p = p := by
    first | rfl | omega
  have hv_6 : q = q := by
    first | rfl | omega
  exact W.vret hx hb hr (fun t9 ht hW => ⟨⟨(b, p, q), rfl, ⟨hv_1, hv_2, hv_3, hv_4, hv_5, hv_6⟩, by subst hAe; exact z_end hK hw ht hW⟩, by subst hAe; exact hw.2.2.F ht⟩) (by subst hAe; exact hw.2.2.2.2) dX1_note_15
set_option maxRecDepth 100000 in
set_option maxHeartbeats 4000000 in
theorem c_X1_findAtEnd (l : Launch) (D : va_G) (cI cB cZ : ClassId) (oG : Nat → Nat) (oB : Nat → Nat) (oX : Nat → Nat) (aL : Nat) (sz : Nat) (Gn : Int) (Gki : Int → Int) (Gle : Int → Int) (Glo : Int → Int) (Gta : Int → Int) (Gsh : Int → Int) (Bcnt : Int) (Bwo : Int → Int) (Bon : Int → Int) (Btw : Int → Int) (Bnu : Int → Int) (Xbar : Int) (Xle : Int) (Xgr : Int) (fL : Int → Int) (k : Int) (p : Int) (qGn : 0 ≤ Gn ∧ Gn ≤ 8) (qGki : RA Gki (0) 4) (qGle : RA Gle (0) 5) (qGlo : RA Glo (0) 9) (qGta : RA Gta (0) 9) (qGsh : RA Gsh (0) 9) (qBcnt : 0 ≤ Bcnt ∧ Bcnt ≤ 10) (qBwo : RA Bwo (0) 11) (qBon : RA Bon (0) 12) (qBtw : RA Btw (0) 12) (qBnu : RA Bnu (0) 18) (qXbar : -1 ≤ Xbar ∧ Xbar ≤ 10) (qXle : -1 ≤ Xle ∧ Xle ≤ 7) (qXgr : -1 ≤ Xgr ∧ Xgr ≤ 7) (qfL : RA fL (0) 7) (qk : 0 ≤ k ∧ k ≤ 10) (qp : -1 ≤ p ∧ p ≤ 7) (hp0 : (Bwo k = 3 ∧ p = 0) ∨ (Bwo k = 4 ∧ p = Gn - 1)) : Met l yX1_findAtEnd wsX1_findAtEnd ({ frames := 1, cells := 0, slots := 0, locals := 23 }) (va_Pc [.ref (oX 0), .ref (oB 0), .int (zI k), .ref (oG 0), .ref aL, .int (zI p)] (zPre D cI cB cZ sz (kG cI cB cZ oG Gn Gki Gle Glo Gta Gsh ++ kB cI cB cZ oB (oG 0) Bcnt Bwo Bon Btw Bnu ++ kX cI cB cZ oX Xbar Xle Xgr ++ [(aL, .inl (cI, 8, .inl (zA fL)))]))) (va_Qv (fun (u9 : Int × Int × Int) => ((-1 : Int) ≤ u9.1 ∧ u9.1 ≤ 10) ∧ ((-1 : Int) ≤ u9.2.1 ∧ u9.2.1 ≤ 7) ∧ ((-1 : Int) ≤ u9.2.2 ∧ u9.2.2 ≤ 7) ∧ ((badP Gki Glo Gsh Bwo Bon Btw Bnu fL Gn k u9.2.1 u9.2.2 ∧ u9.1 = k) ∨ (okP Gki Glo Gsh Bwo Bon Btw Bnu fL Gn k ∧ u9.1 = Xbar ∧ u9.2.1 = Xle ∧ u9.2.2 = Xgr))) (fun u9 t9 => zAt D cI cB cZ (va_A (kG cI cB cZ oG Gn Gki Gle Glo Gta Gsh ++ kB cI cB cZ oB (oG 0) Bcnt Bwo Bon Btw Bnu ++ kX cI cB cZ oX Xbar Xle Xgr ++ [(aL, .inl (cI, 8, .inl (zA fL)))]) sz) (kG cI cB cZ oG Gn Gki Gle Glo Gta Gsh ++ kB cI cB cZ oB (oG 0) Bcnt Bwo Bon Btw Bnu ++ kX cI cB cZ oX (u9.1) (u9.2.1) (u9.2.2) ++ [(aL, .inl (cI, 8, .inl (zA fL)))]) t9) (va_A (kG cI cB cZ oG Gn Gki Gle Glo Gta Gsh ++ kB cI cB cZ oB (oG 0) Bcnt Bwo Bon Btw Bnu ++ kX cI cB cZ oX Xbar Xle Xgr ++ [(aL, .inl (cI, 8, .inl (zA fL)))]) sz)) 0 0 (va_A (kG cI cB cZ oG Gn Gki Gle Glo Gta Gsh ++ kB cI cB cZ oB (oG 0) Bcnt Bwo Bon Btw Bnu ++ kX cI cB cZ oX Xbar Xle Xgr ++ [(aL, .inl (cI, 8, .inl (zA fL)))]) sz) := by
  refine Met.ofW (cc := cX1_findAtEnd) (maxL := 6) (ret := none) (by decide) rfl ?_
  intro pp ee s mm aa bw mt cd s₁ BL hml hv
  obtain ⟨rfl, hsz, hP, hK, hD0⟩ := hv
  have hx := BL.exec
  have hb := BL.bytes
  have hr := BL.returns
  have hts := atoms_spec (ws := wsX1_findAtEnd) BL.pre
  have hown : s.vm.findClass RX1 = some mm.cls := findClass_of_methodNamed BL.named
  have hlocks := BL.notSynchronized
  subst hsz
  generalize hAe : va_A (kG cI cB cZ oG Gn Gki Gle Glo Gta Gsh ++ kB cI cB cZ oB (oG 0) Bcnt Bwo Bon Btw Bnu ++ kX cI cB cZ oX Xbar Xle Xgr ++ [(aL, .inl (cI, 8, .inl (zA fL)))]) s.heap.size = A
  have hA : ∀ q : Nat, s.heap.size ≤ q → A q := fun q h => by rw [← hAe]; exact Or.inr h
  have hw : HW D A s.heap (kG cI cB cZ oG Gn Gki Gle Glo Gta Gsh ++ kB cI cB cZ oB (oG 0) Bcnt Bwo Bon Btw Bnu ++ kX cI cB cZ oX Xbar Xle Xgr ++ [(aL, .inl (cI, 8, .inl (zA fL)))]) s.heap [] := z_start hAe hP hD0
  clear hP hD0
  have hl := lv_entry ([.ref (oX 0), .ref (oB 0), .int (zI k), .ref (oG 0), .ref aL, .int (zI p)]) (n := 6) (Nat.le_of_ble_eq_true rfl)
  rw [lg_entry_eq]
  generalize (lg_sl ([.ref (oX 0), .ref (oB 0), .int (zI k), .ref (oG 0), .ref aL, .int (zI p)]) ++ List.replicate (6 - (lg_sl ([.ref (oX 0), .ref (oB 0), .int (zI k), .ref (oG 0), .ref aL, .int (zI p)])).length) Slot.unset).toArray = ls at hl ⊢
  have hl : lv_has ls 6 [(0, .ref (oX 0)), (1, .ref (oB 0)), (2, .int (zI k)), (3, .ref (oG 0)), (4, .ref aL), (5, .int (zI p))] := hl
  have hinX0 : ∀ w ∈ wsX00, w ∈ wsX1_findAtEnd := by decide +kernel
  have hinX2 : ∀ w ∈ wsX20, w ∈ wsX1_findAtEnd := by decide +kernel
  refine lv_aload_n hx hb dX1_findAtEnd_0 rfl (lv_at hl 3 rfl) ?_
  refine va_get (D := D) (ci := 2) (v := .int (zI Gn)) (C := RX2) (T := TX2) (N := 6) hx hb hts hinX2 hown hK hw.1 0 rfl rfl 0 (by decide) (hts (.fieldLink RX1 42 "CarnivalRoad$Guests" "count" "I") (by decide +kernel)) (fun _ h9 => h9) rfl dX1_findAtEnd_1 ?_
  refine z_if_ne (tgt := 17) hx hb dX1_findAtEnd_4 (by decide) (by omega) (fun hc_1 => ?_) (fun hc_1 => ?_)
  · skip
    refine lv_aload_n hx hb dX1_findAtEnd_17 rfl (lv_at hl 1 rfl) ?_
    refine lv_aload_n hx hb dX1_findAtEnd_18 rfl (lv_at hl 1 rfl) ?_
    refine va_get (D := D) (ci := 0) (v := .ref (oB 2)) (C := RX0) (T := TX0) (N := 6) hx hb hts hinX0 hown hK hw.1 6 rfl rfl 3 (by decide) (hts (.fieldLink RX1 49 "CarnivalRoad$Bars" "ones" "[I") (by decide +kernel)) (fun _ h9 => h9) rfl dX1_findAtEnd_19 ?_
    refine lv_iload_n hx hb dX1_findAtEnd_22 rfl (lv_at hl 2 rfl) ?_
    have hi_2 : (0 : Int) ≤ k ∧ k < ((11 : Nat) : Int) := by
      first | assumption | omega | grind
    refine z_iald (n := 11) (f := Bon) hx hb hK hw 8 rfl (by decide) hi_2 dX1_findAtEnd_23 ?_
    have hq_3 : 0 ≤ Bon k ∧ Bon k ≤ 12 := qBon k
    refine lv_aload hx hb dX1_findAtEnd_24 (lv_at hl 4 rfl) ?_
    refine lv_iload hx hb dX1_findAtEnd_26 (lv_at hl 5 rfl) ?_
    have hi_4 : (0 : Int) ≤ p ∧ p < ((8 : Nat) : Int) := by
      first | assumption | omega | grind
    refine z_iald (n := 8) (f := fL) hx hb hK hw 12 rfl (by decide) hi_4 dX1_findAtEnd_28 ?_
    have hq_5 : 0 ≤ fL p ∧ fL p ≤ 7 := qfL p
    have hF9 := z_free (wc := kG cI cB cZ oG Gn Gki Gle Glo Gta Gsh ++ kB cI cB cZ oB (oG 0) Bcnt Bwo Bon Btw Bnu) hw hA [0, 1, 2, 3, 4, 5, 6, 7, 8, 9, 10] rfl
    refine va_calli (va_runV (As := [.int (zI (Bon k)), .int (zI (fL p))]) (rest := []) ⟨hx, hb, hml, hown, hts⟩ (c_X0_isOne l D cI cB cZ oG oB s.heap.size Gn Gki Gle Glo Gta Gsh Bcnt Bwo Bon Btw Bnu (Bon k) (fL p) (by omega) qGki qGle qGlo qGta qGsh (by omega) qBwo qBon qBtw qBnu (by omega) (by omega)) (cwV 2 hts gX1_findAtEnd_X0_isOne rfl rfl rfl (by decide +kernel) ⟨Nat.le_of_ble_eq_true rfl, Nat.le_of_ble_eq_true rfl⟩) ⟨zPre_blind, va_recv hK hw.1 (ci := 0) (q0 := 6) rfl rfl, z_pre hK hw [0, 1, 2, 3, 4, 5, 6, 7, 8, 9, 10] (by decide) rfl⟩ rfl rfl hl.1 rfl (lv_room (Nat.le_of_ble_eq_true rfl)) dX1_findAtEnd_29 ⟨Nat.zero_le _, Nat.zero_le _⟩) hw.2.2 (fun q _ h => hF9 q h) hF9 (fun r9 u9 t9 H_6 locs9 ht9 hvm9 hq9 hB9 hz9 hk9 hS9 => ?_)
    obtain ⟨r_7, rfl⟩ : ∃ z, z = u9 := ⟨_, rfl⟩
    try dsimp only at hq9 hB9
    obtain ⟨rfl, hq9⟩ := hq9
    have hq_8 := hq9
    have hw : HW D A s.heap (kG cI cB cZ oG Gn Gki Gle Glo Gta Gsh ++ kB cI cB cZ oB (oG 0) Bcnt Bwo Bon Btw Bnu ++ kX cI cB cZ oX Xbar Xle Xgr ++ [(aL, .inl (cI, 8, .inl (zA fL)))]) H_6 locs9 := z_after (wc := kG cI cB cZ oG Gn Gki Gle Glo Gta Gsh ++ kB cI cB cZ oB (oG 0) Bcnt Bwo Bon Btw Bnu) hw [0, 1, 2, 3, 4, 5, 6, 7, 8, 9, 10] [11, 12] rfl rfl (by decide) (by decide) hF9 hk9 ht9 hB9 hS9 [2, 3, 4, 5, 6, 7, 8, 9, 10, 11, 12, 0, 1] (by decide) rfl
    clear hF9 ht9 hvm9 hB9 hz9 hk9 hS9 hq9
    rcases hq_8 with ⟨hc_9, rfl⟩ | ⟨hc_9, rfl⟩
    · skip
      refine z_if_ne (tgt := 44) hx hb dX1_findAtEnd_32 (by decide) (by omega) (fun hc_10 => ?_) (fun hc_10 => absurd hc_10 (by omega))
      have hv_11 : (-1 : Int) ≤ Xbar ∧ Xbar ≤ 10 := by
        first | assumption | omega | grind
      have hv_12 : (-1 : Int) ≤ Xle ∧ Xle ≤ 7 := by
        first | assumption | omega | grind
      have hv_13 : (-1 : Int) ≤ Xgr ∧ Xgr ≤ 7 := by
        first | assumption | omega | grind
      have hv_14 : (badP Gki Glo Gsh Bwo Bon Btw Bnu fL Gn k Xle Xgr ∧ Xbar = k) ∨ (okP Gki Glo Gsh Bwo Bon Btw Bnu fL Gn k ∧ Xbar = Xbar ∧ Xle = Xle ∧ Xgr = Xgr) := by
        first | exact end_bad0 hp0 (by omega) (by omega) (by omega) (by omega) | exact end_bad1 hp0 (by omega) (by assumption) (by omega) (by omega) (by omega) | exact end_ok hp0 (by omega) (by assumption)
      exact W.vret hx hb hr (fun t9 ht hW => ⟨⟨(Xbar, Xle, Xgr), rfl, ⟨hv_11, hv_12, hv_13, hv_14⟩, by subst hAe; exact z_end hK hw ht hW⟩, by subst hAe; exact hw.2.2.F ht⟩) (by subst hAe; exact hw.2.2.2.2) dX1_findAtEnd_44
    · skip
      refine z_if_ne (tgt := 44) hx hb dX1_findAtEnd_32 (by decide) (by omega) (fun hc_15 => absurd hc_15 (by omega)) (fun hc_15 => ?_)
      refine lv_aload_n hx hb dX1_findAtEnd_35 rfl (lv_at hl 0 rfl) ?_
      refine lv_iload_n hx hb dX1_findAtEnd_36 rfl (lv_at hl 2 rfl) ?_
      refine lv_iload hx hb dX1_findAtEnd_37 (lv_at hl 5 rfl) ?_
      refine lv_iload hx hb dX1_findAtEnd_39 (lv_at hl 5 rfl) ?_
      have hF9 := z_free (wc := kX cI cB cZ oX Xbar Xle Xgr) hw hA [11] rfl
      refine va_callv (va_runV (As := [.int (zI k), .int (zI p), .int (zI p)]) (rest := []) ⟨hx, hb, hml, hown, hts⟩ (c_X1_note l D cI cB cZ oX H_6.size Xbar Xle Xgr k p p (by omega) (by omega) (by omega) (by omega) (by omega) (by omega)) (cwV 3 hts gX1_findAtEnd_X1_note rfl rfl rfl (by decide +kernel) ⟨Nat.le_of_ble_eq_true rfl, Nat.le_of_ble_eq_true rfl⟩) ⟨zPre_blind, va_recv hK hw.1 (ci := 1) (q0 := 11) rfl rfl, z_pre hK hw [11] (by decide) rfl⟩ rfl rfl hl.1 rfl (lv_room (Nat.le_of_ble_eq_true rfl)) dX1_findAtEnd_41 ⟨Nat.zero_le _, Nat.zero_le _⟩) hw.2.2 (fun q _ h => hF9 q h) hF9 (fun u9 t9 H_16 locs9 ht9 hvm9 hq9 hB9 hz9 hk9 hS9 => ?_)
      obtain ⟨Xbar_17, Xle_18, Xgr_19⟩ := u9
      try dsimp only at hq9 hB9
      obtain ⟨hq_20, hq_21, hq_22, hq_23, hq_24, hq_25⟩ := hq9
      have hw : HW D A s.heap (kG cI cB cZ oG Gn Gki Gle Glo Gta Gsh ++ kB cI cB cZ oB (oG 0) Bcnt Bwo Bon Btw Bnu ++ kX cI cB cZ oX Xbar_17 Xle_18 Xgr_19 ++ [(aL, .inl (cI, 8, .inl (zA fL)))]) H_16 locs9 := z_after (wc := kX cI cB cZ oX Xbar Xle Xgr) hw [11] [0, 1, 2, 3, 4, 5, 6, 7, 8, 9, 10, 12] rfl rfl (by decide) (by decide) hF9 hk9 ht9 hB9 hS9 [0, 1, 2, 3, 4, 5, 6, 7, 8, 9, 10, 12, 11] (by decide) rfl
      clear hF9 ht9 hvm9 hB9 hz9 hk9 hS9
      have hv_26 : (-1 : Int) ≤ Xbar_17 ∧ Xbar_17 ≤ 10 := by
        first | assumption | omega | grind
      have hv_27 : (-1 : Int) ≤ Xle_18 ∧ Xle_18 ≤ 7 := by
        first | assumption | omega | grind
      have hv_28 : (-1 : Int) ≤ Xgr_19 ∧ Xgr_19 ≤ 7 := by
        first | assumption | omega | grind
      have hv_29 : (badP Gki Glo Gsh Bwo Bon Btw Bnu fL Gn k Xle_18 Xgr_19 ∧ Xbar_17 = k) ∨ (okP Gki Glo Gsh Bwo Bon Btw Bnu fL Gn k ∧ Xbar_17 = Xbar ∧ Xle_18 = Xle ∧ Xgr_19 = Xgr) := by
        first | exact end_bad0 hp0 (by omega) (by omega) (by omega) (by omega) | exact end_bad1 hp0 (by omega) (by assumption) (by omega) (by omega) (by omega) | exact end_ok hp0 (by omega) (by assumption)
      exact W.vret hx hb hr (fun t9 ht hW => ⟨⟨(Xbar_17, Xle_18, Xgr_19), rfl, ⟨hv_26, hv_27, hv_28, hv_29⟩, by subst hAe; exact z_end hK hw ht hW⟩, by subst hAe; exact hw.2.2.F ht⟩) (by subst hAe; exact hw.2.2.2.2) dX1_findAtEnd_44
  · skip
    refine lv_aload_n hx hb dX1_findAtEnd_7 rfl (lv_at hl 0 rfl) ?_
    refine lv_iload_n hx hb dX1_findAtEnd_8 rfl (lv_at hl 2 rfl) ?_
    refine z_iconst hx hb dX1_findAtEnd_9 ?_
    refine z_iconst hx hb dX1_findAtEnd_10 ?_
    have hF9 := z_free (wc := kX cI cB cZ oX Xbar Xle Xgr) hw hA [11] rfl
    refine va_callv (va_runV (As := [.int (zI k), .int (zI 0), .int (zI 0)]) (rest := []) ⟨hx, hb, hml, hown, hts⟩ (c_X1_note l D cI cB cZ oX s.heap.size Xbar Xle Xgr k 0 0 (by omega) (by omega) (by omega) (by omega) (by omega) (by omega)) (cwV 3 hts gX1_findAtEnd_X1_note rfl rfl rfl (by decide +kernel) ⟨Nat.le_of_ble_eq_true rfl, Nat.le_of_ble_eq_true rfl⟩) ⟨zPre_blind, va_recv hK hw.1 (ci := 1) (q0 := 11) rfl rfl, z_pre hK hw [11] (by decide) rfl⟩ rfl rfl hl.1 rfl (lv_room (Nat.le_of_ble_eq_true rfl)) dX1_findAtEnd_11 ⟨Nat.zero_le _, Nat.zero_le _⟩) hw.2.2 (fun q _ h => hF9 q h) hF9 (fun u9 t9 H_30 locs9 ht9 hvm9 hq9 hB9 hz9 hk9 hS9 => ?_)
    obtain ⟨Xbar_31, Xle_32, Xgr_33⟩ := u9
    try dsimp only at hq9 hB9
    obtain ⟨hq_34, hq_35, hq_36, hq_37, hq_38, hq_39⟩ := hq9
    have hw : HW D A s.heap (kG cI cB cZ oG Gn Gki Gle Glo Gta Gsh ++ kB cI cB cZ oB (oG 0) Bcnt Bwo Bon Btw Bnu ++ kX cI cB cZ oX Xbar_31 Xle_32 Xgr_33 ++ [(aL, .inl (cI, 8, .inl (zA fL)))]) H_30 locs9 := z_after (wc := kX cI cB cZ oX Xbar Xle Xgr) hw [11] [0, 1, 2, 3, 4, 5, 6, 7, 8, 9, 10, 12] rfl rfl (by decide) (by decide) hF9 hk9 ht9 hB9 hS9 [0, 1, 2, 3, 4, 5, 6, 7, 8, 9, 10, 12, 11] (by decide) rfl
    clear hF9 ht9 hvm9 hB9 hz9 hk9 hS9
    refine lv_goto (tgt := 44) hx hb dX1_findAtEnd_14 (by decide) ?_
    have hv_40 : (-1 : Int) ≤ Xbar_31 ∧ Xbar_31 ≤ 10 := by
      first | assumption | omega | grind
    have hv_41 : (-1 : Int) ≤ Xle_32 ∧ Xle_32 ≤ 7 := by
      first | assumption | omega | grind
    have hv_42 : (-1 : Int) ≤ Xgr_33 ∧ Xgr_33 ≤ 7 := by
      first | assumption | omega | grind
    have hv_43 : (badP Gki Glo Gsh Bwo Bon Btw Bnu fL Gn k Xle_32 Xgr_33 ∧ Xbar_31 = k) ∨ (okP Gki Glo Gsh Bwo Bon Btw Bnu fL Gn k ∧ Xbar_31 = Xbar ∧ Xle_32 = Xle ∧ Xgr_33 = Xgr) := by
      first | exact end_bad0 hp0 (by omega) (by omega) (by omega) (by omega) | exact end_bad1 hp0 (by omega) (by assumption) (by omega) (by omega) (by omega) | exact end_ok hp0 (by omega) (by assumption)
    exact W.vret hx hb hr (fun t9 ht hW => ⟨⟨(Xbar_31, Xle_32, Xgr_33), rfl, ⟨hv_40, hv_41, hv_42, hv_43⟩, by subst hAe; exact z_end hK hw ht hW⟩, by subst hAe; exact hw.2.2.F ht⟩) (by subst hAe; exact hw.2.2.2.2) dX1_findAtEnd_44
set_option maxRecDepth 100000 in
set_option maxHeartbeats 4000000 in
theorem c_X1_findPair (l : Launch) (D : va_G) (cI cB cZ : ClassId) (oG : Nat → Nat) (oB : Nat → Nat) (oX : Nat → Nat) (aL : Nat) (sz : Nat) (Gn : Int) (Gki : Int → Int) (Gle : Int → Int) (Glo : Int → Int) (Gta : Int → Int) (Gsh : Int → Int) (Bcnt : Int) (Bwo : Int → Int) (Bon : Int → Int) (Btw : Int → Int) (Bnu : Int → Int) (Xbar : Int) (Xle : Int) (Xgr : Int) (fL : Int → Int) (k : Int) (qGn : 0 ≤ Gn ∧ Gn ≤ 8) (qGki : RA Gki (0) 4) (qGle : RA Gle (0) 5) (qGlo : RA Glo (0) 9) (qGta : RA Gta (0) 9) (qGsh : RA Gsh (0) 9) (qBcnt : 0 ≤ Bcnt ∧ Bcnt ≤ 10) (qBwo : RA Bwo (0) 11) (qBon : RA Bon (0) 12) (qBtw : RA Btw (0) 12) (qBnu : RA Bnu (0) 18) (qXbar : -1 ≤ Xbar ∧ Xbar ≤ 10) (qXle : -1 ≤ Xle ∧ Xle ≤ 7) (qXgr : -1 ≤ Xgr ∧ Xgr ≤ 7) (qfL : RA fL (0) 7) (qk : 0 ≤ k ∧ k ≤ 10) (hp0 : ¬ Bwo k = 3) (hp1 : ¬ Bwo k = 4) : Met l yX1_findPair wsX1_findPair ({ frames := 2, cells := 0, slots := 0, locals := 46 }) (va_Pc [.ref (oX 0), .ref (oB 0), .int (zI k), .ref (oG 0), .ref aL] (zPre D cI cB cZ sz (kG cI cB cZ oG Gn Gki Gle Glo Gta Gsh ++ kB cI cB cZ oB (oG 0) Bcnt Bwo Bon Btw Bnu ++ kX cI cB cZ oX Xbar Xle Xgr ++ [(aL, .inl (cI, 8, .inl (zA fL)))]))) (va_Qv (fun (u9 : Int × Int × Int) => ((-1 : Int) ≤ u9.1 ∧ u9.1 ≤ 10) ∧ ((-1 : Int) ≤ u9.2.1 ∧ u9.2.1 ≤ 7) ∧ ((-1 : Int) ≤ u9.2.2 ∧ u9.2.2 ≤ 7) ∧ ((badP Gki Glo Gsh Bwo Bon Btw Bnu fL Gn k u9.2.1 u9.2.2 ∧ u9.1 = k) ∨ (okP Gki Glo Gsh Bwo Bon Btw Bnu fL Gn k ∧ u9.1 = Xbar ∧ u9.2.1 = Xle ∧ u9.2.2 = Xgr))) (fun u9 t9 => zAt D cI cB cZ (va_A (kG cI cB cZ oG Gn Gki Gle Glo Gta Gsh ++ kB cI cB cZ oB (oG 0) Bcnt Bwo Bon Btw Bnu ++ kX cI cB cZ oX Xbar Xle Xgr ++ [(aL, .inl (cI, 8, .inl (zA fL)))]) sz) (kG cI cB cZ oG Gn Gki Gle Glo Gta Gsh ++ kB cI cB cZ oB (oG 0) Bcnt Bwo Bon Btw Bnu ++ kX cI cB cZ oX (u9.1) (u9.2.1) (u9.2.2) ++ [(aL, .inl (cI, 8, .inl (zA fL)))]) t9) (va_A (kG cI cB cZ oG Gn Gki Gle Glo Gta Gsh ++ kB cI cB cZ oB (oG 0) Bcnt Bwo Bon Btw Bnu ++ kX cI cB cZ oX Xbar Xle Xgr ++ [(aL, .inl (cI, 8, .inl (zA fL)))]) sz)) 0 0 (va_A (kG cI cB cZ oG Gn Gki Gle Glo Gta Gsh ++ kB cI cB cZ oB (oG 0) Bcnt Bwo Bon Btw Bnu ++ kX cI cB cZ oX Xbar Xle Xgr ++ [(aL, .inl (cI, 8, .inl (zA fL)))]) sz) := by
  refine Met.ofW (cc := cX1_findPair) (maxL := 7) (ret := none) (by decide) rfl ?_
  intro pp ee s mm aa bw mt cd s₁ BL hml hv
  obtain ⟨rfl, hsz, hP, hK, hD0⟩ := hv
  have hx := BL.exec
  have hb := BL.bytes
  have hr := BL.returns
  have hts := atoms_spec (ws := wsX1_findPair) BL.pre
  have hown : s.vm.findClass RX1 = some mm.cls := findClass_of_methodNamed BL.named
  have hlocks := BL.notSynchronized
  subst hsz
  generalize hAe : va_A (kG cI cB cZ oG Gn Gki Gle Glo Gta Gsh ++ kB cI cB cZ oB (oG 0) Bcnt Bwo Bon Btw Bnu ++ kX cI cB cZ oX Xbar Xle Xgr ++ [(aL, .inl (cI, 8, .inl (zA fL)))]) s.heap.size = A
  have hA : ∀ q : Nat, s.heap.size ≤ q → A q := fun q h => by rw [← hAe]; exact Or.inr h
  have hw : HW D A s.heap (kG cI cB cZ oG Gn Gki Gle Glo Gta Gsh ++ kB cI cB cZ oB (oG 0) Bcnt Bwo Bon Btw Bnu ++ kX cI cB cZ oX Xbar Xle Xgr ++ [(aL, .inl (cI, 8, .inl (zA fL)))]) s.heap [] := z_start hAe hP hD0
  clear hP hD0
  have hl := lv_entry ([.ref (oX 0), .ref (oB 0), .int (zI k), .ref (oG 0), .ref aL]) (n := 7) (Nat.le_of_ble_eq_true rfl)
  rw [lg_entry_eq]
  generalize (lg_sl ([.ref (oX 0), .ref (oB 0), .int (zI k), .ref (oG 0), .ref aL]) ++ List.replicate (7 - (lg_sl ([.ref (oX 0), .ref (oB 0), .int (zI k), .ref (oG 0), .ref aL])).length) Slot.unset).toArray = ls at hl ⊢
  have hl : lv_has ls 7 [(0, .ref (oX 0)), (1, .ref (oB 0)), (2, .int (zI k)), (3, .ref (oG 0)), (4, .ref aL)] := hl
  have hinX2 : ∀ w ∈ wsX20, w ∈ wsX1_findPair := by decide +kernel
  refine z_iconst hx hb dX1_findPair_0 ?_
  refine lv_istore (lv' := [(5, .int (zI 0)), (0, .ref (oX 0)), (1, .ref (oB 0)), (2, .int (zI k)), (3, .ref (oG 0)), (4, .ref aL)]) hx hb dX1_findPair_1 hl (by decide) rfl (fun ls hl => ?_)
  have hv_1 : 0 ≤ (0 : Int) ∧ (0 : Int) ≤ Gn := by
    first | assumption | omega | grind
  have hv_2 : ∀ a, 0 ≤ a → a < (0 : Int) → ∀ b, a < b → b < Gn → ¬ brk Gki Glo Gsh Bwo Bon Btw Bnu fL k a b := by
    intro a h0 h1; omega
  refine z_loop (σ := Int) (μ := fun x9 => (9 - x9).toNat) (I := fun x9 H locs ls => (0 ≤ x9 ∧ x9 ≤ Gn) ∧ (∀ a, 0 ≤ a → a < x9 → ∀ b, a < b → b < Gn → ¬ brk Gki Glo Gsh Bwo Bon Btw Bnu fL k a b) ∧ HW D A s.heap (kG cI cB cZ oG Gn Gki Gle Glo Gta Gsh ++ kB cI cB cZ oB (oG 0) Bcnt Bwo Bon Btw Bnu ++ kX cI cB cZ oX Xbar Xle Xgr ++ [(aL, .inl (cI, 8, .inl (zA fL)))]) H locs ∧ lv_has ls 7 [(0, .ref (oX 0)), (1, .ref (oB 0)), (2, .int (zI k)), (3, .ref (oG 0)), (4, .ref aL), (5, .int (zI x9))]) 0 ⟨hv_1, hv_2, hw, lv_sub hl [1, 2, 3, 4, 5, 0] rfl⟩ ?_
  clear hw hl
  intro i_4 H locs ls hI ih_3
  try dsimp only at hI
  obtain ⟨hI_5, hI_6, hw, hl⟩ := hI
  refine lv_iload hx hb dX1_findPair_3 (lv_at hl 5 rfl) ?_
  refine lv_aload_n hx hb dX1_findPair_5 rfl (lv_at hl 3 rfl) ?_
  refine va_get (D := D) (ci := 2) (v := .int (zI Gn)) (C := RX2) (T := TX2) (N := 6) hx hb hts hinX2 hown hK hw.1 0 rfl rfl 0 (by decide) (hts (.fieldLink RX1 42 "CarnivalRoad$Guests" "count" "I") (by decide +kernel)) (fun _ h9 => h9) rfl dX1_findPair_6 ?_
  refine z_icmp_ge (tgt := 72) hx hb dX1_findPair_9 (by decide) (by omega) (fun hc_7 => ?_) (fun hc_7 => ?_)
  · skip
    have hv_8 : (-1 : Int) ≤ Xbar ∧ Xbar ≤ 10 := by
      first | assumption | omega | grind
    have hv_9 : (-1 : Int) ≤ Xle ∧ Xle ≤ 7 := by
      first | assumption | omega | grind
    have hv_10 : (-1 : Int) ≤ Xgr ∧ Xgr ≤ 7 := by
      first | assumption | omega | grind
    have hv_11 : (badP Gki Glo Gsh Bwo Bon Btw Bnu fL Gn k Xle Xgr ∧ Xbar = k) ∨ (okP Gki Glo Gsh Bwo Bon Btw Bnu fL Gn k ∧ Xbar = Xbar ∧ Xle = Xle ∧ Xgr = Xgr) := by
      refine Or.inr ⟨⟨fun q => absurd q hp0, fun q => absurd q hp1, fun _ _ a b a0 a1 a2 => ?_⟩, rfl, rfl, rfl⟩
      exact (by assumption : ∀ a, 0 ≤ a → a < i_4 → ∀ b, a < b → b < Gn → ¬ brk Gki Glo Gsh Bwo Bon Btw Bnu fL k a b) a a0 (by omega) b a1 a2
    exact W.vret hx hb hr (fun t9 ht hW => ⟨⟨(Xbar, Xle, Xgr), rfl, ⟨hv_8, hv_9, hv_10, hv_11⟩, by subst hAe; exact z_end hK hw ht hW⟩, by subst hAe; exact hw.2.2.F ht⟩) (by subst hAe; exact hw.2.2.2.2) dX1_findPair_72
  · skip
    refine lv_iload hx hb dX1_findPair_12 (lv_at hl 5 rfl) ?_
    refine z_iconst hx hb dX1_findPair_14 ?_
    refine z_iadd hx hb dX1_findPair_15 ?_
    refine lv_istore (lv' := [(6, .int (zI (i_4 + 1))), (0, .ref (oX 0)), (1, .ref (oB 0)), (2, .int (zI k)), (3, .ref (oG 0)), (4, .ref aL), (5, .int (zI i_4))]) hx hb dX1_findPair_16 hl (by decide) rfl (fun ls hl => ?_)
    have hv_12 : i_4 < (i_4 + 1) ∧ (i_4 + 1) ≤ Gn := by
      first | assumption | omega | grind
    have hv_13 : ∀ b, i_4 < b → b < (i_4 + 1) → ¬ brk Gki Glo Gsh Bwo Bon Btw Bnu fL k i_4 b := by
      intro b h0 h1; omega
    refine z_loop (σ := Int) (μ := fun x9 => (9 - x9).toNat) (I := fun x9 H locs ls => (i_4 < x9 ∧ x9 ≤ Gn) ∧ (∀ b, i_4 < b → b < x9 → ¬ brk Gki Glo Gsh Bwo Bon Btw Bnu fL k i_4 b) ∧ HW D A s.heap (kG cI cB cZ oG Gn Gki Gle Glo Gta Gsh ++ kB cI cB cZ oB (oG 0) Bcnt Bwo Bon Btw Bnu ++ kX cI cB cZ oX Xbar Xle Xgr ++ [(aL, .inl (cI, 8, .inl (zA fL)))]) H locs ∧ lv_has ls 7 [(0, .ref (oX 0)), (1, .ref (oB 0)), (2, .int (zI k)), (3, .ref (oG 0)), (4, .ref aL), (5, .int (zI i_4)), (6, .int (zI x9))]) (i_4 + 1) ⟨hv_12, hv_13, hw, lv_sub hl [1, 2, 3, 4, 5, 6, 0] rfl⟩ ?_
    clear hw hl
    intro j_15 H locs ls hI ih_14
    try dsimp only at hI
    obtain ⟨hI_16, hI_17, hw, hl⟩ := hI
    refine lv_iload hx hb dX1_findPair_18 (lv_at hl 6 rfl) ?_
    refine lv_aload_n hx hb dX1_findPair_20 rfl (lv_at hl 3 rfl) ?_
    refine va_get (D := D) (ci := 2) (v := .int (zI Gn)) (C := RX2) (T := TX2) (N := 6) hx hb hts hinX2 hown hK hw.1 0 rfl rfl 0 (by decide) (hts (.fieldLink RX1 42 "CarnivalRoad$Guests" "count" "I") (by decide +kernel)) (fun _ h9 => h9) rfl dX1_findPair_21 ?_
    refine z_icmp_ge (tgt := 66) hx hb dX1_findPair_24 (by decide) (by omega) (fun hc_18 => ?_) (fun hc_18 => ?_)
    · skip
      refine z_iinc (k := 5) (lv' := [(5, .int (zI (i_4 + 1))), (0, .ref (oX 0)), (1, .ref (oB 0)), (2, .int (zI k)), (3, .ref (oG 0)), (4, .ref aL), (6, .int (zI j_15))]) hx hb dX1_findPair_66 hl rfl (by decide) rfl (fun ls hl => ?_)
      refine lv_goto (tgt := 3) hx hb dX1_findPair_69 (by decide) ?_
      have hv_19 : 0 ≤ (i_4 + 1) ∧ (i_4 + 1) ≤ Gn := by
        first | assumption | omega | grind
      have hv_20 : ∀ a, 0 ≤ a → a < (i_4 + 1) → ∀ b, a < b → b < Gn → ¬ brk Gki Glo Gsh Bwo Bon Btw Bnu fL k a b := by
        intro a h0 h1
        by_cases e : a = i_4
        · intro b b0 b1; rw [e] at b0 ⊢; exact (by assumption : ∀ b, i_4 < b → b < j_15 → ¬ brk Gki Glo Gsh Bwo Bon Btw Bnu fL k i_4 b) b b0 (by omega)
        · exact (by assumption : ∀ a, 0 ≤ a → a < i_4 → ∀ b, a < b → b < Gn → ¬ brk Gki Glo Gsh Bwo Bon Btw Bnu fL k a b) a h0 (by omega)
      have hm_21 : (9 - (i_4 + 1)).toNat < (9 - i_4).toNat := by
        first | assumption | omega | grind
      exact ih_3 (i_4 + 1) _ _ _ ⟨hv_19, hv_20, hw, lv_sub hl [1, 2, 3, 4, 5, 0] rfl⟩ hm_21
    · skip
      refine lv_aload_n hx hb dX1_findPair_27 rfl (lv_at hl 1 rfl) ?_
      refine lv_iload_n hx hb dX1_findPair_28 rfl (lv_at hl 2 rfl) ?_
      refine lv_aload hx hb dX1_findPair_29 (lv_at hl 4 rfl) ?_
      refine lv_iload hx hb dX1_findPair_31 (lv_at hl 5 rfl) ?_
      have hi_22 : (0 : Int) ≤ i_4 ∧ i_4 < ((8 : Nat) : Int) := by
        first | assumption | omega | grind
      refine z_iald (n := 8) (f := fL) hx hb hK hw 12 rfl (by decide) hi_22 dX1_findPair_33 ?_
      have hq_23 : 0 ≤ fL i_4 ∧ fL i_4 ≤ 7 := qfL i_4
      refine lv_aload hx hb dX1_findPair_34 (lv_at hl 4 rfl) ?_
      refine lv_iload hx hb dX1_findPair_36 (lv_at hl 6 rfl) ?_
      have hi_24 : (0 : Int) ≤ j_15 ∧ j_15 < ((8 : Nat) : Int) := by
        first | assumption | omega | grind
      refine z_iald (n := 8) (f := fL) hx hb hK hw 12 rfl (by decide) hi_24 dX1_findPair_38 ?_
      have hq_25 : 0 ≤ fL j_15 ∧ fL j_15 ≤ 7 := qfL j_15
      refine lv_iload hx hb dX1_findPair_39 (lv_at hl 6 rfl) ?_
      refine lv_iload hx hb dX1_findPair_41 (lv_at hl 5 rfl) ?_
      refine z_isub hx hb dX1_findPair_43 ?_
      have hF9 := z_free (wc := kG cI cB cZ oG Gn Gki Gle Glo Gta Gsh ++ kB cI cB cZ oB (oG 0) Bcnt Bwo Bon Btw Bnu) hw hA [0, 1, 2, 3, 4, 5, 6, 7, 8, 9, 10] rfl
      refine va_calli (va_runV (As := [.int (zI k), .int (zI (fL i_4)), .int (zI (fL j_15)), .int (zI (j_15 - i_4))]) (rest := []) ⟨hx, hb, hml, hown, hts⟩ (c_X0_breaks l D cI cB cZ oG oB H.size Gn Gki Gle Glo Gta Gsh Bcnt Bwo Bon Btw Bnu k (fL i_4) (fL j_15) (j_15 - i_4) (by omega) qGki qGle qGlo qGta qGsh (by omega) qBwo qBon qBtw qBnu (by omega) (by omega) (by omega) (by omega)) (cwV 4 hts gX1_findPair_X0_breaks rfl rfl rfl (by decide +kernel) ⟨Nat.le_of_ble_eq_true rfl, Nat.le_of_ble_eq_true rfl⟩) ⟨zPre_blind, va_recv hK hw.1 (ci := 0) (q0 := 6) rfl rfl, z_pre hK hw [0, 1, 2, 3, 4, 5, 6, 7, 8, 9, 10] (by decide) rfl⟩ rfl rfl hl.1 rfl (lv_room (Nat.le_of_ble_eq_true rfl)) dX1_findPair_44 ⟨Nat.zero_le _, Nat.zero_le _⟩) hw.2.2 (fun q _ h => hF9 q h) hF9 (fun r9 u9 t9 H_26 locs9 ht9 hvm9 hq9 hB9 hz9 hk9 hS9 => ?_)
      obtain ⟨r_27, rfl⟩ : ∃ z, z = u9 := ⟨_, rfl⟩
      try dsimp only at hq9 hB9
      obtain ⟨rfl, hq9⟩ := hq9
      have hq_28 := hq9
      have hw : HW D A s.heap (kG cI cB cZ oG Gn Gki Gle Glo Gta Gsh ++ kB cI cB cZ oB (oG 0) Bcnt Bwo Bon Btw Bnu ++ kX cI cB cZ oX Xbar Xle Xgr ++ [(aL, .inl (cI, 8, .inl (zA fL)))]) H_26 locs9 := z_after (wc := kG cI cB cZ oG Gn Gki Gle Glo Gta Gsh ++ kB cI cB cZ oB (oG 0) Bcnt Bwo Bon Btw Bnu) hw [0, 1, 2, 3, 4, 5, 6, 7, 8, 9, 10] [11, 12] rfl rfl (by decide) (by decide) hF9 hk9 ht9 hB9 hS9 [2, 3, 4, 5, 6, 7, 8, 9, 10, 11, 12, 0, 1] (by decide) rfl
      clear hF9 ht9 hvm9 hB9 hz9 hk9 hS9 hq9
      rcases hq_28 with ⟨hc_29, rfl⟩ | ⟨hc_29, rfl⟩
      · skip
        refine z_if_eq (tgt := 60) hx hb dX1_findPair_47 (by decide) (by omega) (fun hc_30 => absurd hc_30 (by omega)) (fun hc_30 => ?_)
        refine lv_aload_n hx hb dX1_findPair_50 rfl (lv_at hl 0 rfl) ?_
        refine lv_iload_n hx hb dX1_findPair_51 rfl (lv_at hl 2 rfl) ?_
        refine lv_iload hx hb dX1_findPair_52 (lv_at hl 5 rfl) ?_
        refine lv_iload hx hb dX1_findPair_54 (lv_at hl 6 rfl) ?_
        have hF9 := z_free (wc := kX cI cB cZ oX Xbar Xle Xgr) hw hA [11] rfl
        refine va_callv (va_runV (As := [.int (zI k), .int (zI i_4), .int (zI j_15)]) (rest := []) ⟨hx, hb, hml, hown, hts⟩ (c_X1_note l D cI cB cZ oX H_26.size Xbar Xle Xgr k i_4 j_15 (by omega) (by omega) (by omega) (by omega) (by omega) (by omega)) (cwV 3 hts gX1_findPair_X1_note rfl rfl rfl (by decide +kernel) ⟨Nat.le_of_ble_eq_true rfl, Nat.le_of_ble_eq_true rfl⟩) ⟨zPre_blind, va_recv hK hw.1 (ci := 1) (q0 := 11) rfl rfl, z_pre hK hw [11] (by decide) rfl⟩ rfl rfl hl.1 rfl (lv_room (Nat.le_of_ble_eq_true rfl)) dX1_findPair_56 ⟨Nat.zero_le _, Nat.zero_le _⟩) hw.2.2 (fun q _ h => hF9 q h) hF9 (fun u9 t9 H_31 locs9 ht9 hvm9 hq9 hB9 hz9 hk9 hS9 => ?_)
        obtain ⟨Xbar_32, Xle_33, Xgr_34⟩ := u9
        try dsimp only at hq9 hB9
        obtain ⟨hq_35, hq_36, hq_37, hq_38, hq_39, hq_40⟩ := hq9
        have hw : HW D A s.heap (kG cI cB cZ oG Gn Gki Gle Glo Gta Gsh ++ kB cI cB cZ oB (oG 0) Bcnt Bwo Bon Btw Bnu ++ kX cI cB cZ oX Xbar_32 Xle_33 Xgr_34 ++ [(aL, .inl (cI, 8, .inl (zA fL)))]) H_31 locs9 := z_after (wc := kX cI cB cZ oX Xbar Xle Xgr) hw [11] [0, 1, 2, 3, 4, 5, 6, 7, 8, 9, 10, 12] rfl rfl (by decide) (by decide) hF9 hk9 ht9 hB9 hS9 [0, 1, 2, 3, 4, 5, 6, 7, 8, 9, 10, 12, 11] (by decide) rfl
        clear hF9 ht9 hvm9 hB9 hz9 hk9 hS9
        have hv_41 : (-1 : Int) ≤ Xbar_32 ∧ Xbar_32 ≤ 10 := by
          first | assumption | omega | grind
        have hv_42 : (-1 : Int) ≤ Xle_33 ∧ Xle_33 ≤ 7 := by
          first | assumption | omega | grind
        have hv_43 : (-1 : Int) ≤ Xgr_34 ∧ Xgr_34 ≤ 7 := by
          first | assumption | omega | grind
        have hv_44 : (badP Gki Glo Gsh Bwo Bon Btw Bnu fL Gn k Xle_33 Xgr_34 ∧ Xbar_32 = k) ∨ (okP Gki Glo Gsh Bwo Bon Btw Bnu fL Gn k ∧ Xbar_32 = Xbar ∧ Xle_33 = Xle ∧ Xgr_34 = Xgr) := by
          subst_vars
          exact Or.inl ⟨Or.inr (Or.inr ⟨hp0, hp1, by omega, by omega, by omega, by assumption, by assumption, by assumption⟩), by first | rfl | omega⟩
        exact W.vret hx hb hr (fun t9 ht hW => ⟨⟨(Xbar_32, Xle_33, Xgr_34), rfl, ⟨hv_41, hv_42, hv_43, hv_44⟩, by subst hAe; exact z_end hK hw ht hW⟩, by subst hAe; exact hw.2.2.F ht⟩) (by subst hAe; exact hw.2.2.2.2) dX1_findPair_59
      · skip
        refine z_if_eq (tgt := 60) hx hb dX1_findPair_47 (by decide) (by omega) (fun hc_45 => ?_) (fun hc_45 => absurd hc_45 (by omega))
        refine z_iinc (k := 6) (lv' := [(6, .int (zI (j_15 + 1))), (0, .ref (oX 0)), (1, .ref (oB 0)), (2, .int (zI k)), (3, .ref (oG 0)), (4, .ref aL), (5, .int (zI i_4))]) hx hb dX1_findPair_60 hl rfl (by decide) rfl (fun ls hl => ?_)
        refine lv_goto (tgt := 18) hx hb dX1_findPair_63 (by decide) ?_
        have hv_46 : i_4 < (j_15 + 1) ∧ (j_15 + 1) ≤ Gn := by
          first | assumption | omega | grind
        have hv_47 : ∀ b, i_4 < b → b < (j_15 + 1) → ¬ brk Gki Glo Gsh Bwo Bon Btw Bnu fL k i_4 b := by
          intro b h0 h1
          by_cases e : b = j_15
          · rw [e]; assumption
          · exact (by assumption : ∀ b, i_4 < b → b < j_15 → ¬ brk Gki Glo Gsh Bwo Bon Btw Bnu fL k i_4 b) b h0 (by omega)
        have hm_48 : (9 - (j_15 + 1)).toNat < (9 - j_15).toNat := by
          first | assumption | omega | grind
        exact ih_14 (j_15 + 1) _ _ _ ⟨hv_46, hv_47, hw, lv_sub hl [1, 2, 3, 4, 5, 6, 0] rfl⟩ hm_48
set_option maxRecDepth 100000 in
set_option maxHeartbeats 4000000 in
theorem c_X1_findIn (l : Launch) (D : va_G) (cI cB cZ : ClassId) (oG : Nat → Nat) (oB : Nat → Nat) (oX : Nat → Nat) (aL : Nat) (sz : Nat) (Gn : Int) (Gki : Int → Int) (Gle : Int → Int) (Glo : Int → Int) (Gta : Int → Int) (Gsh : Int → Int) (Bcnt : Int) (Bwo : Int → Int) (Bon : Int → Int) (Btw : Int → Int) (Bnu : Int → Int) (Xbar : Int) (Xle : Int) (Xgr : Int) (fL : Int → Int) (qGn : 0 ≤ Gn ∧ Gn ≤ 8) (qGki : RA Gki (0) 4) (qGle : RA Gle (0) 5) (qGlo : RA Glo (0) 9) (qGta : RA Gta (0) 9) (qGsh : RA Gsh (0) 9) (qBcnt : 0 ≤ Bcnt ∧ Bcnt ≤ 10) (qBwo : RA Bwo (0) 11) (qBon : RA Bon (0) 12) (qBtw : RA Btw (0) 12) (qBnu : RA Bnu (0) 18) (qXbar : -1 ≤ Xbar ∧ Xbar ≤ 10) (qXle : -1 ≤ Xle ∧ Xle ≤ 7) (qXgr : -1 ≤ Xgr ∧ Xgr ≤ 7) (qfL : RA fL (0) 7) : Met l yX1_findIn wsX1_findIn ({ frames := 3, cells := 0, slots := 0, locals := 72 }) (va_Pc [.ref (oX 0), .ref (oB 0), .ref (oG 0), .ref aL] (zPre D cI cB cZ sz (kG cI cB cZ oG Gn Gki Gle Glo Gta Gsh ++ kB cI cB cZ oB (oG 0) Bcnt Bwo Bon Btw Bnu ++ kX cI cB cZ oX Xbar Xle Xgr ++ [(aL, .inl (cI, 8, .inl (zA fL)))]))) (va_Qv (fun (u9 : Int × Int × Int) => ((-1 : Int) ≤ u9.1 ∧ u9.1 ≤ 10) ∧ ((-1 : Int) ≤ u9.2.1 ∧ u9.2.1 ≤ 7) ∧ ((-1 : Int) ≤ u9.2.2 ∧ u9.2.2 ≤ 7) ∧ (whyP Gki Glo Gsh Bwo Bon Btw Bnu fL Gn Bcnt u9.1 u9.2.1 u9.2.2)) (fun u9 t9 => zAt D cI cB cZ (va_A (kG cI cB cZ oG Gn Gki Gle Glo Gta Gsh ++ kB cI cB cZ oB (oG 0) Bcnt Bwo Bon Btw Bnu ++ kX cI cB cZ oX Xbar Xle Xgr ++ [(aL, .inl (cI, 8, .inl (zA fL)))]) sz) (kG cI cB cZ oG Gn Gki Gle Glo Gta Gsh ++ kB cI cB cZ oB (oG 0) Bcnt Bwo Bon Btw Bnu ++ kX cI cB cZ oX (u9.1) (u9.2.1) (u9.2.2) ++ [(aL, .inl (cI, 8, .inl (zA fL)))]) t9) (va_A (kG cI cB cZ oG Gn Gki Gle Glo Gta Gsh ++ kB cI cB cZ oB (oG 0) Bcnt Bwo Bon Btw Bnu ++ kX cI cB cZ oX Xbar Xle Xgr ++ [(aL, .inl (cI, 8, .inl (zA fL)))]) sz)) 0 0 (va_A (kG cI cB cZ oG Gn Gki Gle Glo Gta Gsh ++ kB cI cB cZ oB (oG 0) Bcnt Bwo Bon Btw Bnu ++ kX cI cB cZ oX Xbar Xle Xgr ++ [(aL, .inl (cI, 8, .inl (zA fL)))]) sz) := by
  refine Met.ofW (cc := cX1_findIn) (maxL := 6) (ret := none) (by decide) rfl ?_
  intro pp ee s mm aa bw mt cd s₁ BL hml hv
  obtain ⟨rfl, hsz, hP, hK, hD0⟩ := hv
  have hx := BL.exec
  have hb := BL.bytes
  have hr := BL.returns
  have hts := atoms_spec (ws := wsX1_findIn) BL.pre
  have hown : s.vm.findClass RX1 = some mm.cls := findClass_of_methodNamed BL.named
  have hlocks := BL.notSynchronized
  subst hsz
  generalize hAe : va_A (kG cI cB cZ oG Gn Gki Gle Glo Gta Gsh ++ kB cI cB cZ oB (oG 0) Bcnt Bwo Bon Btw Bnu ++ kX cI cB cZ oX Xbar Xle Xgr ++ [(aL, .inl (cI, 8, .inl (zA fL)))]) s.heap.size = A
  have hA : ∀ q : Nat, s.heap.size ≤ q → A q := fun q h => by rw [← hAe]; exact Or.inr h
  have hw : HW D A s.heap (kG cI cB cZ oG Gn Gki Gle Glo Gta Gsh ++ kB cI cB cZ oB (oG 0) Bcnt Bwo Bon Btw Bnu ++ kX cI cB cZ oX Xbar Xle Xgr ++ [(aL, .inl (cI, 8, .inl (zA fL)))]) s.heap [] := z_start hAe hP hD0
  clear hP hD0
  have hl := lv_entry ([.ref (oX 0), .ref (oB 0), .ref (oG 0), .ref aL]) (n := 6) (Nat.le_of_ble_eq_true rfl)
  rw [lg_entry_eq]
  generalize (lg_sl ([.ref (oX 0), .ref (oB 0), .ref (oG 0), .ref aL]) ++ List.replicate (6 - (lg_sl ([.ref (oX 0), .ref (oB 0), .ref (oG 0), .ref aL])).length) Slot.unset).toArray = ls at hl ⊢
  have hl : lv_has ls 6 [(0, .ref (oX 0)), (1, .ref (oB 0)), (2, .ref (oG 0)), (3, .ref aL)] := hl
  have hinX0 : ∀ w ∈ wsX00, w ∈ wsX1_findIn := by decide +kernel
  have hinX1 : ∀ w ∈ wsX10, w ∈ wsX1_findIn := by decide +kernel
  have hinX2 : ∀ w ∈ wsX20, w ∈ wsX1_findIn := by decide +kernel
  refine lv_aload_n hx hb dX1_findIn_0 rfl (lv_at hl 0 rfl) ?_
  refine z_iconst hx hb dX1_findIn_1 ?_
  refine z_iconst hx hb dX1_findIn_2 ?_
  refine z_iconst hx hb dX1_findIn_3 ?_
  have hF9 := z_free (wc := kX cI cB cZ oX Xbar Xle Xgr) hw hA [11] rfl
  refine va_callv (va_runV (As := [.int (zI (-1)), .int (zI (-1)), .int (zI (-1))]) (rest := []) ⟨hx, hb, hml, hown, hts⟩ (c_X1_note l D cI cB cZ oX s.heap.size Xbar Xle Xgr (-1) (-1) (-1) (by omega) (by omega) (by omega) (by omega) (by omega) (by omega)) (cwV 3 hts gX1_findIn_X1_note rfl rfl rfl (by decide +kernel) ⟨Nat.le_of_ble_eq_true rfl, Nat.le_of_ble_eq_true rfl⟩) ⟨zPre_blind, va_recv hK hw.1 (ci := 1) (q0 := 11) rfl rfl, z_pre hK hw [11] (by decide) rfl⟩ rfl rfl hl.1 rfl (lv_room (Nat.le_of_ble_eq_true rfl)) dX1_findIn_4 ⟨Nat.zero_le _, Nat.zero_le _⟩) hw.2.2 (fun q _ h => hF9 q h) hF9 (fun u9 t9 H_1 locs9 ht9 hvm9 hq9 hB9 hz9 hk9 hS9 => ?_)
  obtain ⟨Xbar_2, Xle_3, Xgr_4⟩ := u9
  try dsimp only at hq9 hB9
  obtain ⟨hq_5, hq_6, hq_7, hq_8, hq_9, hq_10⟩ := hq9
  have hw : HW D A s.heap (kG cI cB cZ oG Gn Gki Gle Glo Gta Gsh ++ kB cI cB cZ oB (oG 0) Bcnt Bwo Bon Btw Bnu ++ kX cI cB cZ oX Xbar_2 Xle_3 Xgr_4 ++ [(aL, .inl (cI, 8, .inl (zA fL)))]) H_1 locs9 := z_after (wc := kX cI cB cZ oX Xbar Xle Xgr) hw [11] [0, 1, 2, 3, 4, 5, 6, 7, 8, 9, 10, 12] rfl rfl (by decide) (by decide) hF9 hk9 ht9 hB9 hS9 [0, 1, 2, 3, 4, 5, 6, 7, 8, 9, 10, 12, 11] (by decide) rfl
  clear hF9 ht9 hvm9 hB9 hz9 hk9 hS9
  refine z_iconst hx hb dX1_findIn_7 ?_
  refine lv_istore (lv' := [(4, .int (zI 0)), (0, .ref (oX 0)), (1, .ref (oB 0)), (2, .ref (oG 0)), (3, .ref aL)]) hx hb dX1_findIn_8 hl (by decide) rfl (fun ls hl => ?_)
  have hv_11 : (-1 : Int) ≤ Xbar_2 ∧ Xbar_2 ≤ 10 := by
    first | assumption | omega | grind
  have hv_12 : (-1 : Int) ≤ Xle_3 ∧ Xle_3 ≤ 7 := by
    first | assumption | omega | grind
  have hv_13 : (-1 : Int) ≤ Xgr_4 ∧ Xgr_4 ≤ 7 := by
    first | assumption | omega | grind
  have hv_14 : 0 ≤ (0 : Int) ∧ (0 : Int) ≤ Bcnt + 1 := by
    first | assumption | omega | grind
  have hv_15 : (Xbar_2 = -1 ∧ Xle_3 = -1 ∧ Xgr_4 = -1 ∧ (∀ k, 0 ≤ k → k < (0 : Int) → k < Bcnt → okP Gki Glo Gsh Bwo Bon Btw Bnu fL Gn k) ∧ (Bcnt < (0 : Int) → okP Gki Glo Gsh Bwo Bon Btw Bnu fL Gn 10)) ∨ (¬ Xbar_2 = -1 ∧ whyP Gki Glo Gsh Bwo Bon Btw Bnu fL Gn Bcnt Xbar_2 Xle_3 Xgr_4) := by
    exact Or.inl ⟨by omega, by omega, by omega, fun k h0 h1 => absurd h1 (by omega), fun q => absurd q (by omega)⟩
  refine z_loop (σ := Int × Int × Int × Int) (μ := fun x9 => (12 - (x9.1)).toNat) (I := fun x9 H locs ls => ((-1 : Int) ≤ (x9.2.1) ∧ (x9.2.1) ≤ 10) ∧ ((-1 : Int) ≤ (x9.2.2.1) ∧ (x9.2.2.1) ≤ 7) ∧ ((-1 : Int) ≤ (x9.2.2.2) ∧ (x9.2.2.2) ≤ 7) ∧ (0 ≤ (x9.1) ∧ (x9.1) ≤ Bcnt + 1) ∧ (((x9.2.1) = -1 ∧ (x9.2.2.1) = -1 ∧ (x9.2.2.2) = -1 ∧ (∀ k, 0 ≤ k → k < (x9.1) → k < Bcnt → okP Gki Glo Gsh Bwo Bon Btw Bnu fL Gn k) ∧ (Bcnt < (x9.1) → okP Gki Glo Gsh Bwo Bon Btw Bnu fL Gn 10)) ∨ (¬ (x9.2.1) = -1 ∧ whyP Gki Glo Gsh Bwo Bon Btw Bnu fL Gn Bcnt (x9.2.1) (x9.2.2.1) (x9.2.2.2))) ∧ HW D A s.heap (kG cI cB cZ oG Gn Gki Gle Glo Gta Gsh ++ kB cI cB cZ oB (oG 0) Bcnt Bwo Bon Btw Bnu ++ kX cI cB cZ oX (x9.2.1) (x9.2.2.1) (x9.2.2.2) ++ [(aL, .inl (cI, 8, .inl (zA fL)))]) H locs ∧ lv_has ls 6 [(0, .ref (oX 0)), (1, .ref (oB 0)), (2, .ref (oG 0)), (3, .ref aL), (4, .int (zI (x9.1)))]) (0, Xbar_2, Xle_3, Xgr_4) ⟨hv_11, hv_12, hv_13, hv_14, hv_15, hw, lv_sub hl [1, 2, 3, 4, 0] rfl⟩ ?_
  clear hw hl
  intro x9 H locs ls hI ih_16
  obtain ⟨i_17, Xbar_18, Xle_19, Xgr_20⟩ := x9
  try dsimp only at hI
  obtain ⟨hq_21, hq_22, hq_23, hI_24, hI_25, hw, hl⟩ := hI
  refine lv_iload hx hb dX1_findIn_10 (lv_at hl 4 rfl) ?_
  refine lv_aload_n hx hb dX1_findIn_12 rfl (lv_at hl 1 rfl) ?_
  refine va_get (D := D) (ci := 0) (v := .int (zI Bcnt)) (C := RX0) (T := TX0) (N := 6) hx hb hts hinX0 hown hK hw.1 6 rfl rfl 1 (by decide) (hts (.fieldLink RX1 25 "CarnivalRoad$Bars" "count" "I") (by decide +kernel)) (fun _ h9 => h9) rfl dX1_findIn_13 ?_
  refine z_icmp_gt (tgt := 103) hx hb dX1_findIn_16 (by decide) (by omega) (fun hc_26 => ?_) (fun hc_26 => ?_)
  · skip
    have hv_27 : (-1 : Int) ≤ Xbar_18 ∧ Xbar_18 ≤ 10 := by
      first | assumption | omega | grind
    have hv_28 : (-1 : Int) ≤ Xle_19 ∧ Xle_19 ≤ 7 := by
      first | assumption | omega | grind
    have hv_29 : (-1 : Int) ≤ Xgr_20 ∧ Xgr_20 ≤ 7 := by
      first | assumption | omega | grind
    have hv_30 : whyP Gki Glo Gsh Bwo Bon Btw Bnu fL Gn Bcnt Xbar_18 Xle_19 Xgr_20 := by
      exact why_done (by assumption) (by omega)
    exact W.vret hx hb hr (fun t9 ht hW => ⟨⟨(Xbar_18, Xle_19, Xgr_20), rfl, ⟨hv_27, hv_28, hv_29, hv_30⟩, by subst hAe; exact z_end hK hw ht hW⟩, by subst hAe; exact hw.2.2.F ht⟩) (by subst hAe; exact hw.2.2.2.2) dX1_findIn_103
  · skip
    refine lv_aload_n hx hb dX1_findIn_19 rfl (lv_at hl 0 rfl) ?_
    refine va_get (D := D) (ci := 1) (v := .int (zI Xbar_18)) (C := RX1) (T := TX1) (N := 3) hx hb hts hinX1 hown hK hw.1 11 rfl rfl 0 (by decide) (hts (.fieldLink RX1 9 "CarnivalRoad$Breach" "bar" "I") (by decide +kernel)) (fun _ h9 => h9) rfl dX1_findIn_20 ?_
    refine z_iconst hx hb dX1_findIn_23 ?_
    refine z_icmp_ne (tgt := 103) hx hb dX1_findIn_24 (by decide) (by omega) (fun hc_31 => ?_) (fun hc_31 => ?_)
    · skip
      have hv_32 : (-1 : Int) ≤ Xbar_18 ∧ Xbar_18 ≤ 10 := by
        first | assumption | omega | grind
      have hv_33 : (-1 : Int) ≤ Xle_19 ∧ Xle_19 ≤ 7 := by
        first | assumption | omega | grind
      have hv_34 : (-1 : Int) ≤ Xgr_20 ∧ Xgr_20 ≤ 7 := by
        first | assumption | omega | grind
      have hv_35 : whyP Gki Glo Gsh Bwo Bon Btw Bnu fL Gn Bcnt Xbar_18 Xle_19 Xgr_20 := by
        exact why_done (by assumption) (by omega)
      exact W.vret hx hb hr (fun t9 ht hW => ⟨⟨(Xbar_18, Xle_19, Xgr_20), rfl, ⟨hv_32, hv_33, hv_34, hv_35⟩, by subst hAe; exact z_end hK hw ht hW⟩, by subst hAe; exact hw.2.2.F ht⟩) (by subst hAe; exact hw.2.2.2.2) dX1_findIn_103
    · skip
      refine lv_aload_n hx hb dX1_findIn_27 rfl (lv_at hl 1 rfl) ?_
      refine lv_iload hx hb dX1_findIn_28 (lv_at hl 4 rfl) ?_
      have hF9 := z_free (wc := kB cI cB cZ oB (oG 0) Bcnt Bwo Bon Btw Bnu) hw hA [6, 7, 8, 9, 10] rfl
      refine va_calli (va_runV (As := [.int (zI i_17)]) (rest := []) ⟨hx, hb, hml, hown, hts⟩ (c_X0_barAt l D cI cB cZ oB (oG 0) H.size Bcnt Bwo Bon Btw Bnu i_17 (by omega) qBwo qBon qBtw qBnu (by omega)) (cwV 1 hts gX1_findIn_X0_barAt rfl rfl rfl (by decide +kernel) ⟨Nat.le_of_ble_eq_true rfl, Nat.le_of_ble_eq_true rfl⟩) ⟨zPre_blind, va_recv hK hw.1 (ci := 0) (q0 := 6) rfl rfl, z_pre hK hw [6, 7, 8, 9, 10] (by decide) rfl⟩ rfl rfl hl.1 rfl (lv_room (Nat.le_of_ble_eq_true rfl)) dX1_findIn_30 ⟨Nat.zero_le _, Nat.zero_le _⟩) hw.2.2 (fun q _ h => hF9 q h) hF9 (fun r9 u9 t9 H_36 locs9 ht9 hvm9 hq9 hB9 hz9 hk9 hS9 => ?_)
      obtain ⟨r_37, rfl⟩ : ∃ z, z = u9 := ⟨_, rfl⟩
      try dsimp only at hq9 hB9
      obtain ⟨rfl, hq9⟩ := hq9
      have hq_38 := hq9
      have hw : HW D A s.heap (kG cI cB cZ oG Gn Gki Gle Glo Gta Gsh ++ kB cI cB cZ oB (oG 0) Bcnt Bwo Bon Btw Bnu ++ kX cI cB cZ oX Xbar_18 Xle_19 Xgr_20 ++ [(aL, .inl (cI, 8, .inl (zA fL)))]) H_36 locs9 := z_after (wc := kB cI cB cZ oB (oG 0) Bcnt Bwo Bon Btw Bnu) hw [6, 7, 8, 9, 10] [0, 1, 2, 3, 4, 5, 11, 12] rfl rfl (by decide) (by decide) hF9 hk9 ht9 hB9 hS9 [0, 1, 2, 3, 4, 5, 8, 9, 10, 11, 12, 6, 7] (by decide) rfl
      clear hF9 ht9 hvm9 hB9 hz9 hk9 hS9 hq9
      refine lv_istore (lv' := [(5, .int (zI r_37)), (0, .ref (oX 0)), (1, .ref (oB 0)), (2, .ref (oG 0)), (3, .ref aL), (4, .int (zI i_17))]) hx hb dX1_findIn_33 hl (by decide) rfl (fun ls hl => ?_)
      refine lv_aload_n hx hb dX1_findIn_35 rfl (lv_at hl 2 rfl) ?_
      refine va_get (D := D) (ci := 0) (v := .ref (oB 1)) (C := RX0) (T := TX0) (N := 6) hx hb hts hinX0 hown hK hw.1 6 rfl rfl 2 (by decide) (hts (.fieldLink RX1 34 "CarnivalRoad$Bars" "words" "[I") (by decide +kernel)) (fun _ h9 => h9) rfl dX1_findIn_36 ?_
      refine lv_iload hx hb dX1_findIn_39 (lv_at hl 0 rfl) ?_
      have hi_39 : (0 : Int) ≤ r_37 ∧ r_37 < ((11 : Nat) : Int) := by
        first | assumption | omega | grind
      refine z_iald (n := 11) (f := Bwo) hx hb hK hw 7 rfl (by decide) hi_39 dX1_findIn_41 ?_
      have hq_40 : 0 ≤ Bwo r_37 ∧ Bwo r_37 ≤ 11 := qBwo r_37
      refine z_iconst hx hb dX1_findIn_42 ?_
      refine z_icmp_ne (tgt := 59) hx hb dX1_findIn_43 (by decide) (by omega) (fun hc_41 => ?_) (fun hc_41 => ?_)
      · skip
        refine lv_aload_n hx hb dX1_findIn_59 rfl (lv_at hl 2 rfl) ?_
        refine va_get (D := D) (ci := 0) (v := .ref (oB 1)) (C := RX0) (T := TX0) (N := 6) hx hb hts hinX0 hown hK hw.1 6 rfl rfl 2 (by decide) (hts (.fieldLink RX1 34 "CarnivalRoad$Bars" "words" "[I") (by decide +kernel)) (fun _ h9 => h9) rfl dX1_findIn_60 ?_
        refine lv_iload hx hb dX1_findIn_63 (lv_at hl 0 rfl) ?_
        have hi_42 : (0 : Int) ≤ r_37 ∧ r_37 < ((11 : Nat) : Int) := by
          first | assumption | omega | grind
        refine z_iald (n := 11) (f := Bwo) hx hb hK hw 7 rfl (by decide) hi_42 dX1_findIn_65 ?_
        have hq_43 : 0 ≤ Bwo r_37 ∧ Bwo r_37 ≤ 11 := qBwo r_37
        refine z_iconst hx hb dX1_findIn_66 ?_
        refine z_icmp_ne (tgt := 88) hx hb dX1_findIn_67 (by decide) (by omega) (fun hc_44 => ?_) (fun hc_44 => ?_)
        · skip
          refine lv_aload_n hx hb dX1_findIn_88 rfl (lv_at hl 1 rfl) ?_
          refine lv_aload_n hx hb dX1_findIn_89 rfl (lv_at hl 2 rfl) ?_
          refine lv_iload hx hb dX1_findIn_90 (lv_at hl 0 rfl) ?_
          refine lv_aload_n hx hb dX1_findIn_92 rfl (lv_at hl 3 rfl) ?_
          refine lv_aload_n hx hb dX1_findIn_93 rfl (lv_at hl 4 rfl) ?_
          have hpre_45 : ¬ Bwo r_37 = 3 := by
            first | assumption | omega | grind
          have hpre_46 : ¬ Bwo r_37 = 4 := by
            first | assumption | omega | grind
          have hF9 := z_free (wc := kG cI cB cZ oG Gn Gki Gle Glo Gta Gsh ++ kB cI cB cZ oB (oG 0) Bcnt Bwo Bon Btw Bnu ++ kX cI cB cZ oX Xbar_18 Xle_19 Xgr_20 ++ [(aL, .inl (cI, 8, .inl (zA fL)))]) hw hA [0, 1, 2, 3, 4, 5, 6, 7, 8, 9, 10, 11, 12] rfl
          refine va_callv (va_runV (As := [.ref (oB 0), .int (zI r_37), .ref (oG 0), .ref aL]) (rest := []) ⟨hx, hb, hml, hown, hts⟩ (c_X1_findPair l D cI cB cZ oG oB oX aL H_36.size Gn Gki Gle Glo Gta Gsh Bcnt Bwo Bon Btw Bnu Xbar_18 Xle_19 Xgr_20 fL r_37 (by omega) qGki qGle qGlo qGta qGsh (by omega) qBwo qBon qBtw qBnu (by omega) (by omega) (by omega) qfL (by omega) hpre_45 hpre_46) (cwV 4 hts gX1_findIn_X1_findPair rfl rfl rfl (by decide +kernel) ⟨Nat.le_of_ble_eq_true rfl, Nat.le_of_ble_eq_true rfl⟩) ⟨zPre_blind, va_recv hK hw.1 (ci := 1) (q0 := 11) rfl rfl, z_pre hK hw [0, 1, 2, 3, 4, 5, 6, 7, 8, 9, 10, 11, 12] (by decide) rfl⟩ rfl rfl hl.1 rfl (lv_room (Nat.le_of_ble_eq_true rfl)) dX1_findIn_94 ⟨Nat.zero_le _, Nat.zero_le _⟩) hw.2.2 (fun q _ h => hF9 q h) hF9 (fun u9 t9 H_47 locs9 ht9 hvm9 hq9 hB9 hz9 hk9 hS9 => ?_)
          obtain ⟨Xbar_48, Xle_49, Xgr_50⟩ := u9
          try dsimp only at hq9 hB9
          obtain ⟨hq_51, hq_52, hq_53, hq_54⟩ := hq9
          have hw : HW D A s.heap (kG cI cB cZ oG Gn Gki Gle Glo Gta Gsh ++ kB cI cB cZ oB (oG 0) Bcnt Bwo Bon Btw Bnu ++ kX cI cB cZ oX Xbar_48 Xle_49 Xgr_50 ++ [(aL, .inl (cI, 8, .inl (zA fL)))]) H_47 locs9 := z_after (wc := kG cI cB cZ oG Gn Gki Gle Glo Gta Gsh ++ kB cI cB cZ oB (oG 0) Bcnt Bwo Bon Btw Bnu ++ kX cI cB cZ oX Xbar_18 Xle_19 Xgr_20 ++ [(aL, .inl (cI, 8, .inl (zA fL)))]) hw [0, 1, 2, 3, 4, 5, 6, 7, 8, 9, 10, 11, 12] [] rfl rfl (by decide) (by decide) hF9 hk9 ht9 hB9 hS9 [0, 1, 2, 3, 4, 5, 6, 7, 8, 9, 10, 11, 12] (by decide) rfl
          clear hF9 ht9 hvm9 hB9 hz9 hk9 hS9
          refine z_iinc (k := 5) (lv' := [(4, .int (zI (i_17 + 1))), (5, .int (zI r_37)), (0, .ref (oX 0)), (1, .ref (oB 0)), (2, .ref (oG 0)), (3, .ref aL)]) hx hb dX1_findIn_97 hl rfl (by decide) rfl (fun ls hl => ?_)
          refine lv_goto (tgt := 10) hx hb dX1_findIn_100 (by decide) ?_
          have hv_55 : (-1 : Int) ≤ Xbar_48 ∧ Xbar_48 ≤ 10 := by
            first | assumption | omega | grind
          have hv_56 : (-1 : Int) ≤ Xle_49 ∧ Xle_49 ≤ 7 := by
            first | assumption | omega | grind
          have hv_57 : (-1 : Int) ≤ Xgr_50 ∧ Xgr_50 ≤ 7 := by
            first | assumption | omega | grind
          have hv_58 : 0 ≤ (i_17 + 1) ∧ (i_17 + 1) ≤ Bcnt + 1 := by
            first | assumption | omega | grind
          have hv_59 : (Xbar_48 = -1 ∧ Xle_49 = -1 ∧ Xgr_50 = -1 ∧ (∀ k, 0 ≤ k → k < (i_17 + 1) → k < Bcnt → okP Gki Glo Gsh Bwo Bon Btw Bnu fL Gn k) ∧ (Bcnt < (i_17 + 1) → okP Gki Glo Gsh Bwo Bon Btw Bnu fL Gn 10)) ∨ (¬ Xbar_48 = -1 ∧ whyP Gki Glo Gsh Bwo Bon Btw Bnu fL Gn Bcnt Xbar_48 Xle_49 Xgr_50) := by
            exact why_next (by assumption) (by omega) (by assumption) (by omega) (by assumption)
          have hm_60 : (12 - (i_17 + 1)).toNat < (12 - i_17).toNat := by
            first | assumption | omega | grind
          exact ih_16 ((i_17 + 1), Xbar_48, Xle_49, Xgr_50) _ _ _ ⟨hv_55, hv_56, hv_57, hv_58, hv_59, hw, lv_sub hl [2, 3, 4, 5, 0] rfl⟩ hm_60
        · skip
          refine lv_aload_n hx hb dX1_findIn_70 rfl (lv_at hl 1 rfl) ?_
          refine lv_aload_n hx hb dX1_findIn_71 rfl (lv_at hl 2 rfl) ?_
          refine lv_iload hx hb dX1_findIn_72 (lv_at hl 0 rfl) ?_
          refine lv_aload_n hx hb dX1_findIn_74 rfl (lv_at hl 3 rfl) ?_
          refine lv_aload_n hx hb dX1_findIn_75 rfl (lv_at hl 4 rfl) ?_
          refine lv_aload_n hx hb dX1_findIn_76 rfl (lv_at hl 3 rfl) ?_
          refine va_get (D := D) (ci := 2) (v := .int (zI Gn)) (C := RX2) (T := TX2) (N := 6) hx hb hts hinX2 hown hK hw.1 0 rfl rfl 0 (by decide) (hts (.fieldLink RX1 42 "CarnivalRoad$Guests" "count" "I") (by decide +kernel)) (fun _ h9 => h9) rfl dX1_findIn_77 ?_
          refine z_iconst hx hb dX1_findIn_80 ?_
          refine z_isub hx hb dX1_findIn_81 ?_
          have hpre_61 : (Bwo r_37 = 3 ∧ (Gn - 1) = 0) ∨ (Bwo r_37 = 4 ∧ (Gn - 1) = Gn - 1) := by
            first | assumption | omega | grind
          have hF9 := z_free (wc := kG cI cB cZ oG Gn Gki Gle Glo Gta Gsh ++ kB cI cB cZ oB (oG 0) Bcnt Bwo Bon Btw Bnu ++ kX cI cB cZ oX Xbar_18 Xle_19 Xgr_20 ++ [(aL, .inl (cI, 8, .inl (zA fL)))]) hw hA [0, 1, 2, 3, 4, 5, 6, 7, 8, 9, 10, 11, 12] rfl
          refine va_callv (va_runV (As := [.ref (oB 0), .int (zI r_37), .ref (oG 0), .ref aL, .int (zI (Gn - 1))]) (rest := []) ⟨hx, hb, hml, hown, hts⟩ (c_X1_findAtEnd l D cI cB cZ oG oB oX aL H_36.size Gn Gki Gle Glo Gta Gsh Bcnt Bwo Bon Btw Bnu Xbar_18 Xle_19 Xgr_20 fL r_37 (Gn - 1) (by omega) qGki qGle qGlo qGta qGsh (by omega) qBwo qBon qBtw qBnu (by omega) (by omega) (by omega) qfL (by omega) (by omega) hpre_61) (cwV 5 hts gX1_findIn_X1_findAtEnd rfl rfl rfl (by decide +kernel) ⟨Nat.le_of_ble_eq_true rfl, Nat.le_of_ble_eq_true rfl⟩) ⟨zPre_blind, va_recv hK hw.1 (ci := 1) (q0 := 11) rfl rfl, z_pre hK hw [0, 1, 2, 3, 4, 5, 6, 7, 8, 9, 10, 11, 12] (by decide) rfl⟩ rfl rfl hl.1 rfl (lv_room (Nat.le_of_ble_eq_true rfl)) dX1_findIn_82 ⟨Nat.zero_le _, Nat.zero_le _⟩) hw.2.2 (fun q _ h => hF9 q h) hF9 (fun u9 t9 H_62 locs9 ht9 hvm9 hq9 hB9 hz9 hk9 hS9 => ?_)
          obtain ⟨Xbar_63, Xle_64, Xgr_65⟩ := u9
          try dsimp only at hq9 hB9
          obtain ⟨hq_66, hq_67, hq_68, hq_69⟩ := hq9
          have hw : HW D A s.heap (kG cI cB cZ oG Gn Gki Gle Glo Gta Gsh ++ kB cI cB cZ oB (oG 0) Bcnt Bwo Bon Btw Bnu ++ kX cI cB cZ oX Xbar_63 Xle_64 Xgr_65 ++ [(aL, .inl (cI, 8, .inl (zA fL)))]) H_62 locs9 := z_after (wc := kG cI cB cZ oG Gn Gki Gle Glo Gta Gsh ++ kB cI cB cZ oB (oG 0) Bcnt Bwo Bon Btw Bnu ++ kX cI cB cZ oX Xbar_18 Xle_19 Xgr_20 ++ [(aL, .inl (cI, 8, .inl (zA fL)))]) hw [0, 1, 2, 3, 4, 5, 6, 7, 8, 9, 10, 11, 12] [] rfl rfl (by decide) (by decide) hF9 hk9 ht9 hB9 hS9 [0, 1, 2, 3, 4, 5, 6, 7, 8, 9, 10, 11, 12] (by decide) rfl
          clear hF9 ht9 hvm9 hB9 hz9 hk9 hS9
          refine lv_goto (tgt := 97) hx hb dX1_findIn_85 (by decide) ?_
          refine z_iinc (k := 5) (lv' := [(4, .int (zI (i_17 + 1))), (5, .int (zI r_37)), (0, .ref (oX 0)), (1, .ref (oB 0)), (2, .ref (oG 0)), (3, .ref aL)]) hx hb dX1_findIn_97 hl rfl (by decide) rfl (fun ls hl => ?_)
          refine lv_goto (tgt := 10) hx hb dX1_findIn_100 (by decide) ?_
          have hv_70 : (-1 : Int) ≤ Xbar_63 ∧ Xbar_63 ≤ 10 := by
            first | assumption | omega | grind
          have hv_71 : (-1 : Int) ≤ Xle_64 ∧ Xle_64 ≤ 7 := by
            first | assumption | omega | grind
          have hv_72 : (-1 : Int) ≤ Xgr_65 ∧ Xgr_65 ≤ 7 := by
            first | assumption | omega | grind
          have hv_73 : 0 ≤ (i_17 + 1) ∧ (i_17 + 1) ≤ Bcnt + 1 := by
            first | assumption | omega | grind
          have hv_74 : (Xbar_63 = -1 ∧ Xle_64 = -1 ∧ Xgr_65 = -1 ∧ (∀ k, 0 ≤ k → k < (i_17 + 1) → k < Bcnt → okP Gki Glo Gsh Bwo Bon Btw Bnu fL Gn k) ∧ (Bcnt < (i_17 + 1) → okP Gki Glo Gsh Bwo Bon Btw Bnu fL Gn 10)) ∨ (¬ Xbar_63 = -1 ∧ whyP Gki Glo Gsh Bwo Bon Btw Bnu fL Gn Bcnt Xbar_63 Xle_64 Xgr_65) := by
            exact why_next (by assumption) (by omega) (by assumption) (by omega) (by assumption)
          have hm_75 : (12 - (i_17 + 1)).toNat < (12 - i_17).toNat := by
            first | assumption | omega | grind
          exact ih_16 ((i_17 + 1), Xbar_63, Xle_64, Xgr_65) _ _ _ ⟨hv_70, hv_71, hv_72, hv_73, hv_74, hw, lv_sub hl [2, 3, 4, 5, 0] rfl⟩ hm_75
      · skip
        refine lv_aload_n hx hb dX1_findIn_46 rfl (lv_at hl 1 rfl) ?_
        refine lv_aload_n hx hb dX1_findIn_47 rfl (lv_at hl 2 rfl) ?_
        refine lv_iload hx hb dX1_findIn_48 (lv_at hl 0 rfl) ?_
        refine lv_aload_n hx hb dX1_findIn_50 rfl (lv_at hl 3 rfl) ?_
        refine lv_aload_n hx hb dX1_findIn_51 rfl (lv_at hl 4 rfl) ?_
        refine z_iconst hx hb dX1_findIn_52 ?_
        have hpre_76 : (Bwo r_37 = 3 ∧ (0 : Int) = 0) ∨ (Bwo r_37 = 4 ∧ (0 : Int) = Gn - 1) := by
          first | assumption | omega | grind
        have hF9 := z_free (wc := kG cI cB cZ oG Gn Gki Gle Glo Gta Gsh ++ kB cI cB cZ oB (oG 0) Bcnt Bwo Bon Btw Bnu ++ kX cI cB cZ oX Xbar_18 Xle_19 Xgr_20 ++ [(aL, .inl (cI, 8, .inl (zA fL)))]) hw hA [0, 1, 2, 3, 4, 5, 6, 7, 8, 9, 10, 11, 12] rfl
        refine va_callv (va_runV (As := [.ref (oB 0), .int (zI r_37), .ref (oG 0), .ref aL, .int (zI 0)]) (rest := []) ⟨hx, hb, hml, hown, hts⟩ (c_X1_findAtEnd l D cI cB cZ oG oB oX aL H_36.size Gn Gki Gle Glo Gta Gsh Bcnt Bwo Bon Btw Bnu Xbar_18 Xle_19 Xgr_20 fL r_37 0 (by omega) qGki qGle qGlo qGta qGsh (by omega) qBwo qBon qBtw qBnu (by omega) (by omega) (by omega) qfL (by omega) (by omega) hpre_76) (cwV 5 hts gX1_findIn_X1_findAtEnd rfl rfl rfl (by decide +kernel) ⟨Nat.le_of_ble_eq_true rfl, Nat.le_of_ble_eq_true rfl⟩) ⟨zPre_blind, va_recv hK hw.1 (ci := 1) (q0 := 11) rfl rfl, z_pre hK hw [0, 1, 2, 3, 4, 5, 6, 7, 8, 9, 10, 11, 12] (by decide) rfl⟩ rfl rfl hl.1 rfl (lv_room (Nat.le_of_ble_eq_true rfl)) dX1_findIn_53 ⟨Nat.zero_le _, Nat.zero_le _⟩) hw.2.2 (fun q _ h => hF9 q h) hF9 (fun u9 t9 H_77 locs9 ht9 hvm9 hq9 hB9 hz9 hk9 hS9 => ?_)
        obtain ⟨Xbar_78, Xle_79, Xgr_80⟩ := u9
        try dsimp only at hq9 hB9
        obtain ⟨hq_81, hq_82, hq_83, hq_84⟩ := hq9
        have hw : HW D A s.heap (kG cI cB cZ oG Gn Gki Gle Glo Gta Gsh ++ kB cI cB cZ oB (oG 0) Bcnt Bwo Bon Btw Bnu ++ kX cI cB cZ oX Xbar_78 Xle_79 Xgr_80 ++ [(aL, .inl (cI, 8, .inl (zA fL)))]) H_77 locs9 := z_after (wc := kG cI cB cZ oG Gn Gki Gle Glo Gta Gsh ++ kB cI cB cZ oB (oG 0) Bcnt Bwo Bon Btw Bnu ++ kX cI cB cZ oX Xbar_18 Xle_19 Xgr_20 ++ [(aL, .inl (cI, 8, .inl (zA fL)))]) hw [0, 1, 2, 3, 4, 5, 6, 7, 8, 9, 10, 11, 12] [] rfl rfl (by decide) (by decide) hF9 hk9 ht9 hB9 hS9 [0, 1, 2, 3, 4, 5, 6, 7, 8, 9, 10, 11, 12] (by decide) rfl
        clear hF9 ht9 hvm9 hB9 hz9 hk9 hS9
        refine lv_goto (tgt := 97) hx hb dX1_findIn_56 (by decide) ?_
        refine z_iinc (k := 5) (lv' := [(4, .int (zI (i_17 + 1))), (5, .int (zI r_37)), (0, .ref (oX 0)), (1, .ref (oB 0)), (2, .ref (oG 0)), (3, .ref aL)]) hx hb dX1_findIn_97 hl rfl (by decide) rfl (fun ls hl => ?_)
        refine lv_goto (tgt := 10) hx hb dX1_findIn_100 (by decide) ?_
        have hv_85 : (-1 : Int) ≤ Xbar_78 ∧ Xbar_78 ≤ 10 := by
          first | assumption | omega | grind
        have hv_86 : (-1 : Int) ≤ Xle_79 ∧ Xle_79 ≤ 7 := by
          first | assumption | omega | grind
        have hv_87 : (-1 : Int) ≤ Xgr_80 ∧ Xgr_80 ≤ 7 := by
          first | assumption | omega | grind
        have hv_88 : 0 ≤ (i_17 + 1) ∧ (i_17 + 1) ≤ Bcnt + 1 := by
          first | assumption | omega | grind
        have hv_89 : (Xbar_78 = -1 ∧ Xle_79 = -1 ∧ Xgr_80 = -1 ∧ (∀ k, 0 ≤ k → k < (i_17 + 1) → k < Bcnt → okP Gki Glo Gsh Bwo Bon Btw Bnu fL Gn k) ∧ (Bcnt < (i_17 + 1) → okP Gki Glo Gsh Bwo Bon Btw Bnu fL Gn 10)) ∨ (¬ Xbar_78 = -1 ∧ whyP Gki Glo Gsh Bwo Bon Btw Bnu fL Gn Bcnt Xbar_78 Xle_79 Xgr_80) := by
          exact why_next (by assumption) (by omega) (by assumption) (by omega) (by assumption)
        have hm_90 : (12 - (i_17 + 1)).toNat < (12 - i_17).toNat := by
          first | assumption | omega | grind
        exact ih_16 ((i_17 + 1), Xbar_78, Xle_79, Xgr_80) _ _ _ ⟨hv_85, hv_86, hv_87, hv_88, hv_89, hw, lv_sub hl [2, 3, 4, 5, 0] rfl⟩ hm_90
