set_option maxRecDepth 100000 in
set_option maxHeartbeats 4000000 in
theorem c_X5_lowestOf (l : Launch) (D : va_G) (cI cB cZ : ClassId) (sz : Nat) (set : Int) (qset : 0 ≤ set ∧ set ≤ 255) (hp0 : ¬ set = 0) : Met l yX5_lowestOf wsX5_lowestOf ({ frames := 0, cells := 0, slots := 0, locals := 0 }) (va_Pc [.int (zI set)] (zPre D cI cB cZ sz (([] : va_W)))) (va_Qi (fun (r9 : Int32) (u9 : Int) => r9 = zI u9 ∧ ((0 ≤ u9 ∧ u9 ≤ 7) ∧ (mb set u9 ∧ ∀ j, 0 ≤ j → j < u9 → ¬ mb set j))) (fun u9 t9 => zAt D cI cB cZ (va_A (([] : va_W)) sz) (([] : va_W)) t9) (va_A (([] : va_W)) sz)) 0 0 (va_A (([] : va_W)) sz) := by
  refine Met.ofW (cc := cX5_lowestOf) (maxL := 2) (ret := (some .int)) (by decide) rfl ?_
  intro pp ee s mm aa bw mt cd s₁ BL hml hv
  obtain ⟨rfl, hsz, hP, hK, hD0⟩ := hv
  have hx := BL.exec
  have hb := BL.bytes
  have hr := BL.returns
  have hts := atoms_spec (ws := wsX5_lowestOf) BL.pre
  have hown : s.vm.findClass RX5 = some mm.cls := findClass_of_methodNamed BL.named
  have hlocks := BL.notSynchronized
  subst hsz
  generalize hAe : va_A (([] : va_W)) s.heap.size = A
  have hA : ∀ q : Nat, s.heap.size ≤ q → A q := fun q h => by rw [← hAe]; exact Or.inr h
  have hw : HW D A s.heap (([] : va_W)) s.heap [] := z_start hAe hP hD0
  clear hP hD0
  have hl := lv_entry ([.int (zI set)]) (n := 2) (Nat.le_of_ble_eq_true rfl)
  rw [lg_entry_eq]
  generalize (lg_sl ([.int (zI set)]) ++ List.replicate (2 - (lg_sl ([.int (zI set)])).length) Slot.unset).toArray = ls at hl ⊢
  have hl : lv_has ls 2 [(0, .int (zI set))] := hl
  refine z_iconst hx hb dX5_lowestOf_0 ?_
  refine lv_istore_n (lv' := [(1, .int (zI 0)), (0, .int (zI set))]) hx hb dX5_lowestOf_1 rfl hl (by decide) rfl (fun ls hl => ?_)
  have hv_1 : 0 ≤ (0 : Int) ∧ (0 : Int) ≤ 8 := by
    first | assumption | omega | grind
  have hv_2 : ∀ j, 0 ≤ j → j < (0 : Int) → ¬ mb set j := by
    exact all_0
  refine z_loop (σ := Int) (μ := fun x9 => (8 - x9).toNat) (I := fun x9 H locs ls => (0 ≤ x9 ∧ x9 ≤ 8) ∧ (∀ j, 0 ≤ j → j < x9 → ¬ mb set j) ∧ HW D A s.heap (([] : va_W)) H locs ∧ lv_has ls 2 [(0, .int (zI set)), (1, .int (zI x9))]) 0 ⟨hv_1, hv_2, hw, lv_sub hl [1, 0] rfl⟩ ?_
  clear hw hl
  intro i_4 H locs ls hI ih_3
  try dsimp only at hI
  obtain ⟨hI_5, hI_6, hw, hl⟩ := hI
  refine lv_iload_n hx hb dX5_lowestOf_2 rfl (lv_at hl 1 rfl) ?_
  refine z_bipush hx hb dX5_lowestOf_3 (by decide) ?_
  refine z_icmp_ge (tgt := 24) hx hb dX5_lowestOf_5 (by decide) (by omega) (fun hc_7 => ?_) (fun hc_7 => ?_)
  · skip
    refine z_iconst hx hb dX5_lowestOf_24 ?_
    have hv_8 : 0 ≤ (0 : Int) ∧ (0 : Int) ≤ 7 := by
      exfalso
      obtain ⟨r, r0, r1, r2⟩ := mb_ex qset hp0
      exact (by assumption : ∀ j, 0 ≤ j → j < i_4 → ¬ mb set j) r r0 (by omega) r2
    have hv_9 : mb set (0 : Int) ∧ ∀ j, 0 ≤ j → j < (0 : Int) → ¬ mb set j := by
      exfalso
      obtain ⟨r, r0, r1, r2⟩ := mb_ex qset hp0
      exact (by assumption : ∀ j, 0 ≤ j → j < i_4 → ¬ mb set j) r r0 (by omega) r2
    exact W.iret (v := zI 0) hx hb hr (fun t9 ht hW => ⟨⟨zI 0, 0, rfl, ⟨rfl, ⟨hv_8, hv_9⟩⟩, by subst hAe; exact z_end hK hw ht hW⟩, by subst hAe; exact hw.2.2.F ht⟩) (by subst hAe; exact hw.2.2.2.2) dX5_lowestOf_25
  · skip
    refine lv_iload_n hx hb dX5_lowestOf_8 rfl (lv_at hl 0 rfl) ?_
    refine lv_iload_n hx hb dX5_lowestOf_9 rfl (lv_at hl 1 rfl) ?_
    have hbit_10 : zI set >>> (zI i_4 &&& 31) = zI ((set.toNat / 2 ^ (i_4 : Int).toNat : Nat) : Int) := by
      exact z_shr qset (by omega)
    refine lv_ishr hx hb dX5_lowestOf_10 ?_
    rw [hbit_10]
    clear hbit_10
    have hq_11 : 0 ≤ ((set.toNat / 2 ^ (i_4 : Int).toNat : Nat) : Int) ∧ ((set.toNat / 2 ^ (i_4 : Int).toNat : Nat) : Int) ≤ 255 := by
      exact shr_r qset
    refine z_iconst hx hb dX5_lowestOf_11 ?_
    have hbit_12 : zI ((set.toNat / 2 ^ (i_4 : Int).toNat : Nat) : Int) &&& zI 1 = zI (((set.toNat / 2 ^ (i_4 : Int).toNat : Nat) : Int) % 2) := by
      exact z_and1 (by omega)
    refine lv_iand hx hb dX5_lowestOf_12 ?_
    rw [hbit_12]
    clear hbit_12
    refine z_if_eq (tgt := 18) hx hb dX5_lowestOf_13 (by decide) (by omega) (fun hc_13 => ?_) (fun hc_13 => ?_)
    · skip
      refine z_iinc (k := 1) (lv' := [(1, .int (zI (i_4 + 1))), (0, .int (zI set))]) hx hb dX5_lowestOf_18 hl rfl (by decide) rfl (fun ls hl => ?_)
      refine lv_goto (tgt := 2) hx hb dX5_lowestOf_21 (by decide) ?_
      have hv_14 : 0 ≤ (i_4 + 1) ∧ (i_4 + 1) ≤ 8 := by
        first | assumption | omega | grind
      have hv_15 : ∀ j, 0 ≤ j → j < (i_4 + 1) → ¬ mb set j := by
        refine all_s (by assumption) ?_
        rw [← mb_shr]; omega
      have hm_16 : (8 - (i_4 + 1)).toNat < (8 - i_4).toNat := by
        first | assumption | omega | grind
      exact ih_3 (i_4 + 1) _ _ _ ⟨hv_14, hv_15, hw, lv_sub hl [1, 0] rfl⟩ hm_16
    · skip
      refine lv_iload_n hx hb dX5_lowestOf_16 rfl (lv_at hl 1 rfl) ?_
      have hv_17 : 0 ≤ i_4 ∧ i_4 ≤ 7 := by
        first | assumption | omega | grind
      have hv_18 : mb set i_4 ∧ ∀ j, 0 ≤ j → j < i_4 → ¬ mb set j := by
        exact ⟨mb_shr.mp (by omega), by assumption⟩
      exact W.iret (v := zI i_4) hx hb hr (fun t9 ht hW => ⟨⟨zI i_4, i_4, rfl, ⟨rfl, ⟨hv_17, hv_18⟩⟩, by subst hAe; exact z_end hK hw ht hW⟩, by subst hAe; exact hw.2.2.F ht⟩) (by subst hAe; exact hw.2.2.2.2) dX5_lowestOf_17
set_option maxRecDepth 100000 in
set_option maxHeartbeats 4000000 in
theorem c_X5_barredBehind (l : Launch) (D : va_G) (cI cB cZ : ClassId) (oG : Nat → Nat) (oB : Nat → Nat) (oS : Nat → Nat) (sz : Nat) (Gn : Int) (Gki : Int → Int) (Gle : Int → Int) (Glo : Int → Int) (Gta : Int → Int) (Gsh : Int → Int) (Bcnt : Int) (Bwo : Int → Int) (Bon : Int → Int) (Btw : Int → Int) (Bnu : Int → Int) (Sline : Int → Int) (Sopn : Int → Int) (Sbarred : Int → Int) (Smf : Int) (Sml : Int) (Sdep : Int) (Ser : Int) (g : Int) (d : Int) (qGn : 0 ≤ Gn ∧ Gn ≤ 8) (qGki : RA Gki (0) 4) (qGle : RA Gle (0) 5) (qGlo : RA Glo (0) 9) (qGta : RA Gta (0) 9) (qGsh : RA Gsh (0) 9) (qBcnt : 0 ≤ Bcnt ∧ Bcnt ≤ 10) (qBwo : RA Bwo (0) 11) (qBon : RA Bon (0) 12) (qBtw : RA Btw (0) 12) (qBnu : RA Bnu (0) 18) (qSline : RA Sline (0) 7) (qSopn : RA Sopn (0) 255) (qSbarred : RA Sbarred (0) 255) (qSmf : 0 ≤ Smf ∧ Smf ≤ 255) (qSml : 0 ≤ Sml ∧ Sml ≤ 255) (qSdep : -1 ≤ Sdep ∧ Sdep ≤ 7) (qSer : 0 ≤ Ser ∧ Ser ≤ 1) (qg : 0 ≤ g ∧ g ≤ 7) (qd : 0 ≤ d ∧ d ≤ 7) : Met l yX5_barredBehind wsX5_barredBehind ({ frames := 3, cells := 0, slots := 0, locals := 70 }) (va_Pc [.ref (oS 0), .ref (oB 0), .int (zI g), .int (zI d)] (zPre D cI cB cZ sz (kG cI cB cZ oG Gn Gki Gle Glo Gta Gsh ++ kB cI cB cZ oB (oG 0) Bcnt Bwo Bon Btw Bnu ++ kS cI cB cZ oS (oG 0) Sline Sopn Sbarred Smf Sml Sdep Ser))) (va_Qi (fun (r9 : Int32) (u9 : Int) => r9 = zI u9 ∧ ((∀ j, 0 ≤ j → j ≤ 7 → (mb u9 j ↔ j < Gn ∧ ¬ j = g ∧ anyB Gki Glo Gsh Bwo Bon Btw Bnu Bcnt g j d)) ∧ (0 ≤ u9 ∧ u9 ≤ 255))) (fun u9 t9 => zAt D cI cB cZ (va_A (kG cI cB cZ oG Gn Gki Gle Glo Gta Gsh ++ kB cI cB cZ oB (oG 0) Bcnt Bwo Bon Btw Bnu ++ kS cI cB cZ oS (oG 0) Sline Sopn Sbarred Smf Sml Sdep Ser) sz) (kG cI cB cZ oG Gn Gki Gle Glo Gta Gsh ++ kB cI cB cZ oB (oG 0) Bcnt Bwo Bon Btw Bnu ++ kS cI cB cZ oS (oG 0) Sline Sopn Sbarred Smf Sml Sdep Ser) t9) (va_A (kG cI cB cZ oG Gn Gki Gle Glo Gta Gsh ++ kB cI cB cZ oB (oG 0) Bcnt Bwo Bon Btw Bnu ++ kS cI cB cZ oS (oG 0) Sline Sopn Sbarred Smf Sml Sdep Ser) sz)) 0 0 (va_A (kG cI cB cZ oG Gn Gki Gle Glo Gta Gsh ++ kB cI cB cZ oB (oG 0) Bcnt Bwo Bon Btw Bnu ++ kS cI cB cZ oS (oG 0) Sline Sopn Sbarred Smf Sml Sdep Ser) sz) := by
  refine Met.ofW (cc := cX5_barredBehind) (maxL := 6) (ret := (some .int)) (by decide) rfl ?_
  intro pp ee s mm aa bw mt cd s₁ BL hml hv
  obtain ⟨rfl, hsz, hP, hK, hD0⟩ := hv
  have hx := BL.exec
  have hb := BL.bytes
  have hr := BL.returns
  have hts := atoms_spec (ws := wsX5_barredBehind) BL.pre
  have hown : s.vm.findClass RX5 = some mm.cls := findClass_of_methodNamed BL.named
  have hlocks := BL.notSynchronized
  subst hsz
  generalize hAe : va_A (kG cI cB cZ oG Gn Gki Gle Glo Gta Gsh ++ kB cI cB cZ oB (oG 0) Bcnt Bwo Bon Btw Bnu ++ kS cI cB cZ oS (oG 0) Sline Sopn Sbarred Smf Sml Sdep Ser) s.heap.size = A
  have hA : ∀ q : Nat, s.heap.size ≤ q → A q := fun q h => by rw [← hAe]; exact Or.inr h
  have hw : HW D A s.heap (kG cI cB cZ oG Gn Gki Gle Glo Gta Gsh ++ kB cI cB cZ oB (oG 0) Bcnt Bwo Bon Btw Bnu ++ kS cI cB cZ oS (oG 0) Sline Sopn Sbarred Smf Sml Sdep Ser) s.heap [] := z_start hAe hP hD0
  clear hP hD0
  have hl := lv_entry ([.ref (oS 0), .ref (oB 0), .int (zI g), .int (zI d)]) (n := 6) (Nat.le_of_ble_eq_true rfl)
  rw [lg_entry_eq]
  generalize (lg_sl ([.ref (oS 0), .ref (oB 0), .int (zI g), .int (zI d)]) ++ List.replicate (6 - (lg_sl ([.ref (oS 0), .ref (oB 0), .int (zI g), .int (zI d)])).length) Slot.unset).toArray = ls at hl ⊢
  have hl : lv_has ls 6 [(0, .ref (oS 0)), (1, .ref (oB 0)), (2, .int (zI g)), (3, .int (zI d))] := hl
  have hinX2 : ∀ w ∈ wsX20, w ∈ wsX5_barredBehind := by decide +kernel
  have hinX5 : ∀ w ∈ wsX50, w ∈ wsX5_barredBehind := by decide +kernel
  refine z_iconst hx hb dX5_barredBehind_0 ?_
  refine lv_istore (lv' := [(4, .int (zI 0)), (0, .ref (oS 0)), (1, .ref (oB 0)), (2, .int (zI g)), (3, .int (zI d))]) hx hb dX5_barredBehind_1 hl (by decide) rfl (fun ls hl => ?_)
  refine z_iconst hx hb dX5_barredBehind_3 ?_
  refine lv_istore (lv' := [(5, .int (zI 0)), (4, .int (zI 0)), (0, .ref (oS 0)), (1, .ref (oB 0)), (2, .int (zI g)), (3, .int (zI d))]) hx hb dX5_barredBehind_4 hl (by decide) rfl (fun ls hl => ?_)
  have hv_1 : 0 ≤ (0 : Int) ∧ (0 : Int) ≤ Gn := by
    first | assumption | omega | grind
  have hv_2 : 0 ≤ (0 : Int) ∧ (0 : Int) ≤ 255 := by
    first | assumption | omega | grind
  have hv_3 : ∀ j, 0 ≤ j → j ≤ 7 → (mb (0 : Int) j ↔ j < (0 : Int) ∧ ¬ j = g ∧ anyB Gki Glo Gsh Bwo Bon Btw Bnu Bcnt g j d) := by
    exact bb_0 (P := (fun j => ¬ j = g ∧ anyB Gki Glo Gsh Bwo Bon Btw Bnu Bcnt g j d))
  refine z_loop (σ := Int × Int) (μ := fun x9 => (9 - (x9.2)).toNat) (I := fun x9 H locs ls => (0 ≤ (x9.2) ∧ (x9.2) ≤ Gn) ∧ (0 ≤ (x9.1) ∧ (x9.1) ≤ 255) ∧ (∀ j, 0 ≤ j → j ≤ 7 → (mb (x9.1) j ↔ j < (x9.2) ∧ ¬ j = g ∧ anyB Gki Glo Gsh Bwo Bon Btw Bnu Bcnt g j d)) ∧ HW D A s.heap (kG cI cB cZ oG Gn Gki Gle Glo Gta Gsh ++ kB cI cB cZ oB (oG 0) Bcnt Bwo Bon Btw Bnu ++ kS cI cB cZ oS (oG 0) Sline Sopn Sbarred Smf Sml Sdep Ser) H locs ∧ lv_has ls 6 [(0, .ref (oS 0)), (1, .ref (oB 0)), (2, .int (zI g)), (3, .int (zI d)), (4, .int (zI (x9.1))), (5, .int (zI (x9.2)))]) (0, 0) ⟨hv_1, hv_2, hv_3, hw, lv_sub hl [2, 3, 4, 5, 1, 0] rfl⟩ ?_
  clear hw hl
  intro x9 H locs ls hI ih_4
  obtain ⟨set_5, o_6⟩ := x9
  try dsimp only at hI
  obtain ⟨hI_7, hI_8, hI_9, hw, hl⟩ := hI
  refine lv_iload hx hb dX5_barredBehind_6 (lv_at hl 5 rfl) ?_
  refine lv_aload_n hx hb dX5_barredBehind_8 rfl (lv_at hl 0 rfl) ?_
  refine va_get (D := D) (ci := 5) (v := .ref (oG 0)) (C := RX5) (T := TX5) (N := 8) hx hb hts hinX5 hown hK hw.1 11 rfl rfl 0 (by decide) (hts (.fieldLink RX5 35 "CarnivalRoad$Search" "guests" "LCarnivalRoad$Guests;") (by decide +kernel)) (fun _ h9 => h9) rfl dX5_barredBehind_9 ?_
  refine va_get (D := D) (ci := 2) (v := .int (zI Gn)) (C := RX2) (T := TX2) (N := 6) hx hb hts hinX2 hown hK hw.1 0 rfl rfl 0 (by decide) (hts (.fieldLink RX5 39 "CarnivalRoad$Guests" "count" "I") (by decide +kernel)) (fun _ h9 => h9) rfl dX5_barredBehind_12 ?_
  refine z_icmp_ge (tgt := 50) hx hb dX5_barredBehind_15 (by decide) (by omega) (fun hc_10 => ?_) (fun hc_10 => ?_)
  · skip
    refine lv_iload hx hb dX5_barredBehind_50 (lv_at hl 4 rfl) ?_
    have hv_11 : ∀ j, 0 ≤ j → j ≤ 7 → (mb set_5 j ↔ j < Gn ∧ ¬ j = g ∧ anyB Gki Glo Gsh Bwo Bon Btw Bnu Bcnt g j d) := by
      first | omega | exact bb_end (P := (fun j => ¬ j = g ∧ anyB Gki Glo Gsh Bwo Bon Btw Bnu Bcnt g j d)) (by assumption) (by omega)
    have hv_12 : 0 ≤ set_5 ∧ set_5 ≤ 255 := by
      first | omega | exact bb_end (P := (fun j => ¬ j = g ∧ anyB Gki Glo Gsh Bwo Bon Btw Bnu Bcnt g j d)) (by assumption) (by omega)
    exact W.iret (v := zI set_5) hx hb hr (fun t9 ht hW => ⟨⟨zI set_5, set_5, rfl, ⟨rfl, ⟨hv_11, hv_12⟩⟩, by subst hAe; exact z_end hK hw ht hW⟩, by subst hAe; exact hw.2.2.F ht⟩) (by subst hAe; exact hw.2.2.2.2) dX5_barredBehind_52
  · skip
    refine lv_iload hx hb dX5_barredBehind_18 (lv_at hl 5 rfl) ?_
    refine lv_iload_n hx hb dX5_barredBehind_20 rfl (lv_at hl 2 rfl) ?_
    refine z_icmp_eq (tgt := 44) hx hb dX5_barredBehind_21 (by decide) (by omega) (fun hc_13 => ?_) (fun hc_13 => ?_)
    · skip
      refine z_iinc (k := 5) (lv' := [(5, .int (zI (o_6 + 1))), (0, .ref (oS 0)), (1, .ref (oB 0)), (2, .int (zI g)), (3, .int (zI d)), (4, .int (zI set_5))]) hx hb dX5_barredBehind_44 hl rfl (by decide) rfl (fun ls hl => ?_)
      refine lv_goto (tgt := 6) hx hb dX5_barredBehind_47 (by decide) ?_
      have hv_14 : 0 ≤ (o_6 + 1) ∧ (o_6 + 1) ≤ Gn := by
        first | assumption | omega | grind
      have hv_15 : 0 ≤ set_5 ∧ set_5 ≤ 255 := by
        first | assumption | omega | grind
      have hv_16 : ∀ j, 0 ≤ j → j ≤ 7 → (mb set_5 j ↔ j < (o_6 + 1) ∧ ¬ j = g ∧ anyB Gki Glo Gsh Bwo Bon Btw Bnu Bcnt g j d) := by
        first | exact bb_add (P := (fun j => ¬ j = g ∧ anyB Gki Glo Gsh Bwo Bon Btw Bnu Bcnt g j d)) (by assumption) (by omega) ⟨by omega, by assumption⟩ | exact bb_no (P := (fun j => ¬ j = g ∧ anyB Gki Glo Gsh Bwo Bon Btw Bnu Bcnt g j d)) (by assumption) (fun q => absurd q.2 (by assumption)) | exact bb_no (P := (fun j => ¬ j = g ∧ anyB Gki Glo Gsh Bwo Bon Btw Bnu Bcnt g j d)) (by assumption) (fun q => q.1 (by omega))
      have hm_17 : (9 - (o_6 + 1)).toNat < (9 - o_6).toNat := by
        first | assumption | omega | grind
      exact ih_4 (set_5, (o_6 + 1)) _ _ _ ⟨hv_14, hv_15, hv_16, hw, lv_sub hl [1, 2, 3, 4, 5, 0] rfl⟩ hm_17
    · skip
      refine lv_aload_n hx hb dX5_barredBehind_24 rfl (lv_at hl 1 rfl) ?_
      refine lv_iload_n hx hb dX5_barredBehind_25 rfl (lv_at hl 2 rfl) ?_
      refine lv_iload hx hb dX5_barredBehind_26 (lv_at hl 5 rfl) ?_
      refine lv_iload_n hx hb dX5_barredBehind_28 rfl (lv_at hl 3 rfl) ?_
      have hF9 := z_free (wc := kG cI cB cZ oG Gn Gki Gle Glo Gta Gsh ++ kB cI cB cZ oB (oG 0) Bcnt Bwo Bon Btw Bnu) hw hA [0, 1, 2, 3, 4, 5, 6, 7, 8, 9, 10] rfl
      refine va_calli (va_runV (As := [.int (zI g), .int (zI o_6), .int (zI d)]) (rest := []) ⟨hx, hb, hml, hown, hts⟩ (c_X0_anyBreaks l D cI cB cZ oG oB H.size Gn Gki Gle Glo Gta Gsh Bcnt Bwo Bon Btw Bnu g o_6 d (by omega) qGki qGle qGlo qGta qGsh (by omega) qBwo qBon qBtw qBnu (by omega) (by omega) (by omega)) (cwV 3 hts gX5_barredBehind_X0_anyBreaks rfl rfl rfl (by decide +kernel) ⟨Nat.le_of_ble_eq_true rfl, Nat.le_of_ble_eq_true rfl⟩) ⟨zPre_blind, va_recv hK hw.1 (ci := 0) (q0 := 6) rfl rfl, z_pre hK hw [0, 1, 2, 3, 4, 5, 6, 7, 8, 9, 10] (by decide) rfl⟩ rfl rfl hl.1 rfl (lv_room (Nat.le_of_ble_eq_true rfl)) dX5_barredBehind_29 ⟨Nat.zero_le _, Nat.zero_le _⟩) hw.2.2 (fun q _ h => hF9 q h) hF9 (fun r9 u9 t9 H_18 locs9 ht9 hvm9 hq9 hB9 hz9 hk9 hS9 => ?_)
      obtain ⟨r_19, rfl⟩ : ∃ z, z = u9 := ⟨_, rfl⟩
      try dsimp only at hq9 hB9
      obtain ⟨rfl, hq9⟩ := hq9
      have hq_20 := hq9
      have hw : HW D A s.heap (kG cI cB cZ oG Gn Gki Gle Glo Gta Gsh ++ kB cI cB cZ oB (oG 0) Bcnt Bwo Bon Btw Bnu ++ kS cI cB cZ oS (oG 0) Sline Sopn Sbarred Smf Sml Sdep Ser) H_18 locs9 := z_after (wc := kG cI cB cZ oG Gn Gki Gle Glo Gta Gsh ++ kB cI cB cZ oB (oG 0) Bcnt Bwo Bon Btw Bnu) hw [0, 1, 2, 3, 4, 5, 6, 7, 8, 9, 10] [11, 12, 13, 14] rfl rfl (by decide) (by decide) hF9 hk9 ht9 hB9 hS9 [4, 5, 6, 7, 8, 9, 10, 11, 12, 13, 14, 0, 1, 2, 3] (by decide) rfl
      clear hF9 ht9 hvm9 hB9 hz9 hk9 hS9 hq9
      rcases hq_20 with ⟨hc_21, rfl⟩ | ⟨hc_21, rfl⟩
      · skip
        refine z_if_eq (tgt := 44) hx hb dX5_barredBehind_32 (by decide) (by omega) (fun hc_22 => absurd hc_22 (by omega)) (fun hc_22 => ?_)
        refine lv_iload hx hb dX5_barredBehind_35 (lv_at hl 4 rfl) ?_
        refine z_iconst hx hb dX5_barredBehind_37 ?_
        refine lv_iload hx hb dX5_barredBehind_38 (lv_at hl 5 rfl) ?_
        have hbit_23 : zI 1 <<< (zI o_6 &&& 31) = zI (sBit o_6) := by
          exact z_shl1 (by omega)
        refine lv_ishl hx hb dX5_barredBehind_40 ?_
        rw [hbit_23]
        clear hbit_23
        have hq_24 : 0 ≤ (sBit o_6) ∧ (sBit o_6) ≤ 255 := by
          exact sBit_r (by omega)
        have hbit_25 : zI set_5 ||| zI (sBit o_6) = zI (sOr set_5 (sBit o_6)) := by
          exact z_or (by omega) (by omega)
        refine lv_ior hx hb dX5_barredBehind_41 ?_
        rw [hbit_25]
        clear hbit_25
        have hq_26 : 0 ≤ (sOr set_5 (sBit o_6)) ∧ (sOr set_5 (sBit o_6)) ≤ 255 := by
          exact sOr_r (by omega) (by omega)
        refine lv_istore (lv' := [(4, .int (zI (sOr set_5 (sBit o_6)))), (0, .ref (oS 0)), (1, .ref (oB 0)), (2, .int (zI g)), (3, .int (zI d)), (5, .int (zI o_6))]) hx hb dX5_barredBehind_42 hl (by decide) rfl (fun ls hl => ?_)
        refine z_iinc (k := 5) (lv' := [(5, .int (zI (o_6 + 1))), (4, .int (zI (sOr set_5 (sBit o_6)))), (0, .ref (oS 0)), (1, .ref (oB 0)), (2, .int (zI g)), (3, .int (zI d))]) hx hb dX5_barredBehind_44 hl rfl (by decide) rfl (fun ls hl => ?_)
        refine lv_goto (tgt := 6) hx hb dX5_barredBehind_47 (by decide) ?_
        have hv_27 : 0 ≤ (o_6 + 1) ∧ (o_6 + 1) ≤ Gn := by
          first | assumption | omega | grind
        have hv_28 : 0 ≤ (sOr set_5 (sBit o_6)) ∧ (sOr set_5 (sBit o_6)) ≤ 255 := by
          first | assumption | omega | grind
        have hv_29 : ∀ j, 0 ≤ j → j ≤ 7 → (mb (sOr set_5 (sBit o_6)) j ↔ j < (o_6 + 1) ∧ ¬ j = g ∧ anyB Gki Glo Gsh Bwo Bon Btw Bnu Bcnt g j d) := by
          first | exact bb_add (P := (fun j => ¬ j = g ∧ anyB Gki Glo Gsh Bwo Bon Btw Bnu Bcnt g j d)) (by assumption) (by omega) ⟨by omega, by assumption⟩ | exact bb_no (P := (fun j => ¬ j = g ∧ anyB Gki Glo Gsh Bwo Bon Btw Bnu Bcnt g j d)) (by assumption) (fun q => absurd q.2 (by assumption)) | exact bb_no (P := (fun j => ¬ j = g ∧ anyB Gki Glo Gsh Bwo Bon Btw Bnu Bcnt g j d)) (by assumption) (fun q => q.1 (by omega))
        have hm_30 : (9 - (o_6 + 1)).toNat < (9 - o_6).toNat := by
          first | assumption | omega | grind
        exact ih_4 ((sOr set_5 (sBit o_6)), (o_6 + 1)) _ _ _ ⟨hv_27, hv_28, hv_29, hw, lv_sub hl [2, 3, 4, 5, 1, 0] rfl⟩ hm_30
      · skip
        refine z_if_eq (tgt := 44) hx hb dX5_barredBehind_32 (by decide) (by omega) (fun hc_31 => ?_) (fun hc_31 => absurd hc_31 (by omega))
        refine z_iinc (k := 5) (lv' := [(5, .int (zI (o_6 + 1))), (0, .ref (oS 0)), (1, .ref (oB 0)), (2, .int (zI g)), (3, .int (zI d)), (4, .int (zI set_5))]) hx hb dX5_barredBehind_44 hl rfl (by decide) rfl (fun ls hl => ?_)
        refine lv_goto (tgt := 6) hx hb dX5_barredBehind_47 (by decide) ?_
        have hv_32 : 0 ≤ (o_6 + 1) ∧ (o_6 + 1) ≤ Gn := by
          first | assumption | omega | grind
        have hv_33 : 0 ≤ set_5 ∧ set_5 ≤ 255 := by
          first | assumption | omega | grind
        have hv_34 : ∀ j, 0 ≤ j → j ≤ 7 → (mb set_5 j ↔ j < (o_6 + 1) ∧ ¬ j = g ∧ anyB Gki Glo Gsh Bwo Bon Btw Bnu Bcnt g j d) := by
          first | exact bb_add (P := (fun j => ¬ j = g ∧ anyB Gki Glo Gsh Bwo Bon Btw Bnu Bcnt g j d)) (by assumption) (by omega) ⟨by omega, by assumption⟩ | exact bb_no (P := (fun j => ¬ j = g ∧ anyB Gki Glo Gsh Bwo Bon Btw Bnu Bcnt g j d)) (by assumption) (fun q => absurd q.2 (by assumption)) | exact bb_no (P := (fun j => ¬ j = g ∧ anyB Gki Glo Gsh Bwo Bon Btw Bnu Bcnt g j d)) (by assumption) (fun q => q.1 (by omega))
        have hm_35 : (9 - (o_6 + 1)).toNat < (9 - o_6).toNat := by
          first | assumption | omega | grind
        exact ih_4 (set_5, (o_6 + 1)) _ _ _ ⟨hv_32, hv_33, hv_34, hw, lv_sub hl [1, 2, 3, 4, 5, 0] rfl⟩ hm_35
set_option maxRecDepth 100000 in
set_option maxHeartbeats 4000000 in
theorem c_X5_openAt (l : Launch) (D : va_G) (cI cB cZ : ClassId) (oG : Nat → Nat) (oS : Nat → Nat) (sz : Nat) (Gn : Int) (Gki : Int → Int) (Gle : Int → Int) (Glo : Int → Int) (Gta : Int → Int) (Gsh : Int → Int) (Sline : Int → Int) (Sopn : Int → Int) (Sbarred : Int → Int) (Smf : Int) (Sml : Int) (Sdep : Int) (Ser : Int) (p : Int) (qGn : 0 ≤ Gn ∧ Gn ≤ 8) (qGki : RA Gki (0) 4) (qGle : RA Gle (0) 5) (qGlo : RA Glo (0) 9) (qGta : RA Gta (0) 9) (qGsh : RA Gsh (0) 9) (qSline : RA Sline (0) 7) (qSopn : RA Sopn (0) 255) (qSbarred : RA Sbarred (0) 255) (qSmf : 0 ≤ Smf ∧ Smf ≤ 255) (qSml : 0 ≤ Sml ∧ Sml ≤ 255) (qSdep : -1 ≤ Sdep ∧ Sdep ≤ 7) (qSer : 0 ≤ Ser ∧ Ser ≤ 1) (qp : 0 ≤ p ∧ p ≤ 7) : Met l yX5_openAt wsX5_openAt ({ frames := 0, cells := 0, slots := 0, locals := 0 }) (va_Pc [.ref (oS 0), .int (zI p)] (zPre D cI cB cZ sz (kG cI cB cZ oG Gn Gki Gle Glo Gta Gsh ++ kS cI cB cZ oS (oG 0) Sline Sopn Sbarred Smf Sml Sdep Ser))) (va_Qi (fun (r9 : Int32) (u9 : Int) => r9 = zI u9 ∧ ((∀ j, 0 ≤ j → j ≤ 7 → (mb u9 j ↔ opP Gn Sline Sbarred Smf Sml p j)) ∧ (0 ≤ u9 ∧ u9 ≤ 255))) (fun u9 t9 => zAt D cI cB cZ (va_A (kG cI cB cZ oG Gn Gki Gle Glo Gta Gsh ++ kS cI cB cZ oS (oG 0) Sline Sopn Sbarred Smf Sml Sdep Ser) sz) (kG cI cB cZ oG Gn Gki Gle Glo Gta Gsh ++ kS cI cB cZ oS (oG 0) Sline Sopn Sbarred Smf Sml Sdep Ser) t9) (va_A (kG cI cB cZ oG Gn Gki Gle Glo Gta Gsh ++ kS cI cB cZ oS (oG 0) Sline Sopn Sbarred Smf Sml Sdep Ser) sz)) 0 0 (va_A (kG cI cB cZ oG Gn Gki Gle Glo Gta Gsh ++ kS cI cB cZ oS (oG 0) Sline Sopn Sbarred Smf Sml Sdep Ser) sz) := by
  refine Met.ofW (cc := cX5_openAt) (maxL := 4) (ret := (some .int)) (by decide) rfl ?_
  intro pp ee s mm aa bw mt cd s₁ BL hml hv
  obtain ⟨rfl, hsz, hP, hK, hD0⟩ := hv
  have hx := BL.exec
  have hb := BL.bytes
  have hr := BL.returns
  have hts := atoms_spec (ws := wsX5_openAt) BL.pre
  have hown : s.vm.findClass RX5 = some mm.cls := findClass_of_methodNamed BL.named
  have hlocks := BL.notSynchronized
  subst hsz
  generalize hAe : va_A (kG cI cB cZ oG Gn Gki Gle Glo Gta Gsh ++ kS cI cB cZ oS (oG 0) Sline Sopn Sbarred Smf Sml Sdep Ser) s.heap.size = A
  have hA : ∀ q : Nat, s.heap.size ≤ q → A q := fun q h => by rw [← hAe]; exact Or.inr h
  have hw : HW D A s.heap (kG cI cB cZ oG Gn Gki Gle Glo Gta Gsh ++ kS cI cB cZ oS (oG 0) Sline Sopn Sbarred Smf Sml Sdep Ser) s.heap [] := z_start hAe hP hD0
  clear hP hD0
  have hl := lv_entry ([.ref (oS 0), .int (zI p)]) (n := 4) (Nat.le_of_ble_eq_true rfl)
  rw [lg_entry_eq]
  generalize (lg_sl ([.ref (oS 0), .int (zI p)]) ++ List.replicate (4 - (lg_sl ([.ref (oS 0), .int (zI p)])).length) Slot.unset).toArray = ls at hl ⊢
  have hl : lv_has ls 4 [(0, .ref (oS 0)), (1, .int (zI p))] := hl
  have hinX2 : ∀ w ∈ wsX20, w ∈ wsX5_openAt := by decide +kernel
  have hinX5 : ∀ w ∈ wsX50, w ∈ wsX5_openAt := by decide +kernel
  refine z_iconst hx hb dX5_openAt_0 ?_
  refine lv_aload_n hx hb dX5_openAt_1 rfl (lv_at hl 0 rfl) ?_
  refine va_get (D := D) (ci := 5) (v := .ref (oG 0)) (C := RX5) (T := TX5) (N := 8) hx hb hts hinX5 hown hK hw.1 6 rfl rfl 0 (by decide) (hts (.fieldLink RX5 35 "CarnivalRoad$Search" "guests" "LCarnivalRoad$Guests;") (by decide +kernel)) (fun _ h9 => h9) rfl dX5_openAt_2 ?_
  refine va_get (D := D) (ci := 2) (v := .int (zI Gn)) (C := RX2) (T := TX2) (N := 6) hx hb hts hinX2 hown hK hw.1 0 rfl rfl 0 (by decide) (hts (.fieldLink RX5 39 "CarnivalRoad$Guests" "count" "I") (by decide +kernel)) (fun _ h9 => h9) rfl dX5_openAt_5 ?_
  have hbit_1 : zI 1 <<< (zI Gn &&& 31) = zI (sBit Gn) := by
    exact z_shl1 (by omega)
  refine lv_ishl hx hb dX5_openAt_8 ?_
  rw [hbit_1]
  clear hbit_1
  have hq_2 : 1 ≤ (sBit Gn) ∧ (sBit Gn) ≤ 256 := by
    exact sBit_8 _ (by omega)
  refine z_iconst hx hb dX5_openAt_9 ?_
  refine z_isub hx hb dX5_openAt_10 ?_
  refine lv_istore_n (lv' := [(2, .int (zI ((sBit Gn) - 1))), (0, .ref (oS 0)), (1, .int (zI p))]) hx hb dX5_openAt_11 rfl hl (by decide) rfl (fun ls hl => ?_)
  refine z_iconst hx hb dX5_openAt_12 ?_
  refine lv_istore_n (lv' := [(3, .int (zI 0)), (2, .int (zI ((sBit Gn) - 1))), (0, .ref (oS 0)), (1, .int (zI p))]) hx hb dX5_openAt_13 rfl hl (by decide) rfl (fun ls hl => ?_)
  have hv_3 : 0 ≤ (0 : Int) ∧ (0 : Int) ≤ p := by
    first | assumption | omega | grind
  have hv_4 : 0 ≤ ((sBit Gn) - 1) ∧ ((sBit Gn) - 1) ≤ 255 := by
    first | assumption | omega | grind
  have hv_5 : ∀ j, 0 ≤ j → j ≤ 7 → (mb ((sBit Gn) - 1) j ↔ j < Gn ∧ ∀ k, 0 ≤ k → k < (0 : Int) → ¬ j = Sline k ∧ ¬ mb (Sbarred ((p - k) * 8 + Sline k)) j) := by
    intro j j0 j1
    rw [mb_full (by omega) ⟨j0, j1⟩]
    exact ⟨fun q => ⟨q, fun k k0 k1 => absurd k1 (by omega)⟩, fun q => q.1⟩
  refine z_loop (σ := Int × Int) (μ := fun x9 => (8 - (x9.2)).toNat) (I := fun x9 H locs ls => (0 ≤ (x9.2) ∧ (x9.2) ≤ p) ∧ (0 ≤ (x9.1) ∧ (x9.1) ≤ 255) ∧ (∀ j, 0 ≤ j → j ≤ 7 → (mb (x9.1) j ↔ j < Gn ∧ ∀ k, 0 ≤ k → k < (x9.2) → ¬ j = Sline k ∧ ¬ mb (Sbarred ((p - k) * 8 + Sline k)) j)) ∧ HW D A s.heap (kG cI cB cZ oG Gn Gki Gle Glo Gta Gsh ++ kS cI cB cZ oS (oG 0) Sline Sopn Sbarred Smf Sml Sdep Ser) H locs ∧ lv_has ls 4 [(0, .ref (oS 0)), (1, .int (zI p)), (2, .int (zI (x9.1))), (3, .int (zI (x9.2)))]) (((sBit Gn) - 1), 0) ⟨hv_3, hv_4, hv_5, hw, lv_sub hl [2, 3, 1, 0] rfl⟩ ?_
  clear hw hl
  intro x9 H locs ls hI ih_6
  obtain ⟨set_7, i_8⟩ := x9
  try dsimp only at hI
  obtain ⟨hI_9, hI_10, hI_11, hw, hl⟩ := hI
  refine lv_iload_n hx hb dX5_openAt_14 rfl (lv_at hl 3 rfl) ?_
  refine lv_iload_n hx hb dX5_openAt_15 rfl (lv_at hl 1 rfl) ?_
  refine z_icmp_ge (tgt := 59) hx hb dX5_openAt_16 (by decide) (by omega) (fun hc_12 => ?_) (fun hc_12 => ?_)
  · skip
    refine lv_iload_n hx hb dX5_openAt_59 rfl (lv_at hl 1 rfl) ?_
    refine z_if_ne (tgt := 70) hx hb dX5_openAt_60 (by decide) (by omega) (fun hc_13 => ?_) (fun hc_13 => ?_)
    · skip
      refine lv_iload_n hx hb dX5_openAt_70 rfl (lv_at hl 1 rfl) ?_
      refine lv_aload_n hx hb dX5_openAt_71 rfl (lv_at hl 0 rfl) ?_
      refine va_get (D := D) (ci := 5) (v := .ref (oG 0)) (C := RX5) (T := TX5) (N := 8) hx hb hts hinX5 hown hK hw.1 6 rfl rfl 0 (by decide) (hts (.fieldLink RX5 35 "CarnivalRoad$Search" "guests" "LCarnivalRoad$Guests;") (by decide +kernel)) (fun _ h9 => h9) rfl dX5_openAt_72 ?_
      refine va_get (D := D) (ci := 2) (v := .int (zI Gn)) (C := RX2) (T := TX2) (N := 6) hx hb hts hinX2 hown hK hw.1 0 rfl rfl 0 (by decide) (hts (.fieldLink RX5 39 "CarnivalRoad$Guests" "count" "I") (by decide +kernel)) (fun _ h9 => h9) rfl dX5_openAt_75 ?_
      refine z_iconst hx hb dX5_openAt_78 ?_
      refine z_isub hx hb dX5_openAt_79 ?_
      refine z_icmp_ne (tgt := 90) hx hb dX5_openAt_80 (by decide) (by omega) (fun hc_14 => ?_) (fun hc_14 => ?_)
      · skip
        refine lv_iload_n hx hb dX5_openAt_90 rfl (lv_at hl 2 rfl) ?_
        have hv_15 : ∀ j, 0 ≤ j → j ≤ 7 → (mb set_7 j ↔ opP Gn Sline Sbarred Smf Sml p j) := by
          first | omega | exact op_end (by assumption) (by omega) (fun j => by first | (rw [mb_and, mb_and]; grind) | (rw [mb_and]; grind) | grind)
        have hv_16 : 0 ≤ set_7 ∧ set_7 ≤ 255 := by
          first | omega | exact op_end (by assumption) (by omega) (fun j => by first | (rw [mb_and, mb_and]; grind) | (rw [mb_and]; grind) | grind)
        exact W.iret (v := zI set_7) hx hb hr (fun t9 ht hW => ⟨⟨zI set_7, set_7, rfl, ⟨rfl, ⟨hv_15, hv_16⟩⟩, by subst hAe; exact z_end hK hw ht hW⟩, by subst hAe; exact hw.2.2.F ht⟩) (by subst hAe; exact hw.2.2.2.2) dX5_openAt_91
      · skip
        refine lv_iload_n hx hb dX5_openAt_83 rfl (lv_at hl 2 rfl) ?_
        refine lv_aload_n hx hb dX5_openAt_84 rfl (lv_at hl 0 rfl) ?_
        refine va_get (D := D) (ci := 5) (v := .int (zI Sml)) (C := RX5) (T := TX5) (N := 8) hx hb hts hinX5 hown hK hw.1 6 rfl rfl 5 (by decide) (hts (.fieldLink RX5 25 "CarnivalRoad$Search" "mayBeLast" "I") (by decide +kernel)) (fun _ h9 => h9) rfl dX5_openAt_85 ?_
        have hbit_17 : zI set_7 &&& zI Sml = zI (sAnd set_7 Sml) := by
          exact z_and (by omega) (by omega)
        refine lv_iand hx hb dX5_openAt_88 ?_
        rw [hbit_17]
        clear hbit_17
        have hq_18 : 0 ≤ (sAnd set_7 Sml) ∧ (sAnd set_7 Sml) ≤ 255 := by
          exact sAnd_r (by omega) (by omega)
        refine lv_istore_n (lv' := [(2, .int (zI (sAnd set_7 Sml))), (0, .ref (oS 0)), (1, .int (zI p)), (3, .int (zI i_8))]) hx hb dX5_openAt_89 rfl hl (by decide) rfl (fun ls hl => ?_)
        refine lv_iload_n hx hb dX5_openAt_90 rfl (lv_at hl 0 rfl) ?_
        have hv_19 : ∀ j, 0 ≤ j → j ≤ 7 → (mb (sAnd set_7 Sml) j ↔ opP Gn Sline Sbarred Smf Sml p j) := by
          first | omega | exact op_end (by assumption) (by omega) (fun j => by first | (rw [mb_and, mb_and]; grind) | (rw [mb_and]; grind) | grind)
        have hv_20 : 0 ≤ (sAnd set_7 Sml) ∧ (sAnd set_7 Sml) ≤ 255 := by
          first | omega | exact op_end (by assumption) (by omega) (fun j => by first | (rw [mb_and, mb_and]; grind) | (rw [mb_and]; grind) | grind)
        exact W.iret (v := zI (sAnd set_7 Sml)) hx hb hr (fun t9 ht hW => ⟨⟨zI (sAnd set_7 Sml), (sAnd set_7 Sml), rfl, ⟨rfl, ⟨hv_19, hv_20⟩⟩, by subst hAe; exact z_end hK hw ht hW⟩, by subst hAe; exact hw.2.2.F ht⟩) (by subst hAe; exact hw.2.2.2.2) dX5_openAt_91
    · skip
      refine lv_iload_n hx hb dX5_openAt_63 rfl (lv_at hl 2 rfl) ?_
      refine lv_aload_n hx hb dX5_openAt_64 rfl (lv_at hl 0 rfl) ?_
      refine va_get (D := D) (ci := 5) (v := .int (zI Smf)) (C := RX5) (T := TX5) (N := 8) hx hb hts hinX5 hown hK hw.1 6 rfl rfl 4 (by decide) (hts (.fieldLink RX5 21 "CarnivalRoad$Search" "mayBeFirst" "I") (by decide +kernel)) (fun _ h9 => h9) rfl dX5_openAt_65 ?_
      have hbit_21 : zI set_7 &&& zI Smf = zI (sAnd set_7 Smf) := by
        exact z_and (by omega) (by omega)
      refine lv_iand hx hb dX5_openAt_68 ?_
      rw [hbit_21]
      clear hbit_21
      have hq_22 : 0 ≤ (sAnd set_7 Smf) ∧ (sAnd set_7 Smf) ≤ 255 := by
        exact sAnd_r (by omega) (by omega)
      refine lv_istore_n (lv' := [(2, .int (zI (sAnd set_7 Smf))), (0, .ref (oS 0)), (1, .int (zI p)), (3, .int (zI i_8))]) hx hb dX5_openAt_69 rfl hl (by decide) rfl (fun ls hl => ?_)
      refine lv_iload_n hx hb dX5_openAt_70 rfl (lv_at hl 2 rfl) ?_
      refine lv_aload_n hx hb dX5_openAt_71 rfl (lv_at hl 1 rfl) ?_
      refine va_get (D := D) (ci := 5) (v := .ref (oG 0)) (C := RX5) (T := TX5) (N := 8) hx hb hts hinX5 hown hK hw.1 6 rfl rfl 0 (by decide) (hts (.fieldLink RX5 35 "CarnivalRoad$Search" "guests" "LCarnivalRoad$Guests;") (by decide +kernel)) (fun _ h9 => h9) rfl dX5_openAt_72 ?_
      refine va_get (D := D) (ci := 2) (v := .int (zI Gn)) (C := RX2) (T := TX2) (N := 6) hx hb hts hinX2 hown hK hw.1 0 rfl rfl 0 (by decide) (hts (.fieldLink RX5 39 "CarnivalRoad$Guests" "count" "I") (by decide +kernel)) (fun _ h9 => h9) rfl dX5_openAt_75 ?_
      refine z_iconst hx hb dX5_openAt_78 ?_
      refine z_isub hx hb dX5_openAt_79 ?_
      refine z_icmp_ne (tgt := 90) hx hb dX5_openAt_80 (by decide) (by omega) (fun hc_23 => ?_) (fun hc_23 => ?_)
      · skip
        refine lv_iload_n hx hb dX5_openAt_90 rfl (lv_at hl 0 rfl) ?_
        have hv_24 : ∀ j, 0 ≤ j → j ≤ 7 → (mb (sAnd set_7 Smf) j ↔ opP Gn Sline Sbarred Smf Sml p j) := by
          first | omega | exact op_end (by assumption) (by omega) (fun j => by first | (rw [mb_and, mb_and]; grind) | (rw [mb_and]; grind) | grind)
        have hv_25 : 0 ≤ (sAnd set_7 Smf) ∧ (sAnd set_7 Smf) ≤ 255 := by
          first | omega | exact op_end (by assumption) (by omega) (fun j => by first | (rw [mb_and, mb_and]; grind) | (rw [mb_and]; grind) | grind)
        exact W.iret (v := zI (sAnd set_7 Smf)) hx hb hr (fun t9 ht hW => ⟨⟨zI (sAnd set_7 Smf), (sAnd set_7 Smf), rfl, ⟨rfl, ⟨hv_24, hv_25⟩⟩, by subst hAe; exact z_end hK hw ht hW⟩, by subst hAe; exact hw.2.2.F ht⟩) (by subst hAe; exact hw.2.2.2.2) dX5_openAt_91
      · skip
        refine lv_iload_n hx hb dX5_openAt_83 rfl (lv_at hl 0 rfl) ?_
        refine lv_aload_n hx hb dX5_openAt_84 rfl (lv_at hl 1 rfl) ?_
        refine va_get (D := D) (ci := 5) (v := .int (zI Sml)) (C := RX5) (T := TX5) (N := 8) hx hb hts hinX5 hown hK hw.1 6 rfl rfl 5 (by decide) (hts (.fieldLink RX5 25 "CarnivalRoad$Search" "mayBeLast" "I") (by decide +kernel)) (fun _ h9 => h9) rfl dX5_openAt_85 ?_
        have hbit_26 : zI (sAnd set_7 Smf) &&& zI Sml = zI (sAnd (sAnd set_7 Smf) Sml) := by
          exact z_and (by omega) (by omega)
        refine lv_iand hx hb dX5_openAt_88 ?_
        rw [hbit_26]
        clear hbit_26
        have hq_27 : 0 ≤ (sAnd (sAnd set_7 Smf) Sml) ∧ (sAnd (sAnd set_7 Smf) Sml) ≤ 255 := by
          exact sAnd_r (by omega) (by omega)
        refine lv_istore_n (lv' := [(2, .int (zI (sAnd (sAnd set_7 Smf) Sml))), (0, .ref (oS 0)), (1, .int (zI p)), (3, .int (zI i_8))]) hx hb dX5_openAt_89 rfl hl (by decide) rfl (fun ls hl => ?_)
        refine lv_iload_n hx hb dX5_openAt_90 rfl (lv_at hl 0 rfl) ?_
        have hv_28 : ∀ j, 0 ≤ j → j ≤ 7 → (mb (sAnd (sAnd set_7 Smf) Sml) j ↔ opP Gn Sline Sbarred Smf Sml p j) := by
          first | omega | exact op_end (by assumption) (by omega) (fun j => by first | (rw [mb_and, mb_and]; grind) | (rw [mb_and]; grind) | grind)
        have hv_29 : 0 ≤ (sAnd (sAnd set_7 Smf) Sml) ∧ (sAnd (sAnd set_7 Smf) Sml) ≤ 255 := by
          first | omega | exact op_end (by assumption) (by omega) (fun j => by first | (rw [mb_and, mb_and]; grind) | (rw [mb_and]; grind) | grind)
        exact W.iret (v := zI (sAnd (sAnd set_7 Smf) Sml)) hx hb hr (fun t9 ht hW => ⟨⟨zI (sAnd (sAnd set_7 Smf) Sml), (sAnd (sAnd set_7 Smf) Sml), rfl, ⟨rfl, ⟨hv_28, hv_29⟩⟩, by subst hAe; exact z_end hK hw ht hW⟩, by subst hAe; exact hw.2.2.F ht⟩) (by subst hAe; exact hw.2.2.2.2) dX5_openAt_91
  · skip
    refine lv_iload_n hx hb dX5_openAt_19 rfl (lv_at hl 2 rfl) ?_
    refine z_iconst hx hb dX5_openAt_20 ?_
    refine lv_aload_n hx hb dX5_openAt_21 rfl (lv_at hl 0 rfl) ?_
    refine va_get (D := D) (ci := 5) (v := .ref (oS 1)) (C := RX5) (T := TX5) (N := 8) hx hb hts hinX5 hown hK hw.1 6 rfl rfl 1 (by decide) (hts (.fieldLink RX5 9 "CarnivalRoad$Search" "line" "[I") (by decide +kernel)) (fun _ h9 => h9) rfl dX5_openAt_22 ?_
    refine lv_iload_n hx hb dX5_openAt_25 rfl (lv_at hl 3 rfl) ?_
    have hi_30 : (0 : Int) ≤ i_8 ∧ i_8 < ((8 : Nat) : Int) := by
      first | assumption | omega | grind
    refine z_iald (n := 8) (f := Sline) hx hb hK hw 7 rfl (by decide) hi_30 dX5_openAt_26 ?_
    have hq_31 : 0 ≤ Sline i_8 ∧ Sline i_8 ≤ 7 := qSline i_8
    have hbit_32 : zI 1 <<< (zI (Sline i_8) &&& 31) = zI (sBit (Sline i_8)) := by
      exact z_shl1 (by omega)
    refine lv_ishl hx hb dX5_openAt_27 ?_
    rw [hbit_32]
    clear hbit_32
    have hq_33 : 0 ≤ (sBit (Sline i_8)) ∧ (sBit (Sline i_8)) ≤ 255 := by
      exact sBit_r (by omega)
    refine z_iconst hx hb dX5_openAt_28 ?_
    have hbit_34 : zI (sBit (Sline i_8)) ^^^ zI (-1) = zI (-(sBit (Sline i_8)) - 1) := by
      exact z_not (by omega)
    refine lv_ixor hx hb dX5_openAt_29 ?_
    rw [hbit_34]
    clear hbit_34
    refine lv_aload_n hx hb dX5_openAt_30 rfl (lv_at hl 0 rfl) ?_
    refine va_get (D := D) (ci := 5) (v := .ref (oS 3)) (C := RX5) (T := TX5) (N := 8) hx hb hts hinX5 hown hK hw.1 6 rfl rfl 3 (by decide) (hts (.fieldLink RX5 18 "CarnivalRoad$Search" "barred" "[I") (by decide +kernel)) (fun _ h9 => h9) rfl dX5_openAt_31 ?_
    refine lv_iload_n hx hb dX5_openAt_34 rfl (lv_at hl 1 rfl) ?_
    refine lv_iload_n hx hb dX5_openAt_35 rfl (lv_at hl 3 rfl) ?_
    refine z_isub hx hb dX5_openAt_36 ?_
    refine z_bipush hx hb dX5_openAt_37 (by decide) ?_
    refine z_imul hx hb dX5_openAt_39 ?_
    refine lv_aload_n hx hb dX5_openAt_40 rfl (lv_at hl 0 rfl) ?_
    refine va_get (D := D) (ci := 5) (v := .ref (oS 1)) (C := RX5) (T := TX5) (N := 8) hx hb hts hinX5 hown hK hw.1 6 rfl rfl 1 (by decide) (hts (.fieldLink RX5 9 "CarnivalRoad$Search" "line" "[I") (by decide +kernel)) (fun _ h9 => h9) rfl dX5_openAt_41 ?_
    refine lv_iload_n hx hb dX5_openAt_44 rfl (lv_at hl 3 rfl) ?_
    have hi_35 : (0 : Int) ≤ i_8 ∧ i_8 < ((8 : Nat) : Int) := by
      first | assumption | omega | grind
    refine z_iald (n := 8) (f := Sline) hx hb hK hw 7 rfl (by decide) hi_35 dX5_openAt_45 ?_
    have hq_36 : 0 ≤ Sline i_8 ∧ Sline i_8 ≤ 7 := qSline i_8
    refine z_iadd hx hb dX5_openAt_46 ?_
    have hi_37 : (0 : Int) ≤ (((p - i_8) * 8) + (Sline i_8)) ∧ (((p - i_8) * 8) + (Sline i_8)) < ((64 : Nat) : Int) := by
      first | assumption | omega | grind
    refine z_iald (n := 64) (f := Sbarred) hx hb hK hw 9 rfl (by decide) hi_37 dX5_openAt_47 ?_
    have hq_38 : 0 ≤ Sbarred (((p - i_8) * 8) + (Sline i_8)) ∧ Sbarred (((p - i_8) * 8) + (Sline i_8)) ≤ 255 := qSbarred (((p - i_8) * 8) + (Sline i_8))
    refine z_iconst hx hb dX5_openAt_48 ?_
    have hbit_39 : zI (Sbarred (((p - i_8) * 8) + (Sline i_8))) ^^^ zI (-1) = zI (-(Sbarred (((p - i_8) * 8) + (Sline i_8))) - 1) := by
      exact z_not (by omega)
    refine lv_ixor hx hb dX5_openAt_49 ?_
    rw [hbit_39]
    clear hbit_39
    have hbit_40 : zI (-(sBit (Sline i_8)) - 1) &&& zI (-(Sbarred (((p - i_8) * 8) + (Sline i_8))) - 1) = zI (-(sOr (sBit (Sline i_8)) (Sbarred (((p - i_8) * 8) + (Sline i_8)))) - 1) := by
      exact z_nn (by omega) (by omega)
    refine lv_iand hx hb dX5_openAt_50 ?_
    rw [hbit_40]
    clear hbit_40
    have hq_41 : 0 ≤ sOr (sBit (Sline i_8)) (Sbarred (((p - i_8) * 8) + (Sline i_8))) ∧ sOr (sBit (Sline i_8)) (Sbarred (((p - i_8) * 8) + (Sline i_8))) ≤ 255 := by
      exact sOr_r (by omega) (by omega)
    have hbit_42 : zI set_7 &&& zI (-(sOr (sBit (Sline i_8)) (Sbarred (((p - i_8) * 8) + (Sline i_8)))) - 1) = zI (sDif set_7 (sOr (sBit (Sline i_8)) (Sbarred (((p - i_8) * 8) + (Sline i_8))))) := by
      exact z_dn (by omega) (by omega)
    refine lv_iand hx hb dX5_openAt_51 ?_
    rw [hbit_42]
    clear hbit_42
    have hq_43 : 0 ≤ (sDif set_7 (sOr (sBit (Sline i_8)) (Sbarred (((p - i_8) * 8) + (Sline i_8))))) ∧ (sDif set_7 (sOr (sBit (Sline i_8)) (Sbarred (((p - i_8) * 8) + (Sline i_8))))) ≤ 255 := by
      exact sDif_r (by omega) (by omega)
    refine lv_istore_n (lv' := [(2, .int (zI (sDif set_7 (sOr (sBit (Sline i_8)) (Sbarred (((p - i_8) * 8) + (Sline i_8))))))), (0, .ref (oS 0)), (1, .int (zI p)), (3, .int (zI i_8))]) hx hb dX5_openAt_52 rfl hl (by decide) rfl (fun ls hl => ?_)
    refine z_iinc (k := 3) (lv' := [(3, .int (zI (i_8 + 1))), (2, .int (zI (sDif set_7 (sOr (sBit (Sline i_8)) (Sbarred (((p - i_8) * 8) + (Sline i_8))))))), (0, .ref (oS 0)), (1, .int (zI p))]) hx hb dX5_openAt_53 hl rfl (by decide) rfl (fun ls hl => ?_)
    refine lv_goto (tgt := 14) hx hb dX5_openAt_56 (by decide) ?_
    have hv_44 : 0 ≤ (i_8 + 1) ∧ (i_8 + 1) ≤ p := by
      first | assumption | omega | grind
    have hv_45 : 0 ≤ (sDif set_7 (sOr (sBit (Sline i_8)) (Sbarred (((p - i_8) * 8) + (Sline i_8))))) ∧ (sDif set_7 (sOr (sBit (Sline i_8)) (Sbarred (((p - i_8) * 8) + (Sline i_8))))) ≤ 255 := by
      first | assumption | omega | grind
    have hv_46 : ∀ j, 0 ≤ j → j ≤ 7 → (mb (sDif set_7 (sOr (sBit (Sline i_8)) (Sbarred (((p - i_8) * 8) + (Sline i_8))))) j ↔ j < Gn ∧ ∀ k, 0 ≤ k → k < (i_8 + 1) → ¬ j = Sline k ∧ ¬ mb (Sbarred ((p - k) * 8 + Sline k)) j) := by
      exact op_next (by assumption) (by omega) (by omega)
    have hm_47 : (8 - (i_8 + 1)).toNat < (8 - i_8).toNat := by
      first | assumption | omega | grind
    exact ih_6 ((sDif set_7 (sOr (sBit (Sline i_8)) (Sbarred (((p - i_8) * 8) + (Sline i_8))))), (i_8 + 1)) _ _ _ ⟨hv_44, hv_45, hv_46, hw, lv_sub hl [2, 3, 1, 0] rfl⟩ hm_47
set_option maxRecDepth 100000 in
set_option maxHeartbeats 4000000 in
theorem c_X5_start (l : Launch) (D : va_G) (cI cB cZ : ClassId) (oG : Nat → Nat) (oB : Nat → Nat) (oS : Nat → Nat) (sz : Nat) (Gn : Int) (Gki : Int → Int) (Gle : Int → Int) (Glo : Int → Int) (Gta : Int → Int) (Gsh : Int → Int) (Bcnt : Int) (Bwo : Int → Int) (Bon : Int → Int) (Btw : Int → Int) (Bnu : Int → Int) (Sline : Int → Int) (Sopn : Int → Int) (Sbarred : Int → Int) (Smf : Int) (Sml : Int) (Sdep : Int) (Ser : Int) (qGn : 0 ≤ Gn ∧ Gn ≤ 8) (qGki : RA Gki (0) 4) (qGle : RA Gle (0) 5) (qGlo : RA Glo (0) 9) (qGta : RA Gta (0) 9) (qGsh : RA Gsh (0) 9) (qBcnt : 0 ≤ Bcnt ∧ Bcnt ≤ 10) (qBwo : RA Bwo (0) 11) (qBon : RA Bon (0) 12) (qBtw : RA Btw (0) 12) (qBnu : RA Bnu (0) 18) (qSline : RA Sline (0) 7) (qSopn : RA Sopn (0) 255) (qSbarred : RA Sbarred (0) 255) (qSmf : 0 ≤ Smf ∧ Smf ≤ 255) (qSml : 0 ≤ Sml ∧ Sml ≤ 255) (qSdep : -1 ≤ Sdep ∧ Sdep ≤ 7) (qSer : 0 ≤ Ser ∧ Ser ≤ 1) : Met l yX5_start wsX5_start ({ frames := 4, cells := 0, slots := 0, locals := 95 }) (va_Pc [.ref (oS 0), .ref (oB 0)] (zPre D cI cB cZ sz (kG cI cB cZ oG Gn Gki Gle Glo Gta Gsh ++ kB cI cB cZ oB (oG 0) Bcnt Bwo Bon Btw Bnu ++ kS cI cB cZ oS (oG 0) Sline Sopn Sbarred Smf Sml Sdep Ser))) (va_Qv (fun (u9 : (Int → Int) × (Int → Int) × Int × Int × Int × Int) => (RA u9.1 (0) 255) ∧ (RA u9.2.1 (0) 255) ∧ ((0 : Int) ≤ u9.2.2.1 ∧ u9.2.2.1 ≤ 255) ∧ ((0 : Int) ≤ u9.2.2.2.1 ∧ u9.2.2.2.1 ≤ 255) ∧ ((-1 : Int) ≤ u9.2.2.2.2.1 ∧ u9.2.2.2.2.1 ≤ 7) ∧ ((0 : Int) ≤ u9.2.2.2.2.2 ∧ u9.2.2.2.2.2 ≤ 1) ∧ (srP (okc Gki Glo Gsh Bwo Bon Btw Bnu Bcnt Gn) Gn Sline u9.1 u9.2.1 u9.2.2.1 u9.2.2.2.1 u9.2.2.2.2.1 u9.2.2.2.2.2 (rowsC Gki Glo Gsh Bwo Bon Btw Bnu Bcnt Gn))) (fun u9 t9 => zAt D cI cB cZ (va_A (kG cI cB cZ oG Gn Gki Gle Glo Gta Gsh ++ kB cI cB cZ oB (oG 0) Bcnt Bwo Bon Btw Bnu ++ kS cI cB cZ oS (oG 0) Sline Sopn Sbarred Smf Sml Sdep Ser) sz) (kG cI cB cZ oG Gn Gki Gle Glo Gta Gsh ++ kB cI cB cZ oB (oG 0) Bcnt Bwo Bon Btw Bnu ++ kS cI cB cZ oS (oG 0) Sline (u9.1) (u9.2.1) (u9.2.2.1) (u9.2.2.2.1) (u9.2.2.2.2.1) (u9.2.2.2.2.2)) t9) (va_A (kG cI cB cZ oG Gn Gki Gle Glo Gta Gsh ++ kB cI cB cZ oB (oG 0) Bcnt Bwo Bon Btw Bnu ++ kS cI cB cZ oS (oG 0) Sline Sopn Sbarred Smf Sml Sdep Ser) sz)) 0 0 (va_A (kG cI cB cZ oG Gn Gki Gle Glo Gta Gsh ++ kB cI cB cZ oB (oG 0) Bcnt Bwo Bon Btw Bnu ++ kS cI cB cZ oS (oG 0) Sline Sopn Sbarred Smf Sml Sdep Ser) sz) := by
  refine Met.ofW (cc := cX5_start) (maxL := 4) (ret := none) (by decide) rfl ?_
  intro pp ee s mm aa bw mt cd s₁ BL hml hv
  obtain ⟨rfl, hsz, hP, hK, hD0⟩ := hv
  have hx := BL.exec
  have hb := BL.bytes
  have hr := BL.returns
  have hts := atoms_spec (ws := wsX5_start) BL.pre
  have hown : s.vm.findClass RX5 = some mm.cls := findClass_of_methodNamed BL.named
  have hlocks := BL.notSynchronized
  subst hsz
  generalize hAe : va_A (kG cI cB cZ oG Gn Gki Gle Glo Gta Gsh ++ kB cI cB cZ oB (oG 0) Bcnt Bwo Bon Btw Bnu ++ kS cI cB cZ oS (oG 0) Sline Sopn Sbarred Smf Sml Sdep Ser) s.heap.size = A
  have hA : ∀ q : Nat, s.heap.size ≤ q → A q := fun q h => by rw [← hAe]; exact Or.inr h
  have hw : HW D A s.heap (kG cI cB cZ oG Gn Gki Gle Glo Gta Gsh ++ kB cI cB cZ oB (oG 0) Bcnt Bwo Bon Btw Bnu ++ kS cI cB cZ oS (oG 0) Sline Sopn Sbarred Smf Sml Sdep Ser) s.heap [] := z_start hAe hP hD0
  clear hP hD0
  have hl := lv_entry ([.ref (oS 0), .ref (oB 0)]) (n := 4) (Nat.le_of_ble_eq_true rfl)
  rw [lg_entry_eq]
  generalize (lg_sl ([.ref (oS 0), .ref (oB 0)]) ++ List.replicate (4 - (lg_sl ([.ref (oS 0), .ref (oB 0)])).length) Slot.unset).toArray = ls at hl ⊢
  have hl : lv_has ls 4 [(0, .ref (oS 0)), (1, .ref (oB 0))] := hl
  have hinX2 : ∀ w ∈ wsX20, w ∈ wsX5_start := by decide +kernel
  have hinX5 : ∀ w ∈ wsX50, w ∈ wsX5_start := by decide +kernel
  refine lv_aload_n hx hb dX5_start_0 rfl (lv_at hl 0 rfl) ?_
  refine z_iconst hx hb dX5_start_1 ?_
  refine z_put (D := D) (ci := 5) (v := .int (zI 0)) (ty := .int) (C := RX5) (T := TX5) (N := 8) (ws2 := kG cI cB cZ oG Gn Gki Gle Glo Gta Gsh ++ kB cI cB cZ oB (oG 0) Bcnt Bwo Bon Btw Bnu ++ kS cI cB cZ oS (oG 0) Sline Sopn Sbarred 0 Sml Sdep Ser) hx hb hts hinX5 tyX5 tyX5_ok nmX5 hown hK hw 11 rfl rfl 4 (by decide) (hts (.fieldLink RX5 21 "CarnivalRoad$Search" "mayBeFirst" "I") (by decide +kernel)) (fun _ h9 => h9) rfl (by decide +kernel) rfl rfl (Nat.le_of_ble_eq_true rfl) dX5_start_2 rfl (fun H locs hw => ?_)
  refine lv_aload_n hx hb dX5_start_5 rfl (lv_at hl 0 rfl) ?_
  refine z_iconst hx hb dX5_start_6 ?_
  refine z_put (D := D) (ci := 5) (v := .int (zI 0)) (ty := .int) (C := RX5) (T := TX5) (N := 8) (ws2 := kG cI cB cZ oG Gn Gki Gle Glo Gta Gsh ++ kB cI cB cZ oB (oG 0) Bcnt Bwo Bon Btw Bnu ++ kS cI cB cZ oS (oG 0) Sline Sopn Sbarred 0 0 Sdep Ser) hx hb hts hinX5 tyX5 tyX5_ok nmX5 hown hK hw 11 rfl rfl 5 (by decide) (hts (.fieldLink RX5 25 "CarnivalRoad$Search" "mayBeLast" "I") (by decide +kernel)) (fun _ h9 => h9) rfl (by decide +kernel) rfl rfl (Nat.le_of_ble_eq_true rfl) dX5_start_7 rfl (fun H locs hw => ?_)
  refine z_iconst hx hb dX5_start_10 ?_
  refine lv_istore_n (lv' := [(2, .int (zI 0)), (0, .ref (oS 0)), (1, .ref (oB 0))]) hx hb dX5_start_11 rfl hl (by decide) rfl (fun ls hl => ?_)
  have hv_1 : (0 : Int) ≤ (0 : Int) ∧ (0 : Int) ≤ 255 := by
    first | assumption | omega | grind
  have hv_2 : (0 : Int) ≤ (0 : Int) ∧ (0 : Int) ≤ 255 := by
    first | assumption | omega | grind
  have hv_3 : 0 ≤ (0 : Int) ∧ (0 : Int) ≤ Gn := by
    first | assumption | omega | grind
  have hv_4 : ∀ j, 0 ≤ j → j ≤ 7 → (mb (0 : Int) j ↔ j < (0 : Int) ∧ mayE Gki Bwo Bon Bcnt 3 j) := by
    exact bb_0 (P := (fun j => mayE Gki Bwo Bon Bcnt 3 j))
  have hv_5 : ∀ j, 0 ≤ j → j ≤ 7 → (mb (0 : Int) j ↔ j < (0 : Int) ∧ mayE Gki Bwo Bon Bcnt 4 j) := by
    exact bb_0 (P := (fun j => mayE Gki Bwo Bon Bcnt 4 j))
  have hv_6 : ∀ e, 1 ≤ e → e < Gn → ∀ a, 0 ≤ a → a < (0 : Int) → ∀ j, 0 ≤ j → j ≤ 7 → (mb (Sbarred (e * 8 + a)) j ↔ j < Gn ∧ ¬ j = a ∧ anyB Gki Glo Gsh Bwo Bon Btw Bnu Bcnt a j e) := by
    intro e e1 e2 a a0 a1; omega
  refine z_loop (σ := Int × Int × Int × (Int → Int)) (μ := fun x9 => (9 - (x9.1)).toNat) (I := fun x9 H locs ls => ((0 : Int) ≤ (x9.2.1) ∧ (x9.2.1) ≤ 255) ∧ ((0 : Int) ≤ (x9.2.2.1) ∧ (x9.2.2.1) ≤ 255) ∧ (RA (x9.2.2.2) (0) 255) ∧ (0 ≤ (x9.1) ∧ (x9.1) ≤ Gn) ∧ (∀ j, 0 ≤ j → j ≤ 7 → (mb (x9.2.1) j ↔ j < (x9.1) ∧ mayE Gki Bwo Bon Bcnt 3 j)) ∧ (∀ j, 0 ≤ j → j ≤ 7 → (mb (x9.2.2.1) j ↔ j < (x9.1) ∧ mayE Gki Bwo Bon Bcnt 4 j)) ∧ (∀ e, 1 ≤ e → e < Gn → ∀ a, 0 ≤ a → a < (x9.1) → ∀ j, 0 ≤ j → j ≤ 7 → (mb ((x9.2.2.2) (e * 8 + a)) j ↔ j < Gn ∧ ¬ j = a ∧ anyB Gki Glo Gsh Bwo Bon Btw Bnu Bcnt a j e)) ∧ HW D A s.heap (kG cI cB cZ oG Gn Gki Gle Glo Gta Gsh ++ kB cI cB cZ oB (oG 0) Bcnt Bwo Bon Btw Bnu ++ kS cI cB cZ oS (oG 0) Sline Sopn (x9.2.2.2) (x9.2.1) (x9.2.2.1) Sdep Ser) H locs ∧ lv_has ls 4 [(0, .ref (oS 0)), (1, .ref (oB 0)), (2, .int (zI (x9.1)))]) (0, 0, 0, Sbarred) ⟨hv_1, hv_2, qSbarred, hv_3, hv_4, hv_5, hv_6, hw, lv_sub hl [1, 2, 0] rfl⟩ ?_
  clear hw hl
  intro x9 H locs ls hI ih_7
  obtain ⟨g_8, Smf_9, Sml_10, Sbarred_11⟩ := x9
  try dsimp only at hI
  obtain ⟨hq_12, hq_13, hR_14, hI_15, hI_16, hI_17, hI_18, hw, hl⟩ := hI
  refine lv_iload_n hx hb dX5_start_12 rfl (lv_at hl 2 rfl) ?_
  refine lv_aload_n hx hb dX5_start_13 rfl (lv_at hl 0 rfl) ?_
  refine va_get (D := D) (ci := 5) (v := .ref (oG 0)) (C := RX5) (T := TX5) (N := 8) hx hb hts hinX5 hown hK hw.1 11 rfl rfl 0 (by decide) (hts (.fieldLink RX5 35 "CarnivalRoad$Search" "guests" "LCarnivalRoad$Guests;") (by decide +kernel)) (fun _ h9 => h9) rfl dX5_start_14 ?_
  refine va_get (D := D) (ci := 2) (v := .int (zI Gn)) (C := RX2) (T := TX2) (N := 6) hx hb hts hinX2 hown hK hw.1 0 rfl rfl 0 (by decide) (hts (.fieldLink RX5 39 "CarnivalRoad$Guests" "count" "I") (by decide +kernel)) (fun _ h9 => h9) rfl dX5_start_17 ?_
  refine z_icmp_ge (tgt := 116) hx hb dX5_start_20 (by decide) (by omega) (fun hc_19 => ?_) (fun hc_19 => ?_)
  · skip
    refine lv_aload_n hx hb dX5_start_116 rfl (lv_at hl 0 rfl) ?_
    refine z_iconst hx hb dX5_start_117 ?_
    refine z_put (D := D) (ci := 5) (v := .int (zI 0)) (ty := .int) (C := RX5) (T := TX5) (N := 8) (ws2 := kG cI cB cZ oG Gn Gki Gle Glo Gta Gsh ++ kB cI cB cZ oB (oG 0) Bcnt Bwo Bon Btw Bnu ++ kS cI cB cZ oS (oG 0) Sline Sopn Sbarred_11 Smf_9 Sml_10 0 Ser) hx hb hts hinX5 tyX5 tyX5_ok nmX5 hown hK hw 11 rfl rfl 6 (by decide) (hts (.fieldLink RX5 28 "CarnivalRoad$Search" "depth" "I") (by decide +kernel)) (fun _ h9 => h9) rfl (by decide +kernel) rfl rfl (Nat.le_of_ble_eq_true rfl) dX5_start_118 rfl (fun H locs hw => ?_)
    refine lv_aload_n hx hb dX5_start_121 rfl (lv_at hl 0 rfl) ?_
    refine va_get (D := D) (ci := 5) (v := .ref (oS 2)) (C := RX5) (T := TX5) (N := 8) hx hb hts hinX5 hown hK hw.1 11 rfl rfl 2 (by decide) (hts (.fieldLink RX5 15 "CarnivalRoad$Search" "open" "[I") (by decide +kernel)) (fun _ h9 => h9) rfl dX5_start_122 ?_
    refine z_iconst hx hb dX5_start_125 ?_
    refine lv_aload_n hx hb dX5_start_126 rfl (lv_at hl 0 rfl) ?_
    refine z_iconst hx hb dX5_start_127 ?_
    have hF9 := z_free (wc := kG cI cB cZ oG Gn Gki Gle Glo Gta Gsh ++ kS cI cB cZ oS (oG 0) Sline Sopn Sbarred_11 Smf_9 Sml_10 0 Ser) hw hA [0, 1, 2, 3, 4, 5, 11, 12, 13, 14] rfl
    refine va_calli (va_runV (As := [.int (zI 0)]) (rest := [.int (zI 0), .ref (oS 2)]) ⟨hx, hb, hml, hown, hts⟩ (c_X5_openAt l D cI cB cZ oG oS H.size Gn Gki Gle Glo Gta Gsh Sline Sopn Sbarred_11 Smf_9 Sml_10 0 Ser 0 (by omega) qGki qGle qGlo qGta qGsh qSline qSopn hR_14 (by omega) (by omega) (by omega) (by omega) (by omega)) (cwV 1 hts gX5_start_X5_openAt rfl rfl rfl (by decide +kernel) ⟨Nat.le_of_ble_eq_true rfl, Nat.le_of_ble_eq_true rfl⟩) ⟨zPre_blind, va_recv hK hw.1 (ci := 5) (q0 := 11) rfl rfl, z_pre hK hw [0, 1, 2, 3, 4, 5, 11, 12, 13, 14] (by decide) rfl⟩ rfl rfl hl.1 rfl (lv_room (Nat.le_of_ble_eq_true rfl)) dX5_start_128 ⟨Nat.zero_le _, Nat.zero_le _⟩) hw.2.2 (fun q _ h => hF9 q h) hF9 (fun r9 u9 t9 H_20 locs9 ht9 hvm9 hq9 hB9 hz9 hk9 hS9 => ?_)
    obtain ⟨r_21, rfl⟩ : ∃ z, z = u9 := ⟨_, rfl⟩
    try dsimp only at hq9 hB9
    obtain ⟨rfl, hq9⟩ := hq9
    obtain ⟨hq_22, hq_23⟩ := hq9
    have hw : HW D A s.heap (kG cI cB cZ oG Gn Gki Gle Glo Gta Gsh ++ kB cI cB cZ oB (oG 0) Bcnt Bwo Bon Btw Bnu ++ kS cI cB cZ oS (oG 0) Sline Sopn Sbarred_11 Smf_9 Sml_10 0 Ser) H_20 locs9 := z_after (wc := kG cI cB cZ oG Gn Gki Gle Glo Gta Gsh ++ kS cI cB cZ oS (oG 0) Sline Sopn Sbarred_11 Smf_9 Sml_10 0 Ser) hw [0, 1, 2, 3, 4, 5, 11, 12, 13, 14] [6, 7, 8, 9, 10] rfl rfl (by decide) (by decide) hF9 hk9 ht9 hB9 hS9 [5, 6, 7, 8, 9, 10, 0, 1, 2, 3, 4, 11, 12, 13, 14] (by decide) rfl
    clear hF9 ht9 hvm9 hB9 hz9 hk9 hS9
    have hi_24 : (0 : Int) ≤ (0 : Int) ∧ (0 : Int) < ((8 : Nat) : Int) := by
      first | assumption | omega | grind
    have hv_25 : (0 : Int) ≤ r_21 ∧ r_21 ≤ 255 := by
      first | assumption | omega | grind
    have hR_26 : RA (uZ Sopn 0 r_21) (0) 255 := RA_up qSopn hv_25
    refine z_iast (n := 8) (f := Sopn) (ws2 := kG cI cB cZ oG Gn Gki Gle Glo Gta Gsh ++ kB cI cB cZ oB (oG 0) Bcnt Bwo Bon Btw Bnu ++ kS cI cB cZ oS (oG 0) Sline (uZ Sopn 0 r_21) Sbarred_11 Smf_9 Sml_10 0 Ser) hx hb hK hw 13 rfl (by decide) hi_24 dX5_start_131 rfl (fun H locs hw => ?_)
    refine lv_aload_n hx hb dX5_start_132 rfl (lv_at hl 0 rfl) ?_
    refine lv_aload_n hx hb dX5_start_133 rfl (lv_at hl 0 rfl) ?_
    refine va_get (D := D) (ci := 5) (v := .ref (oG 0)) (C := RX5) (T := TX5) (N := 8) hx hb hts hinX5 hown hK hw.1 11 rfl rfl 0 (by decide) (hts (.fieldLink RX5 35 "CarnivalRoad$Search" "guests" "LCarnivalRoad$Guests;") (by decide +kernel)) (fun _ h9 => h9) rfl dX5_start_134 ?_
    refine va_get (D := D) (ci := 2) (v := .int (zI Gn)) (C := RX2) (T := TX2) (N := 6) hx hb hts hinX2 hown hK hw.1 0 rfl rfl 0 (by decide) (hts (.fieldLink RX5 39 "CarnivalRoad$Guests" "count" "I") (by decide +kernel)) (fun _ h9 => h9) rfl dX5_start_137 ?_
    refine z_if_ne (tgt := 163) hx hb dX5_start_140 (by decide) (by omega) (fun hc_27 => ?_) (fun hc_27 => ?_)
    · skip
      refine z_iconst hx hb dX5_start_163 ?_
      refine z_put (D := D) (ci := 5) (v := .int (zI 0)) (ty := .boolean) (C := RX5) (T := TX5) (N := 8) (ws2 := kG cI cB cZ oG Gn Gki Gle Glo Gta Gsh ++ kB cI cB cZ oB (oG 0) Bcnt Bwo Bon Btw Bnu ++ kS cI cB cZ oS (oG 0) Sline (uZ Sopn 0 r_21) Sbarred_11 Smf_9 Sml_10 0 0) hx hb hts hinX5 tyX5 tyX5_ok nmX5 hown hK hw 11 rfl rfl 7 (by decide) (hts (.fieldLink RX5 31 "CarnivalRoad$Search" "emptyRowLeft" "Z") (by decide +kernel)) (fun _ h9 => h9) rfl (by decide +kernel) rfl rfl (Nat.le_of_ble_eq_true rfl) dX5_start_164 rfl (fun H locs hw => ?_)
      have hv_28 : (0 : Int) ≤ Smf_9 ∧ Smf_9 ≤ 255 := by
        first | assumption | omega | grind
      have hv_29 : (0 : Int) ≤ Sml_10 ∧ Sml_10 ≤ 255 := by
        first | assumption | omega | grind
      have hv_30 : (-1 : Int) ≤ (0 : Int) ∧ (0 : Int) ≤ 7 := by
        first | assumption | omega | grind
      have hv_31 : (0 : Int) ≤ (0 : Int) ∧ (0 : Int) ≤ 1 := by
        first | assumption | omega | grind
      have hv_32 : srP (okc Gki Glo Gsh Bwo Bon Btw Bnu Bcnt Gn) Gn Sline (uZ Sopn 0 r_21) Sbarred_11 Smf_9 Sml_10 (0 : Int) (0 : Int) (rowsC Gki Glo Gsh Bwo Bon Btw Bnu Bcnt Gn) := by
        exact sr_start (by omega) ⟨fun e e1 e2 a a0 a1 => (by assumption : ∀ e, 1 ≤ e → e < Gn → ∀ a, 0 ≤ a → a < g_8 → ∀ j, 0 ≤ j → j ≤ 7 → (mb (Sbarred_11 (e * 8 + a)) j ↔ j < Gn ∧ ¬ j = a ∧ anyB Gki Glo Gsh Bwo Bon Btw Bnu Bcnt a j e)) e e1 e2 a a0 (by omega), bb_end (by assumption) (by omega), bb_end (by assumption) (by omega)⟩ (by assumption) (by grind)
      exact W.vret hx hb hr (fun t9 ht hW => ⟨⟨((uZ Sopn 0 r_21), Sbarred_11, Smf_9, Sml_10, 0, 0), rfl, ⟨hR_26, hR_14, hv_28, hv_29, hv_30, hv_31, hv_32⟩, by subst hAe; exact z_end hK hw ht hW⟩, by subst hAe; exact hw.2.2.F ht⟩) (by subst hAe; exact hw.2.2.2.2) dX5_start_167
    · skip
      refine lv_aload_n hx hb dX5_start_143 rfl (lv_at hl 1 rfl) ?_
      refine z_iconst hx hb dX5_start_144 ?_
      have hF9 := z_free (wc := kB cI cB cZ oB (oG 0) Bcnt Bwo Bon Btw Bnu) hw hA [6, 7, 8, 9, 10] rfl
      refine va_calli (va_runV (As := [.int (zI 3)]) (rest := [.ref (oS 0)]) ⟨hx, hb, hml, hown, hts⟩ (c_X0_hasWord l D cI cB cZ oB (oG 0) H.size Bcnt Bwo Bon Btw Bnu 3 (by omega) qBwo qBon qBtw qBnu (by omega)) (cwV 1 hts gX5_start_X0_hasWord rfl rfl rfl (by decide +kernel) ⟨Nat.le_of_ble_eq_true rfl, Nat.le_of_ble_eq_true rfl⟩) ⟨zPre_blind, va_recv hK hw.1 (ci := 0) (q0 := 6) rfl rfl, z_pre hK hw [6, 7, 8, 9, 10] (by decide) rfl⟩ rfl rfl hl.1 rfl (lv_room (Nat.le_of_ble_eq_true rfl)) dX5_start_145 ⟨Nat.zero_le _, Nat.zero_le _⟩) hw.2.2 (fun q _ h => hF9 q h) hF9 (fun r9 u9 t9 H_33 locs9 ht9 hvm9 hq9 hB9 hz9 hk9 hS9 => ?_)
      obtain ⟨r_34, rfl⟩ : ∃ z, z = u9 := ⟨_, rfl⟩
      try dsimp only at hq9 hB9
      obtain ⟨rfl, hq9⟩ := hq9
      have hq_35 := hq9
      have hw : HW D A s.heap (kG cI cB cZ oG Gn Gki Gle Glo Gta Gsh ++ kB cI cB cZ oB (oG 0) Bcnt Bwo Bon Btw Bnu ++ kS cI cB cZ oS (oG 0) Sline (uZ Sopn 0 r_21) Sbarred_11 Smf_9 Sml_10 0 Ser) H_33 locs9 := z_after (wc := kB cI cB cZ oB (oG 0) Bcnt Bwo Bon Btw Bnu) hw [6, 7, 8, 9, 10] [0, 1, 2, 3, 4, 5, 11, 12, 13, 14] rfl rfl (by decide) (by decide) hF9 hk9 ht9 hB9 hS9 [0, 1, 2, 3, 4, 5, 10, 11, 12, 13, 14, 6, 7, 8, 9] (by decide) rfl
      clear hF9 ht9 hvm9 hB9 hz9 hk9 hS9 hq9
      rcases hq_35 with ⟨hc_36, rfl⟩ | ⟨hc_36, rfl⟩
      · skip
        refine z_if_ne (tgt := 163) hx hb dX5_start_148 (by decide) (by omega) (fun hc_37 => ?_) (fun hc_37 => absurd hc_37 (by omega))
        refine z_iconst hx hb dX5_start_163 ?_
        refine z_put (D := D) (ci := 5) (v := .int (zI 0)) (ty := .boolean) (C := RX5) (T := TX5) (N := 8) (ws2 := kG cI cB cZ oG Gn Gki Gle Glo Gta Gsh ++ kB cI cB cZ oB (oG 0) Bcnt Bwo Bon Btw Bnu ++ kS cI cB cZ oS (oG 0) Sline (uZ Sopn 0 r_21) Sbarred_11 Smf_9 Sml_10 0 0) hx hb hts hinX5 tyX5 tyX5_ok nmX5 hown hK hw 11 rfl rfl 7 (by decide) (hts (.fieldLink RX5 31 "CarnivalRoad$Search" "emptyRowLeft" "Z") (by decide +kernel)) (fun _ h9 => h9) rfl (by decide +kernel) rfl rfl (Nat.le_of_ble_eq_true rfl) dX5_start_164 rfl (fun H locs hw => ?_)
        have hv_38 : (0 : Int) ≤ Smf_9 ∧ Smf_9 ≤ 255 := by
          first | assumption | omega | grind
        have hv_39 : (0 : Int) ≤ Sml_10 ∧ Sml_10 ≤ 255 := by
          first | assumption | omega | grind
        have hv_40 : (-1 : Int) ≤ (0 : Int) ∧ (0 : Int) ≤ 7 := by
          first | assumption | omega | grind
        have hv_41 : (0 : Int) ≤ (0 : Int) ∧ (0 : Int) ≤ 1 := by
          first | assumption | omega | grind
        have hv_42 : srP (okc Gki Glo Gsh Bwo Bon Btw Bnu Bcnt Gn) Gn Sline (uZ Sopn 0 r_21) Sbarred_11 Smf_9 Sml_10 (0 : Int) (0 : Int) (rowsC Gki Glo Gsh Bwo Bon Btw Bnu Bcnt Gn) := by
          exact sr_start (by omega) ⟨fun e e1 e2 a a0 a1 => (by assumption : ∀ e, 1 ≤ e → e < Gn → ∀ a, 0 ≤ a → a < g_8 → ∀ j, 0 ≤ j → j ≤ 7 → (mb (Sbarred_11 (e * 8 + a)) j ↔ j < Gn ∧ ¬ j = a ∧ anyB Gki Glo Gsh Bwo Bon Btw Bnu Bcnt a j e)) e e1 e2 a a0 (by omega), bb_end (by assumption) (by omega), bb_end (by assumption) (by omega)⟩ (by assumption) (by grind)
        exact W.vret hx hb hr (fun t9 ht hW => ⟨⟨((uZ Sopn 0 r_21), Sbarred_11, Smf_9, Sml_10, 0, 0), rfl, ⟨hR_26, hR_14, hv_38, hv_39, hv_40, hv_41, hv_42⟩, by subst hAe; exact z_end hK hw ht hW⟩, by subst hAe; exact hw.2.2.F ht⟩) (by subst hAe; exact hw.2.2.2.2) dX5_start_167
      · skip
        refine z_if_ne (tgt := 163) hx hb dX5_start_148 (by decide) (by omega) (fun hc_43 => absurd hc_43 (by omega)) (fun hc_43 => ?_)
        refine lv_aload_n hx hb dX5_start_151 rfl (lv_at hl 1 rfl) ?_
        refine z_iconst hx hb dX5_start_152 ?_
        have hF9 := z_free (wc := kB cI cB cZ oB (oG 0) Bcnt Bwo Bon Btw Bnu) hw hA [6, 7, 8, 9, 10] rfl
        refine va_calli (va_runV (As := [.int (zI 4)]) (rest := [.ref (oS 0)]) ⟨hx, hb, hml, hown, hts⟩ (c_X0_hasWord l D cI cB cZ oB (oG 0) H_33.size Bcnt Bwo Bon Btw Bnu 4 (by omega) qBwo qBon qBtw qBnu (by omega)) (cwV 1 hts gX5_start_X0_hasWord rfl rfl rfl (by decide +kernel) ⟨Nat.le_of_ble_eq_true rfl, Nat.le_of_ble_eq_true rfl⟩) ⟨zPre_blind, va_recv hK hw.1 (ci := 0) (q0 := 6) rfl rfl, z_pre hK hw [6, 7, 8, 9, 10] (by decide) rfl⟩ rfl rfl hl.1 rfl (lv_room (Nat.le_of_ble_eq_true rfl)) dX5_start_153 ⟨Nat.zero_le _, Nat.zero_le _⟩) hw.2.2 (fun q _ h => hF9 q h) hF9 (fun r9 u9 t9 H_44 locs9 ht9 hvm9 hq9 hB9 hz9 hk9 hS9 => ?_)
        obtain ⟨r_45, rfl⟩ : ∃ z, z = u9 := ⟨_, rfl⟩
        try dsimp only at hq9 hB9
        obtain ⟨rfl, hq9⟩ := hq9
        have hq_46 := hq9
        have hw : HW D A s.heap (kG cI cB cZ oG Gn Gki Gle Glo Gta Gsh ++ kB cI cB cZ oB (oG 0) Bcnt Bwo Bon Btw Bnu ++ kS cI cB cZ oS (oG 0) Sline (uZ Sopn 0 r_21) Sbarred_11 Smf_9 Sml_10 0 Ser) H_44 locs9 := z_after (wc := kB cI cB cZ oB (oG 0) Bcnt Bwo Bon Btw Bnu) hw [6, 7, 8, 9, 10] [0, 1, 2, 3, 4, 5, 11, 12, 13, 14] rfl rfl (by decide) (by decide) hF9 hk9 ht9 hB9 hS9 [0, 1, 2, 3, 4, 5, 10, 11, 12, 13, 14, 6, 7, 8, 9] (by decide) rfl
        clear hF9 ht9 hvm9 hB9 hz9 hk9 hS9 hq9
        rcases hq_46 with ⟨hc_47, rfl⟩ | ⟨hc_47, rfl⟩
        · skip
          refine z_if_ne (tgt := 163) hx hb dX5_start_156 (by decide) (by omega) (fun hc_48 => ?_) (fun hc_48 => absurd hc_48 (by omega))
          refine z_iconst hx hb dX5_start_163 ?_
          refine z_put (D := D) (ci := 5) (v := .int (zI 0)) (ty := .boolean) (C := RX5) (T := TX5) (N := 8) (ws2 := kG cI cB cZ oG Gn Gki Gle Glo Gta Gsh ++ kB cI cB cZ oB (oG 0) Bcnt Bwo Bon Btw Bnu ++ kS cI cB cZ oS (oG 0) Sline (uZ Sopn 0 r_21) Sbarred_11 Smf_9 Sml_10 0 0) hx hb hts hinX5 tyX5 tyX5_ok nmX5 hown hK hw 11 rfl rfl 7 (by decide) (hts (.fieldLink RX5 31 "CarnivalRoad$Search" "emptyRowLeft" "Z") (by decide +kernel)) (fun _ h9 => h9) rfl (by decide +kernel) rfl rfl (Nat.le_of_ble_eq_true rfl) dX5_start_164 rfl (fun H locs hw => ?_)
          have hv_49 : (0 : Int) ≤ Smf_9 ∧ Smf_9 ≤ 255 := by
            first | assumption | omega | grind
          have hv_50 : (0 : Int) ≤ Sml_10 ∧ Sml_10 ≤ 255 := by
            first | assumption | omega | grind
          have hv_51 : (-1 : Int) ≤ (0 : Int) ∧ (0 : Int) ≤ 7 := by
            first | assumption | omega | grind
          have hv_52 : (0 : Int) ≤ (0 : Int) ∧ (0 : Int) ≤ 1 := by
            first | assumption | omega | grind
          have hv_53 : srP (okc Gki Glo Gsh Bwo Bon Btw Bnu Bcnt Gn) Gn Sline (uZ Sopn 0 r_21) Sbarred_11 Smf_9 Sml_10 (0 : Int) (0 : Int) (rowsC Gki Glo Gsh Bwo Bon Btw Bnu Bcnt Gn) := by
            exact sr_start (by omega) ⟨fun e e1 e2 a a0 a1 => (by assumption : ∀ e, 1 ≤ e → e < Gn → ∀ a, 0 ≤ a → a < g_8 → ∀ j, 0 ≤ j → j ≤ 7 → (mb (Sbarred_11 (e * 8 + a)) j ↔ j < Gn ∧ ¬ j = a ∧ anyB Gki Glo Gsh Bwo Bon Btw Bnu Bcnt a j e)) e e1 e2 a a0 (by omega), bb_end (by assumption) (by omega), bb_end (by assumption) (by omega)⟩ (by assumption) (by grind)
          exact W.vret hx hb hr (fun t9 ht hW => ⟨⟨((uZ Sopn 0 r_21), Sbarred_11, Smf_9, Sml_10, 0, 0), rfl, ⟨hR_26, hR_14, hv_49, hv_50, hv_51, hv_52, hv_53⟩, by subst hAe; exact z_end hK hw ht hW⟩, by subst hAe; exact hw.2.2.F ht⟩) (by subst hAe; exact hw.2.2.2.2) dX5_start_167
        · skip
          refine z_if_ne (tgt := 163) hx hb dX5_start_156 (by decide) (by omega) (fun hc_54 => absurd hc_54 (by omega)) (fun hc_54 => ?_)
          refine z_iconst hx hb dX5_start_159 ?_
          refine lv_goto (tgt := 164) hx hb dX5_start_160 (by decide) ?_
          refine z_put (D := D) (ci := 5) (v := .int (zI 1)) (ty := .boolean) (C := RX5) (T := TX5) (N := 8) (ws2 := kG cI cB cZ oG Gn Gki Gle Glo Gta Gsh ++ kB cI cB cZ oB (oG 0) Bcnt Bwo Bon Btw Bnu ++ kS cI cB cZ oS (oG 0) Sline (uZ Sopn 0 r_21) Sbarred_11 Smf_9 Sml_10 0 1) hx hb hts hinX5 tyX5 tyX5_ok nmX5 hown hK hw 11 rfl rfl 7 (by decide) (hts (.fieldLink RX5 31 "CarnivalRoad$Search" "emptyRowLeft" "Z") (by decide +kernel)) (fun _ h9 => h9) rfl (by decide +kernel) rfl rfl (Nat.le_of_ble_eq_true rfl) dX5_start_164 rfl (fun H locs hw => ?_)
          have hv_55 : (0 : Int) ≤ Smf_9 ∧ Smf_9 ≤ 255 := by
            first | assumption | omega | grind
          have hv_56 : (0 : Int) ≤ Sml_10 ∧ Sml_10 ≤ 255 := by
            first | assumption | omega | grind
          have hv_57 : (-1 : Int) ≤ (0 : Int) ∧ (0 : Int) ≤ 7 := by
            first | assumption | omega | grind
          have hv_58 : (0 : Int) ≤ (1 : Int) ∧ (1 : Int) ≤ 1 := by
            first | assumption | omega | grind
          have hv_59 : srP (okc Gki Glo Gsh Bwo Bon Btw Bnu Bcnt Gn) Gn Sline (uZ Sopn 0 r_21) Sbarred_11 Smf_9 Sml_10 (0 : Int) (1 : Int) (rowsC Gki Glo Gsh Bwo Bon Btw Bnu Bcnt Gn) := by
            exact sr_start (by omega) ⟨fun e e1 e2 a a0 a1 => (by assumption : ∀ e, 1 ≤ e → e < Gn → ∀ a, 0 ≤ a → a < g_8 → ∀ j, 0 ≤ j → j ≤ 7 → (mb (Sbarred_11 (e * 8 + a)) j ↔ j < Gn ∧ ¬ j = a ∧ anyB Gki Glo Gsh Bwo Bon Btw Bnu Bcnt a j e)) e e1 e2 a a0 (by omega), bb_end (by assumption) (by omega), bb_end (by assumption) (by omega)⟩ (by assumption) (by grind)
          exact W.vret hx hb hr (fun t9 ht hW => ⟨⟨((uZ Sopn 0 r_21), Sbarred_11, Smf_9, Sml_10, 0, 1), rfl, ⟨hR_26, hR_14, hv_55, hv_56, hv_57, hv_58, hv_59⟩, by subst hAe; exact z_end hK hw ht hW⟩, by subst hAe; exact hw.2.2.F ht⟩) (by subst hAe; exact hw.2.2.2.2) dX5_start_167
  · skip
    refine lv_aload_n hx hb dX5_start_23 rfl (lv_at hl 0 rfl) ?_
    refine lv_dup hx hb dX5_start_24 rfl ?_
    refine va_get (D := D) (ci := 5) (v := .int (zI Smf_9)) (C := RX5) (T := TX5) (N := 8) hx hb hts hinX5 hown hK hw.1 11 rfl rfl 4 (by decide) (hts (.fieldLink RX5 21 "CarnivalRoad$Search" "mayBeFirst" "I") (by decide +kernel)) (fun _ h9 => h9) rfl dX5_start_25 ?_
    refine lv_aload_n hx hb dX5_start_28 rfl (lv_at hl 1 rfl) ?_
    refine z_iconst hx hb dX5_start_29 ?_
    refine lv_iload_n hx hb dX5_start_30 rfl (lv_at hl 2 rfl) ?_
    have hF9 := z_free (wc := kG cI cB cZ oG Gn Gki Gle Glo Gta Gsh ++ kB cI cB cZ oB (oG 0) Bcnt Bwo Bon Btw Bnu) hw hA [0, 1, 2, 3, 4, 5, 6, 7, 8, 9, 10] rfl
    refine va_calli (va_runV (As := [.int (zI 3), .int (zI g_8)]) (rest := [.int (zI Smf_9), .ref (oS 0)]) ⟨hx, hb, hml, hown, hts⟩ (c_X0_mayEnd l D cI cB cZ oG oB H.size Gn Gki Gle Glo Gta Gsh Bcnt Bwo Bon Btw Bnu 3 g_8 (by omega) qGki qGle qGlo qGta qGsh (by omega) qBwo qBon qBtw qBnu (by omega) (by omega)) (cwV 2 hts gX5_start_X0_mayEnd rfl rfl rfl (by decide +kernel) ⟨Nat.le_of_ble_eq_true rfl, Nat.le_of_ble_eq_true rfl⟩) ⟨zPre_blind, va_recv hK hw.1 (ci := 0) (q0 := 6) rfl rfl, z_pre hK hw [0, 1, 2, 3, 4, 5, 6, 7, 8, 9, 10] (by decide) rfl⟩ rfl rfl hl.1 rfl (lv_room (Nat.le_of_ble_eq_true rfl)) dX5_start_31 ⟨Nat.zero_le _, Nat.zero_le _⟩) hw.2.2 (fun q _ h => hF9 q h) hF9 (fun r9 u9 t9 H_60 locs9 ht9 hvm9 hq9 hB9 hz9 hk9 hS9 => ?_)
    obtain ⟨r_61, rfl⟩ : ∃ z, z = u9 := ⟨_, rfl⟩
    try dsimp only at hq9 hB9
    obtain ⟨rfl, hq9⟩ := hq9
    have hq_62 := hq9
    have hw : HW D A s.heap (kG cI cB cZ oG Gn Gki Gle Glo Gta Gsh ++ kB cI cB cZ oB (oG 0) Bcnt Bwo Bon Btw Bnu ++ kS cI cB cZ oS (oG 0) Sline Sopn Sbarred_11 Smf_9 Sml_10 Sdep Ser) H_60 locs9 := z_after (wc := kG cI cB cZ oG Gn Gki Gle Glo Gta Gsh ++ kB cI cB cZ oB (oG 0) Bcnt Bwo Bon Btw Bnu) hw [0, 1, 2, 3, 4, 5, 6, 7, 8, 9, 10] [11, 12, 13, 14] rfl rfl (by decide) (by decide) hF9 hk9 ht9 hB9 hS9 [4, 5, 6, 7, 8, 9, 10, 11, 12, 13, 14, 0, 1, 2, 3] (by decide) rfl
    clear hF9 ht9 hvm9 hB9 hz9 hk9 hS9 hq9
    rcases hq_62 with ⟨hc_63, rfl⟩ | ⟨hc_63, rfl⟩
    · skip
      refine z_if_eq (tgt := 43) hx hb dX5_start_34 (by decide) (by omega) (fun hc_64 => absurd hc_64 (by omega)) (fun hc_64 => ?_)
      refine z_iconst hx hb dX5_start_37 ?_
      refine lv_iload_n hx hb dX5_start_38 rfl (lv_at hl 2 rfl) ?_
      have hbit_65 : zI 1 <<< (zI g_8 &&& 31) = zI (sBit g_8) := by
        exact z_shl1 (by omega)
      refine lv_ishl hx hb dX5_start_39 ?_
      rw [hbit_65]
      clear hbit_65
      have hq_66 : 0 ≤ (sBit g_8) ∧ (sBit g_8) ≤ 255 := by
        exact sBit_r (by omega)
      refine lv_goto (tgt := 44) hx hb dX5_start_40 (by decide) ?_
      have hbit_67 : zI Smf_9 ||| zI (sBit g_8) = zI (sOr Smf_9 (sBit g_8)) := by
        exact z_or (by omega) (by omega)
      refine lv_ior hx hb dX5_start_44 ?_
      rw [hbit_67]
      clear hbit_67
      have hq_68 : 0 ≤ (sOr Smf_9 (sBit g_8)) ∧ (sOr Smf_9 (sBit g_8)) ≤ 255 := by
        exact sOr_r (by omega) (by omega)
      refine z_put (D := D) (ci := 5) (v := .int (zI (sOr Smf_9 (sBit g_8)))) (ty := .int) (C := RX5) (T := TX5) (N := 8) (ws2 := kG cI cB cZ oG Gn Gki Gle Glo Gta Gsh ++ kB cI cB cZ oB (oG 0) Bcnt Bwo Bon Btw Bnu ++ kS cI cB cZ oS (oG 0) Sline Sopn Sbarred_11 (sOr Smf_9 (sBit g_8)) Sml_10 Sdep Ser) hx hb hts hinX5 tyX5 tyX5_ok nmX5 hown hK hw 11 rfl rfl 4 (by decide) (hts (.fieldLink RX5 21 "CarnivalRoad$Search" "mayBeFirst" "I") (by decide +kernel)) (fun _ h9 => h9) rfl (by decide +kernel) rfl rfl (Nat.le_of_ble_eq_true rfl) dX5_start_45 rfl (fun H locs hw => ?_)
      refine lv_aload_n hx hb dX5_start_48 rfl (lv_at hl 0 rfl) ?_
      refine lv_dup hx hb dX5_start_49 rfl ?_
      refine va_get (D := D) (ci := 5) (v := .int (zI Sml_10)) (C := RX5) (T := TX5) (N := 8) hx hb hts hinX5 hown hK hw.1 11 rfl rfl 5 (by decide) (hts (.fieldLink RX5 25 "CarnivalRoad$Search" "mayBeLast" "I") (by decide +kernel)) (fun _ h9 => h9) rfl dX5_start_50 ?_
      refine lv_aload_n hx hb dX5_start_53 rfl (lv_at hl 1 rfl) ?_
      refine z_iconst hx hb dX5_start_54 ?_
      refine lv_iload_n hx hb dX5_start_55 rfl (lv_at hl 2 rfl) ?_
      have hF9 := z_free (wc := kG cI cB cZ oG Gn Gki Gle Glo Gta Gsh ++ kB cI cB cZ oB (oG 0) Bcnt Bwo Bon Btw Bnu) hw hA [0, 1, 2, 3, 4, 5, 6, 7, 8, 9, 10] rfl
      refine va_calli (va_runV (As := [.int (zI 4), .int (zI g_8)]) (rest := [.int (zI Sml_10), .ref (oS 0)]) ⟨hx, hb, hml, hown, hts⟩ (c_X0_mayEnd l D cI cB cZ oG oB H.size Gn Gki Gle Glo Gta Gsh Bcnt Bwo Bon Btw Bnu 4 g_8 (by omega) qGki qGle qGlo qGta qGsh (by omega) qBwo qBon qBtw qBnu (by omega) (by omega)) (cwV 2 hts gX5_start_X0_mayEnd rfl rfl rfl (by decide +kernel) ⟨Nat.le_of_ble_eq_true rfl, Nat.le_of_ble_eq_true rfl⟩) ⟨zPre_blind, va_recv hK hw.1 (ci := 0) (q0 := 6) rfl rfl, z_pre hK hw [0, 1, 2, 3, 4, 5, 6, 7, 8, 9, 10] (by decide) rfl⟩ rfl rfl hl.1 rfl (lv_room (Nat.le_of_ble_eq_true rfl)) dX5_start_56 ⟨Nat.zero_le _, Nat.zero_le _⟩) hw.2.2 (fun q _ h => hF9 q h) hF9 (fun r9 u9 t9 H_69 locs9 ht9 hvm9 hq9 hB9 hz9 hk9 hS9 => ?_)
      obtain ⟨r_70, rfl⟩ : ∃ z, z = u9 := ⟨_, rfl⟩
      try dsimp only at hq9 hB9
      obtain ⟨rfl, hq9⟩ := hq9
      have hq_71 := hq9
      have hw : HW D A s.heap (kG cI cB cZ oG Gn Gki Gle Glo Gta Gsh ++ kB cI cB cZ oB (oG 0) Bcnt Bwo Bon Btw Bnu ++ kS cI cB cZ oS (oG 0) Sline Sopn Sbarred_11 (sOr Smf_9 (sBit g_8)) Sml_10 Sdep Ser) H_69 locs9 := z_after (wc := kG cI cB cZ oG Gn Gki Gle Glo Gta Gsh ++ kB cI cB cZ oB (oG 0) Bcnt Bwo Bon Btw Bnu) hw [0, 1, 2, 3, 4, 5, 6, 7, 8, 9, 10] [11, 12, 13, 14] rfl rfl (by decide) (by decide) hF9 hk9 ht9 hB9 hS9 [4, 5, 6, 7, 8, 9, 10, 11, 12, 13, 14, 0, 1, 2, 3] (by decide) rfl
      clear hF9 ht9 hvm9 hB9 hz9 hk9 hS9 hq9
      rcases hq_71 with ⟨hc_72, rfl⟩ | ⟨hc_72, rfl⟩
      · skip
        refine z_if_eq (tgt := 68) hx hb dX5_start_59 (by decide) (by omega) (fun hc_73 => absurd hc_73 (by omega)) (fun hc_73 => ?_)
        refine z_iconst hx hb dX5_start_62 ?_
        refine lv_iload_n hx hb dX5_start_63 rfl (lv_at hl 2 rfl) ?_
        have hbit_74 : zI 1 <<< (zI g_8 &&& 31) = zI (sBit g_8) := by
          exact z_shl1 (by omega)
        refine lv_ishl hx hb dX5_start_64 ?_
        rw [hbit_74]
        clear hbit_74
        have hq_75 : 0 ≤ (sBit g_8) ∧ (sBit g_8) ≤ 255 := by
          exact sBit_r (by omega)
        refine lv_goto (tgt := 69) hx hb dX5_start_65 (by decide) ?_
        have hbit_76 : zI Sml_10 ||| zI (sBit g_8) = zI (sOr Sml_10 (sBit g_8)) := by
          exact z_or (by omega) (by omega)
        refine lv_ior hx hb dX5_start_69 ?_
        rw [hbit_76]
        clear hbit_76
        have hq_77 : 0 ≤ (sOr Sml_10 (sBit g_8)) ∧ (sOr Sml_10 (sBit g_8)) ≤ 255 := by
          exact sOr_r (by omega) (by omega)
        refine z_put (D := D) (ci := 5) (v := .int (zI (sOr Sml_10 (sBit g_8)))) (ty := .int) (C := RX5) (T := TX5) (N := 8) (ws2 := kG cI cB cZ oG Gn Gki Gle Glo Gta Gsh ++ kB cI cB cZ oB (oG 0) Bcnt Bwo Bon Btw Bnu ++ kS cI cB cZ oS (oG 0) Sline Sopn Sbarred_11 (sOr Smf_9 (sBit g_8)) (sOr Sml_10 (sBit g_8)) Sdep Ser) hx hb hts hinX5 tyX5 tyX5_ok nmX5 hown hK hw 11 rfl rfl 5 (by decide) (hts (.fieldLink RX5 25 "CarnivalRoad$Search" "mayBeLast" "I") (by decide +kernel)) (fun _ h9 => h9) rfl (by decide +kernel) rfl rfl (Nat.le_of_ble_eq_true rfl) dX5_start_70 rfl (fun H locs hw => ?_)
        refine z_iconst hx hb dX5_start_73 ?_
        refine lv_istore_n (lv' := [(3, .int (zI 1)), (0, .ref (oS 0)), (1, .ref (oB 0)), (2, .int (zI g_8))]) hx hb dX5_start_74 rfl hl (by decide) rfl (fun ls hl => ?_)
        have hv_78 : 1 ≤ (1 : Int) ∧ ((1 : Int) ≤ Gn ∨ (1 : Int) = 1) := by
          first | assumption | omega | grind
        have hv_79 : ∀ e, 1 ≤ e → e < Gn → ∀ a, 0 ≤ a → a < g_8 → ∀ j, 0 ≤ j → j ≤ 7 → (mb (Sbarred_11 (e * 8 + a)) j ↔ j < Gn ∧ ¬ j = a ∧ anyB Gki Glo Gsh Bwo Bon Btw Bnu Bcnt a j e) := by
          first | assumption | omega | grind
        have hv_80 : ∀ e, 1 ≤ e → e < (1 : Int) → ∀ j, 0 ≤ j → j ≤ 7 → (mb (Sbarred_11 (e * 8 + g_8)) j ↔ j < Gn ∧ ¬ j = g_8 ∧ anyB Gki Glo Gsh Bwo Bon Btw Bnu Bcnt g_8 j e) := by
          intro e e1 e2; omega
        refine z_loop (σ := Int × (Int → Int)) (μ := fun x9 => (9 - (x9.1)).toNat) (I := fun x9 H locs ls => (RA (x9.2) (0) 255) ∧ (1 ≤ (x9.1) ∧ ((x9.1) ≤ Gn ∨ (x9.1) = 1)) ∧ (∀ e, 1 ≤ e → e < Gn → ∀ a, 0 ≤ a → a < g_8 → ∀ j, 0 ≤ j → j ≤ 7 → (mb ((x9.2) (e * 8 + a)) j ↔ j < Gn ∧ ¬ j = a ∧ anyB Gki Glo Gsh Bwo Bon Btw Bnu Bcnt a j e)) ∧ (∀ e, 1 ≤ e → e < (x9.1) → ∀ j, 0 ≤ j → j ≤ 7 → (mb ((x9.2) (e * 8 + g_8)) j ↔ j < Gn ∧ ¬ j = g_8 ∧ anyB Gki Glo Gsh Bwo Bon Btw Bnu Bcnt g_8 j e)) ∧ HW D A s.heap (kG cI cB cZ oG Gn Gki Gle Glo Gta Gsh ++ kB cI cB cZ oB (oG 0) Bcnt Bwo Bon Btw Bnu ++ kS cI cB cZ oS (oG 0) Sline Sopn (x9.2) (sOr Smf_9 (sBit g_8)) (sOr Sml_10 (sBit g_8)) Sdep Ser) H locs ∧ lv_has ls 4 [(0, .ref (oS 0)), (1, .ref (oB 0)), (2, .int (zI g_8)), (3, .int (zI (x9.1)))]) (1, Sbarred_11) ⟨hR_14, hv_78, hv_79, hv_80, hw, lv_sub hl [1, 2, 3, 0] rfl⟩ ?_
        clear hw hl
        intro x9 H locs ls hI ih_81
        obtain ⟨d_82, Sbarred_83⟩ := x9
        try dsimp only at hI
        obtain ⟨hR_84, hI_85, hI_86, hI_87, hw, hl⟩ := hI
        refine lv_iload_n hx hb dX5_start_75 rfl (lv_at hl 3 rfl) ?_
        refine lv_aload_n hx hb dX5_start_76 rfl (lv_at hl 0 rfl) ?_
        refine va_get (D := D) (ci := 5) (v := .ref (oG 0)) (C := RX5) (T := TX5) (N := 8) hx hb hts hinX5 hown hK hw.1 11 rfl rfl 0 (by decide) (hts (.fieldLink RX5 35 "CarnivalRoad$Search" "guests" "LCarnivalRoad$Guests;") (by decide +kernel)) (fun _ h9 => h9) rfl dX5_start_77 ?_
        refine va_get (D := D) (ci := 2) (v := .int (zI Gn)) (C := RX2) (T := TX2) (N := 6) hx hb hts hinX2 hown hK hw.1 0 rfl rfl 0 (by decide) (hts (.fieldLink RX5 39 "CarnivalRoad$Guests" "count" "I") (by decide +kernel)) (fun _ h9 => h9) rfl dX5_start_80 ?_
        refine z_icmp_ge (tgt := 110) hx hb dX5_start_83 (by decide) (by omega) (fun hc_88 => ?_) (fun hc_88 => ?_)
        · skip
          refine z_iinc (k := 2) (lv' := [(2, .int (zI (g_8 + 1))), (0, .ref (oS 0)), (1, .ref (oB 0)), (3, .int (zI d_82))]) hx hb dX5_start_110 hl rfl (by decide) rfl (fun ls hl => ?_)
          refine lv_goto (tgt := 12) hx hb dX5_start_113 (by decide) ?_
          have hv_89 : (0 : Int) ≤ (sOr Smf_9 (sBit g_8)) ∧ (sOr Smf_9 (sBit g_8)) ≤ 255 := by
            first | assumption | omega | grind
          have hv_90 : (0 : Int) ≤ (sOr Sml_10 (sBit g_8)) ∧ (sOr Sml_10 (sBit g_8)) ≤ 255 := by
            first | assumption | omega | grind
          have hv_91 : 0 ≤ (g_8 + 1) ∧ (g_8 + 1) ≤ Gn := by
            first | assumption | omega | grind
          have hv_92 : ∀ j, 0 ≤ j → j ≤ 7 → (mb (sOr Smf_9 (sBit g_8)) j ↔ j < (g_8 + 1) ∧ mayE Gki Bwo Bon Bcnt 3 j) := by
            first | assumption | exact bb_add (P := (fun j => mayE Gki Bwo Bon Bcnt 3 j)) (by assumption) (by omega) (by assumption) | exact bb_z (P := (fun j => mayE Gki Bwo Bon Bcnt 3 j)) (by assumption) (by assumption)
          have hv_93 : ∀ j, 0 ≤ j → j ≤ 7 → (mb (sOr Sml_10 (sBit g_8)) j ↔ j < (g_8 + 1) ∧ mayE Gki Bwo Bon Bcnt 4 j) := by
            first | assumption | exact bb_add (P := (fun j => mayE Gki Bwo Bon Bcnt 4 j)) (by assumption) (by omega) (by assumption) | exact bb_z (P := (fun j => mayE Gki Bwo Bon Bcnt 4 j)) (by assumption) (by assumption)
          have hv_94 : ∀ e, 1 ≤ e → e < Gn → ∀ a, 0 ≤ a → a < (g_8 + 1) → ∀ j, 0 ≤ j → j ≤ 7 → (mb (Sbarred_83 (e * 8 + a)) j ↔ j < Gn ∧ ¬ j = a ∧ anyB Gki Glo Gsh Bwo Bon Btw Bnu Bcnt a j e) := by
            exact tab_out (by omega) (by assumption) (by assumption)
          have hm_95 : (9 - (g_8 + 1)).toNat < (9 - g_8).toNat := by
            first | assumption | omega | grind
          exact ih_7 ((g_8 + 1), (sOr Smf_9 (sBit g_8)), (sOr Sml_10 (sBit g_8)), Sbarred_83) _ _ _ ⟨hv_89, hv_90, hR_84, hv_91, hv_92, hv_93, hv_94, hw, lv_sub hl [1, 2, 0] rfl⟩ hm_95
        · skip
          refine lv_aload_n hx hb dX5_start_86 rfl (lv_at hl 0 rfl) ?_
          refine va_get (D := D) (ci := 5) (v := .ref (oS 3)) (C := RX5) (T := TX5) (N := 8) hx hb hts hinX5 hown hK hw.1 11 rfl rfl 3 (by decide) (hts (.fieldLink RX5 18 "CarnivalRoad$Search" "barred" "[I") (by decide +kernel)) (fun _ h9 => h9) rfl dX5_start_87 ?_
          refine lv_iload_n hx hb dX5_start_90 rfl (lv_at hl 3 rfl) ?_
          refine z_bipush hx hb dX5_start_91 (by decide) ?_
          refine z_imul hx hb dX5_start_93 ?_
          refine lv_iload_n hx hb dX5_start_94 rfl (lv_at hl 2 rfl) ?_
          refine z_iadd hx hb dX5_start_95 ?_
          refine lv_aload_n hx hb dX5_start_96 rfl (lv_at hl 0 rfl) ?_
          refine lv_aload_n hx hb dX5_start_97 rfl (lv_at hl 1 rfl) ?_
          refine lv_iload_n hx hb dX5_start_98 rfl (lv_at hl 2 rfl) ?_
          refine lv_iload_n hx hb dX5_start_99 rfl (lv_at hl 3 rfl) ?_
          have hF9 := z_free (wc := kG cI cB cZ oG Gn Gki Gle Glo Gta Gsh ++ kB cI cB cZ oB (oG 0) Bcnt Bwo Bon Btw Bnu ++ kS cI cB cZ oS (oG 0) Sline Sopn Sbarred_83 (sOr Smf_9 (sBit g_8)) (sOr Sml_10 (sBit g_8)) Sdep Ser) hw hA [0, 1, 2, 3, 4, 5, 6, 7, 8, 9, 10, 11, 12, 13, 14] rfl
          refine va_calli (va_runV (As := [.ref (oB 0), .int (zI g_8), .int (zI d_82)]) (rest := [.int (zI ((d_82 * 8) + g_8)), .ref (oS 3)]) ⟨hx, hb, hml, hown, hts⟩ (c_X5_barredBehind l D cI cB cZ oG oB oS H.size Gn Gki Gle Glo Gta Gsh Bcnt Bwo Bon Btw Bnu Sline Sopn Sbarred_83 (sOr Smf_9 (sBit g_8)) (sOr Sml_10 (sBit g_8)) Sdep Ser g_8 d_82 (by omega) qGki qGle qGlo qGta qGsh (by omega) qBwo qBon qBtw qBnu qSline qSopn hR_84 (by omega) (by omega) (by omega) (by omega) (by omega) (by omega)) (cwV 3 hts gX5_start_X5_barredBehind rfl rfl rfl (by decide +kernel) ⟨Nat.le_of_ble_eq_true rfl, Nat.le_of_ble_eq_true rfl⟩) ⟨zPre_blind, va_recv hK hw.1 (ci := 5) (q0 := 11) rfl rfl, z_pre hK hw [0, 1, 2, 3, 4, 5, 6, 7, 8, 9, 10, 11, 12, 13, 14] (by decide) rfl⟩ rfl rfl hl.1 rfl (lv_room (Nat.le_of_ble_eq_true rfl)) dX5_start_100 ⟨Nat.zero_le _, Nat.zero_le _⟩) hw.2.2 (fun q _ h => hF9 q h) hF9 (fun r9 u9 t9 H_96 locs9 ht9 hvm9 hq9 hB9 hz9 hk9 hS9 => ?_)
          obtain ⟨r_97, rfl⟩ : ∃ z, z = u9 := ⟨_, rfl⟩
          try dsimp only at hq9 hB9
          obtain ⟨rfl, hq9⟩ := hq9
          obtain ⟨hq_98, hq_99⟩ := hq9
          have hw : HW D A s.heap (kG cI cB cZ oG Gn Gki Gle Glo Gta Gsh ++ kB cI cB cZ oB (oG 0) Bcnt Bwo Bon Btw Bnu ++ kS cI cB cZ oS (oG 0) Sline Sopn Sbarred_83 (sOr Smf_9 (sBit g_8)) (sOr Sml_10 (sBit g_8)) Sdep Ser) H_96 locs9 := z_after (wc := kG cI cB cZ oG Gn Gki Gle Glo Gta Gsh ++ kB cI cB cZ oB (oG 0) Bcnt Bwo Bon Btw Bnu ++ kS cI cB cZ oS (oG 0) Sline Sopn Sbarred_83 (sOr Smf_9 (sBit g_8)) (sOr Sml_10 (sBit g_8)) Sdep Ser) hw [0, 1, 2, 3, 4, 5, 6, 7, 8, 9, 10, 11, 12, 13, 14] [] rfl rfl (by decide) (by decide) hF9 hk9 ht9 hB9 hS9 [0, 1, 2, 3, 4, 5, 6, 7, 8, 9, 10, 11, 12, 13, 14] (by decide) rfl
          clear hF9 ht9 hvm9 hB9 hz9 hk9 hS9
          have hi_100 : (0 : Int) ≤ ((d_82 * 8) + g_8) ∧ ((d_82 * 8) + g_8) < ((64 : Nat) : Int) := by
            first | assumption | omega | grind
          have hv_101 : (0 : Int) ≤ r_97 ∧ r_97 ≤ 255 := by
            first | assumption | omega | grind
          have hR_102 : RA (uZ Sbarred_83 ((d_82 * 8) + g_8) r_97) (0) 255 := RA_up hR_84 hv_101
          refine z_iast (n := 64) (f := Sbarred_83) (ws2 := kG cI cB cZ oG Gn Gki Gle Glo Gta Gsh ++ kB cI cB cZ oB (oG 0) Bcnt Bwo Bon Btw Bnu ++ kS cI cB cZ oS (oG 0) Sline Sopn (uZ Sbarred_83 ((d_82 * 8) + g_8) r_97) (sOr Smf_9 (sBit g_8)) (sOr Sml_10 (sBit g_8)) Sdep Ser) hx hb hK hw 14 rfl (by decide) hi_100 dX5_start_103 rfl (fun H locs hw => ?_)
          refine z_iinc (k := 3) (lv' := [(3, .int (zI (d_82 + 1))), (0, .ref (oS 0)), (1, .ref (oB 0)), (2, .int (zI g_8))]) hx hb dX5_start_104 hl rfl (by decide) rfl (fun ls hl => ?_)
          refine lv_goto (tgt := 75) hx hb dX5_start_107 (by decide) ?_
          have hv_103 : 1 ≤ (d_82 + 1) ∧ ((d_82 + 1) ≤ Gn ∨ (d_82 + 1) = 1) := by
            first | assumption | omega | grind
          have hv_104 : ∀ e, 1 ≤ e → e < Gn → ∀ a, 0 ≤ a → a < g_8 → ∀ j, 0 ≤ j → j ≤ 7 → (mb ((uZ Sbarred_83 ((d_82 * 8) + g_8) r_97) (e * 8 + a)) j ↔ j < Gn ∧ ¬ j = a ∧ anyB Gki Glo Gsh Bwo Bon Btw Bnu Bcnt a j e) := by
            exact (tab_in ⟨by omega, by omega, by omega⟩ (by omega) (by assumption) (by assumption) (by assumption)).1
          have hv_105 : ∀ e, 1 ≤ e → e < (d_82 + 1) → ∀ j, 0 ≤ j → j ≤ 7 → (mb ((uZ Sbarred_83 ((d_82 * 8) + g_8) r_97) (e * 8 + g_8)) j ↔ j < Gn ∧ ¬ j = g_8 ∧ anyB Gki Glo Gsh Bwo Bon Btw Bnu Bcnt g_8 j e) := by
            exact (tab_in ⟨by omega, by omega, by omega⟩ (by omega) (by assumption) (by assumption) (by assumption)).2
          have hm_106 : (9 - (d_82 + 1)).toNat < (9 - d_82).toNat := by
            first | assumption | omega | grind
          exact ih_81 ((d_82 + 1), (uZ Sbarred_83 ((d_82 * 8) + g_8) r_97)) _ _ _ ⟨hR_102, hv_103, hv_104, hv_105, hw, lv_sub hl [1, 2, 3, 0] rfl⟩ hm_106
      · skip
        refine z_if_eq (tgt := 68) hx hb dX5_start_59 (by decide) (by omega) (fun hc_107 => ?_) (fun hc_107 => absurd hc_107 (by omega))
        refine z_iconst hx hb dX5_start_68 ?_
        have hbit_108 : zI Sml_10 ||| zI 0 = zI (sOr Sml_10 (0 : Int)) := by
          exact z_or (by omega) (by omega)
        refine lv_ior hx hb dX5_start_69 ?_
        rw [hbit_108]
        clear hbit_108
        have hq_109 : 0 ≤ (sOr Sml_10 (0 : Int)) ∧ (sOr Sml_10 (0 : Int)) ≤ 255 := by
          exact sOr_r (by omega) (by omega)
        refine z_put (D := D) (ci := 5) (v := .int (zI (sOr Sml_10 (0 : Int)))) (ty := .int) (C := RX5) (T := TX5) (N := 8) (ws2 := kG cI cB cZ oG Gn Gki Gle Glo Gta Gsh ++ kB cI cB cZ oB (oG 0) Bcnt Bwo Bon Btw Bnu ++ kS cI cB cZ oS (oG 0) Sline Sopn Sbarred_11 (sOr Smf_9 (sBit g_8)) (sOr Sml_10 (0 : Int)) Sdep Ser) hx hb hts hinX5 tyX5 tyX5_ok nmX5 hown hK hw 11 rfl rfl 5 (by decide) (hts (.fieldLink RX5 25 "CarnivalRoad$Search" "mayBeLast" "I") (by decide +kernel)) (fun _ h9 => h9) rfl (by decide +kernel) rfl rfl (Nat.le_of_ble_eq_true rfl) dX5_start_70 rfl (fun H locs hw => ?_)
        refine z_iconst hx hb dX5_start_73 ?_
        refine lv_istore_n (lv' := [(3, .int (zI 1)), (0, .ref (oS 0)), (1, .ref (oB 0)), (2, .int (zI g_8))]) hx hb dX5_start_74 rfl hl (by decide) rfl (fun ls hl => ?_)
        have hv_110 : 1 ≤ (1 : Int) ∧ ((1 : Int) ≤ Gn ∨ (1 : Int) = 1) := by
          first | assumption | omega | grind
        have hv_111 : ∀ e, 1 ≤ e → e < Gn → ∀ a, 0 ≤ a → a < g_8 → ∀ j, 0 ≤ j → j ≤ 7 → (mb (Sbarred_11 (e * 8 + a)) j ↔ j < Gn ∧ ¬ j = a ∧ anyB Gki Glo Gsh Bwo Bon Btw Bnu Bcnt a j e) := by
          first | assumption | omega | grind
        have hv_112 : ∀ e, 1 ≤ e → e < (1 : Int) → ∀ j, 0 ≤ j → j ≤ 7 → (mb (Sbarred_11 (e * 8 + g_8)) j ↔ j < Gn ∧ ¬ j = g_8 ∧ anyB Gki Glo Gsh Bwo Bon Btw Bnu Bcnt g_8 j e) := by
          intro e e1 e2; omega
        refine z_loop (σ := Int × (Int → Int)) (μ := fun x9 => (9 - (x9.1)).toNat) (I := fun x9 H locs ls => (RA (x9.2) (0) 255) ∧ (1 ≤ (x9.1) ∧ ((x9.1) ≤ Gn ∨ (x9.1) = 1)) ∧ (∀ e, 1 ≤ e → e < Gn → ∀ a, 0 ≤ a → a < g_8 → ∀ j, 0 ≤ j → j ≤ 7 → (mb ((x9.2) (e * 8 + a)) j ↔ j < Gn ∧ ¬ j = a ∧ anyB Gki Glo Gsh Bwo Bon Btw Bnu Bcnt a j e)) ∧ (∀ e, 1 ≤ e → e < (x9.1) → ∀ j, 0 ≤ j → j ≤ 7 → (mb ((x9.2) (e * 8 + g_8)) j ↔ j < Gn ∧ ¬ j = g_8 ∧ anyB Gki Glo Gsh Bwo Bon Btw Bnu Bcnt g_8 j e)) ∧ HW D A s.heap (kG cI cB cZ oG Gn Gki Gle Glo Gta Gsh ++ kB cI cB cZ oB (oG 0) Bcnt Bwo Bon Btw Bnu ++ kS cI cB cZ oS (oG 0) Sline Sopn (x9.2) (sOr Smf_9 (sBit g_8)) (sOr Sml_10 (0 : Int)) Sdep Ser) H locs ∧ lv_has ls 4 [(0, .ref (oS 0)), (1, .ref (oB 0)), (2, .int (zI g_8)), (3, .int (zI (x9.1)))]) (1, Sbarred_11) ⟨hR_14, hv_110, hv_111, hv_112, hw, lv_sub hl [1, 2, 3, 0] rfl⟩ ?_
        clear hw hl
        intro x9 H locs ls hI ih_113
        obtain ⟨d_114, Sbarred_115⟩ := x9
        try dsimp only at hI
        obtain ⟨hR_116, hI_117, hI_118, hI_119, hw, hl⟩ := hI
        refine lv_iload_n hx hb dX5_start_75 rfl (lv_at hl 3 rfl) ?_
        refine lv_aload_n hx hb dX5_start_76 rfl (lv_at hl 0 rfl) ?_
        refine va_get (D := D) (ci := 5) (v := .ref (oG 0)) (C := RX5) (T := TX5) (N := 8) hx hb hts hinX5 hown hK hw.1 11 rfl rfl 0 (by decide) (hts (.fieldLink RX5 35 "CarnivalRoad$Search" "guests" "LCarnivalRoad$Guests;") (by decide +kernel)) (fun _ h9 => h9) rfl dX5_start_77 ?_
        refine va_get (D := D) (ci := 2) (v := .int (zI Gn)) (C := RX2) (T := TX2) (N := 6) hx hb hts hinX2 hown hK hw.1 0 rfl rfl 0 (by decide) (hts (.fieldLink RX5 39 "CarnivalRoad$Guests" "count" "I") (by decide +kernel)) (fun _ h9 => h9) rfl dX5_start_80 ?_
        refine z_icmp_ge (tgt := 110) hx hb dX5_start_83 (by decide) (by omega) (fun hc_120 => ?_) (fun hc_120 => ?_)
        · skip
          refine z_iinc (k := 2) (lv' := [(2, .int (zI (g_8 + 1))), (0, .ref (oS 0)), (1, .ref (oB 0)), (3, .int (zI d_114))]) hx hb dX5_start_110 hl rfl (by decide) rfl (fun ls hl => ?_)
          refine lv_goto (tgt := 12) hx hb dX5_start_113 (by decide) ?_
          have hv_121 : (0 : Int) ≤ (sOr Smf_9 (sBit g_8)) ∧ (sOr Smf_9 (sBit g_8)) ≤ 255 := by
            first | assumption | omega | grind
          have hv_122 : (0 : Int) ≤ (sOr Sml_10 (0 : Int)) ∧ (sOr Sml_10 (0 : Int)) ≤ 255 := by
            first | assumption | omega | grind
          have hv_123 : 0 ≤ (g_8 + 1) ∧ (g_8 + 1) ≤ Gn := by
            first | assumption | omega | grind
          have hv_124 : ∀ j, 0 ≤ j → j ≤ 7 → (mb (sOr Smf_9 (sBit g_8)) j ↔ j < (g_8 + 1) ∧ mayE Gki Bwo Bon Bcnt 3 j) := by
            first | assumption | exact bb_add (P := (fun j => mayE Gki Bwo Bon Bcnt 3 j)) (by assumption) (by omega) (by assumption) | exact bb_z (P := (fun j => mayE Gki Bwo Bon Bcnt 3 j)) (by assumption) (by assumption)
          have hv_125 : ∀ j, 0 ≤ j → j ≤ 7 → (mb (sOr Sml_10 (0 : Int)) j ↔ j < (g_8 + 1) ∧ mayE Gki Bwo Bon Bcnt 4 j) := by
            first | assumption | exact bb_add (P := (fun j => mayE Gki Bwo Bon Bcnt 4 j)) (by assumption) (by omega) (by assumption) | exact bb_z (P := (fun j => mayE Gki Bwo Bon Bcnt 4 j)) (by assumption) (by assumption)
          have hv_126 : ∀ e, 1 ≤ e → e < Gn → ∀ a, 0 ≤ a → a < (g_8 + 1) → ∀ j, 0 ≤ j → j ≤ 7 → (mb (Sbarred_115 (e * 8 + a)) j ↔ j < Gn ∧ ¬ j = a ∧ anyB Gki Glo Gsh Bwo Bon Btw Bnu Bcnt a j e) := by
            exact tab_out (by omega) (by assumption) (by assumption)
          have hm_127 : (9 - (g_8 + 1)).toNat < (9 - g_8).toNat := by
            first | assumption | omega | grind
          exact ih_7 ((g_8 + 1), (sOr Smf_9 (sBit g_8)), (sOr Sml_10 (0 : Int)), Sbarred_115) _ _ _ ⟨hv_121, hv_122, hR_116, hv_123, hv_124, hv_125, hv_126, hw, lv_sub hl [1, 2, 0] rfl⟩ hm_127
        · skip
          refine lv_aload_n hx hb dX5_start_86 rfl (lv_at hl 0 rfl) ?_
          refine va_get (D := D) (ci := 5) (v := .ref (oS 3)) (C := RX5) (T := TX5) (N := 8) hx hb hts hinX5 hown hK hw.1 11 rfl rfl 3 (by decide) (hts (.fieldLink RX5 18 "CarnivalRoad$Search" "barred" "[I") (by decide +kernel)) (fun _ h9 => h9) rfl dX5_start_87 ?_
          refine lv_iload_n hx hb dX5_start_90 rfl (lv_at hl 3 rfl) ?_
          refine z_bipush hx hb dX5_start_91 (by decide) ?_
          refine z_imul hx hb dX5_start_93 ?_
          refine lv_iload_n hx hb dX5_start_94 rfl (lv_at hl 2 rfl) ?_
          refine z_iadd hx hb dX5_start_95 ?_
          refine lv_aload_n hx hb dX5_start_96 rfl (lv_at hl 0 rfl) ?_
          refine lv_aload_n hx hb dX5_start_97 rfl (lv_at hl 1 rfl) ?_
          refine lv_iload_n hx hb dX5_start_98 rfl (lv_at hl 2 rfl) ?_
          refine lv_iload_n hx hb dX5_start_99 rfl (lv_at hl 3 rfl) ?_
          have hF9 := z_free (wc := kG cI cB cZ oG Gn Gki Gle Glo Gta Gsh ++ kB cI cB cZ oB (oG 0) Bcnt Bwo Bon Btw Bnu ++ kS cI cB cZ oS (oG 0) Sline Sopn Sbarred_115 (sOr Smf_9 (sBit g_8)) (sOr Sml_10 (0 : Int)) Sdep Ser) hw hA [0, 1, 2, 3, 4, 5, 6, 7, 8, 9, 10, 11, 12, 13, 14] rfl
          refine va_calli (va_runV (As := [.ref (oB 0), .int (zI g_8), .int (zI d_114)]) (rest := [.int (zI ((d_114 * 8) + g_8)), .ref (oS 3)]) ⟨hx, hb, hml, hown, hts⟩ (c_X5_barredBehind l D cI cB cZ oG oB oS H.size Gn Gki Gle Glo Gta Gsh Bcnt Bwo Bon Btw Bnu Sline Sopn Sbarred_115 (sOr Smf_9 (sBit g_8)) (sOr Sml_10 (0 : Int)) Sdep Ser g_8 d_114 (by omega) qGki qGle qGlo qGta qGsh (by omega) qBwo qBon qBtw qBnu qSline qSopn hR_116 (by omega) (by omega) (by omega) (by omega) (by omega) (by omega)) (cwV 3 hts gX5_start_X5_barredBehind rfl rfl rfl (by decide +kernel) ⟨Nat.le_of_ble_eq_true rfl, Nat.le_of_ble_eq_true rfl⟩) ⟨zPre_blind, va_recv hK hw.1 (ci := 5) (q0 := 11) rfl rfl, z_pre hK hw [0, 1, 2, 3, 4, 5, 6, 7, 8, 9, 10, 11, 12, 13, 14] (by decide) rfl⟩ rfl rfl hl.1 rfl (lv_room (Nat.le_of_ble_eq_true rfl)) dX5_start_100 ⟨Nat.zero_le _, Nat.zero_le _⟩) hw.2.2 (fun q _ h => hF9 q h) hF9 (fun r9 u9 t9 H_128 locs9 ht9 hvm9 hq9 hB9 hz9 hk9 hS9 => ?_)
          obtain ⟨r_129, rfl⟩ : ∃ z, z = u9 := ⟨_, rfl⟩
          try dsimp only at hq9 hB9
          obtain ⟨rfl, hq9⟩ := hq9
          obtain ⟨hq_130, hq_131⟩ := hq9
          have hw : HW D A s.heap (kG cI cB cZ oG Gn Gki Gle Glo Gta Gsh ++ kB cI cB cZ oB (oG 0) Bcnt Bwo Bon Btw Bnu ++ kS cI cB cZ oS (oG 0) Sline Sopn Sbarred_115 (sOr Smf_9 (sBit g_8)) (sOr Sml_10 (0 : Int)) Sdep Ser) H_128 locs9 := z_after (wc := kG cI cB cZ oG Gn Gki Gle Glo Gta Gsh ++ kB cI cB cZ oB (oG 0) Bcnt Bwo Bon Btw Bnu ++ kS cI cB cZ oS (oG 0) Sline Sopn Sbarred_115 (sOr Smf_9 (sBit g_8)) (sOr Sml_10 (0 : Int)) Sdep Ser) hw [0, 1, 2, 3, 4, 5, 6, 7, 8, 9, 10, 11, 12, 13, 14] [] rfl rfl (by decide) (by decide) hF9 hk9 ht9 hB9 hS9 [0, 1, 2, 3, 4, 5, 6, 7, 8, 9, 10, 11, 12, 13, 14] (by decide) rfl
          clear hF9 ht9 hvm9 hB9 hz9 hk9 hS9
          have hi_132 : (0 : Int) ≤ ((d_114 * 8) + g_8) ∧ ((d_114 * 8) + g_8) < ((64 : Nat) : Int) := by
            first | assumption | omega | grind
          have hv_133 : (0 : Int) ≤ r_129 ∧ r_129 ≤ 255 := by
            first | assumption | omega | grind
          have hR_134 : RA (uZ Sbarred_115 ((d_114 * 8) + g_8) r_129) (0) 255 := RA_up hR_116 hv_133
          refine z_iast (n := 64) (f := Sbarred_115) (ws2 := kG cI cB cZ oG Gn Gki Gle Glo Gta Gsh ++ kB cI cB cZ oB (oG 0) Bcnt Bwo Bon Btw Bnu ++ kS cI cB cZ oS (oG 0) Sline Sopn (uZ Sbarred_115 ((d_114 * 8) + g_8) r_129) (sOr Smf_9 (sBit g_8)) (sOr Sml_10 (0 : Int)) Sdep Ser) hx hb hK hw 14 rfl (by decide) hi_132 dX5_start_103 rfl (fun H locs hw => ?_)
          refine z_iinc (k := 3) (lv' := [(3, .int (zI (d_114 + 1))), (0, .ref (oS 0)), (1, .ref (oB 0)), (2, .int (zI g_8))]) hx hb dX5_start_104 hl rfl (by decide) rfl (fun ls hl => ?_)
          refine lv_goto (tgt := 75) hx hb dX5_start_107 (by decide) ?_
          have hv_135 : 1 ≤ (d_114 + 1) ∧ ((d_114 + 1) ≤ Gn ∨ (d_114 + 1) = 1) := by
            first | assumption | omega | grind
          have hv_136 : ∀ e, 1 ≤ e → e < Gn → ∀ a, 0 ≤ a → a < g_8 → ∀ j, 0 ≤ j → j ≤ 7 → (mb ((uZ Sbarred_115 ((d_114 * 8) + g_8) r_129) (e * 8 + a)) j ↔ j < Gn ∧ ¬ j = a ∧ anyB Gki Glo Gsh Bwo Bon Btw Bnu Bcnt a j e) := by
            exact (tab_in ⟨by omega, by omega, by omega⟩ (by omega) (by assumption) (by assumption) (by assumption)).1
          have hv_137 : ∀ e, 1 ≤ e → e < (d_114 + 1) → ∀ j, 0 ≤ j → j ≤ 7 → (mb ((uZ Sbarred_115 ((d_114 * 8) + g_8) r_129) (e * 8 + g_8)) j ↔ j < Gn ∧ ¬ j = g_8 ∧ anyB Gki Glo Gsh Bwo Bon Btw Bnu Bcnt g_8 j e) := by
            exact (tab_in ⟨by omega, by omega, by omega⟩ (by omega) (by assumption) (by assumption) (by assumption)).2
          have hm_138 : (9 - (d_114 + 1)).toNat < (9 - d_114).toNat := by
            first | assumption | omega | grind
          exact ih_113 ((d_114 + 1), (uZ Sbarred_115 ((d_114 * 8) + g_8) r_129)) _ _ _ ⟨hR_134, hv_135, hv_136, hv_137, hw, lv_sub hl [1, 2, 3, 0] rfl⟩ hm_138
    · skip
      refine z_if_eq (tgt := 43) hx hb dX5_start_34 (by decide) (by omega) (fun hc_139 => ?_) (fun hc_139 => absurd hc_139 (by omega))
      refine z_iconst hx hb dX5_start_43 ?_
      have hbit_140 : zI Smf_9 ||| zI 0 = zI (sOr Smf_9 (0 : Int)) := by
        exact z_or (by omega) (by omega)
      refine lv_ior hx hb dX5_start_44 ?_
      rw [hbit_140]
      clear hbit_140
      have hq_141 : 0 ≤ (sOr Smf_9 (0 : Int)) ∧ (sOr Smf_9 (0 : Int)) ≤ 255 := by
        exact sOr_r (by omega) (by omega)
      refine z_put (D := D) (ci := 5) (v := .int (zI (sOr Smf_9 (0 : Int)))) (ty := .int) (C := RX5) (T := TX5) (N := 8) (ws2 := kG cI cB cZ oG Gn Gki Gle Glo Gta Gsh ++ kB cI cB cZ oB (oG 0) Bcnt Bwo Bon Btw Bnu ++ kS cI cB cZ oS (oG 0) Sline Sopn Sbarred_11 (sOr Smf_9 (0 : Int)) Sml_10 Sdep Ser) hx hb hts hinX5 tyX5 tyX5_ok nmX5 hown hK hw 11 rfl rfl 4 (by decide) (hts (.fieldLink RX5 21 "CarnivalRoad$Search" "mayBeFirst" "I") (by decide +kernel)) (fun _ h9 => h9) rfl (by decide +kernel) rfl rfl (Nat.le_of_ble_eq_true rfl) dX5_start_45 rfl (fun H locs hw => ?_)
      refine lv_aload_n hx hb dX5_start_48 rfl (lv_at hl 0 rfl) ?_
      refine lv_dup hx hb dX5_start_49 rfl ?_
      refine va_get (D := D) (ci := 5) (v := .int (zI Sml_10)) (C := RX5) (T := TX5) (N := 8) hx hb hts hinX5 hown hK hw.1 11 rfl rfl 5 (by decide) (hts (.fieldLink RX5 25 "CarnivalRoad$Search" "mayBeLast" "I") (by decide +kernel)) (fun _ h9 => h9) rfl dX5_start_50 ?_
      refine lv_aload_n hx hb dX5_start_53 rfl (lv_at hl 1 rfl) ?_
      refine z_iconst hx hb dX5_start_54 ?_
      refine lv_iload_n hx hb dX5_start_55 rfl (lv_at hl 2 rfl) ?_
      have hF9 := z_free (wc := kG cI cB cZ oG Gn Gki Gle Glo Gta Gsh ++ kB cI cB cZ oB (oG 0) Bcnt Bwo Bon Btw Bnu) hw hA [0, 1, 2, 3, 4, 5, 6, 7, 8, 9, 10] rfl
      refine va_calli (va_runV (As := [.int (zI 4), .int (zI g_8)]) (rest := [.int (zI Sml_10), .ref (oS 0)]) ⟨hx, hb, hml, hown, hts⟩ (c_X0_mayEnd l D cI cB cZ oG oB H.size Gn Gki Gle Glo Gta Gsh Bcnt Bwo Bon Btw Bnu 4 g_8 (by omega) qGki qGle qGlo qGta qGsh (by omega) qBwo qBon qBtw qBnu (by omega) (by omega)) (cwV 2 hts gX5_start_X0_mayEnd rfl rfl rfl (by decide +kernel) ⟨Nat.le_of_ble_eq_true rfl, Nat.le_of_ble_eq_true rfl⟩) ⟨zPre_blind, va_recv hK hw.1 (ci := 0) (q0 := 6) rfl rfl, z_pre hK hw [0, 1, 2, 3, 4, 5, 6, 7, 8, 9, 10] (by decide) rfl⟩ rfl rfl hl.1 rfl (lv_room (Nat.le_of_ble_eq_true rfl)) dX5_start_56 ⟨Nat.zero_le _, Nat.zero_le _⟩) hw.2.2 (fun q _ h => hF9 q h) hF9 (fun r9 u9 t9 H_142 locs9 ht9 hvm9 hq9 hB9 hz9 hk9 hS9 => ?_)
      obtain ⟨r_143, rfl⟩ : ∃ z, z = u9 := ⟨_, rfl⟩
      try dsimp only at hq9 hB9
      obtain ⟨rfl, hq9⟩ := hq9
      have hq_144 := hq9
      have hw : HW D A s.heap (kG cI cB cZ oG Gn Gki Gle Glo Gta Gsh ++ kB cI cB cZ oB (oG 0) Bcnt Bwo Bon Btw Bnu ++ kS cI cB cZ oS (oG 0) Sline Sopn Sbarred_11 (sOr Smf_9 (0 : Int)) Sml_10 Sdep Ser) H_142 locs9 := z_after (wc := kG cI cB cZ oG Gn Gki Gle Glo Gta Gsh ++ kB cI cB cZ oB (oG 0) Bcnt Bwo Bon Btw Bnu) hw [0, 1, 2, 3, 4, 5, 6, 7, 8, 9, 10] [11, 12, 13, 14] rfl rfl (by decide) (by decide) hF9 hk9 ht9 hB9 hS9 [4, 5, 6, 7, 8, 9, 10, 11, 12, 13, 14, 0, 1, 2, 3] (by decide) rfl
      clear hF9 ht9 hvm9 hB9 hz9 hk9 hS9 hq9
      rcases hq_144 with ⟨hc_145, rfl⟩ | ⟨hc_145, rfl⟩
      · skip
        refine z_if_eq (tgt := 68) hx hb dX5_start_59 (by decide) (by omega) (fun hc_146 => absurd hc_146 (by omega)) (fun hc_146 => ?_)
        refine z_iconst hx hb dX5_start_62 ?_
        refine lv_iload_n hx hb dX5_start_63 rfl (lv_at hl 2 rfl) ?_
        have hbit_147 : zI 1 <<< (zI g_8 &&& 31) = zI (sBit g_8) := by
          exact z_shl1 (by omega)
        refine lv_ishl hx hb dX5_start_64 ?_
        rw [hbit_147]
        clear hbit_147
        have hq_148 : 0 ≤ (sBit g_8) ∧ (sBit g_8) ≤ 255 := by
          exact sBit_r (by omega)
        refine lv_goto (tgt := 69) hx hb dX5_start_65 (by decide) ?_
        have hbit_149 : zI Sml_10 ||| zI (sBit g_8) = zI (sOr Sml_10 (sBit g_8)) := by
          exact z_or (by omega) (by omega)
        refine lv_ior hx hb dX5_start_69 ?_
        rw [hbit_149]
        clear hbit_149
        have hq_150 : 0 ≤ (sOr Sml_10 (sBit g_8)) ∧ (sOr Sml_10 (sBit g_8)) ≤ 255 := by
          exact sOr_r (by omega) (by omega)
        refine z_put (D := D) (ci := 5) (v := .int (zI (sOr Sml_10 (sBit g_8)))) (ty := .int) (C := RX5) (T := TX5) (N := 8) (ws2 := kG cI cB cZ oG Gn Gki Gle Glo Gta Gsh ++ kB cI cB cZ oB (oG 0) Bcnt Bwo Bon Btw Bnu ++ kS cI cB cZ oS (oG 0) Sline Sopn Sbarred_11 (sOr Smf_9 (0 : Int)) (sOr Sml_10 (sBit g_8)) Sdep Ser) hx hb hts hinX5 tyX5 tyX5_ok nmX5 hown hK hw 11 rfl rfl 5 (by decide) (hts (.fieldLink RX5 25 "CarnivalRoad$Search" "mayBeLast" "I") (by decide +kernel)) (fun _ h9 => h9) rfl (by decide +kernel) rfl rfl (Nat.le_of_ble_eq_true rfl) dX5_start_70 rfl (fun H locs hw => ?_)
        refine z_iconst hx hb dX5_start_73 ?_
        refine lv_istore_n (lv' := [(3, .int (zI 1)), (0, .ref (oS 0)), (1, .ref (oB 0)), (2, .int (zI g_8))]) hx hb dX5_start_74 rfl hl (by decide) rfl (fun ls hl => ?_)
        have hv_151 : 1 ≤ (1 : Int) ∧ ((1 : Int) ≤ Gn ∨ (1 : Int) = 1) := by
          first | assumption | omega | grind
        have hv_152 : ∀ e, 1 ≤ e → e < Gn → ∀ a, 0 ≤ a → a < g_8 → ∀ j, 0 ≤ j → j ≤ 7 → (mb (Sbarred_11 (e * 8 + a)) j ↔ j < Gn ∧ ¬ j = a ∧ anyB Gki Glo Gsh Bwo Bon Btw Bnu Bcnt a j e) := by
          first | assumption | omega | grind
        have hv_153 : ∀ e, 1 ≤ e → e < (1 : Int) → ∀ j, 0 ≤ j → j ≤ 7 → (mb (Sbarred_11 (e * 8 + g_8)) j ↔ j < Gn ∧ ¬ j = g_8 ∧ anyB Gki Glo Gsh Bwo Bon Btw Bnu Bcnt g_8 j e) := by
          intro e e1 e2; omega
        refine z_loop (σ := Int × (Int → Int)) (μ := fun x9 => (9 - (x9.1)).toNat) (I := fun x9 H locs ls => (RA (x9.2) (0) 255) ∧ (1 ≤ (x9.1) ∧ ((x9.1) ≤ Gn ∨ (x9.1) = 1)) ∧ (∀ e, 1 ≤ e → e < Gn → ∀ a, 0 ≤ a → a < g_8 → ∀ j, 0 ≤ j → j ≤ 7 → (mb ((x9.2) (e * 8 + a)) j ↔ j < Gn ∧ ¬ j = a ∧ anyB Gki Glo Gsh Bwo Bon Btw Bnu Bcnt a j e)) ∧ (∀ e, 1 ≤ e → e < (x9.1) → ∀ j, 0 ≤ j → j ≤ 7 → (mb ((x9.2) (e * 8 + g_8)) j ↔ j < Gn ∧ ¬ j = g_8 ∧ anyB Gki Glo Gsh Bwo Bon Btw Bnu Bcnt g_8 j e)) ∧ HW D A s.heap (kG cI cB cZ oG Gn Gki Gle Glo Gta Gsh ++ kB cI cB cZ oB (oG 0) Bcnt Bwo Bon Btw Bnu ++ kS cI cB cZ oS (oG 0) Sline Sopn (x9.2) (sOr Smf_9 (0 : Int)) (sOr Sml_10 (sBit g_8)) Sdep Ser) H locs ∧ lv_has ls 4 [(0, .ref (oS 0)), (1, .ref (oB 0)), (2, .int (zI g_8)), (3, .int (zI (x9.1)))]) (1, Sbarred_11) ⟨hR_14, hv_151, hv_152, hv_153, hw, lv_sub hl [1, 2, 3, 0] rfl⟩ ?_
        clear hw hl
        intro x9 H locs ls hI ih_154
        obtain ⟨d_155, Sbarred_156⟩ := x9
        try dsimp only at hI
        obtain ⟨hR_157, hI_158, hI_159, hI_160, hw, hl⟩ := hI
        refine lv_iload_n hx hb dX5_start_75 rfl (lv_at hl 3 rfl) ?_
        refine lv_aload_n hx hb dX5_start_76 rfl (lv_at hl 0 rfl) ?_
        refine va_get (D := D) (ci := 5) (v := .ref (oG 0)) (C := RX5) (T := TX5) (N := 8) hx hb hts hinX5 hown hK hw.1 11 rfl rfl 0 (by decide) (hts (.fieldLink RX5 35 "CarnivalRoad$Search" "guests" "LCarnivalRoad$Guests;") (by decide +kernel)) (fun _ h9 => h9) rfl dX5_start_77 ?_
        refine va_get (D := D) (ci := 2) (v := .int (zI Gn)) (C := RX2) (T := TX2) (N := 6) hx hb hts hinX2 hown hK hw.1 0 rfl rfl 0 (by decide) (hts (.fieldLink RX5 39 "CarnivalRoad$Guests" "count" "I") (by decide +kernel)) (fun _ h9 => h9) rfl dX5_start_80 ?_
        refine z_icmp_ge (tgt := 110) hx hb dX5_start_83 (by decide) (by omega) (fun hc_161 => ?_) (fun hc_161 => ?_)
        · skip
          refine z_iinc (k := 2) (lv' := [(2, .int (zI (g_8 + 1))), (0, .ref (oS 0)), (1, .ref (oB 0)), (3, .int (zI d_155))]) hx hb dX5_start_110 hl rfl (by decide) rfl (fun ls hl => ?_)
          refine lv_goto (tgt := 12) hx hb dX5_start_113 (by decide) ?_
          have hv_162 : (0 : Int) ≤ (sOr Smf_9 (0 : Int)) ∧ (sOr Smf_9 (0 : Int)) ≤ 255 := by
            first | assumption | omega | grind
          have hv_163 : (0 : Int) ≤ (sOr Sml_10 (sBit g_8)) ∧ (sOr Sml_10 (sBit g_8)) ≤ 255 := by
            first | assumption | omega | grind
          have hv_164 : 0 ≤ (g_8 + 1) ∧ (g_8 + 1) ≤ Gn := by
            first | assumption | omega | grind
          have hv_165 : ∀ j, 0 ≤ j → j ≤ 7 → (mb (sOr Smf_9 (0 : Int)) j ↔ j < (g_8 + 1) ∧ mayE Gki Bwo Bon Bcnt 3 j) := by
            first | assumption | exact bb_add (P := (fun j => mayE Gki Bwo Bon Bcnt 3 j)) (by assumption) (by omega) (by assumption) | exact bb_z (P := (fun j => mayE Gki Bwo Bon Bcnt 3 j)) (by assumption) (by assumption)
          have hv_166 : ∀ j, 0 ≤ j → j ≤ 7 → (mb (sOr Sml_10 (sBit g_8)) j ↔ j < (g_8 + 1) ∧ mayE Gki Bwo Bon Bcnt 4 j) := by
            first | assumption | exact bb_add (P := (fun j => mayE Gki Bwo Bon Bcnt 4 j)) (by assumption) (by omega) (by assumption) | exact bb_z (P := (fun j => mayE Gki Bwo Bon Bcnt 4 j)) (by assumption) (by assumption)
          have hv_167 : ∀ e, 1 ≤ e → e < Gn → ∀ a, 0 ≤ a → a < (g_8 + 1) → ∀ j, 0 ≤ j → j ≤ 7 → (mb (Sbarred_156 (e * 8 + a)) j ↔ j < Gn ∧ ¬ j = a ∧ anyB Gki Glo Gsh Bwo Bon Btw Bnu Bcnt a j e) := by
            exact tab_out (by omega) (by assumption) (by assumption)
          have hm_168 : (9 - (g_8 + 1)).toNat < (9 - g_8).toNat := by
            first | assumption | omega | grind
          exact ih_7 ((g_8 + 1), (sOr Smf_9 (0 : Int)), (sOr Sml_10 (sBit g_8)), Sbarred_156) _ _ _ ⟨hv_162, hv_163, hR_157, hv_164, hv_165, hv_166, hv_167, hw, lv_sub hl [1, 2, 0] rfl⟩ hm_168
        · skip
          refine lv_aload_n hx hb dX5_start_86 rfl (lv_at hl 0 rfl) ?_
          refine va_get (D := D) (ci := 5) (v := .ref (oS 3)) (C := RX5) (T := TX5) (N := 8) hx hb hts hinX5 hown hK hw.1 11 rfl rfl 3 (by decide) (hts (.fieldLink RX5 18 "CarnivalRoad$Search" "barred" "[I") (by decide +kernel)) (fun _ h9 => h9) rfl dX5_start_87 ?_
          refine lv_iload_n hx hb dX5_start_90 rfl (lv_at hl 3 rfl) ?_
          refine z_bipush hx hb dX5_start_91 (by decide) ?_
          refine z_imul hx hb dX5_start_93 ?_
          refine lv_iload_n hx hb dX5_start_94 rfl (lv_at hl 2 rfl) ?_
          refine z_iadd hx hb dX5_start_95 ?_
          refine lv_aload_n hx hb dX5_start_96 rfl (lv_at hl 0 rfl) ?_
          refine lv_aload_n hx hb dX5_start_97 rfl (lv_at hl 1 rfl) ?_
          refine lv_iload_n hx hb dX5_start_98 rfl (lv_at hl 2 rfl) ?_
          refine lv_iload_n hx hb dX5_start_99 rfl (lv_at hl 3 rfl) ?_
          have hF9 := z_free (wc := kG cI cB cZ oG Gn Gki Gle Glo Gta Gsh ++ kB cI cB cZ oB (oG 0) Bcnt Bwo Bon Btw Bnu ++ kS cI cB cZ oS (oG 0) Sline Sopn Sbarred_156 (sOr Smf_9 (0 : Int)) (sOr Sml_10 (sBit g_8)) Sdep Ser) hw hA [0, 1, 2, 3, 4, 5, 6, 7, 8, 9, 10, 11, 12, 13, 14] rfl
          refine va_calli (va_runV (As := [.ref (oB 0), .int (zI g_8), .int (zI d_155)]) (rest := [.int (zI ((d_155 * 8) + g_8)), .ref (oS 3)]) ⟨hx, hb, hml, hown, hts⟩ (c_X5_barredBehind l D cI cB cZ oG oB oS H.size Gn Gki Gle Glo Gta Gsh Bcnt Bwo Bon Btw Bnu Sline Sopn Sbarred_156 (sOr Smf_9 (0 : Int)) (sOr Sml_10 (sBit g_8)) Sdep Ser g_8 d_155 (by omega) qGki qGle qGlo qGta qGsh (by omega) qBwo qBon qBtw qBnu qSline qSopn hR_157 (by omega) (by omega) (by omega) (by omega) (by omega) (by omega)) (cwV 3 hts gX5_start_X5_barredBehind rfl rfl rfl (by decide +kernel) ⟨Nat.le_of_ble_eq_true rfl, Nat.le_of_ble_eq_true rfl⟩) ⟨zPre_blind, va_recv hK hw.1 (ci := 5) (q0 := 11) rfl rfl, z_pre hK hw [0, 1, 2, 3, 4, 5, 6, 7, 8, 9, 10, 11, 12, 13, 14] (by decide) rfl⟩ rfl rfl hl.1 rfl (lv_room (Nat.le_of_ble_eq_true rfl)) dX5_start_100 ⟨Nat.zero_le _, Nat.zero_le _⟩) hw.2.2 (fun q _ h => hF9 q h) hF9 (fun r9 u9 t9 H_169 locs9 ht9 hvm9 hq9 hB9 hz9 hk9 hS9 => ?_)
          obtain ⟨r_170, rfl⟩ : ∃ z, z = u9 := ⟨_, rfl⟩
          try dsimp only at hq9 hB9
          obtain ⟨rfl, hq9⟩ := hq9
          obtain ⟨hq_171, hq_172⟩ := hq9
          have hw : HW D A s.heap (kG cI cB cZ oG Gn Gki Gle Glo Gta Gsh ++ kB cI cB cZ oB (oG 0) Bcnt Bwo Bon Btw Bnu ++ kS cI cB cZ oS (oG 0) Sline Sopn Sbarred_156 (sOr Smf_9 (0 : Int)) (sOr Sml_10 (sBit g_8)) Sdep Ser) H_169 locs9 := z_after (wc := kG cI cB cZ oG Gn Gki Gle Glo Gta Gsh ++ kB cI cB cZ oB (oG 0) Bcnt Bwo Bon Btw Bnu ++ kS cI cB cZ oS (oG 0) Sline Sopn Sbarred_156 (sOr Smf_9 (0 : Int)) (sOr Sml_10 (sBit g_8)) Sdep Ser) hw [0, 1, 2, 3, 4, 5, 6, 7, 8, 9, 10, 11, 12, 13, 14] [] rfl rfl (by decide) (by decide) hF9 hk9 ht9 hB9 hS9 [0, 1, 2, 3, 4, 5, 6, 7, 8, 9, 10, 11, 12, 13, 14] (by decide) rfl
          clear hF9 ht9 hvm9 hB9 hz9 hk9 hS9
          have hi_173 : (0 : Int) ≤ ((d_155 * 8) + g_8) ∧ ((d_155 * 8) + g_8) < ((64 : Nat) : Int) := by
            first | assumption | omega | grind
          have hv_174 : (0 : Int) ≤ r_170 ∧ r_170 ≤ 255 := by
            first | assumption | omega | grind
          have hR_175 : RA (uZ Sbarred_156 ((d_155 * 8) + g_8) r_170) (0) 255 := RA_up hR_157 hv_174
          refine z_iast (n := 64) (f := Sbarred_156) (ws2 := kG cI cB cZ oG Gn Gki Gle Glo Gta Gsh ++ kB cI cB cZ oB (oG 0) Bcnt Bwo Bon Btw Bnu ++ kS cI cB cZ oS (oG 0) Sline Sopn (uZ Sbarred_156 ((d_155 * 8) + g_8) r_170) (sOr Smf_9 (0 : Int)) (sOr Sml_10 (sBit g_8)) Sdep Ser) hx hb hK hw 14 rfl (by decide) hi_173 dX5_start_103 rfl (fun H locs hw => ?_)
          refine z_iinc (k := 3) (lv' := [(3, .int (zI (d_155 + 1))), (0, .ref (oS 0)), (1, .ref (oB 0)), (2, .int (zI g_8))]) hx hb dX5_start_104 hl rfl (by decide) rfl (fun ls hl => ?_)
          refine lv_goto (tgt := 75) hx hb dX5_start_107 (by decide) ?_
          have hv_176 : 1 ≤ (d_155 + 1) ∧ ((d_155 + 1) ≤ Gn ∨ (d_155 + 1) = 1) := by
            first | assumption | omega | grind
          have hv_177 : ∀ e, 1 ≤ e → e < Gn → ∀ a, 0 ≤ a → a < g_8 → ∀ j, 0 ≤ j → j ≤ 7 → (mb ((uZ Sbarred_156 ((d_155 * 8) + g_8) r_170) (e * 8 + a)) j ↔ j < Gn ∧ ¬ j = a ∧ anyB Gki Glo Gsh Bwo Bon Btw Bnu Bcnt a j e) := by
            exact (tab_in ⟨by omega, by omega, by omega⟩ (by omega) (by assumption) (by assumption) (by assumption)).1
          have hv_178 : ∀ e, 1 ≤ e → e < (d_155 + 1) → ∀ j, 0 ≤ j → j ≤ 7 → (mb ((uZ Sbarred_156 ((d_155 * 8) + g_8) r_170) (e * 8 + g_8)) j ↔ j < Gn ∧ ¬ j = g_8 ∧ anyB Gki Glo Gsh Bwo Bon Btw Bnu Bcnt g_8 j e) := by
            exact (tab_in ⟨by omega, by omega, by omega⟩ (by omega) (by assumption) (by assumption) (by assumption)).2
          have hm_179 : (9 - (d_155 + 1)).toNat < (9 - d_155).toNat := by
            first | assumption | omega | grind
          exact ih_154 ((d_155 + 1), (uZ Sbarred_156 ((d_155 * 8) + g_8) r_170)) _ _ _ ⟨hR_175, hv_176, hv_177, hv_178, hw, lv_sub hl [1, 2, 3, 0] rfl⟩ hm_179
      · skip
        refine z_if_eq (tgt := 68) hx hb dX5_start_59 (by decide) (by omega) (fun hc_180 => ?_) (fun hc_180 => absurd hc_180 (by omega))
        refine z_iconst hx hb dX5_start_68 ?_
        have hbit_181 : zI Sml_10 ||| zI 0 = zI (sOr Sml_10 (0 : Int)) := by
          exact z_or (by omega) (by omega)
        refine lv_ior hx hb dX5_start_69 ?_
        rw [hbit_181]
        clear hbit_181
        have hq_182 : 0 ≤ (sOr Sml_10 (0 : Int)) ∧ (sOr Sml_10 (0 : Int)) ≤ 255 := by
          exact sOr_r (by omega) (by omega)
        refine z_put (D := D) (ci := 5) (v := .int (zI (sOr Sml_10 (0 : Int)))) (ty := .int) (C := RX5) (T := TX5) (N := 8) (ws2 := kG cI cB cZ oG Gn Gki Gle Glo Gta Gsh ++ kB cI cB cZ oB (oG 0) Bcnt Bwo Bon Btw Bnu ++ kS cI cB cZ oS (oG 0) Sline Sopn Sbarred_11 (sOr Smf_9 (0 : Int)) (sOr Sml_10 (0 : Int)) Sdep Ser) hx hb hts hinX5 tyX5 tyX5_ok nmX5 hown hK hw 11 rfl rfl 5 (by decide) (hts (.fieldLink RX5 25 "CarnivalRoad$Search" "mayBeLast" "I") (by decide +kernel)) (fun _ h9 => h9) rfl (by decide +kernel) rfl rfl (Nat.le_of_ble_eq_true rfl) dX5_start_70 rfl (fun H locs hw => ?_)
        refine z_iconst hx hb dX5_start_73 ?_
        refine lv_istore_n (lv' := [(3, .int (zI 1)), (0, .ref (oS 0)), (1, .ref (oB 0)), (2, .int (zI g_8))]) hx hb dX5_start_74 rfl hl (by decide) rfl (fun ls hl => ?_)
        have hv_183 : 1 ≤ (1 : Int) ∧ ((1 : Int) ≤ Gn ∨ (1 : Int) = 1) := by
          first | assumption | omega | grind
        have hv_184 : ∀ e, 1 ≤ e → e < Gn → ∀ a, 0 ≤ a → a < g_8 → ∀ j, 0 ≤ j → j ≤ 7 → (mb (Sbarred_11 (e * 8 + a)) j ↔ j < Gn ∧ ¬ j = a ∧ anyB Gki Glo Gsh Bwo Bon Btw Bnu Bcnt a j e) := by
          first | assumption | omega | grind
        have hv_185 : ∀ e, 1 ≤ e → e < (1 : Int) → ∀ j, 0 ≤ j → j ≤ 7 → (mb (Sbarred_11 (e * 8 + g_8)) j ↔ j < Gn ∧ ¬ j = g_8 ∧ anyB Gki Glo Gsh Bwo Bon Btw Bnu Bcnt g_8 j e) := by
          intro e e1 e2; omega
        refine z_loop (σ := Int × (Int → Int)) (μ := fun x9 => (9 - (x9.1)).toNat) (I := fun x9 H locs ls => (RA (x9.2) (0) 255) ∧ (1 ≤ (x9.1) ∧ ((x9.1) ≤ Gn ∨ (x9.1) = 1)) ∧ (∀ e, 1 ≤ e → e < Gn → ∀ a, 0 ≤ a → a < g_8 → ∀ j, 0 ≤ j → j ≤ 7 → (mb ((x9.2) (e * 8 + a)) j ↔ j < Gn ∧ ¬ j = a ∧ anyB Gki Glo Gsh Bwo Bon Btw Bnu Bcnt a j e)) ∧ (∀ e, 1 ≤ e → e < (x9.1) → ∀ j, 0 ≤ j → j ≤ 7 → (mb ((x9.2) (e * 8 + g_8)) j ↔ j < Gn ∧ ¬ j = g_8 ∧ anyB Gki Glo Gsh Bwo Bon Btw Bnu Bcnt g_8 j e)) ∧ HW D A s.heap (kG cI cB cZ oG Gn Gki Gle Glo Gta Gsh ++ kB cI cB cZ oB (oG 0) Bcnt Bwo Bon Btw Bnu ++ kS cI cB cZ oS (oG 0) Sline Sopn (x9.2) (sOr Smf_9 (0 : Int)) (sOr Sml_10 (0 : Int)) Sdep Ser) H locs ∧ lv_has ls 4 [(0, .ref (oS 0)), (1, .ref (oB 0)), (2, .int (zI g_8)), (3, .int (zI (x9.1)))]) (1, Sbarred_11) ⟨hR_14, hv_183, hv_184, hv_185, hw, lv_sub hl [1, 2, 3, 0] rfl⟩ ?_
        clear hw hl
        intro x9 H locs ls hI ih_186
        obtain ⟨d_187, Sbarred_188⟩ := x9
        try dsimp only at hI
        obtain ⟨hR_189, hI_190, hI_191, hI_192, hw, hl⟩ := hI
        refine lv_iload_n hx hb dX5_start_75 rfl (lv_at hl 3 rfl) ?_
        refine lv_aload_n hx hb dX5_start_76 rfl (lv_at hl 0 rfl) ?_
        refine va_get (D := D) (ci := 5) (v := .ref (oG 0)) (C := RX5) (T := TX5) (N := 8) hx hb hts hinX5 hown hK hw.1 11 rfl rfl 0 (by decide) (hts (.fieldLink RX5 35 "CarnivalRoad$Search" "guests" "LCarnivalRoad$Guests;") (by decide +kernel)) (fun _ h9 => h9) rfl dX5_start_77 ?_
        refine va_get (D := D) (ci := 2) (v := .int (zI Gn)) (C := RX2) (T := TX2) (N := 6) hx hb hts hinX2 hown hK hw.1 0 rfl rfl 0 (by decide) (hts (.fieldLink RX5 39 "CarnivalRoad$Guests" "count" "I") (by decide +kernel)) (fun _ h9 => h9) rfl dX5_start_80 ?_
        refine z_icmp_ge (tgt := 110) hx hb dX5_start_83 (by decide) (by omega) (fun hc_193 => ?_) (fun hc_193 => ?_)
        · skip
          refine z_iinc (k := 2) (lv' := [(2, .int (zI (g_8 + 1))), (0, .ref (oS 0)), (1, .ref (oB 0)), (3, .int (zI d_187))]) hx hb dX5_start_110 hl rfl (by decide) rfl (fun ls hl => ?_)
          refine lv_goto (tgt := 12) hx hb dX5_start_113 (by decide) ?_
          have hv_194 : (0 : Int) ≤ (sOr Smf_9 (0 : Int)) ∧ (sOr Smf_9 (0 : Int)) ≤ 255 := by
            first | assumption | omega | grind
          have hv_195 : (0 : Int) ≤ (sOr Sml_10 (0 : Int)) ∧ (sOr Sml_10 (0 : Int)) ≤ 255 := by
            first | assumption | omega | grind
          have hv_196 : 0 ≤ (g_8 + 1) ∧ (g_8 + 1) ≤ Gn := by
            first | assumption | omega | grind
          have hv_197 : ∀ j, 0 ≤ j → j ≤ 7 → (mb (sOr Smf_9 (0 : Int)) j ↔ j < (g_8 + 1) ∧ mayE Gki Bwo Bon Bcnt 3 j) := by
            first | assumption | exact bb_add (P := (fun j => mayE Gki Bwo Bon Bcnt 3 j)) (by assumption) (by omega) (by assumption) | exact bb_z (P := (fun j => mayE Gki Bwo Bon Bcnt 3 j)) (by assumption) (by assumption)
          have hv_198 : ∀ j, 0 ≤ j → j ≤ 7 → (mb (sOr Sml_10 (0 : Int)) j ↔ j < (g_8 + 1) ∧ mayE Gki Bwo Bon Bcnt 4 j) := by
            first | assumption | exact bb_add (P := (fun j => mayE Gki Bwo Bon Bcnt 4 j)) (by assumption) (by omega) (by assumption) | exact bb_z (P := (fun j => mayE Gki Bwo Bon Bcnt 4 j)) (by assumption) (by assumption)
          have hv_199 : ∀ e, 1 ≤ e → e < Gn → ∀ a, 0 ≤ a → a < (g_8 + 1) → ∀ j, 0 ≤ j → j ≤ 7 → (mb (Sbarred_188 (e * 8 + a)) j ↔ j < Gn ∧ ¬ j = a ∧ anyB Gki Glo Gsh Bwo Bon Btw Bnu Bcnt a j e) := by
            exact tab_out (by omega) (by assumption) (by assumption)
          have hm_200 : (9 - (g_8 + 1)).toNat < (9 - g_8).toNat := by
            first | assumption | omega | grind
          exact ih_7 ((g_8 + 1), (sOr Smf_9 (0 : Int)), (sOr Sml_10 (0 : Int)), Sbarred_188) _ _ _ ⟨hv_194, hv_195, hR_189, hv_196, hv_197, hv_198, hv_199, hw, lv_sub hl [1, 2, 0] rfl⟩ hm_200
        · skip
          refine lv_aload_n hx hb dX5_start_86 rfl (lv_at hl 0 rfl) ?_
          refine va_get (D := D) (ci := 5) (v := .ref (oS 3)) (C := RX5) (T := TX5) (N := 8) hx hb hts hinX5 hown hK hw.1 11 rfl rfl 3 (by decide) (hts (.fieldLink RX5 18 "CarnivalRoad$Search" "barred" "[I") (by decide +kernel)) (fun _ h9 => h9) rfl dX5_start_87 ?_
          refine lv_iload_n hx hb dX5_start_90 rfl (lv_at hl 3 rfl) ?_
          refine z_bipush hx hb dX5_start_91 (by decide) ?_
          refine z_imul hx hb dX5_start_93 ?_
          refine lv_iload_n hx hb dX5_start_94 rfl (lv_at hl 2 rfl) ?_
          refine z_iadd hx hb dX5_start_95 ?_
          refine lv_aload_n hx hb dX5_start_96 rfl (lv_at hl 0 rfl) ?_
          refine lv_aload_n hx hb dX5_start_97 rfl (lv_at hl 1 rfl) ?_
          refine lv_iload_n hx hb dX5_start_98 rfl (lv_at hl 2 rfl) ?_
          refine lv_iload_n hx hb dX5_start_99 rfl (lv_at hl 3 rfl) ?_
          have hF9 := z_free (wc := kG cI cB cZ oG Gn Gki Gle Glo Gta Gsh ++ kB cI cB cZ oB (oG 0) Bcnt Bwo Bon Btw Bnu ++ kS cI cB cZ oS (oG 0) Sline Sopn Sbarred_188 (sOr Smf_9 (0 : Int)) (sOr Sml_10 (0 : Int)) Sdep Ser) hw hA [0, 1, 2, 3, 4, 5, 6, 7, 8, 9, 10, 11, 12, 13, 14] rfl
          refine va_calli (va_runV (As := [.ref (oB 0), .int (zI g_8), .int (zI d_187)]) (rest := [.int (zI ((d_187 * 8) + g_8)), .ref (oS 3)]) ⟨hx, hb, hml, hown, hts⟩ (c_X5_barredBehind l D cI cB cZ oG oB oS H.size Gn Gki Gle Glo Gta Gsh Bcnt Bwo Bon Btw Bnu Sline Sopn Sbarred_188 (sOr Smf_9 (0 : Int)) (sOr Sml_10 (0 : Int)) Sdep Ser g_8 d_187 (by omega) qGki qGle qGlo qGta qGsh (by omega) qBwo qBon qBtw qBnu qSline qSopn hR_189 (by omega) (by omega) (by omega) (by omega) (by omega) (by omega)) (cwV 3 hts gX5_start_X5_barredBehind rfl rfl rfl (by decide +kernel) ⟨Nat.le_of_ble_eq_true rfl, Nat.le_of_ble_eq_true rfl⟩) ⟨zPre_blind, va_recv hK hw.1 (ci := 5) (q0 := 11) rfl rfl, z_pre hK hw [0, 1, 2, 3, 4, 5, 6, 7, 8, 9, 10, 11, 12, 13, 14] (by decide) rfl⟩ rfl rfl hl.1 rfl (lv_room (Nat.le_of_ble_eq_true rfl)) dX5_start_100 ⟨Nat.zero_le _, Nat.zero_le _⟩) hw.2.2 (fun q _ h => hF9 q h) hF9 (fun r9 u9 t9 H_201 locs9 ht9 hvm9 hq9 hB9 hz9 hk9 hS9 => ?_)
          obtain ⟨r_202, rfl⟩ : ∃ z, z = u9 := ⟨_, rfl⟩
          try dsimp only at hq9 hB9
          obtain ⟨rfl, hq9⟩ := hq9
          obtain ⟨hq_203, hq_204⟩ := hq9
          have hw : HW D A s.heap (kG cI cB cZ oG Gn Gki Gle Glo Gta Gsh ++ kB cI cB cZ oB (oG 0) Bcnt Bwo Bon Btw Bnu ++ kS cI cB cZ oS (oG 0) Sline Sopn Sbarred_188 (sOr Smf_9 (0 : Int)) (sOr Sml_10 (0 : Int)) Sdep Ser) H_201 locs9 := z_after (wc := kG cI cB cZ oG Gn Gki Gle Glo Gta Gsh ++ kB cI cB cZ oB (oG 0) Bcnt Bwo Bon Btw Bnu ++ kS cI cB cZ oS (oG 0) Sline Sopn Sbarred_188 (sOr Smf_9 (0 : Int)) (sOr Sml_10 (0 : Int)) Sdep Ser) hw [0, 1, 2, 3, 4, 5, 6, 7, 8, 9, 10, 11, 12, 13, 14] [] rfl rfl (by decide) (by decide) hF9 hk9 ht9 hB9 hS9 [0, 1, 2, 3, 4, 5, 6, 7, 8, 9, 10, 11, 12, 13, 14] (by decide) rfl
          clear hF9 ht9 hvm9 hB9 hz9 hk9 hS9
          have hi_205 : (0 : Int) ≤ ((d_187 * 8) + g_8) ∧ ((d_187 * 8) + g_8) < ((64 : Nat) : Int) := by
            first | assumption | omega | grind
          have hv_206 : (0 : Int) ≤ r_202 ∧ r_202 ≤ 255 := by
            first | assumption | omega | grind
          have hR_207 : RA (uZ Sbarred_188 ((d_187 * 8) + g_8) r_202) (0) 255 := RA_up hR_189 hv_206
          refine z_iast (n := 64) (f := Sbarred_188) (ws2 := kG cI cB cZ oG Gn Gki Gle Glo Gta Gsh ++ kB cI cB cZ oB (oG 0) Bcnt Bwo Bon Btw Bnu ++ kS cI cB cZ oS (oG 0) Sline Sopn (uZ Sbarred_188 ((d_187 * 8) + g_8) r_202) (sOr Smf_9 (0 : Int)) (sOr Sml_10 (0 : Int)) Sdep Ser) hx hb hK hw 14 rfl (by decide) hi_205 dX5_start_103 rfl (fun H locs hw => ?_)
          refine z_iinc (k := 3) (lv' := [(3, .int (zI (d_187 + 1))), (0, .ref (oS 0)), (1, .ref (oB 0)), (2, .int (zI g_8))]) hx hb dX5_start_104 hl rfl (by decide) rfl (fun ls hl => ?_)
          refine lv_goto (tgt := 75) hx hb dX5_start_107 (by decide) ?_
          have hv_208 : 1 ≤ (d_187 + 1) ∧ ((d_187 + 1) ≤ Gn ∨ (d_187 + 1) = 1) := by
            first | assumption | omega | grind
          have hv_209 : ∀ e, 1 ≤ e → e < Gn → ∀ a, 0 ≤ a → a < g_8 → ∀ j, 0 ≤ j → j ≤ 7 → (mb ((uZ Sbarred_188 ((d_187 * 8) + g_8) r_202) (e * 8 + a)) j ↔ j < Gn ∧ ¬ j = a ∧ anyB Gki Glo Gsh Bwo Bon Btw Bnu Bcnt a j e) := by
            exact (tab_in ⟨by omega, by omega, by omega⟩ (by omega) (by assumption) (by assumption) (by assumption)).1
          have hv_210 : ∀ e, 1 ≤ e → e < (d_187 + 1) → ∀ j, 0 ≤ j → j ≤ 7 → (mb ((uZ Sbarred_188 ((d_187 * 8) + g_8) r_202) (e * 8 + g_8)) j ↔ j < Gn ∧ ¬ j = g_8 ∧ anyB Gki Glo Gsh Bwo Bon Btw Bnu Bcnt g_8 j e) := by
            exact (tab_in ⟨by omega, by omega, by omega⟩ (by omega) (by assumption) (by assumption) (by assumption)).2
          have hm_211 : (9 - (d_187 + 1)).toNat < (9 - d_187).toNat := by
            first | assumption | omega | grind
          exact ih_186 ((d_187 + 1), (uZ Sbarred_188 ((d_187 * 8) + g_8) r_202)) _ _ _ ⟨hR_207, hv_208, hv_209, hv_210, hw, lv_sub hl [1, 2, 3, 0] rfl⟩ hm_211
set_option maxRecDepth 100000 in
set_option maxHeartbeats 4000000 in
theorem c_X5_findNext (l : Launch) (D : va_G) (cI cB cZ : ClassId) (oG : Nat → Nat) (oS : Nat → Nat) (sz : Nat) (Gn : Int) (Gki : Int → Int) (Gle : Int → Int) (Glo : Int → Int) (Gta : Int → Int) (Gsh : Int → Int) (Sline : Int → Int) (Sopn : Int → Int) (Sbarred : Int → Int) (Smf : Int) (Sml : Int) (Sdep : Int) (Ser : Int) (K : List Int → Int → Prop) (R : List (List Int)) (qGn : 0 ≤ Gn ∧ Gn ≤ 8) (qGki : RA Gki (0) 4) (qGle : RA Gle (0) 5) (qGlo : RA Glo (0) 9) (qGta : RA Gta (0) 9) (qGsh : RA Gsh (0) 9) (qSline : RA Sline (0) 7) (qSopn : RA Sopn (0) 255) (qSbarred : RA Sbarred (0) 255) (qSmf : 0 ≤ Smf ∧ Smf ≤ 255) (qSml : 0 ≤ Sml ∧ Sml ≤ 255) (qSdep : -1 ≤ Sdep ∧ Sdep ≤ 7) (qSer : 0 ≤ Ser ∧ Ser ≤ 1) (hp0 : srP K Gn Sline Sopn Sbarred Smf Sml Sdep Ser R) : Met l yX5_findNext wsX5_findNext ({ frames := 1, cells := 0, slots := 0, locals := 23 }) (va_Pc [.ref (oS 0)] (zPre D cI cB cZ sz (kG cI cB cZ oG Gn Gki Gle Glo Gta Gsh ++ kS cI cB cZ oS (oG 0) Sline Sopn Sbarred Smf Sml Sdep Ser))) (va_Qi (fun (r9 : Int32) (u9 : Int × (Int → Int) × (Int → Int) × Int × Int) => r9 = zI u9.1 ∧ ((RA u9.2.1 (0) 7) ∧ (RA u9.2.2.1 (0) 255) ∧ ((-1 : Int) ≤ u9.2.2.2.1 ∧ u9.2.2.2.1 ≤ 7) ∧ ((0 : Int) ≤ u9.2.2.2.2 ∧ u9.2.2.2.2 ≤ 1) ∧ (∃ R', srP K Gn u9.2.1 u9.2.2.1 Sbarred Smf Sml u9.2.2.2.1 u9.2.2.2.2 R' ∧ ((u9.1 = 1 ∧ R = preL u9.2.1 Gn.toNat :: R') ∨ (u9.1 = 0 ∧ R = [] ∧ R' = []))))) (fun u9 t9 => zAt D cI cB cZ (va_A (kG cI cB cZ oG Gn Gki Gle Glo Gta Gsh ++ kS cI cB cZ oS (oG 0) Sline Sopn Sbarred Smf Sml Sdep Ser) sz) (kG cI cB cZ oG Gn Gki Gle Glo Gta Gsh ++ kS cI cB cZ oS (oG 0) (u9.2.1) (u9.2.2.1) Sbarred Smf Sml (u9.2.2.2.1) (u9.2.2.2.2)) t9) (va_A (kG cI cB cZ oG Gn Gki Gle Glo Gta Gsh ++ kS cI cB cZ oS (oG 0) Sline Sopn Sbarred Smf Sml Sdep Ser) sz)) 0 0 (va_A (kG cI cB cZ oG Gn Gki Gle Glo Gta Gsh ++ kS cI cB cZ oS (oG 0) Sline Sopn Sbarred Smf Sml Sdep Ser) sz) := by
  refine Met.ofW (cc := cX5_findNext) (maxL := 3) (ret := (some .boolean)) (by decide) rfl ?_
  intro pp ee s mm aa bw mt cd s₁ BL hml hv
  obtain ⟨rfl, hsz, hP, hK, hD0⟩ := hv
  have hx := BL.exec
  have hb := BL.bytes
  have hr := BL.returns
  have hts := atoms_spec (ws := wsX5_findNext) BL.pre
  have hown : s.vm.findClass RX5 = some mm.cls := findClass_of_methodNamed BL.named
  have hlocks := BL.notSynchronized
  subst hsz
  generalize hAe : va_A (kG cI cB cZ oG Gn Gki Gle Glo Gta Gsh ++ kS cI cB cZ oS (oG 0) Sline Sopn Sbarred Smf Sml Sdep Ser) s.heap.size = A
  have hA : ∀ q : Nat, s.heap.size ≤ q → A q := fun q h => by rw [← hAe]; exact Or.inr h
  have hw : HW D A s.heap (kG cI cB cZ oG Gn Gki Gle Glo Gta Gsh ++ kS cI cB cZ oS (oG 0) Sline Sopn Sbarred Smf Sml Sdep Ser) s.heap [] := z_start hAe hP hD0
  clear hP hD0
  have hl := lv_entry ([.ref (oS 0)]) (n := 3) (Nat.le_of_ble_eq_true rfl)
  rw [lg_entry_eq]
  generalize (lg_sl ([.ref (oS 0)]) ++ List.replicate (3 - (lg_sl ([.ref (oS 0)])).length) Slot.unset).toArray = ls at hl ⊢
  have hl : lv_has ls 3 [(0, .ref (oS 0))] := hl
  have hinX2 : ∀ w ∈ wsX20, w ∈ wsX5_findNext := by decide +kernel
  have hinX5 : ∀ w ∈ wsX50, w ∈ wsX5_findNext := by decide +kernel
  refine lv_aload_n hx hb dX5_findNext_0 rfl (lv_at hl 0 rfl) ?_
  refine va_get (D := D) (ci := 5) (v := .ref (oG 0)) (C := RX5) (T := TX5) (N := 8) hx hb hts hinX5 hown hK hw.1 6 rfl rfl 0 (by decide) (hts (.fieldLink RX5 35 "CarnivalRoad$Search" "guests" "LCarnivalRoad$Guests;") (by decide +kernel)) (fun _ h9 => h9) rfl dX5_findNext_1 ?_
  refine va_get (D := D) (ci := 2) (v := .int (zI Gn)) (C := RX2) (T := TX2) (N := 6) hx hb hts hinX2 hown hK hw.1 0 rfl rfl 0 (by decide) (hts (.fieldLink RX5 39 "CarnivalRoad$Guests" "count" "I") (by decide +kernel)) (fun _ h9 => h9) rfl dX5_findNext_4 ?_
  refine z_if_ne (tgt := 22) hx hb dX5_findNext_7 (by decide) (by omega) (fun hc_1 => ?_) (fun hc_1 => ?_)
  · skip
    refine z_iconst hx hb dX5_findNext_22 ?_
    refine lv_istore_n (lv' := [(1, .int (zI 0)), (0, .ref (oS 0))]) hx hb dX5_findNext_23 rfl hl (by decide) rfl (fun ls hl => ?_)
    have hv_2 : (-1 : Int) ≤ Sdep ∧ Sdep ≤ 7 := by
      first | assumption | omega | grind
    have hv_3 : 0 ≤ (0 : Int) ∧ (0 : Int) ≤ 200000 := by
      first | assumption | omega | grind
    have hv_4 : siP Gn Sline Sopn Sbarred Smf Sml Sdep := by
      exact (sr_pos hp0 (by omega)).2.2.2.2.2.1
    have hv_5 : R = remL K Gn Sline Sopn (Sdep + 1).toNat := by
      exact (sr_pos hp0 (by omega)).2.2.2.2.2.2.1
    have hv_6 : costL Gn.toNat Sopn (Sdep + 1).toNat + (0 : Int).toNat ≤ 200000 := by
      have q := (sr_pos hp0 (by omega)).2.2.2.2.2.2.2
      omega
    have hv_7 : -1 ≤ Sdep ∧ Sdep < Gn := by
      have q := sr_pos hp0 (by omega)
      omega
    refine z_loop (σ := Int × (Int → Int) × (Int → Int) × Int) (μ := fun x9 => costL Gn.toNat (x9.2.2.1) ((x9.2.2.2) + 1).toNat) (I := fun x9 H locs ls => (RA (x9.2.1) (0) 7) ∧ (RA (x9.2.2.1) (0) 255) ∧ ((-1 : Int) ≤ (x9.2.2.2) ∧ (x9.2.2.2) ≤ 7) ∧ (0 ≤ (x9.1) ∧ (x9.1) ≤ 200000) ∧ (siP Gn (x9.2.1) (x9.2.2.1) Sbarred Smf Sml (x9.2.2.2)) ∧ (R = remL K Gn (x9.2.1) (x9.2.2.1) ((x9.2.2.2) + 1).toNat) ∧ (costL Gn.toNat (x9.2.2.1) ((x9.2.2.2) + 1).toNat + (x9.1).toNat ≤ 200000) ∧ (-1 ≤ (x9.2.2.2) ∧ (x9.2.2.2) < Gn) ∧ HW D A s.heap (kG cI cB cZ oG Gn Gki Gle Glo Gta Gsh ++ kS cI cB cZ oS (oG 0) (x9.2.1) (x9.2.2.1) Sbarred Smf Sml (x9.2.2.2) Ser) H locs ∧ lv_has ls 3 [(0, .ref (oS 0)), (1, .int (zI (x9.1)))]) (0, Sline, Sopn, Sdep) ⟨qSline, qSopn, hv_2, hv_3, hv_4, hv_5, hv_6, hv_7, hw, lv_sub hl [1, 0] rfl⟩ ?_
    clear hw hl
    intro x9 H locs ls hI ih_8
    obtain ⟨i_9, Sline_10, Sopn_11, Sdep_12⟩ := x9
    try dsimp only at hI
    obtain ⟨hR_13, hR_14, hq_15, hI_16, hI_17, hI_18, hI_19, hI_20, hw, hl⟩ := hI
    refine lv_iload_n hx hb dX5_findNext_24 rfl (lv_at hl 1 rfl) ?_
    refine lv_ldc (v := zI 1000000) hx hb hown (hts (.constant RX5 66 (1000000)) (by decide +kernel)) dX5_findNext_25 ?_
    refine z_icmp_ge (tgt := 142) hx hb dX5_findNext_27 (by decide) (by omega) (fun hc_21 => ?_) (fun hc_21 => ?_)
    · skip
      refine z_iconst hx hb dX5_findNext_142 ?_
      have hv_22 : (-1 : Int) ≤ Sdep_12 ∧ Sdep_12 ≤ 7 := by
        first | assumption | omega | grind
      have hv_23 : (0 : Int) ≤ Ser ∧ Ser ≤ 1 := by
        first | assumption | omega | grind
      have hv_24 : ∃ R', srP K Gn Sline_10 Sopn_11 Sbarred Smf Sml Sdep_12 Ser R' ∧ (((0 : Int) = 1 ∧ R = preL Sline_10 Gn.toNat :: R') ∨ ((0 : Int) = 0 ∧ R = [] ∧ R' = [])) := by
        first | (exfalso; omega) | exact sr_end hp0 (by omega) (by assumption) (by assumption) (by omega)
      exact W.zret (v := zI 0) hx hb hr rfl (fun t9 ht hW => ⟨⟨zI 0, (0, Sline_10, Sopn_11, Sdep_12, Ser), rfl, ⟨rfl, ⟨hR_13, hR_14, hv_22, hv_23, hv_24⟩⟩, by subst hAe; exact z_end hK hw ht hW⟩, by subst hAe; exact hw.2.2.F ht⟩) (by subst hAe; exact hw.2.2.2.2) dX5_findNext_143
    · skip
      refine lv_aload_n hx hb dX5_findNext_30 rfl (lv_at hl 0 rfl) ?_
      refine va_get (D := D) (ci := 5) (v := .int (zI Sdep_12)) (C := RX5) (T := TX5) (N := 8) hx hb hts hinX5 hown hK hw.1 6 rfl rfl 6 (by decide) (hts (.fieldLink RX5 28 "CarnivalRoad$Search" "depth" "I") (by decide +kernel)) (fun _ h9 => h9) rfl dX5_findNext_31 ?_
      refine z_if_lt (tgt := 142) hx hb dX5_findNext_34 (by decide) (by omega) (fun hc_25 => ?_) (fun hc_25 => ?_)
      · skip
        refine z_iconst hx hb dX5_findNext_142 ?_
        have hv_26 : (-1 : Int) ≤ Sdep_12 ∧ Sdep_12 ≤ 7 := by
          first | assumption | omega | grind
        have hv_27 : (0 : Int) ≤ Ser ∧ Ser ≤ 1 := by
          first | assumption | omega | grind
        have hv_28 : ∃ R', srP K Gn Sline_10 Sopn_11 Sbarred Smf Sml Sdep_12 Ser R' ∧ (((0 : Int) = 1 ∧ R = preL Sline_10 Gn.toNat :: R') ∨ ((0 : Int) = 0 ∧ R = [] ∧ R' = [])) := by
          first | (exfalso; omega) | exact sr_end hp0 (by omega) (by assumption) (by assumption) (by omega)
        exact W.zret (v := zI 0) hx hb hr rfl (fun t9 ht hW => ⟨⟨zI 0, (0, Sline_10, Sopn_11, Sdep_12, Ser), rfl, ⟨rfl, ⟨hR_13, hR_14, hv_26, hv_27, hv_28⟩⟩, by subst hAe; exact z_end hK hw ht hW⟩, by subst hAe; exact hw.2.2.F ht⟩) (by subst hAe; exact hw.2.2.2.2) dX5_findNext_143
      · skip
        refine lv_aload_n hx hb dX5_findNext_37 rfl (lv_at hl 0 rfl) ?_
        refine va_get (D := D) (ci := 5) (v := .ref (oS 2)) (C := RX5) (T := TX5) (N := 8) hx hb hts hinX5 hown hK hw.1 6 rfl rfl 2 (by decide) (hts (.fieldLink RX5 15 "CarnivalRoad$Search" "open" "[I") (by decide +kernel)) (fun _ h9 => h9) rfl dX5_findNext_38 ?_
        refine lv_aload_n hx hb dX5_findNext_41 rfl (lv_at hl 0 rfl) ?_
        refine va_get (D := D) (ci := 5) (v := .int (zI Sdep_12)) (C := RX5) (T := TX5) (N := 8) hx hb hts hinX5 hown hK hw.1 6 rfl rfl 6 (by decide) (hts (.fieldLink RX5 28 "CarnivalRoad$Search" "depth" "I") (by decide +kernel)) (fun _ h9 => h9) rfl dX5_findNext_42 ?_
        have hi_29 : (0 : Int) ≤ Sdep_12 ∧ Sdep_12 < ((8 : Nat) : Int) := by
          first | assumption | omega | grind
        refine z_iald (n := 8) (f := Sopn_11) hx hb hK hw 8 rfl (by decide) hi_29 dX5_findNext_45 ?_
        have hq_30 : 0 ≤ Sopn_11 Sdep_12 ∧ Sopn_11 Sdep_12 ≤ 255 := hR_14 Sdep_12
        refine lv_istore_n (lv' := [(2, .int (zI (Sopn_11 Sdep_12))), (0, .ref (oS 0)), (1, .int (zI i_9))]) hx hb dX5_findNext_46 rfl hl (by decide) rfl (fun ls hl => ?_)
        refine lv_iload_n hx hb dX5_findNext_47 rfl (lv_at hl 0 rfl) ?_
        refine z_if_ne (tgt := 64) hx hb dX5_findNext_48 (by decide) (by omega) (fun hc_31 => ?_) (fun hc_31 => ?_)
        · skip
          refine lv_aload_n hx hb dX5_findNext_64 rfl (lv_at hl 1 rfl) ?_
          refine va_get (D := D) (ci := 5) (v := .ref (oS 1)) (C := RX5) (T := TX5) (N := 8) hx hb hts hinX5 hown hK hw.1 6 rfl rfl 1 (by decide) (hts (.fieldLink RX5 9 "CarnivalRoad$Search" "line" "[I") (by decide +kernel)) (fun _ h9 => h9) rfl dX5_findNext_65 ?_
          refine lv_aload_n hx hb dX5_findNext_68 rfl (lv_at hl 1 rfl) ?_
          refine va_get (D := D) (ci := 5) (v := .int (zI Sdep_12)) (C := RX5) (T := TX5) (N := 8) hx hb hts hinX5 hown hK hw.1 6 rfl rfl 6 (by decide) (hts (.fieldLink RX5 28 "CarnivalRoad$Search" "depth" "I") (by decide +kernel)) (fun _ h9 => h9) rfl dX5_findNext_69 ?_
          refine lv_iload_n hx hb dX5_findNext_72 rfl (lv_at hl 0 rfl) ?_
          have hpre_32 : ¬ (Sopn_11 Sdep_12) = 0 := by
            first | assumption | omega | grind
          have hF9 := z_free (wc := ([] : va_W)) hw hA [] rfl
          refine va_calli (va_runS (As := [.int (zI (Sopn_11 Sdep_12))]) (rest := [.int (zI Sdep_12), .ref (oS 1)]) ⟨hx, hb, hml, hown, hts⟩ (c_X5_lowestOf l D cI cB cZ H.size (Sopn_11 Sdep_12) (by omega) hpre_32) (va_cwS 1 hts gX5_findNext_X5_lowestOf rfl rfl rfl (by decide +kernel) ⟨Nat.le_of_ble_eq_true rfl, Nat.le_of_ble_eq_true rfl⟩) ⟨zPre_blind, z_pre hK hw [] (by decide) rfl⟩ rfl rfl hl.1 rfl (lv_room (Nat.le_of_ble_eq_true rfl)) dX5_findNext_73 ⟨Nat.zero_le _, Nat.zero_le _⟩) hw.2.2 (fun q _ h => hF9 q h) hF9 (fun r9 u9 t9 H_33 locs9 ht9 hvm9 hq9 hB9 hz9 hk9 hS9 => ?_)
          obtain ⟨r_34, rfl⟩ : ∃ z, z = u9 := ⟨_, rfl⟩
          try dsimp only at hq9 hB9
          obtain ⟨rfl, hq9⟩ := hq9
          obtain ⟨hq_35, hq_36⟩ := hq9
          have hw : HW D A s.heap (kG cI cB cZ oG Gn Gki Gle Glo Gta Gsh ++ kS cI cB cZ oS (oG 0) Sline_10 Sopn_11 Sbarred Smf Sml Sdep_12 Ser) H_33 locs9 := z_after (wc := ([] : va_W)) hw [] [0, 1, 2, 3, 4, 5, 6, 7, 8, 9] rfl rfl (by decide) (by decide) hF9 hk9 ht9 hB9 hS9 [0, 1, 2, 3, 4, 5, 6, 7, 8, 9] (by decide) rfl
          clear hF9 ht9 hvm9 hB9 hz9 hk9 hS9
          have hi_37 : (0 : Int) ≤ Sdep_12 ∧ Sdep_12 < ((8 : Nat) : Int) := by
            first | assumption | omega | grind
          have hv_38 : (0 : Int) ≤ r_34 ∧ r_34 ≤ 7 := by
            first | assumption | omega | grind
          have hR_39 : RA (uZ Sline_10 Sdep_12 r_34) (0) 7 := RA_up hR_13 hv_38
          refine z_iast (n := 8) (f := Sline_10) (ws2 := kG cI cB cZ oG Gn Gki Gle Glo Gta Gsh ++ kS cI cB cZ oS (oG 0) (uZ Sline_10 Sdep_12 r_34) Sopn_11 Sbarred Smf Sml Sdep_12 Ser) hx hb hK hw 7 rfl (by decide) hi_37 dX5_findNext_76 rfl (fun H locs hw => ?_)
          refine lv_aload_n hx hb dX5_findNext_77 rfl (lv_at hl 1 rfl) ?_
          refine va_get (D := D) (ci := 5) (v := .ref (oS 2)) (C := RX5) (T := TX5) (N := 8) hx hb hts hinX5 hown hK hw.1 6 rfl rfl 2 (by decide) (hts (.fieldLink RX5 15 "CarnivalRoad$Search" "open" "[I") (by decide +kernel)) (fun _ h9 => h9) rfl dX5_findNext_78 ?_
          refine lv_aload_n hx hb dX5_findNext_81 rfl (lv_at hl 1 rfl) ?_
          refine va_get (D := D) (ci := 5) (v := .int (zI Sdep_12)) (C := RX5) (T := TX5) (N := 8) hx hb hts hinX5 hown hK hw.1 6 rfl rfl 6 (by decide) (hts (.fieldLink RX5 28 "CarnivalRoad$Search" "depth" "I") (by decide +kernel)) (fun _ h9 => h9) rfl dX5_findNext_82 ?_
          refine lv_iload_n hx hb dX5_findNext_85 rfl (lv_at hl 0 rfl) ?_
          refine lv_iload_n hx hb dX5_findNext_86 rfl (lv_at hl 0 rfl) ?_
          refine z_iconst hx hb dX5_findNext_87 ?_
          refine z_isub hx hb dX5_findNext_88 ?_
          have hbit_40 : zI (Sopn_11 Sdep_12) &&& zI ((Sopn_11 Sdep_12) - 1) = zI (sAnd (Sopn_11 Sdep_12) ((Sopn_11 Sdep_12) - 1)) := by
            exact z_and (by omega) (by omega)
          refine lv_iand hx hb dX5_findNext_89 ?_
          rw [hbit_40]
          clear hbit_40
          have hq_41 : 0 ≤ (sAnd (Sopn_11 Sdep_12) ((Sopn_11 Sdep_12) - 1)) ∧ (sAnd (Sopn_11 Sdep_12) ((Sopn_11 Sdep_12) - 1)) ≤ 255 := by
            exact sAnd_r (by omega) (by omega)
          have hi_42 : (0 : Int) ≤ Sdep_12 ∧ Sdep_12 < ((8 : Nat) : Int) := by
            first | assumption | omega | grind
          have hv_43 : (0 : Int) ≤ (sAnd (Sopn_11 Sdep_12) ((Sopn_11 Sdep_12) - 1)) ∧ (sAnd (Sopn_11 Sdep_12) ((Sopn_11 Sdep_12) - 1)) ≤ 255 := by
            first | assumption | omega | grind
          have hR_44 : RA (uZ Sopn_11 Sdep_12 (sAnd (Sopn_11 Sdep_12) ((Sopn_11 Sdep_12) - 1))) (0) 255 := RA_up hR_14 hv_43
          refine z_iast (n := 8) (f := Sopn_11) (ws2 := kG cI cB cZ oG Gn Gki Gle Glo Gta Gsh ++ kS cI cB cZ oS (oG 0) (uZ Sline_10 Sdep_12 r_34) (uZ Sopn_11 Sdep_12 (sAnd (Sopn_11 Sdep_12) ((Sopn_11 Sdep_12) - 1))) Sbarred Smf Sml Sdep_12 Ser) hx hb hK hw 8 rfl (by decide) hi_42 dX5_findNext_90 rfl (fun H locs hw => ?_)
          refine lv_aload_n hx hb dX5_findNext_91 rfl (lv_at hl 1 rfl) ?_
          refine va_get (D := D) (ci := 5) (v := .int (zI Sdep_12)) (C := RX5) (T := TX5) (N := 8) hx hb hts hinX5 hown hK hw.1 6 rfl rfl 6 (by decide) (hts (.fieldLink RX5 28 "CarnivalRoad$Search" "depth" "I") (by decide +kernel)) (fun _ h9 => h9) rfl dX5_findNext_92 ?_
          refine lv_aload_n hx hb dX5_findNext_95 rfl (lv_at hl 1 rfl) ?_
          refine va_get (D := D) (ci := 5) (v := .ref (oG 0)) (C := RX5) (T := TX5) (N := 8) hx hb hts hinX5 hown hK hw.1 6 rfl rfl 0 (by decide) (hts (.fieldLink RX5 35 "CarnivalRoad$Search" "guests" "LCarnivalRoad$Guests;") (by decide +kernel)) (fun _ h9 => h9) rfl dX5_findNext_96 ?_
          refine va_get (D := D) (ci := 2) (v := .int (zI Gn)) (C := RX2) (T := TX2) (N := 6) hx hb hts hinX2 hown hK hw.1 0 rfl rfl 0 (by decide) (hts (.fieldLink RX5 39 "CarnivalRoad$Guests" "count" "I") (by decide +kernel)) (fun _ h9 => h9) rfl dX5_findNext_99 ?_
          refine z_iconst hx hb dX5_findNext_102 ?_
          refine z_isub hx hb dX5_findNext_103 ?_
          refine z_icmp_ne (tgt := 109) hx hb dX5_findNext_104 (by decide) (by omega) (fun hc_45 => ?_) (fun hc_45 => ?_)
          · skip
            refine lv_aload_n hx hb dX5_findNext_109 rfl (lv_at hl 1 rfl) ?_
            refine lv_dup hx hb dX5_findNext_110 rfl ?_
            refine va_get (D := D) (ci := 5) (v := .int (zI Sdep_12)) (C := RX5) (T := TX5) (N := 8) hx hb hts hinX5 hown hK hw.1 6 rfl rfl 6 (by decide) (hts (.fieldLink RX5 28 "CarnivalRoad$Search" "depth" "I") (by decide +kernel)) (fun _ h9 => h9) rfl dX5_findNext_111 ?_
            refine z_iconst hx hb dX5_findNext_114 ?_
            refine z_iadd hx hb dX5_findNext_115 ?_
            refine z_put (D := D) (ci := 5) (v := .int (zI (Sdep_12 + 1))) (ty := .int) (C := RX5) (T := TX5) (N := 8) (ws2 := kG cI cB cZ oG Gn Gki Gle Glo Gta Gsh ++ kS cI cB cZ oS (oG 0) (uZ Sline_10 Sdep_12 r_34) (uZ Sopn_11 Sdep_12 (sAnd (Sopn_11 Sdep_12) ((Sopn_11 Sdep_12) - 1))) Sbarred Smf Sml (Sdep_12 + 1) Ser) hx hb hts hinX5 tyX5 tyX5_ok nmX5 hown hK hw 6 rfl rfl 6 (by decide) (hts (.fieldLink RX5 28 "CarnivalRoad$Search" "depth" "I") (by decide +kernel)) (fun _ h9 => h9) rfl (by decide +kernel) rfl rfl (Nat.le_of_ble_eq_true rfl) dX5_findNext_116 rfl (fun H locs hw => ?_)
            refine lv_aload_n hx hb dX5_findNext_119 rfl (lv_at hl 1 rfl) ?_
            refine va_get (D := D) (ci := 5) (v := .ref (oS 2)) (C := RX5) (T := TX5) (N := 8) hx hb hts hinX5 hown hK hw.1 6 rfl rfl 2 (by decide) (hts (.fieldLink RX5 15 "CarnivalRoad$Search" "open" "[I") (by decide +kernel)) (fun _ h9 => h9) rfl dX5_findNext_120 ?_
            refine lv_aload_n hx hb dX5_findNext_123 rfl (lv_at hl 1 rfl) ?_
            refine va_get (D := D) (ci := 5) (v := .int (zI (Sdep_12 + 1))) (C := RX5) (T := TX5) (N := 8) hx hb hts hinX5 hown hK hw.1 6 rfl rfl 6 (by decide) (hts (.fieldLink RX5 28 "CarnivalRoad$Search" "depth" "I") (by decide +kernel)) (fun _ h9 => h9) rfl dX5_findNext_124 ?_
            refine lv_aload_n hx hb dX5_findNext_127 rfl (lv_at hl 1 rfl) ?_
            refine lv_aload_n hx hb dX5_findNext_128 rfl (lv_at hl 1 rfl) ?_
            refine va_get (D := D) (ci := 5) (v := .int (zI (Sdep_12 + 1))) (C := RX5) (T := TX5) (N := 8) hx hb hts hinX5 hown hK hw.1 6 rfl rfl 6 (by decide) (hts (.fieldLink RX5 28 "CarnivalRoad$Search" "depth" "I") (by decide +kernel)) (fun _ h9 => h9) rfl dX5_findNext_129 ?_
            have hF9 := z_free (wc := kG cI cB cZ oG Gn Gki Gle Glo Gta Gsh ++ kS cI cB cZ oS (oG 0) (uZ Sline_10 Sdep_12 r_34) (uZ Sopn_11 Sdep_12 (sAnd (Sopn_11 Sdep_12) ((Sopn_11 Sdep_12) - 1))) Sbarred Smf Sml (Sdep_12 + 1) Ser) hw hA [0, 1, 2, 3, 4, 5, 6, 7, 8, 9] rfl
            refine va_calli (va_runV (As := [.int (zI (Sdep_12 + 1))]) (rest := [.int (zI (Sdep_12 + 1)), .ref (oS 2)]) ⟨hx, hb, hml, hown, hts⟩ (c_X5_openAt l D cI cB cZ oG oS H.size Gn Gki Gle Glo Gta Gsh (uZ Sline_10 Sdep_12 r_34) (uZ Sopn_11 Sdep_12 (sAnd (Sopn_11 Sdep_12) ((Sopn_11 Sdep_12) - 1))) Sbarred Smf Sml (Sdep_12 + 1) Ser (Sdep_12 + 1) (by omega) qGki qGle qGlo qGta qGsh hR_39 hR_44 qSbarred (by omega) (by omega) (by omega) (by omega) (by omega)) (cwV 1 hts gX5_findNext_X5_openAt rfl rfl rfl (by decide +kernel) ⟨Nat.le_of_ble_eq_true rfl, Nat.le_of_ble_eq_true rfl⟩) ⟨zPre_blind, va_recv hK hw.1 (ci := 5) (q0 := 6) rfl rfl, z_pre hK hw [0, 1, 2, 3, 4, 5, 6, 7, 8, 9] (by decide) rfl⟩ rfl rfl hl.1 rfl (lv_room (Nat.le_of_ble_eq_true rfl)) dX5_findNext_132 ⟨Nat.zero_le _, Nat.zero_le _⟩) hw.2.2 (fun q _ h => hF9 q h) hF9 (fun r9 u9 t9 H_46 locs9 ht9 hvm9 hq9 hB9 hz9 hk9 hS9 => ?_)
            obtain ⟨r_47, rfl⟩ : ∃ z, z = u9 := ⟨_, rfl⟩
            try dsimp only at hq9 hB9
            obtain ⟨rfl, hq9⟩ := hq9
            obtain ⟨hq_48, hq_49⟩ := hq9
            have hw : HW D A s.heap (kG cI cB cZ oG Gn Gki Gle Glo Gta Gsh ++ kS cI cB cZ oS (oG 0) (uZ Sline_10 Sdep_12 r_34) (uZ Sopn_11 Sdep_12 (sAnd (Sopn_11 Sdep_12) ((Sopn_11 Sdep_12) - 1))) Sbarred Smf Sml (Sdep_12 + 1) Ser) H_46 locs9 := z_after (wc := kG cI cB cZ oG Gn Gki Gle Glo Gta Gsh ++ kS cI cB cZ oS (oG 0) (uZ Sline_10 Sdep_12 r_34) (uZ Sopn_11 Sdep_12 (sAnd (Sopn_11 Sdep_12) ((Sopn_11 Sdep_12) - 1))) Sbarred Smf Sml (Sdep_12 + 1) Ser) hw [0, 1, 2, 3, 4, 5, 6, 7, 8, 9] [] rfl rfl (by decide) (by decide) hF9 hk9 ht9 hB9 hS9 [0, 1, 2, 3, 4, 5, 6, 7, 8, 9] (by decide) rfl
            clear hF9 ht9 hvm9 hB9 hz9 hk9 hS9
            have hi_50 : (0 : Int) ≤ (Sdep_12 + 1) ∧ (Sdep_12 + 1) < ((8 : Nat) : Int) := by
              first | assumption | omega | grind
            have hv_51 : (0 : Int) ≤ r_47 ∧ r_47 ≤ 255 := by
              first | assumption | omega | grind
            have hR_52 : RA (uZ (uZ Sopn_11 Sdep_12 (sAnd (Sopn_11 Sdep_12) ((Sopn_11 Sdep_12) - 1))) (Sdep_12 + 1) r_47) (0) 255 := RA_up hR_44 hv_51
            refine z_iast (n := 8) (f := (uZ Sopn_11 Sdep_12 (sAnd (Sopn_11 Sdep_12) ((Sopn_11 Sdep_12) - 1)))) (ws2 := kG cI cB cZ oG Gn Gki Gle Glo Gta Gsh ++ kS cI cB cZ oS (oG 0) (uZ Sline_10 Sdep_12 r_34) (uZ (uZ Sopn_11 Sdep_12 (sAnd (Sopn_11 Sdep_12) ((Sopn_11 Sdep_12) - 1))) (Sdep_12 + 1) r_47) Sbarred Smf Sml (Sdep_12 + 1) Ser) hx hb hK hw 8 rfl (by decide) hi_50 dX5_findNext_135 rfl (fun H locs hw => ?_)
            refine z_iinc (k := 2) (lv' := [(1, .int (zI (i_9 + 1))), (2, .int (zI (Sopn_11 Sdep_12))), (0, .ref (oS 0))]) hx hb dX5_findNext_136 hl rfl (by decide) rfl (fun ls hl => ?_)
            refine lv_goto (tgt := 24) hx hb dX5_findNext_139 (by decide) ?_
            have hv_53 : (-1 : Int) ≤ (Sdep_12 + 1) ∧ (Sdep_12 + 1) ≤ 7 := by
              first | assumption | omega | grind
            have hv_54 : 0 ≤ (i_9 + 1) ∧ (i_9 + 1) ≤ 200000 := by
              first | (have q := (fn_pop (K := K) (R := R) (line := Sline_10) (opn := Sopn_11) (dep := Sdep_12) (by assumption) (by assumption) (by omega) (by assumption)).2.2; omega) | (have q := (fn_push (K := K) (R := R) (line := Sline_10) (opn := Sopn_11) (dep := Sdep_12) (by omega) (sr_pos hp0 (by omega)).2.2.1 (by assumption) (by assumption) (by assumption) (by assumption) ⟨by omega, by omega, by omega⟩ (by omega) (by omega)).2.2; omega)
            have hv_55 : siP Gn (uZ Sline_10 Sdep_12 r_34) (uZ (uZ Sopn_11 Sdep_12 (sAnd (Sopn_11 Sdep_12) ((Sopn_11 Sdep_12) - 1))) (Sdep_12 + 1) r_47) Sbarred Smf Sml (Sdep_12 + 1) := by
              first | exact (fn_pop (K := K) (R := R) (line := Sline_10) (opn := Sopn_11) (dep := Sdep_12) (by assumption) (by assumption) (by omega) (by assumption)).1 | exact (fn_push (K := K) (R := R) (line := Sline_10) (opn := Sopn_11) (dep := Sdep_12) (by omega) (sr_pos hp0 (by omega)).2.2.1 (by assumption) (by assumption) (by assumption) (by assumption) ⟨by omega, by omega, by omega⟩ (by omega) (by omega)).1
            have hv_56 : R = remL K Gn (uZ Sline_10 Sdep_12 r_34) (uZ (uZ Sopn_11 Sdep_12 (sAnd (Sopn_11 Sdep_12) ((Sopn_11 Sdep_12) - 1))) (Sdep_12 + 1) r_47) ((Sdep_12 + 1) + 1).toNat := by
              first | exact (fn_pop (K := K) (R := R) (line := Sline_10) (opn := Sopn_11) (dep := Sdep_12) (by assumption) (by assumption) (by omega) (by assumption)).2.1 | exact (fn_push (K := K) (R := R) (line := Sline_10) (opn := Sopn_11) (dep := Sdep_12) (by omega) (sr_pos hp0 (by omega)).2.2.1 (by assumption) (by assumption) (by assumption) (by assumption) ⟨by omega, by omega, by omega⟩ (by omega) (by omega)).2.1
            have hv_57 : costL Gn.toNat (uZ (uZ Sopn_11 Sdep_12 (sAnd (Sopn_11 Sdep_12) ((Sopn_11 Sdep_12) - 1))) (Sdep_12 + 1) r_47) ((Sdep_12 + 1) + 1).toNat + (i_9 + 1).toNat ≤ 200000 := by
              first | (have q := (fn_pop (K := K) (R := R) (line := Sline_10) (opn := Sopn_11) (dep := Sdep_12) (by assumption) (by assumption) (by omega) (by assumption)).2.2; omega) | (have q := (fn_push (K := K) (R := R) (line := Sline_10) (opn := Sopn_11) (dep := Sdep_12) (by omega) (sr_pos hp0 (by omega)).2.2.1 (by assumption) (by assumption) (by assumption) (by assumption) ⟨by omega, by omega, by omega⟩ (by omega) (by omega)).2.2; omega)
            have hv_58 : -1 ≤ (Sdep_12 + 1) ∧ (Sdep_12 + 1) < Gn := by
              first | assumption | omega | grind
            have hm_59 : costL Gn.toNat (uZ (uZ Sopn_11 Sdep_12 (sAnd (Sopn_11 Sdep_12) ((Sopn_11 Sdep_12) - 1))) (Sdep_12 + 1) r_47) ((Sdep_12 + 1) + 1).toNat < costL Gn.toNat Sopn_11 (Sdep_12 + 1).toNat := by
              first | exact (fn_pop (K := K) (R := R) (line := Sline_10) (opn := Sopn_11) (dep := Sdep_12) (by assumption) (by assumption) (by omega) (by assumption)).2.2 | exact (fn_push (K := K) (R := R) (line := Sline_10) (opn := Sopn_11) (dep := Sdep_12) (by omega) (sr_pos hp0 (by omega)).2.2.1 (by assumption) (by assumption) (by assumption) (by assumption) ⟨by omega, by omega, by omega⟩ (by omega) (by omega)).2.2
            exact ih_8 ((i_9 + 1), (uZ Sline_10 Sdep_12 r_34), (uZ (uZ Sopn_11 Sdep_12 (sAnd (Sopn_11 Sdep_12) ((Sopn_11 Sdep_12) - 1))) (Sdep_12 + 1) r_47), (Sdep_12 + 1)) _ _ _ ⟨hR_39, hR_52, hv_53, hv_54, hv_55, hv_56, hv_57, hv_58, hw, lv_sub hl [2, 0] rfl⟩ hm_59
          · skip
            refine z_iconst hx hb dX5_findNext_107 ?_
            have hv_60 : (-1 : Int) ≤ Sdep_12 ∧ Sdep_12 ≤ 7 := by
              first | assumption | omega | grind
            have hv_61 : (0 : Int) ≤ Ser ∧ Ser ≤ 1 := by
              first | assumption | omega | grind
            have hv_62 : ∃ R', srP K Gn (uZ Sline_10 Sdep_12 r_34) (uZ Sopn_11 Sdep_12 (sAnd (Sopn_11 Sdep_12) ((Sopn_11 Sdep_12) - 1))) Sbarred Smf Sml Sdep_12 Ser R' ∧ (((1 : Int) = 1 ∧ R = preL (uZ Sline_10 Sdep_12 r_34) Gn.toNat :: R') ∨ ((1 : Int) = 0 ∧ R = [] ∧ R' = [])) := by
              exact sr_leaf hp0 (by omega) (by assumption) (by assumption) (by assumption) (by omega) (by omega) (by omega) (by omega)
            exact W.zret (v := zI 1) hx hb hr rfl (fun t9 ht hW => ⟨⟨zI 1, (1, (uZ Sline_10 Sdep_12 r_34), (uZ Sopn_11 Sdep_12 (sAnd (Sopn_11 Sdep_12) ((Sopn_11 Sdep_12) - 1))), Sdep_12, Ser), rfl, ⟨rfl, ⟨hR_39, hR_44, hv_60, hv_61, hv_62⟩⟩, by subst hAe; exact z_end hK hw ht hW⟩, by subst hAe; exact hw.2.2.F ht⟩) (by subst hAe; exact hw.2.2.2.2) dX5_findNext_108
        · skip
          refine lv_aload_n hx hb dX5_findNext_51 rfl (lv_at hl 1 rfl) ?_
          refine lv_dup hx hb dX5_findNext_52 rfl ?_
          refine va_get (D := D) (ci := 5) (v := .int (zI Sdep_12)) (C := RX5) (T := TX5) (N := 8) hx hb hts hinX5 hown hK hw.1 6 rfl rfl 6 (by decide) (hts (.fieldLink RX5 28 "CarnivalRoad$Search" "depth" "I") (by decide +kernel)) (fun _ h9 => h9) rfl dX5_findNext_53 ?_
          refine z_iconst hx hb dX5_findNext_56 ?_
          refine z_isub hx hb dX5_findNext_57 ?_
          refine z_put (D := D) (ci := 5) (v := .int (zI (Sdep_12 - 1))) (ty := .int) (C := RX5) (T := TX5) (N := 8) (ws2 := kG cI cB cZ oG Gn Gki Gle Glo Gta Gsh ++ kS cI cB cZ oS (oG 0) Sline_10 Sopn_11 Sbarred Smf Sml (Sdep_12 - 1) Ser) hx hb hts hinX5 tyX5 tyX5_ok nmX5 hown hK hw 6 rfl rfl 6 (by decide) (hts (.fieldLink RX5 28 "CarnivalRoad$Search" "depth" "I") (by decide +kernel)) (fun _ h9 => h9) rfl (by decide +kernel) rfl rfl (Nat.le_of_ble_eq_true rfl) dX5_findNext_58 rfl (fun H locs hw => ?_)
          refine lv_goto (tgt := 136) hx hb dX5_findNext_61 (by decide) ?_
          refine z_iinc (k := 2) (lv' := [(1, .int (zI (i_9 + 1))), (2, .int (zI (Sopn_11 Sdep_12))), (0, .ref (oS 0))]) hx hb dX5_findNext_136 hl rfl (by decide) rfl (fun ls hl => ?_)
          refine lv_goto (tgt := 24) hx hb dX5_findNext_139 (by decide) ?_
          have hv_63 : (-1 : Int) ≤ (Sdep_12 - 1) ∧ (Sdep_12 - 1) ≤ 7 := by
            first | assumption | omega | grind
          have hv_64 : 0 ≤ (i_9 + 1) ∧ (i_9 + 1) ≤ 200000 := by
            first | (have q := (fn_pop (K := K) (R := R) (line := Sline_10) (opn := Sopn_11) (dep := Sdep_12) (by assumption) (by assumption) (by omega) (by assumption)).2.2; omega) | (have q := (fn_push (K := K) (R := R) (line := Sline_10) (opn := Sopn_11) (dep := Sdep_12) (by omega) (sr_pos hp0 (by omega)).2.2.1 (by assumption) (by assumption) (by assumption) (by assumption) ⟨by omega, by omega, by omega⟩ (by omega) (by omega)).2.2; omega)
          have hv_65 : siP Gn Sline_10 Sopn_11 Sbarred Smf Sml (Sdep_12 - 1) := by
            first | exact (fn_pop (K := K) (R := R) (line := Sline_10) (opn := Sopn_11) (dep := Sdep_12) (by assumption) (by assumption) (by omega) (by assumption)).1 | exact (fn_push (K := K) (R := R) (line := Sline_10) (opn := Sopn_11) (dep := Sdep_12) (by omega) (sr_pos hp0 (by omega)).2.2.1 (by assumption) (by assumption) (by assumption) (by assumption) ⟨by omega, by omega, by omega⟩ (by omega) (by omega)).1
          have hv_66 : R = remL K Gn Sline_10 Sopn_11 ((Sdep_12 - 1) + 1).toNat := by
            first | exact (fn_pop (K := K) (R := R) (line := Sline_10) (opn := Sopn_11) (dep := Sdep_12) (by assumption) (by assumption) (by omega) (by assumption)).2.1 | exact (fn_push (K := K) (R := R) (line := Sline_10) (opn := Sopn_11) (dep := Sdep_12) (by omega) (sr_pos hp0 (by omega)).2.2.1 (by assumption) (by assumption) (by assumption) (by assumption) ⟨by omega, by omega, by omega⟩ (by omega) (by omega)).2.1
          have hv_67 : costL Gn.toNat Sopn_11 ((Sdep_12 - 1) + 1).toNat + (i_9 + 1).toNat ≤ 200000 := by
            first | (have q := (fn_pop (K := K) (R := R) (line := Sline_10) (opn := Sopn_11) (dep := Sdep_12) (by assumption) (by assumption) (by omega) (by assumption)).2.2; omega) | (have q := (fn_push (K := K) (R := R) (line := Sline_10) (opn := Sopn_11) (dep := Sdep_12) (by omega) (sr_pos hp0 (by omega)).2.2.1 (by assumption) (by assumption) (by assumption) (by assumption) ⟨by omega, by omega, by omega⟩ (by omega) (by omega)).2.2; omega)
          have hv_68 : -1 ≤ (Sdep_12 - 1) ∧ (Sdep_12 - 1) < Gn := by
            first | assumption | omega | grind
          have hm_69 : costL Gn.toNat Sopn_11 ((Sdep_12 - 1) + 1).toNat < costL Gn.toNat Sopn_11 (Sdep_12 + 1).toNat := by
            first | exact (fn_pop (K := K) (R := R) (line := Sline_10) (opn := Sopn_11) (dep := Sdep_12) (by assumption) (by assumption) (by omega) (by assumption)).2.2 | exact (fn_push (K := K) (R := R) (line := Sline_10) (opn := Sopn_11) (dep := Sdep_12) (by omega) (sr_pos hp0 (by omega)).2.2.1 (by assumption) (by assumption) (by assumption) (by assumption) ⟨by omega, by omega, by omega⟩ (by omega) (by omega)).2.2
          exact ih_8 ((i_9 + 1), Sline_10, Sopn_11, (Sdep_12 - 1)) _ _ _ ⟨hR_13, hR_14, hv_63, hv_64, hv_65, hv_66, hv_67, hv_68, hw, lv_sub hl [2, 0] rfl⟩ hm_69
  · skip
    refine lv_aload_n hx hb dX5_findNext_10 rfl (lv_at hl 0 rfl) ?_
    refine va_get (D := D) (ci := 5) (v := .int (zI Ser)) (C := RX5) (T := TX5) (N := 8) hx hb hts hinX5 hown hK hw.1 6 rfl rfl 7 (by decide) (hts (.fieldLink RX5 31 "CarnivalRoad$Search" "emptyRowLeft" "Z") (by decide +kernel)) (fun _ h9 => h9) rfl dX5_findNext_11 ?_
    refine lv_istore_n (lv' := [(1, .int (zI Ser)), (0, .ref (oS 0))]) hx hb dX5_findNext_14 rfl hl (by decide) rfl (fun ls hl => ?_)
    refine lv_aload_n hx hb dX5_findNext_15 rfl (lv_at hl 1 rfl) ?_
    refine z_iconst hx hb dX5_findNext_16 ?_
    refine z_put (D := D) (ci := 5) (v := .int (zI 0)) (ty := .boolean) (C := RX5) (T := TX5) (N := 8) (ws2 := kG cI cB cZ oG Gn Gki Gle Glo Gta Gsh ++ kS cI cB cZ oS (oG 0) Sline Sopn Sbarred Smf Sml Sdep 0) hx hb hts hinX5 tyX5 tyX5_ok nmX5 hown hK hw 6 rfl rfl 7 (by decide) (hts (.fieldLink RX5 31 "CarnivalRoad$Search" "emptyRowLeft" "Z") (by decide +kernel)) (fun _ h9 => h9) rfl (by decide +kernel) rfl rfl (Nat.le_of_ble_eq_true rfl) dX5_findNext_17 rfl (fun H locs hw => ?_)
    refine lv_iload_n hx hb dX5_findNext_20 rfl (lv_at hl 0 rfl) ?_
    have hv_70 : (-1 : Int) ≤ Sdep ∧ Sdep ≤ 7 := by
      first | assumption | omega | grind
    have hv_71 : (0 : Int) ≤ (0 : Int) ∧ (0 : Int) ≤ 1 := by
      first | assumption | omega | grind
    have hv_72 : ∃ R', srP K Gn Sline Sopn Sbarred Smf Sml Sdep (0 : Int) R' ∧ ((Ser = 1 ∧ R = preL Sline Gn.toNat :: R') ∨ (Ser = 0 ∧ R = [] ∧ R' = [])) := by
      exact sr_zero hp0 (by omega) _ _ _
    exact W.zret (v := zI Ser) hx hb hr (z_narZ (by omega)) (fun t9 ht hW => ⟨⟨zI Ser, (Ser, Sline, Sopn, Sdep, 0), rfl, ⟨rfl, ⟨qSline, qSopn, hv_70, hv_71, hv_72⟩⟩, by subst hAe; exact z_end hK hw ht hW⟩, by subst hAe; exact hw.2.2.F ht⟩) (by subst hAe; exact hw.2.2.2.2) dX5_findNext_21
