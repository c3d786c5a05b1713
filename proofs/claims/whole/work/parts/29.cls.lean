set_option maxRecDepth 100000 in
set_option maxHeartbeats 4000000 in
theorem c_X7_lay (l : Launch) (D : va_G) (cI cB cZ : ClassId) (oG : Nat → Nat) (oC : Nat → Nat) (aCreader : Nat) (aCbars : Nat) (aCspare : Nat) (aCsearch : Nat) (aCbreach : Nat) (aCstreet : Nat) (aCparade : Nat) (aCtrial : Nat) (sz : Nat) (Gn : Int) (Gki : Int → Int) (Gle : Int → Int) (Glo : Int → Int) (Gta : Int → Int) (Gsh : Int → Int) (Crow : Int → Int) (Cquiet : Int → Int) (Crun : Int) (v : Int) (qGn : 0 ≤ Gn ∧ Gn ≤ 8) (qGki : RA Gki (0) 4) (qGle : RA Gle (0) 5) (qGlo : RA Glo (0) 9) (qGta : RA Gta (0) 9) (qGsh : RA Gsh (0) 9) (qCrow : RA Crow (0) 7) (qCquiet : RA Cquiet (0) 7) (qCrun : 0 ≤ Crun ∧ Crun ≤ 1) (qv : -2147483648 ≤ v ∧ v ≤ 2147483647) : Met l yX7_lay wsX7_lay ({ frames := 0, cells := 0, slots := 0, locals := 0 }) (va_Pc [.ref (oC 0), .int (zI v)] (zPre D cI cB cZ sz (kG cI cB cZ oG Gn Gki Gle Glo Gta Gsh ++ kC cI cB cZ oC (oG 0) Crow Cquiet aCreader aCbars aCspare aCsearch aCbreach aCstreet aCparade aCtrial Crun))) (va_Qi (fun (r9 : Int32) (u9 : Int × (Int → Int) × Int) => r9 = zI u9.1 ∧ ((RA u9.2.1 (0) 7) ∧ ((0 : Int) ≤ u9.2.2 ∧ u9.2.2 ≤ 1) ∧ ((layP Gn v ∧ u9.1 = 1 ∧ u9.2.2 = 0 ∧ ∀ k, 0 ≤ k → k < Gn → u9.2.1 k = nib v k) ∨ (¬ layP Gn v ∧ u9.1 = 0 ∧ u9.2.1 = Crow ∧ u9.2.2 = Crun)))) (fun u9 t9 => zAt D cI cB cZ (va_A (kG cI cB cZ oG Gn Gki Gle Glo Gta Gsh ++ kC cI cB cZ oC (oG 0) Crow Cquiet aCreader aCbars aCspare aCsearch aCbreach aCstreet aCparade aCtrial Crun) sz) (kG cI cB cZ oG Gn Gki Gle Glo Gta Gsh ++ kC cI cB cZ oC (oG 0) (u9.2.1) Cquiet aCreader aCbars aCspare aCsearch aCbreach aCstreet aCparade aCtrial (u9.2.2)) t9) (va_A (kG cI cB cZ oG Gn Gki Gle Glo Gta Gsh ++ kC cI cB cZ oC (oG 0) Crow Cquiet aCreader aCbars aCspare aCsearch aCbreach aCstreet aCparade aCtrial Crun) sz)) 0 0 (va_A (kG cI cB cZ oG Gn Gki Gle Glo Gta Gsh ++ kC cI cB cZ oC (oG 0) Crow Cquiet aCreader aCbars aCspare aCsearch aCbreach aCstreet aCparade aCtrial Crun) sz) := by
  refine Met.ofW (cc := cX7_lay) (maxL := 4) (ret := (some .boolean)) (by decide) rfl ?_
  intro pp ee s mm aa bw mt cd s₁ BL hml hv
  obtain ⟨rfl, hsz, hP, hK, hD0⟩ := hv
  have hx := BL.exec
  have hb := BL.bytes
  have hr := BL.returns
  have hts := atoms_spec (ws := wsX7_lay) BL.pre
  have hown : s.vm.findClass RX7 = some mm.cls := findClass_of_methodNamed BL.named
  have hlocks := BL.notSynchronized
  subst hsz
  generalize hAe : va_A (kG cI cB cZ oG Gn Gki Gle Glo Gta Gsh ++ kC cI cB cZ oC (oG 0) Crow Cquiet aCreader aCbars aCspare aCsearch aCbreach aCstreet aCparade aCtrial Crun) s.heap.size = A
  have hA : ∀ q : Nat, s.heap.size ≤ q → A q := fun q h => by rw [← hAe]; exact Or.inr h
  have hw : HW D A s.heap (kG cI cB cZ oG Gn Gki Gle Glo Gta Gsh ++ kC cI cB cZ oC (oG 0) Crow Cquiet aCreader aCbars aCspare aCsearch aCbreach aCstreet aCparade aCtrial Crun) s.heap [] := z_start hAe hP hD0
  clear hP hD0
  have hl := lv_entry ([.ref (oC 0), .int (zI v)]) (n := 4) (Nat.le_of_ble_eq_true rfl)
  rw [lg_entry_eq]
  generalize (lg_sl ([.ref (oC 0), .int (zI v)]) ++ List.replicate (4 - (lg_sl ([.ref (oC 0), .int (zI v)])).length) Slot.unset).toArray = ls at hl ⊢
  have hl : lv_has ls 4 [(0, .ref (oC 0)), (1, .int (zI v))] := hl
  have hinX2 : ∀ w ∈ wsX20, w ∈ wsX7_lay := by decide +kernel
  have hinX7 : ∀ w ∈ wsX70, w ∈ wsX7_lay := by decide +kernel
  refine z_iconst hx hb dX7_lay_0 ?_
  refine lv_istore_n (lv' := [(2, .int (zI 0)), (0, .ref (oC 0)), (1, .int (zI v))]) hx hb dX7_lay_1 rfl hl (by decide) rfl (fun ls hl => ?_)
  refine z_iconst hx hb dX7_lay_2 ?_
  refine lv_istore_n (lv' := [(3, .int (zI 0)), (2, .int (zI 0)), (0, .ref (oC 0)), (1, .int (zI v))]) hx hb dX7_lay_3 rfl hl (by decide) rfl (fun ls hl => ?_)
  have hv_1 : 0 ≤ (0 : Int) ∧ (0 : Int) ≤ Gn := by
    first | assumption | omega | grind
  have hv_2 : 0 ≤ (0 : Int) ∧ (0 : Int) ≤ 65535 := by
    first | assumption | omega | grind
  have hv_3 : ∀ j, 0 ≤ j → j ≤ 15 → (mb (0 : Int) j ↔ ∃ k, 0 ≤ k ∧ k < (0 : Int) ∧ nib v k = j) := by
    intro j j0 j1
    exact ⟨fun q => absurd q mb_0, fun ⟨k, k0, k1, _⟩ => absurd k1 (by omega)⟩
  refine z_loop (σ := Int × Int) (μ := fun x9 => (9 - (x9.2)).toNat) (I := fun x9 H locs ls => (0 ≤ (x9.2) ∧ (x9.2) ≤ Gn) ∧ (0 ≤ (x9.1) ∧ (x9.1) ≤ 65535) ∧ (∀ j, 0 ≤ j → j ≤ 15 → (mb (x9.1) j ↔ ∃ k, 0 ≤ k ∧ k < (x9.2) ∧ nib v k = j)) ∧ HW D A s.heap (kG cI cB cZ oG Gn Gki Gle Glo Gta Gsh ++ kC cI cB cZ oC (oG 0) Crow Cquiet aCreader aCbars aCspare aCsearch aCbreach aCstreet aCparade aCtrial Crun) H locs ∧ lv_has ls 4 [(0, .ref (oC 0)), (1, .int (zI v)), (2, .int (zI (x9.1))), (3, .int (zI (x9.2)))]) (0, 0) ⟨hv_1, hv_2, hv_3, hw, lv_sub hl [2, 3, 1, 0] rfl⟩ ?_
  clear hw hl
  intro x9 H locs ls hI ih_4
  obtain ⟨seen_5, i_6⟩ := x9
  try dsimp only at hI
  obtain ⟨hI_7, hI_8, hI_9, hw, hl⟩ := hI
  refine lv_iload_n hx hb dX7_lay_4 rfl (lv_at hl 3 rfl) ?_
  refine lv_aload_n hx hb dX7_lay_5 rfl (lv_at hl 0 rfl) ?_
  refine va_get (D := D) (ci := 7) (v := .ref (oG 0)) (C := RX7) (T := TX7) (N := 12) hx hb hts hinX7 hown hK hw.1 6 rfl rfl 0 (by decide) (hts (.fieldLink RX7 10 "CarnivalRoad" "guests" "LCarnivalRoad$Guests;") (by decide +kernel)) (fun _ h9 => h9) rfl dX7_lay_6 ?_
  refine va_get (D := D) (ci := 2) (v := .int (zI Gn)) (C := RX2) (T := TX2) (N := 6) hx hb hts hinX2 hown hK hw.1 0 rfl rfl 0 (by decide) (hts (.fieldLink RX7 79 "CarnivalRoad$Guests" "count" "I") (by decide +kernel)) (fun _ h9 => h9) rfl dX7_lay_9 ?_
  refine z_icmp_ge (tgt := 34) hx hb dX7_lay_12 (by decide) (by omega) (fun hc_10 => ?_) (fun hc_10 => ?_)
  · skip
    refine lv_iload_n hx hb dX7_lay_34 rfl (lv_at hl 2 rfl) ?_
    refine z_iconst hx hb dX7_lay_35 ?_
    refine lv_aload_n hx hb dX7_lay_36 rfl (lv_at hl 0 rfl) ?_
    refine va_get (D := D) (ci := 7) (v := .ref (oG 0)) (C := RX7) (T := TX7) (N := 12) hx hb hts hinX7 hown hK hw.1 6 rfl rfl 0 (by decide) (hts (.fieldLink RX7 10 "CarnivalRoad" "guests" "LCarnivalRoad$Guests;") (by decide +kernel)) (fun _ h9 => h9) rfl dX7_lay_37 ?_
    refine va_get (D := D) (ci := 2) (v := .int (zI Gn)) (C := RX2) (T := TX2) (N := 6) hx hb hts hinX2 hown hK hw.1 0 rfl rfl 0 (by decide) (hts (.fieldLink RX7 79 "CarnivalRoad$Guests" "count" "I") (by decide +kernel)) (fun _ h9 => h9) rfl dX7_lay_40 ?_
    have hbit_11 : zI 1 <<< (zI Gn &&& 31) = zI (sBit Gn) := by
      exact z_shl1 (by omega)
    refine lv_ishl hx hb dX7_lay_43 ?_
    rw [hbit_11]
    clear hbit_11
    have hq_12 : 1 ≤ (sBit Gn) ∧ (sBit Gn) ≤ 256 := by
      exact sBit_8 _ (by omega)
    refine z_iconst hx hb dX7_lay_44 ?_
    refine z_isub hx hb dX7_lay_45 ?_
    refine z_icmp_eq (tgt := 51) hx hb dX7_lay_46 (by decide) (by omega) (fun hc_13 => ?_) (fun hc_13 => ?_)
    · skip
      refine z_iconst hx hb dX7_lay_51 ?_
      refine lv_istore_n (lv' := [(3, .int (zI 0)), (0, .ref (oC 0)), (1, .int (zI v)), (2, .int (zI seen_5))]) hx hb dX7_lay_52 rfl hl (by decide) rfl (fun ls hl => ?_)
      have hv_14 : 0 ≤ (0 : Int) ∧ (0 : Int) ≤ Gn := by
        first | assumption | omega | grind
      have hv_15 : layP Gn v := by
        exact (lay_eq (by omega) (by omega) (bb_i (by assumption) (by omega))).mp (by omega)
      have hv_16 : ∀ k, 0 ≤ k → k < (0 : Int) → Crow k = nib v k := by
        exact all_0
      refine z_loop (σ := Int × (Int → Int)) (μ := fun x9 => (9 - (x9.1)).toNat) (I := fun x9 H locs ls => (RA (x9.2) (0) 7) ∧ (0 ≤ (x9.1) ∧ (x9.1) ≤ Gn) ∧ (layP Gn v) ∧ (∀ k, 0 ≤ k → k < (x9.1) → (x9.2) k = nib v k) ∧ HW D A s.heap (kG cI cB cZ oG Gn Gki Gle Glo Gta Gsh ++ kC cI cB cZ oC (oG 0) (x9.2) Cquiet aCreader aCbars aCspare aCsearch aCbreach aCstreet aCparade aCtrial Crun) H locs ∧ lv_has ls 4 [(0, .ref (oC 0)), (1, .int (zI v)), (3, .int (zI (x9.1)))]) (0, Crow) ⟨qCrow, hv_14, hv_15, hv_16, hw, lv_sub hl [1, 2, 0] rfl⟩ ?_
      clear hw hl
      intro x9 H locs ls hI ih_17
      obtain ⟨i_18, Crow_19⟩ := x9
      try dsimp only at hI
      obtain ⟨hR_20, hI_21, hI_22, hI_23, hw, hl⟩ := hI
      refine lv_iload_n hx hb dX7_lay_53 rfl (lv_at hl 2 rfl) ?_
      refine lv_aload_n hx hb dX7_lay_54 rfl (lv_at hl 0 rfl) ?_
      refine va_get (D := D) (ci := 7) (v := .ref (oG 0)) (C := RX7) (T := TX7) (N := 12) hx hb hts hinX7 hown hK hw.1 6 rfl rfl 0 (by decide) (hts (.fieldLink RX7 10 "CarnivalRoad" "guests" "LCarnivalRoad$Guests;") (by decide +kernel)) (fun _ h9 => h9) rfl dX7_lay_55 ?_
      refine va_get (D := D) (ci := 2) (v := .int (zI Gn)) (C := RX2) (T := TX2) (N := 6) hx hb hts hinX2 hown hK hw.1 0 rfl rfl 0 (by decide) (hts (.fieldLink RX7 79 "CarnivalRoad$Guests" "count" "I") (by decide +kernel)) (fun _ h9 => h9) rfl dX7_lay_58 ?_
      refine z_icmp_ge (tgt := 84) hx hb dX7_lay_61 (by decide) (by omega) (fun hc_24 => ?_) (fun hc_24 => ?_)
      · skip
        refine lv_aload_n hx hb dX7_lay_84 rfl (lv_at hl 0 rfl) ?_
        refine z_iconst hx hb dX7_lay_85 ?_
        refine z_put (D := D) (ci := 7) (v := .int (zI 0)) (ty := .boolean) (C := RX7) (T := TX7) (N := 12) (ws2 := kG cI cB cZ oG Gn Gki Gle Glo Gta Gsh ++ kC cI cB cZ oC (oG 0) Crow_19 Cquiet aCreader aCbars aCspare aCsearch aCbreach aCstreet aCparade aCtrial 0) hx hb hts hinX7 tyX7 tyX7_ok nmX7 hown hK hw 6 rfl rfl 11 (by decide) (hts (.fieldLink RX7 75 "CarnivalRoad" "running" "Z") (by decide +kernel)) (fun _ h9 => h9) rfl (by decide +kernel) rfl rfl (Nat.le_of_ble_eq_true rfl) dX7_lay_86 rfl (fun H locs hw => ?_)
        refine z_iconst hx hb dX7_lay_89 ?_
        have hv_25 : (0 : Int) ≤ (0 : Int) ∧ (0 : Int) ≤ 1 := by
          first | assumption | omega | grind
        have hv_26 : (layP Gn v ∧ (1 : Int) = 1 ∧ (0 : Int) = 0 ∧ ∀ k, 0 ≤ k → k < Gn → Crow_19 k = nib v k) ∨ (¬ layP Gn v ∧ (1 : Int) = 0 ∧ Crow_19 = Crow ∧ (0 : Int) = Crun) := by
          exact Or.inl ⟨by assumption, rfl, rfl, all_le (by assumption) (by omega)⟩
        exact W.zret (v := zI 1) hx hb hr rfl (fun t9 ht hW => ⟨⟨zI 1, (1, Crow_19, 0), rfl, ⟨rfl, ⟨hR_20, hv_25, hv_26⟩⟩, by subst hAe; exact z_end hK hw ht hW⟩, by subst hAe; exact hw.2.2.F ht⟩) (by subst hAe; exact hw.2.2.2.2) dX7_lay_90
      · skip
        refine lv_aload_n hx hb dX7_lay_64 rfl (lv_at hl 0 rfl) ?_
        refine va_get (D := D) (ci := 7) (v := .ref (oC 1)) (C := RX7) (T := TX7) (N := 12) hx hb hts hinX7 hown hK hw.1 6 rfl rfl 1 (by decide) (hts (.fieldLink RX7 16 "CarnivalRoad" "row" "[I") (by decide +kernel)) (fun _ h9 => h9) rfl dX7_lay_65 ?_
        refine lv_iload_n hx hb dX7_lay_68 rfl (lv_at hl 2 rfl) ?_
        refine lv_iload_n hx hb dX7_lay_69 rfl (lv_at hl 1 rfl) ?_
        refine z_iconst hx hb dX7_lay_70 ?_
        refine lv_iload_n hx hb dX7_lay_71 rfl (lv_at hl 2 rfl) ?_
        refine z_imul hx hb dX7_lay_72 ?_
        have hbit_27 : ((zI v).toUInt32 >>> ((zI (4 * i_18)).toUInt32 &&& Int32.toUInt32 31)).toInt32 = zI (ushF v (4 * i_18)) := by
          exact z_ushr (by omega)
        refine lv_iushr hx hb dX7_lay_73 hbit_27 ?_
        clear hbit_27
        refine z_bipush hx hb dX7_lay_74 (by decide) ?_
        have hbit_28 : zI (ushF v (4 * i_18)) &&& zI 15 = zI (nib v i_18) := by
          rw [z_15, ush_nib (by omega)]
        refine lv_iand hx hb dX7_lay_76 ?_
        rw [hbit_28]
        clear hbit_28
        have hq_29 : 0 ≤ nib v i_18 ∧ nib v i_18 ≤ 15 := by
          exact nib_r
        have hi_30 : (0 : Int) ≤ i_18 ∧ i_18 < ((8 : Nat) : Int) := by
          first | assumption | omega | grind
        have hv_31 : (0 : Int) ≤ (nib v i_18) ∧ (nib v i_18) ≤ 7 := by
          have q := (by assumption : layP Gn v).1 i_18 (by omega) (by omega)
          omega
        have hR_32 : RA (uZ Crow_19 i_18 (nib v i_18)) (0) 7 := RA_up hR_20 hv_31
        refine z_iast (n := 8) (f := Crow_19) (ws2 := kG cI cB cZ oG Gn Gki Gle Glo Gta Gsh ++ kC cI cB cZ oC (oG 0) (uZ Crow_19 i_18 (nib v i_18)) Cquiet aCreader aCbars aCspare aCsearch aCbreach aCstreet aCparade aCtrial Crun) hx hb hK hw 7 rfl (by decide) hi_30 dX7_lay_77 rfl (fun H locs hw => ?_)
        refine z_iinc (k := 2) (lv' := [(3, .int (zI (i_18 + 1))), (0, .ref (oC 0)), (1, .int (zI v))]) hx hb dX7_lay_78 hl rfl (by decide) rfl (fun ls hl => ?_)
        refine lv_goto (tgt := 53) hx hb dX7_lay_81 (by decide) ?_
        have hv_33 : 0 ≤ (i_18 + 1) ∧ (i_18 + 1) ≤ Gn := by
          first | assumption | omega | grind
        have hv_34 : layP Gn v := by
          first | assumption | omega | grind
        have hv_35 : ∀ k, 0 ≤ k → k < (i_18 + 1) → (uZ Crow_19 i_18 (nib v i_18)) k = nib v k := by
          refine all_s (fun k k0 k1 => ?_) uZ_s
          rw [uZ_n (by omega)]
          revert k1
          revert k0
          revert k
          assumption
        have hm_36 : (9 - (i_18 + 1)).toNat < (9 - i_18).toNat := by
          first | assumption | omega | grind
        exact ih_17 ((i_18 + 1), (uZ Crow_19 i_18 (nib v i_18))) _ _ _ ⟨hR_32, hv_33, hv_34, hv_35, hw, lv_sub hl [1, 2, 0] rfl⟩ hm_36
    · skip
      refine z_iconst hx hb dX7_lay_49 ?_
      have hv_37 : (0 : Int) ≤ Crun ∧ Crun ≤ 1 := by
        first | assumption | omega | grind
      have hv_38 : (layP Gn v ∧ (0 : Int) = 1 ∧ Crun = 0 ∧ ∀ k, 0 ≤ k → k < Gn → Crow k = nib v k) ∨ (¬ layP Gn v ∧ (0 : Int) = 0 ∧ Crow = Crow ∧ Crun = Crun) := by
        refine Or.inr ⟨fun q => ?_, rfl, rfl, rfl⟩
        exact absurd ((lay_eq (by omega) (by omega) (bb_i (by assumption) (by omega))).mpr q) (by omega)
      exact W.zret (v := zI 0) hx hb hr rfl (fun t9 ht hW => ⟨⟨zI 0, (0, Crow, Crun), rfl, ⟨rfl, ⟨qCrow, hv_37, hv_38⟩⟩, by subst hAe; exact z_end hK hw ht hW⟩, by subst hAe; exact hw.2.2.F ht⟩) (by subst hAe; exact hw.2.2.2.2) dX7_lay_50
  · skip
    refine lv_iload_n hx hb dX7_lay_15 rfl (lv_at hl 2 rfl) ?_
    refine z_iconst hx hb dX7_lay_16 ?_
    refine lv_iload_n hx hb dX7_lay_17 rfl (lv_at hl 1 rfl) ?_
    refine z_iconst hx hb dX7_lay_18 ?_
    refine lv_iload_n hx hb dX7_lay_19 rfl (lv_at hl 3 rfl) ?_
    refine z_imul hx hb dX7_lay_20 ?_
    have hbit_39 : ((zI v).toUInt32 >>> ((zI (4 * i_6)).toUInt32 &&& Int32.toUInt32 31)).toInt32 = zI (ushF v (4 * i_6)) := by
      exact z_ushr (by omega)
    refine lv_iushr hx hb dX7_lay_21 hbit_39 ?_
    clear hbit_39
    refine z_bipush hx hb dX7_lay_22 (by decide) ?_
    have hbit_40 : zI (ushF v (4 * i_6)) &&& zI 15 = zI (nib v i_6) := by
      rw [z_15, ush_nib (by omega)]
    refine lv_iand hx hb dX7_lay_24 ?_
    rw [hbit_40]
    clear hbit_40
    have hq_41 : 0 ≤ nib v i_6 ∧ nib v i_6 ≤ 15 := by
      exact nib_r
    have hbit_42 : zI 1 <<< (zI (nib v i_6) &&& 31) = zI (sBit (nib v i_6)) := by
      exact z_shlG (by omega)
    refine lv_ishl hx hb dX7_lay_25 ?_
    rw [hbit_42]
    clear hbit_42
    have hq_43 : 0 ≤ (sBit (nib v i_6)) ∧ (sBit (nib v i_6)) ≤ 65535 := by
      exact sBit_rG (by omega)
    have hbit_44 : zI seen_5 ||| zI (sBit (nib v i_6)) = zI (sOr seen_5 (sBit (nib v i_6))) := by
      exact z_orG (by omega) (by omega)
    refine lv_ior hx hb dX7_lay_26 ?_
    rw [hbit_44]
    clear hbit_44
    have hq_45 : 0 ≤ (sOr seen_5 (sBit (nib v i_6))) ∧ (sOr seen_5 (sBit (nib v i_6))) ≤ 65535 := by
      exact sOr_rG (by omega) (by omega)
    refine lv_istore_n (lv' := [(2, .int (zI (sOr seen_5 (sBit (nib v i_6))))), (0, .ref (oC 0)), (1, .int (zI v)), (3, .int (zI i_6))]) hx hb dX7_lay_27 rfl hl (by decide) rfl (fun ls hl => ?_)
    refine z_iinc (k := 3) (lv' := [(3, .int (zI (i_6 + 1))), (2, .int (zI (sOr seen_5 (sBit (nib v i_6))))), (0, .ref (oC 0)), (1, .int (zI v))]) hx hb dX7_lay_28 hl rfl (by decide) rfl (fun ls hl => ?_)
    refine lv_goto (tgt := 4) hx hb dX7_lay_31 (by decide) ?_
    have hv_46 : 0 ≤ (i_6 + 1) ∧ (i_6 + 1) ≤ Gn := by
      first | assumption | omega | grind
    have hv_47 : 0 ≤ (sOr seen_5 (sBit (nib v i_6))) ∧ (sOr seen_5 (sBit (nib v i_6))) ≤ 65535 := by
      first | assumption | omega | grind
    have hv_48 : ∀ j, 0 ≤ j → j ≤ 15 → (mb (sOr seen_5 (sBit (nib v i_6))) j ↔ ∃ k, 0 ≤ k ∧ k < (i_6 + 1) ∧ nib v k = j) := by
      exact lay_next (n := Gn) (by assumption) (by omega)
    have hm_49 : (9 - (i_6 + 1)).toNat < (9 - i_6).toNat := by
      first | assumption | omega | grind
    exact ih_4 ((sOr seen_5 (sBit (nib v i_6))), (i_6 + 1)) _ _ _ ⟨hv_46, hv_47, hv_48, hw, lv_sub hl [2, 3, 1, 0] rfl⟩ hm_49
set_option maxRecDepth 100000 in
set_option maxHeartbeats 4000000 in
theorem c_X7_place (l : Launch) (D : va_G) (cI cB cZ : ClassId) (oG : Nat → Nat) (oC : Nat → Nat) (aCreader : Nat) (aCbars : Nat) (aCspare : Nat) (aCsearch : Nat) (aCbreach : Nat) (aCstreet : Nat) (aCparade : Nat) (aCtrial : Nat) (sz : Nat) (Gn : Int) (Gki : Int → Int) (Gle : Int → Int) (Glo : Int → Int) (Gta : Int → Int) (Gsh : Int → Int) (Crow : Int → Int) (Cquiet : Int → Int) (Crun : Int) (i : Int) (qGn : 0 ≤ Gn ∧ Gn ≤ 8) (qGki : RA Gki (0) 4) (qGle : RA Gle (0) 5) (qGlo : RA Glo (0) 9) (qGta : RA Gta (0) 9) (qGsh : RA Gsh (0) 9) (qCrow : RA Crow (0) 7) (qCquiet : RA Cquiet (0) 7) (qCrun : 0 ≤ Crun ∧ Crun ≤ 1) (qi : -2147483648 ≤ i ∧ i ≤ 2147483647) : Met l yX7_place wsX7_place ({ frames := 1, cells := 0, slots := 0, locals := 21 }) (va_Pc [.ref (oC 0), .int (zI i)] (zPre D cI cB cZ sz (kG cI cB cZ oG Gn Gki Gle Glo Gta Gsh ++ kC cI cB cZ oC (oG 0) Crow Cquiet aCreader aCbars aCspare aCsearch aCbreach aCstreet aCparade aCtrial Crun))) (va_Qi (fun (r9 : Int32) (u9 : Int) => r9 = zI u9 ∧ ((((0 ≤ i ∧ i < Gn) ∧ u9 = Crow i) ∨ (¬ (0 ≤ i ∧ i < Gn) ∧ u9 = -1)))) (fun u9 t9 => zAt D cI cB cZ (va_A (kG cI cB cZ oG Gn Gki Gle Glo Gta Gsh ++ kC cI cB cZ oC (oG 0) Crow Cquiet aCreader aCbars aCspare aCsearch aCbreach aCstreet aCparade aCtrial Crun) sz) (kG cI cB cZ oG Gn Gki Gle Glo Gta Gsh ++ kC cI cB cZ oC (oG 0) Crow Cquiet aCreader aCbars aCspare aCsearch aCbreach aCstreet aCparade aCtrial Crun) t9) (va_A (kG cI cB cZ oG Gn Gki Gle Glo Gta Gsh ++ kC cI cB cZ oC (oG 0) Crow Cquiet aCreader aCbars aCspare aCsearch aCbreach aCstreet aCparade aCtrial Crun) sz)) 0 0 (va_A (kG cI cB cZ oG Gn Gki Gle Glo Gta Gsh ++ kC cI cB cZ oC (oG 0) Crow Cquiet aCreader aCbars aCspare aCsearch aCbreach aCstreet aCparade aCtrial Crun) sz) := by
  refine Met.ofW (cc := cX7_place) (maxL := 2) (ret := (some .int)) (by decide) rfl ?_
  intro pp ee s mm aa bw mt cd s₁ BL hml hv
  obtain ⟨rfl, hsz, hP, hK, hD0⟩ := hv
  have hx := BL.exec
  have hb := BL.bytes
  have hr := BL.returns
  have hts := atoms_spec (ws := wsX7_place) BL.pre
  have hown : s.vm.findClass RX7 = some mm.cls := findClass_of_methodNamed BL.named
  have hlocks := BL.notSynchronized
  subst hsz
  generalize hAe : va_A (kG cI cB cZ oG Gn Gki Gle Glo Gta Gsh ++ kC cI cB cZ oC (oG 0) Crow Cquiet aCreader aCbars aCspare aCsearch aCbreach aCstreet aCparade aCtrial Crun) s.heap.size = A
  have hA : ∀ q : Nat, s.heap.size ≤ q → A q := fun q h => by rw [← hAe]; exact Or.inr h
  have hw : HW D A s.heap (kG cI cB cZ oG Gn Gki Gle Glo Gta Gsh ++ kC cI cB cZ oC (oG 0) Crow Cquiet aCreader aCbars aCspare aCsearch aCbreach aCstreet aCparade aCtrial Crun) s.heap [] := z_start hAe hP hD0
  clear hP hD0
  have hl := lv_entry ([.ref (oC 0), .int (zI i)]) (n := 2) (Nat.le_of_ble_eq_true rfl)
  rw [lg_entry_eq]
  generalize (lg_sl ([.ref (oC 0), .int (zI i)]) ++ List.replicate (2 - (lg_sl ([.ref (oC 0), .int (zI i)])).length) Slot.unset).toArray = ls at hl ⊢
  have hl : lv_has ls 2 [(0, .ref (oC 0)), (1, .int (zI i))] := hl
  have hinX7 : ∀ w ∈ wsX70, w ∈ wsX7_place := by decide +kernel
  refine lv_aload_n hx hb dX7_place_0 rfl (lv_at hl 0 rfl) ?_
  refine va_get (D := D) (ci := 7) (v := .ref (oG 0)) (C := RX7) (T := TX7) (N := 12) hx hb hts hinX7 hown hK hw.1 6 rfl rfl 0 (by decide) (hts (.fieldLink RX7 10 "CarnivalRoad" "guests" "LCarnivalRoad$Guests;") (by decide +kernel)) (fun _ h9 => h9) rfl dX7_place_1 ?_
  refine lv_iload_n hx hb dX7_place_4 rfl (lv_at hl 1 rfl) ?_
  have hF9 := z_free (wc := kG cI cB cZ oG Gn Gki Gle Glo Gta Gsh) hw hA [0, 1, 2, 3, 4, 5] rfl
  refine va_calli (va_runV (As := [.int (zI i)]) (rest := []) ⟨hx, hb, hml, hown, hts⟩ (c_X2_has l D cI cB cZ oG s.heap.size Gn Gki Gle Glo Gta Gsh i (by omega) qGki qGle qGlo qGta qGsh (by omega)) (cwV 1 hts gX7_place_X2_has rfl rfl rfl (by decide +kernel) ⟨Nat.le_of_ble_eq_true rfl, Nat.le_of_ble_eq_true rfl⟩) ⟨zPre_blind, va_recv hK hw.1 (ci := 2) (q0 := 0) rfl rfl, z_pre hK hw [0, 1, 2, 3, 4, 5] (by decide) rfl⟩ rfl rfl hl.1 rfl (lv_room (Nat.le_of_ble_eq_true rfl)) dX7_place_5 ⟨Nat.zero_le _, Nat.zero_le _⟩) hw.2.2 (fun q _ h => hF9 q h) hF9 (fun r9 u9 t9 H_1 locs9 ht9 hvm9 hq9 hB9 hz9 hk9 hS9 => ?_)
  obtain ⟨r_2, rfl⟩ : ∃ z, z = u9 := ⟨_, rfl⟩
  try dsimp only at hq9 hB9
  obtain ⟨rfl, hq9⟩ := hq9
  have hq_3 := hq9
  have hw : HW D A s.heap (kG cI cB cZ oG Gn Gki Gle Glo Gta Gsh ++ kC cI cB cZ oC (oG 0) Crow Cquiet aCreader aCbars aCspare aCsearch aCbreach aCstreet aCparade aCtrial Crun) H_1 locs9 := z_after (wc := kG cI cB cZ oG Gn Gki Gle Glo Gta Gsh) hw [0, 1, 2, 3, 4, 5] [6, 7, 8] rfl rfl (by decide) (by decide) hF9 hk9 ht9 hB9 hS9 [3, 4, 5, 6, 7, 8, 0, 1, 2] (by decide) rfl
  clear hF9 ht9 hvm9 hB9 hz9 hk9 hS9 hq9
  rcases hq_3 with ⟨hc_4, rfl⟩ | ⟨hc_4, rfl⟩
  · skip
    refine z_if_eq (tgt := 20) hx hb dX7_place_8 (by decide) (by omega) (fun hc_5 => absurd hc_5 (by omega)) (fun hc_5 => ?_)
    refine lv_aload_n hx hb dX7_place_11 rfl (lv_at hl 0 rfl) ?_
    refine va_get (D := D) (ci := 7) (v := .ref (oC 1)) (C := RX7) (T := TX7) (N := 12) hx hb hts hinX7 hown hK hw.1 6 rfl rfl 1 (by decide) (hts (.fieldLink RX7 16 "CarnivalRoad" "row" "[I") (by decide +kernel)) (fun _ h9 => h9) rfl dX7_place_12 ?_
    refine lv_iload_n hx hb dX7_place_15 rfl (lv_at hl 1 rfl) ?_
    have hi_6 : (0 : Int) ≤ i ∧ i < ((8 : Nat) : Int) := by
      first | assumption | omega | grind
    refine z_iald (n := 8) (f := Crow) hx hb hK hw 7 rfl (by decide) hi_6 dX7_place_16 ?_
    have hq_7 : 0 ≤ Crow i ∧ Crow i ≤ 7 := qCrow i
    refine lv_goto (tgt := 21) hx hb dX7_place_17 (by decide) ?_
    have hv_8 : ((0 ≤ i ∧ i < Gn) ∧ (Crow i) = Crow i) ∨ (¬ (0 ≤ i ∧ i < Gn) ∧ (Crow i) = -1) := by
      first | assumption | omega | grind
    exact W.iret (v := zI (Crow i)) hx hb hr (fun t9 ht hW => ⟨⟨zI (Crow i), (Crow i), rfl, ⟨rfl, hv_8⟩, by subst hAe; exact z_end hK hw ht hW⟩, by subst hAe; exact hw.2.2.F ht⟩) (by subst hAe; exact hw.2.2.2.2) dX7_place_21
  · skip
    refine z_if_eq (tgt := 20) hx hb dX7_place_8 (by decide) (by omega) (fun hc_9 => ?_) (fun hc_9 => absurd hc_9 (by omega))
    refine z_iconst hx hb dX7_place_20 ?_
    have hv_10 : ((0 ≤ i ∧ i < Gn) ∧ ((-1) : Int) = Crow i) ∨ (¬ (0 ≤ i ∧ i < Gn) ∧ ((-1) : Int) = -1) := by
      first | assumption | omega | grind
    exact W.iret (v := zI (-1)) hx hb hr (fun t9 ht hW => ⟨⟨zI (-1), (-1), rfl, ⟨rfl, hv_10⟩, by subst hAe; exact z_end hK hw ht hW⟩, by subst hAe; exact hw.2.2.F ht⟩) (by subst hAe; exact hw.2.2.2.2) dX7_place_21
set_option maxRecDepth 100000 in
set_option maxHeartbeats 4000000 in
theorem c_X7_guest (l : Launch) (D : va_G) (cI cB cZ : ClassId) (oG : Nat → Nat) (oC : Nat → Nat) (aCreader : Nat) (aCbars : Nat) (aCspare : Nat) (aCsearch : Nat) (aCbreach : Nat) (aCstreet : Nat) (aCparade : Nat) (aCtrial : Nat) (sz : Nat) (Gn : Int) (Gki : Int → Int) (Gle : Int → Int) (Glo : Int → Int) (Gta : Int → Int) (Gsh : Int → Int) (Crow : Int → Int) (Cquiet : Int → Int) (Crun : Int) (k : Int) (le : Int) (lo : Int) (ta : Int) (sh : Int) (qGn : 0 ≤ Gn ∧ Gn ≤ 8) (qGki : RA Gki (0) 4) (qGle : RA Gle (0) 5) (qGlo : RA Glo (0) 9) (qGta : RA Gta (0) 9) (qGsh : RA Gsh (0) 9) (qCrow : RA Crow (0) 7) (qCquiet : RA Cquiet (0) 7) (qCrun : 0 ≤ Crun ∧ Crun ≤ 1) (qk : -2147483648 ≤ k ∧ k ≤ 2147483647) (qle : -2147483648 ≤ le ∧ le ≤ 2147483647) (qlo : -2147483648 ≤ lo ∧ lo ≤ 2147483647) (qta : -2147483648 ≤ ta ∧ ta ≤ 2147483647) (qsh : -2147483648 ≤ sh ∧ sh ≤ 2147483647) : Met l yX7_guest wsX7_guest ({ frames := 1, cells := 0, slots := 0, locals := 25 }) (va_Pc [.ref (oC 0), .int (zI k), .int (zI le), .int (zI lo), .int (zI ta), .int (zI sh)] (zPre D cI cB cZ sz (kG cI cB cZ oG Gn Gki Gle Glo Gta Gsh ++ kC cI cB cZ oC (oG 0) Crow Cquiet aCreader aCbars aCspare aCsearch aCbreach aCstreet aCparade aCtrial Crun))) (va_Qi (fun (r9 : Int32) (u9 : Int × Int × (Int → Int) × (Int → Int) × (Int → Int) × (Int → Int) × (Int → Int) × (Int → Int) × Int) => r9 = zI u9.1 ∧ (((0 : Int) ≤ u9.2.1 ∧ u9.2.1 ≤ 8) ∧ (RA u9.2.2.1 (0) 4) ∧ (RA u9.2.2.2.1 (0) 5) ∧ (RA u9.2.2.2.2.1 (0) 9) ∧ (RA u9.2.2.2.2.2.1 (0) 9) ∧ (RA u9.2.2.2.2.2.2.1 (0) 9) ∧ (RA u9.2.2.2.2.2.2.2.1 (0) 7) ∧ ((0 : Int) ≤ u9.2.2.2.2.2.2.2.2 ∧ u9.2.2.2.2.2.2.2.2 ≤ 1) ∧ ((canBeP k le lo ta sh ∧ Gn < 8 ∧ u9.1 = Gn ∧ u9.2.1 = Gn + 1 ∧ u9.2.2.1 = uZ Gki Gn k ∧ u9.2.2.2.1 = uZ Gle Gn le ∧ u9.2.2.2.2.1 = uZ Glo Gn lo ∧ u9.2.2.2.2.2.1 = uZ Gta Gn ta ∧ u9.2.2.2.2.2.2.1 = uZ Gsh Gn sh ∧ u9.2.2.2.2.2.2.2.2 = 0 ∧ ∀ i, 0 ≤ i → i < Gn + 1 → u9.2.2.2.2.2.2.2.1 i = i) ∨ (¬ (canBeP k le lo ta sh ∧ Gn < 8) ∧ u9.1 = -1 ∧ u9.2.1 = Gn ∧ u9.2.2.1 = Gki ∧ u9.2.2.2.1 = Gle ∧ u9.2.2.2.2.1 = Glo ∧ u9.2.2.2.2.2.1 = Gta ∧ u9.2.2.2.2.2.2.1 = Gsh ∧ u9.2.2.2.2.2.2.2.1 = Crow ∧ u9.2.2.2.2.2.2.2.2 = Crun)))) (fun u9 t9 => zAt D cI cB cZ (va_A (kG cI cB cZ oG Gn Gki Gle Glo Gta Gsh ++ kC cI cB cZ oC (oG 0) Crow Cquiet aCreader aCbars aCspare aCsearch aCbreach aCstreet aCparade aCtrial Crun) sz) (kG cI cB cZ oG (u9.2.1) (u9.2.2.1) (u9.2.2.2.1) (u9.2.2.2.2.1) (u9.2.2.2.2.2.1) (u9.2.2.2.2.2.2.1) ++ kC cI cB cZ oC (oG 0) (u9.2.2.2.2.2.2.2.1) Cquiet aCreader aCbars aCspare aCsearch aCbreach aCstreet aCparade aCtrial (u9.2.2.2.2.2.2.2.2)) t9) (va_A (kG cI cB cZ oG Gn Gki Gle Glo Gta Gsh ++ kC cI cB cZ oC (oG 0) Crow Cquiet aCreader aCbars aCspare aCsearch aCbreach aCstreet aCparade aCtrial Crun) sz)) 0 0 (va_A (kG cI cB cZ oG Gn Gki Gle Glo Gta Gsh ++ kC cI cB cZ oC (oG 0) Crow Cquiet aCreader aCbars aCspare aCsearch aCbreach aCstreet aCparade aCtrial Crun) sz) := by
  refine Met.ofW (cc := cX7_guest) (maxL := 7) (ret := (some .int)) (by decide) rfl ?_
  intro pp ee s mm aa bw mt cd s₁ BL hml hv
  obtain ⟨rfl, hsz, hP, hK, hD0⟩ := hv
  have hx := BL.exec
  have hb := BL.bytes
  have hr := BL.returns
  have hts := atoms_spec (ws := wsX7_guest) BL.pre
  have hown : s.vm.findClass RX7 = some mm.cls := findClass_of_methodNamed BL.named
  have hlocks := BL.notSynchronized
  subst hsz
  generalize hAe : va_A (kG cI cB cZ oG Gn Gki Gle Glo Gta Gsh ++ kC cI cB cZ oC (oG 0) Crow Cquiet aCreader aCbars aCspare aCsearch aCbreach aCstreet aCparade aCtrial Crun) s.heap.size = A
  have hA : ∀ q : Nat, s.heap.size ≤ q → A q := fun q h => by rw [← hAe]; exact Or.inr h
  have hw : HW D A s.heap (kG cI cB cZ oG Gn Gki Gle Glo Gta Gsh ++ kC cI cB cZ oC (oG 0) Crow Cquiet aCreader aCbars aCspare aCsearch aCbreach aCstreet aCparade aCtrial Crun) s.heap [] := z_start hAe hP hD0
  clear hP hD0
  have hl := lv_entry ([.ref (oC 0), .int (zI k), .int (zI le), .int (zI lo), .int (zI ta), .int (zI sh)]) (n := 7) (Nat.le_of_ble_eq_true rfl)
  rw [lg_entry_eq]
  generalize (lg_sl ([.ref (oC 0), .int (zI k), .int (zI le), .int (zI lo), .int (zI ta), .int (zI sh)]) ++ List.replicate (7 - (lg_sl ([.ref (oC 0), .int (zI k), .int (zI le), .int (zI lo), .int (zI ta), .int (zI sh)])).length) Slot.unset).toArray = ls at hl ⊢
  have hl : lv_has ls 7 [(0, .ref (oC 0)), (1, .int (zI k)), (2, .int (zI le)), (3, .int (zI lo)), (4, .int (zI ta)), (5, .int (zI sh))] := hl
  have hinX2 : ∀ w ∈ wsX20, w ∈ wsX7_guest := by decide +kernel
  have hinX7 : ∀ w ∈ wsX70, w ∈ wsX7_guest := by decide +kernel
  refine lv_aload_n hx hb dX7_guest_0 rfl (lv_at hl 0 rfl) ?_
  refine va_get (D := D) (ci := 7) (v := .ref (oG 0)) (C := RX7) (T := TX7) (N := 12) hx hb hts hinX7 hown hK hw.1 6 rfl rfl 0 (by decide) (hts (.fieldLink RX7 10 "CarnivalRoad" "guests" "LCarnivalRoad$Guests;") (by decide +kernel)) (fun _ h9 => h9) rfl dX7_guest_1 ?_
  refine va_get (D := D) (ci := 2) (v := .int (zI Gn)) (C := RX2) (T := TX2) (N := 6) hx hb hts hinX2 hown hK hw.1 0 rfl rfl 0 (by decide) (hts (.fieldLink RX7 79 "CarnivalRoad$Guests" "count" "I") (by decide +kernel)) (fun _ h9 => h9) rfl dX7_guest_4 ?_
  refine z_bipush hx hb dX7_guest_7 (by decide) ?_
  refine z_icmp_ge (tgt := 25) hx hb dX7_guest_9 (by decide) (by omega) (fun hc_1 => ?_) (fun hc_1 => ?_)
  · skip
    refine z_iconst hx hb dX7_guest_25 ?_
    have hv_2 : (0 : Int) ≤ Gn ∧ Gn ≤ 8 := by
      first | assumption | omega | grind
    have hv_3 : (0 : Int) ≤ Crun ∧ Crun ≤ 1 := by
      first | assumption | omega | grind
    have hv_4 : (canBeP k le lo ta sh ∧ Gn < 8 ∧ ((-1) : Int) = Gn ∧ Gn = Gn + 1 ∧ Gki = uZ Gki Gn k ∧ Gle = uZ Gle Gn le ∧ Glo = uZ Glo Gn lo ∧ Gta = uZ Gta Gn ta ∧ Gsh = uZ Gsh Gn sh ∧ Crun = 0 ∧ ∀ i, 0 ≤ i → i < Gn + 1 → Crow i = i) ∨ (¬ (canBeP k le lo ta sh ∧ Gn < 8) ∧ ((-1) : Int) = -1 ∧ Gn = Gn ∧ Gki = Gki ∧ Gle = Gle ∧ Glo = Glo ∧ Gta = Gta ∧ Gsh = Gsh ∧ Crow = Crow ∧ Crun = Crun) := by
      first | exact Or.inr ⟨fun q => absurd q.2 (by omega), rfl, rfl, rfl, rfl, rfl, rfl, rfl, rfl, rfl⟩ | exact Or.inr ⟨fun q => absurd q.1 (by assumption), rfl, rfl, rfl, rfl, rfl, rfl, rfl, rfl, rfl⟩
    exact W.iret (v := zI (-1)) hx hb hr (fun t9 ht hW => ⟨⟨zI (-1), ((-1), Gn, Gki, Gle, Glo, Gta, Gsh, Crow, Crun), rfl, ⟨rfl, ⟨hv_2, qGki, qGle, qGlo, qGta, qGsh, qCrow, hv_3, hv_4⟩⟩, by subst hAe; exact z_end hK hw ht hW⟩, by subst hAe; exact hw.2.2.F ht⟩) (by subst hAe; exact hw.2.2.2.2) dX7_guest_26
  · skip
    refine lv_iload_n hx hb dX7_guest_12 rfl (lv_at hl 1 rfl) ?_
    refine lv_iload_n hx hb dX7_guest_13 rfl (lv_at hl 2 rfl) ?_
    refine lv_iload_n hx hb dX7_guest_14 rfl (lv_at hl 3 rfl) ?_
    refine lv_iload hx hb dX7_guest_15 (lv_at hl 4 rfl) ?_
    refine lv_iload hx hb dX7_guest_17 (lv_at hl 5 rfl) ?_
    have hF9 := z_free (wc := ([] : va_W)) hw hA [] rfl
    refine va_calli (va_runS (As := [.int (zI k), .int (zI le), .int (zI lo), .int (zI ta), .int (zI sh)]) (rest := []) ⟨hx, hb, hml, hown, hts⟩ (c_X2_canBe l D cI cB cZ s.heap.size k le lo ta sh (by omega) (by omega) (by omega) (by omega) (by omega)) (va_cwS 5 hts gX7_guest_X2_canBe rfl rfl rfl (by decide +kernel) ⟨Nat.le_of_ble_eq_true rfl, Nat.le_of_ble_eq_true rfl⟩) ⟨zPre_blind, z_pre hK hw [] (by decide) rfl⟩ rfl rfl hl.1 rfl (lv_room (Nat.le_of_ble_eq_true rfl)) dX7_guest_19 ⟨Nat.zero_le _, Nat.zero_le _⟩) hw.2.2 (fun q _ h => hF9 q h) hF9 (fun r9 u9 t9 H_5 locs9 ht9 hvm9 hq9 hB9 hz9 hk9 hS9 => ?_)
    obtain ⟨r_6, rfl⟩ : ∃ z, z = u9 := ⟨_, rfl⟩
    try dsimp only at hq9 hB9
    obtain ⟨rfl, hq9⟩ := hq9
    have hq_7 := hq9
    have hw : HW D A s.heap (kG cI cB cZ oG Gn Gki Gle Glo Gta Gsh ++ kC cI cB cZ oC (oG 0) Crow Cquiet aCreader aCbars aCspare aCsearch aCbreach aCstreet aCparade aCtrial Crun) H_5 locs9 := z_after (wc := ([] : va_W)) hw [] [0, 1, 2, 3, 4, 5, 6, 7, 8] rfl rfl (by decide) (by decide) hF9 hk9 ht9 hB9 hS9 [0, 1, 2, 3, 4, 5, 6, 7, 8] (by decide) rfl
    clear hF9 ht9 hvm9 hB9 hz9 hk9 hS9 hq9
    rcases hq_7 with ⟨hc_8, rfl⟩ | ⟨hc_8, rfl⟩
    · skip
      refine z_if_ne (tgt := 27) hx hb dX7_guest_22 (by decide) (by omega) (fun hc_9 => ?_) (fun hc_9 => absurd hc_9 (by omega))
      refine lv_aload_n hx hb dX7_guest_27 rfl (lv_at hl 0 rfl) ?_
      refine va_get (D := D) (ci := 7) (v := .ref (oG 0)) (C := RX7) (T := TX7) (N := 12) hx hb hts hinX7 hown hK hw.1 6 rfl rfl 0 (by decide) (hts (.fieldLink RX7 10 "CarnivalRoad" "guests" "LCarnivalRoad$Guests;") (by decide +kernel)) (fun _ h9 => h9) rfl dX7_guest_28 ?_
      refine lv_iload_n hx hb dX7_guest_31 rfl (lv_at hl 1 rfl) ?_
      refine lv_iload_n hx hb dX7_guest_32 rfl (lv_at hl 2 rfl) ?_
      refine lv_iload_n hx hb dX7_guest_33 rfl (lv_at hl 3 rfl) ?_
      refine lv_iload hx hb dX7_guest_34 (lv_at hl 4 rfl) ?_
      refine lv_iload hx hb dX7_guest_36 (lv_at hl 5 rfl) ?_
      have hpre_10 : Gn < 8 := by
        first | assumption | omega | grind
      have hF9 := z_free (wc := kG cI cB cZ oG Gn Gki Gle Glo Gta Gsh) hw hA [0, 1, 2, 3, 4, 5] rfl
      refine va_callv (va_runV (As := [.int (zI k), .int (zI le), .int (zI lo), .int (zI ta), .int (zI sh)]) (rest := []) ⟨hx, hb, hml, hown, hts⟩ (c_X2_add l D cI cB cZ oG H_5.size Gn Gki Gle Glo Gta Gsh k le lo ta sh (by omega) qGki qGle qGlo qGta qGsh (by have q9 := (by assumption : canBeP k le lo ta sh); unfold canBeP at q9; omega) (by have q9 := (by assumption : canBeP k le lo ta sh); unfold canBeP at q9; omega) (by have q9 := (by assumption : canBeP k le lo ta sh); unfold canBeP at q9; omega) (by have q9 := (by assumption : canBeP k le lo ta sh); unfold canBeP at q9; omega) (by have q9 := (by assumption : canBeP k le lo ta sh); unfold canBeP at q9; omega) hpre_10) (cwV 5 hts gX7_guest_X2_add rfl rfl rfl (by decide +kernel) ⟨Nat.le_of_ble_eq_true rfl, Nat.le_of_ble_eq_true rfl⟩) ⟨zPre_blind, va_recv hK hw.1 (ci := 2) (q0 := 0) rfl rfl, z_pre hK hw [0, 1, 2, 3, 4, 5] (by decide) rfl⟩ rfl rfl hl.1 rfl (lv_room (Nat.le_of_ble_eq_true rfl)) dX7_guest_38 ⟨Nat.zero_le _, Nat.zero_le _⟩) hw.2.2 (fun q _ h => hF9 q h) hF9 (fun u9 t9 H_11 locs9 ht9 hvm9 hq9 hB9 hz9 hk9 hS9 => ?_)
      obtain ⟨Gn_12, Gki_13, Gle_14, Glo_15, Gta_16, Gsh_17⟩ := u9
      try dsimp only at hq9 hB9
      obtain ⟨hq_18, hq_19, hq_20, hq_21, hq_22, hq_23, hq_24, hq_25, hq_26, hq_27, hq_28, hq_29⟩ := hq9
      have hw : HW D A s.heap (kG cI cB cZ oG Gn_12 Gki_13 Gle_14 Glo_15 Gta_16 Gsh_17 ++ kC cI cB cZ oC (oG 0) Crow Cquiet aCreader aCbars aCspare aCsearch aCbreach aCstreet aCparade aCtrial Crun) H_11 locs9 := z_after (wc := kG cI cB cZ oG Gn Gki Gle Glo Gta Gsh) hw [0, 1, 2, 3, 4, 5] [6, 7, 8] rfl rfl (by decide) (by decide) hF9 hk9 ht9 hB9 hS9 [3, 4, 5, 6, 7, 8, 0, 1, 2] (by decide) rfl
      clear hF9 ht9 hvm9 hB9 hz9 hk9 hS9
      refine z_iconst hx hb dX7_guest_41 ?_
      refine lv_istore (lv' := [(6, .int (zI 0)), (0, .ref (oC 0)), (1, .int (zI k)), (2, .int (zI le)), (3, .int (zI lo)), (4, .int (zI ta)), (5, .int (zI sh))]) hx hb dX7_guest_42 hl (by decide) rfl (fun ls hl => ?_)
      have hv_30 : 0 ≤ (0 : Int) ∧ (0 : Int) ≤ Gn + 1 := by
        first | assumption | omega | grind
      have hv_31 : ∀ k, 0 ≤ k → k < (0 : Int) → Crow k = k := by
        exact all_0
      refine z_loop (σ := Int × (Int → Int)) (μ := fun x9 => (10 - (x9.1)).toNat) (I := fun x9 H locs ls => (RA (x9.2) (0) 7) ∧ (0 ≤ (x9.1) ∧ (x9.1) ≤ Gn + 1) ∧ (∀ k, 0 ≤ k → k < (x9.1) → (x9.2) k = k) ∧ HW D A s.heap (kG cI cB cZ oG Gn_12 Gki_13 Gle_14 Glo_15 Gta_16 Gsh_17 ++ kC cI cB cZ oC (oG 0) (x9.2) Cquiet aCreader aCbars aCspare aCsearch aCbreach aCstreet aCparade aCtrial Crun) H locs ∧ lv_has ls 7 [(0, .ref (oC 0)), (6, .int (zI (x9.1)))]) (0, Crow) ⟨qCrow, hv_30, hv_31, hw, lv_sub hl [1, 0] rfl⟩ ?_
      clear hw hl
      intro x9 H locs ls hI ih_32
      obtain ⟨i_33, Crow_34⟩ := x9
      try dsimp only at hI
      obtain ⟨hR_35, hI_36, hI_37, hw, hl⟩ := hI
      refine lv_iload hx hb dX7_guest_44 (lv_at hl 1 rfl) ?_
      refine lv_aload_n hx hb dX7_guest_46 rfl (lv_at hl 0 rfl) ?_
      refine va_get (D := D) (ci := 7) (v := .ref (oG 0)) (C := RX7) (T := TX7) (N := 12) hx hb hts hinX7 hown hK hw.1 6 rfl rfl 0 (by decide) (hts (.fieldLink RX7 10 "CarnivalRoad" "guests" "LCarnivalRoad$Guests;") (by decide +kernel)) (fun _ h9 => h9) rfl dX7_guest_47 ?_
      refine va_get (D := D) (ci := 2) (v := .int (zI Gn_12)) (C := RX2) (T := TX2) (N := 6) hx hb hts hinX2 hown hK hw.1 0 rfl rfl 0 (by decide) (hts (.fieldLink RX7 79 "CarnivalRoad$Guests" "count" "I") (by decide +kernel)) (fun _ h9 => h9) rfl dX7_guest_50 ?_
      refine z_icmp_ge (tgt := 71) hx hb dX7_guest_53 (by decide) (by omega) (fun hc_38 => ?_) (fun hc_38 => ?_)
      · skip
        refine lv_aload_n hx hb dX7_guest_71 rfl (lv_at hl 0 rfl) ?_
        refine z_iconst hx hb dX7_guest_72 ?_
        refine z_put (D := D) (ci := 7) (v := .int (zI 0)) (ty := .boolean) (C := RX7) (T := TX7) (N := 12) (ws2 := kG cI cB cZ oG Gn_12 Gki_13 Gle_14 Glo_15 Gta_16 Gsh_17 ++ kC cI cB cZ oC (oG 0) Crow_34 Cquiet aCreader aCbars aCspare aCsearch aCbreach aCstreet aCparade aCtrial 0) hx hb hts hinX7 tyX7 tyX7_ok nmX7 hown hK hw 6 rfl rfl 11 (by decide) (hts (.fieldLink RX7 75 "CarnivalRoad" "running" "Z") (by decide +kernel)) (fun _ h9 => h9) rfl (by decide +kernel) rfl rfl (Nat.le_of_ble_eq_true rfl) dX7_guest_73 rfl (fun H locs hw => ?_)
        refine lv_aload_n hx hb dX7_guest_76 rfl (lv_at hl 0 rfl) ?_
        refine va_get (D := D) (ci := 7) (v := .ref (oG 0)) (C := RX7) (T := TX7) (N := 12) hx hb hts hinX7 hown hK hw.1 6 rfl rfl 0 (by decide) (hts (.fieldLink RX7 10 "CarnivalRoad" "guests" "LCarnivalRoad$Guests;") (by decide +kernel)) (fun _ h9 => h9) rfl dX7_guest_77 ?_
        refine va_get (D := D) (ci := 2) (v := .int (zI Gn_12)) (C := RX2) (T := TX2) (N := 6) hx hb hts hinX2 hown hK hw.1 0 rfl rfl 0 (by decide) (hts (.fieldLink RX7 79 "CarnivalRoad$Guests" "count" "I") (by decide +kernel)) (fun _ h9 => h9) rfl dX7_guest_80 ?_
        refine z_iconst hx hb dX7_guest_83 ?_
        refine z_isub hx hb dX7_guest_84 ?_
        have hv_39 : (0 : Int) ≤ Gn_12 ∧ Gn_12 ≤ 8 := by
          first | assumption | omega | grind
        have hv_40 : (0 : Int) ≤ (0 : Int) ∧ (0 : Int) ≤ 1 := by
          first | assumption | omega | grind
        have hv_41 : (canBeP k le lo ta sh ∧ Gn < 8 ∧ (Gn_12 - 1) = Gn ∧ Gn_12 = Gn + 1 ∧ Gki_13 = uZ Gki Gn k ∧ Gle_14 = uZ Gle Gn le ∧ Glo_15 = uZ Glo Gn lo ∧ Gta_16 = uZ Gta Gn ta ∧ Gsh_17 = uZ Gsh Gn sh ∧ (0 : Int) = 0 ∧ ∀ i, 0 ≤ i → i < Gn + 1 → Crow_34 i = i) ∨ (¬ (canBeP k le lo ta sh ∧ Gn < 8) ∧ (Gn_12 - 1) = -1 ∧ Gn_12 = Gn ∧ Gki_13 = Gki ∧ Gle_14 = Gle ∧ Glo_15 = Glo ∧ Gta_16 = Gta ∧ Gsh_17 = Gsh ∧ Crow_34 = Crow ∧ (0 : Int) = Crun) := by
          refine Or.inl ⟨by assumption, by omega, by omega, by omega, by assumption, by assumption, by assumption, by assumption, by assumption, rfl, all_le (by assumption) (by omega)⟩
        exact W.iret (v := zI (Gn_12 - 1)) hx hb hr (fun t9 ht hW => ⟨⟨zI (Gn_12 - 1), ((Gn_12 - 1), Gn_12, Gki_13, Gle_14, Glo_15, Gta_16, Gsh_17, Crow_34, 0), rfl, ⟨rfl, ⟨hv_39, hq_19, hq_20, hq_21, hq_22, hq_23, hR_35, hv_40, hv_41⟩⟩, by subst hAe; exact z_end hK hw ht hW⟩, by subst hAe; exact hw.2.2.F ht⟩) (by subst hAe; exact hw.2.2.2.2) dX7_guest_85
      · skip
        refine lv_aload_n hx hb dX7_guest_56 rfl (lv_at hl 0 rfl) ?_
        refine va_get (D := D) (ci := 7) (v := .ref (oC 1)) (C := RX7) (T := TX7) (N := 12) hx hb hts hinX7 hown hK hw.1 6 rfl rfl 1 (by decide) (hts (.fieldLink RX7 16 "CarnivalRoad" "row" "[I") (by decide +kernel)) (fun _ h9 => h9) rfl dX7_guest_57 ?_
        refine lv_iload hx hb dX7_guest_60 (lv_at hl 1 rfl) ?_
        refine lv_iload hx hb dX7_guest_62 (lv_at hl 1 rfl) ?_
        have hi_42 : (0 : Int) ≤ i_33 ∧ i_33 < ((8 : Nat) : Int) := by
          first | assumption | omega | grind
        have hv_43 : (0 : Int) ≤ i_33 ∧ i_33 ≤ 7 := by
          omega
        have hR_44 : RA (uZ Crow_34 i_33 i_33) (0) 7 := RA_up hR_35 hv_43
        refine z_iast (n := 8) (f := Crow_34) (ws2 := kG cI cB cZ oG Gn_12 Gki_13 Gle_14 Glo_15 Gta_16 Gsh_17 ++ kC cI cB cZ oC (oG 0) (uZ Crow_34 i_33 i_33) Cquiet aCreader aCbars aCspare aCsearch aCbreach aCstreet aCparade aCtrial Crun) hx hb hK hw 7 rfl (by decide) hi_42 dX7_guest_64 rfl (fun H locs hw => ?_)
        refine z_iinc (k := 1) (lv' := [(6, .int (zI (i_33 + 1))), (0, .ref (oC 0))]) hx hb dX7_guest_65 hl rfl (by decide) rfl (fun ls hl => ?_)
        refine lv_goto (tgt := 44) hx hb dX7_guest_68 (by decide) ?_
        have hv_45 : 0 ≤ (i_33 + 1) ∧ (i_33 + 1) ≤ Gn + 1 := by
          first | assumption | omega | grind
        have hv_46 : ∀ k, 0 ≤ k → k < (i_33 + 1) → (uZ Crow_34 i_33 i_33) k = k := by
          refine all_s (fun k k0 k1 => ?_) uZ_s
          rw [uZ_n (by omega)]
          revert k1
          revert k0
          revert k
          assumption
        have hm_47 : (10 - (i_33 + 1)).toNat < (10 - i_33).toNat := by
          first | assumption | omega | grind
        exact ih_32 ((i_33 + 1), (uZ Crow_34 i_33 i_33)) _ _ _ ⟨hR_44, hv_45, hv_46, hw, lv_sub hl [1, 0] rfl⟩ hm_47
    · skip
      refine z_if_ne (tgt := 27) hx hb dX7_guest_22 (by decide) (by omega) (fun hc_48 => absurd hc_48 (by omega)) (fun hc_48 => ?_)
      refine z_iconst hx hb dX7_guest_25 ?_
      have hv_49 : (0 : Int) ≤ Gn ∧ Gn ≤ 8 := by
        first | assumption | omega | grind
      have hv_50 : (0 : Int) ≤ Crun ∧ Crun ≤ 1 := by
        first | assumption | omega | grind
      have hv_51 : (canBeP k le lo ta sh ∧ Gn < 8 ∧ ((-1) : Int) = Gn ∧ Gn = Gn + 1 ∧ Gki = uZ Gki Gn k ∧ Gle = uZ Gle Gn le ∧ Glo = uZ Glo Gn lo ∧ Gta = uZ Gta Gn ta ∧ Gsh = uZ Gsh Gn sh ∧ Crun = 0 ∧ ∀ i, 0 ≤ i → i < Gn + 1 → Crow i = i) ∨ (¬ (canBeP k le lo ta sh ∧ Gn < 8) ∧ ((-1) : Int) = -1 ∧ Gn = Gn ∧ Gki = Gki ∧ Gle = Gle ∧ Glo = Glo ∧ Gta = Gta ∧ Gsh = Gsh ∧ Crow = Crow ∧ Crun = Crun) := by
        first | exact Or.inr ⟨fun q => absurd q.2 (by omega), rfl, rfl, rfl, rfl, rfl, rfl, rfl, rfl, rfl⟩ | exact Or.inr ⟨fun q => absurd q.1 (by assumption), rfl, rfl, rfl, rfl, rfl, rfl, rfl, rfl, rfl⟩
      exact W.iret (v := zI (-1)) hx hb hr (fun t9 ht hW => ⟨⟨zI (-1), ((-1), Gn, Gki, Gle, Glo, Gta, Gsh, Crow, Crun), rfl, ⟨rfl, ⟨hv_49, qGki, qGle, qGlo, qGta, qGsh, qCrow, hv_50, hv_51⟩⟩, by subst hAe; exact z_end hK hw ht hW⟩, by subst hAe; exact hw.2.2.F ht⟩) (by subst hAe; exact hw.2.2.2.2) dX7_guest_26
set_option maxRecDepth 100000 in
set_option maxHeartbeats 4000000 in
theorem c_X7_fault (l : Launch) (D : va_G) (cI cB cZ : ClassId) (oR : Nat → Nat) (oC : Nat → Nat) (aRguests : Nat) (aCguests : Nat) (aCbars : Nat) (aCspare : Nat) (aCsearch : Nat) (aCbreach : Nat) (aCstreet : Nat) (aCparade : Nat) (aCtrial : Nat) (sz : Nat) (Rtape : Int → Int) (Rlen : Int) (Rfn : Int) (Rfp : Int) (Rtok : Int) (Rts : Int) (Rte : Int) (Rval : Int) (Crow : Int → Int) (Cquiet : Int → Int) (Crun : Int) (w : Int) (qRtape : RA Rtape (-128) 127) (qRlen : 0 ≤ Rlen ∧ Rlen ≤ 400) (qRfn : 0 ≤ Rfn ∧ Rfn ≤ 3) (qRfp : -1 ≤ Rfp ∧ Rfp ≤ 400) (qRtok : 1 ≤ Rtok ∧ Rtok ≤ 11) (qRts : 0 ≤ Rts ∧ Rts ≤ 400) (qRte : 0 ≤ Rte ∧ Rte ≤ 400) (qRval : 0 ≤ Rval ∧ Rval ≤ 999) (qCrow : RA Crow (0) 7) (qCquiet : RA Cquiet (0) 7) (qCrun : 0 ≤ Crun ∧ Crun ≤ 1) (qw : -2147483648 ≤ w ∧ w ≤ 2147483647) : Met l yX7_fault wsX7_fault ({ frames := 0, cells := 0, slots := 0, locals := 0 }) (va_Pc [.ref (oC 0), .int (zI w)] (zPre D cI cB cZ sz (kR cI cB cZ oR aRguests Rtape Rlen Rfn Rfp Rtok Rts Rte Rval ++ kC cI cB cZ oC aCguests Crow Cquiet (oR 0) aCbars aCspare aCsearch aCbreach aCstreet aCparade aCtrial Crun))) (va_Qi (fun (r9 : Int32) (u9 : Int) => r9 = zI u9 ∧ (((w = 0 ∧ u9 = Rfn) ∨ (w = 1 ∧ u9 = Rfp) ∨ ((¬ w = 0 ∧ ¬ w = 1) ∧ u9 = -1)))) (fun u9 t9 => zAt D cI cB cZ (va_A (kR cI cB cZ oR aRguests Rtape Rlen Rfn Rfp Rtok Rts Rte Rval ++ kC cI cB cZ oC aCguests Crow Cquiet (oR 0) aCbars aCspare aCsearch aCbreach aCstreet aCparade aCtrial Crun) sz) (kR cI cB cZ oR aRguests Rtape Rlen Rfn Rfp Rtok Rts Rte Rval ++ kC cI cB cZ oC aCguests Crow Cquiet (oR 0) aCbars aCspare aCsearch aCbreach aCstreet aCparade aCtrial Crun) t9) (va_A (kR cI cB cZ oR aRguests Rtape Rlen Rfn Rfp Rtok Rts Rte Rval ++ kC cI cB cZ oC aCguests Crow Cquiet (oR 0) aCbars aCspare aCsearch aCbreach aCstreet aCparade aCtrial Crun) sz)) 0 0 (va_A (kR cI cB cZ oR aRguests Rtape Rlen Rfn Rfp Rtok Rts Rte Rval ++ kC cI cB cZ oC aCguests Crow Cquiet (oR 0) aCbars aCspare aCsearch aCbreach aCstreet aCparade aCtrial Crun) sz) := by
  refine Met.ofW (cc := cX7_fault) (maxL := 2) (ret := (some .int)) (by decide) rfl ?_
  intro pp ee s mm aa bw mt cd s₁ BL hml hv
  obtain ⟨rfl, hsz, hP, hK, hD0⟩ := hv
  have hx := BL.exec
  have hb := BL.bytes
  have hr := BL.returns
  have hts := atoms_spec (ws := wsX7_fault) BL.pre
  have hown : s.vm.findClass RX7 = some mm.cls := findClass_of_methodNamed BL.named
  have hlocks := BL.notSynchronized
  subst hsz
  generalize hAe : va_A (kR cI cB cZ oR aRguests Rtape Rlen Rfn Rfp Rtok Rts Rte Rval ++ kC cI cB cZ oC aCguests Crow Cquiet (oR 0) aCbars aCspare aCsearch aCbreach aCstreet aCparade aCtrial Crun) s.heap.size = A
  have hA : ∀ q : Nat, s.heap.size ≤ q → A q := fun q h => by rw [← hAe]; exact Or.inr h
  have hw : HW D A s.heap (kR cI cB cZ oR aRguests Rtape Rlen Rfn Rfp Rtok Rts Rte Rval ++ kC cI cB cZ oC aCguests Crow Cquiet (oR 0) aCbars aCspare aCsearch aCbreach aCstreet aCparade aCtrial Crun) s.heap [] := z_start hAe hP hD0
  clear hP hD0
  have hl := lv_entry ([.ref (oC 0), .int (zI w)]) (n := 2) (Nat.le_of_ble_eq_true rfl)
  rw [lg_entry_eq]
  generalize (lg_sl ([.ref (oC 0), .int (zI w)]) ++ List.replicate (2 - (lg_sl ([.ref (oC 0), .int (zI w)])).length) Slot.unset).toArray = ls at hl ⊢
  have hl : lv_has ls 2 [(0, .ref (oC 0)), (1, .int (zI w))] := hl
  have hinX4 : ∀ w ∈ wsX40, w ∈ wsX7_fault := by decide +kernel
  have hinX7 : ∀ w ∈ wsX70, w ∈ wsX7_fault := by decide +kernel
  refine lv_iload_n hx hb dX7_fault_0 rfl (lv_at hl 1 rfl) ?_
  rcases (show (¬ w = 0 ∧ ¬ w = 1) ∨ w = 0 ∨ w = 1 by omega) with hc_1 | hc_1 | hc_1
  · skip
    refine z_lookupOut (tgt := 44) hx hb (by omega) dX7_fault_1 (by decide) (by show Op.lookupswitch.offset [(0, 27), (1, 35)] 43 w = 43; rw [Op.lookupswitch.offset_cons, if_neg (by omega), Op.lookupswitch.offset_cons, if_neg (by omega), Op.lookupswitch.offset_nil]) (by decide) ?_
    refine z_iconst hx hb dX7_fault_44 ?_
    have hv_2 : (w = 0 ∧ ((-1) : Int) = Rfn) ∨ (w = 1 ∧ ((-1) : Int) = Rfp) ∨ ((¬ w = 0 ∧ ¬ w = 1) ∧ ((-1) : Int) = -1) := by
      first | assumption | omega | grind
    exact W.iret (v := zI (-1)) hx hb hr (fun t9 ht hW => ⟨⟨zI (-1), (-1), rfl, ⟨rfl, hv_2⟩, by subst hAe; exact z_end hK hw ht hW⟩, by subst hAe; exact hw.2.2.F ht⟩) (by subst hAe; exact hw.2.2.2.2) dX7_fault_45
  · skip
    refine z_lookupIn (k := 0) (off := 27) (tgt := 28) hx hb hc_1 dX7_fault_1 (by decide) (by decide) (by decide) ?_
    refine lv_aload_n hx hb dX7_fault_28 rfl (lv_at hl 0 rfl) ?_
    refine va_get (D := D) (ci := 7) (v := .ref (oR 0)) (C := RX7) (T := TX7) (N := 12) hx hb hts hinX7 hown hK hw.1 2 rfl rfl 3 (by decide) (hts (.fieldLink RX7 28 "CarnivalRoad" "reader" "LCarnivalRoad$Reader;") (by decide +kernel)) (fun _ h9 => h9) rfl dX7_fault_29 ?_
    refine va_get (D := D) (ci := 4) (v := .int (zI Rfn)) (C := RX4) (T := TX4) (N := 9) hx hb hts hinX4 hown hK hw.1 0 rfl rfl 3 (by decide) (hts (.fieldLink RX7 128 "CarnivalRoad$Reader" "faultNumber" "I") (by decide +kernel)) (fun _ h9 => h9) rfl dX7_fault_32 ?_
    have hv_3 : (w = 0 ∧ Rfn = Rfn) ∨ (w = 1 ∧ Rfn = Rfp) ∨ ((¬ w = 0 ∧ ¬ w = 1) ∧ Rfn = -1) := by
      first | assumption | omega | grind
    exact W.iret (v := zI Rfn) hx hb hr (fun t9 ht hW => ⟨⟨zI Rfn, Rfn, rfl, ⟨rfl, hv_3⟩, by subst hAe; exact z_end hK hw ht hW⟩, by subst hAe; exact hw.2.2.F ht⟩) (by subst hAe; exact hw.2.2.2.2) dX7_fault_35
  · skip
    refine z_lookupIn (k := 1) (off := 35) (tgt := 36) hx hb hc_1 dX7_fault_1 (by decide) (by decide) (by decide) ?_
    refine lv_aload_n hx hb dX7_fault_36 rfl (lv_at hl 0 rfl) ?_
    refine va_get (D := D) (ci := 7) (v := .ref (oR 0)) (C := RX7) (T := TX7) (N := 12) hx hb hts hinX7 hown hK hw.1 2 rfl rfl 3 (by decide) (hts (.fieldLink RX7 28 "CarnivalRoad" "reader" "LCarnivalRoad$Reader;") (by decide +kernel)) (fun _ h9 => h9) rfl dX7_fault_37 ?_
    refine va_get (D := D) (ci := 4) (v := .int (zI Rfp)) (C := RX4) (T := TX4) (N := 9) hx hb hts hinX4 hown hK hw.1 0 rfl rfl 4 (by decide) (hts (.fieldLink RX7 131 "CarnivalRoad$Reader" "faultPlace" "I") (by decide +kernel)) (fun _ h9 => h9) rfl dX7_fault_40 ?_
    have hv_4 : (w = 0 ∧ Rfp = Rfn) ∨ (w = 1 ∧ Rfp = Rfp) ∨ ((¬ w = 0 ∧ ¬ w = 1) ∧ Rfp = -1) := by
      first | assumption | omega | grind
    exact W.iret (v := zI Rfp) hx hb hr (fun t9 ht hW => ⟨⟨zI Rfp, Rfp, rfl, ⟨rfl, hv_4⟩, by subst hAe; exact z_end hK hw ht hW⟩, by subst hAe; exact hw.2.2.F ht⟩) (by subst hAe; exact hw.2.2.2.2) dX7_fault_43
set_option maxRecDepth 100000 in
set_option maxHeartbeats 4000000 in
theorem c_X7_end (l : Launch) (D : va_G) (cI cB cZ : ClassId) (oR : Nat → Nat) (oC : Nat → Nat) (aRguests : Nat) (aCguests : Nat) (aCbars : Nat) (aCspare : Nat) (aCsearch : Nat) (aCbreach : Nat) (aCstreet : Nat) (aCparade : Nat) (aCtrial : Nat) (sz : Nat) (Rtape : Int → Int) (Rlen : Int) (Rfn : Int) (Rfp : Int) (Rtok : Int) (Rts : Int) (Rte : Int) (Rval : Int) (Crow : Int → Int) (Cquiet : Int → Int) (Crun : Int) (k : Int) (qRtape : RA Rtape (-128) 127) (qRlen : 0 ≤ Rlen ∧ Rlen ≤ 400) (qRfn : 0 ≤ Rfn ∧ Rfn ≤ 3) (qRfp : -1 ≤ Rfp ∧ Rfp ≤ 400) (qRtok : 1 ≤ Rtok ∧ Rtok ≤ 11) (qRts : 0 ≤ Rts ∧ Rts ≤ 400) (qRte : 0 ≤ Rte ∧ Rte ≤ 400) (qRval : 0 ≤ Rval ∧ Rval ≤ 999) (qCrow : RA Crow (0) 7) (qCquiet : RA Cquiet (0) 7) (qCrun : 0 ≤ Crun ∧ Crun ≤ 1) (qk : -2147483648 ≤ k ∧ k ≤ 2147483647) : Met l yX7_end wsX7_end ({ frames := 0, cells := 0, slots := 0, locals := 0 }) (va_Pc [.ref (oC 0), .int (zI k)] (zPre D cI cB cZ sz (kR cI cB cZ oR aRguests Rtape Rlen Rfn Rfp Rtok Rts Rte Rval ++ kC cI cB cZ oC aCguests Crow Cquiet (oR 0) aCbars aCspare aCsearch aCbreach aCstreet aCparade aCtrial Crun))) (va_Qi (fun (r9 : Int32) (u9 : Int × Int) => r9 = zI u9.1 ∧ (((0 : Int) ≤ u9.2 ∧ u9.2 ≤ 400) ∧ (((0 ≤ k ∧ k ≤ Rlen) ∧ u9.1 = 1 ∧ u9.2 = k) ∨ (¬ (0 ≤ k ∧ k ≤ Rlen) ∧ u9.1 = 0 ∧ u9.2 = Rlen)))) (fun u9 t9 => zAt D cI cB cZ (va_A (kR cI cB cZ oR aRguests Rtape Rlen Rfn Rfp Rtok Rts Rte Rval ++ kC cI cB cZ oC aCguests Crow Cquiet (oR 0) aCbars aCspare aCsearch aCbreach aCstreet aCparade aCtrial Crun) sz) (kR cI cB cZ oR aRguests Rtape (u9.2) Rfn Rfp Rtok Rts Rte Rval ++ kC cI cB cZ oC aCguests Crow Cquiet (oR 0) aCbars aCspare aCsearch aCbreach aCstreet aCparade aCtrial Crun) t9) (va_A (kR cI cB cZ oR aRguests Rtape Rlen Rfn Rfp Rtok Rts Rte Rval ++ kC cI cB cZ oC aCguests Crow Cquiet (oR 0) aCbars aCspare aCsearch aCbreach aCstreet aCparade aCtrial Crun) sz)) 0 0 (va_A (kR cI cB cZ oR aRguests Rtape Rlen Rfn Rfp Rtok Rts Rte Rval ++ kC cI cB cZ oC aCguests Crow Cquiet (oR 0) aCbars aCspare aCsearch aCbreach aCstreet aCparade aCtrial Crun) sz) := by
  refine Met.ofW (cc := cX7_end) (maxL := 2) (ret := (some .boolean)) (by decide) rfl ?_
  intro pp ee s mm aa bw mt cd s₁ BL hml hv
  obtain ⟨rfl, hsz, hP, hK, hD0⟩ := hv
  have hx := BL.exec
  have hb := BL.bytes
  have hr := BL.returns
  have hts := atoms_spec (ws := wsX7_end) BL.pre
  have hown : s.vm.findClass RX7 = some mm.cls := findClass_of_methodNamed BL.named
  have hlocks := BL.notSynchronized
  subst hsz
  generalize hAe : va_A (kR cI cB cZ oR aRguests Rtape Rlen Rfn Rfp Rtok Rts Rte Rval ++ kC cI cB cZ oC aCguests Crow Cquiet (oR 0) aCbars aCspare aCsearch aCbreach aCstreet aCparade aCtrial Crun) s.heap.size = A
  have hA : ∀ q : Nat, s.heap.size ≤ q → A q := fun q h => by rw [← hAe]; exact Or.inr h
  have hw : HW D A s.heap (kR cI cB cZ oR aRguests Rtape Rlen Rfn Rfp Rtok Rts Rte Rval ++ kC cI cB cZ oC aCguests Crow Cquiet (oR 0) aCbars aCspare aCsearch aCbreach aCstreet aCparade aCtrial Crun) s.heap [] := z_start hAe hP hD0
  clear hP hD0
  have hl := lv_entry ([.ref (oC 0), .int (zI k)]) (n := 2) (Nat.le_of_ble_eq_true rfl)
  rw [lg_entry_eq]
  generalize (lg_sl ([.ref (oC 0), .int (zI k)]) ++ List.replicate (2 - (lg_sl ([.ref (oC 0), .int (zI k)])).length) Slot.unset).toArray = ls at hl ⊢
  have hl : lv_has ls 2 [(0, .ref (oC 0)), (1, .int (zI k))] := hl
  have hinX4 : ∀ w ∈ wsX40, w ∈ wsX7_end := by decide +kernel
  have hinX7 : ∀ w ∈ wsX70, w ∈ wsX7_end := by decide +kernel
  refine lv_iload_n hx hb dX7_end_0 rfl (lv_at hl 1 rfl) ?_
  refine z_if_lt (tgt := 15) hx hb dX7_end_1 (by decide) (by omega) (fun hc_1 => ?_) (fun hc_1 => ?_)
  · skip
    refine z_iconst hx hb dX7_end_15 ?_
    have hv_2 : (0 : Int) ≤ Rlen ∧ Rlen ≤ 400 := by
      first | assumption | omega | grind
    have hv_3 : ((0 ≤ k ∧ k ≤ Rlen) ∧ (0 : Int) = 1 ∧ Rlen = k) ∨ (¬ (0 ≤ k ∧ k ≤ Rlen) ∧ (0 : Int) = 0 ∧ Rlen = Rlen) := by
      first | assumption | omega | grind
    exact W.zret (v := zI 0) hx hb hr rfl (fun t9 ht hW => ⟨⟨zI 0, (0, Rlen), rfl, ⟨rfl, ⟨hv_2, hv_3⟩⟩, by subst hAe; exact z_end hK hw ht hW⟩, by subst hAe; exact hw.2.2.F ht⟩) (by subst hAe; exact hw.2.2.2.2) dX7_end_16
  · skip
    refine lv_iload_n hx hb dX7_end_4 rfl (lv_at hl 1 rfl) ?_
    refine lv_aload_n hx hb dX7_end_5 rfl (lv_at hl 0 rfl) ?_
    refine va_get (D := D) (ci := 7) (v := .ref (oR 0)) (C := RX7) (T := TX7) (N := 12) hx hb hts hinX7 hown hK hw.1 2 rfl rfl 3 (by decide) (hts (.fieldLink RX7 28 "CarnivalRoad" "reader" "LCarnivalRoad$Reader;") (by decide +kernel)) (fun _ h9 => h9) rfl dX7_end_6 ?_
    refine va_get (D := D) (ci := 4) (v := .int (zI Rlen)) (C := RX4) (T := TX4) (N := 9) hx hb hts hinX4 hown hK hw.1 0 rfl rfl 2 (by decide) (hts (.fieldLink RX7 110 "CarnivalRoad$Reader" "length" "I") (by decide +kernel)) (fun _ h9 => h9) rfl dX7_end_9 ?_
    refine z_icmp_le (tgt := 17) hx hb dX7_end_12 (by decide) (by omega) (fun hc_4 => ?_) (fun hc_4 => ?_)
    · skip
      refine lv_aload_n hx hb dX7_end_17 rfl (lv_at hl 0 rfl) ?_
      refine va_get (D := D) (ci := 7) (v := .ref (oR 0)) (C := RX7) (T := TX7) (N := 12) hx hb hts hinX7 hown hK hw.1 2 rfl rfl 3 (by decide) (hts (.fieldLink RX7 28 "CarnivalRoad" "reader" "LCarnivalRoad$Reader;") (by decide +kernel)) (fun _ h9 => h9) rfl dX7_end_18 ?_
      refine lv_iload_n hx hb dX7_end_21 rfl (lv_at hl 1 rfl) ?_
      refine z_put (D := D) (ci := 4) (v := .int (zI k)) (ty := .int) (C := RX4) (T := TX4) (N := 9) (ws2 := kR cI cB cZ oR aRguests Rtape k Rfn Rfp Rtok Rts Rte Rval ++ kC cI cB cZ oC aCguests Crow Cquiet (oR 0) aCbars aCspare aCsearch aCbreach aCstreet aCparade aCtrial Crun) hx hb hts hinX4 tyX4 tyX4_ok nmX4 hown hK hw 0 rfl rfl 2 (by decide) (hts (.fieldLink RX7 110 "CarnivalRoad$Reader" "length" "I") (by decide +kernel)) (fun _ h9 => h9) rfl (by decide +kernel) rfl rfl (Nat.le_of_ble_eq_true rfl) dX7_end_22 rfl (fun H locs hw => ?_)
      refine z_iconst hx hb dX7_end_25 ?_
      have hv_5 : (0 : Int) ≤ k ∧ k ≤ 400 := by
        first | assumption | omega | grind
      have hv_6 : ((0 ≤ k ∧ k ≤ Rlen) ∧ (1 : Int) = 1 ∧ k = k) ∨ (¬ (0 ≤ k ∧ k ≤ Rlen) ∧ (1 : Int) = 0 ∧ k = Rlen) := by
        first | assumption | omega | grind
      exact W.zret (v := zI 1) hx hb hr rfl (fun t9 ht hW => ⟨⟨zI 1, (1, k), rfl, ⟨rfl, ⟨hv_5, hv_6⟩⟩, by subst hAe; exact z_end hK hw ht hW⟩, by subst hAe; exact hw.2.2.F ht⟩) (by subst hAe; exact hw.2.2.2.2) dX7_end_26
    · skip
      refine z_iconst hx hb dX7_end_15 ?_
      have hv_7 : (0 : Int) ≤ Rlen ∧ Rlen ≤ 400 := by
        first | assumption | omega | grind
      have hv_8 : ((0 ≤ k ∧ k ≤ Rlen) ∧ (0 : Int) = 1 ∧ Rlen = k) ∨ (¬ (0 ≤ k ∧ k ≤ Rlen) ∧ (0 : Int) = 0 ∧ Rlen = Rlen) := by
        first | assumption | omega | grind
      exact W.zret (v := zI 0) hx hb hr rfl (fun t9 ht hW => ⟨⟨zI 0, (0, Rlen), rfl, ⟨rfl, ⟨hv_7, hv_8⟩⟩, by subst hAe; exact z_end hK hw ht hW⟩, by subst hAe; exact hw.2.2.F ht⟩) (by subst hAe; exact hw.2.2.2.2) dX7_end_16
set_option maxRecDepth 100000 in
set_option maxHeartbeats 4000000 in
theorem c_X7_look (l : Launch) (D : va_G) (cI cB cZ : ClassId) (oG : Nat → Nat) (oB : Nat → Nat) (oT : Nat → Nat) (oC : Nat → Nat) (aCreader : Nat) (aCspare : Nat) (aCsearch : Nat) (aCbreach : Nat) (aCparade : Nat) (aCtrial : Nat) (sz : Nat) (Gn : Int) (Gki : Int → Int) (Gle : Int → Int) (Glo : Int → Int) (Gta : Int → Int) (Gsh : Int → Int) (Bcnt : Int) (Bwo : Int → Int) (Bon : Int → Int) (Btw : Int → Int) (Bnu : Int → Int) (Tcells : Int) (Tgap : Int) (Twires : Int → Int) (Tstands : Int → Int) (Crow : Int → Int) (Cquiet : Int → Int) (Crun : Int) (w : Int) (qGn : 0 ≤ Gn ∧ Gn ≤ 8) (qGki : RA Gki (0) 4) (qGle : RA Gle (0) 5) (qGlo : RA Glo (0) 9) (qGta : RA Gta (0) 9) (qGsh : RA Gsh (0) 9) (qBcnt : 0 ≤ Bcnt ∧ Bcnt ≤ 10) (qBwo : RA Bwo (0) 11) (qBon : RA Bon (0) 12) (qBtw : RA Btw (0) 12) (qBnu : RA Bnu (0) 18) (qTcells : 1 ≤ Tcells ∧ Tcells ≤ 50) (qTgap : 0 ≤ Tgap ∧ Tgap ≤ 3) (qTwires : RA Twires (0) 9) (qTstands : RA Tstands (0) 9) (qCrow : RA Crow (0) 7) (qCquiet : RA Cquiet (0) 7) (qCrun : 0 ≤ Crun ∧ Crun ≤ 1) (qw : -2147483648 ≤ w ∧ w ≤ 2147483647) : Met l yX7_look wsX7_look ({ frames := 0, cells := 0, slots := 0, locals := 0 }) (va_Pc [.ref (oC 0), .int (zI w)] (zPre D cI cB cZ sz (kG cI cB cZ oG Gn Gki Gle Glo Gta Gsh ++ kB cI cB cZ oB (oG 0) Bcnt Bwo Bon Btw Bnu ++ kT cI cB cZ oT Tcells Tgap Twires Tstands ++ kC cI cB cZ oC (oG 0) Crow Cquiet aCreader (oB 0) aCspare aCsearch aCbreach (oT 0) aCparade aCtrial Crun))) (va_Qi (fun (r9 : Int32) (u9 : Int) => r9 = zI u9 ∧ (((w = 0 ∧ u9 = Gn) ∨ (w = 1 ∧ u9 = Bcnt) ∨ (w = 2 ∧ u9 = Tcells) ∨ (w = 3 ∧ u9 = Tgap) ∨ (w = 4 ∧ u9 = Crun) ∨ ((w < 0 ∨ 4 < w) ∧ u9 = -1)))) (fun u9 t9 => zAt D cI cB cZ (va_A (kG cI cB cZ oG Gn Gki Gle Glo Gta Gsh ++ kB cI cB cZ oB (oG 0) Bcnt Bwo Bon Btw Bnu ++ kT cI cB cZ oT Tcells Tgap Twires Tstands ++ kC cI cB cZ oC (oG 0) Crow Cquiet aCreader (oB 0) aCspare aCsearch aCbreach (oT 0) aCparade aCtrial Crun) sz) (kG cI cB cZ oG Gn Gki Gle Glo Gta Gsh ++ kB cI cB cZ oB (oG 0) Bcnt Bwo Bon Btw Bnu ++ kT cI cB cZ oT Tcells Tgap Twires Tstands ++ kC cI cB cZ oC (oG 0) Crow Cquiet aCreader (oB 0) aCspare aCsearch aCbreach (oT 0) aCparade aCtrial Crun) t9) (va_A (kG cI cB cZ oG Gn Gki Gle Glo Gta Gsh ++ kB cI cB cZ oB (oG 0) Bcnt Bwo Bon Btw Bnu ++ kT cI cB cZ oT Tcells Tgap Twires Tstands ++ kC cI cB cZ oC (oG 0) Crow Cquiet aCreader (oB 0) aCspare aCsearch aCbreach (oT 0) aCparade aCtrial Crun) sz)) 0 0 (va_A (kG cI cB cZ oG Gn Gki Gle Glo Gta Gsh ++ kB cI cB cZ oB (oG 0) Bcnt Bwo Bon Btw Bnu ++ kT cI cB cZ oT Tcells Tgap Twires Tstands ++ kC cI cB cZ oC (oG 0) Crow Cquiet aCreader (oB 0) aCspare aCsearch aCbreach (oT 0) aCparade aCtrial Crun) sz) := by
  refine Met.ofW (cc := cX7_look) (maxL := 2) (ret := (some .int)) (by decide) rfl ?_
  intro pp ee s mm aa bw mt cd s₁ BL hml hv
  obtain ⟨rfl, hsz, hP, hK, hD0⟩ := hv
  have hx := BL.exec
  have hb := BL.bytes
  have hr := BL.returns
  have hts := atoms_spec (ws := wsX7_look) BL.pre
  have hown : s.vm.findClass RX7 = some mm.cls := findClass_of_methodNamed BL.named
  have hlocks := BL.notSynchronized
  subst hsz
  generalize hAe : va_A (kG cI cB cZ oG Gn Gki Gle Glo Gta Gsh ++ kB cI cB cZ oB (oG 0) Bcnt Bwo Bon Btw Bnu ++ kT cI cB cZ oT Tcells Tgap Twires Tstands ++ kC cI cB cZ oC (oG 0) Crow Cquiet aCreader (oB 0) aCspare aCsearch aCbreach (oT 0) aCparade aCtrial Crun) s.heap.size = A
  have hA : ∀ q : Nat, s.heap.size ≤ q → A q := fun q h => by rw [← hAe]; exact Or.inr h
  have hw : HW D A s.heap (kG cI cB cZ oG Gn Gki Gle Glo Gta Gsh ++ kB cI cB cZ oB (oG 0) Bcnt Bwo Bon Btw Bnu ++ kT cI cB cZ oT Tcells Tgap Twires Tstands ++ kC cI cB cZ oC (oG 0) Crow Cquiet aCreader (oB 0) aCspare aCsearch aCbreach (oT 0) aCparade aCtrial Crun) s.heap [] := z_start hAe hP hD0
  clear hP hD0
  have hl := lv_entry ([.ref (oC 0), .int (zI w)]) (n := 2) (Nat.le_of_ble_eq_true rfl)
  rw [lg_entry_eq]
  generalize (lg_sl ([.ref (oC 0), .int (zI w)]) ++ List.replicate (2 - (lg_sl ([.ref (oC 0), .int (zI w)])).length) Slot.unset).toArray = ls at hl ⊢
  have hl : lv_has ls 2 [(0, .ref (oC 0)), (1, .int (zI w))] := hl
  have hinX0 : ∀ w ∈ wsX00, w ∈ wsX7_look := by decide +kernel
  have hinX2 : ∀ w ∈ wsX20, w ∈ wsX7_look := by decide +kernel
  have hinX6 : ∀ w ∈ wsX60, w ∈ wsX7_look := by decide +kernel
  have hinX7 : ∀ w ∈ wsX70, w ∈ wsX7_look := by decide +kernel
  refine lv_iload_n hx hb dX7_look_0 rfl (lv_at hl 1 rfl) ?_
  rcases (show (w < 0 ∨ 4 < w) ∨ w = 0 ∨ w = 1 ∨ w = 2 ∨ w = 3 ∨ w = 4 by omega) with hc_1 | hc_1 | hc_1 | hc_1 | hc_1 | hc_1
  · skip
    refine z_tableOut (tgt := 81) hx hb (by omega) hc_1 dX7_look_1 (by decide) ?_
    refine z_iconst hx hb dX7_look_81 ?_
    have hv_2 : (w = 0 ∧ ((-1) : Int) = Gn) ∨ (w = 1 ∧ ((-1) : Int) = Bcnt) ∨ (w = 2 ∧ ((-1) : Int) = Tcells) ∨ (w = 3 ∧ ((-1) : Int) = Tgap) ∨ (w = 4 ∧ ((-1) : Int) = Crun) ∨ ((w < 0 ∨ 4 < w) ∧ ((-1) : Int) = -1) := by
      first | assumption | omega | grind
    exact W.iret (v := zI (-1)) hx hb hr (fun t9 ht hW => ⟨⟨zI (-1), (-1), rfl, ⟨rfl, hv_2⟩, by subst hAe; exact z_end hK hw ht hW⟩, by subst hAe; exact hw.2.2.F ht⟩) (by subst hAe; exact hw.2.2.2.2) dX7_look_82
  · skip
    refine z_tableIn (k := 0) (off := 35) (tgt := 36) hx hb hc_1 dX7_look_1 (by decide) (by decide) rfl (by decide) ?_
    refine lv_aload_n hx hb dX7_look_36 rfl (lv_at hl 0 rfl) ?_
    refine va_get (D := D) (ci := 7) (v := .ref (oG 0)) (C := RX7) (T := TX7) (N := 12) hx hb hts hinX7 hown hK hw.1 14 rfl rfl 0 (by decide) (hts (.fieldLink RX7 10 "CarnivalRoad" "guests" "LCarnivalRoad$Guests;") (by decide +kernel)) (fun _ h9 => h9) rfl dX7_look_37 ?_
    refine va_get (D := D) (ci := 2) (v := .int (zI Gn)) (C := RX2) (T := TX2) (N := 6) hx hb hts hinX2 hown hK hw.1 0 rfl rfl 0 (by decide) (hts (.fieldLink RX7 79 "CarnivalRoad$Guests" "count" "I") (by decide +kernel)) (fun _ h9 => h9) rfl dX7_look_40 ?_
    have hv_3 : (w = 0 ∧ Gn = Gn) ∨ (w = 1 ∧ Gn = Bcnt) ∨ (w = 2 ∧ Gn = Tcells) ∨ (w = 3 ∧ Gn = Tgap) ∨ (w = 4 ∧ Gn = Crun) ∨ ((w < 0 ∨ 4 < w) ∧ Gn = -1) := by
      first | assumption | omega | grind
    exact W.iret (v := zI Gn) hx hb hr (fun t9 ht hW => ⟨⟨zI Gn, Gn, rfl, ⟨rfl, hv_3⟩, by subst hAe; exact z_end hK hw ht hW⟩, by subst hAe; exact hw.2.2.F ht⟩) (by subst hAe; exact hw.2.2.2.2) dX7_look_43
  · skip
    refine z_tableIn (k := 1) (off := 43) (tgt := 44) hx hb hc_1 dX7_look_1 (by decide) (by decide) rfl (by decide) ?_
    refine lv_aload_n hx hb dX7_look_44 rfl (lv_at hl 0 rfl) ?_
    refine va_get (D := D) (ci := 7) (v := .ref (oB 0)) (C := RX7) (T := TX7) (N := 12) hx hb hts hinX7 hown hK hw.1 14 rfl rfl 4 (by decide) (hts (.fieldLink RX7 35 "CarnivalRoad" "bars" "LCarnivalRoad$Bars;") (by decide +kernel)) (fun _ h9 => h9) rfl dX7_look_45 ?_
    refine va_get (D := D) (ci := 0) (v := .int (zI Bcnt)) (C := RX0) (T := TX0) (N := 6) hx hb hts hinX0 hown hK hw.1 6 rfl rfl 1 (by decide) (hts (.fieldLink RX7 116 "CarnivalRoad$Bars" "count" "I") (by decide +kernel)) (fun _ h9 => h9) rfl dX7_look_48 ?_
    have hv_4 : (w = 0 ∧ Bcnt = Gn) ∨ (w = 1 ∧ Bcnt = Bcnt) ∨ (w = 2 ∧ Bcnt = Tcells) ∨ (w = 3 ∧ Bcnt = Tgap) ∨ (w = 4 ∧ Bcnt = Crun) ∨ ((w < 0 ∨ 4 < w) ∧ Bcnt = -1) := by
      first | assumption | omega | grind
    exact W.iret (v := zI Bcnt) hx hb hr (fun t9 ht hW => ⟨⟨zI Bcnt, Bcnt, rfl, ⟨rfl, hv_4⟩, by subst hAe; exact z_end hK hw ht hW⟩, by subst hAe; exact hw.2.2.F ht⟩) (by subst hAe; exact hw.2.2.2.2) dX7_look_51
  · skip
    refine z_tableIn (k := 2) (off := 51) (tgt := 52) hx hb hc_1 dX7_look_1 (by decide) (by decide) rfl (by decide) ?_
    refine lv_aload_n hx hb dX7_look_52 rfl (lv_at hl 0 rfl) ?_
    refine va_get (D := D) (ci := 7) (v := .ref (oT 0)) (C := RX7) (T := TX7) (N := 12) hx hb hts hinX7 hown hK hw.1 14 rfl rfl 8 (by decide) (hts (.fieldLink RX7 59 "CarnivalRoad" "street" "LCarnivalRoad$Street;") (by decide +kernel)) (fun _ h9 => h9) rfl dX7_look_53 ?_
    refine va_get (D := D) (ci := 6) (v := .int (zI Tcells)) (C := RX6) (T := TX6) (N := 4) hx hb hts hinX6 hown hK hw.1 11 rfl rfl 0 (by decide) (hts (.fieldLink RX7 134 "CarnivalRoad$Street" "cells" "I") (by decide +kernel)) (fun _ h9 => h9) rfl dX7_look_56 ?_
    have hv_5 : (w = 0 ∧ Tcells = Gn) ∨ (w = 1 ∧ Tcells = Bcnt) ∨ (w = 2 ∧ Tcells = Tcells) ∨ (w = 3 ∧ Tcells = Tgap) ∨ (w = 4 ∧ Tcells = Crun) ∨ ((w < 0 ∨ 4 < w) ∧ Tcells = -1) := by
      first | assumption | omega | grind
    exact W.iret (v := zI Tcells) hx hb hr (fun t9 ht hW => ⟨⟨zI Tcells, Tcells, rfl, ⟨rfl, hv_5⟩, by subst hAe; exact z_end hK hw ht hW⟩, by subst hAe; exact hw.2.2.F ht⟩) (by subst hAe; exact hw.2.2.2.2) dX7_look_59
  · skip
    refine z_tableIn (k := 3) (off := 59) (tgt := 60) hx hb hc_1 dX7_look_1 (by decide) (by decide) rfl (by decide) ?_
    refine lv_aload_n hx hb dX7_look_60 rfl (lv_at hl 0 rfl) ?_
    refine va_get (D := D) (ci := 7) (v := .ref (oT 0)) (C := RX7) (T := TX7) (N := 12) hx hb hts hinX7 hown hK hw.1 14 rfl rfl 8 (by decide) (hts (.fieldLink RX7 59 "CarnivalRoad" "street" "LCarnivalRoad$Street;") (by decide +kernel)) (fun _ h9 => h9) rfl dX7_look_61 ?_
    refine va_get (D := D) (ci := 6) (v := .int (zI Tgap)) (C := RX6) (T := TX6) (N := 4) hx hb hts hinX6 hown hK hw.1 11 rfl rfl 1 (by decide) (hts (.fieldLink RX7 137 "CarnivalRoad$Street" "gap" "I") (by decide +kernel)) (fun _ h9 => h9) rfl dX7_look_64 ?_
    have hv_6 : (w = 0 ∧ Tgap = Gn) ∨ (w = 1 ∧ Tgap = Bcnt) ∨ (w = 2 ∧ Tgap = Tcells) ∨ (w = 3 ∧ Tgap = Tgap) ∨ (w = 4 ∧ Tgap = Crun) ∨ ((w < 0 ∨ 4 < w) ∧ Tgap = -1) := by
      first | assumption | omega | grind
    exact W.iret (v := zI Tgap) hx hb hr (fun t9 ht hW => ⟨⟨zI Tgap, Tgap, rfl, ⟨rfl, hv_6⟩, by subst hAe; exact z_end hK hw ht hW⟩, by subst hAe; exact hw.2.2.F ht⟩) (by subst hAe; exact hw.2.2.2.2) dX7_look_67
  · skip
    refine z_tableIn (k := 4) (off := 67) (tgt := 68) hx hb hc_1 dX7_look_1 (by decide) (by decide) rfl (by decide) ?_
    refine lv_aload_n hx hb dX7_look_68 rfl (lv_at hl 0 rfl) ?_
    refine va_get (D := D) (ci := 7) (v := .int (zI Crun)) (C := RX7) (T := TX7) (N := 12) hx hb hts hinX7 hown hK hw.1 14 rfl rfl 11 (by decide) (hts (.fieldLink RX7 75 "CarnivalRoad" "running" "Z") (by decide +kernel)) (fun _ h9 => h9) rfl dX7_look_69 ?_
    refine z_if_eq (tgt := 79) hx hb dX7_look_72 (by decide) (by omega) (fun hc_7 => ?_) (fun hc_7 => ?_)
    · skip
      refine z_iconst hx hb dX7_look_79 ?_
      have hv_8 : (w = 0 ∧ (0 : Int) = Gn) ∨ (w = 1 ∧ (0 : Int) = Bcnt) ∨ (w = 2 ∧ (0 : Int) = Tcells) ∨ (w = 3 ∧ (0 : Int) = Tgap) ∨ (w = 4 ∧ (0 : Int) = Crun) ∨ ((w < 0 ∨ 4 < w) ∧ (0 : Int) = -1) := by
        first | assumption | omega | grind
      exact W.iret (v := zI 0) hx hb hr (fun t9 ht hW => ⟨⟨zI 0, 0, rfl, ⟨rfl, hv_8⟩, by subst hAe; exact z_end hK hw ht hW⟩, by subst hAe; exact hw.2.2.F ht⟩) (by subst hAe; exact hw.2.2.2.2) dX7_look_80
    · skip
      refine z_iconst hx hb dX7_look_75 ?_
      refine lv_goto (tgt := 80) hx hb dX7_look_76 (by decide) ?_
      have hv_9 : (w = 0 ∧ (1 : Int) = Gn) ∨ (w = 1 ∧ (1 : Int) = Bcnt) ∨ (w = 2 ∧ (1 : Int) = Tcells) ∨ (w = 3 ∧ (1 : Int) = Tgap) ∨ (w = 4 ∧ (1 : Int) = Crun) ∨ ((w < 0 ∨ 4 < w) ∧ (1 : Int) = -1) := by
        first | assumption | omega | grind
      exact W.iret (v := zI 1) hx hb hr (fun t9 ht hW => ⟨⟨zI 1, 1, rfl, ⟨rfl, hv_9⟩, by subst hAe; exact z_end hK hw ht hW⟩, by subst hAe; exact hw.2.2.F ht⟩) (by subst hAe; exact hw.2.2.2.2) dX7_look_80
set_option maxRecDepth 100000 in
set_option maxHeartbeats 4000000 in
theorem c_X7_road (l : Launch) (D : va_G) (cI cB cZ : ClassId) (oT : Nat → Nat) (oC : Nat → Nat) (aCguests : Nat) (aCreader : Nat) (aCbars : Nat) (aCspare : Nat) (aCsearch : Nat) (aCbreach : Nat) (aCparade : Nat) (aCtrial : Nat) (sz : Nat) (Tcells : Int) (Tgap : Int) (Twires : Int → Int) (Tstands : Int → Int) (Crow : Int → Int) (Cquiet : Int → Int) (Crun : Int) (c : Int) (gp : Int) (qTcells : 1 ≤ Tcells ∧ Tcells ≤ 50) (qTgap : 0 ≤ Tgap ∧ Tgap ≤ 3) (qTwires : RA Twires (0) 9) (qTstands : RA Tstands (0) 9) (qCrow : RA Crow (0) 7) (qCquiet : RA Cquiet (0) 7) (qCrun : 0 ≤ Crun ∧ Crun ≤ 1) (qc : -2147483648 ≤ c ∧ c ≤ 2147483647) (qgp : -2147483648 ≤ gp ∧ gp ≤ 2147483647) : Met l yX7_road wsX7_road ({ frames := 1, cells := 0, slots := 0, locals := 23 }) (va_Pc [.ref (oC 0), .int (zI c), .int (zI gp)] (zPre D cI cB cZ sz (kT cI cB cZ oT Tcells Tgap Twires Tstands ++ kC cI cB cZ oC aCguests Crow Cquiet aCreader aCbars aCspare aCsearch aCbreach (oT 0) aCparade aCtrial Crun))) (va_Qi (fun (r9 : Int32) (u9 : Int × Int × Int × (Int → Int) × (Int → Int) × Int) => r9 = zI u9.1 ∧ (((1 : Int) ≤ u9.2.1 ∧ u9.2.1 ≤ 50) ∧ ((0 : Int) ≤ u9.2.2.1 ∧ u9.2.2.1 ≤ 3) ∧ (RA u9.2.2.2.1 (0) 9) ∧ (RA u9.2.2.2.2.1 (0) 9) ∧ ((0 : Int) ≤ u9.2.2.2.2.2 ∧ u9.2.2.2.2.2 ≤ 1) ∧ ((((1 ≤ c ∧ c ≤ 50) ∧ 0 ≤ gp ∧ gp ≤ 3) ∧ u9.1 = 1 ∧ u9.2.1 = c ∧ u9.2.2.1 = gp ∧ (∀ k, 0 ≤ k → k < 50 → u9.2.2.2.1 k = 0 ∧ u9.2.2.2.2.1 k = 0) ∧ u9.2.2.2.2.2 = 0) ∨ (¬ ((1 ≤ c ∧ c ≤ 50) ∧ 0 ≤ gp ∧ gp ≤ 3) ∧ u9.1 = 0 ∧ u9.2.1 = Tcells ∧ u9.2.2.1 = Tgap ∧ u9.2.2.2.1 = Twires ∧ u9.2.2.2.2.1 = Tstands ∧ u9.2.2.2.2.2 = Crun)))) (fun u9 t9 => zAt D cI cB cZ (va_A (kT cI cB cZ oT Tcells Tgap Twires Tstands ++ kC cI cB cZ oC aCguests Crow Cquiet aCreader aCbars aCspare aCsearch aCbreach (oT 0) aCparade aCtrial Crun) sz) (kT cI cB cZ oT (u9.2.1) (u9.2.2.1) (u9.2.2.2.1) (u9.2.2.2.2.1) ++ kC cI cB cZ oC aCguests Crow Cquiet aCreader aCbars aCspare aCsearch aCbreach (oT 0) aCparade aCtrial (u9.2.2.2.2.2)) t9) (va_A (kT cI cB cZ oT Tcells Tgap Twires Tstands ++ kC cI cB cZ oC aCguests Crow Cquiet aCreader aCbars aCspare aCsearch aCbreach (oT 0) aCparade aCtrial Crun) sz)) 0 0 (va_A (kT cI cB cZ oT Tcells Tgap Twires Tstands ++ kC cI cB cZ oC aCguests Crow Cquiet aCreader aCbars aCspare aCsearch aCbreach (oT 0) aCparade aCtrial Crun) sz) := by
  refine Met.ofW (cc := cX7_road) (maxL := 3) (ret := (some .boolean)) (by decide) rfl ?_
  intro pp ee s mm aa bw mt cd s₁ BL hml hv
  obtain ⟨rfl, hsz, hP, hK, hD0⟩ := hv
  have hx := BL.exec
  have hb := BL.bytes
  have hr := BL.returns
  have hts := atoms_spec (ws := wsX7_road) BL.pre
  have hown : s.vm.findClass RX7 = some mm.cls := findClass_of_methodNamed BL.named
  have hlocks := BL.notSynchronized
  subst hsz
  generalize hAe : va_A (kT cI cB cZ oT Tcells Tgap Twires Tstands ++ kC cI cB cZ oC aCguests Crow Cquiet aCreader aCbars aCspare aCsearch aCbreach (oT 0) aCparade aCtrial Crun) s.heap.size = A
  have hA : ∀ q : Nat, s.heap.size ≤ q → A q := fun q h => by rw [← hAe]; exact Or.inr h
  have hw : HW D A s.heap (kT cI cB cZ oT Tcells Tgap Twires Tstands ++ kC cI cB cZ oC aCguests Crow Cquiet aCreader aCbars aCspare aCsearch aCbreach (oT 0) aCparade aCtrial Crun) s.heap [] := z_start hAe hP hD0
  clear hP hD0
  have hl := lv_entry ([.ref (oC 0), .int (zI c), .int (zI gp)]) (n := 3) (Nat.le_of_ble_eq_true rfl)
  rw [lg_entry_eq]
  generalize (lg_sl ([.ref (oC 0), .int (zI c), .int (zI gp)]) ++ List.replicate (3 - (lg_sl ([.ref (oC 0), .int (zI c), .int (zI gp)])).length) Slot.unset).toArray = ls at hl ⊢
  have hl : lv_has ls 3 [(0, .ref (oC 0)), (1, .int (zI c)), (2, .int (zI gp))] := hl
  have hinX7 : ∀ w ∈ wsX70, w ∈ wsX7_road := by decide +kernel
  refine lv_iload_n hx hb dX7_road_0 rfl (lv_at hl 1 rfl) ?_
  refine z_iconst hx hb dX7_road_1 ?_
  refine z_icmp_lt (tgt := 20) hx hb dX7_road_2 (by decide) (by omega) (fun hc_1 => ?_) (fun hc_1 => ?_)
  · skip
    refine z_iconst hx hb dX7_road_20 ?_
    have hv_2 : (1 : Int) ≤ Tcells ∧ Tcells ≤ 50 := by
      first | assumption | omega | grind
    have hv_3 : (0 : Int) ≤ Tgap ∧ Tgap ≤ 3 := by
      first | assumption | omega | grind
    have hv_4 : (0 : Int) ≤ Crun ∧ Crun ≤ 1 := by
      first | assumption | omega | grind
    have hv_5 : (((1 ≤ c ∧ c ≤ 50) ∧ 0 ≤ gp ∧ gp ≤ 3) ∧ (0 : Int) = 1 ∧ Tcells = c ∧ Tgap = gp ∧ (∀ k, 0 ≤ k → k < 50 → Twires k = 0 ∧ Tstands k = 0) ∧ Crun = 0) ∨ (¬ ((1 ≤ c ∧ c ≤ 50) ∧ 0 ≤ gp ∧ gp ≤ 3) ∧ (0 : Int) = 0 ∧ Tcells = Tcells ∧ Tgap = Tgap ∧ Twires = Twires ∧ Tstands = Tstands ∧ Crun = Crun) := by
      first | exact Or.inl ⟨by omega, rfl, by assumption, by assumption, by assumption, rfl⟩ | exact Or.inr ⟨by omega, rfl, rfl, rfl, rfl, rfl, rfl⟩
    exact W.zret (v := zI 0) hx hb hr rfl (fun t9 ht hW => ⟨⟨zI 0, (0, Tcells, Tgap, Twires, Tstands, Crun), rfl, ⟨rfl, ⟨hv_2, hv_3, qTwires, qTstands, hv_4, hv_5⟩⟩, by subst hAe; exact z_end hK hw ht hW⟩, by subst hAe; exact hw.2.2.F ht⟩) (by subst hAe; exact hw.2.2.2.2) dX7_road_21
  · skip
    refine lv_iload_n hx hb dX7_road_5 rfl (lv_at hl 1 rfl) ?_
    refine z_bipush hx hb dX7_road_6 (by decide) ?_
    refine z_icmp_gt (tgt := 20) hx hb dX7_road_8 (by decide) (by omega) (fun hc_6 => ?_) (fun hc_6 => ?_)
    · skip
      refine z_iconst hx hb dX7_road_20 ?_
      have hv_7 : (1 : Int) ≤ Tcells ∧ Tcells ≤ 50 := by
        first | assumption | omega | grind
      have hv_8 : (0 : Int) ≤ Tgap ∧ Tgap ≤ 3 := by
        first | assumption | omega | grind
      have hv_9 : (0 : Int) ≤ Crun ∧ Crun ≤ 1 := by
        first | assumption | omega | grind
      have hv_10 : (((1 ≤ c ∧ c ≤ 50) ∧ 0 ≤ gp ∧ gp ≤ 3) ∧ (0 : Int) = 1 ∧ Tcells = c ∧ Tgap = gp ∧ (∀ k, 0 ≤ k → k < 50 → Twires k = 0 ∧ Tstands k = 0) ∧ Crun = 0) ∨ (¬ ((1 ≤ c ∧ c ≤ 50) ∧ 0 ≤ gp ∧ gp ≤ 3) ∧ (0 : Int) = 0 ∧ Tcells = Tcells ∧ Tgap = Tgap ∧ Twires = Twires ∧ Tstands = Tstands ∧ Crun = Crun) := by
        first | exact Or.inl ⟨by omega, rfl, by assumption, by assumption, by assumption, rfl⟩ | exact Or.inr ⟨by omega, rfl, rfl, rfl, rfl, rfl, rfl⟩
      exact W.zret (v := zI 0) hx hb hr rfl (fun t9 ht hW => ⟨⟨zI 0, (0, Tcells, Tgap, Twires, Tstands, Crun), rfl, ⟨rfl, ⟨hv_7, hv_8, qTwires, qTstands, hv_9, hv_10⟩⟩, by subst hAe; exact z_end hK hw ht hW⟩, by subst hAe; exact hw.2.2.F ht⟩) (by subst hAe; exact hw.2.2.2.2) dX7_road_21
    · skip
      refine lv_iload_n hx hb dX7_road_11 rfl (lv_at hl 2 rfl) ?_
      refine z_if_lt (tgt := 20) hx hb dX7_road_12 (by decide) (by omega) (fun hc_11 => ?_) (fun hc_11 => ?_)
      · skip
        refine z_iconst hx hb dX7_road_20 ?_
        have hv_12 : (1 : Int) ≤ Tcells ∧ Tcells ≤ 50 := by
          first | assumption | omega | grind
        have hv_13 : (0 : Int) ≤ Tgap ∧ Tgap ≤ 3 := by
          first | assumption | omega | grind
        have hv_14 : (0 : Int) ≤ Crun ∧ Crun ≤ 1 := by
          first | assumption | omega | grind
        have hv_15 : (((1 ≤ c ∧ c ≤ 50) ∧ 0 ≤ gp ∧ gp ≤ 3) ∧ (0 : Int) = 1 ∧ Tcells = c ∧ Tgap = gp ∧ (∀ k, 0 ≤ k → k < 50 → Twires k = 0 ∧ Tstands k = 0) ∧ Crun = 0) ∨ (¬ ((1 ≤ c ∧ c ≤ 50) ∧ 0 ≤ gp ∧ gp ≤ 3) ∧ (0 : Int) = 0 ∧ Tcells = Tcells ∧ Tgap = Tgap ∧ Twires = Twires ∧ Tstands = Tstands ∧ Crun = Crun) := by
          first | exact Or.inl ⟨by omega, rfl, by assumption, by assumption, by assumption, rfl⟩ | exact Or.inr ⟨by omega, rfl, rfl, rfl, rfl, rfl, rfl⟩
        exact W.zret (v := zI 0) hx hb hr rfl (fun t9 ht hW => ⟨⟨zI 0, (0, Tcells, Tgap, Twires, Tstands, Crun), rfl, ⟨rfl, ⟨hv_12, hv_13, qTwires, qTstands, hv_14, hv_15⟩⟩, by subst hAe; exact z_end hK hw ht hW⟩, by subst hAe; exact hw.2.2.F ht⟩) (by subst hAe; exact hw.2.2.2.2) dX7_road_21
      · skip
        refine lv_iload_n hx hb dX7_road_15 rfl (lv_at hl 2 rfl) ?_
        refine z_iconst hx hb dX7_road_16 ?_
        refine z_icmp_le (tgt := 22) hx hb dX7_road_17 (by decide) (by omega) (fun hc_16 => ?_) (fun hc_16 => ?_)
        · skip
          refine lv_aload_n hx hb dX7_road_22 rfl (lv_at hl 0 rfl) ?_
          refine va_get (D := D) (ci := 7) (v := .ref (oT 0)) (C := RX7) (T := TX7) (N := 12) hx hb hts hinX7 hown hK hw.1 3 rfl rfl 8 (by decide) (hts (.fieldLink RX7 59 "CarnivalRoad" "street" "LCarnivalRoad$Street;") (by decide +kernel)) (fun _ h9 => h9) rfl dX7_road_23 ?_
          refine lv_iload_n hx hb dX7_road_26 rfl (lv_at hl 1 rfl) ?_
          refine lv_iload_n hx hb dX7_road_27 rfl (lv_at hl 2 rfl) ?_
          have hF9 := z_free (wc := kT cI cB cZ oT Tcells Tgap Twires Tstands) hw hA [0, 1, 2] rfl
          refine va_callv (va_runV (As := [.int (zI c), .int (zI gp)]) (rest := []) ⟨hx, hb, hml, hown, hts⟩ (c_X6_clear l D cI cB cZ oT s.heap.size Tcells Tgap Twires Tstands c gp (by omega) (by omega) qTwires qTstands (by omega) (by omega)) (cwV 2 hts gX7_road_X6_clear rfl rfl rfl (by decide +kernel) ⟨Nat.le_of_ble_eq_true rfl, Nat.le_of_ble_eq_true rfl⟩) ⟨zPre_blind, va_recv hK hw.1 (ci := 6) (q0 := 0) rfl rfl, z_pre hK hw [0, 1, 2] (by decide) rfl⟩ rfl rfl hl.1 rfl (lv_room (Nat.le_of_ble_eq_true rfl)) dX7_road_28 ⟨Nat.zero_le _, Nat.zero_le _⟩) hw.2.2 (fun q _ h => hF9 q h) hF9 (fun u9 t9 H_17 locs9 ht9 hvm9 hq9 hB9 hz9 hk9 hS9 => ?_)
          obtain ⟨Tcells_18, Tgap_19, Twires_20, Tstands_21⟩ := u9
          try dsimp only at hq9 hB9
          obtain ⟨hq_22, hq_23, hq_24, hq_25, hq_26, hq_27, hq_28⟩ := hq9
          have hw : HW D A s.heap (kT cI cB cZ oT Tcells_18 Tgap_19 Twires_20 Tstands_21 ++ kC cI cB cZ oC aCguests Crow Cquiet aCreader aCbars aCspare aCsearch aCbreach (oT 0) aCparade aCtrial Crun) H_17 locs9 := z_after (wc := kT cI cB cZ oT Tcells Tgap Twires Tstands) hw [0, 1, 2] [3, 4, 5] rfl rfl (by decide) (by decide) hF9 hk9 ht9 hB9 hS9 [3, 4, 5, 0, 1, 2] (by decide) rfl
          clear hF9 ht9 hvm9 hB9 hz9 hk9 hS9
          refine lv_aload_n hx hb dX7_road_31 rfl (lv_at hl 0 rfl) ?_
          refine z_iconst hx hb dX7_road_32 ?_
          refine z_put (D := D) (ci := 7) (v := .int (zI 0)) (ty := .boolean) (C := RX7) (T := TX7) (N := 12) (ws2 := kT cI cB cZ oT Tcells_18 Tgap_19 Twires_20 Tstands_21 ++ kC cI cB cZ oC aCguests Crow Cquiet aCreader aCbars aCspare aCsearch aCbreach (oT 0) aCparade aCtrial 0) hx hb hts hinX7 tyX7 tyX7_ok nmX7 hown hK hw 3 rfl rfl 11 (by decide) (hts (.fieldLink RX7 75 "CarnivalRoad" "running" "Z") (by decide +kernel)) (fun _ h9 => h9) rfl (by decide +kernel) rfl rfl (Nat.le_of_ble_eq_true rfl) dX7_road_33 rfl (fun H locs hw => ?_)
          refine z_iconst hx hb dX7_road_36 ?_
          have hv_29 : (1 : Int) ≤ Tcells_18 ∧ Tcells_18 ≤ 50 := by
            first | assumption | omega | grind
          have hv_30 : (0 : Int) ≤ Tgap_19 ∧ Tgap_19 ≤ 3 := by
            first | assumption | omega | grind
          have hv_31 : (0 : Int) ≤ (0 : Int) ∧ (0 : Int) ≤ 1 := by
            first | assumption | omega | grind
          have hv_32 : (((1 ≤ c ∧ c ≤ 50) ∧ 0 ≤ gp ∧ gp ≤ 3) ∧ (1 : Int) = 1 ∧ Tcells_18 = c ∧ Tgap_19 = gp ∧ (∀ k, 0 ≤ k → k < 50 → Twires_20 k = 0 ∧ Tstands_21 k = 0) ∧ (0 : Int) = 0) ∨ (¬ ((1 ≤ c ∧ c ≤ 50) ∧ 0 ≤ gp ∧ gp ≤ 3) ∧ (1 : Int) = 0 ∧ Tcells_18 = Tcells ∧ Tgap_19 = Tgap ∧ Twires_20 = Twires ∧ Tstands_21 = Tstands ∧ (0 : Int) = Crun) := by
            first | exact Or.inl ⟨by omega, rfl, by assumption, by assumption, by assumption, rfl⟩ | exact Or.inr ⟨by omega, rfl, rfl, rfl, rfl, rfl, rfl⟩
          exact W.zret (v := zI 1) hx hb hr rfl (fun t9 ht hW => ⟨⟨zI 1, (1, Tcells_18, Tgap_19, Twires_20, Tstands_21, 0), rfl, ⟨rfl, ⟨hv_29, hv_30, hq_24, hq_25, hv_31, hv_32⟩⟩, by subst hAe; exact z_end hK hw ht hW⟩, by subst hAe; exact hw.2.2.F ht⟩) (by subst hAe; exact hw.2.2.2.2) dX7_road_37
        · skip
          refine z_iconst hx hb dX7_road_20 ?_
          have hv_33 : (1 : Int) ≤ Tcells ∧ Tcells ≤ 50 := by
            first | assumption | omega | grind
          have hv_34 : (0 : Int) ≤ Tgap ∧ Tgap ≤ 3 := by
            first | assumption | omega | grind
          have hv_35 : (0 : Int) ≤ Crun ∧ Crun ≤ 1 := by
            first | assumption | omega | grind
          have hv_36 : (((1 ≤ c ∧ c ≤ 50) ∧ 0 ≤ gp ∧ gp ≤ 3) ∧ (0 : Int) = 1 ∧ Tcells = c ∧ Tgap = gp ∧ (∀ k, 0 ≤ k → k < 50 → Twires k = 0 ∧ Tstands k = 0) ∧ Crun = 0) ∨ (¬ ((1 ≤ c ∧ c ≤ 50) ∧ 0 ≤ gp ∧ gp ≤ 3) ∧ (0 : Int) = 0 ∧ Tcells = Tcells ∧ Tgap = Tgap ∧ Twires = Twires ∧ Tstands = Tstands ∧ Crun = Crun) := by
            first | exact Or.inl ⟨by omega, rfl, by assumption, by assumption, by assumption, rfl⟩ | exact Or.inr ⟨by omega, rfl, rfl, rfl, rfl, rfl, rfl⟩
          exact W.zret (v := zI 0) hx hb hr rfl (fun t9 ht hW => ⟨⟨zI 0, (0, Tcells, Tgap, Twires, Tstands, Crun), rfl, ⟨rfl, ⟨hv_33, hv_34, qTwires, qTstands, hv_35, hv_36⟩⟩, by subst hAe; exact z_end hK hw ht hW⟩, by subst hAe; exact hw.2.2.F ht⟩) (by subst hAe; exact hw.2.2.2.2) dX7_road_21
set_option maxRecDepth 100000 in
set_option maxHeartbeats 4000000 in
theorem c_X7_wire (l : Launch) (D : va_G) (cI cB cZ : ClassId) (oT : Nat → Nat) (oC : Nat → Nat) (aCguests : Nat) (aCreader : Nat) (aCbars : Nat) (aCspare : Nat) (aCsearch : Nat) (aCbreach : Nat) (aCparade : Nat) (aCtrial : Nat) (sz : Nat) (Tcells : Int) (Tgap : Int) (Twires : Int → Int) (Tstands : Int → Int) (Crow : Int → Int) (Cquiet : Int → Int) (Crun : Int) (c : Int) (h : Int) (qTcells : 1 ≤ Tcells ∧ Tcells ≤ 50) (qTgap : 0 ≤ Tgap ∧ Tgap ≤ 3) (qTwires : RA Twires (0) 9) (qTstands : RA Tstands (0) 9) (qCrow : RA Crow (0) 7) (qCquiet : RA Cquiet (0) 7) (qCrun : 0 ≤ Crun ∧ Crun ≤ 1) (qc : -2147483648 ≤ c ∧ c ≤ 2147483647) (qh : -2147483648 ≤ h ∧ h ≤ 2147483647) : Met l yX7_wire wsX7_wire ({ frames := 1, cells := 0, slots := 0, locals := 21 }) (va_Pc [.ref (oC 0), .int (zI c), .int (zI h)] (zPre D cI cB cZ sz (kT cI cB cZ oT Tcells Tgap Twires Tstands ++ kC cI cB cZ oC aCguests Crow Cquiet aCreader aCbars aCspare aCsearch aCbreach (oT 0) aCparade aCtrial Crun))) (va_Qi (fun (r9 : Int32) (u9 : Int × (Int → Int) × Int) => r9 = zI u9.1 ∧ ((RA u9.2.1 (0) 9) ∧ ((0 : Int) ≤ u9.2.2 ∧ u9.2.2 ≤ 1) ∧ ((((0 ≤ c ∧ c < Tcells) ∧ 0 ≤ h ∧ h ≤ 9) ∧ u9.1 = 1 ∧ u9.2.1 = uZ Twires c h ∧ u9.2.2 = 0) ∨ (¬ ((0 ≤ c ∧ c < Tcells) ∧ 0 ≤ h ∧ h ≤ 9) ∧ u9.1 = 0 ∧ u9.2.1 = Twires ∧ u9.2.2 = Crun)))) (fun u9 t9 => zAt D cI cB cZ (va_A (kT cI cB cZ oT Tcells Tgap Twires Tstands ++ kC cI cB cZ oC aCguests Crow Cquiet aCreader aCbars aCspare aCsearch aCbreach (oT 0) aCparade aCtrial Crun) sz) (kT cI cB cZ oT Tcells Tgap (u9.2.1) Tstands ++ kC cI cB cZ oC aCguests Crow Cquiet aCreader aCbars aCspare aCsearch aCbreach (oT 0) aCparade aCtrial (u9.2.2)) t9) (va_A (kT cI cB cZ oT Tcells Tgap Twires Tstands ++ kC cI cB cZ oC aCguests Crow Cquiet aCreader aCbars aCspare aCsearch aCbreach (oT 0) aCparade aCtrial Crun) sz)) 0 0 (va_A (kT cI cB cZ oT Tcells Tgap Twires Tstands ++ kC cI cB cZ oC aCguests Crow Cquiet aCreader aCbars aCspare aCsearch aCbreach (oT 0) aCparade aCtrial Crun) sz) := by
  refine Met.ofW (cc := cX7_wire) (maxL := 3) (ret := (some .boolean)) (by decide) rfl ?_
  intro pp ee s mm aa bw mt cd s₁ BL hml hv
  obtain ⟨rfl, hsz, hP, hK, hD0⟩ := hv
  have hx := BL.exec
  have hb := BL.bytes
  have hr := BL.returns
  have hts := atoms_spec (ws := wsX7_wire) BL.pre
  have hown : s.vm.findClass RX7 = some mm.cls := findClass_of_methodNamed BL.named
  have hlocks := BL.notSynchronized
  subst hsz
  generalize hAe : va_A (kT cI cB cZ oT Tcells Tgap Twires Tstands ++ kC cI cB cZ oC aCguests Crow Cquiet aCreader aCbars aCspare aCsearch aCbreach (oT 0) aCparade aCtrial Crun) s.heap.size = A
  have hA : ∀ q : Nat, s.heap.size ≤ q → A q := fun q h => by rw [← hAe]; exact Or.inr h
  have hw : HW D A s.heap (kT cI cB cZ oT Tcells Tgap Twires Tstands ++ kC cI cB cZ oC aCguests Crow Cquiet aCreader aCbars aCspare aCsearch aCbreach (oT 0) aCparade aCtrial Crun) s.heap [] := z_start hAe hP hD0
  clear hP hD0
  have hl := lv_entry ([.ref (oC 0), .int (zI c), .int (zI h)]) (n := 3) (Nat.le_of_ble_eq_true rfl)
  rw [lg_entry_eq]
  generalize (lg_sl ([.ref (oC 0), .int (zI c), .int (zI h)]) ++ List.replicate (3 - (lg_sl ([.ref (oC 0), .int (zI c), .int (zI h)])).length) Slot.unset).toArray = ls at hl ⊢
  have hl : lv_has ls 3 [(0, .ref (oC 0)), (1, .int (zI c)), (2, .int (zI h))] := hl
  have hinX6 : ∀ w ∈ wsX60, w ∈ wsX7_wire := by decide +kernel
  have hinX7 : ∀ w ∈ wsX70, w ∈ wsX7_wire := by decide +kernel
  refine lv_aload_n hx hb dX7_wire_0 rfl (lv_at hl 0 rfl) ?_
  refine va_get (D := D) (ci := 7) (v := .ref (oT 0)) (C := RX7) (T := TX7) (N := 12) hx hb hts hinX7 hown hK hw.1 3 rfl rfl 8 (by decide) (hts (.fieldLink RX7 59 "CarnivalRoad" "street" "LCarnivalRoad$Street;") (by decide +kernel)) (fun _ h9 => h9) rfl dX7_wire_1 ?_
  refine lv_iload_n hx hb dX7_wire_4 rfl (lv_at hl 1 rfl) ?_
  have hF9 := z_free (wc := kT cI cB cZ oT Tcells Tgap Twires Tstands) hw hA [0, 1, 2] rfl
  refine va_calli (va_runV (As := [.int (zI c)]) (rest := []) ⟨hx, hb, hml, hown, hts⟩ (c_X6_has l D cI cB cZ oT s.heap.size Tcells Tgap Twires Tstands c (by omega) (by omega) qTwires qTstands (by omega)) (cwV 1 hts gX7_wire_X6_has rfl rfl rfl (by decide +kernel) ⟨Nat.le_of_ble_eq_true rfl, Nat.le_of_ble_eq_true rfl⟩) ⟨zPre_blind, va_recv hK hw.1 (ci := 6) (q0 := 0) rfl rfl, z_pre hK hw [0, 1, 2] (by decide) rfl⟩ rfl rfl hl.1 rfl (lv_room (Nat.le_of_ble_eq_true rfl)) dX7_wire_5 ⟨Nat.zero_le _, Nat.zero_le _⟩) hw.2.2 (fun q _ h => hF9 q h) hF9 (fun r9 u9 t9 H_1 locs9 ht9 hvm9 hq9 hB9 hz9 hk9 hS9 => ?_)
  obtain ⟨r_2, rfl⟩ : ∃ z, z = u9 := ⟨_, rfl⟩
  try dsimp only at hq9 hB9
  obtain ⟨rfl, hq9⟩ := hq9
  have hq_3 := hq9
  have hw : HW D A s.heap (kT cI cB cZ oT Tcells Tgap Twires Tstands ++ kC cI cB cZ oC aCguests Crow Cquiet aCreader aCbars aCspare aCsearch aCbreach (oT 0) aCparade aCtrial Crun) H_1 locs9 := z_after (wc := kT cI cB cZ oT Tcells Tgap Twires Tstands) hw [0, 1, 2] [3, 4, 5] rfl rfl (by decide) (by decide) hF9 hk9 ht9 hB9 hS9 [3, 4, 5, 0, 1, 2] (by decide) rfl
  clear hF9 ht9 hvm9 hB9 hz9 hk9 hS9 hq9
  rcases hq_3 with ⟨hc_4, rfl⟩ | ⟨hc_4, rfl⟩
  · skip
    refine z_if_eq (tgt := 21) hx hb dX7_wire_8 (by decide) (by omega) (fun hc_5 => absurd hc_5 (by omega)) (fun hc_5 => ?_)
    refine lv_iload_n hx hb dX7_wire_11 rfl (lv_at hl 2 rfl) ?_
    refine z_if_lt (tgt := 21) hx hb dX7_wire_12 (by decide) (by omega) (fun hc_6 => ?_) (fun hc_6 => ?_)
    · skip
      refine z_iconst hx hb dX7_wire_21 ?_
      have hv_7 : (0 : Int) ≤ Crun ∧ Crun ≤ 1 := by
        first | assumption | omega | grind
      have hv_8 : (((0 ≤ c ∧ c < Tcells) ∧ 0 ≤ h ∧ h ≤ 9) ∧ (0 : Int) = 1 ∧ Twires = uZ Twires c h ∧ Crun = 0) ∨ (¬ ((0 ≤ c ∧ c < Tcells) ∧ 0 ≤ h ∧ h ≤ 9) ∧ (0 : Int) = 0 ∧ Twires = Twires ∧ Crun = Crun) := by
        first | exact Or.inl ⟨by omega, rfl, rfl, rfl⟩ | exact Or.inr ⟨by omega, rfl, rfl, rfl⟩
      exact W.zret (v := zI 0) hx hb hr rfl (fun t9 ht hW => ⟨⟨zI 0, (0, Twires, Crun), rfl, ⟨rfl, ⟨qTwires, hv_7, hv_8⟩⟩, by subst hAe; exact z_end hK hw ht hW⟩, by subst hAe; exact hw.2.2.F ht⟩) (by subst hAe; exact hw.2.2.2.2) dX7_wire_22
    · skip
      refine lv_iload_n hx hb dX7_wire_15 rfl (lv_at hl 2 rfl) ?_
      refine z_bipush hx hb dX7_wire_16 (by decide) ?_
      refine z_icmp_le (tgt := 23) hx hb dX7_wire_18 (by decide) (by omega) (fun hc_9 => ?_) (fun hc_9 => ?_)
      · skip
        refine lv_aload_n hx hb dX7_wire_23 rfl (lv_at hl 0 rfl) ?_
        refine va_get (D := D) (ci := 7) (v := .ref (oT 0)) (C := RX7) (T := TX7) (N := 12) hx hb hts hinX7 hown hK hw.1 3 rfl rfl 8 (by decide) (hts (.fieldLink RX7 59 "CarnivalRoad" "street" "LCarnivalRoad$Street;") (by decide +kernel)) (fun _ h9 => h9) rfl dX7_wire_24 ?_
        refine va_get (D := D) (ci := 6) (v := .ref (oT 1)) (C := RX6) (T := TX6) (N := 4) hx hb hts hinX6 hown hK hw.1 0 rfl rfl 2 (by decide) (hts (.fieldLink RX7 189 "CarnivalRoad$Street" "wires" "[I") (by decide +kernel)) (fun _ h9 => h9) rfl dX7_wire_27 ?_
        refine lv_iload_n hx hb dX7_wire_30 rfl (lv_at hl 1 rfl) ?_
        refine lv_iload_n hx hb dX7_wire_31 rfl (lv_at hl 2 rfl) ?_
        have hi_10 : (0 : Int) ≤ c ∧ c < ((50 : Nat) : Int) := by
          first | assumption | omega | grind
        have hv_11 : (0 : Int) ≤ h ∧ h ≤ 9 := by
          first | assumption | omega | grind
        have hR_12 : RA (uZ Twires c h) (0) 9 := RA_up qTwires hv_11
        refine z_iast (n := 50) (f := Twires) (ws2 := kT cI cB cZ oT Tcells Tgap (uZ Twires c h) Tstands ++ kC cI cB cZ oC aCguests Crow Cquiet aCreader aCbars aCspare aCsearch aCbreach (oT 0) aCparade aCtrial Crun) hx hb hK hw 1 rfl (by decide) hi_10 dX7_wire_32 rfl (fun H locs hw => ?_)
        refine lv_aload_n hx hb dX7_wire_33 rfl (lv_at hl 0 rfl) ?_
        refine z_iconst hx hb dX7_wire_34 ?_
        refine z_put (D := D) (ci := 7) (v := .int (zI 0)) (ty := .boolean) (C := RX7) (T := TX7) (N := 12) (ws2 := kT cI cB cZ oT Tcells Tgap (uZ Twires c h) Tstands ++ kC cI cB cZ oC aCguests Crow Cquiet aCreader aCbars aCspare aCsearch aCbreach (oT 0) aCparade aCtrial 0) hx hb hts hinX7 tyX7 tyX7_ok nmX7 hown hK hw 3 rfl rfl 11 (by decide) (hts (.fieldLink RX7 75 "CarnivalRoad" "running" "Z") (by decide +kernel)) (fun _ h9 => h9) rfl (by decide +kernel) rfl rfl (Nat.le_of_ble_eq_true rfl) dX7_wire_35 rfl (fun H locs hw => ?_)
        refine z_iconst hx hb dX7_wire_38 ?_
        have hv_13 : (0 : Int) ≤ (0 : Int) ∧ (0 : Int) ≤ 1 := by
          first | assumption | omega | grind
        have hv_14 : (((0 ≤ c ∧ c < Tcells) ∧ 0 ≤ h ∧ h ≤ 9) ∧ (1 : Int) = 1 ∧ (uZ Twires c h) = uZ Twires c h ∧ (0 : Int) = 0) ∨ (¬ ((0 ≤ c ∧ c < Tcells) ∧ 0 ≤ h ∧ h ≤ 9) ∧ (1 : Int) = 0 ∧ (uZ Twires c h) = Twires ∧ (0 : Int) = Crun) := by
          first | exact Or.inl ⟨by omega, rfl, rfl, rfl⟩ | exact Or.inr ⟨by omega, rfl, rfl, rfl⟩
        exact W.zret (v := zI 1) hx hb hr rfl (fun t9 ht hW => ⟨⟨zI 1, (1, (uZ Twires c h), 0), rfl, ⟨rfl, ⟨hR_12, hv_13, hv_14⟩⟩, by subst hAe; exact z_end hK hw ht hW⟩, by subst hAe; exact hw.2.2.F ht⟩) (by subst hAe; exact hw.2.2.2.2) dX7_wire_39
      · skip
        refine z_iconst hx hb dX7_wire_21 ?_
        have hv_15 : (0 : Int) ≤ Crun ∧ Crun ≤ 1 := by
          first | assumption | omega | grind
        have hv_16 : (((0 ≤ c ∧ c < Tcells) ∧ 0 ≤ h ∧ h ≤ 9) ∧ (0 : Int) = 1 ∧ Twires = uZ Twires c h ∧ Crun = 0) ∨ (¬ ((0 ≤ c ∧ c < Tcells) ∧ 0 ≤ h ∧ h ≤ 9) ∧ (0 : Int) = 0 ∧ Twires = Twires ∧ Crun = Crun) := by
          first | exact Or.inl ⟨by omega, rfl, rfl, rfl⟩ | exact Or.inr ⟨by omega, rfl, rfl, rfl⟩
        exact W.zret (v := zI 0) hx hb hr rfl (fun t9 ht hW => ⟨⟨zI 0, (0, Twires, Crun), rfl, ⟨rfl, ⟨qTwires, hv_15, hv_16⟩⟩, by subst hAe; exact z_end hK hw ht hW⟩, by subst hAe; exact hw.2.2.F ht⟩) (by subst hAe; exact hw.2.2.2.2) dX7_wire_22
  · skip
    refine z_if_eq (tgt := 21) hx hb dX7_wire_8 (by decide) (by omega) (fun hc_17 => ?_) (fun hc_17 => absurd hc_17 (by omega))
    refine z_iconst hx hb dX7_wire_21 ?_
    have hv_18 : (0 : Int) ≤ Crun ∧ Crun ≤ 1 := by
      first | assumption | omega | grind
    have hv_19 : (((0 ≤ c ∧ c < Tcells) ∧ 0 ≤ h ∧ h ≤ 9) ∧ (0 : Int) = 1 ∧ Twires = uZ Twires c h ∧ Crun = 0) ∨ (¬ ((0 ≤ c ∧ c < Tcells) ∧ 0 ≤ h ∧ h ≤ 9) ∧ (0 : Int) = 0 ∧ Twires = Twires ∧ Crun = Crun) := by
      first | exact Or.inl ⟨by omega, rfl, rfl, rfl⟩ | exact Or.inr ⟨by omega, rfl, rfl, rfl⟩
    exact W.zret (v := zI 0) hx hb hr rfl (fun t9 ht hW => ⟨⟨zI 0, (0, Twires, Crun), rfl, ⟨rfl, ⟨qTwires, hv_18, hv_19⟩⟩, by subst hAe; exact z_end hK hw ht hW⟩, by subst hAe; exact hw.2.2.F ht⟩) (by subst hAe; exact hw.2.2.2.2) dX7_wire_22
set_option maxRecDepth 100000 in
set_option maxHeartbeats 4000000 in
theorem c_X7_stand (l : Launch) (D : va_G) (cI cB cZ : ClassId) (oT : Nat → Nat) (oC : Nat → Nat) (aCguests : Nat) (aCreader : Nat) (aCbars : Nat) (aCspare : Nat) (aCsearch : Nat) (aCbreach : Nat) (aCparade : Nat) (aCtrial : Nat) (sz : Nat) (Tcells : Int) (Tgap : Int) (Twires : Int → Int) (Tstands : Int → Int) (Crow : Int → Int) (Cquiet : Int → Int) (Crun : Int) (c : Int) (h : Int) (qTcells : 1 ≤ Tcells ∧ Tcells ≤ 50) (qTgap : 0 ≤ Tgap ∧ Tgap ≤ 3) (qTwires : RA Twires (0) 9) (qTstands : RA Tstands (0) 9) (qCrow : RA Crow (0) 7) (qCquiet : RA Cquiet (0) 7) (qCrun : 0 ≤ Crun ∧ Crun ≤ 1) (qc : -2147483648 ≤ c ∧ c ≤ 2147483647) (qh : -2147483648 ≤ h ∧ h ≤ 2147483647) : Met l yX7_stand wsX7_stand ({ frames := 1, cells := 0, slots := 0, locals := 21 }) (va_Pc [.ref (oC 0), .int (zI c), .int (zI h)] (zPre D cI cB cZ sz (kT cI cB cZ oT Tcells Tgap Twires Tstands ++ kC cI cB cZ oC aCguests Crow Cquiet aCreader aCbars aCspare aCsearch aCbreach (oT 0) aCparade aCtrial Crun))) (va_Qi (fun (r9 : Int32) (u9 : Int × (Int → Int) × Int) => r9 = zI u9.1 ∧ ((RA u9.2.1 (0) 9) ∧ ((0 : Int) ≤ u9.2.2 ∧ u9.2.2 ≤ 1) ∧ ((((0 ≤ c ∧ c < Tcells) ∧ 0 ≤ h ∧ h ≤ 9) ∧ u9.1 = 1 ∧ u9.2.1 = uZ Tstands c h ∧ u9.2.2 = 0) ∨ (¬ ((0 ≤ c ∧ c < Tcells) ∧ 0 ≤ h ∧ h ≤ 9) ∧ u9.1 = 0 ∧ u9.2.1 = Tstands ∧ u9.2.2 = Crun)))) (fun u9 t9 => zAt D cI cB cZ (va_A (kT cI cB cZ oT Tcells Tgap Twires Tstands ++ kC cI cB cZ oC aCguests Crow Cquiet aCreader aCbars aCspare aCsearch aCbreach (oT 0) aCparade aCtrial Crun) sz) (kT cI cB cZ oT Tcells Tgap Twires (u9.2.1) ++ kC cI cB cZ oC aCguests Crow Cquiet aCreader aCbars aCspare aCsearch aCbreach (oT 0) aCparade aCtrial (u9.2.2)) t9) (va_A (kT cI cB cZ oT Tcells Tgap Twires Tstands ++ kC cI cB cZ oC aCguests Crow Cquiet aCreader aCbars aCspare aCsearch aCbreach (oT 0) aCparade aCtrial Crun) sz)) 0 0 (va_A (kT cI cB cZ oT Tcells Tgap Twires Tstands ++ kC cI cB cZ oC aCguests Crow Cquiet aCreader aCbars aCspare aCsearch aCbreach (oT 0) aCparade aCtrial Crun) sz) := by
  refine Met.ofW (cc := cX7_stand) (maxL := 3) (ret := (some .boolean)) (by decide) rfl ?_
  intro pp ee s mm aa bw mt cd s₁ BL hml hv
  obtain ⟨rfl, hsz, hP, hK, hD0⟩ := hv
  have hx := BL.exec
  have hb := BL.bytes
  have hr := BL.returns
  have hts := atoms_spec (ws := wsX7_stand) BL.pre
  have hown : s.vm.findClass RX7 = some mm.cls := findClass_of_methodNamed BL.named
  have hlocks := BL.notSynchronized
  subst hsz
  generalize hAe : va_A (kT cI cB cZ oT Tcells Tgap Twires Tstands ++ kC cI cB cZ oC aCguests Crow Cquiet aCreader aCbars aCspare aCsearch aCbreach (oT 0) aCparade aCtrial Crun) s.heap.size = A
  have hA : ∀ q : Nat, s.heap.size ≤ q → A q := fun q h => by rw [← hAe]; exact Or.inr h
  have hw : HW D A s.heap (kT cI cB cZ oT Tcells Tgap Twires Tstands ++ kC cI cB cZ oC aCguests Crow Cquiet aCreader aCbars aCspare aCsearch aCbreach (oT 0) aCparade aCtrial Crun) s.heap [] := z_start hAe hP hD0
  clear hP hD0
  have hl := lv_entry ([.ref (oC 0), .int (zI c), .int (zI h)]) (n := 3) (Nat.le_of_ble_eq_true rfl)
  rw [lg_entry_eq]
  generalize (lg_sl ([.ref (oC 0), .int (zI c), .int (zI h)]) ++ List.replicate (3 - (lg_sl ([.ref (oC 0), .int (zI c), .int (zI h)])).length) Slot.unset).toArray = ls at hl ⊢
  have hl : lv_has ls 3 [(0, .ref (oC 0)), (1, .int (zI c)), (2, .int (zI h))] := hl
  have hinX6 : ∀ w ∈ wsX60, w ∈ wsX7_stand := by decide +kernel
  have hinX7 : ∀ w ∈ wsX70, w ∈ wsX7_stand := by decide +kernel
  refine lv_aload_n hx hb dX7_stand_0 rfl (lv_at hl 0 rfl) ?_
  refine va_get (D := D) (ci := 7) (v := .ref (oT 0)) (C := RX7) (T := TX7) (N := 12) hx hb hts hinX7 hown hK hw.1 3 rfl rfl 8 (by decide) (hts (.fieldLink RX7 59 "CarnivalRoad" "street" "LCarnivalRoad$Street;") (by decide +kernel)) (fun _ h9 => h9) rfl dX7_stand_1 ?_
  refine lv_iload_n hx hb dX7_stand_4 rfl (lv_at hl 1 rfl) ?_
  have hF9 := z_free (wc := kT cI cB cZ oT Tcells Tgap Twires Tstands) hw hA [0, 1, 2] rfl
  refine va_calli (va_runV (As := [.int (zI c)]) (rest := []) ⟨hx, hb, hml, hown, hts⟩ (c_X6_has l D cI cB cZ oT s.heap.size Tcells Tgap Twires Tstands c (by omega) (by omega) qTwires qTstands (by omega)) (cwV 1 hts gX7_stand_X6_has rfl rfl rfl (by decide +kernel) ⟨Nat.le_of_ble_eq_true rfl, Nat.le_of_ble_eq_true rfl⟩) ⟨zPre_blind, va_recv hK hw.1 (ci := 6) (q0 := 0) rfl rfl, z_pre hK hw [0, 1, 2] (by decide) rfl⟩ rfl rfl hl.1 rfl (lv_room (Nat.le_of_ble_eq_true rfl)) dX7_stand_5 ⟨Nat.zero_le _, Nat.zero_le _⟩) hw.2.2 (fun q _ h => hF9 q h) hF9 (fun r9 u9 t9 H_1 locs9 ht9 hvm9 hq9 hB9 hz9 hk9 hS9 => ?_)
  obtain ⟨r_2, rfl⟩ : ∃ z, z = u9 := ⟨_, rfl⟩
  try dsimp only at hq9 hB9
  obtain ⟨rfl, hq9⟩ := hq9
  have hq_3 := hq9
  have hw : HW D A s.heap (kT cI cB cZ oT Tcells Tgap Twires Tstands ++ kC cI cB cZ oC aCguests Crow Cquiet aCreader aCbars aCspare aCsearch aCbreach (oT 0) aCparade aCtrial Crun) H_1 locs9 := z_after (wc := kT cI cB cZ oT Tcells Tgap Twires Tstands) hw [0, 1, 2] [3, 4, 5] rfl rfl (by decide) (by decide) hF9 hk9 ht9 hB9 hS9 [3, 4, 5, 0, 1, 2] (by decide) rfl
  clear hF9 ht9 hvm9 hB9 hz9 hk9 hS9 hq9
  rcases hq_3 with ⟨hc_4, rfl⟩ | ⟨hc_4, rfl⟩
  · skip
    refine z_if_eq (tgt := 21) hx hb dX7_stand_8 (by decide) (by omega) (fun hc_5 => absurd hc_5 (by omega)) (fun hc_5 => ?_)
    refine lv_iload_n hx hb dX7_stand_11 rfl (lv_at hl 2 rfl) ?_
    refine z_if_lt (tgt := 21) hx hb dX7_stand_12 (by decide) (by omega) (fun hc_6 => ?_) (fun hc_6 => ?_)
    · skip
      refine z_iconst hx hb dX7_stand_21 ?_
      have hv_7 : (0 : Int) ≤ Crun ∧ Crun ≤ 1 := by
        first | assumption | omega | grind
      have hv_8 : (((0 ≤ c ∧ c < Tcells) ∧ 0 ≤ h ∧ h ≤ 9) ∧ (0 : Int) = 1 ∧ Tstands = uZ Tstands c h ∧ Crun = 0) ∨ (¬ ((0 ≤ c ∧ c < Tcells) ∧ 0 ≤ h ∧ h ≤ 9) ∧ (0 : Int) = 0 ∧ Tstands = Tstands ∧ Crun = Crun) := by
        first | exact Or.inl ⟨by omega, rfl, rfl, rfl⟩ | exact Or.inr ⟨by omega, rfl, rfl, rfl⟩
      exact W.zret (v := zI 0) hx hb hr rfl (fun t9 ht hW => ⟨⟨zI 0, (0, Tstands, Crun), rfl, ⟨rfl, ⟨qTstands, hv_7, hv_8⟩⟩, by subst hAe; exact z_end hK hw ht hW⟩, by subst hAe; exact hw.2.2.F ht⟩) (by subst hAe; exact hw.2.2.2.2) dX7_stand_22
    · skip
      refine lv_iload_n hx hb dX7_stand_15 rfl (lv_at hl 2 rfl) ?_
      refine z_bipush hx hb dX7_stand_16 (by decide) ?_
      refine z_icmp_le (tgt := 23) hx hb dX7_stand_18 (by decide) (by omega) (fun hc_9 => ?_) (fun hc_9 => ?_)
      · skip
        refine lv_aload_n hx hb dX7_stand_23 rfl (lv_at hl 0 rfl) ?_
        refine va_get (D := D) (ci := 7) (v := .ref (oT 0)) (C := RX7) (T := TX7) (N := 12) hx hb hts hinX7 hown hK hw.1 3 rfl rfl 8 (by decide) (hts (.fieldLink RX7 59 "CarnivalRoad" "street" "LCarnivalRoad$Street;") (by decide +kernel)) (fun _ h9 => h9) rfl dX7_stand_24 ?_
        refine va_get (D := D) (ci := 6) (v := .ref (oT 2)) (C := RX6) (T := TX6) (N := 4) hx hb hts hinX6 hown hK hw.1 0 rfl rfl 3 (by decide) (hts (.fieldLink RX7 192 "CarnivalRoad$Street" "stands" "[I") (by decide +kernel)) (fun _ h9 => h9) rfl dX7_stand_27 ?_
        refine lv_iload_n hx hb dX7_stand_30 rfl (lv_at hl 1 rfl) ?_
        refine lv_iload_n hx hb dX7_stand_31 rfl (lv_at hl 2 rfl) ?_
        have hi_10 : (0 : Int) ≤ c ∧ c < ((50 : Nat) : Int) := by
          first | assumption | omega | grind
        have hv_11 : (0 : Int) ≤ h ∧ h ≤ 9 := by
          first | assumption | omega | grind
        have hR_12 : RA (uZ Tstands c h) (0) 9 := RA_up qTstands hv_11
        refine z_iast (n := 50) (f := Tstands) (ws2 := kT cI cB cZ oT Tcells Tgap Twires (uZ Tstands c h) ++ kC cI cB cZ oC aCguests Crow Cquiet aCreader aCbars aCspare aCsearch aCbreach (oT 0) aCparade aCtrial Crun) hx hb hK hw 2 rfl (by decide) hi_10 dX7_stand_32 rfl (fun H locs hw => ?_)
        refine lv_aload_n hx hb dX7_stand_33 rfl (lv_at hl 0 rfl) ?_
        refine z_iconst hx hb dX7_stand_34 ?_
        refine z_put (D := D) (ci := 7) (v := .int (zI 0)) (ty := .boolean) (C := RX7) (T := TX7) (N := 12) (ws2 := kT cI cB cZ oT Tcells Tgap Twires (uZ Tstands c h) ++ kC cI cB cZ oC aCguests Crow Cquiet aCreader aCbars aCspare aCsearch aCbreach (oT 0) aCparade aCtrial 0) hx hb hts hinX7 tyX7 tyX7_ok nmX7 hown hK hw 3 rfl rfl 11 (by decide) (hts (.fieldLink RX7 75 "CarnivalRoad" "running" "Z") (by decide +kernel)) (fun _ h9 => h9) rfl (by decide +kernel) rfl rfl (Nat.le_of_ble_eq_true rfl) dX7_stand_35 rfl (fun H locs hw => ?_)
        refine z_iconst hx hb dX7_stand_38 ?_
        have hv_13 : (0 : Int) ≤ (0 : Int) ∧ (0 : Int) ≤ 1 := by
          first | assumption | omega | grind
        have hv_14 : (((0 ≤ c ∧ c < Tcells) ∧ 0 ≤ h ∧ h ≤ 9) ∧ (1 : Int) = 1 ∧ (uZ Tstands c h) = uZ Tstands c h ∧ (0 : Int) = 0) ∨ (¬ ((0 ≤ c ∧ c < Tcells) ∧ 0 ≤ h ∧ h ≤ 9) ∧ (1 : Int) = 0 ∧ (uZ Tstands c h) = Tstands ∧ (0 : Int) = Crun) := by
          first | exact Or.inl ⟨by omega, rfl, rfl, rfl⟩ | exact Or.inr ⟨by omega, rfl, rfl, rfl⟩
        exact W.zret (v := zI 1) hx hb hr rfl (fun t9 ht hW => ⟨⟨zI 1, (1, (uZ Tstands c h), 0), rfl, ⟨rfl, ⟨hR_12, hv_13, hv_14⟩⟩, by subst hAe; exact z_end hK hw ht hW⟩, by subst hAe; exact hw.2.2.F ht⟩) (by subst hAe; exact hw.2.2.2.2) dX7_stand_39
      · skip
        refine z_iconst hx hb dX7_stand_21 ?_
        have hv_15 : (0 : Int) ≤ Crun ∧ Crun ≤ 1 := by
          first | assumption | omega | grind
        have hv_16 : (((0 ≤ c ∧ c < Tcells) ∧ 0 ≤ h ∧ h ≤ 9) ∧ (0 : Int) = 1 ∧ Tstands = uZ Tstands c h ∧ Crun = 0) ∨ (¬ ((0 ≤ c ∧ c < Tcells) ∧ 0 ≤ h ∧ h ≤ 9) ∧ (0 : Int) = 0 ∧ Tstands = Tstands ∧ Crun = Crun) := by
          first | exact Or.inl ⟨by omega, rfl, rfl, rfl⟩ | exact Or.inr ⟨by omega, rfl, rfl, rfl⟩
        exact W.zret (v := zI 0) hx hb hr rfl (fun t9 ht hW => ⟨⟨zI 0, (0, Tstands, Crun), rfl, ⟨rfl, ⟨qTstands, hv_15, hv_16⟩⟩, by subst hAe; exact z_end hK hw ht hW⟩, by subst hAe; exact hw.2.2.F ht⟩) (by subst hAe; exact hw.2.2.2.2) dX7_stand_22
  · skip
    refine z_if_eq (tgt := 21) hx hb dX7_stand_8 (by decide) (by omega) (fun hc_17 => ?_) (fun hc_17 => absurd hc_17 (by omega))
    refine z_iconst hx hb dX7_stand_21 ?_
    have hv_18 : (0 : Int) ≤ Crun ∧ Crun ≤ 1 := by
      first | assumption | omega | grind
    have hv_19 : (((0 ≤ c ∧ c < Tcells) ∧ 0 ≤ h ∧ h ≤ 9) ∧ (0 : Int) = 1 ∧ Tstands = uZ Tstands c h ∧ Crun = 0) ∨ (¬ ((0 ≤ c ∧ c < Tcells) ∧ 0 ≤ h ∧ h ≤ 9) ∧ (0 : Int) = 0 ∧ Tstands = Tstands ∧ Crun = Crun) := by
      first | exact Or.inl ⟨by omega, rfl, rfl, rfl⟩ | exact Or.inr ⟨by omega, rfl, rfl, rfl⟩
    exact W.zret (v := zI 0) hx hb hr rfl (fun t9 ht hW => ⟨⟨zI 0, (0, Tstands, Crun), rfl, ⟨rfl, ⟨qTstands, hv_18, hv_19⟩⟩, by subst hAe; exact z_end hK hw ht hW⟩, by subst hAe; exact hw.2.2.F ht⟩) (by subst hAe; exact hw.2.2.2.2) dX7_stand_22
set_option maxRecDepth 100000 in
set_option maxHeartbeats 4000000 in
theorem c_X7_begin (l : Launch) (D : va_G) (cI cB cZ : ClassId) (oG : Nat → Nat) (oT : Nat → Nat) (oP : Nat → Nat) (oC : Nat → Nat) (aCreader : Nat) (aCbars : Nat) (aCspare : Nat) (aCsearch : Nat) (aCbreach : Nat) (aCtrial : Nat) (sz : Nat) (Gn : Int) (Gki : Int → Int) (Gle : Int → Int) (Glo : Int → Int) (Gta : Int → Int) (Gsh : Int → Int) (Tcells : Int) (Tgap : Int) (Twires : Int → Int) (Tstands : Int → Int) (Pline : Int → Int) (Psize : Int) (Pnow : Int) (Pheads : Int → Int) (Pbusy : Int → Int) (Pcame : Int → Int) (Pout : Int → Int) (Crow : Int → Int) (Cquiet : Int → Int) (Crun : Int) (qGn : 0 ≤ Gn ∧ Gn ≤ 8) (qGki : RA Gki (0) 4) (qGle : RA Gle (0) 5) (qGlo : RA Glo (0) 9) (qGta : RA Gta (0) 9) (qGsh : RA Gsh (0) 9) (qTcells : 1 ≤ Tcells ∧ Tcells ≤ 50) (qTgap : 0 ≤ Tgap ∧ Tgap ≤ 3) (qTwires : RA Twires (0) 9) (qTstands : RA Tstands (0) 9) (qPline : RA Pline (0) 7) (qPsize : 0 ≤ Psize ∧ Psize ≤ 8) (qPnow : 0 ≤ Pnow ∧ Pnow ≤ 1000000) (qPheads : RA Pheads (-1) 60) (qPbusy : RA Pbusy (0) 30) (qPcame : RA Pcame (-1) 1000000) (qPout : RA Pout (-1) 1000000) (qCrow : RA Crow (0) 7) (qCquiet : RA Cquiet (0) 7) (qCrun : 0 ≤ Crun ∧ Crun ≤ 1) : Met l yX7_begin wsX7_begin ({ frames := 2, cells := 0, slots := 0, locals := 61 }) (va_Pc [.ref (oC 0)] (zPre D cI cB cZ sz (kG cI cB cZ oG Gn Gki Gle Glo Gta Gsh ++ kT cI cB cZ oT Tcells Tgap Twires Tstands ++ kP cI cB cZ oP (oG 0) (oT 0) Pline Psize Pnow Pheads Pbusy Pcame Pout ++ kC cI cB cZ oC (oG 0) Crow Cquiet aCreader aCbars aCspare aCsearch aCbreach (oT 0) (oP 0) aCtrial Crun))) (va_Qi (fun (r9 : Int32) (u9 : Int × (Int → Int) × Int × Int × (Int → Int) × (Int → Int) × (Int → Int) × (Int → Int) × Int) => r9 = zI u9.1 ∧ ((RA u9.2.1 (0) 7) ∧ ((0 : Int) ≤ u9.2.2.1 ∧ u9.2.2.1 ≤ 8) ∧ ((0 : Int) ≤ u9.2.2.2.1 ∧ u9.2.2.2.1 ≤ 1000000) ∧ (RA u9.2.2.2.2.1 (-1) 60) ∧ (RA u9.2.2.2.2.2.1 (0) 30) ∧ (RA u9.2.2.2.2.2.2.1 (-1) 1000000) ∧ (RA u9.2.2.2.2.2.2.2.1 (-1) 1000000) ∧ ((0 : Int) ≤ u9.2.2.2.2.2.2.2.2 ∧ u9.2.2.2.2.2.2.2.2 ≤ 1) ∧ (((0 < Gn ∧ passP Gn Gta Tcells Twires) ∧ u9.1 = 1 ∧ u9.2.1 = cpZ Crow Pline ∧ u9.2.2.1 = Gn ∧ u9.2.2.2.1 = 0 ∧ (∀ k, 0 ≤ k → k < 8 → u9.2.2.2.2.1 k = -1 ∧ u9.2.2.2.2.2.1 k = 0 ∧ u9.2.2.2.2.2.2.1 k = -1 ∧ u9.2.2.2.2.2.2.2.1 k = -1) ∧ u9.2.2.2.2.2.2.2.2 = 1) ∨ (¬ (0 < Gn ∧ passP Gn Gta Tcells Twires) ∧ u9.1 = 0 ∧ u9.2.1 = Pline ∧ u9.2.2.1 = Psize ∧ u9.2.2.2.1 = Pnow ∧ u9.2.2.2.2.1 = Pheads ∧ u9.2.2.2.2.2.1 = Pbusy ∧ u9.2.2.2.2.2.2.1 = Pcame ∧ u9.2.2.2.2.2.2.2.1 = Pout ∧ u9.2.2.2.2.2.2.2.2 = Crun)))) (fun u9 t9 => zAt D cI cB cZ (va_A (kG cI cB cZ oG Gn Gki Gle Glo Gta Gsh ++ kT cI cB cZ oT Tcells Tgap Twires Tstands ++ kP cI cB cZ oP (oG 0) (oT 0) Pline Psize Pnow Pheads Pbusy Pcame Pout ++ kC cI cB cZ oC (oG 0) Crow Cquiet aCreader aCbars aCspare aCsearch aCbreach (oT 0) (oP 0) aCtrial Crun) sz) (kG cI cB cZ oG Gn Gki Gle Glo Gta Gsh ++ kT cI cB cZ oT Tcells Tgap Twires Tstands ++ kP cI cB cZ oP (oG 0) (oT 0) (u9.2.1) (u9.2.2.1) (u9.2.2.2.1) (u9.2.2.2.2.1) (u9.2.2.2.2.2.1) (u9.2.2.2.2.2.2.1) (u9.2.2.2.2.2.2.2.1) ++ kC cI cB cZ oC (oG 0) Crow Cquiet aCreader aCbars aCspare aCsearch aCbreach (oT 0) (oP 0) aCtrial (u9.2.2.2.2.2.2.2.2)) t9) (va_A (kG cI cB cZ oG Gn Gki Gle Glo Gta Gsh ++ kT cI cB cZ oT Tcells Tgap Twires Tstands ++ kP cI cB cZ oP (oG 0) (oT 0) Pline Psize Pnow Pheads Pbusy Pcame Pout ++ kC cI cB cZ oC (oG 0) Crow Cquiet aCreader aCbars aCspare aCsearch aCbreach (oT 0) (oP 0) aCtrial Crun) sz)) 0 0 (va_A (kG cI cB cZ oG Gn Gki Gle Glo Gta Gsh ++ kT cI cB cZ oT Tcells Tgap Twires Tstands ++ kP cI cB cZ oP (oG 0) (oT 0) Pline Psize Pnow Pheads Pbusy Pcame Pout ++ kC cI cB cZ oC (oG 0) Crow Cquiet aCreader aCbars aCspare aCsearch aCbreach (oT 0) (oP 0) aCtrial Crun) sz) := by
  refine Met.ofW (cc := cX7_begin) (maxL := 2) (ret := (some .boolean)) (by decide) rfl ?_
  intro pp ee s mm aa bw mt cd s₁ BL hml hv
  obtain ⟨rfl, hsz, hP, hK, hD0⟩ := hv
  have hx := BL.exec
  have hb := BL.bytes
  have hr := BL.returns
  have hts := atoms_spec (ws := wsX7_begin) BL.pre
  have hown : s.vm.findClass RX7 = some mm.cls := findClass_of_methodNamed BL.named
  have hlocks := BL.notSynchronized
  subst hsz
  generalize hAe : va_A (kG cI cB cZ oG Gn Gki Gle Glo Gta Gsh ++ kT cI cB cZ oT Tcells Tgap Twires Tstands ++ kP cI cB cZ oP (oG 0) (oT 0) Pline Psize Pnow Pheads Pbusy Pcame Pout ++ kC cI cB cZ oC (oG 0) Crow Cquiet aCreader aCbars aCspare aCsearch aCbreach (oT 0) (oP 0) aCtrial Crun) s.heap.size = A
  have hA : ∀ q : Nat, s.heap.size ≤ q → A q := fun q h => by rw [← hAe]; exact Or.inr h
  have hw : HW D A s.heap (kG cI cB cZ oG Gn Gki Gle Glo Gta Gsh ++ kT cI cB cZ oT Tcells Tgap Twires Tstands ++ kP cI cB cZ oP (oG 0) (oT 0) Pline Psize Pnow Pheads Pbusy Pcame Pout ++ kC cI cB cZ oC (oG 0) Crow Cquiet aCreader aCbars aCspare aCsearch aCbreach (oT 0) (oP 0) aCtrial Crun) s.heap [] := z_start hAe hP hD0
  clear hP hD0
  have hl := lv_entry ([.ref (oC 0)]) (n := 2) (Nat.le_of_ble_eq_true rfl)
  rw [lg_entry_eq]
  generalize (lg_sl ([.ref (oC 0)]) ++ List.replicate (2 - (lg_sl ([.ref (oC 0)])).length) Slot.unset).toArray = ls at hl ⊢
  have hl : lv_has ls 2 [(0, .ref (oC 0))] := hl
  have hinX2 : ∀ w ∈ wsX20, w ∈ wsX7_begin := by decide +kernel
  have hinX7 : ∀ w ∈ wsX70, w ∈ wsX7_begin := by decide +kernel
  refine lv_aload_n hx hb dX7_begin_0 rfl (lv_at hl 0 rfl) ?_
  refine va_get (D := D) (ci := 7) (v := .ref (oG 0)) (C := RX7) (T := TX7) (N := 12) hx hb hts hinX7 hown hK hw.1 15 rfl rfl 0 (by decide) (hts (.fieldLink RX7 10 "CarnivalRoad" "guests" "LCarnivalRoad$Guests;") (by decide +kernel)) (fun _ h9 => h9) rfl dX7_begin_1 ?_
  refine va_get (D := D) (ci := 2) (v := .int (zI Gn)) (C := RX2) (T := TX2) (N := 6) hx hb hts hinX2 hown hK hw.1 0 rfl rfl 0 (by decide) (hts (.fieldLink RX7 79 "CarnivalRoad$Guests" "count" "I") (by decide +kernel)) (fun _ h9 => h9) rfl dX7_begin_4 ?_
  refine z_if_ne (tgt := 12) hx hb dX7_begin_7 (by decide) (by omega) (fun hc_1 => ?_) (fun hc_1 => ?_)
  · skip
    refine z_iconst hx hb dX7_begin_12 ?_
    refine lv_istore_n (lv' := [(1, .int (zI 0)), (0, .ref (oC 0))]) hx hb dX7_begin_13 rfl hl (by decide) rfl (fun ls hl => ?_)
    have hv_2 : 0 ≤ (0 : Int) ∧ (0 : Int) ≤ Gn := by
      first | assumption | omega | grind
    have hv_3 : ∀ a, 0 ≤ a → a < (0 : Int) → ∀ i, 0 ≤ i → i < Tcells → ¬ lowP Twires (Gta a) i := by
      exact all_0
    refine z_loop (σ := Int) (μ := fun x9 => (9 - x9).toNat) (I := fun x9 H locs ls => (0 ≤ x9 ∧ x9 ≤ Gn) ∧ (∀ a, 0 ≤ a → a < x9 → ∀ i, 0 ≤ i → i < Tcells → ¬ lowP Twires (Gta a) i) ∧ HW D A s.heap (kG cI cB cZ oG Gn Gki Gle Glo Gta Gsh ++ kT cI cB cZ oT Tcells Tgap Twires Tstands ++ kP cI cB cZ oP (oG 0) (oT 0) Pline Psize Pnow Pheads Pbusy Pcame Pout ++ kC cI cB cZ oC (oG 0) Crow Cquiet aCreader aCbars aCspare aCsearch aCbreach (oT 0) (oP 0) aCtrial Crun) H locs ∧ lv_has ls 2 [(0, .ref (oC 0)), (1, .int (zI x9))]) 0 ⟨hv_2, hv_3, hw, lv_sub hl [1, 0] rfl⟩ ?_
    clear hw hl
    intro g_5 H locs ls hI ih_4
    try dsimp only at hI
    obtain ⟨hI_6, hI_7, hw, hl⟩ := hI
    refine lv_iload_n hx hb dX7_begin_14 rfl (lv_at hl 1 rfl) ?_
    refine lv_aload_n hx hb dX7_begin_15 rfl (lv_at hl 0 rfl) ?_
    refine va_get (D := D) (ci := 7) (v := .ref (oG 0)) (C := RX7) (T := TX7) (N := 12) hx hb hts hinX7 hown hK hw.1 15 rfl rfl 0 (by decide) (hts (.fieldLink RX7 10 "CarnivalRoad" "guests" "LCarnivalRoad$Guests;") (by decide +kernel)) (fun _ h9 => h9) rfl dX7_begin_16 ?_
    refine va_get (D := D) (ci := 2) (v := .int (zI Gn)) (C := RX2) (T := TX2) (N := 6) hx hb hts hinX2 hown hK hw.1 0 rfl rfl 0 (by decide) (hts (.fieldLink RX7 79 "CarnivalRoad$Guests" "count" "I") (by decide +kernel)) (fun _ h9 => h9) rfl dX7_begin_19 ?_
    refine z_icmp_ge (tgt := 53) hx hb dX7_begin_22 (by decide) (by omega) (fun hc_8 => ?_) (fun hc_8 => ?_)
    · skip
      refine lv_aload_n hx hb dX7_begin_53 rfl (lv_at hl 0 rfl) ?_
      refine va_get (D := D) (ci := 7) (v := .ref (oP 0)) (C := RX7) (T := TX7) (N := 12) hx hb hts hinX7 hown hK hw.1 15 rfl rfl 9 (by decide) (hts (.fieldLink RX7 68 "CarnivalRoad" "parade" "LCarnivalRoad$Parade;") (by decide +kernel)) (fun _ h9 => h9) rfl dX7_begin_54 ?_
      refine lv_aload_n hx hb dX7_begin_57 rfl (lv_at hl 0 rfl) ?_
      refine va_get (D := D) (ci := 7) (v := .ref (oC 1)) (C := RX7) (T := TX7) (N := 12) hx hb hts hinX7 hown hK hw.1 15 rfl rfl 1 (by decide) (hts (.fieldLink RX7 16 "CarnivalRoad" "row" "[I") (by decide +kernel)) (fun _ h9 => h9) rfl dX7_begin_58 ?_
      have hF9 := z_free (wc := kG cI cB cZ oG Gn Gki Gle Glo Gta Gsh ++ kT cI cB cZ oT Tcells Tgap Twires Tstands ++ kP cI cB cZ oP (oG 0) (oT 0) Pline Psize Pnow Pheads Pbusy Pcame Pout ++ [(oC 1, .inl (cI, 8, .inl (zA Crow)))]) hw hA [0, 1, 2, 3, 4, 5, 6, 7, 8, 9, 10, 11, 12, 13, 14, 16] rfl
      refine va_callv (va_runV (As := [.ref (oC 1)]) (rest := []) ⟨hx, hb, hml, hown, hts⟩ (c_X3_startRow l D cI cB cZ oG oT oP (oC 1) H.size Gn Gki Gle Glo Gta Gsh Tcells Tgap Twires Tstands Pline Psize Pnow Pheads Pbusy Pcame Pout Crow (by omega) qGki qGle qGlo qGta qGsh (by omega) (by omega) qTwires qTstands qPline (by omega) (by omega) qPheads qPbusy qPcame qPout qCrow) (cwV 1 hts gX7_begin_X3_startRow rfl rfl rfl (by decide +kernel) ⟨Nat.le_of_ble_eq_true rfl, Nat.le_of_ble_eq_true rfl⟩) ⟨zPre_blind, va_recv hK hw.1 (ci := 3) (q0 := 9) rfl rfl, z_pre hK hw [0, 1, 2, 3, 4, 5, 6, 7, 8, 9, 10, 11, 12, 13, 14, 16] (by decide) rfl⟩ rfl rfl hl.1 rfl (lv_room (Nat.le_of_ble_eq_true rfl)) dX7_begin_61 ⟨Nat.zero_le _, Nat.zero_le _⟩) hw.2.2 (fun q _ h => hF9 q h) hF9 (fun u9 t9 H_9 locs9 ht9 hvm9 hq9 hB9 hz9 hk9 hS9 => ?_)
      obtain ⟨Pline_10, Psize_11, Pnow_12, Pheads_13, Pbusy_14, Pcame_15, Pout_16⟩ := u9
      try dsimp only at hq9 hB9
      obtain ⟨hq_17, hq_18, hq_19, hq_20, hq_21, hq_22, hq_23, hq_24, hq_25, hq_26, hq_27⟩ := hq9
      have hw : HW D A s.heap (kG cI cB cZ oG Gn Gki Gle Glo Gta Gsh ++ kT cI cB cZ oT Tcells Tgap Twires Tstands ++ kP cI cB cZ oP (oG 0) (oT 0) Pline_10 Psize_11 Pnow_12 Pheads_13 Pbusy_14 Pcame_15 Pout_16 ++ kC cI cB cZ oC (oG 0) Crow Cquiet aCreader aCbars aCspare aCsearch aCbreach (oT 0) (oP 0) aCtrial Crun) H_9 locs9 := z_after (wc := kG cI cB cZ oG Gn Gki Gle Glo Gta Gsh ++ kT cI cB cZ oT Tcells Tgap Twires Tstands ++ kP cI cB cZ oP (oG 0) (oT 0) Pline Psize Pnow Pheads Pbusy Pcame Pout ++ [(oC 1, .inl (cI, 8, .inl (zA Crow)))]) hw [0, 1, 2, 3, 4, 5, 6, 7, 8, 9, 10, 11, 12, 13, 14, 16] [15, 17] rfl rfl (by decide) (by decide) hF9 hk9 ht9 hB9 hS9 [2, 3, 4, 5, 6, 7, 8, 9, 10, 11, 12, 13, 14, 15, 16, 0, 17, 1] (by decide) rfl
      clear hF9 ht9 hvm9 hB9 hz9 hk9 hS9
      refine lv_aload_n hx hb dX7_begin_64 rfl (lv_at hl 0 rfl) ?_
      refine z_iconst hx hb dX7_begin_65 ?_
      refine z_put (D := D) (ci := 7) (v := .int (zI 1)) (ty := .boolean) (C := RX7) (T := TX7) (N := 12) (ws2 := kG cI cB cZ oG Gn Gki Gle Glo Gta Gsh ++ kT cI cB cZ oT Tcells Tgap Twires Tstands ++ kP cI cB cZ oP (oG 0) (oT 0) Pline_10 Psize_11 Pnow_12 Pheads_13 Pbusy_14 Pcame_15 Pout_16 ++ kC cI cB cZ oC (oG 0) Crow Cquiet aCreader aCbars aCspare aCsearch aCbreach (oT 0) (oP 0) aCtrial 1) hx hb hts hinX7 tyX7 tyX7_ok nmX7 hown hK hw 15 rfl rfl 11 (by decide) (hts (.fieldLink RX7 75 "CarnivalRoad" "running" "Z") (by decide +kernel)) (fun _ h9 => h9) rfl (by decide +kernel) rfl rfl (Nat.le_of_ble_eq_true rfl) dX7_begin_66 rfl (fun H locs hw => ?_)
      refine z_iconst hx hb dX7_begin_69 ?_
      have hv_28 : (0 : Int) ≤ Psize_11 ∧ Psize_11 ≤ 8 := by
        first | assumption | omega | grind
      have hv_29 : (0 : Int) ≤ Pnow_12 ∧ Pnow_12 ≤ 1000000 := by
        first | assumption | omega | grind
      have hv_30 : (0 : Int) ≤ (1 : Int) ∧ (1 : Int) ≤ 1 := by
        first | assumption | omega | grind
      have hv_31 : ((0 < Gn ∧ passP Gn Gta Tcells Twires) ∧ (1 : Int) = 1 ∧ Pline_10 = cpZ Crow Pline ∧ Psize_11 = Gn ∧ Pnow_12 = 0 ∧ (∀ k, 0 ≤ k → k < 8 → Pheads_13 k = -1 ∧ Pbusy_14 k = 0 ∧ Pcame_15 k = -1 ∧ Pout_16 k = -1) ∧ (1 : Int) = 1) ∨ (¬ (0 < Gn ∧ passP Gn Gta Tcells Twires) ∧ (1 : Int) = 0 ∧ Pline_10 = Pline ∧ Psize_11 = Psize ∧ Pnow_12 = Pnow ∧ Pheads_13 = Pheads ∧ Pbusy_14 = Pbusy ∧ Pcame_15 = Pcame ∧ Pout_16 = Pout ∧ (1 : Int) = Crun) := by
        exact Or.inl ⟨⟨by omega, all_le (by assumption) (by omega)⟩, rfl, by assumption, by assumption, by assumption, by assumption, rfl⟩
      exact W.zret (v := zI 1) hx hb hr rfl (fun t9 ht hW => ⟨⟨zI 1, (1, Pline_10, Psize_11, Pnow_12, Pheads_13, Pbusy_14, Pcame_15, Pout_16, 1), rfl, ⟨rfl, ⟨hq_17, hv_28, hv_29, hq_20, hq_21, hq_22, hq_23, hv_30, hv_31⟩⟩, by subst hAe; exact z_end hK hw ht hW⟩, by subst hAe; exact hw.2.2.F ht⟩) (by subst hAe; exact hw.2.2.2.2) dX7_begin_70
    · skip
      refine lv_aload_n hx hb dX7_begin_25 rfl (lv_at hl 0 rfl) ?_
      refine va_get (D := D) (ci := 7) (v := .ref (oT 0)) (C := RX7) (T := TX7) (N := 12) hx hb hts hinX7 hown hK hw.1 15 rfl rfl 8 (by decide) (hts (.fieldLink RX7 59 "CarnivalRoad" "street" "LCarnivalRoad$Street;") (by decide +kernel)) (fun _ h9 => h9) rfl dX7_begin_26 ?_
      refine lv_aload_n hx hb dX7_begin_29 rfl (lv_at hl 0 rfl) ?_
      refine va_get (D := D) (ci := 7) (v := .ref (oG 0)) (C := RX7) (T := TX7) (N := 12) hx hb hts hinX7 hown hK hw.1 15 rfl rfl 0 (by decide) (hts (.fieldLink RX7 10 "CarnivalRoad" "guests" "LCarnivalRoad$Guests;") (by decide +kernel)) (fun _ h9 => h9) rfl dX7_begin_30 ?_
      refine va_get (D := D) (ci := 2) (v := .ref (oG 4)) (C := RX2) (T := TX2) (N := 6) hx hb hts hinX2 hown hK hw.1 0 rfl rfl 4 (by decide) (hts (.fieldLink RX7 104 "CarnivalRoad$Guests" "talls" "[I") (by decide +kernel)) (fun _ h9 => h9) rfl dX7_begin_33 ?_
      refine lv_iload_n hx hb dX7_begin_36 rfl (lv_at hl 1 rfl) ?_
      have hi_32 : (0 : Int) ≤ g_5 ∧ g_5 < ((8 : Nat) : Int) := by
        first | assumption | omega | grind
      refine z_iald (n := 8) (f := Gta) hx hb hK hw 4 rfl (by decide) hi_32 dX7_begin_37 ?_
      have hq_33 : 0 ≤ Gta g_5 ∧ Gta g_5 ≤ 9 := qGta g_5
      have hF9 := z_free (wc := kT cI cB cZ oT Tcells Tgap Twires Tstands) hw hA [6, 7, 8] rfl
      refine va_calli (va_runV (As := [.int (zI (Gta g_5))]) (rest := []) ⟨hx, hb, hml, hown, hts⟩ (c_X6_firstTooLow l D cI cB cZ oT H.size Tcells Tgap Twires Tstands (Gta g_5) (by omega) (by omega) qTwires qTstands (by omega)) (cwV 1 hts gX7_begin_X6_firstTooLow rfl rfl rfl (by decide +kernel) ⟨Nat.le_of_ble_eq_true rfl, Nat.le_of_ble_eq_true rfl⟩) ⟨zPre_blind, va_recv hK hw.1 (ci := 6) (q0 := 6) rfl rfl, z_pre hK hw [6, 7, 8] (by decide) rfl⟩ rfl rfl hl.1 rfl (lv_room (Nat.le_of_ble_eq_true rfl)) dX7_begin_38 ⟨Nat.zero_le _, Nat.zero_le _⟩) hw.2.2 (fun q _ h => hF9 q h) hF9 (fun r9 u9 t9 H_34 locs9 ht9 hvm9 hq9 hB9 hz9 hk9 hS9 => ?_)
      obtain ⟨r_35, rfl⟩ : ∃ z, z = u9 := ⟨_, rfl⟩
      try dsimp only at hq9 hB9
      obtain ⟨rfl, hq9⟩ := hq9
      obtain ⟨hq_36, hq_37⟩ := hq9
      have hw : HW D A s.heap (kG cI cB cZ oG Gn Gki Gle Glo Gta Gsh ++ kT cI cB cZ oT Tcells Tgap Twires Tstands ++ kP cI cB cZ oP (oG 0) (oT 0) Pline Psize Pnow Pheads Pbusy Pcame Pout ++ kC cI cB cZ oC (oG 0) Crow Cquiet aCreader aCbars aCspare aCsearch aCbreach (oT 0) (oP 0) aCtrial Crun) H_34 locs9 := z_after (wc := kT cI cB cZ oT Tcells Tgap Twires Tstands) hw [6, 7, 8] [0, 1, 2, 3, 4, 5, 9, 10, 11, 12, 13, 14, 15, 16, 17] rfl rfl (by decide) (by decide) hF9 hk9 ht9 hB9 hS9 [0, 1, 2, 3, 4, 5, 15, 16, 17, 6, 7, 8, 9, 10, 11, 12, 13, 14] (by decide) rfl
      clear hF9 ht9 hvm9 hB9 hz9 hk9 hS9
      refine z_iconst hx hb dX7_begin_41 ?_
      refine z_icmp_eq (tgt := 47) hx hb dX7_begin_42 (by decide) (by omega) (fun hc_38 => ?_) (fun hc_38 => ?_)
      · skip
        refine z_iinc (k := 1) (lv' := [(1, .int (zI (g_5 + 1))), (0, .ref (oC 0))]) hx hb dX7_begin_47 hl rfl (by decide) rfl (fun ls hl => ?_)
        refine lv_goto (tgt := 14) hx hb dX7_begin_50 (by decide) ?_
        have hv_39 : 0 ≤ (g_5 + 1) ∧ (g_5 + 1) ≤ Gn := by
          first | assumption | omega | grind
        have hv_40 : ∀ a, 0 ≤ a → a < (g_5 + 1) → ∀ i, 0 ≤ i → i < Tcells → ¬ lowP Twires (Gta a) i := by
          refine all_s (P := fun a => ∀ i, 0 ≤ i → i < Tcells → ¬ lowP Twires (Gta a) i) (by assumption) ?_
          exact fst_m1 (by assumption) (by omega)
        have hm_41 : (9 - (g_5 + 1)).toNat < (9 - g_5).toNat := by
          first | assumption | omega | grind
        exact ih_4 (g_5 + 1) _ _ _ ⟨hv_39, hv_40, hw, lv_sub hl [1, 0] rfl⟩ hm_41
      · skip
        refine z_iconst hx hb dX7_begin_45 ?_
        have hv_42 : (0 : Int) ≤ Psize ∧ Psize ≤ 8 := by
          first | assumption | omega | grind
        have hv_43 : (0 : Int) ≤ Pnow ∧ Pnow ≤ 1000000 := by
          first | assumption | omega | grind
        have hv_44 : (0 : Int) ≤ Crun ∧ Crun ≤ 1 := by
          first | assumption | omega | grind
        have hv_45 : ((0 < Gn ∧ passP Gn Gta Tcells Twires) ∧ (0 : Int) = 1 ∧ Pline = cpZ Crow Pline ∧ Psize = Gn ∧ Pnow = 0 ∧ (∀ k, 0 ≤ k → k < 8 → Pheads k = -1 ∧ Pbusy k = 0 ∧ Pcame k = -1 ∧ Pout k = -1) ∧ Crun = 1) ∨ (¬ (0 < Gn ∧ passP Gn Gta Tcells Twires) ∧ (0 : Int) = 0 ∧ Pline = Pline ∧ Psize = Psize ∧ Pnow = Pnow ∧ Pheads = Pheads ∧ Pbusy = Pbusy ∧ Pcame = Pcame ∧ Pout = Pout ∧ Crun = Crun) := by
          refine Or.inr ⟨fun q => ?_, rfl, rfl, rfl, rfl, rfl, rfl, rfl, rfl, rfl⟩
          exact fst_ne (by assumption) (by omega) (q.2 g_5 (by omega) (by omega))
        exact W.zret (v := zI 0) hx hb hr rfl (fun t9 ht hW => ⟨⟨zI 0, (0, Pline, Psize, Pnow, Pheads, Pbusy, Pcame, Pout, Crun), rfl, ⟨rfl, ⟨qPline, hv_42, hv_43, qPheads, qPbusy, qPcame, qPout, hv_44, hv_45⟩⟩, by subst hAe; exact z_end hK hw ht hW⟩, by subst hAe; exact hw.2.2.F ht⟩) (by subst hAe; exact hw.2.2.2.2) dX7_begin_46
  · skip
    refine z_iconst hx hb dX7_begin_10 ?_
    have hv_46 : (0 : Int) ≤ Psize ∧ Psize ≤ 8 := by
      first | assumption | omega | grind
    have hv_47 : (0 : Int) ≤ Pnow ∧ Pnow ≤ 1000000 := by
      first | assumption | omega | grind
    have hv_48 : (0 : Int) ≤ Crun ∧ Crun ≤ 1 := by
      first | assumption | omega | grind
    have hv_49 : ((0 < Gn ∧ passP Gn Gta Tcells Twires) ∧ (0 : Int) = 1 ∧ Pline = cpZ Crow Pline ∧ Psize = Gn ∧ Pnow = 0 ∧ (∀ k, 0 ≤ k → k < 8 → Pheads k = -1 ∧ Pbusy k = 0 ∧ Pcame k = -1 ∧ Pout k = -1) ∧ Crun = 1) ∨ (¬ (0 < Gn ∧ passP Gn Gta Tcells Twires) ∧ (0 : Int) = 0 ∧ Pline = Pline ∧ Psize = Psize ∧ Pnow = Pnow ∧ Pheads = Pheads ∧ Pbusy = Pbusy ∧ Pcame = Pcame ∧ Pout = Pout ∧ Crun = Crun) := by
      exact Or.inr ⟨fun q => absurd q.1 (by omega), rfl, rfl, rfl, rfl, rfl, rfl, rfl, rfl, rfl⟩
    exact W.zret (v := zI 0) hx hb hr rfl (fun t9 ht hW => ⟨⟨zI 0, (0, Pline, Psize, Pnow, Pheads, Pbusy, Pcame, Pout, Crun), rfl, ⟨rfl, ⟨qPline, hv_46, hv_47, qPheads, qPbusy, qPcame, qPout, hv_48, hv_49⟩⟩, by subst hAe; exact z_end hK hw ht hW⟩, by subst hAe; exact hw.2.2.F ht⟩) (by subst hAe; exact hw.2.2.2.2) dX7_begin_11
