set_option maxRecDepth 100000 in
set_option maxHeartbeats 4000000 in
theorem c_X7_takeRow (l : Launch) (D : va_G) (cI cB cZ : ClassId) (aL : Nat) (oC : Nat → Nat) (aCguests : Nat) (aCreader : Nat) (aCbars : Nat) (aCspare : Nat) (aCsearch : Nat) (aCbreach : Nat) (aCstreet : Nat) (aCparade : Nat) (aCtrial : Nat) (sz : Nat) (fL : Int → Int) (Crow : Int → Int) (Cquiet : Int → Int) (Crun : Int) (qfL : RA fL (0) 7) (qCrow : RA Crow (0) 7) (qCquiet : RA Cquiet (0) 7) (qCrun : 0 ≤ Crun ∧ Crun ≤ 1) : Met l yX7_takeRow wsX7_takeRow ({ frames := 1, cells := 0, slots := 0, locals := 40 }) (va_Pc [.ref (oC 0), .ref aL] (zPre D cI cB cZ sz ([(aL, .inl (cI, 8, .inl (zA fL)))] ++ kC cI cB cZ oC aCguests Crow Cquiet aCreader aCbars aCspare aCsearch aCbreach aCstreet aCparade aCtrial Crun))) (va_Qv (fun (u9 : (Int → Int) × Int) => (RA u9.1 (0) 7) ∧ ((0 : Int) ≤ u9.2 ∧ u9.2 ≤ 1) ∧ (u9.1 = cpZ fL Crow) ∧ (u9.2 = 0)) (fun u9 t9 => zAt D cI cB cZ (va_A ([(aL, .inl (cI, 8, .inl (zA fL)))] ++ kC cI cB cZ oC aCguests Crow Cquiet aCreader aCbars aCspare aCsearch aCbreach aCstreet aCparade aCtrial Crun) sz) ([(aL, .inl (cI, 8, .inl (zA fL)))] ++ kC cI cB cZ oC aCguests (u9.1) Cquiet aCreader aCbars aCspare aCsearch aCbreach aCstreet aCparade aCtrial (u9.2)) t9) (va_A ([(aL, .inl (cI, 8, .inl (zA fL)))] ++ kC cI cB cZ oC aCguests Crow Cquiet aCreader aCbars aCspare aCsearch aCbreach aCstreet aCparade aCtrial Crun) sz)) 0 0 (va_A ([(aL, .inl (cI, 8, .inl (zA fL)))] ++ kC cI cB cZ oC aCguests Crow Cquiet aCreader aCbars aCspare aCsearch aCbreach aCstreet aCparade aCtrial Crun) sz) := by
  refine Met.ofW (cc := cX7_takeRow) (maxL := 2) (ret := none) (by decide) rfl ?_
  intro pp ee s mm aa bw mt cd s₁ BL hml hv
  obtain ⟨rfl, hsz, hP, hK, hD0⟩ := hv
  have hx := BL.exec
  have hb := BL.bytes
  have hr := BL.returns
  have hts := atoms_spec (ws := wsX7_takeRow) BL.pre
  have hown : s.vm.findClass RX7 = some mm.cls := findClass_of_methodNamed BL.named
  have hlocks := BL.notSynchronized
  subst hsz
  generalize hAe : va_A ([(aL, .inl (cI, 8, .inl (zA fL)))] ++ kC cI cB cZ oC aCguests Crow Cquiet aCreader aCbars aCspare aCsearch aCbreach aCstreet aCparade aCtrial Crun) s.heap.size = A
  have hA : ∀ q : Nat, s.heap.size ≤ q → A q := fun q h => by rw [← hAe]; exact Or.inr h
  have hw : HW D A s.heap ([(aL, .inl (cI, 8, .inl (zA fL)))] ++ kC cI cB cZ oC aCguests Crow Cquiet aCreader aCbars aCspare aCsearch aCbreach aCstreet aCparade aCtrial Crun) s.heap [] := z_start hAe hP hD0
  clear hP hD0
  have hl := lv_entry ([.ref (oC 0), .ref aL]) (n := 2) (Nat.le_of_ble_eq_true rfl)
  rw [lg_entry_eq]
  generalize (lg_sl ([.ref (oC 0), .ref aL]) ++ List.replicate (2 - (lg_sl ([.ref (oC 0), .ref aL])).length) Slot.unset).toArray = ls at hl ⊢
  have hl : lv_has ls 2 [(0, .ref (oC 0)), (1, .ref aL)] := hl
  have hinX7 : ∀ w ∈ wsX70, w ∈ wsX7_takeRow := by decide +kernel
  refine lv_aload_n hx hb dX7_takeRow_0 rfl (lv_at hl 1 rfl) ?_
  refine z_iconst hx hb dX7_takeRow_1 ?_
  refine lv_aload_n hx hb dX7_takeRow_2 rfl (lv_at hl 0 rfl) ?_
  refine va_get (D := D) (ci := 7) (v := .ref (oC 1)) (C := RX7) (T := TX7) (N := 12) hx hb hts hinX7 hown hK hw.1 1 rfl rfl 1 (by decide) (hts (.fieldLink RX7 16 "CarnivalRoad" "row" "[I") (by decide +kernel)) (fun _ h9 => h9) rfl dX7_takeRow_3 ?_
  refine z_iconst hx hb dX7_takeRow_6 ?_
  refine z_bipush hx hb dX7_takeRow_7 (by decide) ?_
  have hR_1 : RA (cpZ fL Crow) (0) 7 := cpZ_rng qfL qCrow
  refine z_copy (f := fL) (g := Crow) (ws2 := [(aL, .inl (cI, 8, .inl (zA fL)))] ++ kC cI cB cZ oC aCguests (cpZ fL Crow) Cquiet aCreader aCbars aCspare aCsearch aCbreach aCstreet aCparade aCtrial Crun) hx hb (hml.trans hl.1.symm) hown (hts (.methodLink RX7 165 arraycopyName) (by decide +kernel)) (hts (.native arraycopyName) (by decide +kernel)) (hts (.static arraycopyName) (by decide +kernel)) (hts (.initialized "java/lang/System") (by decide +kernel)) hK hw 0 2 rfl rfl (Nat.le_of_ble_eq_true rfl) (Nat.le_of_ble_eq_true rfl) dX7_takeRow_9 rfl (fun H locs hw => ?_)
  refine lv_aload_n hx hb dX7_takeRow_12 rfl (lv_at hl 0 rfl) ?_
  refine z_iconst hx hb dX7_takeRow_13 ?_
  refine z_put (D := D) (ci := 7) (v := .int (zI 0)) (ty := .boolean) (C := RX7) (T := TX7) (N := 12) (ws2 := [(aL, .inl (cI, 8, .inl (zA fL)))] ++ kC cI cB cZ oC aCguests (cpZ fL Crow) Cquiet aCreader aCbars aCspare aCsearch aCbreach aCstreet aCparade aCtrial 0) hx hb hts hinX7 tyX7 tyX7_ok nmX7 hown hK hw 1 rfl rfl 11 (by decide) (hts (.fieldLink RX7 75 "CarnivalRoad" "running" "Z") (by decide +kernel)) (fun _ h9 => h9) rfl (by decide +kernel) rfl rfl (Nat.le_of_ble_eq_true rfl) dX7_takeRow_14 rfl (fun H locs hw => ?_)
  have hv_2 : (0 : Int) ≤ (0 : Int) ∧ (0 : Int) ≤ 1 := by
    first | rfl | omega
  have hv_3 : (cpZ fL Crow) = cpZ fL Crow := by
    first | rfl | omega
  have hv_4 : (0 : Int) = 0 := by
    first | rfl | omega
  exact W.vret hx hb hr (fun t9 ht hW => ⟨⟨((cpZ fL Crow), 0), rfl, ⟨hR_1, hv_2, hv_3, hv_4⟩, by subst hAe; exact z_end hK hw ht hW⟩, by subst hAe; exact hw.2.2.F ht⟩) (by subst hAe; exact hw.2.2.2.2) dX7_takeRow_17
set_option maxRecDepth 100000 in
set_option maxHeartbeats 4000000 in
theorem c_X7_takeRowQ (l : Launch) (D : va_G) (cI cB cZ : ClassId) (oC : Nat → Nat) (aCguests : Nat) (aCreader : Nat) (aCbars : Nat) (aCspare : Nat) (aCsearch : Nat) (aCbreach : Nat) (aCstreet : Nat) (aCparade : Nat) (aCtrial : Nat) (sz : Nat) (Crow : Int → Int) (Cquiet : Int → Int) (Crun : Int) (qCrow : RA Crow (0) 7) (qCquiet : RA Cquiet (0) 7) (qCrun : 0 ≤ Crun ∧ Crun ≤ 1) : Met l yX7_takeRow wsX7_takeRow ({ frames := 1, cells := 0, slots := 0, locals := 40 }) (va_Pc [.ref (oC 0), .ref (oC 2)] (zPre D cI cB cZ sz (kC cI cB cZ oC aCguests Crow Cquiet aCreader aCbars aCspare aCsearch aCbreach aCstreet aCparade aCtrial Crun))) (va_Qv (fun (u9 : (Int → Int) × Int) => (RA u9.1 (0) 7) ∧ ((0 : Int) ≤ u9.2 ∧ u9.2 ≤ 1) ∧ (u9.1 = cpZ Cquiet Crow) ∧ (u9.2 = 0)) (fun u9 t9 => zAt D cI cB cZ (va_A (kC cI cB cZ oC aCguests Crow Cquiet aCreader aCbars aCspare aCsearch aCbreach aCstreet aCparade aCtrial Crun) sz) (kC cI cB cZ oC aCguests (u9.1) Cquiet aCreader aCbars aCspare aCsearch aCbreach aCstreet aCparade aCtrial (u9.2)) t9) (va_A (kC cI cB cZ oC aCguests Crow Cquiet aCreader aCbars aCspare aCsearch aCbreach aCstreet aCparade aCtrial Crun) sz)) 0 0 (va_A (kC cI cB cZ oC aCguests Crow Cquiet aCreader aCbars aCspare aCsearch aCbreach aCstreet aCparade aCtrial Crun) sz) := by
  refine Met.ofW (cc := cX7_takeRow) (maxL := 2) (ret := none) (by decide) rfl ?_
  intro pp ee s mm aa bw mt cd s₁ BL hml hv
  obtain ⟨rfl, hsz, hP, hK, hD0⟩ := hv
  have hx := BL.exec
  have hb := BL.bytes
  have hr := BL.returns
  have hts := atoms_spec (ws := wsX7_takeRow) BL.pre
  have hown : s.vm.findClass RX7 = some mm.cls := findClass_of_methodNamed BL.named
  have hlocks := BL.notSynchronized
  subst hsz
  generalize hAe : va_A (kC cI cB cZ oC aCguests Crow Cquiet aCreader aCbars aCspare aCsearch aCbreach aCstreet aCparade aCtrial Crun) s.heap.size = A
  have hA : ∀ q : Nat, s.heap.size ≤ q → A q := fun q h => by rw [← hAe]; exact Or.inr h
  have hw : HW D A s.heap (kC cI cB cZ oC aCguests Crow Cquiet aCreader aCbars aCspare aCsearch aCbreach aCstreet aCparade aCtrial Crun) s.heap [] := z_start hAe hP hD0
  clear hP hD0
  have hl := lv_entry ([.ref (oC 0), .ref (oC 2)]) (n := 2) (Nat.le_of_ble_eq_true rfl)
  rw [lg_entry_eq]
  generalize (lg_sl ([.ref (oC 0), .ref (oC 2)]) ++ List.replicate (2 - (lg_sl ([.ref (oC 0), .ref (oC 2)])).length) Slot.unset).toArray = ls at hl ⊢
  have hl : lv_has ls 2 [(0, .ref (oC 0)), (1, .ref (oC 2))] := hl
  have hinX7 : ∀ w ∈ wsX70, w ∈ wsX7_takeRow := by decide +kernel
  refine lv_aload_n hx hb dX7_takeRow_0 rfl (lv_at hl 1 rfl) ?_
  refine z_iconst hx hb dX7_takeRow_1 ?_
  refine lv_aload_n hx hb dX7_takeRow_2 rfl (lv_at hl 0 rfl) ?_
  refine va_get (D := D) (ci := 7) (v := .ref (oC 1)) (C := RX7) (T := TX7) (N := 12) hx hb hts hinX7 hown hK hw.1 0 rfl rfl 1 (by decide) (hts (.fieldLink RX7 16 "CarnivalRoad" "row" "[I") (by decide +kernel)) (fun _ h9 => h9) rfl dX7_takeRow_3 ?_
  refine z_iconst hx hb dX7_takeRow_6 ?_
  refine z_bipush hx hb dX7_takeRow_7 (by decide) ?_
  have hR_1 : RA (cpZ Cquiet Crow) (0) 7 := cpZ_rng qCquiet qCrow
  refine z_copy (f := Cquiet) (g := Crow) (ws2 := kC cI cB cZ oC aCguests (cpZ Cquiet Crow) Cquiet aCreader aCbars aCspare aCsearch aCbreach aCstreet aCparade aCtrial Crun) hx hb (hml.trans hl.1.symm) hown (hts (.methodLink RX7 165 arraycopyName) (by decide +kernel)) (hts (.native arraycopyName) (by decide +kernel)) (hts (.static arraycopyName) (by decide +kernel)) (hts (.initialized "java/lang/System") (by decide +kernel)) hK hw 2 1 rfl rfl (Nat.le_of_ble_eq_true rfl) (Nat.le_of_ble_eq_true rfl) dX7_takeRow_9 rfl (fun H locs hw => ?_)
  refine lv_aload_n hx hb dX7_takeRow_12 rfl (lv_at hl 0 rfl) ?_
  refine z_iconst hx hb dX7_takeRow_13 ?_
  refine z_put (D := D) (ci := 7) (v := .int (zI 0)) (ty := .boolean) (C := RX7) (T := TX7) (N := 12) (ws2 := kC cI cB cZ oC aCguests (cpZ Cquiet Crow) Cquiet aCreader aCbars aCspare aCsearch aCbreach aCstreet aCparade aCtrial 0) hx hb hts hinX7 tyX7 tyX7_ok nmX7 hown hK hw 0 rfl rfl 11 (by decide) (hts (.fieldLink RX7 75 "CarnivalRoad" "running" "Z") (by decide +kernel)) (fun _ h9 => h9) rfl (by decide +kernel) rfl rfl (Nat.le_of_ble_eq_true rfl) dX7_takeRow_14 rfl (fun H locs hw => ?_)
  have hv_2 : (0 : Int) ≤ (0 : Int) ∧ (0 : Int) ≤ 1 := by
    first | rfl | omega
  have hv_3 : (cpZ Cquiet Crow) = cpZ Cquiet Crow := by
    first | rfl | omega
  have hv_4 : (0 : Int) = 0 := by
    first | rfl | omega
  exact W.vret hx hb hr (fun t9 ht hW => ⟨⟨((cpZ Cquiet Crow), 0), rfl, ⟨hR_1, hv_2, hv_3, hv_4⟩, by subst hAe; exact z_end hK hw ht hW⟩, by subst hAe; exact hw.2.2.F ht⟩) (by subst hAe; exact hw.2.2.2.2) dX7_takeRow_17
set_option maxRecDepth 100000 in
set_option maxHeartbeats 4000000 in
theorem c_X7_isRow (l : Launch) (D : va_G) (cI cB cZ : ClassId) (oG : Nat → Nat) (aL : Nat) (oC : Nat → Nat) (aCreader : Nat) (aCbars : Nat) (aCspare : Nat) (aCsearch : Nat) (aCbreach : Nat) (aCstreet : Nat) (aCparade : Nat) (aCtrial : Nat) (sz : Nat) (Gn : Int) (Gki : Int → Int) (Gle : Int → Int) (Glo : Int → Int) (Gta : Int → Int) (Gsh : Int → Int) (fL : Int → Int) (Crow : Int → Int) (Cquiet : Int → Int) (Crun : Int) (qGn : 0 ≤ Gn ∧ Gn ≤ 8) (qGki : RA Gki (0) 4) (qGle : RA Gle (0) 5) (qGlo : RA Glo (0) 9) (qGta : RA Gta (0) 9) (qGsh : RA Gsh (0) 9) (qfL : RA fL (0) 7) (qCrow : RA Crow (0) 7) (qCquiet : RA Cquiet (0) 7) (qCrun : 0 ≤ Crun ∧ Crun ≤ 1) : Met l yX7_isRow wsX7_isRow ({ frames := 0, cells := 0, slots := 0, locals := 0 }) (va_Pc [.ref (oC 0), .ref aL] (zPre D cI cB cZ sz (kG cI cB cZ oG Gn Gki Gle Glo Gta Gsh ++ [(aL, .inl (cI, 8, .inl (zA fL)))] ++ kC cI cB cZ oC (oG 0) Crow Cquiet aCreader aCbars aCspare aCsearch aCbreach aCstreet aCparade aCtrial Crun))) (va_Qi (fun (r9 : Int32) (u9 : Int) => r9 = zI u9 ∧ (((preL fL Gn.toNat = preL Crow Gn.toNat ∧ u9 = 1) ∨ (¬ preL fL Gn.toNat = preL Crow Gn.toNat ∧ u9 = 0)))) (fun u9 t9 => zAt D cI cB cZ (va_A (kG cI cB cZ oG Gn Gki Gle Glo Gta Gsh ++ [(aL, .inl (cI, 8, .inl (zA fL)))] ++ kC cI cB cZ oC (oG 0) Crow Cquiet aCreader aCbars aCspare aCsearch aCbreach aCstreet aCparade aCtrial Crun) sz) (kG cI cB cZ oG Gn Gki Gle Glo Gta Gsh ++ [(aL, .inl (cI, 8, .inl (zA fL)))] ++ kC cI cB cZ oC (oG 0) Crow Cquiet aCreader aCbars aCspare aCsearch aCbreach aCstreet aCparade aCtrial Crun) t9) (va_A (kG cI cB cZ oG Gn Gki Gle Glo Gta Gsh ++ [(aL, .inl (cI, 8, .inl (zA fL)))] ++ kC cI cB cZ oC (oG 0) Crow Cquiet aCreader aCbars aCspare aCsearch aCbreach aCstreet aCparade aCtrial Crun) sz)) 0 0 (va_A (kG cI cB cZ oG Gn Gki Gle Glo Gta Gsh ++ [(aL, .inl (cI, 8, .inl (zA fL)))] ++ kC cI cB cZ oC (oG 0) Crow Cquiet aCreader aCbars aCspare aCsearch aCbreach aCstreet aCparade aCtrial Crun) sz) := by
  refine Met.ofW (cc := cX7_isRow) (maxL := 3) (ret := (some .boolean)) (by decide) rfl ?_
  intro pp ee s mm aa bw mt cd s₁ BL hml hv
  obtain ⟨rfl, hsz, hP, hK, hD0⟩ := hv
  have hx := BL.exec
  have hb := BL.bytes
  have hr := BL.returns
  have hts := atoms_spec (ws := wsX7_isRow) BL.pre
  have hown : s.vm.findClass RX7 = some mm.cls := findClass_of_methodNamed BL.named
  have hlocks := BL.notSynchronized
  subst hsz
  generalize hAe : va_A (kG cI cB cZ oG Gn Gki Gle Glo Gta Gsh ++ [(aL, .inl (cI, 8, .inl (zA fL)))] ++ kC cI cB cZ oC (oG 0) Crow Cquiet aCreader aCbars aCspare aCsearch aCbreach aCstreet aCparade aCtrial Crun) s.heap.size = A
  have hA : ∀ q : Nat, s.heap.size ≤ q → A q := fun q h => by rw [← hAe]; exact Or.inr h
  have hw : HW D A s.heap (kG cI cB cZ oG Gn Gki Gle Glo Gta Gsh ++ [(aL, .inl (cI, 8, .inl (zA fL)))] ++ kC cI cB cZ oC (oG 0) Crow Cquiet aCreader aCbars aCspare aCsearch aCbreach aCstreet aCparade aCtrial Crun) s.heap [] := z_start hAe hP hD0
  clear hP hD0
  have hl := lv_entry ([.ref (oC 0), .ref aL]) (n := 3) (Nat.le_of_ble_eq_true rfl)
  rw [lg_entry_eq]
  generalize (lg_sl ([.ref (oC 0), .ref aL]) ++ List.replicate (3 - (lg_sl ([.ref (oC 0), .ref aL])).length) Slot.unset).toArray = ls at hl ⊢
  have hl : lv_has ls 3 [(0, .ref (oC 0)), (1, .ref aL)] := hl
  have hinX2 : ∀ w ∈ wsX20, w ∈ wsX7_isRow := by decide +kernel
  have hinX7 : ∀ w ∈ wsX70, w ∈ wsX7_isRow := by decide +kernel
  refine z_iconst hx hb dX7_isRow_0 ?_
  refine lv_istore_n (lv' := [(2, .int (zI 0)), (0, .ref (oC 0)), (1, .ref aL)]) hx hb dX7_isRow_1 rfl hl (by decide) rfl (fun ls hl => ?_)
  have hv_1 : 0 ≤ (0 : Int) ∧ (0 : Int) ≤ Gn := by
    first | assumption | omega | grind
  have hv_2 : ∀ k, 0 ≤ k → k < (0 : Int) → fL k = Crow k := by
    exact all_0
  refine z_loop (σ := Int) (μ := fun x9 => (9 - x9).toNat) (I := fun x9 H locs ls => (0 ≤ x9 ∧ x9 ≤ Gn) ∧ (∀ k, 0 ≤ k → k < x9 → fL k = Crow k) ∧ HW D A s.heap (kG cI cB cZ oG Gn Gki Gle Glo Gta Gsh ++ [(aL, .inl (cI, 8, .inl (zA fL)))] ++ kC cI cB cZ oC (oG 0) Crow Cquiet aCreader aCbars aCspare aCsearch aCbreach aCstreet aCparade aCtrial Crun) H locs ∧ lv_has ls 3 [(0, .ref (oC 0)), (1, .ref aL), (2, .int (zI x9))]) 0 ⟨hv_1, hv_2, hw, lv_sub hl [1, 2, 0] rfl⟩ ?_
  clear hw hl
  intro i_4 H locs ls hI ih_3
  try dsimp only at hI
  obtain ⟨hI_5, hI_6, hw, hl⟩ := hI
  refine lv_iload_n hx hb dX7_isRow_2 rfl (lv_at hl 2 rfl) ?_
  refine lv_aload_n hx hb dX7_isRow_3 rfl (lv_at hl 0 rfl) ?_
  refine va_get (D := D) (ci := 7) (v := .ref (oG 0)) (C := RX7) (T := TX7) (N := 12) hx hb hts hinX7 hown hK hw.1 7 rfl rfl 0 (by decide) (hts (.fieldLink RX7 10 "CarnivalRoad" "guests" "LCarnivalRoad$Guests;") (by decide +kernel)) (fun _ h9 => h9) rfl dX7_isRow_4 ?_
  refine va_get (D := D) (ci := 2) (v := .int (zI Gn)) (C := RX2) (T := TX2) (N := 6) hx hb hts hinX2 hown hK hw.1 0 rfl rfl 0 (by decide) (hts (.fieldLink RX7 79 "CarnivalRoad$Guests" "count" "I") (by decide +kernel)) (fun _ h9 => h9) rfl dX7_isRow_7 ?_
  refine z_icmp_ge (tgt := 33) hx hb dX7_isRow_10 (by decide) (by omega) (fun hc_7 => ?_) (fun hc_7 => ?_)
  · skip
    refine z_iconst hx hb dX7_isRow_33 ?_
    have hv_8 : (preL fL Gn.toNat = preL Crow Gn.toNat ∧ (1 : Int) = 1) ∨ (¬ preL fL Gn.toNat = preL Crow Gn.toNat ∧ (1 : Int) = 0) := by
      exact Or.inl ⟨preL_congr (fun k k0 k1 => (by assumption : ∀ k, 0 ≤ k → k < i_4 → fL k = Crow k) k k0 (by omega)), rfl⟩
    exact W.zret (v := zI 1) hx hb hr rfl (fun t9 ht hW => ⟨⟨zI 1, 1, rfl, ⟨rfl, hv_8⟩, by subst hAe; exact z_end hK hw ht hW⟩, by subst hAe; exact hw.2.2.F ht⟩) (by subst hAe; exact hw.2.2.2.2) dX7_isRow_34
  · skip
    refine lv_aload_n hx hb dX7_isRow_13 rfl (lv_at hl 1 rfl) ?_
    refine lv_iload_n hx hb dX7_isRow_14 rfl (lv_at hl 2 rfl) ?_
    have hi_9 : (0 : Int) ≤ i_4 ∧ i_4 < ((8 : Nat) : Int) := by
      first | assumption | omega | grind
    refine z_iald (n := 8) (f := fL) hx hb hK hw 6 rfl (by decide) hi_9 dX7_isRow_15 ?_
    have hq_10 : 0 ≤ fL i_4 ∧ fL i_4 ≤ 7 := qfL i_4
    refine lv_aload_n hx hb dX7_isRow_16 rfl (lv_at hl 0 rfl) ?_
    refine va_get (D := D) (ci := 7) (v := .ref (oC 1)) (C := RX7) (T := TX7) (N := 12) hx hb hts hinX7 hown hK hw.1 7 rfl rfl 1 (by decide) (hts (.fieldLink RX7 16 "CarnivalRoad" "row" "[I") (by decide +kernel)) (fun _ h9 => h9) rfl dX7_isRow_17 ?_
    refine lv_iload_n hx hb dX7_isRow_20 rfl (lv_at hl 2 rfl) ?_
    have hi_11 : (0 : Int) ≤ i_4 ∧ i_4 < ((8 : Nat) : Int) := by
      first | assumption | omega | grind
    refine z_iald (n := 8) (f := Crow) hx hb hK hw 8 rfl (by decide) hi_11 dX7_isRow_21 ?_
    have hq_12 : 0 ≤ Crow i_4 ∧ Crow i_4 ≤ 7 := qCrow i_4
    refine z_icmp_eq (tgt := 27) hx hb dX7_isRow_22 (by decide) (by omega) (fun hc_13 => ?_) (fun hc_13 => ?_)
    · skip
      refine z_iinc (k := 2) (lv' := [(2, .int (zI (i_4 + 1))), (0, .ref (oC 0)), (1, .ref aL)]) hx hb dX7_isRow_27 hl rfl (by decide) rfl (fun ls hl => ?_)
      refine lv_goto (tgt := 2) hx hb dX7_isRow_30 (by decide) ?_
      have hv_14 : 0 ≤ (i_4 + 1) ∧ (i_4 + 1) ≤ Gn := by
        first | assumption | omega | grind
      have hv_15 : ∀ k, 0 ≤ k → k < (i_4 + 1) → fL k = Crow k := by
        exact all_s (by assumption) (by assumption)
      have hm_16 : (9 - (i_4 + 1)).toNat < (9 - i_4).toNat := by
        first | assumption | omega | grind
      exact ih_3 (i_4 + 1) _ _ _ ⟨hv_14, hv_15, hw, lv_sub hl [1, 2, 0] rfl⟩ hm_16
    · skip
      refine z_iconst hx hb dX7_isRow_25 ?_
      have hv_17 : (preL fL Gn.toNat = preL Crow Gn.toNat ∧ (0 : Int) = 1) ∨ (¬ preL fL Gn.toNat = preL Crow Gn.toNat ∧ (0 : Int) = 0) := by
        refine Or.inr ⟨fun q => ?_, rfl⟩
        exact absurd (preL_inj q i_4 (by omega) (by omega)) (by assumption)
      exact W.zret (v := zI 0) hx hb hr rfl (fun t9 ht hW => ⟨⟨zI 0, 0, rfl, ⟨rfl, hv_17⟩, by subst hAe; exact z_end hK hw ht hW⟩, by subst hAe; exact hw.2.2.F ht⟩) (by subst hAe; exact hw.2.2.2.2) dX7_isRow_26
set_option maxRecDepth 100000 in
set_option maxHeartbeats 4000000 in
theorem c_X7_orders (l : Launch) (D : va_G) (cI cB cZ : ClassId) (oG : Nat → Nat) (oB : Nat → Nat) (oS : Nat → Nat) (oC : Nat → Nat) (aCreader : Nat) (aCspare : Nat) (aCbreach : Nat) (aCstreet : Nat) (aCparade : Nat) (aCtrial : Nat) (sz : Nat) (Gn : Int) (Gki : Int → Int) (Gle : Int → Int) (Glo : Int → Int) (Gta : Int → Int) (Gsh : Int → Int) (Bcnt : Int) (Bwo : Int → Int) (Bon : Int → Int) (Btw : Int → Int) (Bnu : Int → Int) (Sline : Int → Int) (Sopn : Int → Int) (Sbarred : Int → Int) (Smf : Int) (Sml : Int) (Sdep : Int) (Ser : Int) (Crow : Int → Int) (Cquiet : Int → Int) (Crun : Int) (qGn : 0 ≤ Gn ∧ Gn ≤ 8) (qGki : RA Gki (0) 4) (qGle : RA Gle (0) 5) (qGlo : RA Glo (0) 9) (qGta : RA Gta (0) 9) (qGsh : RA Gsh (0) 9) (qBcnt : 0 ≤ Bcnt ∧ Bcnt ≤ 10) (qBwo : RA Bwo (0) 11) (qBon : RA Bon (0) 12) (qBtw : RA Btw (0) 12) (qBnu : RA Bnu (0) 18) (qSline : RA Sline (0) 7) (qSopn : RA Sopn (0) 255) (qSbarred : RA Sbarred (0) 255) (qSmf : 0 ≤ Smf ∧ Smf ≤ 255) (qSml : 0 ≤ Sml ∧ Sml ≤ 255) (qSdep : -1 ≤ Sdep ∧ Sdep ≤ 7) (qSer : 0 ≤ Ser ∧ Ser ≤ 1) (qCrow : RA Crow (0) 7) (qCquiet : RA Cquiet (0) 7) (qCrun : 0 ≤ Crun ∧ Crun ≤ 1) (hp0 : (rowsC Gki Glo Gsh Bwo Bon Btw Bnu Bcnt Gn).length ≤ 40320) : Met l yX7_orders wsX7_orders ({ frames := 5, cells := 0, slots := 0, locals := 118 }) (va_Pc [.ref (oC 0)] (zPre D cI cB cZ sz (kG cI cB cZ oG Gn Gki Gle Glo Gta Gsh ++ kB cI cB cZ oB (oG 0) Bcnt Bwo Bon Btw Bnu ++ kS cI cB cZ oS (oG 0) Sline Sopn Sbarred Smf Sml Sdep Ser ++ kC cI cB cZ oC (oG 0) Crow Cquiet aCreader (oB 0) aCspare (oS 0) aCbreach aCstreet aCparade aCtrial Crun))) (va_Qi (fun (r9 : Int32) (u9 : Int × (Int → Int) × (Int → Int) × (Int → Int) × Int × Int × Int × Int) => r9 = zI u9.1 ∧ ((RA u9.2.1 (0) 7) ∧ (RA u9.2.2.1 (0) 255) ∧ (RA u9.2.2.2.1 (0) 255) ∧ ((0 : Int) ≤ u9.2.2.2.2.1 ∧ u9.2.2.2.2.1 ≤ 255) ∧ ((0 : Int) ≤ u9.2.2.2.2.2.1 ∧ u9.2.2.2.2.2.1 ≤ 255) ∧ ((-1 : Int) ≤ u9.2.2.2.2.2.2.1 ∧ u9.2.2.2.2.2.2.1 ≤ 7) ∧ ((0 : Int) ≤ u9.2.2.2.2.2.2.2 ∧ u9.2.2.2.2.2.2.2 ≤ 1) ∧ (u9.1 = ((rowsC Gki Glo Gsh Bwo Bon Btw Bnu Bcnt Gn).length : Int)))) (fun u9 t9 => zAt D cI cB cZ (va_A (kG cI cB cZ oG Gn Gki Gle Glo Gta Gsh ++ kB cI cB cZ oB (oG 0) Bcnt Bwo Bon Btw Bnu ++ kS cI cB cZ oS (oG 0) Sline Sopn Sbarred Smf Sml Sdep Ser ++ kC cI cB cZ oC (oG 0) Crow Cquiet aCreader (oB 0) aCspare (oS 0) aCbreach aCstreet aCparade aCtrial Crun) sz) (kG cI cB cZ oG Gn Gki Gle Glo Gta Gsh ++ kB cI cB cZ oB (oG 0) Bcnt Bwo Bon Btw Bnu ++ kS cI cB cZ oS (oG 0) (u9.2.1) (u9.2.2.1) (u9.2.2.2.1) (u9.2.2.2.2.1) (u9.2.2.2.2.2.1) (u9.2.2.2.2.2.2.1) (u9.2.2.2.2.2.2.2) ++ kC cI cB cZ oC (oG 0) Crow Cquiet aCreader (oB 0) aCspare (oS 0) aCbreach aCstreet aCparade aCtrial Crun) t9) (va_A (kG cI cB cZ oG Gn Gki Gle Glo Gta Gsh ++ kB cI cB cZ oB (oG 0) Bcnt Bwo Bon Btw Bnu ++ kS cI cB cZ oS (oG 0) Sline Sopn Sbarred Smf Sml Sdep Ser ++ kC cI cB cZ oC (oG 0) Crow Cquiet aCreader (oB 0) aCspare (oS 0) aCbreach aCstreet aCparade aCtrial Crun) sz)) 0 0 (va_A (kG cI cB cZ oG Gn Gki Gle Glo Gta Gsh ++ kB cI cB cZ oB (oG 0) Bcnt Bwo Bon Btw Bnu ++ kS cI cB cZ oS (oG 0) Sline Sopn Sbarred Smf Sml Sdep Ser ++ kC cI cB cZ oC (oG 0) Crow Cquiet aCreader (oB 0) aCspare (oS 0) aCbreach aCstreet aCparade aCtrial Crun) sz) := by
  refine Met.ofW (cc := cX7_orders) (maxL := 2) (ret := (some .int)) (by decide) rfl ?_
  intro pp ee s mm aa bw mt cd s₁ BL hml hv
  obtain ⟨rfl, hsz, hP, hK, hD0⟩ := hv
  have hx := BL.exec
  have hb := BL.bytes
  have hr := BL.returns
  have hts := atoms_spec (ws := wsX7_orders) BL.pre
  have hown : s.vm.findClass RX7 = some mm.cls := findClass_of_methodNamed BL.named
  have hlocks := BL.notSynchronized
  subst hsz
  generalize hAe : va_A (kG cI cB cZ oG Gn Gki Gle Glo Gta Gsh ++ kB cI cB cZ oB (oG 0) Bcnt Bwo Bon Btw Bnu ++ kS cI cB cZ oS (oG 0) Sline Sopn Sbarred Smf Sml Sdep Ser ++ kC cI cB cZ oC (oG 0) Crow Cquiet aCreader (oB 0) aCspare (oS 0) aCbreach aCstreet aCparade aCtrial Crun) s.heap.size = A
  have hA : ∀ q : Nat, s.heap.size ≤ q → A q := fun q h => by rw [← hAe]; exact Or.inr h
  have hw : HW D A s.heap (kG cI cB cZ oG Gn Gki Gle Glo Gta Gsh ++ kB cI cB cZ oB (oG 0) Bcnt Bwo Bon Btw Bnu ++ kS cI cB cZ oS (oG 0) Sline Sopn Sbarred Smf Sml Sdep Ser ++ kC cI cB cZ oC (oG 0) Crow Cquiet aCreader (oB 0) aCspare (oS 0) aCbreach aCstreet aCparade aCtrial Crun) s.heap [] := z_start hAe hP hD0
  clear hP hD0
  have hl := lv_entry ([.ref (oC 0)]) (n := 2) (Nat.le_of_ble_eq_true rfl)
  rw [lg_entry_eq]
  generalize (lg_sl ([.ref (oC 0)]) ++ List.replicate (2 - (lg_sl ([.ref (oC 0)])).length) Slot.unset).toArray = ls at hl ⊢
  have hl : lv_has ls 2 [(0, .ref (oC 0))] := hl
  have hinX7 : ∀ w ∈ wsX70, w ∈ wsX7_orders := by decide +kernel
  refine lv_aload_n hx hb dX7_orders_0 rfl (lv_at hl 0 rfl) ?_
  refine va_get (D := D) (ci := 7) (v := .ref (oS 0)) (C := RX7) (T := TX7) (N := 12) hx hb hts hinX7 hown hK hw.1 15 rfl rfl 6 (by decide) (hts (.fieldLink RX7 45 "CarnivalRoad" "search" "LCarnivalRoad$Search;") (by decide +kernel)) (fun _ h9 => h9) rfl dX7_orders_1 ?_
  refine lv_aload_n hx hb dX7_orders_4 rfl (lv_at hl 0 rfl) ?_
  refine va_get (D := D) (ci := 7) (v := .ref (oB 0)) (C := RX7) (T := TX7) (N := 12) hx hb hts hinX7 hown hK hw.1 15 rfl rfl 4 (by decide) (hts (.fieldLink RX7 35 "CarnivalRoad" "bars" "LCarnivalRoad$Bars;") (by decide +kernel)) (fun _ h9 => h9) rfl dX7_orders_5 ?_
  have hF9 := z_free (wc := kG cI cB cZ oG Gn Gki Gle Glo Gta Gsh ++ kB cI cB cZ oB (oG 0) Bcnt Bwo Bon Btw Bnu ++ kS cI cB cZ oS (oG 0) Sline Sopn Sbarred Smf Sml Sdep Ser) hw hA [0, 1, 2, 3, 4, 5, 6, 7, 8, 9, 10, 11, 12, 13, 14] rfl
  refine va_callv (va_runV (As := [.ref (oB 0)]) (rest := []) ⟨hx, hb, hml, hown, hts⟩ (c_X5_start l D cI cB cZ oG oB oS s.heap.size Gn Gki Gle Glo Gta Gsh Bcnt Bwo Bon Btw Bnu Sline Sopn Sbarred Smf Sml Sdep Ser (by omega) qGki qGle qGlo qGta qGsh (by omega) qBwo qBon qBtw qBnu qSline qSopn qSbarred (by omega) (by omega) (by omega) (by omega)) (cwV 1 hts gX7_orders_X5_start rfl rfl rfl (by decide +kernel) ⟨Nat.le_of_ble_eq_true rfl, Nat.le_of_ble_eq_true rfl⟩) ⟨zPre_blind, va_recv hK hw.1 (ci := 5) (q0 := 11) rfl rfl, z_pre hK hw [0, 1, 2, 3, 4, 5, 6, 7, 8, 9, 10, 11, 12, 13, 14] (by decide) rfl⟩ rfl rfl hl.1 rfl (lv_room (Nat.le_of_ble_eq_true rfl)) dX7_orders_8 ⟨Nat.zero_le _, Nat.zero_le _⟩) hw.2.2 (fun q _ h => hF9 q h) hF9 (fun u9 t9 H_1 locs9 ht9 hvm9 hq9 hB9 hz9 hk9 hS9 => ?_)
  obtain ⟨Sopn_2, Sbarred_3, Smf_4, Sml_5, Sdep_6, Ser_7⟩ := u9
  try dsimp only at hq9 hB9
  obtain ⟨hq_8, hq_9, hq_10, hq_11, hq_12, hq_13, hq_14⟩ := hq9
  have hw : HW D A s.heap (kG cI cB cZ oG Gn Gki Gle Glo Gta Gsh ++ kB cI cB cZ oB (oG 0) Bcnt Bwo Bon Btw Bnu ++ kS cI cB cZ oS (oG 0) Sline Sopn_2 Sbarred_3 Smf_4 Sml_5 Sdep_6 Ser_7 ++ kC cI cB cZ oC (oG 0) Crow Cquiet aCreader (oB 0) aCspare (oS 0) aCbreach aCstreet aCparade aCtrial Crun) H_1 locs9 := z_after (wc := kG cI cB cZ oG Gn Gki Gle Glo Gta Gsh ++ kB cI cB cZ oB (oG 0) Bcnt Bwo Bon Btw Bnu ++ kS cI cB cZ oS (oG 0) Sline Sopn Sbarred Smf Sml Sdep Ser) hw [0, 1, 2, 3, 4, 5, 6, 7, 8, 9, 10, 11, 12, 13, 14] [15, 16, 17] rfl rfl (by decide) (by decide) hF9 hk9 ht9 hB9 hS9 [3, 4, 5, 6, 7, 8, 9, 10, 11, 12, 13, 14, 15, 16, 17, 0, 1, 2] (by decide) rfl
  clear hF9 ht9 hvm9 hB9 hz9 hk9 hS9
  refine z_iconst hx hb dX7_orders_11 ?_
  refine lv_istore_n (lv' := [(1, .int (zI 0)), (0, .ref (oC 0))]) hx hb dX7_orders_12 rfl hl (by decide) rfl (fun ls hl => ?_)
  have hv_15 : (-1 : Int) ≤ Sdep_6 ∧ Sdep_6 ≤ 7 := by
    first | assumption | omega | grind
  have hv_16 : (0 : Int) ≤ Ser_7 ∧ Ser_7 ≤ 1 := by
    first | assumption | omega | grind
  have hv_17 : 0 ≤ (0 : Int) ∧ (0 : Int) ≤ 40320 := by
    first | assumption | omega | grind
  have hv_18 : srP (okc Gki Glo Gsh Bwo Bon Btw Bnu Bcnt Gn) Gn Sline Sopn_2 Sbarred_3 Smf_4 Sml_5 Sdep_6 Ser_7 (rowsC Gki Glo Gsh Bwo Bon Btw Bnu Bcnt Gn) := by
    first | assumption | omega | grind
  have hv_19 : (0 : Int) + ((rowsC Gki Glo Gsh Bwo Bon Btw Bnu Bcnt Gn).length : Int) = ((rowsC Gki Glo Gsh Bwo Bon Btw Bnu Bcnt Gn).length : Int) := by
    show (0 : Int) + _ = _
    omega
  refine z_loop (σ := Int × (Int → Int) × (Int → Int) × Int × Int × List (List Int)) (μ := fun x9 => x9.2.2.2.2.2.length) (I := fun x9 H locs ls => (RA (x9.2.1) (0) 7) ∧ (RA (x9.2.2.1) (0) 255) ∧ ((-1 : Int) ≤ (x9.2.2.2.1) ∧ (x9.2.2.2.1) ≤ 7) ∧ ((0 : Int) ≤ (x9.2.2.2.2.1) ∧ (x9.2.2.2.2.1) ≤ 1) ∧ (0 ≤ (x9.1) ∧ (x9.1) ≤ 40320) ∧ (srP (okc Gki Glo Gsh Bwo Bon Btw Bnu Bcnt Gn) Gn (x9.2.1) (x9.2.2.1) Sbarred_3 Smf_4 Sml_5 (x9.2.2.2.1) (x9.2.2.2.2.1) x9.2.2.2.2.2) ∧ ((x9.1) + (x9.2.2.2.2.2.length : Int) = ((rowsC Gki Glo Gsh Bwo Bon Btw Bnu Bcnt Gn).length : Int)) ∧ HW D A s.heap (kG cI cB cZ oG Gn Gki Gle Glo Gta Gsh ++ kB cI cB cZ oB (oG 0) Bcnt Bwo Bon Btw Bnu ++ kS cI cB cZ oS (oG 0) (x9.2.1) (x9.2.2.1) Sbarred_3 Smf_4 Sml_5 (x9.2.2.2.1) (x9.2.2.2.2.1) ++ kC cI cB cZ oC (oG 0) Crow Cquiet aCreader (oB 0) aCspare (oS 0) aCbreach aCstreet aCparade aCtrial Crun) H locs ∧ lv_has ls 2 [(0, .ref (oC 0)), (1, .int (zI (x9.1)))]) (0, Sline, Sopn_2, Sdep_6, Ser_7, (rowsC Gki Glo Gsh Bwo Bon Btw Bnu Bcnt Gn)) ⟨qSline, hq_8, hv_15, hv_16, hv_17, hv_18, hv_19, hw, lv_sub hl [1, 0] rfl⟩ ?_
  clear hw hl
  intro x9 H locs ls hI ih_20
  obtain ⟨i_21, Sline_22, Sopn_23, Sdep_24, Ser_25, R_26⟩ := x9
  try dsimp only at hI
  obtain ⟨hR_27, hR_28, hq_29, hq_30, hI_31, hI_32, hI_33, hw, hl⟩ := hI
  refine lv_iload_n hx hb dX7_orders_13 rfl (lv_at hl 1 rfl) ?_
  refine lv_ldc (v := zI 40320) hx hb hown (hts (.constant RX7 146 (40320)) (by decide +kernel)) dX7_orders_14 ?_
  refine z_icmp_ge (tgt := 35) hx hb dX7_orders_16 (by decide) (by omega) (fun hc_34 => ?_) (fun hc_34 => ?_)
  · skip
    refine lv_iload_n hx hb dX7_orders_35 rfl (lv_at hl 1 rfl) ?_
    have hv_35 : (0 : Int) ≤ Smf_4 ∧ Smf_4 ≤ 255 := by
      first | assumption | omega | grind
    have hv_36 : (0 : Int) ≤ Sml_5 ∧ Sml_5 ≤ 255 := by
      first | assumption | omega | grind
    have hv_37 : (-1 : Int) ≤ Sdep_24 ∧ Sdep_24 ≤ 7 := by
      first | assumption | omega | grind
    have hv_38 : (0 : Int) ≤ Ser_25 ∧ Ser_25 ≤ 1 := by
      first | assumption | omega | grind
    have hv_39 : i_21 = ((rowsC Gki Glo Gsh Bwo Bon Btw Bnu Bcnt Gn).length : Int) := by
      first | omega | (have q9 := congrArg List.length hr9; first | rw [List.length_cons] at q9 | rw [List.length_nil] at q9; omega)
    exact W.iret (v := zI i_21) hx hb hr (fun t9 ht hW => ⟨⟨zI i_21, (i_21, Sline_22, Sopn_23, Sbarred_3, Smf_4, Sml_5, Sdep_24, Ser_25), rfl, ⟨rfl, ⟨hR_27, hR_28, hq_9, hv_35, hv_36, hv_37, hv_38, hv_39⟩⟩, by subst hAe; exact z_end hK hw ht hW⟩, by subst hAe; exact hw.2.2.F ht⟩) (by subst hAe; exact hw.2.2.2.2) dX7_orders_36
  · skip
    refine lv_aload_n hx hb dX7_orders_19 rfl (lv_at hl 0 rfl) ?_
    refine va_get (D := D) (ci := 7) (v := .ref (oS 0)) (C := RX7) (T := TX7) (N := 12) hx hb hts hinX7 hown hK hw.1 15 rfl rfl 6 (by decide) (hts (.fieldLink RX7 45 "CarnivalRoad" "search" "LCarnivalRoad$Search;") (by decide +kernel)) (fun _ h9 => h9) rfl dX7_orders_20 ?_
    have hpre_40 : srP (okc Gki Glo Gsh Bwo Bon Btw Bnu Bcnt Gn) Gn Sline_22 Sopn_23 Sbarred_3 Smf_4 Sml_5 Sdep_24 Ser_25 R_26 := by
      first | assumption | omega | grind
    have hF9 := z_free (wc := kG cI cB cZ oG Gn Gki Gle Glo Gta Gsh ++ kS cI cB cZ oS (oG 0) Sline_22 Sopn_23 Sbarred_3 Smf_4 Sml_5 Sdep_24 Ser_25) hw hA [0, 1, 2, 3, 4, 5, 11, 12, 13, 14] rfl
    refine va_calli (va_runV (As := []) (rest := []) ⟨hx, hb, hml, hown, hts⟩ (c_X5_findNext l D cI cB cZ oG oS H.size Gn Gki Gle Glo Gta Gsh Sline_22 Sopn_23 Sbarred_3 Smf_4 Sml_5 Sdep_24 Ser_25 (okc Gki Glo Gsh Bwo Bon Btw Bnu Bcnt Gn) R_26 (by omega) qGki qGle qGlo qGta qGsh hR_27 hR_28 hq_9 (by omega) (by omega) (by omega) (by omega) hpre_40) (cwV 0 hts gX7_orders_X5_findNext rfl rfl rfl (by decide +kernel) ⟨Nat.le_of_ble_eq_true rfl, Nat.le_of_ble_eq_true rfl⟩) ⟨zPre_blind, va_recv hK hw.1 (ci := 5) (q0 := 11) rfl rfl, z_pre hK hw [0, 1, 2, 3, 4, 5, 11, 12, 13, 14] (by decide) rfl⟩ rfl rfl hl.1 rfl (lv_room (Nat.le_of_ble_eq_true rfl)) dX7_orders_23 ⟨Nat.zero_le _, Nat.zero_le _⟩) hw.2.2 (fun q _ h => hF9 q h) hF9 (fun r9 u9 t9 H_41 locs9 ht9 hvm9 hq9 hB9 hz9 hk9 hS9 => ?_)
    obtain ⟨r_42, Sline_43, Sopn_44, Sdep_45, Ser_46⟩ := u9
    try dsimp only at hq9 hB9
    obtain ⟨rfl, hq9⟩ := hq9
    obtain ⟨hq_47, hq_48, hq_49, hq_50, hq_51⟩ := hq9
    have hw : HW D A s.heap (kG cI cB cZ oG Gn Gki Gle Glo Gta Gsh ++ kB cI cB cZ oB (oG 0) Bcnt Bwo Bon Btw Bnu ++ kS cI cB cZ oS (oG 0) Sline_43 Sopn_44 Sbarred_3 Smf_4 Sml_5 Sdep_45 Ser_46 ++ kC cI cB cZ oC (oG 0) Crow Cquiet aCreader (oB 0) aCspare (oS 0) aCbreach aCstreet aCparade aCtrial Crun) H_41 locs9 := z_after (wc := kG cI cB cZ oG Gn Gki Gle Glo Gta Gsh ++ kS cI cB cZ oS (oG 0) Sline_22 Sopn_23 Sbarred_3 Smf_4 Sml_5 Sdep_24 Ser_25) hw [0, 1, 2, 3, 4, 5, 11, 12, 13, 14] [6, 7, 8, 9, 10, 15, 16, 17] rfl rfl (by decide) (by decide) hF9 hk9 ht9 hB9 hS9 [8, 9, 10, 11, 12, 13, 0, 1, 2, 3, 4, 14, 15, 16, 17, 5, 6, 7] (by decide) rfl
    clear hF9 ht9 hvm9 hB9 hz9 hk9 hS9
    obtain ⟨R9, hs9, hr9⟩ := hq_51
    rcases hr9 with ⟨rfl, hr9⟩ | ⟨rfl, hr9, hr8⟩
    · skip
      refine z_if_eq (tgt := 35) hx hb dX7_orders_26 (by decide) (by omega) (fun hc_52 => absurd hc_52 (by omega)) (fun hc_52 => ?_)
      refine z_iinc (k := 1) (lv' := [(1, .int (zI (i_21 + 1))), (0, .ref (oC 0))]) hx hb dX7_orders_29 hl rfl (by decide) rfl (fun ls hl => ?_)
      refine lv_goto (tgt := 13) hx hb dX7_orders_32 (by decide) ?_
      have hv_53 : (-1 : Int) ≤ Sdep_45 ∧ Sdep_45 ≤ 7 := by
        first | assumption | omega | grind
      have hv_54 : (0 : Int) ≤ Ser_46 ∧ Ser_46 ≤ 1 := by
        first | assumption | omega | grind
      have hv_55 : 0 ≤ (i_21 + 1) ∧ (i_21 + 1) ≤ 40320 := by
        first | assumption | omega | grind
      have hv_56 : srP (okc Gki Glo Gsh Bwo Bon Btw Bnu Bcnt Gn) Gn Sline_43 Sopn_44 Sbarred_3 Smf_4 Sml_5 Sdep_45 Ser_46 R9 := by
        exact hs9
      have hv_57 : (i_21 + 1) + (R9.length : Int) = ((rowsC Gki Glo Gsh Bwo Bon Btw Bnu Bcnt Gn).length : Int) := by
        have q9 := congrArg List.length hr9
        first | rw [List.length_cons] at q9 | rw [List.length_nil] at q9
        omega
      have hm_58 : R9.length < R_26.length := by
        have q9 := congrArg List.length hr9
        first | rw [List.length_cons] at q9 | rw [List.length_nil] at q9
        omega
      exact ih_20 ((i_21 + 1), Sline_43, Sopn_44, Sdep_45, Ser_46, R9) _ _ _ ⟨hq_47, hq_48, hv_53, hv_54, hv_55, hv_56, hv_57, hw, lv_sub hl [1, 0] rfl⟩ hm_58
    · skip
      refine z_if_eq (tgt := 35) hx hb dX7_orders_26 (by decide) (by omega) (fun hc_59 => ?_) (fun hc_59 => absurd hc_59 (by omega))
      refine lv_iload_n hx hb dX7_orders_35 rfl (lv_at hl 1 rfl) ?_
      have hv_60 : (0 : Int) ≤ Smf_4 ∧ Smf_4 ≤ 255 := by
        first | assumption | omega | grind
      have hv_61 : (0 : Int) ≤ Sml_5 ∧ Sml_5 ≤ 255 := by
        first | assumption | omega | grind
      have hv_62 : (-1 : Int) ≤ Sdep_45 ∧ Sdep_45 ≤ 7 := by
        first | assumption | omega | grind
      have hv_63 : (0 : Int) ≤ Ser_46 ∧ Ser_46 ≤ 1 := by
        first | assumption | omega | grind
      have hv_64 : i_21 = ((rowsC Gki Glo Gsh Bwo Bon Btw Bnu Bcnt Gn).length : Int) := by
        first | omega | (have q9 := congrArg List.length hr9; first | rw [List.length_cons] at q9 | rw [List.length_nil] at q9; omega)
      exact W.iret (v := zI i_21) hx hb hr (fun t9 ht hW => ⟨⟨zI i_21, (i_21, Sline_43, Sopn_44, Sbarred_3, Smf_4, Sml_5, Sdep_45, Ser_46), rfl, ⟨rfl, ⟨hq_47, hq_48, hq_9, hv_60, hv_61, hv_62, hv_63, hv_64⟩⟩, by subst hAe; exact z_end hK hw ht hW⟩, by subst hAe; exact hw.2.2.F ht⟩) (by subst hAe; exact hw.2.2.2.2) dX7_orders_36
set_option maxRecDepth 100000 in
set_option maxHeartbeats 4000000 in
theorem c_X7_pick (l : Launch) (D : va_G) (cI cB cZ : ClassId) (oG : Nat → Nat) (oB : Nat → Nat) (oS : Nat → Nat) (oC : Nat → Nat) (aCreader : Nat) (aCspare : Nat) (aCbreach : Nat) (aCstreet : Nat) (aCparade : Nat) (aCtrial : Nat) (sz : Nat) (Gn : Int) (Gki : Int → Int) (Gle : Int → Int) (Glo : Int → Int) (Gta : Int → Int) (Gsh : Int → Int) (Bcnt : Int) (Bwo : Int → Int) (Bon : Int → Int) (Btw : Int → Int) (Bnu : Int → Int) (Sline : Int → Int) (Sopn : Int → Int) (Sbarred : Int → Int) (Smf : Int) (Sml : Int) (Sdep : Int) (Ser : Int) (Crow : Int → Int) (Cquiet : Int → Int) (Crun : Int) (k : Int) (qGn : 0 ≤ Gn ∧ Gn ≤ 8) (qGki : RA Gki (0) 4) (qGle : RA Gle (0) 5) (qGlo : RA Glo (0) 9) (qGta : RA Gta (0) 9) (qGsh : RA Gsh (0) 9) (qBcnt : 0 ≤ Bcnt ∧ Bcnt ≤ 10) (qBwo : RA Bwo (0) 11) (qBon : RA Bon (0) 12) (qBtw : RA Btw (0) 12) (qBnu : RA Bnu (0) 18) (qSline : RA Sline (0) 7) (qSopn : RA Sopn (0) 255) (qSbarred : RA Sbarred (0) 255) (qSmf : 0 ≤ Smf ∧ Smf ≤ 255) (qSml : 0 ≤ Sml ∧ Sml ≤ 255) (qSdep : -1 ≤ Sdep ∧ Sdep ≤ 7) (qSer : 0 ≤ Ser ∧ Ser ≤ 1) (qCrow : RA Crow (0) 7) (qCquiet : RA Cquiet (0) 7) (qCrun : 0 ≤ Crun ∧ Crun ≤ 1) (qk : -2147483648 ≤ k ∧ k ≤ 2147483647) (hp0 : (rowsC Gki Glo Gsh Bwo Bon Btw Bnu Bcnt Gn).length ≤ 40320) : Met l yX7_pick wsX7_pick ({ frames := 5, cells := 0, slots := 0, locals := 118 }) (va_Pc [.ref (oC 0), .int (zI k)] (zPre D cI cB cZ sz (kG cI cB cZ oG Gn Gki Gle Glo Gta Gsh ++ kB cI cB cZ oB (oG 0) Bcnt Bwo Bon Btw Bnu ++ kS cI cB cZ oS (oG 0) Sline Sopn Sbarred Smf Sml Sdep Ser ++ kC cI cB cZ oC (oG 0) Crow Cquiet aCreader (oB 0) aCspare (oS 0) aCbreach aCstreet aCparade aCtrial Crun))) (va_Qi (fun (r9 : Int32) (u9 : Int × (Int → Int) × (Int → Int) × (Int → Int) × Int × Int × Int × Int × (Int → Int) × Int) => r9 = zI u9.1 ∧ ((RA u9.2.1 (0) 7) ∧ (RA u9.2.2.1 (0) 255) ∧ (RA u9.2.2.2.1 (0) 255) ∧ ((0 : Int) ≤ u9.2.2.2.2.1 ∧ u9.2.2.2.2.1 ≤ 255) ∧ ((0 : Int) ≤ u9.2.2.2.2.2.1 ∧ u9.2.2.2.2.2.1 ≤ 255) ∧ ((-1 : Int) ≤ u9.2.2.2.2.2.2.1 ∧ u9.2.2.2.2.2.2.1 ≤ 7) ∧ ((0 : Int) ≤ u9.2.2.2.2.2.2.2.1 ∧ u9.2.2.2.2.2.2.2.1 ≤ 1) ∧ (RA u9.2.2.2.2.2.2.2.2.1 (0) 7) ∧ ((0 : Int) ≤ u9.2.2.2.2.2.2.2.2.2 ∧ u9.2.2.2.2.2.2.2.2.2 ≤ 1) ∧ ((0 ≤ k ∧ (rowsC Gki Glo Gsh Bwo Bon Btw Bnu Bcnt Gn)[k.toNat]? = some (preL u9.2.2.2.2.2.2.2.2.1 Gn.toNat) ∧ u9.1 = 1 ∧ u9.2.2.2.2.2.2.2.2.2 = 0) ∨ (¬ (0 ≤ k ∧ k < ((rowsC Gki Glo Gsh Bwo Bon Btw Bnu Bcnt Gn).length : Int)) ∧ u9.1 = 0 ∧ u9.2.2.2.2.2.2.2.2.1 = Crow ∧ u9.2.2.2.2.2.2.2.2.2 = Crun)))) (fun u9 t9 => zAt D cI cB cZ (va_A (kG cI cB cZ oG Gn Gki Gle Glo Gta Gsh ++ kB cI cB cZ oB (oG 0) Bcnt Bwo Bon Btw Bnu ++ kS cI cB cZ oS (oG 0) Sline Sopn Sbarred Smf Sml Sdep Ser ++ kC cI cB cZ oC (oG 0) Crow Cquiet aCreader (oB 0) aCspare (oS 0) aCbreach aCstreet aCparade aCtrial Crun) sz) (kG cI cB cZ oG Gn Gki Gle Glo Gta Gsh ++ kB cI cB cZ oB (oG 0) Bcnt Bwo Bon Btw Bnu ++ kS cI cB cZ oS (oG 0) (u9.2.1) (u9.2.2.1) (u9.2.2.2.1) (u9.2.2.2.2.1) (u9.2.2.2.2.2.1) (u9.2.2.2.2.2.2.1) (u9.2.2.2.2.2.2.2.1) ++ kC cI cB cZ oC (oG 0) (u9.2.2.2.2.2.2.2.2.1) Cquiet aCreader (oB 0) aCspare (oS 0) aCbreach aCstreet aCparade aCtrial (u9.2.2.2.2.2.2.2.2.2)) t9) (va_A (kG cI cB cZ oG Gn Gki Gle Glo Gta Gsh ++ kB cI cB cZ oB (oG 0) Bcnt Bwo Bon Btw Bnu ++ kS cI cB cZ oS (oG 0) Sline Sopn Sbarred Smf Sml Sdep Ser ++ kC cI cB cZ oC (oG 0) Crow Cquiet aCreader (oB 0) aCspare (oS 0) aCbreach aCstreet aCparade aCtrial Crun) sz)) 0 0 (va_A (kG cI cB cZ oG Gn Gki Gle Glo Gta Gsh ++ kB cI cB cZ oB (oG 0) Bcnt Bwo Bon Btw Bnu ++ kS cI cB cZ oS (oG 0) Sline Sopn Sbarred Smf Sml Sdep Ser ++ kC cI cB cZ oC (oG 0) Crow Cquiet aCreader (oB 0) aCspare (oS 0) aCbreach aCstreet aCparade aCtrial Crun) sz) := by
  refine Met.ofW (cc := cX7_pick) (maxL := 3) (ret := (some .boolean)) (by decide) rfl ?_
  intro pp ee s mm aa bw mt cd s₁ BL hml hv
  obtain ⟨rfl, hsz, hP, hK, hD0⟩ := hv
  have hx := BL.exec
  have hb := BL.bytes
  have hr := BL.returns
  have hts := atoms_spec (ws := wsX7_pick) BL.pre
  have hown : s.vm.findClass RX7 = some mm.cls := findClass_of_methodNamed BL.named
  have hlocks := BL.notSynchronized
  subst hsz
  generalize hAe : va_A (kG cI cB cZ oG Gn Gki Gle Glo Gta Gsh ++ kB cI cB cZ oB (oG 0) Bcnt Bwo Bon Btw Bnu ++ kS cI cB cZ oS (oG 0) Sline Sopn Sbarred Smf Sml Sdep Ser ++ kC cI cB cZ oC (oG 0) Crow Cquiet aCreader (oB 0) aCspare (oS 0) aCbreach aCstreet aCparade aCtrial Crun) s.heap.size = A
  have hA : ∀ q : Nat, s.heap.size ≤ q → A q := fun q h => by rw [← hAe]; exact Or.inr h
  have hw : HW D A s.heap (kG cI cB cZ oG Gn Gki Gle Glo Gta Gsh ++ kB cI cB cZ oB (oG 0) Bcnt Bwo Bon Btw Bnu ++ kS cI cB cZ oS (oG 0) Sline Sopn Sbarred Smf Sml Sdep Ser ++ kC cI cB cZ oC (oG 0) Crow Cquiet aCreader (oB 0) aCspare (oS 0) aCbreach aCstreet aCparade aCtrial Crun) s.heap [] := z_start hAe hP hD0
  clear hP hD0
  have hl := lv_entry ([.ref (oC 0), .int (zI k)]) (n := 3) (Nat.le_of_ble_eq_true rfl)
  rw [lg_entry_eq]
  generalize (lg_sl ([.ref (oC 0), .int (zI k)]) ++ List.replicate (3 - (lg_sl ([.ref (oC 0), .int (zI k)])).length) Slot.unset).toArray = ls at hl ⊢
  have hl : lv_has ls 3 [(0, .ref (oC 0)), (1, .int (zI k))] := hl
  have hinX5 : ∀ w ∈ wsX50, w ∈ wsX7_pick := by decide +kernel
  have hinX7 : ∀ w ∈ wsX70, w ∈ wsX7_pick := by decide +kernel
  refine lv_iload_n hx hb dX7_pick_0 rfl (lv_at hl 1 rfl) ?_
  refine z_if_lt (tgt := 10) hx hb dX7_pick_1 (by decide) (by omega) (fun hc_1 => ?_) (fun hc_1 => ?_)
  · skip
    refine z_iconst hx hb dX7_pick_10 ?_
    have hv_2 : (0 : Int) ≤ Smf ∧ Smf ≤ 255 := by
      first | assumption | omega | grind
    have hv_3 : (0 : Int) ≤ Sml ∧ Sml ≤ 255 := by
      first | assumption | omega | grind
    have hv_4 : (-1 : Int) ≤ Sdep ∧ Sdep ≤ 7 := by
      first | assumption | omega | grind
    have hv_5 : (0 : Int) ≤ Ser ∧ Ser ≤ 1 := by
      first | assumption | omega | grind
    have hv_6 : (0 : Int) ≤ Crun ∧ Crun ≤ 1 := by
      first | assumption | omega | grind
    have hv_7 : (0 ≤ k ∧ (rowsC Gki Glo Gsh Bwo Bon Btw Bnu Bcnt Gn)[k.toNat]? = some (preL Crow Gn.toNat) ∧ (0 : Int) = 1 ∧ Crun = 0) ∨ (¬ (0 ≤ k ∧ k < ((rowsC Gki Glo Gsh Bwo Bon Btw Bnu Bcnt Gn).length : Int)) ∧ (0 : Int) = 0 ∧ Crow = Crow ∧ Crun = Crun) := by
      refine Or.inr ⟨fun q => ?_, rfl, rfl, rfl⟩
      omega
    exact W.zret (v := zI 0) hx hb hr rfl (fun t9 ht hW => ⟨⟨zI 0, (0, Sline, Sopn, Sbarred, Smf, Sml, Sdep, Ser, Crow, Crun), rfl, ⟨rfl, ⟨qSline, qSopn, qSbarred, hv_2, hv_3, hv_4, hv_5, qCrow, hv_6, hv_7⟩⟩, by subst hAe; exact z_end hK hw ht hW⟩, by subst hAe; exact hw.2.2.F ht⟩) (by subst hAe; exact hw.2.2.2.2) dX7_pick_11
  · skip
    refine lv_iload_n hx hb dX7_pick_4 rfl (lv_at hl 1 rfl) ?_
    refine lv_ldc (v := zI 40320) hx hb hown (hts (.constant RX7 146 (40320)) (by decide +kernel)) dX7_pick_5 ?_
    refine z_icmp_lt (tgt := 12) hx hb dX7_pick_7 (by decide) (by omega) (fun hc_8 => ?_) (fun hc_8 => ?_)
    · skip
      refine lv_aload_n hx hb dX7_pick_12 rfl (lv_at hl 0 rfl) ?_
      refine va_get (D := D) (ci := 7) (v := .ref (oS 0)) (C := RX7) (T := TX7) (N := 12) hx hb hts hinX7 hown hK hw.1 15 rfl rfl 6 (by decide) (hts (.fieldLink RX7 45 "CarnivalRoad" "search" "LCarnivalRoad$Search;") (by decide +kernel)) (fun _ h9 => h9) rfl dX7_pick_13 ?_
      refine lv_aload_n hx hb dX7_pick_16 rfl (lv_at hl 0 rfl) ?_
      refine va_get (D := D) (ci := 7) (v := .ref (oB 0)) (C := RX7) (T := TX7) (N := 12) hx hb hts hinX7 hown hK hw.1 15 rfl rfl 4 (by decide) (hts (.fieldLink RX7 35 "CarnivalRoad" "bars" "LCarnivalRoad$Bars;") (by decide +kernel)) (fun _ h9 => h9) rfl dX7_pick_17 ?_
      have hF9 := z_free (wc := kG cI cB cZ oG Gn Gki Gle Glo Gta Gsh ++ kB cI cB cZ oB (oG 0) Bcnt Bwo Bon Btw Bnu ++ kS cI cB cZ oS (oG 0) Sline Sopn Sbarred Smf Sml Sdep Ser) hw hA [0, 1, 2, 3, 4, 5, 6, 7, 8, 9, 10, 11, 12, 13, 14] rfl
      refine va_callv (va_runV (As := [.ref (oB 0)]) (rest := []) ⟨hx, hb, hml, hown, hts⟩ (c_X5_start l D cI cB cZ oG oB oS s.heap.size Gn Gki Gle Glo Gta Gsh Bcnt Bwo Bon Btw Bnu Sline Sopn Sbarred Smf Sml Sdep Ser (by omega) qGki qGle qGlo qGta qGsh (by omega) qBwo qBon qBtw qBnu qSline qSopn qSbarred (by omega) (by omega) (by omega) (by omega)) (cwV 1 hts gX7_pick_X5_start rfl rfl rfl (by decide +kernel) ⟨Nat.le_of_ble_eq_true rfl, Nat.le_of_ble_eq_true rfl⟩) ⟨zPre_blind, va_recv hK hw.1 (ci := 5) (q0 := 11) rfl rfl, z_pre hK hw [0, 1, 2, 3, 4, 5, 6, 7, 8, 9, 10, 11, 12, 13, 14] (by decide) rfl⟩ rfl rfl hl.1 rfl (lv_room (Nat.le_of_ble_eq_true rfl)) dX7_pick_20 ⟨Nat.zero_le _, Nat.zero_le _⟩) hw.2.2 (fun q _ h => hF9 q h) hF9 (fun u9 t9 H_9 locs9 ht9 hvm9 hq9 hB9 hz9 hk9 hS9 => ?_)
      obtain ⟨Sopn_10, Sbarred_11, Smf_12, Sml_13, Sdep_14, Ser_15⟩ := u9
      try dsimp only at hq9 hB9
      obtain ⟨hq_16, hq_17, hq_18, hq_19, hq_20, hq_21, hq_22⟩ := hq9
      have hw : HW D A s.heap (kG cI cB cZ oG Gn Gki Gle Glo Gta Gsh ++ kB cI cB cZ oB (oG 0) Bcnt Bwo Bon Btw Bnu ++ kS cI cB cZ oS (oG 0) Sline Sopn_10 Sbarred_11 Smf_12 Sml_13 Sdep_14 Ser_15 ++ kC cI cB cZ oC (oG 0) Crow Cquiet aCreader (oB 0) aCspare (oS 0) aCbreach aCstreet aCparade aCtrial Crun) H_9 locs9 := z_after (wc := kG cI cB cZ oG Gn Gki Gle Glo Gta Gsh ++ kB cI cB cZ oB (oG 0) Bcnt Bwo Bon Btw Bnu ++ kS cI cB cZ oS (oG 0) Sline Sopn Sbarred Smf Sml Sdep Ser) hw [0, 1, 2, 3, 4, 5, 6, 7, 8, 9, 10, 11, 12, 13, 14] [15, 16, 17] rfl rfl (by decide) (by decide) hF9 hk9 ht9 hB9 hS9 [3, 4, 5, 6, 7, 8, 9, 10, 11, 12, 13, 14, 15, 16, 17, 0, 1, 2] (by decide) rfl
      clear hF9 ht9 hvm9 hB9 hz9 hk9 hS9
      refine z_iconst hx hb dX7_pick_23 ?_
      refine lv_istore_n (lv' := [(2, .int (zI 0)), (0, .ref (oC 0)), (1, .int (zI k))]) hx hb dX7_pick_24 rfl hl (by decide) rfl (fun ls hl => ?_)
      have hv_23 : (-1 : Int) ≤ Sdep_14 ∧ Sdep_14 ≤ 7 := by
        first | assumption | omega | grind
      have hv_24 : (0 : Int) ≤ Ser_15 ∧ Ser_15 ≤ 1 := by
        first | assumption | omega | grind
      have hv_25 : 0 ≤ (0 : Int) ∧ (0 : Int) ≤ k + 1 := by
        first | assumption | omega | grind
      have hv_26 : srP (okc Gki Glo Gsh Bwo Bon Btw Bnu Bcnt Gn) Gn Sline Sopn_10 Sbarred_11 Smf_12 Sml_13 Sdep_14 Ser_15 (rowsC Gki Glo Gsh Bwo Bon Btw Bnu Bcnt Gn) := by
        first | assumption | omega | grind
      have hv_27 : (rowsC Gki Glo Gsh Bwo Bon Btw Bnu Bcnt Gn).drop (0 : Int).toNat = (rowsC Gki Glo Gsh Bwo Bon Btw Bnu Bcnt Gn) := by
        rfl
      have hv_28 : (0 : Int) = 0 ∨ (rowsC Gki Glo Gsh Bwo Bon Btw Bnu Bcnt Gn)[((0 : Int) - 1).toNat]? = some (preL Sline Gn.toNat) := by
        first | assumption | omega | grind
      refine z_loop (σ := Int × (Int → Int) × (Int → Int) × Int × Int × List (List Int)) (μ := fun x9 => (k + 1 - (x9.1)).toNat) (I := fun x9 H locs ls => (RA (x9.2.1) (0) 7) ∧ (RA (x9.2.2.1) (0) 255) ∧ ((-1 : Int) ≤ (x9.2.2.2.1) ∧ (x9.2.2.2.1) ≤ 7) ∧ ((0 : Int) ≤ (x9.2.2.2.2.1) ∧ (x9.2.2.2.2.1) ≤ 1) ∧ (0 ≤ (x9.1) ∧ (x9.1) ≤ k + 1) ∧ (srP (okc Gki Glo Gsh Bwo Bon Btw Bnu Bcnt Gn) Gn (x9.2.1) (x9.2.2.1) Sbarred_11 Smf_12 Sml_13 (x9.2.2.2.1) (x9.2.2.2.2.1) x9.2.2.2.2.2) ∧ ((rowsC Gki Glo Gsh Bwo Bon Btw Bnu Bcnt Gn).drop (x9.1).toNat = x9.2.2.2.2.2) ∧ ((x9.1) = 0 ∨ (rowsC Gki Glo Gsh Bwo Bon Btw Bnu Bcnt Gn)[((x9.1) - 1).toNat]? = some (preL (x9.2.1) Gn.toNat)) ∧ HW D A s.heap (kG cI cB cZ oG Gn Gki Gle Glo Gta Gsh ++ kB cI cB cZ oB (oG 0) Bcnt Bwo Bon Btw Bnu ++ kS cI cB cZ oS (oG 0) (x9.2.1) (x9.2.2.1) Sbarred_11 Smf_12 Sml_13 (x9.2.2.2.1) (x9.2.2.2.2.1) ++ kC cI cB cZ oC (oG 0) Crow Cquiet aCreader (oB 0) aCspare (oS 0) aCbreach aCstreet aCparade aCtrial Crun) H locs ∧ lv_has ls 3 [(0, .ref (oC 0)), (1, .int (zI k)), (2, .int (zI (x9.1)))]) (0, Sline, Sopn_10, Sdep_14, Ser_15, (rowsC Gki Glo Gsh Bwo Bon Btw Bnu Bcnt Gn)) ⟨qSline, hq_16, hv_23, hv_24, hv_25, hv_26, hv_27, hv_28, hw, lv_sub hl [1, 2, 0] rfl⟩ ?_
      clear hw hl
      intro x9 H locs ls hI ih_29
      obtain ⟨i_30, Sline_31, Sopn_32, Sdep_33, Ser_34, R_35⟩ := x9
      try dsimp only at hI
      obtain ⟨hR_36, hR_37, hq_38, hq_39, hI_40, hI_41, hI_42, hI_43, hw, hl⟩ := hI
      refine lv_iload_n hx hb dX7_pick_25 rfl (lv_at hl 2 rfl) ?_
      refine lv_iload_n hx hb dX7_pick_26 rfl (lv_at hl 1 rfl) ?_
      refine z_icmp_gt (tgt := 48) hx hb dX7_pick_27 (by decide) (by omega) (fun hc_44 => ?_) (fun hc_44 => ?_)
      · skip
        refine lv_aload_n hx hb dX7_pick_48 rfl (lv_at hl 0 rfl) ?_
        refine lv_aload_n hx hb dX7_pick_49 rfl (lv_at hl 0 rfl) ?_
        refine va_get (D := D) (ci := 7) (v := .ref (oS 0)) (C := RX7) (T := TX7) (N := 12) hx hb hts hinX7 hown hK hw.1 15 rfl rfl 6 (by decide) (hts (.fieldLink RX7 45 "CarnivalRoad" "search" "LCarnivalRoad$Search;") (by decide +kernel)) (fun _ h9 => h9) rfl dX7_pick_50 ?_
        refine va_get (D := D) (ci := 5) (v := .ref (oS 1)) (C := RX5) (T := TX5) (N := 8) hx hb hts hinX5 hown hK hw.1 11 rfl rfl 1 (by decide) (hts (.fieldLink RX7 150 "CarnivalRoad$Search" "line" "[I") (by decide +kernel)) (fun _ h9 => h9) rfl dX7_pick_53 ?_
        have hF9 := z_free (wc := [(oS 1, .inl (cI, 8, .inl (zA Sline_31)))] ++ kC cI cB cZ oC (oG 0) Crow Cquiet aCreader (oB 0) aCspare (oS 0) aCbreach aCstreet aCparade aCtrial Crun) hw hA [12, 15, 16, 17] rfl
        refine va_callv (va_runV (As := [.ref (oS 1)]) (rest := []) ⟨hx, hb, hml, hown, hts⟩ (c_X7_takeRow l D cI cB cZ (oS 1) oC (oG 0) aCreader (oB 0) aCspare (oS 0) aCbreach aCstreet aCparade aCtrial H.size Sline_31 Crow Cquiet Crun hR_36 qCrow qCquiet (by omega)) (cwV 1 hts gX7_pick_X7_takeRow rfl rfl rfl (by decide +kernel) ⟨Nat.le_of_ble_eq_true rfl, Nat.le_of_ble_eq_true rfl⟩) ⟨zPre_blind, va_recv hK hw.1 (ci := 7) (q0 := 15) rfl rfl, z_pre hK hw [12, 15, 16, 17] (by decide) rfl⟩ rfl rfl hl.1 rfl (lv_room (Nat.le_of_ble_eq_true rfl)) dX7_pick_56 ⟨Nat.zero_le _, Nat.zero_le _⟩) hw.2.2 (fun q _ h => hF9 q h) hF9 (fun u9 t9 H_45 locs9 ht9 hvm9 hq9 hB9 hz9 hk9 hS9 => ?_)
        obtain ⟨Crow_46, Crun_47⟩ := u9
        try dsimp only at hq9 hB9
        obtain ⟨hq_48, hq_49, hq_50, hq_51⟩ := hq9
        have hw : HW D A s.heap (kG cI cB cZ oG Gn Gki Gle Glo Gta Gsh ++ kB cI cB cZ oB (oG 0) Bcnt Bwo Bon Btw Bnu ++ kS cI cB cZ oS (oG 0) Sline_31 Sopn_32 Sbarred_11 Smf_12 Sml_13 Sdep_33 Ser_34 ++ kC cI cB cZ oC (oG 0) Crow_46 Cquiet aCreader (oB 0) aCspare (oS 0) aCbreach aCstreet aCparade aCtrial Crun_47) H_45 locs9 := z_after (wc := [(oS 1, .inl (cI, 8, .inl (zA Sline_31)))] ++ kC cI cB cZ oC (oG 0) Crow Cquiet aCreader (oB 0) aCspare (oS 0) aCbreach aCstreet aCparade aCtrial Crun) hw [12, 15, 16, 17] [0, 1, 2, 3, 4, 5, 6, 7, 8, 9, 10, 11, 13, 14] rfl rfl (by decide) (by decide) hF9 hk9 ht9 hB9 hS9 [0, 1, 2, 3, 4, 5, 6, 7, 8, 9, 10, 11, 14, 12, 13, 15, 16, 17] (by decide) rfl
        clear hF9 ht9 hvm9 hB9 hz9 hk9 hS9
        refine z_iconst hx hb dX7_pick_59 ?_
        have hv_52 : (0 : Int) ≤ Smf_12 ∧ Smf_12 ≤ 255 := by
          first | assumption | omega | grind
        have hv_53 : (0 : Int) ≤ Sml_13 ∧ Sml_13 ≤ 255 := by
          first | assumption | omega | grind
        have hv_54 : (-1 : Int) ≤ Sdep_33 ∧ Sdep_33 ≤ 7 := by
          first | assumption | omega | grind
        have hv_55 : (0 : Int) ≤ Ser_34 ∧ Ser_34 ≤ 1 := by
          first | assumption | omega | grind
        have hv_56 : (0 : Int) ≤ Crun_47 ∧ Crun_47 ≤ 1 := by
          first | assumption | omega | grind
        have hv_57 : (0 ≤ k ∧ (rowsC Gki Glo Gsh Bwo Bon Btw Bnu Bcnt Gn)[k.toNat]? = some (preL Crow_46 Gn.toNat) ∧ (1 : Int) = 1 ∧ Crun_47 = 0) ∨ (¬ (0 ≤ k ∧ k < ((rowsC Gki Glo Gsh Bwo Bon Btw Bnu Bcnt Gn).length : Int)) ∧ (1 : Int) = 0 ∧ Crow_46 = Crow ∧ Crun_47 = Crun) := by
          subst_vars
          refine Or.inl ⟨by omega, ?_, rfl, rfl⟩
          rw [preL_cp (by omega)]
          have q9 := (by assumption : i_30 = 0 ∨ (rowsC Gki Glo Gsh Bwo Bon Btw Bnu Bcnt Gn)[(i_30 - 1).toNat]? = some (preL Sline_31 Gn.toNat)).resolve_left (by omega)
          rw [show k.toNat = (i_30 - 1).toNat by omega]
          exact q9
        exact W.zret (v := zI 1) hx hb hr rfl (fun t9 ht hW => ⟨⟨zI 1, (1, Sline_31, Sopn_32, Sbarred_11, Smf_12, Sml_13, Sdep_33, Ser_34, Crow_46, Crun_47), rfl, ⟨rfl, ⟨hR_36, hR_37, hq_17, hv_52, hv_53, hv_54, hv_55, hq_48, hv_56, hv_57⟩⟩, by subst hAe; exact z_end hK hw ht hW⟩, by subst hAe; exact hw.2.2.F ht⟩) (by subst hAe; exact hw.2.2.2.2) dX7_pick_60
      · skip
        refine lv_aload_n hx hb dX7_pick_30 rfl (lv_at hl 0 rfl) ?_
        refine va_get (D := D) (ci := 7) (v := .ref (oS 0)) (C := RX7) (T := TX7) (N := 12) hx hb hts hinX7 hown hK hw.1 15 rfl rfl 6 (by decide) (hts (.fieldLink RX7 45 "CarnivalRoad" "search" "LCarnivalRoad$Search;") (by decide +kernel)) (fun _ h9 => h9) rfl dX7_pick_31 ?_
        have hpre_58 : srP (okc Gki Glo Gsh Bwo Bon Btw Bnu Bcnt Gn) Gn Sline_31 Sopn_32 Sbarred_11 Smf_12 Sml_13 Sdep_33 Ser_34 R_35 := by
          first | assumption | omega | grind
        have hF9 := z_free (wc := kG cI cB cZ oG Gn Gki Gle Glo Gta Gsh ++ kS cI cB cZ oS (oG 0) Sline_31 Sopn_32 Sbarred_11 Smf_12 Sml_13 Sdep_33 Ser_34) hw hA [0, 1, 2, 3, 4, 5, 11, 12, 13, 14] rfl
        refine va_calli (va_runV (As := []) (rest := []) ⟨hx, hb, hml, hown, hts⟩ (c_X5_findNext l D cI cB cZ oG oS H.size Gn Gki Gle Glo Gta Gsh Sline_31 Sopn_32 Sbarred_11 Smf_12 Sml_13 Sdep_33 Ser_34 (okc Gki Glo Gsh Bwo Bon Btw Bnu Bcnt Gn) R_35 (by omega) qGki qGle qGlo qGta qGsh hR_36 hR_37 hq_17 (by omega) (by omega) (by omega) (by omega) hpre_58) (cwV 0 hts gX7_pick_X5_findNext rfl rfl rfl (by decide +kernel) ⟨Nat.le_of_ble_eq_true rfl, Nat.le_of_ble_eq_true rfl⟩) ⟨zPre_blind, va_recv hK hw.1 (ci := 5) (q0 := 11) rfl rfl, z_pre hK hw [0, 1, 2, 3, 4, 5, 11, 12, 13, 14] (by decide) rfl⟩ rfl rfl hl.1 rfl (lv_room (Nat.le_of_ble_eq_true rfl)) dX7_pick_34 ⟨Nat.zero_le _, Nat.zero_le _⟩) hw.2.2 (fun q _ h => hF9 q h) hF9 (fun r9 u9 t9 H_59 locs9 ht9 hvm9 hq9 hB9 hz9 hk9 hS9 => ?_)
        obtain ⟨r_60, Sline_61, Sopn_62, Sdep_63, Ser_64⟩ := u9
        try dsimp only at hq9 hB9
        obtain ⟨rfl, hq9⟩ := hq9
        obtain ⟨hq_65, hq_66, hq_67, hq_68, hq_69⟩ := hq9
        have hw : HW D A s.heap (kG cI cB cZ oG Gn Gki Gle Glo Gta Gsh ++ kB cI cB cZ oB (oG 0) Bcnt Bwo Bon Btw Bnu ++ kS cI cB cZ oS (oG 0) Sline_61 Sopn_62 Sbarred_11 Smf_12 Sml_13 Sdep_63 Ser_64 ++ kC cI cB cZ oC (oG 0) Crow Cquiet aCreader (oB 0) aCspare (oS 0) aCbreach aCstreet aCparade aCtrial Crun) H_59 locs9 := z_after (wc := kG cI cB cZ oG Gn Gki Gle Glo Gta Gsh ++ kS cI cB cZ oS (oG 0) Sline_31 Sopn_32 Sbarred_11 Smf_12 Sml_13 Sdep_33 Ser_34) hw [0, 1, 2, 3, 4, 5, 11, 12, 13, 14] [6, 7, 8, 9, 10, 15, 16, 17] rfl rfl (by decide) (by decide) hF9 hk9 ht9 hB9 hS9 [8, 9, 10, 11, 12, 13, 0, 1, 2, 3, 4, 14, 15, 16, 17, 5, 6, 7] (by decide) rfl
        clear hF9 ht9 hvm9 hB9 hz9 hk9 hS9
        obtain ⟨R9, hs9, hr9⟩ := hq_69
        rcases hr9 with ⟨rfl, hr9⟩ | ⟨rfl, hr9, hr8⟩
        · skip
          refine z_if_ne (tgt := 42) hx hb dX7_pick_37 (by decide) (by omega) (fun hc_70 => ?_) (fun hc_70 => absurd hc_70 (by omega))
          refine z_iinc (k := 2) (lv' := [(2, .int (zI (i_30 + 1))), (0, .ref (oC 0)), (1, .int (zI k))]) hx hb dX7_pick_42 hl rfl (by decide) rfl (fun ls hl => ?_)
          refine lv_goto (tgt := 25) hx hb dX7_pick_45 (by decide) ?_
          have hv_71 : (-1 : Int) ≤ Sdep_63 ∧ Sdep_63 ≤ 7 := by
            first | assumption | omega | grind
          have hv_72 : (0 : Int) ≤ Ser_64 ∧ Ser_64 ≤ 1 := by
            first | assumption | omega | grind
          have hv_73 : 0 ≤ (i_30 + 1) ∧ (i_30 + 1) ≤ k + 1 := by
            first | assumption | omega | grind
          have hv_74 : srP (okc Gki Glo Gsh Bwo Bon Btw Bnu Bcnt Gn) Gn Sline_61 Sopn_62 Sbarred_11 Smf_12 Sml_13 Sdep_63 Ser_64 R9 := by
            exact hs9
          have hv_75 : (rowsC Gki Glo Gsh Bwo Bon Btw Bnu Bcnt Gn).drop (i_30 + 1).toNat = R9 := by
            have q9 := drop_cons ((by assumption : (rowsC Gki Glo Gsh Bwo Bon Btw Bnu Bcnt Gn).drop i_30.toNat = R_35).trans hr9)
            rw [show (i_30 + 1).toNat = i_30.toNat + 1 by omega]
            exact q9.1
          have hv_76 : (i_30 + 1) = 0 ∨ (rowsC Gki Glo Gsh Bwo Bon Btw Bnu Bcnt Gn)[((i_30 + 1) - 1).toNat]? = some (preL Sline_61 Gn.toNat) := by
            have q9 := drop_cons ((by assumption : (rowsC Gki Glo Gsh Bwo Bon Btw Bnu Bcnt Gn).drop i_30.toNat = R_35).trans hr9)
            refine Or.inr ?_
            rw [show (i_30 + 1 - 1).toNat = i_30.toNat by omega]
            exact q9.2
          have hm_77 : (k + 1 - (i_30 + 1)).toNat < (k + 1 - i_30).toNat := by
            first | assumption | omega | grind
          exact ih_29 ((i_30 + 1), Sline_61, Sopn_62, Sdep_63, Ser_64, R9) _ _ _ ⟨hq_65, hq_66, hv_71, hv_72, hv_73, hv_74, hv_75, hv_76, hw, lv_sub hl [1, 2, 0] rfl⟩ hm_77
        · skip
          refine z_if_ne (tgt := 42) hx hb dX7_pick_37 (by decide) (by omega) (fun hc_78 => absurd hc_78 (by omega)) (fun hc_78 => ?_)
          refine z_iconst hx hb dX7_pick_40 ?_
          have hv_79 : (0 : Int) ≤ Smf_12 ∧ Smf_12 ≤ 255 := by
            first | assumption | omega | grind
          have hv_80 : (0 : Int) ≤ Sml_13 ∧ Sml_13 ≤ 255 := by
            first | assumption | omega | grind
          have hv_81 : (-1 : Int) ≤ Sdep_63 ∧ Sdep_63 ≤ 7 := by
            first | assumption | omega | grind
          have hv_82 : (0 : Int) ≤ Ser_64 ∧ Ser_64 ≤ 1 := by
            first | assumption | omega | grind
          have hv_83 : (0 : Int) ≤ Crun ∧ Crun ≤ 1 := by
            first | assumption | omega | grind
          have hv_84 : (0 ≤ k ∧ (rowsC Gki Glo Gsh Bwo Bon Btw Bnu Bcnt Gn)[k.toNat]? = some (preL Crow Gn.toNat) ∧ (0 : Int) = 1 ∧ Crun = 0) ∨ (¬ (0 ≤ k ∧ k < ((rowsC Gki Glo Gsh Bwo Bon Btw Bnu Bcnt Gn).length : Int)) ∧ (0 : Int) = 0 ∧ Crow = Crow ∧ Crun = Crun) := by
            refine Or.inr ⟨fun q => ?_, rfl, rfl, rfl⟩
            have q9 := congrArg List.length ((by assumption : (rowsC Gki Glo Gsh Bwo Bon Btw Bnu Bcnt Gn).drop i_30.toNat = R_35).trans hr9)
            rw [List.length_drop, List.length_nil] at q9
            omega
          exact W.zret (v := zI 0) hx hb hr rfl (fun t9 ht hW => ⟨⟨zI 0, (0, Sline_61, Sopn_62, Sbarred_11, Smf_12, Sml_13, Sdep_63, Ser_64, Crow, Crun), rfl, ⟨rfl, ⟨hq_65, hq_66, hq_17, hv_79, hv_80, hv_81, hv_82, qCrow, hv_83, hv_84⟩⟩, by subst hAe; exact z_end hK hw ht hW⟩, by subst hAe; exact hw.2.2.F ht⟩) (by subst hAe; exact hw.2.2.2.2) dX7_pick_41
    · skip
      refine z_iconst hx hb dX7_pick_10 ?_
      have hv_85 : (0 : Int) ≤ Smf ∧ Smf ≤ 255 := by
        first | assumption | omega | grind
      have hv_86 : (0 : Int) ≤ Sml ∧ Sml ≤ 255 := by
        first | assumption | omega | grind
      have hv_87 : (-1 : Int) ≤ Sdep ∧ Sdep ≤ 7 := by
        first | assumption | omega | grind
      have hv_88 : (0 : Int) ≤ Ser ∧ Ser ≤ 1 := by
        first | assumption | omega | grind
      have hv_89 : (0 : Int) ≤ Crun ∧ Crun ≤ 1 := by
        first | assumption | omega | grind
      have hv_90 : (0 ≤ k ∧ (rowsC Gki Glo Gsh Bwo Bon Btw Bnu Bcnt Gn)[k.toNat]? = some (preL Crow Gn.toNat) ∧ (0 : Int) = 1 ∧ Crun = 0) ∨ (¬ (0 ≤ k ∧ k < ((rowsC Gki Glo Gsh Bwo Bon Btw Bnu Bcnt Gn).length : Int)) ∧ (0 : Int) = 0 ∧ Crow = Crow ∧ Crun = Crun) := by
        refine Or.inr ⟨fun q => ?_, rfl, rfl, rfl⟩
        omega
      exact W.zret (v := zI 0) hx hb hr rfl (fun t9 ht hW => ⟨⟨zI 0, (0, Sline, Sopn, Sbarred, Smf, Sml, Sdep, Ser, Crow, Crun), rfl, ⟨rfl, ⟨qSline, qSopn, qSbarred, hv_85, hv_86, hv_87, hv_88, qCrow, hv_89, hv_90⟩⟩, by subst hAe; exact z_end hK hw ht hW⟩, by subst hAe; exact hw.2.2.F ht⟩) (by subst hAe; exact hw.2.2.2.2) dX7_pick_11
set_option maxRecDepth 100000 in
set_option maxHeartbeats 4000000 in
theorem c_X7_rank (l : Launch) (D : va_G) (cI cB cZ : ClassId) (oG : Nat → Nat) (oB : Nat → Nat) (oS : Nat → Nat) (oC : Nat → Nat) (aCreader : Nat) (aCspare : Nat) (aCbreach : Nat) (aCstreet : Nat) (aCparade : Nat) (aCtrial : Nat) (sz : Nat) (Gn : Int) (Gki : Int → Int) (Gle : Int → Int) (Glo : Int → Int) (Gta : Int → Int) (Gsh : Int → Int) (Bcnt : Int) (Bwo : Int → Int) (Bon : Int → Int) (Btw : Int → Int) (Bnu : Int → Int) (Sline : Int → Int) (Sopn : Int → Int) (Sbarred : Int → Int) (Smf : Int) (Sml : Int) (Sdep : Int) (Ser : Int) (Crow : Int → Int) (Cquiet : Int → Int) (Crun : Int) (qGn : 0 ≤ Gn ∧ Gn ≤ 8) (qGki : RA Gki (0) 4) (qGle : RA Gle (0) 5) (qGlo : RA Glo (0) 9) (qGta : RA Gta (0) 9) (qGsh : RA Gsh (0) 9) (qBcnt : 0 ≤ Bcnt ∧ Bcnt ≤ 10) (qBwo : RA Bwo (0) 11) (qBon : RA Bon (0) 12) (qBtw : RA Btw (0) 12) (qBnu : RA Bnu (0) 18) (qSline : RA Sline (0) 7) (qSopn : RA Sopn (0) 255) (qSbarred : RA Sbarred (0) 255) (qSmf : 0 ≤ Smf ∧ Smf ≤ 255) (qSml : 0 ≤ Sml ∧ Sml ≤ 255) (qSdep : -1 ≤ Sdep ∧ Sdep ≤ 7) (qSer : 0 ≤ Ser ∧ Ser ≤ 1) (qCrow : RA Crow (0) 7) (qCquiet : RA Cquiet (0) 7) (qCrun : 0 ≤ Crun ∧ Crun ≤ 1) (hp0 : (rowsC Gki Glo Gsh Bwo Bon Btw Bnu Bcnt Gn).length ≤ 40320) : Met l yX7_rank wsX7_rank ({ frames := 5, cells := 0, slots := 0, locals := 118 }) (va_Pc [.ref (oC 0)] (zPre D cI cB cZ sz (kG cI cB cZ oG Gn Gki Gle Glo Gta Gsh ++ kB cI cB cZ oB (oG 0) Bcnt Bwo Bon Btw Bnu ++ kS cI cB cZ oS (oG 0) Sline Sopn Sbarred Smf Sml Sdep Ser ++ kC cI cB cZ oC (oG 0) Crow Cquiet aCreader (oB 0) aCspare (oS 0) aCbreach aCstreet aCparade aCtrial Crun))) (va_Qi (fun (r9 : Int32) (u9 : Int × (Int → Int) × (Int → Int) × (Int → Int) × Int × Int × Int × Int) => r9 = zI u9.1 ∧ ((RA u9.2.1 (0) 7) ∧ (RA u9.2.2.1 (0) 255) ∧ (RA u9.2.2.2.1 (0) 255) ∧ ((0 : Int) ≤ u9.2.2.2.2.1 ∧ u9.2.2.2.2.1 ≤ 255) ∧ ((0 : Int) ≤ u9.2.2.2.2.2.1 ∧ u9.2.2.2.2.2.1 ≤ 255) ∧ ((-1 : Int) ≤ u9.2.2.2.2.2.2.1 ∧ u9.2.2.2.2.2.2.1 ≤ 7) ∧ ((0 : Int) ≤ u9.2.2.2.2.2.2.2 ∧ u9.2.2.2.2.2.2.2 ≤ 1) ∧ ((0 ≤ u9.1 ∧ (rowsC Gki Glo Gsh Bwo Bon Btw Bnu Bcnt Gn)[u9.1.toNat]? = some (preL Crow Gn.toNat) ∧ ∀ j : Nat, j < u9.1.toNat → ¬ (rowsC Gki Glo Gsh Bwo Bon Btw Bnu Bcnt Gn)[j]? = some (preL Crow Gn.toNat)) ∨ (u9.1 = -1 ∧ ∀ j : Nat, ¬ (rowsC Gki Glo Gsh Bwo Bon Btw Bnu Bcnt Gn)[j]? = some (preL Crow Gn.toNat))))) (fun u9 t9 => zAt D cI cB cZ (va_A (kG cI cB cZ oG Gn Gki Gle Glo Gta Gsh ++ kB cI cB cZ oB (oG 0) Bcnt Bwo Bon Btw Bnu ++ kS cI cB cZ oS (oG 0) Sline Sopn Sbarred Smf Sml Sdep Ser ++ kC cI cB cZ oC (oG 0) Crow Cquiet aCreader (oB 0) aCspare (oS 0) aCbreach aCstreet aCparade aCtrial Crun) sz) (kG cI cB cZ oG Gn Gki Gle Glo Gta Gsh ++ kB cI cB cZ oB (oG 0) Bcnt Bwo Bon Btw Bnu ++ kS cI cB cZ oS (oG 0) (u9.2.1) (u9.2.2.1) (u9.2.2.2.1) (u9.2.2.2.2.1) (u9.2.2.2.2.2.1) (u9.2.2.2.2.2.2.1) (u9.2.2.2.2.2.2.2) ++ kC cI cB cZ oC (oG 0) Crow Cquiet aCreader (oB 0) aCspare (oS 0) aCbreach aCstreet aCparade aCtrial Crun) t9) (va_A (kG cI cB cZ oG Gn Gki Gle Glo Gta Gsh ++ kB cI cB cZ oB (oG 0) Bcnt Bwo Bon Btw Bnu ++ kS cI cB cZ oS (oG 0) Sline Sopn Sbarred Smf Sml Sdep Ser ++ kC cI cB cZ oC (oG 0) Crow Cquiet aCreader (oB 0) aCspare (oS 0) aCbreach aCstreet aCparade aCtrial Crun) sz)) 0 0 (va_A (kG cI cB cZ oG Gn Gki Gle Glo Gta Gsh ++ kB cI cB cZ oB (oG 0) Bcnt Bwo Bon Btw Bnu ++ kS cI cB cZ oS (oG 0) Sline Sopn Sbarred Smf Sml Sdep Ser ++ kC cI cB cZ oC (oG 0) Crow Cquiet aCreader (oB 0) aCspare (oS 0) aCbreach aCstreet aCparade aCtrial Crun) sz) := by
  refine Met.ofW (cc := cX7_rank) (maxL := 2) (ret := (some .int)) (by decide) rfl ?_
  intro pp ee s mm aa bw mt cd s₁ BL hml hv
  obtain ⟨rfl, hsz, hP, hK, hD0⟩ := hv
  have hx := BL.exec
  have hb := BL.bytes
  have hr := BL.returns
  have hts := atoms_spec (ws := wsX7_rank) BL.pre
  have hown : s.vm.findClass RX7 = some mm.cls := findClass_of_methodNamed BL.named
  have hlocks := BL.notSynchronized
  subst hsz
  generalize hAe : va_A (kG cI cB cZ oG Gn Gki Gle Glo Gta Gsh ++ kB cI cB cZ oB (oG 0) Bcnt Bwo Bon Btw Bnu ++ kS cI cB cZ oS (oG 0) Sline Sopn Sbarred Smf Sml Sdep Ser ++ kC cI cB cZ oC (oG 0) Crow Cquiet aCreader (oB 0) aCspare (oS 0) aCbreach aCstreet aCparade aCtrial Crun) s.heap.size = A
  have hA : ∀ q : Nat, s.heap.size ≤ q → A q := fun q h => by rw [← hAe]; exact Or.inr h
  have hw : HW D A s.heap (kG cI cB cZ oG Gn Gki Gle Glo Gta Gsh ++ kB cI cB cZ oB (oG 0) Bcnt Bwo Bon Btw Bnu ++ kS cI cB cZ oS (oG 0) Sline Sopn Sbarred Smf Sml Sdep Ser ++ kC cI cB cZ oC (oG 0) Crow Cquiet aCreader (oB 0) aCspare (oS 0) aCbreach aCstreet aCparade aCtrial Crun) s.heap [] := z_start hAe hP hD0
  clear hP hD0
  have hl := lv_entry ([.ref (oC 0)]) (n := 2) (Nat.le_of_ble_eq_true rfl)
  rw [lg_entry_eq]
  generalize (lg_sl ([.ref (oC 0)]) ++ List.replicate (2 - (lg_sl ([.ref (oC 0)])).length) Slot.unset).toArray = ls at hl ⊢
  have hl : lv_has ls 2 [(0, .ref (oC 0))] := hl
  have hinX5 : ∀ w ∈ wsX50, w ∈ wsX7_rank := by decide +kernel
  have hinX7 : ∀ w ∈ wsX70, w ∈ wsX7_rank := by decide +kernel
  refine lv_aload_n hx hb dX7_rank_0 rfl (lv_at hl 0 rfl) ?_
  refine va_get (D := D) (ci := 7) (v := .ref (oS 0)) (C := RX7) (T := TX7) (N := 12) hx hb hts hinX7 hown hK hw.1 15 rfl rfl 6 (by decide) (hts (.fieldLink RX7 45 "CarnivalRoad" "search" "LCarnivalRoad$Search;") (by decide +kernel)) (fun _ h9 => h9) rfl dX7_rank_1 ?_
  refine lv_aload_n hx hb dX7_rank_4 rfl (lv_at hl 0 rfl) ?_
  refine va_get (D := D) (ci := 7) (v := .ref (oB 0)) (C := RX7) (T := TX7) (N := 12) hx hb hts hinX7 hown hK hw.1 15 rfl rfl 4 (by decide) (hts (.fieldLink RX7 35 "CarnivalRoad" "bars" "LCarnivalRoad$Bars;") (by decide +kernel)) (fun _ h9 => h9) rfl dX7_rank_5 ?_
  have hF9 := z_free (wc := kG cI cB cZ oG Gn Gki Gle Glo Gta Gsh ++ kB cI cB cZ oB (oG 0) Bcnt Bwo Bon Btw Bnu ++ kS cI cB cZ oS (oG 0) Sline Sopn Sbarred Smf Sml Sdep Ser) hw hA [0, 1, 2, 3, 4, 5, 6, 7, 8, 9, 10, 11, 12, 13, 14] rfl
  refine va_callv (va_runV (As := [.ref (oB 0)]) (rest := []) ⟨hx, hb, hml, hown, hts⟩ (c_X5_start l D cI cB cZ oG oB oS s.heap.size Gn Gki Gle Glo Gta Gsh Bcnt Bwo Bon Btw Bnu Sline Sopn Sbarred Smf Sml Sdep Ser (by omega) qGki qGle qGlo qGta qGsh (by omega) qBwo qBon qBtw qBnu qSline qSopn qSbarred (by omega) (by omega) (by omega) (by omega)) (cwV 1 hts gX7_rank_X5_start rfl rfl rfl (by decide +kernel) ⟨Nat.le_of_ble_eq_true rfl, Nat.le_of_ble_eq_true rfl⟩) ⟨zPre_blind, va_recv hK hw.1 (ci := 5) (q0 := 11) rfl rfl, z_pre hK hw [0, 1, 2, 3, 4, 5, 6, 7, 8, 9, 10, 11, 12, 13, 14] (by decide) rfl⟩ rfl rfl hl.1 rfl (lv_room (Nat.le_of_ble_eq_true rfl)) dX7_rank_8 ⟨Nat.zero_le _, Nat.zero_le _⟩) hw.2.2 (fun q _ h => hF9 q h) hF9 (fun u9 t9 H_1 locs9 ht9 hvm9 hq9 hB9 hz9 hk9 hS9 => ?_)
  obtain ⟨Sopn_2, Sbarred_3, Smf_4, Sml_5, Sdep_6, Ser_7⟩ := u9
  try dsimp only at hq9 hB9
  obtain ⟨hq_8, hq_9, hq_10, hq_11, hq_12, hq_13, hq_14⟩ := hq9
  have hw : HW D A s.heap (kG cI cB cZ oG Gn Gki Gle Glo Gta Gsh ++ kB cI cB cZ oB (oG 0) Bcnt Bwo Bon Btw Bnu ++ kS cI cB cZ oS (oG 0) Sline Sopn_2 Sbarred_3 Smf_4 Sml_5 Sdep_6 Ser_7 ++ kC cI cB cZ oC (oG 0) Crow Cquiet aCreader (oB 0) aCspare (oS 0) aCbreach aCstreet aCparade aCtrial Crun) H_1 locs9 := z_after (wc := kG cI cB cZ oG Gn Gki Gle Glo Gta Gsh ++ kB cI cB cZ oB (oG 0) Bcnt Bwo Bon Btw Bnu ++ kS cI cB cZ oS (oG 0) Sline Sopn Sbarred Smf Sml Sdep Ser) hw [0, 1, 2, 3, 4, 5, 6, 7, 8, 9, 10, 11, 12, 13, 14] [15, 16, 17] rfl rfl (by decide) (by decide) hF9 hk9 ht9 hB9 hS9 [3, 4, 5, 6, 7, 8, 9, 10, 11, 12, 13, 14, 15, 16, 17, 0, 1, 2] (by decide) rfl
  clear hF9 ht9 hvm9 hB9 hz9 hk9 hS9
  refine z_iconst hx hb dX7_rank_11 ?_
  refine lv_istore_n (lv' := [(1, .int (zI 0)), (0, .ref (oC 0))]) hx hb dX7_rank_12 rfl hl (by decide) rfl (fun ls hl => ?_)
  have hv_15 : (-1 : Int) ≤ Sdep_6 ∧ Sdep_6 ≤ 7 := by
    first | assumption | omega | grind
  have hv_16 : (0 : Int) ≤ Ser_7 ∧ Ser_7 ≤ 1 := by
    first | assumption | omega | grind
  have hv_17 : 0 ≤ (0 : Int) ∧ (0 : Int) ≤ 40320 := by
    first | assumption | omega | grind
  have hv_18 : srP (okc Gki Glo Gsh Bwo Bon Btw Bnu Bcnt Gn) Gn Sline Sopn_2 Sbarred_3 Smf_4 Sml_5 Sdep_6 Ser_7 (rowsC Gki Glo Gsh Bwo Bon Btw Bnu Bcnt Gn) := by
    first | assumption | omega | grind
  have hv_19 : (rowsC Gki Glo Gsh Bwo Bon Btw Bnu Bcnt Gn).drop (0 : Int).toNat = (rowsC Gki Glo Gsh Bwo Bon Btw Bnu Bcnt Gn) := by
    rfl
  have hv_20 : ∀ j : Nat, j < (0 : Int).toNat → ¬ (rowsC Gki Glo Gsh Bwo Bon Btw Bnu Bcnt Gn)[j]? = some (preL Crow Gn.toNat) := by
    intro j hj; omega
  refine z_loop (σ := Int × (Int → Int) × (Int → Int) × Int × Int × List (List Int)) (μ := fun x9 => (40320 - (x9.1)).toNat) (I := fun x9 H locs ls => (RA (x9.2.1) (0) 7) ∧ (RA (x9.2.2.1) (0) 255) ∧ ((-1 : Int) ≤ (x9.2.2.2.1) ∧ (x9.2.2.2.1) ≤ 7) ∧ ((0 : Int) ≤ (x9.2.2.2.2.1) ∧ (x9.2.2.2.2.1) ≤ 1) ∧ (0 ≤ (x9.1) ∧ (x9.1) ≤ 40320) ∧ (srP (okc Gki Glo Gsh Bwo Bon Btw Bnu Bcnt Gn) Gn (x9.2.1) (x9.2.2.1) Sbarred_3 Smf_4 Sml_5 (x9.2.2.2.1) (x9.2.2.2.2.1) x9.2.2.2.2.2) ∧ ((rowsC Gki Glo Gsh Bwo Bon Btw Bnu Bcnt Gn).drop (x9.1).toNat = x9.2.2.2.2.2) ∧ (∀ j : Nat, j < (x9.1).toNat → ¬ (rowsC Gki Glo Gsh Bwo Bon Btw Bnu Bcnt Gn)[j]? = some (preL Crow Gn.toNat)) ∧ HW D A s.heap (kG cI cB cZ oG Gn Gki Gle Glo Gta Gsh ++ kB cI cB cZ oB (oG 0) Bcnt Bwo Bon Btw Bnu ++ kS cI cB cZ oS (oG 0) (x9.2.1) (x9.2.2.1) Sbarred_3 Smf_4 Sml_5 (x9.2.2.2.1) (x9.2.2.2.2.1) ++ kC cI cB cZ oC (oG 0) Crow Cquiet aCreader (oB 0) aCspare (oS 0) aCbreach aCstreet aCparade aCtrial Crun) H locs ∧ lv_has ls 2 [(0, .ref (oC 0)), (1, .int (zI (x9.1)))]) (0, Sline, Sopn_2, Sdep_6, Ser_7, (rowsC Gki Glo Gsh Bwo Bon Btw Bnu Bcnt Gn)) ⟨qSline, hq_8, hv_15, hv_16, hv_17, hv_18, hv_19, hv_20, hw, lv_sub hl [1, 0] rfl⟩ ?_
  clear hw hl
  intro x9 H locs ls hI ih_21
  obtain ⟨i_22, Sline_23, Sopn_24, Sdep_25, Ser_26, R_27⟩ := x9
  try dsimp only at hI
  obtain ⟨hR_28, hR_29, hq_30, hq_31, hI_32, hI_33, hI_34, hI_35, hw, hl⟩ := hI
  refine lv_iload_n hx hb dX7_rank_13 rfl (lv_at hl 1 rfl) ?_
  refine lv_ldc (v := zI 40320) hx hb hown (hts (.constant RX7 146 (40320)) (by decide +kernel)) dX7_rank_14 ?_
  refine z_icmp_ge (tgt := 51) hx hb dX7_rank_16 (by decide) (by omega) (fun hc_36 => ?_) (fun hc_36 => ?_)
  · skip
    refine z_iconst hx hb dX7_rank_51 ?_
    have hv_37 : (0 : Int) ≤ Smf_4 ∧ Smf_4 ≤ 255 := by
      first | assumption | omega | grind
    have hv_38 : (0 : Int) ≤ Sml_5 ∧ Sml_5 ≤ 255 := by
      first | assumption | omega | grind
    have hv_39 : (-1 : Int) ≤ Sdep_25 ∧ Sdep_25 ≤ 7 := by
      first | assumption | omega | grind
    have hv_40 : (0 : Int) ≤ Ser_26 ∧ Ser_26 ≤ 1 := by
      first | assumption | omega | grind
    have hv_41 : (0 ≤ ((-1) : Int) ∧ (rowsC Gki Glo Gsh Bwo Bon Btw Bnu Bcnt Gn)[((-1) : Int).toNat]? = some (preL Crow Gn.toNat) ∧ ∀ j : Nat, j < ((-1) : Int).toNat → ¬ (rowsC Gki Glo Gsh Bwo Bon Btw Bnu Bcnt Gn)[j]? = some (preL Crow Gn.toNat)) ∨ (((-1) : Int) = -1 ∧ ∀ j : Nat, ¬ (rowsC Gki Glo Gsh Bwo Bon Btw Bnu Bcnt Gn)[j]? = some (preL Crow Gn.toNat)) := by
      refine Or.inr ⟨rfl, fun j => ?_⟩
      by_cases e : j < i_22.toNat
      · exact (by assumption : ∀ j : Nat, j < i_22.toNat → ¬ (rowsC Gki Glo Gsh Bwo Bon Btw Bnu Bcnt Gn)[j]? = some (preL Crow Gn.toNat)) j e
      · rw [List.getElem?_eq_none]
        · intro z; cases z
        · have q9 := congrArg List.length (by assumption : (rowsC Gki Glo Gsh Bwo Bon Btw Bnu Bcnt Gn).drop i_22.toNat = R_27)
          rw [List.length_drop] at q9
          first | omega | (rw [hr9, List.length_nil] at q9; omega)
    exact W.iret (v := zI (-1)) hx hb hr (fun t9 ht hW => ⟨⟨zI (-1), ((-1), Sline_23, Sopn_24, Sbarred_3, Smf_4, Sml_5, Sdep_25, Ser_26), rfl, ⟨rfl, ⟨hR_28, hR_29, hq_9, hv_37, hv_38, hv_39, hv_40, hv_41⟩⟩, by subst hAe; exact z_end hK hw ht hW⟩, by subst hAe; exact hw.2.2.F ht⟩) (by subst hAe; exact hw.2.2.2.2) dX7_rank_52
  · skip
    refine lv_aload_n hx hb dX7_rank_19 rfl (lv_at hl 0 rfl) ?_
    refine va_get (D := D) (ci := 7) (v := .ref (oS 0)) (C := RX7) (T := TX7) (N := 12) hx hb hts hinX7 hown hK hw.1 15 rfl rfl 6 (by decide) (hts (.fieldLink RX7 45 "CarnivalRoad" "search" "LCarnivalRoad$Search;") (by decide +kernel)) (fun _ h9 => h9) rfl dX7_rank_20 ?_
    have hpre_42 : srP (okc Gki Glo Gsh Bwo Bon Btw Bnu Bcnt Gn) Gn Sline_23 Sopn_24 Sbarred_3 Smf_4 Sml_5 Sdep_25 Ser_26 R_27 := by
      first | assumption | omega | grind
    have hF9 := z_free (wc := kG cI cB cZ oG Gn Gki Gle Glo Gta Gsh ++ kS cI cB cZ oS (oG 0) Sline_23 Sopn_24 Sbarred_3 Smf_4 Sml_5 Sdep_25 Ser_26) hw hA [0, 1, 2, 3, 4, 5, 11, 12, 13, 14] rfl
    refine va_calli (va_runV (As := []) (rest := []) ⟨hx, hb, hml, hown, hts⟩ (c_X5_findNext l D cI cB cZ oG oS H.size Gn Gki Gle Glo Gta Gsh Sline_23 Sopn_24 Sbarred_3 Smf_4 Sml_5 Sdep_25 Ser_26 (okc Gki Glo Gsh Bwo Bon Btw Bnu Bcnt Gn) R_27 (by omega) qGki qGle qGlo qGta qGsh hR_28 hR_29 hq_9 (by omega) (by omega) (by omega) (by omega) hpre_42) (cwV 0 hts gX7_rank_X5_findNext rfl rfl rfl (by decide +kernel) ⟨Nat.le_of_ble_eq_true rfl, Nat.le_of_ble_eq_true rfl⟩) ⟨zPre_blind, va_recv hK hw.1 (ci := 5) (q0 := 11) rfl rfl, z_pre hK hw [0, 1, 2, 3, 4, 5, 11, 12, 13, 14] (by decide) rfl⟩ rfl rfl hl.1 rfl (lv_room (Nat.le_of_ble_eq_true rfl)) dX7_rank_23 ⟨Nat.zero_le _, Nat.zero_le _⟩) hw.2.2 (fun q _ h => hF9 q h) hF9 (fun r9 u9 t9 H_43 locs9 ht9 hvm9 hq9 hB9 hz9 hk9 hS9 => ?_)
    obtain ⟨r_44, Sline_45, Sopn_46, Sdep_47, Ser_48⟩ := u9
    try dsimp only at hq9 hB9
    obtain ⟨rfl, hq9⟩ := hq9
    obtain ⟨hq_49, hq_50, hq_51, hq_52, hq_53⟩ := hq9
    have hw : HW D A s.heap (kG cI cB cZ oG Gn Gki Gle Glo Gta Gsh ++ kB cI cB cZ oB (oG 0) Bcnt Bwo Bon Btw Bnu ++ kS cI cB cZ oS (oG 0) Sline_45 Sopn_46 Sbarred_3 Smf_4 Sml_5 Sdep_47 Ser_48 ++ kC cI cB cZ oC (oG 0) Crow Cquiet aCreader (oB 0) aCspare (oS 0) aCbreach aCstreet aCparade aCtrial Crun) H_43 locs9 := z_after (wc := kG cI cB cZ oG Gn Gki Gle Glo Gta Gsh ++ kS cI cB cZ oS (oG 0) Sline_23 Sopn_24 Sbarred_3 Smf_4 Sml_5 Sdep_25 Ser_26) hw [0, 1, 2, 3, 4, 5, 11, 12, 13, 14] [6, 7, 8, 9, 10, 15, 16, 17] rfl rfl (by decide) (by decide) hF9 hk9 ht9 hB9 hS9 [8, 9, 10, 11, 12, 13, 0, 1, 2, 3, 4, 14, 15, 16, 17, 5, 6, 7] (by decide) rfl
    clear hF9 ht9 hvm9 hB9 hz9 hk9 hS9
    obtain ⟨R9, hs9, hr9⟩ := hq_53
    rcases hr9 with ⟨rfl, hr9⟩ | ⟨rfl, hr9, hr8⟩
    · skip
      refine z_if_eq (tgt := 51) hx hb dX7_rank_26 (by decide) (by omega) (fun hc_54 => absurd hc_54 (by omega)) (fun hc_54 => ?_)
      refine lv_aload_n hx hb dX7_rank_29 rfl (lv_at hl 0 rfl) ?_
      refine lv_aload_n hx hb dX7_rank_30 rfl (lv_at hl 0 rfl) ?_
      refine va_get (D := D) (ci := 7) (v := .ref (oS 0)) (C := RX7) (T := TX7) (N := 12) hx hb hts hinX7 hown hK hw.1 15 rfl rfl 6 (by decide) (hts (.fieldLink RX7 45 "CarnivalRoad" "search" "LCarnivalRoad$Search;") (by decide +kernel)) (fun _ h9 => h9) rfl dX7_rank_31 ?_
      refine va_get (D := D) (ci := 5) (v := .ref (oS 1)) (C := RX5) (T := TX5) (N := 8) hx hb hts hinX5 hown hK hw.1 11 rfl rfl 1 (by decide) (hts (.fieldLink RX7 150 "CarnivalRoad$Search" "line" "[I") (by decide +kernel)) (fun _ h9 => h9) rfl dX7_rank_34 ?_
      have hF9 := z_free (wc := kG cI cB cZ oG Gn Gki Gle Glo Gta Gsh ++ [(oS 1, .inl (cI, 8, .inl (zA Sline_45)))] ++ kC cI cB cZ oC (oG 0) Crow Cquiet aCreader (oB 0) aCspare (oS 0) aCbreach aCstreet aCparade aCtrial Crun) hw hA [0, 1, 2, 3, 4, 5, 12, 15, 16, 17] rfl
      refine va_calli (va_runV (As := [.ref (oS 1)]) (rest := []) ⟨hx, hb, hml, hown, hts⟩ (c_X7_isRow l D cI cB cZ oG (oS 1) oC aCreader (oB 0) aCspare (oS 0) aCbreach aCstreet aCparade aCtrial H_43.size Gn Gki Gle Glo Gta Gsh Sline_45 Crow Cquiet Crun (by omega) qGki qGle qGlo qGta qGsh hq_49 qCrow qCquiet (by omega)) (cwV 1 hts gX7_rank_X7_isRow rfl rfl rfl (by decide +kernel) ⟨Nat.le_of_ble_eq_true rfl, Nat.le_of_ble_eq_true rfl⟩) ⟨zPre_blind, va_recv hK hw.1 (ci := 7) (q0 := 15) rfl rfl, z_pre hK hw [0, 1, 2, 3, 4, 5, 12, 15, 16, 17] (by decide) rfl⟩ rfl rfl hl.1 rfl (lv_room (Nat.le_of_ble_eq_true rfl)) dX7_rank_37 ⟨Nat.zero_le _, Nat.zero_le _⟩) hw.2.2 (fun q _ h => hF9 q h) hF9 (fun r9 u9 t9 H_55 locs9 ht9 hvm9 hq9 hB9 hz9 hk9 hS9 => ?_)
      obtain ⟨r_56, rfl⟩ : ∃ z, z = u9 := ⟨_, rfl⟩
      try dsimp only at hq9 hB9
      obtain ⟨rfl, hq9⟩ := hq9
      have hq_57 := hq9
      have hw : HW D A s.heap (kG cI cB cZ oG Gn Gki Gle Glo Gta Gsh ++ kB cI cB cZ oB (oG 0) Bcnt Bwo Bon Btw Bnu ++ kS cI cB cZ oS (oG 0) Sline_45 Sopn_46 Sbarred_3 Smf_4 Sml_5 Sdep_47 Ser_48 ++ kC cI cB cZ oC (oG 0) Crow Cquiet aCreader (oB 0) aCspare (oS 0) aCbreach aCstreet aCparade aCtrial Crun) H_55 locs9 := z_after (wc := kG cI cB cZ oG Gn Gki Gle Glo Gta Gsh ++ [(oS 1, .inl (cI, 8, .inl (zA Sline_45)))] ++ kC cI cB cZ oC (oG 0) Crow Cquiet aCreader (oB 0) aCspare (oS 0) aCbreach aCstreet aCparade aCtrial Crun) hw [0, 1, 2, 3, 4, 5, 12, 15, 16, 17] [6, 7, 8, 9, 10, 11, 13, 14] rfl rfl (by decide) (by decide) hF9 hk9 ht9 hB9 hS9 [8, 9, 10, 11, 12, 13, 0, 1, 2, 3, 4, 5, 14, 6, 7, 15, 16, 17] (by decide) rfl
      clear hF9 ht9 hvm9 hB9 hz9 hk9 hS9 hq9
      rcases hq_57 with ⟨hc_58, rfl⟩ | ⟨hc_58, rfl⟩
      · skip
        refine z_if_eq (tgt := 45) hx hb dX7_rank_40 (by decide) (by omega) (fun hc_59 => absurd hc_59 (by omega)) (fun hc_59 => ?_)
        refine lv_iload_n hx hb dX7_rank_43 rfl (lv_at hl 1 rfl) ?_
        have hv_60 : (0 : Int) ≤ Smf_4 ∧ Smf_4 ≤ 255 := by
          first | assumption | omega | grind
        have hv_61 : (0 : Int) ≤ Sml_5 ∧ Sml_5 ≤ 255 := by
          first | assumption | omega | grind
        have hv_62 : (-1 : Int) ≤ Sdep_47 ∧ Sdep_47 ≤ 7 := by
          first | assumption | omega | grind
        have hv_63 : (0 : Int) ≤ Ser_48 ∧ Ser_48 ≤ 1 := by
          first | assumption | omega | grind
        have hv_64 : (0 ≤ i_22 ∧ (rowsC Gki Glo Gsh Bwo Bon Btw Bnu Bcnt Gn)[i_22.toNat]? = some (preL Crow Gn.toNat) ∧ ∀ j : Nat, j < i_22.toNat → ¬ (rowsC Gki Glo Gsh Bwo Bon Btw Bnu Bcnt Gn)[j]? = some (preL Crow Gn.toNat)) ∨ (i_22 = -1 ∧ ∀ j : Nat, ¬ (rowsC Gki Glo Gsh Bwo Bon Btw Bnu Bcnt Gn)[j]? = some (preL Crow Gn.toNat)) := by
          have q9 := drop_cons ((by assumption : (rowsC Gki Glo Gsh Bwo Bon Btw Bnu Bcnt Gn).drop i_22.toNat = R_27).trans hr9)
          refine Or.inl ⟨by omega, ?_, by assumption⟩
          rw [q9.2]; congr 1
        exact W.iret (v := zI i_22) hx hb hr (fun t9 ht hW => ⟨⟨zI i_22, (i_22, Sline_45, Sopn_46, Sbarred_3, Smf_4, Sml_5, Sdep_47, Ser_48), rfl, ⟨rfl, ⟨hq_49, hq_50, hq_9, hv_60, hv_61, hv_62, hv_63, hv_64⟩⟩, by subst hAe; exact z_end hK hw ht hW⟩, by subst hAe; exact hw.2.2.F ht⟩) (by subst hAe; exact hw.2.2.2.2) dX7_rank_44
      · skip
        refine z_if_eq (tgt := 45) hx hb dX7_rank_40 (by decide) (by omega) (fun hc_65 => ?_) (fun hc_65 => absurd hc_65 (by omega))
        refine z_iinc (k := 1) (lv' := [(1, .int (zI (i_22 + 1))), (0, .ref (oC 0))]) hx hb dX7_rank_45 hl rfl (by decide) rfl (fun ls hl => ?_)
        refine lv_goto (tgt := 13) hx hb dX7_rank_48 (by decide) ?_
        have hv_66 : (-1 : Int) ≤ Sdep_47 ∧ Sdep_47 ≤ 7 := by
          first | assumption | omega | grind
        have hv_67 : (0 : Int) ≤ Ser_48 ∧ Ser_48 ≤ 1 := by
          first | assumption | omega | grind
        have hv_68 : 0 ≤ (i_22 + 1) ∧ (i_22 + 1) ≤ 40320 := by
          first | assumption | omega | grind
        have hv_69 : srP (okc Gki Glo Gsh Bwo Bon Btw Bnu Bcnt Gn) Gn Sline_45 Sopn_46 Sbarred_3 Smf_4 Sml_5 Sdep_47 Ser_48 R9 := by
          exact hs9
        have hv_70 : (rowsC Gki Glo Gsh Bwo Bon Btw Bnu Bcnt Gn).drop (i_22 + 1).toNat = R9 := by
          have q9 := drop_cons ((by assumption : (rowsC Gki Glo Gsh Bwo Bon Btw Bnu Bcnt Gn).drop i_22.toNat = R_27).trans hr9)
          rw [show (i_22 + 1).toNat = i_22.toNat + 1 by omega]
          exact q9.1
        have hv_71 : ∀ j : Nat, j < (i_22 + 1).toNat → ¬ (rowsC Gki Glo Gsh Bwo Bon Btw Bnu Bcnt Gn)[j]? = some (preL Crow Gn.toNat) := by
          have q9 := drop_cons ((by assumption : (rowsC Gki Glo Gsh Bwo Bon Btw Bnu Bcnt Gn).drop i_22.toNat = R_27).trans hr9)
          intro j hj
          by_cases e : j = i_22.toNat
          · rw [e, q9.2]; intro z; injection z with z; contradiction
          · exact (by assumption : ∀ j : Nat, j < i_22.toNat → ¬ (rowsC Gki Glo Gsh Bwo Bon Btw Bnu Bcnt Gn)[j]? = some (preL Crow Gn.toNat)) j (by omega)
        have hm_72 : (40320 - (i_22 + 1)).toNat < (40320 - i_22).toNat := by
          first | assumption | omega | grind
        exact ih_21 ((i_22 + 1), Sline_45, Sopn_46, Sdep_47, Ser_48, R9) _ _ _ ⟨hq_49, hq_50, hv_66, hv_67, hv_68, hv_69, hv_70, hv_71, hw, lv_sub hl [1, 0] rfl⟩ hm_72
    · skip
      refine z_if_eq (tgt := 51) hx hb dX7_rank_26 (by decide) (by omega) (fun hc_73 => ?_) (fun hc_73 => absurd hc_73 (by omega))
      refine z_iconst hx hb dX7_rank_51 ?_
      have hv_74 : (0 : Int) ≤ Smf_4 ∧ Smf_4 ≤ 255 := by
        first | assumption | omega | grind
      have hv_75 : (0 : Int) ≤ Sml_5 ∧ Sml_5 ≤ 255 := by
        first | assumption | omega | grind
      have hv_76 : (-1 : Int) ≤ Sdep_47 ∧ Sdep_47 ≤ 7 := by
        first | assumption | omega | grind
      have hv_77 : (0 : Int) ≤ Ser_48 ∧ Ser_48 ≤ 1 := by
        first | assumption | omega | grind
      have hv_78 : (0 ≤ ((-1) : Int) ∧ (rowsC Gki Glo Gsh Bwo Bon Btw Bnu Bcnt Gn)[((-1) : Int).toNat]? = some (preL Crow Gn.toNat) ∧ ∀ j : Nat, j < ((-1) : Int).toNat → ¬ (rowsC Gki Glo Gsh Bwo Bon Btw Bnu Bcnt Gn)[j]? = some (preL Crow Gn.toNat)) ∨ (((-1) : Int) = -1 ∧ ∀ j : Nat, ¬ (rowsC Gki Glo Gsh Bwo Bon Btw Bnu Bcnt Gn)[j]? = some (preL Crow Gn.toNat)) := by
        refine Or.inr ⟨rfl, fun j => ?_⟩
        by_cases e : j < i_22.toNat
        · exact (by assumption : ∀ j : Nat, j < i_22.toNat → ¬ (rowsC Gki Glo Gsh Bwo Bon Btw Bnu Bcnt Gn)[j]? = some (preL Crow Gn.toNat)) j e
        · rw [List.getElem?_eq_none]
          · intro z; cases z
          · have q9 := congrArg List.length (by assumption : (rowsC Gki Glo Gsh Bwo Bon Btw Bnu Bcnt Gn).drop i_22.toNat = R_27)
            rw [List.length_drop] at q9
            first | omega | (rw [hr9, List.length_nil] at q9; omega)
      exact W.iret (v := zI (-1)) hx hb hr (fun t9 ht hW => ⟨⟨zI (-1), ((-1), Sline_45, Sopn_46, Sbarred_3, Smf_4, Sml_5, Sdep_47, Ser_48), rfl, ⟨rfl, ⟨hq_49, hq_50, hq_9, hv_74, hv_75, hv_76, hv_77, hv_78⟩⟩, by subst hAe; exact z_end hK hw ht hW⟩, by subst hAe; exact hw.2.2.F ht⟩) (by subst hAe; exact hw.2.2.2.2) dX7_rank_52
set_option maxRecDepth 100000 in
set_option maxHeartbeats 4000000 in
theorem c_X7_best (l : Launch) (D : va_G) (cI cB cZ : ClassId) (oG : Nat → Nat) (oB : Nat → Nat) (oS : Nat → Nat) (oC : Nat → Nat) (aCreader : Nat) (aCspare : Nat) (aCbreach : Nat) (aCstreet : Nat) (aCparade : Nat) (aCtrial : Nat) (sz : Nat) (Gn : Int) (Gki : Int → Int) (Gle : Int → Int) (Glo : Int → Int) (Gta : Int → Int) (Gsh : Int → Int) (Bcnt : Int) (Bwo : Int → Int) (Bon : Int → Int) (Btw : Int → Int) (Bnu : Int → Int) (Sline : Int → Int) (Sopn : Int → Int) (Sbarred : Int → Int) (Smf : Int) (Sml : Int) (Sdep : Int) (Ser : Int) (Crow : Int → Int) (Cquiet : Int → Int) (Crun : Int) (qGn : 0 ≤ Gn ∧ Gn ≤ 8) (qGki : RA Gki (0) 4) (qGle : RA Gle (0) 5) (qGlo : RA Glo (0) 9) (qGta : RA Gta (0) 9) (qGsh : RA Gsh (0) 9) (qBcnt : 0 ≤ Bcnt ∧ Bcnt ≤ 10) (qBwo : RA Bwo (0) 11) (qBon : RA Bon (0) 12) (qBtw : RA Btw (0) 12) (qBnu : RA Bnu (0) 18) (qSline : RA Sline (0) 7) (qSopn : RA Sopn (0) 255) (qSbarred : RA Sbarred (0) 255) (qSmf : 0 ≤ Smf ∧ Smf ≤ 255) (qSml : 0 ≤ Sml ∧ Sml ≤ 255) (qSdep : -1 ≤ Sdep ∧ Sdep ≤ 7) (qSer : 0 ≤ Ser ∧ Ser ≤ 1) (qCrow : RA Crow (0) 7) (qCquiet : RA Cquiet (0) 7) (qCrun : 0 ≤ Crun ∧ Crun ≤ 1) (hp0 : (rowsC Gki Glo Gsh Bwo Bon Btw Bnu Bcnt Gn).length ≤ 40320) : Met l yX7_best wsX7_best ({ frames := 5, cells := 0, slots := 0, locals := 118 }) (va_Pc [.ref (oC 0)] (zPre D cI cB cZ sz (kG cI cB cZ oG Gn Gki Gle Glo Gta Gsh ++ kB cI cB cZ oB (oG 0) Bcnt Bwo Bon Btw Bnu ++ kS cI cB cZ oS (oG 0) Sline Sopn Sbarred Smf Sml Sdep Ser ++ kC cI cB cZ oC (oG 0) Crow Cquiet aCreader (oB 0) aCspare (oS 0) aCbreach aCstreet aCparade aCtrial Crun))) (va_Qi (fun (r9 : Int32) (u9 : Int × (Int → Int) × (Int → Int) × (Int → Int) × Int × Int × Int × Int × (Int → Int) × (Int → Int) × Int) => r9 = zI u9.1 ∧ ((RA u9.2.1 (0) 7) ∧ (RA u9.2.2.1 (0) 255) ∧ (RA u9.2.2.2.1 (0) 255) ∧ ((0 : Int) ≤ u9.2.2.2.2.1 ∧ u9.2.2.2.2.1 ≤ 255) ∧ ((0 : Int) ≤ u9.2.2.2.2.2.1 ∧ u9.2.2.2.2.2.1 ≤ 255) ∧ ((-1 : Int) ≤ u9.2.2.2.2.2.2.1 ∧ u9.2.2.2.2.2.2.1 ≤ 7) ∧ ((0 : Int) ≤ u9.2.2.2.2.2.2.2.1 ∧ u9.2.2.2.2.2.2.2.1 ≤ 1) ∧ (RA u9.2.2.2.2.2.2.2.2.1 (0) 7) ∧ (RA u9.2.2.2.2.2.2.2.2.2.1 (0) 7) ∧ ((0 : Int) ≤ u9.2.2.2.2.2.2.2.2.2.2 ∧ u9.2.2.2.2.2.2.2.2.2.2 ≤ 1) ∧ (u9.1 = (bestK (noiL Glo Gn) (-1, []) (rowsC Gki Glo Gsh Bwo Bon Btw Bnu Bcnt Gn)).1) ∧ ((u9.1 = -1 ∧ u9.2.2.2.2.2.2.2.2.1 = Crow ∧ u9.2.2.2.2.2.2.2.2.2.2 = Crun) ∨ (¬ u9.1 = -1 ∧ preL u9.2.2.2.2.2.2.2.2.1 Gn.toNat = (bestK (noiL Glo Gn) (-1, []) (rowsC Gki Glo Gsh Bwo Bon Btw Bnu Bcnt Gn)).2 ∧ u9.2.2.2.2.2.2.2.2.2.2 = 0)))) (fun u9 t9 => zAt D cI cB cZ (va_A (kG cI cB cZ oG Gn Gki Gle Glo Gta Gsh ++ kB cI cB cZ oB (oG 0) Bcnt Bwo Bon Btw Bnu ++ kS cI cB cZ oS (oG 0) Sline Sopn Sbarred Smf Sml Sdep Ser ++ kC cI cB cZ oC (oG 0) Crow Cquiet aCreader (oB 0) aCspare (oS 0) aCbreach aCstreet aCparade aCtrial Crun) sz) (kG cI cB cZ oG Gn Gki Gle Glo Gta Gsh ++ kB cI cB cZ oB (oG 0) Bcnt Bwo Bon Btw Bnu ++ kS cI cB cZ oS (oG 0) (u9.2.1) (u9.2.2.1) (u9.2.2.2.1) (u9.2.2.2.2.1) (u9.2.2.2.2.2.1) (u9.2.2.2.2.2.2.1) (u9.2.2.2.2.2.2.2.1) ++ kC cI cB cZ oC (oG 0) (u9.2.2.2.2.2.2.2.2.1) (u9.2.2.2.2.2.2.2.2.2.1) aCreader (oB 0) aCspare (oS 0) aCbreach aCstreet aCparade aCtrial (u9.2.2.2.2.2.2.2.2.2.2)) t9) (va_A (kG cI cB cZ oG Gn Gki Gle Glo Gta Gsh ++ kB cI cB cZ oB (oG 0) Bcnt Bwo Bon Btw Bnu ++ kS cI cB cZ oS (oG 0) Sline Sopn Sbarred Smf Sml Sdep Ser ++ kC cI cB cZ oC (oG 0) Crow Cquiet aCreader (oB 0) aCspare (oS 0) aCbreach aCstreet aCparade aCtrial Crun) sz)) 0 0 (va_A (kG cI cB cZ oG Gn Gki Gle Glo Gta Gsh ++ kB cI cB cZ oB (oG 0) Bcnt Bwo Bon Btw Bnu ++ kS cI cB cZ oS (oG 0) Sline Sopn Sbarred Smf Sml Sdep Ser ++ kC cI cB cZ oC (oG 0) Crow Cquiet aCreader (oB 0) aCspare (oS 0) aCbreach aCstreet aCparade aCtrial Crun) sz) := by
  refine Met.ofW (cc := cX7_best) (maxL := 4) (ret := (some .int)) (by decide) rfl ?_
  intro pp ee s mm aa bw mt cd s₁ BL hml hv
  obtain ⟨rfl, hsz, hP, hK, hD0⟩ := hv
  have hx := BL.exec
  have hb := BL.bytes
  have hr := BL.returns
  have hts := atoms_spec (ws := wsX7_best) BL.pre
  have hown : s.vm.findClass RX7 = some mm.cls := findClass_of_methodNamed BL.named
  have hlocks := BL.notSynchronized
  subst hsz
  generalize hAe : va_A (kG cI cB cZ oG Gn Gki Gle Glo Gta Gsh ++ kB cI cB cZ oB (oG 0) Bcnt Bwo Bon Btw Bnu ++ kS cI cB cZ oS (oG 0) Sline Sopn Sbarred Smf Sml Sdep Ser ++ kC cI cB cZ oC (oG 0) Crow Cquiet aCreader (oB 0) aCspare (oS 0) aCbreach aCstreet aCparade aCtrial Crun) s.heap.size = A
  have hA : ∀ q : Nat, s.heap.size ≤ q → A q := fun q h => by rw [← hAe]; exact Or.inr h
  have hw : HW D A s.heap (kG cI cB cZ oG Gn Gki Gle Glo Gta Gsh ++ kB cI cB cZ oB (oG 0) Bcnt Bwo Bon Btw Bnu ++ kS cI cB cZ oS (oG 0) Sline Sopn Sbarred Smf Sml Sdep Ser ++ kC cI cB cZ oC (oG 0) Crow Cquiet aCreader (oB 0) aCspare (oS 0) aCbreach aCstreet aCparade aCtrial Crun) s.heap [] := z_start hAe hP hD0
  clear hP hD0
  have hl := lv_entry ([.ref (oC 0)]) (n := 4) (Nat.le_of_ble_eq_true rfl)
  rw [lg_entry_eq]
  generalize (lg_sl ([.ref (oC 0)]) ++ List.replicate (4 - (lg_sl ([.ref (oC 0)])).length) Slot.unset).toArray = ls at hl ⊢
  have hl : lv_has ls 4 [(0, .ref (oC 0))] := hl
  have hinX5 : ∀ w ∈ wsX50, w ∈ wsX7_best := by decide +kernel
  have hinX7 : ∀ w ∈ wsX70, w ∈ wsX7_best := by decide +kernel
  refine lv_aload_n hx hb dX7_best_0 rfl (lv_at hl 0 rfl) ?_
  refine va_get (D := D) (ci := 7) (v := .ref (oS 0)) (C := RX7) (T := TX7) (N := 12) hx hb hts hinX7 hown hK hw.1 15 rfl rfl 6 (by decide) (hts (.fieldLink RX7 45 "CarnivalRoad" "search" "LCarnivalRoad$Search;") (by decide +kernel)) (fun _ h9 => h9) rfl dX7_best_1 ?_
  refine lv_aload_n hx hb dX7_best_4 rfl (lv_at hl 0 rfl) ?_
  refine va_get (D := D) (ci := 7) (v := .ref (oB 0)) (C := RX7) (T := TX7) (N := 12) hx hb hts hinX7 hown hK hw.1 15 rfl rfl 4 (by decide) (hts (.fieldLink RX7 35 "CarnivalRoad" "bars" "LCarnivalRoad$Bars;") (by decide +kernel)) (fun _ h9 => h9) rfl dX7_best_5 ?_
  have hF9 := z_free (wc := kG cI cB cZ oG Gn Gki Gle Glo Gta Gsh ++ kB cI cB cZ oB (oG 0) Bcnt Bwo Bon Btw Bnu ++ kS cI cB cZ oS (oG 0) Sline Sopn Sbarred Smf Sml Sdep Ser) hw hA [0, 1, 2, 3, 4, 5, 6, 7, 8, 9, 10, 11, 12, 13, 14] rfl
  refine va_callv (va_runV (As := [.ref (oB 0)]) (rest := []) ⟨hx, hb, hml, hown, hts⟩ (c_X5_start l D cI cB cZ oG oB oS s.heap.size Gn Gki Gle Glo Gta Gsh Bcnt Bwo Bon Btw Bnu Sline Sopn Sbarred Smf Sml Sdep Ser (by omega) qGki qGle qGlo qGta qGsh (by omega) qBwo qBon qBtw qBnu qSline qSopn qSbarred (by omega) (by omega) (by omega) (by omega)) (cwV 1 hts gX7_best_X5_start rfl rfl rfl (by decide +kernel) ⟨Nat.le_of_ble_eq_true rfl, Nat.le_of_ble_eq_true rfl⟩) ⟨zPre_blind, va_recv hK hw.1 (ci := 5) (q0 := 11) rfl rfl, z_pre hK hw [0, 1, 2, 3, 4, 5, 6, 7, 8, 9, 10, 11, 12, 13, 14] (by decide) rfl⟩ rfl rfl hl.1 rfl (lv_room (Nat.le_of_ble_eq_true rfl)) dX7_best_8 ⟨Nat.zero_le _, Nat.zero_le _⟩) hw.2.2 (fun q _ h => hF9 q h) hF9 (fun u9 t9 H_1 locs9 ht9 hvm9 hq9 hB9 hz9 hk9 hS9 => ?_)
  obtain ⟨Sopn_2, Sbarred_3, Smf_4, Sml_5, Sdep_6, Ser_7⟩ := u9
  try dsimp only at hq9 hB9
  obtain ⟨hq_8, hq_9, hq_10, hq_11, hq_12, hq_13, hq_14⟩ := hq9
  have hw : HW D A s.heap (kG cI cB cZ oG Gn Gki Gle Glo Gta Gsh ++ kB cI cB cZ oB (oG 0) Bcnt Bwo Bon Btw Bnu ++ kS cI cB cZ oS (oG 0) Sline Sopn_2 Sbarred_3 Smf_4 Sml_5 Sdep_6 Ser_7 ++ kC cI cB cZ oC (oG 0) Crow Cquiet aCreader (oB 0) aCspare (oS 0) aCbreach aCstreet aCparade aCtrial Crun) H_1 locs9 := z_after (wc := kG cI cB cZ oG Gn Gki Gle Glo Gta Gsh ++ kB cI cB cZ oB (oG 0) Bcnt Bwo Bon Btw Bnu ++ kS cI cB cZ oS (oG 0) Sline Sopn Sbarred Smf Sml Sdep Ser) hw [0, 1, 2, 3, 4, 5, 6, 7, 8, 9, 10, 11, 12, 13, 14] [15, 16, 17] rfl rfl (by decide) (by decide) hF9 hk9 ht9 hB9 hS9 [3, 4, 5, 6, 7, 8, 9, 10, 11, 12, 13, 14, 15, 16, 17, 0, 1, 2] (by decide) rfl
  clear hF9 ht9 hvm9 hB9 hz9 hk9 hS9
  refine z_iconst hx hb dX7_best_11 ?_
  refine lv_istore_n (lv' := [(1, .int (zI (-1))), (0, .ref (oC 0))]) hx hb dX7_best_12 rfl hl (by decide) rfl (fun ls hl => ?_)
  refine z_iconst hx hb dX7_best_13 ?_
  refine lv_istore_n (lv' := [(2, .int (zI 0)), (1, .int (zI (-1))), (0, .ref (oC 0))]) hx hb dX7_best_14 rfl hl (by decide) rfl (fun ls hl => ?_)
  have hv_15 : (-1 : Int) ≤ Sdep_6 ∧ Sdep_6 ≤ 7 := by
    first | assumption | omega | grind
  have hv_16 : (0 : Int) ≤ Ser_7 ∧ Ser_7 ≤ 1 := by
    first | assumption | omega | grind
  have hv_17 : 0 ≤ (0 : Int) ∧ (0 : Int) ≤ 40320 := by
    first | assumption | omega | grind
  have hv_18 : srP (okc Gki Glo Gsh Bwo Bon Btw Bnu Bcnt Gn) Gn Sline Sopn_2 Sbarred_3 Smf_4 Sml_5 Sdep_6 Ser_7 (rowsC Gki Glo Gsh Bwo Bon Btw Bnu Bcnt Gn) := by
    first | assumption | omega | grind
  have hv_19 : (0 : Int) + ((rowsC Gki Glo Gsh Bwo Bon Btw Bnu Bcnt Gn).length : Int) = ((rowsC Gki Glo Gsh Bwo Bon Btw Bnu Bcnt Gn).length : Int) := by
    show (0 : Int) + _ = _
    omega
  have hv_20 : -1 ≤ ((-1) : Int) ∧ ((-1) : Int) ≤ 1000 := by
    first | assumption | omega | grind
  have hv_21 : ∃ bl, ((((-1) : Int) = -1 ∧ bl = []) ∨ (¬ ((-1) : Int) = -1 ∧ bl = preL Cquiet Gn.toNat)) ∧ bestK (noiL Glo Gn) (((-1) : Int), bl) (rowsC Gki Glo Gsh Bwo Bon Btw Bnu Bcnt Gn) = bestK (noiL Glo Gn) (-1, []) (rowsC Gki Glo Gsh Bwo Bon Btw Bnu Bcnt Gn) := by
    exact ⟨[], Or.inl ⟨rfl, rfl⟩, rfl⟩
  refine z_loop (σ := Int × Int × (Int → Int) × (Int → Int) × Int × Int × (Int → Int) × List (List Int)) (μ := fun x9 => x9.2.2.2.2.2.2.2.length) (I := fun x9 H locs ls => (RA (x9.2.2.1) (0) 7) ∧ (RA (x9.2.2.2.1) (0) 255) ∧ ((-1 : Int) ≤ (x9.2.2.2.2.1) ∧ (x9.2.2.2.2.1) ≤ 7) ∧ ((0 : Int) ≤ (x9.2.2.2.2.2.1) ∧ (x9.2.2.2.2.2.1) ≤ 1) ∧ (RA (x9.2.2.2.2.2.2.1) (0) 7) ∧ (0 ≤ (x9.2.1) ∧ (x9.2.1) ≤ 40320) ∧ (srP (okc Gki Glo Gsh Bwo Bon Btw Bnu Bcnt Gn) Gn (x9.2.2.1) (x9.2.2.2.1) Sbarred_3 Smf_4 Sml_5 (x9.2.2.2.2.1) (x9.2.2.2.2.2.1) x9.2.2.2.2.2.2.2) ∧ ((x9.2.1) + (x9.2.2.2.2.2.2.2.length : Int) = ((rowsC Gki Glo Gsh Bwo Bon Btw Bnu Bcnt Gn).length : Int)) ∧ (-1 ≤ (x9.1) ∧ (x9.1) ≤ 1000) ∧ (∃ bl, (((x9.1) = -1 ∧ bl = []) ∨ (¬ (x9.1) = -1 ∧ bl = preL (x9.2.2.2.2.2.2.1) Gn.toNat)) ∧ bestK (noiL Glo Gn) ((x9.1), bl) x9.2.2.2.2.2.2.2 = bestK (noiL Glo Gn) (-1, []) (rowsC Gki Glo Gsh Bwo Bon Btw Bnu Bcnt Gn)) ∧ HW D A s.heap (kG cI cB cZ oG Gn Gki Gle Glo Gta Gsh ++ kB cI cB cZ oB (oG 0) Bcnt Bwo Bon Btw Bnu ++ kS cI cB cZ oS (oG 0) (x9.2.2.1) (x9.2.2.2.1) Sbarred_3 Smf_4 Sml_5 (x9.2.2.2.2.1) (x9.2.2.2.2.2.1) ++ kC cI cB cZ oC (oG 0) Crow (x9.2.2.2.2.2.2.1) aCreader (oB 0) aCspare (oS 0) aCbreach aCstreet aCparade aCtrial Crun) H locs ∧ lv_has ls 4 [(0, .ref (oC 0)), (1, .int (zI (x9.1))), (2, .int (zI (x9.2.1)))]) ((-1), 0, Sline, Sopn_2, Sdep_6, Ser_7, Cquiet, (rowsC Gki Glo Gsh Bwo Bon Btw Bnu Bcnt Gn)) ⟨qSline, hq_8, hv_15, hv_16, qCquiet, hv_17, hv_18, hv_19, hv_20, hv_21, hw, lv_sub hl [2, 1, 0] rfl⟩ ?_
  clear hw hl
  intro x9 H locs ls hI ih_22
  obtain ⟨lst_23, i_24, Sline_25, Sopn_26, Sdep_27, Ser_28, Cquiet_29, R_30⟩ := x9
  try dsimp only at hI
  obtain ⟨hR_31, hR_32, hq_33, hq_34, hR_35, hI_36, hI_37, hI_38, hI_39, hI_40, hw, hl⟩ := hI
  refine lv_iload_n hx hb dX7_best_15 rfl (lv_at hl 2 rfl) ?_
  refine lv_ldc (v := zI 40320) hx hb hown (hts (.constant RX7 146 (40320)) (by decide +kernel)) dX7_best_16 ?_
  refine z_icmp_ge (tgt := 82) hx hb dX7_best_18 (by decide) (by omega) (fun hc_41 => ?_) (fun hc_41 => ?_)
  · skip
    refine lv_iload_n hx hb dX7_best_82 rfl (lv_at hl 1 rfl) ?_
    refine z_iconst hx hb dX7_best_83 ?_
    refine z_icmp_eq (tgt := 95) hx hb dX7_best_84 (by decide) (by omega) (fun hc_42 => ?_) (fun hc_42 => ?_)
    · skip
      refine lv_iload_n hx hb dX7_best_95 rfl (lv_at hl 1 rfl) ?_
      have hv_43 : (0 : Int) ≤ Smf_4 ∧ Smf_4 ≤ 255 := by
        first | assumption | omega | grind
      have hv_44 : (0 : Int) ≤ Sml_5 ∧ Sml_5 ≤ 255 := by
        first | assumption | omega | grind
      have hv_45 : (-1 : Int) ≤ Sdep_27 ∧ Sdep_27 ≤ 7 := by
        first | assumption | omega | grind
      have hv_46 : (0 : Int) ≤ Ser_28 ∧ Ser_28 ≤ 1 := by
        first | assumption | omega | grind
      have hv_47 : (0 : Int) ≤ Crun ∧ Crun ≤ 1 := by
        first | assumption | omega | grind
      have hv_48 : lst_23 = (bestK (noiL Glo Gn) (-1, []) (rowsC Gki Glo Gsh Bwo Bon Btw Bnu Bcnt Gn)).1 := by
        obtain ⟨bl, hb1, hb2⟩ := (by assumption : ∃ bl, ((lst_23 = -1 ∧ bl = []) ∨ (¬ lst_23 = -1 ∧ bl = preL Cquiet_29 Gn.toNat)) ∧ bestK (noiL Glo Gn) (lst_23, bl) R_30 = bestK (noiL Glo Gn) (-1, []) (rowsC Gki Glo Gsh Bwo Bon Btw Bnu Bcnt Gn))
        have hR9 : R_30 = [] := by first | exact hr9 | exact List.eq_nil_of_length_eq_zero (by omega)
        rw [hR9] at hb2
        have hb3 := best_nil hb2
        subst_vars
        first | exact hb3.1 | exact Or.inl ⟨by omega, rfl, rfl⟩ | exact Or.inr ⟨by omega, by rw [preL_cp (by omega)]; rw [← hb3.2]; grind, rfl⟩
      have hv_49 : (lst_23 = -1 ∧ Crow = Crow ∧ Crun = Crun) ∨ (¬ lst_23 = -1 ∧ preL Crow Gn.toNat = (bestK (noiL Glo Gn) (-1, []) (rowsC Gki Glo Gsh Bwo Bon Btw Bnu Bcnt Gn)).2 ∧ Crun = 0) := by
        obtain ⟨bl, hb1, hb2⟩ := (by assumption : ∃ bl, ((lst_23 = -1 ∧ bl = []) ∨ (¬ lst_23 = -1 ∧ bl = preL Cquiet_29 Gn.toNat)) ∧ bestK (noiL Glo Gn) (lst_23, bl) R_30 = bestK (noiL Glo Gn) (-1, []) (rowsC Gki Glo Gsh Bwo Bon Btw Bnu Bcnt Gn))
        have hR9 : R_30 = [] := by first | exact hr9 | exact List.eq_nil_of_length_eq_zero (by omega)
        rw [hR9] at hb2
        have hb3 := best_nil hb2
        subst_vars
        first | exact hb3.1 | exact Or.inl ⟨by omega, rfl, rfl⟩ | exact Or.inr ⟨by omega, by rw [preL_cp (by omega)]; rw [← hb3.2]; grind, rfl⟩
      exact W.iret (v := zI lst_23) hx hb hr (fun t9 ht hW => ⟨⟨zI lst_23, (lst_23, Sline_25, Sopn_26, Sbarred_3, Smf_4, Sml_5, Sdep_27, Ser_28, Crow, Cquiet_29, Crun), rfl, ⟨rfl, ⟨hR_31, hR_32, hq_9, hv_43, hv_44, hv_45, hv_46, qCrow, hR_35, hv_47, hv_48, hv_49⟩⟩, by subst hAe; exact z_end hK hw ht hW⟩, by subst hAe; exact hw.2.2.F ht⟩) (by subst hAe; exact hw.2.2.2.2) dX7_best_96
    · skip
      refine lv_aload_n hx hb dX7_best_87 rfl (lv_at hl 0 rfl) ?_
      refine lv_aload_n hx hb dX7_best_88 rfl (lv_at hl 0 rfl) ?_
      refine va_get (D := D) (ci := 7) (v := .ref (oC 2)) (C := RX7) (T := TX7) (N := 12) hx hb hts hinX7 hown hK hw.1 15 rfl rfl 2 (by decide) (hts (.fieldLink RX7 20 "CarnivalRoad" "quietest" "[I") (by decide +kernel)) (fun _ h9 => h9) rfl dX7_best_89 ?_
      have hF9 := z_free (wc := kC cI cB cZ oC (oG 0) Crow Cquiet_29 aCreader (oB 0) aCspare (oS 0) aCbreach aCstreet aCparade aCtrial Crun) hw hA [15, 16, 17] rfl
      refine va_callv (va_runV (As := [.ref (oC 2)]) (rest := []) ⟨hx, hb, hml, hown, hts⟩ (c_X7_takeRowQ l D cI cB cZ oC (oG 0) aCreader (oB 0) aCspare (oS 0) aCbreach aCstreet aCparade aCtrial H.size Crow Cquiet_29 Crun qCrow hR_35 (by omega)) (cwV 1 hts gX7_best_X7_takeRow rfl rfl rfl (by decide +kernel) ⟨Nat.le_of_ble_eq_true rfl, Nat.le_of_ble_eq_true rfl⟩) ⟨zPre_blind, va_recv hK hw.1 (ci := 7) (q0 := 15) rfl rfl, z_pre hK hw [15, 16, 17] (by decide) rfl⟩ rfl rfl hl.1 rfl (lv_room (Nat.le_of_ble_eq_true rfl)) dX7_best_92 ⟨Nat.zero_le _, Nat.zero_le _⟩) hw.2.2 (fun q _ h => hF9 q h) hF9 (fun u9 t9 H_50 locs9 ht9 hvm9 hq9 hB9 hz9 hk9 hS9 => ?_)
      obtain ⟨Crow_51, Crun_52⟩ := u9
      try dsimp only at hq9 hB9
      obtain ⟨hq_53, hq_54, hq_55, hq_56⟩ := hq9
      have hw : HW D A s.heap (kG cI cB cZ oG Gn Gki Gle Glo Gta Gsh ++ kB cI cB cZ oB (oG 0) Bcnt Bwo Bon Btw Bnu ++ kS cI cB cZ oS (oG 0) Sline_25 Sopn_26 Sbarred_3 Smf_4 Sml_5 Sdep_27 Ser_28 ++ kC cI cB cZ oC (oG 0) Crow_51 Cquiet_29 aCreader (oB 0) aCspare (oS 0) aCbreach aCstreet aCparade aCtrial Crun_52) H_50 locs9 := z_after (wc := kC cI cB cZ oC (oG 0) Crow Cquiet_29 aCreader (oB 0) aCspare (oS 0) aCbreach aCstreet aCparade aCtrial Crun) hw [15, 16, 17] [0, 1, 2, 3, 4, 5, 6, 7, 8, 9, 10, 11, 12, 13, 14] rfl rfl (by decide) (by decide) hF9 hk9 ht9 hB9 hS9 [0, 1, 2, 3, 4, 5, 6, 7, 8, 9, 10, 11, 12, 13, 14, 15, 16, 17] (by decide) rfl
      clear hF9 ht9 hvm9 hB9 hz9 hk9 hS9
      refine lv_iload_n hx hb dX7_best_95 rfl (lv_at hl 1 rfl) ?_
      have hv_57 : (0 : Int) ≤ Smf_4 ∧ Smf_4 ≤ 255 := by
        first | assumption | omega | grind
      have hv_58 : (0 : Int) ≤ Sml_5 ∧ Sml_5 ≤ 255 := by
        first | assumption | omega | grind
      have hv_59 : (-1 : Int) ≤ Sdep_27 ∧ Sdep_27 ≤ 7 := by
        first | assumption | omega | grind
      have hv_60 : (0 : Int) ≤ Ser_28 ∧ Ser_28 ≤ 1 := by
        first | assumption | omega | grind
      have hv_61 : (0 : Int) ≤ Crun_52 ∧ Crun_52 ≤ 1 := by
        first | assumption | omega | grind
      have hv_62 : lst_23 = (bestK (noiL Glo Gn) (-1, []) (rowsC Gki Glo Gsh Bwo Bon Btw Bnu Bcnt Gn)).1 := by
        obtain ⟨bl, hb1, hb2⟩ := (by assumption : ∃ bl, ((lst_23 = -1 ∧ bl = []) ∨ (¬ lst_23 = -1 ∧ bl = preL Cquiet_29 Gn.toNat)) ∧ bestK (noiL Glo Gn) (lst_23, bl) R_30 = bestK (noiL Glo Gn) (-1, []) (rowsC Gki Glo Gsh Bwo Bon Btw Bnu Bcnt Gn))
        have hR9 : R_30 = [] := by first | exact hr9 | exact List.eq_nil_of_length_eq_zero (by omega)
        rw [hR9] at hb2
        have hb3 := best_nil hb2
        subst_vars
        first | exact hb3.1 | exact Or.inl ⟨by omega, rfl, rfl⟩ | exact Or.inr ⟨by omega, by rw [preL_cp (by omega)]; rw [← hb3.2]; grind, rfl⟩
      have hv_63 : (lst_23 = -1 ∧ Crow_51 = Crow ∧ Crun_52 = Crun) ∨ (¬ lst_23 = -1 ∧ preL Crow_51 Gn.toNat = (bestK (noiL Glo Gn) (-1, []) (rowsC Gki Glo Gsh Bwo Bon Btw Bnu Bcnt Gn)).2 ∧ Crun_52 = 0) := by
        obtain ⟨bl, hb1, hb2⟩ := (by assumption : ∃ bl, ((lst_23 = -1 ∧ bl = []) ∨ (¬ lst_23 = -1 ∧ bl = preL Cquiet_29 Gn.toNat)) ∧ bestK (noiL Glo Gn) (lst_23, bl) R_30 = bestK (noiL Glo Gn) (-1, []) (rowsC Gki Glo Gsh Bwo Bon Btw Bnu Bcnt Gn))
        have hR9 : R_30 = [] := by first | exact hr9 | exact List.eq_nil_of_length_eq_zero (by omega)
        rw [hR9] at hb2
        have hb3 := best_nil hb2
        subst_vars
        first | exact hb3.1 | exact Or.inl ⟨by omega, rfl, rfl⟩ | exact Or.inr ⟨by omega, by rw [preL_cp (by omega)]; rw [← hb3.2]; grind, rfl⟩
      exact W.iret (v := zI lst_23) hx hb hr (fun t9 ht hW => ⟨⟨zI lst_23, (lst_23, Sline_25, Sopn_26, Sbarred_3, Smf_4, Sml_5, Sdep_27, Ser_28, Crow_51, Cquiet_29, Crun_52), rfl, ⟨rfl, ⟨hR_31, hR_32, hq_9, hv_57, hv_58, hv_59, hv_60, hq_53, hR_35, hv_61, hv_62, hv_63⟩⟩, by subst hAe; exact z_end hK hw ht hW⟩, by subst hAe; exact hw.2.2.F ht⟩) (by subst hAe; exact hw.2.2.2.2) dX7_best_96
  · skip
    refine lv_aload_n hx hb dX7_best_21 rfl (lv_at hl 0 rfl) ?_
    refine va_get (D := D) (ci := 7) (v := .ref (oS 0)) (C := RX7) (T := TX7) (N := 12) hx hb hts hinX7 hown hK hw.1 15 rfl rfl 6 (by decide) (hts (.fieldLink RX7 45 "CarnivalRoad" "search" "LCarnivalRoad$Search;") (by decide +kernel)) (fun _ h9 => h9) rfl dX7_best_22 ?_
    have hpre_64 : srP (okc Gki Glo Gsh Bwo Bon Btw Bnu Bcnt Gn) Gn Sline_25 Sopn_26 Sbarred_3 Smf_4 Sml_5 Sdep_27 Ser_28 R_30 := by
      first | assumption | omega | grind
    have hF9 := z_free (wc := kG cI cB cZ oG Gn Gki Gle Glo Gta Gsh ++ kS cI cB cZ oS (oG 0) Sline_25 Sopn_26 Sbarred_3 Smf_4 Sml_5 Sdep_27 Ser_28) hw hA [0, 1, 2, 3, 4, 5, 11, 12, 13, 14] rfl
    refine va_calli (va_runV (As := []) (rest := []) ⟨hx, hb, hml, hown, hts⟩ (c_X5_findNext l D cI cB cZ oG oS H.size Gn Gki Gle Glo Gta Gsh Sline_25 Sopn_26 Sbarred_3 Smf_4 Sml_5 Sdep_27 Ser_28 (okc Gki Glo Gsh Bwo Bon Btw Bnu Bcnt Gn) R_30 (by omega) qGki qGle qGlo qGta qGsh hR_31 hR_32 hq_9 (by omega) (by omega) (by omega) (by omega) hpre_64) (cwV 0 hts gX7_best_X5_findNext rfl rfl rfl (by decide +kernel) ⟨Nat.le_of_ble_eq_true rfl, Nat.le_of_ble_eq_true rfl⟩) ⟨zPre_blind, va_recv hK hw.1 (ci := 5) (q0 := 11) rfl rfl, z_pre hK hw [0, 1, 2, 3, 4, 5, 11, 12, 13, 14] (by decide) rfl⟩ rfl rfl hl.1 rfl (lv_room (Nat.le_of_ble_eq_true rfl)) dX7_best_25 ⟨Nat.zero_le _, Nat.zero_le _⟩) hw.2.2 (fun q _ h => hF9 q h) hF9 (fun r9 u9 t9 H_65 locs9 ht9 hvm9 hq9 hB9 hz9 hk9 hS9 => ?_)
    obtain ⟨r_66, Sline_67, Sopn_68, Sdep_69, Ser_70⟩ := u9
    try dsimp only at hq9 hB9
    obtain ⟨rfl, hq9⟩ := hq9
    obtain ⟨hq_71, hq_72, hq_73, hq_74, hq_75⟩ := hq9
    have hw : HW D A s.heap (kG cI cB cZ oG Gn Gki Gle Glo Gta Gsh ++ kB cI cB cZ oB (oG 0) Bcnt Bwo Bon Btw Bnu ++ kS cI cB cZ oS (oG 0) Sline_67 Sopn_68 Sbarred_3 Smf_4 Sml_5 Sdep_69 Ser_70 ++ kC cI cB cZ oC (oG 0) Crow Cquiet_29 aCreader (oB 0) aCspare (oS 0) aCbreach aCstreet aCparade aCtrial Crun) H_65 locs9 := z_after (wc := kG cI cB cZ oG Gn Gki Gle Glo Gta Gsh ++ kS cI cB cZ oS (oG 0) Sline_25 Sopn_26 Sbarred_3 Smf_4 Sml_5 Sdep_27 Ser_28) hw [0, 1, 2, 3, 4, 5, 11, 12, 13, 14] [6, 7, 8, 9, 10, 15, 16, 17] rfl rfl (by decide) (by decide) hF9 hk9 ht9 hB9 hS9 [8, 9, 10, 11, 12, 13, 0, 1, 2, 3, 4, 14, 15, 16, 17, 5, 6, 7] (by decide) rfl
    clear hF9 ht9 hvm9 hB9 hz9 hk9 hS9
    obtain ⟨R9, hs9, hr9⟩ := hq_75
    rcases hr9 with ⟨rfl, hr9⟩ | ⟨rfl, hr9, hr8⟩
    · skip
      refine z_if_eq (tgt := 82) hx hb dX7_best_28 (by decide) (by omega) (fun hc_76 => absurd hc_76 (by omega)) (fun hc_76 => ?_)
      refine lv_aload_n hx hb dX7_best_31 rfl (lv_at hl 0 rfl) ?_
      refine va_get (D := D) (ci := 7) (v := .ref (oG 0)) (C := RX7) (T := TX7) (N := 12) hx hb hts hinX7 hown hK hw.1 15 rfl rfl 0 (by decide) (hts (.fieldLink RX7 10 "CarnivalRoad" "guests" "LCarnivalRoad$Guests;") (by decide +kernel)) (fun _ h9 => h9) rfl dX7_best_32 ?_
      refine lv_aload_n hx hb dX7_best_35 rfl (lv_at hl 0 rfl) ?_
      refine va_get (D := D) (ci := 7) (v := .ref (oS 0)) (C := RX7) (T := TX7) (N := 12) hx hb hts hinX7 hown hK hw.1 15 rfl rfl 6 (by decide) (hts (.fieldLink RX7 45 "CarnivalRoad" "search" "LCarnivalRoad$Search;") (by decide +kernel)) (fun _ h9 => h9) rfl dX7_best_36 ?_
      refine va_get (D := D) (ci := 5) (v := .ref (oS 1)) (C := RX5) (T := TX5) (N := 8) hx hb hts hinX5 hown hK hw.1 11 rfl rfl 1 (by decide) (hts (.fieldLink RX7 150 "CarnivalRoad$Search" "line" "[I") (by decide +kernel)) (fun _ h9 => h9) rfl dX7_best_39 ?_
      have hF9 := z_free (wc := kG cI cB cZ oG Gn Gki Gle Glo Gta Gsh ++ [(oS 1, .inl (cI, 8, .inl (zA Sline_67)))]) hw hA [0, 1, 2, 3, 4, 5, 12] rfl
      refine va_calli (va_runV (As := [.ref (oS 1)]) (rest := []) ⟨hx, hb, hml, hown, hts⟩ (c_X2_noiseOf l D cI cB cZ oG (oS 1) H_65.size Gn Gki Gle Glo Gta Gsh Sline_67 (by omega) qGki qGle qGlo qGta qGsh hq_71) (cwV 1 hts gX7_best_X2_noiseOf rfl rfl rfl (by decide +kernel) ⟨Nat.le_of_ble_eq_true rfl, Nat.le_of_ble_eq_true rfl⟩) ⟨zPre_blind, va_recv hK hw.1 (ci := 2) (q0 := 0) rfl rfl, z_pre hK hw [0, 1, 2, 3, 4, 5, 12] (by decide) rfl⟩ rfl rfl hl.1 rfl (lv_room (Nat.le_of_ble_eq_true rfl)) dX7_best_42 ⟨Nat.zero_le _, Nat.zero_le _⟩) hw.2.2 (fun q _ h => hF9 q h) hF9 (fun r9 u9 t9 H_77 locs9 ht9 hvm9 hq9 hB9 hz9 hk9 hS9 => ?_)
      obtain ⟨r_78, rfl⟩ : ∃ z, z = u9 := ⟨_, rfl⟩
      try dsimp only at hq9 hB9
      obtain ⟨rfl, hq9⟩ := hq9
      obtain ⟨hq_79, hq_80⟩ := hq9
      have hw : HW D A s.heap (kG cI cB cZ oG Gn Gki Gle Glo Gta Gsh ++ kB cI cB cZ oB (oG 0) Bcnt Bwo Bon Btw Bnu ++ kS cI cB cZ oS (oG 0) Sline_67 Sopn_68 Sbarred_3 Smf_4 Sml_5 Sdep_69 Ser_70 ++ kC cI cB cZ oC (oG 0) Crow Cquiet_29 aCreader (oB 0) aCspare (oS 0) aCbreach aCstreet aCparade aCtrial Crun) H_77 locs9 := z_after (wc := kG cI cB cZ oG Gn Gki Gle Glo Gta Gsh ++ [(oS 1, .inl (cI, 8, .inl (zA Sline_67)))]) hw [0, 1, 2, 3, 4, 5, 12] [6, 7, 8, 9, 10, 11, 13, 14, 15, 16, 17] rfl rfl (by decide) (by decide) hF9 hk9 ht9 hB9 hS9 [11, 12, 13, 14, 15, 16, 0, 1, 2, 3, 4, 5, 17, 6, 7, 8, 9, 10] (by decide) rfl
      clear hF9 ht9 hvm9 hB9 hz9 hk9 hS9
      refine lv_istore_n (lv' := [(3, .int (zI r_78)), (0, .ref (oC 0)), (1, .int (zI lst_23)), (2, .int (zI i_24))]) hx hb dX7_best_45 rfl hl (by decide) rfl (fun ls hl => ?_)
      refine lv_iload_n hx hb dX7_best_46 rfl (lv_at hl 2 rfl) ?_
      refine z_iconst hx hb dX7_best_47 ?_
      refine z_icmp_eq (tgt := 56) hx hb dX7_best_48 (by decide) (by omega) (fun hc_81 => ?_) (fun hc_81 => ?_)
      · skip
        refine lv_iload_n hx hb dX7_best_56 rfl (lv_at hl 0 rfl) ?_
        refine lv_istore_n (lv' := [(1, .int (zI r_78)), (3, .int (zI r_78)), (0, .ref (oC 0)), (2, .int (zI i_24))]) hx hb dX7_best_57 rfl hl (by decide) rfl (fun ls hl => ?_)
        refine lv_aload_n hx hb dX7_best_58 rfl (lv_at hl 2 rfl) ?_
        refine va_get (D := D) (ci := 7) (v := .ref (oS 0)) (C := RX7) (T := TX7) (N := 12) hx hb hts hinX7 hown hK hw.1 15 rfl rfl 6 (by decide) (hts (.fieldLink RX7 45 "CarnivalRoad" "search" "LCarnivalRoad$Search;") (by decide +kernel)) (fun _ h9 => h9) rfl dX7_best_59 ?_
        refine va_get (D := D) (ci := 5) (v := .ref (oS 1)) (C := RX5) (T := TX5) (N := 8) hx hb hts hinX5 hown hK hw.1 11 rfl rfl 1 (by decide) (hts (.fieldLink RX7 150 "CarnivalRoad$Search" "line" "[I") (by decide +kernel)) (fun _ h9 => h9) rfl dX7_best_62 ?_
        refine z_iconst hx hb dX7_best_65 ?_
        refine lv_aload_n hx hb dX7_best_66 rfl (lv_at hl 2 rfl) ?_
        refine va_get (D := D) (ci := 7) (v := .ref (oC 2)) (C := RX7) (T := TX7) (N := 12) hx hb hts hinX7 hown hK hw.1 15 rfl rfl 2 (by decide) (hts (.fieldLink RX7 20 "CarnivalRoad" "quietest" "[I") (by decide +kernel)) (fun _ h9 => h9) rfl dX7_best_67 ?_
        refine z_iconst hx hb dX7_best_70 ?_
        refine z_bipush hx hb dX7_best_71 (by decide) ?_
        have hR_82 : RA (cpZ Sline_67 Cquiet_29) (0) 7 := cpZ_rng hq_71 hR_35
        refine z_copy (f := Sline_67) (g := Cquiet_29) (ws2 := kG cI cB cZ oG Gn Gki Gle Glo Gta Gsh ++ kB cI cB cZ oB (oG 0) Bcnt Bwo Bon Btw Bnu ++ kS cI cB cZ oS (oG 0) Sline_67 Sopn_68 Sbarred_3 Smf_4 Sml_5 Sdep_69 Ser_70 ++ kC cI cB cZ oC (oG 0) Crow (cpZ Sline_67 Cquiet_29) aCreader (oB 0) aCspare (oS 0) aCbreach aCstreet aCparade aCtrial Crun) hx hb (hml.trans hl.1.symm) hown (hts (.methodLink RX7 165 arraycopyName) (by decide +kernel)) (hts (.native arraycopyName) (by decide +kernel)) (hts (.static arraycopyName) (by decide +kernel)) (hts (.initialized "java/lang/System") (by decide +kernel)) hK hw 12 17 rfl rfl (Nat.le_of_ble_eq_true rfl) (Nat.le_of_ble_eq_true rfl) dX7_best_73 rfl (fun H locs hw => ?_)
        refine z_iinc (k := 3) (lv' := [(2, .int (zI (i_24 + 1))), (1, .int (zI r_78)), (3, .int (zI r_78)), (0, .ref (oC 0))]) hx hb dX7_best_76 hl rfl (by decide) rfl (fun ls hl => ?_)
        refine lv_goto (tgt := 15) hx hb dX7_best_79 (by decide) ?_
        have hv_83 : (-1 : Int) ≤ Sdep_69 ∧ Sdep_69 ≤ 7 := by
          first | assumption | omega | grind
        have hv_84 : (0 : Int) ≤ Ser_70 ∧ Ser_70 ≤ 1 := by
          first | assumption | omega | grind
        have hv_85 : 0 ≤ (i_24 + 1) ∧ (i_24 + 1) ≤ 40320 := by
          first | assumption | omega | grind
        have hv_86 : srP (okc Gki Glo Gsh Bwo Bon Btw Bnu Bcnt Gn) Gn Sline_67 Sopn_68 Sbarred_3 Smf_4 Sml_5 Sdep_69 Ser_70 R9 := by
          exact hs9
        have hv_87 : (i_24 + 1) + (R9.length : Int) = ((rowsC Gki Glo Gsh Bwo Bon Btw Bnu Bcnt Gn).length : Int) := by
          have q9 := congrArg List.length hr9
          first | rw [List.length_cons] at q9 | rw [List.length_nil] at q9
          omega
        have hv_88 : -1 ≤ r_78 ∧ r_78 ≤ 1000 := by
          have q9 := noise_rng qGlo (f := Sline_67) (Gn - 1).toNat
          omega
        have hv_89 : ∃ bl, ((r_78 = -1 ∧ bl = []) ∨ (¬ r_78 = -1 ∧ bl = preL (cpZ Sline_67 Cquiet_29) Gn.toNat)) ∧ bestK (noiL Glo Gn) (r_78, bl) R9 = bestK (noiL Glo Gn) (-1, []) (rowsC Gki Glo Gsh Bwo Bon Btw Bnu Bcnt Gn) := by
          obtain ⟨bl, hb1, hb2⟩ := (by assumption : ∃ bl, ((lst_23 = -1 ∧ bl = []) ∨ (¬ lst_23 = -1 ∧ bl = preL Cquiet_29 Gn.toNat)) ∧ bestK (noiL Glo Gn) (lst_23, bl) R_30 = bestK (noiL Glo Gn) (-1, []) (rowsC Gki Glo Gsh Bwo Bon Btw Bnu Bcnt Gn))
          have qn := noiL_pre0 (lo := Glo) (f := Sline_67) (n := Gn) (by omega)
          have q8 := noise_rng qGlo (f := Sline_67) (Gn - 1).toNat
          rw [hr9] at hb2
          first | exact best_old hb1 hb2 qn (by omega) | exact best_new hb1 hb2 qn (by omega) (preL_cp (by omega)) (by omega) (by omega)
        have hm_90 : R9.length < R_30.length := by
          have q9 := congrArg List.length hr9
          first | rw [List.length_cons] at q9 | rw [List.length_nil] at q9
          omega
        exact ih_22 (r_78, (i_24 + 1), Sline_67, Sopn_68, Sdep_69, Ser_70, (cpZ Sline_67 Cquiet_29), R9) _ _ _ ⟨hq_71, hq_72, hv_83, hv_84, hR_82, hv_85, hv_86, hv_87, hv_88, hv_89, hw, lv_sub hl [3, 1, 0] rfl⟩ hm_90
      · skip
        refine lv_iload_n hx hb dX7_best_51 rfl (lv_at hl 0 rfl) ?_
        refine lv_iload_n hx hb dX7_best_52 rfl (lv_at hl 2 rfl) ?_
        refine z_icmp_ge (tgt := 76) hx hb dX7_best_53 (by decide) (by omega) (fun hc_91 => ?_) (fun hc_91 => ?_)
        · skip
          refine z_iinc (k := 3) (lv' := [(2, .int (zI (i_24 + 1))), (3, .int (zI r_78)), (0, .ref (oC 0)), (1, .int (zI lst_23))]) hx hb dX7_best_76 hl rfl (by decide) rfl (fun ls hl => ?_)
          refine lv_goto (tgt := 15) hx hb dX7_best_79 (by decide) ?_
          have hv_92 : (-1 : Int) ≤ Sdep_69 ∧ Sdep_69 ≤ 7 := by
            first | assumption | omega | grind
          have hv_93 : (0 : Int) ≤ Ser_70 ∧ Ser_70 ≤ 1 := by
            first | assumption | omega | grind
          have hv_94 : 0 ≤ (i_24 + 1) ∧ (i_24 + 1) ≤ 40320 := by
            first | assumption | omega | grind
          have hv_95 : srP (okc Gki Glo Gsh Bwo Bon Btw Bnu Bcnt Gn) Gn Sline_67 Sopn_68 Sbarred_3 Smf_4 Sml_5 Sdep_69 Ser_70 R9 := by
            exact hs9
          have hv_96 : (i_24 + 1) + (R9.length : Int) = ((rowsC Gki Glo Gsh Bwo Bon Btw Bnu Bcnt Gn).length : Int) := by
            have q9 := congrArg List.length hr9
            first | rw [List.length_cons] at q9 | rw [List.length_nil] at q9
            omega
          have hv_97 : -1 ≤ lst_23 ∧ lst_23 ≤ 1000 := by
            have q9 := noise_rng qGlo (f := Sline_67) (Gn - 1).toNat
            omega
          have hv_98 : ∃ bl, ((lst_23 = -1 ∧ bl = []) ∨ (¬ lst_23 = -1 ∧ bl = preL Cquiet_29 Gn.toNat)) ∧ bestK (noiL Glo Gn) (lst_23, bl) R9 = bestK (noiL Glo Gn) (-1, []) (rowsC Gki Glo Gsh Bwo Bon Btw Bnu Bcnt Gn) := by
            obtain ⟨bl, hb1, hb2⟩ := (by assumption : ∃ bl, ((lst_23 = -1 ∧ bl = []) ∨ (¬ lst_23 = -1 ∧ bl = preL Cquiet_29 Gn.toNat)) ∧ bestK (noiL Glo Gn) (lst_23, bl) R_30 = bestK (noiL Glo Gn) (-1, []) (rowsC Gki Glo Gsh Bwo Bon Btw Bnu Bcnt Gn))
            have qn := noiL_pre0 (lo := Glo) (f := Sline_67) (n := Gn) (by omega)
            have q8 := noise_rng qGlo (f := Sline_67) (Gn - 1).toNat
            rw [hr9] at hb2
            first | exact best_old hb1 hb2 qn (by omega) | exact best_new hb1 hb2 qn (by omega) (preL_cp (by omega)) (by omega) (by omega)
          have hm_99 : R9.length < R_30.length := by
            have q9 := congrArg List.length hr9
            first | rw [List.length_cons] at q9 | rw [List.length_nil] at q9
            omega
          exact ih_22 (lst_23, (i_24 + 1), Sline_67, Sopn_68, Sdep_69, Ser_70, Cquiet_29, R9) _ _ _ ⟨hq_71, hq_72, hv_92, hv_93, hR_35, hv_94, hv_95, hv_96, hv_97, hv_98, hw, lv_sub hl [2, 3, 0] rfl⟩ hm_99
        · skip
          refine lv_iload_n hx hb dX7_best_56 rfl (lv_at hl 0 rfl) ?_
          refine lv_istore_n (lv' := [(1, .int (zI r_78)), (3, .int (zI r_78)), (0, .ref (oC 0)), (2, .int (zI i_24))]) hx hb dX7_best_57 rfl hl (by decide) rfl (fun ls hl => ?_)
          refine lv_aload_n hx hb dX7_best_58 rfl (lv_at hl 2 rfl) ?_
          refine va_get (D := D) (ci := 7) (v := .ref (oS 0)) (C := RX7) (T := TX7) (N := 12) hx hb hts hinX7 hown hK hw.1 15 rfl rfl 6 (by decide) (hts (.fieldLink RX7 45 "CarnivalRoad" "search" "LCarnivalRoad$Search;") (by decide +kernel)) (fun _ h9 => h9) rfl dX7_best_59 ?_
          refine va_get (D := D) (ci := 5) (v := .ref (oS 1)) (C := RX5) (T := TX5) (N := 8) hx hb hts hinX5 hown hK hw.1 11 rfl rfl 1 (by decide) (hts (.fieldLink RX7 150 "CarnivalRoad$Search" "line" "[I") (by decide +kernel)) (fun _ h9 => h9) rfl dX7_best_62 ?_
          refine z_iconst hx hb dX7_best_65 ?_
          refine lv_aload_n hx hb dX7_best_66 rfl (lv_at hl 2 rfl) ?_
          refine va_get (D := D) (ci := 7) (v := .ref (oC 2)) (C := RX7) (T := TX7) (N := 12) hx hb hts hinX7 hown hK hw.1 15 rfl rfl 2 (by decide) (hts (.fieldLink RX7 20 "CarnivalRoad" "quietest" "[I") (by decide +kernel)) (fun _ h9 => h9) rfl dX7_best_67 ?_
          refine z_iconst hx hb dX7_best_70 ?_
          refine z_bipush hx hb dX7_best_71 (by decide) ?_
          have hR_100 : RA (cpZ Sline_67 Cquiet_29) (0) 7 := cpZ_rng hq_71 hR_35
          refine z_copy (f := Sline_67) (g := Cquiet_29) (ws2 := kG cI cB cZ oG Gn Gki Gle Glo Gta Gsh ++ kB cI cB cZ oB (oG 0) Bcnt Bwo Bon Btw Bnu ++ kS cI cB cZ oS (oG 0) Sline_67 Sopn_68 Sbarred_3 Smf_4 Sml_5 Sdep_69 Ser_70 ++ kC cI cB cZ oC (oG 0) Crow (cpZ Sline_67 Cquiet_29) aCreader (oB 0) aCspare (oS 0) aCbreach aCstreet aCparade aCtrial Crun) hx hb (hml.trans hl.1.symm) hown (hts (.methodLink RX7 165 arraycopyName) (by decide +kernel)) (hts (.native arraycopyName) (by decide +kernel)) (hts (.static arraycopyName) (by decide +kernel)) (hts (.initialized "java/lang/System") (by decide +kernel)) hK hw 12 17 rfl rfl (Nat.le_of_ble_eq_true rfl) (Nat.le_of_ble_eq_true rfl) dX7_best_73 rfl (fun H locs hw => ?_)
          refine z_iinc (k := 3) (lv' := [(2, .int (zI (i_24 + 1))), (1, .int (zI r_78)), (3, .int (zI r_78)), (0, .ref (oC 0))]) hx hb dX7_best_76 hl rfl (by decide) rfl (fun ls hl => ?_)
          refine lv_goto (tgt := 15) hx hb dX7_best_79 (by decide) ?_
          have hv_101 : (-1 : Int) ≤ Sdep_69 ∧ Sdep_69 ≤ 7 := by
            first | assumption | omega | grind
          have hv_102 : (0 : Int) ≤ Ser_70 ∧ Ser_70 ≤ 1 := by
            first | assumption | omega | grind
          have hv_103 : 0 ≤ (i_24 + 1) ∧ (i_24 + 1) ≤ 40320 := by
            first | assumption | omega | grind
          have hv_104 : srP (okc Gki Glo Gsh Bwo Bon Btw Bnu Bcnt Gn) Gn Sline_67 Sopn_68 Sbarred_3 Smf_4 Sml_5 Sdep_69 Ser_70 R9 := by
            exact hs9
          have hv_105 : (i_24 + 1) + (R9.length : Int) = ((rowsC Gki Glo Gsh Bwo Bon Btw Bnu Bcnt Gn).length : Int) := by
            have q9 := congrArg List.length hr9
            first | rw [List.length_cons] at q9 | rw [List.length_nil] at q9
            omega
          have hv_106 : -1 ≤ r_78 ∧ r_78 ≤ 1000 := by
            have q9 := noise_rng qGlo (f := Sline_67) (Gn - 1).toNat
            omega
          have hv_107 : ∃ bl, ((r_78 = -1 ∧ bl = []) ∨ (¬ r_78 = -1 ∧ bl = preL (cpZ Sline_67 Cquiet_29) Gn.toNat)) ∧ bestK (noiL Glo Gn) (r_78, bl) R9 = bestK (noiL Glo Gn) (-1, []) (rowsC Gki Glo Gsh Bwo Bon Btw Bnu Bcnt Gn) := by
            obtain ⟨bl, hb1, hb2⟩ := (by assumption : ∃ bl, ((lst_23 = -1 ∧ bl = []) ∨ (¬ lst_23 = -1 ∧ bl = preL Cquiet_29 Gn.toNat)) ∧ bestK (noiL Glo Gn) (lst_23, bl) R_30 = bestK (noiL Glo Gn) (-1, []) (rowsC Gki Glo Gsh Bwo Bon Btw Bnu Bcnt Gn))
            have qn := noiL_pre0 (lo := Glo) (f := Sline_67) (n := Gn) (by omega)
            have q8 := noise_rng qGlo (f := Sline_67) (Gn - 1).toNat
            rw [hr9] at hb2
            first | exact best_old hb1 hb2 qn (by omega) | exact best_new hb1 hb2 qn (by omega) (preL_cp (by omega)) (by omega) (by omega)
          have hm_108 : R9.length < R_30.length := by
            have q9 := congrArg List.length hr9
            first | rw [List.length_cons] at q9 | rw [List.length_nil] at q9
            omega
          exact ih_22 (r_78, (i_24 + 1), Sline_67, Sopn_68, Sdep_69, Ser_70, (cpZ Sline_67 Cquiet_29), R9) _ _ _ ⟨hq_71, hq_72, hv_101, hv_102, hR_100, hv_103, hv_104, hv_105, hv_106, hv_107, hw, lv_sub hl [3, 1, 0] rfl⟩ hm_108
    · skip
      refine z_if_eq (tgt := 82) hx hb dX7_best_28 (by decide) (by omega) (fun hc_109 => ?_) (fun hc_109 => absurd hc_109 (by omega))
      refine lv_iload_n hx hb dX7_best_82 rfl (lv_at hl 1 rfl) ?_
      refine z_iconst hx hb dX7_best_83 ?_
      refine z_icmp_eq (tgt := 95) hx hb dX7_best_84 (by decide) (by omega) (fun hc_110 => ?_) (fun hc_110 => ?_)
      · skip
        refine lv_iload_n hx hb dX7_best_95 rfl (lv_at hl 1 rfl) ?_
        have hv_111 : (0 : Int) ≤ Smf_4 ∧ Smf_4 ≤ 255 := by
          first | assumption | omega | grind
        have hv_112 : (0 : Int) ≤ Sml_5 ∧ Sml_5 ≤ 255 := by
          first | assumption | omega | grind
        have hv_113 : (-1 : Int) ≤ Sdep_69 ∧ Sdep_69 ≤ 7 := by
          first | assumption | omega | grind
        have hv_114 : (0 : Int) ≤ Ser_70 ∧ Ser_70 ≤ 1 := by
          first | assumption | omega | grind
        have hv_115 : (0 : Int) ≤ Crun ∧ Crun ≤ 1 := by
          first | assumption | omega | grind
        have hv_116 : lst_23 = (bestK (noiL Glo Gn) (-1, []) (rowsC Gki Glo Gsh Bwo Bon Btw Bnu Bcnt Gn)).1 := by
          obtain ⟨bl, hb1, hb2⟩ := (by assumption : ∃ bl, ((lst_23 = -1 ∧ bl = []) ∨ (¬ lst_23 = -1 ∧ bl = preL Cquiet_29 Gn.toNat)) ∧ bestK (noiL Glo Gn) (lst_23, bl) R_30 = bestK (noiL Glo Gn) (-1, []) (rowsC Gki Glo Gsh Bwo Bon Btw Bnu Bcnt Gn))
          have hR9 : R_30 = [] := by first | exact hr9 | exact List.eq_nil_of_length_eq_zero (by omega)
          rw [hR9] at hb2
          have hb3 := best_nil hb2
          subst_vars
          first | exact hb3.1 | exact Or.inl ⟨by omega, rfl, rfl⟩ | exact Or.inr ⟨by omega, by rw [preL_cp (by omega)]; rw [← hb3.2]; grind, rfl⟩
        have hv_117 : (lst_23 = -1 ∧ Crow = Crow ∧ Crun = Crun) ∨ (¬ lst_23 = -1 ∧ preL Crow Gn.toNat = (bestK (noiL Glo Gn) (-1, []) (rowsC Gki Glo Gsh Bwo Bon Btw Bnu Bcnt Gn)).2 ∧ Crun = 0) := by
          obtain ⟨bl, hb1, hb2⟩ := (by assumption : ∃ bl, ((lst_23 = -1 ∧ bl = []) ∨ (¬ lst_23 = -1 ∧ bl = preL Cquiet_29 Gn.toNat)) ∧ bestK (noiL Glo Gn) (lst_23, bl) R_30 = bestK (noiL Glo Gn) (-1, []) (rowsC Gki Glo Gsh Bwo Bon Btw Bnu Bcnt Gn))
          have hR9 : R_30 = [] := by first | exact hr9 | exact List.eq_nil_of_length_eq_zero (by omega)
          rw [hR9] at hb2
          have hb3 := best_nil hb2
          subst_vars
          first | exact hb3.1 | exact Or.inl ⟨by omega, rfl, rfl⟩ | exact Or.inr ⟨by omega, by rw [preL_cp (by omega)]; rw [← hb3.2]; grind, rfl⟩
        exact W.iret (v := zI lst_23) hx hb hr (fun t9 ht hW => ⟨⟨zI lst_23, (lst_23, Sline_67, Sopn_68, Sbarred_3, Smf_4, Sml_5, Sdep_69, Ser_70, Crow, Cquiet_29, Crun), rfl, ⟨rfl, ⟨hq_71, hq_72, hq_9, hv_111, hv_112, hv_113, hv_114, qCrow, hR_35, hv_115, hv_116, hv_117⟩⟩, by subst hAe; exact z_end hK hw ht hW⟩, by subst hAe; exact hw.2.2.F ht⟩) (by subst hAe; exact hw.2.2.2.2) dX7_best_96
      · skip
        refine lv_aload_n hx hb dX7_best_87 rfl (lv_at hl 0 rfl) ?_
        refine lv_aload_n hx hb dX7_best_88 rfl (lv_at hl 0 rfl) ?_
        refine va_get (D := D) (ci := 7) (v := .ref (oC 2)) (C := RX7) (T := TX7) (N := 12) hx hb hts hinX7 hown hK hw.1 15 rfl rfl 2 (by decide) (hts (.fieldLink RX7 20 "CarnivalRoad" "quietest" "[I") (by decide +kernel)) (fun _ h9 => h9) rfl dX7_best_89 ?_
        have hF9 := z_free (wc := kC cI cB cZ oC (oG 0) Crow Cquiet_29 aCreader (oB 0) aCspare (oS 0) aCbreach aCstreet aCparade aCtrial Crun) hw hA [15, 16, 17] rfl
        refine va_callv (va_runV (As := [.ref (oC 2)]) (rest := []) ⟨hx, hb, hml, hown, hts⟩ (c_X7_takeRowQ l D cI cB cZ oC (oG 0) aCreader (oB 0) aCspare (oS 0) aCbreach aCstreet aCparade aCtrial H_65.size Crow Cquiet_29 Crun qCrow hR_35 (by omega)) (cwV 1 hts gX7_best_X7_takeRow rfl rfl rfl (by decide +kernel) ⟨Nat.le_of_ble_eq_true rfl, Nat.le_of_ble_eq_true rfl⟩) ⟨zPre_blind, va_recv hK hw.1 (ci := 7) (q0 := 15) rfl rfl, z_pre hK hw [15, 16, 17] (by decide) rfl⟩ rfl rfl hl.1 rfl (lv_room (Nat.le_of_ble_eq_true rfl)) dX7_best_92 ⟨Nat.zero_le _, Nat.zero_le _⟩) hw.2.2 (fun q _ h => hF9 q h) hF9 (fun u9 t9 H_118 locs9 ht9 hvm9 hq9 hB9 hz9 hk9 hS9 => ?_)
        obtain ⟨Crow_119, Crun_120⟩ := u9
        try dsimp only at hq9 hB9
        obtain ⟨hq_121, hq_122, hq_123, hq_124⟩ := hq9
        have hw : HW D A s.heap (kG cI cB cZ oG Gn Gki Gle Glo Gta Gsh ++ kB cI cB cZ oB (oG 0) Bcnt Bwo Bon Btw Bnu ++ kS cI cB cZ oS (oG 0) Sline_67 Sopn_68 Sbarred_3 Smf_4 Sml_5 Sdep_69 Ser_70 ++ kC cI cB cZ oC (oG 0) Crow_119 Cquiet_29 aCreader (oB 0) aCspare (oS 0) aCbreach aCstreet aCparade aCtrial Crun_120) H_118 locs9 := z_after (wc := kC cI cB cZ oC (oG 0) Crow Cquiet_29 aCreader (oB 0) aCspare (oS 0) aCbreach aCstreet aCparade aCtrial Crun) hw [15, 16, 17] [0, 1, 2, 3, 4, 5, 6, 7, 8, 9, 10, 11, 12, 13, 14] rfl rfl (by decide) (by decide) hF9 hk9 ht9 hB9 hS9 [0, 1, 2, 3, 4, 5, 6, 7, 8, 9, 10, 11, 12, 13, 14, 15, 16, 17] (by decide) rfl
        clear hF9 ht9 hvm9 hB9 hz9 hk9 hS9
        refine lv_iload_n hx hb dX7_best_95 rfl (lv_at hl 1 rfl) ?_
        have hv_125 : (0 : Int) ≤ Smf_4 ∧ Smf_4 ≤ 255 := by
          first | assumption | omega | grind
        have hv_126 : (0 : Int) ≤ Sml_5 ∧ Sml_5 ≤ 255 := by
          first | assumption | omega | grind
        have hv_127 : (-1 : Int) ≤ Sdep_69 ∧ Sdep_69 ≤ 7 := by
          first | assumption | omega | grind
        have hv_128 : (0 : Int) ≤ Ser_70 ∧ Ser_70 ≤ 1 := by
          first | assumption | omega | grind
        have hv_129 : (0 : Int) ≤ Crun_120 ∧ Crun_120 ≤ 1 := by
          first | assumption | omega | grind
        have hv_130 : lst_23 = (bestK (noiL Glo Gn) (-1, []) (rowsC Gki Glo Gsh Bwo Bon Btw Bnu Bcnt Gn)).1 := by
          obtain ⟨bl, hb1, hb2⟩ := (by assumption : ∃ bl, ((lst_23 = -1 ∧ bl = []) ∨ (¬ lst_23 = -1 ∧ bl = preL Cquiet_29 Gn.toNat)) ∧ bestK (noiL Glo Gn) (lst_23, bl) R_30 = bestK (noiL Glo Gn) (-1, []) (rowsC Gki Glo Gsh Bwo Bon Btw Bnu Bcnt Gn))
          have hR9 : R_30 = [] := by first | exact hr9 | exact List.eq_nil_of_length_eq_zero (by omega)
          rw [hR9] at hb2
          have hb3 := best_nil hb2
          subst_vars
          first | exact hb3.1 | exact Or.inl ⟨by omega, rfl, rfl⟩ | exact Or.inr ⟨by omega, by rw [preL_cp (by omega)]; rw [← hb3.2]; grind, rfl⟩
        have hv_131 : (lst_23 = -1 ∧ Crow_119 = Crow ∧ Crun_120 = Crun) ∨ (¬ lst_23 = -1 ∧ preL Crow_119 Gn.toNat = (bestK (noiL Glo Gn) (-1, []) (rowsC Gki Glo Gsh Bwo Bon Btw Bnu Bcnt Gn)).2 ∧ Crun_120 = 0) := by
          obtain ⟨bl, hb1, hb2⟩ := (by assumption : ∃ bl, ((lst_23 = -1 ∧ bl = []) ∨ (¬ lst_23 = -1 ∧ bl = preL Cquiet_29 Gn.toNat)) ∧ bestK (noiL Glo Gn) (lst_23, bl) R_30 = bestK (noiL Glo Gn) (-1, []) (rowsC Gki Glo Gsh Bwo Bon Btw Bnu Bcnt Gn))
          have hR9 : R_30 = [] := by first | exact hr9 | exact List.eq_nil_of_length_eq_zero (by omega)
          rw [hR9] at hb2
          have hb3 := best_nil hb2
          subst_vars
          first | exact hb3.1 | exact Or.inl ⟨by omega, rfl, rfl⟩ | exact Or.inr ⟨by omega, by rw [preL_cp (by omega)]; rw [← hb3.2]; grind, rfl⟩
        exact W.iret (v := zI lst_23) hx hb hr (fun t9 ht hW => ⟨⟨zI lst_23, (lst_23, Sline_67, Sopn_68, Sbarred_3, Smf_4, Sml_5, Sdep_69, Ser_70, Crow_119, Cquiet_29, Crun_120), rfl, ⟨rfl, ⟨hq_71, hq_72, hq_9, hv_125, hv_126, hv_127, hv_128, hq_121, hR_35, hv_129, hv_130, hv_131⟩⟩, by subst hAe; exact z_end hK hw ht hW⟩, by subst hAe; exact hw.2.2.F ht⟩) (by subst hAe; exact hw.2.2.2.2) dX7_best_96
set_option maxRecDepth 100000 in
set_option maxHeartbeats 4000000 in
theorem c_X7_noise (l : Launch) (D : va_G) (cI cB cZ : ClassId) (oG : Nat → Nat) (oC : Nat → Nat) (aCreader : Nat) (aCbars : Nat) (aCspare : Nat) (aCsearch : Nat) (aCbreach : Nat) (aCstreet : Nat) (aCparade : Nat) (aCtrial : Nat) (sz : Nat) (Gn : Int) (Gki : Int → Int) (Gle : Int → Int) (Glo : Int → Int) (Gta : Int → Int) (Gsh : Int → Int) (Crow : Int → Int) (Cquiet : Int → Int) (Crun : Int) (qGn : 0 ≤ Gn ∧ Gn ≤ 8) (qGki : RA Gki (0) 4) (qGle : RA Gle (0) 5) (qGlo : RA Glo (0) 9) (qGta : RA Gta (0) 9) (qGsh : RA Gsh (0) 9) (qCrow : RA Crow (0) 7) (qCquiet : RA Cquiet (0) 7) (qCrun : 0 ≤ Crun ∧ Crun ≤ 1) : Met l yX7_noise wsX7_noise ({ frames := 1, cells := 0, slots := 0, locals := 23 }) (va_Pc [.ref (oC 0)] (zPre D cI cB cZ sz (kG cI cB cZ oG Gn Gki Gle Glo Gta Gsh ++ kC cI cB cZ oC (oG 0) Crow Cquiet aCreader aCbars aCspare aCsearch aCbreach aCstreet aCparade aCtrial Crun))) (va_Qi (fun (r9 : Int32) (u9 : Int) => r9 = zI u9 ∧ ((u9 = noiseS Glo Crow (Gn - 1).toNat))) (fun u9 t9 => zAt D cI cB cZ (va_A (kG cI cB cZ oG Gn Gki Gle Glo Gta Gsh ++ kC cI cB cZ oC (oG 0) Crow Cquiet aCreader aCbars aCspare aCsearch aCbreach aCstreet aCparade aCtrial Crun) sz) (kG cI cB cZ oG Gn Gki Gle Glo Gta Gsh ++ kC cI cB cZ oC (oG 0) Crow Cquiet aCreader aCbars aCspare aCsearch aCbreach aCstreet aCparade aCtrial Crun) t9) (va_A (kG cI cB cZ oG Gn Gki Gle Glo Gta Gsh ++ kC cI cB cZ oC (oG 0) Crow Cquiet aCreader aCbars aCspare aCsearch aCbreach aCstreet aCparade aCtrial Crun) sz)) 0 0 (va_A (kG cI cB cZ oG Gn Gki Gle Glo Gta Gsh ++ kC cI cB cZ oC (oG 0) Crow Cquiet aCreader aCbars aCspare aCsearch aCbreach aCstreet aCparade aCtrial Crun) sz) := by
  refine Met.ofW (cc := cX7_noise) (maxL := 1) (ret := (some .int)) (by decide) rfl ?_
  intro pp ee s mm aa bw mt cd s₁ BL hml hv
  obtain ⟨rfl, hsz, hP, hK, hD0⟩ := hv
  have hx := BL.exec
  have hb := BL.bytes
  have hr := BL.returns
  have hts := atoms_spec (ws := wsX7_noise) BL.pre
  have hown : s.vm.findClass RX7 = some mm.cls := findClass_of_methodNamed BL.named
  have hlocks := BL.notSynchronized
  subst hsz
  generalize hAe : va_A (kG cI cB cZ oG Gn Gki Gle Glo Gta Gsh ++ kC cI cB cZ oC (oG 0) Crow Cquiet aCreader aCbars aCspare aCsearch aCbreach aCstreet aCparade aCtrial Crun) s.heap.size = A
  have hA : ∀ q : Nat, s.heap.size ≤ q → A q := fun q h => by rw [← hAe]; exact Or.inr h
  have hw : HW D A s.heap (kG cI cB cZ oG Gn Gki Gle Glo Gta Gsh ++ kC cI cB cZ oC (oG 0) Crow Cquiet aCreader aCbars aCspare aCsearch aCbreach aCstreet aCparade aCtrial Crun) s.heap [] := z_start hAe hP hD0
  clear hP hD0
  have hl := lv_entry ([.ref (oC 0)]) (n := 1) (Nat.le_of_ble_eq_true rfl)
  rw [lg_entry_eq]
  generalize (lg_sl ([.ref (oC 0)]) ++ List.replicate (1 - (lg_sl ([.ref (oC 0)])).length) Slot.unset).toArray = ls at hl ⊢
  have hl : lv_has ls 1 [(0, .ref (oC 0))] := hl
  have hinX7 : ∀ w ∈ wsX70, w ∈ wsX7_noise := by decide +kernel
  refine lv_aload_n hx hb dX7_noise_0 rfl (lv_at hl 0 rfl) ?_
  refine va_get (D := D) (ci := 7) (v := .ref (oG 0)) (C := RX7) (T := TX7) (N := 12) hx hb hts hinX7 hown hK hw.1 6 rfl rfl 0 (by decide) (hts (.fieldLink RX7 10 "CarnivalRoad" "guests" "LCarnivalRoad$Guests;") (by decide +kernel)) (fun _ h9 => h9) rfl dX7_noise_1 ?_
  refine lv_aload_n hx hb dX7_noise_4 rfl (lv_at hl 0 rfl) ?_
  refine va_get (D := D) (ci := 7) (v := .ref (oC 1)) (C := RX7) (T := TX7) (N := 12) hx hb hts hinX7 hown hK hw.1 6 rfl rfl 1 (by decide) (hts (.fieldLink RX7 16 "CarnivalRoad" "row" "[I") (by decide +kernel)) (fun _ h9 => h9) rfl dX7_noise_5 ?_
  have hF9 := z_free (wc := kG cI cB cZ oG Gn Gki Gle Glo Gta Gsh ++ [(oC 1, .inl (cI, 8, .inl (zA Crow)))]) hw hA [0, 1, 2, 3, 4, 5, 7] rfl
  refine va_calli (va_runV (As := [.ref (oC 1)]) (rest := []) ⟨hx, hb, hml, hown, hts⟩ (c_X2_noiseOf l D cI cB cZ oG (oC 1) s.heap.size Gn Gki Gle Glo Gta Gsh Crow (by omega) qGki qGle qGlo qGta qGsh qCrow) (cwV 1 hts gX7_noise_X2_noiseOf rfl rfl rfl (by decide +kernel) ⟨Nat.le_of_ble_eq_true rfl, Nat.le_of_ble_eq_true rfl⟩) ⟨zPre_blind, va_recv hK hw.1 (ci := 2) (q0 := 0) rfl rfl, z_pre hK hw [0, 1, 2, 3, 4, 5, 7] (by decide) rfl⟩ rfl rfl hl.1 rfl (lv_room (Nat.le_of_ble_eq_true rfl)) dX7_noise_8 ⟨Nat.zero_le _, Nat.zero_le _⟩) hw.2.2 (fun q _ h => hF9 q h) hF9 (fun r9 u9 t9 H_1 locs9 ht9 hvm9 hq9 hB9 hz9 hk9 hS9 => ?_)
  obtain ⟨r_2, rfl⟩ : ∃ z, z = u9 := ⟨_, rfl⟩
  try dsimp only at hq9 hB9
  obtain ⟨rfl, hq9⟩ := hq9
  obtain ⟨hq_3, hq_4⟩ := hq9
  have hw : HW D A s.heap (kG cI cB cZ oG Gn Gki Gle Glo Gta Gsh ++ kC cI cB cZ oC (oG 0) Crow Cquiet aCreader aCbars aCspare aCsearch aCbreach aCstreet aCparade aCtrial Crun) H_1 locs9 := z_after (wc := kG cI cB cZ oG Gn Gki Gle Glo Gta Gsh ++ [(oC 1, .inl (cI, 8, .inl (zA Crow)))]) hw [0, 1, 2, 3, 4, 5, 7] [6, 8] rfl rfl (by decide) (by decide) hF9 hk9 ht9 hB9 hS9 [2, 3, 4, 5, 6, 7, 0, 8, 1] (by decide) rfl
  clear hF9 ht9 hvm9 hB9 hz9 hk9 hS9
  have hv_5 : r_2 = noiseS Glo Crow (Gn - 1).toNat := by
    first | assumption | omega | grind
  exact W.iret (v := zI r_2) hx hb hr (fun t9 ht hW => ⟨⟨zI r_2, r_2, rfl, ⟨rfl, hv_5⟩, by subst hAe; exact z_end hK hw ht hW⟩, by subst hAe; exact hw.2.2.F ht⟩) (by subst hAe; exact hw.2.2.2.2) dX7_noise_11
set_option maxRecDepth 100000 in
set_option maxHeartbeats 4000000 in
theorem c_X7_why (l : Launch) (D : va_G) (cI cB cZ : ClassId) (oG : Nat → Nat) (oB : Nat → Nat) (oX : Nat → Nat) (oC : Nat → Nat) (aCreader : Nat) (aCspare : Nat) (aCsearch : Nat) (aCstreet : Nat) (aCparade : Nat) (aCtrial : Nat) (sz : Nat) (Gn : Int) (Gki : Int → Int) (Gle : Int → Int) (Glo : Int → Int) (Gta : Int → Int) (Gsh : Int → Int) (Bcnt : Int) (Bwo : Int → Int) (Bon : Int → Int) (Btw : Int → Int) (Bnu : Int → Int) (Xbar : Int) (Xle : Int) (Xgr : Int) (Crow : Int → Int) (Cquiet : Int → Int) (Crun : Int) (w : Int) (qGn : 0 ≤ Gn ∧ Gn ≤ 8) (qGki : RA Gki (0) 4) (qGle : RA Gle (0) 5) (qGlo : RA Glo (0) 9) (qGta : RA Gta (0) 9) (qGsh : RA Gsh (0) 9) (qBcnt : 0 ≤ Bcnt ∧ Bcnt ≤ 10) (qBwo : RA Bwo (0) 11) (qBon : RA Bon (0) 12) (qBtw : RA Btw (0) 12) (qBnu : RA Bnu (0) 18) (qXbar : -1 ≤ Xbar ∧ Xbar ≤ 10) (qXle : -1 ≤ Xle ∧ Xle ≤ 7) (qXgr : -1 ≤ Xgr ∧ Xgr ≤ 7) (qCrow : RA Crow (0) 7) (qCquiet : RA Cquiet (0) 7) (qCrun : 0 ≤ Crun ∧ Crun ≤ 1) (qw : -2147483648 ≤ w ∧ w ≤ 2147483647) : Met l yX7_why wsX7_why ({ frames := 4, cells := 0, slots := 0, locals := 97 }) (va_Pc [.ref (oC 0), .int (zI w)] (zPre D cI cB cZ sz (kG cI cB cZ oG Gn Gki Gle Glo Gta Gsh ++ kB cI cB cZ oB (oG 0) Bcnt Bwo Bon Btw Bnu ++ kX cI cB cZ oX Xbar Xle Xgr ++ kC cI cB cZ oC (oG 0) Crow Cquiet aCreader (oB 0) aCspare aCsearch (oX 0) aCstreet aCparade aCtrial Crun))) (va_Qi (fun (r9 : Int32) (u9 : Int × Int × Int × Int) => r9 = zI u9.1 ∧ (((-1 : Int) ≤ u9.2.1 ∧ u9.2.1 ≤ 10) ∧ ((-1 : Int) ≤ u9.2.2.1 ∧ u9.2.2.1 ≤ 7) ∧ ((-1 : Int) ≤ u9.2.2.2 ∧ u9.2.2.2 ≤ 7) ∧ (∃ b l g, whyP Gki Glo Gsh Bwo Bon Btw Bnu Crow Gn Bcnt b l g ∧ ((w = 0 ∧ u9.1 = b) ∨ (w = 1 ∧ u9.1 = l) ∨ (w = 2 ∧ u9.1 = g) ∨ ((w < 0 ∨ 2 < w) ∧ u9.1 = -1))))) (fun u9 t9 => zAt D cI cB cZ (va_A (kG cI cB cZ oG Gn Gki Gle Glo Gta Gsh ++ kB cI cB cZ oB (oG 0) Bcnt Bwo Bon Btw Bnu ++ kX cI cB cZ oX Xbar Xle Xgr ++ kC cI cB cZ oC (oG 0) Crow Cquiet aCreader (oB 0) aCspare aCsearch (oX 0) aCstreet aCparade aCtrial Crun) sz) (kG cI cB cZ oG Gn Gki Gle Glo Gta Gsh ++ kB cI cB cZ oB (oG 0) Bcnt Bwo Bon Btw Bnu ++ kX cI cB cZ oX (u9.2.1) (u9.2.2.1) (u9.2.2.2) ++ kC cI cB cZ oC (oG 0) Crow Cquiet aCreader (oB 0) aCspare aCsearch (oX 0) aCstreet aCparade aCtrial Crun) t9) (va_A (kG cI cB cZ oG Gn Gki Gle Glo Gta Gsh ++ kB cI cB cZ oB (oG 0) Bcnt Bwo Bon Btw Bnu ++ kX cI cB cZ oX Xbar Xle Xgr ++ kC cI cB cZ oC (oG 0) Crow Cquiet aCreader (oB 0) aCspare aCsearch (oX 0) aCstreet aCparade aCtrial Crun) sz)) 0 0 (va_A (kG cI cB cZ oG Gn Gki Gle Glo Gta Gsh ++ kB cI cB cZ oB (oG 0) Bcnt Bwo Bon Btw Bnu ++ kX cI cB cZ oX Xbar Xle Xgr ++ kC cI cB cZ oC (oG 0) Crow Cquiet aCreader (oB 0) aCspare aCsearch (oX 0) aCstreet aCparade aCtrial Crun) sz) := by
  refine Met.ofW (cc := cX7_why) (maxL := 2) (ret := (some .int)) (by decide) rfl ?_
  intro pp ee s mm aa bw mt cd s₁ BL hml hv
  obtain ⟨rfl, hsz, hP, hK, hD0⟩ := hv
  have hx := BL.exec
  have hb := BL.bytes
  have hr := BL.returns
  have hts := atoms_spec (ws := wsX7_why) BL.pre
  have hown : s.vm.findClass RX7 = some mm.cls := findClass_of_methodNamed BL.named
  have hlocks := BL.notSynchronized
  subst hsz
  generalize hAe : va_A (kG cI cB cZ oG Gn Gki Gle Glo Gta Gsh ++ kB cI cB cZ oB (oG 0) Bcnt Bwo Bon Btw Bnu ++ kX cI cB cZ oX Xbar Xle Xgr ++ kC cI cB cZ oC (oG 0) Crow Cquiet aCreader (oB 0) aCspare aCsearch (oX 0) aCstreet aCparade aCtrial Crun) s.heap.size = A
  have hA : ∀ q : Nat, s.heap.size ≤ q → A q := fun q h => by rw [← hAe]; exact Or.inr h
  have hw : HW D A s.heap (kG cI cB cZ oG Gn Gki Gle Glo Gta Gsh ++ kB cI cB cZ oB (oG 0) Bcnt Bwo Bon Btw Bnu ++ kX cI cB cZ oX Xbar Xle Xgr ++ kC cI cB cZ oC (oG 0) Crow Cquiet aCreader (oB 0) aCspare aCsearch (oX 0) aCstreet aCparade aCtrial Crun) s.heap [] := z_start hAe hP hD0
  clear hP hD0
  have hl := lv_entry ([.ref (oC 0), .int (zI w)]) (n := 2) (Nat.le_of_ble_eq_true rfl)
  rw [lg_entry_eq]
  generalize (lg_sl ([.ref (oC 0), .int (zI w)]) ++ List.replicate (2 - (lg_sl ([.ref (oC 0), .int (zI w)])).length) Slot.unset).toArray = ls at hl ⊢
  have hl : lv_has ls 2 [(0, .ref (oC 0)), (1, .int (zI w))] := hl
  have hinX1 : ∀ w ∈ wsX10, w ∈ wsX7_why := by decide +kernel
  have hinX7 : ∀ w ∈ wsX70, w ∈ wsX7_why := by decide +kernel
  refine lv_aload_n hx hb dX7_why_0 rfl (lv_at hl 0 rfl) ?_
  refine va_get (D := D) (ci := 7) (v := .ref (oX 0)) (C := RX7) (T := TX7) (N := 12) hx hb hts hinX7 hown hK hw.1 12 rfl rfl 7 (by decide) (hts (.fieldLink RX7 52 "CarnivalRoad" "breach" "LCarnivalRoad$Breach;") (by decide +kernel)) (fun _ h9 => h9) rfl dX7_why_1 ?_
  refine lv_aload_n hx hb dX7_why_4 rfl (lv_at hl 0 rfl) ?_
  refine va_get (D := D) (ci := 7) (v := .ref (oB 0)) (C := RX7) (T := TX7) (N := 12) hx hb hts hinX7 hown hK hw.1 12 rfl rfl 4 (by decide) (hts (.fieldLink RX7 35 "CarnivalRoad" "bars" "LCarnivalRoad$Bars;") (by decide +kernel)) (fun _ h9 => h9) rfl dX7_why_5 ?_
  refine lv_aload_n hx hb dX7_why_8 rfl (lv_at hl 0 rfl) ?_
  refine va_get (D := D) (ci := 7) (v := .ref (oG 0)) (C := RX7) (T := TX7) (N := 12) hx hb hts hinX7 hown hK hw.1 12 rfl rfl 0 (by decide) (hts (.fieldLink RX7 10 "CarnivalRoad" "guests" "LCarnivalRoad$Guests;") (by decide +kernel)) (fun _ h9 => h9) rfl dX7_why_9 ?_
  refine lv_aload_n hx hb dX7_why_12 rfl (lv_at hl 0 rfl) ?_
  refine va_get (D := D) (ci := 7) (v := .ref (oC 1)) (C := RX7) (T := TX7) (N := 12) hx hb hts hinX7 hown hK hw.1 12 rfl rfl 1 (by decide) (hts (.fieldLink RX7 16 "CarnivalRoad" "row" "[I") (by decide +kernel)) (fun _ h9 => h9) rfl dX7_why_13 ?_
  have hF9 := z_free (wc := kG cI cB cZ oG Gn Gki Gle Glo Gta Gsh ++ kB cI cB cZ oB (oG 0) Bcnt Bwo Bon Btw Bnu ++ kX cI cB cZ oX Xbar Xle Xgr ++ [(oC 1, .inl (cI, 8, .inl (zA Crow)))]) hw hA [0, 1, 2, 3, 4, 5, 6, 7, 8, 9, 10, 11, 13] rfl
  refine va_callv (va_runV (As := [.ref (oB 0), .ref (oG 0), .ref (oC 1)]) (rest := []) ⟨hx, hb, hml, hown, hts⟩ (c_X1_findIn l D cI cB cZ oG oB oX (oC 1) s.heap.size Gn Gki Gle Glo Gta Gsh Bcnt Bwo Bon Btw Bnu Xbar Xle Xgr Crow (by omega) qGki qGle qGlo qGta qGsh (by omega) qBwo qBon qBtw qBnu (by omega) (by omega) (by omega) qCrow) (cwV 3 hts gX7_why_X1_findIn rfl rfl rfl (by decide +kernel) ⟨Nat.le_of_ble_eq_true rfl, Nat.le_of_ble_eq_true rfl⟩) ⟨zPre_blind, va_recv hK hw.1 (ci := 1) (q0 := 11) rfl rfl, z_pre hK hw [0, 1, 2, 3, 4, 5, 6, 7, 8, 9, 10, 11, 13] (by decide) rfl⟩ rfl rfl hl.1 rfl (lv_room (Nat.le_of_ble_eq_true rfl)) dX7_why_16 ⟨Nat.zero_le _, Nat.zero_le _⟩) hw.2.2 (fun q _ h => hF9 q h) hF9 (fun u9 t9 H_1 locs9 ht9 hvm9 hq9 hB9 hz9 hk9 hS9 => ?_)
  obtain ⟨Xbar_2, Xle_3, Xgr_4⟩ := u9
  try dsimp only at hq9 hB9
  obtain ⟨hq_5, hq_6, hq_7, hq_8⟩ := hq9
  have hw : HW D A s.heap (kG cI cB cZ oG Gn Gki Gle Glo Gta Gsh ++ kB cI cB cZ oB (oG 0) Bcnt Bwo Bon Btw Bnu ++ kX cI cB cZ oX Xbar_2 Xle_3 Xgr_4 ++ kC cI cB cZ oC (oG 0) Crow Cquiet aCreader (oB 0) aCspare aCsearch (oX 0) aCstreet aCparade aCtrial Crun) H_1 locs9 := z_after (wc := kG cI cB cZ oG Gn Gki Gle Glo Gta Gsh ++ kB cI cB cZ oB (oG 0) Bcnt Bwo Bon Btw Bnu ++ kX cI cB cZ oX Xbar Xle Xgr ++ [(oC 1, .inl (cI, 8, .inl (zA Crow)))]) hw [0, 1, 2, 3, 4, 5, 6, 7, 8, 9, 10, 11, 13] [12, 14] rfl rfl (by decide) (by decide) hF9 hk9 ht9 hB9 hS9 [2, 3, 4, 5, 6, 7, 8, 9, 10, 11, 12, 13, 0, 14, 1] (by decide) rfl
  clear hF9 ht9 hvm9 hB9 hz9 hk9 hS9
  refine lv_iload_n hx hb dX7_why_19 rfl (lv_at hl 1 rfl) ?_
  rcases (show (w < 0 ∨ 2 < w) ∨ w = 0 ∨ w = 1 ∨ w = 2 by omega) with hc_9 | hc_9 | hc_9 | hc_9
  · skip
    refine z_tableOut (tgt := 72) hx hb (by omega) hc_9 dX7_why_20 (by decide) ?_
    refine z_iconst hx hb dX7_why_72 ?_
    have hv_10 : (-1 : Int) ≤ Xbar_2 ∧ Xbar_2 ≤ 10 := by
      first | assumption | omega | grind
    have hv_11 : (-1 : Int) ≤ Xle_3 ∧ Xle_3 ≤ 7 := by
      first | assumption | omega | grind
    have hv_12 : (-1 : Int) ≤ Xgr_4 ∧ Xgr_4 ≤ 7 := by
      first | assumption | omega | grind
    have hv_13 : ∃ b l g, whyP Gki Glo Gsh Bwo Bon Btw Bnu Crow Gn Bcnt b l g ∧ ((w = 0 ∧ ((-1) : Int) = b) ∨ (w = 1 ∧ ((-1) : Int) = l) ∨ (w = 2 ∧ ((-1) : Int) = g) ∨ ((w < 0 ∨ 2 < w) ∧ ((-1) : Int) = -1)) := by
      exact ⟨_, _, _, by assumption, by omega⟩
    exact W.iret (v := zI (-1)) hx hb hr (fun t9 ht hW => ⟨⟨zI (-1), ((-1), Xbar_2, Xle_3, Xgr_4), rfl, ⟨rfl, ⟨hv_10, hv_11, hv_12, hv_13⟩⟩, by subst hAe; exact z_end hK hw ht hW⟩, by subst hAe; exact hw.2.2.F ht⟩) (by subst hAe; exact hw.2.2.2.2) dX7_why_73
  · skip
    refine z_tableIn (k := 0) (off := 28) (tgt := 48) hx hb hc_9 dX7_why_20 (by decide) (by decide) rfl (by decide) ?_
    refine lv_aload_n hx hb dX7_why_48 rfl (lv_at hl 0 rfl) ?_
    refine va_get (D := D) (ci := 7) (v := .ref (oX 0)) (C := RX7) (T := TX7) (N := 12) hx hb hts hinX7 hown hK hw.1 12 rfl rfl 7 (by decide) (hts (.fieldLink RX7 52 "CarnivalRoad" "breach" "LCarnivalRoad$Breach;") (by decide +kernel)) (fun _ h9 => h9) rfl dX7_why_49 ?_
    refine va_get (D := D) (ci := 1) (v := .int (zI Xbar_2)) (C := RX1) (T := TX1) (N := 3) hx hb hts hinX1 hown hK hw.1 11 rfl rfl 0 (by decide) (hts (.fieldLink RX7 175 "CarnivalRoad$Breach" "bar" "I") (by decide +kernel)) (fun _ h9 => h9) rfl dX7_why_52 ?_
    have hv_14 : (-1 : Int) ≤ Xbar_2 ∧ Xbar_2 ≤ 10 := by
      first | assumption | omega | grind
    have hv_15 : (-1 : Int) ≤ Xle_3 ∧ Xle_3 ≤ 7 := by
      first | assumption | omega | grind
    have hv_16 : (-1 : Int) ≤ Xgr_4 ∧ Xgr_4 ≤ 7 := by
      first | assumption | omega | grind
    have hv_17 : ∃ b l g, whyP Gki Glo Gsh Bwo Bon Btw Bnu Crow Gn Bcnt b l g ∧ ((w = 0 ∧ Xbar_2 = b) ∨ (w = 1 ∧ Xbar_2 = l) ∨ (w = 2 ∧ Xbar_2 = g) ∨ ((w < 0 ∨ 2 < w) ∧ Xbar_2 = -1)) := by
      exact ⟨_, _, _, by assumption, by omega⟩
    exact W.iret (v := zI Xbar_2) hx hb hr (fun t9 ht hW => ⟨⟨zI Xbar_2, (Xbar_2, Xbar_2, Xle_3, Xgr_4), rfl, ⟨rfl, ⟨hv_14, hv_15, hv_16, hv_17⟩⟩, by subst hAe; exact z_end hK hw ht hW⟩, by subst hAe; exact hw.2.2.F ht⟩) (by subst hAe; exact hw.2.2.2.2) dX7_why_55
  · skip
    refine z_tableIn (k := 1) (off := 36) (tgt := 56) hx hb hc_9 dX7_why_20 (by decide) (by decide) rfl (by decide) ?_
    refine lv_aload_n hx hb dX7_why_56 rfl (lv_at hl 0 rfl) ?_
    refine va_get (D := D) (ci := 7) (v := .ref (oX 0)) (C := RX7) (T := TX7) (N := 12) hx hb hts hinX7 hown hK hw.1 12 rfl rfl 7 (by decide) (hts (.fieldLink RX7 52 "CarnivalRoad" "breach" "LCarnivalRoad$Breach;") (by decide +kernel)) (fun _ h9 => h9) rfl dX7_why_57 ?_
    refine va_get (D := D) (ci := 1) (v := .int (zI Xle_3)) (C := RX1) (T := TX1) (N := 3) hx hb hts hinX1 hown hK hw.1 11 rfl rfl 1 (by decide) (hts (.fieldLink RX7 178 "CarnivalRoad$Breach" "lesser" "I") (by decide +kernel)) (fun _ h9 => h9) rfl dX7_why_60 ?_
    have hv_18 : (-1 : Int) ≤ Xbar_2 ∧ Xbar_2 ≤ 10 := by
      first | assumption | omega | grind
    have hv_19 : (-1 : Int) ≤ Xle_3 ∧ Xle_3 ≤ 7 := by
      first | assumption | omega | grind
    have hv_20 : (-1 : Int) ≤ Xgr_4 ∧ Xgr_4 ≤ 7 := by
      first | assumption | omega | grind
    have hv_21 : ∃ b l g, whyP Gki Glo Gsh Bwo Bon Btw Bnu Crow Gn Bcnt b l g ∧ ((w = 0 ∧ Xle_3 = b) ∨ (w = 1 ∧ Xle_3 = l) ∨ (w = 2 ∧ Xle_3 = g) ∨ ((w < 0 ∨ 2 < w) ∧ Xle_3 = -1)) := by
      exact ⟨_, _, _, by assumption, by omega⟩
    exact W.iret (v := zI Xle_3) hx hb hr (fun t9 ht hW => ⟨⟨zI Xle_3, (Xle_3, Xbar_2, Xle_3, Xgr_4), rfl, ⟨rfl, ⟨hv_18, hv_19, hv_20, hv_21⟩⟩, by subst hAe; exact z_end hK hw ht hW⟩, by subst hAe; exact hw.2.2.F ht⟩) (by subst hAe; exact hw.2.2.2.2) dX7_why_63
  · skip
    refine z_tableIn (k := 2) (off := 44) (tgt := 64) hx hb hc_9 dX7_why_20 (by decide) (by decide) rfl (by decide) ?_
    refine lv_aload_n hx hb dX7_why_64 rfl (lv_at hl 0 rfl) ?_
    refine va_get (D := D) (ci := 7) (v := .ref (oX 0)) (C := RX7) (T := TX7) (N := 12) hx hb hts hinX7 hown hK hw.1 12 rfl rfl 7 (by decide) (hts (.fieldLink RX7 52 "CarnivalRoad" "breach" "LCarnivalRoad$Breach;") (by decide +kernel)) (fun _ h9 => h9) rfl dX7_why_65 ?_
    refine va_get (D := D) (ci := 1) (v := .int (zI Xgr_4)) (C := RX1) (T := TX1) (N := 3) hx hb hts hinX1 hown hK hw.1 11 rfl rfl 2 (by decide) (hts (.fieldLink RX7 181 "CarnivalRoad$Breach" "greater" "I") (by decide +kernel)) (fun _ h9 => h9) rfl dX7_why_68 ?_
    have hv_22 : (-1 : Int) ≤ Xbar_2 ∧ Xbar_2 ≤ 10 := by
      first | assumption | omega | grind
    have hv_23 : (-1 : Int) ≤ Xle_3 ∧ Xle_3 ≤ 7 := by
      first | assumption | omega | grind
    have hv_24 : (-1 : Int) ≤ Xgr_4 ∧ Xgr_4 ≤ 7 := by
      first | assumption | omega | grind
    have hv_25 : ∃ b l g, whyP Gki Glo Gsh Bwo Bon Btw Bnu Crow Gn Bcnt b l g ∧ ((w = 0 ∧ Xgr_4 = b) ∨ (w = 1 ∧ Xgr_4 = l) ∨ (w = 2 ∧ Xgr_4 = g) ∨ ((w < 0 ∨ 2 < w) ∧ Xgr_4 = -1)) := by
      exact ⟨_, _, _, by assumption, by omega⟩
    exact W.iret (v := zI Xgr_4) hx hb hr (fun t9 ht hW => ⟨⟨zI Xgr_4, (Xgr_4, Xbar_2, Xle_3, Xgr_4), rfl, ⟨rfl, ⟨hv_22, hv_23, hv_24, hv_25⟩⟩, by subst hAe; exact z_end hK hw ht hW⟩, by subst hAe; exact hw.2.2.F ht⟩) (by subst hAe; exact hw.2.2.2.2) dX7_why_71
