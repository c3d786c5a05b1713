set_option maxRecDepth 100000 in
set_option maxHeartbeats 4000000 in
theorem c_X2_init (l : Launch) (D : va_G) (cI cB cZ : ClassId) (a : Nat) (sz : Nat) : Met l yX2_init wsX2_init ({ frames := 1, cells := 5, slots := 40, locals := 12 }) (va_Pc [.ref a] (zPre D cI cB cZ sz ([(a, .inr (2, [.int (zI 0), .null, .null, .null, .null, .null]))]))) (va_Qv (fun u9 : Nat → Nat => u9 0 = a) (fun u9 t9 => zAt D cI cB cZ (va_A ([(a, .inr (2, [.int (zI 0), .null, .null, .null, .null, .null]))]) sz) (kG cI cB cZ u9 0 (fun _ => 0) (fun _ => 0) (fun _ => 0) (fun _ => 0) (fun _ => 0)) t9) (va_A ([(a, .inr (2, [.int (zI 0), .null, .null, .null, .null, .null]))]) sz)) 5 40 (va_A ([(a, .inr (2, [.int (zI 0), .null, .null, .null, .null, .null]))]) sz) := by
  refine Met.ofW (cc := cX2_init) (maxL := 1) (ret := none) (by decide) rfl ?_
  intro pp ee s mm aa bw mt cd s₁ BL hml hv
  obtain ⟨rfl, hsz, hP, hK, hD0⟩ := hv
  have hx := BL.exec
  have hb := BL.bytes
  have hr := BL.returns
  have hts := atoms_spec (ws := wsX2_init) BL.pre
  have hown : s.vm.findClass RX2 = some mm.cls := findClass_of_methodNamed BL.named
  have hlocks := BL.notSynchronized
  have hinit : mt.name = "<init>" := (name_of_methodNamed BL.named BL.method).1
  subst hsz
  generalize hAe : va_A ([(a, .inr (2, [.int (zI 0), .null, .null, .null, .null, .null]))]) s.heap.size = A
  have hA : ∀ q : Nat, s.heap.size ≤ q → A q := fun q h => by rw [← hAe]; exact Or.inr h
  have hw : HW D A s.heap ([(a, .inr (2, [.int (zI 0), .null, .null, .null, .null, .null]))]) s.heap [] := z_start hAe hP hD0
  clear hP hD0
  have hl := lv_entry ([.ref a]) (n := 1) (Nat.le_of_ble_eq_true rfl)
  rw [lg_entry_eq]
  generalize (lg_sl ([.ref a]) ++ List.replicate (1 - (lg_sl ([.ref a])).length) Slot.unset).toArray = ls at hl ⊢
  have hl : lv_has ls 1 [(0, .ref a)] := hl
  have hinX2 : ∀ w ∈ wsX20, w ∈ wsX2_init := by decide +kernel
  refine lv_aload_n hx hb dX2_init_0 rfl (lv_at hl 0 rfl) ?_
  refine W.objInit hx hb hown (hts (.methodLink RX2 3 objectInit) (by decide +kernel)) (hts (.instanceMethod objectInit) (by decide +kernel)) (hts _ (List.mem_cons_of_mem _ (List.mem_of_getElem? (i := 2) rfl))) rfl (hl.1.trans hml.symm) rfl dX2_init_1 (Nat.le_of_ble_eq_true rfl) (Nat.le_of_ble_eq_true rfl) ?_
  refine W.eq (g2 := F0 mm 4 ls []) rfl ?_
  refine lv_aload_n hx hb dX2_init_4 rfl (lv_at hl 0 rfl) ?_
  refine z_iconst hx hb dX2_init_5 ?_
  refine z_put (D := D) (ci := 2) (v := .int (zI 0)) (ty := .int) (C := RX2) (T := TX2) (N := 6) (ws2 := [(a, .inr (2, [.int (zI 0), .null, .null, .null, .null, .null]))]) hx hb hts hinX2 tyX2 tyX2_ok nmX2 hown hK hw 0 rfl rfl 0 (by decide) (hts (.fieldLink RX2 9 "CarnivalRoad$Guests" "count" "I") (by decide +kernel)) (fun _ h9 => h9) rfl (by decide +kernel) rfl rfl (Nat.le_of_ble_eq_true rfl) dX2_init_6 rfl (fun H locs hw => ?_)
  refine lv_aload_n hx hb dX2_init_9 rfl (lv_at hl 0 rfl) ?_
  refine z_bipush hx hb dX2_init_10 (by decide) ?_
  refine z_newI (N := 8) hx hb (hts (.arrayClass .int) (by decide +kernel)) hK hw hA (by decide) (Nat.le_of_ble_eq_true rfl) (Nat.le_of_ble_eq_true rfl) dX2_init_12 (fun q1 H hw => ?_)
  refine z_putF (D := D) (ci := 2) (v := .ref q1) (ty := .array .int) (C := RX2) (T := TX2) (N := 6) (ws2 := [(a, .inr (2, [.int (zI 0), .ref q1, .null, .null, .null, .null]))] ++ [(q1, .inl (cI, 8, .inl (zA (fun _ => 0))))]) hx hb hts hinX2 tyX2 tyX2_ok nmX2 hown hK hw 0 rfl rfl 1 (by decide) (hts (.fieldLink RX2 15 "CarnivalRoad$Guests" "kinds" "[I") (by decide +kernel)) (fun _ h9 => h9) rfl hinit rfl (by decide +kernel) rfl rfl (Nat.le_of_ble_eq_true rfl) dX2_init_14 rfl (fun H locs hw => ?_)
  refine lv_aload_n hx hb dX2_init_17 rfl (lv_at hl 0 rfl) ?_
  refine z_bipush hx hb dX2_init_18 (by decide) ?_
  refine z_newI (N := 8) hx hb (hts (.arrayClass .int) (by decide +kernel)) hK hw hA (by decide) (Nat.le_of_ble_eq_true rfl) (Nat.le_of_ble_eq_true rfl) dX2_init_20 (fun q2 H hw => ?_)
  refine z_putF (D := D) (ci := 2) (v := .ref q2) (ty := .array .int) (C := RX2) (T := TX2) (N := 6) (ws2 := [(a, .inr (2, [.int (zI 0), .ref q1, .ref q2, .null, .null, .null]))] ++ [(q1, .inl (cI, 8, .inl (zA (fun _ => 0))))] ++ [(q2, .inl (cI, 8, .inl (zA (fun _ => 0))))]) hx hb hts hinX2 tyX2 tyX2_ok nmX2 hown hK hw 0 rfl rfl 2 (by decide) (hts (.fieldLink RX2 19 "CarnivalRoad$Guests" "lengths" "[I") (by decide +kernel)) (fun _ h9 => h9) rfl hinit rfl (by decide +kernel) rfl rfl (Nat.le_of_ble_eq_true rfl) dX2_init_22 rfl (fun H locs hw => ?_)
  refine lv_aload_n hx hb dX2_init_25 rfl (lv_at hl 0 rfl) ?_
  refine z_bipush hx hb dX2_init_26 (by decide) ?_
  refine z_newI (N := 8) hx hb (hts (.arrayClass .int) (by decide +kernel)) hK hw hA (by decide) (Nat.le_of_ble_eq_true rfl) (Nat.le_of_ble_eq_true rfl) dX2_init_28 (fun q3 H hw => ?_)
  refine z_putF (D := D) (ci := 2) (v := .ref q3) (ty := .array .int) (C := RX2) (T := TX2) (N := 6) (ws2 := [(a, .inr (2, [.int (zI 0), .ref q1, .ref q2, .ref q3, .null, .null]))] ++ [(q1, .inl (cI, 8, .inl (zA (fun _ => 0))))] ++ [(q2, .inl (cI, 8, .inl (zA (fun _ => 0))))] ++ [(q3, .inl (cI, 8, .inl (zA (fun _ => 0))))]) hx hb hts hinX2 tyX2 tyX2_ok nmX2 hown hK hw 0 rfl rfl 3 (by decide) (hts (.fieldLink RX2 22 "CarnivalRoad$Guests" "louds" "[I") (by decide +kernel)) (fun _ h9 => h9) rfl hinit rfl (by decide +kernel) rfl rfl (Nat.le_of_ble_eq_true rfl) dX2_init_30 rfl (fun H locs hw => ?_)
  refine lv_aload_n hx hb dX2_init_33 rfl (lv_at hl 0 rfl) ?_
  refine z_bipush hx hb dX2_init_34 (by decide) ?_
  refine z_newI (N := 8) hx hb (hts (.arrayClass .int) (by decide +kernel)) hK hw hA (by decide) (Nat.le_of_ble_eq_true rfl) (Nat.le_of_ble_eq_true rfl) dX2_init_36 (fun q4 H hw => ?_)
  refine z_putF (D := D) (ci := 2) (v := .ref q4) (ty := .array .int) (C := RX2) (T := TX2) (N := 6) (ws2 := [(a, .inr (2, [.int (zI 0), .ref q1, .ref q2, .ref q3, .ref q4, .null]))] ++ [(q1, .inl (cI, 8, .inl (zA (fun _ => 0))))] ++ [(q2, .inl (cI, 8, .inl (zA (fun _ => 0))))] ++ [(q3, .inl (cI, 8, .inl (zA (fun _ => 0))))] ++ [(q4, .inl (cI, 8, .inl (zA (fun _ => 0))))]) hx hb hts hinX2 tyX2 tyX2_ok nmX2 hown hK hw 0 rfl rfl 4 (by decide) (hts (.fieldLink RX2 25 "CarnivalRoad$Guests" "talls" "[I") (by decide +kernel)) (fun _ h9 => h9) rfl hinit rfl (by decide +kernel) rfl rfl (Nat.le_of_ble_eq_true rfl) dX2_init_38 rfl (fun H locs hw => ?_)
  refine lv_aload_n hx hb dX2_init_41 rfl (lv_at hl 0 rfl) ?_
  refine z_bipush hx hb dX2_init_42 (by decide) ?_
  refine z_newI (N := 8) hx hb (hts (.arrayClass .int) (by decide +kernel)) hK hw hA (by decide) (Nat.le_of_ble_eq_true rfl) (Nat.le_of_ble_eq_true rfl) dX2_init_44 (fun q5 H hw => ?_)
  refine z_putF (D := D) (ci := 2) (v := .ref q5) (ty := .array .int) (C := RX2) (T := TX2) (N := 6) (ws2 := [(a, .inr (2, [.int (zI 0), .ref q1, .ref q2, .ref q3, .ref q4, .ref q5]))] ++ [(q1, .inl (cI, 8, .inl (zA (fun _ => 0))))] ++ [(q2, .inl (cI, 8, .inl (zA (fun _ => 0))))] ++ [(q3, .inl (cI, 8, .inl (zA (fun _ => 0))))] ++ [(q4, .inl (cI, 8, .inl (zA (fun _ => 0))))] ++ [(q5, .inl (cI, 8, .inl (zA (fun _ => 0))))]) hx hb hts hinX2 tyX2 tyX2_ok nmX2 hown hK hw 0 rfl rfl 5 (by decide) (hts (.fieldLink RX2 28 "CarnivalRoad$Guests" "shys" "[I") (by decide +kernel)) (fun _ h9 => h9) rfl hinit rfl (by decide +kernel) rfl rfl (Nat.le_of_ble_eq_true rfl) dX2_init_46 rfl (fun H locs hw => ?_)
  exact W.vret hx hb hr (fun t9 ht hW => ⟨⟨(adN [a, q1, q2, q3, q4, q5]), rfl, rfl, by subst hAe; exact z_end hK (z_perm (ws2 := kG cI cB cZ (adN [a, q1, q2, q3, q4, q5]) 0 (fun _ => 0) (fun _ => 0) (fun _ => 0) (fun _ => 0) (fun _ => 0)) hw [0, 1, 2, 3, 4, 5] (by decide) rfl) ht hW⟩, by subst hAe; exact hw.2.2.F ht⟩) (by subst hAe; exact hw.2.2.2.2) dX2_init_49
set_option maxRecDepth 100000 in
set_option maxHeartbeats 4000000 in
theorem c_X4_init (l : Launch) (D : va_G) (cI cB cZ : ClassId) (a : Nat) (g : Nat) (sz : Nat) : Met l yX4_init wsX4_init ({ frames := 1, cells := 1, slots := 400, locals := 12 }) (va_Pc [.ref a, .ref g] (zPre D cI cB cZ sz ([(a, .inr (4, [.null, .null, .int (zI 0), .int (zI 0), .int (zI 0), .int (zI 0), .int (zI 0), .int (zI 0), .int (zI 0)]))]))) (va_Qv (fun u9 : Nat → Nat => u9 0 = a) (fun u9 t9 => zAt D cI cB cZ (va_A ([(a, .inr (4, [.null, .null, .int (zI 0), .int (zI 0), .int (zI 0), .int (zI 0), .int (zI 0), .int (zI 0), .int (zI 0)]))]) sz) (kR cI cB cZ u9 g (fun _ => 0) 0 0 (-1) 9 0 0 0) t9) (va_A ([(a, .inr (4, [.null, .null, .int (zI 0), .int (zI 0), .int (zI 0), .int (zI 0), .int (zI 0), .int (zI 0), .int (zI 0)]))]) sz)) 1 400 (va_A ([(a, .inr (4, [.null, .null, .int (zI 0), .int (zI 0), .int (zI 0), .int (zI 0), .int (zI 0), .int (zI 0), .int (zI 0)]))]) sz) := by
  refine Met.ofW (cc := cX4_init) (maxL := 2) (ret := none) (by decide) rfl ?_
  intro pp ee s mm aa bw mt cd s₁ BL hml hv
  obtain ⟨rfl, hsz, hP, hK, hD0⟩ := hv
  have hx := BL.exec
  have hb := BL.bytes
  have hr := BL.returns
  have hts := atoms_spec (ws := wsX4_init) BL.pre
  have hown : s.vm.findClass RX4 = some mm.cls := findClass_of_methodNamed BL.named
  have hlocks := BL.notSynchronized
  have hinit : mt.name = "<init>" := (name_of_methodNamed BL.named BL.method).1
  subst hsz
  generalize hAe : va_A ([(a, .inr (4, [.null, .null, .int (zI 0), .int (zI 0), .int (zI 0), .int (zI 0), .int (zI 0), .int (zI 0), .int (zI 0)]))]) s.heap.size = A
  have hA : ∀ q : Nat, s.heap.size ≤ q → A q := fun q h => by rw [← hAe]; exact Or.inr h
  have hw : HW D A s.heap ([(a, .inr (4, [.null, .null, .int (zI 0), .int (zI 0), .int (zI 0), .int (zI 0), .int (zI 0), .int (zI 0), .int (zI 0)]))]) s.heap [] := z_start hAe hP hD0
  clear hP hD0
  have hl := lv_entry ([.ref a, .ref g]) (n := 2) (Nat.le_of_ble_eq_true rfl)
  rw [lg_entry_eq]
  generalize (lg_sl ([.ref a, .ref g]) ++ List.replicate (2 - (lg_sl ([.ref a, .ref g])).length) Slot.unset).toArray = ls at hl ⊢
  have hl : lv_has ls 2 [(0, .ref a), (1, .ref g)] := hl
  have hinX4 : ∀ w ∈ wsX40, w ∈ wsX4_init := by decide +kernel
  refine lv_aload_n hx hb dX4_init_0 rfl (lv_at hl 0 rfl) ?_
  refine W.objInit hx hb hown (hts (.methodLink RX4 3 objectInit) (by decide +kernel)) (hts (.instanceMethod objectInit) (by decide +kernel)) (hts _ (List.mem_cons_of_mem _ (List.mem_of_getElem? (i := 2) rfl))) rfl (hl.1.trans hml.symm) rfl dX4_init_1 (Nat.le_of_ble_eq_true rfl) (Nat.le_of_ble_eq_true rfl) ?_
  refine W.eq (g2 := F0 mm 4 ls []) rfl ?_
  refine lv_aload_n hx hb dX4_init_4 rfl (lv_at hl 0 rfl) ?_
  refine z_sipush hx hb dX4_init_5 (by decide) ?_
  refine z_newB (N := 400) hx hb (hts (.arrayClass .byte) (by decide +kernel)) hK hw hA (by decide) (Nat.le_of_ble_eq_true rfl) (Nat.le_of_ble_eq_true rfl) dX4_init_8 (fun q1 H hw => ?_)
  refine z_putF (D := D) (ci := 4) (v := .ref q1) (ty := .array .byte) (C := RX4) (T := TX4) (N := 9) (ws2 := [(a, .inr (4, [.null, .ref q1, .int (zI 0), .int (zI 0), .int (zI 0), .int (zI 0), .int (zI 0), .int (zI 0), .int (zI 0)]))] ++ [(q1, .inl (cB, 400, .inl (zA (fun _ => 0))))]) hx hb hts hinX4 tyX4 tyX4_ok nmX4 hown hK hw 0 rfl rfl 1 (by decide) (hts (.fieldLink RX4 11 "CarnivalRoad$Reader" "tape" "[B") (by decide +kernel)) (fun _ h9 => h9) rfl hinit rfl (by decide +kernel) rfl rfl (Nat.le_of_ble_eq_true rfl) dX4_init_10 rfl (fun H locs hw => ?_)
  refine lv_aload_n hx hb dX4_init_13 rfl (lv_at hl 0 rfl) ?_
  refine z_iconst hx hb dX4_init_14 ?_
  refine z_put (D := D) (ci := 4) (v := .int (zI 0)) (ty := .int) (C := RX4) (T := TX4) (N := 9) (ws2 := [(a, .inr (4, [.null, .ref q1, .int (zI 0), .int (zI 0), .int (zI 0), .int (zI 0), .int (zI 0), .int (zI 0), .int (zI 0)]))] ++ [(q1, .inl (cB, 400, .inl (zA (fun _ => 0))))]) hx hb hts hinX4 tyX4 tyX4_ok nmX4 hown hK hw 0 rfl rfl 2 (by decide) (hts (.fieldLink RX4 15 "CarnivalRoad$Reader" "length" "I") (by decide +kernel)) (fun _ h9 => h9) rfl (by decide +kernel) rfl rfl (Nat.le_of_ble_eq_true rfl) dX4_init_15 rfl (fun H locs hw => ?_)
  refine lv_aload_n hx hb dX4_init_18 rfl (lv_at hl 0 rfl) ?_
  refine z_iconst hx hb dX4_init_19 ?_
  refine z_put (D := D) (ci := 4) (v := .int (zI 0)) (ty := .int) (C := RX4) (T := TX4) (N := 9) (ws2 := [(a, .inr (4, [.null, .ref q1, .int (zI 0), .int (zI 0), .int (zI 0), .int (zI 0), .int (zI 0), .int (zI 0), .int (zI 0)]))] ++ [(q1, .inl (cB, 400, .inl (zA (fun _ => 0))))]) hx hb hts hinX4 tyX4 tyX4_ok nmX4 hown hK hw 0 rfl rfl 3 (by decide) (hts (.fieldLink RX4 19 "CarnivalRoad$Reader" "faultNumber" "I") (by decide +kernel)) (fun _ h9 => h9) rfl (by decide +kernel) rfl rfl (Nat.le_of_ble_eq_true rfl) dX4_init_20 rfl (fun H locs hw => ?_)
  refine lv_aload_n hx hb dX4_init_23 rfl (lv_at hl 0 rfl) ?_
  refine z_iconst hx hb dX4_init_24 ?_
  refine z_put (D := D) (ci := 4) (v := .int (zI (-1))) (ty := .int) (C := RX4) (T := TX4) (N := 9) (ws2 := [(a, .inr (4, [.null, .ref q1, .int (zI 0), .int (zI 0), .int (zI (-1)), .int (zI 0), .int (zI 0), .int (zI 0), .int (zI 0)]))] ++ [(q1, .inl (cB, 400, .inl (zA (fun _ => 0))))]) hx hb hts hinX4 tyX4 tyX4_ok nmX4 hown hK hw 0 rfl rfl 4 (by decide) (hts (.fieldLink RX4 22 "CarnivalRoad$Reader" "faultPlace" "I") (by decide +kernel)) (fun _ h9 => h9) rfl (by decide +kernel) rfl rfl (Nat.le_of_ble_eq_true rfl) dX4_init_25 rfl (fun H locs hw => ?_)
  refine lv_aload_n hx hb dX4_init_28 rfl (lv_at hl 0 rfl) ?_
  refine z_bipush hx hb dX4_init_29 (by decide) ?_
  refine z_put (D := D) (ci := 4) (v := .int (zI 9)) (ty := .int) (C := RX4) (T := TX4) (N := 9) (ws2 := [(a, .inr (4, [.null, .ref q1, .int (zI 0), .int (zI 0), .int (zI (-1)), .int (zI 9), .int (zI 0), .int (zI 0), .int (zI 0)]))] ++ [(q1, .inl (cB, 400, .inl (zA (fun _ => 0))))]) hx hb hts hinX4 tyX4 tyX4_ok nmX4 hown hK hw 0 rfl rfl 5 (by decide) (hts (.fieldLink RX4 25 "CarnivalRoad$Reader" "token" "I") (by decide +kernel)) (fun _ h9 => h9) rfl (by decide +kernel) rfl rfl (Nat.le_of_ble_eq_true rfl) dX4_init_31 rfl (fun H locs hw => ?_)
  refine lv_aload_n hx hb dX4_init_34 rfl (lv_at hl 0 rfl) ?_
  refine z_iconst hx hb dX4_init_35 ?_
  refine z_put (D := D) (ci := 4) (v := .int (zI 0)) (ty := .int) (C := RX4) (T := TX4) (N := 9) (ws2 := [(a, .inr (4, [.null, .ref q1, .int (zI 0), .int (zI 0), .int (zI (-1)), .int (zI 9), .int (zI 0), .int (zI 0), .int (zI 0)]))] ++ [(q1, .inl (cB, 400, .inl (zA (fun _ => 0))))]) hx hb hts hinX4 tyX4 tyX4_ok nmX4 hown hK hw 0 rfl rfl 6 (by decide) (hts (.fieldLink RX4 28 "CarnivalRoad$Reader" "tokenStart" "I") (by decide +kernel)) (fun _ h9 => h9) rfl (by decide +kernel) rfl rfl (Nat.le_of_ble_eq_true rfl) dX4_init_36 rfl (fun H locs hw => ?_)
  refine lv_aload_n hx hb dX4_init_39 rfl (lv_at hl 0 rfl) ?_
  refine z_iconst hx hb dX4_init_40 ?_
  refine z_put (D := D) (ci := 4) (v := .int (zI 0)) (ty := .int) (C := RX4) (T := TX4) (N := 9) (ws2 := [(a, .inr (4, [.null, .ref q1, .int (zI 0), .int (zI 0), .int (zI (-1)), .int (zI 9), .int (zI 0), .int (zI 0), .int (zI 0)]))] ++ [(q1, .inl (cB, 400, .inl (zA (fun _ => 0))))]) hx hb hts hinX4 tyX4 tyX4_ok nmX4 hown hK hw 0 rfl rfl 7 (by decide) (hts (.fieldLink RX4 31 "CarnivalRoad$Reader" "tokenEnd" "I") (by decide +kernel)) (fun _ h9 => h9) rfl (by decide +kernel) rfl rfl (Nat.le_of_ble_eq_true rfl) dX4_init_41 rfl (fun H locs hw => ?_)
  refine lv_aload_n hx hb dX4_init_44 rfl (lv_at hl 0 rfl) ?_
  refine z_iconst hx hb dX4_init_45 ?_
  refine z_put (D := D) (ci := 4) (v := .int (zI 0)) (ty := .int) (C := RX4) (T := TX4) (N := 9) (ws2 := [(a, .inr (4, [.null, .ref q1, .int (zI 0), .int (zI 0), .int (zI (-1)), .int (zI 9), .int (zI 0), .int (zI 0), .int (zI 0)]))] ++ [(q1, .inl (cB, 400, .inl (zA (fun _ => 0))))]) hx hb hts hinX4 tyX4 tyX4_ok nmX4 hown hK hw 0 rfl rfl 8 (by decide) (hts (.fieldLink RX4 34 "CarnivalRoad$Reader" "value" "I") (by decide +kernel)) (fun _ h9 => h9) rfl (by decide +kernel) rfl rfl (Nat.le_of_ble_eq_true rfl) dX4_init_46 rfl (fun H locs hw => ?_)
  refine lv_aload_n hx hb dX4_init_49 rfl (lv_at hl 0 rfl) ?_
  refine lv_aload_n hx hb dX4_init_50 rfl (lv_at hl 1 rfl) ?_
  refine z_putF (D := D) (ci := 4) (v := .ref g) (ty := .object "CarnivalRoad$Guests") (C := RX4) (T := TX4) (N := 9) (ws2 := [(a, .inr (4, [.ref g, .ref q1, .int (zI 0), .int (zI 0), .int (zI (-1)), .int (zI 9), .int (zI 0), .int (zI 0), .int (zI 0)]))] ++ [(q1, .inl (cB, 400, .inl (zA (fun _ => 0))))]) hx hb hts hinX4 tyX4 tyX4_ok nmX4 hown hK hw 0 rfl rfl 0 (by decide) (hts (.fieldLink RX4 37 "CarnivalRoad$Reader" "guests" "LCarnivalRoad$Guests;") (by decide +kernel)) (fun _ h9 => h9) rfl hinit rfl (by decide +kernel) rfl rfl (Nat.le_of_ble_eq_true rfl) dX4_init_51 rfl (fun H locs hw => ?_)
  exact W.vret hx hb hr (fun t9 ht hW => ⟨⟨(adN [a, q1]), rfl, rfl, by subst hAe; exact z_end hK (z_perm (ws2 := kR cI cB cZ (adN [a, q1]) g (fun _ => 0) 0 0 (-1) 9 0 0 0) hw [0, 1] (by decide) rfl) ht hW⟩, by subst hAe; exact hw.2.2.F ht⟩) (by subst hAe; exact hw.2.2.2.2) dX4_init_54
set_option maxRecDepth 100000 in
set_option maxHeartbeats 4000000 in
theorem c_X0_init (l : Launch) (D : va_G) (cI cB cZ : ClassId) (a : Nat) (g : Nat) (sz : Nat) : Met l yX0_init wsX0_init ({ frames := 1, cells := 4, slots := 44, locals := 12 }) (va_Pc [.ref a, .ref g] (zPre D cI cB cZ sz ([(a, .inr (0, [.null, .int (zI 0), .null, .null, .null, .null]))]))) (va_Qv (fun u9 : Nat → Nat => u9 0 = a) (fun u9 t9 => zAt D cI cB cZ (va_A ([(a, .inr (0, [.null, .int (zI 0), .null, .null, .null, .null]))]) sz) (kB cI cB cZ u9 g 0 (uZ (fun _ => 0) 10 11) (fun _ => 0) (fun _ => 0) (fun _ => 0)) t9) (va_A ([(a, .inr (0, [.null, .int (zI 0), .null, .null, .null, .null]))]) sz)) 4 44 (va_A ([(a, .inr (0, [.null, .int (zI 0), .null, .null, .null, .null]))]) sz) := by
  refine Met.ofW (cc := cX0_init) (maxL := 2) (ret := none) (by decide) rfl ?_
  intro pp ee s mm aa bw mt cd s₁ BL hml hv
  obtain ⟨rfl, hsz, hP, hK, hD0⟩ := hv
  have hx := BL.exec
  have hb := BL.bytes
  have hr := BL.returns
  have hts := atoms_spec (ws := wsX0_init) BL.pre
  have hown : s.vm.findClass RX0 = some mm.cls := findClass_of_methodNamed BL.named
  have hlocks := BL.notSynchronized
  have hinit : mt.name = "<init>" := (name_of_methodNamed BL.named BL.method).1
  subst hsz
  generalize hAe : va_A ([(a, .inr (0, [.null, .int (zI 0), .null, .null, .null, .null]))]) s.heap.size = A
  have hA : ∀ q : Nat, s.heap.size ≤ q → A q := fun q h => by rw [← hAe]; exact Or.inr h
  have hw : HW D A s.heap ([(a, .inr (0, [.null, .int (zI 0), .null, .null, .null, .null]))]) s.heap [] := z_start hAe hP hD0
  clear hP hD0
  have hl := lv_entry ([.ref a, .ref g]) (n := 2) (Nat.le_of_ble_eq_true rfl)
  rw [lg_entry_eq]
  generalize (lg_sl ([.ref a, .ref g]) ++ List.replicate (2 - (lg_sl ([.ref a, .ref g])).length) Slot.unset).toArray = ls at hl ⊢
  have hl : lv_has ls 2 [(0, .ref a), (1, .ref g)] := hl
  have hinX0 : ∀ w ∈ wsX00, w ∈ wsX0_init := by decide +kernel
  refine lv_aload_n hx hb dX0_init_0 rfl (lv_at hl 0 rfl) ?_
  refine W.objInit hx hb hown (hts (.methodLink RX0 3 objectInit) (by decide +kernel)) (hts (.instanceMethod objectInit) (by decide +kernel)) (hts _ (List.mem_cons_of_mem _ (List.mem_of_getElem? (i := 2) rfl))) rfl (hl.1.trans hml.symm) rfl dX0_init_1 (Nat.le_of_ble_eq_true rfl) (Nat.le_of_ble_eq_true rfl) ?_
  refine W.eq (g2 := F0 mm 4 ls []) rfl ?_
  refine lv_aload_n hx hb dX0_init_4 rfl (lv_at hl 0 rfl) ?_
  refine z_iconst hx hb dX0_init_5 ?_
  refine z_put (D := D) (ci := 0) (v := .int (zI 0)) (ty := .int) (C := RX0) (T := TX0) (N := 6) (ws2 := [(a, .inr (0, [.null, .int (zI 0), .null, .null, .null, .null]))]) hx hb hts hinX0 tyX0 tyX0_ok nmX0 hown hK hw 0 rfl rfl 1 (by decide) (hts (.fieldLink RX0 9 "CarnivalRoad$Bars" "count" "I") (by decide +kernel)) (fun _ h9 => h9) rfl (by decide +kernel) rfl rfl (Nat.le_of_ble_eq_true rfl) dX0_init_6 rfl (fun H locs hw => ?_)
  refine lv_aload_n hx hb dX0_init_9 rfl (lv_at hl 0 rfl) ?_
  refine z_bipush hx hb dX0_init_10 (by decide) ?_
  refine z_newI (N := 11) hx hb (hts (.arrayClass .int) (by decide +kernel)) hK hw hA (by decide) (Nat.le_of_ble_eq_true rfl) (Nat.le_of_ble_eq_true rfl) dX0_init_12 (fun q1 H hw => ?_)
  refine z_putF (D := D) (ci := 0) (v := .ref q1) (ty := .array .int) (C := RX0) (T := TX0) (N := 6) (ws2 := [(a, .inr (0, [.null, .int (zI 0), .ref q1, .null, .null, .null]))] ++ [(q1, .inl (cI, 11, .inl (zA (fun _ => 0))))]) hx hb hts hinX0 tyX0 tyX0_ok nmX0 hown hK hw 0 rfl rfl 2 (by decide) (hts (.fieldLink RX0 15 "CarnivalRoad$Bars" "words" "[I") (by decide +kernel)) (fun _ h9 => h9) rfl hinit rfl (by decide +kernel) rfl rfl (Nat.le_of_ble_eq_true rfl) dX0_init_14 rfl (fun H locs hw => ?_)
  refine lv_aload_n hx hb dX0_init_17 rfl (lv_at hl 0 rfl) ?_
  refine z_bipush hx hb dX0_init_18 (by decide) ?_
  refine z_newI (N := 11) hx hb (hts (.arrayClass .int) (by decide +kernel)) hK hw hA (by decide) (Nat.le_of_ble_eq_true rfl) (Nat.le_of_ble_eq_true rfl) dX0_init_20 (fun q2 H hw => ?_)
  refine z_putF (D := D) (ci := 0) (v := .ref q2) (ty := .array .int) (C := RX0) (T := TX0) (N := 6) (ws2 := [(a, .inr (0, [.null, .int (zI 0), .ref q1, .ref q2, .null, .null]))] ++ [(q1, .inl (cI, 11, .inl (zA (fun _ => 0))))] ++ [(q2, .inl (cI, 11, .inl (zA (fun _ => 0))))]) hx hb hts hinX0 tyX0 tyX0_ok nmX0 hown hK hw 0 rfl rfl 3 (by decide) (hts (.fieldLink RX0 19 "CarnivalRoad$Bars" "ones" "[I") (by decide +kernel)) (fun _ h9 => h9) rfl hinit rfl (by decide +kernel) rfl rfl (Nat.le_of_ble_eq_true rfl) dX0_init_22 rfl (fun H locs hw => ?_)
  refine lv_aload_n hx hb dX0_init_25 rfl (lv_at hl 0 rfl) ?_
  refine z_bipush hx hb dX0_init_26 (by decide) ?_
  refine z_newI (N := 11) hx hb (hts (.arrayClass .int) (by decide +kernel)) hK hw hA (by decide) (Nat.le_of_ble_eq_true rfl) (Nat.le_of_ble_eq_true rfl) dX0_init_28 (fun q3 H hw => ?_)
  refine z_putF (D := D) (ci := 0) (v := .ref q3) (ty := .array .int) (C := RX0) (T := TX0) (N := 6) (ws2 := [(a, .inr (0, [.null, .int (zI 0), .ref q1, .ref q2, .ref q3, .null]))] ++ [(q1, .inl (cI, 11, .inl (zA (fun _ => 0))))] ++ [(q2, .inl (cI, 11, .inl (zA (fun _ => 0))))] ++ [(q3, .inl (cI, 11, .inl (zA (fun _ => 0))))]) hx hb hts hinX0 tyX0 tyX0_ok nmX0 hown hK hw 0 rfl rfl 4 (by decide) (hts (.fieldLink RX0 22 "CarnivalRoad$Bars" "twos" "[I") (by decide +kernel)) (fun _ h9 => h9) rfl hinit rfl (by decide +kernel) rfl rfl (Nat.le_of_ble_eq_true rfl) dX0_init_30 rfl (fun H locs hw => ?_)
  refine lv_aload_n hx hb dX0_init_33 rfl (lv_at hl 0 rfl) ?_
  refine z_bipush hx hb dX0_init_34 (by decide) ?_
  refine z_newI (N := 11) hx hb (hts (.arrayClass .int) (by decide +kernel)) hK hw hA (by decide) (Nat.le_of_ble_eq_true rfl) (Nat.le_of_ble_eq_true rfl) dX0_init_36 (fun q4 H hw => ?_)
  refine z_putF (D := D) (ci := 0) (v := .ref q4) (ty := .array .int) (C := RX0) (T := TX0) (N := 6) (ws2 := [(a, .inr (0, [.null, .int (zI 0), .ref q1, .ref q2, .ref q3, .ref q4]))] ++ [(q1, .inl (cI, 11, .inl (zA (fun _ => 0))))] ++ [(q2, .inl (cI, 11, .inl (zA (fun _ => 0))))] ++ [(q3, .inl (cI, 11, .inl (zA (fun _ => 0))))] ++ [(q4, .inl (cI, 11, .inl (zA (fun _ => 0))))]) hx hb hts hinX0 tyX0 tyX0_ok nmX0 hown hK hw 0 rfl rfl 5 (by decide) (hts (.fieldLink RX0 25 "CarnivalRoad$Bars" "numbers" "[I") (by decide +kernel)) (fun _ h9 => h9) rfl hinit rfl (by decide +kernel) rfl rfl (Nat.le_of_ble_eq_true rfl) dX0_init_38 rfl (fun H locs hw => ?_)
  refine lv_aload_n hx hb dX0_init_41 rfl (lv_at hl 0 rfl) ?_
  refine lv_aload_n hx hb dX0_init_42 rfl (lv_at hl 1 rfl) ?_
  refine z_putF (D := D) (ci := 0) (v := .ref g) (ty := .object "CarnivalRoad$Guests") (C := RX0) (T := TX0) (N := 6) (ws2 := [(a, .inr (0, [.ref g, .int (zI 0), .ref q1, .ref q2, .ref q3, .ref q4]))] ++ [(q1, .inl (cI, 11, .inl (zA (fun _ => 0))))] ++ [(q2, .inl (cI, 11, .inl (zA (fun _ => 0))))] ++ [(q3, .inl (cI, 11, .inl (zA (fun _ => 0))))] ++ [(q4, .inl (cI, 11, .inl (zA (fun _ => 0))))]) hx hb hts hinX0 tyX0 tyX0_ok nmX0 hown hK hw 0 rfl rfl 0 (by decide) (hts (.fieldLink RX0 28 "CarnivalRoad$Bars" "guests" "LCarnivalRoad$Guests;") (by decide +kernel)) (fun _ h9 => h9) rfl hinit rfl (by decide +kernel) rfl rfl (Nat.le_of_ble_eq_true rfl) dX0_init_43 rfl (fun H locs hw => ?_)
  refine lv_aload_n hx hb dX0_init_46 rfl (lv_at hl 0 rfl) ?_
  refine va_get (D := D) (ci := 0) (v := .ref q1) (C := RX0) (T := TX0) (N := 6) hx hb hts hinX0 hown hK hw.1 0 rfl rfl 2 (by decide) (hts (.fieldLink RX0 15 "CarnivalRoad$Bars" "words" "[I") (by decide +kernel)) (fun _ h9 => h9) rfl dX0_init_47 ?_
  refine z_bipush hx hb dX0_init_50 (by decide) ?_
  refine z_bipush hx hb dX0_init_52 (by decide) ?_
  refine z_iast (n := 11) (f := (fun _ => 0)) (ws2 := [(a, .inr (0, [.ref g, .int (zI 0), .ref q1, .ref q2, .ref q3, .ref q4]))] ++ [(q1, .inl (cI, 11, .inl (zA (uZ (fun _ => 0) 10 11))))] ++ [(q2, .inl (cI, 11, .inl (zA (fun _ => 0))))] ++ [(q3, .inl (cI, 11, .inl (zA (fun _ => 0))))] ++ [(q4, .inl (cI, 11, .inl (zA (fun _ => 0))))]) hx hb hK hw 1 rfl (by decide) (by decide) dX0_init_54 rfl (fun H locs hw => ?_)
  exact W.vret hx hb hr (fun t9 ht hW => ⟨⟨(adN [a, q1, q2, q3, q4]), rfl, rfl, by subst hAe; exact z_end hK (z_perm (ws2 := kB cI cB cZ (adN [a, q1, q2, q3, q4]) g 0 (uZ (fun _ => 0) 10 11) (fun _ => 0) (fun _ => 0) (fun _ => 0)) hw [0, 1, 2, 3, 4] (by decide) rfl) ht hW⟩, by subst hAe; exact hw.2.2.F ht⟩) (by subst hAe; exact hw.2.2.2.2) dX0_init_55
set_option maxRecDepth 100000 in
set_option maxHeartbeats 4000000 in
theorem c_X5_init (l : Launch) (D : va_G) (cI cB cZ : ClassId) (a : Nat) (g : Nat) (sz : Nat) : Met l yX5_init wsX5_init ({ frames := 1, cells := 3, slots := 80, locals := 12 }) (va_Pc [.ref a, .ref g] (zPre D cI cB cZ sz ([(a, .inr (5, [.null, .null, .null, .null, .int (zI 0), .int (zI 0), .int (zI 0), .int (zI 0)]))]))) (va_Qv (fun u9 : Nat → Nat => u9 0 = a) (fun u9 t9 => zAt D cI cB cZ (va_A ([(a, .inr (5, [.null, .null, .null, .null, .int (zI 0), .int (zI 0), .int (zI 0), .int (zI 0)]))]) sz) (kS cI cB cZ u9 g (fun _ => 0) (fun _ => 0) (fun _ => 0) 0 0 0 0) t9) (va_A ([(a, .inr (5, [.null, .null, .null, .null, .int (zI 0), .int (zI 0), .int (zI 0), .int (zI 0)]))]) sz)) 3 80 (va_A ([(a, .inr (5, [.null, .null, .null, .null, .int (zI 0), .int (zI 0), .int (zI 0), .int (zI 0)]))]) sz) := by
  refine Met.ofW (cc := cX5_init) (maxL := 2) (ret := none) (by decide) rfl ?_
  intro pp ee s mm aa bw mt cd s₁ BL hml hv
  obtain ⟨rfl, hsz, hP, hK, hD0⟩ := hv
  have hx := BL.exec
  have hb := BL.bytes
  have hr := BL.returns
  have hts := atoms_spec (ws := wsX5_init) BL.pre
  have hown : s.vm.findClass RX5 = some mm.cls := findClass_of_methodNamed BL.named
  have hlocks := BL.notSynchronized
  have hinit : mt.name = "<init>" := (name_of_methodNamed BL.named BL.method).1
  subst hsz
  generalize hAe : va_A ([(a, .inr (5, [.null, .null, .null, .null, .int (zI 0), .int (zI 0), .int (zI 0), .int (zI 0)]))]) s.heap.size = A
  have hA : ∀ q : Nat, s.heap.size ≤ q → A q := fun q h => by rw [← hAe]; exact Or.inr h
  have hw : HW D A s.heap ([(a, .inr (5, [.null, .null, .null, .null, .int (zI 0), .int (zI 0), .int (zI 0), .int (zI 0)]))]) s.heap [] := z_start hAe hP hD0
  clear hP hD0
  have hl := lv_entry ([.ref a, .ref g]) (n := 2) (Nat.le_of_ble_eq_true rfl)
  rw [lg_entry_eq]
  generalize (lg_sl ([.ref a, .ref g]) ++ List.replicate (2 - (lg_sl ([.ref a, .ref g])).length) Slot.unset).toArray = ls at hl ⊢
  have hl : lv_has ls 2 [(0, .ref a), (1, .ref g)] := hl
  have hinX5 : ∀ w ∈ wsX50, w ∈ wsX5_init := by decide +kernel
  refine lv_aload_n hx hb dX5_init_0 rfl (lv_at hl 0 rfl) ?_
  refine W.objInit hx hb hown (hts (.methodLink RX5 3 objectInit) (by decide +kernel)) (hts (.instanceMethod objectInit) (by decide +kernel)) (hts _ (List.mem_cons_of_mem _ (List.mem_of_getElem? (i := 2) rfl))) rfl (hl.1.trans hml.symm) rfl dX5_init_1 (Nat.le_of_ble_eq_true rfl) (Nat.le_of_ble_eq_true rfl) ?_
  refine W.eq (g2 := F0 mm 4 ls []) rfl ?_
  refine lv_aload_n hx hb dX5_init_4 rfl (lv_at hl 0 rfl) ?_
  refine z_bipush hx hb dX5_init_5 (by decide) ?_
  refine z_newI (N := 8) hx hb (hts (.arrayClass .int) (by decide +kernel)) hK hw hA (by decide) (Nat.le_of_ble_eq_true rfl) (Nat.le_of_ble_eq_true rfl) dX5_init_7 (fun q1 H hw => ?_)
  refine z_putF (D := D) (ci := 5) (v := .ref q1) (ty := .array .int) (C := RX5) (T := TX5) (N := 8) (ws2 := [(a, .inr (5, [.null, .ref q1, .null, .null, .int (zI 0), .int (zI 0), .int (zI 0), .int (zI 0)]))] ++ [(q1, .inl (cI, 8, .inl (zA (fun _ => 0))))]) hx hb hts hinX5 tyX5 tyX5_ok nmX5 hown hK hw 0 rfl rfl 1 (by decide) (hts (.fieldLink RX5 9 "CarnivalRoad$Search" "line" "[I") (by decide +kernel)) (fun _ h9 => h9) rfl hinit rfl (by decide +kernel) rfl rfl (Nat.le_of_ble_eq_true rfl) dX5_init_9 rfl (fun H locs hw => ?_)
  refine lv_aload_n hx hb dX5_init_12 rfl (lv_at hl 0 rfl) ?_
  refine z_bipush hx hb dX5_init_13 (by decide) ?_
  refine z_newI (N := 8) hx hb (hts (.arrayClass .int) (by decide +kernel)) hK hw hA (by decide) (Nat.le_of_ble_eq_true rfl) (Nat.le_of_ble_eq_true rfl) dX5_init_15 (fun q2 H hw => ?_)
  refine z_putF (D := D) (ci := 5) (v := .ref q2) (ty := .array .int) (C := RX5) (T := TX5) (N := 8) (ws2 := [(a, .inr (5, [.null, .ref q1, .ref q2, .null, .int (zI 0), .int (zI 0), .int (zI 0), .int (zI 0)]))] ++ [(q1, .inl (cI, 8, .inl (zA (fun _ => 0))))] ++ [(q2, .inl (cI, 8, .inl (zA (fun _ => 0))))]) hx hb hts hinX5 tyX5 tyX5_ok nmX5 hown hK hw 0 rfl rfl 2 (by decide) (hts (.fieldLink RX5 15 "CarnivalRoad$Search" "open" "[I") (by decide +kernel)) (fun _ h9 => h9) rfl hinit rfl (by decide +kernel) rfl rfl (Nat.le_of_ble_eq_true rfl) dX5_init_17 rfl (fun H locs hw => ?_)
  refine lv_aload_n hx hb dX5_init_20 rfl (lv_at hl 0 rfl) ?_
  refine z_bipush hx hb dX5_init_21 (by decide) ?_
  refine z_newI (N := 64) hx hb (hts (.arrayClass .int) (by decide +kernel)) hK hw hA (by decide) (Nat.le_of_ble_eq_true rfl) (Nat.le_of_ble_eq_true rfl) dX5_init_23 (fun q3 H hw => ?_)
  refine z_putF (D := D) (ci := 5) (v := .ref q3) (ty := .array .int) (C := RX5) (T := TX5) (N := 8) (ws2 := [(a, .inr (5, [.null, .ref q1, .ref q2, .ref q3, .int (zI 0), .int (zI 0), .int (zI 0), .int (zI 0)]))] ++ [(q1, .inl (cI, 8, .inl (zA (fun _ => 0))))] ++ [(q2, .inl (cI, 8, .inl (zA (fun _ => 0))))] ++ [(q3, .inl (cI, 64, .inl (zA (fun _ => 0))))]) hx hb hts hinX5 tyX5 tyX5_ok nmX5 hown hK hw 0 rfl rfl 3 (by decide) (hts (.fieldLink RX5 18 "CarnivalRoad$Search" "barred" "[I") (by decide +kernel)) (fun _ h9 => h9) rfl hinit rfl (by decide +kernel) rfl rfl (Nat.le_of_ble_eq_true rfl) dX5_init_25 rfl (fun H locs hw => ?_)
  refine lv_aload_n hx hb dX5_init_28 rfl (lv_at hl 0 rfl) ?_
  refine z_iconst hx hb dX5_init_29 ?_
  refine z_put (D := D) (ci := 5) (v := .int (zI 0)) (ty := .int) (C := RX5) (T := TX5) (N := 8) (ws2 := [(a, .inr (5, [.null, .ref q1, .ref q2, .ref q3, .int (zI 0), .int (zI 0), .int (zI 0), .int (zI 0)]))] ++ [(q1, .inl (cI, 8, .inl (zA (fun _ => 0))))] ++ [(q2, .inl (cI, 8, .inl (zA (fun _ => 0))))] ++ [(q3, .inl (cI, 64, .inl (zA (fun _ => 0))))]) hx hb hts hinX5 tyX5 tyX5_ok nmX5 hown hK hw 0 rfl rfl 4 (by decide) (hts (.fieldLink RX5 21 "CarnivalRoad$Search" "mayBeFirst" "I") (by decide +kernel)) (fun _ h9 => h9) rfl (by decide +kernel) rfl rfl (Nat.le_of_ble_eq_true rfl) dX5_init_30 rfl (fun H locs hw => ?_)
  refine lv_aload_n hx hb dX5_init_33 rfl (lv_at hl 0 rfl) ?_
  refine z_iconst hx hb dX5_init_34 ?_
  refine z_put (D := D) (ci := 5) (v := .int (zI 0)) (ty := .int) (C := RX5) (T := TX5) (N := 8) (ws2 := [(a, .inr (5, [.null, .ref q1, .ref q2, .ref q3, .int (zI 0), .int (zI 0), .int (zI 0), .int (zI 0)]))] ++ [(q1, .inl (cI, 8, .inl (zA (fun _ => 0))))] ++ [(q2, .inl (cI, 8, .inl (zA (fun _ => 0))))] ++ [(q3, .inl (cI, 64, .inl (zA (fun _ => 0))))]) hx hb hts hinX5 tyX5 tyX5_ok nmX5 hown hK hw 0 rfl rfl 5 (by decide) (hts (.fieldLink RX5 25 "CarnivalRoad$Search" "mayBeLast" "I") (by decide +kernel)) (fun _ h9 => h9) rfl (by decide +kernel) rfl rfl (Nat.le_of_ble_eq_true rfl) dX5_init_35 rfl (fun H locs hw => ?_)
  refine lv_aload_n hx hb dX5_init_38 rfl (lv_at hl 0 rfl) ?_
  refine z_iconst hx hb dX5_init_39 ?_
  refine z_put (D := D) (ci := 5) (v := .int (zI 0)) (ty := .int) (C := RX5) (T := TX5) (N := 8) (ws2 := [(a, .inr (5, [.null, .ref q1, .ref q2, .ref q3, .int (zI 0), .int (zI 0), .int (zI 0), .int (zI 0)]))] ++ [(q1, .inl (cI, 8, .inl (zA (fun _ => 0))))] ++ [(q2, .inl (cI, 8, .inl (zA (fun _ => 0))))] ++ [(q3, .inl (cI, 64, .inl (zA (fun _ => 0))))]) hx hb hts hinX5 tyX5 tyX5_ok nmX5 hown hK hw 0 rfl rfl 6 (by decide) (hts (.fieldLink RX5 28 "CarnivalRoad$Search" "depth" "I") (by decide +kernel)) (fun _ h9 => h9) rfl (by decide +kernel) rfl rfl (Nat.le_of_ble_eq_true rfl) dX5_init_40 rfl (fun H locs hw => ?_)
  refine lv_aload_n hx hb dX5_init_43 rfl (lv_at hl 0 rfl) ?_
  refine z_iconst hx hb dX5_init_44 ?_
  refine z_put (D := D) (ci := 5) (v := .int (zI 0)) (ty := .boolean) (C := RX5) (T := TX5) (N := 8) (ws2 := [(a, .inr (5, [.null, .ref q1, .ref q2, .ref q3, .int (zI 0), .int (zI 0), .int (zI 0), .int (zI 0)]))] ++ [(q1, .inl (cI, 8, .inl (zA (fun _ => 0))))] ++ [(q2, .inl (cI, 8, .inl (zA (fun _ => 0))))] ++ [(q3, .inl (cI, 64, .inl (zA (fun _ => 0))))]) hx hb hts hinX5 tyX5 tyX5_ok nmX5 hown hK hw 0 rfl rfl 7 (by decide) (hts (.fieldLink RX5 31 "CarnivalRoad$Search" "emptyRowLeft" "Z") (by decide +kernel)) (fun _ h9 => h9) rfl (by decide +kernel) rfl rfl (Nat.le_of_ble_eq_true rfl) dX5_init_45 rfl (fun H locs hw => ?_)
  refine lv_aload_n hx hb dX5_init_48 rfl (lv_at hl 0 rfl) ?_
  refine lv_aload_n hx hb dX5_init_49 rfl (lv_at hl 1 rfl) ?_
  refine z_putF (D := D) (ci := 5) (v := .ref g) (ty := .object "CarnivalRoad$Guests") (C := RX5) (T := TX5) (N := 8) (ws2 := [(a, .inr (5, [.ref g, .ref q1, .ref q2, .ref q3, .int (zI 0), .int (zI 0), .int (zI 0), .int (zI 0)]))] ++ [(q1, .inl (cI, 8, .inl (zA (fun _ => 0))))] ++ [(q2, .inl (cI, 8, .inl (zA (fun _ => 0))))] ++ [(q3, .inl (cI, 64, .inl (zA (fun _ => 0))))]) hx hb hts hinX5 tyX5 tyX5_ok nmX5 hown hK hw 0 rfl rfl 0 (by decide) (hts (.fieldLink RX5 35 "CarnivalRoad$Search" "guests" "LCarnivalRoad$Guests;") (by decide +kernel)) (fun _ h9 => h9) rfl hinit rfl (by decide +kernel) rfl rfl (Nat.le_of_ble_eq_true rfl) dX5_init_50 rfl (fun H locs hw => ?_)
  exact W.vret hx hb hr (fun t9 ht hW => ⟨⟨(adN [a, q1, q2, q3]), rfl, rfl, by subst hAe; exact z_end hK (z_perm (ws2 := kS cI cB cZ (adN [a, q1, q2, q3]) g (fun _ => 0) (fun _ => 0) (fun _ => 0) 0 0 0 0) hw [0, 1, 2, 3] (by decide) rfl) ht hW⟩, by subst hAe; exact hw.2.2.F ht⟩) (by subst hAe; exact hw.2.2.2.2) dX5_init_53
set_option maxRecDepth 100000 in
set_option maxHeartbeats 4000000 in
theorem c_X1_init (l : Launch) (D : va_G) (cI cB cZ : ClassId) (a : Nat) (sz : Nat) : Met l yX1_init wsX1_init ({ frames := 1, cells := 0, slots := 0, locals := 12 }) (va_Pc [.ref a] (zPre D cI cB cZ sz ([(a, .inr (1, [.int (zI 0), .int (zI 0), .int (zI 0)]))]))) (va_Qv (fun u9 : Nat → Nat => u9 0 = a) (fun u9 t9 => zAt D cI cB cZ (va_A ([(a, .inr (1, [.int (zI 0), .int (zI 0), .int (zI 0)]))]) sz) (kX cI cB cZ u9 (-1) (-1) (-1)) t9) (va_A ([(a, .inr (1, [.int (zI 0), .int (zI 0), .int (zI 0)]))]) sz)) 0 0 (va_A ([(a, .inr (1, [.int (zI 0), .int (zI 0), .int (zI 0)]))]) sz) := by
  refine Met.ofW (cc := cX1_init) (maxL := 1) (ret := none) (by decide) rfl ?_
  intro pp ee s mm aa bw mt cd s₁ BL hml hv
  obtain ⟨rfl, hsz, hP, hK, hD0⟩ := hv
  have hx := BL.exec
  have hb := BL.bytes
  have hr := BL.returns
  have hts := atoms_spec (ws := wsX1_init) BL.pre
  have hown : s.vm.findClass RX1 = some mm.cls := findClass_of_methodNamed BL.named
  have hlocks := BL.notSynchronized
  have hinit : mt.name = "<init>" := (name_of_methodNamed BL.named BL.method).1
  subst hsz
  generalize hAe : va_A ([(a, .inr (1, [.int (zI 0), .int (zI 0), .int (zI 0)]))]) s.heap.size = A
  have hA : ∀ q : Nat, s.heap.size ≤ q → A q := fun q h => by rw [← hAe]; exact Or.inr h
  have hw : HW D A s.heap ([(a, .inr (1, [.int (zI 0), .int (zI 0), .int (zI 0)]))]) s.heap [] := z_start hAe hP hD0
  clear hP hD0
  have hl := lv_entry ([.ref a]) (n := 1) (Nat.le_of_ble_eq_true rfl)
  rw [lg_entry_eq]
  generalize (lg_sl ([.ref a]) ++ List.replicate (1 - (lg_sl ([.ref a])).length) Slot.unset).toArray = ls at hl ⊢
  have hl : lv_has ls 1 [(0, .ref a)] := hl
  have hinX1 : ∀ w ∈ wsX10, w ∈ wsX1_init := by decide +kernel
  refine lv_aload_n hx hb dX1_init_0 rfl (lv_at hl 0 rfl) ?_
  refine W.objInit hx hb hown (hts (.methodLink RX1 3 objectInit) (by decide +kernel)) (hts (.instanceMethod objectInit) (by decide +kernel)) (hts _ (List.mem_cons_of_mem _ (List.mem_of_getElem? (i := 2) rfl))) rfl (hl.1.trans hml.symm) rfl dX1_init_1 (Nat.le_of_ble_eq_true rfl) (Nat.le_of_ble_eq_true rfl) ?_
  refine W.eq (g2 := F0 mm 4 ls []) rfl ?_
  refine lv_aload_n hx hb dX1_init_4 rfl (lv_at hl 0 rfl) ?_
  refine z_iconst hx hb dX1_init_5 ?_
  refine z_put (D := D) (ci := 1) (v := .int (zI (-1))) (ty := .int) (C := RX1) (T := TX1) (N := 3) (ws2 := [(a, .inr (1, [.int (zI (-1)), .int (zI 0), .int (zI 0)]))]) hx hb hts hinX1 tyX1 tyX1_ok nmX1 hown hK hw 0 rfl rfl 0 (by decide) (hts (.fieldLink RX1 9 "CarnivalRoad$Breach" "bar" "I") (by decide +kernel)) (fun _ h9 => h9) rfl (by decide +kernel) rfl rfl (Nat.le_of_ble_eq_true rfl) dX1_init_6 rfl (fun H locs hw => ?_)
  refine lv_aload_n hx hb dX1_init_9 rfl (lv_at hl 0 rfl) ?_
  refine z_iconst hx hb dX1_init_10 ?_
  refine z_put (D := D) (ci := 1) (v := .int (zI (-1))) (ty := .int) (C := RX1) (T := TX1) (N := 3) (ws2 := [(a, .inr (1, [.int (zI (-1)), .int (zI (-1)), .int (zI 0)]))]) hx hb hts hinX1 tyX1 tyX1_ok nmX1 hown hK hw 0 rfl rfl 1 (by decide) (hts (.fieldLink RX1 15 "CarnivalRoad$Breach" "lesser" "I") (by decide +kernel)) (fun _ h9 => h9) rfl (by decide +kernel) rfl rfl (Nat.le_of_ble_eq_true rfl) dX1_init_11 rfl (fun H locs hw => ?_)
  refine lv_aload_n hx hb dX1_init_14 rfl (lv_at hl 0 rfl) ?_
  refine z_iconst hx hb dX1_init_15 ?_
  refine z_put (D := D) (ci := 1) (v := .int (zI (-1))) (ty := .int) (C := RX1) (T := TX1) (N := 3) (ws2 := [(a, .inr (1, [.int (zI (-1)), .int (zI (-1)), .int (zI (-1))]))]) hx hb hts hinX1 tyX1 tyX1_ok nmX1 hown hK hw 0 rfl rfl 2 (by decide) (hts (.fieldLink RX1 18 "CarnivalRoad$Breach" "greater" "I") (by decide +kernel)) (fun _ h9 => h9) rfl (by decide +kernel) rfl rfl (Nat.le_of_ble_eq_true rfl) dX1_init_16 rfl (fun H locs hw => ?_)
  exact W.vret hx hb hr (fun t9 ht hW => ⟨⟨(adN [a]), rfl, rfl, by subst hAe; exact z_end hK (z_perm (ws2 := kX cI cB cZ (adN [a]) (-1) (-1) (-1)) hw [0] (by decide) rfl) ht hW⟩, by subst hAe; exact hw.2.2.F ht⟩) (by subst hAe; exact hw.2.2.2.2) dX1_init_19
set_option maxRecDepth 100000 in
set_option maxHeartbeats 4000000 in
theorem c_X6_init (l : Launch) (D : va_G) (cI cB cZ : ClassId) (a : Nat) (sz : Nat) : Met l yX6_init wsX6_init ({ frames := 1, cells := 2, slots := 100, locals := 12 }) (va_Pc [.ref a] (zPre D cI cB cZ sz ([(a, .inr (6, [.int (zI 0), .int (zI 0), .null, .null]))]))) (va_Qv (fun u9 : Nat → Nat => u9 0 = a) (fun u9 t9 => zAt D cI cB cZ (va_A ([(a, .inr (6, [.int (zI 0), .int (zI 0), .null, .null]))]) sz) (kT cI cB cZ u9 20 1 (fun _ => 0) (fun _ => 0)) t9) (va_A ([(a, .inr (6, [.int (zI 0), .int (zI 0), .null, .null]))]) sz)) 2 100 (va_A ([(a, .inr (6, [.int (zI 0), .int (zI 0), .null, .null]))]) sz) := by
  refine Met.ofW (cc := cX6_init) (maxL := 1) (ret := none) (by decide) rfl ?_
  intro pp ee s mm aa bw mt cd s₁ BL hml hv
  obtain ⟨rfl, hsz, hP, hK, hD0⟩ := hv
  have hx := BL.exec
  have hb := BL.bytes
  have hr := BL.returns
  have hts := atoms_spec (ws := wsX6_init) BL.pre
  have hown : s.vm.findClass RX6 = some mm.cls := findClass_of_methodNamed BL.named
  have hlocks := BL.notSynchronized
  have hinit : mt.name = "<init>" := (name_of_methodNamed BL.named BL.method).1
  subst hsz
  generalize hAe : va_A ([(a, .inr (6, [.int (zI 0), .int (zI 0), .null, .null]))]) s.heap.size = A
  have hA : ∀ q : Nat, s.heap.size ≤ q → A q := fun q h => by rw [← hAe]; exact Or.inr h
  have hw : HW D A s.heap ([(a, .inr (6, [.int (zI 0), .int (zI 0), .null, .null]))]) s.heap [] := z_start hAe hP hD0
  clear hP hD0
  have hl := lv_entry ([.ref a]) (n := 1) (Nat.le_of_ble_eq_true rfl)
  rw [lg_entry_eq]
  generalize (lg_sl ([.ref a]) ++ List.replicate (1 - (lg_sl ([.ref a])).length) Slot.unset).toArray = ls at hl ⊢
  have hl : lv_has ls 1 [(0, .ref a)] := hl
  have hinX6 : ∀ w ∈ wsX60, w ∈ wsX6_init := by decide +kernel
  refine lv_aload_n hx hb dX6_init_0 rfl (lv_at hl 0 rfl) ?_
  refine W.objInit hx hb hown (hts (.methodLink RX6 3 objectInit) (by decide +kernel)) (hts (.instanceMethod objectInit) (by decide +kernel)) (hts _ (List.mem_cons_of_mem _ (List.mem_of_getElem? (i := 2) rfl))) rfl (hl.1.trans hml.symm) rfl dX6_init_1 (Nat.le_of_ble_eq_true rfl) (Nat.le_of_ble_eq_true rfl) ?_
  refine W.eq (g2 := F0 mm 4 ls []) rfl ?_
  refine lv_aload_n hx hb dX6_init_4 rfl (lv_at hl 0 rfl) ?_
  refine z_bipush hx hb dX6_init_5 (by decide) ?_
  refine z_put (D := D) (ci := 6) (v := .int (zI 20)) (ty := .int) (C := RX6) (T := TX6) (N := 4) (ws2 := [(a, .inr (6, [.int (zI 20), .int (zI 0), .null, .null]))]) hx hb hts hinX6 tyX6 tyX6_ok nmX6 hown hK hw 0 rfl rfl 0 (by decide) (hts (.fieldLink RX6 9 "CarnivalRoad$Street" "cells" "I") (by decide +kernel)) (fun _ h9 => h9) rfl (by decide +kernel) rfl rfl (Nat.le_of_ble_eq_true rfl) dX6_init_7 rfl (fun H locs hw => ?_)
  refine lv_aload_n hx hb dX6_init_10 rfl (lv_at hl 0 rfl) ?_
  refine z_iconst hx hb dX6_init_11 ?_
  refine z_put (D := D) (ci := 6) (v := .int (zI 1)) (ty := .int) (C := RX6) (T := TX6) (N := 4) (ws2 := [(a, .inr (6, [.int (zI 20), .int (zI 1), .null, .null]))]) hx hb hts hinX6 tyX6 tyX6_ok nmX6 hown hK hw 0 rfl rfl 1 (by decide) (hts (.fieldLink RX6 15 "CarnivalRoad$Street" "gap" "I") (by decide +kernel)) (fun _ h9 => h9) rfl (by decide +kernel) rfl rfl (Nat.le_of_ble_eq_true rfl) dX6_init_12 rfl (fun H locs hw => ?_)
  refine lv_aload_n hx hb dX6_init_15 rfl (lv_at hl 0 rfl) ?_
  refine z_bipush hx hb dX6_init_16 (by decide) ?_
  refine z_newI (N := 50) hx hb (hts (.arrayClass .int) (by decide +kernel)) hK hw hA (by decide) (Nat.le_of_ble_eq_true rfl) (Nat.le_of_ble_eq_true rfl) dX6_init_18 (fun q1 H hw => ?_)
  refine z_putF (D := D) (ci := 6) (v := .ref q1) (ty := .array .int) (C := RX6) (T := TX6) (N := 4) (ws2 := [(a, .inr (6, [.int (zI 20), .int (zI 1), .ref q1, .null]))] ++ [(q1, .inl (cI, 50, .inl (zA (fun _ => 0))))]) hx hb hts hinX6 tyX6 tyX6_ok nmX6 hown hK hw 0 rfl rfl 2 (by decide) (hts (.fieldLink RX6 18 "CarnivalRoad$Street" "wires" "[I") (by decide +kernel)) (fun _ h9 => h9) rfl hinit rfl (by decide +kernel) rfl rfl (Nat.le_of_ble_eq_true rfl) dX6_init_20 rfl (fun H locs hw => ?_)
  refine lv_aload_n hx hb dX6_init_23 rfl (lv_at hl 0 rfl) ?_
  refine z_bipush hx hb dX6_init_24 (by decide) ?_
  refine z_newI (N := 50) hx hb (hts (.arrayClass .int) (by decide +kernel)) hK hw hA (by decide) (Nat.le_of_ble_eq_true rfl) (Nat.le_of_ble_eq_true rfl) dX6_init_26 (fun q2 H hw => ?_)
  refine z_putF (D := D) (ci := 6) (v := .ref q2) (ty := .array .int) (C := RX6) (T := TX6) (N := 4) (ws2 := [(a, .inr (6, [.int (zI 20), .int (zI 1), .ref q1, .ref q2]))] ++ [(q1, .inl (cI, 50, .inl (zA (fun _ => 0))))] ++ [(q2, .inl (cI, 50, .inl (zA (fun _ => 0))))]) hx hb hts hinX6 tyX6 tyX6_ok nmX6 hown hK hw 0 rfl rfl 3 (by decide) (hts (.fieldLink RX6 22 "CarnivalRoad$Street" "stands" "[I") (by decide +kernel)) (fun _ h9 => h9) rfl hinit rfl (by decide +kernel) rfl rfl (Nat.le_of_ble_eq_true rfl) dX6_init_28 rfl (fun H locs hw => ?_)
  exact W.vret hx hb hr (fun t9 ht hW => ⟨⟨(adN [a, q1, q2]), rfl, rfl, by subst hAe; exact z_end hK (z_perm (ws2 := kT cI cB cZ (adN [a, q1, q2]) 20 1 (fun _ => 0) (fun _ => 0)) hw [0, 1, 2] (by decide) rfl) ht hW⟩, by subst hAe; exact hw.2.2.F ht⟩) (by subst hAe; exact hw.2.2.2.2) dX6_init_31
set_option maxRecDepth 100000 in
set_option maxHeartbeats 4000000 in
theorem c_X3_init (l : Launch) (D : va_G) (cI cB cZ : ClassId) (a : Nat) (g st : Nat) (sz : Nat) : Met l yX3_init wsX3_init ({ frames := 1, cells := 5, slots := 40, locals := 12 }) (va_Pc [.ref a, .ref g, .ref st] (zPre D cI cB cZ sz ([(a, .inr (3, [.null, .null, .null, .int (zI 0), .int (zI 0), .null, .null, .null, .null]))]))) (va_Qv (fun u9 : Nat → Nat => u9 0 = a) (fun u9 t9 => zAt D cI cB cZ (va_A ([(a, .inr (3, [.null, .null, .null, .int (zI 0), .int (zI 0), .null, .null, .null, .null]))]) sz) (kP cI cB cZ u9 g st (fun _ => 0) 0 0 (fun _ => 0) (fun _ => 0) (fun _ => 0) (fun _ => 0)) t9) (va_A ([(a, .inr (3, [.null, .null, .null, .int (zI 0), .int (zI 0), .null, .null, .null, .null]))]) sz)) 5 40 (va_A ([(a, .inr (3, [.null, .null, .null, .int (zI 0), .int (zI 0), .null, .null, .null, .null]))]) sz) := by
  refine Met.ofW (cc := cX3_init) (maxL := 3) (ret := none) (by decide) rfl ?_
  intro pp ee s mm aa bw mt cd s₁ BL hml hv
  obtain ⟨rfl, hsz, hP, hK, hD0⟩ := hv
  have hx := BL.exec
  have hb := BL.bytes
  have hr := BL.returns
  have hts := atoms_spec (ws := wsX3_init) BL.pre
  have hown : s.vm.findClass RX3 = some mm.cls := findClass_of_methodNamed BL.named
  have hlocks := BL.notSynchronized
  have hinit : mt.name = "<init>" := (name_of_methodNamed BL.named BL.method).1
  subst hsz
  generalize hAe : va_A ([(a, .inr (3, [.null, .null, .null, .int (zI 0), .int (zI 0), .null, .null, .null, .null]))]) s.heap.size = A
  have hA : ∀ q : Nat, s.heap.size ≤ q → A q := fun q h => by rw [← hAe]; exact Or.inr h
  have hw : HW D A s.heap ([(a, .inr (3, [.null, .null, .null, .int (zI 0), .int (zI 0), .null, .null, .null, .null]))]) s.heap [] := z_start hAe hP hD0
  clear hP hD0
  have hl := lv_entry ([.ref a, .ref g, .ref st]) (n := 3) (Nat.le_of_ble_eq_true rfl)
  rw [lg_entry_eq]
  generalize (lg_sl ([.ref a, .ref g, .ref st]) ++ List.replicate (3 - (lg_sl ([.ref a, .ref g, .ref st])).length) Slot.unset).toArray = ls at hl ⊢
  have hl : lv_has ls 3 [(0, .ref a), (1, .ref g), (2, .ref st)] := hl
  have hinX3 : ∀ w ∈ wsX30, w ∈ wsX3_init := by decide +kernel
  refine lv_aload_n hx hb dX3_init_0 rfl (lv_at hl 0 rfl) ?_
  refine W.objInit hx hb hown (hts (.methodLink RX3 3 objectInit) (by decide +kernel)) (hts (.instanceMethod objectInit) (by decide +kernel)) (hts _ (List.mem_cons_of_mem _ (List.mem_of_getElem? (i := 2) rfl))) rfl (hl.1.trans hml.symm) rfl dX3_init_1 (Nat.le_of_ble_eq_true rfl) (Nat.le_of_ble_eq_true rfl) ?_
  refine W.eq (g2 := F0 mm 4 ls []) rfl ?_
  refine lv_aload_n hx hb dX3_init_4 rfl (lv_at hl 0 rfl) ?_
  refine z_bipush hx hb dX3_init_5 (by decide) ?_
  refine z_newI (N := 8) hx hb (hts (.arrayClass .int) (by decide +kernel)) hK hw hA (by decide) (Nat.le_of_ble_eq_true rfl) (Nat.le_of_ble_eq_true rfl) dX3_init_7 (fun q1 H hw => ?_)
  refine z_putF (D := D) (ci := 3) (v := .ref q1) (ty := .array .int) (C := RX3) (T := TX3) (N := 9) (ws2 := [(a, .inr (3, [.null, .null, .ref q1, .int (zI 0), .int (zI 0), .null, .null, .null, .null]))] ++ [(q1, .inl (cI, 8, .inl (zA (fun _ => 0))))]) hx hb hts hinX3 tyX3 tyX3_ok nmX3 hown hK hw 0 rfl rfl 2 (by decide) (hts (.fieldLink RX3 9 "CarnivalRoad$Parade" "line" "[I") (by decide +kernel)) (fun _ h9 => h9) rfl hinit rfl (by decide +kernel) rfl rfl (Nat.le_of_ble_eq_true rfl) dX3_init_9 rfl (fun H locs hw => ?_)
  refine lv_aload_n hx hb dX3_init_12 rfl (lv_at hl 0 rfl) ?_
  refine z_iconst hx hb dX3_init_13 ?_
  refine z_put (D := D) (ci := 3) (v := .int (zI 0)) (ty := .int) (C := RX3) (T := TX3) (N := 9) (ws2 := [(a, .inr (3, [.null, .null, .ref q1, .int (zI 0), .int (zI 0), .null, .null, .null, .null]))] ++ [(q1, .inl (cI, 8, .inl (zA (fun _ => 0))))]) hx hb hts hinX3 tyX3 tyX3_ok nmX3 hown hK hw 0 rfl rfl 3 (by decide) (hts (.fieldLink RX3 15 "CarnivalRoad$Parade" "size" "I") (by decide +kernel)) (fun _ h9 => h9) rfl (by decide +kernel) rfl rfl (Nat.le_of_ble_eq_true rfl) dX3_init_14 rfl (fun H locs hw => ?_)
  refine lv_aload_n hx hb dX3_init_17 rfl (lv_at hl 0 rfl) ?_
  refine z_iconst hx hb dX3_init_18 ?_
  refine z_put (D := D) (ci := 3) (v := .int (zI 0)) (ty := .int) (C := RX3) (T := TX3) (N := 9) (ws2 := [(a, .inr (3, [.null, .null, .ref q1, .int (zI 0), .int (zI 0), .null, .null, .null, .null]))] ++ [(q1, .inl (cI, 8, .inl (zA (fun _ => 0))))]) hx hb hts hinX3 tyX3 tyX3_ok nmX3 hown hK hw 0 rfl rfl 4 (by decide) (hts (.fieldLink RX3 19 "CarnivalRoad$Parade" "now" "I") (by decide +kernel)) (fun _ h9 => h9) rfl (by decide +kernel) rfl rfl (Nat.le_of_ble_eq_true rfl) dX3_init_19 rfl (fun H locs hw => ?_)
  refine lv_aload_n hx hb dX3_init_22 rfl (lv_at hl 0 rfl) ?_
  refine z_bipush hx hb dX3_init_23 (by decide) ?_
  refine z_newI (N := 8) hx hb (hts (.arrayClass .int) (by decide +kernel)) hK hw hA (by decide) (Nat.le_of_ble_eq_true rfl) (Nat.le_of_ble_eq_true rfl) dX3_init_25 (fun q2 H hw => ?_)
  refine z_putF (D := D) (ci := 3) (v := .ref q2) (ty := .array .int) (C := RX3) (T := TX3) (N := 9) (ws2 := [(a, .inr (3, [.null, .null, .ref q1, .int (zI 0), .int (zI 0), .ref q2, .null, .null, .null]))] ++ [(q1, .inl (cI, 8, .inl (zA (fun _ => 0))))] ++ [(q2, .inl (cI, 8, .inl (zA (fun _ => 0))))]) hx hb hts hinX3 tyX3 tyX3_ok nmX3 hown hK hw 0 rfl rfl 5 (by decide) (hts (.fieldLink RX3 22 "CarnivalRoad$Parade" "heads" "[I") (by decide +kernel)) (fun _ h9 => h9) rfl hinit rfl (by decide +kernel) rfl rfl (Nat.le_of_ble_eq_true rfl) dX3_init_27 rfl (fun H locs hw => ?_)
  refine lv_aload_n hx hb dX3_init_30 rfl (lv_at hl 0 rfl) ?_
  refine z_bipush hx hb dX3_init_31 (by decide) ?_
  refine z_newI (N := 8) hx hb (hts (.arrayClass .int) (by decide +kernel)) hK hw hA (by decide) (Nat.le_of_ble_eq_true rfl) (Nat.le_of_ble_eq_true rfl) dX3_init_33 (fun q3 H hw => ?_)
  refine z_putF (D := D) (ci := 3) (v := .ref q3) (ty := .array .int) (C := RX3) (T := TX3) (N := 9) (ws2 := [(a, .inr (3, [.null, .null, .ref q1, .int (zI 0), .int (zI 0), .ref q2, .ref q3, .null, .null]))] ++ [(q1, .inl (cI, 8, .inl (zA (fun _ => 0))))] ++ [(q2, .inl (cI, 8, .inl (zA (fun _ => 0))))] ++ [(q3, .inl (cI, 8, .inl (zA (fun _ => 0))))]) hx hb hts hinX3 tyX3 tyX3_ok nmX3 hown hK hw 0 rfl rfl 6 (by decide) (hts (.fieldLink RX3 25 "CarnivalRoad$Parade" "busy" "[I") (by decide +kernel)) (fun _ h9 => h9) rfl hinit rfl (by decide +kernel) rfl rfl (Nat.le_of_ble_eq_true rfl) dX3_init_35 rfl (fun H locs hw => ?_)
  refine lv_aload_n hx hb dX3_init_38 rfl (lv_at hl 0 rfl) ?_
  refine z_bipush hx hb dX3_init_39 (by decide) ?_
  refine z_newI (N := 8) hx hb (hts (.arrayClass .int) (by decide +kernel)) hK hw hA (by decide) (Nat.le_of_ble_eq_true rfl) (Nat.le_of_ble_eq_true rfl) dX3_init_41 (fun q4 H hw => ?_)
  refine z_putF (D := D) (ci := 3) (v := .ref q4) (ty := .array .int) (C := RX3) (T := TX3) (N := 9) (ws2 := [(a, .inr (3, [.null, .null, .ref q1, .int (zI 0), .int (zI 0), .ref q2, .ref q3, .ref q4, .null]))] ++ [(q1, .inl (cI, 8, .inl (zA (fun _ => 0))))] ++ [(q2, .inl (cI, 8, .inl (zA (fun _ => 0))))] ++ [(q3, .inl (cI, 8, .inl (zA (fun _ => 0))))] ++ [(q4, .inl (cI, 8, .inl (zA (fun _ => 0))))]) hx hb hts hinX3 tyX3 tyX3_ok nmX3 hown hK hw 0 rfl rfl 7 (by decide) (hts (.fieldLink RX3 28 "CarnivalRoad$Parade" "cameAt" "[I") (by decide +kernel)) (fun _ h9 => h9) rfl hinit rfl (by decide +kernel) rfl rfl (Nat.le_of_ble_eq_true rfl) dX3_init_43 rfl (fun H locs hw => ?_)
  refine lv_aload_n hx hb dX3_init_46 rfl (lv_at hl 0 rfl) ?_
  refine z_bipush hx hb dX3_init_47 (by decide) ?_
  refine z_newI (N := 8) hx hb (hts (.arrayClass .int) (by decide +kernel)) hK hw hA (by decide) (Nat.le_of_ble_eq_true rfl) (Nat.le_of_ble_eq_true rfl) dX3_init_49 (fun q5 H hw => ?_)
  refine z_putF (D := D) (ci := 3) (v := .ref q5) (ty := .array .int) (C := RX3) (T := TX3) (N := 9) (ws2 := [(a, .inr (3, [.null, .null, .ref q1, .int (zI 0), .int (zI 0), .ref q2, .ref q3, .ref q4, .ref q5]))] ++ [(q1, .inl (cI, 8, .inl (zA (fun _ => 0))))] ++ [(q2, .inl (cI, 8, .inl (zA (fun _ => 0))))] ++ [(q3, .inl (cI, 8, .inl (zA (fun _ => 0))))] ++ [(q4, .inl (cI, 8, .inl (zA (fun _ => 0))))] ++ [(q5, .inl (cI, 8, .inl (zA (fun _ => 0))))]) hx hb hts hinX3 tyX3 tyX3_ok nmX3 hown hK hw 0 rfl rfl 8 (by decide) (hts (.fieldLink RX3 31 "CarnivalRoad$Parade" "outAt" "[I") (by decide +kernel)) (fun _ h9 => h9) rfl hinit rfl (by decide +kernel) rfl rfl (Nat.le_of_ble_eq_true rfl) dX3_init_51 rfl (fun H locs hw => ?_)
  refine lv_aload_n hx hb dX3_init_54 rfl (lv_at hl 0 rfl) ?_
  refine lv_aload_n hx hb dX3_init_55 rfl (lv_at hl 1 rfl) ?_
  refine z_putF (D := D) (ci := 3) (v := .ref g) (ty := .object "CarnivalRoad$Guests") (C := RX3) (T := TX3) (N := 9) (ws2 := [(a, .inr (3, [.ref g, .null, .ref q1, .int (zI 0), .int (zI 0), .ref q2, .ref q3, .ref q4, .ref q5]))] ++ [(q1, .inl (cI, 8, .inl (zA (fun _ => 0))))] ++ [(q2, .inl (cI, 8, .inl (zA (fun _ => 0))))] ++ [(q3, .inl (cI, 8, .inl (zA (fun _ => 0))))] ++ [(q4, .inl (cI, 8, .inl (zA (fun _ => 0))))] ++ [(q5, .inl (cI, 8, .inl (zA (fun _ => 0))))]) hx hb hts hinX3 tyX3 tyX3_ok nmX3 hown hK hw 0 rfl rfl 0 (by decide) (hts (.fieldLink RX3 34 "CarnivalRoad$Parade" "guests" "LCarnivalRoad$Guests;") (by decide +kernel)) (fun _ h9 => h9) rfl hinit rfl (by decide +kernel) rfl rfl (Nat.le_of_ble_eq_true rfl) dX3_init_56 rfl (fun H locs hw => ?_)
  refine lv_aload_n hx hb dX3_init_59 rfl (lv_at hl 0 rfl) ?_
  refine lv_aload_n hx hb dX3_init_60 rfl (lv_at hl 2 rfl) ?_
  refine z_putF (D := D) (ci := 3) (v := .ref st) (ty := .object "CarnivalRoad$Street") (C := RX3) (T := TX3) (N := 9) (ws2 := [(a, .inr (3, [.ref g, .ref st, .ref q1, .int (zI 0), .int (zI 0), .ref q2, .ref q3, .ref q4, .ref q5]))] ++ [(q1, .inl (cI, 8, .inl (zA (fun _ => 0))))] ++ [(q2, .inl (cI, 8, .inl (zA (fun _ => 0))))] ++ [(q3, .inl (cI, 8, .inl (zA (fun _ => 0))))] ++ [(q4, .inl (cI, 8, .inl (zA (fun _ => 0))))] ++ [(q5, .inl (cI, 8, .inl (zA (fun _ => 0))))]) hx hb hts hinX3 tyX3 tyX3_ok nmX3 hown hK hw 0 rfl rfl 1 (by decide) (hts (.fieldLink RX3 38 "CarnivalRoad$Parade" "street" "LCarnivalRoad$Street;") (by decide +kernel)) (fun _ h9 => h9) rfl hinit rfl (by decide +kernel) rfl rfl (Nat.le_of_ble_eq_true rfl) dX3_init_61 rfl (fun H locs hw => ?_)
  exact W.vret hx hb hr (fun t9 ht hW => ⟨⟨(adN [a, q1, q2, q3, q4, q5]), rfl, rfl, by subst hAe; exact z_end hK (z_perm (ws2 := kP cI cB cZ (adN [a, q1, q2, q3, q4, q5]) g st (fun _ => 0) 0 0 (fun _ => 0) (fun _ => 0) (fun _ => 0) (fun _ => 0)) hw [0, 1, 2, 3, 4, 5] (by decide) rfl) ht hW⟩, by subst hAe; exact hw.2.2.F ht⟩) (by subst hAe; exact hw.2.2.2.2) dX3_init_64
