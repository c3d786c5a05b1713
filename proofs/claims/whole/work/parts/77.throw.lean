set_option maxRecDepth 100000 in
set_option maxHeartbeats 4000000 in
theorem c_X7_of (l : Launch) (D : va_G) (cI cB cZ : ClassId) (hst : l.stackTraces = false) (sa sb : Nat) (oG : Nat → Nat) (oC : Nat → Nat) (aCreader : Nat) (aCbars : Nat) (aCspare : Nat) (aCsearch : Nat) (aCbreach : Nat) (aCstreet : Nat) (aCparade : Nat) (aCtrial : Nat) (sz : Nat) (Gn : Int) (Gki : Int → Int) (Gle : Int → Int) (Glo : Int → Int) (Gta : Int → Int) (Gsh : Int → Int) (Crow : Int → Int) (Cquiet : Int → Int) (Crun : Int) (g : Int) (w : Int) (qGn : 0 ≤ Gn ∧ Gn ≤ 8) (qGki : RA Gki (0) 4) (qGle : RA Gle (0) 5) (qGlo : RA Glo (0) 9) (qGta : RA Gta (0) 9) (qGsh : RA Gsh (0) 9) (qCrow : RA Crow (0) 7) (qCquiet : RA Cquiet (0) 7) (qCrun : 0 ≤ Crun ∧ Crun ≤ 1) (qg : -2147483648 ≤ g ∧ g ≤ 2147483647) (qw : -2147483648 ≤ w ∧ w ≤ 2147483647) : vx_Met l yX7_of wsX7_of ({ frames := 7, cells := 1, slots := 6, locals := 111 }) (va_Pc [.ref (oC 0), .int (zI g), .int (zI w)] (zPreE sa sb D cI cB cZ sz (kG cI cB cZ oG Gn Gki Gle Glo Gta Gsh ++ kC cI cB cZ oC (oG 0) Crow Cquiet aCreader aCbars aCspare aCsearch aCbreach aCstreet aCparade aCtrial Crun))) (va_Qi (fun (r9 : Int32) (u9 : Int) => r9 = zI u9 ∧ ((0 ≤ g ∧ g < Gn) ∧ ((w = 0 ∧ u9 = Gki g) ∨ (w = 1 ∧ u9 = Gle g) ∨ (w = 2 ∧ u9 = Glo g) ∨ (w = 3 ∧ u9 = Gta g) ∨ (w = 4 ∧ u9 = Gsh g) ∨ ((w < 0 ∨ 4 < w) ∧ u9 = -1)))) (fun u9 t9 => zAt D cI cB cZ (va_A (kG cI cB cZ oG Gn Gki Gle Glo Gta Gsh ++ kC cI cB cZ oC (oG 0) Crow Cquiet aCreader aCbars aCspare aCsearch aCbreach aCstreet aCparade aCtrial Crun) sz) (kG cI cB cZ oG Gn Gki Gle Glo Gta Gsh ++ kC cI cB cZ oC (oG 0) Crow Cquiet aCreader aCbars aCspare aCsearch aCbreach aCstreet aCparade aCtrial Crun) t9) (va_A (kG cI cB cZ oG Gn Gki Gle Glo Gta Gsh ++ kC cI cB cZ oC (oG 0) Crow Cquiet aCreader aCbars aCspare aCsearch aCbreach aCstreet aCparade aCtrial Crun) sz)) (vx_X (fun _ : Unit => True) (fun E9 _ t9 => (¬ (0 ≤ g ∧ g < Gn) ∧ E9 = "java/lang/IndexOutOfBoundsException") ∧ zAt D cI cB cZ (va_A (kG cI cB cZ oG Gn Gki Gle Glo Gta Gsh ++ kC cI cB cZ oC (oG 0) Crow Cquiet aCreader aCbars aCspare aCsearch aCbreach aCstreet aCparade aCtrial Crun) sz) (kG cI cB cZ oG Gn Gki Gle Glo Gta Gsh ++ kC cI cB cZ oC (oG 0) Crow Cquiet aCreader aCbars aCspare aCsearch aCbreach aCstreet aCparade aCtrial Crun) t9) (va_A (kG cI cB cZ oG Gn Gki Gle Glo Gta Gsh ++ kC cI cB cZ oC (oG 0) Crow Cquiet aCreader aCbars aCspare aCsearch aCbreach aCstreet aCparade aCtrial Crun) sz)) 1 6 (va_A (kG cI cB cZ oG Gn Gki Gle Glo Gta Gsh ++ kC cI cB cZ oC (oG 0) Crow Cquiet aCreader aCbars aCspare aCsearch aCbreach aCstreet aCparade aCtrial Crun) sz) := by
  refine vx_ofW (cc := cX7_of) (maxL := 3) (ret := (some .int)) (by decide) rfl ?_
  intro pp ee s mm aa bw mt cd s₁ BL hml hnt hv
  obtain ⟨rfl, ⟨hsz, hP, hK, hD0⟩, hZE⟩ := hv
  have hx := BL.exec
  have hb := BL.bytes
  have hr := BL.returns
  have hts := atoms_spec (ws := wsX7_of) BL.pre
  have hown : s.vm.findClass RX7 = some mm.cls := findClass_of_methodNamed BL.named
  have hlocks := BL.notSynchronized
  subst hsz
  generalize hAe : va_A (kG cI cB cZ oG Gn Gki Gle Glo Gta Gsh ++ kC cI cB cZ oC (oG 0) Crow Cquiet aCreader aCbars aCspare aCsearch aCbreach aCstreet aCparade aCtrial Crun) s.heap.size = A at hZE ⊢
  have hA : ∀ q : Nat, s.heap.size ≤ q → A q := fun q h => by rw [← hAe]; exact Or.inr h
  have hw : HW D A s.heap (kG cI cB cZ oG Gn Gki Gle Glo Gta Gsh ++ kC cI cB cZ oC (oG 0) Crow Cquiet aCreader aCbars aCspare aCsearch aCbreach aCstreet aCparade aCtrial Crun) s.heap [] := z_start hAe hP hD0
  clear hP hD0
  have hl := lv_entry ([.ref (oC 0), .int (zI g), .int (zI w)]) (n := 3) (Nat.le_of_ble_eq_true rfl)
  rw [lg_entry_eq]
  generalize (lg_sl ([.ref (oC 0), .int (zI g), .int (zI w)]) ++ List.replicate (3 - (lg_sl ([.ref (oC 0), .int (zI g), .int (zI w)])).length) Slot.unset).toArray = ls at hl ⊢
  have hl : lv_has ls 3 [(0, .ref (oC 0)), (1, .int (zI g)), (2, .int (zI w))] := hl
  have hinX2 : ∀ w ∈ wsX20, w ∈ wsX7_of := by decide +kernel
  have hinX7 : ∀ w ∈ wsX70, w ∈ wsX7_of := by decide +kernel
  refine lv_aload_n hx hb dX7_of_0 rfl (lv_at hl 0 rfl) ?_
  refine lv_iload_n hx hb dX7_of_1 rfl (lv_at hl 1 rfl) ?_
  have hF9 := z_free (wc := kG cI cB cZ oG Gn Gki Gle Glo Gta Gsh ++ kC cI cB cZ oC (oG 0) Crow Cquiet aCreader aCbars aCspare aCsearch aCbreach aCstreet aCparade aCtrial Crun) hw hA [0, 1, 2, 3, 4, 5, 6, 7, 8] rfl
  refine vx_callv (vx_runV (As := [.int (zI g)]) (rest := []) ⟨hx, hb, hml, hown, hts⟩ (c_X7_needGuest l D cI cB cZ hst sa sb oG oC aCreader aCbars aCspare aCsearch aCbreach aCstreet aCparade aCtrial s.heap.size Gn Gki Gle Glo Gta Gsh Crow Cquiet Crun g (by omega) qGki qGle qGlo qGta qGsh qCrow qCquiet (by omega) (by omega)) (cwV 1 hts gX7_of_X7_needGuest rfl rfl rfl (by decide +kernel) ⟨Nat.le_of_ble_eq_true rfl, Nat.le_of_ble_eq_true rfl⟩) ⟨zPreE_blind, va_recv hK hw.1 (ci := 7) (q0 := 6) rfl rfl, z_preE hK hw [0, 1, 2, 3, 4, 5, 6, 7, 8] (by decide) rfl hZE hF9⟩ rfl rfl hl.1 rfl (lv_room (Nat.le_of_ble_eq_true rfl)) dX7_of_2 ⟨Nat.le_of_ble_eq_true rfl, Nat.le_of_ble_eq_true rfl⟩) hw.2.2 (fun q _ h => hF9 q h) hF9 (fun q _ h => hF9 q h) (fun E9 ce9 q9 u9 t9 H9 locs9 ht9 hvm9 hp9 hB9 hz9 hk9 hS9 hce9 hcv9 hcl9 => ?_) (fun u9 t9 H_1 locs9 ht9 hvm9 hq9 hB9 hz9 hk9 hS9 => ?_)
  · obtain ⟨hx9, hB9⟩ := hB9
    have hw : HW D A s.heap (kG cI cB cZ oG Gn Gki Gle Glo Gta Gsh ++ kC cI cB cZ oC (oG 0) Crow Cquiet aCreader aCbars aCspare aCsearch aCbreach aCstreet aCparade aCtrial Crun) H9 locs9 := z_after (wc := kG cI cB cZ oG Gn Gki Gle Glo Gta Gsh ++ kC cI cB cZ oC (oG 0) Crow Cquiet aCreader aCbars aCspare aCsearch aCbreach aCstreet aCparade aCtrial Crun) hw [0, 1, 2, 3, 4, 5, 6, 7, 8] [] rfl rfl (by decide) (by decide) hF9 hk9 ht9 hB9 hS9 [0, 1, 2, 3, 4, 5, 6, 7, 8] (by decide) rfl
    exact vx_out (fun x hx => (hnt x hx).elim) hlocks hce9 hcv9 hcl9 (fun t ht hAl => ⟨(), trivial, ⟨by first | exact hx9 | exact Or.inl hx9 | exact Or.inr hx9, by subst hAe; exact z_alike hK hw ht hAl⟩, by subst hAe; exact hw.2.2.F ht⟩) (by subst hAe; exact hw.2.2.2.2) (Nat.le_of_ble_eq_true rfl) (Nat.le_of_ble_eq_true rfl)
  try dsimp only at hq9 hB9
  have hq_2 := hq9
  have hw : HW D A s.heap (kG cI cB cZ oG Gn Gki Gle Glo Gta Gsh ++ kC cI cB cZ oC (oG 0) Crow Cquiet aCreader aCbars aCspare aCsearch aCbreach aCstreet aCparade aCtrial Crun) H_1 locs9 := z_after (wc := kG cI cB cZ oG Gn Gki Gle Glo Gta Gsh ++ kC cI cB cZ oC (oG 0) Crow Cquiet aCreader aCbars aCspare aCsearch aCbreach aCstreet aCparade aCtrial Crun) hw [0, 1, 2, 3, 4, 5, 6, 7, 8] [] rfl rfl (by decide) (by decide) hF9 hk9 ht9 hB9 hS9 [0, 1, 2, 3, 4, 5, 6, 7, 8] (by decide) rfl
  clear hF9 ht9 hvm9 hB9 hz9 hk9 hS9 hq9
  refine lv_iload_n hx hb dX7_of_5 rfl (lv_at hl 2 rfl) ?_
  rcases (show (w < 0 ∨ 4 < w) ∨ w = 0 ∨ w = 1 ∨ w = 2 ∨ w = 3 ∨ w = 4 by omega) with hc_3 | hc_3 | hc_3 | hc_3 | hc_3 | hc_3
  · skip
    refine z_tableOut (tgt := 90) hx hb (by omega) hc_3 dX7_of_6 (by decide) ?_
    refine z_iconst hx hb dX7_of_90 ?_
    have hv_4 : 0 ≤ g ∧ g < Gn := by
      first | assumption | omega | grind
    have hv_5 : (w = 0 ∧ ((-1) : Int) = Gki g) ∨ (w = 1 ∧ ((-1) : Int) = Gle g) ∨ (w = 2 ∧ ((-1) : Int) = Glo g) ∨ (w = 3 ∧ ((-1) : Int) = Gta g) ∨ (w = 4 ∧ ((-1) : Int) = Gsh g) ∨ ((w < 0 ∨ 4 < w) ∧ ((-1) : Int) = -1) := by
      first | assumption | omega | grind
    refine vx_ret ?_
    exact W.iret (v := zI (-1)) hx hb hr (fun t9 ht hW => ⟨⟨zI (-1), (-1), rfl, ⟨rfl, ⟨hv_4, hv_5⟩⟩, by subst hAe; exact z_end hK hw ht hW⟩, by subst hAe; exact hw.2.2.F ht⟩) (by subst hAe; exact hw.2.2.2.2) dX7_of_91
  · skip
    refine z_tableIn (k := 0) (off := 34) (tgt := 40) hx hb hc_3 dX7_of_6 (by decide) (by decide) rfl (by decide) ?_
    refine lv_aload_n hx hb dX7_of_40 rfl (lv_at hl 0 rfl) ?_
    refine va_get (D := D) (ci := 7) (v := .ref (oG 0)) (C := RX7) (T := TX7) (N := 12) hx hb hts hinX7 hown hK hw.1 6 rfl rfl 0 (by decide) (hts (.fieldLink RX7 10 "CarnivalRoad" "guests" "LCarnivalRoad$Guests;") (by decide +kernel)) (fun _ h9 => h9) rfl dX7_of_41 ?_
    refine va_get (D := D) (ci := 2) (v := .ref (oG 1)) (C := RX2) (T := TX2) (N := 6) hx hb hts hinX2 hown hK hw.1 0 rfl rfl 1 (by decide) (hts (.fieldLink RX7 95 "CarnivalRoad$Guests" "kinds" "[I") (by decide +kernel)) (fun _ h9 => h9) rfl dX7_of_44 ?_
    refine lv_iload_n hx hb dX7_of_47 rfl (lv_at hl 1 rfl) ?_
    have hi_6 : (0 : Int) ≤ g ∧ g < ((8 : Nat) : Int) := by
      first | assumption | omega | grind
    refine z_iald (n := 8) (f := Gki) hx hb hK hw 1 rfl (by decide) hi_6 dX7_of_48 ?_
    have hq_7 : 0 ≤ Gki g ∧ Gki g ≤ 4 := qGki g
    have hv_8 : 0 ≤ g ∧ g < Gn := by
      first | assumption | omega | grind
    have hv_9 : (w = 0 ∧ (Gki g) = Gki g) ∨ (w = 1 ∧ (Gki g) = Gle g) ∨ (w = 2 ∧ (Gki g) = Glo g) ∨ (w = 3 ∧ (Gki g) = Gta g) ∨ (w = 4 ∧ (Gki g) = Gsh g) ∨ ((w < 0 ∨ 4 < w) ∧ (Gki g) = -1) := by
      first | assumption | omega | grind
    refine vx_ret ?_
    exact W.iret (v := zI (Gki g)) hx hb hr (fun t9 ht hW => ⟨⟨zI (Gki g), (Gki g), rfl, ⟨rfl, ⟨hv_8, hv_9⟩⟩, by subst hAe; exact z_end hK hw ht hW⟩, by subst hAe; exact hw.2.2.F ht⟩) (by subst hAe; exact hw.2.2.2.2) dX7_of_49
  · skip
    refine z_tableIn (k := 1) (off := 44) (tgt := 50) hx hb hc_3 dX7_of_6 (by decide) (by decide) rfl (by decide) ?_
    refine lv_aload_n hx hb dX7_of_50 rfl (lv_at hl 0 rfl) ?_
    refine va_get (D := D) (ci := 7) (v := .ref (oG 0)) (C := RX7) (T := TX7) (N := 12) hx hb hts hinX7 hown hK hw.1 6 rfl rfl 0 (by decide) (hts (.fieldLink RX7 10 "CarnivalRoad" "guests" "LCarnivalRoad$Guests;") (by decide +kernel)) (fun _ h9 => h9) rfl dX7_of_51 ?_
    refine va_get (D := D) (ci := 2) (v := .ref (oG 2)) (C := RX2) (T := TX2) (N := 6) hx hb hts hinX2 hown hK hw.1 0 rfl rfl 2 (by decide) (hts (.fieldLink RX7 98 "CarnivalRoad$Guests" "lengths" "[I") (by decide +kernel)) (fun _ h9 => h9) rfl dX7_of_54 ?_
    refine lv_iload_n hx hb dX7_of_57 rfl (lv_at hl 1 rfl) ?_
    have hi_10 : (0 : Int) ≤ g ∧ g < ((8 : Nat) : Int) := by
      first | assumption | omega | grind
    refine z_iald (n := 8) (f := Gle) hx hb hK hw 2 rfl (by decide) hi_10 dX7_of_58 ?_
    have hq_11 : 0 ≤ Gle g ∧ Gle g ≤ 5 := qGle g
    have hv_12 : 0 ≤ g ∧ g < Gn := by
      first | assumption | omega | grind
    have hv_13 : (w = 0 ∧ (Gle g) = Gki g) ∨ (w = 1 ∧ (Gle g) = Gle g) ∨ (w = 2 ∧ (Gle g) = Glo g) ∨ (w = 3 ∧ (Gle g) = Gta g) ∨ (w = 4 ∧ (Gle g) = Gsh g) ∨ ((w < 0 ∨ 4 < w) ∧ (Gle g) = -1) := by
      first | assumption | omega | grind
    refine vx_ret ?_
    exact W.iret (v := zI (Gle g)) hx hb hr (fun t9 ht hW => ⟨⟨zI (Gle g), (Gle g), rfl, ⟨rfl, ⟨hv_12, hv_13⟩⟩, by subst hAe; exact z_end hK hw ht hW⟩, by subst hAe; exact hw.2.2.F ht⟩) (by subst hAe; exact hw.2.2.2.2) dX7_of_59
  · skip
    refine z_tableIn (k := 2) (off := 54) (tgt := 60) hx hb hc_3 dX7_of_6 (by decide) (by decide) rfl (by decide) ?_
    refine lv_aload_n hx hb dX7_of_60 rfl (lv_at hl 0 rfl) ?_
    refine va_get (D := D) (ci := 7) (v := .ref (oG 0)) (C := RX7) (T := TX7) (N := 12) hx hb hts hinX7 hown hK hw.1 6 rfl rfl 0 (by decide) (hts (.fieldLink RX7 10 "CarnivalRoad" "guests" "LCarnivalRoad$Guests;") (by decide +kernel)) (fun _ h9 => h9) rfl dX7_of_61 ?_
    refine va_get (D := D) (ci := 2) (v := .ref (oG 3)) (C := RX2) (T := TX2) (N := 6) hx hb hts hinX2 hown hK hw.1 0 rfl rfl 3 (by decide) (hts (.fieldLink RX7 101 "CarnivalRoad$Guests" "louds" "[I") (by decide +kernel)) (fun _ h9 => h9) rfl dX7_of_64 ?_
    refine lv_iload_n hx hb dX7_of_67 rfl (lv_at hl 1 rfl) ?_
    have hi_14 : (0 : Int) ≤ g ∧ g < ((8 : Nat) : Int) := by
      first | assumption | omega | grind
    refine z_iald (n := 8) (f := Glo) hx hb hK hw 3 rfl (by decide) hi_14 dX7_of_68 ?_
    have hq_15 : 0 ≤ Glo g ∧ Glo g ≤ 9 := qGlo g
    have hv_16 : 0 ≤ g ∧ g < Gn := by
      first | assumption | omega | grind
    have hv_17 : (w = 0 ∧ (Glo g) = Gki g) ∨ (w = 1 ∧ (Glo g) = Gle g) ∨ (w = 2 ∧ (Glo g) = Glo g) ∨ (w = 3 ∧ (Glo g) = Gta g) ∨ (w = 4 ∧ (Glo g) = Gsh g) ∨ ((w < 0 ∨ 4 < w) ∧ (Glo g) = -1) := by
      first | assumption | omega | grind
    refine vx_ret ?_
    exact W.iret (v := zI (Glo g)) hx hb hr (fun t9 ht hW => ⟨⟨zI (Glo g), (Glo g), rfl, ⟨rfl, ⟨hv_16, hv_17⟩⟩, by subst hAe; exact z_end hK hw ht hW⟩, by subst hAe; exact hw.2.2.F ht⟩) (by subst hAe; exact hw.2.2.2.2) dX7_of_69
  · skip
    refine z_tableIn (k := 3) (off := 64) (tgt := 70) hx hb hc_3 dX7_of_6 (by decide) (by decide) rfl (by decide) ?_
    refine lv_aload_n hx hb dX7_of_70 rfl (lv_at hl 0 rfl) ?_
    refine va_get (D := D) (ci := 7) (v := .ref (oG 0)) (C := RX7) (T := TX7) (N := 12) hx hb hts hinX7 hown hK hw.1 6 rfl rfl 0 (by decide) (hts (.fieldLink RX7 10 "CarnivalRoad" "guests" "LCarnivalRoad$Guests;") (by decide +kernel)) (fun _ h9 => h9) rfl dX7_of_71 ?_
    refine va_get (D := D) (ci := 2) (v := .ref (oG 4)) (C := RX2) (T := TX2) (N := 6) hx hb hts hinX2 hown hK hw.1 0 rfl rfl 4 (by decide) (hts (.fieldLink RX7 104 "CarnivalRoad$Guests" "talls" "[I") (by decide +kernel)) (fun _ h9 => h9) rfl dX7_of_74 ?_
    refine lv_iload_n hx hb dX7_of_77 rfl (lv_at hl 1 rfl) ?_
    have hi_18 : (0 : Int) ≤ g ∧ g < ((8 : Nat) : Int) := by
      first | assumption | omega | grind
    refine z_iald (n := 8) (f := Gta) hx hb hK hw 4 rfl (by decide) hi_18 dX7_of_78 ?_
    have hq_19 : 0 ≤ Gta g ∧ Gta g ≤ 9 := qGta g
    have hv_20 : 0 ≤ g ∧ g < Gn := by
      first | assumption | omega | grind
    have hv_21 : (w = 0 ∧ (Gta g) = Gki g) ∨ (w = 1 ∧ (Gta g) = Gle g) ∨ (w = 2 ∧ (Gta g) = Glo g) ∨ (w = 3 ∧ (Gta g) = Gta g) ∨ (w = 4 ∧ (Gta g) = Gsh g) ∨ ((w < 0 ∨ 4 < w) ∧ (Gta g) = -1) := by
      first | assumption | omega | grind
    refine vx_ret ?_
    exact W.iret (v := zI (Gta g)) hx hb hr (fun t9 ht hW => ⟨⟨zI (Gta g), (Gta g), rfl, ⟨rfl, ⟨hv_20, hv_21⟩⟩, by subst hAe; exact z_end hK hw ht hW⟩, by subst hAe; exact hw.2.2.F ht⟩) (by subst hAe; exact hw.2.2.2.2) dX7_of_79
  · skip
    refine z_tableIn (k := 4) (off := 74) (tgt := 80) hx hb hc_3 dX7_of_6 (by decide) (by decide) rfl (by decide) ?_
    refine lv_aload_n hx hb dX7_of_80 rfl (lv_at hl 0 rfl) ?_
    refine va_get (D := D) (ci := 7) (v := .ref (oG 0)) (C := RX7) (T := TX7) (N := 12) hx hb hts hinX7 hown hK hw.1 6 rfl rfl 0 (by decide) (hts (.fieldLink RX7 10 "CarnivalRoad" "guests" "LCarnivalRoad$Guests;") (by decide +kernel)) (fun _ h9 => h9) rfl dX7_of_81 ?_
    refine va_get (D := D) (ci := 2) (v := .ref (oG 5)) (C := RX2) (T := TX2) (N := 6) hx hb hts hinX2 hown hK hw.1 0 rfl rfl 5 (by decide) (hts (.fieldLink RX7 107 "CarnivalRoad$Guests" "shys" "[I") (by decide +kernel)) (fun _ h9 => h9) rfl dX7_of_84 ?_
    refine lv_iload_n hx hb dX7_of_87 rfl (lv_at hl 1 rfl) ?_
    have hi_22 : (0 : Int) ≤ g ∧ g < ((8 : Nat) : Int) := by
      first | assumption | omega | grind
    refine z_iald (n := 8) (f := Gsh) hx hb hK hw 5 rfl (by decide) hi_22 dX7_of_88 ?_
    have hq_23 : 0 ≤ Gsh g ∧ Gsh g ≤ 9 := qGsh g
    have hv_24 : 0 ≤ g ∧ g < Gn := by
      first | assumption | omega | grind
    have hv_25 : (w = 0 ∧ (Gsh g) = Gki g) ∨ (w = 1 ∧ (Gsh g) = Gle g) ∨ (w = 2 ∧ (Gsh g) = Glo g) ∨ (w = 3 ∧ (Gsh g) = Gta g) ∨ (w = 4 ∧ (Gsh g) = Gsh g) ∨ ((w < 0 ∨ 4 < w) ∧ (Gsh g) = -1) := by
      first | assumption | omega | grind
    refine vx_ret ?_
    exact W.iret (v := zI (Gsh g)) hx hb hr (fun t9 ht hW => ⟨⟨zI (Gsh g), (Gsh g), rfl, ⟨rfl, ⟨hv_24, hv_25⟩⟩, by subst hAe; exact z_end hK hw ht hW⟩, by subst hAe; exact hw.2.2.F ht⟩) (by subst hAe; exact hw.2.2.2.2) dX7_of_89
set_option maxRecDepth 100000 in
set_option maxHeartbeats 4000000 in
theorem c_X7_passes (l : Launch) (D : va_G) (cI cB cZ : ClassId) (hst : l.stackTraces = false) (sa sb : Nat) (oG : Nat → Nat) (oT : Nat → Nat) (oC : Nat → Nat) (aCreader : Nat) (aCbars : Nat) (aCspare : Nat) (aCsearch : Nat) (aCbreach : Nat) (aCparade : Nat) (aCtrial : Nat) (sz : Nat) (Gn : Int) (Gki : Int → Int) (Gle : Int → Int) (Glo : Int → Int) (Gta : Int → Int) (Gsh : Int → Int) (Tcells : Int) (Tgap : Int) (Twires : Int → Int) (Tstands : Int → Int) (Crow : Int → Int) (Cquiet : Int → Int) (Crun : Int) (g : Int) (qGn : 0 ≤ Gn ∧ Gn ≤ 8) (qGki : RA Gki (0) 4) (qGle : RA Gle (0) 5) (qGlo : RA Glo (0) 9) (qGta : RA Gta (0) 9) (qGsh : RA Gsh (0) 9) (qTcells : 1 ≤ Tcells ∧ Tcells ≤ 50) (qTgap : 0 ≤ Tgap ∧ Tgap ≤ 3) (qTwires : RA Twires (0) 9) (qTstands : RA Tstands (0) 9) (qCrow : RA Crow (0) 7) (qCquiet : RA Cquiet (0) 7) (qCrun : 0 ≤ Crun ∧ Crun ≤ 1) (qg : -2147483648 ≤ g ∧ g ≤ 2147483647) : vx_Met l yX7_passes wsX7_passes ({ frames := 7, cells := 1, slots := 6, locals := 111 }) (va_Pc [.ref (oC 0), .int (zI g)] (zPreE sa sb D cI cB cZ sz (kG cI cB cZ oG Gn Gki Gle Glo Gta Gsh ++ kT cI cB cZ oT Tcells Tgap Twires Tstands ++ kC cI cB cZ oC (oG 0) Crow Cquiet aCreader aCbars aCspare aCsearch aCbreach (oT 0) aCparade aCtrial Crun))) (va_Qi (fun (r9 : Int32) (u9 : Int) => r9 = zI u9 ∧ ((0 ≤ g ∧ g < Gn) ∧ (fstP (lowP Twires (Gta g)) Tcells u9))) (fun u9 t9 => zAt D cI cB cZ (va_A (kG cI cB cZ oG Gn Gki Gle Glo Gta Gsh ++ kT cI cB cZ oT Tcells Tgap Twires Tstands ++ kC cI cB cZ oC (oG 0) Crow Cquiet aCreader aCbars aCspare aCsearch aCbreach (oT 0) aCparade aCtrial Crun) sz) (kG cI cB cZ oG Gn Gki Gle Glo Gta Gsh ++ kT cI cB cZ oT Tcells Tgap Twires Tstands ++ kC cI cB cZ oC (oG 0) Crow Cquiet aCreader aCbars aCspare aCsearch aCbreach (oT 0) aCparade aCtrial Crun) t9) (va_A (kG cI cB cZ oG Gn Gki Gle Glo Gta Gsh ++ kT cI cB cZ oT Tcells Tgap Twires Tstands ++ kC cI cB cZ oC (oG 0) Crow Cquiet aCreader aCbars aCspare aCsearch aCbreach (oT 0) aCparade aCtrial Crun) sz)) (vx_X (fun _ : Unit => True) (fun E9 _ t9 => (¬ (0 ≤ g ∧ g < Gn) ∧ E9 = "java/lang/IndexOutOfBoundsException") ∧ zAt D cI cB cZ (va_A (kG cI cB cZ oG Gn Gki Gle Glo Gta Gsh ++ kT cI cB cZ oT Tcells Tgap Twires Tstands ++ kC cI cB cZ oC (oG 0) Crow Cquiet aCreader aCbars aCspare aCsearch aCbreach (oT 0) aCparade aCtrial Crun) sz) (kG cI cB cZ oG Gn Gki Gle Glo Gta Gsh ++ kT cI cB cZ oT Tcells Tgap Twires Tstands ++ kC cI cB cZ oC (oG 0) Crow Cquiet aCreader aCbars aCspare aCsearch aCbreach (oT 0) aCparade aCtrial Crun) t9) (va_A (kG cI cB cZ oG Gn Gki Gle Glo Gta Gsh ++ kT cI cB cZ oT Tcells Tgap Twires Tstands ++ kC cI cB cZ oC (oG 0) Crow Cquiet aCreader aCbars aCspare aCsearch aCbreach (oT 0) aCparade aCtrial Crun) sz)) 1 6 (va_A (kG cI cB cZ oG Gn Gki Gle Glo Gta Gsh ++ kT cI cB cZ oT Tcells Tgap Twires Tstands ++ kC cI cB cZ oC (oG 0) Crow Cquiet aCreader aCbars aCspare aCsearch aCbreach (oT 0) aCparade aCtrial Crun) sz) := by
  refine vx_ofW (cc := cX7_passes) (maxL := 2) (ret := (some .int)) (by decide) rfl ?_
  intro pp ee s mm aa bw mt cd s₁ BL hml hnt hv
  obtain ⟨rfl, ⟨hsz, hP, hK, hD0⟩, hZE⟩ := hv
  have hx := BL.exec
  have hb := BL.bytes
  have hr := BL.returns
  have hts := atoms_spec (ws := wsX7_passes) BL.pre
  have hown : s.vm.findClass RX7 = some mm.cls := findClass_of_methodNamed BL.named
  have hlocks := BL.notSynchronized
  subst hsz
  generalize hAe : va_A (kG cI cB cZ oG Gn Gki Gle Glo Gta Gsh ++ kT cI cB cZ oT Tcells Tgap Twires Tstands ++ kC cI cB cZ oC (oG 0) Crow Cquiet aCreader aCbars aCspare aCsearch aCbreach (oT 0) aCparade aCtrial Crun) s.heap.size = A at hZE ⊢
  have hA : ∀ q : Nat, s.heap.size ≤ q → A q := fun q h => by rw [← hAe]; exact Or.inr h
  have hw : HW D A s.heap (kG cI cB cZ oG Gn Gki Gle Glo Gta Gsh ++ kT cI cB cZ oT Tcells Tgap Twires Tstands ++ kC cI cB cZ oC (oG 0) Crow Cquiet aCreader aCbars aCspare aCsearch aCbreach (oT 0) aCparade aCtrial Crun) s.heap [] := z_start hAe hP hD0
  clear hP hD0
  have hl := lv_entry ([.ref (oC 0), .int (zI g)]) (n := 2) (Nat.le_of_ble_eq_true rfl)
  rw [lg_entry_eq]
  generalize (lg_sl ([.ref (oC 0), .int (zI g)]) ++ List.replicate (2 - (lg_sl ([.ref (oC 0), .int (zI g)])).length) Slot.unset).toArray = ls at hl ⊢
  have hl : lv_has ls 2 [(0, .ref (oC 0)), (1, .int (zI g))] := hl
  have hinX2 : ∀ w ∈ wsX20, w ∈ wsX7_passes := by decide +kernel
  have hinX7 : ∀ w ∈ wsX70, w ∈ wsX7_passes := by decide +kernel
  refine lv_aload_n hx hb dX7_passes_0 rfl (lv_at hl 0 rfl) ?_
  refine lv_iload_n hx hb dX7_passes_1 rfl (lv_at hl 1 rfl) ?_
  have hF9 := z_free (wc := kG cI cB cZ oG Gn Gki Gle Glo Gta Gsh ++ kC cI cB cZ oC (oG 0) Crow Cquiet aCreader aCbars aCspare aCsearch aCbreach (oT 0) aCparade aCtrial Crun) hw hA [0, 1, 2, 3, 4, 5, 9, 10, 11] rfl
  refine vx_callv (vx_runV (As := [.int (zI g)]) (rest := []) ⟨hx, hb, hml, hown, hts⟩ (c_X7_needGuest l D cI cB cZ hst sa sb oG oC aCreader aCbars aCspare aCsearch aCbreach (oT 0) aCparade aCtrial s.heap.size Gn Gki Gle Glo Gta Gsh Crow Cquiet Crun g (by omega) qGki qGle qGlo qGta qGsh qCrow qCquiet (by omega) (by omega)) (cwV 1 hts gX7_passes_X7_needGuest rfl rfl rfl (by decide +kernel) ⟨Nat.le_of_ble_eq_true rfl, Nat.le_of_ble_eq_true rfl⟩) ⟨zPreE_blind, va_recv hK hw.1 (ci := 7) (q0 := 9) rfl rfl, z_preE hK hw [0, 1, 2, 3, 4, 5, 9, 10, 11] (by decide) rfl hZE hF9⟩ rfl rfl hl.1 rfl (lv_room (Nat.le_of_ble_eq_true rfl)) dX7_passes_2 ⟨Nat.le_of_ble_eq_true rfl, Nat.le_of_ble_eq_true rfl⟩) hw.2.2 (fun q _ h => hF9 q h) hF9 (fun q _ h => hF9 q h) (fun E9 ce9 q9 u9 t9 H9 locs9 ht9 hvm9 hp9 hB9 hz9 hk9 hS9 hce9 hcv9 hcl9 => ?_) (fun u9 t9 H_1 locs9 ht9 hvm9 hq9 hB9 hz9 hk9 hS9 => ?_)
  · obtain ⟨hx9, hB9⟩ := hB9
    have hw : HW D A s.heap (kG cI cB cZ oG Gn Gki Gle Glo Gta Gsh ++ kT cI cB cZ oT Tcells Tgap Twires Tstands ++ kC cI cB cZ oC (oG 0) Crow Cquiet aCreader aCbars aCspare aCsearch aCbreach (oT 0) aCparade aCtrial Crun) H9 locs9 := z_after (wc := kG cI cB cZ oG Gn Gki Gle Glo Gta Gsh ++ kC cI cB cZ oC (oG 0) Crow Cquiet aCreader aCbars aCspare aCsearch aCbreach (oT 0) aCparade aCtrial Crun) hw [0, 1, 2, 3, 4, 5, 9, 10, 11] [6, 7, 8] rfl rfl (by decide) (by decide) hF9 hk9 ht9 hB9 hS9 [3, 4, 5, 6, 7, 8, 0, 1, 2, 9, 10, 11] (by decide) rfl
    exact vx_out (fun x hx => (hnt x hx).elim) hlocks hce9 hcv9 hcl9 (fun t ht hAl => ⟨(), trivial, ⟨by first | exact hx9 | exact Or.inl hx9 | exact Or.inr hx9, by subst hAe; exact z_alike hK hw ht hAl⟩, by subst hAe; exact hw.2.2.F ht⟩) (by subst hAe; exact hw.2.2.2.2) (Nat.le_of_ble_eq_true rfl) (Nat.le_of_ble_eq_true rfl)
  try dsimp only at hq9 hB9
  have hq_2 := hq9
  have hw : HW D A s.heap (kG cI cB cZ oG Gn Gki Gle Glo Gta Gsh ++ kT cI cB cZ oT Tcells Tgap Twires Tstands ++ kC cI cB cZ oC (oG 0) Crow Cquiet aCreader aCbars aCspare aCsearch aCbreach (oT 0) aCparade aCtrial Crun) H_1 locs9 := z_after (wc := kG cI cB cZ oG Gn Gki Gle Glo Gta Gsh ++ kC cI cB cZ oC (oG 0) Crow Cquiet aCreader aCbars aCspare aCsearch aCbreach (oT 0) aCparade aCtrial Crun) hw [0, 1, 2, 3, 4, 5, 9, 10, 11] [6, 7, 8] rfl rfl (by decide) (by decide) hF9 hk9 ht9 hB9 hS9 [3, 4, 5, 6, 7, 8, 0, 1, 2, 9, 10, 11] (by decide) rfl
  clear hF9 ht9 hvm9 hB9 hz9 hk9 hS9 hq9
  refine lv_aload_n hx hb dX7_passes_5 rfl (lv_at hl 0 rfl) ?_
  refine va_get (D := D) (ci := 7) (v := .ref (oT 0)) (C := RX7) (T := TX7) (N := 12) hx hb hts hinX7 hown hK hw.1 9 rfl rfl 8 (by decide) (hts (.fieldLink RX7 59 "CarnivalRoad" "street" "LCarnivalRoad$Street;") (by decide +kernel)) (fun _ h9 => h9) rfl dX7_passes_6 ?_
  refine lv_aload_n hx hb dX7_passes_9 rfl (lv_at hl 0 rfl) ?_
  refine va_get (D := D) (ci := 7) (v := .ref (oG 0)) (C := RX7) (T := TX7) (N := 12) hx hb hts hinX7 hown hK hw.1 9 rfl rfl 0 (by decide) (hts (.fieldLink RX7 10 "CarnivalRoad" "guests" "LCarnivalRoad$Guests;") (by decide +kernel)) (fun _ h9 => h9) rfl dX7_passes_10 ?_
  refine va_get (D := D) (ci := 2) (v := .ref (oG 4)) (C := RX2) (T := TX2) (N := 6) hx hb hts hinX2 hown hK hw.1 0 rfl rfl 4 (by decide) (hts (.fieldLink RX7 104 "CarnivalRoad$Guests" "talls" "[I") (by decide +kernel)) (fun _ h9 => h9) rfl dX7_passes_13 ?_
  refine lv_iload_n hx hb dX7_passes_16 rfl (lv_at hl 1 rfl) ?_
  have hi_3 : (0 : Int) ≤ g ∧ g < ((8 : Nat) : Int) := by
    first | assumption | omega | grind
  refine z_iald (n := 8) (f := Gta) hx hb hK hw 4 rfl (by decide) hi_3 dX7_passes_17 ?_
  have hq_4 : 0 ≤ Gta g ∧ Gta g ≤ 9 := qGta g
  have hF9 := z_free (wc := kT cI cB cZ oT Tcells Tgap Twires Tstands) hw hA [6, 7, 8] rfl
  refine va_calli (va_runV (As := [.int (zI (Gta g))]) (rest := []) ⟨hx, hb, hml, hown, hts⟩ (c_X6_firstTooLow l D cI cB cZ oT H_1.size Tcells Tgap Twires Tstands (Gta g) (by omega) (by omega) qTwires qTstands (by omega)) (cwV 1 hts gX7_passes_X6_firstTooLow rfl rfl rfl (by decide +kernel) ⟨Nat.le_of_ble_eq_true rfl, Nat.le_of_ble_eq_true rfl⟩) ⟨zPre_blind, va_recv hK hw.1 (ci := 6) (q0 := 6) rfl rfl, z_pre hK hw [6, 7, 8] (by decide) rfl⟩ rfl rfl hl.1 rfl (lv_room (Nat.le_of_ble_eq_true rfl)) dX7_passes_18 ⟨Nat.le_of_ble_eq_true rfl, Nat.le_of_ble_eq_true rfl⟩) hw.2.2 (fun q _ h => hF9 q h) hF9 (fun r9 u9 t9 H_5 locs9 ht9 hvm9 hq9 hB9 hz9 hk9 hS9 => ?_)
  obtain ⟨r_6, rfl⟩ : ∃ z, z = u9 := ⟨_, rfl⟩
  try dsimp only at hq9 hB9
  obtain ⟨rfl, hq9⟩ := hq9
  obtain ⟨hq_7, hq_8⟩ := hq9
  have hw : HW D A s.heap (kG cI cB cZ oG Gn Gki Gle Glo Gta Gsh ++ kT cI cB cZ oT Tcells Tgap Twires Tstands ++ kC cI cB cZ oC (oG 0) Crow Cquiet aCreader aCbars aCspare aCsearch aCbreach (oT 0) aCparade aCtrial Crun) H_5 locs9 := z_after (wc := kT cI cB cZ oT Tcells Tgap Twires Tstands) hw [6, 7, 8] [0, 1, 2, 3, 4, 5, 9, 10, 11] rfl rfl (by decide) (by decide) hF9 hk9 ht9 hB9 hS9 [0, 1, 2, 3, 4, 5, 9, 10, 11, 6, 7, 8] (by decide) rfl
  clear hF9 ht9 hvm9 hB9 hz9 hk9 hS9
  have hv_9 : 0 ≤ g ∧ g < Gn := by
    first | assumption | omega | grind
  have hv_10 : fstP (lowP Twires (Gta g)) Tcells r_6 := by
    first | assumption | omega | grind
  refine vx_ret ?_
  exact W.iret (v := zI r_6) hx hb hr (fun t9 ht hW => ⟨⟨zI r_6, r_6, rfl, ⟨rfl, ⟨hv_9, hv_10⟩⟩, by subst hAe; exact z_end hK hw ht hW⟩, by subst hAe; exact hw.2.2.F ht⟩) (by subst hAe; exact hw.2.2.2.2) dX7_passes_21
set_option maxRecDepth 100000 in
set_option maxHeartbeats 4000000 in
theorem c_X7_run (l : Launch) (D : va_G) (cI cB cZ : ClassId) (hst : l.stackTraces = false) (sa sb : Nat) (oG : Nat → Nat) (oT : Nat → Nat) (oP : Nat → Nat) (oC : Nat → Nat) (aCreader : Nat) (aCbars : Nat) (aCspare : Nat) (aCsearch : Nat) (aCbreach : Nat) (aCtrial : Nat) (sz : Nat) (Gn : Int) (Gki : Int → Int) (Gle : Int → Int) (Glo : Int → Int) (Gta : Int → Int) (Gsh : Int → Int) (Tcells : Int) (Tgap : Int) (Twires : Int → Int) (Tstands : Int → Int) (Pline : Int → Int) (Psize : Int) (Pnow : Int) (Pheads : Int → Int) (Pbusy : Int → Int) (Pcame : Int → Int) (Pout : Int → Int) (Crow : Int → Int) (Cquiet : Int → Int) (Crun : Int) (t : Int) (qGn : 0 ≤ Gn ∧ Gn ≤ 8) (qGki : RA Gki (0) 4) (qGle : RA Gle (0) 5) (qGlo : RA Glo (0) 9) (qGta : RA Gta (0) 9) (qGsh : RA Gsh (0) 9) (qTcells : 1 ≤ Tcells ∧ Tcells ≤ 50) (qTgap : 0 ≤ Tgap ∧ Tgap ≤ 3) (qTwires : RA Twires (0) 9) (qTstands : RA Tstands (0) 9) (qPline : RA Pline (0) 7) (qPsize : 0 ≤ Psize ∧ Psize ≤ 8) (qPnow : 0 ≤ Pnow ∧ Pnow ≤ 1000000) (qPheads : RA Pheads (-1) 60) (qPbusy : RA Pbusy (0) 30) (qPcame : RA Pcame (-1) 1000000) (qPout : RA Pout (-1) 1000000) (qCrow : RA Crow (0) 7) (qCquiet : RA Cquiet (0) 7) (qCrun : 0 ≤ Crun ∧ Crun ≤ 1) (qt : -2147483648 ≤ t ∧ t ≤ 2147483647) (hp0 : Crun = 1 → JP Gle Tcells Pheads Pout) (hp1 : Pnow ≤ 900000) : vx_Met l yX7_run wsX7_run ({ frames := 7, cells := 1, slots := 6, locals := 110 }) (va_Pc [.ref (oC 0), .int (zI t)] (zPreE sa sb D cI cB cZ sz (kG cI cB cZ oG Gn Gki Gle Glo Gta Gsh ++ kT cI cB cZ oT Tcells Tgap Twires Tstands ++ kP cI cB cZ oP (oG 0) (oT 0) Pline Psize Pnow Pheads Pbusy Pcame Pout ++ kC cI cB cZ oC (oG 0) Crow Cquiet aCreader aCbars aCspare aCsearch aCbreach (oT 0) (oP 0) aCtrial Crun))) (va_Qi (fun (r9 : Int32) (u9 : Int × Int × (Int → Int) × (Int → Int) × (Int → Int) × (Int → Int)) => r9 = zI u9.1 ∧ (((0 : Int) ≤ u9.2.1 ∧ u9.2.1 ≤ 1000000) ∧ (RA u9.2.2.1 (-1) 60) ∧ (RA u9.2.2.2.1 (0) 30) ∧ (RA u9.2.2.2.2.1 (-1) 1000000) ∧ (RA u9.2.2.2.2.2 (-1) 1000000) ∧ (Crun = 1) ∧ ((¬ (0 ≤ t ∧ t ≤ 500) ∧ u9.1 = -1 ∧ u9.2.1 = Pnow ∧ u9.2.2.1 = Pheads ∧ u9.2.2.2.1 = Pbusy ∧ u9.2.2.2.2.1 = Pcame ∧ u9.2.2.2.2.2 = Pout) ∨ ((0 ≤ t ∧ t ≤ 500) ∧ ∃ k : Nat, u9.1 = (k : Int) ∧ (k : Int) ≤ t ∧ u9.2.1 = Pnow + (k : Int) ∧ (u9.2.2.1, u9.2.2.2.1, u9.2.2.2.2.1, u9.2.2.2.2.2) = (runK Gki Gle Tcells Tgap Tstands Pline Psize Pnow (Pheads, Pbusy, Pcame, Pout) k) ∧ ((k : Int) = t ∨ allP Pline Psize (runK Gki Gle Tcells Tgap Tstands Pline Psize Pnow (Pheads, Pbusy, Pcame, Pout) k).2.2.2) ∧ ∀ j : Nat, j < k → ¬ allP Pline Psize (runK Gki Gle Tcells Tgap Tstands Pline Psize Pnow (Pheads, Pbusy, Pcame, Pout) j).2.2.2)) ∧ (JP Gle Tcells u9.2.2.1 u9.2.2.2.2.2))) (fun u9 t9 => zAt D cI cB cZ (va_A (kG cI cB cZ oG Gn Gki Gle Glo Gta Gsh ++ kT cI cB cZ oT Tcells Tgap Twires Tstands ++ kP cI cB cZ oP (oG 0) (oT 0) Pline Psize Pnow Pheads Pbusy Pcame Pout ++ kC cI cB cZ oC (oG 0) Crow Cquiet aCreader aCbars aCspare aCsearch aCbreach (oT 0) (oP 0) aCtrial Crun) sz) (kG cI cB cZ oG Gn Gki Gle Glo Gta Gsh ++ kT cI cB cZ oT Tcells Tgap Twires Tstands ++ kP cI cB cZ oP (oG 0) (oT 0) Pline Psize (u9.2.1) (u9.2.2.1) (u9.2.2.2.1) (u9.2.2.2.2.1) (u9.2.2.2.2.2) ++ kC cI cB cZ oC (oG 0) Crow Cquiet aCreader aCbars aCspare aCsearch aCbreach (oT 0) (oP 0) aCtrial Crun) t9) (va_A (kG cI cB cZ oG Gn Gki Gle Glo Gta Gsh ++ kT cI cB cZ oT Tcells Tgap Twires Tstands ++ kP cI cB cZ oP (oG 0) (oT 0) Pline Psize Pnow Pheads Pbusy Pcame Pout ++ kC cI cB cZ oC (oG 0) Crow Cquiet aCreader aCbars aCspare aCsearch aCbreach (oT 0) (oP 0) aCtrial Crun) sz)) (vx_X (fun _ : Unit => True) (fun E9 _ t9 => (Crun = 0 ∧ E9 = "java/util/NoSuchElementException") ∧ zAt D cI cB cZ (va_A (kG cI cB cZ oG Gn Gki Gle Glo Gta Gsh ++ kT cI cB cZ oT Tcells Tgap Twires Tstands ++ kP cI cB cZ oP (oG 0) (oT 0) Pline Psize Pnow Pheads Pbusy Pcame Pout ++ kC cI cB cZ oC (oG 0) Crow Cquiet aCreader aCbars aCspare aCsearch aCbreach (oT 0) (oP 0) aCtrial Crun) sz) (kG cI cB cZ oG Gn Gki Gle Glo Gta Gsh ++ kT cI cB cZ oT Tcells Tgap Twires Tstands ++ kP cI cB cZ oP (oG 0) (oT 0) Pline Psize Pnow Pheads Pbusy Pcame Pout ++ kC cI cB cZ oC (oG 0) Crow Cquiet aCreader aCbars aCspare aCsearch aCbreach (oT 0) (oP 0) aCtrial Crun) t9) (va_A (kG cI cB cZ oG Gn Gki Gle Glo Gta Gsh ++ kT cI cB cZ oT Tcells Tgap Twires Tstands ++ kP cI cB cZ oP (oG 0) (oT 0) Pline Psize Pnow Pheads Pbusy Pcame Pout ++ kC cI cB cZ oC (oG 0) Crow Cquiet aCreader aCbars aCspare aCsearch aCbreach (oT 0) (oP 0) aCtrial Crun) sz)) 1 6 (va_A (kG cI cB cZ oG Gn Gki Gle Glo Gta Gsh ++ kT cI cB cZ oT Tcells Tgap Twires Tstands ++ kP cI cB cZ oP (oG 0) (oT 0) Pline Psize Pnow Pheads Pbusy Pcame Pout ++ kC cI cB cZ oC (oG 0) Crow Cquiet aCreader aCbars aCspare aCsearch aCbreach (oT 0) (oP 0) aCtrial Crun) sz) := by
  refine vx_ofW (cc := cX7_run) (maxL := 3) (ret := (some .int)) (by decide) rfl ?_
  intro pp ee s mm aa bw mt cd s₁ BL hml hnt hv
  obtain ⟨rfl, ⟨hsz, hP, hK, hD0⟩, hZE⟩ := hv
  have hx := BL.exec
  have hb := BL.bytes
  have hr := BL.returns
  have hts := atoms_spec (ws := wsX7_run) BL.pre
  have hown : s.vm.findClass RX7 = some mm.cls := findClass_of_methodNamed BL.named
  have hlocks := BL.notSynchronized
  subst hsz
  generalize hAe : va_A (kG cI cB cZ oG Gn Gki Gle Glo Gta Gsh ++ kT cI cB cZ oT Tcells Tgap Twires Tstands ++ kP cI cB cZ oP (oG 0) (oT 0) Pline Psize Pnow Pheads Pbusy Pcame Pout ++ kC cI cB cZ oC (oG 0) Crow Cquiet aCreader aCbars aCspare aCsearch aCbreach (oT 0) (oP 0) aCtrial Crun) s.heap.size = A at hZE ⊢
  have hA : ∀ q : Nat, s.heap.size ≤ q → A q := fun q h => by rw [← hAe]; exact Or.inr h
  have hw : HW D A s.heap (kG cI cB cZ oG Gn Gki Gle Glo Gta Gsh ++ kT cI cB cZ oT Tcells Tgap Twires Tstands ++ kP cI cB cZ oP (oG 0) (oT 0) Pline Psize Pnow Pheads Pbusy Pcame Pout ++ kC cI cB cZ oC (oG 0) Crow Cquiet aCreader aCbars aCspare aCsearch aCbreach (oT 0) (oP 0) aCtrial Crun) s.heap [] := z_start hAe hP hD0
  clear hP hD0
  have hl := lv_entry ([.ref (oC 0), .int (zI t)]) (n := 3) (Nat.le_of_ble_eq_true rfl)
  rw [lg_entry_eq]
  generalize (lg_sl ([.ref (oC 0), .int (zI t)]) ++ List.replicate (3 - (lg_sl ([.ref (oC 0), .int (zI t)])).length) Slot.unset).toArray = ls at hl ⊢
  have hl : lv_has ls 3 [(0, .ref (oC 0)), (1, .int (zI t))] := hl
  have hinX7 : ∀ w ∈ wsX70, w ∈ wsX7_run := by decide +kernel
  refine lv_aload_n hx hb dX7_run_0 rfl (lv_at hl 0 rfl) ?_
  have hF9 := z_free (wc := kC cI cB cZ oC (oG 0) Crow Cquiet aCreader aCbars aCspare aCsearch aCbreach (oT 0) (oP 0) aCtrial Crun) hw hA [15, 16, 17] rfl
  refine vx_callv (vx_runV (As := []) (rest := []) ⟨hx, hb, hml, hown, hts⟩ (c_X7_needRun l D cI cB cZ hst sa sb oC (oG 0) aCreader aCbars aCspare aCsearch aCbreach (oT 0) (oP 0) aCtrial s.heap.size Crow Cquiet Crun qCrow qCquiet (by omega)) (cwV 0 hts gX7_run_X7_needRun rfl rfl rfl (by decide +kernel) ⟨Nat.le_of_ble_eq_true rfl, Nat.le_of_ble_eq_true rfl⟩) ⟨zPreE_blind, va_recv hK hw.1 (ci := 7) (q0 := 15) rfl rfl, z_preE hK hw [15, 16, 17] (by decide) rfl hZE hF9⟩ rfl rfl hl.1 rfl (lv_room (Nat.le_of_ble_eq_true rfl)) dX7_run_1 ⟨Nat.le_of_ble_eq_true rfl, Nat.le_of_ble_eq_true rfl⟩) hw.2.2 (fun q _ h => hF9 q h) hF9 (fun q _ h => hF9 q h) (fun E9 ce9 q9 u9 t9 H9 locs9 ht9 hvm9 hp9 hB9 hz9 hk9 hS9 hce9 hcv9 hcl9 => ?_) (fun u9 t9 H_1 locs9 ht9 hvm9 hq9 hB9 hz9 hk9 hS9 => ?_)
  · obtain ⟨hx9, hB9⟩ := hB9
    have hw : HW D A s.heap (kG cI cB cZ oG Gn Gki Gle Glo Gta Gsh ++ kT cI cB cZ oT Tcells Tgap Twires Tstands ++ kP cI cB cZ oP (oG 0) (oT 0) Pline Psize Pnow Pheads Pbusy Pcame Pout ++ kC cI cB cZ oC (oG 0) Crow Cquiet aCreader aCbars aCspare aCsearch aCbreach (oT 0) (oP 0) aCtrial Crun) H9 locs9 := z_after (wc := kC cI cB cZ oC (oG 0) Crow Cquiet aCreader aCbars aCspare aCsearch aCbreach (oT 0) (oP 0) aCtrial Crun) hw [15, 16, 17] [0, 1, 2, 3, 4, 5, 6, 7, 8, 9, 10, 11, 12, 13, 14] rfl rfl (by decide) (by decide) hF9 hk9 ht9 hB9 hS9 [0, 1, 2, 3, 4, 5, 6, 7, 8, 9, 10, 11, 12, 13, 14, 15, 16, 17] (by decide) rfl
    exact vx_out (fun x hx => (hnt x hx).elim) hlocks hce9 hcv9 hcl9 (fun t ht hAl => ⟨(), trivial, ⟨by first | exact hx9 | exact Or.inl hx9 | exact Or.inr hx9, by subst hAe; exact z_alike hK hw ht hAl⟩, by subst hAe; exact hw.2.2.F ht⟩) (by subst hAe; exact hw.2.2.2.2) (Nat.le_of_ble_eq_true rfl) (Nat.le_of_ble_eq_true rfl)
  try dsimp only at hq9 hB9
  have hq_2 := hq9
  have hw : HW D A s.heap (kG cI cB cZ oG Gn Gki Gle Glo Gta Gsh ++ kT cI cB cZ oT Tcells Tgap Twires Tstands ++ kP cI cB cZ oP (oG 0) (oT 0) Pline Psize Pnow Pheads Pbusy Pcame Pout ++ kC cI cB cZ oC (oG 0) Crow Cquiet aCreader aCbars aCspare aCsearch aCbreach (oT 0) (oP 0) aCtrial Crun) H_1 locs9 := z_after (wc := kC cI cB cZ oC (oG 0) Crow Cquiet aCreader aCbars aCspare aCsearch aCbreach (oT 0) (oP 0) aCtrial Crun) hw [15, 16, 17] [0, 1, 2, 3, 4, 5, 6, 7, 8, 9, 10, 11, 12, 13, 14] rfl rfl (by decide) (by decide) hF9 hk9 ht9 hB9 hS9 [0, 1, 2, 3, 4, 5, 6, 7, 8, 9, 10, 11, 12, 13, 14, 15, 16, 17] (by decide) rfl
  clear hF9 ht9 hvm9 hB9 hz9 hk9 hS9 hq9
  refine lv_iload_n hx hb dX7_run_4 rfl (lv_at hl 1 rfl) ?_
  refine z_if_lt (tgt := 15) hx hb dX7_run_5 (by decide) (by omega) (fun hc_3 => ?_) (fun hc_3 => ?_)
  · skip
    refine z_iconst hx hb dX7_run_15 ?_
    have hv_4 : (0 : Int) ≤ Pnow ∧ Pnow ≤ 1000000 := by
      first | assumption | omega | grind
    have hv_5 : Crun = 1 := by
      first | assumption | omega | grind
    have hv_6 : (¬ (0 ≤ t ∧ t ≤ 500) ∧ ((-1) : Int) = -1 ∧ Pnow = Pnow ∧ Pheads = Pheads ∧ Pbusy = Pbusy ∧ Pcame = Pcame ∧ Pout = Pout) ∨ ((0 ≤ t ∧ t ≤ 500) ∧ ∃ k : Nat, ((-1) : Int) = (k : Int) ∧ (k : Int) ≤ t ∧ Pnow = Pnow + (k : Int) ∧ (Pheads, Pbusy, Pcame, Pout) = (runK Gki Gle Tcells Tgap Tstands Pline Psize Pnow (Pheads, Pbusy, Pcame, Pout) k) ∧ ((k : Int) = t ∨ allP Pline Psize (runK Gki Gle Tcells Tgap Tstands Pline Psize Pnow (Pheads, Pbusy, Pcame, Pout) k).2.2.2) ∧ ∀ j : Nat, j < k → ¬ allP Pline Psize (runK Gki Gle Tcells Tgap Tstands Pline Psize Pnow (Pheads, Pbusy, Pcame, Pout) j).2.2.2) := by
      exact Or.inl ⟨by omega, rfl, rfl, rfl, rfl, rfl, rfl⟩
    have hv_7 : JP Gle Tcells Pheads Pout := by
      exact hp0 (by assumption)
    refine vx_ret ?_
    exact W.iret (v := zI (-1)) hx hb hr (fun t9 ht hW => ⟨⟨zI (-1), ((-1), Pnow, Pheads, Pbusy, Pcame, Pout), rfl, ⟨rfl, ⟨hv_4, qPheads, qPbusy, qPcame, qPout, hv_5, hv_6, hv_7⟩⟩, by subst hAe; exact z_end hK hw ht hW⟩, by subst hAe; exact hw.2.2.F ht⟩) (by subst hAe; exact hw.2.2.2.2) dX7_run_16
  · skip
    refine lv_iload_n hx hb dX7_run_8 rfl (lv_at hl 1 rfl) ?_
    refine z_sipush hx hb dX7_run_9 (by decide) ?_
    refine z_icmp_le (tgt := 17) hx hb dX7_run_12 (by decide) (by omega) (fun hc_8 => ?_) (fun hc_8 => ?_)
    · skip
      refine z_iconst hx hb dX7_run_17 ?_
      refine lv_istore_n (lv' := [(2, .int (zI 0)), (0, .ref (oC 0)), (1, .int (zI t))]) hx hb dX7_run_18 rfl hl (by decide) rfl (fun ls hl => ?_)
      have hv_9 : (0 : Int) ≤ Pnow ∧ Pnow ≤ 1000000 := by
        first | assumption | omega | grind
      have hv_10 : 0 ≤ (0 : Int) ∧ (0 : Int) ≤ t := by
        first | assumption | omega | grind
      have hv_11 : Pnow = Pnow + (0 : Int) := by
        first | assumption | omega | grind
      have hv_12 : (Pheads, Pbusy, Pcame, Pout) = (runK Gki Gle Tcells Tgap Tstands Pline Psize Pnow (Pheads, Pbusy, Pcame, Pout) (0 : Int).toNat) := by
        rfl
      have hv_13 : ∀ j : Nat, j < (0 : Int).toNat → ¬ allP Pline Psize (runK Gki Gle Tcells Tgap Tstands Pline Psize Pnow (Pheads, Pbusy, Pcame, Pout) j).2.2.2 := by
        intro j hj; omega
      have hv_14 : JP Gle Tcells Pheads Pout := by
        exact hp0 (by assumption)
      refine z_loop (σ := Int × Int × (Int → Int) × (Int → Int) × (Int → Int) × (Int → Int)) (μ := fun x9 => (t - (x9.1)).toNat) (I := fun x9 H locs ls => ((0 : Int) ≤ (x9.2.1) ∧ (x9.2.1) ≤ 1000000) ∧ (RA (x9.2.2.1) (-1) 60) ∧ (RA (x9.2.2.2.1) (0) 30) ∧ (RA (x9.2.2.2.2.1) (-1) 1000000) ∧ (RA (x9.2.2.2.2.2) (-1) 1000000) ∧ (0 ≤ (x9.1) ∧ (x9.1) ≤ t) ∧ ((x9.2.1) = Pnow + (x9.1)) ∧ (((x9.2.2.1), (x9.2.2.2.1), (x9.2.2.2.2.1), (x9.2.2.2.2.2)) = (runK Gki Gle Tcells Tgap Tstands Pline Psize Pnow (Pheads, Pbusy, Pcame, Pout) (x9.1).toNat)) ∧ (∀ j : Nat, j < (x9.1).toNat → ¬ allP Pline Psize (runK Gki Gle Tcells Tgap Tstands Pline Psize Pnow (Pheads, Pbusy, Pcame, Pout) j).2.2.2) ∧ (JP Gle Tcells (x9.2.2.1) (x9.2.2.2.2.2)) ∧ HW D A s.heap (kG cI cB cZ oG Gn Gki Gle Glo Gta Gsh ++ kT cI cB cZ oT Tcells Tgap Twires Tstands ++ kP cI cB cZ oP (oG 0) (oT 0) Pline Psize (x9.2.1) (x9.2.2.1) (x9.2.2.2.1) (x9.2.2.2.2.1) (x9.2.2.2.2.2) ++ kC cI cB cZ oC (oG 0) Crow Cquiet aCreader aCbars aCspare aCsearch aCbreach (oT 0) (oP 0) aCtrial Crun) H locs ∧ lv_has ls 3 [(0, .ref (oC 0)), (1, .int (zI t)), (2, .int (zI (x9.1)))]) (0, Pnow, Pheads, Pbusy, Pcame, Pout) ⟨hv_9, qPheads, qPbusy, qPcame, qPout, hv_10, hv_11, hv_12, hv_13, hv_14, hw, lv_sub hl [1, 2, 0] rfl⟩ ?_
      clear hw hl
      intro x9 H locs ls hI ih_15
      obtain ⟨n_16, Pnow_17, Pheads_18, Pbusy_19, Pcame_20, Pout_21⟩ := x9
      try dsimp only at hI
      obtain ⟨hq_22, hR_23, hR_24, hR_25, hR_26, hI_27, hI_28, hI_29, hI_30, hI_31, hw, hl⟩ := hI
      refine lv_iload_n hx hb dX7_run_19 rfl (lv_at hl 2 rfl) ?_
      refine lv_iload_n hx hb dX7_run_20 rfl (lv_at hl 1 rfl) ?_
      refine z_icmp_ge (tgt := 47) hx hb dX7_run_21 (by decide) (by omega) (fun hc_32 => ?_) (fun hc_32 => ?_)
      · skip
        refine lv_iload_n hx hb dX7_run_47 rfl (lv_at hl 2 rfl) ?_
        have hv_33 : (0 : Int) ≤ Pnow_17 ∧ Pnow_17 ≤ 1000000 := by
          first | assumption | omega | grind
        have hv_34 : Crun = 1 := by
          first | assumption | omega | grind
        have hv_35 : (¬ (0 ≤ t ∧ t ≤ 500) ∧ n_16 = -1 ∧ Pnow_17 = Pnow ∧ Pheads_18 = Pheads ∧ Pbusy_19 = Pbusy ∧ Pcame_20 = Pcame ∧ Pout_21 = Pout) ∨ ((0 ≤ t ∧ t ≤ 500) ∧ ∃ k : Nat, n_16 = (k : Int) ∧ (k : Int) ≤ t ∧ Pnow_17 = Pnow + (k : Int) ∧ (Pheads_18, Pbusy_19, Pcame_20, Pout_21) = (runK Gki Gle Tcells Tgap Tstands Pline Psize Pnow (Pheads, Pbusy, Pcame, Pout) k) ∧ ((k : Int) = t ∨ allP Pline Psize (runK Gki Gle Tcells Tgap Tstands Pline Psize Pnow (Pheads, Pbusy, Pcame, Pout) k).2.2.2) ∧ ∀ j : Nat, j < k → ¬ allP Pline Psize (runK Gki Gle Tcells Tgap Tstands Pline Psize Pnow (Pheads, Pbusy, Pcame, Pout) j).2.2.2) := by
          refine Or.inr ⟨by omega, n_16.toNat, by omega, by omega, by omega, by assumption, ?_, by assumption⟩
          first | exact Or.inl (by omega) | (refine Or.inr ?_; rw [← (by assumption : (Pheads_18, Pbusy_19, Pcame_20, Pout_21) = (runK Gki Gle Tcells Tgap Tstands Pline Psize Pnow (Pheads, Pbusy, Pcame, Pout) n_16.toNat))]; assumption)
        have hv_36 : JP Gle Tcells Pheads_18 Pout_21 := by
          assumption
        refine vx_ret ?_
        exact W.iret (v := zI n_16) hx hb hr (fun t9 ht hW => ⟨⟨zI n_16, (n_16, Pnow_17, Pheads_18, Pbusy_19, Pcame_20, Pout_21), rfl, ⟨rfl, ⟨hv_33, hR_23, hR_24, hR_25, hR_26, hv_34, hv_35, hv_36⟩⟩, by subst hAe; exact z_end hK hw ht hW⟩, by subst hAe; exact hw.2.2.F ht⟩) (by subst hAe; exact hw.2.2.2.2) dX7_run_48
      · skip
        refine lv_aload_n hx hb dX7_run_24 rfl (lv_at hl 0 rfl) ?_
        refine va_get (D := D) (ci := 7) (v := .ref (oP 0)) (C := RX7) (T := TX7) (N := 12) hx hb hts hinX7 hown hK hw.1 15 rfl rfl 9 (by decide) (hts (.fieldLink RX7 68 "CarnivalRoad" "parade" "LCarnivalRoad$Parade;") (by decide +kernel)) (fun _ h9 => h9) rfl dX7_run_25 ?_
        have hF9 := z_free (wc := kG cI cB cZ oG Gn Gki Gle Glo Gta Gsh ++ kT cI cB cZ oT Tcells Tgap Twires Tstands ++ kP cI cB cZ oP (oG 0) (oT 0) Pline Psize Pnow_17 Pheads_18 Pbusy_19 Pcame_20 Pout_21) hw hA [0, 1, 2, 3, 4, 5, 6, 7, 8, 9, 10, 11, 12, 13, 14] rfl
        refine va_calli (va_runV (As := []) (rest := []) ⟨hx, hb, hml, hown, hts⟩ (c_X3_allOut l D cI cB cZ oG oT oP H.size Gn Gki Gle Glo Gta Gsh Tcells Tgap Twires Tstands Pline Psize Pnow_17 Pheads_18 Pbusy_19 Pcame_20 Pout_21 (by omega) qGki qGle qGlo qGta qGsh (by omega) (by omega) qTwires qTstands qPline (by omega) (by omega) hR_23 hR_24 hR_25 hR_26) (cwV 0 hts gX7_run_X3_allOut rfl rfl rfl (by decide +kernel) ⟨Nat.le_of_ble_eq_true rfl, Nat.le_of_ble_eq_true rfl⟩) ⟨zPre_blind, va_recv hK hw.1 (ci := 3) (q0 := 9) rfl rfl, z_pre hK hw [0, 1, 2, 3, 4, 5, 6, 7, 8, 9, 10, 11, 12, 13, 14] (by decide) rfl⟩ rfl rfl hl.1 rfl (lv_room (Nat.le_of_ble_eq_true rfl)) dX7_run_28 ⟨Nat.le_of_ble_eq_true rfl, Nat.le_of_ble_eq_true rfl⟩) hw.2.2 (fun q _ h => hF9 q h) hF9 (fun r9 u9 t9 H_37 locs9 ht9 hvm9 hq9 hB9 hz9 hk9 hS9 => ?_)
        obtain ⟨r_38, rfl⟩ : ∃ z, z = u9 := ⟨_, rfl⟩
        try dsimp only at hq9 hB9
        obtain ⟨rfl, hq9⟩ := hq9
        have hq_39 := hq9
        have hw : HW D A s.heap (kG cI cB cZ oG Gn Gki Gle Glo Gta Gsh ++ kT cI cB cZ oT Tcells Tgap Twires Tstands ++ kP cI cB cZ oP (oG 0) (oT 0) Pline Psize Pnow_17 Pheads_18 Pbusy_19 Pcame_20 Pout_21 ++ kC cI cB cZ oC (oG 0) Crow Cquiet aCreader aCbars aCspare aCsearch aCbreach (oT 0) (oP 0) aCtrial Crun) H_37 locs9 := z_after (wc := kG cI cB cZ oG Gn Gki Gle Glo Gta Gsh ++ kT cI cB cZ oT Tcells Tgap Twires Tstands ++ kP cI cB cZ oP (oG 0) (oT 0) Pline Psize Pnow_17 Pheads_18 Pbusy_19 Pcame_20 Pout_21) hw [0, 1, 2, 3, 4, 5, 6, 7, 8, 9, 10, 11, 12, 13, 14] [15, 16, 17] rfl rfl (by decide) (by decide) hF9 hk9 ht9 hB9 hS9 [3, 4, 5, 6, 7, 8, 9, 10, 11, 12, 13, 14, 15, 16, 17, 0, 1, 2] (by decide) rfl
        clear hF9 ht9 hvm9 hB9 hz9 hk9 hS9 hq9
        rcases hq_39 with ⟨hc_40, rfl⟩ | ⟨hc_40, rfl⟩
        · skip
          refine z_if_ne (tgt := 47) hx hb dX7_run_31 (by decide) (by omega) (fun hc_41 => ?_) (fun hc_41 => absurd hc_41 (by omega))
          refine lv_iload_n hx hb dX7_run_47 rfl (lv_at hl 2 rfl) ?_
          have hv_42 : (0 : Int) ≤ Pnow_17 ∧ Pnow_17 ≤ 1000000 := by
            first | assumption | omega | grind
          have hv_43 : Crun = 1 := by
            first | assumption | omega | grind
          have hv_44 : (¬ (0 ≤ t ∧ t ≤ 500) ∧ n_16 = -1 ∧ Pnow_17 = Pnow ∧ Pheads_18 = Pheads ∧ Pbusy_19 = Pbusy ∧ Pcame_20 = Pcame ∧ Pout_21 = Pout) ∨ ((0 ≤ t ∧ t ≤ 500) ∧ ∃ k : Nat, n_16 = (k : Int) ∧ (k : Int) ≤ t ∧ Pnow_17 = Pnow + (k : Int) ∧ (Pheads_18, Pbusy_19, Pcame_20, Pout_21) = (runK Gki Gle Tcells Tgap Tstands Pline Psize Pnow (Pheads, Pbusy, Pcame, Pout) k) ∧ ((k : Int) = t ∨ allP Pline Psize (runK Gki Gle Tcells Tgap Tstands Pline Psize Pnow (Pheads, Pbusy, Pcame, Pout) k).2.2.2) ∧ ∀ j : Nat, j < k → ¬ allP Pline Psize (runK Gki Gle Tcells Tgap Tstands Pline Psize Pnow (Pheads, Pbusy, Pcame, Pout) j).2.2.2) := by
            refine Or.inr ⟨by omega, n_16.toNat, by omega, by omega, by omega, by assumption, ?_, by assumption⟩
            first | exact Or.inl (by omega) | (refine Or.inr ?_; rw [← (by assumption : (Pheads_18, Pbusy_19, Pcame_20, Pout_21) = (runK Gki Gle Tcells Tgap Tstands Pline Psize Pnow (Pheads, Pbusy, Pcame, Pout) n_16.toNat))]; assumption)
          have hv_45 : JP Gle Tcells Pheads_18 Pout_21 := by
            assumption
          refine vx_ret ?_
          exact W.iret (v := zI n_16) hx hb hr (fun t9 ht hW => ⟨⟨zI n_16, (n_16, Pnow_17, Pheads_18, Pbusy_19, Pcame_20, Pout_21), rfl, ⟨rfl, ⟨hv_42, hR_23, hR_24, hR_25, hR_26, hv_43, hv_44, hv_45⟩⟩, by subst hAe; exact z_end hK hw ht hW⟩, by subst hAe; exact hw.2.2.F ht⟩) (by subst hAe; exact hw.2.2.2.2) dX7_run_48
        · skip
          refine z_if_ne (tgt := 47) hx hb dX7_run_31 (by decide) (by omega) (fun hc_46 => absurd hc_46 (by omega)) (fun hc_46 => ?_)
          refine lv_aload_n hx hb dX7_run_34 rfl (lv_at hl 0 rfl) ?_
          refine va_get (D := D) (ci := 7) (v := .ref (oP 0)) (C := RX7) (T := TX7) (N := 12) hx hb hts hinX7 hown hK hw.1 15 rfl rfl 9 (by decide) (hts (.fieldLink RX7 68 "CarnivalRoad" "parade" "LCarnivalRoad$Parade;") (by decide +kernel)) (fun _ h9 => h9) rfl dX7_run_35 ?_
          have hpre_47 : Pnow_17 ≤ 999999 := by
            omega
          have hpre_48 : JP Gle Tcells Pheads_18 Pout_21 := by
            assumption
          have hF9 := z_free (wc := kG cI cB cZ oG Gn Gki Gle Glo Gta Gsh ++ kT cI cB cZ oT Tcells Tgap Twires Tstands ++ kP cI cB cZ oP (oG 0) (oT 0) Pline Psize Pnow_17 Pheads_18 Pbusy_19 Pcame_20 Pout_21) hw hA [0, 1, 2, 3, 4, 5, 6, 7, 8, 9, 10, 11, 12, 13, 14] rfl
          refine va_callv (va_runV (As := []) (rest := []) ⟨hx, hb, hml, hown, hts⟩ (c_X3_step l D cI cB cZ oG oT oP H_37.size Gn Gki Gle Glo Gta Gsh Tcells Tgap Twires Tstands Pline Psize Pnow_17 Pheads_18 Pbusy_19 Pcame_20 Pout_21 (by omega) qGki qGle qGlo qGta qGsh (by omega) (by omega) qTwires qTstands qPline (by omega) (by omega) hR_23 hR_24 hR_25 hR_26 hpre_47 hpre_48) (cwV 0 hts gX7_run_X3_step rfl rfl rfl (by decide +kernel) ⟨Nat.le_of_ble_eq_true rfl, Nat.le_of_ble_eq_true rfl⟩) ⟨zPre_blind, va_recv hK hw.1 (ci := 3) (q0 := 9) rfl rfl, z_pre hK hw [0, 1, 2, 3, 4, 5, 6, 7, 8, 9, 10, 11, 12, 13, 14] (by decide) rfl⟩ rfl rfl hl.1 rfl (lv_room (Nat.le_of_ble_eq_true rfl)) dX7_run_38 ⟨Nat.le_of_ble_eq_true rfl, Nat.le_of_ble_eq_true rfl⟩) hw.2.2 (fun q _ h => hF9 q h) hF9 (fun u9 t9 H_49 locs9 ht9 hvm9 hq9 hB9 hz9 hk9 hS9 => ?_)
          obtain ⟨Pnow_50, Pheads_51, Pbusy_52, Pcame_53, Pout_54⟩ := u9
          try dsimp only at hq9 hB9
          obtain ⟨hq_55, hq_56, hq_57, hq_58, hq_59, hq_60, hq_61, hq_62⟩ := hq9
          have hw : HW D A s.heap (kG cI cB cZ oG Gn Gki Gle Glo Gta Gsh ++ kT cI cB cZ oT Tcells Tgap Twires Tstands ++ kP cI cB cZ oP (oG 0) (oT 0) Pline Psize Pnow_50 Pheads_51 Pbusy_52 Pcame_53 Pout_54 ++ kC cI cB cZ oC (oG 0) Crow Cquiet aCreader aCbars aCspare aCsearch aCbreach (oT 0) (oP 0) aCtrial Crun) H_49 locs9 := z_after (wc := kG cI cB cZ oG Gn Gki Gle Glo Gta Gsh ++ kT cI cB cZ oT Tcells Tgap Twires Tstands ++ kP cI cB cZ oP (oG 0) (oT 0) Pline Psize Pnow_17 Pheads_18 Pbusy_19 Pcame_20 Pout_21) hw [0, 1, 2, 3, 4, 5, 6, 7, 8, 9, 10, 11, 12, 13, 14] [15, 16, 17] rfl rfl (by decide) (by decide) hF9 hk9 ht9 hB9 hS9 [3, 4, 5, 6, 7, 8, 9, 10, 11, 12, 13, 14, 15, 16, 17, 0, 1, 2] (by decide) rfl
          clear hF9 ht9 hvm9 hB9 hz9 hk9 hS9
          refine z_iinc (k := 2) (lv' := [(2, .int (zI (n_16 + 1))), (0, .ref (oC 0)), (1, .int (zI t))]) hx hb dX7_run_41 hl rfl (by decide) rfl (fun ls hl => ?_)
          refine lv_goto (tgt := 19) hx hb dX7_run_44 (by decide) ?_
          have hv_63 : (0 : Int) ≤ Pnow_50 ∧ Pnow_50 ≤ 1000000 := by
            first | assumption | omega | grind
          have hv_64 : 0 ≤ (n_16 + 1) ∧ (n_16 + 1) ≤ t := by
            first | assumption | omega | grind
          have hv_65 : Pnow_50 = Pnow + (n_16 + 1) := by
            first | assumption | omega | grind
          have hv_66 : (Pheads_51, Pbusy_52, Pcame_53, Pout_54) = (runK Gki Gle Tcells Tgap Tstands Pline Psize Pnow (Pheads, Pbusy, Pcame, Pout) (n_16 + 1).toNat) := by
            exact run_step (by omega) (by assumption) (by assumption) (by omega)
          have hv_67 : ∀ j : Nat, j < (n_16 + 1).toNat → ¬ allP Pline Psize (runK Gki Gle Tcells Tgap Tstands Pline Psize Pnow (Pheads, Pbusy, Pcame, Pout) j).2.2.2 := by
            exact run_not (P := fun s => allP Pline Psize s.2.2.2) (by omega) (by assumption) (by rw [← (by assumption : (Pheads_18, Pbusy_19, Pcame_20, Pout_21) = (runK Gki Gle Tcells Tgap Tstands Pline Psize Pnow (Pheads, Pbusy, Pcame, Pout) n_16.toNat))]; assumption)
          have hv_68 : JP Gle Tcells Pheads_51 Pout_54 := by
            assumption
          have hm_69 : (t - (n_16 + 1)).toNat < (t - n_16).toNat := by
            first | assumption | omega | grind
          exact ih_15 ((n_16 + 1), Pnow_50, Pheads_51, Pbusy_52, Pcame_53, Pout_54) _ _ _ ⟨hv_63, hq_56, hq_57, hq_58, hq_59, hv_64, hv_65, hv_66, hv_67, hv_68, hw, lv_sub hl [1, 2, 0] rfl⟩ hm_69
    · skip
      refine z_iconst hx hb dX7_run_15 ?_
      have hv_70 : (0 : Int) ≤ Pnow ∧ Pnow ≤ 1000000 := by
        first | assumption | omega | grind
      have hv_71 : Crun = 1 := by
        first | assumption | omega | grind
      have hv_72 : (¬ (0 ≤ t ∧ t ≤ 500) ∧ ((-1) : Int) = -1 ∧ Pnow = Pnow ∧ Pheads = Pheads ∧ Pbusy = Pbusy ∧ Pcame = Pcame ∧ Pout = Pout) ∨ ((0 ≤ t ∧ t ≤ 500) ∧ ∃ k : Nat, ((-1) : Int) = (k : Int) ∧ (k : Int) ≤ t ∧ Pnow = Pnow + (k : Int) ∧ (Pheads, Pbusy, Pcame, Pout) = (runK Gki Gle Tcells Tgap Tstands Pline Psize Pnow (Pheads, Pbusy, Pcame, Pout) k) ∧ ((k : Int) = t ∨ allP Pline Psize (runK Gki Gle Tcells Tgap Tstands Pline Psize Pnow (Pheads, Pbusy, Pcame, Pout) k).2.2.2) ∧ ∀ j : Nat, j < k → ¬ allP Pline Psize (runK Gki Gle Tcells Tgap Tstands Pline Psize Pnow (Pheads, Pbusy, Pcame, Pout) j).2.2.2) := by
        exact Or.inl ⟨by omega, rfl, rfl, rfl, rfl, rfl, rfl⟩
      have hv_73 : JP Gle Tcells Pheads Pout := by
        exact hp0 (by assumption)
      refine vx_ret ?_
      exact W.iret (v := zI (-1)) hx hb hr (fun t9 ht hW => ⟨⟨zI (-1), ((-1), Pnow, Pheads, Pbusy, Pcame, Pout), rfl, ⟨rfl, ⟨hv_70, qPheads, qPbusy, qPcame, qPout, hv_71, hv_72, hv_73⟩⟩, by subst hAe; exact z_end hK hw ht hW⟩, by subst hAe; exact hw.2.2.F ht⟩) (by subst hAe; exact hw.2.2.2.2) dX7_run_16
set_option maxRecDepth 100000 in
set_option maxHeartbeats 4000000 in
theorem c_X7_minute (l : Launch) (D : va_G) (cI cB cZ : ClassId) (hst : l.stackTraces = false) (sa sb : Nat) (oP : Nat → Nat) (oC : Nat → Nat) (aPguests : Nat) (aPstreet : Nat) (aCguests : Nat) (aCreader : Nat) (aCbars : Nat) (aCspare : Nat) (aCsearch : Nat) (aCbreach : Nat) (aCstreet : Nat) (aCtrial : Nat) (sz : Nat) (Pline : Int → Int) (Psize : Int) (Pnow : Int) (Pheads : Int → Int) (Pbusy : Int → Int) (Pcame : Int → Int) (Pout : Int → Int) (Crow : Int → Int) (Cquiet : Int → Int) (Crun : Int) (qPline : RA Pline (0) 7) (qPsize : 0 ≤ Psize ∧ Psize ≤ 8) (qPnow : 0 ≤ Pnow ∧ Pnow ≤ 1000000) (qPheads : RA Pheads (-1) 60) (qPbusy : RA Pbusy (0) 30) (qPcame : RA Pcame (-1) 1000000) (qPout : RA Pout (-1) 1000000) (qCrow : RA Crow (0) 7) (qCquiet : RA Cquiet (0) 7) (qCrun : 0 ≤ Crun ∧ Crun ≤ 1) : vx_Met l yX7_minute wsX7_minute ({ frames := 7, cells := 1, slots := 6, locals := 110 }) (va_Pc [.ref (oC 0)] (zPreE sa sb D cI cB cZ sz (kP cI cB cZ oP aPguests aPstreet Pline Psize Pnow Pheads Pbusy Pcame Pout ++ kC cI cB cZ oC aCguests Crow Cquiet aCreader aCbars aCspare aCsearch aCbreach aCstreet (oP 0) aCtrial Crun))) (va_Qi (fun (r9 : Int32) (u9 : Int) => r9 = zI u9 ∧ ((Crun = 1) ∧ (u9 = Pnow))) (fun u9 t9 => zAt D cI cB cZ (va_A (kP cI cB cZ oP aPguests aPstreet Pline Psize Pnow Pheads Pbusy Pcame Pout ++ kC cI cB cZ oC aCguests Crow Cquiet aCreader aCbars aCspare aCsearch aCbreach aCstreet (oP 0) aCtrial Crun) sz) (kP cI cB cZ oP aPguests aPstreet Pline Psize Pnow Pheads Pbusy Pcame Pout ++ kC cI cB cZ oC aCguests Crow Cquiet aCreader aCbars aCspare aCsearch aCbreach aCstreet (oP 0) aCtrial Crun) t9) (va_A (kP cI cB cZ oP aPguests aPstreet Pline Psize Pnow Pheads Pbusy Pcame Pout ++ kC cI cB cZ oC aCguests Crow Cquiet aCreader aCbars aCspare aCsearch aCbreach aCstreet (oP 0) aCtrial Crun) sz)) (vx_X (fun _ : Unit => True) (fun E9 _ t9 => (Crun = 0 ∧ E9 = "java/util/NoSuchElementException") ∧ zAt D cI cB cZ (va_A (kP cI cB cZ oP aPguests aPstreet Pline Psize Pnow Pheads Pbusy Pcame Pout ++ kC cI cB cZ oC aCguests Crow Cquiet aCreader aCbars aCspare aCsearch aCbreach aCstreet (oP 0) aCtrial Crun) sz) (kP cI cB cZ oP aPguests aPstreet Pline Psize Pnow Pheads Pbusy Pcame Pout ++ kC cI cB cZ oC aCguests Crow Cquiet aCreader aCbars aCspare aCsearch aCbreach aCstreet (oP 0) aCtrial Crun) t9) (va_A (kP cI cB cZ oP aPguests aPstreet Pline Psize Pnow Pheads Pbusy Pcame Pout ++ kC cI cB cZ oC aCguests Crow Cquiet aCreader aCbars aCspare aCsearch aCbreach aCstreet (oP 0) aCtrial Crun) sz)) 1 6 (va_A (kP cI cB cZ oP aPguests aPstreet Pline Psize Pnow Pheads Pbusy Pcame Pout ++ kC cI cB cZ oC aCguests Crow Cquiet aCreader aCbars aCspare aCsearch aCbreach aCstreet (oP 0) aCtrial Crun) sz) := by
  refine vx_ofW (cc := cX7_minute) (maxL := 1) (ret := (some .int)) (by decide) rfl ?_
  intro pp ee s mm aa bw mt cd s₁ BL hml hnt hv
  obtain ⟨rfl, ⟨hsz, hP, hK, hD0⟩, hZE⟩ := hv
  have hx := BL.exec
  have hb := BL.bytes
  have hr := BL.returns
  have hts := atoms_spec (ws := wsX7_minute) BL.pre
  have hown : s.vm.findClass RX7 = some mm.cls := findClass_of_methodNamed BL.named
  have hlocks := BL.notSynchronized
  subst hsz
  generalize hAe : va_A (kP cI cB cZ oP aPguests aPstreet Pline Psize Pnow Pheads Pbusy Pcame Pout ++ kC cI cB cZ oC aCguests Crow Cquiet aCreader aCbars aCspare aCsearch aCbreach aCstreet (oP 0) aCtrial Crun) s.heap.size = A at hZE ⊢
  have hA : ∀ q : Nat, s.heap.size ≤ q → A q := fun q h => by rw [← hAe]; exact Or.inr h
  have hw : HW D A s.heap (kP cI cB cZ oP aPguests aPstreet Pline Psize Pnow Pheads Pbusy Pcame Pout ++ kC cI cB cZ oC aCguests Crow Cquiet aCreader aCbars aCspare aCsearch aCbreach aCstreet (oP 0) aCtrial Crun) s.heap [] := z_start hAe hP hD0
  clear hP hD0
  have hl := lv_entry ([.ref (oC 0)]) (n := 1) (Nat.le_of_ble_eq_true rfl)
  rw [lg_entry_eq]
  generalize (lg_sl ([.ref (oC 0)]) ++ List.replicate (1 - (lg_sl ([.ref (oC 0)])).length) Slot.unset).toArray = ls at hl ⊢
  have hl : lv_has ls 1 [(0, .ref (oC 0))] := hl
  have hinX3 : ∀ w ∈ wsX30, w ∈ wsX7_minute := by decide +kernel
  have hinX7 : ∀ w ∈ wsX70, w ∈ wsX7_minute := by decide +kernel
  refine lv_aload_n hx hb dX7_minute_0 rfl (lv_at hl 0 rfl) ?_
  have hF9 := z_free (wc := kC cI cB cZ oC aCguests Crow Cquiet aCreader aCbars aCspare aCsearch aCbreach aCstreet (oP 0) aCtrial Crun) hw hA [6, 7, 8] rfl
  refine vx_callv (vx_runV (As := []) (rest := []) ⟨hx, hb, hml, hown, hts⟩ (c_X7_needRun l D cI cB cZ hst sa sb oC aCguests aCreader aCbars aCspare aCsearch aCbreach aCstreet (oP 0) aCtrial s.heap.size Crow Cquiet Crun qCrow qCquiet (by omega)) (cwV 0 hts gX7_minute_X7_needRun rfl rfl rfl (by decide +kernel) ⟨Nat.le_of_ble_eq_true rfl, Nat.le_of_ble_eq_true rfl⟩) ⟨zPreE_blind, va_recv hK hw.1 (ci := 7) (q0 := 6) rfl rfl, z_preE hK hw [6, 7, 8] (by decide) rfl hZE hF9⟩ rfl rfl hl.1 rfl (lv_room (Nat.le_of_ble_eq_true rfl)) dX7_minute_1 ⟨Nat.le_of_ble_eq_true rfl, Nat.le_of_ble_eq_true rfl⟩) hw.2.2 (fun q _ h => hF9 q h) hF9 (fun q _ h => hF9 q h) (fun E9 ce9 q9 u9 t9 H9 locs9 ht9 hvm9 hp9 hB9 hz9 hk9 hS9 hce9 hcv9 hcl9 => ?_) (fun u9 t9 H_1 locs9 ht9 hvm9 hq9 hB9 hz9 hk9 hS9 => ?_)
  · obtain ⟨hx9, hB9⟩ := hB9
    have hw : HW D A s.heap (kP cI cB cZ oP aPguests aPstreet Pline Psize Pnow Pheads Pbusy Pcame Pout ++ kC cI cB cZ oC aCguests Crow Cquiet aCreader aCbars aCspare aCsearch aCbreach aCstreet (oP 0) aCtrial Crun) H9 locs9 := z_after (wc := kC cI cB cZ oC aCguests Crow Cquiet aCreader aCbars aCspare aCsearch aCbreach aCstreet (oP 0) aCtrial Crun) hw [6, 7, 8] [0, 1, 2, 3, 4, 5] rfl rfl (by decide) (by decide) hF9 hk9 ht9 hB9 hS9 [0, 1, 2, 3, 4, 5, 6, 7, 8] (by decide) rfl
    exact vx_out (fun x hx => (hnt x hx).elim) hlocks hce9 hcv9 hcl9 (fun t ht hAl => ⟨(), trivial, ⟨by first | exact hx9 | exact Or.inl hx9 | exact Or.inr hx9, by subst hAe; exact z_alike hK hw ht hAl⟩, by subst hAe; exact hw.2.2.F ht⟩) (by subst hAe; exact hw.2.2.2.2) (Nat.le_of_ble_eq_true rfl) (Nat.le_of_ble_eq_true rfl)
  try dsimp only at hq9 hB9
  have hq_2 := hq9
  have hw : HW D A s.heap (kP cI cB cZ oP aPguests aPstreet Pline Psize Pnow Pheads Pbusy Pcame Pout ++ kC cI cB cZ oC aCguests Crow Cquiet aCreader aCbars aCspare aCsearch aCbreach aCstreet (oP 0) aCtrial Crun) H_1 locs9 := z_after (wc := kC cI cB cZ oC aCguests Crow Cquiet aCreader aCbars aCspare aCsearch aCbreach aCstreet (oP 0) aCtrial Crun) hw [6, 7, 8] [0, 1, 2, 3, 4, 5] rfl rfl (by decide) (by decide) hF9 hk9 ht9 hB9 hS9 [0, 1, 2, 3, 4, 5, 6, 7, 8] (by decide) rfl
  clear hF9 ht9 hvm9 hB9 hz9 hk9 hS9 hq9
  refine lv_aload_n hx hb dX7_minute_4 rfl (lv_at hl 0 rfl) ?_
  refine va_get (D := D) (ci := 7) (v := .ref (oP 0)) (C := RX7) (T := TX7) (N := 12) hx hb hts hinX7 hown hK hw.1 6 rfl rfl 9 (by decide) (hts (.fieldLink RX7 68 "CarnivalRoad" "parade" "LCarnivalRoad$Parade;") (by decide +kernel)) (fun _ h9 => h9) rfl dX7_minute_5 ?_
  refine va_get (D := D) (ci := 3) (v := .int (zI Pnow)) (C := RX3) (T := TX3) (N := 9) hx hb hts hinX3 hown hK hw.1 0 rfl rfl 4 (by decide) (hts (.fieldLink RX7 211 "CarnivalRoad$Parade" "now" "I") (by decide +kernel)) (fun _ h9 => h9) rfl dX7_minute_8 ?_
  have hv_3 : Crun = 1 := by
    first | assumption | omega | grind
  have hv_4 : Pnow = Pnow := by
    first | assumption | omega | grind
  refine vx_ret ?_
  exact W.iret (v := zI Pnow) hx hb hr (fun t9 ht hW => ⟨⟨zI Pnow, Pnow, rfl, ⟨rfl, ⟨hv_3, hv_4⟩⟩, by subst hAe; exact z_end hK hw ht hW⟩, by subst hAe; exact hw.2.2.F ht⟩) (by subst hAe; exact hw.2.2.2.2) dX7_minute_11
set_option maxRecDepth 100000 in
set_option maxHeartbeats 4000000 in
theorem c_X7_at (l : Launch) (D : va_G) (cI cB cZ : ClassId) (hst : l.stackTraces = false) (sa sb : Nat) (oG : Nat → Nat) (oT : Nat → Nat) (oP : Nat → Nat) (oC : Nat → Nat) (aCreader : Nat) (aCbars : Nat) (aCspare : Nat) (aCsearch : Nat) (aCbreach : Nat) (aCtrial : Nat) (sz : Nat) (Gn : Int) (Gki : Int → Int) (Gle : Int → Int) (Glo : Int → Int) (Gta : Int → Int) (Gsh : Int → Int) (Tcells : Int) (Tgap : Int) (Twires : Int → Int) (Tstands : Int → Int) (Pline : Int → Int) (Psize : Int) (Pnow : Int) (Pheads : Int → Int) (Pbusy : Int → Int) (Pcame : Int → Int) (Pout : Int → Int) (Crow : Int → Int) (Cquiet : Int → Int) (Crun : Int) (g : Int) (w : Int) (qGn : 0 ≤ Gn ∧ Gn ≤ 8) (qGki : RA Gki (0) 4) (qGle : RA Gle (0) 5) (qGlo : RA Glo (0) 9) (qGta : RA Gta (0) 9) (qGsh : RA Gsh (0) 9) (qTcells : 1 ≤ Tcells ∧ Tcells ≤ 50) (qTgap : 0 ≤ Tgap ∧ Tgap ≤ 3) (qTwires : RA Twires (0) 9) (qTstands : RA Tstands (0) 9) (qPline : RA Pline (0) 7) (qPsize : 0 ≤ Psize ∧ Psize ≤ 8) (qPnow : 0 ≤ Pnow ∧ Pnow ≤ 1000000) (qPheads : RA Pheads (-1) 60) (qPbusy : RA Pbusy (0) 30) (qPcame : RA Pcame (-1) 1000000) (qPout : RA Pout (-1) 1000000) (qCrow : RA Crow (0) 7) (qCquiet : RA Cquiet (0) 7) (qCrun : 0 ≤ Crun ∧ Crun ≤ 1) (qg : -2147483648 ≤ g ∧ g ≤ 2147483647) (qw : -2147483648 ≤ w ∧ w ≤ 2147483647) : vx_Met l yX7_at wsX7_at ({ frames := 7, cells := 2, slots := 12, locals := 111 }) (va_Pc [.ref (oC 0), .int (zI g), .int (zI w)] (zPreE sa sb D cI cB cZ sz (kG cI cB cZ oG Gn Gki Gle Glo Gta Gsh ++ kT cI cB cZ oT Tcells Tgap Twires Tstands ++ kP cI cB cZ oP (oG 0) (oT 0) Pline Psize Pnow Pheads Pbusy Pcame Pout ++ kC cI cB cZ oC (oG 0) Crow Cquiet aCreader aCbars aCspare aCsearch aCbreach (oT 0) (oP 0) aCtrial Crun))) (va_Qi (fun (r9 : Int32) (u9 : Int) => r9 = zI u9 ∧ (((0 ≤ g ∧ g < Gn) ∧ Crun = 1) ∧ ((w = 0 ∧ u9 = Pheads g) ∨ (w = 1 ∧ u9 = Pheads g - Gle g + 1) ∨ (w = 2 ∧ u9 = stF (Pheads g) (Pbusy g) (Pout g)) ∨ (w = 3 ∧ u9 = Pcame g) ∨ (w = 4 ∧ u9 = Pout g) ∨ ((w < 0 ∨ 4 < w) ∧ u9 = -100)))) (fun u9 t9 => zAt D cI cB cZ (va_A (kG cI cB cZ oG Gn Gki Gle Glo Gta Gsh ++ kT cI cB cZ oT Tcells Tgap Twires Tstands ++ kP cI cB cZ oP (oG 0) (oT 0) Pline Psize Pnow Pheads Pbusy Pcame Pout ++ kC cI cB cZ oC (oG 0) Crow Cquiet aCreader aCbars aCspare aCsearch aCbreach (oT 0) (oP 0) aCtrial Crun) sz) (kG cI cB cZ oG Gn Gki Gle Glo Gta Gsh ++ kT cI cB cZ oT Tcells Tgap Twires Tstands ++ kP cI cB cZ oP (oG 0) (oT 0) Pline Psize Pnow Pheads Pbusy Pcame Pout ++ kC cI cB cZ oC (oG 0) Crow Cquiet aCreader aCbars aCspare aCsearch aCbreach (oT 0) (oP 0) aCtrial Crun) t9) (va_A (kG cI cB cZ oG Gn Gki Gle Glo Gta Gsh ++ kT cI cB cZ oT Tcells Tgap Twires Tstands ++ kP cI cB cZ oP (oG 0) (oT 0) Pline Psize Pnow Pheads Pbusy Pcame Pout ++ kC cI cB cZ oC (oG 0) Crow Cquiet aCreader aCbars aCspare aCsearch aCbreach (oT 0) (oP 0) aCtrial Crun) sz)) (vx_X (fun _ : Unit => True) (fun E9 _ t9 => ((¬ (0 ≤ g ∧ g < Gn) ∧ E9 = "java/lang/IndexOutOfBoundsException") ∨ ((0 ≤ g ∧ g < Gn) ∧ Crun = 0 ∧ E9 = "java/util/NoSuchElementException")) ∧ zAt D cI cB cZ (va_A (kG cI cB cZ oG Gn Gki Gle Glo Gta Gsh ++ kT cI cB cZ oT Tcells Tgap Twires Tstands ++ kP cI cB cZ oP (oG 0) (oT 0) Pline Psize Pnow Pheads Pbusy Pcame Pout ++ kC cI cB cZ oC (oG 0) Crow Cquiet aCreader aCbars aCspare aCsearch aCbreach (oT 0) (oP 0) aCtrial Crun) sz) (kG cI cB cZ oG Gn Gki Gle Glo Gta Gsh ++ kT cI cB cZ oT Tcells Tgap Twires Tstands ++ kP cI cB cZ oP (oG 0) (oT 0) Pline Psize Pnow Pheads Pbusy Pcame Pout ++ kC cI cB cZ oC (oG 0) Crow Cquiet aCreader aCbars aCspare aCsearch aCbreach (oT 0) (oP 0) aCtrial Crun) t9) (va_A (kG cI cB cZ oG Gn Gki Gle Glo Gta Gsh ++ kT cI cB cZ oT Tcells Tgap Twires Tstands ++ kP cI cB cZ oP (oG 0) (oT 0) Pline Psize Pnow Pheads Pbusy Pcame Pout ++ kC cI cB cZ oC (oG 0) Crow Cquiet aCreader aCbars aCspare aCsearch aCbreach (oT 0) (oP 0) aCtrial Crun) sz)) 2 12 (va_A (kG cI cB cZ oG Gn Gki Gle Glo Gta Gsh ++ kT cI cB cZ oT Tcells Tgap Twires Tstands ++ kP cI cB cZ oP (oG 0) (oT 0) Pline Psize Pnow Pheads Pbusy Pcame Pout ++ kC cI cB cZ oC (oG 0) Crow Cquiet aCreader aCbars aCspare aCsearch aCbreach (oT 0) (oP 0) aCtrial Crun) sz) := by
  refine vx_ofW (cc := cX7_at) (maxL := 3) (ret := (some .int)) (by decide) rfl ?_
  intro pp ee s mm aa bw mt cd s₁ BL hml hnt hv
  obtain ⟨rfl, ⟨hsz, hP, hK, hD0⟩, hZE⟩ := hv
  have hx := BL.exec
  have hb := BL.bytes
  have hr := BL.returns
  have hts := atoms_spec (ws := wsX7_at) BL.pre
  have hown : s.vm.findClass RX7 = some mm.cls := findClass_of_methodNamed BL.named
  have hlocks := BL.notSynchronized
  subst hsz
  generalize hAe : va_A (kG cI cB cZ oG Gn Gki Gle Glo Gta Gsh ++ kT cI cB cZ oT Tcells Tgap Twires Tstands ++ kP cI cB cZ oP (oG 0) (oT 0) Pline Psize Pnow Pheads Pbusy Pcame Pout ++ kC cI cB cZ oC (oG 0) Crow Cquiet aCreader aCbars aCspare aCsearch aCbreach (oT 0) (oP 0) aCtrial Crun) s.heap.size = A at hZE ⊢
  have hA : ∀ q : Nat, s.heap.size ≤ q → A q := fun q h => by rw [← hAe]; exact Or.inr h
  have hw : HW D A s.heap (kG cI cB cZ oG Gn Gki Gle Glo Gta Gsh ++ kT cI cB cZ oT Tcells Tgap Twires Tstands ++ kP cI cB cZ oP (oG 0) (oT 0) Pline Psize Pnow Pheads Pbusy Pcame Pout ++ kC cI cB cZ oC (oG 0) Crow Cquiet aCreader aCbars aCspare aCsearch aCbreach (oT 0) (oP 0) aCtrial Crun) s.heap [] := z_start hAe hP hD0
  clear hP hD0
  have hl := lv_entry ([.ref (oC 0), .int (zI g), .int (zI w)]) (n := 3) (Nat.le_of_ble_eq_true rfl)
  rw [lg_entry_eq]
  generalize (lg_sl ([.ref (oC 0), .int (zI g), .int (zI w)]) ++ List.replicate (3 - (lg_sl ([.ref (oC 0), .int (zI g), .int (zI w)])).length) Slot.unset).toArray = ls at hl ⊢
  have hl : lv_has ls 3 [(0, .ref (oC 0)), (1, .int (zI g)), (2, .int (zI w))] := hl
  have hinX3 : ∀ w ∈ wsX30, w ∈ wsX7_at := by decide +kernel
  have hinX7 : ∀ w ∈ wsX70, w ∈ wsX7_at := by decide +kernel
  refine lv_aload_n hx hb dX7_at_0 rfl (lv_at hl 0 rfl) ?_
  refine lv_iload_n hx hb dX7_at_1 rfl (lv_at hl 1 rfl) ?_
  have hF9 := z_free (wc := kG cI cB cZ oG Gn Gki Gle Glo Gta Gsh ++ kC cI cB cZ oC (oG 0) Crow Cquiet aCreader aCbars aCspare aCsearch aCbreach (oT 0) (oP 0) aCtrial Crun) hw hA [0, 1, 2, 3, 4, 5, 15, 16, 17] rfl
  refine vx_callv (vx_runV (As := [.int (zI g)]) (rest := []) ⟨hx, hb, hml, hown, hts⟩ (c_X7_needGuest l D cI cB cZ hst sa sb oG oC aCreader aCbars aCspare aCsearch aCbreach (oT 0) (oP 0) aCtrial s.heap.size Gn Gki Gle Glo Gta Gsh Crow Cquiet Crun g (by omega) qGki qGle qGlo qGta qGsh qCrow qCquiet (by omega) (by omega)) (cwV 1 hts gX7_at_X7_needGuest rfl rfl rfl (by decide +kernel) ⟨Nat.le_of_ble_eq_true rfl, Nat.le_of_ble_eq_true rfl⟩) ⟨zPreE_blind, va_recv hK hw.1 (ci := 7) (q0 := 15) rfl rfl, z_preE hK hw [0, 1, 2, 3, 4, 5, 15, 16, 17] (by decide) rfl hZE hF9⟩ rfl rfl hl.1 rfl (lv_room (Nat.le_of_ble_eq_true rfl)) dX7_at_2 ⟨Nat.le_of_ble_eq_true rfl, Nat.le_of_ble_eq_true rfl⟩) hw.2.2 (fun q _ h => hF9 q h) hF9 (fun q _ h => hF9 q h) (fun E9 ce9 q9 u9 t9 H9 locs9 ht9 hvm9 hp9 hB9 hz9 hk9 hS9 hce9 hcv9 hcl9 => ?_) (fun u9 t9 H_1 locs9 ht9 hvm9 hq9 hB9 hz9 hk9 hS9 => ?_)
  · obtain ⟨hx9, hB9⟩ := hB9
    have hw : HW D A s.heap (kG cI cB cZ oG Gn Gki Gle Glo Gta Gsh ++ kT cI cB cZ oT Tcells Tgap Twires Tstands ++ kP cI cB cZ oP (oG 0) (oT 0) Pline Psize Pnow Pheads Pbusy Pcame Pout ++ kC cI cB cZ oC (oG 0) Crow Cquiet aCreader aCbars aCspare aCsearch aCbreach (oT 0) (oP 0) aCtrial Crun) H9 locs9 := z_after (wc := kG cI cB cZ oG Gn Gki Gle Glo Gta Gsh ++ kC cI cB cZ oC (oG 0) Crow Cquiet aCreader aCbars aCspare aCsearch aCbreach (oT 0) (oP 0) aCtrial Crun) hw [0, 1, 2, 3, 4, 5, 15, 16, 17] [6, 7, 8, 9, 10, 11, 12, 13, 14] rfl rfl (by decide) (by decide) hF9 hk9 ht9 hB9 hS9 [9, 10, 11, 12, 13, 14, 0, 1, 2, 3, 4, 5, 6, 7, 8, 15, 16, 17] (by decide) rfl
    exact vx_out (fun x hx => (hnt x hx).elim) hlocks hce9 hcv9 hcl9 (fun t ht hAl => ⟨(), trivial, ⟨by exact Or.inl hx9, by subst hAe; exact z_alike hK hw ht hAl⟩, by subst hAe; exact hw.2.2.F ht⟩) (by subst hAe; exact hw.2.2.2.2) (Nat.le_of_ble_eq_true rfl) (Nat.le_of_ble_eq_true rfl)
  try dsimp only at hq9 hB9
  have hq_2 := hq9
  have hw : HW D A s.heap (kG cI cB cZ oG Gn Gki Gle Glo Gta Gsh ++ kT cI cB cZ oT Tcells Tgap Twires Tstands ++ kP cI cB cZ oP (oG 0) (oT 0) Pline Psize Pnow Pheads Pbusy Pcame Pout ++ kC cI cB cZ oC (oG 0) Crow Cquiet aCreader aCbars aCspare aCsearch aCbreach (oT 0) (oP 0) aCtrial Crun) H_1 locs9 := z_after (wc := kG cI cB cZ oG Gn Gki Gle Glo Gta Gsh ++ kC cI cB cZ oC (oG 0) Crow Cquiet aCreader aCbars aCspare aCsearch aCbreach (oT 0) (oP 0) aCtrial Crun) hw [0, 1, 2, 3, 4, 5, 15, 16, 17] [6, 7, 8, 9, 10, 11, 12, 13, 14] rfl rfl (by decide) (by decide) hF9 hk9 ht9 hB9 hS9 [9, 10, 11, 12, 13, 14, 0, 1, 2, 3, 4, 5, 6, 7, 8, 15, 16, 17] (by decide) rfl
  clear hF9 ht9 hvm9 hB9 hz9 hk9 hS9 hq9
  refine lv_aload_n hx hb dX7_at_5 rfl (lv_at hl 0 rfl) ?_
  have hF9 := z_free (wc := kC cI cB cZ oC (oG 0) Crow Cquiet aCreader aCbars aCspare aCsearch aCbreach (oT 0) (oP 0) aCtrial Crun) hw hA [15, 16, 17] rfl
  refine vx_callv (vx_runV (As := []) (rest := []) ⟨hx, hb, hml, hown, hts⟩ (c_X7_needRun l D cI cB cZ hst sa sb oC (oG 0) aCreader aCbars aCspare aCsearch aCbreach (oT 0) (oP 0) aCtrial H_1.size Crow Cquiet Crun qCrow qCquiet (by omega)) (cwV 0 hts gX7_at_X7_needRun rfl rfl rfl (by decide +kernel) ⟨Nat.le_of_ble_eq_true rfl, Nat.le_of_ble_eq_true rfl⟩) ⟨zPreE_blind, va_recv hK hw.1 (ci := 7) (q0 := 15) rfl rfl, z_preE hK hw [15, 16, 17] (by decide) rfl hZE hF9⟩ rfl rfl hl.1 rfl (lv_room (Nat.le_of_ble_eq_true rfl)) dX7_at_6 ⟨Nat.le_of_ble_eq_true rfl, Nat.le_of_ble_eq_true rfl⟩) hw.2.2 (fun q _ h => hF9 q h) hF9 (fun q _ h => hF9 q h) (fun E9 ce9 q9 u9 t9 H9 locs9 ht9 hvm9 hp9 hB9 hz9 hk9 hS9 hce9 hcv9 hcl9 => ?_) (fun u9 t9 H_3 locs9 ht9 hvm9 hq9 hB9 hz9 hk9 hS9 => ?_)
  · obtain ⟨hx9, hB9⟩ := hB9
    have hw : HW D A s.heap (kG cI cB cZ oG Gn Gki Gle Glo Gta Gsh ++ kT cI cB cZ oT Tcells Tgap Twires Tstands ++ kP cI cB cZ oP (oG 0) (oT 0) Pline Psize Pnow Pheads Pbusy Pcame Pout ++ kC cI cB cZ oC (oG 0) Crow Cquiet aCreader aCbars aCspare aCsearch aCbreach (oT 0) (oP 0) aCtrial Crun) H9 locs9 := z_after (wc := kC cI cB cZ oC (oG 0) Crow Cquiet aCreader aCbars aCspare aCsearch aCbreach (oT 0) (oP 0) aCtrial Crun) hw [15, 16, 17] [0, 1, 2, 3, 4, 5, 6, 7, 8, 9, 10, 11, 12, 13, 14] rfl rfl (by decide) (by decide) hF9 hk9 ht9 hB9 hS9 [0, 1, 2, 3, 4, 5, 6, 7, 8, 9, 10, 11, 12, 13, 14, 15, 16, 17] (by decide) rfl
    exact vx_out (fun x hx => (hnt x hx).elim) hlocks hce9 hcv9 hcl9 (fun t ht hAl => ⟨(), trivial, ⟨by exact Or.inr ⟨by omega, hx9⟩, by subst hAe; exact z_alike hK hw ht hAl⟩, by subst hAe; exact hw.2.2.F ht⟩) (by subst hAe; exact hw.2.2.2.2) (Nat.le_of_ble_eq_true rfl) (Nat.le_of_ble_eq_true rfl)
  try dsimp only at hq9 hB9
  have hq_4 := hq9
  have hw : HW D A s.heap (kG cI cB cZ oG Gn Gki Gle Glo Gta Gsh ++ kT cI cB cZ oT Tcells Tgap Twires Tstands ++ kP cI cB cZ oP (oG 0) (oT 0) Pline Psize Pnow Pheads Pbusy Pcame Pout ++ kC cI cB cZ oC (oG 0) Crow Cquiet aCreader aCbars aCspare aCsearch aCbreach (oT 0) (oP 0) aCtrial Crun) H_3 locs9 := z_after (wc := kC cI cB cZ oC (oG 0) Crow Cquiet aCreader aCbars aCspare aCsearch aCbreach (oT 0) (oP 0) aCtrial Crun) hw [15, 16, 17] [0, 1, 2, 3, 4, 5, 6, 7, 8, 9, 10, 11, 12, 13, 14] rfl rfl (by decide) (by decide) hF9 hk9 ht9 hB9 hS9 [0, 1, 2, 3, 4, 5, 6, 7, 8, 9, 10, 11, 12, 13, 14, 15, 16, 17] (by decide) rfl
  clear hF9 ht9 hvm9 hB9 hz9 hk9 hS9 hq9
  refine lv_iload_n hx hb dX7_at_9 rfl (lv_at hl 2 rfl) ?_
  rcases (show (w < 0 ∨ 4 < w) ∨ w = 0 ∨ w = 1 ∨ w = 2 ∨ w = 3 ∨ w = 4 by omega) with hc_5 | hc_5 | hc_5 | hc_5 | hc_5 | hc_5
  · skip
    refine z_tableOut (tgt := 92) hx hb (by omega) hc_5 dX7_at_10 (by decide) ?_
    refine z_bipush hx hb dX7_at_92 (by decide) ?_
    have hv_6 : (0 ≤ g ∧ g < Gn) ∧ Crun = 1 := by
      first | assumption | omega | grind
    have hv_7 : (w = 0 ∧ ((-100) : Int) = Pheads g) ∨ (w = 1 ∧ ((-100) : Int) = Pheads g - Gle g + 1) ∨ (w = 2 ∧ ((-100) : Int) = stF (Pheads g) (Pbusy g) (Pout g)) ∨ (w = 3 ∧ ((-100) : Int) = Pcame g) ∨ (w = 4 ∧ ((-100) : Int) = Pout g) ∨ ((w < 0 ∨ 4 < w) ∧ ((-100) : Int) = -100) := by
      first | assumption | omega | grind
    refine vx_ret ?_
    exact W.iret (v := zI (-100)) hx hb hr (fun t9 ht hW => ⟨⟨zI (-100), (-100), rfl, ⟨rfl, ⟨hv_6, hv_7⟩⟩, by subst hAe; exact z_end hK hw ht hW⟩, by subst hAe; exact hw.2.2.F ht⟩) (by subst hAe; exact hw.2.2.2.2) dX7_at_94
  · skip
    refine z_tableIn (k := 0) (off := 34) (tgt := 44) hx hb hc_5 dX7_at_10 (by decide) (by decide) rfl (by decide) ?_
    refine lv_aload_n hx hb dX7_at_44 rfl (lv_at hl 0 rfl) ?_
    refine va_get (D := D) (ci := 7) (v := .ref (oP 0)) (C := RX7) (T := TX7) (N := 12) hx hb hts hinX7 hown hK hw.1 15 rfl rfl 9 (by decide) (hts (.fieldLink RX7 68 "CarnivalRoad" "parade" "LCarnivalRoad$Parade;") (by decide +kernel)) (fun _ h9 => h9) rfl dX7_at_45 ?_
    refine va_get (D := D) (ci := 3) (v := .ref (oP 2)) (C := RX3) (T := TX3) (N := 9) hx hb hts hinX3 hown hK hw.1 9 rfl rfl 5 (by decide) (hts (.fieldLink RX7 214 "CarnivalRoad$Parade" "heads" "[I") (by decide +kernel)) (fun _ h9 => h9) rfl dX7_at_48 ?_
    refine lv_iload_n hx hb dX7_at_51 rfl (lv_at hl 1 rfl) ?_
    have hi_8 : (0 : Int) ≤ g ∧ g < ((8 : Nat) : Int) := by
      first | assumption | omega | grind
    refine z_iald (n := 8) (f := Pheads) hx hb hK hw 11 rfl (by decide) hi_8 dX7_at_52 ?_
    have hq_9 : -1 ≤ Pheads g ∧ Pheads g ≤ 60 := qPheads g
    have hv_10 : (0 ≤ g ∧ g < Gn) ∧ Crun = 1 := by
      first | assumption | omega | grind
    have hv_11 : (w = 0 ∧ (Pheads g) = Pheads g) ∨ (w = 1 ∧ (Pheads g) = Pheads g - Gle g + 1) ∨ (w = 2 ∧ (Pheads g) = stF (Pheads g) (Pbusy g) (Pout g)) ∨ (w = 3 ∧ (Pheads g) = Pcame g) ∨ (w = 4 ∧ (Pheads g) = Pout g) ∨ ((w < 0 ∨ 4 < w) ∧ (Pheads g) = -100) := by
      first | assumption | omega | grind
    refine vx_ret ?_
    exact W.iret (v := zI (Pheads g)) hx hb hr (fun t9 ht hW => ⟨⟨zI (Pheads g), (Pheads g), rfl, ⟨rfl, ⟨hv_10, hv_11⟩⟩, by subst hAe; exact z_end hK hw ht hW⟩, by subst hAe; exact hw.2.2.F ht⟩) (by subst hAe; exact hw.2.2.2.2) dX7_at_53
  · skip
    refine z_tableIn (k := 1) (off := 44) (tgt := 54) hx hb hc_5 dX7_at_10 (by decide) (by decide) rfl (by decide) ?_
    refine lv_aload_n hx hb dX7_at_54 rfl (lv_at hl 0 rfl) ?_
    refine va_get (D := D) (ci := 7) (v := .ref (oP 0)) (C := RX7) (T := TX7) (N := 12) hx hb hts hinX7 hown hK hw.1 15 rfl rfl 9 (by decide) (hts (.fieldLink RX7 68 "CarnivalRoad" "parade" "LCarnivalRoad$Parade;") (by decide +kernel)) (fun _ h9 => h9) rfl dX7_at_55 ?_
    refine lv_iload_n hx hb dX7_at_58 rfl (lv_at hl 1 rfl) ?_
    have hF9 := z_free (wc := kG cI cB cZ oG Gn Gki Gle Glo Gta Gsh ++ kT cI cB cZ oT Tcells Tgap Twires Tstands ++ kP cI cB cZ oP (oG 0) (oT 0) Pline Psize Pnow Pheads Pbusy Pcame Pout) hw hA [0, 1, 2, 3, 4, 5, 6, 7, 8, 9, 10, 11, 12, 13, 14] rfl
    refine va_calli (va_runV (As := [.int (zI g)]) (rest := []) ⟨hx, hb, hml, hown, hts⟩ (c_X3_tailOf l D cI cB cZ oG oT oP H_3.size Gn Gki Gle Glo Gta Gsh Tcells Tgap Twires Tstands Pline Psize Pnow Pheads Pbusy Pcame Pout g (by omega) qGki qGle qGlo qGta qGsh (by omega) (by omega) qTwires qTstands qPline (by omega) (by omega) qPheads qPbusy qPcame qPout (by omega)) (cwV 1 hts gX7_at_X3_tailOf rfl rfl rfl (by decide +kernel) ⟨Nat.le_of_ble_eq_true rfl, Nat.le_of_ble_eq_true rfl⟩) ⟨zPre_blind, va_recv hK hw.1 (ci := 3) (q0 := 9) rfl rfl, z_pre hK hw [0, 1, 2, 3, 4, 5, 6, 7, 8, 9, 10, 11, 12, 13, 14] (by decide) rfl⟩ rfl rfl hl.1 rfl (lv_room (Nat.le_of_ble_eq_true rfl)) dX7_at_59 ⟨Nat.le_of_ble_eq_true rfl, Nat.le_of_ble_eq_true rfl⟩) hw.2.2 (fun q _ h => hF9 q h) hF9 (fun r9 u9 t9 H_12 locs9 ht9 hvm9 hq9 hB9 hz9 hk9 hS9 => ?_)
    obtain ⟨r_13, rfl⟩ : ∃ z, z = u9 := ⟨_, rfl⟩
    try dsimp only at hq9 hB9
    obtain ⟨rfl, hq9⟩ := hq9
    obtain ⟨hq_14, hq_15⟩ := hq9
    have hw : HW D A s.heap (kG cI cB cZ oG Gn Gki Gle Glo Gta Gsh ++ kT cI cB cZ oT Tcells Tgap Twires Tstands ++ kP cI cB cZ oP (oG 0) (oT 0) Pline Psize Pnow Pheads Pbusy Pcame Pout ++ kC cI cB cZ oC (oG 0) Crow Cquiet aCreader aCbars aCspare aCsearch aCbreach (oT 0) (oP 0) aCtrial Crun) H_12 locs9 := z_after (wc := kG cI cB cZ oG Gn Gki Gle Glo Gta Gsh ++ kT cI cB cZ oT Tcells Tgap Twires Tstands ++ kP cI cB cZ oP (oG 0) (oT 0) Pline Psize Pnow Pheads Pbusy Pcame Pout) hw [0, 1, 2, 3, 4, 5, 6, 7, 8, 9, 10, 11, 12, 13, 14] [15, 16, 17] rfl rfl (by decide) (by decide) hF9 hk9 ht9 hB9 hS9 [3, 4, 5, 6, 7, 8, 9, 10, 11, 12, 13, 14, 15, 16, 17, 0, 1, 2] (by decide) rfl
    clear hF9 ht9 hvm9 hB9 hz9 hk9 hS9
    have hv_16 : (0 ≤ g ∧ g < Gn) ∧ Crun = 1 := by
      first | assumption | omega | grind
    have hv_17 : (w = 0 ∧ r_13 = Pheads g) ∨ (w = 1 ∧ r_13 = Pheads g - Gle g + 1) ∨ (w = 2 ∧ r_13 = stF (Pheads g) (Pbusy g) (Pout g)) ∨ (w = 3 ∧ r_13 = Pcame g) ∨ (w = 4 ∧ r_13 = Pout g) ∨ ((w < 0 ∨ 4 < w) ∧ r_13 = -100) := by
      first | assumption | omega | grind
    refine vx_ret ?_
    exact W.iret (v := zI r_13) hx hb hr (fun t9 ht hW => ⟨⟨zI r_13, r_13, rfl, ⟨rfl, ⟨hv_16, hv_17⟩⟩, by subst hAe; exact z_end hK hw ht hW⟩, by subst hAe; exact hw.2.2.F ht⟩) (by subst hAe; exact hw.2.2.2.2) dX7_at_62
  · skip
    refine z_tableIn (k := 2) (off := 53) (tgt := 63) hx hb hc_5 dX7_at_10 (by decide) (by decide) rfl (by decide) ?_
    refine lv_aload_n hx hb dX7_at_63 rfl (lv_at hl 0 rfl) ?_
    refine va_get (D := D) (ci := 7) (v := .ref (oP 0)) (C := RX7) (T := TX7) (N := 12) hx hb hts hinX7 hown hK hw.1 15 rfl rfl 9 (by decide) (hts (.fieldLink RX7 68 "CarnivalRoad" "parade" "LCarnivalRoad$Parade;") (by decide +kernel)) (fun _ h9 => h9) rfl dX7_at_64 ?_
    refine lv_iload_n hx hb dX7_at_67 rfl (lv_at hl 1 rfl) ?_
    have hF9 := z_free (wc := kG cI cB cZ oG Gn Gki Gle Glo Gta Gsh ++ kT cI cB cZ oT Tcells Tgap Twires Tstands ++ kP cI cB cZ oP (oG 0) (oT 0) Pline Psize Pnow Pheads Pbusy Pcame Pout) hw hA [0, 1, 2, 3, 4, 5, 6, 7, 8, 9, 10, 11, 12, 13, 14] rfl
    refine va_calli (va_runV (As := [.int (zI g)]) (rest := []) ⟨hx, hb, hml, hown, hts⟩ (c_X3_stateOf l D cI cB cZ oG oT oP H_3.size Gn Gki Gle Glo Gta Gsh Tcells Tgap Twires Tstands Pline Psize Pnow Pheads Pbusy Pcame Pout g (by omega) qGki qGle qGlo qGta qGsh (by omega) (by omega) qTwires qTstands qPline (by omega) (by omega) qPheads qPbusy qPcame qPout (by omega)) (cwV 1 hts gX7_at_X3_stateOf rfl rfl rfl (by decide +kernel) ⟨Nat.le_of_ble_eq_true rfl, Nat.le_of_ble_eq_true rfl⟩) ⟨zPre_blind, va_recv hK hw.1 (ci := 3) (q0 := 9) rfl rfl, z_pre hK hw [0, 1, 2, 3, 4, 5, 6, 7, 8, 9, 10, 11, 12, 13, 14] (by decide) rfl⟩ rfl rfl hl.1 rfl (lv_room (Nat.le_of_ble_eq_true rfl)) dX7_at_68 ⟨Nat.le_of_ble_eq_true rfl, Nat.le_of_ble_eq_true rfl⟩) hw.2.2 (fun q _ h => hF9 q h) hF9 (fun r9 u9 t9 H_18 locs9 ht9 hvm9 hq9 hB9 hz9 hk9 hS9 => ?_)
    obtain ⟨r_19, rfl⟩ : ∃ z, z = u9 := ⟨_, rfl⟩
    try dsimp only at hq9 hB9
    obtain ⟨rfl, hq9⟩ := hq9
    have hq_20 := hq9
    have hw : HW D A s.heap (kG cI cB cZ oG Gn Gki Gle Glo Gta Gsh ++ kT cI cB cZ oT Tcells Tgap Twires Tstands ++ kP cI cB cZ oP (oG 0) (oT 0) Pline Psize Pnow Pheads Pbusy Pcame Pout ++ kC cI cB cZ oC (oG 0) Crow Cquiet aCreader aCbars aCspare aCsearch aCbreach (oT 0) (oP 0) aCtrial Crun) H_18 locs9 := z_after (wc := kG cI cB cZ oG Gn Gki Gle Glo Gta Gsh ++ kT cI cB cZ oT Tcells Tgap Twires Tstands ++ kP cI cB cZ oP (oG 0) (oT 0) Pline Psize Pnow Pheads Pbusy Pcame Pout) hw [0, 1, 2, 3, 4, 5, 6, 7, 8, 9, 10, 11, 12, 13, 14] [15, 16, 17] rfl rfl (by decide) (by decide) hF9 hk9 ht9 hB9 hS9 [3, 4, 5, 6, 7, 8, 9, 10, 11, 12, 13, 14, 15, 16, 17, 0, 1, 2] (by decide) rfl
    clear hF9 ht9 hvm9 hB9 hz9 hk9 hS9 hq9
    have hv_21 : (0 ≤ g ∧ g < Gn) ∧ Crun = 1 := by
      first | assumption | omega | grind
    have hv_22 : (w = 0 ∧ r_19 = Pheads g) ∨ (w = 1 ∧ r_19 = Pheads g - Gle g + 1) ∨ (w = 2 ∧ r_19 = stF (Pheads g) (Pbusy g) (Pout g)) ∨ (w = 3 ∧ r_19 = Pcame g) ∨ (w = 4 ∧ r_19 = Pout g) ∨ ((w < 0 ∨ 4 < w) ∧ r_19 = -100) := by
      first | assumption | omega | grind
    refine vx_ret ?_
    exact W.iret (v := zI r_19) hx hb hr (fun t9 ht hW => ⟨⟨zI r_19, r_19, rfl, ⟨rfl, ⟨hv_21, hv_22⟩⟩, by subst hAe; exact z_end hK hw ht hW⟩, by subst hAe; exact hw.2.2.F ht⟩) (by subst hAe; exact hw.2.2.2.2) dX7_at_71
  · skip
    refine z_tableIn (k := 3) (off := 62) (tgt := 72) hx hb hc_5 dX7_at_10 (by decide) (by decide) rfl (by decide) ?_
    refine lv_aload_n hx hb dX7_at_72 rfl (lv_at hl 0 rfl) ?_
    refine va_get (D := D) (ci := 7) (v := .ref (oP 0)) (C := RX7) (T := TX7) (N := 12) hx hb hts hinX7 hown hK hw.1 15 rfl rfl 9 (by decide) (hts (.fieldLink RX7 68 "CarnivalRoad" "parade" "LCarnivalRoad$Parade;") (by decide +kernel)) (fun _ h9 => h9) rfl dX7_at_73 ?_
    refine va_get (D := D) (ci := 3) (v := .ref (oP 4)) (C := RX3) (T := TX3) (N := 9) hx hb hts hinX3 hown hK hw.1 9 rfl rfl 7 (by decide) (hts (.fieldLink RX7 223 "CarnivalRoad$Parade" "cameAt" "[I") (by decide +kernel)) (fun _ h9 => h9) rfl dX7_at_76 ?_
    refine lv_iload_n hx hb dX7_at_79 rfl (lv_at hl 1 rfl) ?_
    have hi_23 : (0 : Int) ≤ g ∧ g < ((8 : Nat) : Int) := by
      first | assumption | omega | grind
    refine z_iald (n := 8) (f := Pcame) hx hb hK hw 13 rfl (by decide) hi_23 dX7_at_80 ?_
    have hq_24 : -1 ≤ Pcame g ∧ Pcame g ≤ 1000000 := qPcame g
    have hv_25 : (0 ≤ g ∧ g < Gn) ∧ Crun = 1 := by
      first | assumption | omega | grind
    have hv_26 : (w = 0 ∧ (Pcame g) = Pheads g) ∨ (w = 1 ∧ (Pcame g) = Pheads g - Gle g + 1) ∨ (w = 2 ∧ (Pcame g) = stF (Pheads g) (Pbusy g) (Pout g)) ∨ (w = 3 ∧ (Pcame g) = Pcame g) ∨ (w = 4 ∧ (Pcame g) = Pout g) ∨ ((w < 0 ∨ 4 < w) ∧ (Pcame g) = -100) := by
      first | assumption | omega | grind
    refine vx_ret ?_
    exact W.iret (v := zI (Pcame g)) hx hb hr (fun t9 ht hW => ⟨⟨zI (Pcame g), (Pcame g), rfl, ⟨rfl, ⟨hv_25, hv_26⟩⟩, by subst hAe; exact z_end hK hw ht hW⟩, by subst hAe; exact hw.2.2.F ht⟩) (by subst hAe; exact hw.2.2.2.2) dX7_at_81
  · skip
    refine z_tableIn (k := 4) (off := 72) (tgt := 82) hx hb hc_5 dX7_at_10 (by decide) (by decide) rfl (by decide) ?_
    refine lv_aload_n hx hb dX7_at_82 rfl (lv_at hl 0 rfl) ?_
    refine va_get (D := D) (ci := 7) (v := .ref (oP 0)) (C := RX7) (T := TX7) (N := 12) hx hb hts hinX7 hown hK hw.1 15 rfl rfl 9 (by decide) (hts (.fieldLink RX7 68 "CarnivalRoad" "parade" "LCarnivalRoad$Parade;") (by decide +kernel)) (fun _ h9 => h9) rfl dX7_at_83 ?_
    refine va_get (D := D) (ci := 3) (v := .ref (oP 5)) (C := RX3) (T := TX3) (N := 9) hx hb hts hinX3 hown hK hw.1 9 rfl rfl 8 (by decide) (hts (.fieldLink RX7 226 "CarnivalRoad$Parade" "outAt" "[I") (by decide +kernel)) (fun _ h9 => h9) rfl dX7_at_86 ?_
    refine lv_iload_n hx hb dX7_at_89 rfl (lv_at hl 1 rfl) ?_
    have hi_27 : (0 : Int) ≤ g ∧ g < ((8 : Nat) : Int) := by
      first | assumption | omega | grind
    refine z_iald (n := 8) (f := Pout) hx hb hK hw 14 rfl (by decide) hi_27 dX7_at_90 ?_
    have hq_28 : -1 ≤ Pout g ∧ Pout g ≤ 1000000 := qPout g
    have hv_29 : (0 ≤ g ∧ g < Gn) ∧ Crun = 1 := by
      first | assumption | omega | grind
    have hv_30 : (w = 0 ∧ (Pout g) = Pheads g) ∨ (w = 1 ∧ (Pout g) = Pheads g - Gle g + 1) ∨ (w = 2 ∧ (Pout g) = stF (Pheads g) (Pbusy g) (Pout g)) ∨ (w = 3 ∧ (Pout g) = Pcame g) ∨ (w = 4 ∧ (Pout g) = Pout g) ∨ ((w < 0 ∨ 4 < w) ∧ (Pout g) = -100) := by
      first | assumption | omega | grind
    refine vx_ret ?_
    exact W.iret (v := zI (Pout g)) hx hb hr (fun t9 ht hW => ⟨⟨zI (Pout g), (Pout g), rfl, ⟨rfl, ⟨hv_29, hv_30⟩⟩, by subst hAe; exact z_end hK hw ht hW⟩, by subst hAe; exact hw.2.2.F ht⟩) (by subst hAe; exact hw.2.2.2.2) dX7_at_91
set_option maxRecDepth 100000 in
set_option maxHeartbeats 4000000 in
theorem c_X7_who (l : Launch) (D : va_G) (cI cB cZ : ClassId) (hst : l.stackTraces = false) (sa sb : Nat) (oG : Nat → Nat) (oT : Nat → Nat) (oP : Nat → Nat) (oC : Nat → Nat) (aCreader : Nat) (aCbars : Nat) (aCspare : Nat) (aCsearch : Nat) (aCbreach : Nat) (aCtrial : Nat) (sz : Nat) (Gn : Int) (Gki : Int → Int) (Gle : Int → Int) (Glo : Int → Int) (Gta : Int → Int) (Gsh : Int → Int) (Tcells : Int) (Tgap : Int) (Twires : Int → Int) (Tstands : Int → Int) (Pline : Int → Int) (Psize : Int) (Pnow : Int) (Pheads : Int → Int) (Pbusy : Int → Int) (Pcame : Int → Int) (Pout : Int → Int) (Crow : Int → Int) (Cquiet : Int → Int) (Crun : Int) (c : Int) (qGn : 0 ≤ Gn ∧ Gn ≤ 8) (qGki : RA Gki (0) 4) (qGle : RA Gle (0) 5) (qGlo : RA Glo (0) 9) (qGta : RA Gta (0) 9) (qGsh : RA Gsh (0) 9) (qTcells : 1 ≤ Tcells ∧ Tcells ≤ 50) (qTgap : 0 ≤ Tgap ∧ Tgap ≤ 3) (qTwires : RA Twires (0) 9) (qTstands : RA Tstands (0) 9) (qPline : RA Pline (0) 7) (qPsize : 0 ≤ Psize ∧ Psize ≤ 8) (qPnow : 0 ≤ Pnow ∧ Pnow ≤ 1000000) (qPheads : RA Pheads (-1) 60) (qPbusy : RA Pbusy (0) 30) (qPcame : RA Pcame (-1) 1000000) (qPout : RA Pout (-1) 1000000) (qCrow : RA Crow (0) 7) (qCquiet : RA Cquiet (0) 7) (qCrun : 0 ≤ Crun ∧ Crun ≤ 1) (qc : -2147483648 ≤ c ∧ c ≤ 2147483647) : vx_Met l yX7_who wsX7_who ({ frames := 7, cells := 1, slots := 6, locals := 110 }) (va_Pc [.ref (oC 0), .int (zI c)] (zPreE sa sb D cI cB cZ sz (kG cI cB cZ oG Gn Gki Gle Glo Gta Gsh ++ kT cI cB cZ oT Tcells Tgap Twires Tstands ++ kP cI cB cZ oP (oG 0) (oT 0) Pline Psize Pnow Pheads Pbusy Pcame Pout ++ kC cI cB cZ oC (oG 0) Crow Cquiet aCreader aCbars aCspare aCsearch aCbreach (oT 0) (oP 0) aCtrial Crun))) (va_Qi (fun (r9 : Int32) (u9 : Int) => r9 = zI u9 ∧ ((Crun = 1) ∧ (((0 ≤ c ∧ c < Tcells) ∧ ((u9 = -1 ∧ ∀ i, 0 ≤ i → i < Psize → ¬ covP Gle Pheads Pout c (Pline i)) ∨ (∃ i, 0 ≤ i ∧ i < Psize ∧ u9 = Pline i ∧ covP Gle Pheads Pout c (Pline i)))) ∨ (¬ (0 ≤ c ∧ c < Tcells) ∧ u9 = -1)))) (fun u9 t9 => zAt D cI cB cZ (va_A (kG cI cB cZ oG Gn Gki Gle Glo Gta Gsh ++ kT cI cB cZ oT Tcells Tgap Twires Tstands ++ kP cI cB cZ oP (oG 0) (oT 0) Pline Psize Pnow Pheads Pbusy Pcame Pout ++ kC cI cB cZ oC (oG 0) Crow Cquiet aCreader aCbars aCspare aCsearch aCbreach (oT 0) (oP 0) aCtrial Crun) sz) (kG cI cB cZ oG Gn Gki Gle Glo Gta Gsh ++ kT cI cB cZ oT Tcells Tgap Twires Tstands ++ kP cI cB cZ oP (oG 0) (oT 0) Pline Psize Pnow Pheads Pbusy Pcame Pout ++ kC cI cB cZ oC (oG 0) Crow Cquiet aCreader aCbars aCspare aCsearch aCbreach (oT 0) (oP 0) aCtrial Crun) t9) (va_A (kG cI cB cZ oG Gn Gki Gle Glo Gta Gsh ++ kT cI cB cZ oT Tcells Tgap Twires Tstands ++ kP cI cB cZ oP (oG 0) (oT 0) Pline Psize Pnow Pheads Pbusy Pcame Pout ++ kC cI cB cZ oC (oG 0) Crow Cquiet aCreader aCbars aCspare aCsearch aCbreach (oT 0) (oP 0) aCtrial Crun) sz)) (vx_X (fun _ : Unit => True) (fun E9 _ t9 => (Crun = 0 ∧ E9 = "java/util/NoSuchElementException") ∧ zAt D cI cB cZ (va_A (kG cI cB cZ oG Gn Gki Gle Glo Gta Gsh ++ kT cI cB cZ oT Tcells Tgap Twires Tstands ++ kP cI cB cZ oP (oG 0) (oT 0) Pline Psize Pnow Pheads Pbusy Pcame Pout ++ kC cI cB cZ oC (oG 0) Crow Cquiet aCreader aCbars aCspare aCsearch aCbreach (oT 0) (oP 0) aCtrial Crun) sz) (kG cI cB cZ oG Gn Gki Gle Glo Gta Gsh ++ kT cI cB cZ oT Tcells Tgap Twires Tstands ++ kP cI cB cZ oP (oG 0) (oT 0) Pline Psize Pnow Pheads Pbusy Pcame Pout ++ kC cI cB cZ oC (oG 0) Crow Cquiet aCreader aCbars aCspare aCsearch aCbreach (oT 0) (oP 0) aCtrial Crun) t9) (va_A (kG cI cB cZ oG Gn Gki Gle Glo Gta Gsh ++ kT cI cB cZ oT Tcells Tgap Twires Tstands ++ kP cI cB cZ oP (oG 0) (oT 0) Pline Psize Pnow Pheads Pbusy Pcame Pout ++ kC cI cB cZ oC (oG 0) Crow Cquiet aCreader aCbars aCspare aCsearch aCbreach (oT 0) (oP 0) aCtrial Crun) sz)) 1 6 (va_A (kG cI cB cZ oG Gn Gki Gle Glo Gta Gsh ++ kT cI cB cZ oT Tcells Tgap Twires Tstands ++ kP cI cB cZ oP (oG 0) (oT 0) Pline Psize Pnow Pheads Pbusy Pcame Pout ++ kC cI cB cZ oC (oG 0) Crow Cquiet aCreader aCbars aCspare aCsearch aCbreach (oT 0) (oP 0) aCtrial Crun) sz) := by
  refine vx_ofW (cc := cX7_who) (maxL := 2) (ret := (some .int)) (by decide) rfl ?_
  intro pp ee s mm aa bw mt cd s₁ BL hml hnt hv
  obtain ⟨rfl, ⟨hsz, hP, hK, hD0⟩, hZE⟩ := hv
  have hx := BL.exec
  have hb := BL.bytes
  have hr := BL.returns
  have hts := atoms_spec (ws := wsX7_who) BL.pre
  have hown : s.vm.findClass RX7 = some mm.cls := findClass_of_methodNamed BL.named
  have hlocks := BL.notSynchronized
  subst hsz
  generalize hAe : va_A (kG cI cB cZ oG Gn Gki Gle Glo Gta Gsh ++ kT cI cB cZ oT Tcells Tgap Twires Tstands ++ kP cI cB cZ oP (oG 0) (oT 0) Pline Psize Pnow Pheads Pbusy Pcame Pout ++ kC cI cB cZ oC (oG 0) Crow Cquiet aCreader aCbars aCspare aCsearch aCbreach (oT 0) (oP 0) aCtrial Crun) s.heap.size = A at hZE ⊢
  have hA : ∀ q : Nat, s.heap.size ≤ q → A q := fun q h => by rw [← hAe]; exact Or.inr h
  have hw : HW D A s.heap (kG cI cB cZ oG Gn Gki Gle Glo Gta Gsh ++ kT cI cB cZ oT Tcells Tgap Twires Tstands ++ kP cI cB cZ oP (oG 0) (oT 0) Pline Psize Pnow Pheads Pbusy Pcame Pout ++ kC cI cB cZ oC (oG 0) Crow Cquiet aCreader aCbars aCspare aCsearch aCbreach (oT 0) (oP 0) aCtrial Crun) s.heap [] := z_start hAe hP hD0
  clear hP hD0
  have hl := lv_entry ([.ref (oC 0), .int (zI c)]) (n := 2) (Nat.le_of_ble_eq_true rfl)
  rw [lg_entry_eq]
  generalize (lg_sl ([.ref (oC 0), .int (zI c)]) ++ List.replicate (2 - (lg_sl ([.ref (oC 0), .int (zI c)])).length) Slot.unset).toArray = ls at hl ⊢
  have hl : lv_has ls 2 [(0, .ref (oC 0)), (1, .int (zI c))] := hl
  have hinX7 : ∀ w ∈ wsX70, w ∈ wsX7_who := by decide +kernel
  refine lv_aload_n hx hb dX7_who_0 rfl (lv_at hl 0 rfl) ?_
  have hF9 := z_free (wc := kC cI cB cZ oC (oG 0) Crow Cquiet aCreader aCbars aCspare aCsearch aCbreach (oT 0) (oP 0) aCtrial Crun) hw hA [15, 16, 17] rfl
  refine vx_callv (vx_runV (As := []) (rest := []) ⟨hx, hb, hml, hown, hts⟩ (c_X7_needRun l D cI cB cZ hst sa sb oC (oG 0) aCreader aCbars aCspare aCsearch aCbreach (oT 0) (oP 0) aCtrial s.heap.size Crow Cquiet Crun qCrow qCquiet (by omega)) (cwV 0 hts gX7_who_X7_needRun rfl rfl rfl (by decide +kernel) ⟨Nat.le_of_ble_eq_true rfl, Nat.le_of_ble_eq_true rfl⟩) ⟨zPreE_blind, va_recv hK hw.1 (ci := 7) (q0 := 15) rfl rfl, z_preE hK hw [15, 16, 17] (by decide) rfl hZE hF9⟩ rfl rfl hl.1 rfl (lv_room (Nat.le_of_ble_eq_true rfl)) dX7_who_1 ⟨Nat.le_of_ble_eq_true rfl, Nat.le_of_ble_eq_true rfl⟩) hw.2.2 (fun q _ h => hF9 q h) hF9 (fun q _ h => hF9 q h) (fun E9 ce9 q9 u9 t9 H9 locs9 ht9 hvm9 hp9 hB9 hz9 hk9 hS9 hce9 hcv9 hcl9 => ?_) (fun u9 t9 H_1 locs9 ht9 hvm9 hq9 hB9 hz9 hk9 hS9 => ?_)
  · obtain ⟨hx9, hB9⟩ := hB9
    have hw : HW D A s.heap (kG cI cB cZ oG Gn Gki Gle Glo Gta Gsh ++ kT cI cB cZ oT Tcells Tgap Twires Tstands ++ kP cI cB cZ oP (oG 0) (oT 0) Pline Psize Pnow Pheads Pbusy Pcame Pout ++ kC cI cB cZ oC (oG 0) Crow Cquiet aCreader aCbars aCspare aCsearch aCbreach (oT 0) (oP 0) aCtrial Crun) H9 locs9 := z_after (wc := kC cI cB cZ oC (oG 0) Crow Cquiet aCreader aCbars aCspare aCsearch aCbreach (oT 0) (oP 0) aCtrial Crun) hw [15, 16, 17] [0, 1, 2, 3, 4, 5, 6, 7, 8, 9, 10, 11, 12, 13, 14] rfl rfl (by decide) (by decide) hF9 hk9 ht9 hB9 hS9 [0, 1, 2, 3, 4, 5, 6, 7, 8, 9, 10, 11, 12, 13, 14, 15, 16, 17] (by decide) rfl
    exact vx_out (fun x hx => (hnt x hx).elim) hlocks hce9 hcv9 hcl9 (fun t ht hAl => ⟨(), trivial, ⟨by first | exact hx9 | exact Or.inl hx9 | exact Or.inr hx9, by subst hAe; exact z_alike hK hw ht hAl⟩, by subst hAe; exact hw.2.2.F ht⟩) (by subst hAe; exact hw.2.2.2.2) (Nat.le_of_ble_eq_true rfl) (Nat.le_of_ble_eq_true rfl)
  try dsimp only at hq9 hB9
  have hq_2 := hq9
  have hw : HW D A s.heap (kG cI cB cZ oG Gn Gki Gle Glo Gta Gsh ++ kT cI cB cZ oT Tcells Tgap Twires Tstands ++ kP cI cB cZ oP (oG 0) (oT 0) Pline Psize Pnow Pheads Pbusy Pcame Pout ++ kC cI cB cZ oC (oG 0) Crow Cquiet aCreader aCbars aCspare aCsearch aCbreach (oT 0) (oP 0) aCtrial Crun) H_1 locs9 := z_after (wc := kC cI cB cZ oC (oG 0) Crow Cquiet aCreader aCbars aCspare aCsearch aCbreach (oT 0) (oP 0) aCtrial Crun) hw [15, 16, 17] [0, 1, 2, 3, 4, 5, 6, 7, 8, 9, 10, 11, 12, 13, 14] rfl rfl (by decide) (by decide) hF9 hk9 ht9 hB9 hS9 [0, 1, 2, 3, 4, 5, 6, 7, 8, 9, 10, 11, 12, 13, 14, 15, 16, 17] (by decide) rfl
  clear hF9 ht9 hvm9 hB9 hz9 hk9 hS9 hq9
  refine lv_aload_n hx hb dX7_who_4 rfl (lv_at hl 0 rfl) ?_
  refine va_get (D := D) (ci := 7) (v := .ref (oT 0)) (C := RX7) (T := TX7) (N := 12) hx hb hts hinX7 hown hK hw.1 15 rfl rfl 8 (by decide) (hts (.fieldLink RX7 59 "CarnivalRoad" "street" "LCarnivalRoad$Street;") (by decide +kernel)) (fun _ h9 => h9) rfl dX7_who_5 ?_
  refine lv_iload_n hx hb dX7_who_8 rfl (lv_at hl 1 rfl) ?_
  have hF9 := z_free (wc := kT cI cB cZ oT Tcells Tgap Twires Tstands) hw hA [6, 7, 8] rfl
  refine va_calli (va_runV (As := [.int (zI c)]) (rest := []) ⟨hx, hb, hml, hown, hts⟩ (c_X6_has l D cI cB cZ oT H_1.size Tcells Tgap Twires Tstands c (by omega) (by omega) qTwires qTstands (by omega)) (cwV 1 hts gX7_who_X6_has rfl rfl rfl (by decide +kernel) ⟨Nat.le_of_ble_eq_true rfl, Nat.le_of_ble_eq_true rfl⟩) ⟨zPre_blind, va_recv hK hw.1 (ci := 6) (q0 := 6) rfl rfl, z_pre hK hw [6, 7, 8] (by decide) rfl⟩ rfl rfl hl.1 rfl (lv_room (Nat.le_of_ble_eq_true rfl)) dX7_who_9 ⟨Nat.le_of_ble_eq_true rfl, Nat.le_of_ble_eq_true rfl⟩) hw.2.2 (fun q _ h => hF9 q h) hF9 (fun r9 u9 t9 H_3 locs9 ht9 hvm9 hq9 hB9 hz9 hk9 hS9 => ?_)
  obtain ⟨r_4, rfl⟩ : ∃ z, z = u9 := ⟨_, rfl⟩
  try dsimp only at hq9 hB9
  obtain ⟨rfl, hq9⟩ := hq9
  have hq_5 := hq9
  have hw : HW D A s.heap (kG cI cB cZ oG Gn Gki Gle Glo Gta Gsh ++ kT cI cB cZ oT Tcells Tgap Twires Tstands ++ kP cI cB cZ oP (oG 0) (oT 0) Pline Psize Pnow Pheads Pbusy Pcame Pout ++ kC cI cB cZ oC (oG 0) Crow Cquiet aCreader aCbars aCspare aCsearch aCbreach (oT 0) (oP 0) aCtrial Crun) H_3 locs9 := z_after (wc := kT cI cB cZ oT Tcells Tgap Twires Tstands) hw [6, 7, 8] [0, 1, 2, 3, 4, 5, 9, 10, 11, 12, 13, 14, 15, 16, 17] rfl rfl (by decide) (by decide) hF9 hk9 ht9 hB9 hS9 [0, 1, 2, 3, 4, 5, 15, 16, 17, 6, 7, 8, 9, 10, 11, 12, 13, 14] (by decide) rfl
  clear hF9 ht9 hvm9 hB9 hz9 hk9 hS9 hq9
  rcases hq_5 with ⟨hc_6, rfl⟩ | ⟨hc_6, rfl⟩
  · skip
    refine z_if_eq (tgt := 26) hx hb dX7_who_12 (by decide) (by omega) (fun hc_7 => absurd hc_7 (by omega)) (fun hc_7 => ?_)
    refine lv_aload_n hx hb dX7_who_15 rfl (lv_at hl 0 rfl) ?_
    refine va_get (D := D) (ci := 7) (v := .ref (oP 0)) (C := RX7) (T := TX7) (N := 12) hx hb hts hinX7 hown hK hw.1 15 rfl rfl 9 (by decide) (hts (.fieldLink RX7 68 "CarnivalRoad" "parade" "LCarnivalRoad$Parade;") (by decide +kernel)) (fun _ h9 => h9) rfl dX7_who_16 ?_
    refine lv_iload_n hx hb dX7_who_19 rfl (lv_at hl 1 rfl) ?_
    have hF9 := z_free (wc := kG cI cB cZ oG Gn Gki Gle Glo Gta Gsh ++ kT cI cB cZ oT Tcells Tgap Twires Tstands ++ kP cI cB cZ oP (oG 0) (oT 0) Pline Psize Pnow Pheads Pbusy Pcame Pout) hw hA [0, 1, 2, 3, 4, 5, 6, 7, 8, 9, 10, 11, 12, 13, 14] rfl
    refine va_calli (va_runV (As := [.int (zI c)]) (rest := []) ⟨hx, hb, hml, hown, hts⟩ (c_X3_standsOn l D cI cB cZ oG oT oP H_3.size Gn Gki Gle Glo Gta Gsh Tcells Tgap Twires Tstands Pline Psize Pnow Pheads Pbusy Pcame Pout c (by omega) qGki qGle qGlo qGta qGsh (by omega) (by omega) qTwires qTstands qPline (by omega) (by omega) qPheads qPbusy qPcame qPout (by omega)) (cwV 1 hts gX7_who_X3_standsOn rfl rfl rfl (by decide +kernel) ⟨Nat.le_of_ble_eq_true rfl, Nat.le_of_ble_eq_true rfl⟩) ⟨zPre_blind, va_recv hK hw.1 (ci := 3) (q0 := 9) rfl rfl, z_pre hK hw [0, 1, 2, 3, 4, 5, 6, 7, 8, 9, 10, 11, 12, 13, 14] (by decide) rfl⟩ rfl rfl hl.1 rfl (lv_room (Nat.le_of_ble_eq_true rfl)) dX7_who_20 ⟨Nat.le_of_ble_eq_true rfl, Nat.le_of_ble_eq_true rfl⟩) hw.2.2 (fun q _ h => hF9 q h) hF9 (fun r9 u9 t9 H_8 locs9 ht9 hvm9 hq9 hB9 hz9 hk9 hS9 => ?_)
    obtain ⟨r_9, rfl⟩ : ∃ z, z = u9 := ⟨_, rfl⟩
    try dsimp only at hq9 hB9
    obtain ⟨rfl, hq9⟩ := hq9
    have hq_10 := hq9
    have hw : HW D A s.heap (kG cI cB cZ oG Gn Gki Gle Glo Gta Gsh ++ kT cI cB cZ oT Tcells Tgap Twires Tstands ++ kP cI cB cZ oP (oG 0) (oT 0) Pline Psize Pnow Pheads Pbusy Pcame Pout ++ kC cI cB cZ oC (oG 0) Crow Cquiet aCreader aCbars aCspare aCsearch aCbreach (oT 0) (oP 0) aCtrial Crun) H_8 locs9 := z_after (wc := kG cI cB cZ oG Gn Gki Gle Glo Gta Gsh ++ kT cI cB cZ oT Tcells Tgap Twires Tstands ++ kP cI cB cZ oP (oG 0) (oT 0) Pline Psize Pnow Pheads Pbusy Pcame Pout) hw [0, 1, 2, 3, 4, 5, 6, 7, 8, 9, 10, 11, 12, 13, 14] [15, 16, 17] rfl rfl (by decide) (by decide) hF9 hk9 ht9 hB9 hS9 [3, 4, 5, 6, 7, 8, 9, 10, 11, 12, 13, 14, 15, 16, 17, 0, 1, 2] (by decide) rfl
    clear hF9 ht9 hvm9 hB9 hz9 hk9 hS9 hq9
    refine lv_goto (tgt := 27) hx hb dX7_who_23 (by decide) ?_
    have hv_11 : Crun = 1 := by
      first | assumption | omega | grind
    have hv_12 : ((0 ≤ c ∧ c < Tcells) ∧ ((r_9 = -1 ∧ ∀ i, 0 ≤ i → i < Psize → ¬ covP Gle Pheads Pout c (Pline i)) ∨ (∃ i, 0 ≤ i ∧ i < Psize ∧ r_9 = Pline i ∧ covP Gle Pheads Pout c (Pline i)))) ∨ (¬ (0 ≤ c ∧ c < Tcells) ∧ r_9 = -1) := by
      first | assumption | omega | grind
    refine vx_ret ?_
    exact W.iret (v := zI r_9) hx hb hr (fun t9 ht hW => ⟨⟨zI r_9, r_9, rfl, ⟨rfl, ⟨hv_11, hv_12⟩⟩, by subst hAe; exact z_end hK hw ht hW⟩, by subst hAe; exact hw.2.2.F ht⟩) (by subst hAe; exact hw.2.2.2.2) dX7_who_27
  · skip
    refine z_if_eq (tgt := 26) hx hb dX7_who_12 (by decide) (by omega) (fun hc_13 => ?_) (fun hc_13 => absurd hc_13 (by omega))
    refine z_iconst hx hb dX7_who_26 ?_
    have hv_14 : Crun = 1 := by
      first | assumption | omega | grind
    have hv_15 : ((0 ≤ c ∧ c < Tcells) ∧ ((((-1) : Int) = -1 ∧ ∀ i, 0 ≤ i → i < Psize → ¬ covP Gle Pheads Pout c (Pline i)) ∨ (∃ i, 0 ≤ i ∧ i < Psize ∧ ((-1) : Int) = Pline i ∧ covP Gle Pheads Pout c (Pline i)))) ∨ (¬ (0 ≤ c ∧ c < Tcells) ∧ ((-1) : Int) = -1) := by
      first | assumption | omega | grind
    refine vx_ret ?_
    exact W.iret (v := zI (-1)) hx hb hr (fun t9 ht hW => ⟨⟨zI (-1), (-1), rfl, ⟨rfl, ⟨hv_14, hv_15⟩⟩, by subst hAe; exact z_end hK hw ht hW⟩, by subst hAe; exact hw.2.2.F ht⟩) (by subst hAe; exact hw.2.2.2.2) dX7_who_27
set_option maxRecDepth 100000 in
set_option maxHeartbeats 4000000 in
theorem c_X7_hole (l : Launch) (D : va_G) (cI cB cZ : ClassId) (hst : l.stackTraces = false) (sa sb : Nat) (oG : Nat → Nat) (oT : Nat → Nat) (oP : Nat → Nat) (oC : Nat → Nat) (aCreader : Nat) (aCbars : Nat) (aCspare : Nat) (aCsearch : Nat) (aCbreach : Nat) (aCtrial : Nat) (sz : Nat) (Gn : Int) (Gki : Int → Int) (Gle : Int → Int) (Glo : Int → Int) (Gta : Int → Int) (Gsh : Int → Int) (Tcells : Int) (Tgap : Int) (Twires : Int → Int) (Tstands : Int → Int) (Pline : Int → Int) (Psize : Int) (Pnow : Int) (Pheads : Int → Int) (Pbusy : Int → Int) (Pcame : Int → Int) (Pout : Int → Int) (Crow : Int → Int) (Cquiet : Int → Int) (Crun : Int) (qGn : 0 ≤ Gn ∧ Gn ≤ 8) (qGki : RA Gki (0) 4) (qGle : RA Gle (0) 5) (qGlo : RA Glo (0) 9) (qGta : RA Gta (0) 9) (qGsh : RA Gsh (0) 9) (qTcells : 1 ≤ Tcells ∧ Tcells ≤ 50) (qTgap : 0 ≤ Tgap ∧ Tgap ≤ 3) (qTwires : RA Twires (0) 9) (qTstands : RA Tstands (0) 9) (qPline : RA Pline (0) 7) (qPsize : 0 ≤ Psize ∧ Psize ≤ 8) (qPnow : 0 ≤ Pnow ∧ Pnow ≤ 1000000) (qPheads : RA Pheads (-1) 60) (qPbusy : RA Pbusy (0) 30) (qPcame : RA Pcame (-1) 1000000) (qPout : RA Pout (-1) 1000000) (qCrow : RA Crow (0) 7) (qCquiet : RA Cquiet (0) 7) (qCrun : 0 ≤ Crun ∧ Crun ≤ 1) : vx_Met l yX7_hole wsX7_hole ({ frames := 7, cells := 1, slots := 6, locals := 110 }) (va_Pc [.ref (oC 0)] (zPreE sa sb D cI cB cZ sz (kG cI cB cZ oG Gn Gki Gle Glo Gta Gsh ++ kT cI cB cZ oT Tcells Tgap Twires Tstands ++ kP cI cB cZ oP (oG 0) (oT 0) Pline Psize Pnow Pheads Pbusy Pcame Pout ++ kC cI cB cZ oC (oG 0) Crow Cquiet aCreader aCbars aCspare aCsearch aCbreach (oT 0) (oP 0) aCtrial Crun))) (va_Qi (fun (r9 : Int32) (u9 : Int) => r9 = zI u9 ∧ ((Crun = 1) ∧ (u9 = (holeK Gle Pline Pheads Pout Psize.toNat).1))) (fun u9 t9 => zAt D cI cB cZ (va_A (kG cI cB cZ oG Gn Gki Gle Glo Gta Gsh ++ kT cI cB cZ oT Tcells Tgap Twires Tstands ++ kP cI cB cZ oP (oG 0) (oT 0) Pline Psize Pnow Pheads Pbusy Pcame Pout ++ kC cI cB cZ oC (oG 0) Crow Cquiet aCreader aCbars aCspare aCsearch aCbreach (oT 0) (oP 0) aCtrial Crun) sz) (kG cI cB cZ oG Gn Gki Gle Glo Gta Gsh ++ kT cI cB cZ oT Tcells Tgap Twires Tstands ++ kP cI cB cZ oP (oG 0) (oT 0) Pline Psize Pnow Pheads Pbusy Pcame Pout ++ kC cI cB cZ oC (oG 0) Crow Cquiet aCreader aCbars aCspare aCsearch aCbreach (oT 0) (oP 0) aCtrial Crun) t9) (va_A (kG cI cB cZ oG Gn Gki Gle Glo Gta Gsh ++ kT cI cB cZ oT Tcells Tgap Twires Tstands ++ kP cI cB cZ oP (oG 0) (oT 0) Pline Psize Pnow Pheads Pbusy Pcame Pout ++ kC cI cB cZ oC (oG 0) Crow Cquiet aCreader aCbars aCspare aCsearch aCbreach (oT 0) (oP 0) aCtrial Crun) sz)) (vx_X (fun _ : Unit => True) (fun E9 _ t9 => (Crun = 0 ∧ E9 = "java/util/NoSuchElementException") ∧ zAt D cI cB cZ (va_A (kG cI cB cZ oG Gn Gki Gle Glo Gta Gsh ++ kT cI cB cZ oT Tcells Tgap Twires Tstands ++ kP cI cB cZ oP (oG 0) (oT 0) Pline Psize Pnow Pheads Pbusy Pcame Pout ++ kC cI cB cZ oC (oG 0) Crow Cquiet aCreader aCbars aCspare aCsearch aCbreach (oT 0) (oP 0) aCtrial Crun) sz) (kG cI cB cZ oG Gn Gki Gle Glo Gta Gsh ++ kT cI cB cZ oT Tcells Tgap Twires Tstands ++ kP cI cB cZ oP (oG 0) (oT 0) Pline Psize Pnow Pheads Pbusy Pcame Pout ++ kC cI cB cZ oC (oG 0) Crow Cquiet aCreader aCbars aCspare aCsearch aCbreach (oT 0) (oP 0) aCtrial Crun) t9) (va_A (kG cI cB cZ oG Gn Gki Gle Glo Gta Gsh ++ kT cI cB cZ oT Tcells Tgap Twires Tstands ++ kP cI cB cZ oP (oG 0) (oT 0) Pline Psize Pnow Pheads Pbusy Pcame Pout ++ kC cI cB cZ oC (oG 0) Crow Cquiet aCreader aCbars aCspare aCsearch aCbreach (oT 0) (oP 0) aCtrial Crun) sz)) 1 6 (va_A (kG cI cB cZ oG Gn Gki Gle Glo Gta Gsh ++ kT cI cB cZ oT Tcells Tgap Twires Tstands ++ kP cI cB cZ oP (oG 0) (oT 0) Pline Psize Pnow Pheads Pbusy Pcame Pout ++ kC cI cB cZ oC (oG 0) Crow Cquiet aCreader aCbars aCspare aCsearch aCbreach (oT 0) (oP 0) aCtrial Crun) sz) := by
  refine vx_ofW (cc := cX7_hole) (maxL := 1) (ret := (some .int)) (by decide) rfl ?_
  intro pp ee s mm aa bw mt cd s₁ BL hml hnt hv
  obtain ⟨rfl, ⟨hsz, hP, hK, hD0⟩, hZE⟩ := hv
  have hx := BL.exec
  have hb := BL.bytes
  have hr := BL.returns
  have hts := atoms_spec (ws := wsX7_hole) BL.pre
  have hown : s.vm.findClass RX7 = some mm.cls := findClass_of_methodNamed BL.named
  have hlocks := BL.notSynchronized
  subst hsz
  generalize hAe : va_A (kG cI cB cZ oG Gn Gki Gle Glo Gta Gsh ++ kT cI cB cZ oT Tcells Tgap Twires Tstands ++ kP cI cB cZ oP (oG 0) (oT 0) Pline Psize Pnow Pheads Pbusy Pcame Pout ++ kC cI cB cZ oC (oG 0) Crow Cquiet aCreader aCbars aCspare aCsearch aCbreach (oT 0) (oP 0) aCtrial Crun) s.heap.size = A at hZE ⊢
  have hA : ∀ q : Nat, s.heap.size ≤ q → A q := fun q h => by rw [← hAe]; exact Or.inr h
  have hw : HW D A s.heap (kG cI cB cZ oG Gn Gki Gle Glo Gta Gsh ++ kT cI cB cZ oT Tcells Tgap Twires Tstands ++ kP cI cB cZ oP (oG 0) (oT 0) Pline Psize Pnow Pheads Pbusy Pcame Pout ++ kC cI cB cZ oC (oG 0) Crow Cquiet aCreader aCbars aCspare aCsearch aCbreach (oT 0) (oP 0) aCtrial Crun) s.heap [] := z_start hAe hP hD0
  clear hP hD0
  have hl := lv_entry ([.ref (oC 0)]) (n := 1) (Nat.le_of_ble_eq_true rfl)
  rw [lg_entry_eq]
  generalize (lg_sl ([.ref (oC 0)]) ++ List.replicate (1 - (lg_sl ([.ref (oC 0)])).length) Slot.unset).toArray = ls at hl ⊢
  have hl : lv_has ls 1 [(0, .ref (oC 0))] := hl
  have hinX7 : ∀ w ∈ wsX70, w ∈ wsX7_hole := by decide +kernel
  refine lv_aload_n hx hb dX7_hole_0 rfl (lv_at hl 0 rfl) ?_
  have hF9 := z_free (wc := kC cI cB cZ oC (oG 0) Crow Cquiet aCreader aCbars aCspare aCsearch aCbreach (oT 0) (oP 0) aCtrial Crun) hw hA [15, 16, 17] rfl
  refine vx_callv (vx_runV (As := []) (rest := []) ⟨hx, hb, hml, hown, hts⟩ (c_X7_needRun l D cI cB cZ hst sa sb oC (oG 0) aCreader aCbars aCspare aCsearch aCbreach (oT 0) (oP 0) aCtrial s.heap.size Crow Cquiet Crun qCrow qCquiet (by omega)) (cwV 0 hts gX7_hole_X7_needRun rfl rfl rfl (by decide +kernel) ⟨Nat.le_of_ble_eq_true rfl, Nat.le_of_ble_eq_true rfl⟩) ⟨zPreE_blind, va_recv hK hw.1 (ci := 7) (q0 := 15) rfl rfl, z_preE hK hw [15, 16, 17] (by decide) rfl hZE hF9⟩ rfl rfl hl.1 rfl (lv_room (Nat.le_of_ble_eq_true rfl)) dX7_hole_1 ⟨Nat.le_of_ble_eq_true rfl, Nat.le_of_ble_eq_true rfl⟩) hw.2.2 (fun q _ h => hF9 q h) hF9 (fun q _ h => hF9 q h) (fun E9 ce9 q9 u9 t9 H9 locs9 ht9 hvm9 hp9 hB9 hz9 hk9 hS9 hce9 hcv9 hcl9 => ?_) (fun u9 t9 H_1 locs9 ht9 hvm9 hq9 hB9 hz9 hk9 hS9 => ?_)
  · obtain ⟨hx9, hB9⟩ := hB9
    have hw : HW D A s.heap (kG cI cB cZ oG Gn Gki Gle Glo Gta Gsh ++ kT cI cB cZ oT Tcells Tgap Twires Tstands ++ kP cI cB cZ oP (oG 0) (oT 0) Pline Psize Pnow Pheads Pbusy Pcame Pout ++ kC cI cB cZ oC (oG 0) Crow Cquiet aCreader aCbars aCspare aCsearch aCbreach (oT 0) (oP 0) aCtrial Crun) H9 locs9 := z_after (wc := kC cI cB cZ oC (oG 0) Crow Cquiet aCreader aCbars aCspare aCsearch aCbreach (oT 0) (oP 0) aCtrial Crun) hw [15, 16, 17] [0, 1, 2, 3, 4, 5, 6, 7, 8, 9, 10, 11, 12, 13, 14] rfl rfl (by decide) (by decide) hF9 hk9 ht9 hB9 hS9 [0, 1, 2, 3, 4, 5, 6, 7, 8, 9, 10, 11, 12, 13, 14, 15, 16, 17] (by decide) rfl
    exact vx_out (fun x hx => (hnt x hx).elim) hlocks hce9 hcv9 hcl9 (fun t ht hAl => ⟨(), trivial, ⟨by first | exact hx9 | exact Or.inl hx9 | exact Or.inr hx9, by subst hAe; exact z_alike hK hw ht hAl⟩, by subst hAe; exact hw.2.2.F ht⟩) (by subst hAe; exact hw.2.2.2.2) (Nat.le_of_ble_eq_true rfl) (Nat.le_of_ble_eq_true rfl)
  try dsimp only at hq9 hB9
  have hq_2 := hq9
  have hw : HW D A s.heap (kG cI cB cZ oG Gn Gki Gle Glo Gta Gsh ++ kT cI cB cZ oT Tcells Tgap Twires Tstands ++ kP cI cB cZ oP (oG 0) (oT 0) Pline Psize Pnow Pheads Pbusy Pcame Pout ++ kC cI cB cZ oC (oG 0) Crow Cquiet aCreader aCbars aCspare aCsearch aCbreach (oT 0) (oP 0) aCtrial Crun) H_1 locs9 := z_after (wc := kC cI cB cZ oC (oG 0) Crow Cquiet aCreader aCbars aCspare aCsearch aCbreach (oT 0) (oP 0) aCtrial Crun) hw [15, 16, 17] [0, 1, 2, 3, 4, 5, 6, 7, 8, 9, 10, 11, 12, 13, 14] rfl rfl (by decide) (by decide) hF9 hk9 ht9 hB9 hS9 [0, 1, 2, 3, 4, 5, 6, 7, 8, 9, 10, 11, 12, 13, 14, 15, 16, 17] (by decide) rfl
  clear hF9 ht9 hvm9 hB9 hz9 hk9 hS9 hq9
  refine lv_aload_n hx hb dX7_hole_4 rfl (lv_at hl 0 rfl) ?_
  refine va_get (D := D) (ci := 7) (v := .ref (oP 0)) (C := RX7) (T := TX7) (N := 12) hx hb hts hinX7 hown hK hw.1 15 rfl rfl 9 (by decide) (hts (.fieldLink RX7 68 "CarnivalRoad" "parade" "LCarnivalRoad$Parade;") (by decide +kernel)) (fun _ h9 => h9) rfl dX7_hole_5 ?_
  have hF9 := z_free (wc := kG cI cB cZ oG Gn Gki Gle Glo Gta Gsh ++ kT cI cB cZ oT Tcells Tgap Twires Tstands ++ kP cI cB cZ oP (oG 0) (oT 0) Pline Psize Pnow Pheads Pbusy Pcame Pout) hw hA [0, 1, 2, 3, 4, 5, 6, 7, 8, 9, 10, 11, 12, 13, 14] rfl
  refine va_calli (va_runV (As := []) (rest := []) ⟨hx, hb, hml, hown, hts⟩ (c_X3_widestHole l D cI cB cZ oG oT oP H_1.size Gn Gki Gle Glo Gta Gsh Tcells Tgap Twires Tstands Pline Psize Pnow Pheads Pbusy Pcame Pout (by omega) qGki qGle qGlo qGta qGsh (by omega) (by omega) qTwires qTstands qPline (by omega) (by omega) qPheads qPbusy qPcame qPout) (cwV 0 hts gX7_hole_X3_widestHole rfl rfl rfl (by decide +kernel) ⟨Nat.le_of_ble_eq_true rfl, Nat.le_of_ble_eq_true rfl⟩) ⟨zPre_blind, va_recv hK hw.1 (ci := 3) (q0 := 9) rfl rfl, z_pre hK hw [0, 1, 2, 3, 4, 5, 6, 7, 8, 9, 10, 11, 12, 13, 14] (by decide) rfl⟩ rfl rfl hl.1 rfl (lv_room (Nat.le_of_ble_eq_true rfl)) dX7_hole_8 ⟨Nat.le_of_ble_eq_true rfl, Nat.le_of_ble_eq_true rfl⟩) hw.2.2 (fun q _ h => hF9 q h) hF9 (fun r9 u9 t9 H_3 locs9 ht9 hvm9 hq9 hB9 hz9 hk9 hS9 => ?_)
  obtain ⟨r_4, rfl⟩ : ∃ z, z = u9 := ⟨_, rfl⟩
  try dsimp only at hq9 hB9
  obtain ⟨rfl, hq9⟩ := hq9
  obtain ⟨hq_5, hq_6⟩ := hq9
  have hw : HW D A s.heap (kG cI cB cZ oG Gn Gki Gle Glo Gta Gsh ++ kT cI cB cZ oT Tcells Tgap Twires Tstands ++ kP cI cB cZ oP (oG 0) (oT 0) Pline Psize Pnow Pheads Pbusy Pcame Pout ++ kC cI cB cZ oC (oG 0) Crow Cquiet aCreader aCbars aCspare aCsearch aCbreach (oT 0) (oP 0) aCtrial Crun) H_3 locs9 := z_after (wc := kG cI cB cZ oG Gn Gki Gle Glo Gta Gsh ++ kT cI cB cZ oT Tcells Tgap Twires Tstands ++ kP cI cB cZ oP (oG 0) (oT 0) Pline Psize Pnow Pheads Pbusy Pcame Pout) hw [0, 1, 2, 3, 4, 5, 6, 7, 8, 9, 10, 11, 12, 13, 14] [15, 16, 17] rfl rfl (by decide) (by decide) hF9 hk9 ht9 hB9 hS9 [3, 4, 5, 6, 7, 8, 9, 10, 11, 12, 13, 14, 15, 16, 17, 0, 1, 2] (by decide) rfl
  clear hF9 ht9 hvm9 hB9 hz9 hk9 hS9
  have hv_7 : Crun = 1 := by
    first | assumption | omega | grind
  have hv_8 : r_4 = (holeK Gle Pline Pheads Pout Psize.toNat).1 := by
    first | assumption | omega | grind
  refine vx_ret ?_
  exact W.iret (v := zI r_4) hx hb hr (fun t9 ht hW => ⟨⟨zI r_4, r_4, rfl, ⟨rfl, ⟨hv_7, hv_8⟩⟩, by subst hAe; exact z_end hK hw ht hW⟩, by subst hAe; exact hw.2.2.F ht⟩) (by subst hAe; exact hw.2.2.2.2) dX7_hole_11
set_option maxRecDepth 100000 in
set_option maxHeartbeats 4000000 in
theorem c_X7_rowLong (l : Launch) (D : va_G) (cI cB cZ : ClassId) (hst : l.stackTraces = false) (sa sb : Nat) (oG : Nat → Nat) (oT : Nat → Nat) (oP : Nat → Nat) (oC : Nat → Nat) (aCreader : Nat) (aCbars : Nat) (aCspare : Nat) (aCsearch : Nat) (aCbreach : Nat) (aCtrial : Nat) (sz : Nat) (Gn : Int) (Gki : Int → Int) (Gle : Int → Int) (Glo : Int → Int) (Gta : Int → Int) (Gsh : Int → Int) (Tcells : Int) (Tgap : Int) (Twires : Int → Int) (Tstands : Int → Int) (Pline : Int → Int) (Psize : Int) (Pnow : Int) (Pheads : Int → Int) (Pbusy : Int → Int) (Pcame : Int → Int) (Pout : Int → Int) (Crow : Int → Int) (Cquiet : Int → Int) (Crun : Int) (qGn : 0 ≤ Gn ∧ Gn ≤ 8) (qGki : RA Gki (0) 4) (qGle : RA Gle (0) 5) (qGlo : RA Glo (0) 9) (qGta : RA Gta (0) 9) (qGsh : RA Gsh (0) 9) (qTcells : 1 ≤ Tcells ∧ Tcells ≤ 50) (qTgap : 0 ≤ Tgap ∧ Tgap ≤ 3) (qTwires : RA Twires (0) 9) (qTstands : RA Tstands (0) 9) (qPline : RA Pline (0) 7) (qPsize : 0 ≤ Psize ∧ Psize ≤ 8) (qPnow : 0 ≤ Pnow ∧ Pnow ≤ 1000000) (qPheads : RA Pheads (-1) 60) (qPbusy : RA Pbusy (0) 30) (qPcame : RA Pcame (-1) 1000000) (qPout : RA Pout (-1) 1000000) (qCrow : RA Crow (0) 7) (qCquiet : RA Cquiet (0) 7) (qCrun : 0 ≤ Crun ∧ Crun ≤ 1) : vx_Met l yX7_rowLong wsX7_rowLong ({ frames := 7, cells := 1, slots := 6, locals := 110 }) (va_Pc [.ref (oC 0)] (zPreE sa sb D cI cB cZ sz (kG cI cB cZ oG Gn Gki Gle Glo Gta Gsh ++ kT cI cB cZ oT Tcells Tgap Twires Tstands ++ kP cI cB cZ oP (oG 0) (oT 0) Pline Psize Pnow Pheads Pbusy Pcame Pout ++ kC cI cB cZ oC (oG 0) Crow Cquiet aCreader aCbars aCspare aCsearch aCbreach (oT 0) (oP 0) aCtrial Crun))) (va_Qi (fun (r9 : Int32) (u9 : Int) => r9 = zI u9 ∧ ((Crun = 1) ∧ (u9 = rowLongF Gle Tcells Pheads (endsK Pline Pheads Pout Psize.toNat)))) (fun u9 t9 => zAt D cI cB cZ (va_A (kG cI cB cZ oG Gn Gki Gle Glo Gta Gsh ++ kT cI cB cZ oT Tcells Tgap Twires Tstands ++ kP cI cB cZ oP (oG 0) (oT 0) Pline Psize Pnow Pheads Pbusy Pcame Pout ++ kC cI cB cZ oC (oG 0) Crow Cquiet aCreader aCbars aCspare aCsearch aCbreach (oT 0) (oP 0) aCtrial Crun) sz) (kG cI cB cZ oG Gn Gki Gle Glo Gta Gsh ++ kT cI cB cZ oT Tcells Tgap Twires Tstands ++ kP cI cB cZ oP (oG 0) (oT 0) Pline Psize Pnow Pheads Pbusy Pcame Pout ++ kC cI cB cZ oC (oG 0) Crow Cquiet aCreader aCbars aCspare aCsearch aCbreach (oT 0) (oP 0) aCtrial Crun) t9) (va_A (kG cI cB cZ oG Gn Gki Gle Glo Gta Gsh ++ kT cI cB cZ oT Tcells Tgap Twires Tstands ++ kP cI cB cZ oP (oG 0) (oT 0) Pline Psize Pnow Pheads Pbusy Pcame Pout ++ kC cI cB cZ oC (oG 0) Crow Cquiet aCreader aCbars aCspare aCsearch aCbreach (oT 0) (oP 0) aCtrial Crun) sz)) (vx_X (fun _ : Unit => True) (fun E9 _ t9 => (Crun = 0 ∧ E9 = "java/util/NoSuchElementException") ∧ zAt D cI cB cZ (va_A (kG cI cB cZ oG Gn Gki Gle Glo Gta Gsh ++ kT cI cB cZ oT Tcells Tgap Twires Tstands ++ kP cI cB cZ oP (oG 0) (oT 0) Pline Psize Pnow Pheads Pbusy Pcame Pout ++ kC cI cB cZ oC (oG 0) Crow Cquiet aCreader aCbars aCspare aCsearch aCbreach (oT 0) (oP 0) aCtrial Crun) sz) (kG cI cB cZ oG Gn Gki Gle Glo Gta Gsh ++ kT cI cB cZ oT Tcells Tgap Twires Tstands ++ kP cI cB cZ oP (oG 0) (oT 0) Pline Psize Pnow Pheads Pbusy Pcame Pout ++ kC cI cB cZ oC (oG 0) Crow Cquiet aCreader aCbars aCspare aCsearch aCbreach (oT 0) (oP 0) aCtrial Crun) t9) (va_A (kG cI cB cZ oG Gn Gki Gle Glo Gta Gsh ++ kT cI cB cZ oT Tcells Tgap Twires Tstands ++ kP cI cB cZ oP (oG 0) (oT 0) Pline Psize Pnow Pheads Pbusy Pcame Pout ++ kC cI cB cZ oC (oG 0) Crow Cquiet aCreader aCbars aCspare aCsearch aCbreach (oT 0) (oP 0) aCtrial Crun) sz)) 1 6 (va_A (kG cI cB cZ oG Gn Gki Gle Glo Gta Gsh ++ kT cI cB cZ oT Tcells Tgap Twires Tstands ++ kP cI cB cZ oP (oG 0) (oT 0) Pline Psize Pnow Pheads Pbusy Pcame Pout ++ kC cI cB cZ oC (oG 0) Crow Cquiet aCreader aCbars aCspare aCsearch aCbreach (oT 0) (oP 0) aCtrial Crun) sz) := by
  refine vx_ofW (cc := cX7_rowLong) (maxL := 1) (ret := (some .int)) (by decide) rfl ?_
  intro pp ee s mm aa bw mt cd s₁ BL hml hnt hv
  obtain ⟨rfl, ⟨hsz, hP, hK, hD0⟩, hZE⟩ := hv
  have hx := BL.exec
  have hb := BL.bytes
  have hr := BL.returns
  have hts := atoms_spec (ws := wsX7_rowLong) BL.pre
  have hown : s.vm.findClass RX7 = some mm.cls := findClass_of_methodNamed BL.named
  have hlocks := BL.notSynchronized
  subst hsz
  generalize hAe : va_A (kG cI cB cZ oG Gn Gki Gle Glo Gta Gsh ++ kT cI cB cZ oT Tcells Tgap Twires Tstands ++ kP cI cB cZ oP (oG 0) (oT 0) Pline Psize Pnow Pheads Pbusy Pcame Pout ++ kC cI cB cZ oC (oG 0) Crow Cquiet aCreader aCbars aCspare aCsearch aCbreach (oT 0) (oP 0) aCtrial Crun) s.heap.size = A at hZE ⊢
  have hA : ∀ q : Nat, s.heap.size ≤ q → A q := fun q h => by rw [← hAe]; exact Or.inr h
  have hw : HW D A s.heap (kG cI cB cZ oG Gn Gki Gle Glo Gta Gsh ++ kT cI cB cZ oT Tcells Tgap Twires Tstands ++ kP cI cB cZ oP (oG 0) (oT 0) Pline Psize Pnow Pheads Pbusy Pcame Pout ++ kC cI cB cZ oC (oG 0) Crow Cquiet aCreader aCbars aCspare aCsearch aCbreach (oT 0) (oP 0) aCtrial Crun) s.heap [] := z_start hAe hP hD0
  clear hP hD0
  have hl := lv_entry ([.ref (oC 0)]) (n := 1) (Nat.le_of_ble_eq_true rfl)
  rw [lg_entry_eq]
  generalize (lg_sl ([.ref (oC 0)]) ++ List.replicate (1 - (lg_sl ([.ref (oC 0)])).length) Slot.unset).toArray = ls at hl ⊢
  have hl : lv_has ls 1 [(0, .ref (oC 0))] := hl
  have hinX7 : ∀ w ∈ wsX70, w ∈ wsX7_rowLong := by decide +kernel
  refine lv_aload_n hx hb dX7_rowLong_0 rfl (lv_at hl 0 rfl) ?_
  have hF9 := z_free (wc := kC cI cB cZ oC (oG 0) Crow Cquiet aCreader aCbars aCspare aCsearch aCbreach (oT 0) (oP 0) aCtrial Crun) hw hA [15, 16, 17] rfl
  refine vx_callv (vx_runV (As := []) (rest := []) ⟨hx, hb, hml, hown, hts⟩ (c_X7_needRun l D cI cB cZ hst sa sb oC (oG 0) aCreader aCbars aCspare aCsearch aCbreach (oT 0) (oP 0) aCtrial s.heap.size Crow Cquiet Crun qCrow qCquiet (by omega)) (cwV 0 hts gX7_rowLong_X7_needRun rfl rfl rfl (by decide +kernel) ⟨Nat.le_of_ble_eq_true rfl, Nat.le_of_ble_eq_true rfl⟩) ⟨zPreE_blind, va_recv hK hw.1 (ci := 7) (q0 := 15) rfl rfl, z_preE hK hw [15, 16, 17] (by decide) rfl hZE hF9⟩ rfl rfl hl.1 rfl (lv_room (Nat.le_of_ble_eq_true rfl)) dX7_rowLong_1 ⟨Nat.le_of_ble_eq_true rfl, Nat.le_of_ble_eq_true rfl⟩) hw.2.2 (fun q _ h => hF9 q h) hF9 (fun q _ h => hF9 q h) (fun E9 ce9 q9 u9 t9 H9 locs9 ht9 hvm9 hp9 hB9 hz9 hk9 hS9 hce9 hcv9 hcl9 => ?_) (fun u9 t9 H_1 locs9 ht9 hvm9 hq9 hB9 hz9 hk9 hS9 => ?_)
  · obtain ⟨hx9, hB9⟩ := hB9
    have hw : HW D A s.heap (kG cI cB cZ oG Gn Gki Gle Glo Gta Gsh ++ kT cI cB cZ oT Tcells Tgap Twires Tstands ++ kP cI cB cZ oP (oG 0) (oT 0) Pline Psize Pnow Pheads Pbusy Pcame Pout ++ kC cI cB cZ oC (oG 0) Crow Cquiet aCreader aCbars aCspare aCsearch aCbreach (oT 0) (oP 0) aCtrial Crun) H9 locs9 := z_after (wc := kC cI cB cZ oC (oG 0) Crow Cquiet aCreader aCbars aCspare aCsearch aCbreach (oT 0) (oP 0) aCtrial Crun) hw [15, 16, 17] [0, 1, 2, 3, 4, 5, 6, 7, 8, 9, 10, 11, 12, 13, 14] rfl rfl (by decide) (by decide) hF9 hk9 ht9 hB9 hS9 [0, 1, 2, 3, 4, 5, 6, 7, 8, 9, 10, 11, 12, 13, 14, 15, 16, 17] (by decide) rfl
    exact vx_out (fun x hx => (hnt x hx).elim) hlocks hce9 hcv9 hcl9 (fun t ht hAl => ⟨(), trivial, ⟨by first | exact hx9 | exact Or.inl hx9 | exact Or.inr hx9, by subst hAe; exact z_alike hK hw ht hAl⟩, by subst hAe; exact hw.2.2.F ht⟩) (by subst hAe; exact hw.2.2.2.2) (Nat.le_of_ble_eq_true rfl) (Nat.le_of_ble_eq_true rfl)
  try dsimp only at hq9 hB9
  have hq_2 := hq9
  have hw : HW D A s.heap (kG cI cB cZ oG Gn Gki Gle Glo Gta Gsh ++ kT cI cB cZ oT Tcells Tgap Twires Tstands ++ kP cI cB cZ oP (oG 0) (oT 0) Pline Psize Pnow Pheads Pbusy Pcame Pout ++ kC cI cB cZ oC (oG 0) Crow Cquiet aCreader aCbars aCspare aCsearch aCbreach (oT 0) (oP 0) aCtrial Crun) H_1 locs9 := z_after (wc := kC cI cB cZ oC (oG 0) Crow Cquiet aCreader aCbars aCspare aCsearch aCbreach (oT 0) (oP 0) aCtrial Crun) hw [15, 16, 17] [0, 1, 2, 3, 4, 5, 6, 7, 8, 9, 10, 11, 12, 13, 14] rfl rfl (by decide) (by decide) hF9 hk9 ht9 hB9 hS9 [0, 1, 2, 3, 4, 5, 6, 7, 8, 9, 10, 11, 12, 13, 14, 15, 16, 17] (by decide) rfl
  clear hF9 ht9 hvm9 hB9 hz9 hk9 hS9 hq9
  refine lv_aload_n hx hb dX7_rowLong_4 rfl (lv_at hl 0 rfl) ?_
  refine va_get (D := D) (ci := 7) (v := .ref (oP 0)) (C := RX7) (T := TX7) (N := 12) hx hb hts hinX7 hown hK hw.1 15 rfl rfl 9 (by decide) (hts (.fieldLink RX7 68 "CarnivalRoad" "parade" "LCarnivalRoad$Parade;") (by decide +kernel)) (fun _ h9 => h9) rfl dX7_rowLong_5 ?_
  have hF9 := z_free (wc := kG cI cB cZ oG Gn Gki Gle Glo Gta Gsh ++ kT cI cB cZ oT Tcells Tgap Twires Tstands ++ kP cI cB cZ oP (oG 0) (oT 0) Pline Psize Pnow Pheads Pbusy Pcame Pout) hw hA [0, 1, 2, 3, 4, 5, 6, 7, 8, 9, 10, 11, 12, 13, 14] rfl
  refine va_calli (va_runV (As := []) (rest := []) ⟨hx, hb, hml, hown, hts⟩ (c_X3_cellsTaken l D cI cB cZ oG oT oP H_1.size Gn Gki Gle Glo Gta Gsh Tcells Tgap Twires Tstands Pline Psize Pnow Pheads Pbusy Pcame Pout (by omega) qGki qGle qGlo qGta qGsh (by omega) (by omega) qTwires qTstands qPline (by omega) (by omega) qPheads qPbusy qPcame qPout) (cwV 0 hts gX7_rowLong_X3_cellsTaken rfl rfl rfl (by decide +kernel) ⟨Nat.le_of_ble_eq_true rfl, Nat.le_of_ble_eq_true rfl⟩) ⟨zPre_blind, va_recv hK hw.1 (ci := 3) (q0 := 9) rfl rfl, z_pre hK hw [0, 1, 2, 3, 4, 5, 6, 7, 8, 9, 10, 11, 12, 13, 14] (by decide) rfl⟩ rfl rfl hl.1 rfl (lv_room (Nat.le_of_ble_eq_true rfl)) dX7_rowLong_8 ⟨Nat.le_of_ble_eq_true rfl, Nat.le_of_ble_eq_true rfl⟩) hw.2.2 (fun q _ h => hF9 q h) hF9 (fun r9 u9 t9 H_3 locs9 ht9 hvm9 hq9 hB9 hz9 hk9 hS9 => ?_)
  obtain ⟨r_4, rfl⟩ : ∃ z, z = u9 := ⟨_, rfl⟩
  try dsimp only at hq9 hB9
  obtain ⟨rfl, hq9⟩ := hq9
  have hq_5 := hq9
  have hw : HW D A s.heap (kG cI cB cZ oG Gn Gki Gle Glo Gta Gsh ++ kT cI cB cZ oT Tcells Tgap Twires Tstands ++ kP cI cB cZ oP (oG 0) (oT 0) Pline Psize Pnow Pheads Pbusy Pcame Pout ++ kC cI cB cZ oC (oG 0) Crow Cquiet aCreader aCbars aCspare aCsearch aCbreach (oT 0) (oP 0) aCtrial Crun) H_3 locs9 := z_after (wc := kG cI cB cZ oG Gn Gki Gle Glo Gta Gsh ++ kT cI cB cZ oT Tcells Tgap Twires Tstands ++ kP cI cB cZ oP (oG 0) (oT 0) Pline Psize Pnow Pheads Pbusy Pcame Pout) hw [0, 1, 2, 3, 4, 5, 6, 7, 8, 9, 10, 11, 12, 13, 14] [15, 16, 17] rfl rfl (by decide) (by decide) hF9 hk9 ht9 hB9 hS9 [3, 4, 5, 6, 7, 8, 9, 10, 11, 12, 13, 14, 15, 16, 17, 0, 1, 2] (by decide) rfl
  clear hF9 ht9 hvm9 hB9 hz9 hk9 hS9 hq9
  have hv_6 : Crun = 1 := by
    first | assumption | omega | grind
  have hv_7 : r_4 = rowLongF Gle Tcells Pheads (endsK Pline Pheads Pout Psize.toNat) := by
    first | assumption | omega | grind
  refine vx_ret ?_
  exact W.iret (v := zI r_4) hx hb hr (fun t9 ht hW => ⟨⟨zI r_4, r_4, rfl, ⟨rfl, ⟨hv_6, hv_7⟩⟩, by subst hAe; exact z_end hK hw ht hW⟩, by subst hAe; exact hw.2.2.F ht⟩) (by subst hAe; exact hw.2.2.2.2) dX7_rowLong_11
set_option maxRecDepth 100000 in
set_option maxHeartbeats 4000000 in
theorem c_X7_ill (l : Launch) (D : va_G) (cI cB cZ : ClassId) (hst : l.stackTraces = false) (sa sb : Nat) (oG : Nat → Nat) (oT : Nat → Nat) (oP : Nat → Nat) (oC : Nat → Nat) (aCreader : Nat) (aCbars : Nat) (aCspare : Nat) (aCsearch : Nat) (aCbreach : Nat) (aCtrial : Nat) (sz : Nat) (Gn : Int) (Gki : Int → Int) (Gle : Int → Int) (Glo : Int → Int) (Gta : Int → Int) (Gsh : Int → Int) (Tcells : Int) (Tgap : Int) (Twires : Int → Int) (Tstands : Int → Int) (Pline : Int → Int) (Psize : Int) (Pnow : Int) (Pheads : Int → Int) (Pbusy : Int → Int) (Pcame : Int → Int) (Pout : Int → Int) (Crow : Int → Int) (Cquiet : Int → Int) (Crun : Int) (g : Int) (qGn : 0 ≤ Gn ∧ Gn ≤ 8) (qGki : RA Gki (0) 4) (qGle : RA Gle (0) 5) (qGlo : RA Glo (0) 9) (qGta : RA Gta (0) 9) (qGsh : RA Gsh (0) 9) (qTcells : 1 ≤ Tcells ∧ Tcells ≤ 50) (qTgap : 0 ≤ Tgap ∧ Tgap ≤ 3) (qTwires : RA Twires (0) 9) (qTstands : RA Tstands (0) 9) (qPline : RA Pline (0) 7) (qPsize : 0 ≤ Psize ∧ Psize ≤ 8) (qPnow : 0 ≤ Pnow ∧ Pnow ≤ 1000000) (qPheads : RA Pheads (-1) 60) (qPbusy : RA Pbusy (0) 30) (qPcame : RA Pcame (-1) 1000000) (qPout : RA Pout (-1) 1000000) (qCrow : RA Crow (0) 7) (qCquiet : RA Cquiet (0) 7) (qCrun : 0 ≤ Crun ∧ Crun ≤ 1) (qg : -2147483648 ≤ g ∧ g ≤ 2147483647) (hp0 : Pnow ≤ 999999) : vx_Met l yX7_ill wsX7_ill ({ frames := 7, cells := 2, slots := 12, locals := 111 }) (va_Pc [.ref (oC 0), .int (zI g)] (zPreE sa sb D cI cB cZ sz (kG cI cB cZ oG Gn Gki Gle Glo Gta Gsh ++ kT cI cB cZ oT Tcells Tgap Twires Tstands ++ kP cI cB cZ oP (oG 0) (oT 0) Pline Psize Pnow Pheads Pbusy Pcame Pout ++ kC cI cB cZ oC (oG 0) Crow Cquiet aCreader aCbars aCspare aCsearch aCbreach (oT 0) (oP 0) aCtrial Crun))) (va_Qi (fun (r9 : Int32) (u9 : Int × (Int → Int)) => r9 = zI u9.1 ∧ ((RA u9.2 (-1) 1000000) ∧ ((0 ≤ g ∧ g < Gn) ∧ Crun = 1) ∧ ((¬ Pout g = -1 ∧ u9.1 = 0 ∧ u9.2 = Pout) ∨ (Pout g = -1 ∧ u9.1 = 1 ∧ u9.2 = uZ Pout g Pnow)))) (fun u9 t9 => zAt D cI cB cZ (va_A (kG cI cB cZ oG Gn Gki Gle Glo Gta Gsh ++ kT cI cB cZ oT Tcells Tgap Twires Tstands ++ kP cI cB cZ oP (oG 0) (oT 0) Pline Psize Pnow Pheads Pbusy Pcame Pout ++ kC cI cB cZ oC (oG 0) Crow Cquiet aCreader aCbars aCspare aCsearch aCbreach (oT 0) (oP 0) aCtrial Crun) sz) (kG cI cB cZ oG Gn Gki Gle Glo Gta Gsh ++ kT cI cB cZ oT Tcells Tgap Twires Tstands ++ kP cI cB cZ oP (oG 0) (oT 0) Pline Psize Pnow Pheads Pbusy Pcame (u9.2) ++ kC cI cB cZ oC (oG 0) Crow Cquiet aCreader aCbars aCspare aCsearch aCbreach (oT 0) (oP 0) aCtrial Crun) t9) (va_A (kG cI cB cZ oG Gn Gki Gle Glo Gta Gsh ++ kT cI cB cZ oT Tcells Tgap Twires Tstands ++ kP cI cB cZ oP (oG 0) (oT 0) Pline Psize Pnow Pheads Pbusy Pcame Pout ++ kC cI cB cZ oC (oG 0) Crow Cquiet aCreader aCbars aCspare aCsearch aCbreach (oT 0) (oP 0) aCtrial Crun) sz)) (vx_X (fun _ : Unit => True) (fun E9 _ t9 => ((¬ (0 ≤ g ∧ g < Gn) ∧ E9 = "java/lang/IndexOutOfBoundsException") ∨ ((0 ≤ g ∧ g < Gn) ∧ Crun = 0 ∧ E9 = "java/util/NoSuchElementException")) ∧ zAt D cI cB cZ (va_A (kG cI cB cZ oG Gn Gki Gle Glo Gta Gsh ++ kT cI cB cZ oT Tcells Tgap Twires Tstands ++ kP cI cB cZ oP (oG 0) (oT 0) Pline Psize Pnow Pheads Pbusy Pcame Pout ++ kC cI cB cZ oC (oG 0) Crow Cquiet aCreader aCbars aCspare aCsearch aCbreach (oT 0) (oP 0) aCtrial Crun) sz) (kG cI cB cZ oG Gn Gki Gle Glo Gta Gsh ++ kT cI cB cZ oT Tcells Tgap Twires Tstands ++ kP cI cB cZ oP (oG 0) (oT 0) Pline Psize Pnow Pheads Pbusy Pcame Pout ++ kC cI cB cZ oC (oG 0) Crow Cquiet aCreader aCbars aCspare aCsearch aCbreach (oT 0) (oP 0) aCtrial Crun) t9) (va_A (kG cI cB cZ oG Gn Gki Gle Glo Gta Gsh ++ kT cI cB cZ oT Tcells Tgap Twires Tstands ++ kP cI cB cZ oP (oG 0) (oT 0) Pline Psize Pnow Pheads Pbusy Pcame Pout ++ kC cI cB cZ oC (oG 0) Crow Cquiet aCreader aCbars aCspare aCsearch aCbreach (oT 0) (oP 0) aCtrial Crun) sz)) 2 12 (va_A (kG cI cB cZ oG Gn Gki Gle Glo Gta Gsh ++ kT cI cB cZ oT Tcells Tgap Twires Tstands ++ kP cI cB cZ oP (oG 0) (oT 0) Pline Psize Pnow Pheads Pbusy Pcame Pout ++ kC cI cB cZ oC (oG 0) Crow Cquiet aCreader aCbars aCspare aCsearch aCbreach (oT 0) (oP 0) aCtrial Crun) sz) := by
  refine vx_ofW (cc := cX7_ill) (maxL := 2) (ret := (some .boolean)) (by decide) rfl ?_
  intro pp ee s mm aa bw mt cd s₁ BL hml hnt hv
  obtain ⟨rfl, ⟨hsz, hP, hK, hD0⟩, hZE⟩ := hv
  have hx := BL.exec
  have hb := BL.bytes
  have hr := BL.returns
  have hts := atoms_spec (ws := wsX7_ill) BL.pre
  have hown : s.vm.findClass RX7 = some mm.cls := findClass_of_methodNamed BL.named
  have hlocks := BL.notSynchronized
  subst hsz
  generalize hAe : va_A (kG cI cB cZ oG Gn Gki Gle Glo Gta Gsh ++ kT cI cB cZ oT Tcells Tgap Twires Tstands ++ kP cI cB cZ oP (oG 0) (oT 0) Pline Psize Pnow Pheads Pbusy Pcame Pout ++ kC cI cB cZ oC (oG 0) Crow Cquiet aCreader aCbars aCspare aCsearch aCbreach (oT 0) (oP 0) aCtrial Crun) s.heap.size = A at hZE ⊢
  have hA : ∀ q : Nat, s.heap.size ≤ q → A q := fun q h => by rw [← hAe]; exact Or.inr h
  have hw : HW D A s.heap (kG cI cB cZ oG Gn Gki Gle Glo Gta Gsh ++ kT cI cB cZ oT Tcells Tgap Twires Tstands ++ kP cI cB cZ oP (oG 0) (oT 0) Pline Psize Pnow Pheads Pbusy Pcame Pout ++ kC cI cB cZ oC (oG 0) Crow Cquiet aCreader aCbars aCspare aCsearch aCbreach (oT 0) (oP 0) aCtrial Crun) s.heap [] := z_start hAe hP hD0
  clear hP hD0
  have hl := lv_entry ([.ref (oC 0), .int (zI g)]) (n := 2) (Nat.le_of_ble_eq_true rfl)
  rw [lg_entry_eq]
  generalize (lg_sl ([.ref (oC 0), .int (zI g)]) ++ List.replicate (2 - (lg_sl ([.ref (oC 0), .int (zI g)])).length) Slot.unset).toArray = ls at hl ⊢
  have hl : lv_has ls 2 [(0, .ref (oC 0)), (1, .int (zI g))] := hl
  have hinX3 : ∀ w ∈ wsX30, w ∈ wsX7_ill := by decide +kernel
  have hinX7 : ∀ w ∈ wsX70, w ∈ wsX7_ill := by decide +kernel
  refine lv_aload_n hx hb dX7_ill_0 rfl (lv_at hl 0 rfl) ?_
  refine lv_iload_n hx hb dX7_ill_1 rfl (lv_at hl 1 rfl) ?_
  have hF9 := z_free (wc := kG cI cB cZ oG Gn Gki Gle Glo Gta Gsh ++ kC cI cB cZ oC (oG 0) Crow Cquiet aCreader aCbars aCspare aCsearch aCbreach (oT 0) (oP 0) aCtrial Crun) hw hA [0, 1, 2, 3, 4, 5, 15, 16, 17] rfl
  refine vx_callv (vx_runV (As := [.int (zI g)]) (rest := []) ⟨hx, hb, hml, hown, hts⟩ (c_X7_needGuest l D cI cB cZ hst sa sb oG oC aCreader aCbars aCspare aCsearch aCbreach (oT 0) (oP 0) aCtrial s.heap.size Gn Gki Gle Glo Gta Gsh Crow Cquiet Crun g (by omega) qGki qGle qGlo qGta qGsh qCrow qCquiet (by omega) (by omega)) (cwV 1 hts gX7_ill_X7_needGuest rfl rfl rfl (by decide +kernel) ⟨Nat.le_of_ble_eq_true rfl, Nat.le_of_ble_eq_true rfl⟩) ⟨zPreE_blind, va_recv hK hw.1 (ci := 7) (q0 := 15) rfl rfl, z_preE hK hw [0, 1, 2, 3, 4, 5, 15, 16, 17] (by decide) rfl hZE hF9⟩ rfl rfl hl.1 rfl (lv_room (Nat.le_of_ble_eq_true rfl)) dX7_ill_2 ⟨Nat.le_of_ble_eq_true rfl, Nat.le_of_ble_eq_true rfl⟩) hw.2.2 (fun q _ h => hF9 q h) hF9 (fun q _ h => hF9 q h) (fun E9 ce9 q9 u9 t9 H9 locs9 ht9 hvm9 hp9 hB9 hz9 hk9 hS9 hce9 hcv9 hcl9 => ?_) (fun u9 t9 H_1 locs9 ht9 hvm9 hq9 hB9 hz9 hk9 hS9 => ?_)
  · obtain ⟨hx9, hB9⟩ := hB9
    have hw : HW D A s.heap (kG cI cB cZ oG Gn Gki Gle Glo Gta Gsh ++ kT cI cB cZ oT Tcells Tgap Twires Tstands ++ kP cI cB cZ oP (oG 0) (oT 0) Pline Psize Pnow Pheads Pbusy Pcame Pout ++ kC cI cB cZ oC (oG 0) Crow Cquiet aCreader aCbars aCspare aCsearch aCbreach (oT 0) (oP 0) aCtrial Crun) H9 locs9 := z_after (wc := kG cI cB cZ oG Gn Gki Gle Glo Gta Gsh ++ kC cI cB cZ oC (oG 0) Crow Cquiet aCreader aCbars aCspare aCsearch aCbreach (oT 0) (oP 0) aCtrial Crun) hw [0, 1, 2, 3, 4, 5, 15, 16, 17] [6, 7, 8, 9, 10, 11, 12, 13, 14] rfl rfl (by decide) (by decide) hF9 hk9 ht9 hB9 hS9 [9, 10, 11, 12, 13, 14, 0, 1, 2, 3, 4, 5, 6, 7, 8, 15, 16, 17] (by decide) rfl
    exact vx_out (fun x hx => (hnt x hx).elim) hlocks hce9 hcv9 hcl9 (fun t ht hAl => ⟨(), trivial, ⟨by exact Or.inl hx9, by subst hAe; exact z_alike hK hw ht hAl⟩, by subst hAe; exact hw.2.2.F ht⟩) (by subst hAe; exact hw.2.2.2.2) (Nat.le_of_ble_eq_true rfl) (Nat.le_of_ble_eq_true rfl)
  try dsimp only at hq9 hB9
  have hq_2 := hq9
  have hw : HW D A s.heap (kG cI cB cZ oG Gn Gki Gle Glo Gta Gsh ++ kT cI cB cZ oT Tcells Tgap Twires Tstands ++ kP cI cB cZ oP (oG 0) (oT 0) Pline Psize Pnow Pheads Pbusy Pcame Pout ++ kC cI cB cZ oC (oG 0) Crow Cquiet aCreader aCbars aCspare aCsearch aCbreach (oT 0) (oP 0) aCtrial Crun) H_1 locs9 := z_after (wc := kG cI cB cZ oG Gn Gki Gle Glo Gta Gsh ++ kC cI cB cZ oC (oG 0) Crow Cquiet aCreader aCbars aCspare aCsearch aCbreach (oT 0) (oP 0) aCtrial Crun) hw [0, 1, 2, 3, 4, 5, 15, 16, 17] [6, 7, 8, 9, 10, 11, 12, 13, 14] rfl rfl (by decide) (by decide) hF9 hk9 ht9 hB9 hS9 [9, 10, 11, 12, 13, 14, 0, 1, 2, 3, 4, 5, 6, 7, 8, 15, 16, 17] (by decide) rfl
  clear hF9 ht9 hvm9 hB9 hz9 hk9 hS9 hq9
  refine lv_aload_n hx hb dX7_ill_5 rfl (lv_at hl 0 rfl) ?_
  have hF9 := z_free (wc := kC cI cB cZ oC (oG 0) Crow Cquiet aCreader aCbars aCspare aCsearch aCbreach (oT 0) (oP 0) aCtrial Crun) hw hA [15, 16, 17] rfl
  refine vx_callv (vx_runV (As := []) (rest := []) ⟨hx, hb, hml, hown, hts⟩ (c_X7_needRun l D cI cB cZ hst sa sb oC (oG 0) aCreader aCbars aCspare aCsearch aCbreach (oT 0) (oP 0) aCtrial H_1.size Crow Cquiet Crun qCrow qCquiet (by omega)) (cwV 0 hts gX7_ill_X7_needRun rfl rfl rfl (by decide +kernel) ⟨Nat.le_of_ble_eq_true rfl, Nat.le_of_ble_eq_true rfl⟩) ⟨zPreE_blind, va_recv hK hw.1 (ci := 7) (q0 := 15) rfl rfl, z_preE hK hw [15, 16, 17] (by decide) rfl hZE hF9⟩ rfl rfl hl.1 rfl (lv_room (Nat.le_of_ble_eq_true rfl)) dX7_ill_6 ⟨Nat.le_of_ble_eq_true rfl, Nat.le_of_ble_eq_true rfl⟩) hw.2.2 (fun q _ h => hF9 q h) hF9 (fun q _ h => hF9 q h) (fun E9 ce9 q9 u9 t9 H9 locs9 ht9 hvm9 hp9 hB9 hz9 hk9 hS9 hce9 hcv9 hcl9 => ?_) (fun u9 t9 H_3 locs9 ht9 hvm9 hq9 hB9 hz9 hk9 hS9 => ?_)
  · obtain ⟨hx9, hB9⟩ := hB9
    have hw : HW D A s.heap (kG cI cB cZ oG Gn Gki Gle Glo Gta Gsh ++ kT cI cB cZ oT Tcells Tgap Twires Tstands ++ kP cI cB cZ oP (oG 0) (oT 0) Pline Psize Pnow Pheads Pbusy Pcame Pout ++ kC cI cB cZ oC (oG 0) Crow Cquiet aCreader aCbars aCspare aCsearch aCbreach (oT 0) (oP 0) aCtrial Crun) H9 locs9 := z_after (wc := kC cI cB cZ oC (oG 0) Crow Cquiet aCreader aCbars aCspare aCsearch aCbreach (oT 0) (oP 0) aCtrial Crun) hw [15, 16, 17] [0, 1, 2, 3, 4, 5, 6, 7, 8, 9, 10, 11, 12, 13, 14] rfl rfl (by decide) (by decide) hF9 hk9 ht9 hB9 hS9 [0, 1, 2, 3, 4, 5, 6, 7, 8, 9, 10, 11, 12, 13, 14, 15, 16, 17] (by decide) rfl
    exact vx_out (fun x hx => (hnt x hx).elim) hlocks hce9 hcv9 hcl9 (fun t ht hAl => ⟨(), trivial, ⟨by exact Or.inr ⟨by omega, hx9⟩, by subst hAe; exact z_alike hK hw ht hAl⟩, by subst hAe; exact hw.2.2.F ht⟩) (by subst hAe; exact hw.2.2.2.2) (Nat.le_of_ble_eq_true rfl) (Nat.le_of_ble_eq_true rfl)
  try dsimp only at hq9 hB9
  have hq_4 := hq9
  have hw : HW D A s.heap (kG cI cB cZ oG Gn Gki Gle Glo Gta Gsh ++ kT cI cB cZ oT Tcells Tgap Twires Tstands ++ kP cI cB cZ oP (oG 0) (oT 0) Pline Psize Pnow Pheads Pbusy Pcame Pout ++ kC cI cB cZ oC (oG 0) Crow Cquiet aCreader aCbars aCspare aCsearch aCbreach (oT 0) (oP 0) aCtrial Crun) H_3 locs9 := z_after (wc := kC cI cB cZ oC (oG 0) Crow Cquiet aCreader aCbars aCspare aCsearch aCbreach (oT 0) (oP 0) aCtrial Crun) hw [15, 16, 17] [0, 1, 2, 3, 4, 5, 6, 7, 8, 9, 10, 11, 12, 13, 14] rfl rfl (by decide) (by decide) hF9 hk9 ht9 hB9 hS9 [0, 1, 2, 3, 4, 5, 6, 7, 8, 9, 10, 11, 12, 13, 14, 15, 16, 17] (by decide) rfl
  clear hF9 ht9 hvm9 hB9 hz9 hk9 hS9 hq9
  refine lv_aload_n hx hb dX7_ill_9 rfl (lv_at hl 0 rfl) ?_
  refine va_get (D := D) (ci := 7) (v := .ref (oP 0)) (C := RX7) (T := TX7) (N := 12) hx hb hts hinX7 hown hK hw.1 15 rfl rfl 9 (by decide) (hts (.fieldLink RX7 68 "CarnivalRoad" "parade" "LCarnivalRoad$Parade;") (by decide +kernel)) (fun _ h9 => h9) rfl dX7_ill_10 ?_
  refine lv_iload_n hx hb dX7_ill_13 rfl (lv_at hl 1 rfl) ?_
  have hF9 := z_free (wc := kG cI cB cZ oG Gn Gki Gle Glo Gta Gsh ++ kT cI cB cZ oT Tcells Tgap Twires Tstands ++ kP cI cB cZ oP (oG 0) (oT 0) Pline Psize Pnow Pheads Pbusy Pcame Pout) hw hA [0, 1, 2, 3, 4, 5, 6, 7, 8, 9, 10, 11, 12, 13, 14] rfl
  refine va_calli (va_runV (As := [.int (zI g)]) (rest := []) ⟨hx, hb, hml, hown, hts⟩ (c_X3_isOut l D cI cB cZ oG oT oP H_3.size Gn Gki Gle Glo Gta Gsh Tcells Tgap Twires Tstands Pline Psize Pnow Pheads Pbusy Pcame Pout g (by omega) qGki qGle qGlo qGta qGsh (by omega) (by omega) qTwires qTstands qPline (by omega) (by omega) qPheads qPbusy qPcame qPout (by omega)) (cwV 1 hts gX7_ill_X3_isOut rfl rfl rfl (by decide +kernel) ⟨Nat.le_of_ble_eq_true rfl, Nat.le_of_ble_eq_true rfl⟩) ⟨zPre_blind, va_recv hK hw.1 (ci := 3) (q0 := 9) rfl rfl, z_pre hK hw [0, 1, 2, 3, 4, 5, 6, 7, 8, 9, 10, 11, 12, 13, 14] (by decide) rfl⟩ rfl rfl hl.1 rfl (lv_room (Nat.le_of_ble_eq_true rfl)) dX7_ill_14 ⟨Nat.le_of_ble_eq_true rfl, Nat.le_of_ble_eq_true rfl⟩) hw.2.2 (fun q _ h => hF9 q h) hF9 (fun r9 u9 t9 H_5 locs9 ht9 hvm9 hq9 hB9 hz9 hk9 hS9 => ?_)
  obtain ⟨r_6, rfl⟩ : ∃ z, z = u9 := ⟨_, rfl⟩
  try dsimp only at hq9 hB9
  obtain ⟨rfl, hq9⟩ := hq9
  have hq_7 := hq9
  have hw : HW D A s.heap (kG cI cB cZ oG Gn Gki Gle Glo Gta Gsh ++ kT cI cB cZ oT Tcells Tgap Twires Tstands ++ kP cI cB cZ oP (oG 0) (oT 0) Pline Psize Pnow Pheads Pbusy Pcame Pout ++ kC cI cB cZ oC (oG 0) Crow Cquiet aCreader aCbars aCspare aCsearch aCbreach (oT 0) (oP 0) aCtrial Crun) H_5 locs9 := z_after (wc := kG cI cB cZ oG Gn Gki Gle Glo Gta Gsh ++ kT cI cB cZ oT Tcells Tgap Twires Tstands ++ kP cI cB cZ oP (oG 0) (oT 0) Pline Psize Pnow Pheads Pbusy Pcame Pout) hw [0, 1, 2, 3, 4, 5, 6, 7, 8, 9, 10, 11, 12, 13, 14] [15, 16, 17] rfl rfl (by decide) (by decide) hF9 hk9 ht9 hB9 hS9 [3, 4, 5, 6, 7, 8, 9, 10, 11, 12, 13, 14, 15, 16, 17, 0, 1, 2] (by decide) rfl
  clear hF9 ht9 hvm9 hB9 hz9 hk9 hS9 hq9
  rcases hq_7 with ⟨hc_8, rfl⟩ | ⟨hc_8, rfl⟩
  · skip
    refine z_if_eq (tgt := 22) hx hb dX7_ill_17 (by decide) (by omega) (fun hc_9 => absurd hc_9 (by omega)) (fun hc_9 => ?_)
    refine z_iconst hx hb dX7_ill_20 ?_
    have hv_10 : (0 ≤ g ∧ g < Gn) ∧ Crun = 1 := by
      first | assumption | omega | grind
    have hv_11 : (¬ Pout g = -1 ∧ (0 : Int) = 0 ∧ Pout = Pout) ∨ (Pout g = -1 ∧ (0 : Int) = 1 ∧ Pout = uZ Pout g Pnow) := by
      first | assumption | omega | grind
    refine vx_ret ?_
    exact W.zret (v := zI 0) hx hb hr rfl (fun t9 ht hW => ⟨⟨zI 0, (0, Pout), rfl, ⟨rfl, ⟨qPout, hv_10, hv_11⟩⟩, by subst hAe; exact z_end hK hw ht hW⟩, by subst hAe; exact hw.2.2.F ht⟩) (by subst hAe; exact hw.2.2.2.2) dX7_ill_21
  · skip
    refine z_if_eq (tgt := 22) hx hb dX7_ill_17 (by decide) (by omega) (fun hc_12 => ?_) (fun hc_12 => absurd hc_12 (by omega))
    refine lv_aload_n hx hb dX7_ill_22 rfl (lv_at hl 0 rfl) ?_
    refine va_get (D := D) (ci := 7) (v := .ref (oP 0)) (C := RX7) (T := TX7) (N := 12) hx hb hts hinX7 hown hK hw.1 15 rfl rfl 9 (by decide) (hts (.fieldLink RX7 68 "CarnivalRoad" "parade" "LCarnivalRoad$Parade;") (by decide +kernel)) (fun _ h9 => h9) rfl dX7_ill_23 ?_
    refine va_get (D := D) (ci := 3) (v := .ref (oP 5)) (C := RX3) (T := TX3) (N := 9) hx hb hts hinX3 hown hK hw.1 9 rfl rfl 8 (by decide) (hts (.fieldLink RX7 226 "CarnivalRoad$Parade" "outAt" "[I") (by decide +kernel)) (fun _ h9 => h9) rfl dX7_ill_26 ?_
    refine lv_iload_n hx hb dX7_ill_29 rfl (lv_at hl 1 rfl) ?_
    refine lv_aload_n hx hb dX7_ill_30 rfl (lv_at hl 0 rfl) ?_
    refine va_get (D := D) (ci := 7) (v := .ref (oP 0)) (C := RX7) (T := TX7) (N := 12) hx hb hts hinX7 hown hK hw.1 15 rfl rfl 9 (by decide) (hts (.fieldLink RX7 68 "CarnivalRoad" "parade" "LCarnivalRoad$Parade;") (by decide +kernel)) (fun _ h9 => h9) rfl dX7_ill_31 ?_
    refine va_get (D := D) (ci := 3) (v := .int (zI Pnow)) (C := RX3) (T := TX3) (N := 9) hx hb hts hinX3 hown hK hw.1 9 rfl rfl 4 (by decide) (hts (.fieldLink RX7 211 "CarnivalRoad$Parade" "now" "I") (by decide +kernel)) (fun _ h9 => h9) rfl dX7_ill_34 ?_
    have hi_13 : (0 : Int) ≤ g ∧ g < ((8 : Nat) : Int) := by
      first | assumption | omega | grind
    have hv_14 : (-1 : Int) ≤ Pnow ∧ Pnow ≤ 1000000 := by
      first | assumption | omega | grind
    have hR_15 : RA (uZ Pout g Pnow) (-1) 1000000 := RA_up qPout hv_14
    refine z_iast (n := 8) (f := Pout) (ws2 := kG cI cB cZ oG Gn Gki Gle Glo Gta Gsh ++ kT cI cB cZ oT Tcells Tgap Twires Tstands ++ kP cI cB cZ oP (oG 0) (oT 0) Pline Psize Pnow Pheads Pbusy Pcame (uZ Pout g Pnow) ++ kC cI cB cZ oC (oG 0) Crow Cquiet aCreader aCbars aCspare aCsearch aCbreach (oT 0) (oP 0) aCtrial Crun) hx hb hK hw 14 rfl (by decide) hi_13 dX7_ill_37 rfl (fun H locs hw => ?_)
    refine z_iconst hx hb dX7_ill_38 ?_
    have hv_16 : (0 ≤ g ∧ g < Gn) ∧ Crun = 1 := by
      first | assumption | omega | grind
    have hv_17 : (¬ Pout g = -1 ∧ (1 : Int) = 0 ∧ (uZ Pout g Pnow) = Pout) ∨ (Pout g = -1 ∧ (1 : Int) = 1 ∧ (uZ Pout g Pnow) = uZ Pout g Pnow) := by
      first | assumption | omega | grind
    refine vx_ret ?_
    exact W.zret (v := zI 1) hx hb hr rfl (fun t9 ht hW => ⟨⟨zI 1, (1, (uZ Pout g Pnow)), rfl, ⟨rfl, ⟨hR_15, hv_16, hv_17⟩⟩, by subst hAe; exact z_end hK hw ht hW⟩, by subst hAe; exact hw.2.2.F ht⟩) (by subst hAe; exact hw.2.2.2.2) dX7_ill_39
