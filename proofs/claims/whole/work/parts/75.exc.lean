set_option maxRecDepth 100000 in
set_option maxHeartbeats 4000000 in
theorem c_X7_needGuest (l : Launch) (D : va_G) (cI cB cZ : ClassId) (hst : l.stackTraces = false) (sa sb : Nat) (oG : Nat → Nat) (oC : Nat → Nat) (aCreader : Nat) (aCbars : Nat) (aCspare : Nat) (aCsearch : Nat) (aCbreach : Nat) (aCstreet : Nat) (aCparade : Nat) (aCtrial : Nat) (sz : Nat) (Gn : Int) (Gki : Int → Int) (Gle : Int → Int) (Glo : Int → Int) (Gta : Int → Int) (Gsh : Int → Int) (Crow : Int → Int) (Cquiet : Int → Int) (Crun : Int) (g : Int) (qGn : 0 ≤ Gn ∧ Gn ≤ 8) (qGki : RA Gki (0) 4) (qGle : RA Gle (0) 5) (qGlo : RA Glo (0) 9) (qGta : RA Gta (0) 9) (qGsh : RA Gsh (0) 9) (qCrow : RA Crow (0) 7) (qCquiet : RA Cquiet (0) 7) (qCrun : 0 ≤ Crun ∧ Crun ≤ 1) (qg : -2147483648 ≤ g ∧ g ≤ 2147483647) : vx_Met l yX7_needGuest wsX7_needGuest ({ frames := 6, cells := 1, slots := 6, locals := 90 }) (va_Pc [.ref (oC 0), .int (zI g)] (zPreE sa sb D cI cB cZ sz (kG cI cB cZ oG Gn Gki Gle Glo Gta Gsh ++ kC cI cB cZ oC (oG 0) Crow Cquiet aCreader aCbars aCspare aCsearch aCbreach aCstreet aCparade aCtrial Crun))) (va_Qv (fun (u9 : Unit) => (0 ≤ g ∧ g < Gn)) (fun u9 t9 => zAt D cI cB cZ (va_A (kG cI cB cZ oG Gn Gki Gle Glo Gta Gsh ++ kC cI cB cZ oC (oG 0) Crow Cquiet aCreader aCbars aCspare aCsearch aCbreach aCstreet aCparade aCtrial Crun) sz) (kG cI cB cZ oG Gn Gki Gle Glo Gta Gsh ++ kC cI cB cZ oC (oG 0) Crow Cquiet aCreader aCbars aCspare aCsearch aCbreach aCstreet aCparade aCtrial Crun) t9) (va_A (kG cI cB cZ oG Gn Gki Gle Glo Gta Gsh ++ kC cI cB cZ oC (oG 0) Crow Cquiet aCreader aCbars aCspare aCsearch aCbreach aCstreet aCparade aCtrial Crun) sz)) (vx_X (fun _ : Unit => True) (fun E9 _ t9 => (¬ (0 ≤ g ∧ g < Gn) ∧ E9 = "java/lang/IndexOutOfBoundsException") ∧ zAt D cI cB cZ (va_A (kG cI cB cZ oG Gn Gki Gle Glo Gta Gsh ++ kC cI cB cZ oC (oG 0) Crow Cquiet aCreader aCbars aCspare aCsearch aCbreach aCstreet aCparade aCtrial Crun) sz) (kG cI cB cZ oG Gn Gki Gle Glo Gta Gsh ++ kC cI cB cZ oC (oG 0) Crow Cquiet aCreader aCbars aCspare aCsearch aCbreach aCstreet aCparade aCtrial Crun) t9) (va_A (kG cI cB cZ oG Gn Gki Gle Glo Gta Gsh ++ kC cI cB cZ oC (oG 0) Crow Cquiet aCreader aCbars aCspare aCsearch aCbreach aCstreet aCparade aCtrial Crun) sz)) 1 6 (va_A (kG cI cB cZ oG Gn Gki Gle Glo Gta Gsh ++ kC cI cB cZ oC (oG 0) Crow Cquiet aCreader aCbars aCspare aCsearch aCbreach aCstreet aCparade aCtrial Crun) sz) := by
  refine vx_ofW (cc := cX7_needGuest) (maxL := 2) (ret := none) (by decide) rfl ?_
  intro pp ee s mm aa bw mt cd s₁ BL hml hnt hv
  obtain ⟨rfl, ⟨hsz, hP, hK, hD0⟩, hZE⟩ := hv
  have hx := BL.exec
  have hb := BL.bytes
  have hr := BL.returns
  have hts := atoms_spec (ws := wsX7_needGuest) BL.pre
  have hown : s.vm.findClass RX7 = some mm.cls := findClass_of_methodNamed BL.named
  have hlocks := BL.notSynchronized
  subst hsz
  generalize hAe : va_A (kG cI cB cZ oG Gn Gki Gle Glo Gta Gsh ++ kC cI cB cZ oC (oG 0) Crow Cquiet aCreader aCbars aCspare aCsearch aCbreach aCstreet aCparade aCtrial Crun) s.heap.size = A at hZE ⊢
  have hA : ∀ q : Nat, s.heap.size ≤ q → A q := fun q h => by rw [← hAe]; exact Or.inr h
  have hw : HW D A s.heap (kG cI cB cZ oG Gn Gki Gle Glo Gta Gsh ++ kC cI cB cZ oC (oG 0) Crow Cquiet aCreader aCbars aCspare aCsearch aCbreach aCstreet aCparade aCtrial Crun) s.heap [] := z_start hAe hP hD0
  clear hP hD0
  have hl := lv_entry ([.ref (oC 0), .int (zI g)]) (n := 2) (Nat.le_of_ble_eq_true rfl)
  rw [lg_entry_eq]
  generalize (lg_sl ([.ref (oC 0), .int (zI g)]) ++ List.replicate (2 - (lg_sl ([.ref (oC 0), .int (zI g)])).length) Slot.unset).toArray = ls at hl ⊢
  have hl : lv_has ls 2 [(0, .ref (oC 0)), (1, .int (zI g))] := hl
  have hinX7 : ∀ w ∈ wsX70, w ∈ wsX7_needGuest := by decide +kernel
  refine lv_aload_n hx hb dX7_needGuest_0 rfl (lv_at hl 0 rfl) ?_
  refine va_get (D := D) (ci := 7) (v := .ref (oG 0)) (C := RX7) (T := TX7) (N := 12) hx hb hts hinX7 hown hK hw.1 6 rfl rfl 0 (by decide) (hts (.fieldLink RX7 10 "CarnivalRoad" "guests" "LCarnivalRoad$Guests;") (by decide +kernel)) (fun _ h9 => h9) rfl dX7_needGuest_1 ?_
  refine lv_iload_n hx hb dX7_needGuest_4 rfl (lv_at hl 1 rfl) ?_
  have hF9 := z_free (wc := kG cI cB cZ oG Gn Gki Gle Glo Gta Gsh) hw hA [0, 1, 2, 3, 4, 5] rfl
  refine va_calli (va_runV (As := [.int (zI g)]) (rest := []) ⟨hx, hb, hml, hown, hts⟩ (c_X2_has l D cI cB cZ oG s.heap.size Gn Gki Gle Glo Gta Gsh g (by omega) qGki qGle qGlo qGta qGsh (by omega)) (cwV 1 hts gX7_needGuest_X2_has rfl rfl rfl (by decide +kernel) ⟨Nat.le_of_ble_eq_true rfl, Nat.le_of_ble_eq_true rfl⟩) ⟨zPre_blind, va_recv hK hw.1 (ci := 2) (q0 := 0) rfl rfl, z_pre hK hw [0, 1, 2, 3, 4, 5] (by decide) rfl⟩ rfl rfl hl.1 rfl (lv_room (Nat.le_of_ble_eq_true rfl)) dX7_needGuest_5 ⟨Nat.le_of_ble_eq_true rfl, Nat.le_of_ble_eq_true rfl⟩) hw.2.2 (fun q _ h => hF9 q h) hF9 (fun r9 u9 t9 H_1 locs9 ht9 hvm9 hq9 hB9 hz9 hk9 hS9 => ?_)
  obtain ⟨r_2, rfl⟩ : ∃ z, z = u9 := ⟨_, rfl⟩
  try dsimp only at hq9 hB9
  obtain ⟨rfl, hq9⟩ := hq9
  have hq_3 := hq9
  have hw : HW D A s.heap (kG cI cB cZ oG Gn Gki Gle Glo Gta Gsh ++ kC cI cB cZ oC (oG 0) Crow Cquiet aCreader aCbars aCspare aCsearch aCbreach aCstreet aCparade aCtrial Crun) H_1 locs9 := z_after (wc := kG cI cB cZ oG Gn Gki Gle Glo Gta Gsh) hw [0, 1, 2, 3, 4, 5] [6, 7, 8] rfl rfl (by decide) (by decide) hF9 hk9 ht9 hB9 hS9 [3, 4, 5, 6, 7, 8, 0, 1, 2] (by decide) rfl
  clear hF9 ht9 hvm9 hB9 hz9 hk9 hS9 hq9
  rcases hq_3 with ⟨hc_4, rfl⟩ | ⟨hc_4, rfl⟩
  · skip
    refine z_if_ne (tgt := 21) hx hb dX7_needGuest_8 (by decide) (by omega) (fun hc_5 => ?_) (fun hc_5 => absurd hc_5 (by omega))
    have hv_6 : 0 ≤ g ∧ g < Gn := by
      first | assumption | omega | grind
    refine vx_ret (W.widen (k := 1) (n := 6) (by decide) (by decide) ?_)
    exact W.vret hx hb hr (fun t9 ht hW => ⟨⟨(), rfl, hv_6, by subst hAe; exact z_end hK hw ht hW⟩, by subst hAe; exact hw.2.2.F ht⟩) (by subst hAe; exact hw.2.2.2.2) dX7_needGuest_21
  · skip
    refine z_if_ne (tgt := 21) hx hb dX7_needGuest_8 (by decide) (by omega) (fun hc_7 => absurd hc_7 (by omega)) (fun hc_7 => ?_)
    have hat : ∀ w ∈ vx_atS RX7 256 "java/lang/IndexOutOfBoundsException" ["java/lang/RuntimeException", "java/lang/Exception"], w.before ([.ref (oC 0), .int (zI g)] : List Value).toArray s = true := vx_hat (fun w hw9 => hts w (List.mem_cons_of_mem _ (List.mem_append_right _ hw9))) (B := [.castable "java/lang/IndexOutOfBoundsException" "java/lang/IndexOutOfBoundsException", .declares (Bundle.initS "java/lang/RuntimeException"), .declares (Bundle.initS "java/lang/Exception"), .declares (Bundle.initS Bundle.tN)]) (by decide +kernel) (vx_c (va_Nw.use rfl hZE.2.2.1) (vx_c (va_Nw.use rfl hZE.2.2.2.2.2.2.2.1) (vx_c (va_Nw.use rfl hZE.2.2.2.2.2.2.2.2.1) (vx_c (va_Nw.use rfl hZE.2.2.2.2.2.2.2.2.2) vx_n))))
    exact vx_throwS (names := ["java/lang/RuntimeException", "java/lang/Exception"]) (mc := 1) (ms := 6) hx hb hst hown (by decide +kernel) (by decide +kernel) (hts (.classLink RX7 252 "java/lang/IndexOutOfBoundsException") (by decide +kernel)) (hts (.initialized "java/lang/IndexOutOfBoundsException") (by decide +kernel)) hZE.2.2.2.2.1 hat (by decide +kernel) hZE.1 hZE.2.1 hw.2.2 (hl.1.trans hml.symm) dX7_needGuest_11 dX7_needGuest_14 dX7_needGuest_15 dX7_needGuest_17 dX7_needGuest_20 (fun x hx => (hnt x hx).elim) (Nat.le_of_ble_eq_true rfl) (Nat.le_of_ble_eq_true rfl) (Nat.le_of_ble_eq_true rfl) (Nat.le_of_ble_eq_true rfl) hlocks (fun t hAl hsz9 hq8 => ⟨(), trivial, ⟨by exact ⟨by omega, rfl⟩, by subst hAe; exact (z_new hK hw hAl hsz9 hq8).1⟩, by subst hAe; exact (z_new hK hw hAl hsz9 hq8).2⟩) (by subst hAe; exact hw.2.2.2.2) (Nat.le_of_ble_eq_true rfl) (Nat.le_of_ble_eq_true rfl)
set_option maxRecDepth 100000 in
set_option maxHeartbeats 4000000 in
theorem c_X7_needRun (l : Launch) (D : va_G) (cI cB cZ : ClassId) (hst : l.stackTraces = false) (sa sb : Nat) (oC : Nat → Nat) (aCguests : Nat) (aCreader : Nat) (aCbars : Nat) (aCspare : Nat) (aCsearch : Nat) (aCbreach : Nat) (aCstreet : Nat) (aCparade : Nat) (aCtrial : Nat) (sz : Nat) (Crow : Int → Int) (Cquiet : Int → Int) (Crun : Int) (qCrow : RA Crow (0) 7) (qCquiet : RA Cquiet (0) 7) (qCrun : 0 ≤ Crun ∧ Crun ≤ 1) : vx_Met l yX7_needRun wsX7_needRun ({ frames := 6, cells := 1, slots := 6, locals := 90 }) (va_Pc [.ref (oC 0)] (zPreE sa sb D cI cB cZ sz (kC cI cB cZ oC aCguests Crow Cquiet aCreader aCbars aCspare aCsearch aCbreach aCstreet aCparade aCtrial Crun))) (va_Qv (fun (u9 : Unit) => (Crun = 1)) (fun u9 t9 => zAt D cI cB cZ (va_A (kC cI cB cZ oC aCguests Crow Cquiet aCreader aCbars aCspare aCsearch aCbreach aCstreet aCparade aCtrial Crun) sz) (kC cI cB cZ oC aCguests Crow Cquiet aCreader aCbars aCspare aCsearch aCbreach aCstreet aCparade aCtrial Crun) t9) (va_A (kC cI cB cZ oC aCguests Crow Cquiet aCreader aCbars aCspare aCsearch aCbreach aCstreet aCparade aCtrial Crun) sz)) (vx_X (fun _ : Unit => True) (fun E9 _ t9 => (Crun = 0 ∧ E9 = "java/util/NoSuchElementException") ∧ zAt D cI cB cZ (va_A (kC cI cB cZ oC aCguests Crow Cquiet aCreader aCbars aCspare aCsearch aCbreach aCstreet aCparade aCtrial Crun) sz) (kC cI cB cZ oC aCguests Crow Cquiet aCreader aCbars aCspare aCsearch aCbreach aCstreet aCparade aCtrial Crun) t9) (va_A (kC cI cB cZ oC aCguests Crow Cquiet aCreader aCbars aCspare aCsearch aCbreach aCstreet aCparade aCtrial Crun) sz)) 1 6 (va_A (kC cI cB cZ oC aCguests Crow Cquiet aCreader aCbars aCspare aCsearch aCbreach aCstreet aCparade aCtrial Crun) sz) := by
  refine vx_ofW (cc := cX7_needRun) (maxL := 1) (ret := none) (by decide) rfl ?_
  intro pp ee s mm aa bw mt cd s₁ BL hml hnt hv
  obtain ⟨rfl, ⟨hsz, hP, hK, hD0⟩, hZE⟩ := hv
  have hx := BL.exec
  have hb := BL.bytes
  have hr := BL.returns
  have hts := atoms_spec (ws := wsX7_needRun) BL.pre
  have hown : s.vm.findClass RX7 = some mm.cls := findClass_of_methodNamed BL.named
  have hlocks := BL.notSynchronized
  subst hsz
  generalize hAe : va_A (kC cI cB cZ oC aCguests Crow Cquiet aCreader aCbars aCspare aCsearch aCbreach aCstreet aCparade aCtrial Crun) s.heap.size = A at hZE ⊢
  have hA : ∀ q : Nat, s.heap.size ≤ q → A q := fun q h => by rw [← hAe]; exact Or.inr h
  have hw : HW D A s.heap (kC cI cB cZ oC aCguests Crow Cquiet aCreader aCbars aCspare aCsearch aCbreach aCstreet aCparade aCtrial Crun) s.heap [] := z_start hAe hP hD0
  clear hP hD0
  have hl := lv_entry ([.ref (oC 0)]) (n := 1) (Nat.le_of_ble_eq_true rfl)
  rw [lg_entry_eq]
  generalize (lg_sl ([.ref (oC 0)]) ++ List.replicate (1 - (lg_sl ([.ref (oC 0)])).length) Slot.unset).toArray = ls at hl ⊢
  have hl : lv_has ls 1 [(0, .ref (oC 0))] := hl
  have hinX7 : ∀ w ∈ wsX70, w ∈ wsX7_needRun := by decide +kernel
  refine lv_aload_n hx hb dX7_needRun_0 rfl (lv_at hl 0 rfl) ?_
  refine va_get (D := D) (ci := 7) (v := .int (zI Crun)) (C := RX7) (T := TX7) (N := 12) hx hb hts hinX7 hown hK hw.1 0 rfl rfl 11 (by decide) (hts (.fieldLink RX7 75 "CarnivalRoad" "running" "Z") (by decide +kernel)) (fun _ h9 => h9) rfl dX7_needRun_1 ?_
  refine z_if_ne (tgt := 18) hx hb dX7_needRun_4 (by decide) (by omega) (fun hc_1 => ?_) (fun hc_1 => ?_)
  · skip
    have hv_2 : Crun = 1 := by
      first | assumption | omega | grind
    refine vx_ret (W.widen (k := 1) (n := 6) (by decide) (by decide) ?_)
    exact W.vret hx hb hr (fun t9 ht hW => ⟨⟨(), rfl, hv_2, by subst hAe; exact z_end hK hw ht hW⟩, by subst hAe; exact hw.2.2.F ht⟩) (by subst hAe; exact hw.2.2.2.2) dX7_needRun_18
  · skip
    have hat : ∀ w ∈ vx_atS RX7 263 "java/util/NoSuchElementException" ["java/lang/RuntimeException", "java/lang/Exception"], w.before ([.ref (oC 0)] : List Value).toArray s = true := vx_hat (fun w hw9 => hts w (List.mem_cons_of_mem _ (List.mem_append_right _ hw9))) (B := [.castable "java/util/NoSuchElementException" "java/util/NoSuchElementException", .declares (Bundle.initS "java/lang/RuntimeException"), .declares (Bundle.initS "java/lang/Exception"), .declares (Bundle.initS Bundle.tN)]) (by decide +kernel) (vx_c (va_Nw.use rfl hZE.2.2.2.1) (vx_c (va_Nw.use rfl hZE.2.2.2.2.2.2.2.1) (vx_c (va_Nw.use rfl hZE.2.2.2.2.2.2.2.2.1) (vx_c (va_Nw.use rfl hZE.2.2.2.2.2.2.2.2.2) vx_n))))
    exact vx_throwSW (names := ["java/lang/RuntimeException", "java/lang/Exception"]) (mc := 1) (ms := 6) hx hb hst hown (by decide +kernel) (by decide +kernel) (hts (.classLink RX7 259 "java/util/NoSuchElementException") (by decide +kernel)) (hts (.initialized "java/util/NoSuchElementException") (by decide +kernel)) hZE.2.2.2.2.2.1 hat (by decide +kernel) hZE.1 hZE.2.1 hw.2.2 (hl.1.trans hml.symm) dX7_needRun_7 dX7_needRun_10 dX7_needRun_11 dX7_needRun_14 dX7_needRun_17 (fun x hx => (hnt x hx).elim) (Nat.le_of_ble_eq_true rfl) (Nat.le_of_ble_eq_true rfl) (Nat.le_of_ble_eq_true rfl) (Nat.le_of_ble_eq_true rfl) hlocks (fun t hAl hsz9 hq8 => ⟨(), trivial, ⟨by exact ⟨by omega, rfl⟩, by subst hAe; exact (z_new hK hw hAl hsz9 hq8).1⟩, by subst hAe; exact (z_new hK hw hAl hsz9 hq8).2⟩) (by subst hAe; exact hw.2.2.2.2) (Nat.le_of_ble_eq_true rfl) (Nat.le_of_ble_eq_true rfl)
