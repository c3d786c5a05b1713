set_option maxRecDepth 100000 in
set_option maxHeartbeats 4000000 in
theorem c3_X7_run (l : Launch) (D : va_G) (cI cB cZ : ClassId) (hst : l.stackTraces = false) (sa sb : Nat) (oG : Nat → Nat) (oT : Nat → Nat) (oP : Nat → Nat) (oC : Nat → Nat) (aCreader : Nat) (aCbars : Nat) (aCspare : Nat) (aCsearch : Nat) (aCbreach : Nat) (aCtrial : Nat) (sz : Nat) (Gn : Int) (Gki : Int → Int) (Gle : Int → Int) (Glo : Int → Int) (Gta : Int → Int) (Gsh : Int → Int) (Tcells : Int) (Tgap : Int) (Twires : Int → Int) (Tstands : Int → Int) (Pline : Int → Int) (Psize : Int) (Pnow : Int) (Pheads : Int → Int) (Pbusy : Int → Int) (Pcame : Int → Int) (Pout : Int → Int) (Crow : Int → Int) (Cquiet : Int → Int) (Crun : Int) (t : Int) (qGn : 0 ≤ Gn ∧ Gn ≤ 8) (qGki : RA Gki (0) 4) (qGle : RA Gle (0) 5) (qGlo : RA Glo (0) 9) (qGta : RA Gta (0) 9) (qGsh : RA Gsh (0) 9) (qTcells : 1 ≤ Tcells ∧ Tcells ≤ 50) (qTgap : 0 ≤ Tgap ∧ Tgap ≤ 3) (qTwires : RA Twires (0) 9) (qTstands : RA Tstands (0) 9) (qPline : RA Pline (0) 7) (qPsize : 0 ≤ Psize ∧ Psize ≤ 8) (qPnow : 0 ≤ Pnow ∧ Pnow ≤ 1000000) (qPheads : RA Pheads (-1) 60) (qPbusy : RA Pbusy (0) 30) (qPcame : RA Pcame (-1) 1000000) (qPout : RA Pout (-1) 1000000) (qCrow : RA Crow (0) 7) (qCquiet : RA Cquiet (0) 7) (qCrun : 0 ≤ Crun ∧ Crun ≤ 1) (qt : -2147483648 ≤ t ∧ t ≤ 2147483647) (hp0 : Crun = 1 → JP Gle Tcells Pheads Pout) (hp1 : Pnow ≤ 900000) : vx_Met l yX7_run ws2X7_run ({ frames := 7, cells := 1, slots := 6, locals := 110 }) (va_Pc [.ref (oC 0), .int (zI t)] (zPreE sa sb D cI cB cZ sz (kG cI cB cZ oG Gn Gki Gle Glo Gta Gsh ++ kT cI cB cZ oT Tcells Tgap Twires Tstands ++ kP cI cB cZ oP (oG 0) (oT 0) Pline Psize Pnow Pheads Pbusy Pcame Pout ++ kC cI cB cZ oC (oG 0) Crow Cquiet aCreader aCbars aCspare aCsearch aCbreach (oT 0) (oP 0) aCtrial Crun))) (va_Qi (fun (r9 : Int32) (u9 : Int × Int × (Int → Int) × (Int → Int) × (Int → Int) × (Int → Int)) => r9 = zI u9.1 ∧ (((0 : Int) ≤ u9.2.1 ∧ u9.2.1 ≤ 1000000) ∧ (RA u9.2.2.1 (-1) 60) ∧ (RA u9.2.2.2.1 (0) 30) ∧ (RA u9.2.2.2.2.1 (-1) 1000000) ∧ (RA u9.2.2.2.2.2 (-1) 1000000) ∧ (Crun = 1) ∧ ((¬ (0 ≤ t ∧ t ≤ 500) ∧ u9.1 = -1 ∧ u9.2.1 = Pnow ∧ u9.2.2.1 = Pheads ∧ u9.2.2.2.1 = Pbusy ∧ u9.2.2.2.2.1 = Pcame ∧ u9.2.2.2.2.2 = Pout) ∨ ((0 ≤ t ∧ t ≤ 500) ∧ ∃ k : Nat, u9.1 = (k : Int) ∧ (k : Int) ≤ t ∧ u9.2.1 = Pnow + (k : Int) ∧ (u9.2.2.1, u9.2.2.2.1, u9.2.2.2.2.1, u9.2.2.2.2.2) = (runK Gki Gle Tcells Tgap Tstands Pline Psize Pnow (Pheads, Pbusy, Pcame, Pout) k) ∧ ((k : Int) = t ∨ allP Pline Psize (runK Gki Gle Tcells Tgap Tstands Pline Psize Pnow (Pheads, Pbusy, Pcame, Pout) k).2.2.2) ∧ ∀ j : Nat, j < k → ¬ allP Pline Psize (runK Gki Gle Tcells Tgap Tstands Pline Psize Pnow (Pheads, Pbusy, Pcame, Pout) j).2.2.2)) ∧ (JP Gle Tcells u9.2.2.1 u9.2.2.2.2.2))) (fun u9 t9 => zAt D cI cB cZ (va_A (kG cI cB cZ oG Gn Gki Gle Glo Gta Gsh ++ kT cI cB cZ oT Tcells Tgap Twires Tstands ++ kP cI cB cZ oP (oG 0) (oT 0) Pline Psize Pnow Pheads Pbusy Pcame Pout ++ kC cI cB cZ oC (oG 0) Crow Cquiet aCreader aCbars aCspare aCsearch aCbreach (oT 0) (oP 0) aCtrial Crun) sz) (kG cI cB cZ oG Gn Gki Gle Glo Gta Gsh ++ kT cI cB cZ oT Tcells Tgap Twires Tstands ++ kP cI cB cZ oP (oG 0) (oT 0) Pline Psize (u9.2.1) (u9.2.2.1) (u9.2.2.2.1) (u9.2.2.2.2.1) (u9.2.2.2.2.2) ++ kC cI cB cZ oC (oG 0) Crow Cquiet aCreader aCbars aCspare aCsearch aCbreach (oT 0) (oP 0) aCtrial Crun) t9) (va_A (kG cI cB cZ oG Gn Gki Gle Glo Gta Gsh ++ kT cI cB cZ oT Tcells Tgap Twires Tstands ++ kP cI cB cZ oP (oG 0) (oT 0) Pline Psize Pnow Pheads Pbusy Pcame Pout ++ kC cI cB cZ oC (oG 0) Crow Cquiet aCreader aCbars aCspare aCsearch aCbreach (oT 0) (oP 0) aCtrial Crun) sz)) (vx_X (fun _ : Unit => True) (fun E9 _ t9 => (Crun = 0 ∧ E9 = "java/util/NoSuchElementException") ∧ zAt D cI cB cZ (va_A (kG cI cB cZ oG Gn Gki Gle Glo Gta Gsh ++ kT cI cB cZ oT Tcells Tgap Twires Tstands ++ kP cI cB cZ oP (oG 0) (oT 0) Pline Psize Pnow Pheads Pbusy Pcame Pout ++ kC cI cB cZ oC (oG 0) Crow Cquiet aCreader aCbars aCspare aCsearch aCbreach (oT 0) (oP 0) aCtrial Crun) sz) (kG cI cB cZ oG Gn Gki Gle Glo Gta Gsh ++ kT cI cB cZ oT Tcells Tgap Twires Tstands ++ kP cI cB cZ oP (oG 0) (oT 0) Pline Psize Pnow Pheads Pbusy Pcame Pout ++ kC cI cB cZ oC (oG 0) Crow Cquiet aCreader aCbars aCspare aCsearch aCbreach (oT 0) (oP 0) aCtrial Crun) t9) (va_A (kG cI cB cZ oG Gn Gki Gle Glo Gta Gsh ++ kT cI cB cZ oT Tcells Tgap Twires Tstands ++ kP cI cB cZ oP (oG 0) (oT 0) Pline Psize Pnow Pheads Pbusy Pcame Pout ++ kC cI cB cZ oC (oG 0) Crow Cquiet aCreader aCbars aCspare aCsearch aCbreach (oT 0) (oP 0) aCtrial Crun) sz)) 1 6 (va_A (kG cI cB cZ oG Gn Gki Gle Glo Gta Gsh ++ kT cI cB cZ oT Tcells Tgap Twires Tstands ++ kP cI cB cZ oP (oG 0) (oT 0) Pline Psize Pnow Pheads Pbusy Pcame Pout ++ kC cI cB cZ oC (oG 0) Crow Cquiet aCreader aCbars aCspare aCsearch aCbreach (oT 0) (oP 0) aCtrial Crun) sz) := by
  refine vx_ofW (cc := cX7_run) (maxL := 3) (ret := (some .int)) (by decide) rfl ?_
  intro pp ee s mm aa bw mt cd s₁ BL hml hnt hv
  obtain ⟨rfl, ⟨hsz, hP, hK, hD0⟩, hZE⟩ := hv
  have hx := BL.exec
  have hb := BL.bytes
  have hr := BL.returns
  have hts := atoms_spec (ws := ws2X7_run) BL.pre
  have hown : s.vm.findClass RX7 = some mm.cls := findClass_of_methodNamed BL.named
  have hlocks := BL.notSynchronized
  subst hsz
  generalize hAe : va_A (kG cI cB cZ oG Gn Gki Gle Glo Gta Gsh ++ kT cI cB cZ oT Tcells Tgap Twires Tstands ++ kP cI cB cZ oP (oG 0) (oT 0) Pline Psize Pnow Pheads Pbusy Pcame Pout ++ kC cI cB cZ oC (oG 0) Crow Cquiet aCreader aCbars aCspare aCsearch aCbreach (oT 0) (oP 0) aCtrial Crun) s.heap.size = A at hZE ⊢
  have hA : ∀ q : Nat, s.heap.size ≤ q → A q := fun q h => by rw [← hAe]; exact Or.inr h
  have hw : HW D A s.heap (kG cI cB cZ oG Gn Gki Gle Glo Gta Gsh ++ kT cI cB cZ oT Tcells Tgap Twires Tstands ++ kP cI cB cZ oP (oG 0) (oT 0) Pline Psize Pnow Pheads Pbusy Pcame Pout ++ kC cI cB cZ oC (oG 0) Crow Cquiet aCreader aCbars aCspare aCsearch aCbreach (oT 0) (oP 0) aCtrial Crun) s.heap [] := z_start hAe hP hD0
  clear hP hD0
  have hl := lv_entry ([.ref (oC 0), .int (zI t)]) (n := 3) (Nat.le_of_ble_eq_true rfl)
  rw [lg_entry_eq]
  generalize (lg_sl ([.ref (oC 0), .int (zI t)]) ++ List.replicate (3 - (lg_sl ([.ref (oC 0), .int (zI t)])).length) Slot.unset).toArray = ls at hl ⊢
  have hl : lv_has ls 3 [(0, .ref (oC 0)), (1, .int (zI t))] := hl
  have hinX7 : ∀ w ∈ wsX70, w ∈ ws2X7_run := by decide +kernel
  refine lv_aload_n hx hb dX7_run_0 rfl (lv_at hl 0 rfl) ?_
  have hF9 := z_free (wc := kC cI cB cZ oC (oG 0) Crow Cquiet aCreader aCbars aCspare aCsearch aCbreach (oT 0) (oP 0) aCtrial Crun) hw hA [15, 16, 17] rfl
  refine vx_callv (vx_runV (As := []) (rest := []) ⟨hx, hb, hml, hown, hts⟩ (c2_X7_needRun l D cI cB cZ hst sa sb oC (oG 0) aCreader aCbars aCspare aCsearch aCbreach (oT 0) (oP 0) aCtrial s.heap.size Crow Cquiet Crun qCrow qCquiet (by omega)) (cwV 0 hts g2X7_run_X7_needRun rfl rfl rfl (by decide +kernel) ⟨Nat.le_of_ble_eq_true rfl, Nat.le_of_ble_eq_true rfl⟩) ⟨zPreE_blind, va_recv hK hw.1 (ci := 7) (q0 := 15) rfl rfl, z_preE hK hw [15, 16, 17] (by decide) rfl hZE hF9⟩ rfl rfl hl.1 rfl (lv_room (Nat.le_of_ble_eq_true rfl)) dX7_run_1 ⟨Nat.le_of_ble_eq_true rfl, Nat.le_of_ble_eq_true rfl⟩) hw.2.2 (fun q _ h => hF9 q h) hF9 (fun q _ h => hF9 q h) (fun E9 ce9 q9 u9 t9 H9 locs9 ht9 hvm9 hp9 hB9 hz9 hk9 hS9 hce9 hcv9 hcl9 => ?_) (fun u9 t9 H_1 locs9 ht9 hvm9 hq9 hB9 hz9 hk9 hS9 => ?_)
  · obtain ⟨hx9, hB9⟩ := hB9
    have hw : HW D A s.heap (kG cI cB cZ oG Gn Gki Gle Glo Gta Gsh ++ kT cI cB cZ oT Tcells Tgap Twires Tstands ++ kP cI cB cZ oP (oG 0) (oT 0) Pline Psize Pnow Pheads Pbusy Pcame Pout ++ kC cI cB cZ oC (oG 0) Crow Cquiet aCreader aCbars aCspare aCsearch aCbreach (oT 0) (oP 0) aCtrial Crun) H9 locs9 := z_after (wc := kC cI cB cZ oC (oG 0) Crow Cquiet aCreader aCbars aCspare aCsearch aCbreach (oT 0) (oP 0) aCtrial Crun) hw [15, 16, 17] [0, 1, 2, 3, 4, 5, 6, 7, 8, 9, 10, 11, 12, 13, 14] rfl rfl (by decide) (by decide) hF9 hk9 ht9 hB9 hS9 [0, 1, 2, 3, 4, 5, 6, 7, 8, 9, 10, 11, 12, 13, 14, 15, 16, 17] (by decide) rfl
    exact vx_out (fun x hx => (hnt x hx).elim) hlocks hce9 hcv9 hcl9 (fun t ht hAl => ⟨(), trivial, ⟨by first | exact hx9 | exact Or.inl hx9 | exact Or.inr hx9, by subst hAe; exact z_alike hK hw ht hAl⟩, by subst hAe; exact hw.2.2.F ht⟩) (by subst hAe; exact hw.2.2.2.2) (Nat.le_of_ble_eq_true rfl) (Nat.le_of_ble_eq_true rfl)
  try dsimp only at hq9 hB9
  have hq_2 := hq9
  have hw : HW D A s.heap (kG cI cB cZ oG Gn Gki Gle Glo Gta Gsh ++ kT cI cB cZ oT Tcells Tgap Twires Tstands ++ kP cI cB cZ oP (oG 0) (oT 0) Pline Psize Pnow Pheads Pbusy Pcame Pout ++ kC cI cB cZ oC (oG 0) Crow Cquiet aCreader aCbars aCspare aCsearch aCbreach (oT 0) (oP 0) aCtrial Crun) H_1 locs9 := z_after (wc := kC cI cB cZ oC (oG 0) Crow Cquiet aCreader aCbars aCspare aCsearch aCbreach (oT 0) (oP 0) aCtrial Crun) hw [15, 16, 17] [0, 1, 2, 3, 4, 5, 6, 7, 8, 9, 10, 11, 12, 13, 14] rfl rfl (by decide) (by decide) hF9 hk9 ht9 hB9 hS9 [0, 1, 2, 3, 4, 5, 6, 7, 8, 9, 10, 11, 12, 13, 14, 15, 16, 17] (by decide) rfl
  clear hF9 ht9 hvm9 hB9 hz9 hk9 hS9 hq9
  refine lv_iload_n hx hb dX7_run_4 rfl (lv_at hl 1 rfl) ?_
  refine z_if_lt (tgt := 15) hx hb dX7_run_5 (by decide) (by omega) (fun hc_3 => ?_) (fun hc_3 => ?_)
  · skip
    refine z_iconst hx hb dX7_run_15 ?_
    have hv_4 : (0 : Int) ≤ Pnow ∧ Pnow ≤ 1000000 := by
      first | assumption | omega | grind
    have hv_5 : Crun = 1 := by
      first | assumption | omega | grind
    have hv_6 : (¬ (0 ≤ t ∧ t ≤ 500) ∧ ((-1) : Int) = -1 ∧ Pnow = Pnow ∧ Pheads = Pheads ∧ Pbusy = Pbusy ∧ Pcame = Pcame ∧ Pout = Pout) ∨ ((0 ≤ t ∧ t ≤ 500) ∧ ∃ k : Nat, ((-1) : Int) = (k : Int) ∧ (k : Int) ≤ t ∧ Pnow = Pnow + (k : Int) ∧ (Pheads, Pbusy, Pcame, Pout) = (runK Gki Gle Tcells Tgap Tstands Pline Psize Pnow (Pheads, Pbusy, Pcame, Pout) k) ∧ ((k : Int) = t ∨ allP Pline Psize (runK Gki Gle Tcells Tgap Tstands Pline Psize Pnow (Pheads, Pbusy, Pcame, Pout) k).2.2.2) ∧ ∀ j : Nat, j < k → ¬ allP Pline Psize (runK Gki Gle Tcells Tgap Tstands Pline Psize Pnow (Pheads, Pbusy, Pcame, Pout) j).2.2.2) := by
      exact Or.inl ⟨by omega, rfl, rfl, rfl, rfl, rfl, rfl⟩
    have hv_7 : JP Gle Tcells Pheads Pout := by
      exact hp0 (by assumption)
    refine vx_ret ?_
    exact W.iret (v := zI (-1)) hx hb hr (fun t9 ht hW => ⟨⟨zI (-1), ((-1), Pnow, Pheads, Pbusy, Pcame, Pout), rfl, ⟨rfl, ⟨hv_4, qPheads, qPbusy, qPcame, qPout, hv_5, hv_6, hv_7⟩⟩, by subst hAe; exact z_end hK hw ht hW⟩, by subst hAe; exact hw.2.2.F ht⟩) (by subst hAe; exact hw.2.2.2.2) dX7_run_16
  · skip
    refine lv_iload_n hx hb dX7_run_8 rfl (lv_at hl 1 rfl) ?_
    refine z_sipush hx hb dX7_run_9 (by decide) ?_
    refine z_icmp_le (tgt := 17) hx hb dX7_run_12 (by decide) (by omega) (fun hc_8 => ?_) (fun hc_8 => ?_)
    · skip
      refine z_iconst hx hb dX7_run_17 ?_
      refine lv_istore_n (lv' := [(2, .int (zI 0)), (0, .ref (oC 0)), (1, .int (zI t))]) hx hb dX7_run_18 rfl hl (by decide) rfl (fun ls hl => ?_)
      have hv_9 : (0 : Int) ≤ Pnow ∧ Pnow ≤ 1000000 := by
        first | assumption | omega | grind
      have hv_10 : 0 ≤ (0 : Int) ∧ (0 : Int) ≤ t := by
        first | assumption | omega | grind
      have hv_11 : Pnow = Pnow + (0 : Int) := by
        first | assumption | omega | grind
      have hv_12 : (Pheads, Pbusy, Pcame, Pout) = (runK Gki Gle Tcells Tgap Tstands Pline Psize Pnow (Pheads, Pbusy, Pcame, Pout) (0 : Int).toNat) := by
        rfl
      have hv_13 : ∀ j : Nat, j < (0 : Int).toNat → ¬ allP Pline Psize (runK Gki Gle Tcells Tgap Tstands Pline Psize Pnow (Pheads, Pbusy, Pcame, Pout) j).2.2.2 := by
        intro j hj; omega
      have hv_14 : JP Gle Tcells Pheads Pout := by
        exact hp0 (by assumption)
      refine z_loop (σ := Int × Int × (Int → Int) × (Int → Int) × (Int → Int) × (Int → Int)) (μ := fun x9 => (t - (x9.1)).toNat) (I := fun x9 H locs ls => ((0 : Int) ≤ (x9.2.1) ∧ (x9.2.1) ≤ 1000000) ∧ (RA (x9.2.2.1) (-1) 60) ∧ (RA (x9.2.2.2.1) (0) 30) ∧ (RA (x9.2.2.2.2.1) (-1) 1000000) ∧ (RA (x9.2.2.2.2.2) (-1) 1000000) ∧ (0 ≤ (x9.1) ∧ (x9.1) ≤ t) ∧ ((x9.2.1) = Pnow + (x9.1)) ∧ (((x9.2.2.1), (x9.2.2.2.1), (x9.2.2.2.2.1), (x9.2.2.2.2.2)) = (runK Gki Gle Tcells Tgap Tstands Pline Psize Pnow (Pheads, Pbusy, Pcame, Pout) (x9.1).toNat)) ∧ (∀ j : Nat, j < (x9.1).toNat → ¬ allP Pline Psize (runK Gki Gle Tcells Tgap Tstands Pline Psize Pnow (Pheads, Pbusy, Pcame, Pout) j).2.2.2) ∧ (JP Gle Tcells (x9.2.2.1) (x9.2.2.2.2.2)) ∧ HW D A s.heap (kG cI cB cZ oG Gn Gki Gle Glo Gta Gsh ++ kT cI cB cZ oT Tcells Tgap Twires Tstands ++ kP cI cB cZ oP (oG 0) (oT 0) Pline Psize (x9.2.1) (x9.2.2.1) (x9.2.2.2.1) (x9.2.2.2.2.1) (x9.2.2.2.2.2) ++ kC cI cB cZ oC (oG 0) Crow Cquiet aCreader aCbars aCspare aCsearch aCbreach (oT 0) (oP 0) aCtrial Crun) H locs ∧ lv_has ls 3 [(0, .ref (oC 0)), (1, .int (zI t)), (2, .int (zI (x9.1)))]) (0, Pnow, Pheads, Pbusy, Pcame, Pout) ⟨hv_9, qPheads, qPbusy, qPcame, qPout, hv_10, hv_11, hv_12, hv_13, hv_14, hw, lv_sub hl [1, 2, 0] rfl⟩ ?_
      clear hw hl
      intro x9 H locs ls hI ih_15
      obtain ⟨n_16, Pnow_17, Pheads_18, Pbusy_19, Pcame_20, Pout_21⟩ := x9
      try dsimp only at hI
      obtain ⟨hq_22, hR_23, hR_24, hR_25, hR_26, hI_27, hI_28, hI_29, hI_30, hI_31, hw, hl⟩ := hI
      refine lv_iload_n hx hb dX7_run_19 rfl (lv_at hl 2 rfl) ?_
      refine lv_iload_n hx hb dX7_run_20 rfl (lv_at hl 1 rfl) ?_
      refine z_icmp_ge (tgt := 47) hx hb dX7_run_21 (by decide) (by omega) (fun hc_32 => ?_) (fun hc_32 => ?_)
      · skip
        refine lv_iload_n hx hb dX7_run_47 rfl (lv_at hl 2 rfl) ?_
        have hv_33 : (0 : Int) ≤ Pnow_17 ∧ Pnow_17 ≤ 1000000 := by
          first | assumption | omega | grind
        have hv_34 : Crun = 1 := by
          first | assumption | omega | grind
        have hv_35 : (¬ (0 ≤ t ∧ t ≤ 500) ∧ n_16 = -1 ∧ Pnow_17 = Pnow ∧ Pheads_18 = Pheads ∧ Pbusy_19 = Pbusy ∧ Pcame_20 = Pcame ∧ Pout_21 = Pout) ∨ ((0 ≤ t ∧ t ≤ 500) ∧ ∃ k : Nat, n_16 = (k : Int) ∧ (k : Int) ≤ t ∧ Pnow_17 = Pnow + (k : Int) ∧ (Pheads_18, Pbusy_19, Pcame_20, Pout_21) = (runK Gki Gle Tcells Tgap Tstands Pline Psize Pnow (Pheads, Pbusy, Pcame, Pout) k) ∧ ((k : Int) = t ∨ allP Pline Psize (runK Gki Gle Tcells Tgap Tstands Pline Psize Pnow (Pheads, Pbusy, Pcame, Pout) k).2.2.2) ∧ ∀ j : Nat, j < k → ¬ allP Pline Psize (runK Gki Gle Tcells Tgap Tstands Pline Psize Pnow (Pheads, Pbusy, Pcame, Pout) j).2.2.2) := by
          refine Or.inr ⟨by omega, n_16.toNat, by omega, by omega, by omega, by assumption, ?_, by assumption⟩
          first | exact Or.inl (by omega) | (refine Or.inr ?_; rw [← (by assumption : (Pheads_18, Pbusy_19, Pcame_20, Pout_21) = (runK Gki Gle Tcells Tgap Tstands Pline Psize Pnow (Pheads, Pbusy, Pcame, Pout) n_16.toNat))]; assumption)
        have hv_36 : JP Gle Tcells Pheads_18 Pout_21 := by
          assumption
        refine vx_ret ?_
        exact W.iret (v := zI n_16) hx hb hr (fun t9 ht hW => ⟨⟨zI n_16, (n_16, Pnow_17, Pheads_18, Pbusy_19, Pcame_20, Pout_21), rfl, ⟨rfl, ⟨hv_33, hR_23, hR_24, hR_25, hR_26, hv_34, hv_35, hv_36⟩⟩, by subst hAe; exact z_end hK hw ht hW⟩, by subst hAe; exact hw.2.2.F ht⟩) (by subst hAe; exact hw.2.2.2.2) dX7_run_48
      · skip
        refine lv_aload_n hx hb dX7_run_24 rfl (lv_at hl 0 rfl) ?_
        refine va_get (D := D) (ci := 7) (v := .ref (oP 0)) (C := RX7) (T := TX7) (N := 12) hx hb hts hinX7 hown hK hw.1 15 rfl rfl 9 (by decide) (hts (.fieldLink RX7 68 "CarnivalRoad" "parade" "LCarnivalRoad$Parade;") (by decide +kernel)) (fun _ h9 => h9) rfl dX7_run_25 ?_
        have hF9 := z_free (wc := kG cI cB cZ oG Gn Gki Gle Glo Gta Gsh ++ kT cI cB cZ oT Tcells Tgap Twires Tstands ++ kP cI cB cZ oP (oG 0) (oT 0) Pline Psize Pnow_17 Pheads_18 Pbusy_19 Pcame_20 Pout_21) hw hA [0, 1, 2, 3, 4, 5, 6, 7, 8, 9, 10, 11, 12, 13, 14] rfl
        refine va_calli (va_runV (As := []) (rest := []) ⟨hx, hb, hml, hown, hts⟩ (c_X3_allOut l D cI cB cZ oG oT oP H.size Gn Gki Gle Glo Gta Gsh Tcells Tgap Twires Tstands Pline Psize Pnow_17 Pheads_18 Pbusy_19 Pcame_20 Pout_21 (by omega) qGki qGle qGlo qGta qGsh (by omega) (by omega) qTwires qTstands qPline (by omega) (by omega) hR_23 hR_24 hR_25 hR_26) (cwV 0 hts g2X7_run_X3_allOut rfl rfl rfl (by decide +kernel) ⟨Nat.le_of_ble_eq_true rfl, Nat.le_of_ble_eq_true rfl⟩) ⟨zPre_blind, va_recv hK hw.1 (ci := 3) (q0 := 9) rfl rfl, z_pre hK hw [0, 1, 2, 3, 4, 5, 6, 7, 8, 9, 10, 11, 12, 13, 14] (by decide) rfl⟩ rfl rfl hl.1 rfl (lv_room (Nat.le_of_ble_eq_true rfl)) dX7_run_28 ⟨Nat.le_of_ble_eq_true rfl, Nat.le_of_ble_eq_true rfl⟩) hw.2.2 (fun q _ h => hF9 q h) hF9 (fun r9 u9 t9 H_37 locs9 ht9 hvm9 hq9 hB9 hz9 hk9 hS9 => ?_)
        obtain ⟨r_38, rfl⟩ : ∃ z, z = u9 := ⟨_, rfl⟩
        try dsimp only at hq9 hB9
        obtain ⟨rfl, hq9⟩ := hq9
        have hq_39 := hq9
        have hw : HW D A s.heap (kG cI cB cZ oG Gn Gki Gle Glo Gta Gsh ++ kT cI cB cZ oT Tcells Tgap Twires Tstands ++ kP cI cB cZ oP (oG 0) (oT 0) Pline Psize Pnow_17 Pheads_18 Pbusy_19 Pcame_20 Pout_21 ++ kC cI cB cZ oC (oG 0) Crow Cquiet aCreader aCbars aCspare aCsearch aCbreach (oT 0) (oP 0) aCtrial Crun) H_37 locs9 := z_after (wc := kG cI cB cZ oG Gn Gki Gle Glo Gta Gsh ++ kT cI cB cZ oT Tcells Tgap Twires Tstands ++ kP cI cB cZ oP (oG 0) (oT 0) Pline Psize Pnow_17 Pheads_18 Pbusy_19 Pcame_20 Pout_21) hw [0, 1, 2, 3, 4, 5, 6, 7, 8, 9, 10, 11, 12, 13, 14] [15, 16, 17] rfl rfl (by decide) (by decide) hF9 hk9 ht9 hB9 hS9 [3, 4, 5, 6, 7, 8, 9, 10, 11, 12, 13, 14, 15, 16, 17, 0, 1, 2] (by decide) rfl
        clear hF9 ht9 hvm9 hB9 hz9 hk9 hS9 hq9
        rcases hq_39 with ⟨hc_40, rfl⟩ | ⟨hc_40, rfl⟩
        · skip
          refine z_if_ne (tgt := 47) hx hb dX7_run_31 (by decide) (by omega) (fun hc_41 => ?_) (fun hc_41 => absurd hc_41 (by omega))
          refine lv_iload_n hx hb dX7_run_47 rfl (lv_at hl 2 rfl) ?_
          have hv_42 : (0 : Int) ≤ Pnow_17 ∧ Pnow_17 ≤ 1000000 := by
            first | assumption | omega | grind
          have hv_43 : Crun = 1 := by
            first | assumption | omega | grind
          have hv_44 : (¬ (0 ≤ t ∧ t ≤ 500) ∧ n_16 = -1 ∧ Pnow_17 = Pnow ∧ Pheads_18 = Pheads ∧ Pbusy_19 = Pbusy ∧ Pcame_20 = Pcame ∧ Pout_21 = Pout) ∨ ((0 ≤ t ∧ t ≤ 500) ∧ ∃ k : Nat, n_16 = (k : Int) ∧ (k : Int) ≤ t ∧ Pnow_17 = Pnow + (k : Int) ∧ (Pheads_18, Pbusy_19, Pcame_20, Pout_21) = (runK Gki Gle Tcells Tgap Tstands Pline Psize Pnow (Pheads, Pbusy, Pcame, Pout) k) ∧ ((k : Int) = t ∨ allP Pline Psize (runK Gki Gle Tcells Tgap Tstands Pline Psize Pnow (Pheads, Pbusy, Pcame, Pout) k).2.2.2) ∧ ∀ j : Nat, j < k → ¬ allP Pline Psize (runK Gki Gle Tcells Tgap Tstands Pline Psize Pnow (Pheads, Pbusy, Pcame, Pout) j).2.2.2) := by
            refine Or.inr ⟨by omega, n_16.toNat, by omega, by omega, by omega, by assumption, ?_, by assumption⟩
            first | exact Or.inl (by omega) | (refine Or.inr ?_; rw [← (by assumption : (Pheads_18, Pbusy_19, Pcame_20, Pout_21) = (runK Gki Gle Tcells Tgap Tstands Pline Psize Pnow (Pheads, Pbusy, Pcame, Pout) n_16.toNat))]; assumption)
          have hv_45 : JP Gle Tcells Pheads_18 Pout_21 := by
            assumption
          refine vx_ret ?_
          exact W.iret (v := zI n_16) hx hb hr (fun t9 ht hW => ⟨⟨zI n_16, (n_16, Pnow_17, Pheads_18, Pbusy_19, Pcame_20, Pout_21), rfl, ⟨rfl, ⟨hv_42, hR_23, hR_24, hR_25, hR_26, hv_43, hv_44, hv_45⟩⟩, by subst hAe; exact z_end hK hw ht hW⟩, by subst hAe; exact hw.2.2.F ht⟩) (by subst hAe; exact hw.2.2.2.2) dX7_run_48
        · skip
          refine z_if_ne (tgt := 47) hx hb dX7_run_31 (by decide) (by omega) (fun hc_46 => absurd hc_46 (by omega)) (fun hc_46 => ?_)
          refine lv_aload_n hx hb dX7_run_34 rfl (lv_at hl 0 rfl) ?_
          refine va_get (D := D) (ci := 7) (v := .ref (oP 0)) (C := RX7) (T := TX7) (N := 12) hx hb hts hinX7 hown hK hw.1 15 rfl rfl 9 (by decide) (hts (.fieldLink RX7 68 "CarnivalRoad" "parade" "LCarnivalRoad$Parade;") (by decide +kernel)) (fun _ h9 => h9) rfl dX7_run_35 ?_
          have hpre_47 : Pnow_17 ≤ 999999 := by
            omega
          have hpre_48 : JP Gle Tcells Pheads_18 Pout_21 := by
            assumption
          have hF9 := z_free (wc := kG cI cB cZ oG Gn Gki Gle Glo Gta Gsh ++ kT cI cB cZ oT Tcells Tgap Twires Tstands ++ kP cI cB cZ oP (oG 0) (oT 0) Pline Psize Pnow_17 Pheads_18 Pbusy_19 Pcame_20 Pout_21) hw hA [0, 1, 2, 3, 4, 5, 6, 7, 8, 9, 10, 11, 12, 13, 14] rfl
          refine va_callv (va_runV (As := []) (rest := []) ⟨hx, hb, hml, hown, hts⟩ (c_X3_step l D cI cB cZ oG oT oP H_37.size Gn Gki Gle Glo Gta Gsh Tcells Tgap Twires Tstands Pline Psize Pnow_17 Pheads_18 Pbusy_19 Pcame_20 Pout_21 (by omega) qGki qGle qGlo qGta qGsh (by omega) (by omega) qTwires qTstands qPline (by omega) (by omega) hR_23 hR_24 hR_25 hR_26 hpre_47 hpre_48) (cwV 0 hts g2X7_run_X3_step rfl rfl rfl (by decide +kernel) ⟨Nat.le_of_ble_eq_true rfl, Nat.le_of_ble_eq_true rfl⟩) ⟨zPre_blind, va_recv hK hw.1 (ci := 3) (q0 := 9) rfl rfl, z_pre hK hw [0, 1, 2, 3, 4, 5, 6, 7, 8, 9, 10, 11, 12, 13, 14] (by decide) rfl⟩ rfl rfl hl.1 rfl (lv_room (Nat.le_of_ble_eq_true rfl)) dX7_run_38 ⟨Nat.le_of_ble_eq_true rfl, Nat.le_of_ble_eq_true rfl⟩) hw.2.2 (fun q _ h => hF9 q h) hF9 (fun u9 t9 H_49 locs9 ht9 hvm9 hq9 hB9 hz9 hk9 hS9 => ?_)
          obtain ⟨Pnow_50, Pheads_51, Pbusy_52, Pcame_53, Pout_54⟩ := u9
          try dsimp only at hq9 hB9
          obtain ⟨hq_55, hq_56, hq_57, hq_58, hq_59, hq_60, hq_61, hq_62⟩ := hq9
          have hw : HW D A s.heap (kG cI cB cZ oG Gn Gki Gle Glo Gta Gsh ++ kT cI cB cZ oT Tcells Tgap Twires Tstands ++ kP cI cB cZ oP (oG 0) (oT 0) Pline Psize Pnow_50 Pheads_51 Pbusy_52 Pcame_53 Pout_54 ++ kC cI cB cZ oC (oG 0) Crow Cquiet aCreader aCbars aCspare aCsearch aCbreach (oT 0) (oP 0) aCtrial Crun) H_49 locs9 := z_after (wc := kG cI cB cZ oG Gn Gki Gle Glo Gta Gsh ++ kT cI cB cZ oT Tcells Tgap Twires Tstands ++ kP cI cB cZ oP (oG 0) (oT 0) Pline Psize Pnow_17 Pheads_18 Pbusy_19 Pcame_20 Pout_21) hw [0, 1, 2, 3, 4, 5, 6, 7, 8, 9, 10, 11, 12, 13, 14] [15, 16, 17] rfl rfl (by decide) (by decide) hF9 hk9 ht9 hB9 hS9 [3, 4, 5, 6, 7, 8, 9, 10, 11, 12, 13, 14, 15, 16, 17, 0, 1, 2] (by decide) rfl
          clear hF9 ht9 hvm9 hB9 hz9 hk9 hS9
          refine z_iinc (k := 2) (lv' := [(2, .int (zI (n_16 + 1))), (0, .ref (oC 0)), (1, .int (zI t))]) hx hb dX7_run_41 hl rfl (by decide) rfl (fun ls hl => ?_)
          refine lv_goto (tgt := 19) hx hb dX7_run_44 (by decide) ?_
          have hv_63 : (0 : Int) ≤ Pnow_50 ∧ Pnow_50 ≤ 1000000 := by
            first | assumption | omega | grind
          have hv_64 : 0 ≤ (n_16 + 1) ∧ (n_16 + 1) ≤ t := by
            first | assumption | omega | grind
          have hv_65 : Pnow_50 = Pnow + (n_16 + 1) := by
            first | assumption | omega | grind
          have hv_66 : (Pheads_51, Pbusy_52, Pcame_53, Pout_54) = (runK Gki Gle Tcells Tgap Tstands Pline Psize Pnow (Pheads, Pbusy, Pcame, Pout) (n_16 + 1).toNat) := by
            exact run_step (by omega) (by assumption) (by assumption) (by omega)
          have hv_67 : ∀ j : Nat, j < (n_16 + 1).toNat → ¬ allP Pline Psize (runK Gki Gle Tcells Tgap Tstands Pline Psize Pnow (Pheads, Pbusy, Pcame, Pout) j).2.2.2 := by
            exact run_not (P := fun s => allP Pline Psize s.2.2.2) (by omega) (by assumption) (by rw [← (by assumption : (Pheads_18, Pbusy_19, Pcame_20, Pout_21) = (runK Gki Gle Tcells Tgap Tstands Pline Psize Pnow (Pheads, Pbusy, Pcame, Pout) n_16.toNat))]; assumption)
          have hv_68 : JP Gle Tcells Pheads_51 Pout_54 := by
            assumption
          have hm_69 : (t - (n_16 + 1)).toNat < (t - n_16).toNat := by
            first | assumption | omega | grind
          exact ih_15 ((n_16 + 1), Pnow_50, Pheads_51, Pbusy_52, Pcame_53, Pout_54) _ _ _ ⟨hv_63, hq_56, hq_57, hq_58, hq_59, hv_64, hv_65, hv_66, hv_67, hv_68, hw, lv_sub hl [1, 2, 0] rfl⟩ hm_69
    · skip
      refine z_iconst hx hb dX7_run_15 ?_
      have hv_70 : (0 : Int) ≤ Pnow ∧ Pnow ≤ 1000000 := by
        first | assumption | omega | grind
      have hv_71 : Crun = 1 := by
        first | assumption | omega | grind
      have hv_72 : (¬ (0 ≤ t ∧ t ≤ 500) ∧ ((-1) : Int) = -1 ∧ Pnow = Pnow ∧ Pheads = Pheads ∧ Pbusy = Pbusy ∧ Pcame = Pcame ∧ Pout = Pout) ∨ ((0 ≤ t ∧ t ≤ 500) ∧ ∃ k : Nat, ((-1) : Int) = (k : Int) ∧ (k : Int) ≤ t ∧ Pnow = Pnow + (k : Int) ∧ (Pheads, Pbusy, Pcame, Pout) = (runK Gki Gle Tcells Tgap Tstands Pline Psize Pnow (Pheads, Pbusy, Pcame, Pout) k) ∧ ((k : Int) = t ∨ allP Pline Psize (runK Gki Gle Tcells Tgap Tstands Pline Psize Pnow (Pheads, Pbusy, Pcame, Pout) k).2.2.2) ∧ ∀ j : Nat, j < k → ¬ allP Pline Psize (runK Gki Gle Tcells Tgap Tstands Pline Psize Pnow (Pheads, Pbusy, Pcame, Pout) j).2.2.2) := by
        exact Or.inl ⟨by omega, rfl, rfl, rfl, rfl, rfl, rfl⟩
      have hv_73 : JP Gle Tcells Pheads Pout := by
        exact hp0 (by assumption)
      refine vx_ret ?_
      exact W.iret (v := zI (-1)) hx hb hr (fun t9 ht hW => ⟨⟨zI (-1), ((-1), Pnow, Pheads, Pbusy, Pcame, Pout), rfl, ⟨rfl, ⟨hv_70, qPheads, qPbusy, qPcame, qPout, hv_71, hv_72, hv_73⟩⟩, by subst hAe; exact z_end hK hw ht hW⟩, by subst hAe; exact hw.2.2.F ht⟩) (by subst hAe; exact hw.2.2.2.2) dX7_run_16
