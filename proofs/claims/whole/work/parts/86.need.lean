set_option maxRecDepth 100000 in
set_option maxHeartbeats 4000000 in
theorem c2_X7_needRun (l : Launch) (D : va_G) (cI cB cZ : ClassId) (hst : l.stackTraces = false) (sa sb : Nat) (oC : Nat → Nat) (aCguests : Nat) (aCreader : Nat) (aCbars : Nat) (aCspare : Nat) (aCsearch : Nat) (aCbreach : Nat) (aCstreet : Nat) (aCparade : Nat) (aCtrial : Nat) (sz : Nat) (Crow : Int → Int) (Cquiet : Int → Int) (Crun : Int) (qCrow : RA Crow (0) 7) (qCquiet : RA Cquiet (0) 7) (qCrun : 0 ≤ Crun ∧ Crun ≤ 1) : vx_Met l yX7_needRun ws2X7_needRun ({ frames := 6, cells := 1, slots := 6, locals := 90 }) (va_Pc [.ref (oC 0)] (zPreE sa sb D cI cB cZ sz (kC cI cB cZ oC aCguests Crow Cquiet aCreader aCbars aCspare aCsearch aCbreach aCstreet aCparade aCtrial Crun))) (va_Qv (fun (u9 : Unit) => (Crun = 1)) (fun u9 t9 => zAt D cI cB cZ (va_A (kC cI cB cZ oC aCguests Crow Cquiet aCreader aCbars aCspare aCsearch aCbreach aCstreet aCparade aCtrial Crun) sz) (kC cI cB cZ oC aCguests Crow Cquiet aCreader aCbars aCspare aCsearch aCbreach aCstreet aCparade aCtrial Crun) t9) (va_A (kC cI cB cZ oC aCguests Crow Cquiet aCreader aCbars aCspare aCsearch aCbreach aCstreet aCparade aCtrial Crun) sz)) (vx_X (fun _ : Unit => True) (fun E9 _ t9 => (Crun = 0 ∧ E9 = "java/util/NoSuchElementException") ∧ zAt D cI cB cZ (va_A (kC cI cB cZ oC aCguests Crow Cquiet aCreader aCbars aCspare aCsearch aCbreach aCstreet aCparade aCtrial Crun) sz) (kC cI cB cZ oC aCguests Crow Cquiet aCreader aCbars aCspare aCsearch aCbreach aCstreet aCparade aCtrial Crun) t9) (va_A (kC cI cB cZ oC aCguests Crow Cquiet aCreader aCbars aCspare aCsearch aCbreach aCstreet aCparade aCtrial Crun) sz)) 1 6 (va_A (kC cI cB cZ oC aCguests Crow Cquiet aCreader aCbars aCspare aCsearch aCbreach aCstreet aCparade aCtrial Crun) sz) := by
  refine vx_ofW (cc := cX7_needRun) (maxL := 1) (ret := none) (by decide) rfl ?_
  intro pp ee s mm aa bw mt cd s₁ BL hml hnt hv
  obtain ⟨rfl, ⟨hsz, hP, hK, hD0⟩, hZE⟩ := hv
  have hx := BL.exec
  have hb := BL.bytes
  have hr := BL.returns
  have hts := atoms_spec (ws := ws2X7_needRun) BL.pre
  have hown : s.vm.findClass RX7 = some mm.cls := findClass_of_methodNamed BL.named
  have hlocks := BL.notSynchronized
  subst hsz
  generalize hAe : va_A (kC cI cB cZ oC aCguests Crow Cquiet aCreader aCbars aCspare aCsearch aCbreach aCstreet aCparade aCtrial Crun) s.heap.size = A at hZE ⊢
  have hA : ∀ q : Nat, s.heap.size ≤ q → A q := fun q h => by rw [← hAe]; exact Or.inr h
  have hw : HW D A s.heap (kC cI cB cZ oC aCguests Crow Cquiet aCreader aCbars aCspare aCsearch aCbreach aCstreet aCparade aCtrial Crun) s.heap [] := z_start hAe hP hD0
  clear hP hD0
  have hl := lv_entry ([.ref (oC 0)]) (n := 1) (Nat.le_of_ble_eq_true rfl)
  rw [lg_entry_eq]
  generalize (lg_sl ([.ref (oC 0)]) ++ List.replicate (1 - (lg_sl ([.ref (oC 0)])).length) Slot.unset).toArray = ls at hl ⊢
  have hl : lv_has ls 1 [(0, .ref (oC 0))] := hl
  have hinX7 : ∀ w ∈ wsX70, w ∈ ws2X7_needRun := by decide +kernel
  refine lv_aload_n hx hb dX7_needRun_0 rfl (lv_at hl 0 rfl) ?_
  refine va_get (D := D) (ci := 7) (v := .int (zI Crun)) (C := RX7) (T := TX7) (N := 12) hx hb hts hinX7 hown hK hw.1 0 rfl rfl 11 (by decide) (hts (.fieldLink RX7 75 "CarnivalRoad" "running" "Z") (by decide +kernel)) (fun _ h9 => h9) rfl dX7_needRun_1 ?_
  refine z_if_ne (tgt := 18) hx hb dX7_needRun_4 (by decide) (by omega) (fun hc_1 => ?_) (fun hc_1 => ?_)
  · skip
    have hv_2 : Crun = 1 := by
      first | assumption | omega | grind
    refine vx_ret (W.widen (k := 1) (n := 6) (by decide) (by decide) ?_)
    exact W.vret hx hb hr (fun t9 ht hW => ⟨⟨(), rfl, hv_2, by subst hAe; exact z_end hK hw ht hW⟩, by subst hAe; exact hw.2.2.F ht⟩) (by subst hAe; exact hw.2.2.2.2) dX7_needRun_18
  · skip
    have hat : ∀ w ∈ atNX, w.before ([.ref (oC 0)] : List Value).toArray s = true := vx_hat (fun w hw9 => hts w (List.mem_cons_of_mem _ (List.mem_append_right _ hw9))) (B := [.castable "java/util/NoSuchElementException" "java/util/NoSuchElementException", .declares (Bundle.initS "java/lang/RuntimeException"), .declares (Bundle.initS "java/lang/Exception"), .declares (Bundle.initS Bundle.tN)]) (by decide +kernel) (vx_c (va_Nw.use rfl hZE.2.2.2.1) (vx_c (va_Nw.use rfl hZE.2.2.2.2.2.2.2.1) (vx_c (va_Nw.use rfl hZE.2.2.2.2.2.2.2.2.1) (vx_c (va_Nw.use rfl hZE.2.2.2.2.2.2.2.2.2) vx_n))))
    exact zn_throw (names := ["java/lang/Exception"]) (mc := 1) (ms := 6) (Y9 := "java/lang/RuntimeException") (ix := 13) (rx := prog_25_method_4_code) hx hb hst rxN0 rxN1 rxN2 rxN5 (by decide +kernel) hown (by decide +kernel) (by decide +kernel) (hts (.classLink RX7 259 "java/util/NoSuchElementException") (by decide +kernel)) (hts (.initialized "java/util/NoSuchElementException") (by decide +kernel)) hZE.2.2.2.2.2.1 hat (by decide +kernel) hZE.1 hZE.2.1 hw.2.2 (hl.1.trans hml.symm) dX7_needRun_7 dX7_needRun_10 dX7_needRun_11 dX7_needRun_14 dX7_needRun_17 (fun x hx => (hnt x hx).elim) (Nat.le_of_ble_eq_true rfl) (Nat.le_of_ble_eq_true rfl) (Nat.le_of_ble_eq_true rfl) (Nat.le_of_ble_eq_true rfl) hlocks (fun t hAl hsz9 hq8 => ⟨(), trivial, ⟨by exact ⟨by omega, rfl⟩, by subst hAe; exact (z_new hK hw hAl hsz9 hq8).1⟩, by subst hAe; exact (z_new hK hw hAl hsz9 hq8).2⟩) (by subst hAe; exact hw.2.2.2.2) (Nat.le_of_ble_eq_true rfl) (Nat.le_of_ble_eq_true rfl)
