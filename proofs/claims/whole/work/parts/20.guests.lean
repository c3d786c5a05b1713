set_option maxRecDepth 100000 in
set_option maxHeartbeats 4000000 in
theorem c_X2_has (l : Launch) (D : va_G) (cI cB cZ : ClassId) (oG : Nat → Nat) (sz : Nat) (Gn : Int) (Gki : Int → Int) (Gle : Int → Int) (Glo : Int → Int) (Gta : Int → Int) (Gsh : Int → Int) (g : Int) (qGn : 0 ≤ Gn ∧ Gn ≤ 8) (qGki : RA Gki (0) 4) (qGle : RA Gle (0) 5) (qGlo : RA Glo (0) 9) (qGta : RA Gta (0) 9) (qGsh : RA Gsh (0) 9) (qg : -2147483648 ≤ g ∧ g ≤ 2147483647) : Met l yX2_has wsX2_has ({ frames := 0, cells := 0, slots := 0, locals := 0 }) (va_Pc [.ref (oG 0), .int (zI g)] (zPre D cI cB cZ sz (kG cI cB cZ oG Gn Gki Gle Glo Gta Gsh))) (va_Qi (fun (r9 : Int32) (u9 : Int) => r9 = zI u9 ∧ ((((0 ≤ g ∧ g < Gn) ∧ u9 = 1) ∨ (¬ (0 ≤ g ∧ g < Gn) ∧ u9 = 0)))) (fun u9 t9 => zAt D cI cB cZ (va_A (kG cI cB cZ oG Gn Gki Gle Glo Gta Gsh) sz) (kG cI cB cZ oG Gn Gki Gle Glo Gta Gsh) t9) (va_A (kG cI cB cZ oG Gn Gki Gle Glo Gta Gsh) sz)) 0 0 (va_A (kG cI cB cZ oG Gn Gki Gle Glo Gta Gsh) sz) := by
  refine Met.ofW (cc := cX2_has) (maxL := 2) (ret := (some .boolean)) (by decide) rfl ?_
  intro pp ee s mm aa bw mt cd s₁ BL hml hv
  obtain ⟨rfl, hsz, hP, hK, hD0⟩ := hv
  have hx := BL.exec
  have hb := BL.bytes
  have hr := BL.returns
  have hts := atoms_spec (ws := wsX2_has) BL.pre
  have hown : s.vm.findClass RX2 = some mm.cls := findClass_of_methodNamed BL.named
  have hlocks := BL.notSynchronized
  subst hsz
  generalize hAe : va_A (kG cI cB cZ oG Gn Gki Gle Glo Gta Gsh) s.heap.size = A
  have hA : ∀ q : Nat, s.heap.size ≤ q → A q := fun q h => by rw [← hAe]; exact Or.inr h
  have hw : HW D A s.heap (kG cI cB cZ oG Gn Gki Gle Glo Gta Gsh) s.heap [] := z_start hAe hP hD0
  clear hP hD0
  have hl := lv_entry ([.ref (oG 0), .int (zI g)]) (n := 2) (Nat.le_of_ble_eq_true rfl)
  rw [lg_entry_eq]
  generalize (lg_sl ([.ref (oG 0), .int (zI g)]) ++ List.replicate (2 - (lg_sl ([.ref (oG 0), .int (zI g)])).length) Slot.unset).toArray = ls at hl ⊢
  have hl : lv_has ls 2 [(0, .ref (oG 0)), (1, .int (zI g))] := hl
  have hinX2 : ∀ w ∈ wsX20, w ∈ wsX2_has := by decide +kernel
  refine lv_iload_n hx hb dX2_has_0 rfl (lv_at hl 1 rfl) ?_
  refine z_if_lt (tgt := 16) hx hb dX2_has_1 (by decide) (by omega) (fun hc_1 => ?_) (fun hc_1 => ?_)
  · skip
    refine z_iconst hx hb dX2_has_16 ?_
    have hv_2 : ((0 ≤ g ∧ g < Gn) ∧ (0 : Int) = 1) ∨ (¬ (0 ≤ g ∧ g < Gn) ∧ (0 : Int) = 0) := by
      first | assumption | omega | grind
    exact W.zret (v := zI 0) hx hb hr rfl (fun t9 ht hW => ⟨⟨zI 0, 0, rfl, ⟨rfl, hv_2⟩, by subst hAe; exact z_end hK hw ht hW⟩, by subst hAe; exact hw.2.2.F ht⟩) (by subst hAe; exact hw.2.2.2.2) dX2_has_17
  · skip
    refine lv_iload_n hx hb dX2_has_4 rfl (lv_at hl 1 rfl) ?_
    refine lv_aload_n hx hb dX2_has_5 rfl (lv_at hl 0 rfl) ?_
    refine va_get (D := D) (ci := 2) (v := .int (zI Gn)) (C := RX2) (T := TX2) (N := 6) hx hb hts hinX2 hown hK hw.1 0 rfl rfl 0 (by decide) (hts (.fieldLink RX2 9 "CarnivalRoad$Guests" "count" "I") (by decide +kernel)) (fun _ h9 => h9) rfl dX2_has_6 ?_
    refine z_icmp_ge (tgt := 16) hx hb dX2_has_9 (by decide) (by omega) (fun hc_3 => ?_) (fun hc_3 => ?_)
    · skip
      refine z_iconst hx hb dX2_has_16 ?_
      have hv_4 : ((0 ≤ g ∧ g < Gn) ∧ (0 : Int) = 1) ∨ (¬ (0 ≤ g ∧ g < Gn) ∧ (0 : Int) = 0) := by
        first | assumption | omega | grind
      exact W.zret (v := zI 0) hx hb hr rfl (fun t9 ht hW => ⟨⟨zI 0, 0, rfl, ⟨rfl, hv_4⟩, by subst hAe; exact z_end hK hw ht hW⟩, by subst hAe; exact hw.2.2.F ht⟩) (by subst hAe; exact hw.2.2.2.2) dX2_has_17
    · skip
      refine z_iconst hx hb dX2_has_12 ?_
      refine lv_goto (tgt := 17) hx hb dX2_has_13 (by decide) ?_
      have hv_5 : ((0 ≤ g ∧ g < Gn) ∧ (1 : Int) = 1) ∨ (¬ (0 ≤ g ∧ g < Gn) ∧ (1 : Int) = 0) := by
        first | assumption | omega | grind
      exact W.zret (v := zI 1) hx hb hr rfl (fun t9 ht hW => ⟨⟨zI 1, 1, rfl, ⟨rfl, hv_5⟩, by subst hAe; exact z_end hK hw ht hW⟩, by subst hAe; exact hw.2.2.F ht⟩) (by subst hAe; exact hw.2.2.2.2) dX2_has_17
set_option maxRecDepth 100000 in
set_option maxHeartbeats 4000000 in
theorem c_X2_canBe (l : Launch) (D : va_G) (cI cB cZ : ClassId) (sz : Nat) (k : Int) (le : Int) (lo : Int) (ta : Int) (sh : Int) (qk : -2147483648 ≤ k ∧ k ≤ 2147483647) (qle : -2147483648 ≤ le ∧ le ≤ 2147483647) (qlo : -2147483648 ≤ lo ∧ lo ≤ 2147483647) (qta : -2147483648 ≤ ta ∧ ta ≤ 2147483647) (qsh : -2147483648 ≤ sh ∧ sh ≤ 2147483647) : Met l yX2_canBe wsX2_canBe ({ frames := 0, cells := 0, slots := 0, locals := 0 }) (va_Pc [.int (zI k), .int (zI le), .int (zI lo), .int (zI ta), .int (zI sh)] (zPre D cI cB cZ sz (([] : va_W)))) (va_Qi (fun (r9 : Int32) (u9 : Int) => r9 = zI u9 ∧ (((canBeP k le lo ta sh ∧ u9 = 1) ∨ (¬ canBeP k le lo ta sh ∧ u9 = 0)))) (fun u9 t9 => zAt D cI cB cZ (va_A (([] : va_W)) sz) (([] : va_W)) t9) (va_A (([] : va_W)) sz)) 0 0 (va_A (([] : va_W)) sz) := by
  refine Met.ofW (cc := cX2_canBe) (maxL := 5) (ret := (some .boolean)) (by decide) rfl ?_
  intro pp ee s mm aa bw mt cd s₁ BL hml hv
  obtain ⟨rfl, hsz, hP, hK, hD0⟩ := hv
  have hx := BL.exec
  have hb := BL.bytes
  have hr := BL.returns
  have hts := atoms_spec (ws := wsX2_canBe) BL.pre
  have hown : s.vm.findClass RX2 = some mm.cls := findClass_of_methodNamed BL.named
  have hlocks := BL.notSynchronized
  subst hsz
  generalize hAe : va_A (([] : va_W)) s.heap.size = A
  have hA : ∀ q : Nat, s.heap.size ≤ q → A q := fun q h => by rw [← hAe]; exact Or.inr h
  have hw : HW D A s.heap (([] : va_W)) s.heap [] := z_start hAe hP hD0
  clear hP hD0
  have hl := lv_entry ([.int (zI k), .int (zI le), .int (zI lo), .int (zI ta), .int (zI sh)]) (n := 5) (Nat.le_of_ble_eq_true rfl)
  rw [lg_entry_eq]
  generalize (lg_sl ([.int (zI k), .int (zI le), .int (zI lo), .int (zI ta), .int (zI sh)]) ++ List.replicate (5 - (lg_sl ([.int (zI k), .int (zI le), .int (zI lo), .int (zI ta), .int (zI sh)])).length) Slot.unset).toArray = ls at hl ⊢
  have hl : lv_has ls 5 [(0, .int (zI k)), (1, .int (zI le)), (2, .int (zI lo)), (3, .int (zI ta)), (4, .int (zI sh))] := hl
  refine lv_iload_n hx hb dX2_canBe_0 rfl (lv_at hl 0 rfl) ?_
  refine z_if_lt (tgt := 56) hx hb dX2_canBe_1 (by decide) (by omega) (fun hc_1 => ?_) (fun hc_1 => ?_)
  · skip
    refine z_iconst hx hb dX2_canBe_56 ?_
    have hv_2 : (canBeP k le lo ta sh ∧ (0 : Int) = 1) ∨ (¬ canBeP k le lo ta sh ∧ (0 : Int) = 0) := by
      unfold canBeP; omega
    exact W.zret (v := zI 0) hx hb hr rfl (fun t9 ht hW => ⟨⟨zI 0, 0, rfl, ⟨rfl, hv_2⟩, by subst hAe; exact z_end hK hw ht hW⟩, by subst hAe; exact hw.2.2.F ht⟩) (by subst hAe; exact hw.2.2.2.2) dX2_canBe_57
  · skip
    refine lv_iload_n hx hb dX2_canBe_4 rfl (lv_at hl 0 rfl) ?_
    refine z_iconst hx hb dX2_canBe_5 ?_
    refine z_icmp_gt (tgt := 56) hx hb dX2_canBe_6 (by decide) (by omega) (fun hc_3 => ?_) (fun hc_3 => ?_)
    · skip
      refine z_iconst hx hb dX2_canBe_56 ?_
      have hv_4 : (canBeP k le lo ta sh ∧ (0 : Int) = 1) ∨ (¬ canBeP k le lo ta sh ∧ (0 : Int) = 0) := by
        unfold canBeP; omega
      exact W.zret (v := zI 0) hx hb hr rfl (fun t9 ht hW => ⟨⟨zI 0, 0, rfl, ⟨rfl, hv_4⟩, by subst hAe; exact z_end hK hw ht hW⟩, by subst hAe; exact hw.2.2.F ht⟩) (by subst hAe; exact hw.2.2.2.2) dX2_canBe_57
    · skip
      refine lv_iload_n hx hb dX2_canBe_9 rfl (lv_at hl 1 rfl) ?_
      refine z_iconst hx hb dX2_canBe_10 ?_
      refine z_icmp_lt (tgt := 56) hx hb dX2_canBe_11 (by decide) (by omega) (fun hc_5 => ?_) (fun hc_5 => ?_)
      · skip
        refine z_iconst hx hb dX2_canBe_56 ?_
        have hv_6 : (canBeP k le lo ta sh ∧ (0 : Int) = 1) ∨ (¬ canBeP k le lo ta sh ∧ (0 : Int) = 0) := by
          unfold canBeP; omega
        exact W.zret (v := zI 0) hx hb hr rfl (fun t9 ht hW => ⟨⟨zI 0, 0, rfl, ⟨rfl, hv_6⟩, by subst hAe; exact z_end hK hw ht hW⟩, by subst hAe; exact hw.2.2.F ht⟩) (by subst hAe; exact hw.2.2.2.2) dX2_canBe_57
      · skip
        refine lv_iload_n hx hb dX2_canBe_14 rfl (lv_at hl 1 rfl) ?_
        refine z_iconst hx hb dX2_canBe_15 ?_
        refine z_icmp_gt (tgt := 56) hx hb dX2_canBe_16 (by decide) (by omega) (fun hc_7 => ?_) (fun hc_7 => ?_)
        · skip
          refine z_iconst hx hb dX2_canBe_56 ?_
          have hv_8 : (canBeP k le lo ta sh ∧ (0 : Int) = 1) ∨ (¬ canBeP k le lo ta sh ∧ (0 : Int) = 0) := by
            unfold canBeP; omega
          exact W.zret (v := zI 0) hx hb hr rfl (fun t9 ht hW => ⟨⟨zI 0, 0, rfl, ⟨rfl, hv_8⟩, by subst hAe; exact z_end hK hw ht hW⟩, by subst hAe; exact hw.2.2.F ht⟩) (by subst hAe; exact hw.2.2.2.2) dX2_canBe_57
        · skip
          refine lv_iload_n hx hb dX2_canBe_19 rfl (lv_at hl 2 rfl) ?_
          refine z_if_lt (tgt := 56) hx hb dX2_canBe_20 (by decide) (by omega) (fun hc_9 => ?_) (fun hc_9 => ?_)
          · skip
            refine z_iconst hx hb dX2_canBe_56 ?_
            have hv_10 : (canBeP k le lo ta sh ∧ (0 : Int) = 1) ∨ (¬ canBeP k le lo ta sh ∧ (0 : Int) = 0) := by
              unfold canBeP; omega
            exact W.zret (v := zI 0) hx hb hr rfl (fun t9 ht hW => ⟨⟨zI 0, 0, rfl, ⟨rfl, hv_10⟩, by subst hAe; exact z_end hK hw ht hW⟩, by subst hAe; exact hw.2.2.F ht⟩) (by subst hAe; exact hw.2.2.2.2) dX2_canBe_57
          · skip
            refine lv_iload_n hx hb dX2_canBe_23 rfl (lv_at hl 2 rfl) ?_
            refine z_bipush hx hb dX2_canBe_24 (by decide) ?_
            refine z_icmp_gt (tgt := 56) hx hb dX2_canBe_26 (by decide) (by omega) (fun hc_11 => ?_) (fun hc_11 => ?_)
            · skip
              refine z_iconst hx hb dX2_canBe_56 ?_
              have hv_12 : (canBeP k le lo ta sh ∧ (0 : Int) = 1) ∨ (¬ canBeP k le lo ta sh ∧ (0 : Int) = 0) := by
                unfold canBeP; omega
              exact W.zret (v := zI 0) hx hb hr rfl (fun t9 ht hW => ⟨⟨zI 0, 0, rfl, ⟨rfl, hv_12⟩, by subst hAe; exact z_end hK hw ht hW⟩, by subst hAe; exact hw.2.2.F ht⟩) (by subst hAe; exact hw.2.2.2.2) dX2_canBe_57
            · skip
              refine lv_iload_n hx hb dX2_canBe_29 rfl (lv_at hl 3 rfl) ?_
              refine z_iconst hx hb dX2_canBe_30 ?_
              refine z_icmp_lt (tgt := 56) hx hb dX2_canBe_31 (by decide) (by omega) (fun hc_13 => ?_) (fun hc_13 => ?_)
              · skip
                refine z_iconst hx hb dX2_canBe_56 ?_
                have hv_14 : (canBeP k le lo ta sh ∧ (0 : Int) = 1) ∨ (¬ canBeP k le lo ta sh ∧ (0 : Int) = 0) := by
                  unfold canBeP; omega
                exact W.zret (v := zI 0) hx hb hr rfl (fun t9 ht hW => ⟨⟨zI 0, 0, rfl, ⟨rfl, hv_14⟩, by subst hAe; exact z_end hK hw ht hW⟩, by subst hAe; exact hw.2.2.F ht⟩) (by subst hAe; exact hw.2.2.2.2) dX2_canBe_57
              · skip
                refine lv_iload_n hx hb dX2_canBe_34 rfl (lv_at hl 3 rfl) ?_
                refine z_bipush hx hb dX2_canBe_35 (by decide) ?_
                refine z_icmp_gt (tgt := 56) hx hb dX2_canBe_37 (by decide) (by omega) (fun hc_15 => ?_) (fun hc_15 => ?_)
                · skip
                  refine z_iconst hx hb dX2_canBe_56 ?_
                  have hv_16 : (canBeP k le lo ta sh ∧ (0 : Int) = 1) ∨ (¬ canBeP k le lo ta sh ∧ (0 : Int) = 0) := by
                    unfold canBeP; omega
                  exact W.zret (v := zI 0) hx hb hr rfl (fun t9 ht hW => ⟨⟨zI 0, 0, rfl, ⟨rfl, hv_16⟩, by subst hAe; exact z_end hK hw ht hW⟩, by subst hAe; exact hw.2.2.F ht⟩) (by subst hAe; exact hw.2.2.2.2) dX2_canBe_57
                · skip
                  refine lv_iload hx hb dX2_canBe_40 (lv_at hl 4 rfl) ?_
                  refine z_if_lt (tgt := 56) hx hb dX2_canBe_42 (by decide) (by omega) (fun hc_17 => ?_) (fun hc_17 => ?_)
                  · skip
                    refine z_iconst hx hb dX2_canBe_56 ?_
                    have hv_18 : (canBeP k le lo ta sh ∧ (0 : Int) = 1) ∨ (¬ canBeP k le lo ta sh ∧ (0 : Int) = 0) := by
                      unfold canBeP; omega
                    exact W.zret (v := zI 0) hx hb hr rfl (fun t9 ht hW => ⟨⟨zI 0, 0, rfl, ⟨rfl, hv_18⟩, by subst hAe; exact z_end hK hw ht hW⟩, by subst hAe; exact hw.2.2.F ht⟩) (by subst hAe; exact hw.2.2.2.2) dX2_canBe_57
                  · skip
                    refine lv_iload hx hb dX2_canBe_45 (lv_at hl 4 rfl) ?_
                    refine z_bipush hx hb dX2_canBe_47 (by decide) ?_
                    refine z_icmp_gt (tgt := 56) hx hb dX2_canBe_49 (by decide) (by omega) (fun hc_19 => ?_) (fun hc_19 => ?_)
                    · skip
                      refine z_iconst hx hb dX2_canBe_56 ?_
                      have hv_20 : (canBeP k le lo ta sh ∧ (0 : Int) = 1) ∨ (¬ canBeP k le lo ta sh ∧ (0 : Int) = 0) := by
                        unfold canBeP; omega
                      exact W.zret (v := zI 0) hx hb hr rfl (fun t9 ht hW => ⟨⟨zI 0, 0, rfl, ⟨rfl, hv_20⟩, by subst hAe; exact z_end hK hw ht hW⟩, by subst hAe; exact hw.2.2.F ht⟩) (by subst hAe; exact hw.2.2.2.2) dX2_canBe_57
                    · skip
                      refine z_iconst hx hb dX2_canBe_52 ?_
                      refine lv_goto (tgt := 57) hx hb dX2_canBe_53 (by decide) ?_
                      have hv_21 : (canBeP k le lo ta sh ∧ (1 : Int) = 1) ∨ (¬ canBeP k le lo ta sh ∧ (1 : Int) = 0) := by
                        unfold canBeP; omega
                      exact W.zret (v := zI 1) hx hb hr rfl (fun t9 ht hW => ⟨⟨zI 1, 1, rfl, ⟨rfl, hv_21⟩, by subst hAe; exact z_end hK hw ht hW⟩, by subst hAe; exact hw.2.2.F ht⟩) (by subst hAe; exact hw.2.2.2.2) dX2_canBe_57
set_option maxRecDepth 100000 in
set_option maxHeartbeats 4000000 in
theorem c_X2_frightens (l : Launch) (D : va_G) (cI cB cZ : ClassId) (oG : Nat → Nat) (sz : Nat) (Gn : Int) (Gki : Int → Int) (Gle : Int → Int) (Glo : Int → Int) (Gta : Int → Int) (Gsh : Int → Int) (g : Int) (o : Int) (qGn : 0 ≤ Gn ∧ Gn ≤ 8) (qGki : RA Gki (0) 4) (qGle : RA Gle (0) 5) (qGlo : RA Glo (0) 9) (qGta : RA Gta (0) 9) (qGsh : RA Gsh (0) 9) (qg : 0 ≤ g ∧ g ≤ 7) (qo : 0 ≤ o ∧ o ≤ 7) : Met l yX2_frightens wsX2_frightens ({ frames := 0, cells := 0, slots := 0, locals := 0 }) (va_Pc [.ref (oG 0), .int (zI g), .int (zI o)] (zPre D cI cB cZ sz (kG cI cB cZ oG Gn Gki Gle Glo Gta Gsh))) (va_Qi (fun (r9 : Int32) (u9 : Int) => r9 = zI u9 ∧ (((frP Gki Glo Gsh g o ∧ u9 = 1) ∨ (¬ frP Gki Glo Gsh g o ∧ u9 = 0)))) (fun u9 t9 => zAt D cI cB cZ (va_A (kG cI cB cZ oG Gn Gki Gle Glo Gta Gsh) sz) (kG cI cB cZ oG Gn Gki Gle Glo Gta Gsh) t9) (va_A (kG cI cB cZ oG Gn Gki Gle Glo Gta Gsh) sz)) 0 0 (va_A (kG cI cB cZ oG Gn Gki Gle Glo Gta Gsh) sz) := by
  refine Met.ofW (cc := cX2_frightens) (maxL := 3) (ret := (some .boolean)) (by decide) rfl ?_
  intro pp ee s mm aa bw mt cd s₁ BL hml hv
  obtain ⟨rfl, hsz, hP, hK, hD0⟩ := hv
  have hx := BL.exec
  have hb := BL.bytes
  have hr := BL.returns
  have hts := atoms_spec (ws := wsX2_frightens) BL.pre
  have hown : s.vm.findClass RX2 = some mm.cls := findClass_of_methodNamed BL.named
  have hlocks := BL.notSynchronized
  subst hsz
  generalize hAe : va_A (kG cI cB cZ oG Gn Gki Gle Glo Gta Gsh) s.heap.size = A
  have hA : ∀ q : Nat, s.heap.size ≤ q → A q := fun q h => by rw [← hAe]; exact Or.inr h
  have hw : HW D A s.heap (kG cI cB cZ oG Gn Gki Gle Glo Gta Gsh) s.heap [] := z_start hAe hP hD0
  clear hP hD0
  have hl := lv_entry ([.ref (oG 0), .int (zI g), .int (zI o)]) (n := 3) (Nat.le_of_ble_eq_true rfl)
  rw [lg_entry_eq]
  generalize (lg_sl ([.ref (oG 0), .int (zI g), .int (zI o)]) ++ List.replicate (3 - (lg_sl ([.ref (oG 0), .int (zI g), .int (zI o)])).length) Slot.unset).toArray = ls at hl ⊢
  have hl : lv_has ls 3 [(0, .ref (oG 0)), (1, .int (zI g)), (2, .int (zI o))] := hl
  have hinX2 : ∀ w ∈ wsX20, w ∈ wsX2_frightens := by decide +kernel
  refine lv_aload_n hx hb dX2_frightens_0 rfl (lv_at hl 0 rfl) ?_
  refine va_get (D := D) (ci := 2) (v := .ref (oG 1)) (C := RX2) (T := TX2) (N := 6) hx hb hts hinX2 hown hK hw.1 0 rfl rfl 1 (by decide) (hts (.fieldLink RX2 15 "CarnivalRoad$Guests" "kinds" "[I") (by decide +kernel)) (fun _ h9 => h9) rfl dX2_frightens_1 ?_
  refine lv_iload_n hx hb dX2_frightens_4 rfl (lv_at hl 2 rfl) ?_
  have hi_1 : (0 : Int) ≤ o ∧ o < ((8 : Nat) : Int) := by
    first | assumption | omega | grind
  refine z_iald (n := 8) (f := Gki) hx hb hK hw 1 rfl (by decide) hi_1 dX2_frightens_5 ?_
  have hq_2 : 0 ≤ Gki o ∧ Gki o ≤ 4 := qGki o
  refine z_iconst hx hb dX2_frightens_6 ?_
  refine z_icmp_ne (tgt := 29) hx hb dX2_frightens_7 (by decide) (by omega) (fun hc_3 => ?_) (fun hc_3 => ?_)
  · skip
    refine z_iconst hx hb dX2_frightens_29 ?_
    have hv_4 : (frP Gki Glo Gsh g o ∧ (0 : Int) = 1) ∨ (¬ frP Gki Glo Gsh g o ∧ (0 : Int) = 0) := by
      unfold frP; omega
    exact W.zret (v := zI 0) hx hb hr rfl (fun t9 ht hW => ⟨⟨zI 0, 0, rfl, ⟨rfl, hv_4⟩, by subst hAe; exact z_end hK hw ht hW⟩, by subst hAe; exact hw.2.2.F ht⟩) (by subst hAe; exact hw.2.2.2.2) dX2_frightens_30
  · skip
    refine lv_aload_n hx hb dX2_frightens_10 rfl (lv_at hl 0 rfl) ?_
    refine va_get (D := D) (ci := 2) (v := .ref (oG 3)) (C := RX2) (T := TX2) (N := 6) hx hb hts hinX2 hown hK hw.1 0 rfl rfl 3 (by decide) (hts (.fieldLink RX2 22 "CarnivalRoad$Guests" "louds" "[I") (by decide +kernel)) (fun _ h9 => h9) rfl dX2_frightens_11 ?_
    refine lv_iload_n hx hb dX2_frightens_14 rfl (lv_at hl 1 rfl) ?_
    have hi_5 : (0 : Int) ≤ g ∧ g < ((8 : Nat) : Int) := by
      first | assumption | omega | grind
    refine z_iald (n := 8) (f := Glo) hx hb hK hw 3 rfl (by decide) hi_5 dX2_frightens_15 ?_
    have hq_6 : 0 ≤ Glo g ∧ Glo g ≤ 9 := qGlo g
    refine lv_aload_n hx hb dX2_frightens_16 rfl (lv_at hl 0 rfl) ?_
    refine va_get (D := D) (ci := 2) (v := .ref (oG 5)) (C := RX2) (T := TX2) (N := 6) hx hb hts hinX2 hown hK hw.1 0 rfl rfl 5 (by decide) (hts (.fieldLink RX2 28 "CarnivalRoad$Guests" "shys" "[I") (by decide +kernel)) (fun _ h9 => h9) rfl dX2_frightens_17 ?_
    refine lv_iload_n hx hb dX2_frightens_20 rfl (lv_at hl 2 rfl) ?_
    have hi_7 : (0 : Int) ≤ o ∧ o < ((8 : Nat) : Int) := by
      first | assumption | omega | grind
    refine z_iald (n := 8) (f := Gsh) hx hb hK hw 5 rfl (by decide) hi_7 dX2_frightens_21 ?_
    have hq_8 : 0 ≤ Gsh o ∧ Gsh o ≤ 9 := qGsh o
    refine z_icmp_le (tgt := 29) hx hb dX2_frightens_22 (by decide) (by omega) (fun hc_9 => ?_) (fun hc_9 => ?_)
    · skip
      refine z_iconst hx hb dX2_frightens_29 ?_
      have hv_10 : (frP Gki Glo Gsh g o ∧ (0 : Int) = 1) ∨ (¬ frP Gki Glo Gsh g o ∧ (0 : Int) = 0) := by
        unfold frP; omega
      exact W.zret (v := zI 0) hx hb hr rfl (fun t9 ht hW => ⟨⟨zI 0, 0, rfl, ⟨rfl, hv_10⟩, by subst hAe; exact z_end hK hw ht hW⟩, by subst hAe; exact hw.2.2.F ht⟩) (by subst hAe; exact hw.2.2.2.2) dX2_frightens_30
    · skip
      refine z_iconst hx hb dX2_frightens_25 ?_
      refine lv_goto (tgt := 30) hx hb dX2_frightens_26 (by decide) ?_
      have hv_11 : (frP Gki Glo Gsh g o ∧ (1 : Int) = 1) ∨ (¬ frP Gki Glo Gsh g o ∧ (1 : Int) = 0) := by
        unfold frP; omega
      exact W.zret (v := zI 1) hx hb hr rfl (fun t9 ht hW => ⟨⟨zI 1, 1, rfl, ⟨rfl, hv_11⟩, by subst hAe; exact z_end hK hw ht hW⟩, by subst hAe; exact hw.2.2.F ht⟩) (by subst hAe; exact hw.2.2.2.2) dX2_frightens_30
set_option maxRecDepth 100000 in
set_option maxHeartbeats 4000000 in
theorem c_X2_noiseOf (l : Launch) (D : va_G) (cI cB cZ : ClassId) (oG : Nat → Nat) (aL : Nat) (sz : Nat) (Gn : Int) (Gki : Int → Int) (Gle : Int → Int) (Glo : Int → Int) (Gta : Int → Int) (Gsh : Int → Int) (fL : Int → Int) (qGn : 0 ≤ Gn ∧ Gn ≤ 8) (qGki : RA Gki (0) 4) (qGle : RA Gle (0) 5) (qGlo : RA Glo (0) 9) (qGta : RA Gta (0) 9) (qGsh : RA Gsh (0) 9) (qfL : RA fL (0) 7) : Met l yX2_noiseOf wsX2_noiseOf ({ frames := 0, cells := 0, slots := 0, locals := 0 }) (va_Pc [.ref (oG 0), .ref aL] (zPre D cI cB cZ sz (kG cI cB cZ oG Gn Gki Gle Glo Gta Gsh ++ [(aL, .inl (cI, 8, .inl (zA fL)))]))) (va_Qi (fun (r9 : Int32) (u9 : Int) => r9 = zI u9 ∧ ((u9 = noiseS Glo fL (Gn - 1).toNat) ∧ (0 ≤ u9 ∧ u9 ≤ 648))) (fun u9 t9 => zAt D cI cB cZ (va_A (kG cI cB cZ oG Gn Gki Gle Glo Gta Gsh ++ [(aL, .inl (cI, 8, .inl (zA fL)))]) sz) (kG cI cB cZ oG Gn Gki Gle Glo Gta Gsh ++ [(aL, .inl (cI, 8, .inl (zA fL)))]) t9) (va_A (kG cI cB cZ oG Gn Gki Gle Glo Gta Gsh ++ [(aL, .inl (cI, 8, .inl (zA fL)))]) sz)) 0 0 (va_A (kG cI cB cZ oG Gn Gki Gle Glo Gta Gsh ++ [(aL, .inl (cI, 8, .inl (zA fL)))]) sz) := by
  refine Met.ofW (cc := cX2_noiseOf) (maxL := 4) (ret := (some .int)) (by decide) rfl ?_
  intro pp ee s mm aa bw mt cd s₁ BL hml hv
  obtain ⟨rfl, hsz, hP, hK, hD0⟩ := hv
  have hx := BL.exec
  have hb := BL.bytes
  have hr := BL.returns
  have hts := atoms_spec (ws := wsX2_noiseOf) BL.pre
  have hown : s.vm.findClass RX2 = some mm.cls := findClass_of_methodNamed BL.named
  have hlocks := BL.notSynchronized
  subst hsz
  generalize hAe : va_A (kG cI cB cZ oG Gn Gki Gle Glo Gta Gsh ++ [(aL, .inl (cI, 8, .inl (zA fL)))]) s.heap.size = A
  have hA : ∀ q : Nat, s.heap.size ≤ q → A q := fun q h => by rw [← hAe]; exact Or.inr h
  have hw : HW D A s.heap (kG cI cB cZ oG Gn Gki Gle Glo Gta Gsh ++ [(aL, .inl (cI, 8, .inl (zA fL)))]) s.heap [] := z_start hAe hP hD0
  clear hP hD0
  have hl := lv_entry ([.ref (oG 0), .ref aL]) (n := 4) (Nat.le_of_ble_eq_true rfl)
  rw [lg_entry_eq]
  generalize (lg_sl ([.ref (oG 0), .ref aL]) ++ List.replicate (4 - (lg_sl ([.ref (oG 0), .ref aL])).length) Slot.unset).toArray = ls at hl ⊢
  have hl : lv_has ls 4 [(0, .ref (oG 0)), (1, .ref aL)] := hl
  have hinX2 : ∀ w ∈ wsX20, w ∈ wsX2_noiseOf := by decide +kernel
  refine z_iconst hx hb dX2_noiseOf_0 ?_
  refine lv_istore_n (lv' := [(2, .int (zI 0)), (0, .ref (oG 0)), (1, .ref aL)]) hx hb dX2_noiseOf_1 rfl hl (by decide) rfl (fun ls hl => ?_)
  refine z_iconst hx hb dX2_noiseOf_2 ?_
  refine lv_istore_n (lv' := [(3, .int (zI 1)), (2, .int (zI 0)), (0, .ref (oG 0)), (1, .ref aL)]) hx hb dX2_noiseOf_3 rfl hl (by decide) rfl (fun ls hl => ?_)
  have hv_1 : 1 ≤ (1 : Int) ∧ ((1 : Int) ≤ Gn ∨ (1 : Int) = 1) := by
    first | assumption | omega | grind
  have hv_2 : (0 : Int) = noiseS Glo fL ((1 : Int) - 1).toNat := by
    rfl
  refine z_loop (σ := Int × Int) (μ := fun x9 => (9 - (x9.2)).toNat) (I := fun x9 H locs ls => (1 ≤ (x9.2) ∧ ((x9.2) ≤ Gn ∨ (x9.2) = 1)) ∧ ((x9.1) = noiseS Glo fL ((x9.2) - 1).toNat) ∧ HW D A s.heap (kG cI cB cZ oG Gn Gki Gle Glo Gta Gsh ++ [(aL, .inl (cI, 8, .inl (zA fL)))]) H locs ∧ lv_has ls 4 [(0, .ref (oG 0)), (1, .ref aL), (2, .int (zI (x9.1))), (3, .int (zI (x9.2)))]) (0, 1) ⟨hv_1, hv_2, hw, lv_sub hl [2, 3, 1, 0] rfl⟩ ?_
  clear hw hl
  intro x9 H locs ls hI ih_3
  obtain ⟨sum_4, i_5⟩ := x9
  try dsimp only at hI
  obtain ⟨hI_6, hI_7, hw, hl⟩ := hI
  refine lv_iload_n hx hb dX2_noiseOf_4 rfl (lv_at hl 3 rfl) ?_
  refine lv_aload_n hx hb dX2_noiseOf_5 rfl (lv_at hl 0 rfl) ?_
  refine va_get (D := D) (ci := 2) (v := .int (zI Gn)) (C := RX2) (T := TX2) (N := 6) hx hb hts hinX2 hown hK hw.1 0 rfl rfl 0 (by decide) (hts (.fieldLink RX2 9 "CarnivalRoad$Guests" "count" "I") (by decide +kernel)) (fun _ h9 => h9) rfl dX2_noiseOf_6 ?_
  refine z_icmp_ge (tgt := 40) hx hb dX2_noiseOf_9 (by decide) (by omega) (fun hc_8 => ?_) (fun hc_8 => ?_)
  · skip
    refine lv_iload_n hx hb dX2_noiseOf_40 rfl (lv_at hl 2 rfl) ?_
    have hv_9 : sum_4 = noiseS Glo fL (Gn - 1).toNat := by
      rw [show (Gn - 1).toNat = (i_5 - 1).toNat by omega]; assumption
    have hv_10 : 0 ≤ sum_4 ∧ sum_4 ≤ 648 := by
      have q9 := noise_rng qGlo (f := fL) (Gn - 1).toNat
      omega
    exact W.iret (v := zI sum_4) hx hb hr (fun t9 ht hW => ⟨⟨zI sum_4, sum_4, rfl, ⟨rfl, ⟨hv_9, hv_10⟩⟩, by subst hAe; exact z_end hK hw ht hW⟩, by subst hAe; exact hw.2.2.F ht⟩) (by subst hAe; exact hw.2.2.2.2) dX2_noiseOf_41
  · skip
    refine lv_iload_n hx hb dX2_noiseOf_12 rfl (lv_at hl 2 rfl) ?_
    refine lv_aload_n hx hb dX2_noiseOf_13 rfl (lv_at hl 0 rfl) ?_
    refine va_get (D := D) (ci := 2) (v := .ref (oG 3)) (C := RX2) (T := TX2) (N := 6) hx hb hts hinX2 hown hK hw.1 0 rfl rfl 3 (by decide) (hts (.fieldLink RX2 22 "CarnivalRoad$Guests" "louds" "[I") (by decide +kernel)) (fun _ h9 => h9) rfl dX2_noiseOf_14 ?_
    refine lv_aload_n hx hb dX2_noiseOf_17 rfl (lv_at hl 1 rfl) ?_
    refine lv_iload_n hx hb dX2_noiseOf_18 rfl (lv_at hl 3 rfl) ?_
    refine z_iconst hx hb dX2_noiseOf_19 ?_
    refine z_isub hx hb dX2_noiseOf_20 ?_
    have hi_11 : (0 : Int) ≤ (i_5 - 1) ∧ (i_5 - 1) < ((8 : Nat) : Int) := by
      first | assumption | omega | grind
    refine z_iald (n := 8) (f := fL) hx hb hK hw 6 rfl (by decide) hi_11 dX2_noiseOf_21 ?_
    have hq_12 : 0 ≤ fL (i_5 - 1) ∧ fL (i_5 - 1) ≤ 7 := qfL (i_5 - 1)
    have hi_13 : (0 : Int) ≤ (fL (i_5 - 1)) ∧ (fL (i_5 - 1)) < ((8 : Nat) : Int) := by
      first | assumption | omega | grind
    refine z_iald (n := 8) (f := Glo) hx hb hK hw 3 rfl (by decide) hi_13 dX2_noiseOf_22 ?_
    have hq_14 : 0 ≤ Glo (fL (i_5 - 1)) ∧ Glo (fL (i_5 - 1)) ≤ 9 := qGlo (fL (i_5 - 1))
    refine lv_aload_n hx hb dX2_noiseOf_23 rfl (lv_at hl 0 rfl) ?_
    refine va_get (D := D) (ci := 2) (v := .ref (oG 3)) (C := RX2) (T := TX2) (N := 6) hx hb hts hinX2 hown hK hw.1 0 rfl rfl 3 (by decide) (hts (.fieldLink RX2 22 "CarnivalRoad$Guests" "louds" "[I") (by decide +kernel)) (fun _ h9 => h9) rfl dX2_noiseOf_24 ?_
    refine lv_aload_n hx hb dX2_noiseOf_27 rfl (lv_at hl 1 rfl) ?_
    refine lv_iload_n hx hb dX2_noiseOf_28 rfl (lv_at hl 3 rfl) ?_
    have hi_15 : (0 : Int) ≤ i_5 ∧ i_5 < ((8 : Nat) : Int) := by
      first | assumption | omega | grind
    refine z_iald (n := 8) (f := fL) hx hb hK hw 6 rfl (by decide) hi_15 dX2_noiseOf_29 ?_
    have hq_16 : 0 ≤ fL i_5 ∧ fL i_5 ≤ 7 := qfL i_5
    have hi_17 : (0 : Int) ≤ (fL i_5) ∧ (fL i_5) < ((8 : Nat) : Int) := by
      first | assumption | omega | grind
    refine z_iald (n := 8) (f := Glo) hx hb hK hw 3 rfl (by decide) hi_17 dX2_noiseOf_30 ?_
    have hq_18 : 0 ≤ Glo (fL i_5) ∧ Glo (fL i_5) ≤ 9 := qGlo (fL i_5)
    refine z_imul hx hb dX2_noiseOf_31 ?_
    refine z_iadd hx hb dX2_noiseOf_32 ?_
    refine lv_istore_n (lv' := [(2, .int (zI (sum_4 + ((Glo (fL (i_5 - 1))) * (Glo (fL i_5)))))), (0, .ref (oG 0)), (1, .ref aL), (3, .int (zI i_5))]) hx hb dX2_noiseOf_33 rfl hl (by decide) rfl (fun ls hl => ?_)
    refine z_iinc (k := 3) (lv' := [(3, .int (zI (i_5 + 1))), (2, .int (zI (sum_4 + ((Glo (fL (i_5 - 1))) * (Glo (fL i_5)))))), (0, .ref (oG 0)), (1, .ref aL)]) hx hb dX2_noiseOf_34 hl rfl (by decide) rfl (fun ls hl => ?_)
    refine lv_goto (tgt := 4) hx hb dX2_noiseOf_37 (by decide) ?_
    have hv_19 : 1 ≤ (i_5 + 1) ∧ ((i_5 + 1) ≤ Gn ∨ (i_5 + 1) = 1) := by
      first | assumption | omega | grind
    have hv_20 : (sum_4 + ((Glo (fL (i_5 - 1))) * (Glo (fL i_5)))) = noiseS Glo fL ((i_5 + 1) - 1).toNat := by
      rw [noise_step (by omega)]; omega
    have hm_21 : (9 - (i_5 + 1)).toNat < (9 - i_5).toNat := by
      first | assumption | omega | grind
    exact ih_3 ((sum_4 + ((Glo (fL (i_5 - 1))) * (Glo (fL i_5)))), (i_5 + 1)) _ _ _ ⟨hv_19, hv_20, hw, lv_sub hl [2, 3, 1, 0] rfl⟩ hm_21
set_option maxRecDepth 100000 in
set_option maxHeartbeats 4000000 in
theorem c_X2_add (l : Launch) (D : va_G) (cI cB cZ : ClassId) (oG : Nat → Nat) (sz : Nat) (Gn : Int) (Gki : Int → Int) (Gle : Int → Int) (Glo : Int → Int) (Gta : Int → Int) (Gsh : Int → Int) (k : Int) (le : Int) (lo : Int) (ta : Int) (sh : Int) (qGn : 0 ≤ Gn ∧ Gn ≤ 8) (qGki : RA Gki (0) 4) (qGle : RA Gle (0) 5) (qGlo : RA Glo (0) 9) (qGta : RA Gta (0) 9) (qGsh : RA Gsh (0) 9) (qk : 0 ≤ k ∧ k ≤ 4) (qle : 1 ≤ le ∧ le ≤ 5) (qlo : 0 ≤ lo ∧ lo ≤ 9) (qta : 0 ≤ ta ∧ ta ≤ 9) (qsh : 0 ≤ sh ∧ sh ≤ 9) (hp0 : Gn < 8) : Met l yX2_add wsX2_add ({ frames := 0, cells := 0, slots := 0, locals := 0 }) (va_Pc [.ref (oG 0), .int (zI k), .int (zI le), .int (zI lo), .int (zI ta), .int (zI sh)] (zPre D cI cB cZ sz (kG cI cB cZ oG Gn Gki Gle Glo Gta Gsh))) (va_Qv (fun (u9 : Int × (Int → Int) × (Int → Int) × (Int → Int) × (Int → Int) × (Int → Int)) => ((0 : Int) ≤ u9.1 ∧ u9.1 ≤ 8) ∧ (RA u9.2.1 (0) 4) ∧ (RA u9.2.2.1 (0) 5) ∧ (RA u9.2.2.2.1 (0) 9) ∧ (RA u9.2.2.2.2.1 (0) 9) ∧ (RA u9.2.2.2.2.2 (0) 9) ∧ (u9.1 = Gn + 1) ∧ (u9.2.1 = uZ Gki Gn k) ∧ (u9.2.2.1 = uZ Gle Gn le) ∧ (u9.2.2.2.1 = uZ Glo Gn lo) ∧ (u9.2.2.2.2.1 = uZ Gta Gn ta) ∧ (u9.2.2.2.2.2 = uZ Gsh Gn sh)) (fun u9 t9 => zAt D cI cB cZ (va_A (kG cI cB cZ oG Gn Gki Gle Glo Gta Gsh) sz) (kG cI cB cZ oG (u9.1) (u9.2.1) (u9.2.2.1) (u9.2.2.2.1) (u9.2.2.2.2.1) (u9.2.2.2.2.2)) t9) (va_A (kG cI cB cZ oG Gn Gki Gle Glo Gta Gsh) sz)) 0 0 (va_A (kG cI cB cZ oG Gn Gki Gle Glo Gta Gsh) sz) := by
  refine Met.ofW (cc := cX2_add) (maxL := 6) (ret := none) (by decide) rfl ?_
  intro pp ee s mm aa bw mt cd s₁ BL hml hv
  obtain ⟨rfl, hsz, hP, hK, hD0⟩ := hv
  have hx := BL.exec
  have hb := BL.bytes
  have hr := BL.returns
  have hts := atoms_spec (ws := wsX2_add) BL.pre
  have hown : s.vm.findClass RX2 = some mm.cls := findClass_of_methodNamed BL.named
  have hlocks := BL.notSynchronized
  subst hsz
  generalize hAe : va_A (kG cI cB cZ oG Gn Gki Gle Glo Gta Gsh) s.heap.size = A
  have hA : ∀ q : Nat, s.heap.size ≤ q → A q := fun q h => by rw [← hAe]; exact Or.inr h
  have hw : HW D A s.heap (kG cI cB cZ oG Gn Gki Gle Glo Gta Gsh) s.heap [] := z_start hAe hP hD0
  clear hP hD0
  have hl := lv_entry ([.ref (oG 0), .int (zI k), .int (zI le), .int (zI lo), .int (zI ta), .int (zI sh)]) (n := 6) (Nat.le_of_ble_eq_true rfl)
  rw [lg_entry_eq]
  generalize (lg_sl ([.ref (oG 0), .int (zI k), .int (zI le), .int (zI lo), .int (zI ta), .int (zI sh)]) ++ List.replicate (6 - (lg_sl ([.ref (oG 0), .int (zI k), .int (zI le), .int (zI lo), .int (zI ta), .int (zI sh)])).length) Slot.unset).toArray = ls at hl ⊢
  have hl : lv_has ls 6 [(0, .ref (oG 0)), (1, .int (zI k)), (2, .int (zI le)), (3, .int (zI lo)), (4, .int (zI ta)), (5, .int (zI sh))] := hl
  have hinX2 : ∀ w ∈ wsX20, w ∈ wsX2_add := by decide +kernel
  refine lv_aload_n hx hb dX2_add_0 rfl (lv_at hl 0 rfl) ?_
  refine va_get (D := D) (ci := 2) (v := .int (zI Gn)) (C := RX2) (T := TX2) (N := 6) hx hb hts hinX2 hown hK hw.1 0 rfl rfl 0 (by decide) (hts (.fieldLink RX2 9 "CarnivalRoad$Guests" "count" "I") (by decide +kernel)) (fun _ h9 => h9) rfl dX2_add_1 ?_
  refine z_bipush hx hb dX2_add_4 (by decide) ?_
  refine z_icmp_lt (tgt := 10) hx hb dX2_add_6 (by decide) (by omega) (fun hc_1 => ?_) (fun hc_1 => ?_)
  · skip
    refine lv_aload_n hx hb dX2_add_10 rfl (lv_at hl 0 rfl) ?_
    refine va_get (D := D) (ci := 2) (v := .ref (oG 1)) (C := RX2) (T := TX2) (N := 6) hx hb hts hinX2 hown hK hw.1 0 rfl rfl 1 (by decide) (hts (.fieldLink RX2 15 "CarnivalRoad$Guests" "kinds" "[I") (by decide +kernel)) (fun _ h9 => h9) rfl dX2_add_11 ?_
    refine lv_aload_n hx hb dX2_add_14 rfl (lv_at hl 0 rfl) ?_
    refine va_get (D := D) (ci := 2) (v := .int (zI Gn)) (C := RX2) (T := TX2) (N := 6) hx hb hts hinX2 hown hK hw.1 0 rfl rfl 0 (by decide) (hts (.fieldLink RX2 9 "CarnivalRoad$Guests" "count" "I") (by decide +kernel)) (fun _ h9 => h9) rfl dX2_add_15 ?_
    refine lv_iload_n hx hb dX2_add_18 rfl (lv_at hl 1 rfl) ?_
    have hi_2 : (0 : Int) ≤ Gn ∧ Gn < ((8 : Nat) : Int) := by
      first | rfl | omega
    have hv_3 : (0 : Int) ≤ k ∧ k ≤ 4 := by
      first | rfl | omega
    have hR_4 : RA (uZ Gki Gn k) (0) 4 := RA_up qGki hv_3
    refine z_iast (n := 8) (f := Gki) (ws2 := kG cI cB cZ oG Gn (uZ Gki Gn k) Gle Glo Gta Gsh) hx hb hK hw 1 rfl (by decide) hi_2 dX2_add_19 rfl (fun H locs hw => ?_)
    refine lv_aload_n hx hb dX2_add_20 rfl (lv_at hl 0 rfl) ?_
    refine va_get (D := D) (ci := 2) (v := .ref (oG 2)) (C := RX2) (T := TX2) (N := 6) hx hb hts hinX2 hown hK hw.1 0 rfl rfl 2 (by decide) (hts (.fieldLink RX2 19 "CarnivalRoad$Guests" "lengths" "[I") (by decide +kernel)) (fun _ h9 => h9) rfl dX2_add_21 ?_
    refine lv_aload_n hx hb dX2_add_24 rfl (lv_at hl 0 rfl) ?_
    refine va_get (D := D) (ci := 2) (v := .int (zI Gn)) (C := RX2) (T := TX2) (N := 6) hx hb hts hinX2 hown hK hw.1 0 rfl rfl 0 (by decide) (hts (.fieldLink RX2 9 "CarnivalRoad$Guests" "count" "I") (by decide +kernel)) (fun _ h9 => h9) rfl dX2_add_25 ?_
    refine lv_iload_n hx hb dX2_add_28 rfl (lv_at hl 2 rfl) ?_
    have hi_5 : (0 : Int) ≤ Gn ∧ Gn < ((8 : Nat) : Int) := by
      first | rfl | omega
    have hv_6 : (0 : Int) ≤ le ∧ le ≤ 5 := by
      first | rfl | omega
    have hR_7 : RA (uZ Gle Gn le) (0) 5 := RA_up qGle hv_6
    refine z_iast (n := 8) (f := Gle) (ws2 := kG cI cB cZ oG Gn (uZ Gki Gn k) (uZ Gle Gn le) Glo Gta Gsh) hx hb hK hw 2 rfl (by decide) hi_5 dX2_add_29 rfl (fun H locs hw => ?_)
    refine lv_aload_n hx hb dX2_add_30 rfl (lv_at hl 0 rfl) ?_
    refine va_get (D := D) (ci := 2) (v := .ref (oG 3)) (C := RX2) (T := TX2) (N := 6) hx hb hts hinX2 hown hK hw.1 0 rfl rfl 3 (by decide) (hts (.fieldLink RX2 22 "CarnivalRoad$Guests" "louds" "[I") (by decide +kernel)) (fun _ h9 => h9) rfl dX2_add_31 ?_
    refine lv_aload_n hx hb dX2_add_34 rfl (lv_at hl 0 rfl) ?_
    refine va_get (D := D) (ci := 2) (v := .int (zI Gn)) (C := RX2) (T := TX2) (N := 6) hx hb hts hinX2 hown hK hw.1 0 rfl rfl 0 (by decide) (hts (.fieldLink RX2 9 "CarnivalRoad$Guests" "count" "I") (by decide +kernel)) (fun _ h9 => h9) rfl dX2_add_35 ?_
    refine lv_iload_n hx hb dX2_add_38 rfl (lv_at hl 3 rfl) ?_
    have hi_8 : (0 : Int) ≤ Gn ∧ Gn < ((8 : Nat) : Int) := by
      first | rfl | omega
    have hv_9 : (0 : Int) ≤ lo ∧ lo ≤ 9 := by
      first | rfl | omega
    have hR_10 : RA (uZ Glo Gn lo) (0) 9 := RA_up qGlo hv_9
    refine z_iast (n := 8) (f := Glo) (ws2 := kG cI cB cZ oG Gn (uZ Gki Gn k) (uZ Gle Gn le) (uZ Glo Gn lo) Gta Gsh) hx hb hK hw 3 rfl (by decide) hi_8 dX2_add_39 rfl (fun H locs hw => ?_)
    refine lv_aload_n hx hb dX2_add_40 rfl (lv_at hl 0 rfl) ?_
    refine va_get (D := D) (ci := 2) (v := .ref (oG 4)) (C := RX2) (T := TX2) (N := 6) hx hb hts hinX2 hown hK hw.1 0 rfl rfl 4 (by decide) (hts (.fieldLink RX2 25 "CarnivalRoad$Guests" "talls" "[I") (by decide +kernel)) (fun _ h9 => h9) rfl dX2_add_41 ?_
    refine lv_aload_n hx hb dX2_add_44 rfl (lv_at hl 0 rfl) ?_
    refine va_get (D := D) (ci := 2) (v := .int (zI Gn)) (C := RX2) (T := TX2) (N := 6) hx hb hts hinX2 hown hK hw.1 0 rfl rfl 0 (by decide) (hts (.fieldLink RX2 9 "CarnivalRoad$Guests" "count" "I") (by decide +kernel)) (fun _ h9 => h9) rfl dX2_add_45 ?_
    refine lv_iload hx hb dX2_add_48 (lv_at hl 4 rfl) ?_
    have hi_11 : (0 : Int) ≤ Gn ∧ Gn < ((8 : Nat) : Int) := by
      first | rfl | omega
    have hv_12 : (0 : Int) ≤ ta ∧ ta ≤ 9 := by
      first | rfl | omega
    have hR_13 : RA (uZ Gta Gn ta) (0) 9 := RA_up qGta hv_12
    refine z_iast (n := 8) (f := Gta) (ws2 := kG cI cB cZ oG Gn (uZ Gki Gn k) (uZ Gle Gn le) (uZ Glo Gn lo) (uZ Gta Gn ta) Gsh) hx hb hK hw 4 rfl (by decide) hi_11 dX2_add_50 rfl (fun H locs hw => ?_)
    refine lv_aload_n hx hb dX2_add_51 rfl (lv_at hl 0 rfl) ?_
    refine va_get (D := D) (ci := 2) (v := .ref (oG 5)) (C := RX2) (T := TX2) (N := 6) hx hb hts hinX2 hown hK hw.1 0 rfl rfl 5 (by decide) (hts (.fieldLink RX2 28 "CarnivalRoad$Guests" "shys" "[I") (by decide +kernel)) (fun _ h9 => h9) rfl dX2_add_52 ?_
    refine lv_aload_n hx hb dX2_add_55 rfl (lv_at hl 0 rfl) ?_
    refine va_get (D := D) (ci := 2) (v := .int (zI Gn)) (C := RX2) (T := TX2) (N := 6) hx hb hts hinX2 hown hK hw.1 0 rfl rfl 0 (by decide) (hts (.fieldLink RX2 9 "CarnivalRoad$Guests" "count" "I") (by decide +kernel)) (fun _ h9 => h9) rfl dX2_add_56 ?_
    refine lv_iload hx hb dX2_add_59 (lv_at hl 5 rfl) ?_
    have hi_14 : (0 : Int) ≤ Gn ∧ Gn < ((8 : Nat) : Int) := by
      first | rfl | omega
    have hv_15 : (0 : Int) ≤ sh ∧ sh ≤ 9 := by
      first | rfl | omega
    have hR_16 : RA (uZ Gsh Gn sh) (0) 9 := RA_up qGsh hv_15
    refine z_iast (n := 8) (f := Gsh) (ws2 := kG cI cB cZ oG Gn (uZ Gki Gn k) (uZ Gle Gn le) (uZ Glo Gn lo) (uZ Gta Gn ta) (uZ Gsh Gn sh)) hx hb hK hw 5 rfl (by decide) hi_14 dX2_add_61 rfl (fun H locs hw => ?_)
    refine lv_aload_n hx hb dX2_add_62 rfl (lv_at hl 0 rfl) ?_
    refine lv_dup hx hb dX2_add_63 rfl ?_
    refine va_get (D := D) (ci := 2) (v := .int (zI Gn)) (C := RX2) (T := TX2) (N := 6) hx hb hts hinX2 hown hK hw.1 0 rfl rfl 0 (by decide) (hts (.fieldLink RX2 9 "CarnivalRoad$Guests" "count" "I") (by decide +kernel)) (fun _ h9 => h9) rfl dX2_add_64 ?_
    refine z_iconst hx hb dX2_add_67 ?_
    refine z_iadd hx hb dX2_add_68 ?_
    refine z_put (D := D) (ci := 2) (v := .int (zI (Gn + 1))) (ty := .int) (C := RX2) (T := TX2) (N := 6) (ws2 := kG cI cB cZ oG (Gn + 1) (uZ Gki Gn k) (uZ Gle Gn le) (uZ Glo Gn lo) (uZ Gta Gn ta) (uZ Gsh Gn sh)) hx hb hts hinX2 tyX2 tyX2_ok nmX2 hown hK hw 0 rfl rfl 0 (by decide) (hts (.fieldLink RX2 9 "CarnivalRoad$Guests" "count" "I") (by decide +kernel)) (fun _ h9 => h9) rfl (by decide +kernel) rfl rfl (Nat.le_of_ble_eq_true rfl) dX2_add_69 rfl (fun H locs hw => ?_)
    have hv_17 : (0 : Int) ≤ (Gn + 1) ∧ (Gn + 1) ≤ 8 := by
      first | rfl | omega
    have hv_18 : (Gn + 1) = Gn + 1 := by
      first | rfl | omega
    have hv_19 : (uZ Gki Gn k) = uZ Gki Gn k := by
      first | rfl | omega
    have hv_20 : (uZ Gle Gn le) = uZ Gle Gn le := by
      first | rfl | omega
    have hv_21 : (uZ Glo Gn lo) = uZ Glo Gn lo := by
      first | rfl | omega
    have hv_22 : (uZ Gta Gn ta) = uZ Gta Gn ta := by
      first | rfl | omega
    have hv_23 : (uZ Gsh Gn sh) = uZ Gsh Gn sh := by
      first | rfl | omega
    exact W.vret hx hb hr (fun t9 ht hW => ⟨⟨((Gn + 1), (uZ Gki Gn k), (uZ Gle Gn le), (uZ Glo Gn lo), (uZ Gta Gn ta), (uZ Gsh Gn sh)), rfl, ⟨hv_17, hR_4, hR_7, hR_10, hR_13, hR_16, hv_18, hv_19, hv_20, hv_21, hv_22, hv_23⟩, by subst hAe; exact z_end hK hw ht hW⟩, by subst hAe; exact hw.2.2.F ht⟩) (by subst hAe; exact hw.2.2.2.2) dX2_add_72
  · skip
    have hv_24 : (0 : Int) ≤ Gn ∧ Gn ≤ 8 := by
      first | rfl | omega
    have hv_25 : Gn = Gn + 1 := by
      first | rfl | omega
    have hv_26 : Gki = uZ Gki Gn k := by
      first | rfl | omega
    have hv_27 : Gle = uZ Gle Gn le := by
      first | rfl | omega
    have hv_28 : Glo = uZ Glo Gn lo := by
      first | rfl | omega
    have hv_29 : Gta = uZ Gta Gn ta := by
      first | rfl | omega
    have hv_30 : Gsh = uZ Gsh Gn sh := by
      first | rfl | omega
    exact W.vret hx hb hr (fun t9 ht hW => ⟨⟨(Gn, Gki, Gle, Glo, Gta, Gsh), rfl, ⟨hv_24, qGki, qGle, qGlo, qGta, qGsh, hv_25, hv_26, hv_27, hv_28, hv_29, hv_30⟩, by subst hAe; exact z_end hK hw ht hW⟩, by subst hAe; exact hw.2.2.F ht⟩) (by subst hAe; exact hw.2.2.2.2) dX2_add_9
