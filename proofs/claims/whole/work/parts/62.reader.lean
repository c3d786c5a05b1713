set_option maxRecDepth 100000 in
set_option maxHeartbeats 4000000 in
theorem c_X4_isBlank (l : Launch) (D : va_G) (cI cB cZ : ClassId) (sz : Nat) (c : Int) (qc : -2147483648 ≤ c ∧ c ≤ 2147483647) : Met l yX4_isBlank wsX4_isBlank ({ frames := 0, cells := 0, slots := 0, locals := 0 }) (va_Pc [.int (zI c)] (zPre D cI cB cZ sz (([] : va_W)))) (va_Qi (fun (r9 : Int32) (u9 : Int) => r9 = zI u9 ∧ ((((c = 32 ∨ c = 10) ∧ u9 = 1) ∨ (¬ (c = 32 ∨ c = 10) ∧ u9 = 0)))) (fun u9 t9 => zAt D cI cB cZ (va_A (([] : va_W)) sz) (([] : va_W)) t9) (va_A (([] : va_W)) sz)) 0 0 (va_A (([] : va_W)) sz) := by
  refine Met.ofW (cc := cX4_isBlank) (maxL := 1) (ret := (some .boolean)) (by decide) rfl ?_
  intro pp ee s mm aa bw mt cd s₁ BL hml hv
  obtain ⟨rfl, hsz, hP, hK, hD0⟩ := hv
  have hx := BL.exec
  have hb := BL.bytes
  have hr := BL.returns
  have hts := atoms_spec (ws := wsX4_isBlank) BL.pre
  have hown : s.vm.findClass RX4 = some mm.cls := findClass_of_methodNamed BL.named
  have hlocks := BL.notSynchronized
  subst hsz
  generalize hAe : va_A (([] : va_W)) s.heap.size = A
  have hA : ∀ q : Nat, s.heap.size ≤ q → A q := fun q h => by rw [← hAe]; exact Or.inr h
  have hw : HW D A s.heap (([] : va_W)) s.heap [] := z_start hAe hP hD0
  clear hP hD0
  have hl := lv_entry ([.int (zI c)]) (n := 1) (Nat.le_of_ble_eq_true rfl)
  rw [lg_entry_eq]
  generalize (lg_sl ([.int (zI c)]) ++ List.replicate (1 - (lg_sl ([.int (zI c)])).length) Slot.unset).toArray = ls at hl ⊢
  have hl : lv_has ls 1 [(0, .int (zI c))] := hl
  refine lv_iload_n hx hb dX4_isBlank_0 rfl (lv_at hl 0 rfl) ?_
  refine z_bipush hx hb dX4_isBlank_1 (by decide) ?_
  refine z_icmp_eq (tgt := 12) hx hb dX4_isBlank_3 (by decide) (by omega) (fun hc_1 => ?_) (fun hc_1 => ?_)
  · skip
    refine z_iconst hx hb dX4_isBlank_12 ?_
    refine lv_goto (tgt := 17) hx hb dX4_isBlank_13 (by decide) ?_
    have hv_2 : ((c = 32 ∨ c = 10) ∧ (1 : Int) = 1) ∨ (¬ (c = 32 ∨ c = 10) ∧ (1 : Int) = 0) := by
      first | assumption | omega | grind
    exact W.zret (v := zI 1) hx hb hr rfl (fun t9 ht hW => ⟨⟨zI 1, 1, rfl, ⟨rfl, hv_2⟩, by subst hAe; exact z_end hK hw ht hW⟩, by subst hAe; exact hw.2.2.F ht⟩) (by subst hAe; exact hw.2.2.2.2) dX4_isBlank_17
  · skip
    refine lv_iload_n hx hb dX4_isBlank_6 rfl (lv_at hl 0 rfl) ?_
    refine z_bipush hx hb dX4_isBlank_7 (by decide) ?_
    refine z_icmp_ne (tgt := 16) hx hb dX4_isBlank_9 (by decide) (by omega) (fun hc_3 => ?_) (fun hc_3 => ?_)
    · skip
      refine z_iconst hx hb dX4_isBlank_16 ?_
      have hv_4 : ((c = 32 ∨ c = 10) ∧ (0 : Int) = 1) ∨ (¬ (c = 32 ∨ c = 10) ∧ (0 : Int) = 0) := by
        first | assumption | omega | grind
      exact W.zret (v := zI 0) hx hb hr rfl (fun t9 ht hW => ⟨⟨zI 0, 0, rfl, ⟨rfl, hv_4⟩, by subst hAe; exact z_end hK hw ht hW⟩, by subst hAe; exact hw.2.2.F ht⟩) (by subst hAe; exact hw.2.2.2.2) dX4_isBlank_17
    · skip
      refine z_iconst hx hb dX4_isBlank_12 ?_
      refine lv_goto (tgt := 17) hx hb dX4_isBlank_13 (by decide) ?_
      have hv_5 : ((c = 32 ∨ c = 10) ∧ (1 : Int) = 1) ∨ (¬ (c = 32 ∨ c = 10) ∧ (1 : Int) = 0) := by
        first | assumption | omega | grind
      exact W.zret (v := zI 1) hx hb hr rfl (fun t9 ht hW => ⟨⟨zI 1, 1, rfl, ⟨rfl, hv_5⟩, by subst hAe; exact z_end hK hw ht hW⟩, by subst hAe; exact hw.2.2.F ht⟩) (by subst hAe; exact hw.2.2.2.2) dX4_isBlank_17
set_option maxRecDepth 100000 in
set_option maxHeartbeats 4000000 in
theorem c_X4_isLetter (l : Launch) (D : va_G) (cI cB cZ : ClassId) (sz : Nat) (c : Int) (qc : -2147483648 ≤ c ∧ c ≤ 2147483647) : Met l yX4_isLetter wsX4_isLetter ({ frames := 0, cells := 0, slots := 0, locals := 0 }) (va_Pc [.int (zI c)] (zPre D cI cB cZ sz (([] : va_W)))) (va_Qi (fun (r9 : Int32) (u9 : Int) => r9 = zI u9 ∧ (((((97 ≤ c ∧ c ≤ 122) ∨ (65 ≤ c ∧ c ≤ 90)) ∧ u9 = 1) ∨ (¬ ((97 ≤ c ∧ c ≤ 122) ∨ (65 ≤ c ∧ c ≤ 90)) ∧ u9 = 0)))) (fun u9 t9 => zAt D cI cB cZ (va_A (([] : va_W)) sz) (([] : va_W)) t9) (va_A (([] : va_W)) sz)) 0 0 (va_A (([] : va_W)) sz) := by
  refine Met.ofW (cc := cX4_isLetter) (maxL := 1) (ret := (some .boolean)) (by decide) rfl ?_
  intro pp ee s mm aa bw mt cd s₁ BL hml hv
  obtain ⟨rfl, hsz, hP, hK, hD0⟩ := hv
  have hx := BL.exec
  have hb := BL.bytes
  have hr := BL.returns
  have hts := atoms_spec (ws := wsX4_isLetter) BL.pre
  have hown : s.vm.findClass RX4 = some mm.cls := findClass_of_methodNamed BL.named
  have hlocks := BL.notSynchronized
  subst hsz
  generalize hAe : va_A (([] : va_W)) s.heap.size = A
  have hA : ∀ q : Nat, s.heap.size ≤ q → A q := fun q h => by rw [← hAe]; exact Or.inr h
  have hw : HW D A s.heap (([] : va_W)) s.heap [] := z_start hAe hP hD0
  clear hP hD0
  have hl := lv_entry ([.int (zI c)]) (n := 1) (Nat.le_of_ble_eq_true rfl)
  rw [lg_entry_eq]
  generalize (lg_sl ([.int (zI c)]) ++ List.replicate (1 - (lg_sl ([.int (zI c)])).length) Slot.unset).toArray = ls at hl ⊢
  have hl : lv_has ls 1 [(0, .int (zI c))] := hl
  refine lv_iload_n hx hb dX4_isLetter_0 rfl (lv_at hl 0 rfl) ?_
  refine z_bipush hx hb dX4_isLetter_1 (by decide) ?_
  refine z_icmp_lt (tgt := 12) hx hb dX4_isLetter_3 (by decide) (by omega) (fun hc_1 => ?_) (fun hc_1 => ?_)
  · skip
    refine lv_iload_n hx hb dX4_isLetter_12 rfl (lv_at hl 0 rfl) ?_
    refine z_bipush hx hb dX4_isLetter_13 (by decide) ?_
    refine z_icmp_lt (tgt := 28) hx hb dX4_isLetter_15 (by decide) (by omega) (fun hc_2 => ?_) (fun hc_2 => ?_)
    · skip
      refine z_iconst hx hb dX4_isLetter_28 ?_
      have hv_3 : (((97 ≤ c ∧ c ≤ 122) ∨ (65 ≤ c ∧ c ≤ 90)) ∧ (0 : Int) = 1) ∨ (¬ ((97 ≤ c ∧ c ≤ 122) ∨ (65 ≤ c ∧ c ≤ 90)) ∧ (0 : Int) = 0) := by
        first | assumption | omega | grind
      exact W.zret (v := zI 0) hx hb hr rfl (fun t9 ht hW => ⟨⟨zI 0, 0, rfl, ⟨rfl, hv_3⟩, by subst hAe; exact z_end hK hw ht hW⟩, by subst hAe; exact hw.2.2.F ht⟩) (by subst hAe; exact hw.2.2.2.2) dX4_isLetter_29
    · skip
      refine lv_iload_n hx hb dX4_isLetter_18 rfl (lv_at hl 0 rfl) ?_
      refine z_bipush hx hb dX4_isLetter_19 (by decide) ?_
      refine z_icmp_gt (tgt := 28) hx hb dX4_isLetter_21 (by decide) (by omega) (fun hc_4 => ?_) (fun hc_4 => ?_)
      · skip
        refine z_iconst hx hb dX4_isLetter_28 ?_
        have hv_5 : (((97 ≤ c ∧ c ≤ 122) ∨ (65 ≤ c ∧ c ≤ 90)) ∧ (0 : Int) = 1) ∨ (¬ ((97 ≤ c ∧ c ≤ 122) ∨ (65 ≤ c ∧ c ≤ 90)) ∧ (0 : Int) = 0) := by
          first | assumption | omega | grind
        exact W.zret (v := zI 0) hx hb hr rfl (fun t9 ht hW => ⟨⟨zI 0, 0, rfl, ⟨rfl, hv_5⟩, by subst hAe; exact z_end hK hw ht hW⟩, by subst hAe; exact hw.2.2.F ht⟩) (by subst hAe; exact hw.2.2.2.2) dX4_isLetter_29
      · skip
        refine z_iconst hx hb dX4_isLetter_24 ?_
        refine lv_goto (tgt := 29) hx hb dX4_isLetter_25 (by decide) ?_
        have hv_6 : (((97 ≤ c ∧ c ≤ 122) ∨ (65 ≤ c ∧ c ≤ 90)) ∧ (1 : Int) = 1) ∨ (¬ ((97 ≤ c ∧ c ≤ 122) ∨ (65 ≤ c ∧ c ≤ 90)) ∧ (1 : Int) = 0) := by
          first | assumption | omega | grind
        exact W.zret (v := zI 1) hx hb hr rfl (fun t9 ht hW => ⟨⟨zI 1, 1, rfl, ⟨rfl, hv_6⟩, by subst hAe; exact z_end hK hw ht hW⟩, by subst hAe; exact hw.2.2.F ht⟩) (by subst hAe; exact hw.2.2.2.2) dX4_isLetter_29
  · skip
    refine lv_iload_n hx hb dX4_isLetter_6 rfl (lv_at hl 0 rfl) ?_
    refine z_bipush hx hb dX4_isLetter_7 (by decide) ?_
    refine z_icmp_le (tgt := 24) hx hb dX4_isLetter_9 (by decide) (by omega) (fun hc_7 => ?_) (fun hc_7 => ?_)
    · skip
      refine z_iconst hx hb dX4_isLetter_24 ?_
      refine lv_goto (tgt := 29) hx hb dX4_isLetter_25 (by decide) ?_
      have hv_8 : (((97 ≤ c ∧ c ≤ 122) ∨ (65 ≤ c ∧ c ≤ 90)) ∧ (1 : Int) = 1) ∨ (¬ ((97 ≤ c ∧ c ≤ 122) ∨ (65 ≤ c ∧ c ≤ 90)) ∧ (1 : Int) = 0) := by
        first | assumption | omega | grind
      exact W.zret (v := zI 1) hx hb hr rfl (fun t9 ht hW => ⟨⟨zI 1, 1, rfl, ⟨rfl, hv_8⟩, by subst hAe; exact z_end hK hw ht hW⟩, by subst hAe; exact hw.2.2.F ht⟩) (by subst hAe; exact hw.2.2.2.2) dX4_isLetter_29
    · skip
      refine lv_iload_n hx hb dX4_isLetter_12 rfl (lv_at hl 0 rfl) ?_
      refine z_bipush hx hb dX4_isLetter_13 (by decide) ?_
      refine z_icmp_lt (tgt := 28) hx hb dX4_isLetter_15 (by decide) (by omega) (fun hc_9 => ?_) (fun hc_9 => ?_)
      · skip
        refine z_iconst hx hb dX4_isLetter_28 ?_
        have hv_10 : (((97 ≤ c ∧ c ≤ 122) ∨ (65 ≤ c ∧ c ≤ 90)) ∧ (0 : Int) = 1) ∨ (¬ ((97 ≤ c ∧ c ≤ 122) ∨ (65 ≤ c ∧ c ≤ 90)) ∧ (0 : Int) = 0) := by
          first | assumption | omega | grind
        exact W.zret (v := zI 0) hx hb hr rfl (fun t9 ht hW => ⟨⟨zI 0, 0, rfl, ⟨rfl, hv_10⟩, by subst hAe; exact z_end hK hw ht hW⟩, by subst hAe; exact hw.2.2.F ht⟩) (by subst hAe; exact hw.2.2.2.2) dX4_isLetter_29
      · skip
        refine lv_iload_n hx hb dX4_isLetter_18 rfl (lv_at hl 0 rfl) ?_
        refine z_bipush hx hb dX4_isLetter_19 (by decide) ?_
        refine z_icmp_gt (tgt := 28) hx hb dX4_isLetter_21 (by decide) (by omega) (fun hc_11 => ?_) (fun hc_11 => ?_)
        · skip
          refine z_iconst hx hb dX4_isLetter_28 ?_
          have hv_12 : (((97 ≤ c ∧ c ≤ 122) ∨ (65 ≤ c ∧ c ≤ 90)) ∧ (0 : Int) = 1) ∨ (¬ ((97 ≤ c ∧ c ≤ 122) ∨ (65 ≤ c ∧ c ≤ 90)) ∧ (0 : Int) = 0) := by
            first | assumption | omega | grind
          exact W.zret (v := zI 0) hx hb hr rfl (fun t9 ht hW => ⟨⟨zI 0, 0, rfl, ⟨rfl, hv_12⟩, by subst hAe; exact z_end hK hw ht hW⟩, by subst hAe; exact hw.2.2.F ht⟩) (by subst hAe; exact hw.2.2.2.2) dX4_isLetter_29
        · skip
          refine z_iconst hx hb dX4_isLetter_24 ?_
          refine lv_goto (tgt := 29) hx hb dX4_isLetter_25 (by decide) ?_
          have hv_13 : (((97 ≤ c ∧ c ≤ 122) ∨ (65 ≤ c ∧ c ≤ 90)) ∧ (1 : Int) = 1) ∨ (¬ ((97 ≤ c ∧ c ≤ 122) ∨ (65 ≤ c ∧ c ≤ 90)) ∧ (1 : Int) = 0) := by
            first | assumption | omega | grind
          exact W.zret (v := zI 1) hx hb hr rfl (fun t9 ht hW => ⟨⟨zI 1, 1, rfl, ⟨rfl, hv_13⟩, by subst hAe; exact z_end hK hw ht hW⟩, by subst hAe; exact hw.2.2.F ht⟩) (by subst hAe; exact hw.2.2.2.2) dX4_isLetter_29
set_option maxRecDepth 100000 in
set_option maxHeartbeats 4000000 in
theorem c_X4_isDigit (l : Launch) (D : va_G) (cI cB cZ : ClassId) (sz : Nat) (c : Int) (qc : -2147483648 ≤ c ∧ c ≤ 2147483647) : Met l yX4_isDigit wsX4_isDigit ({ frames := 0, cells := 0, slots := 0, locals := 0 }) (va_Pc [.int (zI c)] (zPre D cI cB cZ sz (([] : va_W)))) (va_Qi (fun (r9 : Int32) (u9 : Int) => r9 = zI u9 ∧ ((((48 ≤ c ∧ c ≤ 57) ∧ u9 = 1) ∨ (¬ (48 ≤ c ∧ c ≤ 57) ∧ u9 = 0)))) (fun u9 t9 => zAt D cI cB cZ (va_A (([] : va_W)) sz) (([] : va_W)) t9) (va_A (([] : va_W)) sz)) 0 0 (va_A (([] : va_W)) sz) := by
  refine Met.ofW (cc := cX4_isDigit) (maxL := 1) (ret := (some .boolean)) (by decide) rfl ?_
  intro pp ee s mm aa bw mt cd s₁ BL hml hv
  obtain ⟨rfl, hsz, hP, hK, hD0⟩ := hv
  have hx := BL.exec
  have hb := BL.bytes
  have hr := BL.returns
  have hts := atoms_spec (ws := wsX4_isDigit) BL.pre
  have hown : s.vm.findClass RX4 = some mm.cls := findClass_of_methodNamed BL.named
  have hlocks := BL.notSynchronized
  subst hsz
  generalize hAe : va_A (([] : va_W)) s.heap.size = A
  have hA : ∀ q : Nat, s.heap.size ≤ q → A q := fun q h => by rw [← hAe]; exact Or.inr h
  have hw : HW D A s.heap (([] : va_W)) s.heap [] := z_start hAe hP hD0
  clear hP hD0
  have hl := lv_entry ([.int (zI c)]) (n := 1) (Nat.le_of_ble_eq_true rfl)
  rw [lg_entry_eq]
  generalize (lg_sl ([.int (zI c)]) ++ List.replicate (1 - (lg_sl ([.int (zI c)])).length) Slot.unset).toArray = ls at hl ⊢
  have hl : lv_has ls 1 [(0, .int (zI c))] := hl
  refine lv_iload_n hx hb dX4_isDigit_0 rfl (lv_at hl 0 rfl) ?_
  refine z_bipush hx hb dX4_isDigit_1 (by decide) ?_
  refine z_icmp_lt (tgt := 16) hx hb dX4_isDigit_3 (by decide) (by omega) (fun hc_1 => ?_) (fun hc_1 => ?_)
  · skip
    refine z_iconst hx hb dX4_isDigit_16 ?_
    have hv_2 : ((48 ≤ c ∧ c ≤ 57) ∧ (0 : Int) = 1) ∨ (¬ (48 ≤ c ∧ c ≤ 57) ∧ (0 : Int) = 0) := by
      first | assumption | omega | grind
    exact W.zret (v := zI 0) hx hb hr rfl (fun t9 ht hW => ⟨⟨zI 0, 0, rfl, ⟨rfl, hv_2⟩, by subst hAe; exact z_end hK hw ht hW⟩, by subst hAe; exact hw.2.2.F ht⟩) (by subst hAe; exact hw.2.2.2.2) dX4_isDigit_17
  · skip
    refine lv_iload_n hx hb dX4_isDigit_6 rfl (lv_at hl 0 rfl) ?_
    refine z_bipush hx hb dX4_isDigit_7 (by decide) ?_
    refine z_icmp_gt (tgt := 16) hx hb dX4_isDigit_9 (by decide) (by omega) (fun hc_3 => ?_) (fun hc_3 => ?_)
    · skip
      refine z_iconst hx hb dX4_isDigit_16 ?_
      have hv_4 : ((48 ≤ c ∧ c ≤ 57) ∧ (0 : Int) = 1) ∨ (¬ (48 ≤ c ∧ c ≤ 57) ∧ (0 : Int) = 0) := by
        first | assumption | omega | grind
      exact W.zret (v := zI 0) hx hb hr rfl (fun t9 ht hW => ⟨⟨zI 0, 0, rfl, ⟨rfl, hv_4⟩, by subst hAe; exact z_end hK hw ht hW⟩, by subst hAe; exact hw.2.2.F ht⟩) (by subst hAe; exact hw.2.2.2.2) dX4_isDigit_17
    · skip
      refine z_iconst hx hb dX4_isDigit_12 ?_
      refine lv_goto (tgt := 17) hx hb dX4_isDigit_13 (by decide) ?_
      have hv_5 : ((48 ≤ c ∧ c ≤ 57) ∧ (1 : Int) = 1) ∨ (¬ (48 ≤ c ∧ c ≤ 57) ∧ (1 : Int) = 0) := by
        first | assumption | omega | grind
      exact W.zret (v := zI 1) hx hb hr rfl (fun t9 ht hW => ⟨⟨zI 1, 1, rfl, ⟨rfl, hv_5⟩, by subst hAe; exact z_end hK hw ht hW⟩, by subst hAe; exact hw.2.2.F ht⟩) (by subst hAe; exact hw.2.2.2.2) dX4_isDigit_17
set_option maxRecDepth 100000 in
set_option maxHeartbeats 4000000 in
theorem c_X4_refuse (l : Launch) (D : va_G) (cI cB cZ : ClassId) (oR : Nat → Nat) (aRguests : Nat) (sz : Nat) (Rtape : Int → Int) (Rlen : Int) (Rfn : Int) (Rfp : Int) (Rtok : Int) (Rts : Int) (Rte : Int) (Rval : Int) (k : Int) (qRtape : RA Rtape (-128) 127) (qRlen : 0 ≤ Rlen ∧ Rlen ≤ 400) (qRfn : 0 ≤ Rfn ∧ Rfn ≤ 3) (qRfp : -1 ≤ Rfp ∧ Rfp ≤ 400) (qRtok : 1 ≤ Rtok ∧ Rtok ≤ 11) (qRts : 0 ≤ Rts ∧ Rts ≤ 400) (qRte : 0 ≤ Rte ∧ Rte ≤ 400) (qRval : 0 ≤ Rval ∧ Rval ≤ 999) (qk : 0 ≤ k ∧ k ≤ 3) : Met l yX4_refuse wsX4_refuse ({ frames := 0, cells := 0, slots := 0, locals := 0 }) (va_Pc [.ref (oR 0), .int (zI k)] (zPre D cI cB cZ sz (kR cI cB cZ oR aRguests Rtape Rlen Rfn Rfp Rtok Rts Rte Rval))) (va_Qv (fun (u9 : Int × Int) => ((0 : Int) ≤ u9.1 ∧ u9.1 ≤ 3) ∧ ((-1 : Int) ≤ u9.2 ∧ u9.2 ≤ 400) ∧ (u9.1 = k) ∧ (u9.2 = Rts)) (fun u9 t9 => zAt D cI cB cZ (va_A (kR cI cB cZ oR aRguests Rtape Rlen Rfn Rfp Rtok Rts Rte Rval) sz) (kR cI cB cZ oR aRguests Rtape Rlen (u9.1) (u9.2) Rtok Rts Rte Rval) t9) (va_A (kR cI cB cZ oR aRguests Rtape Rlen Rfn Rfp Rtok Rts Rte Rval) sz)) 0 0 (va_A (kR cI cB cZ oR aRguests Rtape Rlen Rfn Rfp Rtok Rts Rte Rval) sz) := by
  refine Met.ofW (cc := cX4_refuse) (maxL := 2) (ret := none) (by decide) rfl ?_
  intro pp ee s mm aa bw mt cd s₁ BL hml hv
  obtain ⟨rfl, hsz, hP, hK, hD0⟩ := hv
  have hx := BL.exec
  have hb := BL.bytes
  have hr := BL.returns
  have hts := atoms_spec (ws := wsX4_refuse) BL.pre
  have hown : s.vm.findClass RX4 = some mm.cls := findClass_of_methodNamed BL.named
  have hlocks := BL.notSynchronized
  subst hsz
  generalize hAe : va_A (kR cI cB cZ oR aRguests Rtape Rlen Rfn Rfp Rtok Rts Rte Rval) s.heap.size = A
  have hA : ∀ q : Nat, s.heap.size ≤ q → A q := fun q h => by rw [← hAe]; exact Or.inr h
  have hw : HW D A s.heap (kR cI cB cZ oR aRguests Rtape Rlen Rfn Rfp Rtok Rts Rte Rval) s.heap [] := z_start hAe hP hD0
  clear hP hD0
  have hl := lv_entry ([.ref (oR 0), .int (zI k)]) (n := 2) (Nat.le_of_ble_eq_true rfl)
  rw [lg_entry_eq]
  generalize (lg_sl ([.ref (oR 0), .int (zI k)]) ++ List.replicate (2 - (lg_sl ([.ref (oR 0), .int (zI k)])).length) Slot.unset).toArray = ls at hl ⊢
  have hl : lv_has ls 2 [(0, .ref (oR 0)), (1, .int (zI k))] := hl
  have hinX4 : ∀ w ∈ wsX40, w ∈ wsX4_refuse := by decide +kernel
  refine lv_aload_n hx hb dX4_refuse_0 rfl (lv_at hl 0 rfl) ?_
  refine lv_iload_n hx hb dX4_refuse_1 rfl (lv_at hl 1 rfl) ?_
  refine z_put (D := D) (ci := 4) (v := .int (zI k)) (ty := .int) (C := RX4) (T := TX4) (N := 9) (ws2 := kR cI cB cZ oR aRguests Rtape Rlen k Rfp Rtok Rts Rte Rval) hx hb hts hinX4 tyX4 tyX4_ok nmX4 hown hK hw 0 rfl rfl 3 (by decide) (hts (.fieldLink RX4 19 "CarnivalRoad$Reader" "faultNumber" "I") (by decide +kernel)) (fun _ h9 => h9) rfl (by decide +kernel) rfl rfl (Nat.le_of_ble_eq_true rfl) dX4_refuse_2 rfl (fun H locs hw => ?_)
  refine lv_aload_n hx hb dX4_refuse_5 rfl (lv_at hl 0 rfl) ?_
  refine lv_aload_n hx hb dX4_refuse_6 rfl (lv_at hl 0 rfl) ?_
  refine va_get (D := D) (ci := 4) (v := .int (zI Rts)) (C := RX4) (T := TX4) (N := 9) hx hb hts hinX4 hown hK hw.1 0 rfl rfl 6 (by decide) (hts (.fieldLink RX4 28 "CarnivalRoad$Reader" "tokenStart" "I") (by decide +kernel)) (fun _ h9 => h9) rfl dX4_refuse_7 ?_
  refine z_put (D := D) (ci := 4) (v := .int (zI Rts)) (ty := .int) (C := RX4) (T := TX4) (N := 9) (ws2 := kR cI cB cZ oR aRguests Rtape Rlen k Rts Rtok Rts Rte Rval) hx hb hts hinX4 tyX4 tyX4_ok nmX4 hown hK hw 0 rfl rfl 4 (by decide) (hts (.fieldLink RX4 22 "CarnivalRoad$Reader" "faultPlace" "I") (by decide +kernel)) (fun _ h9 => h9) rfl (by decide +kernel) rfl rfl (Nat.le_of_ble_eq_true rfl) dX4_refuse_10 rfl (fun H locs hw => ?_)
  have hv_1 : (0 : Int) ≤ k ∧ k ≤ 3 := by
    first | rfl | omega
  have hv_2 : (-1 : Int) ≤ Rts ∧ Rts ≤ 400 := by
    first | rfl | omega
  have hv_3 : k = k := by
    first | rfl | omega
  have hv_4 : Rts = Rts := by
    first | rfl | omega
  exact W.vret hx hb hr (fun t9 ht hW => ⟨⟨(k, Rts), rfl, ⟨hv_1, hv_2, hv_3, hv_4⟩, by subst hAe; exact z_end hK hw ht hW⟩, by subst hAe; exact hw.2.2.F ht⟩) (by subst hAe; exact hw.2.2.2.2) dX4_refuse_13
set_option maxRecDepth 100000 in
set_option maxHeartbeats 4000000 in
theorem c_X4_addFour (l : Launch) (D : va_G) (cI cB cZ : ClassId) (oR : Nat → Nat) (aRguests : Nat) (sz : Nat) (Rtape : Int → Int) (Rlen : Int) (Rfn : Int) (Rfp : Int) (Rtok : Int) (Rts : Int) (Rte : Int) (Rval : Int) (v : Int) (qRtape : RA Rtape (-128) 127) (qRlen : 0 ≤ Rlen ∧ Rlen ≤ 400) (qRfn : 0 ≤ Rfn ∧ Rfn ≤ 3) (qRfp : -1 ≤ Rfp ∧ Rfp ≤ 400) (qRtok : 1 ≤ Rtok ∧ Rtok ≤ 11) (qRts : 0 ≤ Rts ∧ Rts ≤ 400) (qRte : 0 ≤ Rte ∧ Rte ≤ 400) (qRval : 0 ≤ Rval ∧ Rval ≤ 999) (qv : -2147483648 ≤ v ∧ v ≤ 2147483647) (hp0 : Rlen ≤ 396) : Met l yX4_addFour wsX4_addFour ({ frames := 0, cells := 0, slots := 0, locals := 0 }) (va_Pc [.ref (oR 0), .int (zI v)] (zPre D cI cB cZ sz (kR cI cB cZ oR aRguests Rtape Rlen Rfn Rfp Rtok Rts Rte Rval))) (va_Qv (fun (u9 : (Int → Int) × Int) => (RA u9.1 (-128) 127) ∧ ((0 : Int) ≤ u9.2 ∧ u9.2 ≤ 400) ∧ (u9.2 = Rlen + 4) ∧ (∀ k, 0 ≤ k → k < Rlen → u9.1 k = Rtape k) ∧ (∀ j, 0 ≤ j → j < 4 → u9.1 (Rlen + j) = sgB (ushF v (24 - 8 * j)))) (fun u9 t9 => zAt D cI cB cZ (va_A (kR cI cB cZ oR aRguests Rtape Rlen Rfn Rfp Rtok Rts Rte Rval) sz) (kR cI cB cZ oR aRguests (u9.1) (u9.2) Rfn Rfp Rtok Rts Rte Rval) t9) (va_A (kR cI cB cZ oR aRguests Rtape Rlen Rfn Rfp Rtok Rts Rte Rval) sz)) 0 0 (va_A (kR cI cB cZ oR aRguests Rtape Rlen Rfn Rfp Rtok Rts Rte Rval) sz) := by
  refine Met.ofW (cc := cX4_addFour) (maxL := 3) (ret := none) (by decide) rfl ?_
  intro pp ee s mm aa bw mt cd s₁ BL hml hv
  obtain ⟨rfl, hsz, hP, hK, hD0⟩ := hv
  have hx := BL.exec
  have hb := BL.bytes
  have hr := BL.returns
  have hts := atoms_spec (ws := wsX4_addFour) BL.pre
  have hown : s.vm.findClass RX4 = some mm.cls := findClass_of_methodNamed BL.named
  have hlocks := BL.notSynchronized
  subst hsz
  generalize hAe : va_A (kR cI cB cZ oR aRguests Rtape Rlen Rfn Rfp Rtok Rts Rte Rval) s.heap.size = A
  have hA : ∀ q : Nat, s.heap.size ≤ q → A q := fun q h => by rw [← hAe]; exact Or.inr h
  have hw : HW D A s.heap (kR cI cB cZ oR aRguests Rtape Rlen Rfn Rfp Rtok Rts Rte Rval) s.heap [] := z_start hAe hP hD0
  clear hP hD0
  have hl := lv_entry ([.ref (oR 0), .int (zI v)]) (n := 3) (Nat.le_of_ble_eq_true rfl)
  rw [lg_entry_eq]
  generalize (lg_sl ([.ref (oR 0), .int (zI v)]) ++ List.replicate (3 - (lg_sl ([.ref (oR 0), .int (zI v)])).length) Slot.unset).toArray = ls at hl ⊢
  have hl : lv_has ls 3 [(0, .ref (oR 0)), (1, .int (zI v))] := hl
  have hinX4 : ∀ w ∈ wsX40, w ∈ wsX4_addFour := by decide +kernel
  refine z_bipush hx hb dX4_addFour_0 (by decide) ?_
  refine lv_istore_n (lv' := [(2, .int (zI 24)), (0, .ref (oR 0)), (1, .int (zI v))]) hx hb dX4_addFour_2 rfl hl (by decide) rfl (fun ls hl => ?_)
  have hv_1 : (0 : Int) ≤ Rlen ∧ Rlen ≤ 400 := by
    first | assumption | omega | grind
  have hv_2 : 0 ≤ (0 : Int) ∧ (0 : Int) ≤ 4 := by
    first | assumption | omega | grind
  have hv_3 : (24 : Int) = 24 - 8 * (0 : Int) := by
    first | assumption | omega | grind
  have hv_4 : Rlen = Rlen + (0 : Int) := by
    first | assumption | omega | grind
  have hv_5 : ∀ k, 0 ≤ k → k < Rlen → Rtape k = Rtape k := by
    intro k _ _; rfl
  have hv_6 : ∀ j, 0 ≤ j → j < (0 : Int) → Rtape (Rlen + j) = sgB (ushF v (24 - 8 * j)) := by
    exact all_0
  refine z_loop (σ := Int × (Int → Int) × Int × Int) (μ := fun x9 => (4 - x9.2.2.2).toNat) (I := fun x9 H locs ls => (RA (x9.2.1) (-128) 127) ∧ ((0 : Int) ≤ (x9.2.2.1) ∧ (x9.2.2.1) ≤ 400) ∧ (0 ≤ x9.2.2.2 ∧ x9.2.2.2 ≤ 4) ∧ ((x9.1) = 24 - 8 * x9.2.2.2) ∧ ((x9.2.2.1) = Rlen + x9.2.2.2) ∧ (∀ k, 0 ≤ k → k < Rlen → (x9.2.1) k = Rtape k) ∧ (∀ j, 0 ≤ j → j < x9.2.2.2 → (x9.2.1) (Rlen + j) = sgB (ushF v (24 - 8 * j))) ∧ HW D A s.heap (kR cI cB cZ oR aRguests (x9.2.1) (x9.2.2.1) Rfn Rfp Rtok Rts Rte Rval) H locs ∧ lv_has ls 3 [(0, .ref (oR 0)), (1, .int (zI v)), (2, .int (zI (x9.1)))]) (24, Rtape, Rlen, 0) ⟨qRtape, hv_1, hv_2, hv_3, hv_4, hv_5, hv_6, hw, lv_sub hl [1, 2, 0] rfl⟩ ?_
  clear hw hl
  intro x9 H locs ls hI ih_7
  obtain ⟨sf_8, Rtape_9, Rlen_10, jj_11⟩ := x9
  try dsimp only at hI
  obtain ⟨hR_12, hq_13, hI_14, hI_15, hI_16, hI_17, hI_18, hw, hl⟩ := hI
  refine lv_iload_n hx hb dX4_addFour_3 rfl (lv_at hl 2 rfl) ?_
  refine z_if_lt (tgt := 46) hx hb dX4_addFour_4 (by decide) (by omega) (fun hc_19 => ?_) (fun hc_19 => ?_)
  · skip
    have hv_20 : (0 : Int) ≤ Rlen_10 ∧ Rlen_10 ≤ 400 := by
      first | assumption | omega | grind
    have hv_21 : Rlen_10 = Rlen + 4 := by
      first | assumption | omega | grind
    have hv_22 : ∀ k, 0 ≤ k → k < Rlen → Rtape_9 k = Rtape k := by
      assumption
    have hv_23 : ∀ j, 0 ≤ j → j < 4 → Rtape_9 (Rlen + j) = sgB (ushF v (24 - 8 * j)) := by
      exact all_le (by assumption) (by omega)
    exact W.vret hx hb hr (fun t9 ht hW => ⟨⟨(Rtape_9, Rlen_10), rfl, ⟨hR_12, hv_20, hv_21, hv_22, hv_23⟩, by subst hAe; exact z_end hK hw ht hW⟩, by subst hAe; exact hw.2.2.F ht⟩) (by subst hAe; exact hw.2.2.2.2) dX4_addFour_46
  · skip
    refine lv_aload_n hx hb dX4_addFour_7 rfl (lv_at hl 0 rfl) ?_
    refine va_get (D := D) (ci := 4) (v := .int (zI Rlen_10)) (C := RX4) (T := TX4) (N := 9) hx hb hts hinX4 hown hK hw.1 0 rfl rfl 2 (by decide) (hts (.fieldLink RX4 15 "CarnivalRoad$Reader" "length" "I") (by decide +kernel)) (fun _ h9 => h9) rfl dX4_addFour_8 ?_
    refine z_sipush hx hb dX4_addFour_11 (by decide) ?_
    refine z_icmp_ge (tgt := 46) hx hb dX4_addFour_14 (by decide) (by omega) (fun hc_24 => ?_) (fun hc_24 => ?_)
    · skip
      have hv_25 : (0 : Int) ≤ Rlen_10 ∧ Rlen_10 ≤ 400 := by
        first | assumption | omega | grind
      have hv_26 : Rlen_10 = Rlen + 4 := by
        first | assumption | omega | grind
      have hv_27 : ∀ k, 0 ≤ k → k < Rlen → Rtape_9 k = Rtape k := by
        assumption
      have hv_28 : ∀ j, 0 ≤ j → j < 4 → Rtape_9 (Rlen + j) = sgB (ushF v (24 - 8 * j)) := by
        exact all_le (by assumption) (by omega)
      exact W.vret hx hb hr (fun t9 ht hW => ⟨⟨(Rtape_9, Rlen_10), rfl, ⟨hR_12, hv_25, hv_26, hv_27, hv_28⟩, by subst hAe; exact z_end hK hw ht hW⟩, by subst hAe; exact hw.2.2.F ht⟩) (by subst hAe; exact hw.2.2.2.2) dX4_addFour_46
    · skip
      refine lv_aload_n hx hb dX4_addFour_17 rfl (lv_at hl 0 rfl) ?_
      refine va_get (D := D) (ci := 4) (v := .ref (oR 1)) (C := RX4) (T := TX4) (N := 9) hx hb hts hinX4 hown hK hw.1 0 rfl rfl 1 (by decide) (hts (.fieldLink RX4 11 "CarnivalRoad$Reader" "tape" "[B") (by decide +kernel)) (fun _ h9 => h9) rfl dX4_addFour_18 ?_
      refine lv_aload_n hx hb dX4_addFour_21 rfl (lv_at hl 0 rfl) ?_
      refine va_get (D := D) (ci := 4) (v := .int (zI Rlen_10)) (C := RX4) (T := TX4) (N := 9) hx hb hts hinX4 hown hK hw.1 0 rfl rfl 2 (by decide) (hts (.fieldLink RX4 15 "CarnivalRoad$Reader" "length" "I") (by decide +kernel)) (fun _ h9 => h9) rfl dX4_addFour_22 ?_
      refine lv_iload_n hx hb dX4_addFour_25 rfl (lv_at hl 1 rfl) ?_
      refine lv_iload_n hx hb dX4_addFour_26 rfl (lv_at hl 2 rfl) ?_
      have hbit_29 : ((zI v).toUInt32 >>> ((zI sf_8).toUInt32 &&& Int32.toUInt32 31)).toInt32 = zI (ushF v sf_8) := by
        exact z_ushr (by omega)
      refine lv_iushr hx hb dX4_addFour_27 hbit_29 ?_
      clear hbit_29
      have hbit_30 : (zI (ushF v sf_8)).toInt8.toInt32 = zI (sgB (ushF v sf_8)) := by
        exact z_i2b
      refine lv_i2b hx hb dX4_addFour_28 hbit_30 ?_
      clear hbit_30
      have hq_31 : -128 ≤ (sgB (ushF v sf_8)) ∧ (sgB (ushF v sf_8)) ≤ 127 := by
        exact sgB_r
      have hi_32 : (0 : Int) ≤ Rlen_10 ∧ Rlen_10 < ((400 : Nat) : Int) := by
        first | assumption | omega | grind
      have hv_33 : (-128 : Int) ≤ (sgB (ushF v sf_8)) ∧ (sgB (ushF v sf_8)) ≤ 127 := by
        first | assumption | omega | grind
      have hR_34 : RA (uZ Rtape_9 Rlen_10 (sgB (ushF v sf_8))) (-128) 127 := RA_up hR_12 hv_33
      refine z_bast (n := 400) (f := Rtape_9) (ws2 := kR cI cB cZ oR aRguests (uZ Rtape_9 Rlen_10 (sgB (ushF v sf_8))) Rlen_10 Rfn Rfp Rtok Rts Rte Rval) hx hb hK hw 1 rfl (z_narB (by omega)) (by decide) hi_32 dX4_addFour_29 rfl (fun H locs hw => ?_)
      refine lv_aload_n hx hb dX4_addFour_30 rfl (lv_at hl 0 rfl) ?_
      refine lv_dup hx hb dX4_addFour_31 rfl ?_
      refine va_get (D := D) (ci := 4) (v := .int (zI Rlen_10)) (C := RX4) (T := TX4) (N := 9) hx hb hts hinX4 hown hK hw.1 0 rfl rfl 2 (by decide) (hts (.fieldLink RX4 15 "CarnivalRoad$Reader" "length" "I") (by decide +kernel)) (fun _ h9 => h9) rfl dX4_addFour_32 ?_
      refine z_iconst hx hb dX4_addFour_35 ?_
      refine z_iadd hx hb dX4_addFour_36 ?_
      refine z_put (D := D) (ci := 4) (v := .int (zI (Rlen_10 + 1))) (ty := .int) (C := RX4) (T := TX4) (N := 9) (ws2 := kR cI cB cZ oR aRguests (uZ Rtape_9 Rlen_10 (sgB (ushF v sf_8))) (Rlen_10 + 1) Rfn Rfp Rtok Rts Rte Rval) hx hb hts hinX4 tyX4 tyX4_ok nmX4 hown hK hw 0 rfl rfl 2 (by decide) (hts (.fieldLink RX4 15 "CarnivalRoad$Reader" "length" "I") (by decide +kernel)) (fun _ h9 => h9) rfl (by decide +kernel) rfl rfl (Nat.le_of_ble_eq_true rfl) dX4_addFour_37 rfl (fun H locs hw => ?_)
      refine z_iinc (k := 2) (lv' := [(2, .int (zI (sf_8 + (-8)))), (0, .ref (oR 0)), (1, .int (zI v))]) hx hb dX4_addFour_40 hl rfl (by decide) rfl (fun ls hl => ?_)
      refine lv_goto (tgt := 3) hx hb dX4_addFour_43 (by decide) ?_
      have hv_35 : (0 : Int) ≤ (Rlen_10 + 1) ∧ (Rlen_10 + 1) ≤ 400 := by
        first | assumption | omega | grind
      have hv_36 : 0 ≤ (jj_11 + 1) ∧ (jj_11 + 1) ≤ 4 := by
        first | assumption | omega | grind
      have hv_37 : (sf_8 + (-8)) = 24 - 8 * (jj_11 + 1) := by
        first | assumption | omega | grind
      have hv_38 : (Rlen_10 + 1) = Rlen + (jj_11 + 1) := by
        first | assumption | omega | grind
      have hv_39 : ∀ k, 0 ≤ k → k < Rlen → (uZ Rtape_9 Rlen_10 (sgB (ushF v sf_8))) k = Rtape k := by
        intro k k0 k1
        rw [uZ_n (by omega)]
        revert k1
        revert k0
        revert k
        assumption
      have hv_40 : ∀ j, 0 ≤ j → j < (jj_11 + 1) → (uZ Rtape_9 Rlen_10 (sgB (ushF v sf_8))) (Rlen + j) = sgB (ushF v (24 - 8 * j)) := by
        subst_vars
        refine all_s (fun j j0 j1 => ?_) (by rw [uZ_s])
        rw [uZ_n (by omega)]
        revert j1
        revert j0
        revert j
        assumption
      have hm_41 : (4 - (jj_11 + 1)).toNat < (4 - jj_11).toNat := by
        first | assumption | omega | grind
      exact ih_7 ((sf_8 + (-8)), (uZ Rtape_9 Rlen_10 (sgB (ushF v sf_8))), (Rlen_10 + 1), (jj_11 + 1)) _ _ _ ⟨hR_34, hv_35, hv_36, hv_37, hv_38, hv_39, hv_40, hw, lv_sub hl [1, 2, 0] rfl⟩ hm_41
set_option maxRecDepth 100000 in
set_option maxHeartbeats 4000000 in
theorem c_X4_takeDigits (l : Launch) (D : va_G) (cI cB cZ : ClassId) (oR : Nat → Nat) (aRguests : Nat) (sz : Nat) (Rtape : Int → Int) (Rlen : Int) (Rfn : Int) (Rfp : Int) (Rtok : Int) (Rts : Int) (Rte : Int) (Rval : Int) (qRtape : RA Rtape (-128) 127) (qRlen : 0 ≤ Rlen ∧ Rlen ≤ 400) (qRfn : 0 ≤ Rfn ∧ Rfn ≤ 3) (qRfp : -1 ≤ Rfp ∧ Rfp ≤ 400) (qRtok : 1 ≤ Rtok ∧ Rtok ≤ 11) (qRts : 0 ≤ Rts ∧ Rts ≤ 400) (qRte : 0 ≤ Rte ∧ Rte ≤ 400) (qRval : 0 ≤ Rval ∧ Rval ≤ 999) (hp0 : Rts ≤ Rlen) : Met l yX4_takeDigits wsX4_takeDigits ({ frames := 1, cells := 0, slots := 0, locals := 20 }) (va_Pc [.ref (oR 0)] (zPre D cI cB cZ sz (kR cI cB cZ oR aRguests Rtape Rlen Rfn Rfp Rtok Rts Rte Rval))) (va_Qv (fun (u9 : Int × Int × Int) => ((1 : Int) ≤ u9.1 ∧ u9.1 ≤ 11) ∧ ((0 : Int) ≤ u9.2.1 ∧ u9.2.1 ≤ 400) ∧ ((0 : Int) ≤ u9.2.2 ∧ u9.2.2 ≤ 999) ∧ (u9.2.1 = scanL digP Rtape Rlen Rts) ∧ ((u9.2.1 - Rts ≤ 2 ∧ u9.1 = 7) ∨ (2 < u9.2.1 - Rts ∧ u9.1 = 10)) ∧ (u9.1 = 7 → u9.2.2 = numF Rtape Rts u9.2.1)) (fun u9 t9 => zAt D cI cB cZ (va_A (kR cI cB cZ oR aRguests Rtape Rlen Rfn Rfp Rtok Rts Rte Rval) sz) (kR cI cB cZ oR aRguests Rtape Rlen Rfn Rfp (u9.1) Rts (u9.2.1) (u9.2.2)) t9) (va_A (kR cI cB cZ oR aRguests Rtape Rlen Rfn Rfp Rtok Rts Rte Rval) sz)) 0 0 (va_A (kR cI cB cZ oR aRguests Rtape Rlen Rfn Rfp Rtok Rts Rte Rval) sz) := by
  refine Met.ofW (cc := cX4_takeDigits) (maxL := 2) (ret := none) (by decide) rfl ?_
  intro pp ee s mm aa bw mt cd s₁ BL hml hv
  obtain ⟨rfl, hsz, hP, hK, hD0⟩ := hv
  have hx := BL.exec
  have hb := BL.bytes
  have hr := BL.returns
  have hts := atoms_spec (ws := wsX4_takeDigits) BL.pre
  have hown : s.vm.findClass RX4 = some mm.cls := findClass_of_methodNamed BL.named
  have hlocks := BL.notSynchronized
  subst hsz
  generalize hAe : va_A (kR cI cB cZ oR aRguests Rtape Rlen Rfn Rfp Rtok Rts Rte Rval) s.heap.size = A
  have hA : ∀ q : Nat, s.heap.size ≤ q → A q := fun q h => by rw [← hAe]; exact Or.inr h
  have hw : HW D A s.heap (kR cI cB cZ oR aRguests Rtape Rlen Rfn Rfp Rtok Rts Rte Rval) s.heap [] := z_start hAe hP hD0
  clear hP hD0
  have hl := lv_entry ([.ref (oR 0)]) (n := 2) (Nat.le_of_ble_eq_true rfl)
  rw [lg_entry_eq]
  generalize (lg_sl ([.ref (oR 0)]) ++ List.replicate (2 - (lg_sl ([.ref (oR 0)])).length) Slot.unset).toArray = ls at hl ⊢
  have hl : lv_has ls 2 [(0, .ref (oR 0))] := hl
  have hinX4 : ∀ w ∈ wsX40, w ∈ wsX4_takeDigits := by decide +kernel
  refine z_cut (σ := Int × Int) 61 (I := fun x9 H locs ls => ((0 : Int) ≤ (x9.2) ∧ (x9.2) ≤ 999) ∧ (Rts ≤ (x9.1) ∧ (x9.1) ≤ Rlen) ∧ (scanL digP Rtape Rlen Rts = (x9.1)) ∧ ((x9.1) - Rts ≤ 2 → (x9.2) = numF Rtape Rts (x9.1)) ∧ HW D A s.heap (kR cI cB cZ oR aRguests Rtape Rlen Rfn Rfp Rtok Rts Rte (x9.2)) H locs ∧ lv_has ls 2 [(0, .ref (oR 0)), (1, .int (zI (x9.1)))]) (st := fun x9 => []) ?_ (fun hj_1 => ?_)
  · clear hw hl
    intro x9 H locs ls hI
    obtain ⟨i_2, Rval_3⟩ := x9
    try dsimp only at hI ⊢
    obtain ⟨hq_4, hI_5, hI_6, hI_7, hw, hl⟩ := hI
    refine lv_aload_n hx hb dX4_takeDigits_61 rfl (lv_at hl 0 rfl) ?_
    refine lv_iload_n hx hb dX4_takeDigits_62 rfl (lv_at hl 1 rfl) ?_
    refine z_put (D := D) (ci := 4) (v := .int (zI i_2)) (ty := .int) (C := RX4) (T := TX4) (N := 9) (ws2 := kR cI cB cZ oR aRguests Rtape Rlen Rfn Rfp Rtok Rts i_2 Rval_3) hx hb hts hinX4 tyX4 tyX4_ok nmX4 hown hK hw 0 rfl rfl 7 (by decide) (hts (.fieldLink RX4 31 "CarnivalRoad$Reader" "tokenEnd" "I") (by decide +kernel)) (fun _ h9 => h9) rfl (by decide +kernel) rfl rfl (Nat.le_of_ble_eq_true rfl) dX4_takeDigits_63 rfl (fun H locs hw => ?_)
    refine z_cut (σ := Int) 87 (I := fun x9 H locs ls => ((i_2 - Rts ≤ 2 ∧ x9 = 7) ∨ (2 < i_2 - Rts ∧ x9 = 10)) ∧ HW D A s.heap (kR cI cB cZ oR aRguests Rtape Rlen Rfn Rfp Rtok Rts i_2 Rval_3) H locs ∧ lv_has ls 2 []) (st := fun x9 => [.int (zI x9), .ref (oR 0)]) ?_ (fun hj_8 => ?_)
    · clear hw hl
      intro tk_9 H locs ls hI
      try dsimp only at hI ⊢
      obtain ⟨hI_10, hw, hl⟩ := hI
      refine z_put (D := D) (ci := 4) (v := .int (zI tk_9)) (ty := .int) (C := RX4) (T := TX4) (N := 9) (ws2 := kR cI cB cZ oR aRguests Rtape Rlen Rfn Rfp tk_9 Rts i_2 Rval_3) hx hb hts hinX4 tyX4 tyX4_ok nmX4 hown hK hw 0 rfl rfl 5 (by decide) (hts (.fieldLink RX4 25 "CarnivalRoad$Reader" "token" "I") (by decide +kernel)) (fun _ h9 => h9) rfl (by decide +kernel) rfl rfl (Nat.le_of_ble_eq_true rfl) dX4_takeDigits_87 rfl (fun H locs hw => ?_)
      have hv_11 : (1 : Int) ≤ tk_9 ∧ tk_9 ≤ 11 := by
        first | assumption | omega | grind
      have hv_12 : (0 : Int) ≤ i_2 ∧ i_2 ≤ 400 := by
        first | assumption | omega | grind
      have hv_13 : (0 : Int) ≤ Rval_3 ∧ Rval_3 ≤ 999 := by
        first | assumption | omega | grind
      have hv_14 : i_2 = scanL digP Rtape Rlen Rts := by
        exact (by assumption : scanL digP Rtape Rlen Rts = i_2).symm
      have hv_15 : (i_2 - Rts ≤ 2 ∧ tk_9 = 7) ∨ (2 < i_2 - Rts ∧ tk_9 = 10) := by
        first | assumption | omega | grind
      have hv_16 : tk_9 = 7 → Rval_3 = numF Rtape Rts i_2 := by
        intro z; exact (by assumption : i_2 - Rts ≤ 2 → _) (by omega)
      exact W.vret hx hb hr (fun t9 ht hW => ⟨⟨(tk_9, i_2, Rval_3), rfl, ⟨hv_11, hv_12, hv_13, hv_14, hv_15, hv_16⟩, by subst hAe; exact z_end hK hw ht hW⟩, by subst hAe; exact hw.2.2.F ht⟩) (by subst hAe; exact hw.2.2.2.2) dX4_takeDigits_90
    refine lv_aload_n hx hb dX4_takeDigits_66 rfl (lv_at hl 0 rfl) ?_
    refine lv_aload_n hx hb dX4_takeDigits_67 rfl (lv_at hl 0 rfl) ?_
    refine va_get (D := D) (ci := 4) (v := .int (zI i_2)) (C := RX4) (T := TX4) (N := 9) hx hb hts hinX4 hown hK hw.1 0 rfl rfl 7 (by decide) (hts (.fieldLink RX4 31 "CarnivalRoad$Reader" "tokenEnd" "I") (by decide +kernel)) (fun _ h9 => h9) rfl dX4_takeDigits_68 ?_
    refine lv_aload_n hx hb dX4_takeDigits_71 rfl (lv_at hl 0 rfl) ?_
    refine va_get (D := D) (ci := 4) (v := .int (zI Rts)) (C := RX4) (T := TX4) (N := 9) hx hb hts hinX4 hown hK hw.1 0 rfl rfl 6 (by decide) (hts (.fieldLink RX4 28 "CarnivalRoad$Reader" "tokenStart" "I") (by decide +kernel)) (fun _ h9 => h9) rfl dX4_takeDigits_72 ?_
    refine z_isub hx hb dX4_takeDigits_75 ?_
    refine z_iconst hx hb dX4_takeDigits_76 ?_
    refine z_icmp_gt (tgt := 85) hx hb dX4_takeDigits_77 (by decide) (by omega) (fun hc_17 => ?_) (fun hc_17 => ?_)
    · skip
      refine z_bipush hx hb dX4_takeDigits_85 (by decide) ?_
      have hv_18 : (i_2 - Rts ≤ 2 ∧ (10 : Int) = 7) ∨ (2 < i_2 - Rts ∧ (10 : Int) = 10) := by
        first | assumption | omega | grind
      exact hj_8 10 _ _ _ ⟨hv_18, hw, lv_sub hl [] rfl⟩
    · skip
      refine z_bipush hx hb dX4_takeDigits_80 (by decide) ?_
      refine lv_goto (tgt := 87) hx hb dX4_takeDigits_82 (by decide) ?_
      have hv_19 : (i_2 - Rts ≤ 2 ∧ (7 : Int) = 7) ∨ (2 < i_2 - Rts ∧ (7 : Int) = 10) := by
        first | assumption | omega | grind
      exact hj_8 7 _ _ _ ⟨hv_19, hw, lv_sub hl [] rfl⟩
  refine lv_aload_n hx hb dX4_takeDigits_0 rfl (lv_at hl 0 rfl) ?_
  refine va_get (D := D) (ci := 4) (v := .int (zI Rts)) (C := RX4) (T := TX4) (N := 9) hx hb hts hinX4 hown hK hw.1 0 rfl rfl 6 (by decide) (hts (.fieldLink RX4 28 "CarnivalRoad$Reader" "tokenStart" "I") (by decide +kernel)) (fun _ h9 => h9) rfl dX4_takeDigits_1 ?_
  refine lv_istore_n (lv' := [(1, .int (zI Rts)), (0, .ref (oR 0))]) hx hb dX4_takeDigits_4 rfl hl (by decide) rfl (fun ls hl => ?_)
  refine lv_aload_n hx hb dX4_takeDigits_5 rfl (lv_at hl 1 rfl) ?_
  refine z_iconst hx hb dX4_takeDigits_6 ?_
  refine z_put (D := D) (ci := 4) (v := .int (zI 0)) (ty := .int) (C := RX4) (T := TX4) (N := 9) (ws2 := kR cI cB cZ oR aRguests Rtape Rlen Rfn Rfp Rtok Rts Rte 0) hx hb hts hinX4 tyX4 tyX4_ok nmX4 hown hK hw 0 rfl rfl 8 (by decide) (hts (.fieldLink RX4 34 "CarnivalRoad$Reader" "value" "I") (by decide +kernel)) (fun _ h9 => h9) rfl (by decide +kernel) rfl rfl (Nat.le_of_ble_eq_true rfl) dX4_takeDigits_7 rfl (fun H locs hw => ?_)
  have hv_20 : (0 : Int) ≤ (0 : Int) ∧ (0 : Int) ≤ 999 := by
    first | assumption | omega | grind
  have hv_21 : Rts ≤ Rts ∧ Rts ≤ Rlen := by
    first | assumption | omega | grind
  have hv_22 : scanL digP Rtape Rlen Rts = scanL digP Rtape Rlen Rts := by
    rfl
  have hv_23 : Rts - Rts ≤ 2 → (0 : Int) = numF Rtape Rts Rts ∧ 0 ≤ (0 : Int) ∧ (Rts ≤ Rts + 1 → (0 : Int) ≤ 9) := by
    intro _; exact ⟨(numF_0).symm, by omega, fun _ => by omega⟩
  refine z_loop (σ := Int × Int) (μ := fun x9 => (Rlen - (x9.1)).toNat) (I := fun x9 H locs ls => ((0 : Int) ≤ (x9.2) ∧ (x9.2) ≤ 999) ∧ (Rts ≤ (x9.1) ∧ (x9.1) ≤ Rlen) ∧ (scanL digP Rtape Rlen Rts = scanL digP Rtape Rlen (x9.1)) ∧ ((x9.1) - Rts ≤ 2 → (x9.2) = numF Rtape Rts (x9.1) ∧ 0 ≤ (x9.2) ∧ ((x9.1) ≤ Rts + 1 → (x9.2) ≤ 9)) ∧ HW D A s.heap (kR cI cB cZ oR aRguests Rtape Rlen Rfn Rfp Rtok Rts Rte (x9.2)) H locs ∧ lv_has ls 2 [(0, .ref (oR 0)), (1, .int (zI (x9.1)))]) (Rts, 0) ⟨hv_20, hv_21, hv_22, hv_23, hw, lv_sub hl [1, 0] rfl⟩ ?_
  clear hw hl
  intro x9 H locs ls hI ih_24
  obtain ⟨i_25, Rval_26⟩ := x9
  try dsimp only at hI
  obtain ⟨hq_27, hI_28, hI_29, hI_30, hw, hl⟩ := hI
  refine lv_iload_n hx hb dX4_takeDigits_10 rfl (lv_at hl 1 rfl) ?_
  refine lv_aload_n hx hb dX4_takeDigits_11 rfl (lv_at hl 0 rfl) ?_
  refine va_get (D := D) (ci := 4) (v := .int (zI Rlen)) (C := RX4) (T := TX4) (N := 9) hx hb hts hinX4 hown hK hw.1 0 rfl rfl 2 (by decide) (hts (.fieldLink RX4 15 "CarnivalRoad$Reader" "length" "I") (by decide +kernel)) (fun _ h9 => h9) rfl dX4_takeDigits_12 ?_
  refine z_icmp_ge (tgt := 61) hx hb dX4_takeDigits_15 (by decide) (by omega) (fun hc_31 => ?_) (fun hc_31 => ?_)
  · skip
    have hv_32 : (0 : Int) ≤ Rval_26 ∧ Rval_26 ≤ 999 := by
      first | assumption | omega | grind
    have hv_33 : Rts ≤ i_25 ∧ i_25 ≤ Rlen := by
      first | assumption | omega | grind
    have hv_34 : scanL digP Rtape Rlen Rts = i_25 := by
      first | (rw [← scan_end (p := digP) (f := Rtape) (len := Rlen) (i := i_25) (by omega)]; assumption) | (rw [← scan_off (p := digP) (f := Rtape) (len := Rlen) (i := i_25) (by unfold digP; omega)]; assumption)
    have hv_35 : i_25 - Rts ≤ 2 → Rval_26 = numF Rtape Rts i_25 := by
      intro z; exact ((by assumption : i_25 - Rts ≤ 2 → _ ∧ _) z).1
    exact hj_1 (i_25, Rval_26) _ _ _ ⟨hv_32, hv_33, hv_34, hv_35, hw, lv_sub hl [0, 1] rfl⟩
  · skip
    refine lv_aload_n hx hb dX4_takeDigits_18 rfl (lv_at hl 0 rfl) ?_
    refine va_get (D := D) (ci := 4) (v := .ref (oR 1)) (C := RX4) (T := TX4) (N := 9) hx hb hts hinX4 hown hK hw.1 0 rfl rfl 1 (by decide) (hts (.fieldLink RX4 11 "CarnivalRoad$Reader" "tape" "[B") (by decide +kernel)) (fun _ h9 => h9) rfl dX4_takeDigits_19 ?_
    refine lv_iload_n hx hb dX4_takeDigits_22 rfl (lv_at hl 1 rfl) ?_
    have hi_36 : (0 : Int) ≤ i_25 ∧ i_25 < ((400 : Nat) : Int) := by
      first | assumption | omega | grind
    refine z_bald (n := 400) (f := Rtape) hx hb hK hw 1 rfl (by decide) hi_36 dX4_takeDigits_23 ?_
    have hq_37 : -128 ≤ Rtape i_25 ∧ Rtape i_25 ≤ 127 := qRtape i_25
    have hF9 := z_free (wc := ([] : va_W)) hw hA [] rfl
    refine va_calli (va_runS (As := [.int (zI (Rtape i_25))]) (rest := []) ⟨hx, hb, hml, hown, hts⟩ (c_X4_isDigit l D cI cB cZ H.size (Rtape i_25) (by omega)) (va_cwS 1 hts gX4_takeDigits_X4_isDigit rfl rfl rfl (by decide +kernel) ⟨Nat.le_of_ble_eq_true rfl, Nat.le_of_ble_eq_true rfl⟩) ⟨zPre_blind, z_pre hK hw [] (by decide) rfl⟩ rfl rfl hl.1 rfl (lv_room (Nat.le_of_ble_eq_true rfl)) dX4_takeDigits_24 ⟨Nat.zero_le _, Nat.zero_le _⟩) hw.2.2 (fun q _ h => hF9 q h) hF9 (fun r9 u9 t9 H_38 locs9 ht9 hvm9 hq9 hB9 hz9 hk9 hS9 => ?_)
    obtain ⟨r_39, rfl⟩ : ∃ z, z = u9 := ⟨_, rfl⟩
    try dsimp only at hq9 hB9
    obtain ⟨rfl, hq9⟩ := hq9
    have hq_40 := hq9
    have hw : HW D A s.heap (kR cI cB cZ oR aRguests Rtape Rlen Rfn Rfp Rtok Rts Rte Rval_26) H_38 locs9 := z_after (wc := ([] : va_W)) hw [] [0, 1] rfl rfl (by decide) (by decide) hF9 hk9 ht9 hB9 hS9 [0, 1] (by decide) rfl
    clear hF9 ht9 hvm9 hB9 hz9 hk9 hS9 hq9
    rcases hq_40 with ⟨hc_41, rfl⟩ | ⟨hc_41, rfl⟩
    · skip
      refine z_if_eq (tgt := 61) hx hb dX4_takeDigits_27 (by decide) (by omega) (fun hc_42 => absurd hc_42 (by omega)) (fun hc_42 => ?_)
      refine lv_aload_n hx hb dX4_takeDigits_30 rfl (lv_at hl 0 rfl) ?_
      refine lv_aload_n hx hb dX4_takeDigits_31 rfl (lv_at hl 0 rfl) ?_
      refine va_get (D := D) (ci := 4) (v := .int (zI Rval_26)) (C := RX4) (T := TX4) (N := 9) hx hb hts hinX4 hown hK hw.1 0 rfl rfl 8 (by decide) (hts (.fieldLink RX4 34 "CarnivalRoad$Reader" "value" "I") (by decide +kernel)) (fun _ h9 => h9) rfl dX4_takeDigits_32 ?_
      refine z_bipush hx hb dX4_takeDigits_35 (by decide) ?_
      refine z_imul hx hb dX4_takeDigits_37 ?_
      refine lv_aload_n hx hb dX4_takeDigits_38 rfl (lv_at hl 0 rfl) ?_
      refine va_get (D := D) (ci := 4) (v := .ref (oR 1)) (C := RX4) (T := TX4) (N := 9) hx hb hts hinX4 hown hK hw.1 0 rfl rfl 1 (by decide) (hts (.fieldLink RX4 11 "CarnivalRoad$Reader" "tape" "[B") (by decide +kernel)) (fun _ h9 => h9) rfl dX4_takeDigits_39 ?_
      refine lv_iload_n hx hb dX4_takeDigits_42 rfl (lv_at hl 1 rfl) ?_
      have hi_43 : (0 : Int) ≤ i_25 ∧ i_25 < ((400 : Nat) : Int) := by
        first | assumption | omega | grind
      refine z_bald (n := 400) (f := Rtape) hx hb hK hw 1 rfl (by decide) hi_43 dX4_takeDigits_43 ?_
      have hq_44 : -128 ≤ Rtape i_25 ∧ Rtape i_25 ≤ 127 := qRtape i_25
      refine z_iadd hx hb dX4_takeDigits_44 ?_
      refine z_bipush hx hb dX4_takeDigits_45 (by decide) ?_
      refine z_isub hx hb dX4_takeDigits_47 ?_
      refine z_sipush hx hb dX4_takeDigits_48 (by decide) ?_
      have hbit_45 : zI (((Rval_26 * 10) + (Rtape i_25)) - 48) - zI (((Rval_26 * 10) + (Rtape i_25)) - 48) / zI 1000 * zI 1000 = zI ((((Rval_26 * 10) + (Rtape i_25)) - 48) % (1000 : Int)) := by
        exact z_rem (by omega) (by omega)
      refine lv_irem hx hb dX4_takeDigits_51 (fun q => by have q2 := (zI_eq (by omega) (by omega)).mp (show zI 1000 = zI 0 from q); omega) ?_
      rw [hbit_45]
      clear hbit_45
      refine z_put (D := D) (ci := 4) (v := .int (zI ((((Rval_26 * 10) + (Rtape i_25)) - 48) % (1000 : Int)))) (ty := .int) (C := RX4) (T := TX4) (N := 9) (ws2 := kR cI cB cZ oR aRguests Rtape Rlen Rfn Rfp Rtok Rts Rte ((((Rval_26 * 10) + (Rtape i_25)) - 48) % (1000 : Int))) hx hb hts hinX4 tyX4 tyX4_ok nmX4 hown hK hw 0 rfl rfl 8 (by decide) (hts (.fieldLink RX4 34 "CarnivalRoad$Reader" "value" "I") (by decide +kernel)) (fun _ h9 => h9) rfl (by decide +kernel) rfl rfl (Nat.le_of_ble_eq_true rfl) dX4_takeDigits_52 rfl (fun H locs hw => ?_)
      refine z_iinc (k := 1) (lv' := [(1, .int (zI (i_25 + 1))), (0, .ref (oR 0))]) hx hb dX4_takeDigits_55 hl rfl (by decide) rfl (fun ls hl => ?_)
      refine lv_goto (tgt := 10) hx hb dX4_takeDigits_58 (by decide) ?_
      have hv_46 : (0 : Int) ≤ ((((Rval_26 * 10) + (Rtape i_25)) - 48) % (1000 : Int)) ∧ ((((Rval_26 * 10) + (Rtape i_25)) - 48) % (1000 : Int)) ≤ 999 := by
        first | assumption | omega | grind
      have hv_47 : Rts ≤ (i_25 + 1) ∧ (i_25 + 1) ≤ Rlen := by
        first | assumption | omega | grind
      have hv_48 : scanL digP Rtape Rlen Rts = scanL digP Rtape Rlen (i_25 + 1) := by
        rw [← scan_on (p := digP) (by omega) (by unfold digP; omega)]; assumption
      have hv_49 : (i_25 + 1) - Rts ≤ 2 → ((((Rval_26 * 10) + (Rtape i_25)) - 48) % (1000 : Int)) = numF Rtape Rts (i_25 + 1) ∧ 0 ≤ ((((Rval_26 * 10) + (Rtape i_25)) - 48) % (1000 : Int)) ∧ ((i_25 + 1) ≤ Rts + 1 → ((((Rval_26 * 10) + (Rtape i_25)) - 48) % (1000 : Int)) ≤ 9) := by
        exact num_s (by assumption) (by omega) (by omega)
      have hm_50 : (Rlen - (i_25 + 1)).toNat < (Rlen - i_25).toNat := by
        first | assumption | omega | grind
      exact ih_24 ((i_25 + 1), ((((Rval_26 * 10) + (Rtape i_25)) - 48) % (1000 : Int))) _ _ _ ⟨hv_46, hv_47, hv_48, hv_49, hw, lv_sub hl [1, 0] rfl⟩ hm_50
    · skip
      refine z_if_eq (tgt := 61) hx hb dX4_takeDigits_27 (by decide) (by omega) (fun hc_51 => ?_) (fun hc_51 => absurd hc_51 (by omega))
      have hv_52 : (0 : Int) ≤ Rval_26 ∧ Rval_26 ≤ 999 := by
        first | assumption | omega | grind
      have hv_53 : Rts ≤ i_25 ∧ i_25 ≤ Rlen := by
        first | assumption | omega | grind
      have hv_54 : scanL digP Rtape Rlen Rts = i_25 := by
        first | (rw [← scan_end (p := digP) (f := Rtape) (len := Rlen) (i := i_25) (by omega)]; assumption) | (rw [← scan_off (p := digP) (f := Rtape) (len := Rlen) (i := i_25) (by unfold digP; omega)]; assumption)
      have hv_55 : i_25 - Rts ≤ 2 → Rval_26 = numF Rtape Rts i_25 := by
        intro z; exact ((by assumption : i_25 - Rts ≤ 2 → _ ∧ _) z).1
      exact hj_1 (i_25, Rval_26) _ _ _ ⟨hv_52, hv_53, hv_54, hv_55, hw, lv_sub hl [0, 1] rfl⟩
set_option maxRecDepth 100000 in
set_option maxHeartbeats 4000000 in
theorem c_X4_tokenIs (l : Launch) (D : va_G) (cI cB cZ : ClassId) (aK aV : Nat → Nat) (oR : Nat → Nat) (aRguests : Nat) (sz : Nat) (Rtape : Int → Int) (Rlen : Int) (Rfn : Int) (Rfp : Int) (Rtok : Int) (Rts : Int) (Rte : Int) (Rval : Int) (k : Nat) (qRtape : RA Rtape (-128) 127) (qRlen : 0 ≤ Rlen ∧ Rlen ≤ 400) (qRfn : 0 ≤ Rfn ∧ Rfn ≤ 3) (qRfp : -1 ≤ Rfp ∧ Rfp ≤ 400) (qRtok : 1 ≤ Rtok ∧ Rtok ≤ 11) (qRts : 0 ≤ Rts ∧ Rts ≤ 400) (qRte : 0 ≤ Rte ∧ Rte ≤ 400) (qRval : 0 ≤ Rval ∧ Rval ≤ 999) (h6k : k < 6) (hp0 : 0 ≤ Rts ∧ Rts ≤ Rte ∧ Rte ≤ Rlen) : Met l yX4_tokenIs wsX4_tokenIs ({ frames := 4, cells := 0, slots := 0, locals := 86 }) (va_Pc [.ref (oR 0), .ref (aK k)] (zPreX aK aV D cI cB cZ sz (kR cI cB cZ oR aRguests Rtape Rlen Rfn Rfp Rtok Rts Rte Rval))) (va_Qi (fun (r9 : Int32) (u9 : Int) => r9 = zI u9 ∧ (((isW Rtape Rts Rte k ∧ u9 = 1) ∨ (¬ isW Rtape Rts Rte k ∧ u9 = 0)))) (fun u9 t9 => zAt D cI cB cZ (va_A (kR cI cB cZ oR aRguests Rtape Rlen Rfn Rfp Rtok Rts Rte Rval) sz) (kR cI cB cZ oR aRguests Rtape Rlen Rfn Rfp Rtok Rts Rte Rval) t9) (va_A (kR cI cB cZ oR aRguests Rtape Rlen Rfn Rfp Rtok Rts Rte Rval) sz)) 0 0 (va_A (kR cI cB cZ oR aRguests Rtape Rlen Rfn Rfp Rtok Rts Rte Rval) sz) := by
  refine Met.ofW (cc := cX4_tokenIs) (maxL := 3) (ret := (some .boolean)) (by decide) rfl ?_
  intro pp ee s mm aa bw mt cd s₁ BL hml hv
  obtain ⟨rfl, ⟨hsz, hP, hK, hD0⟩, hZX⟩ := hv
  have hx := BL.exec
  have hb := BL.bytes
  have hr := BL.returns
  have hts := atoms_spec (ws := wsX4_tokenIs) BL.pre
  have hown : s.vm.findClass RX4 = some mm.cls := findClass_of_methodNamed BL.named
  have hlocks := BL.notSynchronized
  subst hsz
  generalize hAe : va_A (kR cI cB cZ oR aRguests Rtape Rlen Rfn Rfp Rtok Rts Rte Rval) s.heap.size = A at hZX ⊢
  have hA : ∀ q : Nat, s.heap.size ≤ q → A q := fun q h => by rw [← hAe]; exact Or.inr h
  have hw : HW D A s.heap (kR cI cB cZ oR aRguests Rtape Rlen Rfn Rfp Rtok Rts Rte Rval) s.heap [] := z_start hAe hP hD0
  clear hP hD0
  have hl := lv_entry ([.ref (oR 0), .ref (aK k)]) (n := 3) (Nat.le_of_ble_eq_true rfl)
  rw [lg_entry_eq]
  generalize (lg_sl ([.ref (oR 0), .ref (aK k)]) ++ List.replicate (3 - (lg_sl ([.ref (oR 0), .ref (aK k)])).length) Slot.unset).toArray = ls at hl ⊢
  have hl : lv_has ls 3 [(0, .ref (oR 0)), (1, .ref (aK k))] := hl
  have hinX4 : ∀ w ∈ wsX40, w ∈ wsX4_tokenIs := by decide +kernel
  have hlr := lenI_r k h6k
  refine lv_aload_n hx hb dX4_tokenIs_0 rfl (lv_at hl 1 rfl) ?_
  refine vp_callSi (W.runV (As := []) (rest := []) ⟨hx, hb, hml, hown, hts⟩ (c_strLen l aK aV h6k) (cwV 0 hts gX4_tokenIs_J0_length_8abf5 rfl rfl rfl (by decide +kernel) ⟨Nat.le_of_ble_eq_true rfl, Nat.le_of_ble_eq_true rfl⟩) ⟨ZB_blind, vk_recv hZX.2.2.1 h6k hw.2.2, ZB_go hZX hw.2.2⟩ rfl rfl hl.1 rfl (lv_room (Nat.le_of_ble_eq_true rfl)) dX4_tokenIs_1 ⟨Nat.zero_le _, Nat.zero_le _⟩) (fun r9 h9 => ?_)
  subst h9
  refine lv_aload_n hx hb dX4_tokenIs_4 rfl (lv_at hl 0 rfl) ?_
  refine va_get (D := D) (ci := 4) (v := .int (zI Rte)) (C := RX4) (T := TX4) (N := 9) hx hb hts hinX4 hown hK hw.1 0 rfl rfl 7 (by decide) (hts (.fieldLink RX4 31 "CarnivalRoad$Reader" "tokenEnd" "I") (by decide +kernel)) (fun _ h9 => h9) rfl dX4_tokenIs_5 ?_
  refine lv_aload_n hx hb dX4_tokenIs_8 rfl (lv_at hl 0 rfl) ?_
  refine va_get (D := D) (ci := 4) (v := .int (zI Rts)) (C := RX4) (T := TX4) (N := 9) hx hb hts hinX4 hown hK hw.1 0 rfl rfl 6 (by decide) (hts (.fieldLink RX4 28 "CarnivalRoad$Reader" "tokenStart" "I") (by decide +kernel)) (fun _ h9 => h9) rfl dX4_tokenIs_9 ?_
  refine z_isub hx hb dX4_tokenIs_12 ?_
  refine z_icmp_eq (tgt := 18) hx hb dX4_tokenIs_13 (by decide) (by omega) (fun hc_1 => ?_) (fun hc_1 => ?_)
  · skip
    refine z_iconst hx hb dX4_tokenIs_18 ?_
    refine lv_istore_n (lv' := [(2, .int (zI 0)), (0, .ref (oR 0)), (1, .ref (aK k))]) hx hb dX4_tokenIs_19 rfl hl (by decide) rfl (fun ls hl => ?_)
    have hv_2 : 0 ≤ (0 : Int) ∧ (0 : Int) ≤ lenI k := by
      first | assumption | omega | grind
    have hv_3 : ∀ j, 0 ≤ j → j < (0 : Int) → Rtape (Rts + j) = bytI k j := by
      exact all_0
    refine z_loop (σ := Int) (μ := fun x9 => (6 - x9).toNat) (I := fun x9 H locs ls => (0 ≤ x9 ∧ x9 ≤ lenI k) ∧ (∀ j, 0 ≤ j → j < x9 → Rtape (Rts + j) = bytI k j) ∧ HW D A s.heap (kR cI cB cZ oR aRguests Rtape Rlen Rfn Rfp Rtok Rts Rte Rval) H locs ∧ lv_has ls 3 [(0, .ref (oR 0)), (1, .ref (aK k)), (2, .int (zI x9))]) 0 ⟨hv_2, hv_3, hw, lv_sub hl [1, 2, 0] rfl⟩ ?_
    clear hw hl
    intro i_5 H locs ls hI ih_4
    try dsimp only at hI
    obtain ⟨hI_6, hI_7, hw, hl⟩ := hI
    refine lv_iload_n hx hb dX4_tokenIs_20 rfl (lv_at hl 2 rfl) ?_
    refine lv_aload_n hx hb dX4_tokenIs_21 rfl (lv_at hl 1 rfl) ?_
    refine vp_callSi (W.runV (As := []) (rest := [.int (zI i_5)]) ⟨hx, hb, hml, hown, hts⟩ (c_strLen l aK aV h6k) (cwV 0 hts gX4_tokenIs_J0_length_8abf5 rfl rfl rfl (by decide +kernel) ⟨Nat.le_of_ble_eq_true rfl, Nat.le_of_ble_eq_true rfl⟩) ⟨ZB_blind, vk_recv hZX.2.2.1 h6k hw.2.2, ZB_go hZX hw.2.2⟩ rfl rfl hl.1 rfl (lv_room (Nat.le_of_ble_eq_true rfl)) dX4_tokenIs_22 ⟨Nat.zero_le _, Nat.zero_le _⟩) (fun r9 h9 => ?_)
    subst h9
    refine z_icmp_ge (tgt := 55) hx hb dX4_tokenIs_25 (by decide) (by omega) (fun hc_8 => ?_) (fun hc_8 => ?_)
    · skip
      refine z_iconst hx hb dX4_tokenIs_55 ?_
      have hv_9 : (isW Rtape Rts Rte k ∧ (1 : Int) = 1) ∨ (¬ isW Rtape Rts Rte k ∧ (1 : Int) = 0) := by
        exact Or.inl ⟨⟨by omega, all_le (by assumption) (by omega)⟩, rfl⟩
      exact W.zret (v := zI 1) hx hb hr rfl (fun t9 ht hW => ⟨⟨zI 1, 1, rfl, ⟨rfl, hv_9⟩, by subst hAe; exact z_end hK hw ht hW⟩, by subst hAe; exact hw.2.2.F ht⟩) (by subst hAe; exact hw.2.2.2.2) dX4_tokenIs_56
    · skip
      refine lv_aload_n hx hb dX4_tokenIs_28 rfl (lv_at hl 1 rfl) ?_
      refine lv_iload_n hx hb dX4_tokenIs_29 rfl (lv_at hl 2 rfl) ?_
      have hi_10 : (0 : Int) ≤ i_5 ∧ i_5 < lenI k := by
        first | assumption | omega | grind
      refine vp_callSi (W.runV (As := [.int (zI i_5)]) (rest := []) ⟨hx, hb, hml, hown, hts⟩ (c_strAt l aK aV h6k hi_10) (cwV 1 hts gX4_tokenIs_J0_charAt_5068e rfl rfl rfl (by decide +kernel) ⟨Nat.le_of_ble_eq_true rfl, Nat.le_of_ble_eq_true rfl⟩) ⟨ZB_blind, vk_recv hZX.2.2.1 h6k hw.2.2, ZB_go hZX hw.2.2⟩ rfl rfl hl.1 rfl (lv_room (Nat.le_of_ble_eq_true rfl)) dX4_tokenIs_30 ⟨Nat.zero_le _, Nat.zero_le _⟩) (fun r9 h9 => ?_)
      subst h9
      have hq_11 := bytI_r h6k hi_10.1 hi_10.2
      refine lv_aload_n hx hb dX4_tokenIs_33 rfl (lv_at hl 0 rfl) ?_
      refine va_get (D := D) (ci := 4) (v := .ref (oR 1)) (C := RX4) (T := TX4) (N := 9) hx hb hts hinX4 hown hK hw.1 0 rfl rfl 1 (by decide) (hts (.fieldLink RX4 11 "CarnivalRoad$Reader" "tape" "[B") (by decide +kernel)) (fun _ h9 => h9) rfl dX4_tokenIs_34 ?_
      refine lv_aload_n hx hb dX4_tokenIs_37 rfl (lv_at hl 0 rfl) ?_
      refine va_get (D := D) (ci := 4) (v := .int (zI Rts)) (C := RX4) (T := TX4) (N := 9) hx hb hts hinX4 hown hK hw.1 0 rfl rfl 6 (by decide) (hts (.fieldLink RX4 28 "CarnivalRoad$Reader" "tokenStart" "I") (by decide +kernel)) (fun _ h9 => h9) rfl dX4_tokenIs_38 ?_
      refine lv_iload_n hx hb dX4_tokenIs_41 rfl (lv_at hl 2 rfl) ?_
      refine z_iadd hx hb dX4_tokenIs_42 ?_
      have hi_12 : (0 : Int) ≤ (Rts + i_5) ∧ (Rts + i_5) < ((400 : Nat) : Int) := by
        first | assumption | omega | grind
      refine z_bald (n := 400) (f := Rtape) hx hb hK hw 1 rfl (by decide) hi_12 dX4_tokenIs_43 ?_
      have hq_13 : -128 ≤ Rtape (Rts + i_5) ∧ Rtape (Rts + i_5) ≤ 127 := qRtape (Rts + i_5)
      refine z_icmp_eq (tgt := 49) hx hb dX4_tokenIs_44 (by decide) (by omega) (fun hc_14 => ?_) (fun hc_14 => ?_)
      · skip
        refine z_iinc (k := 2) (lv' := [(2, .int (zI (i_5 + 1))), (0, .ref (oR 0)), (1, .ref (aK k))]) hx hb dX4_tokenIs_49 hl rfl (by decide) rfl (fun ls hl => ?_)
        refine lv_goto (tgt := 20) hx hb dX4_tokenIs_52 (by decide) ?_
        have hv_15 : 0 ≤ (i_5 + 1) ∧ (i_5 + 1) ≤ lenI k := by
          first | assumption | omega | grind
        have hv_16 : ∀ j, 0 ≤ j → j < (i_5 + 1) → Rtape (Rts + j) = bytI k j := by
          exact all_s (P := fun j => Rtape (Rts + j) = bytI k j) (by assumption) (by omega)
        have hm_17 : (6 - (i_5 + 1)).toNat < (6 - i_5).toNat := by
          first | assumption | omega | grind
        exact ih_4 (i_5 + 1) _ _ _ ⟨hv_15, hv_16, hw, lv_sub hl [1, 2, 0] rfl⟩ hm_17
      · skip
        refine z_iconst hx hb dX4_tokenIs_47 ?_
        have hv_18 : (isW Rtape Rts Rte k ∧ (0 : Int) = 1) ∨ (¬ isW Rtape Rts Rte k ∧ (0 : Int) = 0) := by
          refine Or.inr ⟨fun q => ?_, rfl⟩
          have q2 := q.2 i_5 (by omega) (by omega)
          omega
        exact W.zret (v := zI 0) hx hb hr rfl (fun t9 ht hW => ⟨⟨zI 0, 0, rfl, ⟨rfl, hv_18⟩, by subst hAe; exact z_end hK hw ht hW⟩, by subst hAe; exact hw.2.2.F ht⟩) (by subst hAe; exact hw.2.2.2.2) dX4_tokenIs_48
  · skip
    refine z_iconst hx hb dX4_tokenIs_16 ?_
    have hv_19 : (isW Rtape Rts Rte k ∧ (0 : Int) = 1) ∨ (¬ isW Rtape Rts Rte k ∧ (0 : Int) = 0) := by
      exact Or.inr ⟨fun q => absurd q.1 (by omega), rfl⟩
    exact W.zret (v := zI 0) hx hb hr rfl (fun t9 ht hW => ⟨⟨zI 0, 0, rfl, ⟨rfl, hv_19⟩, by subst hAe; exact z_end hK hw ht hW⟩, by subst hAe; exact hw.2.2.F ht⟩) (by subst hAe; exact hw.2.2.2.2) dX4_tokenIs_17
set_option maxRecDepth 100000 in
set_option maxHeartbeats 4000000 in
theorem c_X4_takeLetters (l : Launch) (D : va_G) (cI cB cZ : ClassId) (aK aV : Nat → Nat) (oR : Nat → Nat) (aRguests : Nat) (sz : Nat) (Rtape : Int → Int) (Rlen : Int) (Rfn : Int) (Rfp : Int) (Rtok : Int) (Rts : Int) (Rte : Int) (Rval : Int) (qRtape : RA Rtape (-128) 127) (qRlen : 0 ≤ Rlen ∧ Rlen ≤ 400) (qRfn : 0 ≤ Rfn ∧ Rfn ≤ 3) (qRfp : -1 ≤ Rfp ∧ Rfp ≤ 400) (qRtok : 1 ≤ Rtok ∧ Rtok ≤ 11) (qRts : 0 ≤ Rts ∧ Rts ≤ 400) (qRte : 0 ≤ Rte ∧ Rte ≤ 400) (qRval : 0 ≤ Rval ∧ Rval ≤ 999) (hp0 : Rts ≤ Rlen) : Met l yX4_takeLetters wsX4_takeLetters ({ frames := 5, cells := 0, slots := 0, locals := 108 }) (va_Pc [.ref (oR 0)] (zPreX aK aV D cI cB cZ sz (kR cI cB cZ oR aRguests Rtape Rlen Rfn Rfp Rtok Rts Rte Rval))) (va_Qv (fun (u9 : Int × Int) => ((1 : Int) ≤ u9.1 ∧ u9.1 ≤ 11) ∧ ((0 : Int) ≤ u9.2 ∧ u9.2 ≤ 400) ∧ (u9.2 = scanL letP Rtape Rlen Rts) ∧ (u9.1 = wordF Rtape Rts u9.2)) (fun u9 t9 => zAt D cI cB cZ (va_A (kR cI cB cZ oR aRguests Rtape Rlen Rfn Rfp Rtok Rts Rte Rval) sz) (kR cI cB cZ oR aRguests Rtape Rlen Rfn Rfp (u9.1) Rts (u9.2) Rval) t9) (va_A (kR cI cB cZ oR aRguests Rtape Rlen Rfn Rfp Rtok Rts Rte Rval) sz)) 0 0 (va_A (kR cI cB cZ oR aRguests Rtape Rlen Rfn Rfp Rtok Rts Rte Rval) sz) := by
  refine Met.ofW (cc := cX4_takeLetters) (maxL := 3) (ret := none) (by decide) rfl ?_
  intro pp ee s mm aa bw mt cd s₁ BL hml hv
  obtain ⟨rfl, ⟨hsz, hP, hK, hD0⟩, hZX⟩ := hv
  have hx := BL.exec
  have hb := BL.bytes
  have hr := BL.returns
  have hts := atoms_spec (ws := wsX4_takeLetters) BL.pre
  have hown : s.vm.findClass RX4 = some mm.cls := findClass_of_methodNamed BL.named
  have hlocks := BL.notSynchronized
  subst hsz
  generalize hAe : va_A (kR cI cB cZ oR aRguests Rtape Rlen Rfn Rfp Rtok Rts Rte Rval) s.heap.size = A at hZX ⊢
  have hA : ∀ q : Nat, s.heap.size ≤ q → A q := fun q h => by rw [← hAe]; exact Or.inr h
  have hw : HW D A s.heap (kR cI cB cZ oR aRguests Rtape Rlen Rfn Rfp Rtok Rts Rte Rval) s.heap [] := z_start hAe hP hD0
  clear hP hD0
  have hl := lv_entry ([.ref (oR 0)]) (n := 3) (Nat.le_of_ble_eq_true rfl)
  rw [lg_entry_eq]
  generalize (lg_sl ([.ref (oR 0)]) ++ List.replicate (3 - (lg_sl ([.ref (oR 0)])).length) Slot.unset).toArray = ls at hl ⊢
  have hl : lv_has ls 3 [(0, .ref (oR 0))] := hl
  have hinX4 : ∀ w ∈ wsX40, w ∈ wsX4_takeLetters := by decide +kernel
  refine z_cut (σ := Int) 31 (I := fun x9 H locs ls => (Rts ≤ x9 ∧ x9 ≤ Rlen) ∧ (scanL letP Rtape Rlen Rts = x9) ∧ HW D A s.heap (kR cI cB cZ oR aRguests Rtape Rlen Rfn Rfp Rtok Rts Rte Rval) H locs ∧ lv_has ls 3 [(0, .ref (oR 0)), (1, .int (zI x9))]) (st := fun x9 => []) ?_ (fun hj_1 => ?_)
  · clear hw hl
    intro i_2 H locs ls hI
    try dsimp only at hI ⊢
    obtain ⟨hI_3, hI_4, hw, hl⟩ := hI
    refine lv_aload_n hx hb dX4_takeLetters_31 rfl (lv_at hl 0 rfl) ?_
    refine lv_iload_n hx hb dX4_takeLetters_32 rfl (lv_at hl 1 rfl) ?_
    refine z_put (D := D) (ci := 4) (v := .int (zI i_2)) (ty := .int) (C := RX4) (T := TX4) (N := 9) (ws2 := kR cI cB cZ oR aRguests Rtape Rlen Rfn Rfp Rtok Rts i_2 Rval) hx hb hts hinX4 tyX4 tyX4_ok nmX4 hown hK hw 0 rfl rfl 7 (by decide) (hts (.fieldLink RX4 31 "CarnivalRoad$Reader" "tokenEnd" "I") (by decide +kernel)) (fun _ h9 => h9) rfl (by decide +kernel) rfl rfl (Nat.le_of_ble_eq_true rfl) dX4_takeLetters_33 rfl (fun H locs hw => ?_)
    refine lv_aload_n hx hb dX4_takeLetters_36 rfl (lv_at hl 0 rfl) ?_
    refine z_bipush hx hb dX4_takeLetters_37 (by decide) ?_
    refine z_put (D := D) (ci := 4) (v := .int (zI 10)) (ty := .int) (C := RX4) (T := TX4) (N := 9) (ws2 := kR cI cB cZ oR aRguests Rtape Rlen Rfn Rfp 10 Rts i_2 Rval) hx hb hts hinX4 tyX4 tyX4_ok nmX4 hown hK hw 0 rfl rfl 5 (by decide) (hts (.fieldLink RX4 25 "CarnivalRoad$Reader" "token" "I") (by decide +kernel)) (fun _ h9 => h9) rfl (by decide +kernel) rfl rfl (Nat.le_of_ble_eq_true rfl) dX4_takeLetters_39 rfl (fun H locs hw => ?_)
    refine z_iconst hx hb dX4_takeLetters_42 ?_
    refine lv_istore_n (lv' := [(2, .int (zI 1)), (0, .ref (oR 0)), (1, .int (zI i_2))]) hx hb dX4_takeLetters_43 rfl hl (by decide) rfl (fun ls hl => ?_)
    have hv_5 : (1 : Int) ≤ (10 : Int) ∧ (10 : Int) ≤ 11 := by
      first | assumption | omega | grind
    have hv_6 : 1 ≤ (1 : Int) ∧ (1 : Int) ≤ 7 := by
      first | assumption | omega | grind
    have hv_7 : ((10 : Int) = 10 ∧ ∀ k : Nat, (k : Int) < (1 : Int) - 1 → ¬ isW Rtape Rts i_2 k) ∨ (∃ k : Nat, (k : Int) < (1 : Int) - 1 ∧ isW Rtape Rts i_2 k ∧ (10 : Int) = (k : Int) + 1) := by
      exact Or.inl ⟨rfl, fun k hk => absurd hk (by omega)⟩
    refine z_loop (σ := Int × Int) (μ := fun x9 => (7 - (x9.1)).toNat) (I := fun x9 H locs ls => ((1 : Int) ≤ (x9.2) ∧ (x9.2) ≤ 11) ∧ (1 ≤ (x9.1) ∧ (x9.1) ≤ 7) ∧ (((x9.2) = 10 ∧ ∀ k : Nat, (k : Int) < (x9.1) - 1 → ¬ isW Rtape Rts i_2 k) ∨ (∃ k : Nat, (k : Int) < (x9.1) - 1 ∧ isW Rtape Rts i_2 k ∧ (x9.2) = (k : Int) + 1)) ∧ HW D A s.heap (kR cI cB cZ oR aRguests Rtape Rlen Rfn Rfp (x9.2) Rts i_2 Rval) H locs ∧ lv_has ls 3 [(0, .ref (oR 0)), (2, .int (zI (x9.1)))]) (1, 10) ⟨hv_5, hv_6, hv_7, hw, lv_sub hl [1, 0] rfl⟩ ?_
    clear hw hl
    intro x9 H locs ls hI ih_8
    obtain ⟨w_9, Rtok_10⟩ := x9
    try dsimp only at hI
    obtain ⟨hq_11, hI_12, hI_13, hw, hl⟩ := hI
    refine lv_iload_n hx hb dX4_takeLetters_44 rfl (lv_at hl 1 rfl) ?_
    refine z_bipush hx hb dX4_takeLetters_45 (by decide) ?_
    refine z_icmp_gt (tgt := 72) hx hb dX4_takeLetters_47 (by decide) (by omega) (fun hc_14 => ?_) (fun hc_14 => ?_)
    · skip
      have hv_15 : (1 : Int) ≤ Rtok_10 ∧ Rtok_10 ≤ 11 := by
        first | assumption | omega | grind
      have hv_16 : (0 : Int) ≤ i_2 ∧ i_2 ≤ 400 := by
        first | assumption | omega | grind
      have hv_17 : i_2 = scanL letP Rtape Rlen Rts := by
        exact (by assumption : scanL letP Rtape Rlen Rts = i_2).symm
      have hv_18 : Rtok_10 = wordF Rtape Rts i_2 := by
        exact word_end (by assumption) (by omega)
      exact W.vret hx hb hr (fun t9 ht hW => ⟨⟨(Rtok_10, i_2), rfl, ⟨hv_15, hv_16, hv_17, hv_18⟩, by subst hAe; exact z_end hK hw ht hW⟩, by subst hAe; exact hw.2.2.F ht⟩) (by subst hAe; exact hw.2.2.2.2) dX4_takeLetters_72
    · skip
      refine lv_aload_n hx hb dX4_takeLetters_50 rfl (lv_at hl 0 rfl) ?_
      refine lv_iload_n hx hb dX4_takeLetters_51 rfl (lv_at hl 1 rfl) ?_
      refine va_csr (W.runS (As := [.int (zI w_9)]) (rest := [.ref (oR 0)]) ⟨hx, hb, hml, hown, hts⟩ (c_textOf l aK aV (by omega)) (va_cwS 1 hts gX4_takeLetters_X4_textOf rfl rfl rfl (by decide +kernel) ⟨Nat.le_of_ble_eq_true rfl, Nat.le_of_ble_eq_true rfl⟩) ⟨ZB_blind, ZB_go hZX hw.2.2⟩ rfl rfl hl.1 rfl (lv_room (Nat.le_of_ble_eq_true rfl)) dX4_takeLetters_52 ⟨Nat.zero_le _, Nat.zero_le _⟩) (fun k_19 h9 => ?_)
      obtain ⟨h6k_19, hkk_19⟩ := h9
      have hpre_20 : 0 ≤ Rts ∧ Rts ≤ i_2 ∧ i_2 ≤ Rlen := by
        first | assumption | omega | grind
      have hF9 := z_free (wc := kR cI cB cZ oR aRguests Rtape Rlen Rfn Rfp Rtok_10 Rts i_2 Rval) hw hA [0, 1] rfl
      refine va_calli (va_runV (As := [.ref (aK k_19)]) (rest := []) ⟨hx, hb, hml, hown, hts⟩ (c_X4_tokenIs l D cI cB cZ aK aV oR aRguests H.size Rtape Rlen Rfn Rfp Rtok_10 Rts i_2 Rval k_19 qRtape (by omega) (by omega) (by omega) (by omega) (by omega) (by omega) (by omega) h6k_19 hpre_20) (cwV 1 hts gX4_takeLetters_X4_tokenIs rfl rfl rfl (by decide +kernel) ⟨Nat.le_of_ble_eq_true rfl, Nat.le_of_ble_eq_true rfl⟩) ⟨zPreX_blind, va_recv hK hw.1 (ci := 4) (q0 := 0) rfl rfl, z_preX hK hw [0, 1] (by decide) rfl hZX hF9⟩ rfl rfl hl.1 rfl (lv_room (Nat.le_of_ble_eq_true rfl)) dX4_takeLetters_55 ⟨Nat.zero_le _, Nat.zero_le _⟩) hw.2.2 (fun q _ h => hF9 q h) hF9 (fun r9 u9 t9 H_21 locs9 ht9 hvm9 hq9 hB9 hz9 hk9 hS9 => ?_)
      obtain ⟨r_22, rfl⟩ : ∃ z, z = u9 := ⟨_, rfl⟩
      try dsimp only at hq9 hB9
      obtain ⟨rfl, hq9⟩ := hq9
      have hq_23 := hq9
      have hw : HW D A s.heap (kR cI cB cZ oR aRguests Rtape Rlen Rfn Rfp Rtok_10 Rts i_2 Rval) H_21 locs9 := z_after (wc := kR cI cB cZ oR aRguests Rtape Rlen Rfn Rfp Rtok_10 Rts i_2 Rval) hw [0, 1] [] rfl rfl (by decide) (by decide) hF9 hk9 ht9 hB9 hS9 [0, 1] (by decide) rfl
      clear hF9 ht9 hvm9 hB9 hz9 hk9 hS9 hq9
      rcases hq_23 with ⟨hc_24, rfl⟩ | ⟨hc_24, rfl⟩
      · skip
        refine z_if_eq (tgt := 66) hx hb dX4_takeLetters_58 (by decide) (by omega) (fun hc_25 => absurd hc_25 (by omega)) (fun hc_25 => ?_)
        refine lv_aload_n hx hb dX4_takeLetters_61 rfl (lv_at hl 0 rfl) ?_
        refine lv_iload_n hx hb dX4_takeLetters_62 rfl (lv_at hl 1 rfl) ?_
        refine z_put (D := D) (ci := 4) (v := .int (zI w_9)) (ty := .int) (C := RX4) (T := TX4) (N := 9) (ws2 := kR cI cB cZ oR aRguests Rtape Rlen Rfn Rfp w_9 Rts i_2 Rval) hx hb hts hinX4 tyX4 tyX4_ok nmX4 hown hK hw 0 rfl rfl 5 (by decide) (hts (.fieldLink RX4 25 "CarnivalRoad$Reader" "token" "I") (by decide +kernel)) (fun _ h9 => h9) rfl (by decide +kernel) rfl rfl (Nat.le_of_ble_eq_true rfl) dX4_takeLetters_63 rfl (fun H locs hw => ?_)
        refine z_iinc (k := 1) (lv' := [(2, .int (zI (w_9 + 1))), (0, .ref (oR 0))]) hx hb dX4_takeLetters_66 hl rfl (by decide) rfl (fun ls hl => ?_)
        refine lv_goto (tgt := 44) hx hb dX4_takeLetters_69 (by decide) ?_
        have hv_26 : (1 : Int) ≤ w_9 ∧ w_9 ≤ 11 := by
          first | assumption | omega | grind
        have hv_27 : 1 ≤ (w_9 + 1) ∧ (w_9 + 1) ≤ 7 := by
          first | assumption | omega | grind
        have hv_28 : (w_9 = 10 ∧ ∀ k : Nat, (k : Int) < (w_9 + 1) - 1 → ¬ isW Rtape Rts i_2 k) ∨ (∃ k : Nat, (k : Int) < (w_9 + 1) - 1 ∧ isW Rtape Rts i_2 k ∧ w_9 = (k : Int) + 1) := by
          first | exact word_on (tok := 0) hkk_19 (by assumption) | exact word_off (by assumption) hkk_19 (by assumption)
        have hm_29 : (7 - (w_9 + 1)).toNat < (7 - w_9).toNat := by
          first | assumption | omega | grind
        exact ih_8 ((w_9 + 1), w_9) _ _ _ ⟨hv_26, hv_27, hv_28, hw, lv_sub hl [1, 0] rfl⟩ hm_29
      · skip
        refine z_if_eq (tgt := 66) hx hb dX4_takeLetters_58 (by decide) (by omega) (fun hc_30 => ?_) (fun hc_30 => absurd hc_30 (by omega))
        refine z_iinc (k := 1) (lv' := [(2, .int (zI (w_9 + 1))), (0, .ref (oR 0))]) hx hb dX4_takeLetters_66 hl rfl (by decide) rfl (fun ls hl => ?_)
        refine lv_goto (tgt := 44) hx hb dX4_takeLetters_69 (by decide) ?_
        have hv_31 : (1 : Int) ≤ Rtok_10 ∧ Rtok_10 ≤ 11 := by
          first | assumption | omega | grind
        have hv_32 : 1 ≤ (w_9 + 1) ∧ (w_9 + 1) ≤ 7 := by
          first | assumption | omega | grind
        have hv_33 : (Rtok_10 = 10 ∧ ∀ k : Nat, (k : Int) < (w_9 + 1) - 1 → ¬ isW Rtape Rts i_2 k) ∨ (∃ k : Nat, (k : Int) < (w_9 + 1) - 1 ∧ isW Rtape Rts i_2 k ∧ Rtok_10 = (k : Int) + 1) := by
          first | exact word_on (tok := 0) hkk_19 (by assumption) | exact word_off (by assumption) hkk_19 (by assumption)
        have hm_34 : (7 - (w_9 + 1)).toNat < (7 - w_9).toNat := by
          first | assumption | omega | grind
        exact ih_8 ((w_9 + 1), Rtok_10) _ _ _ ⟨hv_31, hv_32, hv_33, hw, lv_sub hl [1, 0] rfl⟩ hm_34
  refine lv_aload_n hx hb dX4_takeLetters_0 rfl (lv_at hl 0 rfl) ?_
  refine va_get (D := D) (ci := 4) (v := .int (zI Rts)) (C := RX4) (T := TX4) (N := 9) hx hb hts hinX4 hown hK hw.1 0 rfl rfl 6 (by decide) (hts (.fieldLink RX4 28 "CarnivalRoad$Reader" "tokenStart" "I") (by decide +kernel)) (fun _ h9 => h9) rfl dX4_takeLetters_1 ?_
  refine lv_istore_n (lv' := [(1, .int (zI Rts)), (0, .ref (oR 0))]) hx hb dX4_takeLetters_4 rfl hl (by decide) rfl (fun ls hl => ?_)
  have hv_35 : Rts ≤ Rts ∧ Rts ≤ Rlen := by
    first | assumption | omega | grind
  have hv_36 : scanL letP Rtape Rlen Rts = scanL letP Rtape Rlen Rts := by
    rfl
  refine z_loop (σ := Int) (μ := fun x9 => (Rlen - x9).toNat) (I := fun x9 H locs ls => (Rts ≤ x9 ∧ x9 ≤ Rlen) ∧ (scanL letP Rtape Rlen Rts = scanL letP Rtape Rlen x9) ∧ HW D A s.heap (kR cI cB cZ oR aRguests Rtape Rlen Rfn Rfp Rtok Rts Rte Rval) H locs ∧ lv_has ls 3 [(0, .ref (oR 0)), (1, .int (zI x9))]) Rts ⟨hv_35, hv_36, hw, lv_sub hl [1, 0] rfl⟩ ?_
  clear hw hl
  intro i_38 H locs ls hI ih_37
  try dsimp only at hI
  obtain ⟨hI_39, hI_40, hw, hl⟩ := hI
  refine lv_iload_n hx hb dX4_takeLetters_5 rfl (lv_at hl 1 rfl) ?_
  refine lv_aload_n hx hb dX4_takeLetters_6 rfl (lv_at hl 0 rfl) ?_
  refine va_get (D := D) (ci := 4) (v := .int (zI Rlen)) (C := RX4) (T := TX4) (N := 9) hx hb hts hinX4 hown hK hw.1 0 rfl rfl 2 (by decide) (hts (.fieldLink RX4 15 "CarnivalRoad$Reader" "length" "I") (by decide +kernel)) (fun _ h9 => h9) rfl dX4_takeLetters_7 ?_
  refine z_icmp_ge (tgt := 31) hx hb dX4_takeLetters_10 (by decide) (by omega) (fun hc_41 => ?_) (fun hc_41 => ?_)
  · skip
    have hv_42 : Rts ≤ i_38 ∧ i_38 ≤ Rlen := by
      first | assumption | omega | grind
    have hv_43 : scanL letP Rtape Rlen Rts = i_38 := by
      first | (rw [← scan_end (p := letP) (f := Rtape) (len := Rlen) (i := i_38) (by omega)]; assumption) | (rw [← scan_off (p := letP) (f := Rtape) (len := Rlen) (i := i_38) (by unfold letP; omega)]; assumption)
    exact hj_1 i_38 _ _ _ ⟨hv_42, hv_43, hw, lv_sub hl [0, 1] rfl⟩
  · skip
    refine lv_aload_n hx hb dX4_takeLetters_13 rfl (lv_at hl 0 rfl) ?_
    refine va_get (D := D) (ci := 4) (v := .ref (oR 1)) (C := RX4) (T := TX4) (N := 9) hx hb hts hinX4 hown hK hw.1 0 rfl rfl 1 (by decide) (hts (.fieldLink RX4 11 "CarnivalRoad$Reader" "tape" "[B") (by decide +kernel)) (fun _ h9 => h9) rfl dX4_takeLetters_14 ?_
    refine lv_iload_n hx hb dX4_takeLetters_17 rfl (lv_at hl 1 rfl) ?_
    have hi_44 : (0 : Int) ≤ i_38 ∧ i_38 < ((400 : Nat) : Int) := by
      first | assumption | omega | grind
    refine z_bald (n := 400) (f := Rtape) hx hb hK hw 1 rfl (by decide) hi_44 dX4_takeLetters_18 ?_
    have hq_45 : -128 ≤ Rtape i_38 ∧ Rtape i_38 ≤ 127 := qRtape i_38
    have hF9 := z_free (wc := ([] : va_W)) hw hA [] rfl
    refine va_calli (va_runS (As := [.int (zI (Rtape i_38))]) (rest := []) ⟨hx, hb, hml, hown, hts⟩ (c_X4_isLetter l D cI cB cZ H.size (Rtape i_38) (by omega)) (va_cwS 1 hts gX4_takeLetters_X4_isLetter rfl rfl rfl (by decide +kernel) ⟨Nat.le_of_ble_eq_true rfl, Nat.le_of_ble_eq_true rfl⟩) ⟨zPre_blind, z_pre hK hw [] (by decide) rfl⟩ rfl rfl hl.1 rfl (lv_room (Nat.le_of_ble_eq_true rfl)) dX4_takeLetters_19 ⟨Nat.zero_le _, Nat.zero_le _⟩) hw.2.2 (fun q _ h => hF9 q h) hF9 (fun r9 u9 t9 H_46 locs9 ht9 hvm9 hq9 hB9 hz9 hk9 hS9 => ?_)
    obtain ⟨r_47, rfl⟩ : ∃ z, z = u9 := ⟨_, rfl⟩
    try dsimp only at hq9 hB9
    obtain ⟨rfl, hq9⟩ := hq9
    have hq_48 := hq9
    have hw : HW D A s.heap (kR cI cB cZ oR aRguests Rtape Rlen Rfn Rfp Rtok Rts Rte Rval) H_46 locs9 := z_after (wc := ([] : va_W)) hw [] [0, 1] rfl rfl (by decide) (by decide) hF9 hk9 ht9 hB9 hS9 [0, 1] (by decide) rfl
    clear hF9 ht9 hvm9 hB9 hz9 hk9 hS9 hq9
    rcases hq_48 with ⟨hc_49, rfl⟩ | ⟨hc_49, rfl⟩
    · skip
      refine z_if_eq (tgt := 31) hx hb dX4_takeLetters_22 (by decide) (by omega) (fun hc_50 => absurd hc_50 (by omega)) (fun hc_50 => ?_)
      refine z_iinc (k := 1) (lv' := [(1, .int (zI (i_38 + 1))), (0, .ref (oR 0))]) hx hb dX4_takeLetters_25 hl rfl (by decide) rfl (fun ls hl => ?_)
      refine lv_goto (tgt := 5) hx hb dX4_takeLetters_28 (by decide) ?_
      have hv_51 : Rts ≤ (i_38 + 1) ∧ (i_38 + 1) ≤ Rlen := by
        first | assumption | omega | grind
      have hv_52 : scanL letP Rtape Rlen Rts = scanL letP Rtape Rlen (i_38 + 1) := by
        rw [← scan_on (p := letP) (by omega) (by unfold letP; omega)]; assumption
      have hm_53 : (Rlen - (i_38 + 1)).toNat < (Rlen - i_38).toNat := by
        first | assumption | omega | grind
      exact ih_37 (i_38 + 1) _ _ _ ⟨hv_51, hv_52, hw, lv_sub hl [1, 0] rfl⟩ hm_53
    · skip
      refine z_if_eq (tgt := 31) hx hb dX4_takeLetters_22 (by decide) (by omega) (fun hc_54 => ?_) (fun hc_54 => absurd hc_54 (by omega))
      have hv_55 : Rts ≤ i_38 ∧ i_38 ≤ Rlen := by
        first | assumption | omega | grind
      have hv_56 : scanL letP Rtape Rlen Rts = i_38 := by
        first | (rw [← scan_end (p := letP) (f := Rtape) (len := Rlen) (i := i_38) (by omega)]; assumption) | (rw [← scan_off (p := letP) (f := Rtape) (len := Rlen) (i := i_38) (by unfold letP; omega)]; assumption)
      exact hj_1 i_38 _ _ _ ⟨hv_55, hv_56, hw, lv_sub hl [0, 1] rfl⟩
set_option maxRecDepth 100000 in
set_option maxHeartbeats 4000000 in
theorem c_X4_goOn (l : Launch) (D : va_G) (cI cB cZ : ClassId) (aK aV : Nat → Nat) (oR : Nat → Nat) (aRguests : Nat) (sz : Nat) (Rtape : Int → Int) (Rlen : Int) (Rfn : Int) (Rfp : Int) (Rtok : Int) (Rts : Int) (Rte : Int) (Rval : Int) (q : QS) (qRtape : RA Rtape (-128) 127) (qRlen : 0 ≤ Rlen ∧ Rlen ≤ 400) (qRfn : 0 ≤ Rfn ∧ Rfn ≤ 3) (qRfp : -1 ≤ Rfp ∧ Rfp ≤ 400) (qRtok : 1 ≤ Rtok ∧ Rtok ≤ 11) (qRts : 0 ≤ Rts ∧ Rts ≤ 400) (qRte : 0 ≤ Rte ∧ Rte ≤ 400) (qRval : 0 ≤ Rval ∧ Rval ≤ 999) (hp0 : qR q Rfn Rfp Rtok Rts Rte Rval) (hp1 : Rte ≤ Rlen) : Met l yX4_goOn wsX4_goOn ({ frames := 6, cells := 0, slots := 0, locals := 130 }) (va_Pc [.ref (oR 0)] (zPreX aK aV D cI cB cZ sz (kR cI cB cZ oR aRguests Rtape Rlen Rfn Rfp Rtok Rts Rte Rval))) (va_Qv (fun (u9 : Int × Int × Int × Int) => ((1 : Int) ≤ u9.1 ∧ u9.1 ≤ 11) ∧ ((0 : Int) ≤ u9.2.1 ∧ u9.2.1 ≤ 400) ∧ ((0 : Int) ≤ u9.2.2.1 ∧ u9.2.2.1 ≤ 400) ∧ ((0 : Int) ≤ u9.2.2.2 ∧ u9.2.2.2 ≤ 999) ∧ (qR (goF Rtape Rlen q) Rfn Rfp u9.1 u9.2.1 u9.2.2.1 u9.2.2.2) ∧ (u9.2.2.1 ≤ Rlen)) (fun u9 t9 => zAt D cI cB cZ (va_A (kR cI cB cZ oR aRguests Rtape Rlen Rfn Rfp Rtok Rts Rte Rval) sz) (kR cI cB cZ oR aRguests Rtape Rlen Rfn Rfp (u9.1) (u9.2.1) (u9.2.2.1) (u9.2.2.2)) t9) (va_A (kR cI cB cZ oR aRguests Rtape Rlen Rfn Rfp Rtok Rts Rte Rval) sz)) 0 0 (va_A (kR cI cB cZ oR aRguests Rtape Rlen Rfn Rfp Rtok Rts Rte Rval) sz) := by
  refine Met.ofW (cc := cX4_goOn) (maxL := 2) (ret := none) (by decide) rfl ?_
  intro pp ee s mm aa bw mt cd s₁ BL hml hv
  obtain ⟨rfl, ⟨hsz, hP, hK, hD0⟩, hZX⟩ := hv
  have hx := BL.exec
  have hb := BL.bytes
  have hr := BL.returns
  have hts := atoms_spec (ws := wsX4_goOn) BL.pre
  have hown : s.vm.findClass RX4 = some mm.cls := findClass_of_methodNamed BL.named
  have hlocks := BL.notSynchronized
  subst hsz
  generalize hAe : va_A (kR cI cB cZ oR aRguests Rtape Rlen Rfn Rfp Rtok Rts Rte Rval) s.heap.size = A at hZX ⊢
  have hA : ∀ q : Nat, s.heap.size ≤ q → A q := fun q h => by rw [← hAe]; exact Or.inr h
  have hw : HW D A s.heap (kR cI cB cZ oR aRguests Rtape Rlen Rfn Rfp Rtok Rts Rte Rval) s.heap [] := z_start hAe hP hD0
  clear hP hD0
  have hl := lv_entry ([.ref (oR 0)]) (n := 2) (Nat.le_of_ble_eq_true rfl)
  rw [lg_entry_eq]
  generalize (lg_sl ([.ref (oR 0)]) ++ List.replicate (2 - (lg_sl ([.ref (oR 0)])).length) Slot.unset).toArray = ls at hl ⊢
  have hl : lv_has ls 2 [(0, .ref (oR 0))] := hl
  have hinX4 : ∀ w ∈ wsX40, w ∈ wsX4_goOn := by decide +kernel
  have hq0 := hp0
  unfold qR at hq0
  obtain ⟨e1, e2, e3, e4, e5, e6⟩ := hq0
  refine z_cut (σ := Int) 31 (I := fun x9 H locs ls => (Rte ≤ x9 ∧ x9 ≤ Rlen) ∧ (scanL blkP Rtape Rlen Rte = x9) ∧ HW D A s.heap (kR cI cB cZ oR aRguests Rtape Rlen Rfn Rfp Rtok Rts Rte Rval) H locs ∧ lv_has ls 2 [(0, .ref (oR 0)), (1, .int (zI x9))]) (st := fun x9 => []) ?_ (fun hj_1 => ?_)
  · clear hw hl
    intro i_2 H locs ls hI
    try dsimp only at hI ⊢
    obtain ⟨hI_3, hI_4, hw, hl⟩ := hI
    refine lv_aload_n hx hb dX4_goOn_31 rfl (lv_at hl 0 rfl) ?_
    refine lv_iload_n hx hb dX4_goOn_32 rfl (lv_at hl 1 rfl) ?_
    refine z_put (D := D) (ci := 4) (v := .int (zI i_2)) (ty := .int) (C := RX4) (T := TX4) (N := 9) (ws2 := kR cI cB cZ oR aRguests Rtape Rlen Rfn Rfp Rtok i_2 Rte Rval) hx hb hts hinX4 tyX4 tyX4_ok nmX4 hown hK hw 0 rfl rfl 6 (by decide) (hts (.fieldLink RX4 28 "CarnivalRoad$Reader" "tokenStart" "I") (by decide +kernel)) (fun _ h9 => h9) rfl (by decide +kernel) rfl rfl (Nat.le_of_ble_eq_true rfl) dX4_goOn_33 rfl (fun H locs hw => ?_)
    refine lv_iload_n hx hb dX4_goOn_36 rfl (lv_at hl 1 rfl) ?_
    refine lv_aload_n hx hb dX4_goOn_37 rfl (lv_at hl 0 rfl) ?_
    refine va_get (D := D) (ci := 4) (v := .int (zI Rlen)) (C := RX4) (T := TX4) (N := 9) hx hb hts hinX4 hown hK hw.1 0 rfl rfl 2 (by decide) (hts (.fieldLink RX4 15 "CarnivalRoad$Reader" "length" "I") (by decide +kernel)) (fun _ h9 => h9) rfl dX4_goOn_38 ?_
    refine z_icmp_lt (tgt := 58) hx hb dX4_goOn_41 (by decide) (by omega) (fun hc_5 => ?_) (fun hc_5 => ?_)
    · skip
      refine lv_aload_n hx hb dX4_goOn_58 rfl (lv_at hl 0 rfl) ?_
      refine va_get (D := D) (ci := 4) (v := .ref (oR 1)) (C := RX4) (T := TX4) (N := 9) hx hb hts hinX4 hown hK hw.1 0 rfl rfl 1 (by decide) (hts (.fieldLink RX4 11 "CarnivalRoad$Reader" "tape" "[B") (by decide +kernel)) (fun _ h9 => h9) rfl dX4_goOn_59 ?_
      refine lv_iload_n hx hb dX4_goOn_62 rfl (lv_at hl 1 rfl) ?_
      have hi_6 : (0 : Int) ≤ i_2 ∧ i_2 < ((400 : Nat) : Int) := by
        first | assumption | omega | grind
      refine z_bald (n := 400) (f := Rtape) hx hb hK hw 1 rfl (by decide) hi_6 dX4_goOn_63 ?_
      have hq_7 : -128 ≤ Rtape i_2 ∧ Rtape i_2 ≤ 127 := qRtape i_2
      have hF9 := z_free (wc := ([] : va_W)) hw hA [] rfl
      refine va_calli (va_runS (As := [.int (zI (Rtape i_2))]) (rest := []) ⟨hx, hb, hml, hown, hts⟩ (c_X4_isLetter l D cI cB cZ H.size (Rtape i_2) (by omega)) (va_cwS 1 hts gX4_goOn_X4_isLetter rfl rfl rfl (by decide +kernel) ⟨Nat.le_of_ble_eq_true rfl, Nat.le_of_ble_eq_true rfl⟩) ⟨zPre_blind, z_pre hK hw [] (by decide) rfl⟩ rfl rfl hl.1 rfl (lv_room (Nat.le_of_ble_eq_true rfl)) dX4_goOn_64 ⟨Nat.zero_le _, Nat.zero_le _⟩) hw.2.2 (fun q _ h => hF9 q h) hF9 (fun r9 u9 t9 H_8 locs9 ht9 hvm9 hq9 hB9 hz9 hk9 hS9 => ?_)
      obtain ⟨r_9, rfl⟩ : ∃ z, z = u9 := ⟨_, rfl⟩
      try dsimp only at hq9 hB9
      obtain ⟨rfl, hq9⟩ := hq9
      have hq_10 := hq9
      have hw : HW D A s.heap (kR cI cB cZ oR aRguests Rtape Rlen Rfn Rfp Rtok i_2 Rte Rval) H_8 locs9 := z_after (wc := ([] : va_W)) hw [] [0, 1] rfl rfl (by decide) (by decide) hF9 hk9 ht9 hB9 hS9 [0, 1] (by decide) rfl
      clear hF9 ht9 hvm9 hB9 hz9 hk9 hS9 hq9
      rcases hq_10 with ⟨hc_11, rfl⟩ | ⟨hc_11, rfl⟩
      · skip
        refine z_if_eq (tgt := 77) hx hb dX4_goOn_67 (by decide) (by omega) (fun hc_12 => absurd hc_12 (by omega)) (fun hc_12 => ?_)
        refine lv_aload_n hx hb dX4_goOn_70 rfl (lv_at hl 0 rfl) ?_
        have hpre_13 : i_2 ≤ Rlen := by
          first | assumption | omega | grind
        have hF9 := z_free (wc := kR cI cB cZ oR aRguests Rtape Rlen Rfn Rfp Rtok i_2 Rte Rval) hw hA [0, 1] rfl
        refine va_callv (va_runV (As := []) (rest := []) ⟨hx, hb, hml, hown, hts⟩ (c_X4_takeLetters l D cI cB cZ aK aV oR aRguests H_8.size Rtape Rlen Rfn Rfp Rtok i_2 Rte Rval qRtape (by omega) (by omega) (by omega) (by omega) (by omega) (by omega) (by omega) hpre_13) (cwV 0 hts gX4_goOn_X4_takeLetters rfl rfl rfl (by decide +kernel) ⟨Nat.le_of_ble_eq_true rfl, Nat.le_of_ble_eq_true rfl⟩) ⟨zPreX_blind, va_recv hK hw.1 (ci := 4) (q0 := 0) rfl rfl, z_preX hK hw [0, 1] (by decide) rfl hZX hF9⟩ rfl rfl hl.1 rfl (lv_room (Nat.le_of_ble_eq_true rfl)) dX4_goOn_71 ⟨Nat.zero_le _, Nat.zero_le _⟩) hw.2.2 (fun q _ h => hF9 q h) hF9 (fun u9 t9 H_14 locs9 ht9 hvm9 hq9 hB9 hz9 hk9 hS9 => ?_)
        obtain ⟨Rtok_15, Rte_16⟩ := u9
        try dsimp only at hq9 hB9
        obtain ⟨hq_17, hq_18, hq_19, hq_20⟩ := hq9
        have hw : HW D A s.heap (kR cI cB cZ oR aRguests Rtape Rlen Rfn Rfp Rtok_15 i_2 Rte_16 Rval) H_14 locs9 := z_after (wc := kR cI cB cZ oR aRguests Rtape Rlen Rfn Rfp Rtok i_2 Rte Rval) hw [0, 1] [] rfl rfl (by decide) (by decide) hF9 hk9 ht9 hB9 hS9 [0, 1] (by decide) rfl
        clear hF9 ht9 hvm9 hB9 hz9 hk9 hS9
        refine lv_goto (tgt := 125) hx hb dX4_goOn_74 (by decide) ?_
        have hv_21 : (1 : Int) ≤ Rtok_15 ∧ Rtok_15 ≤ 11 := by
          first | omega | assumption | grind
        have hv_22 : (0 : Int) ≤ i_2 ∧ i_2 ≤ 400 := by
          first | omega | assumption | grind
        have hv_23 : (0 : Int) ≤ Rte_16 ∧ Rte_16 ≤ 400 := by
          first | omega | assumption | grind
        have hv_24 : (0 : Int) ≤ Rval ∧ Rval ≤ 999 := by
          first | omega | assumption | grind
        have hv_25 : qR (goF Rtape Rlen q) Rfn Rfp Rtok_15 i_2 Rte_16 Rval := by
          have hsc := (by assumption : scanL blkP Rtape Rlen Rte = i_2)
          refine go_q hp0 ?_
          first | rw [lex_1 hsc (by omega)] | rw [lex_2 hsc (by omega) (by unfold letP; omega)] | rw [lex_3 hsc (by omega) (by unfold letP; omega) (by unfold digP; omega)] | rw [lex_4 hsc (by omega) (by unfold letP; omega) (by unfold digP; omega)]
          refine ⟨?_, ?_, ?_, ?_⟩ <;> dsimp only <;> first | omega | (intro z; exfalso; have z2 := wordF_r (f := Rtape) (a := i_2) (e := Rte_16); omega) | (intro z; first | assumption | (exfalso; omega) | (exact (by assumption : _ → _) z)) | assumption | (rw [if_pos (by omega)]; omega) | (rw [if_neg (by omega)]; omega) | (intro z; subst_vars; exact (by assumption : (7 : Int) = 7 → _) rfl) | (subst_vars; assumption) | grind
        have hv_26 : Rte_16 ≤ Rlen := by
          have hsc := (by assumption : scanL blkP Rtape Rlen Rte = i_2)
          first | omega | (have z := (scan_r (p := letP) (f := Rtape) (len := Rlen) (i := i_2) (by omega)).2.1; omega) | (have z := (scan_r (p := digP) (f := Rtape) (len := Rlen) (i := i_2) (by omega)).2.1; omega)
        exact W.vret hx hb hr (fun t9 ht hW => ⟨⟨(Rtok_15, i_2, Rte_16, Rval), rfl, ⟨hv_21, hv_22, hv_23, hv_24, hv_25, hv_26⟩, by subst hAe; exact z_end hK hw ht hW⟩, by subst hAe; exact hw.2.2.F ht⟩) (by subst hAe; exact hw.2.2.2.2) dX4_goOn_125
      · skip
        refine z_if_eq (tgt := 77) hx hb dX4_goOn_67 (by decide) (by omega) (fun hc_27 => ?_) (fun hc_27 => absurd hc_27 (by omega))
        refine lv_aload_n hx hb dX4_goOn_77 rfl (lv_at hl 0 rfl) ?_
        refine va_get (D := D) (ci := 4) (v := .ref (oR 1)) (C := RX4) (T := TX4) (N := 9) hx hb hts hinX4 hown hK hw.1 0 rfl rfl 1 (by decide) (hts (.fieldLink RX4 11 "CarnivalRoad$Reader" "tape" "[B") (by decide +kernel)) (fun _ h9 => h9) rfl dX4_goOn_78 ?_
        refine lv_iload_n hx hb dX4_goOn_81 rfl (lv_at hl 1 rfl) ?_
        have hi_28 : (0 : Int) ≤ i_2 ∧ i_2 < ((400 : Nat) : Int) := by
          first | assumption | omega | grind
        refine z_bald (n := 400) (f := Rtape) hx hb hK hw 1 rfl (by decide) hi_28 dX4_goOn_82 ?_
        have hq_29 : -128 ≤ Rtape i_2 ∧ Rtape i_2 ≤ 127 := qRtape i_2
        have hF9 := z_free (wc := ([] : va_W)) hw hA [] rfl
        refine va_calli (va_runS (As := [.int (zI (Rtape i_2))]) (rest := []) ⟨hx, hb, hml, hown, hts⟩ (c_X4_isDigit l D cI cB cZ H_8.size (Rtape i_2) (by omega)) (va_cwS 1 hts gX4_goOn_X4_isDigit rfl rfl rfl (by decide +kernel) ⟨Nat.le_of_ble_eq_true rfl, Nat.le_of_ble_eq_true rfl⟩) ⟨zPre_blind, z_pre hK hw [] (by decide) rfl⟩ rfl rfl hl.1 rfl (lv_room (Nat.le_of_ble_eq_true rfl)) dX4_goOn_83 ⟨Nat.zero_le _, Nat.zero_le _⟩) hw.2.2 (fun q _ h => hF9 q h) hF9 (fun r9 u9 t9 H_30 locs9 ht9 hvm9 hq9 hB9 hz9 hk9 hS9 => ?_)
        obtain ⟨r_31, rfl⟩ : ∃ z, z = u9 := ⟨_, rfl⟩
        try dsimp only at hq9 hB9
        obtain ⟨rfl, hq9⟩ := hq9
        have hq_32 := hq9
        have hw : HW D A s.heap (kR cI cB cZ oR aRguests Rtape Rlen Rfn Rfp Rtok i_2 Rte Rval) H_30 locs9 := z_after (wc := ([] : va_W)) hw [] [0, 1] rfl rfl (by decide) (by decide) hF9 hk9 ht9 hB9 hS9 [0, 1] (by decide) rfl
        clear hF9 ht9 hvm9 hB9 hz9 hk9 hS9 hq9
        rcases hq_32 with ⟨hc_33, rfl⟩ | ⟨hc_33, rfl⟩
        · skip
          refine z_if_eq (tgt := 96) hx hb dX4_goOn_86 (by decide) (by omega) (fun hc_34 => absurd hc_34 (by omega)) (fun hc_34 => ?_)
          refine lv_aload_n hx hb dX4_goOn_89 rfl (lv_at hl 0 rfl) ?_
          have hpre_35 : i_2 ≤ Rlen := by
            first | assumption | omega | grind
          have hF9 := z_free (wc := kR cI cB cZ oR aRguests Rtape Rlen Rfn Rfp Rtok i_2 Rte Rval) hw hA [0, 1] rfl
          refine va_callv (va_runV (As := []) (rest := []) ⟨hx, hb, hml, hown, hts⟩ (c_X4_takeDigits l D cI cB cZ oR aRguests H_30.size Rtape Rlen Rfn Rfp Rtok i_2 Rte Rval qRtape (by omega) (by omega) (by omega) (by omega) (by omega) (by omega) (by omega) hpre_35) (cwV 0 hts gX4_goOn_X4_takeDigits rfl rfl rfl (by decide +kernel) ⟨Nat.le_of_ble_eq_true rfl, Nat.le_of_ble_eq_true rfl⟩) ⟨zPre_blind, va_recv hK hw.1 (ci := 4) (q0 := 0) rfl rfl, z_pre hK hw [0, 1] (by decide) rfl⟩ rfl rfl hl.1 rfl (lv_room (Nat.le_of_ble_eq_true rfl)) dX4_goOn_90 ⟨Nat.zero_le _, Nat.zero_le _⟩) hw.2.2 (fun q _ h => hF9 q h) hF9 (fun u9 t9 H_36 locs9 ht9 hvm9 hq9 hB9 hz9 hk9 hS9 => ?_)
          obtain ⟨Rtok_37, Rte_38, Rval_39⟩ := u9
          try dsimp only at hq9 hB9
          obtain ⟨hq_40, hq_41, hq_42, hq_43, hq_44, hq_45⟩ := hq9
          have hw : HW D A s.heap (kR cI cB cZ oR aRguests Rtape Rlen Rfn Rfp Rtok_37 i_2 Rte_38 Rval_39) H_36 locs9 := z_after (wc := kR cI cB cZ oR aRguests Rtape Rlen Rfn Rfp Rtok i_2 Rte Rval) hw [0, 1] [] rfl rfl (by decide) (by decide) hF9 hk9 ht9 hB9 hS9 [0, 1] (by decide) rfl
          clear hF9 ht9 hvm9 hB9 hz9 hk9 hS9
          refine lv_goto (tgt := 125) hx hb dX4_goOn_93 (by decide) ?_
          have hv_46 : (1 : Int) ≤ Rtok_37 ∧ Rtok_37 ≤ 11 := by
            first | omega | assumption | grind
          have hv_47 : (0 : Int) ≤ i_2 ∧ i_2 ≤ 400 := by
            first | omega | assumption | grind
          have hv_48 : (0 : Int) ≤ Rte_38 ∧ Rte_38 ≤ 400 := by
            first | omega | assumption | grind
          have hv_49 : (0 : Int) ≤ Rval_39 ∧ Rval_39 ≤ 999 := by
            first | omega | assumption | grind
          have hv_50 : qR (goF Rtape Rlen q) Rfn Rfp Rtok_37 i_2 Rte_38 Rval_39 := by
            have hsc := (by assumption : scanL blkP Rtape Rlen Rte = i_2)
            refine go_q hp0 ?_
            first | rw [lex_1 hsc (by omega)] | rw [lex_2 hsc (by omega) (by unfold letP; omega)] | rw [lex_3 hsc (by omega) (by unfold letP; omega) (by unfold digP; omega)] | rw [lex_4 hsc (by omega) (by unfold letP; omega) (by unfold digP; omega)]
            refine ⟨?_, ?_, ?_, ?_⟩ <;> dsimp only <;> first | omega | (intro z; exfalso; have z2 := wordF_r (f := Rtape) (a := i_2) (e := Rte_38); omega) | (intro z; first | assumption | (exfalso; omega) | (exact (by assumption : _ → _) z)) | assumption | (rw [if_pos (by omega)]; omega) | (rw [if_neg (by omega)]; omega) | (intro z; subst_vars; exact (by assumption : (7 : Int) = 7 → _) rfl) | (subst_vars; assumption) | grind
          have hv_51 : Rte_38 ≤ Rlen := by
            have hsc := (by assumption : scanL blkP Rtape Rlen Rte = i_2)
            first | omega | (have z := (scan_r (p := letP) (f := Rtape) (len := Rlen) (i := i_2) (by omega)).2.1; omega) | (have z := (scan_r (p := digP) (f := Rtape) (len := Rlen) (i := i_2) (by omega)).2.1; omega)
          exact W.vret hx hb hr (fun t9 ht hW => ⟨⟨(Rtok_37, i_2, Rte_38, Rval_39), rfl, ⟨hv_46, hv_47, hv_48, hv_49, hv_50, hv_51⟩, by subst hAe; exact z_end hK hw ht hW⟩, by subst hAe; exact hw.2.2.F ht⟩) (by subst hAe; exact hw.2.2.2.2) dX4_goOn_125
        · skip
          refine z_if_eq (tgt := 96) hx hb dX4_goOn_86 (by decide) (by omega) (fun hc_52 => ?_) (fun hc_52 => absurd hc_52 (by omega))
          refine lv_aload_n hx hb dX4_goOn_96 rfl (lv_at hl 0 rfl) ?_
          refine lv_iload_n hx hb dX4_goOn_97 rfl (lv_at hl 1 rfl) ?_
          refine z_iconst hx hb dX4_goOn_98 ?_
          refine z_iadd hx hb dX4_goOn_99 ?_
          refine z_put (D := D) (ci := 4) (v := .int (zI (i_2 + 1))) (ty := .int) (C := RX4) (T := TX4) (N := 9) (ws2 := kR cI cB cZ oR aRguests Rtape Rlen Rfn Rfp Rtok i_2 (i_2 + 1) Rval) hx hb hts hinX4 tyX4 tyX4_ok nmX4 hown hK hw 0 rfl rfl 7 (by decide) (hts (.fieldLink RX4 31 "CarnivalRoad$Reader" "tokenEnd" "I") (by decide +kernel)) (fun _ h9 => h9) rfl (by decide +kernel) rfl rfl (Nat.le_of_ble_eq_true rfl) dX4_goOn_100 rfl (fun H locs hw => ?_)
          refine z_cut (σ := Int) 122 (I := fun x9 H locs ls => ((Rtape i_2 = 59 ∧ x9 = 8) ∨ (¬ Rtape i_2 = 59 ∧ x9 = 10)) ∧ HW D A s.heap (kR cI cB cZ oR aRguests Rtape Rlen Rfn Rfp Rtok i_2 (i_2 + 1) Rval) H locs ∧ lv_has ls 2 []) (st := fun x9 => [.int (zI x9), .ref (oR 0)]) ?_ (fun hj_53 => ?_)
          · clear hw hl
            intro tk_54 H locs ls hI
            try dsimp only at hI ⊢
            obtain ⟨hI_55, hw, hl⟩ := hI
            refine z_put (D := D) (ci := 4) (v := .int (zI tk_54)) (ty := .int) (C := RX4) (T := TX4) (N := 9) (ws2 := kR cI cB cZ oR aRguests Rtape Rlen Rfn Rfp tk_54 i_2 (i_2 + 1) Rval) hx hb hts hinX4 tyX4 tyX4_ok nmX4 hown hK hw 0 rfl rfl 5 (by decide) (hts (.fieldLink RX4 25 "CarnivalRoad$Reader" "token" "I") (by decide +kernel)) (fun _ h9 => h9) rfl (by decide +kernel) rfl rfl (Nat.le_of_ble_eq_true rfl) dX4_goOn_122 rfl (fun H locs hw => ?_)
            have hv_56 : (1 : Int) ≤ tk_54 ∧ tk_54 ≤ 11 := by
              first | omega | assumption | grind
            have hv_57 : (0 : Int) ≤ i_2 ∧ i_2 ≤ 400 := by
              first | omega | assumption | grind
            have hv_58 : (0 : Int) ≤ (i_2 + 1) ∧ (i_2 + 1) ≤ 400 := by
              first | omega | assumption | grind
            have hv_59 : (0 : Int) ≤ Rval ∧ Rval ≤ 999 := by
              first | omega | assumption | grind
            have hv_60 : qR (goF Rtape Rlen q) Rfn Rfp tk_54 i_2 (i_2 + 1) Rval := by
              have hsc := (by assumption : scanL blkP Rtape Rlen Rte = i_2)
              refine go_q hp0 ?_
              first | rw [lex_1 hsc (by omega)] | rw [lex_2 hsc (by omega) (by unfold letP; omega)] | rw [lex_3 hsc (by omega) (by unfold letP; omega) (by unfold digP; omega)] | rw [lex_4 hsc (by omega) (by unfold letP; omega) (by unfold digP; omega)]
              refine ⟨?_, ?_, ?_, ?_⟩ <;> dsimp only <;> first | omega | (intro z; exfalso; have z2 := wordF_r (f := Rtape) (a := i_2) (e := (i_2 + 1)); omega) | (intro z; first | assumption | (exfalso; omega) | (exact (by assumption : _ → _) z)) | assumption | (rw [if_pos (by omega)]; omega) | (rw [if_neg (by omega)]; omega) | (intro z; subst_vars; exact (by assumption : (7 : Int) = 7 → _) rfl) | (subst_vars; assumption) | grind
            have hv_61 : (i_2 + 1) ≤ Rlen := by
              have hsc := (by assumption : scanL blkP Rtape Rlen Rte = i_2)
              first | omega | (have z := (scan_r (p := letP) (f := Rtape) (len := Rlen) (i := i_2) (by omega)).2.1; omega) | (have z := (scan_r (p := digP) (f := Rtape) (len := Rlen) (i := i_2) (by omega)).2.1; omega)
            exact W.vret hx hb hr (fun t9 ht hW => ⟨⟨(tk_54, i_2, (i_2 + 1), Rval), rfl, ⟨hv_56, hv_57, hv_58, hv_59, hv_60, hv_61⟩, by subst hAe; exact z_end hK hw ht hW⟩, by subst hAe; exact hw.2.2.F ht⟩) (by subst hAe; exact hw.2.2.2.2) dX4_goOn_125
          refine lv_aload_n hx hb dX4_goOn_103 rfl (lv_at hl 0 rfl) ?_
          refine lv_aload_n hx hb dX4_goOn_104 rfl (lv_at hl 0 rfl) ?_
          refine va_get (D := D) (ci := 4) (v := .ref (oR 1)) (C := RX4) (T := TX4) (N := 9) hx hb hts hinX4 hown hK hw.1 0 rfl rfl 1 (by decide) (hts (.fieldLink RX4 11 "CarnivalRoad$Reader" "tape" "[B") (by decide +kernel)) (fun _ h9 => h9) rfl dX4_goOn_105 ?_
          refine lv_iload_n hx hb dX4_goOn_108 rfl (lv_at hl 1 rfl) ?_
          have hi_62 : (0 : Int) ≤ i_2 ∧ i_2 < ((400 : Nat) : Int) := by
            first | assumption | omega | grind
          refine z_bald (n := 400) (f := Rtape) hx hb hK hw 1 rfl (by decide) hi_62 dX4_goOn_109 ?_
          have hq_63 : -128 ≤ Rtape i_2 ∧ Rtape i_2 ≤ 127 := qRtape i_2
          refine z_bipush hx hb dX4_goOn_110 (by decide) ?_
          refine z_icmp_ne (tgt := 120) hx hb dX4_goOn_112 (by decide) (by omega) (fun hc_64 => ?_) (fun hc_64 => ?_)
          · skip
            refine z_bipush hx hb dX4_goOn_120 (by decide) ?_
            have hv_65 : (Rtape i_2 = 59 ∧ (10 : Int) = 8) ∨ (¬ Rtape i_2 = 59 ∧ (10 : Int) = 10) := by
              first | assumption | omega | grind
            exact hj_53 10 _ _ _ ⟨hv_65, hw, lv_sub hl [] rfl⟩
          · skip
            refine z_bipush hx hb dX4_goOn_115 (by decide) ?_
            refine lv_goto (tgt := 122) hx hb dX4_goOn_117 (by decide) ?_
            have hv_66 : (Rtape i_2 = 59 ∧ (8 : Int) = 8) ∨ (¬ Rtape i_2 = 59 ∧ (8 : Int) = 10) := by
              first | assumption | omega | grind
            exact hj_53 8 _ _ _ ⟨hv_66, hw, lv_sub hl [] rfl⟩
    · skip
      refine lv_aload_n hx hb dX4_goOn_44 rfl (lv_at hl 0 rfl) ?_
      refine lv_iload_n hx hb dX4_goOn_45 rfl (lv_at hl 1 rfl) ?_
      refine z_put (D := D) (ci := 4) (v := .int (zI i_2)) (ty := .int) (C := RX4) (T := TX4) (N := 9) (ws2 := kR cI cB cZ oR aRguests Rtape Rlen Rfn Rfp Rtok i_2 i_2 Rval) hx hb hts hinX4 tyX4 tyX4_ok nmX4 hown hK hw 0 rfl rfl 7 (by decide) (hts (.fieldLink RX4 31 "CarnivalRoad$Reader" "tokenEnd" "I") (by decide +kernel)) (fun _ h9 => h9) rfl (by decide +kernel) rfl rfl (Nat.le_of_ble_eq_true rfl) dX4_goOn_46 rfl (fun H locs hw => ?_)
      refine lv_aload_n hx hb dX4_goOn_49 rfl (lv_at hl 0 rfl) ?_
      refine z_bipush hx hb dX4_goOn_50 (by decide) ?_
      refine z_put (D := D) (ci := 4) (v := .int (zI 9)) (ty := .int) (C := RX4) (T := TX4) (N := 9) (ws2 := kR cI cB cZ oR aRguests Rtape Rlen Rfn Rfp 9 i_2 i_2 Rval) hx hb hts hinX4 tyX4 tyX4_ok nmX4 hown hK hw 0 rfl rfl 5 (by decide) (hts (.fieldLink RX4 25 "CarnivalRoad$Reader" "token" "I") (by decide +kernel)) (fun _ h9 => h9) rfl (by decide +kernel) rfl rfl (Nat.le_of_ble_eq_true rfl) dX4_goOn_52 rfl (fun H locs hw => ?_)
      refine lv_goto (tgt := 125) hx hb dX4_goOn_55 (by decide) ?_
      have hv_67 : (1 : Int) ≤ (9 : Int) ∧ (9 : Int) ≤ 11 := by
        first | omega | assumption | grind
      have hv_68 : (0 : Int) ≤ i_2 ∧ i_2 ≤ 400 := by
        first | omega | assumption | grind
      have hv_69 : (0 : Int) ≤ i_2 ∧ i_2 ≤ 400 := by
        first | omega | assumption | grind
      have hv_70 : (0 : Int) ≤ Rval ∧ Rval ≤ 999 := by
        first | omega | assumption | grind
      have hv_71 : qR (goF Rtape Rlen q) Rfn Rfp (9 : Int) i_2 i_2 Rval := by
        have hsc := (by assumption : scanL blkP Rtape Rlen Rte = i_2)
        refine go_q hp0 ?_
        first | rw [lex_1 hsc (by omega)] | rw [lex_2 hsc (by omega) (by unfold letP; omega)] | rw [lex_3 hsc (by omega) (by unfold letP; omega) (by unfold digP; omega)] | rw [lex_4 hsc (by omega) (by unfold letP; omega) (by unfold digP; omega)]
        refine ⟨?_, ?_, ?_, ?_⟩ <;> dsimp only <;> first | omega | (intro z; exfalso; have z2 := wordF_r (f := Rtape) (a := i_2) (e := i_2); omega) | (intro z; first | assumption | (exfalso; omega) | (exact (by assumption : _ → _) z)) | assumption | (rw [if_pos (by omega)]; omega) | (rw [if_neg (by omega)]; omega) | (intro z; subst_vars; exact (by assumption : (7 : Int) = 7 → _) rfl) | (subst_vars; assumption) | grind
      have hv_72 : i_2 ≤ Rlen := by
        have hsc := (by assumption : scanL blkP Rtape Rlen Rte = i_2)
        first | omega | (have z := (scan_r (p := letP) (f := Rtape) (len := Rlen) (i := i_2) (by omega)).2.1; omega) | (have z := (scan_r (p := digP) (f := Rtape) (len := Rlen) (i := i_2) (by omega)).2.1; omega)
      exact W.vret hx hb hr (fun t9 ht hW => ⟨⟨(9, i_2, i_2, Rval), rfl, ⟨hv_67, hv_68, hv_69, hv_70, hv_71, hv_72⟩, by subst hAe; exact z_end hK hw ht hW⟩, by subst hAe; exact hw.2.2.F ht⟩) (by subst hAe; exact hw.2.2.2.2) dX4_goOn_125
  refine lv_aload_n hx hb dX4_goOn_0 rfl (lv_at hl 0 rfl) ?_
  refine va_get (D := D) (ci := 4) (v := .int (zI Rte)) (C := RX4) (T := TX4) (N := 9) hx hb hts hinX4 hown hK hw.1 0 rfl rfl 7 (by decide) (hts (.fieldLink RX4 31 "CarnivalRoad$Reader" "tokenEnd" "I") (by decide +kernel)) (fun _ h9 => h9) rfl dX4_goOn_1 ?_
  refine lv_istore_n (lv' := [(1, .int (zI Rte)), (0, .ref (oR 0))]) hx hb dX4_goOn_4 rfl hl (by decide) rfl (fun ls hl => ?_)
  have hv_73 : Rte ≤ Rte ∧ Rte ≤ Rlen := by
    first | assumption | omega | grind
  have hv_74 : scanL blkP Rtape Rlen Rte = scanL blkP Rtape Rlen Rte := by
    rfl
  refine z_loop (σ := Int) (μ := fun x9 => (Rlen - x9).toNat) (I := fun x9 H locs ls => (Rte ≤ x9 ∧ x9 ≤ Rlen) ∧ (scanL blkP Rtape Rlen Rte = scanL blkP Rtape Rlen x9) ∧ HW D A s.heap (kR cI cB cZ oR aRguests Rtape Rlen Rfn Rfp Rtok Rts Rte Rval) H locs ∧ lv_has ls 2 [(0, .ref (oR 0)), (1, .int (zI x9))]) Rte ⟨hv_73, hv_74, hw, lv_sub hl [1, 0] rfl⟩ ?_
  clear hw hl
  intro i_76 H locs ls hI ih_75
  try dsimp only at hI
  obtain ⟨hI_77, hI_78, hw, hl⟩ := hI
  refine lv_iload_n hx hb dX4_goOn_5 rfl (lv_at hl 1 rfl) ?_
  refine lv_aload_n hx hb dX4_goOn_6 rfl (lv_at hl 0 rfl) ?_
  refine va_get (D := D) (ci := 4) (v := .int (zI Rlen)) (C := RX4) (T := TX4) (N := 9) hx hb hts hinX4 hown hK hw.1 0 rfl rfl 2 (by decide) (hts (.fieldLink RX4 15 "CarnivalRoad$Reader" "length" "I") (by decide +kernel)) (fun _ h9 => h9) rfl dX4_goOn_7 ?_
  refine z_icmp_ge (tgt := 31) hx hb dX4_goOn_10 (by decide) (by omega) (fun hc_79 => ?_) (fun hc_79 => ?_)
  · skip
    have hv_80 : Rte ≤ i_76 ∧ i_76 ≤ Rlen := by
      first | assumption | omega | grind
    have hv_81 : scanL blkP Rtape Rlen Rte = i_76 := by
      first | (rw [← scan_end (p := blkP) (f := Rtape) (len := Rlen) (i := i_76) (by omega)]; assumption) | (rw [← scan_off (p := blkP) (f := Rtape) (len := Rlen) (i := i_76) (by unfold blkP; omega)]; assumption)
    exact hj_1 i_76 _ _ _ ⟨hv_80, hv_81, hw, lv_sub hl [0, 1] rfl⟩
  · skip
    refine lv_aload_n hx hb dX4_goOn_13 rfl (lv_at hl 0 rfl) ?_
    refine va_get (D := D) (ci := 4) (v := .ref (oR 1)) (C := RX4) (T := TX4) (N := 9) hx hb hts hinX4 hown hK hw.1 0 rfl rfl 1 (by decide) (hts (.fieldLink RX4 11 "CarnivalRoad$Reader" "tape" "[B") (by decide +kernel)) (fun _ h9 => h9) rfl dX4_goOn_14 ?_
    refine lv_iload_n hx hb dX4_goOn_17 rfl (lv_at hl 1 rfl) ?_
    have hi_82 : (0 : Int) ≤ i_76 ∧ i_76 < ((400 : Nat) : Int) := by
      first | assumption | omega | grind
    refine z_bald (n := 400) (f := Rtape) hx hb hK hw 1 rfl (by decide) hi_82 dX4_goOn_18 ?_
    have hq_83 : -128 ≤ Rtape i_76 ∧ Rtape i_76 ≤ 127 := qRtape i_76
    have hF9 := z_free (wc := ([] : va_W)) hw hA [] rfl
    refine va_calli (va_runS (As := [.int (zI (Rtape i_76))]) (rest := []) ⟨hx, hb, hml, hown, hts⟩ (c_X4_isBlank l D cI cB cZ H.size (Rtape i_76) (by omega)) (va_cwS 1 hts gX4_goOn_X4_isBlank rfl rfl rfl (by decide +kernel) ⟨Nat.le_of_ble_eq_true rfl, Nat.le_of_ble_eq_true rfl⟩) ⟨zPre_blind, z_pre hK hw [] (by decide) rfl⟩ rfl rfl hl.1 rfl (lv_room (Nat.le_of_ble_eq_true rfl)) dX4_goOn_19 ⟨Nat.zero_le _, Nat.zero_le _⟩) hw.2.2 (fun q _ h => hF9 q h) hF9 (fun r9 u9 t9 H_84 locs9 ht9 hvm9 hq9 hB9 hz9 hk9 hS9 => ?_)
    obtain ⟨r_85, rfl⟩ : ∃ z, z = u9 := ⟨_, rfl⟩
    try dsimp only at hq9 hB9
    obtain ⟨rfl, hq9⟩ := hq9
    have hq_86 := hq9
    have hw : HW D A s.heap (kR cI cB cZ oR aRguests Rtape Rlen Rfn Rfp Rtok Rts Rte Rval) H_84 locs9 := z_after (wc := ([] : va_W)) hw [] [0, 1] rfl rfl (by decide) (by decide) hF9 hk9 ht9 hB9 hS9 [0, 1] (by decide) rfl
    clear hF9 ht9 hvm9 hB9 hz9 hk9 hS9 hq9
    rcases hq_86 with ⟨hc_87, rfl⟩ | ⟨hc_87, rfl⟩
    · skip
      refine z_if_eq (tgt := 31) hx hb dX4_goOn_22 (by decide) (by omega) (fun hc_88 => absurd hc_88 (by omega)) (fun hc_88 => ?_)
      refine z_iinc (k := 1) (lv' := [(1, .int (zI (i_76 + 1))), (0, .ref (oR 0))]) hx hb dX4_goOn_25 hl rfl (by decide) rfl (fun ls hl => ?_)
      refine lv_goto (tgt := 5) hx hb dX4_goOn_28 (by decide) ?_
      have hv_89 : Rte ≤ (i_76 + 1) ∧ (i_76 + 1) ≤ Rlen := by
        first | assumption | omega | grind
      have hv_90 : scanL blkP Rtape Rlen Rte = scanL blkP Rtape Rlen (i_76 + 1) := by
        rw [← scan_on (p := blkP) (by omega) (by unfold blkP; omega)]; assumption
      have hm_91 : (Rlen - (i_76 + 1)).toNat < (Rlen - i_76).toNat := by
        first | assumption | omega | grind
      exact ih_75 (i_76 + 1) _ _ _ ⟨hv_89, hv_90, hw, lv_sub hl [1, 0] rfl⟩ hm_91
    · skip
      refine z_if_eq (tgt := 31) hx hb dX4_goOn_22 (by decide) (by omega) (fun hc_92 => ?_) (fun hc_92 => absurd hc_92 (by omega))
      have hv_93 : Rte ≤ i_76 ∧ i_76 ≤ Rlen := by
        first | assumption | omega | grind
      have hv_94 : scanL blkP Rtape Rlen Rte = i_76 := by
        first | (rw [← scan_end (p := blkP) (f := Rtape) (len := Rlen) (i := i_76) (by omega)]; assumption) | (rw [← scan_off (p := blkP) (f := Rtape) (len := Rlen) (i := i_76) (by unfold blkP; omega)]; assumption)
      exact hj_1 i_76 _ _ _ ⟨hv_93, hv_94, hw, lv_sub hl [0, 1] rfl⟩
