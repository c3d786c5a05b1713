set_option maxRecDepth 100000 in
set_option maxHeartbeats 4000000 in
theorem c_X4_readNumber (l : Launch) (D : va_G) (cI cB cZ : ClassId) (aK aV : Nat → Nat) (oR : Nat → Nat) (aRguests : Nat) (sz : Nat) (Rtape : Int → Int) (Rlen : Int) (Rfn : Int) (Rfp : Int) (Rtok : Int) (Rts : Int) (Rte : Int) (Rval : Int) (lo : Int) (hi : Int) (q : QS) (qRtape : RA Rtape (-128) 127) (qRlen : 0 ≤ Rlen ∧ Rlen ≤ 400) (qRfn : 0 ≤ Rfn ∧ Rfn ≤ 3) (qRfp : -1 ≤ Rfp ∧ Rfp ≤ 400) (qRtok : 1 ≤ Rtok ∧ Rtok ≤ 11) (qRts : 0 ≤ Rts ∧ Rts ≤ 400) (qRte : 0 ≤ Rte ∧ Rte ≤ 400) (qRval : 0 ≤ Rval ∧ Rval ≤ 999) (qlo : 0 ≤ lo ∧ lo ≤ 18) (qhi : -1 ≤ hi ∧ hi ≤ 18) (hp0 : qR q Rfn Rfp Rtok Rts Rte Rval) (hp1 : Rte ≤ Rlen) : Met l yX4_readNumber wsX4_readNumber ({ frames := 7, cells := 0, slots := 0, locals := 151 }) (va_Pc [.ref (oR 0), .int (zI lo), .int (zI hi)] (zPreX aK aV D cI cB cZ sz (kR cI cB cZ oR aRguests Rtape Rlen Rfn Rfp Rtok Rts Rte Rval))) (va_Qi (fun (r9 : Int32) (u9 : Int × Int × Int × Int × Int × Int × Int) => r9 = zI u9.1 ∧ (((0 : Int) ≤ u9.2.1 ∧ u9.2.1 ≤ 3) ∧ ((-1 : Int) ≤ u9.2.2.1 ∧ u9.2.2.1 ≤ 400) ∧ ((1 : Int) ≤ u9.2.2.2.1 ∧ u9.2.2.2.1 ≤ 11) ∧ ((0 : Int) ≤ u9.2.2.2.2.1 ∧ u9.2.2.2.2.1 ≤ 400) ∧ ((0 : Int) ≤ u9.2.2.2.2.2.1 ∧ u9.2.2.2.2.2.1 ≤ 400) ∧ ((0 : Int) ≤ u9.2.2.2.2.2.2 ∧ u9.2.2.2.2.2.2 ≤ 999) ∧ (u9.1 = (numQ Rtape Rlen lo hi q).1) ∧ (qR (numQ Rtape Rlen lo hi q).2 u9.2.1 u9.2.2.1 u9.2.2.2.1 u9.2.2.2.2.1 u9.2.2.2.2.2.1 u9.2.2.2.2.2.2) ∧ (u9.2.2.2.2.2.1 ≤ Rlen) ∧ (0 ≤ u9.1 ∧ (u9.1 = 0 ∨ u9.1 ≤ hi)))) (fun u9 t9 => zAt D cI cB cZ (va_A (kR cI cB cZ oR aRguests Rtape Rlen Rfn Rfp Rtok Rts Rte Rval) sz) (kR cI cB cZ oR aRguests Rtape Rlen (u9.2.1) (u9.2.2.1) (u9.2.2.2.1) (u9.2.2.2.2.1) (u9.2.2.2.2.2.1) (u9.2.2.2.2.2.2)) t9) (va_A (kR cI cB cZ oR aRguests Rtape Rlen Rfn Rfp Rtok Rts Rte Rval) sz)) 0 0 (va_A (kR cI cB cZ oR aRguests Rtape Rlen Rfn Rfp Rtok Rts Rte Rval) sz) := by
  refine Met.ofW (cc := cX4_readNumber) (maxL := 4) (ret := (some .int)) (by decide) rfl ?_
  intro pp ee s mm aa bw mt cd s₁ BL hml hv
  obtain ⟨rfl, ⟨hsz, hP, hK, hD0⟩, hZX⟩ := hv
  have hx := BL.exec
  have hb := BL.bytes
  have hr := BL.returns
  have hts := atoms_spec (ws := wsX4_readNumber) BL.pre
  have hown : s.vm.findClass RX4 = some mm.cls := findClass_of_methodNamed BL.named
  have hlocks := BL.notSynchronized
  subst hsz
  generalize hAe : va_A (kR cI cB cZ oR aRguests Rtape Rlen Rfn Rfp Rtok Rts Rte Rval) s.heap.size = A at hZX ⊢
  have hA : ∀ q : Nat, s.heap.size ≤ q → A q := fun q h => by rw [← hAe]; exact Or.inr h
  have hw : HW D A s.heap (kR cI cB cZ oR aRguests Rtape Rlen Rfn Rfp Rtok Rts Rte Rval) s.heap [] := z_start hAe hP hD0
  clear hP hD0
  have hl := lv_entry ([.ref (oR 0), .int (zI lo), .int (zI hi)]) (n := 4) (Nat.le_of_ble_eq_true rfl)
  rw [lg_entry_eq]
  generalize (lg_sl ([.ref (oR 0), .int (zI lo), .int (zI hi)]) ++ List.replicate (4 - (lg_sl ([.ref (oR 0), .int (zI lo), .int (zI hi)])).length) Slot.unset).toArray = ls at hl ⊢
  have hl : lv_has ls 4 [(0, .ref (oR 0)), (1, .int (zI lo)), (2, .int (zI hi))] := hl
  have hinX4 : ∀ w ∈ wsX40, w ∈ wsX4_readNumber := by decide +kernel
  have hq0 := hp0
  unfold qR at hq0
  obtain ⟨e1, e2, e3, e4, e5, e6⟩ := hq0
  refine lv_aload_n hx hb dX4_readNumber_0 rfl (lv_at hl 0 rfl) ?_
  refine va_get (D := D) (ci := 4) (v := .int (zI Rfn)) (C := RX4) (T := TX4) (N := 9) hx hb hts hinX4 hown hK hw.1 0 rfl rfl 3 (by decide) (hts (.fieldLink RX4 19 "CarnivalRoad$Reader" "faultNumber" "I") (by decide +kernel)) (fun _ h9 => h9) rfl dX4_readNumber_1 ?_
  refine z_if_eq (tgt := 9) hx hb dX4_readNumber_4 (by decide) (by omega) (fun hc_1 => ?_) (fun hc_1 => ?_)
  · skip
    refine lv_aload_n hx hb dX4_readNumber_9 rfl (lv_at hl 0 rfl) ?_
    refine va_get (D := D) (ci := 4) (v := .int (zI Rtok)) (C := RX4) (T := TX4) (N := 9) hx hb hts hinX4 hown hK hw.1 0 rfl rfl 5 (by decide) (hts (.fieldLink RX4 25 "CarnivalRoad$Reader" "token" "I") (by decide +kernel)) (fun _ h9 => h9) rfl dX4_readNumber_10 ?_
    refine z_bipush hx hb dX4_readNumber_13 (by decide) ?_
    refine z_icmp_eq (tgt := 25) hx hb dX4_readNumber_15 (by decide) (by omega) (fun hc_2 => ?_) (fun hc_2 => ?_)
    · skip
      refine lv_aload_n hx hb dX4_readNumber_25 rfl (lv_at hl 0 rfl) ?_
      refine va_get (D := D) (ci := 4) (v := .int (zI Rval)) (C := RX4) (T := TX4) (N := 9) hx hb hts hinX4 hown hK hw.1 0 rfl rfl 8 (by decide) (hts (.fieldLink RX4 34 "CarnivalRoad$Reader" "value" "I") (by decide +kernel)) (fun _ h9 => h9) rfl dX4_readNumber_26 ?_
      refine lv_iload_n hx hb dX4_readNumber_29 rfl (lv_at hl 1 rfl) ?_
      refine z_icmp_lt (tgt := 41) hx hb dX4_readNumber_30 (by decide) (by omega) (fun hc_3 => ?_) (fun hc_3 => ?_)
      · skip
        refine lv_aload_n hx hb dX4_readNumber_41 rfl (lv_at hl 0 rfl) ?_
        refine z_iconst hx hb dX4_readNumber_42 ?_
        have hF9 := z_free (wc := kR cI cB cZ oR aRguests Rtape Rlen Rfn Rfp Rtok Rts Rte Rval) hw hA [0, 1] rfl
        refine va_callv (va_runV (As := [.int (zI 2)]) (rest := []) ⟨hx, hb, hml, hown, hts⟩ (c_X4_refuse l D cI cB cZ oR aRguests s.heap.size Rtape Rlen Rfn Rfp Rtok Rts Rte Rval 2 qRtape (by omega) (by omega) (by omega) (by omega) (by omega) (by omega) (by omega) (by omega)) (cwV 1 hts gX4_readNumber_X4_refuse rfl rfl rfl (by decide +kernel) ⟨Nat.le_of_ble_eq_true rfl, Nat.le_of_ble_eq_true rfl⟩) ⟨zPre_blind, va_recv hK hw.1 (ci := 4) (q0 := 0) rfl rfl, z_pre hK hw [0, 1] (by decide) rfl⟩ rfl rfl hl.1 rfl (lv_room (Nat.le_of_ble_eq_true rfl)) dX4_readNumber_43 ⟨Nat.zero_le _, Nat.zero_le _⟩) hw.2.2 (fun q _ h => hF9 q h) hF9 (fun u9 t9 H_4 locs9 ht9 hvm9 hq9 hB9 hz9 hk9 hS9 => ?_)
        obtain ⟨Rfn_5, Rfp_6⟩ := u9
        try dsimp only at hq9 hB9
        obtain ⟨hq_7, hq_8, hq_9, hq_10⟩ := hq9
        have hw : HW D A s.heap (kR cI cB cZ oR aRguests Rtape Rlen Rfn_5 Rfp_6 Rtok Rts Rte Rval) H_4 locs9 := z_after (wc := kR cI cB cZ oR aRguests Rtape Rlen Rfn Rfp Rtok Rts Rte Rval) hw [0, 1] [] rfl rfl (by decide) (by decide) hF9 hk9 ht9 hB9 hS9 [0, 1] (by decide) rfl
        clear hF9 ht9 hvm9 hB9 hz9 hk9 hS9
        refine z_iconst hx hb dX4_readNumber_46 ?_
        have hv_11 : (0 : Int) ≤ Rfn_5 ∧ Rfn_5 ≤ 3 := by
          first | assumption | omega | grind
        have hv_12 : (-1 : Int) ≤ Rfp_6 ∧ Rfp_6 ≤ 400 := by
          first | assumption | omega | grind
        have hv_13 : (1 : Int) ≤ Rtok ∧ Rtok ≤ 11 := by
          first | assumption | omega | grind
        have hv_14 : (0 : Int) ≤ Rts ∧ Rts ≤ 400 := by
          first | assumption | omega | grind
        have hv_15 : (0 : Int) ≤ Rte ∧ Rte ≤ 400 := by
          first | assumption | omega | grind
        have hv_16 : (0 : Int) ≤ Rval ∧ Rval ≤ 999 := by
          first | assumption | omega | grind
        have hv_17 : (0 : Int) = (numQ Rtape Rlen lo hi q).1 := by
          have e7 := e6 (by omega)
          unfold numQ; rw [if_neg (by omega), if_neg (by omega), if_pos (by omega)]
        have hv_18 : qR (numQ Rtape Rlen lo hi q).2 Rfn_5 Rfp_6 Rtok Rts Rte Rval := by
          have e7 := e6 (by omega)
          unfold numQ; rw [if_neg (by omega), if_neg (by omega), if_pos (by omega)]; subst_vars; exact ref_q hp0
        have hv_19 : Rte ≤ Rlen := by
          first | assumption | omega | grind
        have hv_20 : 0 ≤ (0 : Int) ∧ ((0 : Int) = 0 ∨ (0 : Int) ≤ hi) := by
          first | assumption | omega | grind
        exact W.iret (v := zI 0) hx hb hr (fun t9 ht hW => ⟨⟨zI 0, (0, Rfn_5, Rfp_6, Rtok, Rts, Rte, Rval), rfl, ⟨rfl, ⟨hv_11, hv_12, hv_13, hv_14, hv_15, hv_16, hv_17, hv_18, hv_19, hv_20⟩⟩, by subst hAe; exact z_end hK hw ht hW⟩, by subst hAe; exact hw.2.2.F ht⟩) (by subst hAe; exact hw.2.2.2.2) dX4_readNumber_47
      · skip
        refine lv_aload_n hx hb dX4_readNumber_33 rfl (lv_at hl 0 rfl) ?_
        refine va_get (D := D) (ci := 4) (v := .int (zI Rval)) (C := RX4) (T := TX4) (N := 9) hx hb hts hinX4 hown hK hw.1 0 rfl rfl 8 (by decide) (hts (.fieldLink RX4 34 "CarnivalRoad$Reader" "value" "I") (by decide +kernel)) (fun _ h9 => h9) rfl dX4_readNumber_34 ?_
        refine lv_iload_n hx hb dX4_readNumber_37 rfl (lv_at hl 2 rfl) ?_
        refine z_icmp_le (tgt := 48) hx hb dX4_readNumber_38 (by decide) (by omega) (fun hc_21 => ?_) (fun hc_21 => ?_)
        · skip
          refine lv_aload_n hx hb dX4_readNumber_48 rfl (lv_at hl 0 rfl) ?_
          refine va_get (D := D) (ci := 4) (v := .int (zI Rval)) (C := RX4) (T := TX4) (N := 9) hx hb hts hinX4 hown hK hw.1 0 rfl rfl 8 (by decide) (hts (.fieldLink RX4 34 "CarnivalRoad$Reader" "value" "I") (by decide +kernel)) (fun _ h9 => h9) rfl dX4_readNumber_49 ?_
          refine lv_istore_n (lv' := [(3, .int (zI Rval)), (0, .ref (oR 0)), (1, .int (zI lo)), (2, .int (zI hi))]) hx hb dX4_readNumber_52 rfl hl (by decide) rfl (fun ls hl => ?_)
          refine lv_aload_n hx hb dX4_readNumber_53 rfl (lv_at hl 1 rfl) ?_
          have hpre_22 : qR q Rfn Rfp Rtok Rts Rte Rval := by
            first | assumption | omega
          have hpre_23 : Rte ≤ Rlen := by
            first | assumption | omega
          have hF9 := z_free (wc := kR cI cB cZ oR aRguests Rtape Rlen Rfn Rfp Rtok Rts Rte Rval) hw hA [0, 1] rfl
          refine va_callv (va_runV (As := []) (rest := []) ⟨hx, hb, hml, hown, hts⟩ (c_X4_goOn l D cI cB cZ aK aV oR aRguests s.heap.size Rtape Rlen Rfn Rfp Rtok Rts Rte Rval q qRtape (by omega) (by omega) (by omega) (by omega) (by omega) (by omega) (by omega) hpre_22 hpre_23) (cwV 0 hts gX4_readNumber_X4_goOn rfl rfl rfl (by decide +kernel) ⟨Nat.le_of_ble_eq_true rfl, Nat.le_of_ble_eq_true rfl⟩) ⟨zPreX_blind, va_recv hK hw.1 (ci := 4) (q0 := 0) rfl rfl, z_preX hK hw [0, 1] (by decide) rfl hZX hF9⟩ rfl rfl hl.1 rfl (lv_room (Nat.le_of_ble_eq_true rfl)) dX4_readNumber_54 ⟨Nat.zero_le _, Nat.zero_le _⟩) hw.2.2 (fun q _ h => hF9 q h) hF9 (fun u9 t9 H_24 locs9 ht9 hvm9 hq9 hB9 hz9 hk9 hS9 => ?_)
          obtain ⟨Rtok_25, Rts_26, Rte_27, Rval_28⟩ := u9
          try dsimp only at hq9 hB9
          obtain ⟨hq_29, hq_30, hq_31, hq_32, hq_33, hq_34⟩ := hq9
          have hw : HW D A s.heap (kR cI cB cZ oR aRguests Rtape Rlen Rfn Rfp Rtok_25 Rts_26 Rte_27 Rval_28) H_24 locs9 := z_after (wc := kR cI cB cZ oR aRguests Rtape Rlen Rfn Rfp Rtok Rts Rte Rval) hw [0, 1] [] rfl rfl (by decide) (by decide) hF9 hk9 ht9 hB9 hS9 [0, 1] (by decide) rfl
          clear hF9 ht9 hvm9 hB9 hz9 hk9 hS9
          refine lv_iload_n hx hb dX4_readNumber_57 rfl (lv_at hl 0 rfl) ?_
          have hv_35 : (0 : Int) ≤ Rfn ∧ Rfn ≤ 3 := by
            first | assumption | omega | grind
          have hv_36 : (-1 : Int) ≤ Rfp ∧ Rfp ≤ 400 := by
            first | assumption | omega | grind
          have hv_37 : (1 : Int) ≤ Rtok_25 ∧ Rtok_25 ≤ 11 := by
            first | assumption | omega | grind
          have hv_38 : (0 : Int) ≤ Rts_26 ∧ Rts_26 ≤ 400 := by
            first | assumption | omega | grind
          have hv_39 : (0 : Int) ≤ Rte_27 ∧ Rte_27 ≤ 400 := by
            first | assumption | omega | grind
          have hv_40 : (0 : Int) ≤ Rval_28 ∧ Rval_28 ≤ 999 := by
            first | assumption | omega | grind
          have hv_41 : Rval = (numQ Rtape Rlen lo hi q).1 := by
            have e7 := e6 (by omega)
            unfold numQ; rw [if_neg (by omega), if_neg (by omega), if_neg (by omega)]; exact e7
          have hv_42 : qR (numQ Rtape Rlen lo hi q).2 Rfn Rfp Rtok_25 Rts_26 Rte_27 Rval_28 := by
            have e7 := e6 (by omega)
            unfold numQ; rw [if_neg (by omega), if_neg (by omega), if_neg (by omega)]; assumption
          have hv_43 : Rte_27 ≤ Rlen := by
            first | assumption | omega | grind
          have hv_44 : 0 ≤ Rval ∧ (Rval = 0 ∨ Rval ≤ hi) := by
            first | assumption | omega | grind
          exact W.iret (v := zI Rval) hx hb hr (fun t9 ht hW => ⟨⟨zI Rval, (Rval, Rfn, Rfp, Rtok_25, Rts_26, Rte_27, Rval_28), rfl, ⟨rfl, ⟨hv_35, hv_36, hv_37, hv_38, hv_39, hv_40, hv_41, hv_42, hv_43, hv_44⟩⟩, by subst hAe; exact z_end hK hw ht hW⟩, by subst hAe; exact hw.2.2.F ht⟩) (by subst hAe; exact hw.2.2.2.2) dX4_readNumber_58
        · skip
          refine lv_aload_n hx hb dX4_readNumber_41 rfl (lv_at hl 0 rfl) ?_
          refine z_iconst hx hb dX4_readNumber_42 ?_
          have hF9 := z_free (wc := kR cI cB cZ oR aRguests Rtape Rlen Rfn Rfp Rtok Rts Rte Rval) hw hA [0, 1] rfl
          refine va_callv (va_runV (As := [.int (zI 2)]) (rest := []) ⟨hx, hb, hml, hown, hts⟩ (c_X4_refuse l D cI cB cZ oR aRguests s.heap.size Rtape Rlen Rfn Rfp Rtok Rts Rte Rval 2 qRtape (by omega) (by omega) (by omega) (by omega) (by omega) (by omega) (by omega) (by omega)) (cwV 1 hts gX4_readNumber_X4_refuse rfl rfl rfl (by decide +kernel) ⟨Nat.le_of_ble_eq_true rfl, Nat.le_of_ble_eq_true rfl⟩) ⟨zPre_blind, va_recv hK hw.1 (ci := 4) (q0 := 0) rfl rfl, z_pre hK hw [0, 1] (by decide) rfl⟩ rfl rfl hl.1 rfl (lv_room (Nat.le_of_ble_eq_true rfl)) dX4_readNumber_43 ⟨Nat.zero_le _, Nat.zero_le _⟩) hw.2.2 (fun q _ h => hF9 q h) hF9 (fun u9 t9 H_45 locs9 ht9 hvm9 hq9 hB9 hz9 hk9 hS9 => ?_)
          obtain ⟨Rfn_46, Rfp_47⟩ := u9
          try dsimp only at hq9 hB9
          obtain ⟨hq_48, hq_49, hq_50, hq_51⟩ := hq9
          have hw : HW D A s.heap (kR cI cB cZ oR aRguests Rtape Rlen Rfn_46 Rfp_47 Rtok Rts Rte Rval) H_45 locs9 := z_after (wc := kR cI cB cZ oR aRguests Rtape Rlen Rfn Rfp Rtok Rts Rte Rval) hw [0, 1] [] rfl rfl (by decide) (by decide) hF9 hk9 ht9 hB9 hS9 [0, 1] (by decide) rfl
          clear hF9 ht9 hvm9 hB9 hz9 hk9 hS9
          refine z_iconst hx hb dX4_readNumber_46 ?_
          have hv_52 : (0 : Int) ≤ Rfn_46 ∧ Rfn_46 ≤ 3 := by
            first | assumption | omega | grind
          have hv_53 : (-1 : Int) ≤ Rfp_47 ∧ Rfp_47 ≤ 400 := by
            first | assumption | omega | grind
          have hv_54 : (1 : Int) ≤ Rtok ∧ Rtok ≤ 11 := by
            first | assumption | omega | grind
          have hv_55 : (0 : Int) ≤ Rts ∧ Rts ≤ 400 := by
            first | assumption | omega | grind
          have hv_56 : (0 : Int) ≤ Rte ∧ Rte ≤ 400 := by
            first | assumption | omega | grind
          have hv_57 : (0 : Int) ≤ Rval ∧ Rval ≤ 999 := by
            first | assumption | omega | grind
          have hv_58 : (0 : Int) = (numQ Rtape Rlen lo hi q).1 := by
            have e7 := e6 (by omega)
            unfold numQ; rw [if_neg (by omega), if_neg (by omega), if_pos (by omega)]
          have hv_59 : qR (numQ Rtape Rlen lo hi q).2 Rfn_46 Rfp_47 Rtok Rts Rte Rval := by
            have e7 := e6 (by omega)
            unfold numQ; rw [if_neg (by omega), if_neg (by omega), if_pos (by omega)]; subst_vars; exact ref_q hp0
          have hv_60 : Rte ≤ Rlen := by
            first | assumption | omega | grind
          have hv_61 : 0 ≤ (0 : Int) ∧ ((0 : Int) = 0 ∨ (0 : Int) ≤ hi) := by
            first | assumption | omega | grind
          exact W.iret (v := zI 0) hx hb hr (fun t9 ht hW => ⟨⟨zI 0, (0, Rfn_46, Rfp_47, Rtok, Rts, Rte, Rval), rfl, ⟨rfl, ⟨hv_52, hv_53, hv_54, hv_55, hv_56, hv_57, hv_58, hv_59, hv_60, hv_61⟩⟩, by subst hAe; exact z_end hK hw ht hW⟩, by subst hAe; exact hw.2.2.F ht⟩) (by subst hAe; exact hw.2.2.2.2) dX4_readNumber_47
    · skip
      refine lv_aload_n hx hb dX4_readNumber_18 rfl (lv_at hl 0 rfl) ?_
      refine z_iconst hx hb dX4_readNumber_19 ?_
      have hF9 := z_free (wc := kR cI cB cZ oR aRguests Rtape Rlen Rfn Rfp Rtok Rts Rte Rval) hw hA [0, 1] rfl
      refine va_callv (va_runV (As := [.int (zI 1)]) (rest := []) ⟨hx, hb, hml, hown, hts⟩ (c_X4_refuse l D cI cB cZ oR aRguests s.heap.size Rtape Rlen Rfn Rfp Rtok Rts Rte Rval 1 qRtape (by omega) (by omega) (by omega) (by omega) (by omega) (by omega) (by omega) (by omega)) (cwV 1 hts gX4_readNumber_X4_refuse rfl rfl rfl (by decide +kernel) ⟨Nat.le_of_ble_eq_true rfl, Nat.le_of_ble_eq_true rfl⟩) ⟨zPre_blind, va_recv hK hw.1 (ci := 4) (q0 := 0) rfl rfl, z_pre hK hw [0, 1] (by decide) rfl⟩ rfl rfl hl.1 rfl (lv_room (Nat.le_of_ble_eq_true rfl)) dX4_readNumber_20 ⟨Nat.zero_le _, Nat.zero_le _⟩) hw.2.2 (fun q _ h => hF9 q h) hF9 (fun u9 t9 H_62 locs9 ht9 hvm9 hq9 hB9 hz9 hk9 hS9 => ?_)
      obtain ⟨Rfn_63, Rfp_64⟩ := u9
      try dsimp only at hq9 hB9
      obtain ⟨hq_65, hq_66, hq_67, hq_68⟩ := hq9
      have hw : HW D A s.heap (kR cI cB cZ oR aRguests Rtape Rlen Rfn_63 Rfp_64 Rtok Rts Rte Rval) H_62 locs9 := z_after (wc := kR cI cB cZ oR aRguests Rtape Rlen Rfn Rfp Rtok Rts Rte Rval) hw [0, 1] [] rfl rfl (by decide) (by decide) hF9 hk9 ht9 hB9 hS9 [0, 1] (by decide) rfl
      clear hF9 ht9 hvm9 hB9 hz9 hk9 hS9
      refine z_iconst hx hb dX4_readNumber_23 ?_
      have hv_69 : (0 : Int) ≤ Rfn_63 ∧ Rfn_63 ≤ 3 := by
        first | assumption | omega | grind
      have hv_70 : (-1 : Int) ≤ Rfp_64 ∧ Rfp_64 ≤ 400 := by
        first | assumption | omega | grind
      have hv_71 : (1 : Int) ≤ Rtok ∧ Rtok ≤ 11 := by
        first | assumption | omega | grind
      have hv_72 : (0 : Int) ≤ Rts ∧ Rts ≤ 400 := by
        first | assumption | omega | grind
      have hv_73 : (0 : Int) ≤ Rte ∧ Rte ≤ 400 := by
        first | assumption | omega | grind
      have hv_74 : (0 : Int) ≤ Rval ∧ Rval ≤ 999 := by
        first | assumption | omega | grind
      have hv_75 : (0 : Int) = (numQ Rtape Rlen lo hi q).1 := by
        unfold numQ; rw [if_neg (by omega), if_pos (by omega)]
      have hv_76 : qR (numQ Rtape Rlen lo hi q).2 Rfn_63 Rfp_64 Rtok Rts Rte Rval := by
        unfold numQ; rw [if_neg (by omega), if_pos (by omega)]; subst_vars; exact ref_q hp0
      have hv_77 : Rte ≤ Rlen := by
        first | assumption | omega | grind
      have hv_78 : 0 ≤ (0 : Int) ∧ ((0 : Int) = 0 ∨ (0 : Int) ≤ hi) := by
        first | assumption | omega | grind
      exact W.iret (v := zI 0) hx hb hr (fun t9 ht hW => ⟨⟨zI 0, (0, Rfn_63, Rfp_64, Rtok, Rts, Rte, Rval), rfl, ⟨rfl, ⟨hv_69, hv_70, hv_71, hv_72, hv_73, hv_74, hv_75, hv_76, hv_77, hv_78⟩⟩, by subst hAe; exact z_end hK hw ht hW⟩, by subst hAe; exact hw.2.2.F ht⟩) (by subst hAe; exact hw.2.2.2.2) dX4_readNumber_24
  · skip
    refine z_iconst hx hb dX4_readNumber_7 ?_
    have hv_79 : (0 : Int) ≤ Rfn ∧ Rfn ≤ 3 := by
      first | assumption | omega | grind
    have hv_80 : (-1 : Int) ≤ Rfp ∧ Rfp ≤ 400 := by
      first | assumption | omega | grind
    have hv_81 : (1 : Int) ≤ Rtok ∧ Rtok ≤ 11 := by
      first | assumption | omega | grind
    have hv_82 : (0 : Int) ≤ Rts ∧ Rts ≤ 400 := by
      first | assumption | omega | grind
    have hv_83 : (0 : Int) ≤ Rte ∧ Rte ≤ 400 := by
      first | assumption | omega | grind
    have hv_84 : (0 : Int) ≤ Rval ∧ Rval ≤ 999 := by
      first | assumption | omega | grind
    have hv_85 : (0 : Int) = (numQ Rtape Rlen lo hi q).1 := by
      unfold numQ; rw [if_pos (by omega)]
    have hv_86 : qR (numQ Rtape Rlen lo hi q).2 Rfn Rfp Rtok Rts Rte Rval := by
      unfold numQ; rw [if_pos (by omega)]; assumption
    have hv_87 : Rte ≤ Rlen := by
      first | assumption | omega | grind
    have hv_88 : 0 ≤ (0 : Int) ∧ ((0 : Int) = 0 ∨ (0 : Int) ≤ hi) := by
      first | assumption | omega | grind
    exact W.iret (v := zI 0) hx hb hr (fun t9 ht hW => ⟨⟨zI 0, (0, Rfn, Rfp, Rtok, Rts, Rte, Rval), rfl, ⟨rfl, ⟨hv_79, hv_80, hv_81, hv_82, hv_83, hv_84, hv_85, hv_86, hv_87, hv_88⟩⟩, by subst hAe; exact z_end hK hw ht hW⟩, by subst hAe; exact hw.2.2.F ht⟩) (by subst hAe; exact hw.2.2.2.2) dX4_readNumber_8
set_option maxRecDepth 100000 in
set_option maxHeartbeats 4000000 in
theorem c_X4_readThing (l : Launch) (D : va_G) (cI cB cZ : ClassId) (aK aV : Nat → Nat) (oG : Nat → Nat) (oR : Nat → Nat) (sz : Nat) (Gn : Int) (Gki : Int → Int) (Gle : Int → Int) (Glo : Int → Int) (Gta : Int → Int) (Gsh : Int → Int) (Rtape : Int → Int) (Rlen : Int) (Rfn : Int) (Rfp : Int) (Rtok : Int) (Rts : Int) (Rte : Int) (Rval : Int) (q : QS) (qGn : 0 ≤ Gn ∧ Gn ≤ 8) (qGki : RA Gki (0) 4) (qGle : RA Gle (0) 5) (qGlo : RA Glo (0) 9) (qGta : RA Gta (0) 9) (qGsh : RA Gsh (0) 9) (qRtape : RA Rtape (-128) 127) (qRlen : 0 ≤ Rlen ∧ Rlen ≤ 400) (qRfn : 0 ≤ Rfn ∧ Rfn ≤ 3) (qRfp : -1 ≤ Rfp ∧ Rfp ≤ 400) (qRtok : 1 ≤ Rtok ∧ Rtok ≤ 11) (qRts : 0 ≤ Rts ∧ Rts ≤ 400) (qRte : 0 ≤ Rte ∧ Rte ≤ 400) (qRval : 0 ≤ Rval ∧ Rval ≤ 999) (hp0 : qR q Rfn Rfp Rtok Rts Rte Rval) (hp1 : Rte ≤ Rlen) : Met l yX4_readThing wsX4_readThing ({ frames := 8, cells := 0, slots := 0, locals := 174 }) (va_Pc [.ref (oR 0)] (zPreX aK aV D cI cB cZ sz (kG cI cB cZ oG Gn Gki Gle Glo Gta Gsh ++ kR cI cB cZ oR (oG 0) Rtape Rlen Rfn Rfp Rtok Rts Rte Rval))) (va_Qi (fun (r9 : Int32) (u9 : Int × Int × Int × Int × Int × Int × Int) => r9 = zI u9.1 ∧ (((0 : Int) ≤ u9.2.1 ∧ u9.2.1 ≤ 3) ∧ ((-1 : Int) ≤ u9.2.2.1 ∧ u9.2.2.1 ≤ 400) ∧ ((1 : Int) ≤ u9.2.2.2.1 ∧ u9.2.2.2.1 ≤ 11) ∧ ((0 : Int) ≤ u9.2.2.2.2.1 ∧ u9.2.2.2.2.1 ≤ 400) ∧ ((0 : Int) ≤ u9.2.2.2.2.2.1 ∧ u9.2.2.2.2.2.1 ≤ 400) ∧ ((0 : Int) ≤ u9.2.2.2.2.2.2 ∧ u9.2.2.2.2.2.2 ≤ 999) ∧ (u9.1 = (thQ Rtape Rlen Gn q).1) ∧ (qR (thQ Rtape Rlen Gn q).2 u9.2.1 u9.2.2.1 u9.2.2.2.1 u9.2.2.2.2.1 u9.2.2.2.2.2.1 u9.2.2.2.2.2.2) ∧ (u9.2.2.2.2.2.1 ≤ Rlen) ∧ (0 ≤ u9.1 ∧ u9.1 ≤ 12))) (fun u9 t9 => zAt D cI cB cZ (va_A (kG cI cB cZ oG Gn Gki Gle Glo Gta Gsh ++ kR cI cB cZ oR (oG 0) Rtape Rlen Rfn Rfp Rtok Rts Rte Rval) sz) (kG cI cB cZ oG Gn Gki Gle Glo Gta Gsh ++ kR cI cB cZ oR (oG 0) Rtape Rlen (u9.2.1) (u9.2.2.1) (u9.2.2.2.1) (u9.2.2.2.2.1) (u9.2.2.2.2.2.1) (u9.2.2.2.2.2.2)) t9) (va_A (kG cI cB cZ oG Gn Gki Gle Glo Gta Gsh ++ kR cI cB cZ oR (oG 0) Rtape Rlen Rfn Rfp Rtok Rts Rte Rval) sz)) 0 0 (va_A (kG cI cB cZ oG Gn Gki Gle Glo Gta Gsh ++ kR cI cB cZ oR (oG 0) Rtape Rlen Rfn Rfp Rtok Rts Rte Rval) sz) := by
  refine Met.ofW (cc := cX4_readThing) (maxL := 1) (ret := (some .int)) (by decide) rfl ?_
  intro pp ee s mm aa bw mt cd s₁ BL hml hv
  obtain ⟨rfl, ⟨hsz, hP, hK, hD0⟩, hZX⟩ := hv
  have hx := BL.exec
  have hb := BL.bytes
  have hr := BL.returns
  have hts := atoms_spec (ws := wsX4_readThing) BL.pre
  have hown : s.vm.findClass RX4 = some mm.cls := findClass_of_methodNamed BL.named
  have hlocks := BL.notSynchronized
  subst hsz
  generalize hAe : va_A (kG cI cB cZ oG Gn Gki Gle Glo Gta Gsh ++ kR cI cB cZ oR (oG 0) Rtape Rlen Rfn Rfp Rtok Rts Rte Rval) s.heap.size = A at hZX ⊢
  have hA : ∀ q : Nat, s.heap.size ≤ q → A q := fun q h => by rw [← hAe]; exact Or.inr h
  have hw : HW D A s.heap (kG cI cB cZ oG Gn Gki Gle Glo Gta Gsh ++ kR cI cB cZ oR (oG 0) Rtape Rlen Rfn Rfp Rtok Rts Rte Rval) s.heap [] := z_start hAe hP hD0
  clear hP hD0
  have hl := lv_entry ([.ref (oR 0)]) (n := 1) (Nat.le_of_ble_eq_true rfl)
  rw [lg_entry_eq]
  generalize (lg_sl ([.ref (oR 0)]) ++ List.replicate (1 - (lg_sl ([.ref (oR 0)])).length) Slot.unset).toArray = ls at hl ⊢
  have hl : lv_has ls 1 [(0, .ref (oR 0))] := hl
  have hinX2 : ∀ w ∈ wsX20, w ∈ wsX4_readThing := by decide +kernel
  have hinX4 : ∀ w ∈ wsX40, w ∈ wsX4_readThing := by decide +kernel
  have hq0 := hp0
  unfold qR at hq0
  obtain ⟨e1, e2, e3, e4, e5, e6⟩ := hq0
  refine lv_aload_n hx hb dX4_readThing_0 rfl (lv_at hl 0 rfl) ?_
  refine va_get (D := D) (ci := 4) (v := .int (zI Rfn)) (C := RX4) (T := TX4) (N := 9) hx hb hts hinX4 hown hK hw.1 6 rfl rfl 3 (by decide) (hts (.fieldLink RX4 19 "CarnivalRoad$Reader" "faultNumber" "I") (by decide +kernel)) (fun _ h9 => h9) rfl dX4_readThing_1 ?_
  refine z_if_ne (tgt := 30) hx hb dX4_readThing_4 (by decide) (by omega) (fun hc_1 => ?_) (fun hc_1 => ?_)
  · skip
    refine lv_aload_n hx hb dX4_readThing_30 rfl (lv_at hl 0 rfl) ?_
    refine z_iconst hx hb dX4_readThing_31 ?_
    refine lv_aload_n hx hb dX4_readThing_32 rfl (lv_at hl 0 rfl) ?_
    refine va_get (D := D) (ci := 4) (v := .ref (oG 0)) (C := RX4) (T := TX4) (N := 9) hx hb hts hinX4 hown hK hw.1 6 rfl rfl 0 (by decide) (hts (.fieldLink RX4 37 "CarnivalRoad$Reader" "guests" "LCarnivalRoad$Guests;") (by decide +kernel)) (fun _ h9 => h9) rfl dX4_readThing_33 ?_
    refine va_get (D := D) (ci := 2) (v := .int (zI Gn)) (C := RX2) (T := TX2) (N := 6) hx hb hts hinX2 hown hK hw.1 0 rfl rfl 0 (by decide) (hts (.fieldLink RX4 68 "CarnivalRoad$Guests" "count" "I") (by decide +kernel)) (fun _ h9 => h9) rfl dX4_readThing_36 ?_
    refine z_iconst hx hb dX4_readThing_39 ?_
    refine z_isub hx hb dX4_readThing_40 ?_
    have hpre_2 : qR q Rfn Rfp Rtok Rts Rte Rval := by
      first | assumption | omega
    have hpre_3 : Rte ≤ Rlen := by
      first | assumption | omega
    have hF9 := z_free (wc := kR cI cB cZ oR (oG 0) Rtape Rlen Rfn Rfp Rtok Rts Rte Rval) hw hA [6, 7] rfl
    refine va_calli (va_runV (As := [.int (zI 0), .int (zI (Gn - 1))]) (rest := []) ⟨hx, hb, hml, hown, hts⟩ (c_X4_readNumber l D cI cB cZ aK aV oR (oG 0) s.heap.size Rtape Rlen Rfn Rfp Rtok Rts Rte Rval 0 (Gn - 1) q qRtape (by omega) (by omega) (by omega) (by omega) (by omega) (by omega) (by omega) (by omega) (by omega) hpre_2 hpre_3) (cwV 2 hts gX4_readThing_X4_readNumber rfl rfl rfl (by decide +kernel) ⟨Nat.le_of_ble_eq_true rfl, Nat.le_of_ble_eq_true rfl⟩) ⟨zPreX_blind, va_recv hK hw.1 (ci := 4) (q0 := 6) rfl rfl, z_preX hK hw [6, 7] (by decide) rfl hZX hF9⟩ rfl rfl hl.1 rfl (lv_room (Nat.le_of_ble_eq_true rfl)) dX4_readThing_41 ⟨Nat.zero_le _, Nat.zero_le _⟩) hw.2.2 (fun q _ h => hF9 q h) hF9 (fun r9 u9 t9 H_4 locs9 ht9 hvm9 hq9 hB9 hz9 hk9 hS9 => ?_)
    obtain ⟨r_5, Rfn_6, Rfp_7, Rtok_8, Rts_9, Rte_10, Rval_11⟩ := u9
    try dsimp only at hq9 hB9
    obtain ⟨rfl, hq9⟩ := hq9
    obtain ⟨hq_12, hq_13, hq_14, hq_15, hq_16, hq_17, hq_18, hq_19, hq_20, hq_21⟩ := hq9
    have hw : HW D A s.heap (kG cI cB cZ oG Gn Gki Gle Glo Gta Gsh ++ kR cI cB cZ oR (oG 0) Rtape Rlen Rfn_6 Rfp_7 Rtok_8 Rts_9 Rte_10 Rval_11) H_4 locs9 := z_after (wc := kR cI cB cZ oR (oG 0) Rtape Rlen Rfn Rfp Rtok Rts Rte Rval) hw [6, 7] [0, 1, 2, 3, 4, 5] rfl rfl (by decide) (by decide) hF9 hk9 ht9 hB9 hS9 [0, 1, 2, 3, 4, 5, 6, 7] (by decide) rfl
    clear hF9 ht9 hvm9 hB9 hz9 hk9 hS9
    have hv_22 : (0 : Int) ≤ Rfn_6 ∧ Rfn_6 ≤ 3 := by
      first | assumption | omega | grind
    have hv_23 : (-1 : Int) ≤ Rfp_7 ∧ Rfp_7 ≤ 400 := by
      first | assumption | omega | grind
    have hv_24 : (1 : Int) ≤ Rtok_8 ∧ Rtok_8 ≤ 11 := by
      first | assumption | omega | grind
    have hv_25 : (0 : Int) ≤ Rts_9 ∧ Rts_9 ≤ 400 := by
      first | assumption | omega | grind
    have hv_26 : (0 : Int) ≤ Rte_10 ∧ Rte_10 ≤ 400 := by
      first | assumption | omega | grind
    have hv_27 : (0 : Int) ≤ Rval_11 ∧ Rval_11 ≤ 999 := by
      first | assumption | omega | grind
    have hv_28 : r_5 = (thQ Rtape Rlen Gn q).1 := by
      unfold thQ; rw [if_neg (by omega)]; assumption
    have hv_29 : qR (thQ Rtape Rlen Gn q).2 Rfn_6 Rfp_7 Rtok_8 Rts_9 Rte_10 Rval_11 := by
      unfold thQ; rw [if_neg (by omega)]; assumption
    have hv_30 : Rte_10 ≤ Rlen := by
      first | assumption | omega | grind
    have hv_31 : 0 ≤ r_5 ∧ r_5 ≤ 12 := by
      first | assumption | omega | grind
    exact W.iret (v := zI r_5) hx hb hr (fun t9 ht hW => ⟨⟨zI r_5, (r_5, Rfn_6, Rfp_7, Rtok_8, Rts_9, Rte_10, Rval_11), rfl, ⟨rfl, ⟨hv_22, hv_23, hv_24, hv_25, hv_26, hv_27, hv_28, hv_29, hv_30, hv_31⟩⟩, by subst hAe; exact z_end hK hw ht hW⟩, by subst hAe; exact hw.2.2.F ht⟩) (by subst hAe; exact hw.2.2.2.2) dX4_readThing_44
  · skip
    refine lv_aload_n hx hb dX4_readThing_7 rfl (lv_at hl 0 rfl) ?_
    refine va_get (D := D) (ci := 4) (v := .int (zI Rtok)) (C := RX4) (T := TX4) (N := 9) hx hb hts hinX4 hown hK hw.1 6 rfl rfl 5 (by decide) (hts (.fieldLink RX4 25 "CarnivalRoad$Reader" "token" "I") (by decide +kernel)) (fun _ h9 => h9) rfl dX4_readThing_8 ?_
    refine z_bipush hx hb dX4_readThing_11 (by decide) ?_
    refine z_icmp_ne (tgt := 30) hx hb dX4_readThing_13 (by decide) (by omega) (fun hc_32 => ?_) (fun hc_32 => ?_)
    · skip
      refine lv_aload_n hx hb dX4_readThing_30 rfl (lv_at hl 0 rfl) ?_
      refine z_iconst hx hb dX4_readThing_31 ?_
      refine lv_aload_n hx hb dX4_readThing_32 rfl (lv_at hl 0 rfl) ?_
      refine va_get (D := D) (ci := 4) (v := .ref (oG 0)) (C := RX4) (T := TX4) (N := 9) hx hb hts hinX4 hown hK hw.1 6 rfl rfl 0 (by decide) (hts (.fieldLink RX4 37 "CarnivalRoad$Reader" "guests" "LCarnivalRoad$Guests;") (by decide +kernel)) (fun _ h9 => h9) rfl dX4_readThing_33 ?_
      refine va_get (D := D) (ci := 2) (v := .int (zI Gn)) (C := RX2) (T := TX2) (N := 6) hx hb hts hinX2 hown hK hw.1 0 rfl rfl 0 (by decide) (hts (.fieldLink RX4 68 "CarnivalRoad$Guests" "count" "I") (by decide +kernel)) (fun _ h9 => h9) rfl dX4_readThing_36 ?_
      refine z_iconst hx hb dX4_readThing_39 ?_
      refine z_isub hx hb dX4_readThing_40 ?_
      have hpre_33 : qR q Rfn Rfp Rtok Rts Rte Rval := by
        first | assumption | omega
      have hpre_34 : Rte ≤ Rlen := by
        first | assumption | omega
      have hF9 := z_free (wc := kR cI cB cZ oR (oG 0) Rtape Rlen Rfn Rfp Rtok Rts Rte Rval) hw hA [6, 7] rfl
      refine va_calli (va_runV (As := [.int (zI 0), .int (zI (Gn - 1))]) (rest := []) ⟨hx, hb, hml, hown, hts⟩ (c_X4_readNumber l D cI cB cZ aK aV oR (oG 0) s.heap.size Rtape Rlen Rfn Rfp Rtok Rts Rte Rval 0 (Gn - 1) q qRtape (by omega) (by omega) (by omega) (by omega) (by omega) (by omega) (by omega) (by omega) (by omega) hpre_33 hpre_34) (cwV 2 hts gX4_readThing_X4_readNumber rfl rfl rfl (by decide +kernel) ⟨Nat.le_of_ble_eq_true rfl, Nat.le_of_ble_eq_true rfl⟩) ⟨zPreX_blind, va_recv hK hw.1 (ci := 4) (q0 := 6) rfl rfl, z_preX hK hw [6, 7] (by decide) rfl hZX hF9⟩ rfl rfl hl.1 rfl (lv_room (Nat.le_of_ble_eq_true rfl)) dX4_readThing_41 ⟨Nat.zero_le _, Nat.zero_le _⟩) hw.2.2 (fun q _ h => hF9 q h) hF9 (fun r9 u9 t9 H_35 locs9 ht9 hvm9 hq9 hB9 hz9 hk9 hS9 => ?_)
      obtain ⟨r_36, Rfn_37, Rfp_38, Rtok_39, Rts_40, Rte_41, Rval_42⟩ := u9
      try dsimp only at hq9 hB9
      obtain ⟨rfl, hq9⟩ := hq9
      obtain ⟨hq_43, hq_44, hq_45, hq_46, hq_47, hq_48, hq_49, hq_50, hq_51, hq_52⟩ := hq9
      have hw : HW D A s.heap (kG cI cB cZ oG Gn Gki Gle Glo Gta Gsh ++ kR cI cB cZ oR (oG 0) Rtape Rlen Rfn_37 Rfp_38 Rtok_39 Rts_40 Rte_41 Rval_42) H_35 locs9 := z_after (wc := kR cI cB cZ oR (oG 0) Rtape Rlen Rfn Rfp Rtok Rts Rte Rval) hw [6, 7] [0, 1, 2, 3, 4, 5] rfl rfl (by decide) (by decide) hF9 hk9 ht9 hB9 hS9 [0, 1, 2, 3, 4, 5, 6, 7] (by decide) rfl
      clear hF9 ht9 hvm9 hB9 hz9 hk9 hS9
      have hv_53 : (0 : Int) ≤ Rfn_37 ∧ Rfn_37 ≤ 3 := by
        first | assumption | omega | grind
      have hv_54 : (-1 : Int) ≤ Rfp_38 ∧ Rfp_38 ≤ 400 := by
        first | assumption | omega | grind
      have hv_55 : (1 : Int) ≤ Rtok_39 ∧ Rtok_39 ≤ 11 := by
        first | assumption | omega | grind
      have hv_56 : (0 : Int) ≤ Rts_40 ∧ Rts_40 ≤ 400 := by
        first | assumption | omega | grind
      have hv_57 : (0 : Int) ≤ Rte_41 ∧ Rte_41 ≤ 400 := by
        first | assumption | omega | grind
      have hv_58 : (0 : Int) ≤ Rval_42 ∧ Rval_42 ≤ 999 := by
        first | assumption | omega | grind
      have hv_59 : r_36 = (thQ Rtape Rlen Gn q).1 := by
        unfold thQ; rw [if_neg (by omega)]; assumption
      have hv_60 : qR (thQ Rtape Rlen Gn q).2 Rfn_37 Rfp_38 Rtok_39 Rts_40 Rte_41 Rval_42 := by
        unfold thQ; rw [if_neg (by omega)]; assumption
      have hv_61 : Rte_41 ≤ Rlen := by
        first | assumption | omega | grind
      have hv_62 : 0 ≤ r_36 ∧ r_36 ≤ 12 := by
        first | assumption | omega | grind
      exact W.iret (v := zI r_36) hx hb hr (fun t9 ht hW => ⟨⟨zI r_36, (r_36, Rfn_37, Rfp_38, Rtok_39, Rts_40, Rte_41, Rval_42), rfl, ⟨rfl, ⟨hv_53, hv_54, hv_55, hv_56, hv_57, hv_58, hv_59, hv_60, hv_61, hv_62⟩⟩, by subst hAe; exact z_end hK hw ht hW⟩, by subst hAe; exact hw.2.2.F ht⟩) (by subst hAe; exact hw.2.2.2.2) dX4_readThing_44
    · skip
      refine lv_aload_n hx hb dX4_readThing_16 rfl (lv_at hl 0 rfl) ?_
      have hpre_63 : qR q Rfn Rfp Rtok Rts Rte Rval := by
        first | assumption | omega
      have hpre_64 : Rte ≤ Rlen := by
        first | assumption | omega
      have hF9 := z_free (wc := kR cI cB cZ oR (oG 0) Rtape Rlen Rfn Rfp Rtok Rts Rte Rval) hw hA [6, 7] rfl
      refine va_callv (va_runV (As := []) (rest := []) ⟨hx, hb, hml, hown, hts⟩ (c_X4_goOn l D cI cB cZ aK aV oR (oG 0) s.heap.size Rtape Rlen Rfn Rfp Rtok Rts Rte Rval q qRtape (by omega) (by omega) (by omega) (by omega) (by omega) (by omega) (by omega) hpre_63 hpre_64) (cwV 0 hts gX4_readThing_X4_goOn rfl rfl rfl (by decide +kernel) ⟨Nat.le_of_ble_eq_true rfl, Nat.le_of_ble_eq_true rfl⟩) ⟨zPreX_blind, va_recv hK hw.1 (ci := 4) (q0 := 6) rfl rfl, z_preX hK hw [6, 7] (by decide) rfl hZX hF9⟩ rfl rfl hl.1 rfl (lv_room (Nat.le_of_ble_eq_true rfl)) dX4_readThing_17 ⟨Nat.zero_le _, Nat.zero_le _⟩) hw.2.2 (fun q _ h => hF9 q h) hF9 (fun u9 t9 H_65 locs9 ht9 hvm9 hq9 hB9 hz9 hk9 hS9 => ?_)
      obtain ⟨Rtok_66, Rts_67, Rte_68, Rval_69⟩ := u9
      try dsimp only at hq9 hB9
      obtain ⟨hq_70, hq_71, hq_72, hq_73, hq_74, hq_75⟩ := hq9
      have hw : HW D A s.heap (kG cI cB cZ oG Gn Gki Gle Glo Gta Gsh ++ kR cI cB cZ oR (oG 0) Rtape Rlen Rfn Rfp Rtok_66 Rts_67 Rte_68 Rval_69) H_65 locs9 := z_after (wc := kR cI cB cZ oR (oG 0) Rtape Rlen Rfn Rfp Rtok Rts Rte Rval) hw [6, 7] [0, 1, 2, 3, 4, 5] rfl rfl (by decide) (by decide) hF9 hk9 ht9 hB9 hS9 [0, 1, 2, 3, 4, 5, 6, 7] (by decide) rfl
      clear hF9 ht9 hvm9 hB9 hz9 hk9 hS9
      refine z_bipush hx hb dX4_readThing_20 (by decide) ?_
      refine lv_aload_n hx hb dX4_readThing_22 rfl (lv_at hl 0 rfl) ?_
      refine z_iconst hx hb dX4_readThing_23 ?_
      refine z_iconst hx hb dX4_readThing_24 ?_
      have hpre_76 : qR (goF Rtape Rlen q) Rfn Rfp Rtok_66 Rts_67 Rte_68 Rval_69 := by
        first | assumption | omega
      have hpre_77 : Rte_68 ≤ Rlen := by
        first | assumption | omega
      have hF9 := z_free (wc := kR cI cB cZ oR (oG 0) Rtape Rlen Rfn Rfp Rtok_66 Rts_67 Rte_68 Rval_69) hw hA [6, 7] rfl
      refine va_calli (va_runV (As := [.int (zI 0), .int (zI 4)]) (rest := [.int (zI 8)]) ⟨hx, hb, hml, hown, hts⟩ (c_X4_readNumber l D cI cB cZ aK aV oR (oG 0) H_65.size Rtape Rlen Rfn Rfp Rtok_66 Rts_67 Rte_68 Rval_69 0 4 (goF Rtape Rlen q) qRtape (by omega) (by omega) (by omega) (by omega) (by omega) (by omega) (by omega) (by omega) (by omega) hpre_76 hpre_77) (cwV 2 hts gX4_readThing_X4_readNumber rfl rfl rfl (by decide +kernel) ⟨Nat.le_of_ble_eq_true rfl, Nat.le_of_ble_eq_true rfl⟩) ⟨zPreX_blind, va_recv hK hw.1 (ci := 4) (q0 := 6) rfl rfl, z_preX hK hw [6, 7] (by decide) rfl hZX hF9⟩ rfl rfl hl.1 rfl (lv_room (Nat.le_of_ble_eq_true rfl)) dX4_readThing_25 ⟨Nat.zero_le _, Nat.zero_le _⟩) hw.2.2 (fun q _ h => hF9 q h) hF9 (fun r9 u9 t9 H_78 locs9 ht9 hvm9 hq9 hB9 hz9 hk9 hS9 => ?_)
      obtain ⟨r_79, Rfn_80, Rfp_81, Rtok_82, Rts_83, Rte_84, Rval_85⟩ := u9
      try dsimp only at hq9 hB9
      obtain ⟨rfl, hq9⟩ := hq9
      obtain ⟨hq_86, hq_87, hq_88, hq_89, hq_90, hq_91, hq_92, hq_93, hq_94, hq_95⟩ := hq9
      have hw : HW D A s.heap (kG cI cB cZ oG Gn Gki Gle Glo Gta Gsh ++ kR cI cB cZ oR (oG 0) Rtape Rlen Rfn_80 Rfp_81 Rtok_82 Rts_83 Rte_84 Rval_85) H_78 locs9 := z_after (wc := kR cI cB cZ oR (oG 0) Rtape Rlen Rfn Rfp Rtok_66 Rts_67 Rte_68 Rval_69) hw [6, 7] [0, 1, 2, 3, 4, 5] rfl rfl (by decide) (by decide) hF9 hk9 ht9 hB9 hS9 [0, 1, 2, 3, 4, 5, 6, 7] (by decide) rfl
      clear hF9 ht9 hvm9 hB9 hz9 hk9 hS9
      refine z_iadd hx hb dX4_readThing_28 ?_
      have hv_96 : (0 : Int) ≤ Rfn_80 ∧ Rfn_80 ≤ 3 := by
        first | assumption | omega | grind
      have hv_97 : (-1 : Int) ≤ Rfp_81 ∧ Rfp_81 ≤ 400 := by
        first | assumption | omega | grind
      have hv_98 : (1 : Int) ≤ Rtok_82 ∧ Rtok_82 ≤ 11 := by
        first | assumption | omega | grind
      have hv_99 : (0 : Int) ≤ Rts_83 ∧ Rts_83 ≤ 400 := by
        first | assumption | omega | grind
      have hv_100 : (0 : Int) ≤ Rte_84 ∧ Rte_84 ≤ 400 := by
        first | assumption | omega | grind
      have hv_101 : (0 : Int) ≤ Rval_85 ∧ Rval_85 ≤ 999 := by
        first | assumption | omega | grind
      have hv_102 : (8 + r_79) = (thQ Rtape Rlen Gn q).1 := by
        unfold thQ; rw [if_pos ⟨by omega, by omega⟩]; dsimp only; omega
      have hv_103 : qR (thQ Rtape Rlen Gn q).2 Rfn_80 Rfp_81 Rtok_82 Rts_83 Rte_84 Rval_85 := by
        unfold thQ; rw [if_pos ⟨by omega, by omega⟩]; assumption
      have hv_104 : Rte_84 ≤ Rlen := by
        first | assumption | omega | grind
      have hv_105 : 0 ≤ (8 + r_79) ∧ (8 + r_79) ≤ 12 := by
        first | assumption | omega | grind
      exact W.iret (v := zI (8 + r_79)) hx hb hr (fun t9 ht hW => ⟨⟨zI (8 + r_79), ((8 + r_79), Rfn_80, Rfp_81, Rtok_82, Rts_83, Rte_84, Rval_85), rfl, ⟨rfl, ⟨hv_96, hv_97, hv_98, hv_99, hv_100, hv_101, hv_102, hv_103, hv_104, hv_105⟩⟩, by subst hAe; exact z_end hK hw ht hW⟩, by subst hAe; exact hw.2.2.F ht⟩) (by subst hAe; exact hw.2.2.2.2) dX4_readThing_29
set_option maxRecDepth 100000 in
set_option maxHeartbeats 4000000 in
theorem c_X4_readSemicolon (l : Launch) (D : va_G) (cI cB cZ : ClassId) (aK aV : Nat → Nat) (oR : Nat → Nat) (aRguests : Nat) (sz : Nat) (Rtape : Int → Int) (Rlen : Int) (Rfn : Int) (Rfp : Int) (Rtok : Int) (Rts : Int) (Rte : Int) (Rval : Int) (q : QS) (qRtape : RA Rtape (-128) 127) (qRlen : 0 ≤ Rlen ∧ Rlen ≤ 400) (qRfn : 0 ≤ Rfn ∧ Rfn ≤ 3) (qRfp : -1 ≤ Rfp ∧ Rfp ≤ 400) (qRtok : 1 ≤ Rtok ∧ Rtok ≤ 11) (qRts : 0 ≤ Rts ∧ Rts ≤ 400) (qRte : 0 ≤ Rte ∧ Rte ≤ 400) (qRval : 0 ≤ Rval ∧ Rval ≤ 999) (hp0 : qR q Rfn Rfp Rtok Rts Rte Rval) (hp1 : Rte ≤ Rlen) : Met l yX4_readSemicolon wsX4_readSemicolon ({ frames := 7, cells := 0, slots := 0, locals := 151 }) (va_Pc [.ref (oR 0)] (zPreX aK aV D cI cB cZ sz (kR cI cB cZ oR aRguests Rtape Rlen Rfn Rfp Rtok Rts Rte Rval))) (va_Qv (fun (u9 : Int × Int × Int × Int × Int × Int) => ((0 : Int) ≤ u9.1 ∧ u9.1 ≤ 3) ∧ ((-1 : Int) ≤ u9.2.1 ∧ u9.2.1 ≤ 400) ∧ ((1 : Int) ≤ u9.2.2.1 ∧ u9.2.2.1 ≤ 11) ∧ ((0 : Int) ≤ u9.2.2.2.1 ∧ u9.2.2.2.1 ≤ 400) ∧ ((0 : Int) ≤ u9.2.2.2.2.1 ∧ u9.2.2.2.2.1 ≤ 400) ∧ ((0 : Int) ≤ u9.2.2.2.2.2 ∧ u9.2.2.2.2.2 ≤ 999) ∧ (qR (semQ Rtape Rlen q) u9.1 u9.2.1 u9.2.2.1 u9.2.2.2.1 u9.2.2.2.2.1 u9.2.2.2.2.2) ∧ (u9.2.2.2.2.1 ≤ Rlen)) (fun u9 t9 => zAt D cI cB cZ (va_A (kR cI cB cZ oR aRguests Rtape Rlen Rfn Rfp Rtok Rts Rte Rval) sz) (kR cI cB cZ oR aRguests Rtape Rlen (u9.1) (u9.2.1) (u9.2.2.1) (u9.2.2.2.1) (u9.2.2.2.2.1) (u9.2.2.2.2.2)) t9) (va_A (kR cI cB cZ oR aRguests Rtape Rlen Rfn Rfp Rtok Rts Rte Rval) sz)) 0 0 (va_A (kR cI cB cZ oR aRguests Rtape Rlen Rfn Rfp Rtok Rts Rte Rval) sz) := by
  refine Met.ofW (cc := cX4_readSemicolon) (maxL := 1) (ret := none) (by decide) rfl ?_
  intro pp ee s mm aa bw mt cd s₁ BL hml hv
  obtain ⟨rfl, ⟨hsz, hP, hK, hD0⟩, hZX⟩ := hv
  have hx := BL.exec
  have hb := BL.bytes
  have hr := BL.returns
  have hts := atoms_spec (ws := wsX4_readSemicolon) BL.pre
  have hown : s.vm.findClass RX4 = some mm.cls := findClass_of_methodNamed BL.named
  have hlocks := BL.notSynchronized
  subst hsz
  generalize hAe : va_A (kR cI cB cZ oR aRguests Rtape Rlen Rfn Rfp Rtok Rts Rte Rval) s.heap.size = A at hZX ⊢
  have hA : ∀ q : Nat, s.heap.size ≤ q → A q := fun q h => by rw [← hAe]; exact Or.inr h
  have hw : HW D A s.heap (kR cI cB cZ oR aRguests Rtape Rlen Rfn Rfp Rtok Rts Rte Rval) s.heap [] := z_start hAe hP hD0
  clear hP hD0
  have hl := lv_entry ([.ref (oR 0)]) (n := 1) (Nat.le_of_ble_eq_true rfl)
  rw [lg_entry_eq]
  generalize (lg_sl ([.ref (oR 0)]) ++ List.replicate (1 - (lg_sl ([.ref (oR 0)])).length) Slot.unset).toArray = ls at hl ⊢
  have hl : lv_has ls 1 [(0, .ref (oR 0))] := hl
  have hinX4 : ∀ w ∈ wsX40, w ∈ wsX4_readSemicolon := by decide +kernel
  have hq0 := hp0
  unfold qR at hq0
  obtain ⟨e1, e2, e3, e4, e5, e6⟩ := hq0
  refine lv_aload_n hx hb dX4_readSemicolon_0 rfl (lv_at hl 0 rfl) ?_
  refine va_get (D := D) (ci := 4) (v := .int (zI Rfn)) (C := RX4) (T := TX4) (N := 9) hx hb hts hinX4 hown hK hw.1 0 rfl rfl 3 (by decide) (hts (.fieldLink RX4 19 "CarnivalRoad$Reader" "faultNumber" "I") (by decide +kernel)) (fun _ h9 => h9) rfl dX4_readSemicolon_1 ?_
  refine z_if_eq (tgt := 8) hx hb dX4_readSemicolon_4 (by decide) (by omega) (fun hc_1 => ?_) (fun hc_1 => ?_)
  · skip
    refine lv_aload_n hx hb dX4_readSemicolon_8 rfl (lv_at hl 0 rfl) ?_
    refine va_get (D := D) (ci := 4) (v := .int (zI Rtok)) (C := RX4) (T := TX4) (N := 9) hx hb hts hinX4 hown hK hw.1 0 rfl rfl 5 (by decide) (hts (.fieldLink RX4 25 "CarnivalRoad$Reader" "token" "I") (by decide +kernel)) (fun _ h9 => h9) rfl dX4_readSemicolon_9 ?_
    refine z_bipush hx hb dX4_readSemicolon_12 (by decide) ?_
    refine z_icmp_eq (tgt := 23) hx hb dX4_readSemicolon_14 (by decide) (by omega) (fun hc_2 => ?_) (fun hc_2 => ?_)
    · skip
      refine lv_aload_n hx hb dX4_readSemicolon_23 rfl (lv_at hl 0 rfl) ?_
      have hpre_3 : qR q Rfn Rfp Rtok Rts Rte Rval := by
        first | assumption | omega
      have hpre_4 : Rte ≤ Rlen := by
        first | assumption | omega
      have hF9 := z_free (wc := kR cI cB cZ oR aRguests Rtape Rlen Rfn Rfp Rtok Rts Rte Rval) hw hA [0, 1] rfl
      refine va_callv (va_runV (As := []) (rest := []) ⟨hx, hb, hml, hown, hts⟩ (c_X4_goOn l D cI cB cZ aK aV oR aRguests s.heap.size Rtape Rlen Rfn Rfp Rtok Rts Rte Rval q qRtape (by omega) (by omega) (by omega) (by omega) (by omega) (by omega) (by omega) hpre_3 hpre_4) (cwV 0 hts gX4_readSemicolon_X4_goOn rfl rfl rfl (by decide +kernel) ⟨Nat.le_of_ble_eq_true rfl, Nat.le_of_ble_eq_true rfl⟩) ⟨zPreX_blind, va_recv hK hw.1 (ci := 4) (q0 := 0) rfl rfl, z_preX hK hw [0, 1] (by decide) rfl hZX hF9⟩ rfl rfl hl.1 rfl (lv_room (Nat.le_of_ble_eq_true rfl)) dX4_readSemicolon_24 ⟨Nat.zero_le _, Nat.zero_le _⟩) hw.2.2 (fun q _ h => hF9 q h) hF9 (fun u9 t9 H_5 locs9 ht9 hvm9 hq9 hB9 hz9 hk9 hS9 => ?_)
      obtain ⟨Rtok_6, Rts_7, Rte_8, Rval_9⟩ := u9
      try dsimp only at hq9 hB9
      obtain ⟨hq_10, hq_11, hq_12, hq_13, hq_14, hq_15⟩ := hq9
      have hw : HW D A s.heap (kR cI cB cZ oR aRguests Rtape Rlen Rfn Rfp Rtok_6 Rts_7 Rte_8 Rval_9) H_5 locs9 := z_after (wc := kR cI cB cZ oR aRguests Rtape Rlen Rfn Rfp Rtok Rts Rte Rval) hw [0, 1] [] rfl rfl (by decide) (by decide) hF9 hk9 ht9 hB9 hS9 [0, 1] (by decide) rfl
      clear hF9 ht9 hvm9 hB9 hz9 hk9 hS9
      have hv_16 : (0 : Int) ≤ Rfn ∧ Rfn ≤ 3 := by
        first | assumption | omega | grind
      have hv_17 : (-1 : Int) ≤ Rfp ∧ Rfp ≤ 400 := by
        first | assumption | omega | grind
      have hv_18 : (1 : Int) ≤ Rtok_6 ∧ Rtok_6 ≤ 11 := by
        first | assumption | omega | grind
      have hv_19 : (0 : Int) ≤ Rts_7 ∧ Rts_7 ≤ 400 := by
        first | assumption | omega | grind
      have hv_20 : (0 : Int) ≤ Rte_8 ∧ Rte_8 ≤ 400 := by
        first | assumption | omega | grind
      have hv_21 : (0 : Int) ≤ Rval_9 ∧ Rval_9 ≤ 999 := by
        first | assumption | omega | grind
      have hv_22 : qR (semQ Rtape Rlen q) Rfn Rfp Rtok_6 Rts_7 Rte_8 Rval_9 := by
        unfold semQ; rw [if_neg (by omega), if_neg (by omega)]; assumption
      have hv_23 : Rte_8 ≤ Rlen := by
        first | assumption | omega | grind
      exact W.vret hx hb hr (fun t9 ht hW => ⟨⟨(Rfn, Rfp, Rtok_6, Rts_7, Rte_8, Rval_9), rfl, ⟨hv_16, hv_17, hv_18, hv_19, hv_20, hv_21, hv_22, hv_23⟩, by subst hAe; exact z_end hK hw ht hW⟩, by subst hAe; exact hw.2.2.F ht⟩) (by subst hAe; exact hw.2.2.2.2) dX4_readSemicolon_27
    · skip
      refine lv_aload_n hx hb dX4_readSemicolon_17 rfl (lv_at hl 0 rfl) ?_
      refine z_iconst hx hb dX4_readSemicolon_18 ?_
      have hF9 := z_free (wc := kR cI cB cZ oR aRguests Rtape Rlen Rfn Rfp Rtok Rts Rte Rval) hw hA [0, 1] rfl
      refine va_callv (va_runV (As := [.int (zI 1)]) (rest := []) ⟨hx, hb, hml, hown, hts⟩ (c_X4_refuse l D cI cB cZ oR aRguests s.heap.size Rtape Rlen Rfn Rfp Rtok Rts Rte Rval 1 qRtape (by omega) (by omega) (by omega) (by omega) (by omega) (by omega) (by omega) (by omega)) (cwV 1 hts gX4_readSemicolon_X4_refuse rfl rfl rfl (by decide +kernel) ⟨Nat.le_of_ble_eq_true rfl, Nat.le_of_ble_eq_true rfl⟩) ⟨zPre_blind, va_recv hK hw.1 (ci := 4) (q0 := 0) rfl rfl, z_pre hK hw [0, 1] (by decide) rfl⟩ rfl rfl hl.1 rfl (lv_room (Nat.le_of_ble_eq_true rfl)) dX4_readSemicolon_19 ⟨Nat.zero_le _, Nat.zero_le _⟩) hw.2.2 (fun q _ h => hF9 q h) hF9 (fun u9 t9 H_24 locs9 ht9 hvm9 hq9 hB9 hz9 hk9 hS9 => ?_)
      obtain ⟨Rfn_25, Rfp_26⟩ := u9
      try dsimp only at hq9 hB9
      obtain ⟨hq_27, hq_28, hq_29, hq_30⟩ := hq9
      have hw : HW D A s.heap (kR cI cB cZ oR aRguests Rtape Rlen Rfn_25 Rfp_26 Rtok Rts Rte Rval) H_24 locs9 := z_after (wc := kR cI cB cZ oR aRguests Rtape Rlen Rfn Rfp Rtok Rts Rte Rval) hw [0, 1] [] rfl rfl (by decide) (by decide) hF9 hk9 ht9 hB9 hS9 [0, 1] (by decide) rfl
      clear hF9 ht9 hvm9 hB9 hz9 hk9 hS9
      have hv_31 : (0 : Int) ≤ Rfn_25 ∧ Rfn_25 ≤ 3 := by
        first | assumption | omega | grind
      have hv_32 : (-1 : Int) ≤ Rfp_26 ∧ Rfp_26 ≤ 400 := by
        first | assumption | omega | grind
      have hv_33 : (1 : Int) ≤ Rtok ∧ Rtok ≤ 11 := by
        first | assumption | omega | grind
      have hv_34 : (0 : Int) ≤ Rts ∧ Rts ≤ 400 := by
        first | assumption | omega | grind
      have hv_35 : (0 : Int) ≤ Rte ∧ Rte ≤ 400 := by
        first | assumption | omega | grind
      have hv_36 : (0 : Int) ≤ Rval ∧ Rval ≤ 999 := by
        first | assumption | omega | grind
      have hv_37 : qR (semQ Rtape Rlen q) Rfn_25 Rfp_26 Rtok Rts Rte Rval := by
        unfold semQ; rw [if_neg (by omega), if_pos (by omega)]; subst_vars; exact ref_q hp0
      have hv_38 : Rte ≤ Rlen := by
        first | assumption | omega | grind
      exact W.vret hx hb hr (fun t9 ht hW => ⟨⟨(Rfn_25, Rfp_26, Rtok, Rts, Rte, Rval), rfl, ⟨hv_31, hv_32, hv_33, hv_34, hv_35, hv_36, hv_37, hv_38⟩, by subst hAe; exact z_end hK hw ht hW⟩, by subst hAe; exact hw.2.2.F ht⟩) (by subst hAe; exact hw.2.2.2.2) dX4_readSemicolon_22
  · skip
    have hv_39 : (0 : Int) ≤ Rfn ∧ Rfn ≤ 3 := by
      first | assumption | omega | grind
    have hv_40 : (-1 : Int) ≤ Rfp ∧ Rfp ≤ 400 := by
      first | assumption | omega | grind
    have hv_41 : (1 : Int) ≤ Rtok ∧ Rtok ≤ 11 := by
      first | assumption | omega | grind
    have hv_42 : (0 : Int) ≤ Rts ∧ Rts ≤ 400 := by
      first | assumption | omega | grind
    have hv_43 : (0 : Int) ≤ Rte ∧ Rte ≤ 400 := by
      first | assumption | omega | grind
    have hv_44 : (0 : Int) ≤ Rval ∧ Rval ≤ 999 := by
      first | assumption | omega | grind
    have hv_45 : qR (semQ Rtape Rlen q) Rfn Rfp Rtok Rts Rte Rval := by
      unfold semQ; rw [if_pos (by omega)]; assumption
    have hv_46 : Rte ≤ Rlen := by
      first | assumption | omega | grind
    exact W.vret hx hb hr (fun t9 ht hW => ⟨⟨(Rfn, Rfp, Rtok, Rts, Rte, Rval), rfl, ⟨hv_39, hv_40, hv_41, hv_42, hv_43, hv_44, hv_45, hv_46⟩, by subst hAe; exact z_end hK hw ht hW⟩, by subst hAe; exact hw.2.2.F ht⟩) (by subst hAe; exact hw.2.2.2.2) dX4_readSemicolon_7
set_option maxRecDepth 100000 in
set_option maxHeartbeats 4000000 in
theorem c_X4_readBar (l : Launch) (D : va_G) (cI cB cZ : ClassId) (aK aV : Nat → Nat) (oG : Nat → Nat) (oR : Nat → Nat) (oB : Nat → Nat) (sz : Nat) (Gn : Int) (Gki : Int → Int) (Gle : Int → Int) (Glo : Int → Int) (Gta : Int → Int) (Gsh : Int → Int) (Rtape : Int → Int) (Rlen : Int) (Rfn : Int) (Rfp : Int) (Rtok : Int) (Rts : Int) (Rte : Int) (Rval : Int) (Bcnt : Int) (Bwo : Int → Int) (Bon : Int → Int) (Btw : Int → Int) (Bnu : Int → Int) (q : QS) (qGn : 0 ≤ Gn ∧ Gn ≤ 8) (qGki : RA Gki (0) 4) (qGle : RA Gle (0) 5) (qGlo : RA Glo (0) 9) (qGta : RA Gta (0) 9) (qGsh : RA Gsh (0) 9) (qRtape : RA Rtape (-128) 127) (qRlen : 0 ≤ Rlen ∧ Rlen ≤ 400) (qRfn : 0 ≤ Rfn ∧ Rfn ≤ 3) (qRfp : -1 ≤ Rfp ∧ Rfp ≤ 400) (qRtok : 1 ≤ Rtok ∧ Rtok ≤ 11) (qRts : 0 ≤ Rts ∧ Rts ≤ 400) (qRte : 0 ≤ Rte ∧ Rte ≤ 400) (qRval : 0 ≤ Rval ∧ Rval ≤ 999) (qBcnt : 0 ≤ Bcnt ∧ Bcnt ≤ 10) (qBwo : RA Bwo (0) 11) (qBon : RA Bon (0) 12) (qBtw : RA Btw (0) 12) (qBnu : RA Bnu (0) 18) (hp0 : qR q Rfn Rfp Rtok Rts Rte Rval) (hp1 : Rte ≤ Rlen) : Met l yX4_readBar wsX4_readBar ({ frames := 9, cells := 0, slots := 0, locals := 194 }) (va_Pc [.ref (oR 0), .ref (oB 0)] (zPreX aK aV D cI cB cZ sz (kG cI cB cZ oG Gn Gki Gle Glo Gta Gsh ++ kR cI cB cZ oR (oG 0) Rtape Rlen Rfn Rfp Rtok Rts Rte Rval ++ kB cI cB cZ oB (oG 0) Bcnt Bwo Bon Btw Bnu))) (va_Qv (fun (u9 : Int × Int × Int × Int × Int × Int × Int × (Int → Int) × (Int → Int) × (Int → Int) × (Int → Int)) => ((0 : Int) ≤ u9.1 ∧ u9.1 ≤ 3) ∧ ((-1 : Int) ≤ u9.2.1 ∧ u9.2.1 ≤ 400) ∧ ((1 : Int) ≤ u9.2.2.1 ∧ u9.2.2.1 ≤ 11) ∧ ((0 : Int) ≤ u9.2.2.2.1 ∧ u9.2.2.2.1 ≤ 400) ∧ ((0 : Int) ≤ u9.2.2.2.2.1 ∧ u9.2.2.2.2.1 ≤ 400) ∧ ((0 : Int) ≤ u9.2.2.2.2.2.1 ∧ u9.2.2.2.2.2.1 ≤ 999) ∧ ((0 : Int) ≤ u9.2.2.2.2.2.2.1 ∧ u9.2.2.2.2.2.2.1 ≤ 10) ∧ (RA u9.2.2.2.2.2.2.2.1 (0) 11) ∧ (RA u9.2.2.2.2.2.2.2.2.1 (0) 12) ∧ (RA u9.2.2.2.2.2.2.2.2.2.1 (0) 12) ∧ (RA u9.2.2.2.2.2.2.2.2.2.2 (0) 18) ∧ (qR (barQ Rtape Rlen Gn Bcnt q) u9.1 u9.2.1 u9.2.2.1 u9.2.2.2.1 u9.2.2.2.2.1 u9.2.2.2.2.2.1) ∧ (u9.2.2.2.2.1 ≤ Rlen) ∧ ((u9.2.2.2.2.2.2.1, u9.2.2.2.2.2.2.2.1, u9.2.2.2.2.2.2.2.2.1, u9.2.2.2.2.2.2.2.2.2.1, u9.2.2.2.2.2.2.2.2.2.2) = barB Rtape Rlen Gn q (Bcnt, Bwo, Bon, Btw, Bnu))) (fun u9 t9 => zAt D cI cB cZ (va_A (kG cI cB cZ oG Gn Gki Gle Glo Gta Gsh ++ kR cI cB cZ oR (oG 0) Rtape Rlen Rfn Rfp Rtok Rts Rte Rval ++ kB cI cB cZ oB (oG 0) Bcnt Bwo Bon Btw Bnu) sz) (kG cI cB cZ oG Gn Gki Gle Glo Gta Gsh ++ kR cI cB cZ oR (oG 0) Rtape Rlen (u9.1) (u9.2.1) (u9.2.2.1) (u9.2.2.2.1) (u9.2.2.2.2.1) (u9.2.2.2.2.2.1) ++ kB cI cB cZ oB (oG 0) (u9.2.2.2.2.2.2.1) (u9.2.2.2.2.2.2.2.1) (u9.2.2.2.2.2.2.2.2.1) (u9.2.2.2.2.2.2.2.2.2.1) (u9.2.2.2.2.2.2.2.2.2.2)) t9) (va_A (kG cI cB cZ oG Gn Gki Gle Glo Gta Gsh ++ kR cI cB cZ oR (oG 0) Rtape Rlen Rfn Rfp Rtok Rts Rte Rval ++ kB cI cB cZ oB (oG 0) Bcnt Bwo Bon Btw Bnu) sz)) 0 0 (va_A (kG cI cB cZ oG Gn Gki Gle Glo Gta Gsh ++ kR cI cB cZ oR (oG 0) Rtape Rlen Rfn Rfp Rtok Rts Rte Rval ++ kB cI cB cZ oB (oG 0) Bcnt Bwo Bon Btw Bnu) sz) := by
  refine Met.ofW (cc := cX4_readBar) (maxL := 6) (ret := none) (by decide) rfl ?_
  intro pp ee s mm aa bw mt cd s₁ BL hml hv
  obtain ⟨rfl, ⟨hsz, hP, hK, hD0⟩, hZX⟩ := hv
  have hx := BL.exec
  have hb := BL.bytes
  have hr := BL.returns
  have hts := atoms_spec (ws := wsX4_readBar) BL.pre
  have hown : s.vm.findClass RX4 = some mm.cls := findClass_of_methodNamed BL.named
  have hlocks := BL.notSynchronized
  subst hsz
  generalize hAe : va_A (kG cI cB cZ oG Gn Gki Gle Glo Gta Gsh ++ kR cI cB cZ oR (oG 0) Rtape Rlen Rfn Rfp Rtok Rts Rte Rval ++ kB cI cB cZ oB (oG 0) Bcnt Bwo Bon Btw Bnu) s.heap.size = A at hZX ⊢
  have hA : ∀ q : Nat, s.heap.size ≤ q → A q := fun q h => by rw [← hAe]; exact Or.inr h
  have hw : HW D A s.heap (kG cI cB cZ oG Gn Gki Gle Glo Gta Gsh ++ kR cI cB cZ oR (oG 0) Rtape Rlen Rfn Rfp Rtok Rts Rte Rval ++ kB cI cB cZ oB (oG 0) Bcnt Bwo Bon Btw Bnu) s.heap [] := z_start hAe hP hD0
  clear hP hD0
  have hl := lv_entry ([.ref (oR 0), .ref (oB 0)]) (n := 6) (Nat.le_of_ble_eq_true rfl)
  rw [lg_entry_eq]
  generalize (lg_sl ([.ref (oR 0), .ref (oB 0)]) ++ List.replicate (6 - (lg_sl ([.ref (oR 0), .ref (oB 0)])).length) Slot.unset).toArray = ls at hl ⊢
  have hl : lv_has ls 6 [(0, .ref (oR 0)), (1, .ref (oB 0))] := hl
  have hinX0 : ∀ w ∈ wsX00, w ∈ wsX4_readBar := by decide +kernel
  have hinX4 : ∀ w ∈ wsX40, w ∈ wsX4_readBar := by decide +kernel
  have hq0 := hp0
  unfold qR at hq0
  obtain ⟨e1, e2, e3, e4, e5, e6⟩ := hq0
  refine z_cut (σ := Int) 36 (I := fun x9 H locs ls => (x9 = Rtok) ∧ (1 ≤ x9 ∧ x9 ≤ 5) ∧ HW D A s.heap (kG cI cB cZ oG Gn Gki Gle Glo Gta Gsh ++ kR cI cB cZ oR (oG 0) Rtape Rlen Rfn Rfp Rtok Rts Rte Rval ++ kB cI cB cZ oB (oG 0) Bcnt Bwo Bon Btw Bnu) H locs ∧ lv_has ls 6 [(0, .ref (oR 0)), (1, .ref (oB 0)), (2, .int (zI x9))]) (st := fun x9 => []) ?_ (fun hj_1 => ?_)
  · clear hw hl
    intro w_2 H locs ls hI
    try dsimp only at hI ⊢
    obtain ⟨hI_3, hI_4, hw, hl⟩ := hI
    refine lv_aload_n hx hb dX4_readBar_36 rfl (lv_at hl 1 rfl) ?_
    refine va_get (D := D) (ci := 0) (v := .int (zI Bcnt)) (C := RX0) (T := TX0) (N := 6) hx hb hts hinX0 hown hK hw.1 8 rfl rfl 1 (by decide) (hts (.fieldLink RX4 48 "CarnivalRoad$Bars" "count" "I") (by decide +kernel)) (fun _ h9 => h9) rfl dX4_readBar_37 ?_
    refine z_bipush hx hb dX4_readBar_40 (by decide) ?_
    refine z_icmp_lt (tgt := 51) hx hb dX4_readBar_42 (by decide) (by omega) (fun hc_5 => ?_) (fun hc_5 => ?_)
    · skip
      refine z_cut (σ := Int × Int × Int × Int × Int × Int × Int) 68 (I := fun x9 H locs ls => ((0 : Int) ≤ (x9.2.1) ∧ (x9.2.1) ≤ 3) ∧ ((-1 : Int) ≤ (x9.2.2.1) ∧ (x9.2.2.1) ≤ 400) ∧ ((1 : Int) ≤ (x9.2.2.2.1) ∧ (x9.2.2.2.1) ≤ 11) ∧ ((0 : Int) ≤ (x9.2.2.2.2.1) ∧ (x9.2.2.2.2.1) ≤ 400) ∧ ((0 : Int) ≤ (x9.2.2.2.2.2.1) ∧ (x9.2.2.2.2.2.1) ≤ 400) ∧ ((0 : Int) ≤ (x9.2.2.2.2.2.2) ∧ (x9.2.2.2.2.2.2) ≤ 999) ∧ (x9.1 = (oneQ Rtape Rlen Gn q).1) ∧ (qR (oneQ Rtape Rlen Gn q).2 (x9.2.1) (x9.2.2.1) (x9.2.2.2.1) (x9.2.2.2.2.1) (x9.2.2.2.2.2.1) (x9.2.2.2.2.2.2)) ∧ ((x9.2.2.2.2.2.1) ≤ Rlen) ∧ (0 ≤ x9.1 ∧ x9.1 ≤ 12) ∧ HW D A s.heap (kG cI cB cZ oG Gn Gki Gle Glo Gta Gsh ++ kR cI cB cZ oR (oG 0) Rtape Rlen (x9.2.1) (x9.2.2.1) (x9.2.2.2.1) (x9.2.2.2.2.1) (x9.2.2.2.2.2.1) (x9.2.2.2.2.2.2) ++ kB cI cB cZ oB (oG 0) Bcnt Bwo Bon Btw Bnu) H locs ∧ lv_has ls 6 [(0, .ref (oR 0)), (1, .ref (oB 0)), (2, .int (zI w_2))]) (st := fun x9 => [.int (zI x9.1)]) ?_ (fun hj_6 => ?_)
      · clear hw hl
        intro x9 H locs ls hI
        obtain ⟨one_7, Rfn_8, Rfp_9, Rtok_10, Rts_11, Rte_12, Rval_13⟩ := x9
        try dsimp only at hI ⊢
        obtain ⟨hq_14, hq_15, hq_16, hq_17, hq_18, hq_19, hI_20, hI_21, hI_22, hI_23, hw, hl⟩ := hI
        refine lv_istore_n (lv' := [(3, .int (zI one_7)), (0, .ref (oR 0)), (1, .ref (oB 0)), (2, .int (zI w_2))]) hx hb dX4_readBar_68 rfl hl (by decide) rfl (fun ls hl => ?_)
        refine z_cut (σ := Int × Int × Int × Int × Int × Int × Int) 87 (I := fun x9 H locs ls => ((0 : Int) ≤ (x9.2.1) ∧ (x9.2.1) ≤ 3) ∧ ((-1 : Int) ≤ (x9.2.2.1) ∧ (x9.2.2.1) ≤ 400) ∧ ((1 : Int) ≤ (x9.2.2.2.1) ∧ (x9.2.2.2.1) ≤ 11) ∧ ((0 : Int) ≤ (x9.2.2.2.2.1) ∧ (x9.2.2.2.2.1) ≤ 400) ∧ ((0 : Int) ≤ (x9.2.2.2.2.2.1) ∧ (x9.2.2.2.2.2.1) ≤ 400) ∧ ((0 : Int) ≤ (x9.2.2.2.2.2.2) ∧ (x9.2.2.2.2.2.2) ≤ 999) ∧ (x9.1 = (twoQ Rtape Rlen Gn q).1) ∧ (qR (twoQ Rtape Rlen Gn q).2 (x9.2.1) (x9.2.2.1) (x9.2.2.2.1) (x9.2.2.2.2.1) (x9.2.2.2.2.2.1) (x9.2.2.2.2.2.2)) ∧ ((x9.2.2.2.2.2.1) ≤ Rlen) ∧ (0 ≤ x9.1 ∧ x9.1 ≤ 12) ∧ HW D A s.heap (kG cI cB cZ oG Gn Gki Gle Glo Gta Gsh ++ kR cI cB cZ oR (oG 0) Rtape Rlen (x9.2.1) (x9.2.2.1) (x9.2.2.2.1) (x9.2.2.2.2.1) (x9.2.2.2.2.2.1) (x9.2.2.2.2.2.2) ++ kB cI cB cZ oB (oG 0) Bcnt Bwo Bon Btw Bnu) H locs ∧ lv_has ls 6 [(0, .ref (oR 0)), (1, .ref (oB 0)), (2, .int (zI w_2)), (3, .int (zI one_7))]) (st := fun x9 => [.int (zI x9.1)]) ?_ (fun hj_24 => ?_)
        · clear hw hl
          intro x9 H locs ls hI
          obtain ⟨two_25, Rfn_26, Rfp_27, Rtok_28, Rts_29, Rte_30, Rval_31⟩ := x9
          try dsimp only at hI ⊢
          obtain ⟨hq_32, hq_33, hq_34, hq_35, hq_36, hq_37, hI_38, hI_39, hI_40, hI_41, hw, hl⟩ := hI
          refine lv_istore (lv' := [(4, .int (zI two_25)), (0, .ref (oR 0)), (1, .ref (oB 0)), (2, .int (zI w_2)), (3, .int (zI one_7))]) hx hb dX4_readBar_87 hl (by decide) rfl (fun ls hl => ?_)
          refine z_cut (σ := Int × Int × Int × Int × Int × Int × Int) 123 (I := fun x9 H locs ls => ((0 : Int) ≤ (x9.2.1) ∧ (x9.2.1) ≤ 3) ∧ ((-1 : Int) ≤ (x9.2.2.1) ∧ (x9.2.2.1) ≤ 400) ∧ ((1 : Int) ≤ (x9.2.2.2.1) ∧ (x9.2.2.2.1) ≤ 11) ∧ ((0 : Int) ≤ (x9.2.2.2.2.1) ∧ (x9.2.2.2.2.1) ≤ 400) ∧ ((0 : Int) ≤ (x9.2.2.2.2.2.1) ∧ (x9.2.2.2.2.2.1) ≤ 400) ∧ ((0 : Int) ≤ (x9.2.2.2.2.2.2) ∧ (x9.2.2.2.2.2.2) ≤ 999) ∧ ((x9.1) = (thrQ Rtape Rlen Gn q).1) ∧ (qR (thrQ Rtape Rlen Gn q).2 (x9.2.1) (x9.2.2.1) (x9.2.2.2.1) (x9.2.2.2.2.1) (x9.2.2.2.2.2.1) (x9.2.2.2.2.2.2)) ∧ ((x9.2.2.2.2.2.1) ≤ Rlen) ∧ (0 ≤ (x9.1) ∧ (x9.1) ≤ 18) ∧ HW D A s.heap (kG cI cB cZ oG Gn Gki Gle Glo Gta Gsh ++ kR cI cB cZ oR (oG 0) Rtape Rlen (x9.2.1) (x9.2.2.1) (x9.2.2.2.1) (x9.2.2.2.2.1) (x9.2.2.2.2.2.1) (x9.2.2.2.2.2.2) ++ kB cI cB cZ oB (oG 0) Bcnt Bwo Bon Btw Bnu) H locs ∧ lv_has ls 6 [(0, .ref (oR 0)), (1, .ref (oB 0)), (2, .int (zI w_2)), (3, .int (zI one_7)), (4, .int (zI two_25)), (5, .int (zI (x9.1)))]) (st := fun x9 => []) ?_ (fun hj_42 => ?_)
          · clear hw hl
            intro x9 H locs ls hI
            obtain ⟨num_43, Rfn_44, Rfp_45, Rtok_46, Rts_47, Rte_48, Rval_49⟩ := x9
            try dsimp only at hI ⊢
            obtain ⟨hq_50, hq_51, hq_52, hq_53, hq_54, hq_55, hI_56, hI_57, hI_58, hI_59, hw, hl⟩ := hI
            refine lv_aload_n hx hb dX4_readBar_123 rfl (lv_at hl 0 rfl) ?_
            have hpre_60 : qR ((thrQ Rtape Rlen Gn q).2) Rfn_44 Rfp_45 Rtok_46 Rts_47 Rte_48 Rval_49 := by
              first | assumption | omega
            have hpre_61 : Rte_48 ≤ Rlen := by
              first | assumption | omega
            have hF9 := z_free (wc := kR cI cB cZ oR (oG 0) Rtape Rlen Rfn_44 Rfp_45 Rtok_46 Rts_47 Rte_48 Rval_49) hw hA [6, 7] rfl
            refine va_callv (va_runV (As := []) (rest := []) ⟨hx, hb, hml, hown, hts⟩ (c_X4_readSemicolon l D cI cB cZ aK aV oR (oG 0) H.size Rtape Rlen Rfn_44 Rfp_45 Rtok_46 Rts_47 Rte_48 Rval_49 ((thrQ Rtape Rlen Gn q).2) qRtape (by omega) (by omega) (by omega) (by omega) (by omega) (by omega) (by omega) hpre_60 hpre_61) (cwV 0 hts gX4_readBar_X4_readSemicolon rfl rfl rfl (by decide +kernel) ⟨Nat.le_of_ble_eq_true rfl, Nat.le_of_ble_eq_true rfl⟩) ⟨zPreX_blind, va_recv hK hw.1 (ci := 4) (q0 := 6) rfl rfl, z_preX hK hw [6, 7] (by decide) rfl hZX hF9⟩ rfl rfl hl.1 rfl (lv_room (Nat.le_of_ble_eq_true rfl)) dX4_readBar_124 ⟨Nat.zero_le _, Nat.zero_le _⟩) hw.2.2 (fun q _ h => hF9 q h) hF9 (fun u9 t9 H_62 locs9 ht9 hvm9 hq9 hB9 hz9 hk9 hS9 => ?_)
            obtain ⟨Rfn_63, Rfp_64, Rtok_65, Rts_66, Rte_67, Rval_68⟩ := u9
            try dsimp only at hq9 hB9
            obtain ⟨hq_69, hq_70, hq_71, hq_72, hq_73, hq_74, hq_75, hq_76⟩ := hq9
            have hw : HW D A s.heap (kG cI cB cZ oG Gn Gki Gle Glo Gta Gsh ++ kR cI cB cZ oR (oG 0) Rtape Rlen Rfn_63 Rfp_64 Rtok_65 Rts_66 Rte_67 Rval_68 ++ kB cI cB cZ oB (oG 0) Bcnt Bwo Bon Btw Bnu) H_62 locs9 := z_after (wc := kR cI cB cZ oR (oG 0) Rtape Rlen Rfn_44 Rfp_45 Rtok_46 Rts_47 Rte_48 Rval_49) hw [6, 7] [0, 1, 2, 3, 4, 5, 8, 9, 10, 11, 12] rfl rfl (by decide) (by decide) hF9 hk9 ht9 hB9 hS9 [0, 1, 2, 3, 4, 5, 11, 12, 6, 7, 8, 9, 10] (by decide) rfl
            clear hF9 ht9 hvm9 hB9 hz9 hk9 hS9
            refine lv_aload_n hx hb dX4_readBar_127 rfl (lv_at hl 0 rfl) ?_
            refine va_get (D := D) (ci := 4) (v := .int (zI Rfn_63)) (C := RX4) (T := TX4) (N := 9) hx hb hts hinX4 hown hK hw.1 6 rfl rfl 3 (by decide) (hts (.fieldLink RX4 19 "CarnivalRoad$Reader" "faultNumber" "I") (by decide +kernel)) (fun _ h9 => h9) rfl dX4_readBar_128 ?_
            refine z_if_ne (tgt := 144) hx hb dX4_readBar_131 (by decide) (by omega) (fun hc_77 => ?_) (fun hc_77 => ?_)
            · skip
              have hv_78 : (0 : Int) ≤ Rfn_63 ∧ Rfn_63 ≤ 3 := by
                first | assumption | omega | grind
              have hv_79 : (-1 : Int) ≤ Rfp_64 ∧ Rfp_64 ≤ 400 := by
                first | assumption | omega | grind
              have hv_80 : (1 : Int) ≤ Rtok_65 ∧ Rtok_65 ≤ 11 := by
                first | assumption | omega | grind
              have hv_81 : (0 : Int) ≤ Rts_66 ∧ Rts_66 ≤ 400 := by
                first | assumption | omega | grind
              have hv_82 : (0 : Int) ≤ Rte_67 ∧ Rte_67 ≤ 400 := by
                first | assumption | omega | grind
              have hv_83 : (0 : Int) ≤ Rval_68 ∧ Rval_68 ≤ 999 := by
                first | assumption | omega | grind
              have hv_84 : (0 : Int) ≤ Bcnt ∧ Bcnt ≤ 10 := by
                first | assumption | omega | grind
              have hv_85 : qR (barQ Rtape Rlen Gn Bcnt q) Rfn_63 Rfp_64 Rtok_65 Rts_66 Rte_67 Rval_68 := by
                unfold barQ; rw [if_neg (by omega), if_neg (by omega)]; assumption
              have hv_86 : Rte_67 ≤ Rlen := by
                first | assumption | omega | grind
              have hv_87 : (Bcnt, Bwo, Bon, Btw, Bnu) = barB Rtape Rlen Gn q (Bcnt, Bwo, Bon, Btw, Bnu) := by
                have hbq : barQ Rtape Rlen Gn Bcnt q = semQ Rtape Rlen (thrQ Rtape Rlen Gn q).2 := by unfold barQ; rw [if_neg (by omega), if_neg (by omega)]
                have hfn := (by assumption : qR (semQ Rtape Rlen (thrQ Rtape Rlen Gn q).2) _ _ _ _ _ _).1
                unfold barB
                first | (rw [if_neg (by rw [hbq]; rintro ⟨_, _, z⟩; omega)]; done) | (rw [if_pos ⟨by omega, by show Bcnt < 10; omega, by rw [hbq]; omega⟩]; dsimp only; rw [show q.2.2.1 = w_2 by omega, ← (by assumption : _ = (oneQ Rtape Rlen Gn q).1), ← (by assumption : _ = (twoQ Rtape Rlen Gn q).1), ← (by assumption : _ = (thrQ Rtape Rlen Gn q).1)]; subst_vars; rfl)
              exact W.vret hx hb hr (fun t9 ht hW => ⟨⟨(Rfn_63, Rfp_64, Rtok_65, Rts_66, Rte_67, Rval_68, Bcnt, Bwo, Bon, Btw, Bnu), rfl, ⟨hv_78, hv_79, hv_80, hv_81, hv_82, hv_83, hv_84, qBwo, qBon, qBtw, qBnu, hv_85, hv_86, hv_87⟩, by subst hAe; exact z_end hK hw ht hW⟩, by subst hAe; exact hw.2.2.F ht⟩) (by subst hAe; exact hw.2.2.2.2) dX4_readBar_144
            · skip
              refine lv_aload_n hx hb dX4_readBar_134 rfl (lv_at hl 1 rfl) ?_
              refine lv_iload_n hx hb dX4_readBar_135 rfl (lv_at hl 2 rfl) ?_
              refine lv_iload_n hx hb dX4_readBar_136 rfl (lv_at hl 3 rfl) ?_
              refine lv_iload hx hb dX4_readBar_137 (lv_at hl 4 rfl) ?_
              refine lv_iload hx hb dX4_readBar_139 (lv_at hl 5 rfl) ?_
              have hpre_88 : Bcnt < 10 := by
                first | assumption | omega
              have hF9 := z_free (wc := kB cI cB cZ oB (oG 0) Bcnt Bwo Bon Btw Bnu) hw hA [8, 9, 10, 11, 12] rfl
              refine va_callv (va_runV (As := [.int (zI w_2), .int (zI one_7), .int (zI two_25), .int (zI num_43)]) (rest := []) ⟨hx, hb, hml, hown, hts⟩ (c_X0_add l D cI cB cZ oB (oG 0) H_62.size Bcnt Bwo Bon Btw Bnu w_2 one_7 two_25 num_43 (by omega) qBwo qBon qBtw qBnu (by omega) (by omega) (by omega) (by omega) hpre_88) (cwV 4 hts gX4_readBar_X0_add rfl rfl rfl (by decide +kernel) ⟨Nat.le_of_ble_eq_true rfl, Nat.le_of_ble_eq_true rfl⟩) ⟨zPre_blind, va_recv hK hw.1 (ci := 0) (q0 := 8) rfl rfl, z_pre hK hw [8, 9, 10, 11, 12] (by decide) rfl⟩ rfl rfl hl.1 rfl (lv_room (Nat.le_of_ble_eq_true rfl)) dX4_readBar_141 ⟨Nat.zero_le _, Nat.zero_le _⟩) hw.2.2 (fun q _ h => hF9 q h) hF9 (fun u9 t9 H_89 locs9 ht9 hvm9 hq9 hB9 hz9 hk9 hS9 => ?_)
              obtain ⟨Bcnt_90, Bwo_91, Bon_92, Btw_93, Bnu_94⟩ := u9
              try dsimp only at hq9 hB9
              obtain ⟨hq_95, hq_96, hq_97, hq_98, hq_99, hq_100, hq_101, hq_102, hq_103, hq_104⟩ := hq9
              have hw : HW D A s.heap (kG cI cB cZ oG Gn Gki Gle Glo Gta Gsh ++ kR cI cB cZ oR (oG 0) Rtape Rlen Rfn_63 Rfp_64 Rtok_65 Rts_66 Rte_67 Rval_68 ++ kB cI cB cZ oB (oG 0) Bcnt_90 Bwo_91 Bon_92 Btw_93 Bnu_94) H_89 locs9 := z_after (wc := kB cI cB cZ oB (oG 0) Bcnt Bwo Bon Btw Bnu) hw [8, 9, 10, 11, 12] [0, 1, 2, 3, 4, 5, 6, 7] rfl rfl (by decide) (by decide) hF9 hk9 ht9 hB9 hS9 [0, 1, 2, 3, 4, 5, 6, 7, 8, 9, 10, 11, 12] (by decide) rfl
              clear hF9 ht9 hvm9 hB9 hz9 hk9 hS9
              have hv_105 : (0 : Int) ≤ Rfn_63 ∧ Rfn_63 ≤ 3 := by
                first | assumption | omega | grind
              have hv_106 : (-1 : Int) ≤ Rfp_64 ∧ Rfp_64 ≤ 400 := by
                first | assumption | omega | grind
              have hv_107 : (1 : Int) ≤ Rtok_65 ∧ Rtok_65 ≤ 11 := by
                first | assumption | omega | grind
              have hv_108 : (0 : Int) ≤ Rts_66 ∧ Rts_66 ≤ 400 := by
                first | assumption | omega | grind
              have hv_109 : (0 : Int) ≤ Rte_67 ∧ Rte_67 ≤ 400 := by
                first | assumption | omega | grind
              have hv_110 : (0 : Int) ≤ Rval_68 ∧ Rval_68 ≤ 999 := by
                first | assumption | omega | grind
              have hv_111 : (0 : Int) ≤ Bcnt_90 ∧ Bcnt_90 ≤ 10 := by
                first | assumption | omega | grind
              have hv_112 : qR (barQ Rtape Rlen Gn Bcnt q) Rfn_63 Rfp_64 Rtok_65 Rts_66 Rte_67 Rval_68 := by
                unfold barQ; rw [if_neg (by omega), if_neg (by omega)]; assumption
              have hv_113 : Rte_67 ≤ Rlen := by
                first | assumption | omega | grind
              have hv_114 : (Bcnt_90, Bwo_91, Bon_92, Btw_93, Bnu_94) = barB Rtape Rlen Gn q (Bcnt, Bwo, Bon, Btw, Bnu) := by
                have hbq : barQ Rtape Rlen Gn Bcnt q = semQ Rtape Rlen (thrQ Rtape Rlen Gn q).2 := by unfold barQ; rw [if_neg (by omega), if_neg (by omega)]
                have hfn := (by assumption : qR (semQ Rtape Rlen (thrQ Rtape Rlen Gn q).2) _ _ _ _ _ _).1
                unfold barB
                first | (rw [if_neg (by rw [hbq]; rintro ⟨_, _, z⟩; omega)]; done) | (rw [if_pos ⟨by omega, by show Bcnt < 10; omega, by rw [hbq]; omega⟩]; dsimp only; rw [show q.2.2.1 = w_2 by omega, ← (by assumption : _ = (oneQ Rtape Rlen Gn q).1), ← (by assumption : _ = (twoQ Rtape Rlen Gn q).1), ← (by assumption : _ = (thrQ Rtape Rlen Gn q).1)]; subst_vars; rfl)
              exact W.vret hx hb hr (fun t9 ht hW => ⟨⟨(Rfn_63, Rfp_64, Rtok_65, Rts_66, Rte_67, Rval_68, Bcnt_90, Bwo_91, Bon_92, Btw_93, Bnu_94), rfl, ⟨hv_105, hv_106, hv_107, hv_108, hv_109, hv_110, hv_111, hq_96, hq_97, hq_98, hq_99, hv_112, hv_113, hv_114⟩, by subst hAe; exact z_end hK hw ht hW⟩, by subst hAe; exact hw.2.2.F ht⟩) (by subst hAe; exact hw.2.2.2.2) dX4_readBar_144
          refine z_iconst hx hb dX4_readBar_89 ?_
          refine lv_istore (lv' := [(5, .int (zI 0)), (4, .int (zI two_25)), (0, .ref (oR 0)), (1, .ref (oB 0)), (2, .int (zI w_2)), (3, .int (zI one_7))]) hx hb dX4_readBar_90 hl (by decide) rfl (fun ls hl => ?_)
          refine lv_iload_n hx hb dX4_readBar_92 rfl (lv_at hl 4 rfl) ?_
          refine z_iconst hx hb dX4_readBar_93 ?_
          refine z_icmp_ne (tgt := 109) hx hb dX4_readBar_94 (by decide) (by omega) (fun hc_115 => ?_) (fun hc_115 => ?_)
          · skip
            refine lv_iload_n hx hb dX4_readBar_109 rfl (lv_at hl 4 rfl) ?_
            refine z_iconst hx hb dX4_readBar_110 ?_
            refine z_icmp_ne (tgt := 123) hx hb dX4_readBar_111 (by decide) (by omega) (fun hc_116 => ?_) (fun hc_116 => ?_)
            · skip
              have hv_117 : (0 : Int) ≤ Rfn_26 ∧ Rfn_26 ≤ 3 := by
                first | assumption | omega | grind
              have hv_118 : (-1 : Int) ≤ Rfp_27 ∧ Rfp_27 ≤ 400 := by
                first | assumption | omega | grind
              have hv_119 : (1 : Int) ≤ Rtok_28 ∧ Rtok_28 ≤ 11 := by
                first | assumption | omega | grind
              have hv_120 : (0 : Int) ≤ Rts_29 ∧ Rts_29 ≤ 400 := by
                first | assumption | omega | grind
              have hv_121 : (0 : Int) ≤ Rte_30 ∧ Rte_30 ≤ 400 := by
                first | assumption | omega | grind
              have hv_122 : (0 : Int) ≤ Rval_31 ∧ Rval_31 ≤ 999 := by
                first | assumption | omega | grind
              have hv_123 : (0 : Int) = (thrQ Rtape Rlen Gn q).1 := by
                unfold thrQ; first | (rw [if_pos (by omega)]; assumption) | (rw [if_neg (by omega), if_pos (by omega)]; assumption) | rw [if_neg (by omega), if_neg (by omega)]
              have hv_124 : qR (thrQ Rtape Rlen Gn q).2 Rfn_26 Rfp_27 Rtok_28 Rts_29 Rte_30 Rval_31 := by
                unfold thrQ; first | (rw [if_pos (by omega)]; assumption) | (rw [if_neg (by omega), if_pos (by omega)]; assumption) | (rw [if_neg (by omega), if_neg (by omega)]; assumption)
              have hv_125 : Rte_30 ≤ Rlen := by
                first | assumption | omega | grind
              have hv_126 : 0 ≤ (0 : Int) ∧ (0 : Int) ≤ 18 := by
                first | assumption | omega | grind
              exact hj_42 (0, Rfn_26, Rfp_27, Rtok_28, Rts_29, Rte_30, Rval_31) _ _ _ ⟨hv_117, hv_118, hv_119, hv_120, hv_121, hv_122, hv_123, hv_124, hv_125, hv_126, hw, lv_sub hl [2, 3, 4, 5, 1, 0] rfl⟩
            · skip
              refine lv_aload_n hx hb dX4_readBar_114 rfl (lv_at hl 2 rfl) ?_
              refine z_iconst hx hb dX4_readBar_115 ?_
              refine z_bipush hx hb dX4_readBar_116 (by decide) ?_
              have hpre_127 : qR ((twoQ Rtape Rlen Gn q).2) Rfn_26 Rfp_27 Rtok_28 Rts_29 Rte_30 Rval_31 := by
                first | assumption | omega
              have hpre_128 : Rte_30 ≤ Rlen := by
                first | assumption | omega
              have hF9 := z_free (wc := kR cI cB cZ oR (oG 0) Rtape Rlen Rfn_26 Rfp_27 Rtok_28 Rts_29 Rte_30 Rval_31) hw hA [6, 7] rfl
              refine va_calli (va_runV (As := [.int (zI 0), .int (zI 18)]) (rest := []) ⟨hx, hb, hml, hown, hts⟩ (c_X4_readNumber l D cI cB cZ aK aV oR (oG 0) H.size Rtape Rlen Rfn_26 Rfp_27 Rtok_28 Rts_29 Rte_30 Rval_31 0 18 ((twoQ Rtape Rlen Gn q).2) qRtape (by omega) (by omega) (by omega) (by omega) (by omega) (by omega) (by omega) (by omega) (by omega) hpre_127 hpre_128) (cwV 2 hts gX4_readBar_X4_readNumber rfl rfl rfl (by decide +kernel) ⟨Nat.le_of_ble_eq_true rfl, Nat.le_of_ble_eq_true rfl⟩) ⟨zPreX_blind, va_recv hK hw.1 (ci := 4) (q0 := 6) rfl rfl, z_preX hK hw [6, 7] (by decide) rfl hZX hF9⟩ rfl rfl hl.1 rfl (lv_room (Nat.le_of_ble_eq_true rfl)) dX4_readBar_118 ⟨Nat.zero_le _, Nat.zero_le _⟩) hw.2.2 (fun q _ h => hF9 q h) hF9 (fun r9 u9 t9 H_129 locs9 ht9 hvm9 hq9 hB9 hz9 hk9 hS9 => ?_)
              obtain ⟨r_130, Rfn_131, Rfp_132, Rtok_133, Rts_134, Rte_135, Rval_136⟩ := u9
              try dsimp only at hq9 hB9
              obtain ⟨rfl, hq9⟩ := hq9
              obtain ⟨hq_137, hq_138, hq_139, hq_140, hq_141, hq_142, hq_143, hq_144, hq_145, hq_146⟩ := hq9
              have hw : HW D A s.heap (kG cI cB cZ oG Gn Gki Gle Glo Gta Gsh ++ kR cI cB cZ oR (oG 0) Rtape Rlen Rfn_131 Rfp_132 Rtok_133 Rts_134 Rte_135 Rval_136 ++ kB cI cB cZ oB (oG 0) Bcnt Bwo Bon Btw Bnu) H_129 locs9 := z_after (wc := kR cI cB cZ oR (oG 0) Rtape Rlen Rfn_26 Rfp_27 Rtok_28 Rts_29 Rte_30 Rval_31) hw [6, 7] [0, 1, 2, 3, 4, 5, 8, 9, 10, 11, 12] rfl rfl (by decide) (by decide) hF9 hk9 ht9 hB9 hS9 [0, 1, 2, 3, 4, 5, 11, 12, 6, 7, 8, 9, 10] (by decide) rfl
              clear hF9 ht9 hvm9 hB9 hz9 hk9 hS9
              refine lv_istore (lv' := [(5, .int (zI r_130)), (4, .int (zI two_25)), (0, .ref (oR 0)), (1, .ref (oB 0)), (2, .int (zI w_2)), (3, .int (zI one_7))]) hx hb dX4_readBar_121 hl (by decide) rfl (fun ls hl => ?_)
              have hv_147 : (0 : Int) ≤ Rfn_131 ∧ Rfn_131 ≤ 3 := by
                first | assumption | omega | grind
              have hv_148 : (-1 : Int) ≤ Rfp_132 ∧ Rfp_132 ≤ 400 := by
                first | assumption | omega | grind
              have hv_149 : (1 : Int) ≤ Rtok_133 ∧ Rtok_133 ≤ 11 := by
                first | assumption | omega | grind
              have hv_150 : (0 : Int) ≤ Rts_134 ∧ Rts_134 ≤ 400 := by
                first | assumption | omega | grind
              have hv_151 : (0 : Int) ≤ Rte_135 ∧ Rte_135 ≤ 400 := by
                first | assumption | omega | grind
              have hv_152 : (0 : Int) ≤ Rval_136 ∧ Rval_136 ≤ 999 := by
                first | assumption | omega | grind
              have hv_153 : r_130 = (thrQ Rtape Rlen Gn q).1 := by
                unfold thrQ; first | (rw [if_pos (by omega)]; assumption) | (rw [if_neg (by omega), if_pos (by omega)]; assumption) | rw [if_neg (by omega), if_neg (by omega)]
              have hv_154 : qR (thrQ Rtape Rlen Gn q).2 Rfn_131 Rfp_132 Rtok_133 Rts_134 Rte_135 Rval_136 := by
                unfold thrQ; first | (rw [if_pos (by omega)]; assumption) | (rw [if_neg (by omega), if_pos (by omega)]; assumption) | (rw [if_neg (by omega), if_neg (by omega)]; assumption)
              have hv_155 : Rte_135 ≤ Rlen := by
                first | assumption | omega | grind
              have hv_156 : 0 ≤ r_130 ∧ r_130 ≤ 18 := by
                first | assumption | omega | grind
              exact hj_42 (r_130, Rfn_131, Rfp_132, Rtok_133, Rts_134, Rte_135, Rval_136) _ _ _ ⟨hv_147, hv_148, hv_149, hv_150, hv_151, hv_152, hv_153, hv_154, hv_155, hv_156, hw, lv_sub hl [2, 3, 4, 5, 1, 0] rfl⟩
          · skip
            refine lv_aload_n hx hb dX4_readBar_97 rfl (lv_at hl 2 rfl) ?_
            refine z_iconst hx hb dX4_readBar_98 ?_
            refine z_bipush hx hb dX4_readBar_99 (by decide) ?_
            have hpre_157 : qR ((twoQ Rtape Rlen Gn q).2) Rfn_26 Rfp_27 Rtok_28 Rts_29 Rte_30 Rval_31 := by
              first | assumption | omega
            have hpre_158 : Rte_30 ≤ Rlen := by
              first | assumption | omega
            have hF9 := z_free (wc := kR cI cB cZ oR (oG 0) Rtape Rlen Rfn_26 Rfp_27 Rtok_28 Rts_29 Rte_30 Rval_31) hw hA [6, 7] rfl
            refine va_calli (va_runV (As := [.int (zI 1), .int (zI 7)]) (rest := []) ⟨hx, hb, hml, hown, hts⟩ (c_X4_readNumber l D cI cB cZ aK aV oR (oG 0) H.size Rtape Rlen Rfn_26 Rfp_27 Rtok_28 Rts_29 Rte_30 Rval_31 1 7 ((twoQ Rtape Rlen Gn q).2) qRtape (by omega) (by omega) (by omega) (by omega) (by omega) (by omega) (by omega) (by omega) (by omega) hpre_157 hpre_158) (cwV 2 hts gX4_readBar_X4_readNumber rfl rfl rfl (by decide +kernel) ⟨Nat.le_of_ble_eq_true rfl, Nat.le_of_ble_eq_true rfl⟩) ⟨zPreX_blind, va_recv hK hw.1 (ci := 4) (q0 := 6) rfl rfl, z_preX hK hw [6, 7] (by decide) rfl hZX hF9⟩ rfl rfl hl.1 rfl (lv_room (Nat.le_of_ble_eq_true rfl)) dX4_readBar_101 ⟨Nat.zero_le _, Nat.zero_le _⟩) hw.2.2 (fun q _ h => hF9 q h) hF9 (fun r9 u9 t9 H_159 locs9 ht9 hvm9 hq9 hB9 hz9 hk9 hS9 => ?_)
            obtain ⟨r_160, Rfn_161, Rfp_162, Rtok_163, Rts_164, Rte_165, Rval_166⟩ := u9
            try dsimp only at hq9 hB9
            obtain ⟨rfl, hq9⟩ := hq9
            obtain ⟨hq_167, hq_168, hq_169, hq_170, hq_171, hq_172, hq_173, hq_174, hq_175, hq_176⟩ := hq9
            have hw : HW D A s.heap (kG cI cB cZ oG Gn Gki Gle Glo Gta Gsh ++ kR cI cB cZ oR (oG 0) Rtape Rlen Rfn_161 Rfp_162 Rtok_163 Rts_164 Rte_165 Rval_166 ++ kB cI cB cZ oB (oG 0) Bcnt Bwo Bon Btw Bnu) H_159 locs9 := z_after (wc := kR cI cB cZ oR (oG 0) Rtape Rlen Rfn_26 Rfp_27 Rtok_28 Rts_29 Rte_30 Rval_31) hw [6, 7] [0, 1, 2, 3, 4, 5, 8, 9, 10, 11, 12] rfl rfl (by decide) (by decide) hF9 hk9 ht9 hB9 hS9 [0, 1, 2, 3, 4, 5, 11, 12, 6, 7, 8, 9, 10] (by decide) rfl
            clear hF9 ht9 hvm9 hB9 hz9 hk9 hS9
            refine lv_istore (lv' := [(5, .int (zI r_160)), (4, .int (zI two_25)), (0, .ref (oR 0)), (1, .ref (oB 0)), (2, .int (zI w_2)), (3, .int (zI one_7))]) hx hb dX4_readBar_104 hl (by decide) rfl (fun ls hl => ?_)
            refine lv_goto (tgt := 123) hx hb dX4_readBar_106 (by decide) ?_
            have hv_177 : (0 : Int) ≤ Rfn_161 ∧ Rfn_161 ≤ 3 := by
              first | assumption | omega | grind
            have hv_178 : (-1 : Int) ≤ Rfp_162 ∧ Rfp_162 ≤ 400 := by
              first | assumption | omega | grind
            have hv_179 : (1 : Int) ≤ Rtok_163 ∧ Rtok_163 ≤ 11 := by
              first | assumption | omega | grind
            have hv_180 : (0 : Int) ≤ Rts_164 ∧ Rts_164 ≤ 400 := by
              first | assumption | omega | grind
            have hv_181 : (0 : Int) ≤ Rte_165 ∧ Rte_165 ≤ 400 := by
              first | assumption | omega | grind
            have hv_182 : (0 : Int) ≤ Rval_166 ∧ Rval_166 ≤ 999 := by
              first | assumption | omega | grind
            have hv_183 : r_160 = (thrQ Rtape Rlen Gn q).1 := by
              unfold thrQ; first | (rw [if_pos (by omega)]; assumption) | (rw [if_neg (by omega), if_pos (by omega)]; assumption) | rw [if_neg (by omega), if_neg (by omega)]
            have hv_184 : qR (thrQ Rtape Rlen Gn q).2 Rfn_161 Rfp_162 Rtok_163 Rts_164 Rte_165 Rval_166 := by
              unfold thrQ; first | (rw [if_pos (by omega)]; assumption) | (rw [if_neg (by omega), if_pos (by omega)]; assumption) | (rw [if_neg (by omega), if_neg (by omega)]; assumption)
            have hv_185 : Rte_165 ≤ Rlen := by
              first | assumption | omega | grind
            have hv_186 : 0 ≤ r_160 ∧ r_160 ≤ 18 := by
              first | assumption | omega | grind
            exact hj_42 (r_160, Rfn_161, Rfp_162, Rtok_163, Rts_164, Rte_165, Rval_166) _ _ _ ⟨hv_177, hv_178, hv_179, hv_180, hv_181, hv_182, hv_183, hv_184, hv_185, hv_186, hw, lv_sub hl [2, 3, 4, 5, 1, 0] rfl⟩
        refine z_cut (σ := Unit) 79 (I := fun x9 H locs ls => (w_2 = 1 ∨ w_2 = 2) ∧ HW D A s.heap (kG cI cB cZ oG Gn Gki Gle Glo Gta Gsh ++ kR cI cB cZ oR (oG 0) Rtape Rlen Rfn_8 Rfp_9 Rtok_10 Rts_11 Rte_12 Rval_13 ++ kB cI cB cZ oB (oG 0) Bcnt Bwo Bon Btw Bnu) H locs ∧ lv_has ls 6 [(0, .ref (oR 0)), (1, .ref (oB 0)), (2, .int (zI w_2)), (3, .int (zI one_7))]) (st := fun x9 => []) ?_ (fun hj_187 => ?_)
        · clear hw hl
          intro x9 H locs ls hI
          try dsimp only at hI ⊢
          obtain ⟨hI_188, hw, hl⟩ := hI
          refine lv_aload_n hx hb dX4_readBar_79 rfl (lv_at hl 0 rfl) ?_
          have hpre_189 : qR ((oneQ Rtape Rlen Gn q).2) Rfn_8 Rfp_9 Rtok_10 Rts_11 Rte_12 Rval_13 := by
            first | assumption | omega
          have hpre_190 : Rte_12 ≤ Rlen := by
            first | assumption | omega
          have hF9 := z_free (wc := kG cI cB cZ oG Gn Gki Gle Glo Gta Gsh ++ kR cI cB cZ oR (oG 0) Rtape Rlen Rfn_8 Rfp_9 Rtok_10 Rts_11 Rte_12 Rval_13) hw hA [0, 1, 2, 3, 4, 5, 6, 7] rfl
          refine va_calli (va_runV (As := []) (rest := []) ⟨hx, hb, hml, hown, hts⟩ (c_X4_readThing l D cI cB cZ aK aV oG oR H.size Gn Gki Gle Glo Gta Gsh Rtape Rlen Rfn_8 Rfp_9 Rtok_10 Rts_11 Rte_12 Rval_13 ((oneQ Rtape Rlen Gn q).2) (by omega) qGki qGle qGlo qGta qGsh qRtape (by omega) (by omega) (by omega) (by omega) (by omega) (by omega) (by omega) hpre_189 hpre_190) (cwV 0 hts gX4_readBar_X4_readThing rfl rfl rfl (by decide +kernel) ⟨Nat.le_of_ble_eq_true rfl, Nat.le_of_ble_eq_true rfl⟩) ⟨zPreX_blind, va_recv hK hw.1 (ci := 4) (q0 := 6) rfl rfl, z_preX hK hw [0, 1, 2, 3, 4, 5, 6, 7] (by decide) rfl hZX hF9⟩ rfl rfl hl.1 rfl (lv_room (Nat.le_of_ble_eq_true rfl)) dX4_readBar_80 ⟨Nat.zero_le _, Nat.zero_le _⟩) hw.2.2 (fun q _ h => hF9 q h) hF9 (fun r9 u9 t9 H_191 locs9 ht9 hvm9 hq9 hB9 hz9 hk9 hS9 => ?_)
          obtain ⟨r_192, Rfn_193, Rfp_194, Rtok_195, Rts_196, Rte_197, Rval_198⟩ := u9
          try dsimp only at hq9 hB9
          obtain ⟨rfl, hq9⟩ := hq9
          obtain ⟨hq_199, hq_200, hq_201, hq_202, hq_203, hq_204, hq_205, hq_206, hq_207, hq_208⟩ := hq9
          have hw : HW D A s.heap (kG cI cB cZ oG Gn Gki Gle Glo Gta Gsh ++ kR cI cB cZ oR (oG 0) Rtape Rlen Rfn_193 Rfp_194 Rtok_195 Rts_196 Rte_197 Rval_198 ++ kB cI cB cZ oB (oG 0) Bcnt Bwo Bon Btw Bnu) H_191 locs9 := z_after (wc := kG cI cB cZ oG Gn Gki Gle Glo Gta Gsh ++ kR cI cB cZ oR (oG 0) Rtape Rlen Rfn_8 Rfp_9 Rtok_10 Rts_11 Rte_12 Rval_13) hw [0, 1, 2, 3, 4, 5, 6, 7] [8, 9, 10, 11, 12] rfl rfl (by decide) (by decide) hF9 hk9 ht9 hB9 hS9 [5, 6, 7, 8, 9, 10, 11, 12, 0, 1, 2, 3, 4] (by decide) rfl
          clear hF9 ht9 hvm9 hB9 hz9 hk9 hS9
          refine lv_goto (tgt := 87) hx hb dX4_readBar_83 (by decide) ?_
          have hv_209 : (0 : Int) ≤ Rfn_193 ∧ Rfn_193 ≤ 3 := by
            first | assumption | omega | grind
          have hv_210 : (-1 : Int) ≤ Rfp_194 ∧ Rfp_194 ≤ 400 := by
            first | assumption | omega | grind
          have hv_211 : (1 : Int) ≤ Rtok_195 ∧ Rtok_195 ≤ 11 := by
            first | assumption | omega | grind
          have hv_212 : (0 : Int) ≤ Rts_196 ∧ Rts_196 ≤ 400 := by
            first | assumption | omega | grind
          have hv_213 : (0 : Int) ≤ Rte_197 ∧ Rte_197 ≤ 400 := by
            first | assumption | omega | grind
          have hv_214 : (0 : Int) ≤ Rval_198 ∧ Rval_198 ≤ 999 := by
            first | assumption | omega | grind
          have hv_215 : r_192 = (twoQ Rtape Rlen Gn q).1 := by
            unfold twoQ; first | rw [if_neg (by omega)] | (rw [if_pos (by omega)]; assumption)
          have hv_216 : qR (twoQ Rtape Rlen Gn q).2 Rfn_193 Rfp_194 Rtok_195 Rts_196 Rte_197 Rval_198 := by
            unfold twoQ; first | (rw [if_neg (by omega)]; assumption) | (rw [if_pos (by omega)]; assumption)
          have hv_217 : Rte_197 ≤ Rlen := by
            first | assumption | omega | grind
          have hv_218 : 0 ≤ r_192 ∧ r_192 ≤ 12 := by
            first | assumption | omega | grind
          exact hj_24 (r_192, Rfn_193, Rfp_194, Rtok_195, Rts_196, Rte_197, Rval_198) _ _ _ ⟨hv_209, hv_210, hv_211, hv_212, hv_213, hv_214, hv_215, hv_216, hv_217, hv_218, hw, lv_sub hl [0, 1, 2, 3] rfl⟩
        refine lv_iload_n hx hb dX4_readBar_69 rfl (lv_at hl 3 rfl) ?_
        refine z_iconst hx hb dX4_readBar_70 ?_
        refine z_icmp_eq (tgt := 79) hx hb dX4_readBar_71 (by decide) (by omega) (fun hc_219 => ?_) (fun hc_219 => ?_)
        · skip
          have hv_220 : w_2 = 1 ∨ w_2 = 2 := by
            first | assumption | omega | grind
          exact hj_187 () _ _ _ ⟨hv_220, hw, lv_sub hl [1, 2, 3, 0] rfl⟩
        · skip
          refine lv_iload_n hx hb dX4_readBar_74 rfl (lv_at hl 3 rfl) ?_
          refine z_iconst hx hb dX4_readBar_75 ?_
          refine z_icmp_ne (tgt := 86) hx hb dX4_readBar_76 (by decide) (by omega) (fun hc_221 => ?_) (fun hc_221 => ?_)
          · skip
            refine z_iconst hx hb dX4_readBar_86 ?_
            have hv_222 : (0 : Int) ≤ Rfn_8 ∧ Rfn_8 ≤ 3 := by
              first | assumption | omega | grind
            have hv_223 : (-1 : Int) ≤ Rfp_9 ∧ Rfp_9 ≤ 400 := by
              first | assumption | omega | grind
            have hv_224 : (1 : Int) ≤ Rtok_10 ∧ Rtok_10 ≤ 11 := by
              first | assumption | omega | grind
            have hv_225 : (0 : Int) ≤ Rts_11 ∧ Rts_11 ≤ 400 := by
              first | assumption | omega | grind
            have hv_226 : (0 : Int) ≤ Rte_12 ∧ Rte_12 ≤ 400 := by
              first | assumption | omega | grind
            have hv_227 : (0 : Int) ≤ Rval_13 ∧ Rval_13 ≤ 999 := by
              first | assumption | omega | grind
            have hv_228 : (0 : Int) = (twoQ Rtape Rlen Gn q).1 := by
              unfold twoQ; first | rw [if_neg (by omega)] | (rw [if_pos (by omega)]; assumption)
            have hv_229 : qR (twoQ Rtape Rlen Gn q).2 Rfn_8 Rfp_9 Rtok_10 Rts_11 Rte_12 Rval_13 := by
              unfold twoQ; first | (rw [if_neg (by omega)]; assumption) | (rw [if_pos (by omega)]; assumption)
            have hv_230 : Rte_12 ≤ Rlen := by
              first | assumption | omega | grind
            have hv_231 : 0 ≤ (0 : Int) ∧ (0 : Int) ≤ 12 := by
              first | assumption | omega | grind
            exact hj_24 (0, Rfn_8, Rfp_9, Rtok_10, Rts_11, Rte_12, Rval_13) _ _ _ ⟨hv_222, hv_223, hv_224, hv_225, hv_226, hv_227, hv_228, hv_229, hv_230, hv_231, hw, lv_sub hl [1, 2, 3, 0] rfl⟩
          · skip
            have hv_232 : w_2 = 1 ∨ w_2 = 2 := by
              first | assumption | omega | grind
            exact hj_187 () _ _ _ ⟨hv_232, hw, lv_sub hl [1, 2, 3, 0] rfl⟩
      refine lv_aload_n hx hb dX4_readBar_51 rfl (lv_at hl 0 rfl) ?_
      have hpre_233 : qR q Rfn Rfp Rtok Rts Rte Rval := by
        first | assumption | omega
      have hpre_234 : Rte ≤ Rlen := by
        first | assumption | omega
      have hF9 := z_free (wc := kR cI cB cZ oR (oG 0) Rtape Rlen Rfn Rfp Rtok Rts Rte Rval) hw hA [6, 7] rfl
      refine va_callv (va_runV (As := []) (rest := []) ⟨hx, hb, hml, hown, hts⟩ (c_X4_goOn l D cI cB cZ aK aV oR (oG 0) H.size Rtape Rlen Rfn Rfp Rtok Rts Rte Rval q qRtape (by omega) (by omega) (by omega) (by omega) (by omega) (by omega) (by omega) hpre_233 hpre_234) (cwV 0 hts gX4_readBar_X4_goOn rfl rfl rfl (by decide +kernel) ⟨Nat.le_of_ble_eq_true rfl, Nat.le_of_ble_eq_true rfl⟩) ⟨zPreX_blind, va_recv hK hw.1 (ci := 4) (q0 := 6) rfl rfl, z_preX hK hw [6, 7] (by decide) rfl hZX hF9⟩ rfl rfl hl.1 rfl (lv_room (Nat.le_of_ble_eq_true rfl)) dX4_readBar_52 ⟨Nat.zero_le _, Nat.zero_le _⟩) hw.2.2 (fun q _ h => hF9 q h) hF9 (fun u9 t9 H_235 locs9 ht9 hvm9 hq9 hB9 hz9 hk9 hS9 => ?_)
      obtain ⟨Rtok_236, Rts_237, Rte_238, Rval_239⟩ := u9
      try dsimp only at hq9 hB9
      obtain ⟨hq_240, hq_241, hq_242, hq_243, hq_244, hq_245⟩ := hq9
      have hw : HW D A s.heap (kG cI cB cZ oG Gn Gki Gle Glo Gta Gsh ++ kR cI cB cZ oR (oG 0) Rtape Rlen Rfn Rfp Rtok_236 Rts_237 Rte_238 Rval_239 ++ kB cI cB cZ oB (oG 0) Bcnt Bwo Bon Btw Bnu) H_235 locs9 := z_after (wc := kR cI cB cZ oR (oG 0) Rtape Rlen Rfn Rfp Rtok Rts Rte Rval) hw [6, 7] [0, 1, 2, 3, 4, 5, 8, 9, 10, 11, 12] rfl rfl (by decide) (by decide) hF9 hk9 ht9 hB9 hS9 [0, 1, 2, 3, 4, 5, 11, 12, 6, 7, 8, 9, 10] (by decide) rfl
      clear hF9 ht9 hvm9 hB9 hz9 hk9 hS9
      refine lv_iload_n hx hb dX4_readBar_55 rfl (lv_at hl 2 rfl) ?_
      refine z_iconst hx hb dX4_readBar_56 ?_
      refine z_icmp_ne (tgt := 64) hx hb dX4_readBar_57 (by decide) (by omega) (fun hc_246 => ?_) (fun hc_246 => ?_)
      · skip
        refine lv_aload_n hx hb dX4_readBar_64 rfl (lv_at hl 0 rfl) ?_
        have hpre_247 : qR (goF Rtape Rlen q) Rfn Rfp Rtok_236 Rts_237 Rte_238 Rval_239 := by
          first | assumption | omega
        have hpre_248 : Rte_238 ≤ Rlen := by
          first | assumption | omega
        have hF9 := z_free (wc := kG cI cB cZ oG Gn Gki Gle Glo Gta Gsh ++ kR cI cB cZ oR (oG 0) Rtape Rlen Rfn Rfp Rtok_236 Rts_237 Rte_238 Rval_239) hw hA [0, 1, 2, 3, 4, 5, 6, 7] rfl
        refine va_calli (va_runV (As := []) (rest := []) ⟨hx, hb, hml, hown, hts⟩ (c_X4_readThing l D cI cB cZ aK aV oG oR H_235.size Gn Gki Gle Glo Gta Gsh Rtape Rlen Rfn Rfp Rtok_236 Rts_237 Rte_238 Rval_239 (goF Rtape Rlen q) (by omega) qGki qGle qGlo qGta qGsh qRtape (by omega) (by omega) (by omega) (by omega) (by omega) (by omega) (by omega) hpre_247 hpre_248) (cwV 0 hts gX4_readBar_X4_readThing rfl rfl rfl (by decide +kernel) ⟨Nat.le_of_ble_eq_true rfl, Nat.le_of_ble_eq_true rfl⟩) ⟨zPreX_blind, va_recv hK hw.1 (ci := 4) (q0 := 6) rfl rfl, z_preX hK hw [0, 1, 2, 3, 4, 5, 6, 7] (by decide) rfl hZX hF9⟩ rfl rfl hl.1 rfl (lv_room (Nat.le_of_ble_eq_true rfl)) dX4_readBar_65 ⟨Nat.zero_le _, Nat.zero_le _⟩) hw.2.2 (fun q _ h => hF9 q h) hF9 (fun r9 u9 t9 H_249 locs9 ht9 hvm9 hq9 hB9 hz9 hk9 hS9 => ?_)
        obtain ⟨r_250, Rfn_251, Rfp_252, Rtok_253, Rts_254, Rte_255, Rval_256⟩ := u9
        try dsimp only at hq9 hB9
        obtain ⟨rfl, hq9⟩ := hq9
        obtain ⟨hq_257, hq_258, hq_259, hq_260, hq_261, hq_262, hq_263, hq_264, hq_265, hq_266⟩ := hq9
        have hw : HW D A s.heap (kG cI cB cZ oG Gn Gki Gle Glo Gta Gsh ++ kR cI cB cZ oR (oG 0) Rtape Rlen Rfn_251 Rfp_252 Rtok_253 Rts_254 Rte_255 Rval_256 ++ kB cI cB cZ oB (oG 0) Bcnt Bwo Bon Btw Bnu) H_249 locs9 := z_after (wc := kG cI cB cZ oG Gn Gki Gle Glo Gta Gsh ++ kR cI cB cZ oR (oG 0) Rtape Rlen Rfn Rfp Rtok_236 Rts_237 Rte_238 Rval_239) hw [0, 1, 2, 3, 4, 5, 6, 7] [8, 9, 10, 11, 12] rfl rfl (by decide) (by decide) hF9 hk9 ht9 hB9 hS9 [5, 6, 7, 8, 9, 10, 11, 12, 0, 1, 2, 3, 4] (by decide) rfl
        clear hF9 ht9 hvm9 hB9 hz9 hk9 hS9
        have hv_267 : (0 : Int) ≤ Rfn_251 ∧ Rfn_251 ≤ 3 := by
          first | assumption | omega | grind
        have hv_268 : (-1 : Int) ≤ Rfp_252 ∧ Rfp_252 ≤ 400 := by
          first | assumption | omega | grind
        have hv_269 : (1 : Int) ≤ Rtok_253 ∧ Rtok_253 ≤ 11 := by
          first | assumption | omega | grind
        have hv_270 : (0 : Int) ≤ Rts_254 ∧ Rts_254 ≤ 400 := by
          first | assumption | omega | grind
        have hv_271 : (0 : Int) ≤ Rte_255 ∧ Rte_255 ≤ 400 := by
          first | assumption | omega | grind
        have hv_272 : (0 : Int) ≤ Rval_256 ∧ Rval_256 ≤ 999 := by
          first | assumption | omega | grind
        have hv_273 : r_250 = (oneQ Rtape Rlen Gn q).1 := by
          unfold oneQ; first | rw [if_pos (by omega)] | (rw [if_neg (by omega)]; assumption)
        have hv_274 : qR (oneQ Rtape Rlen Gn q).2 Rfn_251 Rfp_252 Rtok_253 Rts_254 Rte_255 Rval_256 := by
          unfold oneQ; first | (rw [if_pos (by omega)]; assumption) | (rw [if_neg (by omega)]; assumption)
        have hv_275 : Rte_255 ≤ Rlen := by
          first | assumption | omega | grind
        have hv_276 : 0 ≤ r_250 ∧ r_250 ≤ 12 := by
          first | assumption | omega | grind
        exact hj_6 (r_250, Rfn_251, Rfp_252, Rtok_253, Rts_254, Rte_255, Rval_256) _ _ _ ⟨hv_267, hv_268, hv_269, hv_270, hv_271, hv_272, hv_273, hv_274, hv_275, hv_276, hw, lv_sub hl [0, 1, 2] rfl⟩
      · skip
        refine z_iconst hx hb dX4_readBar_60 ?_
        refine lv_goto (tgt := 68) hx hb dX4_readBar_61 (by decide) ?_
        have hv_277 : (0 : Int) ≤ Rfn ∧ Rfn ≤ 3 := by
          first | assumption | omega | grind
        have hv_278 : (-1 : Int) ≤ Rfp ∧ Rfp ≤ 400 := by
          first | assumption | omega | grind
        have hv_279 : (1 : Int) ≤ Rtok_236 ∧ Rtok_236 ≤ 11 := by
          first | assumption | omega | grind
        have hv_280 : (0 : Int) ≤ Rts_237 ∧ Rts_237 ≤ 400 := by
          first | assumption | omega | grind
        have hv_281 : (0 : Int) ≤ Rte_238 ∧ Rte_238 ≤ 400 := by
          first | assumption | omega | grind
        have hv_282 : (0 : Int) ≤ Rval_239 ∧ Rval_239 ≤ 999 := by
          first | assumption | omega | grind
        have hv_283 : (0 : Int) = (oneQ Rtape Rlen Gn q).1 := by
          unfold oneQ; first | rw [if_pos (by omega)] | (rw [if_neg (by omega)]; assumption)
        have hv_284 : qR (oneQ Rtape Rlen Gn q).2 Rfn Rfp Rtok_236 Rts_237 Rte_238 Rval_239 := by
          unfold oneQ; first | (rw [if_pos (by omega)]; assumption) | (rw [if_neg (by omega)]; assumption)
        have hv_285 : Rte_238 ≤ Rlen := by
          first | assumption | omega | grind
        have hv_286 : 0 ≤ (0 : Int) ∧ (0 : Int) ≤ 12 := by
          first | assumption | omega | grind
        exact hj_6 (0, Rfn, Rfp, Rtok_236, Rts_237, Rte_238, Rval_239) _ _ _ ⟨hv_277, hv_278, hv_279, hv_280, hv_281, hv_282, hv_283, hv_284, hv_285, hv_286, hw, lv_sub hl [0, 1, 2] rfl⟩
    · skip
      refine lv_aload_n hx hb dX4_readBar_45 rfl (lv_at hl 0 rfl) ?_
      refine z_iconst hx hb dX4_readBar_46 ?_
      have hF9 := z_free (wc := kR cI cB cZ oR (oG 0) Rtape Rlen Rfn Rfp Rtok Rts Rte Rval) hw hA [6, 7] rfl
      refine va_callv (va_runV (As := [.int (zI 3)]) (rest := []) ⟨hx, hb, hml, hown, hts⟩ (c_X4_refuse l D cI cB cZ oR (oG 0) H.size Rtape Rlen Rfn Rfp Rtok Rts Rte Rval 3 qRtape (by omega) (by omega) (by omega) (by omega) (by omega) (by omega) (by omega) (by omega)) (cwV 1 hts gX4_readBar_X4_refuse rfl rfl rfl (by decide +kernel) ⟨Nat.le_of_ble_eq_true rfl, Nat.le_of_ble_eq_true rfl⟩) ⟨zPre_blind, va_recv hK hw.1 (ci := 4) (q0 := 6) rfl rfl, z_pre hK hw [6, 7] (by decide) rfl⟩ rfl rfl hl.1 rfl (lv_room (Nat.le_of_ble_eq_true rfl)) dX4_readBar_47 ⟨Nat.zero_le _, Nat.zero_le _⟩) hw.2.2 (fun q _ h => hF9 q h) hF9 (fun u9 t9 H_287 locs9 ht9 hvm9 hq9 hB9 hz9 hk9 hS9 => ?_)
      obtain ⟨Rfn_288, Rfp_289⟩ := u9
      try dsimp only at hq9 hB9
      obtain ⟨hq_290, hq_291, hq_292, hq_293⟩ := hq9
      have hw : HW D A s.heap (kG cI cB cZ oG Gn Gki Gle Glo Gta Gsh ++ kR cI cB cZ oR (oG 0) Rtape Rlen Rfn_288 Rfp_289 Rtok Rts Rte Rval ++ kB cI cB cZ oB (oG 0) Bcnt Bwo Bon Btw Bnu) H_287 locs9 := z_after (wc := kR cI cB cZ oR (oG 0) Rtape Rlen Rfn Rfp Rtok Rts Rte Rval) hw [6, 7] [0, 1, 2, 3, 4, 5, 8, 9, 10, 11, 12] rfl rfl (by decide) (by decide) hF9 hk9 ht9 hB9 hS9 [0, 1, 2, 3, 4, 5, 11, 12, 6, 7, 8, 9, 10] (by decide) rfl
      clear hF9 ht9 hvm9 hB9 hz9 hk9 hS9
      have hv_294 : (0 : Int) ≤ Rfn_288 ∧ Rfn_288 ≤ 3 := by
        first | assumption | omega | grind
      have hv_295 : (-1 : Int) ≤ Rfp_289 ∧ Rfp_289 ≤ 400 := by
        first | assumption | omega | grind
      have hv_296 : (1 : Int) ≤ Rtok ∧ Rtok ≤ 11 := by
        first | assumption | omega | grind
      have hv_297 : (0 : Int) ≤ Rts ∧ Rts ≤ 400 := by
        first | assumption | omega | grind
      have hv_298 : (0 : Int) ≤ Rte ∧ Rte ≤ 400 := by
        first | assumption | omega | grind
      have hv_299 : (0 : Int) ≤ Rval ∧ Rval ≤ 999 := by
        first | assumption | omega | grind
      have hv_300 : (0 : Int) ≤ Bcnt ∧ Bcnt ≤ 10 := by
        first | assumption | omega | grind
      have hv_301 : qR (barQ Rtape Rlen Gn Bcnt q) Rfn_288 Rfp_289 Rtok Rts Rte Rval := by
        unfold barQ; rw [if_neg (by omega), if_pos (by omega)]; subst_vars; exact ref_q hp0
      have hv_302 : Rte ≤ Rlen := by
        first | assumption | omega | grind
      have hv_303 : (Bcnt, Bwo, Bon, Btw, Bnu) = barB Rtape Rlen Gn q (Bcnt, Bwo, Bon, Btw, Bnu) := by
        unfold barB; rw [if_neg (fun z => by have z2 := z.2.1; dsimp only at z2; omega)]
      exact W.vret hx hb hr (fun t9 ht hW => ⟨⟨(Rfn_288, Rfp_289, Rtok, Rts, Rte, Rval, Bcnt, Bwo, Bon, Btw, Bnu), rfl, ⟨hv_294, hv_295, hv_296, hv_297, hv_298, hv_299, hv_300, qBwo, qBon, qBtw, qBnu, hv_301, hv_302, hv_303⟩, by subst hAe; exact z_end hK hw ht hW⟩, by subst hAe; exact hw.2.2.F ht⟩) (by subst hAe; exact hw.2.2.2.2) dX4_readBar_50
  refine lv_aload_n hx hb dX4_readBar_0 rfl (lv_at hl 0 rfl) ?_
  refine va_get (D := D) (ci := 4) (v := .int (zI Rtok)) (C := RX4) (T := TX4) (N := 9) hx hb hts hinX4 hown hK hw.1 6 rfl rfl 5 (by decide) (hts (.fieldLink RX4 25 "CarnivalRoad$Reader" "token" "I") (by decide +kernel)) (fun _ h9 => h9) rfl dX4_readBar_1 ?_
  refine lv_istore_n (lv' := [(2, .int (zI Rtok)), (0, .ref (oR 0)), (1, .ref (oB 0))]) hx hb dX4_readBar_4 rfl hl (by decide) rfl (fun ls hl => ?_)
  refine lv_iload_n hx hb dX4_readBar_5 rfl (lv_at hl 0 rfl) ?_
  refine z_iconst hx hb dX4_readBar_6 ?_
  refine z_icmp_eq (tgt := 36) hx hb dX4_readBar_7 (by decide) (by omega) (fun hc_304 => ?_) (fun hc_304 => ?_)
  · skip
    have hv_305 : Rtok = Rtok := by
      first | assumption | omega | grind
    have hv_306 : 1 ≤ Rtok ∧ Rtok ≤ 5 := by
      first | assumption | omega | grind
    exact hj_1 Rtok _ _ _ ⟨hv_305, hv_306, hw, lv_sub hl [1, 2, 0] rfl⟩
  · skip
    refine lv_iload_n hx hb dX4_readBar_10 rfl (lv_at hl 0 rfl) ?_
    refine z_iconst hx hb dX4_readBar_11 ?_
    refine z_icmp_eq (tgt := 36) hx hb dX4_readBar_12 (by decide) (by omega) (fun hc_307 => ?_) (fun hc_307 => ?_)
    · skip
      have hv_308 : Rtok = Rtok := by
        first | assumption | omega | grind
      have hv_309 : 1 ≤ Rtok ∧ Rtok ≤ 5 := by
        first | assumption | omega | grind
      exact hj_1 Rtok _ _ _ ⟨hv_308, hv_309, hw, lv_sub hl [1, 2, 0] rfl⟩
    · skip
      refine lv_iload_n hx hb dX4_readBar_15 rfl (lv_at hl 0 rfl) ?_
      refine z_iconst hx hb dX4_readBar_16 ?_
      refine z_icmp_eq (tgt := 36) hx hb dX4_readBar_17 (by decide) (by omega) (fun hc_310 => ?_) (fun hc_310 => ?_)
      · skip
        have hv_311 : Rtok = Rtok := by
          first | assumption | omega | grind
        have hv_312 : 1 ≤ Rtok ∧ Rtok ≤ 5 := by
          first | assumption | omega | grind
        exact hj_1 Rtok _ _ _ ⟨hv_311, hv_312, hw, lv_sub hl [1, 2, 0] rfl⟩
      · skip
        refine lv_iload_n hx hb dX4_readBar_20 rfl (lv_at hl 0 rfl) ?_
        refine z_iconst hx hb dX4_readBar_21 ?_
        refine z_icmp_eq (tgt := 36) hx hb dX4_readBar_22 (by decide) (by omega) (fun hc_313 => ?_) (fun hc_313 => ?_)
        · skip
          have hv_314 : Rtok = Rtok := by
            first | assumption | omega | grind
          have hv_315 : 1 ≤ Rtok ∧ Rtok ≤ 5 := by
            first | assumption | omega | grind
          exact hj_1 Rtok _ _ _ ⟨hv_314, hv_315, hw, lv_sub hl [1, 2, 0] rfl⟩
        · skip
          refine lv_iload_n hx hb dX4_readBar_25 rfl (lv_at hl 0 rfl) ?_
          refine z_iconst hx hb dX4_readBar_26 ?_
          refine z_icmp_eq (tgt := 36) hx hb dX4_readBar_27 (by decide) (by omega) (fun hc_316 => ?_) (fun hc_316 => ?_)
          · skip
            have hv_317 : Rtok = Rtok := by
              first | assumption | omega | grind
            have hv_318 : 1 ≤ Rtok ∧ Rtok ≤ 5 := by
              first | assumption | omega | grind
            exact hj_1 Rtok _ _ _ ⟨hv_317, hv_318, hw, lv_sub hl [1, 2, 0] rfl⟩
          · skip
            refine lv_aload_n hx hb dX4_readBar_30 rfl (lv_at hl 1 rfl) ?_
            refine z_iconst hx hb dX4_readBar_31 ?_
            have hF9 := z_free (wc := kR cI cB cZ oR (oG 0) Rtape Rlen Rfn Rfp Rtok Rts Rte Rval) hw hA [6, 7] rfl
            refine va_callv (va_runV (As := [.int (zI 1)]) (rest := []) ⟨hx, hb, hml, hown, hts⟩ (c_X4_refuse l D cI cB cZ oR (oG 0) s.heap.size Rtape Rlen Rfn Rfp Rtok Rts Rte Rval 1 qRtape (by omega) (by omega) (by omega) (by omega) (by omega) (by omega) (by omega) (by omega)) (cwV 1 hts gX4_readBar_X4_refuse rfl rfl rfl (by decide +kernel) ⟨Nat.le_of_ble_eq_true rfl, Nat.le_of_ble_eq_true rfl⟩) ⟨zPre_blind, va_recv hK hw.1 (ci := 4) (q0 := 6) rfl rfl, z_pre hK hw [6, 7] (by decide) rfl⟩ rfl rfl hl.1 rfl (lv_room (Nat.le_of_ble_eq_true rfl)) dX4_readBar_32 ⟨Nat.zero_le _, Nat.zero_le _⟩) hw.2.2 (fun q _ h => hF9 q h) hF9 (fun u9 t9 H_319 locs9 ht9 hvm9 hq9 hB9 hz9 hk9 hS9 => ?_)
            obtain ⟨Rfn_320, Rfp_321⟩ := u9
            try dsimp only at hq9 hB9
            obtain ⟨hq_322, hq_323, hq_324, hq_325⟩ := hq9
            have hw : HW D A s.heap (kG cI cB cZ oG Gn Gki Gle Glo Gta Gsh ++ kR cI cB cZ oR (oG 0) Rtape Rlen Rfn_320 Rfp_321 Rtok Rts Rte Rval ++ kB cI cB cZ oB (oG 0) Bcnt Bwo Bon Btw Bnu) H_319 locs9 := z_after (wc := kR cI cB cZ oR (oG 0) Rtape Rlen Rfn Rfp Rtok Rts Rte Rval) hw [6, 7] [0, 1, 2, 3, 4, 5, 8, 9, 10, 11, 12] rfl rfl (by decide) (by decide) hF9 hk9 ht9 hB9 hS9 [0, 1, 2, 3, 4, 5, 11, 12, 6, 7, 8, 9, 10] (by decide) rfl
            clear hF9 ht9 hvm9 hB9 hz9 hk9 hS9
            have hv_326 : (0 : Int) ≤ Rfn_320 ∧ Rfn_320 ≤ 3 := by
              first | assumption | omega | grind
            have hv_327 : (-1 : Int) ≤ Rfp_321 ∧ Rfp_321 ≤ 400 := by
              first | assumption | omega | grind
            have hv_328 : (1 : Int) ≤ Rtok ∧ Rtok ≤ 11 := by
              first | assumption | omega | grind
            have hv_329 : (0 : Int) ≤ Rts ∧ Rts ≤ 400 := by
              first | assumption | omega | grind
            have hv_330 : (0 : Int) ≤ Rte ∧ Rte ≤ 400 := by
              first | assumption | omega | grind
            have hv_331 : (0 : Int) ≤ Rval ∧ Rval ≤ 999 := by
              first | assumption | omega | grind
            have hv_332 : (0 : Int) ≤ Bcnt ∧ Bcnt ≤ 10 := by
              first | assumption | omega | grind
            have hv_333 : qR (barQ Rtape Rlen Gn Bcnt q) Rfn_320 Rfp_321 Rtok Rts Rte Rval := by
              unfold barQ; rw [if_pos (by omega)]; subst_vars; exact ref_q hp0
            have hv_334 : Rte ≤ Rlen := by
              first | assumption | omega | grind
            have hv_335 : (Bcnt, Bwo, Bon, Btw, Bnu) = barB Rtape Rlen Gn q (Bcnt, Bwo, Bon, Btw, Bnu) := by
              unfold barB; rw [if_neg (by omega)]
            exact W.vret hx hb hr (fun t9 ht hW => ⟨⟨(Rfn_320, Rfp_321, Rtok, Rts, Rte, Rval, Bcnt, Bwo, Bon, Btw, Bnu), rfl, ⟨hv_326, hv_327, hv_328, hv_329, hv_330, hv_331, hv_332, qBwo, qBon, qBtw, qBnu, hv_333, hv_334, hv_335⟩, by subst hAe; exact z_end hK hw ht hW⟩, by subst hAe; exact hw.2.2.F ht⟩) (by subst hAe; exact hw.2.2.2.2) dX4_readBar_35
set_option maxRecDepth 100000 in
set_option maxHeartbeats 4000000 in
theorem c_X4_start (l : Launch) (D : va_G) (cI cB cZ : ClassId) (aK aV : Nat → Nat) (oR : Nat → Nat) (aRguests : Nat) (sz : Nat) (Rtape : Int → Int) (Rlen : Int) (Rfn : Int) (Rfp : Int) (Rtok : Int) (Rts : Int) (Rte : Int) (Rval : Int) (qRtape : RA Rtape (-128) 127) (qRlen : 0 ≤ Rlen ∧ Rlen ≤ 400) (qRfn : 0 ≤ Rfn ∧ Rfn ≤ 3) (qRfp : -1 ≤ Rfp ∧ Rfp ≤ 400) (qRtok : 1 ≤ Rtok ∧ Rtok ≤ 11) (qRts : 0 ≤ Rts ∧ Rts ≤ 400) (qRte : 0 ≤ Rte ∧ Rte ≤ 400) (qRval : 0 ≤ Rval ∧ Rval ≤ 999) : Met l yX4_start wsX4_start ({ frames := 7, cells := 0, slots := 0, locals := 151 }) (va_Pc [.ref (oR 0)] (zPreX aK aV D cI cB cZ sz (kR cI cB cZ oR aRguests Rtape Rlen Rfn Rfp Rtok Rts Rte Rval))) (va_Qv (fun (u9 : Int × Int × Int × Int × Int × Int) => ((0 : Int) ≤ u9.1 ∧ u9.1 ≤ 3) ∧ ((-1 : Int) ≤ u9.2.1 ∧ u9.2.1 ≤ 400) ∧ ((1 : Int) ≤ u9.2.2.1 ∧ u9.2.2.1 ≤ 11) ∧ ((0 : Int) ≤ u9.2.2.2.1 ∧ u9.2.2.2.1 ≤ 400) ∧ ((0 : Int) ≤ u9.2.2.2.2.1 ∧ u9.2.2.2.2.1 ≤ 400) ∧ ((0 : Int) ≤ u9.2.2.2.2.2 ∧ u9.2.2.2.2.2 ≤ 999) ∧ (qR (goF Rtape Rlen (0, -1, 0, 0, 0, 0)) u9.1 u9.2.1 u9.2.2.1 u9.2.2.2.1 u9.2.2.2.2.1 u9.2.2.2.2.2) ∧ (u9.2.2.2.2.1 ≤ Rlen)) (fun u9 t9 => zAt D cI cB cZ (va_A (kR cI cB cZ oR aRguests Rtape Rlen Rfn Rfp Rtok Rts Rte Rval) sz) (kR cI cB cZ oR aRguests Rtape Rlen (u9.1) (u9.2.1) (u9.2.2.1) (u9.2.2.2.1) (u9.2.2.2.2.1) (u9.2.2.2.2.2)) t9) (va_A (kR cI cB cZ oR aRguests Rtape Rlen Rfn Rfp Rtok Rts Rte Rval) sz)) 0 0 (va_A (kR cI cB cZ oR aRguests Rtape Rlen Rfn Rfp Rtok Rts Rte Rval) sz) := by
  refine Met.ofW (cc := cX4_start) (maxL := 1) (ret := none) (by decide) rfl ?_
  intro pp ee s mm aa bw mt cd s₁ BL hml hv
  obtain ⟨rfl, ⟨hsz, hP, hK, hD0⟩, hZX⟩ := hv
  have hx := BL.exec
  have hb := BL.bytes
  have hr := BL.returns
  have hts := atoms_spec (ws := wsX4_start) BL.pre
  have hown : s.vm.findClass RX4 = some mm.cls := findClass_of_methodNamed BL.named
  have hlocks := BL.notSynchronized
  subst hsz
  generalize hAe : va_A (kR cI cB cZ oR aRguests Rtape Rlen Rfn Rfp Rtok Rts Rte Rval) s.heap.size = A at hZX ⊢
  have hA : ∀ q : Nat, s.heap.size ≤ q → A q := fun q h => by rw [← hAe]; exact Or.inr h
  have hw : HW D A s.heap (kR cI cB cZ oR aRguests Rtape Rlen Rfn Rfp Rtok Rts Rte Rval) s.heap [] := z_start hAe hP hD0
  clear hP hD0
  have hl := lv_entry ([.ref (oR 0)]) (n := 1) (Nat.le_of_ble_eq_true rfl)
  rw [lg_entry_eq]
  generalize (lg_sl ([.ref (oR 0)]) ++ List.replicate (1 - (lg_sl ([.ref (oR 0)])).length) Slot.unset).toArray = ls at hl ⊢
  have hl : lv_has ls 1 [(0, .ref (oR 0))] := hl
  have hinX4 : ∀ w ∈ wsX40, w ∈ wsX4_start := by decide +kernel
  refine lv_aload_n hx hb dX4_start_0 rfl (lv_at hl 0 rfl) ?_
  refine z_iconst hx hb dX4_start_1 ?_
  refine z_put (D := D) (ci := 4) (v := .int (zI 0)) (ty := .int) (C := RX4) (T := TX4) (N := 9) (ws2 := kR cI cB cZ oR aRguests Rtape Rlen 0 Rfp Rtok Rts Rte Rval) hx hb hts hinX4 tyX4 tyX4_ok nmX4 hown hK hw 0 rfl rfl 3 (by decide) (hts (.fieldLink RX4 19 "CarnivalRoad$Reader" "faultNumber" "I") (by decide +kernel)) (fun _ h9 => h9) rfl (by decide +kernel) rfl rfl (Nat.le_of_ble_eq_true rfl) dX4_start_2 rfl (fun H locs hw => ?_)
  refine lv_aload_n hx hb dX4_start_5 rfl (lv_at hl 0 rfl) ?_
  refine z_iconst hx hb dX4_start_6 ?_
  refine z_put (D := D) (ci := 4) (v := .int (zI (-1))) (ty := .int) (C := RX4) (T := TX4) (N := 9) (ws2 := kR cI cB cZ oR aRguests Rtape Rlen 0 (-1) Rtok Rts Rte Rval) hx hb hts hinX4 tyX4 tyX4_ok nmX4 hown hK hw 0 rfl rfl 4 (by decide) (hts (.fieldLink RX4 22 "CarnivalRoad$Reader" "faultPlace" "I") (by decide +kernel)) (fun _ h9 => h9) rfl (by decide +kernel) rfl rfl (Nat.le_of_ble_eq_true rfl) dX4_start_7 rfl (fun H locs hw => ?_)
  refine lv_aload_n hx hb dX4_start_10 rfl (lv_at hl 0 rfl) ?_
  refine z_iconst hx hb dX4_start_11 ?_
  refine z_put (D := D) (ci := 4) (v := .int (zI 0)) (ty := .int) (C := RX4) (T := TX4) (N := 9) (ws2 := kR cI cB cZ oR aRguests Rtape Rlen 0 (-1) Rtok Rts 0 Rval) hx hb hts hinX4 tyX4 tyX4_ok nmX4 hown hK hw 0 rfl rfl 7 (by decide) (hts (.fieldLink RX4 31 "CarnivalRoad$Reader" "tokenEnd" "I") (by decide +kernel)) (fun _ h9 => h9) rfl (by decide +kernel) rfl rfl (Nat.le_of_ble_eq_true rfl) dX4_start_12 rfl (fun H locs hw => ?_)
  refine lv_aload_n hx hb dX4_start_15 rfl (lv_at hl 0 rfl) ?_
  have hpre_1 : qR (0, -1, Rtok, Rts, 0, Rval) (0 : Int) ((-1) : Int) Rtok Rts (0 : Int) Rval := by
    exact ⟨rfl, rfl, rfl, rfl, rfl, fun _ => rfl⟩
  have hpre_2 : (0 : Int) ≤ Rlen := by
    first | assumption | omega | grind
  have hF9 := z_free (wc := kR cI cB cZ oR aRguests Rtape Rlen 0 (-1) Rtok Rts 0 Rval) hw hA [0, 1] rfl
  refine va_callv (va_runV (As := []) (rest := []) ⟨hx, hb, hml, hown, hts⟩ (c_X4_goOn l D cI cB cZ aK aV oR aRguests H.size Rtape Rlen 0 (-1) Rtok Rts 0 Rval (0, -1, Rtok, Rts, 0, Rval) qRtape (by omega) (by omega) (by omega) (by omega) (by omega) (by omega) (by omega) hpre_1 hpre_2) (cwV 0 hts gX4_start_X4_goOn rfl rfl rfl (by decide +kernel) ⟨Nat.le_of_ble_eq_true rfl, Nat.le_of_ble_eq_true rfl⟩) ⟨zPreX_blind, va_recv hK hw.1 (ci := 4) (q0 := 0) rfl rfl, z_preX hK hw [0, 1] (by decide) rfl hZX hF9⟩ rfl rfl hl.1 rfl (lv_room (Nat.le_of_ble_eq_true rfl)) dX4_start_16 ⟨Nat.zero_le _, Nat.zero_le _⟩) hw.2.2 (fun q _ h => hF9 q h) hF9 (fun u9 t9 H_3 locs9 ht9 hvm9 hq9 hB9 hz9 hk9 hS9 => ?_)
  obtain ⟨Rtok_4, Rts_5, Rte_6, Rval_7⟩ := u9
  try dsimp only at hq9 hB9
  obtain ⟨hq_8, hq_9, hq_10, hq_11, hq_12, hq_13⟩ := hq9
  have hw : HW D A s.heap (kR cI cB cZ oR aRguests Rtape Rlen 0 (-1) Rtok_4 Rts_5 Rte_6 Rval_7) H_3 locs9 := z_after (wc := kR cI cB cZ oR aRguests Rtape Rlen 0 (-1) Rtok Rts 0 Rval) hw [0, 1] [] rfl rfl (by decide) (by decide) hF9 hk9 ht9 hB9 hS9 [0, 1] (by decide) rfl
  clear hF9 ht9 hvm9 hB9 hz9 hk9 hS9
  have hv_14 : (0 : Int) ≤ (0 : Int) ∧ (0 : Int) ≤ 3 := by
    first | assumption | omega | grind
  have hv_15 : (-1 : Int) ≤ ((-1) : Int) ∧ ((-1) : Int) ≤ 400 := by
    first | assumption | omega | grind
  have hv_16 : (1 : Int) ≤ Rtok_4 ∧ Rtok_4 ≤ 11 := by
    first | assumption | omega | grind
  have hv_17 : (0 : Int) ≤ Rts_5 ∧ Rts_5 ≤ 400 := by
    first | assumption | omega | grind
  have hv_18 : (0 : Int) ≤ Rte_6 ∧ Rte_6 ≤ 400 := by
    first | assumption | omega | grind
  have hv_19 : (0 : Int) ≤ Rval_7 ∧ Rval_7 ≤ 999 := by
    first | assumption | omega | grind
  have hv_20 : qR (goF Rtape Rlen (0, -1, 0, 0, 0, 0)) (0 : Int) ((-1) : Int) Rtok_4 Rts_5 Rte_6 Rval_7 := by
    first | assumption | omega | grind
  have hv_21 : Rte_6 ≤ Rlen := by
    first | assumption | omega | grind
  exact W.vret hx hb hr (fun t9 ht hW => ⟨⟨(0, (-1), Rtok_4, Rts_5, Rte_6, Rval_7), rfl, ⟨hv_14, hv_15, hv_16, hv_17, hv_18, hv_19, hv_20, hv_21⟩, by subst hAe; exact z_end hK hw ht hW⟩, by subst hAe; exact hw.2.2.F ht⟩) (by subst hAe; exact hw.2.2.2.2) dX4_start_19
set_option maxRecDepth 100000 in
set_option maxHeartbeats 4000000 in
theorem c_X4_hasMore (l : Launch) (D : va_G) (cI cB cZ : ClassId) (oR : Nat → Nat) (aRguests : Nat) (sz : Nat) (Rtape : Int → Int) (Rlen : Int) (Rfn : Int) (Rfp : Int) (Rtok : Int) (Rts : Int) (Rte : Int) (Rval : Int) (qRtape : RA Rtape (-128) 127) (qRlen : 0 ≤ Rlen ∧ Rlen ≤ 400) (qRfn : 0 ≤ Rfn ∧ Rfn ≤ 3) (qRfp : -1 ≤ Rfp ∧ Rfp ≤ 400) (qRtok : 1 ≤ Rtok ∧ Rtok ≤ 11) (qRts : 0 ≤ Rts ∧ Rts ≤ 400) (qRte : 0 ≤ Rte ∧ Rte ≤ 400) (qRval : 0 ≤ Rval ∧ Rval ≤ 999) : Met l yX4_hasMore wsX4_hasMore ({ frames := 0, cells := 0, slots := 0, locals := 0 }) (va_Pc [.ref (oR 0)] (zPre D cI cB cZ sz (kR cI cB cZ oR aRguests Rtape Rlen Rfn Rfp Rtok Rts Rte Rval))) (va_Qi (fun (r9 : Int32) (u9 : Int) => r9 = zI u9 ∧ ((((¬ Rtok = 9 ∧ Rfn = 0) ∧ u9 = 1) ∨ (¬ (¬ Rtok = 9 ∧ Rfn = 0) ∧ u9 = 0)))) (fun u9 t9 => zAt D cI cB cZ (va_A (kR cI cB cZ oR aRguests Rtape Rlen Rfn Rfp Rtok Rts Rte Rval) sz) (kR cI cB cZ oR aRguests Rtape Rlen Rfn Rfp Rtok Rts Rte Rval) t9) (va_A (kR cI cB cZ oR aRguests Rtape Rlen Rfn Rfp Rtok Rts Rte Rval) sz)) 0 0 (va_A (kR cI cB cZ oR aRguests Rtape Rlen Rfn Rfp Rtok Rts Rte Rval) sz) := by
  refine Met.ofW (cc := cX4_hasMore) (maxL := 1) (ret := (some .boolean)) (by decide) rfl ?_
  intro pp ee s mm aa bw mt cd s₁ BL hml hv
  obtain ⟨rfl, hsz, hP, hK, hD0⟩ := hv
  have hx := BL.exec
  have hb := BL.bytes
  have hr := BL.returns
  have hts := atoms_spec (ws := wsX4_hasMore) BL.pre
  have hown : s.vm.findClass RX4 = some mm.cls := findClass_of_methodNamed BL.named
  have hlocks := BL.notSynchronized
  subst hsz
  generalize hAe : va_A (kR cI cB cZ oR aRguests Rtape Rlen Rfn Rfp Rtok Rts Rte Rval) s.heap.size = A
  have hA : ∀ q : Nat, s.heap.size ≤ q → A q := fun q h => by rw [← hAe]; exact Or.inr h
  have hw : HW D A s.heap (kR cI cB cZ oR aRguests Rtape Rlen Rfn Rfp Rtok Rts Rte Rval) s.heap [] := z_start hAe hP hD0
  clear hP hD0
  have hl := lv_entry ([.ref (oR 0)]) (n := 1) (Nat.le_of_ble_eq_true rfl)
  rw [lg_entry_eq]
  generalize (lg_sl ([.ref (oR 0)]) ++ List.replicate (1 - (lg_sl ([.ref (oR 0)])).length) Slot.unset).toArray = ls at hl ⊢
  have hl : lv_has ls 1 [(0, .ref (oR 0))] := hl
  have hinX4 : ∀ w ∈ wsX40, w ∈ wsX4_hasMore := by decide +kernel
  refine lv_aload_n hx hb dX4_hasMore_0 rfl (lv_at hl 0 rfl) ?_
  refine va_get (D := D) (ci := 4) (v := .int (zI Rtok)) (C := RX4) (T := TX4) (N := 9) hx hb hts hinX4 hown hK hw.1 0 rfl rfl 5 (by decide) (hts (.fieldLink RX4 25 "CarnivalRoad$Reader" "token" "I") (by decide +kernel)) (fun _ h9 => h9) rfl dX4_hasMore_1 ?_
  refine z_bipush hx hb dX4_hasMore_4 (by decide) ?_
  refine z_icmp_eq (tgt := 20) hx hb dX4_hasMore_6 (by decide) (by omega) (fun hc_1 => ?_) (fun hc_1 => ?_)
  · skip
    refine z_iconst hx hb dX4_hasMore_20 ?_
    have hv_2 : ((¬ Rtok = 9 ∧ Rfn = 0) ∧ (0 : Int) = 1) ∨ (¬ (¬ Rtok = 9 ∧ Rfn = 0) ∧ (0 : Int) = 0) := by
      first | assumption | omega | grind
    exact W.zret (v := zI 0) hx hb hr rfl (fun t9 ht hW => ⟨⟨zI 0, 0, rfl, ⟨rfl, hv_2⟩, by subst hAe; exact z_end hK hw ht hW⟩, by subst hAe; exact hw.2.2.F ht⟩) (by subst hAe; exact hw.2.2.2.2) dX4_hasMore_21
  · skip
    refine lv_aload_n hx hb dX4_hasMore_9 rfl (lv_at hl 0 rfl) ?_
    refine va_get (D := D) (ci := 4) (v := .int (zI Rfn)) (C := RX4) (T := TX4) (N := 9) hx hb hts hinX4 hown hK hw.1 0 rfl rfl 3 (by decide) (hts (.fieldLink RX4 19 "CarnivalRoad$Reader" "faultNumber" "I") (by decide +kernel)) (fun _ h9 => h9) rfl dX4_hasMore_10 ?_
    refine z_if_ne (tgt := 20) hx hb dX4_hasMore_13 (by decide) (by omega) (fun hc_3 => ?_) (fun hc_3 => ?_)
    · skip
      refine z_iconst hx hb dX4_hasMore_20 ?_
      have hv_4 : ((¬ Rtok = 9 ∧ Rfn = 0) ∧ (0 : Int) = 1) ∨ (¬ (¬ Rtok = 9 ∧ Rfn = 0) ∧ (0 : Int) = 0) := by
        first | assumption | omega | grind
      exact W.zret (v := zI 0) hx hb hr rfl (fun t9 ht hW => ⟨⟨zI 0, 0, rfl, ⟨rfl, hv_4⟩, by subst hAe; exact z_end hK hw ht hW⟩, by subst hAe; exact hw.2.2.F ht⟩) (by subst hAe; exact hw.2.2.2.2) dX4_hasMore_21
    · skip
      refine z_iconst hx hb dX4_hasMore_16 ?_
      refine lv_goto (tgt := 21) hx hb dX4_hasMore_17 (by decide) ?_
      have hv_5 : ((¬ Rtok = 9 ∧ Rfn = 0) ∧ (1 : Int) = 1) ∨ (¬ (¬ Rtok = 9 ∧ Rfn = 0) ∧ (1 : Int) = 0) := by
        first | assumption | omega | grind
      exact W.zret (v := zI 1) hx hb hr rfl (fun t9 ht hW => ⟨⟨zI 1, 1, rfl, ⟨rfl, hv_5⟩, by subst hAe; exact z_end hK hw ht hW⟩, by subst hAe; exact hw.2.2.F ht⟩) (by subst hAe; exact hw.2.2.2.2) dX4_hasMore_21
