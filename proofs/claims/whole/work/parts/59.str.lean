-- the words' texts as the machine holds them; the JDK's own methods over them
def lenJ : List Nat := [3, 5, 5, 4, 4, 4]
def bytJ : List (List Int32) := [[102, 97, 114], [97, 104, 101, 97, 100], [102, 105, 114, 115, 116], [108, 97, 115, 116], [108, 111, 117, 100], [107, 105, 110, 100]]
def litZ : List (List Int) := [[102, 97, 114], [97, 104, 101, 97, 100], [102, 105, 114, 115, 116], [108, 97, 115, 116], [108, 111, 117, 100], [107, 105, 110, 100]]
def litS : List String := ["far", "ahead", "first", "last", "loud", "kind"]
def lenI (i : Nat) : Int := ((lenJ.getD i 0 : Nat) : Int)
def bytI (i : Nat) (j : Int) : Int := (litZ.getD i []).getD j.toNat 0
/-- what lies beside every world: a static of String's, one of Preconditions', the words' texts -/
def ZX (aK aV : Nat → Nat) (A : Nat → Prop) (U : State) (H : Heap) : Prop := va_Z "java/lang/String" "COMPACT_STRINGS" "Z" (.int 1) A U H ∧ va_Zq "jdk/internal/util/Preconditions" "SIOOBE_FORMATTER" "Ljava/util/function/BiFunction;" A U H ∧ vk_S 6 lenJ bytJ aK aV A U H ∧ ∀ i, i < 6 → vk_R RX4 (103 + 2 * i) (litS.getD i "") (aK i) U
theorem ZX.go {aK aV : Nat → Nat} {A B : Nat → Prop} {u U : State} {H H1 : Heap} (h : ZX aK aV A u H) (hW : u.WarmedH U.vm) (hq : ∀ a : Nat, a < H.size → ¬ A a → H1[a]? = H[a]?) (hAB : ∀ q, B q → A q) : ZX aK aV B U H1 :=
  ⟨((h.1.kept hq).narrow hAB).moved hW.alike, ((h.2.1.kept hq).narrow hAB).moved hW.alike, ((h.2.2.1.kept hq).narrow hAB).moved hW.alike, fun i hi => (h.2.2.2 i hi).warm hW⟩
theorem ZX.same {aK aV : Nat → Nat} {A : Nat → Prop} {u U : State} {H : Heap} (h : ZX aK aV A u H) (hv : U.vm = u.vm) : ZX aK aV A U H :=
  ⟨h.1.moved (by rw [hv]; exact Vm.Alike.refl _), h.2.1.moved (by rw [hv]; exact Vm.Alike.refl _), h.2.2.1.moved (by rw [hv]; exact Vm.Alike.refl _), fun i hi => (h.2.2.2 i hi).same hv⟩
def zPreX (aK aV : Nat → Nat) (D : va_G) (cI cB cZ : ClassId) (sz : Nat) (ws : va_W) (U : State) : Prop := zPre D cI cB cZ sz ws U ∧ ZX aK aV (va_A ws sz) U U.heap
theorem zPreX_blind {aK aV : Nat → Nat} {D : va_G} {cI cB cZ : ClassId} {sz : Nat} {ws : va_W} {As : List Value} : FrameBlind (va_Pc As (zPreX aK aV D cI cB cZ sz ws)) := fun a U g mk q => by
  obtain ⟨q0, q1, q2⟩ := q
  exact ⟨q0, (zPre_blind (As := As) a U g mk ⟨q0, q1⟩).2, q2.same rfl⟩
theorem z_preX {aK aV : Nat → Nat} {s : State} {H : Heap} {locs : List Loc} {D : va_G} {A : Nat → Prop} {cI cB cZ : ClassId} {ws wc : va_W} {As : List Value} (hK : va_K D vwCl (TY cI cB cZ) s) (hw : HW D A s.heap ws H locs) (is : List Nat) (hn : va_nd is = true) (hC : is.map (fun i => ws[i]?) = wc.map some) (hZ : ZX aK aV A s s.heap) (hF : ∀ q, va_A wc H.size q → A q) : ∀ U : State, U.heap = H → s.WarmedH U.vm → va_Pc As (zPreX aK aV D cI cB cZ H.size wc) As.toArray U := fun U hU hW => ⟨rfl, (z_pre (As := As) hK hw is hn hC U hU hW).2, by rw [hU]; exact hZ.go hW hw.2.2.2.1 hF⟩
def ZB (aK aV : Nat → Nat) (U : State) : Prop := ZX aK aV (fun _ => False) U U.heap
theorem ZB_blind {aK aV : Nat → Nat} {As : List Value} : FrameBlind (va_Pc As (ZB aK aV)) := fun a U g mk q => ⟨q.1, ZX.same (U := U.calling g mk a) q.2 rfl⟩
theorem ZB_go {aK aV : Nat → Nat} {s : State} {A : Nat → Prop} {H : Heap} {locs : List Loc} {As : List Value} (h : ZX aK aV A s s.heap) (hS : va_S A s.heap H locs) : ∀ U : State, U.heap = H → s.WarmedH U.vm → va_Pc As (ZB aK aV) As.toArray U := fun U hU hW => ⟨rfl, by unfold ZB; rw [hU]; exact h.go hW hS.2.1 (fun _ q => q.elim)⟩
theorem six {P : Nat → Prop} (h : P 0 ∧ P 1 ∧ P 2 ∧ P 3 ∧ P 4 ∧ P 5) : ∀ i, i < 6 → P i := fun i hi => by
  rcases (show i = 0 ∨ i = 1 ∨ i = 2 ∨ i = 3 ∨ i = 4 ∨ i = 5 by omega) with e | e | e | e | e | e <;> subst e
  · exact h.1
  · exact h.2.1
  · exact h.2.2.1
  · exact h.2.2.2.1
  · exact h.2.2.2.2.1
  · exact h.2.2.2.2.2
theorem lenI_r : ∀ i, i < 6 → 3 ≤ lenI i ∧ lenI i ≤ 5 := six (by decide)
theorem lenI_z : ∀ i, i < 6 → Int32.ofNat (lenJ.getD i 0) = zI (lenI i) := six (by decide +kernel)
theorem lenI_s : ∀ i, i < 6 → zI (lenI i) >>> ((0 : Int32) &&& 31) = zI (lenI i) := six (by decide +kernel)
theorem bytI_e : ∀ i, i < 6 → ∀ k, k < lenJ.getD i 0 → (bytJ.getD i []).getD k 0 = zI (bytI i (k : Int)) ∧ ((zI (bytI i (k : Int)) &&& zI 255).toUInt32 % 65536).toInt32 = zI (bytI i (k : Int)) ∧ vp_nar .char (zI (bytI i (k : Int))) = zI (bytI i (k : Int)) ∧ 0 ≤ bytI i (k : Int) ∧ bytI i (k : Int) ≤ 127 := six (by decide +kernel)
theorem bytI_r {i : Nat} (hi : i < 6) {j : Int} (h0 : 0 ≤ j) (h1 : j < lenI i) : 0 ≤ bytI i j ∧ bytI i j ≤ 127 := by
  have q := (bytI_e i hi j.toNat (by unfold lenI at h1; omega)).2.2.2
  rw [show ((j.toNat : Nat) : Int) = j by omega] at q
  exact q
theorem c_nar {x : Int32} (h : vp_nar .char x = x) : narrow .char (.int x) = .int x := by
  have q : vp_nar .char x = x.toUInt32.toUInt16.toUInt32.toInt32 := vp_nar_char x
  rw [h] at q
  show Value.int x.toUInt32.toUInt16.toUInt32.toInt32 = _
  rw [← q]
set_option maxRecDepth 100000 in
set_option maxHeartbeats 4000000 in
theorem c_strCoder (l : Launch) (aK aV : Nat → Nat) {i : Nat} (hi : i < 6) : Met l yJ0_coder_7d493 wsJ0_coder_7d493 ({ frames := 0, cells := 0, slots := 0, locals := 0 }) (va_Pc [.ref (aK i)] (ZB aK aV)) (vp_Si (fun r => r = 0)) 0 0 (fun _ => False) := by
  refine Met.ofW (cc := cJ0_coder_7d493) (maxL := 1) (ret := some .byte) (by decide) rfl ?_
  intro pp ee s mm aa bw mt cd s₁ BL hml hv
  obtain ⟨rfl, hZ⟩ := hv
  have hx := BL.exec
  have hb := BL.bytes
  have hr := BL.returns
  have hts := atoms_spec (ws := wsJ0_coder_7d493) BL.pre
  have hown : s.vm.findClass RJ0 = some mm.cls := findClass_of_methodNamed BL.named
  have hlocks := BL.notSynchronized
  have hS : va_S (fun _ => False) s.heap s.heap [] := va_S.rf
  have hl := lv_entry ([.ref (aK i)]) (n := 1) (Nat.le_of_ble_eq_true rfl)
  rw [lg_entry_eq]
  generalize (lg_sl ([.ref (aK i)]) ++ List.replicate (1 - (lg_sl ([.ref (aK i)])).length) Slot.unset).toArray = ls at hl ⊢
  have hl : lv_has ls 1 [(0, .ref (aK i))] := hl
  refine va_gets hx hb hZ.1 hS hown (hts (.fieldLink RJ0 38 "java/lang/String" "COMPACT_STRINGS" "Z") (by decide +kernel)) (fun _ h9 => h9) dJ0_coder_7d493_0 ?_
  refine lv_if_eq (tgt := 13) hx hb dJ0_coder_7d493_3 (by decide) (fun h => absurd h (by decide)) (fun _ => ?_)
  refine lv_aload_n hx hb dJ0_coder_7d493_6 rfl (lv_at hl 0 rfl) ?_
  refine vk_getf hx hb (hZ.2.2.1.1 i hi).2.1 hS hown (hts (.fieldLink RJ0 15 "java/lang/String" "coder" "B") (by decide +kernel)) (fun _ h9 => h9) dJ0_coder_7d493_7 ?_
  refine lv_goto (tgt := 14) hx hb dJ0_coder_7d493_10 (by decide) ?_
  exact W.zret (v := 0) hx hb hr rfl (fun t9 ht hW => ⟨_, rfl, rfl, ht⟩) (fun _ h => absurd h List.not_mem_nil) dJ0_coder_7d493_14
set_option maxRecDepth 100000 in
set_option maxHeartbeats 4000000 in
theorem c_strLat (l : Launch) (aK aV : Nat → Nat) {i : Nat} (hi : i < 6) : Met l yJ0_isLatin1_aae02 wsJ0_isLatin1_aae02 ({ frames := 0, cells := 0, slots := 0, locals := 0 }) (va_Pc [.ref (aK i)] (ZB aK aV)) (vp_Si (fun r => r = 1)) 0 0 (fun _ => False) := by
  refine Met.ofW (cc := cJ0_isLatin1_aae02) (maxL := 1) (ret := some .boolean) (by decide) rfl ?_
  intro pp ee s mm aa bw mt cd s₁ BL hml hv
  obtain ⟨rfl, hZ⟩ := hv
  have hx := BL.exec
  have hb := BL.bytes
  have hr := BL.returns
  have hts := atoms_spec (ws := wsJ0_isLatin1_aae02) BL.pre
  have hown : s.vm.findClass RJ0 = some mm.cls := findClass_of_methodNamed BL.named
  have hlocks := BL.notSynchronized
  have hS : va_S (fun _ => False) s.heap s.heap [] := va_S.rf
  have hl := lv_entry ([.ref (aK i)]) (n := 1) (Nat.le_of_ble_eq_true rfl)
  rw [lg_entry_eq]
  generalize (lg_sl ([.ref (aK i)]) ++ List.replicate (1 - (lg_sl ([.ref (aK i)])).length) Slot.unset).toArray = ls at hl ⊢
  have hl : lv_has ls 1 [(0, .ref (aK i))] := hl
  refine va_gets hx hb hZ.1 hS hown (hts (.fieldLink RJ0 38 "java/lang/String" "COMPACT_STRINGS" "Z") (by decide +kernel)) (fun _ h9 => h9) dJ0_isLatin1_aae02_0 ?_
  refine lv_if_eq (tgt := 17) hx hb dJ0_isLatin1_aae02_3 (by decide) (fun h => absurd h (by decide)) (fun _ => ?_)
  refine lv_aload_n hx hb dJ0_isLatin1_aae02_6 rfl (lv_at hl 0 rfl) ?_
  refine vk_getf hx hb (hZ.2.2.1.1 i hi).2.1 hS hown (hts (.fieldLink RJ0 15 "java/lang/String" "coder" "B") (by decide +kernel)) (fun _ h9 => h9) dJ0_isLatin1_aae02_7 ?_
  refine lv_if_ne (tgt := 17) hx hb dJ0_isLatin1_aae02_10 (by decide) (fun h => absurd rfl h) (fun _ => ?_)
  refine lv_iconst (v := 1) hx hb dJ0_isLatin1_aae02_13 rfl ?_
  refine lv_goto (tgt := 18) hx hb dJ0_isLatin1_aae02_14 (by decide) ?_
  exact W.zret (v := 1) hx hb hr rfl (fun t9 ht hW => ⟨_, rfl, rfl, ht⟩) (fun _ h => absurd h List.not_mem_nil) dJ0_isLatin1_aae02_18
set_option maxRecDepth 100000 in
set_option maxHeartbeats 4000000 in
theorem c_strLen (l : Launch) (aK aV : Nat → Nat) {i : Nat} (hi : i < 6) : Met l yJ0_length_8abf5 wsJ0_length_8abf5 ({ frames := 1, cells := 0, slots := 0, locals := 20 }) (va_Pc [.ref (aK i)] (ZB aK aV)) (vp_Si (fun r => r = zI (lenI i))) 0 0 (fun _ => False) := by
  refine Met.ofW (cc := cJ0_length_8abf5) (maxL := 1) (ret := some .int) (by decide) rfl ?_
  intro pp ee s mm aa bw mt cd s₁ BL hml hv
  obtain ⟨rfl, hZ⟩ := hv
  have hx := BL.exec
  have hb := BL.bytes
  have hr := BL.returns
  have hts := atoms_spec (ws := wsJ0_length_8abf5) BL.pre
  have hown : s.vm.findClass RJ0 = some mm.cls := findClass_of_methodNamed BL.named
  have hlocks := BL.notSynchronized
  have hS : va_S (fun _ => False) s.heap s.heap [] := va_S.rf
  have hl := lv_entry ([.ref (aK i)]) (n := 1) (Nat.le_of_ble_eq_true rfl)
  rw [lg_entry_eq]
  generalize (lg_sl ([.ref (aK i)]) ++ List.replicate (1 - (lg_sl ([.ref (aK i)])).length) Slot.unset).toArray = ls at hl ⊢
  have hl : lv_has ls 1 [(0, .ref (aK i))] := hl
  refine lv_aload_n hx hb dJ0_length_8abf5_0 rfl (lv_at hl 0 rfl) ?_
  refine vk_getf hx hb (hZ.2.2.1.1 i hi).2.2.1 hS hown (hts (.fieldLink RJ0 9 "java/lang/String" "value" "[B") (by decide +kernel)) (fun _ h9 => h9) dJ0_length_8abf5_1 ?_
  refine va_tlen hx hb (hZ.2.2.1.1 i hi).2.2.2 hS (lenI_z i hi) dJ0_length_8abf5_4 ?_
  refine lv_aload_n hx hb dJ0_length_8abf5_5 rfl (lv_at hl 0 rfl) ?_
  refine vp_callSi (W.runV (As := []) (rest := [.int (zI (lenI i))]) ⟨hx, hb, hml, hown, hts⟩ (c_strCoder l aK aV hi) (cwV 0 hts gJ0_length_8abf5_J0_coder_7d493 rfl rfl rfl (by decide +kernel) ⟨Nat.le_of_ble_eq_true rfl, Nat.le_of_ble_eq_true rfl⟩) ⟨ZB_blind, vk_recv hZ.2.2.1 hi hS, ZB_go hZ hS⟩ rfl rfl hl.1 rfl (lv_room (Nat.le_of_ble_eq_true rfl)) dJ0_length_8abf5_6 ⟨Nat.zero_le _, Nat.zero_le _⟩) (fun r h0 => ?_)
  subst h0
  refine lv_ishr hx hb dJ0_length_8abf5_9 ?_
  rw [lenI_s i hi]
  exact W.zret (v := zI (lenI i)) hx hb hr rfl (fun t9 ht hW => ⟨_, rfl, rfl, ht⟩) (fun _ h => absurd h List.not_mem_nil) dJ0_length_8abf5_10
set_option maxRecDepth 100000 in
set_option maxHeartbeats 4000000 in
theorem c_strC3 (l : Launch) (aK aV : Nat → Nat) {a b : Int} {q : Nat} (hab : 0 ≤ a ∧ a < b ∧ b ≤ 2147483647) : Met l yJ3_checkIndex_8e157 wsJ3_checkIndex_8e157 ({ frames := 0, cells := 0, slots := 0, locals := 0 }) (va_Pc [.int (zI a), .int (zI b), .ref q] (fun _ => True)) (vp_Si (fun r => r = zI a)) 0 0 (fun _ => False) := by
  refine Met.ofW (cc := cJ3_checkIndex_8e157) (maxL := 3) (ret := some .int) (by decide) rfl ?_
  intro pp ee s mm aa bw mt cd s₁ BL hml hv
  obtain ⟨rfl, -⟩ := hv
  have hx := BL.exec
  have hb := BL.bytes
  have hr := BL.returns
  have hts := atoms_spec (ws := wsJ3_checkIndex_8e157) BL.pre
  have hown : s.vm.findClass RJ3 = some mm.cls := findClass_of_methodNamed BL.named
  have hlocks := BL.notSynchronized
  have hS : va_S (fun _ => False) s.heap s.heap [] := va_S.rf
  have hl := lv_entry ([.int (zI a), .int (zI b), .ref q]) (n := 3) (Nat.le_of_ble_eq_true rfl)
  rw [lg_entry_eq]
  generalize (lg_sl ([.int (zI a), .int (zI b), .ref q]) ++ List.replicate (3 - (lg_sl ([.int (zI a), .int (zI b), .ref q])).length) Slot.unset).toArray = ls at hl ⊢
  have hl : lv_has ls 3 [(0, .int (zI a)), (1, .int (zI b)), (2, .ref q)] := hl
  refine lv_iload_n hx hb dJ3_checkIndex_8e157_0 rfl (lv_at hl 0 rfl) ?_
  refine z_if_lt (tgt := 9) hx hb dJ3_checkIndex_8e157_1 (by decide) (by omega) (fun h => absurd h (by omega)) (fun _ => ?_)
  refine lv_iload_n hx hb dJ3_checkIndex_8e157_4 rfl (lv_at hl 0 rfl) ?_
  refine lv_iload_n hx hb dJ3_checkIndex_8e157_5 rfl (lv_at hl 1 rfl) ?_
  refine z_icmp_lt (tgt := 16) hx hb dJ3_checkIndex_8e157_6 (by decide) (by omega) (fun _ => ?_) (fun h => absurd h (by omega))
  refine lv_iload_n hx hb dJ3_checkIndex_8e157_16 rfl (lv_at hl 0 rfl) ?_
  exact W.zret (v := zI a) hx hb hr rfl (fun t9 ht hW => ⟨_, rfl, rfl, ht⟩) (fun _ h => absurd h List.not_mem_nil) dJ3_checkIndex_8e157_17
set_option maxRecDepth 100000 in
set_option maxHeartbeats 4000000 in
theorem c_strC3n (l : Launch) (aK aV : Nat → Nat) {a b : Int} (hab : 0 ≤ a ∧ a < b ∧ b ≤ 2147483647) : Met l yJ3_checkIndex_8e157 wsJ3_checkIndex_8e157 ({ frames := 0, cells := 0, slots := 0, locals := 0 }) (va_Pc [.int (zI a), .int (zI b), .null] (fun _ => True)) (vp_Si (fun r => r = zI a)) 0 0 (fun _ => False) := by
  refine Met.ofW (cc := cJ3_checkIndex_8e157) (maxL := 3) (ret := some .int) (by decide) rfl ?_
  intro pp ee s mm aa bw mt cd s₁ BL hml hv
  obtain ⟨rfl, -⟩ := hv
  have hx := BL.exec
  have hb := BL.bytes
  have hr := BL.returns
  have hts := atoms_spec (ws := wsJ3_checkIndex_8e157) BL.pre
  have hown : s.vm.findClass RJ3 = some mm.cls := findClass_of_methodNamed BL.named
  have hlocks := BL.notSynchronized
  have hS : va_S (fun _ => False) s.heap s.heap [] := va_S.rf
  have hl := lv_entry ([.int (zI a), .int (zI b), .null]) (n := 3) (Nat.le_of_ble_eq_true rfl)
  rw [lg_entry_eq]
  generalize (lg_sl ([.int (zI a), .int (zI b), .null]) ++ List.replicate (3 - (lg_sl ([.int (zI a), .int (zI b), .null])).length) Slot.unset).toArray = ls at hl ⊢
  have hl : lv_has ls 3 [(0, .int (zI a)), (1, .int (zI b)), (2, .null)] := hl
  refine lv_iload_n hx hb dJ3_checkIndex_8e157_0 rfl (lv_at hl 0 rfl) ?_
  refine z_if_lt (tgt := 9) hx hb dJ3_checkIndex_8e157_1 (by decide) (by omega) (fun h => absurd h (by omega)) (fun _ => ?_)
  refine lv_iload_n hx hb dJ3_checkIndex_8e157_4 rfl (lv_at hl 0 rfl) ?_
  refine lv_iload_n hx hb dJ3_checkIndex_8e157_5 rfl (lv_at hl 1 rfl) ?_
  refine z_icmp_lt (tgt := 16) hx hb dJ3_checkIndex_8e157_6 (by decide) (by omega) (fun _ => ?_) (fun h => absurd h (by omega))
  refine lv_iload_n hx hb dJ3_checkIndex_8e157_16 rfl (lv_at hl 0 rfl) ?_
  exact W.zret (v := zI a) hx hb hr rfl (fun t9 ht hW => ⟨_, rfl, rfl, ht⟩) (fun _ h => absurd h List.not_mem_nil) dJ3_checkIndex_8e157_17
set_option maxRecDepth 100000 in
set_option maxHeartbeats 4000000 in
theorem c_strC0 (l : Launch) (aK aV : Nat → Nat) {a b : Int} (hab : 0 ≤ a ∧ a < b ∧ b ≤ 2147483647) : Met l yJ0_checkIndex_df160 wsJ0_checkIndex_df160 ({ frames := 1, cells := 0, slots := 0, locals := 22 }) (va_Pc [.int (zI a), .int (zI b)] (ZB aK aV)) (va_Sv (fun _ => True)) 0 0 (fun _ => False) := by
  refine Met.ofW (cc := cJ0_checkIndex_df160) (maxL := 2) (ret := none) (by decide) rfl ?_
  intro pp ee s mm aa bw mt cd s₁ BL hml hv
  obtain ⟨rfl, hZ⟩ := hv
  have hx := BL.exec
  have hb := BL.bytes
  have hr := BL.returns
  have hts := atoms_spec (ws := wsJ0_checkIndex_df160) BL.pre
  have hown : s.vm.findClass RJ0 = some mm.cls := findClass_of_methodNamed BL.named
  have hlocks := BL.notSynchronized
  have hS : va_S (fun _ => False) s.heap s.heap [] := va_S.rf
  have hl := lv_entry ([.int (zI a), .int (zI b)]) (n := 2) (Nat.le_of_ble_eq_true rfl)
  rw [lg_entry_eq]
  generalize (lg_sl ([.int (zI a), .int (zI b)]) ++ List.replicate (2 - (lg_sl ([.int (zI a), .int (zI b)])).length) Slot.unset).toArray = ls at hl ⊢
  have hl : lv_has ls 2 [(0, .int (zI a)), (1, .int (zI b))] := hl
  refine lv_iload_n hx hb dJ0_checkIndex_df160_0 rfl (lv_at hl 0 rfl) ?_
  refine lv_iload_n hx hb dJ0_checkIndex_df160_1 rfl (lv_at hl 1 rfl) ?_
  rcases hZ.2.1 with hq | ⟨q, hq⟩
  · refine va_gets hx hb hq hS hown (hts (.fieldLink RJ0 1053 "jdk/internal/util/Preconditions" "SIOOBE_FORMATTER" "Ljava/util/function/BiFunction;") (by decide +kernel)) (fun _ h9 => h9) dJ0_checkIndex_df160_2 ?_
    refine vp_callSi (W.runS (As := [.int (zI a), .int (zI b), .null]) (rest := []) ⟨hx, hb, hml, hown, hts⟩ (c_strC3n l aK aV hab) (va_cwS 3 hts gJ0_checkIndex_df160_J3_checkIndex_8e157 rfl rfl rfl (by decide +kernel) ⟨Nat.le_of_ble_eq_true rfl, Nat.le_of_ble_eq_true rfl⟩) ⟨(fun a U g mk q => q), fun _ _ _ => ⟨rfl, trivial⟩⟩ rfl rfl hl.1 rfl (lv_room (Nat.le_of_ble_eq_true rfl)) dJ0_checkIndex_df160_5 ⟨Nat.zero_le _, Nat.zero_le _⟩) (fun r h0 => ?_)
    refine lv_pop hx hb dJ0_checkIndex_df160_8 rfl ?_
    exact W.vret hx hb hr (fun t9 ht hW => ⟨rfl, trivial, ht⟩) (fun _ h => absurd h List.not_mem_nil) dJ0_checkIndex_df160_9
  · refine va_gets hx hb hq hS hown (hts (.fieldLink RJ0 1053 "jdk/internal/util/Preconditions" "SIOOBE_FORMATTER" "Ljava/util/function/BiFunction;") (by decide +kernel)) (fun _ h9 => h9) dJ0_checkIndex_df160_2 ?_
    refine vp_callSi (W.runS (As := [.int (zI a), .int (zI b), .ref q]) (rest := []) ⟨hx, hb, hml, hown, hts⟩ (c_strC3 l aK aV (q := q) hab) (va_cwS 3 hts gJ0_checkIndex_df160_J3_checkIndex_8e157 rfl rfl rfl (by decide +kernel) ⟨Nat.le_of_ble_eq_true rfl, Nat.le_of_ble_eq_true rfl⟩) ⟨(fun a U g mk q => q), fun _ _ _ => ⟨rfl, trivial⟩⟩ rfl rfl hl.1 rfl (lv_room (Nat.le_of_ble_eq_true rfl)) dJ0_checkIndex_df160_5 ⟨Nat.zero_le _, Nat.zero_le _⟩) (fun r h0 => ?_)
    refine lv_pop hx hb dJ0_checkIndex_df160_8 rfl ?_
    exact W.vret hx hb hr (fun t9 ht hW => ⟨rfl, trivial, ht⟩) (fun _ h => absurd h List.not_mem_nil) dJ0_checkIndex_df160_9
set_option maxRecDepth 100000 in
set_option maxHeartbeats 4000000 in
theorem c_strC1 (l : Launch) (aK aV : Nat → Nat) {i : Nat} (hi : i < 6) {k : Int} (hk : 0 ≤ k ∧ k < lenI i) : Met l yJ1_charAt_3b067 wsJ1_charAt_3b067 ({ frames := 2, cells := 0, slots := 0, locals := 43 }) (va_Pc [.ref (aV i), .int (zI k)] (ZB aK aV)) (vp_Si (fun r => r = zI (bytI i k))) 0 0 (fun _ => False) := by
  refine Met.ofW (cc := cJ1_charAt_3b067) (maxL := 2) (ret := some .char) (by decide) rfl ?_
  intro pp ee s mm aa bw mt cd s₁ BL hml hv
  obtain ⟨rfl, hZ⟩ := hv
  have hx := BL.exec
  have hb := BL.bytes
  have hr := BL.returns
  have hts := atoms_spec (ws := wsJ1_charAt_3b067) BL.pre
  have hown : s.vm.findClass RJ1 = some mm.cls := findClass_of_methodNamed BL.named
  have hlocks := BL.notSynchronized
  have hS : va_S (fun _ => False) s.heap s.heap [] := va_S.rf
  have hl := lv_entry ([.ref (aV i), .int (zI k)]) (n := 2) (Nat.le_of_ble_eq_true rfl)
  rw [lg_entry_eq]
  generalize (lg_sl ([.ref (aV i), .int (zI k)]) ++ List.replicate (2 - (lg_sl ([.ref (aV i), .int (zI k)])).length) Slot.unset).toArray = ls at hl ⊢
  have hl : lv_has ls 2 [(0, .ref (aV i)), (1, .int (zI k))] := hl
  have hkn := bytI_e i hi k.toNat (by have q := hk.2; unfold lenI at q; omega)
  rw [show ((k.toNat : Nat) : Int) = k by omega] at hkn
  have hlr := lenI_r i hi
  refine lv_iload_n hx hb dJ1_charAt_3b067_0 rfl (lv_at hl 1 rfl) ?_
  refine lv_aload_n hx hb dJ1_charAt_3b067_1 rfl (lv_at hl 0 rfl) ?_
  refine va_tlen hx hb (hZ.2.2.1.1 i hi).2.2.2 hS (lenI_z i hi) dJ1_charAt_3b067_2 ?_
  refine va_csv (W.runS (As := [.int (zI k), .int (zI (lenI i))]) (rest := []) ⟨hx, hb, hml, hown, hts⟩ (c_strC0 l aK aV (a := k) (b := lenI i) ⟨hk.1, hk.2, by omega⟩) (va_cwS 2 hts gJ1_charAt_3b067_J0_checkIndex_df160 rfl rfl rfl (by decide +kernel) ⟨Nat.le_of_ble_eq_true rfl, Nat.le_of_ble_eq_true rfl⟩) ⟨ZB_blind, ZB_go hZ hS⟩ rfl rfl hl.1 rfl (lv_room (Nat.le_of_ble_eq_true rfl)) dJ1_charAt_3b067_3 ⟨Nat.zero_le _, Nat.zero_le _⟩) (fun _ => ?_)
  refine lv_aload_n hx hb dJ1_charAt_3b067_6 rfl (lv_at hl 0 rfl) ?_
  refine lv_iload_n hx hb dJ1_charAt_3b067_7 rfl (lv_at hl 1 rfl) ?_
  refine va_tb hx hb (hZ.2.2.1.1 i hi).2.2.2 hS (zI_in (by have q := hk; unfold lenI at q; omega) (by have q := hlr; unfold lenI at q; omega)) (v := .int (zI (bytI i k))) (by rw [zI_cl (by omega), ← hkn.1]) dJ1_charAt_3b067_8 ?_
  refine z_sipush hx hb dJ1_charAt_3b067_9 (by decide) ?_
  refine lv_iand hx hb dJ1_charAt_3b067_12 ?_
  refine lv_i2c hx hb dJ1_charAt_3b067_13 hkn.2.1 ?_
  exact W.zret (v := zI (bytI i k)) hx hb hr (c_nar hkn.2.2.1) (fun t9 ht hW => ⟨_, rfl, rfl, ht⟩) (fun _ h => absurd h List.not_mem_nil) dJ1_charAt_3b067_14
set_option maxRecDepth 100000 in
set_option maxHeartbeats 4000000 in
theorem c_strAt (l : Launch) (aK aV : Nat → Nat) {i : Nat} (hi : i < 6) {k : Int} (hk : 0 ≤ k ∧ k < lenI i) : Met l yJ0_charAt_5068e wsJ0_charAt_5068e ({ frames := 3, cells := 0, slots := 0, locals := 64 }) (va_Pc [.ref (aK i), .int (zI k)] (ZB aK aV)) (vp_Si (fun r => r = zI (bytI i k))) 0 0 (fun _ => False) := by
  refine Met.ofW (cc := cJ0_charAt_5068e) (maxL := 2) (ret := some .char) (by decide) rfl ?_
  intro pp ee s mm aa bw mt cd s₁ BL hml hv
  obtain ⟨rfl, hZ⟩ := hv
  have hx := BL.exec
  have hb := BL.bytes
  have hr := BL.returns
  have hts := atoms_spec (ws := wsJ0_charAt_5068e) BL.pre
  have hown : s.vm.findClass RJ0 = some mm.cls := findClass_of_methodNamed BL.named
  have hlocks := BL.notSynchronized
  have hS : va_S (fun _ => False) s.heap s.heap [] := va_S.rf
  have hl := lv_entry ([.ref (aK i), .int (zI k)]) (n := 2) (Nat.le_of_ble_eq_true rfl)
  rw [lg_entry_eq]
  generalize (lg_sl ([.ref (aK i), .int (zI k)]) ++ List.replicate (2 - (lg_sl ([.ref (aK i), .int (zI k)])).length) Slot.unset).toArray = ls at hl ⊢
  have hl : lv_has ls 2 [(0, .ref (aK i)), (1, .int (zI k))] := hl
  have hkn := bytI_e i hi k.toNat (by have q := hk.2; unfold lenI at q; omega)
  rw [show ((k.toNat : Nat) : Int) = k by omega] at hkn
  have hlr := lenI_r i hi
  refine lv_aload_n hx hb dJ0_charAt_5068e_0 rfl (lv_at hl 0 rfl) ?_
  refine vp_callSi (W.runV (As := []) (rest := []) ⟨hx, hb, hml, hown, hts⟩ (c_strLat l aK aV hi) (cwV 0 hts gJ0_charAt_5068e_J0_isLatin1_aae02 rfl rfl rfl (by decide +kernel) ⟨Nat.le_of_ble_eq_true rfl, Nat.le_of_ble_eq_true rfl⟩) ⟨ZB_blind, vk_recv hZ.2.2.1 hi hS, ZB_go hZ hS⟩ rfl rfl hl.1 rfl (lv_room (Nat.le_of_ble_eq_true rfl)) dJ0_charAt_5068e_1 ⟨Nat.zero_le _, Nat.zero_le _⟩) (fun r h0 => ?_)
  subst h0
  refine lv_if_eq (tgt := 16) hx hb dJ0_charAt_5068e_4 (by decide) (fun h => absurd h (by decide)) (fun _ => ?_)
  refine lv_aload_n hx hb dJ0_charAt_5068e_7 rfl (lv_at hl 0 rfl) ?_
  refine vk_getf hx hb (hZ.2.2.1.1 i hi).2.2.1 hS hown (hts (.fieldLink RJ0 9 "java/lang/String" "value" "[B") (by decide +kernel)) (fun _ h9 => h9) dJ0_charAt_5068e_8 ?_
  refine lv_iload_n hx hb dJ0_charAt_5068e_11 rfl (lv_at hl 1 rfl) ?_
  refine vp_callSi (W.runS (As := [.ref (aV i), .int (zI k)]) (rest := []) ⟨hx, hb, hml, hown, hts⟩ (c_strC1 l aK aV hi hk) (va_cwS 2 hts gJ0_charAt_5068e_J1_charAt_3b067 rfl rfl rfl (by decide +kernel) ⟨Nat.le_of_ble_eq_true rfl, Nat.le_of_ble_eq_true rfl⟩) ⟨ZB_blind, ZB_go hZ hS⟩ rfl rfl hl.1 rfl (lv_room (Nat.le_of_ble_eq_true rfl)) dJ0_charAt_5068e_12 ⟨Nat.zero_le _, Nat.zero_le _⟩) (fun r h0 => ?_)
  subst h0
  exact W.zret (v := zI (bytI i k)) hx hb hr (c_nar hkn.2.2.1) (fun t9 ht hW => ⟨_, rfl, rfl, ht⟩) (fun _ h => absurd h List.not_mem_nil) dJ0_charAt_5068e_15
set_option maxRecDepth 100000 in
set_option maxHeartbeats 4000000 in
theorem c_textOf (l : Launch) (aK aV : Nat → Nat) {w : Int} (hw : 1 ≤ w ∧ w ≤ 6) : Met l yX4_textOf wsX4_textOf ({ frames := 0, cells := 0, slots := 0, locals := 0 }) (va_Pc [.int (zI w)] (ZB aK aV)) (va_Sr (fun k => k < 6 ∧ (k : Int) = w - 1) (fun k => .ref (aK k))) 0 0 (fun _ => False) := by
  refine Met.ofW (cc := cX4_textOf) (maxL := 1) (ret := some (.object "java/lang/String")) (by decide) rfl ?_
  intro pp ee s mm aa bw mt cd s₁ BL hml hv
  obtain ⟨rfl, hZ⟩ := hv
  have hx := BL.exec
  have hb := BL.bytes
  have hr := BL.returns
  have hts := atoms_spec (ws := wsX4_textOf) BL.pre
  have hown : s.vm.findClass RX4 = some mm.cls := findClass_of_methodNamed BL.named
  have hlocks := BL.notSynchronized
  have hS : va_S (fun _ => False) s.heap s.heap [] := va_S.rf
  have hl := lv_entry ([.int (zI w)]) (n := 1) (Nat.le_of_ble_eq_true rfl)
  rw [lg_entry_eq]
  generalize (lg_sl ([.int (zI w)]) ++ List.replicate (1 - (lg_sl ([.int (zI w)])).length) Slot.unset).toArray = ls at hl ⊢
  have hl : lv_has ls 1 [(0, .int (zI w))] := hl
  refine lv_iload_n hx hb dX4_textOf_0 rfl (lv_at hl 0 rfl) ?_
  rcases (show (w < 1 ∨ 5 < w) ∨ w = 1 ∨ w = 2 ∨ w = 3 ∨ w = 4 ∨ w = 5 by omega) with h | h | h | h | h | h
  · refine z_tableOut (tgt := 51) hx hb (by omega) h dX4_textOf_1 (by decide) ?_
    refine va_ldcS hx hb hown (hZ.2.2.2 5 (by decide)) dX4_textOf_51 ?_
    exact W.aret hx hb hr (Or.inl ⟨_, rfl⟩) (Or.inr ⟨_, rfl⟩) (fun t9 ht hW => ⟨5, rfl, ⟨by decide, by omega⟩, ht⟩) (fun _ h => absurd h List.not_mem_nil) dX4_textOf_53
  · refine z_tableIn (k := 1) (off := 35) (tgt := 36) hx hb h dX4_textOf_1 (by decide) (by decide) rfl (by decide) ?_
    refine va_ldcS hx hb hown (hZ.2.2.2 0 (by decide)) dX4_textOf_36 ?_
    exact W.aret hx hb hr (Or.inl ⟨_, rfl⟩) (Or.inr ⟨_, rfl⟩) (fun t9 ht hW => ⟨0, rfl, ⟨by decide, by omega⟩, ht⟩) (fun _ h => absurd h List.not_mem_nil) dX4_textOf_38
  · refine z_tableIn (k := 2) (off := 38) (tgt := 39) hx hb h dX4_textOf_1 (by decide) (by decide) rfl (by decide) ?_
    refine va_ldcS hx hb hown (hZ.2.2.2 1 (by decide)) dX4_textOf_39 ?_
    exact W.aret hx hb hr (Or.inl ⟨_, rfl⟩) (Or.inr ⟨_, rfl⟩) (fun t9 ht hW => ⟨1, rfl, ⟨by decide, by omega⟩, ht⟩) (fun _ h => absurd h List.not_mem_nil) dX4_textOf_41
  · refine z_tableIn (k := 3) (off := 41) (tgt := 42) hx hb h dX4_textOf_1 (by decide) (by decide) rfl (by decide) ?_
    refine va_ldcS hx hb hown (hZ.2.2.2 2 (by decide)) dX4_textOf_42 ?_
    exact W.aret hx hb hr (Or.inl ⟨_, rfl⟩) (Or.inr ⟨_, rfl⟩) (fun t9 ht hW => ⟨2, rfl, ⟨by decide, by omega⟩, ht⟩) (fun _ h => absurd h List.not_mem_nil) dX4_textOf_44
  · refine z_tableIn (k := 4) (off := 44) (tgt := 45) hx hb h dX4_textOf_1 (by decide) (by decide) rfl (by decide) ?_
    refine va_ldcS hx hb hown (hZ.2.2.2 3 (by decide)) dX4_textOf_45 ?_
    exact W.aret hx hb hr (Or.inl ⟨_, rfl⟩) (Or.inr ⟨_, rfl⟩) (fun t9 ht hW => ⟨3, rfl, ⟨by decide, by omega⟩, ht⟩) (fun _ h => absurd h List.not_mem_nil) dX4_textOf_47
  · refine z_tableIn (k := 5) (off := 47) (tgt := 48) hx hb h dX4_textOf_1 (by decide) (by decide) rfl (by decide) ?_
    refine va_ldcS hx hb hown (hZ.2.2.2 4 (by decide)) dX4_textOf_48 ?_
    exact W.aret hx hb hr (Or.inl ⟨_, rfl⟩) (Or.inr ⟨_, rfl⟩) (fun t9 ht hW => ⟨4, rfl, ⟨by decide, by omega⟩, ht⟩) (fun _ h => absurd h List.not_mem_nil) dX4_textOf_50
