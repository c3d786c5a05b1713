-- what the entry needs of the tables and of the start
theorem zm_ex : ∀ i, i < 6 → Cond.exactly (Term.string RX4 (103 + 2 * i)) "java/lang/String" ∈ flatC (Jvm.Cond.and given_1 narrow_1) := by decide +kernel
theorem zm_co : ∀ i, i < 6 → Cond.eq (.field (Term.string RX4 (103 + 2 * i)) "java/lang/String" "code\x72" "B") (.int 0) ∈ flatC (Jvm.Cond.and given_1 narrow_1) := by decide +kernel
theorem zm_ar : ∀ i, i < 6 → Cond.arrayOf (.field (Term.string RX4 (103 + 2 * i)) "java/lang/String" "value" "[B") .byte ∈ flatC (Jvm.Cond.and given_1 narrow_1) := by decide +kernel
theorem zm_le : ∀ i, i < 6 → Cond.eq (.length (.field (Term.string RX4 (103 + 2 * i)) "java/lang/String" "value" "[B")) (.int (Int32.ofNat (lenJ.getD i 0))) ∈ flatC (Jvm.Cond.and given_1 narrow_1) := by decide +kernel
theorem zm_el : ∀ i, i < 6 → ∀ j, j < lenJ.getD i 0 → Cond.eq (.elem (.field (Term.string RX4 (103 + 2 * i)) "java/lang/String" "value" "[B") (.int (Int32.ofNat j))) (.int ((bytJ.getD i []).getD j 0)) ∈ flatC (Jvm.Cond.and given_1 narrow_1) := by decide +kernel
theorem zm_ne : ∀ i, i < 6 → ∀ j, j < 6 → i ≠ j → Cond.not (Cond.eq (Term.string RX4 (103 + 2 * i)) (Term.string RX4 (103 + 2 * j))) ∈ flatC (Jvm.Cond.and given_1 narrow_1) ∨ Cond.not (Cond.eq (Term.string RX4 (103 + 2 * j)) (Term.string RX4 (103 + 2 * i))) ∈ flatC (Jvm.Cond.and given_1 narrow_1) := by decide +kernel
theorem zm_sr : ∀ i, i < 6 → Cond.stringRef RX4 (103 + 2 * i) (litS.getD i "") ∈ lw_tbl := by decide +kernel
theorem zm_ln : ∀ i, i < 6 → lenJ.getD i 0 < 2 ^ 31 := by decide +kernel
theorem st_ZX {args : Array Value} {s : State} (hts : ∀ w ∈ lw_tbl, w.before args s = true) (hgv : (Jvm.Cond.and given_1 narrow_1).before args s = true) {A : Nat → Prop} (hA : ∀ a : Nat, a < s.heap.size → ¬ A a) : ∃ aK aV : Nat → Nat, ZX aK aV A s s.heap := by
  have hg := flat_of_before _ hgv
  obtain ⟨aK, aV, hS, hE⟩ := vk_Sof (args := args) (s := s) (N := 6) (tm := fun i => Term.string RX4 (103 + 2 * i)) (len := lenJ) (byt := bytJ) (A := A) zm_ln (fun i hi => hg _ (zm_ex i hi)) (fun i hi => hg _ (zm_co i hi)) (fun i hi => hg _ (zm_ar i hi)) (fun i hi => hg _ (zm_le i hi)) (fun i hi j hj => hg _ (zm_el i hi j hj)) (fun i j hi hj h => (zm_ne i hi j hj h).imp (fun q => hg _ q) (fun q => hg _ q)) hA
  exact ⟨aK, aV, va_Zof (hts _ (by decide +kernel)) (hts _ (by decide +kernel)) (va_eqi (hg _ (by decide +kernel))) hA, va_Zqof (hts _ (by decide +kernel)) (hts _ (by decide +kernel)) (hg _ (by decide +kernel)) hA, hS, fun i hi => vk_R.of (A := args) (hts _ (zm_sr i hi)) (hE i hi)⟩
theorem st_ZE {args : Array Value} {s : State} (hts : ∀ w ∈ lw_tbl, w.before args s = true) (hgv : (Jvm.Cond.and given_1 narrow_1).before args s = true) {A : Nat → Prop} (hA : ∀ a : Nat, a < s.heap.size → ¬ A a) : ∃ sa sb : Nat, ZE sa sb A s s.heap := by
  have hg := flat_of_before _ hgv
  obtain ⟨sa, _, _, _, ea, _⟩ := Cond.exactly_spec (args := args) (first := s) (o := none) (s := s) (idx := []) (t := Term.string RX7 254) (cls := "java/lang/String") (hg _ (by decide +kernel))
  obtain ⟨sb, _, _, _, eb, _⟩ := Cond.exactly_spec (args := args) (first := s) (o := none) (s := s) (idx := []) (t := Term.string RX7 261) (cls := "java/lang/String") (hg _ (by decide +kernel))
  exact ⟨sa, sb, vx_Zqof (hts _ (by decide +kernel)) (hts _ (by decide +kernel)) (hg _ (by decide +kernel)) hA, vx_Zqof (hts _ (by decide +kernel)) (hts _ (by decide +kernel)) (hg _ (by decide +kernel)) hA, va_Nw.of rfl (hts _ (by decide +kernel)), va_Nw.of rfl (hts _ (by decide +kernel)), vk_R.of (A := args) (hts _ (by decide +kernel)) ea, vk_R.of (A := args) (hts _ (by decide +kernel)) eb, va_Nc.of (hg _ (by decide +kernel)), va_Nw.of rfl (hts _ (by decide +kernel)), va_Nw.of rfl (hts _ (by decide +kernel)), va_Nw.of rfl (hts _ (by decide +kernel))⟩
theorem st_D {args : Array Value} {s : State} (hts : ∀ w ∈ lw_tbl, w.before args s = true) : ∃ (D : va_G) (cI cB cZ : ClassId), va_K D vwCl (TY cI cB cZ) s := by
  obtain ⟨c0, i0, h0⟩ := u_known (C := RX0) (T := TX0) (N := 6) (n := 6) hts inWX0 (hts (.instantiable RX0 6) (by decide +kernel))
  obtain ⟨c1, i1, h1⟩ := u_known (C := RX1) (T := TX1) (N := 3) (n := 3) hts inWX1 (hts (.instantiable RX1 3) (by decide +kernel))
  obtain ⟨c2, i2, h2⟩ := u_known (C := RX2) (T := TX2) (N := 6) (n := 6) hts inWX2 (hts (.instantiable RX2 6) (by decide +kernel))
  obtain ⟨c3, i3, h3⟩ := u_known (C := RX3) (T := TX3) (N := 9) (n := 9) hts inWX3 (hts (.instantiable RX3 9) (by decide +kernel))
  obtain ⟨c4, i4, h4⟩ := u_known (C := RX4) (T := TX4) (N := 9) (n := 9) hts inWX4 (hts (.instantiable RX4 9) (by decide +kernel))
  obtain ⟨c5, i5, h5⟩ := u_known (C := RX5) (T := TX5) (N := 8) (n := 8) hts inWX5 (hts (.instantiable RX5 8) (by decide +kernel))
  obtain ⟨c6, i6, h6⟩ := u_known (C := RX6) (T := TX6) (N := 4) (n := 4) hts inWX6 (hts (.instantiable RX6 4) (by decide +kernel))
  obtain ⟨c7, i7, h7⟩ := u_known (C := RX7) (T := TX7) (N := 12) (n := 12) hts inWX7 (hts (.instantiable RX7 12) (by decide +kernel))
  obtain ⟨c8, i8, h8⟩ := u_known (C := RX8) (T := TX8) (N := 36) (n := 36) hts inWX8 (hts (.instantiable RX8 36) (by decide +kernel))
  obtain ⟨cI, aI, rI⟩ := ty_I (hts (.arrayClass .int) (by decide +kernel))
  obtain ⟨cB, aB, rB⟩ := ty_B (hts (.arrayClass .byte) (by decide +kernel))
  obtain ⟨cZ, aZ, rZ⟩ := ty_Z (hts (.arrayClass .boolean) (by decide +kernel))
  refine ⟨(fun k => if k = 0 then c0 else if k = 1 then c1 else if k = 2 then c2 else if k = 3 then c3 else if k = 4 then c4 else if k = 5 then c5 else if k = 6 then c6 else if k = 7 then c7 else c8, fun k => if k = 0 then i0 else if k = 1 then i1 else if k = 2 then i2 else if k = 3 then i3 else if k = 4 then i4 else if k = 5 then i5 else if k = 6 then i6 else if k = 7 then i7 else i8), cI, cB, cZ, fun k q hq => ?_, fun k q hq => ?_⟩
  · match k, hq with
    | 0, hq => 
      have e9 : (RX0, TX0, 6) = q := Option.some.inj hq
      subst e9
      exact h0
    | 1, hq => 
      have e9 : (RX1, TX1, 3) = q := Option.some.inj hq
      subst e9
      exact h1
    | 2, hq => 
      have e9 : (RX2, TX2, 6) = q := Option.some.inj hq
      subst e9
      exact h2
    | 3, hq => 
      have e9 : (RX3, TX3, 9) = q := Option.some.inj hq
      subst e9
      exact h3
    | 4, hq => 
      have e9 : (RX4, TX4, 9) = q := Option.some.inj hq
      subst e9
      exact h4
    | 5, hq => 
      have e9 : (RX5, TX5, 8) = q := Option.some.inj hq
      subst e9
      exact h5
    | 6, hq => 
      have e9 : (RX6, TX6, 4) = q := Option.some.inj hq
      subst e9
      exact h6
    | 7, hq => 
      have e9 : (RX7, TX7, 12) = q := Option.some.inj hq
      subst e9
      exact h7
    | 8, hq => 
      have e9 : (RX8, TX8, 36) = q := Option.some.inj hq
      subst e9
      exact h8
    | k + 9, hq => 
      have e9 : vwCl[k + 9]? = none := List.getElem?_eq_none (Nat.le_add_left 9 k)
      rw [e9] at hq
      cases hq
  · match k, hq with
    | 0, hq => 
      have e9 : (cI, FieldType.int) = q := Option.some.inj hq
      subst e9
      exact ⟨aI, rI⟩
    | 1, hq => 
      have e9 : (cB, FieldType.byte) = q := Option.some.inj hq
      subst e9
      exact ⟨aB, rB⟩
    | 2, hq => 
      have e9 : (cZ, FieldType.boolean) = q := Option.some.inj hq
      subst e9
      exact ⟨aZ, rZ⟩
    | k + 3, hq => 
      have e9 : (TY cI cB cZ)[k + 3]? = none := List.getElem?_eq_none (Nat.le_add_left 3 k)
      rw [e9] at hq
      cases hq
