-- things that are made
def adN (l : List Nat) (k : Nat) : Nat := l.getD k 0
section ZN
variable {p : Program} {l : Launch} {e : Env} {R : Room} {s : State} {m : MethodId} {args : Array Value} {below : List Frame} {meth : Method} {c : Code} {H : Heap} {locs : List Loc} {cells slots : Nat} {Q : State → Prop}
variable {cc : ByteArray} {pc : Nat} {ls : Array Slot} {rest : List Value} {D : va_G} {A : Nat → Prop} {a : Nat} {cI cB cZ : ClassId} {ws : va_W}
theorem z_newI (hx : p.tables.exec = Jvm.exec) (hb : c.code = cc) (harr : (Cond.arrayClass .int).before args s = true) (hK : va_K D vwCl (TY cI cB cZ) s) (hw : HW D A s.heap ws H locs) (hA : ∀ q, s.heap.size ≤ q → A q) {n : Int} {N : Nat} (hn : n = (N : Int) ∧ N ≤ 1000) (hcells : cells + 1 ≤ R.cells) (hslots : slots + N ≤ R.slots) (hdg : decode cc pc = .ok (.newarray .int, 2)) (kk : ∀ (q : Nat) (H1 : Heap), HW D A s.heap (ws ++ [(q, .inl (cI, N, .inl (zA (fun _ => 0))))]) H1 locs → W p l e R s m args below meth c H1 locs (cells + 1) (slots + N) Q (F0 m (pc + 2) ls (.ref q :: rest))) : W p l e R s m args below meth c H locs cells slots Q (F0 m pc ls (.int (zI n) :: rest)) :=
  va_newa (atype := .int) hx hb harr rfl hK hw.1 hw.2.1 hw.2.2 hA (N' := N) (a0 := (N, .inl (zA (fun _ => 0)))) (fun cA => rfl) (fun q => by have z := (zI_lt (a := n) (b := 0) (by omega) (by omega)).mp q; omega) (by rw [zI_cl (by omega)]; omega) (by show N * 4 ≤ _; omega) hcells hslots hdg (fun q cA H1 hK1 hP1 hD1 hS1 => by
    have e1 : va_RA s cA .int := (hK1.2 3 (cA, .int) rfl).2
    have e2 : va_RA s cI .int := (hK.2 0 (cI, .int) rfl).2
    have e3 : cA = cI := Option.some.inj (Eq.trans (Eq.symm e1) e2)
    subst e3
    exact kk q H1 ⟨hP1, hD1, hS1⟩)
theorem z_newB (hx : p.tables.exec = Jvm.exec) (hb : c.code = cc) (harr : (Cond.arrayClass .byte).before args s = true) (hK : va_K D vwCl (TY cI cB cZ) s) (hw : HW D A s.heap ws H locs) (hA : ∀ q, s.heap.size ≤ q → A q) {n : Int} {N : Nat} (hn : n = (N : Int) ∧ N ≤ 1000) (hcells : cells + 1 ≤ R.cells) (hslots : slots + N ≤ R.slots) (hdg : decode cc pc = .ok (.newarray .byte, 2)) (kk : ∀ (q : Nat) (H1 : Heap), HW D A s.heap (ws ++ [(q, .inl (cB, N, .inl (zA (fun _ => 0))))]) H1 locs → W p l e R s m args below meth c H1 locs (cells + 1) (slots + N) Q (F0 m (pc + 2) ls (.ref q :: rest))) : W p l e R s m args below meth c H locs cells slots Q (F0 m pc ls (.int (zI n) :: rest)) :=
  va_newa (atype := .byte) hx hb harr rfl hK hw.1 hw.2.1 hw.2.2 hA (N' := N) (a0 := (N, .inl (zA (fun _ => 0)))) (fun cA => rfl) (fun q => by have z := (zI_lt (a := n) (b := 0) (by omega) (by omega)).mp q; omega) (by rw [zI_cl (by omega)]; omega) (by show N * 1 ≤ _; omega) hcells hslots hdg (fun q cA H1 hK1 hP1 hD1 hS1 => by
    have e1 : va_RA s cA .byte := (hK1.2 3 (cA, .byte) rfl).2
    have e2 : va_RA s cB .byte := (hK.2 1 (cB, .byte) rfl).2
    have e3 : cA = cB := Option.some.inj (Eq.trans (Eq.symm e1) e2)
    subst e3
    exact kk q H1 ⟨hP1, hD1, hS1⟩)
theorem z_newZ (hx : p.tables.exec = Jvm.exec) (hb : c.code = cc) (harr : (Cond.arrayClass .boolean).before args s = true) (hK : va_K D vwCl (TY cI cB cZ) s) (hw : HW D A s.heap ws H locs) (hA : ∀ q, s.heap.size ≤ q → A q) {n : Int} {N : Nat} (hn : n = (N : Int) ∧ N ≤ 1000) (hcells : cells + 1 ≤ R.cells) (hslots : slots + N ≤ R.slots) (hdg : decode cc pc = .ok (.newarray .boolean, 2)) (kk : ∀ (q : Nat) (H1 : Heap), HW D A s.heap (ws ++ [(q, .inl (cZ, N, .inl (zA (fun _ => 0))))]) H1 locs → W p l e R s m args below meth c H1 locs (cells + 1) (slots + N) Q (F0 m (pc + 2) ls (.ref q :: rest))) : W p l e R s m args below meth c H locs cells slots Q (F0 m pc ls (.int (zI n) :: rest)) :=
  va_newa (atype := .boolean) hx hb harr rfl hK hw.1 hw.2.1 hw.2.2 hA (N' := N) (a0 := (N, .inl (zA (fun _ => 0)))) (fun cA => rfl) (fun q => by have z := (zI_lt (a := n) (b := 0) (by omega) (by omega)).mp q; omega) (by rw [zI_cl (by omega)]; omega) (by show N * 1 ≤ _; omega) hcells hslots hdg (fun q cA H1 hK1 hP1 hD1 hS1 => by
    have e1 : va_RA s cA .boolean := (hK1.2 3 (cA, .boolean) rfl).2
    have e2 : va_RA s cZ .boolean := (hK.2 2 (cZ, .boolean) rfl).2
    have e3 : cA = cZ := Option.some.inj (Eq.trans (Eq.symm e1) e2)
    subst e3
    exact kk q H1 ⟨hP1, hD1, hS1⟩)
theorem z_putF (hx : p.tables.exec = Jvm.exec) (hb : c.code = cc) {own ref C : String} {T : u_T} {N ci index : Nat} {Ts : List Cond} (hts : ∀ w ∈ Ts, w.before args s = true) (hin : ∀ w ∈ u_ws C T N, w ∈ Ts) (ty0 : Nat → FieldType) (hty : ∀ k, k < N → parseFieldDescriptor (T k).2.2.1 = some (ty0 k)) (hnm : ∀ a, a < N → ∀ b, b < N → a ≠ b → (T a).2.1 ≠ (T b).2.1) (hown : s.vm.findClass own = some m.cls) (hK : va_K D vwCl (TY cI cB cZ) s) (hw : HW D A s.heap ws H locs) (q0 : Nat) {fs : List Value} (he : ws[q0]? = some (a, .inr (ci, fs))) (hc : vwCl[ci]? = some (C, T, N)) (k : Nat) (hk : k < N) (hlink : (Cond.fieldLink own index ref (T k).2.1 (T k).2.2.1).before args s = true) (hsame : ∀ x, s.fieldFound? (T k).1 (T k).2.1 (T k).2.2.1 = some x → s.fieldFound? ref (T k).2.1 (T k).2.2.1 = some x) (hfin : (T k).2.2.2 = true) (hin2 : meth.name = "<init>") (hdecl : (T k).1 = own) {ty : FieldType} {v : Value} (hd : parseFieldDescriptor (T k).2.2.1 = some ty) (hn : narrow ty v = v) (hfit : fits ty v = true) (hl : k < fs.length) (hdg : decode cc pc = .ok (.putfield index, 3)) {ws2 : va_W} (hws : ws.set q0 (a, .inr (ci, fs.set k v)) = ws2) (kk : ∀ (H1 : Heap) (locs1 : List Loc), HW D A s.heap ws2 H1 locs1 → W p l e R s m args below meth c H1 locs1 cells slots Q (F0 m (pc + 3) ls rest)) : W p l e R s m args below meth c H locs cells slots Q (F0 m pc ls (v :: .ref a :: rest)) :=
  va_putF hx hb hts hin ty0 hty hnm hown hK hw.1 hw.2.1 hw.2.2 q0 he hc k hk hlink hsame hfin hin2 hdecl hd hn hfit hl hdg (fun H1 locs1 h1 h2 h3 => by
    rw [hws] at h1 h2
    exact kk H1 locs1 ⟨h1, h2, h3⟩)
end ZN
def zPreN (D : va_G) (cI cB cZ : ClassId) (sz : Nat) (ws : va_W) (U : State) : Prop := zPre D cI cB cZ sz ws U ∧ va_Nw (.methodLinkNest RX7 9 yX2_init "CarnivalRoad") U ∧ va_Nw (.methodLinkNest RX7 51 yX1_init "CarnivalRoad") U ∧ va_Nw (.methodLinkNest RX7 58 yX6_init "CarnivalRoad") U
theorem zPreN_blind {D : va_G} {cI cB cZ : ClassId} {sz : Nat} {ws : va_W} {As : List Value} : FrameBlind (va_Pc As (zPreN D cI cB cZ sz ws)) := fun a U g mk q => by
  obtain ⟨q0, q1, q2, q3, q4⟩ := q
  exact ⟨q0, (zPre_blind (As := As) a U g mk ⟨q0, q1⟩).2, va_Nw.same (U := U.calling g mk a) rfl rfl q2, va_Nw.same (U := U.calling g mk a) rfl rfl q3, va_Nw.same (U := U.calling g mk a) rfl rfl q4⟩
