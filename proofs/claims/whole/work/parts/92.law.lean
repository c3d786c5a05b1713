-- the law's own cell of one long, and what its helpers stand in
theorem upL0 (f : Nat → Int64) (x : Int64) : vp_updL f (zI 0).toNatClampNeg x 0 = x := by
  have h : (zI 0).toNatClampNeg = 0 := zI_cl (i := 0) (by omega)
  rw [h]
  exact if_pos rfl
def zPreL (cL : ClassId) (sa sb : Nat) (D : va_G) (cI cB cZ : ClassId) (sz : Nat) (ws : va_W) (U : State) : Prop := zPreE sa sb D cI cB cZ sz ws U ∧ va_K D vwCl (TY cI cB cZ ++ [(cL, .long)]) U
theorem zPreL_blind {cL : ClassId} {sa sb : Nat} {D : va_G} {cI cB cZ : ClassId} {sz : Nat} {ws : va_W} {As : List Value} : FrameBlind (va_Pc As (zPreL cL sa sb D cI cB cZ sz ws)) := fun a U g mk q => by
  obtain ⟨q0, q1, q2⟩ := q
  exact ⟨q0, (zPreE_blind (As := As) a U g mk ⟨q0, q1⟩).2, va_K.moved (u := U) (U := U.calling g mk a) (Vm.Alike.refl U.vm) q2⟩
section ZLW
variable {p : Program} {l : Launch} {e : Env} {R : Room} {s : State} {m : MethodId} {args : Array Value} {below : List Frame} {meth : Method} {c : Code} {H : Heap} {locs : List Loc} {cells slots : Nat} {Q : State → Prop}
variable {cc : ByteArray} {pc : Nat} {ls : Array Slot} {rest : List Value} {D : va_G} {A : Nat → Prop} {a : Nat} {cI cB cZ cL : ClassId} {ws wc : va_W} {H0 : Heap}
theorem z_preL {sa sb : Nat} {As : List Value} (hK : va_K D vwCl (TY cI cB cZ) s) (hKL : va_K D vwCl (TY cI cB cZ ++ [(cL, .long)]) s) (hw : HW D A s.heap ws H locs) (is : List Nat) (hn : va_nd is = true) (hC : is.map (fun i => ws[i]?) = wc.map some) (hZ : ZE sa sb A s s.heap) (hF : ∀ q, va_A wc H.size q → A q) : ∀ U : State, U.heap = H → s.WarmedH U.vm → va_Pc As (zPreL cL sa sb D cI cB cZ H.size wc) As.toArray U := fun U hU hW => ⟨rfl, (z_preE (As := As) hK hw is hn hC hZ hF U hU hW).2, va_K.moved hW.alike hKL⟩
theorem z_last (hx : p.tables.exec = Jvm.exec) (hb : c.code = cc) (hKL : va_K D vwCl (TY cI cB cZ ++ [(cL, .long)]) s) (hw : HW D A H0 ws H locs) (q0 : Nat) {f : Nat → Int64} (ha : ws[q0]? = some (a, .inl (cL, 1, .inr (.inl f)))) {x : Int64} (hdg : decode cc pc = .ok (.lastore, 1)) {ws2 : (Nat → Int64) → va_W} (hws : ∀ f' : Nat → Int64, ws.set q0 (a, .inl (cL, 1, .inr (.inl f'))) = ws2 f')
    (kk : ∀ (f' : Nat → Int64) (H1 : Heap) (locs1 : List Loc), f' 0 = x → HW D A H0 (ws2 f') H1 locs1 → W p l e R s m args below meth c H1 locs1 cells slots Q (F0 m (pc + 1) ls rest)) : W p l e R s m args below meth c H locs cells slots Q (F0 m pc ls (.long x :: .int (zI 0) :: .ref a :: rest)) :=
  va_last hx hb hKL hw.1 hw.2.1 hw.2.2 q0 3 ha rfl (zI_in (i := 0) (n := 1) (by omega) (by omega)) hdg (fun H1 locs1 h1 h2 h3 => by
    rw [hws] at h1 h2
    exact kk _ H1 locs1 (upL0 f x) ⟨h1, h2, h3⟩)
theorem z_lald (hx : p.tables.exec = Jvm.exec) (hb : c.code = cc) (hKL : va_K D vwCl (TY cI cB cZ ++ [(cL, .long)]) s) (hw : HW D A H0 ws H locs) (q0 : Nat) {f : Nat → Int64} (ha : ws[q0]? = some (a, .inl (cL, 1, .inr (.inl f)))) (hdg : decode cc pc = .ok (.laload, 1))
    (kk : W p l e R s m args below meth c H locs cells slots Q (F0 m (pc + 1) ls (.long (f 0) :: rest))) : W p l e R s m args below meth c H locs cells slots Q (F0 m pc ls (.int (zI 0) :: .ref a :: rest)) :=
  va_lald hx hb hKL hw.1 q0 3 ha rfl (zI_in (i := 0) (n := 1) (by omega) (by omega)) hdg (by
    rw [show (zI 0).toNatClampNeg = 0 from zI_cl (i := 0) (by omega)]
    exact kk)
end ZLW
