-- copying eight, the greater, the lesser
def cpZ (f g : Int → Int) : Int → Int := fun j => if 0 ≤ j ∧ j < 8 then f j else g j
theorem cpZ_in {f g : Int → Int} {j : Int} (h0 : 0 ≤ j) (h1 : j < 8) : cpZ f g j = f j := if_pos ⟨h0, h1⟩
theorem cpZ_rng {f g : Int → Int} {lo hi : Int} (hf : RA f lo hi) (hg : RA g lo hi) : RA (cpZ f g) lo hi := fun j => by
  unfold cpZ
  split
  · exact hf j
  · exact hg j
theorem cp8 (f g : Int → Int) : va_cpy (zA f) (zA g) (zI 0).toNatClampNeg (zI 0).toNatClampNeg (zI 8).toNatClampNeg = zA (cpZ f g) := by
  rw [show (zI 0).toNatClampNeg = 0 by decide, show (zI 8).toNatClampNeg = 8 by decide]
  funext k
  unfold va_cpy zA cpZ
  by_cases h : k < 8
  · rw [if_pos ⟨by omega, by omega⟩, if_pos ⟨by omega, by omega⟩]
    simp
  · rw [if_neg (by omega), if_neg (by omega)]
theorem zI_max {x y : Int} (hr : (-2147483648 ≤ x ∧ x ≤ 2147483647) ∧ (-2147483648 ≤ y ∧ y ≤ 2147483647)) : (if zI x < zI y then zI y else zI x) = zI (max x y) := by
  by_cases h : x < y
  · rw [if_pos ((zI_lt hr.1 hr.2).mpr h), show max x y = y by omega]
  · rw [if_neg (fun q => h ((zI_lt hr.1 hr.2).mp q)), show max x y = x by omega]
section ZR2
variable {p : Program} {l : Launch} {e : Env} {R : Room} {s : State} {m : MethodId} {args : Array Value} {below : List Frame} {meth : Method} {c : Code} {H : Heap} {locs : List Loc} {cells slots : Nat} {Q : State → Prop}
variable {cc : ByteArray} {pc : Nat} {ls : Array Slot} {rest : List Value} {D : va_G} {A : Nat → Prop} {a : Nat} {cI cB cZ : ClassId} {ws : va_W} {H0 : Heap}
theorem z_copy (hx : p.tables.exec = Jvm.exec) (hb : c.code = cc) (hml : c.maxLocals = ls.size) {own : String} {index : Nat} (hown : s.vm.findClass own = some m.cls) (hlink : (Cond.methodLink own index arraycopyName).before args s = true) (hnat : (Cond.native arraycopyName).before args s = true) (hstat : (Cond.static arraycopyName).before args s = true) (hini : (Cond.initialized "java/lang/System").before args s = true)
    (hK : va_K D vwCl (TY cI cB cZ) s) (hw : HW D A H0 ws H locs) (q0 q1 : Nat) {a0 : Nat} {f g : Int → Int} (ha0 : ws[q0]? = some (a0, .inl (cI, 8, .inl (zA f)))) (ha1 : ws[q1]? = some (a, .inl (cI, 8, .inl (zA g))))
    (hframes : 1 ≤ R.frames) (hlocals : (rest.map fun v => v.category).sum + (nativeFrameWords "java/lang/System" "arraycopy" 5 + 11) ≤ R.locals) (hdg : decode cc pc = .ok (.invokestatic index, 3)) {ws2 : va_W} (hws : ws.set q1 (a, .inl (cI, 8, .inl (zA (cpZ f g)))) = ws2)
    (kk : ∀ (H1 : Heap) (locs1 : List Loc), HW D A H0 ws2 H1 locs1 → W p l e R s m args below meth c H1 locs1 cells slots Q (F0 m (pc + 3) ls rest)) : W p l e R s m args below meth c H locs cells slots Q (F0 m pc ls (.int (zI 8) :: .int (zI 0) :: .ref a :: .int (zI 0) :: .ref a0 :: rest)) :=
  va_copyi hx hb hml hown hlink hnat hstat hini hK hw.1 hw.2.1 hw.2.2 q0 q1 0 0 ha0 ha1 rfl rfl rfl (by decide) (by decide) (by decide) (by decide) (by decide) (fun i _ => rfl) hframes hlocals hdg (fun H1 locs1 h1 h2 h3 => by
    rw [cp8, hws] at h1 h2
    exact kk H1 locs1 ⟨h1, h2, h3⟩)
theorem z_max (hx : p.tables.exec = Jvm.exec) (hb : c.code = cc) (hml : c.maxLocals = ls.size) {own : String} {index : Nat} (hown : s.vm.findClass own = some m.cls) (hlink : (Cond.methodLink own index Lib.Math.max.name).before args s = true) (hstat : (Cond.static Lib.Math.max.name).before args s = true) (hini : (Cond.initialized "java/lang/Math").before args s = true) (hcode : (Cond.code Lib.Math.max.name Lib.Math.max.code 2 (some .int)).before args s = true)
    (hframes : 1 ≤ R.frames) (hlocals : (rest.map fun v => v.category).sum + 13 ≤ R.locals) (hc : cells ≤ R.cells) (hs : slots ≤ R.slots) {x y : Int} (hr : (-2147483648 ≤ x ∧ x ≤ 2147483647) ∧ (-2147483648 ≤ y ∧ y ≤ 2147483647)) (hdg : decode cc pc = .ok (.invokestatic index, 3))
    (kk : W p l e R s m args below meth c H locs cells slots Q (F0 m (pc + 3) ls (.int (zI (max x y)) :: rest))) : W p l e R s m args below meth c H locs cells slots Q (F0 m pc ls (.int (zI y) :: .int (zI x) :: rest)) := va_mmax hx hb hml hown hlink hstat hini hcode hframes hlocals hc hs hdg (by rw [zI_max hr]; exact kk)
theorem zI_min {x y : Int} (hr : (-2147483648 ≤ x ∧ x ≤ 2147483647) ∧ (-2147483648 ≤ y ∧ y ≤ 2147483647)) : (if zI y < zI x then zI y else zI x) = zI (min x y) := by
  by_cases h : y < x
  · rw [if_pos ((zI_lt hr.2 hr.1).mpr h), show min x y = y by omega]
  · rw [if_neg (fun q => h ((zI_lt hr.2 hr.1).mp q)), show min x y = x by omega]
theorem z_min (hx : p.tables.exec = Jvm.exec) (hb : c.code = cc) (hml : c.maxLocals = ls.size) {own : String} {index : Nat} (hown : s.vm.findClass own = some m.cls) (hlink : (Cond.methodLink own index Lib.Math.min.name).before args s = true) (hstat : (Cond.static Lib.Math.min.name).before args s = true) (hini : (Cond.initialized "java/lang/Math").before args s = true) (hcode : (Cond.code Lib.Math.min.name Lib.Math.min.code 2 (some .int)).before args s = true)
    (hframes : 1 ≤ R.frames) (hlocals : (rest.map fun v => v.category).sum + 13 ≤ R.locals) (hc : cells ≤ R.cells) (hs : slots ≤ R.slots) {x y : Int} (hr : (-2147483648 ≤ x ∧ x ≤ 2147483647) ∧ (-2147483648 ≤ y ∧ y ≤ 2147483647)) (hdg : decode cc pc = .ok (.invokestatic index, 3))
    (kk : W p l e R s m args below meth c H locs cells slots Q (F0 m (pc + 3) ls (.int (zI (min x y)) :: rest))) : W p l e R s m args below meth c H locs cells slots Q (F0 m pc ls (.int (zI y) :: .int (zI x) :: rest)) := va_mmin hx hb hml hown hlink hstat hini hcode hframes hlocals hc hs hdg (by rw [zI_min hr]; exact kk)
end ZR2
-- a run, to its end
def stF (h b o : Int) : Int := if ¬ o = -1 then 3 else if h < 0 then 0 else if 0 < b then 2 else 1
def onP (heads out : Int → Int) (g : Int) : Prop := 0 ≤ heads g ∧ out g = -1
def covP (le heads out : Int → Int) (c g : Int) : Prop := onP heads out g ∧ heads g - le g + 1 ≤ c ∧ c ≤ heads g
noncomputable def holeK (le line heads out : Int → Int) : Nat → Int × Int
  | 0 => (0, -1)
  | k + 1 => ifP (onP heads out (line (k : Int))) ((if (holeK le line heads out k).2 = -1 then (holeK le line heads out k).1 else max (holeK le line heads out k).1 (heads (holeK le line heads out k).2 - le (holeK le line heads out k).2 + 1 - heads (line (k : Int)) - 1)), line (k : Int)) (holeK le line heads out k)
theorem hole_on {le line heads out : Int → Int} {i w a : Int} (hi : 0 ≤ i) (h : (w, a) = holeK le line heads out i.toNat) (ho : onP heads out (line i)) : ((if a = -1 then w else max w (heads a - le a + 1 - heads (line i) - 1)), line i) = holeK le line heads out (i + 1).toNat := by
  rw [show (i + 1).toNat = i.toNat + 1 by omega]
  unfold holeK
  rw [← h, show ((i.toNat : Nat) : Int) = i by omega, ifP_t ho]
theorem hole_off {le line heads out : Int → Int} {i w a : Int} (hi : 0 ≤ i) (h : (w, a) = holeK le line heads out i.toNat) (ho : ¬ onP heads out (line i)) : (w, a) = holeK le line heads out (i + 1).toNat := by
  rw [show (i + 1).toNat = i.toNat + 1 by omega]
  unfold holeK
  rw [← h, show ((i.toNat : Nat) : Int) = i by omega, ifP_f ho]
noncomputable def endsK (line heads out : Int → Int) : Nat → Int × Int
  | 0 => (-1, -1)
  | k + 1 => ifP (onP heads out (line (k : Int))) ((if (endsK line heads out k).1 = -1 then line (k : Int) else (endsK line heads out k).1), line (k : Int)) (endsK line heads out k)
theorem ends_on {line heads out : Int → Int} {i w a : Int} (hi : 0 ≤ i) (h : (w, a) = endsK line heads out i.toNat) (ho : onP heads out (line i)) : ((if w = -1 then line i else w), line i) = endsK line heads out (i + 1).toNat := by
  rw [show (i + 1).toNat = i.toNat + 1 by omega]
  unfold endsK
  rw [← h, show ((i.toNat : Nat) : Int) = i by omega, ifP_t ho]
theorem ends_off {line heads out : Int → Int} {i w a : Int} (hi : 0 ≤ i) (h : (w, a) = endsK line heads out i.toNat) (ho : ¬ onP heads out (line i)) : (w, a) = endsK line heads out (i + 1).toNat := by
  rw [show (i + 1).toNat = i.toNat + 1 by omega]
  unfold endsK
  rw [← h, show ((i.toNat : Nat) : Int) = i by omega, ifP_f ho]
def rowLongF (le : Int → Int) (cells : Int) (heads : Int → Int) (e : Int × Int) : Int := if e.1 = -1 then 0 else min (heads e.1) (cells - 1) - max (heads e.2 - le e.2 + 1) 0 + 1
section
variable {ki le : Int → Int} {cells gap : Int} {stands line : Int → Int} {size now : Int} {h b c o h' b' c' o' : Int → Int} {i : Int} {s : PS}
theorem run_step (hi : 0 ≤ i) (ht : (h, b, c, o) = runK ki le cells gap stands line size now s i.toNat) {n2 : Int} (ha : (h', b', c', o') = stepK ki le cells gap stands line n2 size.toNat (h, b, c, o)) (hn : n2 = now + i + 1) : (h', b', c', o') = runK ki le cells gap stands line size now s (i + 1).toNat := by
  rw [show (i + 1).toNat = i.toNat + 1 by omega]
  unfold runK
  rw [← ht, show ((i.toNat : Nat) : Int) = i by omega, ← hn]
  exact ha
theorem run_not {P : PS → Prop} {f : Nat → PS} (hi : 0 ≤ i) (hall : ∀ j : Nat, j < i.toNat → ¬ P (f j)) (h : ¬ P (f i.toNat)) : ∀ j : Nat, j < (i + 1).toNat → ¬ P (f j) := fun j hj => by
  by_cases q : j = i.toNat
  · rw [q]; exact h
  · exact hall j (by omega)
end
theorem end_lt {ki le : Int → Int} {cells gap : Int} {stands line : Int → Int} {size now : Int} {s : PS} {h b c o : Int → Int} {B : Nat} {i : Int} (ht : (h, b, c, o) = runK ki le cells gap stands line size now s i.toNat) (hB : allP line size (runK ki le cells gap stands line size now s B).2.2.2) (hn : ¬ allP line size o) (h0 : 0 ≤ i) (h1 : i ≤ (B : Int)) : i < (B : Int) := by
  rcases Int.lt_or_eq_of_le h1 with q | q
  · exact q
  · exfalso
    have e : i.toNat = B := by omega
    rw [← e, ← ht] at hB
    exact hn hB
