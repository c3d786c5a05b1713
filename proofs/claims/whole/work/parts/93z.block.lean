-- worlds of blocks: a call's part is chosen block by block
def bl (a : va_W) : List va_W → va_W
  | [] => a
  | b :: l => bl (a ++ b) l
theorem bl_flat : ∀ (l : List va_W) (a : va_W), bl a l = a ++ l.flatten
  | [], a => by
    show a = a ++ ([] : List va_W).flatten
    rw [List.flatten_nil, List.append_nil]
  | b :: l, a => by
    show bl (a ++ b) l = _
    rw [bl_flat l (a ++ b), List.flatten_cons, List.append_assoc]
theorem bl_app {a : va_W} {l m : List va_W} : bl a (l ++ m) = bl a l ++ m.flatten := by
  rw [bl_flat, bl_flat, List.flatten_append, List.append_assoc]
theorem bl_mem {a blk : va_W} {l : List va_W} {q : Nat × va_E} (i : Nat) (h : (a :: l)[i]? = some blk) (hq : blk[0]? = some q) : q ∈ bl a l := by
  rw [bl_flat, ← List.flatten_cons]
  exact List.mem_flatten.mpr ⟨blk, List.mem_of_getElem? h, List.mem_of_getElem? hq⟩
theorem sel_perm {α : Type} {L L' : List α} (is : List Nat) (hp : is.isPerm (List.range L.length) = true) (h : is.map (fun i => L[i]?) = L'.map some) : L.Perm L' := by
  have e1 : is.filterMap (fun i => L[i]?) = L' := z_fm h
  have e2 : (List.range L.length).filterMap (fun i => L[i]?) = L := z_fm (List.ext_getElem (by simp) (fun i h1 h2 => by simp))
  have q := ((List.isPerm_iff.mp hp).filterMap (fun i => L[i]?)).symm
  rw [e1, e2] at q
  exact q
section ZBL
variable {p : Program} {l : Launch} {e : Env} {R : Room} {s : State} {m : MethodId} {args : Array Value} {below : List Frame} {meth : Method} {c : Code} {H : Heap} {locs : List Loc} {cells slots : Nat} {Q : State → Prop}
variable {cc : ByteArray} {pc : Nat} {ls : Array Slot} {rest : List Value} {D : va_G} {A : Nat → Prop} {a : Nat} {cI cB cZ cL : ClassId} {ws : va_W} {H0 : Heap}
theorem nd_of_D {A9 : Nat → Prop} (h : va_D A9 ws) : (ws.map (fun q => q.1)).Nodup := by
  unfold List.Nodup
  rw [List.pairwise_map, List.pairwise_iff_getElem]
  intro i j hi hj hij e9
  have q := h.1 i j _ _ (List.getElem?_eq_getElem hi) (List.getElem?_eq_getElem hj) e9
  omega
theorem HW_iff : HW D A H0 ws H locs ↔ (∀ q, q ∈ ws → va_at D vwCl q H) ∧ (ws.map (fun q => q.1)).Nodup ∧ (∀ q, q ∈ ws → A q.1) ∧ va_S A H0 H locs := by
  constructor
  · intro h
    refine ⟨fun q hq => ?_, nd_of_D h.2.1, fun q hq => ?_, h.2.2⟩
    · obtain ⟨k, hk⟩ := List.mem_iff_getElem?.mp hq
      exact h.1 k q hk
    · obtain ⟨k, hk⟩ := List.mem_iff_getElem?.mp hq
      exact h.2.1.2 k q hk
  · intro h
    refine ⟨fun k q hk => h.1 q (List.mem_of_getElem? hk), ⟨fun i j x y hi hj e9 => ?_, fun k q hk => h.2.2.1 q (List.mem_of_getElem? hk)⟩, h.2.2.2⟩
    have hn := h.2.1
    unfold List.Nodup at hn
    rw [List.pairwise_map, List.pairwise_iff_getElem] at hn
    obtain ⟨hi', ei⟩ := List.getElem?_eq_some_iff.mp hi
    obtain ⟨hj', ej⟩ := List.getElem?_eq_some_iff.mp hj
    rcases Nat.lt_trichotomy i j with z | z | z
    · exact absurd (by rw [ei, ej]; exact e9) (hn i j hi' hj' z)
    · exact z
    · exact absurd (by rw [ei, ej]; exact e9.symm) (hn j i hj' hi' z)
theorem HW_perm {ws' : va_W} (q : ws.Perm ws') (h : HW D A H0 ws H locs) : HW D A H0 ws' H locs := by
  rw [HW_iff] at h ⊢
  exact ⟨fun x hx => h.1 x (q.mem_iff.mpr hx), (q.map _).nodup_iff.mp h.2.1, fun x hx => h.2.2.1 x (q.mem_iff.mpr hx), h.2.2.2⟩
theorem HW_pre {x y : va_W} (h : HW D A H0 (x ++ y) H locs) : HW D A H0 x H locs := by
  rw [HW_iff] at h ⊢
  refine ⟨fun q hq => h.1 q (List.mem_append_left _ hq), ?_, fun q hq => h.2.2.1 q (List.mem_append_left _ hq), h.2.2.2⟩
  have q := h.2.1
  rw [List.map_append] at q
  exact (List.nodup_append.mp q).1
theorem HW_join {x y z : va_W} {H1 : Heap} {locs1 : List Loc} {t : State} (h : HW D A H0 (x ++ y) H locs) (hF : ∀ q, va_A x H.size q → A q) (hk : ∀ q : Nat, q < H.size → ¬ va_A x H.size q → H1[q]? = H[q]?) (ht : t.heap = H1) (hB : zAt D cI cB cZ (va_A x H.size) z t) (hS : va_S A H0 H1 locs1) : HW D A H0 (z ++ y) H1 locs1 := by
  obtain ⟨hP1, -, hD1⟩ := hB
  rw [ht] at hP1
  rw [HW_iff] at h ⊢
  obtain ⟨h1, h2, h3, -⟩ := h
  rw [List.map_append] at h2
  obtain ⟨n1, n2, n3⟩ := List.nodup_append.mp h2
  have hy : ∀ q, q ∈ y → q.1 < H.size ∧ ¬ va_A x H.size q.1 := fun q hq => by
    have hl := (h1 q (List.mem_append_right _ hq)).lt
    refine ⟨hl, fun w => ?_⟩
    rcases w with ⟨k, e9, w⟩ | w
    · exact n3 q.1 (List.mem_map.mpr ⟨(q.1, e9), List.mem_of_getElem? w, rfl⟩) q.1 (List.mem_map.mpr ⟨q, hq, rfl⟩) rfl
    · omega
  refine ⟨fun q hq => ?_, ?_, fun q hq => ?_, hS⟩
  · rcases List.mem_append.mp hq with hq | hq
    · obtain ⟨k, hk9⟩ := List.mem_iff_getElem?.mp hq
      exact hP1 k q hk9
    · exact (h1 q (List.mem_append_right _ hq)).kept (hk q.1 (hy q hq).1 (hy q hq).2)
  · rw [List.map_append]
    refine List.nodup_append.mpr ⟨nd_of_D hD1, n2, fun u hu v hv e9 => ?_⟩
    obtain ⟨q1, m1, e1⟩ := List.mem_map.mp hu
    obtain ⟨q2, m2, e2⟩ := List.mem_map.mp hv
    obtain ⟨k, hk9⟩ := List.mem_iff_getElem?.mp m1
    have w := hD1.2 k q1 hk9
    refine (hy q2 m2).2 ?_
    rw [show q2.1 = q1.1 by rw [e1, e2, e9]]
    exact w
  · rcases List.mem_append.mp hq with hq | hq
    · obtain ⟨k, hk9⟩ := List.mem_iff_getElem?.mp hq
      exact hF _ (hD1.2 k q hk9)
    · exact h3 q (List.mem_append_right _ hq)
variable {w0 v0 c0 d0 : va_W} {Ws Vs Cs Ds Rs : List va_W}
theorem z_sel (hw : HW D A H0 (bl w0 Ws) H locs) (is : List Nat) (hp : is.isPerm (List.range (Ws.length + 1)) = true) (h : is.map (fun i => (w0 :: Ws)[i]?) = (v0 :: Vs).map some) : HW D A H0 (bl v0 Vs) H locs := by
  rw [bl_flat] at hw ⊢
  have q : (w0 :: Ws).flatten.Perm (v0 :: Vs).flatten := (sel_perm is (by rw [List.length_cons]; exact hp) h).flatten
  rw [List.flatten_cons, List.flatten_cons] at q
  exact HW_perm q hw
theorem z_freeB (hw : HW D A H0 (bl c0 (Cs ++ Rs)) H locs) (hA : ∀ q, H0.size ≤ q → A q) : ∀ q, va_A (bl c0 Cs) H.size q → A q := by
  intro q h
  rcases h with ⟨k, e9, hk⟩ | h
  · rw [bl_app] at hw
    exact (HW_iff.mp hw).2.2.1 (q, e9) (List.mem_append_left _ (List.mem_of_getElem? hk))
  · exact hA q (Nat.le_trans hw.2.2.1 h)
theorem z_preB {As : List Value} (hK : va_K D vwCl (TY cI cB cZ) s) (hw : HW D A H0 (bl c0 (Cs ++ Rs)) H locs) : ∀ U : State, U.heap = H → s.WarmedH U.vm → va_Pc As (zPre D cI cB cZ H.size (bl c0 Cs)) As.toArray U := by
  rw [bl_app] at hw
  have h := HW_pre hw
  exact fun U hU hW => ⟨rfl, by rw [hU], by rw [hU]; exact h.1, va_K.moved hW.alike hK, h.2.1.weaken (fun _ _ _ _ => trivial)⟩
theorem z_preXB {aK aV : Nat → Nat} {As : List Value} (hK : va_K D vwCl (TY cI cB cZ) s) (hw : HW D A s.heap (bl c0 (Cs ++ Rs)) H locs) (hZ : ZX aK aV A s s.heap) (hF : ∀ q, va_A (bl c0 Cs) H.size q → A q) : ∀ U : State, U.heap = H → s.WarmedH U.vm → va_Pc As (zPreX aK aV D cI cB cZ H.size (bl c0 Cs)) As.toArray U := fun U hU hW => ⟨rfl, (z_preB (As := As) hK hw U hU hW).2, by rw [hU]; exact hZ.go hW hw.2.2.2.1 hF⟩
theorem z_preEB {sa sb : Nat} {As : List Value} (hK : va_K D vwCl (TY cI cB cZ) s) (hw : HW D A s.heap (bl c0 (Cs ++ Rs)) H locs) (hZ : ZE sa sb A s s.heap) (hF : ∀ q, va_A (bl c0 Cs) H.size q → A q) : ∀ U : State, U.heap = H → s.WarmedH U.vm → va_Pc As (zPreE sa sb D cI cB cZ H.size (bl c0 Cs)) As.toArray U := fun U hU hW => ⟨rfl, (z_preB (As := As) hK hw U hU hW).2, by rw [hU]; exact hZ.go hW hw.2.2.2.1 hF⟩
theorem z_preLB {sa sb : Nat} {As : List Value} (hK : va_K D vwCl (TY cI cB cZ) s) (hKL : va_K D vwCl (TY cI cB cZ ++ [(cL, .long)]) s) (hw : HW D A s.heap (bl c0 (Cs ++ Rs)) H locs) (hZ : ZE sa sb A s s.heap) (hF : ∀ q, va_A (bl c0 Cs) H.size q → A q) : ∀ U : State, U.heap = H → s.WarmedH U.vm → va_Pc As (zPreL cL sa sb D cI cB cZ H.size (bl c0 Cs)) As.toArray U := fun U hU hW => ⟨rfl, (z_preEB (As := As) hK hw hZ hF U hU hW).2, va_K.moved hW.alike hKL⟩
theorem z_afterB {H1 : Heap} {locs1 : List Loc} {t : State} (hw : HW D A H0 (bl c0 (Cs ++ Rs)) H locs) (hF : ∀ q, va_A (bl c0 Cs) H.size q → A q) (hk : ∀ q : Nat, q < H.size → ¬ va_A (bl c0 Cs) H.size q → H1[q]? = H[q]?) (ht : t.heap = H1) (hB : zAt D cI cB cZ (va_A (bl c0 Cs) H.size) (bl d0 Ds) t) (hS : va_S A H0 H1 locs1) : HW D A H0 (bl d0 (Ds ++ Rs)) H1 locs1 := by
  rw [bl_app] at hw ⊢
  exact HW_join hw hF hk ht hB hS
theorem z_recvB {ci : Nat} {q : vw_C} {fs : List Value} (hK : va_K D vwCl (TY cI cB cZ) s) (hw : HW D A H0 ws H locs) (hc : vwCl[ci]? = some q) (hm : (a, .inr (ci, fs)) ∈ ws) : ∃ cell : Cell, H[a]? = some cell ∧ cell.vm.isStatics = false ∧ s.vm.findClass q.1 = some cell.cls := by
  obtain ⟨k, hk⟩ := List.mem_iff_getElem?.mp hm
  exact va_recv hK hw.1 hc hk
theorem z_laldB (hx : p.tables.exec = Jvm.exec) (hb : c.code = cc) (hKL : va_K D vwCl (TY cI cB cZ ++ [(cL, .long)]) s) (hw : HW D A H0 ws H locs) {f : Nat → Int64} (hm : (a, .inl (cL, 1, .inr (.inl f))) ∈ ws) (hdg : decode cc pc = .ok (.laload, 1))
    (kk : W p l e R s m args below meth c H locs cells slots Q (F0 m (pc + 1) ls (.long (f 0) :: rest))) : W p l e R s m args below meth c H locs cells slots Q (F0 m pc ls (.int (zI 0) :: .ref a :: rest)) := by
  obtain ⟨k, hk⟩ := List.mem_iff_getElem?.mp hm
  exact z_lald hx hb hKL hw k hk hdg kk
end ZBL
