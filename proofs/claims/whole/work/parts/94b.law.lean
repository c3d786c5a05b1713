theorem z_selN {D : va_G} {A : Nat → Prop} {H0 H : Heap} {locs : List Loc} {w0 v0 : va_W} {Ws Vs : List va_W} (hw : HW D A H0 (bl w0 Ws) H locs) (is : List Nat) (n : Nat) (hn : Ws.length + 1 = n) (hp : is.isPerm (List.range n) = true) (h : is.map (fun i => (w0 :: Ws)[i]?) = (v0 :: Vs).map some) : HW D A H0 (bl v0 Vs) H locs := by
  subst hn
  exact z_sel hw is hp h
