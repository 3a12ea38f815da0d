/-! walks that make cells -/
def bmp (X : Cx) (cn sn : Nat) : Cx :=
  match X with
  | (p, l, e, R, s, m, args, below, meth, c, Q, D, A, nL, cells, slots) => (p, l, e, R, s, m, args, below, meth, c, Q, D, A, nL, cells + cn, slots + sn)
/-- so many cells and slots may still be made -/
def Rm (X : Cx) (cn sn : Nat) : Prop :=
  match X with
  | (_, _, _, R, _, _, _, _, _, _, _, _, _, _, cells, slots) => cells + cn ≤ R.cells ∧ slots + sn ≤ R.slots
theorem Ok.bmp {X : Cx} {l : Launch} {D : va_G} {k : Nat → ClassId} {g : Nat → Nat} {cc : ByteArray} {own : String} {n fr lo cn sn : Nat} (h : Ok X l D k g cc own n fr lo) (hr : Rm X cn sn) : Ok (bmp X cn sn) l D k g cc own n fr lo := by
  obtain ⟨p, l, e, R, s, m, args, below, meth, c, Q, D, A, nL, cells, slots⟩ := X
  obtain ⟨h1, h2, h3, hx, hb, hml, hown, hts, hK, hAm, hA, hfr, hlo, hce, hsl⟩ := h
  exact ⟨h1, h2, h3, hx, hb, hml, hown, hts, hK, hAm, hA, hfr, hlo, hr.1, hr.2⟩
theorem Rm.bmp {X : Cx} {c1 s1 c2 s2 : Nat} (h : Rm X (c1 + c2) (s1 + s2)) : Rm (bmp X c1 s1) c2 s2 := by
  obtain ⟨p, l, e, R, s, m, args, below, meth, c, Q, D, A, nL, cells, slots⟩ := X
  obtain ⟨h1, h2⟩ := h
  exact ⟨by show cells + c1 + c2 ≤ R.cells; omega, by show slots + s1 + s2 ≤ R.slots; omega⟩
theorem Rm.le {X : Cx} {c1 s1 c2 s2 : Nat} (h : Rm X c1 s1) (hc : c2 ≤ c1) (hs : s2 ≤ s1) : Rm X c2 s2 := by
  obtain ⟨p, l, e, R, s, m, args, below, meth, c, Q, D, A, nL, cells, slots⟩ := X
  obtain ⟨h1, h2⟩ := h
  exact ⟨by show cells + c2 ≤ R.cells; omega, by show slots + s2 ≤ R.slots; omega⟩
theorem V.newi {X : Cx} {l : Launch} {D : va_G} {k : Nat → ClassId} {g : Nat → Nat} {cc : ByteArray} {own : String} {n fr lo : Nat} {ws : va_W} {lv : List (Nat × Value)} {st : List Value} {pc : Nat} {x : Int32} (N : Nat) (hC : Ok X l D k g cc own n fr lo) (hr : Rm X 1 N) (hw : Cond.arrayClass .int ∈ lwG) (hx0 : x = nI N) (hN : N ≤ 100000) (hd : decode cc pc = .ok (.newarray .int, 2)) (kk : ∀ q : Nat, V (bmp X 1 N) (ws ++ [(q, .inl (k 0, N, .inl (fun _ => 0)))]) lv (.ref q :: st) (pc + 2)) : V X ws lv (.int x :: st) pc := by
  obtain ⟨p, l, e, R, s, m, args, below, meth, c, Q, D, A, nL, cells, slots⟩ := X
  obtain ⟨rfl, rfl, rfl, hx, hb, hml, hown, hts, hK, hAm, hA, hfr, hlo, hce, hsl⟩ := hC
  intro H locs ls hP hD hS hl
  subst hx0
  refine va_newa (atype := .int) (ty := .int) (N' := N) (a0 := (N, .inl (fun _ => 0))) hx hb (hts _ hw) rfl hK hP hD hS hA (fun cA => by rw [vp_cell_i]; rfl) (nI_pos (by omega)) (nI_clamp (by omega)) (by show N * 4 ≤ _; omega) hr.1 hr.2 hd (fun q cA H1 hK1 hP1 hD1 hS1 => ?_)
  have e0 : s.vm.findClass "[I" = some (k 0) := (hK.2 0 _ rfl).2
  have e1 : s.vm.findClass "[I" = some cA := (hK1.2 4 _ rfl).2
  have e2 : cA = k 0 := Option.some.inj (e1.symm.trans e0)
  subst e2
  exact kk q H1 locs ls hP1 hD1 hS1 hl
theorem V.newb {X : Cx} {l : Launch} {D : va_G} {k : Nat → ClassId} {g : Nat → Nat} {cc : ByteArray} {own : String} {n fr lo : Nat} {ws : va_W} {lv : List (Nat × Value)} {st : List Value} {pc : Nat} {x : Int32} (N : Nat) (hC : Ok X l D k g cc own n fr lo) (hr : Rm X 1 N) (hw : Cond.arrayClass .byte ∈ lwG) (hx0 : x = nI N) (hN : N ≤ 100000) (hd : decode cc pc = .ok (.newarray .byte, 2)) (kk : ∀ q : Nat, V (bmp X 1 N) (ws ++ [(q, .inl (k 1, N, .inl (fun _ => 0)))]) lv (.ref q :: st) (pc + 2)) : V X ws lv (.int x :: st) pc := by
  obtain ⟨p, l, e, R, s, m, args, below, meth, c, Q, D, A, nL, cells, slots⟩ := X
  obtain ⟨rfl, rfl, rfl, hx, hb, hml, hown, hts, hK, hAm, hA, hfr, hlo, hce, hsl⟩ := hC
  intro H locs ls hP hD hS hl
  subst hx0
  refine va_newa (atype := .byte) (ty := .byte) (N' := N) (a0 := (N, .inl (fun _ => 0))) hx hb (hts _ hw) rfl hK hP hD hS hA (fun cA => by rw [vp_cell_i]; rfl) (nI_pos (by omega)) (nI_clamp (by omega)) (by show N * 1 ≤ _; omega) hr.1 hr.2 hd (fun q cA H1 hK1 hP1 hD1 hS1 => ?_)
  have e0 : s.vm.findClass "[B" = some (k 1) := (hK.2 1 _ rfl).2
  have e1 : s.vm.findClass "[B" = some cA := (hK1.2 4 _ rfl).2
  have e2 : cA = k 1 := Option.some.inj (e1.symm.trans e0)
  subst e2
  exact kk q H1 locs ls hP1 hD1 hS1 hl
