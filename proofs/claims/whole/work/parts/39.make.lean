/-! walks that make cells -/
def bmp (X : Cx) (cn sn : Nat) : Cx :=
  match X with
  | (p, l, e, R, s, m, args, below, meth, c, Q, D, A, nL, cells, slots) => (p, l, e, R, s, m, args, below, meth, c, Q, D, A, nL, cells + cn, slots + sn)
/-- so many cells and slots may still be made -/
def Rm (X : Cx) (cn sn : Nat) : Prop :=
  match X with
  | (_, _, _, R, _, _, _, _, _, _, _, _, _, _, cells, slots) => cells + cn ≤ R.cells ∧ slots + sn ≤ R.slots
theorem Ok.bmp {X : Cx} {l : Launch} {D : va_G} {k : Nat → ClassId} {g : Nat → Nat} {cc : ByteArray} {own : String} {n fr lo cn sn : Nat} (h : Ok X l D k g cc own n fr lo) (hr : Rm X cn sn) : Ok (bmp X cn sn) l D k g cc own n fr lo := by
  obtain ⟨p, l, e, R, s, m, args, below, meth, c, Q, D, A, nL, cells, slots⟩ := X
  obtain ⟨h1, h2, h3, hx, hb, hml, hown, hts, hK, hAm, hA, hfr, hlo, hce, hsl⟩ := h
  exact ⟨h1, h2, h3, hx, hb, hml, hown, hts, hK, hAm, hA, hfr, hlo, hr.1, hr.2⟩
theorem Rm.bmp {X : Cx} {c1 s1 c2 s2 : Nat} (h : Rm X (c1 + c2) (s1 + s2)) : Rm (bmp X c1 s1) c2 s2 := by
  obtain ⟨p, l, e, R, s, m, args, below, meth, c, Q, D, A, nL, cells, slots⟩ := X
  obtain ⟨h1, h2⟩ := h
  exact ⟨by show cells + c1 + c2 ≤ R.cells; omega, by show slots + s1 + s2 ≤ R.slots; omega⟩
theorem Rm.le {X : Cx} {c1 s1 c2 s2 : Nat} (h : Rm X c1 s1) (hc : c2 ≤ c1) (hs : s2 ≤ s1) : Rm X c2 s2 := by
  obtain ⟨p, l, e, R, s, m, args, below, meth, c, Q, D, A, nL, cells, slots⟩ := X
  obtain ⟨h1, h2⟩ := h
  exact ⟨by show cells + c2 ≤ R.cells; omega, by show slots + s2 ≤ R.slots; omega⟩
theorem V.newi {X : Cx} {l : Launch} {D : va_G} {k : Nat → ClassId} {g : Nat → Nat} {cc : ByteArray} {own : String} {n fr lo : Nat} {ws : va_W} {lv : List (Nat × Value)} {st : List Value} {pc : Nat} {x : Int32} (N : Nat) (hC : Ok X l D k g cc own n fr lo) (hr : Rm X 1 N) (hw : Cond.arrayClass .int ∈ lwG) (hx0 : x = nI N) (hN : N ≤ 100000) (hd : decode cc pc = .ok (.newarray .int, 2)) (kk : ∀ q : Nat, V (bmp X 1 N) (ws ++ [(q, .inl (k 0, N, .inl (fun _ => 0)))]) lv (.ref q :: st) (pc + 2)) : V X ws lv (.int x :: st) pc := by
  obtain ⟨p, l, e, R, s, m, args, below, meth, c, Q, D, A, nL, cells, slots⟩ := X
  obtain ⟨rfl, rfl, rfl, hx, hb, hml, hown, hts, hK, hAm, hA, hfr, hlo, hce, hsl⟩ := hC
  intro H locs ls hP hD hS hl
  subst hx0
  refine va_newa (atype := .int) (ty := .int) (N' := N) (a0 := (N, .inl (fun _ => 0))) hx hb (hts _ hw) rfl hK hP hD hS hA (fun cA => by rw [vp_cell_i]; rfl) (nI_pos (by omega)) (nI_clamp (by omega)) (by show N * 4 ≤ _; omega) hr.1 hr.2 hd (fun q cA H1 hK1 hP1 hD1 hS1 => ?_)
  have e0 : s.vm.findClass "[I" = some (k 0) := (hK.2 0 _ rfl).2
  have e1 : s.vm.findClass "[I" = some cA := (hK1.2 4 _ rfl).2
  have e2 : cA = k 0 := Option.some.inj (e1.symm.trans e0)
  subst e2
  exact kk q H1 locs ls hP1 hD1 hS1 hl
theorem V.newb {X : Cx} {l : Launch} {D : va_G} {k : Nat → ClassId} {g : Nat → Nat} {cc : ByteArray} {own : String} {n fr lo : Nat} {ws : va_W} {lv : List (Nat × Value)} {st : List Value} {pc : Nat} {x : Int32} (N : Nat) (hC : Ok X l D k g cc own n fr lo) (hr : Rm X 1 N) (hw : Cond.arrayClass .byte ∈ lwG) (hx0 : x = nI N) (hN : N ≤ 100000) (hd : decode cc pc = .ok (.newarray .byte, 2)) (kk : ∀ q : Nat, V (bmp X 1 N) (ws ++ [(q, .inl (k 1, N, .inl (fun _ => 0)))]) lv (.ref q :: st) (pc + 2)) : V X ws lv (.int x :: st) pc := by
  obtain ⟨p, l, e, R, s, m, args, below, meth, c, Q, D, A, nL, cells, slots⟩ := X
  obtain ⟨rfl, rfl, rfl, hx, hb, hml, hown, hts, hK, hAm, hA, hfr, hlo, hce, hsl⟩ := hC
  intro H locs ls hP hD hS hl
  subst hx0
  refine va_newa (atype := .byte) (ty := .byte) (N' := N) (a0 := (N, .inl (fun _ => 0))) hx hb (hts _ hw) rfl hK hP hD hS hA (fun cA => by rw [vp_cell_i]; rfl) (nI_pos (by omega)) (nI_clamp (by omega)) (by show N * 1 ≤ _; omega) hr.1 hr.2 hd (fun q cA H1 hK1 hP1 hD1 hS1 => ?_)
  have e0 : s.vm.findClass "[B" = some (k 1) := (hK.2 1 _ rfl).2
  have e1 : s.vm.findClass "[B" = some cA := (hK1.2 4 _ rfl).2
  have e2 : cA = k 1 := Option.some.inj (e1.symm.trans e0)
  subst e2
  exact kk q H1 locs ls hP1 hD1 hS1 hl
/-- the array classes over Law and Sheet are there -/
def Kd (U : State) : Prop := va_AO "HandTown$Law" U ∧ va_AO "HandTown$Sheet" U
theorem Kd.moved {u U : State} (hvm : u.vm.Alike U.vm) (h : Kd u) : Kd U := ⟨h.1.moved hvm, h.2.moved hvm⟩
def Kx (X : Cx) : Prop :=
  match X with
  | (_, _, _, _, s, _, _, _, meth, _, _, _, _, _, _, _) => Kd s ∧ meth.name = "<init>"
theorem Kx.bmp {X : Cx} {cn sn : Nat} (h : Kx X) : Kx (bmp X cn sn) := by
  obtain ⟨p, l, e, R, s, m, args, below, meth, c, Q, D, A, nL, cells, slots⟩ := X
  obtain ⟨h1, h2⟩ := h
  exact ⟨h1, h2⟩
/-- the contract of a constructor: so many cells, so many slots -/
def CtN (l : Launch) (D : va_G) (k : Nat → ClassId) (g : Nat → Nat) (y : MethodName) (b : ByteArray) (n : Nat) (fr lo nc ns : Nat) (as : List Value) {S : Type} (ws : va_W) (ws' : S → va_W) (post : S → Prop) : Prop :=
  ∀ sz : Nat, Met l y (wU y b n none) ({ frames := fr, cells := nc, slots := ns, locals := lo }) (va_Pc as (fun U => U.heap.size = sz ∧ va_P D vwCl ws U.heap ∧ va_K D vwCl (tysK k) U ∧ va_D (fun _ => True) ws ∧ Amb g (va_A ws sz) U U.heap ∧ Kd U))
    (fun _ st oc t => (∃ (v : Option Value) (u : S), oc = .returned v ∧ (v = none ∧ post u) ∧ va_P D vwCl (ws' u) t.heap ∧ va_D (va_A ws sz) (ws' u)) ∧ va_F (va_A ws sz) st t) nc ns (va_A ws sz)
/-- the same walk, what it has made aside -/
def Sm (X Y : Cx) : Prop :=
  match X, Y with
  | (p, l, e, R, s, m, args, below, meth, c, Q, D, A, nL, _, _), (p', l', e', R', s', m', args', below', meth', c', Q', D', A', nL', _, _) => p = p' ∧ l = l' ∧ e = e' ∧ R = R' ∧ s = s' ∧ m = m' ∧ args = args' ∧ below = below' ∧ meth = meth' ∧ c = c' ∧ Q = Q' ∧ D = D' ∧ A = A' ∧ nL = nL'
theorem Sm.rf {X : Cx} : Sm X X := by
  obtain ⟨p, l, e, R, s, m, args, below, meth, c, Q, D, A, nL, cells, slots⟩ := X
  exact ⟨rfl, rfl, rfl, rfl, rfl, rfl, rfl, rfl, rfl, rfl, rfl, rfl, rfl, rfl⟩
theorem Sm.bmp {X Y : Cx} {cn sn : Nat} (h : Sm X Y) : Sm X (bmp Y cn sn) := by
  obtain ⟨p, l, e, R, s, m, args, below, meth, c, Q, D, A, nL, cells, slots⟩ := X
  obtain ⟨p', l', e', R', s', m', args', below', meth', c', Q', D', A', nL', cells', slots'⟩ := Y
  obtain ⟨h1, h2, h3, h4, h5, h6, h7, h8, h9, h10, h11, h12, h13, h14⟩ := h
  exact ⟨h1, h2, h3, h4, h5, h6, h7, h8, h9, h10, h11, h12, h13, h14⟩
theorem CtN.of {l : Launch} {D : va_G} {k : Nat → ClassId} {g : Nat → Nat} {y : MethodName} {b : ByteArray} {n : Nat} {fr lo nc ns : Nat} {as : List Value} {S : Type} {ws : va_W} {ws' : S → va_W} {post : S → Prop} (own : String) (hown : y.cls = own) (hy : plainFor y = true) (hnm : y.name = "<init>") (hlen : (lg_sl as).length ≤ n)
    (body : ∀ X : Cx, Ok X l D k g b own n fr lo → Kx X → Rm X nc ns → (∀ (Y : Cx) (u : S) (lv : List (Nat × Value)) (pc : Nat), Sm X Y → Rm Y 0 0 → decode b pc = .ok (.return_, 1) → post u → V Y (ws' u) lv [] pc) → V X ws (lv_args 0 as) [] 0) : CtN l D k g y b n fr lo nc ns as ws ws' post := by
  intro sz
  refine va_MetF (cc := b) (maxL := n) (ret := none) hy rfl ?_
  intro p e s m args below meth c s₁ B hml hv
  obtain ⟨rfl, hsz, hP, hK, hD0, hAm, hKd⟩ := hv
  have hx := B.exec
  have hb := B.bytes
  have hr := B.returns
  have hts := atoms_spec (ws := wU y b n none) B.pre
  have hown : s.vm.findClass own = some m.cls := by rw [← hown]; exact findClass_of_methodNamed B.named
  have hlocks := B.notSynchronized
  have hin : meth.name = "<init>" := by rw [← hnm]; exact (name_of_methodNamed B.named B.method).1
  subst hsz
  have hD := hD0.self (sz := s.heap.size)
  have hl := lv_entry as (n := n) hlen
  rw [lg_entry_eq]
  generalize (lg_sl as ++ List.replicate (n - (lg_sl as).length) Slot.unset).toArray = ls at hl ⊢
  refine body (p, l, e, (headSpec (wU y b n none) ({ frames := fr, cells := nc, slots := ns, locals := lo })).room, s, m, as.toArray, below, meth, c, _, D, va_A ws s.heap.size, n, 0, 0)
    ⟨rfl, rfl, rfl, hx, hb, hml, hown, fun w hw => hts w (List.mem_cons_of_mem _ hw), hK, hAm, fun q h => Or.inr h, Nat.le_refl _, Nat.le_refl _, Nat.zero_le _, Nat.zero_le _⟩ ⟨hKd, hin⟩ ⟨by show 0 + nc ≤ nc; omega, by show 0 + ns ≤ ns; omega⟩ (fun Y u lv pc hs hrm hd hpost => ?_) s.heap [] ls hP hD va_S.rf hl
  obtain ⟨p', l', e', R', s', m', args', below', meth', c', Q', D', A', nL', cells', slots'⟩ := Y
  obtain ⟨rfl, rfl, rfl, rfl, rfl, rfl, rfl, rfl, rfl, rfl, rfl, rfl, rfl, rfl⟩ := hs
  intro H locs ls hP hD hS hl
  have h1 : cells' + 0 ≤ nc := hrm.1
  have h2 : slots' + 0 ≤ ns := hrm.2
  refine W.widen (k := nc) (n := ns) (by omega) (by omega) ?_
  exact W.vret hx hb hr (fun t ht hW => ⟨⟨none, u, rfl, ⟨rfl, hpost⟩, by rw [ht]; exact hP, hD⟩, hS.F ht⟩) hS.2.2 hd
theorem V.afterN {l : Launch} {D : va_G} {as' : List Value} {S : Type} {wc : va_W} {wc' : S → va_W} {post : Option Value → S → Prop}
    {p : Program} {e : Env} {R : Room} {s : State} {m : MethodId} {args : Array Value} {below : List Frame} {meth : Method} {c : Code} {Q : State → Prop} {A : Nat → Prop} {nL cells slots : Nat} {wl wr : va_W} {lv : List (Nat × Value)} {rest st : List Value} {pc : Nat} {H : Heap} {locs : List Loc} {ls : Array Slot}
    (hP : va_P D vwCl (wl ++ (wc ++ wr)) H) (hD : va_D A (wl ++ (wc ++ wr))) (hS : va_S A s.heap H locs) (hl : lv_has ls nL lv) (hA : ∀ q, s.heap.size ≤ q → A q)
    {mc ms : Nat} (hrun : va_Run p l e R s m args below meth c H locs cells slots mc ms (F0 m pc ls st) rest ((fun _ st oc t => (∃ (v : Option Value) (u : S), oc = .returned v ∧ post v u ∧ va_P D vwCl (wc' u) t.heap ∧ va_D (va_A wc H.size) (wc' u)) ∧ va_F (va_A wc H.size) st t : Array Value → State → Outcome → State → Prop) as'.toArray) (va_A wc H.size))
    (kk : ∀ (v : Option Value) (u : S), post v u → V (p, l, e, R, s, m, args, below, meth, c, Q, D, A, nL, cells + mc, slots + ms) (wl ++ (wc' u ++ wr)) lv (v.toList ++ rest) (pc + 3)) : W p l e R s m args below meth c H locs cells slots Q (F0 m pc ls st) := by
  intro T hT X
  obtain ⟨v9, st₀, t, T', L, h0, X', hL, e1, e2, ⟨⟨v, u, hv, hp, hP1, hD1⟩, hz, hk⟩, st9⟩ := hrun T hT X
  cases hv
  rw [h0] at hz hk
  have hwc : va_P D vwCl wc H := fun i q hi => hP (wl.length + i) q (by rw [List.getElem?_append_right (by omega), Nat.add_sub_cancel_left, List.getElem?_append_left (List.getElem?_eq_some_iff.mp hi).1]; exact hi)
  have hin : ∀ (i : Nat) (q : Nat × va_E), wc[i]? = some q → (wl ++ (wc ++ wr))[wl.length + i]? = some q := fun i q hi => by rw [List.getElem?_append_right (by omega), Nat.add_sub_cancel_left, List.getElem?_append_left (List.getElem?_eq_some_iff.mp hi).1]; exact hi
  have hFc : ∀ q, va_A wc H.size q → A q := by
    intro q h
    rcases h with ⟨i, e9, h⟩ | h
    · exact hD.2 _ (q, e9) (hin i _ h)
    · exact hA q (Nat.le_trans hS.1 h)
  have hdl : ∀ (i : Nat) (q : Nat × va_E), wl[i]? = some q → q.1 < H.size ∧ ¬ va_A wc H.size q.1 := by
    intro i q hi
    have hli := (List.getElem?_eq_some_iff.mp hi).1
    have hi2 : (wl ++ (wc ++ wr))[i]? = some q := by rw [List.getElem?_append_left hli]; exact hi
    have hlt := (hP i q hi2).lt
    refine ⟨hlt, fun h => ?_⟩
    rcases h with ⟨j, e9, h⟩ | h
    · have := hD.1 i _ q (q.1, e9) hi2 (hin j _ h) rfl
      omega
    · omega
  have hdr : ∀ (i : Nat) (q : Nat × va_E), wr[i]? = some q → q.1 < H.size ∧ ¬ va_A wc H.size q.1 := by
    intro i q hi
    have hi2 : (wl ++ (wc ++ wr))[wl.length + (wc.length + i)]? = some q := by
      rw [List.getElem?_append_right (by omega), Nat.add_sub_cancel_left, List.getElem?_append_right (by omega), Nat.add_sub_cancel_left]; exact hi
    have hlt := (hP _ q hi2).lt
    refine ⟨hlt, fun h => ?_⟩
    rcases h with ⟨j, e9, h⟩ | h
    · have h7 := hD.1 _ _ q (q.1, e9) hi2 (hin j _ h) rfl
      have h8 := (List.getElem?_eq_some_iff.mp h).1
      omega
    · omega
  have hPl : va_P D vwCl wl H := fun i q hi => hP i q (by rw [List.getElem?_append_left (List.getElem?_eq_some_iff.mp hi).1]; exact hi)
  have hPr : va_P D vwCl wr H := fun i q hi => hP (wl.length + (wc.length + i)) q (by rw [List.getElem?_append_right (by omega), Nat.add_sub_cancel_left, List.getElem?_append_right (by omega), Nat.add_sub_cancel_left]; exact hi)
  have hDl : va_D A wl := ⟨fun i j x z hi hj hxz => hD.1 i j x z (by rw [List.getElem?_append_left (List.getElem?_eq_some_iff.mp hi).1]; exact hi) (by rw [List.getElem?_append_left (List.getElem?_eq_some_iff.mp hj).1]; exact hj) hxz, fun i q hi => hD.2 i q (by rw [List.getElem?_append_left (List.getElem?_eq_some_iff.mp hi).1]; exact hi)⟩
  have hir : ∀ (i : Nat) (q : Nat × va_E), wr[i]? = some q → (wl ++ (wc ++ wr))[wl.length + (wc.length + i)]? = some q := fun i q hi => by rw [List.getElem?_append_right (by omega), Nat.add_sub_cancel_left, List.getElem?_append_right (by omega), Nat.add_sub_cancel_left]; exact hi
  have hDr : va_D A wr := ⟨fun i j x z hi hj hxz => by have := hD.1 _ _ x z (hir i x hi) (hir j z hj) hxz; omega, fun i q hi => hD.2 _ q (hir i q hi)⟩
  have hP2 : va_P D vwCl (wl ++ (wc' u ++ wr)) T'.heap := by
    rw [e1]
    exact (hPl.kept (fun i q hi => hk q.1 (hdl i q hi).1 (hdl i q hi).2)).app (hP1.app (hPr.kept (fun i q hi => hk q.1 (hdr i q hi).1 (hdr i q hi).2)))
  have hD2 : va_D A (wl ++ (wc' u ++ wr)) := by
    refine va_D.app hDl (va_D.app (hD1.weaken (fun i q _ h => hFc q.1 h)) hDr (fun i j x z hi hj hxz => ?_)) (fun i j x z hi hj hxz => ?_)
    · exact (hdr j z hj).2 (hxz ▸ hD1.2 i x hi)
    · rcases List.mem_append.mp (List.mem_of_getElem? hj) with hm | hm
      · obtain ⟨j2, hj2⟩ := List.getElem?_of_mem hm
        exact (hdl i x hi).2 (hxz ▸ hD1.2 j2 z hj2)
      · obtain ⟨j2, hj2⟩ := List.getElem?_of_mem hm
        have h6 := hD.1 i _ x z (by rw [List.getElem?_append_left (List.getElem?_eq_some_iff.mp hi).1]; exact hi) (hir j2 z hj2) hxz
        have h7 := (List.getElem?_eq_some_iff.mp hi).1
        omega
  obtain ⟨t2, a1, b1⟩ := kk v9 u hp T'.heap (locs ++ L) ls hP2 hD2 ⟨Nat.le_trans hS.1 (by rw [e1]; exact hz), fun q h1 h2 => by rw [e1, hk q (Nat.lt_of_lt_of_le h1 hS.1) (fun z => h2 (hFc q z))]; exact hS.2.1 q h1 h2, fun q hq => by
      rcases List.mem_append.mp hq with h | h
      · exact hS.2.2 q h
      · exact hFc _ (hL q h)⟩ hl T' rfl X'
  exact ⟨t2, st9 t2 a1, b1⟩
theorem V.callI {X : Cx} {l : Launch} {D : va_G} {k : Nat → ClassId} {g : Nat → Nat} {cc : ByteArray} {own : String} {n fr lo : Nat} {ws : va_W} {lv : List (Nat × Value)} {pc : Nat} {idx : Nat} {y : MethodName} {yb : ByteArray} {yn fr' lo' nc ns a : Nat} {as : List Value} {S : Type} {wl wc wr : va_W} {wc' : S → va_W} {post : S → Prop} {rest stk : List Value} (hC : Ok X l D k g cc own n fr lo) (hKx : Kx X) (hr : Rm X nc ns) (hct : CtN l D k g y yb yn fr' lo' nc ns (.ref a :: as) wc wc' post) (hU : MI y yb yn as.length) (hin : y.name = "<init>") (hlk : Cond.methodLink own idx y ∈ lwG) (hroom : fr' + 1 ≤ fr ∧ 8 + (yn + 11) + lo' ≤ lo) (hst : stk = as.reverse ++ .ref a :: rest) (hsum : (rest.map fun v => v.category).sum ≤ 8) (hws : ws = wl ++ (wc ++ wr)) (hd : decode cc pc = .ok (.invokespecial idx, 3)) (kk : ∀ (u : S), post u → V (bmp X nc ns) (wl ++ (wc' u ++ wr)) lv rest (pc + 3)) : V X ws lv stk pc := by
  obtain ⟨p, l, e, R, s, m, args, below, meth, c, Q, D, A, nL, cells, slots⟩ := X
  obtain ⟨rfl, rfl, rfl, hx, hb, hml, hown, hts, hK, hAm, hA, hfr, hlo, hce, hsl⟩ := hC
  intro H locs ls hP hD hS hl
  subst hws; subst hst
  obtain ⟨hKd, hKi⟩ := hKx
  have hpre0 := V.pre (k := k) (g := g) (as := .ref a :: as) hP hD hS hA hK hAm
  have hpre : PreS s H (va_Pc (.ref a :: as) (fun U => U.heap.size = H.size ∧ va_P D vwCl wc U.heap ∧ va_K D vwCl (tysK k) U ∧ va_D (fun _ => True) wc ∧ Amb g (va_A wc H.size) U U.heap ∧ Kd U)) (.ref a :: as) := by
    refine ⟨fun a' U gg mk q => ?_, fun U hU hW => ?_⟩
    · obtain ⟨q0, q1, qP, qK, qD, qA, qd⟩ := q
      have h := hpre0.1 a' U gg mk ⟨q0, q1, qP, qK, qD, qA⟩
      exact ⟨h.1, h.2.1, h.2.2.1, h.2.2.2.1, h.2.2.2.2.1, h.2.2.2.2.2, qd.moved (Vm.Alike.refl U.vm)⟩
    · have h := hpre0.2 U hU hW
      exact ⟨h.1, h.2.1, h.2.2.1, h.2.2.2.1, h.2.2.2.2.1, h.2.2.2.2.2, hKd.moved hW.alike⟩
  exact V.afterN (as' := .ref a :: as) (post := fun v u => v = none ∧ post u) hP hD hS hl hA (va_runI (As := as) (rest := rest) ⟨hx, hb, hml, hown, hts⟩ (hct H.size) ⟨callB_of as.length hts (gU hU.1) rfl rfl rfl (hts _ hU.2.2.1) (hts _ hlk) hU.2.2.2 ⟨Nat.le_trans hroom.1 hfr, Nat.le_trans hroom.2 hlo⟩, hin, hts _ hU.2.1⟩ hpre rfl rfl hl.1 rfl (lv_room hsum) hd hr) (fun v u hvu => by obtain ⟨rfl, hu⟩ := hvu; exact kk u hu)
theorem V.newo {X : Cx} {l : Launch} {D : va_G} {k : Nat → ClassId} {g : Nat → Nat} {cc : ByteArray} {own : String} {n fr lo : Nat} {ws : va_W} {lv : List (Nat × Value)} {st : List Value} {pc : Nat} {ci : Nat} {C : String} {T : u_T} {N : Nat} {ty : Nat → FieldType} {idx : Nat} {fs : List Value} (hC : Ok X l D k g cc own n fr lo) (hr : Rm X 1 N) (hF : CF ci C T N ty) (hcl : Cond.classLink own idx C ∈ lwG) (hin : Cond.instantiable C N ∈ lwG) (hini : Cond.initialized C ∈ lwG) (hfs : ∀ j, j < N → defaultValue (ty j) = vp_V fs j) (hd : decode cc pc = .ok (.new idx, 3)) (kk : ∀ q : Nat, V (bmp X 1 N) (ws ++ [(q, .inr (ci, fs))]) lv (.ref q :: st) (pc + 3)) : V X ws lv st pc := by
  obtain ⟨p, l, e, R, s, m, args, below, meth, c, Q, D, A, nL, cells, slots⟩ := X
  obtain ⟨rfl, rfl, rfl, hx, hb, hml, hown, hts, hK, hAm, hA, hfr, hlo, hce, hsl⟩ := hC
  intro H locs ls hP hD hS hl
  exact va_new (C := C) (T := T) (N := N) hx hb hts hF.2.1 ty hF.2.2.1 hown (hts _ hcl) (hts _ hin) (hts _ hini) hK hP hD hS hA hF.1 hfs hr.1 hr.2 hd (fun q H1 hP1 hD1 hS1 => kk q H1 locs ls hP1 hD1 hS1 hl)
theorem V.putF {X : Cx} {l : Launch} {D : va_G} {k : Nat → ClassId} {g : Nat → Nat} {cc : ByteArray} {own : String} {n fr lo : Nat} {ws : va_W} {lv : List (Nat × Value)} {st : List Value} {pc : Nat} {ci : Nat} {C : String} {T : u_T} {N : Nat} {ty : Nat → FieldType} {idx a : Nat} {fs : List Value} {v : Value} (hC : Ok X l D k g cc own n fr lo) (hKx : Kx X) (hF : CF ci C T N ty) (q j : Nat) (ws' : va_W) (hlk : Cond.fieldLink own idx (T j).1 (T j).2.1 (T j).2.2.1 ∈ lwG) (hj : j < N) (he : ws[q]? = some (a, .inr (ci, fs))) (hfin : (T j).2.2.2 = true) (hdecl : (T j).1 = own) (hnr : narrow (ty j) v = v) (hft : fits (ty j) v = true) (hlf : j < fs.length) (hws : ws.set q (a, .inr (ci, fs.set j v)) = ws') (hd : decode cc pc = .ok (.putfield idx, 3)) (kk : V X ws' lv st (pc + 3)) : V X ws lv (v :: .ref a :: st) pc := by
  obtain ⟨p, l, e, R, s, m, args, below, meth, c, Q, D, A, nL, cells, slots⟩ := X
  obtain ⟨rfl, rfl, rfl, hx, hb, hml, hown, hts, hK, hAm, hA, hfr, hlo, hce, hsl⟩ := hC
  intro H locs ls hP hD hS hl
  exact va_putF (C := C) (T := T) (N := N) (ref := (T j).1) (ty := ty j) hx hb hts hF.2.1 ty hF.2.2.1 hF.2.2.2 hown hK hP hD hS q he hF.1 j hj (hts _ hlk) (fun _ h9 => h9) hfin hKx.2 hdecl (hF.2.2.1 j hj) hnr hft hlf hd (fun H locs hP hD hS => kk H locs ls (hws ▸ hP) (hws ▸ hD) hS hl)
theorem V.objInit {X : Cx} {l : Launch} {D : va_G} {k : Nat → ClassId} {g : Nat → Nat} {cc : ByteArray} {own : String} {n fr lo : Nat} {ws : va_W} {lv : List (Nat × Value)} {st : List Value} {pc : Nat} {idx a : Nat} (hC : Ok X l D k g cc own n fr lo) (hlk : Cond.methodLink own idx objectInit ∈ lwG) (hroom : 1 ≤ fr ∧ (st.map fun v => v.category).sum + 12 ≤ lo) (hd : decode cc pc = .ok (.invokespecial idx, 3)) (kk : V X ws lv st (pc + 3)) : V X ws lv (.ref a :: st) pc := by
  obtain ⟨p, l, e, R, s, m, args, below, meth, c, Q, D, A, nL, cells, slots⟩ := X
  obtain ⟨rfl, rfl, rfl, hx, hb, hml, hown, hts, hK, hAm, hA, hfr, hlo, hce, hsl⟩ := hC
  intro H locs ls hP hD hS hl
  refine W.objInit hx hb hown (hts _ hlk) (hts _ mw_ob_i) (hts _ mw_ob_c) rfl (by rw [hml]; exact hl.1) rfl hd (Nat.le_trans hroom.1 hfr) (Nat.le_trans (by have h9 := hroom.2; show 2 * 0 + (st.map fun v => v.category).sum + 12 ≤ lo; omega) hlo) ?_
  exact W.eq (g2 := F0 m (pc + 3) ls st) rfl (kk H locs ls hP hD hS hl)
theorem V.newq {X : Cx} {l : Launch} {D : va_G} {k : Nat → ClassId} {g : Nat → Nat} {cc : ByteArray} {own : String} {n fr lo : Nat} {ws : va_W} {lv : List (Nat × Value)} {st : List Value} {pc : Nat} {x : Int32} {idx : Nat} {C : String} {cT : ClassId} (N t : Nat) (hC : Ok X l D k g cc own n fr lo) (hKx : Kx X) (hr : Rm X 1 N) (ht : (tysK k)[t]? = some (cT, .object C)) (hcl : Cond.classLink own idx C ∈ lwG) (hO : ∀ U, Kd U → va_AO C U) (hx0 : x = nI N) (hN : N ≤ 100000) (hd : decode cc pc = .ok (.anewarray idx, 3)) (kk : ∀ q : Nat, V (bmp X 1 N) (ws ++ [(q, .inl (cT, N, .inr (.inr (.inr (.inr (fun _ => none))))))]) lv (.ref q :: st) (pc + 3)) : V X ws lv (.int x :: st) pc := by
  obtain ⟨p, l, e, R, s, m, args, below, meth, c, Q, D, A, nL, cells, slots⟩ := X
  obtain ⟨rfl, rfl, rfl, hx, hb, hml, hown, hts, hK, hAm, hA, hfr, hlo, hce, hsl⟩ := hC
  intro H locs ls hP hD hS hl
  subst hx0
  refine va_newq (C := C) (N' := N) hx hb hown (hts _ hcl) (hO _ hKx.1) hK hP hD hS hA (nI_pos (by omega)) (nI_clamp (by omega)) (by omega) hr.1 hr.2 hd (fun q cA H1 hK1 hP1 hD1 hS1 => ?_)
  obtain ⟨_, _, _, _, _, e0⟩ := (hK.2 t _ ht).2
  obtain ⟨_, _, _, _, _, e1⟩ := (hK1.2 4 (cA, .object C) rfl).2
  have e2 : cA = cT := Option.some.inj (e1.symm.trans e0)
  subst e2
  exact kk q H1 locs ls hP1 hD1 hS1 hl
theorem V.aast {X : Cx} {l : Launch} {D : va_G} {k : Nat → ClassId} {g : Nat → Nat} {cc : ByteArray} {own : String} {n fr lo : Nat} {ws : va_W} {lv : List (Nat × Value)} {st : List Value} {pc : Nat} {i : Int32} {a v N : Nat} {cT : ClassId} {f : Nat → Option Nat} {r : vw_C} {vs : List Value} (hC : Ok X l D k g cc own n fr lo) (q0 t0 qk ci j : Nat) (ws' : va_W) (ha : ws[q0]? = some (a, .inl (cT, N, .inr (.inr (.inr (.inr f)))))) (ht : (tysK k)[t0]? = some (cT, .object r.1)) (hv : ws[qk]? = some (v, .inr (ci, vs))) (hc : vwCl[ci]? = some r) (hi : i = nI j) (hj : j < N) (hN : N < 2147483648) (hws : ws.set q0 (a, .inl (cT, N, .inr (.inr (.inr (.inr (va_up f j (some v))))))) = ws') (hd : decode cc pc = .ok (.aastore, 1)) (kk : V X ws' lv st (pc + 1)) : V X ws lv (.ref v :: .int i :: .ref a :: st) pc := by
  obtain ⟨p, l, e, R, s, m, args, below, meth, c, Q, D, A, nL, cells, slots⟩ := X
  obtain ⟨rfl, rfl, rfl, hx, hb, hml, hown, hts, hK, hAm, hA, hfr, hlo, hce, hsl⟩ := hC
  intro H locs ls hP hD hS hl
  subst hi
  refine va_astq hx hb hK hP hD hS q0 t0 qk ci ha ht hv hc (vp_in_nI hj hN) hd (fun H1 locs1 hP1 hD1 hS1 => ?_)
  rw [nI_clamp (by omega), hws] at hP1 hD1
  exact kk H1 locs1 ls hP1 hD1 hS1 hl
