/-! the law: its rules, its first state -/
def Scr (X : Cx) (b L : Nat) (xs : Nat → Int32) : Prop :=
  match X with
  | (_, _, _, _, s, _, _, _, _, _, _, _, A, _, _, _) => va_X b L xs s s.heap ∧ b < s.heap.size ∧ ¬ A b
theorem Scr.bmp {X : Cx} {b L cn sn : Nat} {xs : Nat → Int32} (h : Scr X b L xs) : Scr (bmp X cn sn) b L xs := by
  obtain ⟨p, l, e, R, s, m, args, below, meth, c, Q, D, A, nL, cells, slots⟩ := X
  exact h
def KdX (X : Cx) : Prop :=
  match X with
  | (_, _, _, _, s, _, _, _, _, _, _, _, _, _, _, _) => Kd s
theorem KdX.bmp {X : Cx} {cn sn : Nat} (h : KdX X) : KdX (bmp X cn sn) := by
  obtain ⟨p, l, e, R, s, m, args, below, meth, c, Q, D, A, nL, cells, slots⟩ := X
  exact h
theorem V.sld {X : Cx} {l : Launch} {D : va_G} {k : Nat → ClassId} {g : Nat → Nat} {cc : ByteArray} {own : String} {n fr lo : Nat} {ws : va_W} {lv : List (Nat × Value)} {st : List Value} {pc : Nat} {b L : Nat} {xs : Nat → Int32} {i : Int32} (j : Nat) (hC : Ok X l D k g cc own n fr lo) (hX : Scr X b L xs) (hi : i = nI j) (hj : j < L) (hL : L ≤ 3072) (hd : decode cc pc = .ok (.iaload, 1)) (kk : V X ws lv (.int (xs j) :: st) (pc + 1)) : V X ws lv (.int i :: .ref b :: st) pc := by
  obtain ⟨p, l, e, R, s, m, args, below, meth, c, Q, D, A, nL, cells, slots⟩ := X
  obtain ⟨rfl, rfl, rfl, hx, hb, hml, hown, hts, hK, hAm, hA, hfr, hlo, hce, hsl⟩ := hC
  obtain ⟨h1, h2, h3⟩ := hX
  intro H locs ls hP hD hS hl
  subst hi
  refine va_sld hx hb h1 h2 h3 hS (vp_in_nI hj (by omega)) hd ?_
  rw [nI_clamp (by omega)]
  exact kk H locs ls hP hD hS hl
theorem V.slen {X : Cx} {l : Launch} {D : va_G} {k : Nat → ClassId} {g : Nat → Nat} {cc : ByteArray} {own : String} {n fr lo : Nat} {ws : va_W} {lv : List (Nat × Value)} {st : List Value} {pc : Nat} {b L : Nat} {xs : Nat → Int32} (hC : Ok X l D k g cc own n fr lo) (hX : Scr X b L xs) (hd : decode cc pc = .ok (.arraylength, 1)) (kk : V X ws lv (.int (nI L) :: st) (pc + 1)) : V X ws lv (.ref b :: st) pc := by
  obtain ⟨p, l, e, R, s, m, args, below, meth, c, Q, D, A, nL, cells, slots⟩ := X
  obtain ⟨rfl, rfl, rfl, hx, hb, hml, hown, hts, hK, hAm, hA, hfr, hlo, hce, hsl⟩ := hC
  obtain ⟨h1, h2, h3⟩ := hX
  intro H locs ls hP hD hS hl
  exact va_slen hx hb h1 h2 h3 hS hd (kk H locs ls hP hD hS hl)
/-- the same cells in another order -/
theorem V.re {X : Cx} {ws ws' : va_W} {lv : List (Nat × Value)} {st : List Value} {pc : Nat} (is : List Nat) (hn : va_nd is = true) (hs : is.map (fun i => ws[i]?) = ws'.map some) (kk : V X ws' lv st pc) : V X ws lv st pc := by
  obtain ⟨p, l, e, R, s, m, args, below, meth, c, Q, D, A, nL, cells, slots⟩ := X
  intro H locs ls hP hD hS hl
  have e : is.filterMap (fun i => ws[i]?) = ws' := by
    have e1 : is.filterMap (fun i => ws[i]?) = (is.map (fun i => ws[i]?)).filterMap id := by rw [List.filterMap_map]; rfl
    rw [e1, hs, List.filterMap_map]
    exact List.filterMap_some
  exact kk H locs ls (hP.sub is e) (hD.sub is hn hs) hS hl
theorem arrV_to {cI : ClassId} {N : Nat} {f f' : Nat → Value} (h : ∀ j, j < N → f j = f' j) : arrV cI N f = arrV cI N f' := by
  unfold arrV
  rw [show (fun j : Fin N => f j.val) = fun j => f' j.val from funext fun j => h j.val j.isLt]
/-- an array of references: what it holds within -/
theorem V.rx {X : Cx} {ws : va_W} {lv : List (Nat × Value)} {st : List Value} {pc a nn : Nat} {cT : ClassId} {f f' : Nat → Option Nat} (q : Nat) (ws' : va_W) (hq : ws[q]? = some (a, .inl (cT, nn, .inr (.inr (.inr (.inr f)))))) (he : ∀ i, i < nn → f i = f' i) (hw : ws.set q (a, .inl (cT, nn, .inr (.inr (.inr (.inr f'))))) = ws') (kk : V X ws' lv st pc) : V X ws lv st pc := by
  obtain ⟨p, l, e, R, s, m, args, below, meth, c, Q, D, A, nL, cells, slots⟩ := X
  intro H locs ls hP hD hS hl
  have h1 : H[a]? = some (vp_cell cT (nn, .inr (.inr (.inr (.inr f))))) := hP q _ hq
  have h2 : va_at D vwCl (a, .inl (cT, nn, .inr (.inr (.inr (.inr f'))))) H := by
    show H[a]? = some (vp_cell cT (nn, .inr (.inr (.inr (.inr f')))))
    rw [h1, vp_cell_q, vp_cell_q, arrV_to (fun j hj => by rw [he j hj])]
  exact kk H locs ls (hw ▸ hP.set hD hq h2 (fun _ _ => rfl)) (hw ▸ hD.set hq) hS hl
theorem V.callC {X : Cx} {l : Launch} {D : va_G} {k : Nat → ClassId} {g : Nat → Nat} {cc : ByteArray} {own : String} {n fr lo : Nat} {ws : va_W} {lv : List (Nat × Value)} {pc : Nat} {idx : Nat} {y : MethodName} {yb : ByteArray} {yn fr' lo' nc ns a : Nat} {as : List Value} {S : Type} {wl wc wr : va_W} {wc' : S → va_W} {post : S → Prop} {rest stk : List Value} (hC : Ok X l D k g cc own n fr lo) (hKd : KdX X) (hr : Rm X nc ns) (hct : CtN l D k g y yb yn fr' lo' nc ns (.ref a :: as) wc wc' post) (hU : MI y yb yn as.length) (hin : y.name = "<init>") (hlk : Cond.methodLink own idx y ∈ lwG) (hroom : fr' + 1 ≤ fr ∧ 8 + (yn + 11) + lo' ≤ lo) (hst : stk = as.reverse ++ .ref a :: rest) (hsum : (rest.map fun v => v.category).sum ≤ 8) (hws : ws = wl ++ (wc ++ wr)) (hd : decode cc pc = .ok (.invokespecial idx, 3)) (kk : ∀ (u : S), post u → V (bmp X nc ns) (wl ++ (wc' u ++ wr)) lv rest (pc + 3)) : V X ws lv stk pc := by
  obtain ⟨p, l, e, R, s, m, args, below, meth, c, Q, D, A, nL, cells, slots⟩ := X
  obtain ⟨rfl, rfl, rfl, hx, hb, hml, hown, hts, hK, hAm, hA, hfr, hlo, hce, hsl⟩ := hC
  intro H locs ls hP hD hS hl
  subst hws; subst hst
  have hKd : Kd s := hKd
  have hpre0 := V.pre (k := k) (g := g) (as := .ref a :: as) hP hD hS hA hK hAm
  have hpre : PreS s H (va_Pc (.ref a :: as) (fun U => U.heap.size = H.size ∧ va_P D vwCl wc U.heap ∧ va_K D vwCl (tysK k) U ∧ va_D (fun _ => True) wc ∧ Amb g (va_A wc H.size) U U.heap ∧ Kd U)) (.ref a :: as) := by
    refine ⟨fun a' U gg mk q => ?_, fun U hU hW => ?_⟩
    · obtain ⟨q0, q1, qP, qK, qD, qA, qd⟩ := q
      have h := hpre0.1 a' U gg mk ⟨q0, q1, qP, qK, qD, qA⟩
      exact ⟨h.1, h.2.1, h.2.2.1, h.2.2.2.1, h.2.2.2.2.1, h.2.2.2.2.2, qd.moved (Vm.Alike.refl U.vm)⟩
    · have h := hpre0.2 U hU hW
      exact ⟨h.1, h.2.1, h.2.2.1, h.2.2.2.1, h.2.2.2.2.1, h.2.2.2.2.2, hKd.moved hW.alike⟩
  exact V.afterN (as' := .ref a :: as) (post := fun v u => v = none ∧ post u) hP hD hS hl hA (va_runI (As := as) (rest := rest) ⟨hx, hb, hml, hown, hts⟩ (hct H.size) ⟨callB_of as.length hts (gU hU.1) rfl rfl rfl (hts _ hU.2.2.1) (hts _ hlk) hU.2.2.2 ⟨Nat.le_trans hroom.1 hfr, Nat.le_trans hroom.2 hlo⟩, hin, hts _ hU.2.1⟩ hpre rfl rfl hl.1 rfl (lv_room hsum) hd hr) (fun v u hvu => by obtain ⟨rfl, hu⟩ := hvu; exact kk u hu)
theorem V.callL {X : Cx} {l : Launch} {D : va_G} {k : Nat → ClassId} {g : Nat → Nat} {cc : ByteArray} {own : String} {n fr lo : Nat} {lv : List (Nat × Value)} {pc : Nat} {idx : Nat} {y : MethodName} {yb : ByteArray} {yn fr' lo' : Nat} {yr : Option FieldType} {as : List Value} {S : Type} {wc wr : va_W} {wc' : S → va_W} {post : Option Value → S → Prop} {rest stk : List Value} {C : String} {a : Nat} (hC : Ok X l D k g cc own n fr lo) (hct : Ct l D k g y yb yn yr fr' lo' (.ref a :: as) wc wc' post) (hU : MU C y yb yn yr as.length) (hlk : Cond.methodLink own idx y ∈ lwG) (hroom : fr' + 1 ≤ fr ∧ 8 + (yn + 11) + lo' ≤ lo) (hrc : ∃ (q ci : Nat) (T : u_T) (N : Nat) (fs : List Value), vwCl[ci]? = some (C, T, N) ∧ wc[q]? = some (a, .inr (ci, fs))) (hst : stk = as.reverse ++ .ref a :: rest) (hsum : (rest.map fun v => v.category).sum ≤ 8) (hd : decode cc pc = .ok (.invokevirtual idx, 3)) (kk : ∀ (v : Option Value) (u : S), post v u → V X (wc' u ++ wr) lv (v.toList ++ rest) (pc + 3)) : V X (wc ++ wr) lv stk pc :=
  V.callV (wl := []) (wr := wr) hC hct hU hlk hroom hrc hst hsum rfl hd kk
theorem V.callR {X : Cx} {l : Launch} {D : va_G} {k : Nat → ClassId} {g : Nat → Nat} {cc : ByteArray} {own : String} {n fr lo : Nat} {lv : List (Nat × Value)} {pc : Nat} {idx : Nat} {y : MethodName} {yb : ByteArray} {yn fr' lo' : Nat} {yr : Option FieldType} {as : List Value} {S : Type} {wl wc : va_W} {wc' : S → va_W} {post : Option Value → S → Prop} {rest stk : List Value} {C : String} {a : Nat} (hC : Ok X l D k g cc own n fr lo) (hct : Ct l D k g y yb yn yr fr' lo' (.ref a :: as) wc wc' post) (hU : MU C y yb yn yr as.length) (hlk : Cond.methodLink own idx y ∈ lwG) (hroom : fr' + 1 ≤ fr ∧ 8 + (yn + 11) + lo' ≤ lo) (hrc : ∃ (q ci : Nat) (T : u_T) (N : Nat) (fs : List Value), vwCl[ci]? = some (C, T, N) ∧ wc[q]? = some (a, .inr (ci, fs))) (hst : stk = as.reverse ++ .ref a :: rest) (hsum : (rest.map fun v => v.category).sum ≤ 8) (hd : decode cc pc = .ok (.invokevirtual idx, 3)) (kk : ∀ (v : Option Value) (u : S), post v u → V X (wl ++ wc' u) lv (v.toList ++ rest) (pc + 3)) : V X (wl ++ wc) lv stk pc :=
  V.callV (wl := wl) (wr := []) hC hct hU hlk hroom hrc hst hsum (by rw [List.append_nil]) hd (fun v u h => by rw [List.append_nil]; exact kk v u h)
/-! the first state -/
def z0 : Rw := upd (fun _ => 0) 1 1
def st0X : St := fun j _ => if j = 21 then 1 else if j = 51 then 1 else 0
def st0M : St := fun j => if j = 0 then z0 else fun _ => 0
theorem z0_at {j : Nat} (h : j ≠ 1) : z0 j = 0 := upd_ne h
theorem z0_is {j b : Nat} (h : j ≠ 1) (hb : b < 2147483648) : isN (z0 j) b := by rw [z0_at h]; exact isN.mk (n := 0) rfl (Nat.zero_le _) hb
theorem z0_no {j i : Nat} (h : j ≠ 1) (hi : i < nN (z0 j)) : False := by
  rw [z0_at h, show nN 0 = 0 from by decide] at hi
  exact Nat.not_lt_zero i hi
theorem inv0 : Inv z0 :=
  ⟨⟨z0_is (by decide) (by decide), fun i hi => (z0_no (by decide) hi).elim⟩, ⟨z0_is (by decide) (by decide), fun i hi => (z0_no (by decide) hi).elim⟩, ⟨z0_is (by decide) (by decide), fun i hi => (z0_no (by decide) hi).elim⟩,
    z0_is (by decide) (by decide), ⟨z0_is (by decide) (by decide), fun i hi => (z0_no (by decide) hi).elim⟩, z0_is (by decide) (by decide), fun u hu => ⟨z0_is (by omega) (by decide), fun hi => (z0_no (by omega) hi).elim⟩⟩
theorem rt0 : RT st0X z0 :=
  ⟨⟨(z0_at (by decide)).symm, fun i hi => (z0_at (by omega)).symm, fun i hi => (z0_at (by omega)).symm⟩, ⟨(z0_at (by decide)).symm, fun i hi => (z0_at (by omega)).symm, fun i hi => (z0_at (by omega)).symm⟩,
    ⟨(z0_at (by decide)).symm, fun i hi => (z0_at (by omega)).symm, fun i hi => (z0_at (by omega)).symm, fun i hi => (z0_at (by omega)).symm⟩, ⟨(z0_at (by decide)).symm, (upd_eq (f := fun _ => 0) (k := 1) (x := 1)).symm⟩,
    ⟨(z0_at (by decide)).symm, fun i hi => (z0_no (by decide) hi).elim⟩, ⟨(z0_at (by decide)).symm, fun i hi => (z0_at (by omega)).symm⟩, ⟨(z0_at (by decide)).symm, fun i hi => (z0_no (by decide) hi).elim⟩, ⟨(z0_at (by decide)).symm, fun i hi => (z0_no (by decide) hi).elim⟩⟩
theorem n0_no {i : Nat} (hi : i < nN 0) : False := by
  rw [show nN 0 = 0 from by decide] at hi
  exact Nat.not_lt_zero i hi
theorem n0_is {b : Nat} (hb : b < 2147483648) : isN 0 b := isN.mk (n := 0) rfl (Nat.zero_le _) hb
theorem st0X_at {j : Nat} {i : Nat} (h : j ≠ 21) (h2 : j ≠ 51) : st0X j i = 0 := by
  show (if j = 21 then (1 : Int32) else if j = 51 then 1 else 0) = 0
  rw [if_neg h, if_neg h2]
theorem rq0 : RQ st0X st0M :=
  ⟨⟨fun e _ => rfl, rfl, ⟨rt0, inv0⟩, fun h => absurd rfl h, fun s hs => ⟨st0X_at (by omega) (by omega), st0X_at (by omega) (by omega), n0_is (by decide), fun i hi => (n0_no hi).elim⟩, ⟨rfl, n0_is (by decide), fun i hi => (n0_no hi).elim⟩⟩, fun i _ => by decide +revert, fun i _ => by decide +revert⟩
def adX (t : List Nat) : Nat → Nat := fun n => t.getD n 0
set_option maxHeartbeats 4000000 in
set_option maxRecDepth 100000 in
theorem V.reX {X : Cx} {k : Nat → ClassId} {g : Nat → Nat} {lv : List (Nat × Value)} {st : List Value} {pc : Nat} {h q1 q2 q3 q4 q5 q6 q7 q8 q9 q10 q11 q12 q13 q14 q15 q16 q17 q18 q19 q20 q21 q22 q23 q24 q25 q26 q27 q28 q29 q30 q31 q32 q33 q34 q35 q36 q37 q38 q39 q40 q41 q42 q43 q44 q45 q46 q47 q48 q49 q50 q51 q52 q53 q54 : Nat} (kk : V X (wX k g (adX [h, q1, q18, q35, q37, q43, q45, q54, 0, 0, 0, q2, q3, 0, q4, q5, 0, q6, q7, q8, 0, 0, 0, q9, 0, q10, q11, q12, q15, q13, q16, q14, q17, 0, 0, 0, 0, 0, 0, 0, 0, q19, q20, 0, q21, q22, 0, q23, q24, q25, 0, 0, 0, q26, 0, q27, q28, q29, q32, q30, q33, q31, q34, 0, 0, 0, 0, 0, 0, 0, q36, 0, 0, 0, q38, q39, q40, q41, q42, 0, q44, 0, 0, 0, 0, 0, 0, 0, 0, 0, q46, q48, q50, q52, q47, q49, q51, q53]) st0X (fun _ _ => 0)) lv st pc) : V X ([(h, .inr (6, [.ref q1, .ref q18, .ref q35, .ref q37, .ref q43, .ref q45, .ref q54, .int 0])), (q1, .inr (3, [.int 0, .ref q2, .ref q3, .int 0, .ref q4, .ref q5, .int 0, .ref q6, .ref q7, .ref q8, .int 0, .int 1, .int 0, .ref q9, .int 0, .ref q10, .ref q11])), (q2, .inl (k 0, 4, .inl (fun _ => 0))), (q3, .inl (k 0, 4, .inl (fun _ => 0))), (q4, .inl (k 0, 8, .inl (fun _ => 0))), (q5, .inl (k 0, 8, .inl (fun _ => 0))), (q6, .inl (k 0, 6, .inl (fun _ => 0))), (q7, .inl (k 0, 6, .inl (fun _ => 0))), (q8, .inl (k 0, 6, .inl (fun _ => 0))), (q9, .inl (k 1, 60, .inl (fun _ => 0))), (q10, .inl (k 0, 24, .inl (fun _ => 0))), (q11, .inl (k 2, 2, .inr (.inr (.inr (.inr (va_up (va_up (fun _ => none) 0 (some q12)) 1 (some q15))))))), (q12, .inr (0, [.ref q13, .ref q14, .int 0])), (q13, .inl (k 0, 60, .inl (fun _ => 0))), (q14, .inl (k 0, 60, .inl (fun _ => 0))), (q15, .inr (0, [.ref q16, .ref q17, .int 0])), (q16, .inl (k 0, 60, .inl (fun _ => 0))), (q17, .inl (k 0, 60, .inl (fun _ => 0))), (q18, .inr (3, [.int 0, .ref q19, .ref q20, .int 0, .ref q21, .ref q22, .int 0, .ref q23, .ref q24, .ref q25, .int 0, .int 1, .int 0, .ref q26, .int 0, .ref q27, .ref q28])), (q19, .inl (k 0, 4, .inl (fun _ => 0))), (q20, .inl (k 0, 4, .inl (fun _ => 0))), (q21, .inl (k 0, 8, .inl (fun _ => 0))), (q22, .inl (k 0, 8, .inl (fun _ => 0))), (q23, .inl (k 0, 6, .inl (fun _ => 0))), (q24, .inl (k 0, 6, .inl (fun _ => 0))), (q25, .inl (k 0, 6, .inl (fun _ => 0))), (q26, .inl (k 1, 60, .inl (fun _ => 0))), (q27, .inl (k 0, 24, .inl (fun _ => 0))), (q28, .inl (k 2, 2, .inr (.inr (.inr (.inr (va_up (va_up (fun _ => none) 0 (some q29)) 1 (some q32))))))), (q29, .inr (0, [.ref q30, .ref q31, .int 0])), (q30, .inl (k 0, 60, .inl (fun _ => 0))), (q31, .inl (k 0, 60, .inl (fun _ => 0))), (q32, .inr (0, [.ref q33, .ref q34, .int 0])), (q33, .inl (k 0, 60, .inl (fun _ => 0))), (q34, .inl (k 0, 60, .inl (fun _ => 0))), (q35, .inr (1, [.ref q1, .ref q36, .int 0, .int 0, .ref (g 2)])), (q36, .inl (k 0, 60, .inl (fun _ => 0))), (q37, .inr (5, [.ref q1, .ref q38, .ref q39, .ref q40, .ref q41, .ref q42])), (q38, .inl (k 0, 4, .inl (fun _ => 0))), (q39, .inl (k 0, 4, .inl (fun _ => 0))), (q40, .inl (k 0, 4, .inl (fun _ => 0))), (q41, .inl (k 0, 8, .inl (fun _ => 0))), (q42, .inl (k 0, 480, .inl (fun _ => 0))), (q43, .inr (4, [.ref q44, .int 0, .int 0, .int 0, .int 0, .int 0])), (q44, .inl (k 0, 30, .inl (fun _ => 0))), (q45, .inl (k 3, 4, .inr (.inr (.inr (.inr (va_up (va_up (va_up (va_up (fun _ => none) 0 (some q46)) 1 (some q48)) 2 (some q50)) 3 (some q52))))))), (q46, .inr (2, [.int 0, .int 0, .ref q47])), (q47, .inl (k 0, 24, .inl (fun _ => 0))), (q48, .inr (2, [.int 0, .int 0, .ref q49])), (q49, .inl (k 0, 24, .inl (fun _ => 0))), (q50, .inr (2, [.int 0, .int 0, .ref q51])), (q51, .inl (k 0, 24, .inl (fun _ => 0))), (q52, .inr (2, [.int 0, .int 0, .ref q53])), (q53, .inl (k 0, 24, .inl (fun _ => 0))), (q54, .inl (k 0, 7, .inl (fun _ => 0)))]) lv st pc := by
  refine V.re (ws' := [(h, .inr (6, [.ref q1, .ref q18, .ref q35, .ref q37, .ref q43, .ref q45, .ref q54, .int 0])), (q1, .inr (3, [.int 0, .ref q2, .ref q3, .int 0, .ref q4, .ref q5, .int 0, .ref q6, .ref q7, .ref q8, .int 0, .int 1, .int 0, .ref q9, .int 0, .ref q10, .ref q11])), (q18, .inr (3, [.int 0, .ref q19, .ref q20, .int 0, .ref q21, .ref q22, .int 0, .ref q23, .ref q24, .ref q25, .int 0, .int 1, .int 0, .ref q26, .int 0, .ref q27, .ref q28])), (q35, .inr (1, [.ref q1, .ref q36, .int 0, .int 0, .ref (g 2)])), (q37, .inr (5, [.ref q1, .ref q38, .ref q39, .ref q40, .ref q41, .ref q42])), (q43, .inr (4, [.ref q44, .int 0, .int 0, .int 0, .int 0, .int 0])), (q45, .inl (k 3, 4, .inr (.inr (.inr (.inr (va_up (va_up (va_up (va_up (fun _ => none) 0 (some q46)) 1 (some q48)) 2 (some q50)) 3 (some q52))))))), (q54, .inl (k 0, 7, .inl (fun _ => 0))), (q2, .inl (k 0, 4, .inl (fun _ => 0))), (q3, .inl (k 0, 4, .inl (fun _ => 0))), (q4, .inl (k 0, 8, .inl (fun _ => 0))), (q5, .inl (k 0, 8, .inl (fun _ => 0))), (q6, .inl (k 0, 6, .inl (fun _ => 0))), (q7, .inl (k 0, 6, .inl (fun _ => 0))), (q8, .inl (k 0, 6, .inl (fun _ => 0))), (q9, .inl (k 1, 60, .inl (fun _ => 0))), (q10, .inl (k 0, 24, .inl (fun _ => 0))), (q11, .inl (k 2, 2, .inr (.inr (.inr (.inr (va_up (va_up (fun _ => none) 0 (some q12)) 1 (some q15))))))), (q12, .inr (0, [.ref q13, .ref q14, .int 0])), (q15, .inr (0, [.ref q16, .ref q17, .int 0])), (q13, .inl (k 0, 60, .inl (fun _ => 0))), (q16, .inl (k 0, 60, .inl (fun _ => 0))), (q14, .inl (k 0, 60, .inl (fun _ => 0))), (q17, .inl (k 0, 60, .inl (fun _ => 0))), (q19, .inl (k 0, 4, .inl (fun _ => 0))), (q20, .inl (k 0, 4, .inl (fun _ => 0))), (q21, .inl (k 0, 8, .inl (fun _ => 0))), (q22, .inl (k 0, 8, .inl (fun _ => 0))), (q23, .inl (k 0, 6, .inl (fun _ => 0))), (q24, .inl (k 0, 6, .inl (fun _ => 0))), (q25, .inl (k 0, 6, .inl (fun _ => 0))), (q26, .inl (k 1, 60, .inl (fun _ => 0))), (q27, .inl (k 0, 24, .inl (fun _ => 0))), (q28, .inl (k 2, 2, .inr (.inr (.inr (.inr (va_up (va_up (fun _ => none) 0 (some q29)) 1 (some q32))))))), (q29, .inr (0, [.ref q30, .ref q31, .int 0])), (q32, .inr (0, [.ref q33, .ref q34, .int 0])), (q30, .inl (k 0, 60, .inl (fun _ => 0))), (q33, .inl (k 0, 60, .inl (fun _ => 0))), (q31, .inl (k 0, 60, .inl (fun _ => 0))), (q34, .inl (k 0, 60, .inl (fun _ => 0))), (q36, .inl (k 0, 60, .inl (fun _ => 0))), (q38, .inl (k 0, 4, .inl (fun _ => 0))), (q39, .inl (k 0, 4, .inl (fun _ => 0))), (q40, .inl (k 0, 4, .inl (fun _ => 0))), (q41, .inl (k 0, 8, .inl (fun _ => 0))), (q42, .inl (k 0, 480, .inl (fun _ => 0))), (q44, .inl (k 0, 30, .inl (fun _ => 0))), (q46, .inr (2, [.int 0, .int 0, .ref q47])), (q48, .inr (2, [.int 0, .int 0, .ref q49])), (q50, .inr (2, [.int 0, .int 0, .ref q51])), (q52, .inr (2, [.int 0, .int 0, .ref q53])), (q47, .inl (k 0, 24, .inl (fun _ => 0))), (q49, .inl (k 0, 24, .inl (fun _ => 0))), (q51, .inl (k 0, 24, .inl (fun _ => 0))), (q53, .inl (k 0, 24, .inl (fun _ => 0)))]) [0, 1, 18, 35, 37, 43, 45, 54, 2, 3, 4, 5, 6, 7, 8, 9, 10, 11, 12, 15, 13, 16, 14, 17, 19, 20, 21, 22, 23, 24, 25, 26, 27, 28, 29, 32, 30, 33, 31, 34, 36, 38, 39, 40, 41, 42, 44, 46, 48, 50, 52, 47, 49, 51, 53] (by decide) rfl ?_
  refine V.rx 6 ([(h, .inr (6, [.ref q1, .ref q18, .ref q35, .ref q37, .ref q43, .ref q45, .ref q54, .int 0])), (q1, .inr (3, [.int 0, .ref q2, .ref q3, .int 0, .ref q4, .ref q5, .int 0, .ref q6, .ref q7, .ref q8, .int 0, .int 1, .int 0, .ref q9, .int 0, .ref q10, .ref q11])), (q18, .inr (3, [.int 0, .ref q19, .ref q20, .int 0, .ref q21, .ref q22, .int 0, .ref q23, .ref q24, .ref q25, .int 0, .int 1, .int 0, .ref q26, .int 0, .ref q27, .ref q28])), (q35, .inr (1, [.ref q1, .ref q36, .int 0, .int 0, .ref (g 2)])), (q37, .inr (5, [.ref q1, .ref q38, .ref q39, .ref q40, .ref q41, .ref q42])), (q43, .inr (4, [.ref q44, .int 0, .int 0, .int 0, .int 0, .int 0])), (q45, .inl (k 3, 4, .inr (.inr (.inr (.inr (fun i => some (adX [h, q1, q18, q35, q37, q43, q45, q54, 0, 0, 0, q2, q3, 0, q4, q5, 0, q6, q7, q8, 0, 0, 0, q9, 0, q10, q11, q12, q15, q13, q16, q14, q17, 0, 0, 0, 0, 0, 0, 0, 0, q19, q20, 0, q21, q22, 0, q23, q24, q25, 0, 0, 0, q26, 0, q27, q28, q29, q32, q30, q33, q31, q34, 0, 0, 0, 0, 0, 0, 0, q36, 0, 0, 0, q38, q39, q40, q41, q42, 0, q44, 0, 0, 0, 0, 0, 0, 0, 0, 0, q46, q48, q50, q52, q47, q49, q51, q53] (90 + i)))))))), (q54, .inl (k 0, 7, .inl (fun _ => 0))), (q2, .inl (k 0, 4, .inl (fun _ => 0))), (q3, .inl (k 0, 4, .inl (fun _ => 0))), (q4, .inl (k 0, 8, .inl (fun _ => 0))), (q5, .inl (k 0, 8, .inl (fun _ => 0))), (q6, .inl (k 0, 6, .inl (fun _ => 0))), (q7, .inl (k 0, 6, .inl (fun _ => 0))), (q8, .inl (k 0, 6, .inl (fun _ => 0))), (q9, .inl (k 1, 60, .inl (fun _ => 0))), (q10, .inl (k 0, 24, .inl (fun _ => 0))), (q11, .inl (k 2, 2, .inr (.inr (.inr (.inr (va_up (va_up (fun _ => none) 0 (some q12)) 1 (some q15))))))), (q12, .inr (0, [.ref q13, .ref q14, .int 0])), (q15, .inr (0, [.ref q16, .ref q17, .int 0])), (q13, .inl (k 0, 60, .inl (fun _ => 0))), (q16, .inl (k 0, 60, .inl (fun _ => 0))), (q14, .inl (k 0, 60, .inl (fun _ => 0))), (q17, .inl (k 0, 60, .inl (fun _ => 0))), (q19, .inl (k 0, 4, .inl (fun _ => 0))), (q20, .inl (k 0, 4, .inl (fun _ => 0))), (q21, .inl (k 0, 8, .inl (fun _ => 0))), (q22, .inl (k 0, 8, .inl (fun _ => 0))), (q23, .inl (k 0, 6, .inl (fun _ => 0))), (q24, .inl (k 0, 6, .inl (fun _ => 0))), (q25, .inl (k 0, 6, .inl (fun _ => 0))), (q26, .inl (k 1, 60, .inl (fun _ => 0))), (q27, .inl (k 0, 24, .inl (fun _ => 0))), (q28, .inl (k 2, 2, .inr (.inr (.inr (.inr (va_up (va_up (fun _ => none) 0 (some q29)) 1 (some q32))))))), (q29, .inr (0, [.ref q30, .ref q31, .int 0])), (q32, .inr (0, [.ref q33, .ref q34, .int 0])), (q30, .inl (k 0, 60, .inl (fun _ => 0))), (q33, .inl (k 0, 60, .inl (fun _ => 0))), (q31, .inl (k 0, 60, .inl (fun _ => 0))), (q34, .inl (k 0, 60, .inl (fun _ => 0))), (q36, .inl (k 0, 60, .inl (fun _ => 0))), (q38, .inl (k 0, 4, .inl (fun _ => 0))), (q39, .inl (k 0, 4, .inl (fun _ => 0))), (q40, .inl (k 0, 4, .inl (fun _ => 0))), (q41, .inl (k 0, 8, .inl (fun _ => 0))), (q42, .inl (k 0, 480, .inl (fun _ => 0))), (q44, .inl (k 0, 30, .inl (fun _ => 0))), (q46, .inr (2, [.int 0, .int 0, .ref q47])), (q48, .inr (2, [.int 0, .int 0, .ref q49])), (q50, .inr (2, [.int 0, .int 0, .ref q51])), (q52, .inr (2, [.int 0, .int 0, .ref q53])), (q47, .inl (k 0, 24, .inl (fun _ => 0))), (q49, .inl (k 0, 24, .inl (fun _ => 0))), (q51, .inl (k 0, 24, .inl (fun _ => 0))), (q53, .inl (k 0, 24, .inl (fun _ => 0)))]) rfl (fun i hi => by
      match i, hi with
      | 0, _ => rfl
      | 1, _ => rfl
      | 2, _ => rfl
      | 3, _ => rfl) rfl ?_
  refine V.rx 17 ([(h, .inr (6, [.ref q1, .ref q18, .ref q35, .ref q37, .ref q43, .ref q45, .ref q54, .int 0])), (q1, .inr (3, [.int 0, .ref q2, .ref q3, .int 0, .ref q4, .ref q5, .int 0, .ref q6, .ref q7, .ref q8, .int 0, .int 1, .int 0, .ref q9, .int 0, .ref q10, .ref q11])), (q18, .inr (3, [.int 0, .ref q19, .ref q20, .int 0, .ref q21, .ref q22, .int 0, .ref q23, .ref q24, .ref q25, .int 0, .int 1, .int 0, .ref q26, .int 0, .ref q27, .ref q28])), (q35, .inr (1, [.ref q1, .ref q36, .int 0, .int 0, .ref (g 2)])), (q37, .inr (5, [.ref q1, .ref q38, .ref q39, .ref q40, .ref q41, .ref q42])), (q43, .inr (4, [.ref q44, .int 0, .int 0, .int 0, .int 0, .int 0])), (q45, .inl (k 3, 4, .inr (.inr (.inr (.inr (fun i => some (adX [h, q1, q18, q35, q37, q43, q45, q54, 0, 0, 0, q2, q3, 0, q4, q5, 0, q6, q7, q8, 0, 0, 0, q9, 0, q10, q11, q12, q15, q13, q16, q14, q17, 0, 0, 0, 0, 0, 0, 0, 0, q19, q20, 0, q21, q22, 0, q23, q24, q25, 0, 0, 0, q26, 0, q27, q28, q29, q32, q30, q33, q31, q34, 0, 0, 0, 0, 0, 0, 0, q36, 0, 0, 0, q38, q39, q40, q41, q42, 0, q44, 0, 0, 0, 0, 0, 0, 0, 0, 0, q46, q48, q50, q52, q47, q49, q51, q53] (90 + i)))))))), (q54, .inl (k 0, 7, .inl (fun _ => 0))), (q2, .inl (k 0, 4, .inl (fun _ => 0))), (q3, .inl (k 0, 4, .inl (fun _ => 0))), (q4, .inl (k 0, 8, .inl (fun _ => 0))), (q5, .inl (k 0, 8, .inl (fun _ => 0))), (q6, .inl (k 0, 6, .inl (fun _ => 0))), (q7, .inl (k 0, 6, .inl (fun _ => 0))), (q8, .inl (k 0, 6, .inl (fun _ => 0))), (q9, .inl (k 1, 60, .inl (fun _ => 0))), (q10, .inl (k 0, 24, .inl (fun _ => 0))), (q11, .inl (k 2, 2, .inr (.inr (.inr (.inr (fun i => some (adX [h, q1, q18, q35, q37, q43, q45, q54, 0, 0, 0, q2, q3, 0, q4, q5, 0, q6, q7, q8, 0, 0, 0, q9, 0, q10, q11, q12, q15, q13, q16, q14, q17, 0, 0, 0, 0, 0, 0, 0, 0, q19, q20, 0, q21, q22, 0, q23, q24, q25, 0, 0, 0, q26, 0, q27, q28, q29, q32, q30, q33, q31, q34, 0, 0, 0, 0, 0, 0, 0, q36, 0, 0, 0, q38, q39, q40, q41, q42, 0, q44, 0, 0, 0, 0, 0, 0, 0, 0, 0, q46, q48, q50, q52, q47, q49, q51, q53] (27 + i)))))))), (q12, .inr (0, [.ref q13, .ref q14, .int 0])), (q15, .inr (0, [.ref q16, .ref q17, .int 0])), (q13, .inl (k 0, 60, .inl (fun _ => 0))), (q16, .inl (k 0, 60, .inl (fun _ => 0))), (q14, .inl (k 0, 60, .inl (fun _ => 0))), (q17, .inl (k 0, 60, .inl (fun _ => 0))), (q19, .inl (k 0, 4, .inl (fun _ => 0))), (q20, .inl (k 0, 4, .inl (fun _ => 0))), (q21, .inl (k 0, 8, .inl (fun _ => 0))), (q22, .inl (k 0, 8, .inl (fun _ => 0))), (q23, .inl (k 0, 6, .inl (fun _ => 0))), (q24, .inl (k 0, 6, .inl (fun _ => 0))), (q25, .inl (k 0, 6, .inl (fun _ => 0))), (q26, .inl (k 1, 60, .inl (fun _ => 0))), (q27, .inl (k 0, 24, .inl (fun _ => 0))), (q28, .inl (k 2, 2, .inr (.inr (.inr (.inr (va_up (va_up (fun _ => none) 0 (some q29)) 1 (some q32))))))), (q29, .inr (0, [.ref q30, .ref q31, .int 0])), (q32, .inr (0, [.ref q33, .ref q34, .int 0])), (q30, .inl (k 0, 60, .inl (fun _ => 0))), (q33, .inl (k 0, 60, .inl (fun _ => 0))), (q31, .inl (k 0, 60, .inl (fun _ => 0))), (q34, .inl (k 0, 60, .inl (fun _ => 0))), (q36, .inl (k 0, 60, .inl (fun _ => 0))), (q38, .inl (k 0, 4, .inl (fun _ => 0))), (q39, .inl (k 0, 4, .inl (fun _ => 0))), (q40, .inl (k 0, 4, .inl (fun _ => 0))), (q41, .inl (k 0, 8, .inl (fun _ => 0))), (q42, .inl (k 0, 480, .inl (fun _ => 0))), (q44, .inl (k 0, 30, .inl (fun _ => 0))), (q46, .inr (2, [.int 0, .int 0, .ref q47])), (q48, .inr (2, [.int 0, .int 0, .ref q49])), (q50, .inr (2, [.int 0, .int 0, .ref q51])), (q52, .inr (2, [.int 0, .int 0, .ref q53])), (q47, .inl (k 0, 24, .inl (fun _ => 0))), (q49, .inl (k 0, 24, .inl (fun _ => 0))), (q51, .inl (k 0, 24, .inl (fun _ => 0))), (q53, .inl (k 0, 24, .inl (fun _ => 0)))]) rfl (fun i hi => by
      match i, hi with
      | 0, _ => rfl
      | 1, _ => rfl) rfl ?_
  refine V.rx 33 ([(h, .inr (6, [.ref q1, .ref q18, .ref q35, .ref q37, .ref q43, .ref q45, .ref q54, .int 0])), (q1, .inr (3, [.int 0, .ref q2, .ref q3, .int 0, .ref q4, .ref q5, .int 0, .ref q6, .ref q7, .ref q8, .int 0, .int 1, .int 0, .ref q9, .int 0, .ref q10, .ref q11])), (q18, .inr (3, [.int 0, .ref q19, .ref q20, .int 0, .ref q21, .ref q22, .int 0, .ref q23, .ref q24, .ref q25, .int 0, .int 1, .int 0, .ref q26, .int 0, .ref q27, .ref q28])), (q35, .inr (1, [.ref q1, .ref q36, .int 0, .int 0, .ref (g 2)])), (q37, .inr (5, [.ref q1, .ref q38, .ref q39, .ref q40, .ref q41, .ref q42])), (q43, .inr (4, [.ref q44, .int 0, .int 0, .int 0, .int 0, .int 0])), (q45, .inl (k 3, 4, .inr (.inr (.inr (.inr (fun i => some (adX [h, q1, q18, q35, q37, q43, q45, q54, 0, 0, 0, q2, q3, 0, q4, q5, 0, q6, q7, q8, 0, 0, 0, q9, 0, q10, q11, q12, q15, q13, q16, q14, q17, 0, 0, 0, 0, 0, 0, 0, 0, q19, q20, 0, q21, q22, 0, q23, q24, q25, 0, 0, 0, q26, 0, q27, q28, q29, q32, q30, q33, q31, q34, 0, 0, 0, 0, 0, 0, 0, q36, 0, 0, 0, q38, q39, q40, q41, q42, 0, q44, 0, 0, 0, 0, 0, 0, 0, 0, 0, q46, q48, q50, q52, q47, q49, q51, q53] (90 + i)))))))), (q54, .inl (k 0, 7, .inl (fun _ => 0))), (q2, .inl (k 0, 4, .inl (fun _ => 0))), (q3, .inl (k 0, 4, .inl (fun _ => 0))), (q4, .inl (k 0, 8, .inl (fun _ => 0))), (q5, .inl (k 0, 8, .inl (fun _ => 0))), (q6, .inl (k 0, 6, .inl (fun _ => 0))), (q7, .inl (k 0, 6, .inl (fun _ => 0))), (q8, .inl (k 0, 6, .inl (fun _ => 0))), (q9, .inl (k 1, 60, .inl (fun _ => 0))), (q10, .inl (k 0, 24, .inl (fun _ => 0))), (q11, .inl (k 2, 2, .inr (.inr (.inr (.inr (fun i => some (adX [h, q1, q18, q35, q37, q43, q45, q54, 0, 0, 0, q2, q3, 0, q4, q5, 0, q6, q7, q8, 0, 0, 0, q9, 0, q10, q11, q12, q15, q13, q16, q14, q17, 0, 0, 0, 0, 0, 0, 0, 0, q19, q20, 0, q21, q22, 0, q23, q24, q25, 0, 0, 0, q26, 0, q27, q28, q29, q32, q30, q33, q31, q34, 0, 0, 0, 0, 0, 0, 0, q36, 0, 0, 0, q38, q39, q40, q41, q42, 0, q44, 0, 0, 0, 0, 0, 0, 0, 0, 0, q46, q48, q50, q52, q47, q49, q51, q53] (27 + i)))))))), (q12, .inr (0, [.ref q13, .ref q14, .int 0])), (q15, .inr (0, [.ref q16, .ref q17, .int 0])), (q13, .inl (k 0, 60, .inl (fun _ => 0))), (q16, .inl (k 0, 60, .inl (fun _ => 0))), (q14, .inl (k 0, 60, .inl (fun _ => 0))), (q17, .inl (k 0, 60, .inl (fun _ => 0))), (q19, .inl (k 0, 4, .inl (fun _ => 0))), (q20, .inl (k 0, 4, .inl (fun _ => 0))), (q21, .inl (k 0, 8, .inl (fun _ => 0))), (q22, .inl (k 0, 8, .inl (fun _ => 0))), (q23, .inl (k 0, 6, .inl (fun _ => 0))), (q24, .inl (k 0, 6, .inl (fun _ => 0))), (q25, .inl (k 0, 6, .inl (fun _ => 0))), (q26, .inl (k 1, 60, .inl (fun _ => 0))), (q27, .inl (k 0, 24, .inl (fun _ => 0))), (q28, .inl (k 2, 2, .inr (.inr (.inr (.inr (fun i => some (adX [h, q1, q18, q35, q37, q43, q45, q54, 0, 0, 0, q2, q3, 0, q4, q5, 0, q6, q7, q8, 0, 0, 0, q9, 0, q10, q11, q12, q15, q13, q16, q14, q17, 0, 0, 0, 0, 0, 0, 0, 0, q19, q20, 0, q21, q22, 0, q23, q24, q25, 0, 0, 0, q26, 0, q27, q28, q29, q32, q30, q33, q31, q34, 0, 0, 0, 0, 0, 0, 0, q36, 0, 0, 0, q38, q39, q40, q41, q42, 0, q44, 0, 0, 0, 0, 0, 0, 0, 0, 0, q46, q48, q50, q52, q47, q49, q51, q53] (57 + i)))))))), (q29, .inr (0, [.ref q30, .ref q31, .int 0])), (q32, .inr (0, [.ref q33, .ref q34, .int 0])), (q30, .inl (k 0, 60, .inl (fun _ => 0))), (q33, .inl (k 0, 60, .inl (fun _ => 0))), (q31, .inl (k 0, 60, .inl (fun _ => 0))), (q34, .inl (k 0, 60, .inl (fun _ => 0))), (q36, .inl (k 0, 60, .inl (fun _ => 0))), (q38, .inl (k 0, 4, .inl (fun _ => 0))), (q39, .inl (k 0, 4, .inl (fun _ => 0))), (q40, .inl (k 0, 4, .inl (fun _ => 0))), (q41, .inl (k 0, 8, .inl (fun _ => 0))), (q42, .inl (k 0, 480, .inl (fun _ => 0))), (q44, .inl (k 0, 30, .inl (fun _ => 0))), (q46, .inr (2, [.int 0, .int 0, .ref q47])), (q48, .inr (2, [.int 0, .int 0, .ref q49])), (q50, .inr (2, [.int 0, .int 0, .ref q51])), (q52, .inr (2, [.int 0, .int 0, .ref q53])), (q47, .inl (k 0, 24, .inl (fun _ => 0))), (q49, .inl (k 0, 24, .inl (fun _ => 0))), (q51, .inl (k 0, 24, .inl (fun _ => 0))), (q53, .inl (k 0, 24, .inl (fun _ => 0)))]) rfl (fun i hi => by
      match i, hi with
      | 0, _ => rfl
      | 1, _ => rfl) rfl ?_
  exact kk
set_option maxHeartbeats 4000000 in
set_option maxRecDepth 100000 in
theorem law_begin {X : Cx} {l : Launch} {D : va_G} {k : Nat → ClassId} {g : Nat → Nat} {fr lo b : Nat} (hC : Ok X l D k g cL_law RL 4 fr lo) (hKd : KdX X) (hr : Rm X 68 3090) (hfr : 100 ≤ fr) (hlo : 300 ≤ lo) (kk : ∀ a c : Nat → Nat, Ok (bmp (bmp (bmp (bmp X 1 8) 54 1508) 1 20) 12 1554) l D k g cL_law RL 4 fr lo → V (bmp (bmp (bmp (bmp X 1 8) 54 1508) 1 20) 12 1554) (wX k g a st0X (fun _ _ => 0) ++ wM k c st0M (fun _ _ => 0)) [(3, .int 0), (2, .ref (c 20)), (1, .ref (a 0)), (0, .ref b)] [] 18) : V X [] [(0, .ref b)] [] 0 := by
  refine V.newo (pc := 0) (N := 8) (fs := [.null, .null, .null, .null, .null, .null, .null, .int 0]) hC (hr.le (by decide) (by decide)) cf_X6 kl_L_7 ib_X6 iw_X6 (fun j hj => by
      match j, hj with
      | 0, _ => rfl
      | 1, _ => rfl
      | 2, _ => rfl
      | 3, _ => rfl
      | 4, _ => rfl
      | 5, _ => rfl
      | 6, _ => rfl
      | 7, _ => rfl) dL_law_0 (fun h => ?_)
  have hC := hC.bmp (hr.le (c2 := 1) (s2 := 8) (by decide) (by decide))
  have hr : Rm (bmp X 1 8) 67 3082 := Rm.bmp (hr.le (by decide) (by decide))
  have hKd := hKd.bmp (cn := 1) (sn := 8)
  refine V.dup (pc := 3) hC dL_law_3 rfl ?_
  refine V.callC (pc := 4) (as := []) (wl := []) (wc := [(h, .inr (6, [.null, .null, .null, .null, .null, .null, .null, .int 0]))]) (wr := []) (rest := [.ref h]) hC hKd (hr.le (by decide) (by decide)) (n_X6_init h) mi_X6_init rfl ml_L_9 ⟨by omega, by omega⟩ rfl (Nat.le_of_ble_eq_true rfl) rfl dL_law_4 ?_
  rintro ⟨q1, q2, q3, q4, q5, q6, q7, q8, q9, q10, q11, q12, q13, q14, q15, q16, q17, q18, q19, q20, q21, q22, q23, q24, q25, q26, q27, q28, q29, q30, q31, q32, q33, q34, q35, q36, q37, q38, q39, q40, q41, q42, q43, q44, q45, q46, q47, q48, q49, q50, q51, q52, q53, q54⟩ _
  have hC := hC.bmp (hr.le (c2 := 54) (s2 := 1508) (by decide) (by decide))
  have hr : Rm (bmp (bmp X 1 8) 54 1508) 13 1574 := Rm.bmp (hr.le (by decide) (by decide))
  have hKd := hKd.bmp (cn := 54) (sn := 1508)
  refine V.reX (h := h) ?_
  generalize hea : adX [h, q1, q18, q35, q37, q43, q45, q54, 0, 0, 0, q2, q3, 0, q4, q5, 0, q6, q7, q8, 0, 0, 0, q9, 0, q10, q11, q12, q15, q13, q16, q14, q17, 0, 0, 0, 0, 0, 0, 0, 0, q19, q20, 0, q21, q22, 0, q23, q24, q25, 0, 0, 0, q26, 0, q27, q28, q29, q32, q30, q33, q31, q34, 0, 0, 0, 0, 0, 0, 0, q36, 0, 0, 0, q38, q39, q40, q41, q42, 0, q44, 0, 0, 0, 0, 0, 0, 0, 0, 0, q46, q48, q50, q52, q47, q49, q51, q53] = a
  have ea : h = a 0 := by rw [← hea]; rfl
  clear hea
  subst ea
  refine V.astore_n (pc := 7) [(1, .ref (a 0)), (0, .ref b)] hC dL_law_7 (by decide) rfl ?_
  refine V.newo (pc := 8) (N := 20) (fs := [.null, .null, .int 0, .null, .null, .null, .null, .null, .null, .null, .null, .null, .int 0, .int 0, .int 0, .int 0, .int 0, .null, .int 0, .int 0]) hC (hr.le (by decide) (by decide)) cf_X7 kl_L_10 ib_X7 iw_X7 (fun j hj => by
      match j, hj with
      | 0, _ => rfl
      | 1, _ => rfl
      | 2, _ => rfl
      | 3, _ => rfl
      | 4, _ => rfl
      | 5, _ => rfl
      | 6, _ => rfl
      | 7, _ => rfl
      | 8, _ => rfl
      | 9, _ => rfl
      | 10, _ => rfl
      | 11, _ => rfl
      | 12, _ => rfl
      | 13, _ => rfl
      | 14, _ => rfl
      | 15, _ => rfl
      | 16, _ => rfl
      | 17, _ => rfl
      | 18, _ => rfl
      | 19, _ => rfl
      | j + 20, h => exact absurd h (by omega)) dL_law_8 (fun h2 => ?_)
  have hC := hC.bmp (hr.le (c2 := 1) (s2 := 20) (by decide) (by decide))
  have hr : Rm (bmp (bmp (bmp X 1 8) 54 1508) 1 20) 12 1554 := Rm.bmp (hr.le (by decide) (by decide))
  have hKd := hKd.bmp (cn := 1) (sn := 20)
  refine V.dup (pc := 11) hC dL_law_11 rfl ?_
  refine V.callC (pc := 12) (as := []) (wl := wX k g a st0X (fun _ _ => 0)) (wc := [(h2, .inr (7, [.null, .null, .int 0, .null, .null, .null, .null, .null, .null, .null, .null, .null, .int 0, .int 0, .int 0, .int 0, .int 0, .null, .int 0, .int 0]))]) (wr := []) (rest := [.ref h2]) hC hKd (hr.le (by decide) (by decide)) (n_X7_init h2) mi_X7_init rfl ml_L_12 ⟨by omega, by omega⟩ rfl (Nat.le_of_ble_eq_true rfl) (by rw [List.append_nil]) dL_law_12 ?_
  rintro ⟨r1, r2, r3, r4, r5, r6, r7, r8, r9, r10, r11, r12⟩ _
  have hC := hC.bmp (hr.le (c2 := 12) (s2 := 1554) (by decide) (by decide))
  show V _ (wX k g a st0X (fun _ _ => 0) ++ wM k (adX [r1, r2, 0, r3, r4, r5, r6, r7, r8, r9, r10, r11, 0, 0, 0, 0, 0, r12, 0, 0, h2]) st0M (fun _ _ => 0)) _ [.ref h2] 15
  generalize hec : adX [r1, r2, 0, r3, r4, r5, r6, r7, r8, r9, r10, r11, 0, 0, 0, 0, 0, r12, 0, 0, h2] = c
  have ec : h2 = c 20 := by rw [← hec]; rfl
  clear hec
  subst ec
  refine V.astore_n (pc := 15) [(2, .ref (c 20)), (1, .ref (a 0)), (0, .ref b)] hC dL_law_15 (by decide) rfl ?_
  refine V.iconst (pc := 16) 0 hC dL_law_16 (by decide) ?_
  refine V.istore_n (pc := 17) [(3, .int 0), (2, .ref (c 20)), (1, .ref (a 0)), (0, .ref b)] hC dL_law_17 (by decide) rfl ?_
  exact kk a c hC
