/-! the start: the skeleton's head, the start's facts, whole_start -/
def R_law : String := "HandTownLaw"
def lw_P (b : Addr) (xs : List Int32) (args : Array Value) (s : State) : Prop := args = #[.ref b] ∧ s.IntsAt b xs ∧ xs.length ≤ 3072 ∧ (Jvm.Cond.and given_1 narrow_1).before args s = true
def lw_Q (_ : Array Value) (s : State) (o : Outcome) (t : State) : Prop := o = .returned (some (.int 1)) ∧ Framed s o t [] 600000 7302250
def lw_Z (below : List Frame) (a : Array Value) (s : State) : State → Prop := fun t => ∃ o, t.status = .running ∧ Ended t below o ∧ lw_Q a s o t
/-- the law's own end, with 1 on the stack, nothing written that was there before, its room as the claim has it -/
theorem lw_ret {p : Program} {l : Launch} {e : Env} {s : State} {m : MethodId} {below : List Frame} {meth : Method} {c : Code} {b : Nat} (hx : p.tables.exec = Jvm.exec) (hb : c.code = code) (hr : meth.sig.returnType = ret) (hlocks : meth.locks = false) {pc : Nat} {H : Heap} {ls : Array Slot} (hdg : decode code pc = .ok (.ireturn, 1)) : W p l e room_1 s m #[Value.ref b] below meth c H [] 600000 7302250 (lw_Z below #[Value.ref b] s) (F0 m pc ls [.int 1]) := by
  intro T hT X
  obtain ⟨fs, hret, hrun, hended, hW, hframe⟩ := X.leave (v := some (.int 1)) (hlocks := hlocks) (fun h => by rw [hr] at h; cases h)
  have hmeth' : T.vm.method? m = some meth := X.method'
  refine ⟨T.setFrames fs, ?_, .returned (some (.int 1)), hrun, hended, rfl, ⟨_, rfl⟩, hW, hframe⟩
  jvm_step X.here [X.here.top, hx, hb, hdg, hmeth', hr, ret, narrow_b1]
  (try refine ⟨rfl, ?_⟩); (try refine ⟨rfl, ?_⟩)
  first | (intro acts; rw [hret _ acts rfl rfl rfl]) | rw [hret _ _ rfl rfl rfl]
  exact Steps.refl _
/-- what holds at the law's entry: the machine, the code, the tables' words (any of lw_tbl by 'hts w (by decide +kernel)'), the script of L ints xs at the cell b, what the Statement gives of the start (any of its parts by flat_of_before) -/
def lw_At (p : Program) (s : State) (m : MethodId) (meth : Method) (c : Code) (b L : Nat) (xs : Nat → Int32) : Prop :=
  p.tables.exec = Jvm.exec ∧ c.code = code ∧ meth.sig.returnType = ret ∧ c.maxLocals = 4 ∧ s.vm.findClass R_law = some m.cls ∧ (∀ w ∈ lw_tbl, w.before #[Value.ref b] s = true) ∧ va_X b L xs s s.heap ∧ b < s.heap.size ∧ meth.locks = false ∧ (Jvm.Cond.and given_1 narrow_1).before #[Value.ref b] s = true
theorem lw_tb (i : Nat) {w : Cond} (h : tables_1[i]? = some w) : w ∈ lw_tbl := List.mem_append_right _ (List.mem_of_getElem? h)
/-! what the start gives: the classes, the tables, the String constants -/
theorem st_nst {s : State} {b : Nat} (hts : ∀ w ∈ lw_tbl, w.before #[Value.ref b] s = true) : Nst s := by
  intro w hw
  simp only [nstW, List.mem_cons, List.not_mem_nil, or_false] at hw
  rcases hw with rfl | rfl | rfl | rfl | rfl | rfl | rfl | rfl | rfl | rfl
  · exact va_Nw.of rfl (hts _ (lw_tb 724 (by decide +kernel)))
  · exact va_Nw.of rfl (hts _ (lw_tb 183 (by decide +kernel)))
  · exact va_Nw.of rfl (hts _ (lw_tb 212 (by decide +kernel)))
  · exact va_Nw.of rfl (hts _ (lw_tb 27 (by decide +kernel)))
  · exact va_Nw.of rfl (hts _ (lw_tb 331 (by decide +kernel)))
  · exact va_Nw.of rfl (hts _ (lw_tb 680 (by decide +kernel)))
  · exact va_Nw.of rfl (hts _ (lw_tb 34 (by decide +kernel)))
  · exact va_Nw.of rfl (hts _ (lw_tb 279 (by decide +kernel)))
  · exact va_Nw.of rfl (hts _ (lw_tb 284 (by decide +kernel)))
  · exact va_Nw.of rfl (hts _ (lw_tb 396 (by decide +kernel)))
theorem st_law {s : State} {b : Nat} (hts : ∀ w ∈ lw_tbl, w.before #[Value.ref b] s = true) : (Cond.arrayOver (.object "HandTown$Law")).before #[Value.ref b] s = true := hts _ (lw_tb 32 (by decide +kernel))
theorem st_sheet {s : State} {b : Nat} (hts : ∀ w ∈ lw_tbl, w.before #[Value.ref b] s = true) : (Cond.arrayOver (.object "HandTown$Sheet")).before #[Value.ref b] s = true := hts _ (lw_tb 210 (by decide +kernel))
theorem st_Kd {s : State} {b : Nat} (hts : ∀ w ∈ lw_tbl, w.before #[Value.ref b] s = true) : Kd s := ⟨va_AO.of (st_law hts), va_AO.of (st_sheet hts)⟩
theorem st_K {s : State} {b : Nat} (hts : ∀ w ∈ lw_tbl, w.before #[Value.ref b] s = true) : ∃ (D : va_G) (k : Nat → ClassId), va_K D vwCl (tysK k) s := by
  have hw : ∀ w ∈ lwG, w.before #[Value.ref b] s = true := fun w h => hts w (lwG_ok w h)
  obtain ⟨c0, i0, h0⟩ := u_known (C := RX0) (T := TX0) (N := 3) (n := 3) hw cf_X0.2.1 (hw _ ib_X0)
  obtain ⟨c1, i1, h1⟩ := u_known (C := RX1) (T := TX1) (N := 5) (n := 5) hw cf_X1.2.1 (hw _ ib_X1)
  obtain ⟨c2, i2, h2⟩ := u_known (C := RX2) (T := TX2) (N := 3) (n := 3) hw cf_X2.2.1 (hw _ ib_X2)
  obtain ⟨c3, i3, h3⟩ := u_known (C := RX3) (T := TX3) (N := 17) (n := 17) hw cf_X3.2.1 (hw _ ib_X3)
  obtain ⟨c4, i4, h4⟩ := u_known (C := RX4) (T := TX4) (N := 6) (n := 6) hw cf_X4.2.1 (hw _ ib_X4)
  obtain ⟨c5, i5, h5⟩ := u_known (C := RX5) (T := TX5) (N := 6) (n := 6) hw cf_X5.2.1 (hw _ ib_X5)
  obtain ⟨c6, i6, h6⟩ := u_known (C := RX6) (T := TX6) (N := 8) (n := 8) hw cf_X6.2.1 (hw _ ib_X6)
  obtain ⟨c7, i7, h7⟩ := u_known (C := RX7) (T := TX7) (N := 20) (n := 20) hw cf_X7.2.1 (hw _ ib_X7)
  obtain ⟨cI, kI, pI, f1, f2, f3⟩ := Cond.arrayClass_spec (args := #[Value.ref b]) (first := s) (o := none) (s := s) (idx := []) (hw _ mw_ar_int)
  obtain ⟨cB, kB, pB, f4, f5, f6⟩ := Cond.arrayClass_spec (args := #[Value.ref b]) (first := s) (o := none) (s := s) (idx := []) (hw _ mw_ar_byte)
  obtain ⟨pL, cL, kL, l1, _, l2, l3, l4⟩ := Cond.arrayOver_spec (args := #[Value.ref b]) (first := s) (o := none) (s := s) (idx := []) (st_law hts)
  obtain ⟨pS, cS, kS, m1, _, m2, m3, m4⟩ := Cond.arrayOver_spec (args := #[Value.ref b]) (first := s) (o := none) (s := s) (idx := []) (st_sheet hts)
  refine ⟨(fun q => [c0, c1, c2, c3, c4, c5, c6, c7].getD q c0, fun q => [i0, i1, i2, i3, i4, i5, i6, i7].getD q i0), fun q => [cI, cB, cL, cS].getD q cI, ⟨?_, ?_⟩⟩
  · intro q r hq
    match q, hq with
    | 0, hq =>
      have e : (RX0, TX0, 3) = r := Option.some.inj hq
      subst e
      exact h0
    | 1, hq =>
      have e : (RX1, TX1, 5) = r := Option.some.inj hq
      subst e
      exact h1
    | 2, hq =>
      have e : (RX2, TX2, 3) = r := Option.some.inj hq
      subst e
      exact h2
    | 3, hq =>
      have e : (RX3, TX3, 17) = r := Option.some.inj hq
      subst e
      exact h3
    | 4, hq =>
      have e : (RX4, TX4, 6) = r := Option.some.inj hq
      subst e
      exact h4
    | 5, hq =>
      have e : (RX5, TX5, 6) = r := Option.some.inj hq
      subst e
      exact h5
    | 6, hq =>
      have e : (RX6, TX6, 8) = r := Option.some.inj hq
      subst e
      exact h6
    | 7, hq =>
      have e : (RX7, TX7, 20) = r := Option.some.inj hq
      subst e
      exact h7
    | q + 8, hq => simp [vwCl] at hq
  · intro q r hq
    match q, hq with
    | 0, hq =>
      have e : (cI, FieldType.int) = r := Option.some.inj hq
      subst e
      exact ⟨fun n z => ⟨fun k h => (by cases h), kI, f2, pI, f3⟩, f1⟩
    | 1, hq =>
      have e : (cB, FieldType.byte) = r := Option.some.inj hq
      subst e
      exact ⟨fun n z => ⟨fun k h => (by cases h), kB, f5, pB, f6⟩, f4⟩
    | 2, hq =>
      have e : (cL, FieldType.object "HandTown$Law") = r := Option.some.inj hq
      subst e
      exact ⟨fun n z => ⟨fun k h => (by cases h), kL, l2, pL, l3⟩, kL, pL, l2, l3, l1, l4⟩
    | 3, hq =>
      have e : (cS, FieldType.object "HandTown$Sheet") = r := Option.some.inj hq
      subst e
      exact ⟨fun n z => ⟨fun k h => (by cases h), kS, m2, pS, m3⟩, kS, pS, m2, m3, m1, m4⟩
    | q + 4, hq => simp [tysK] at hq
def stF : List Cond := flatC (Jvm.Cond.and given_1 narrow_1)
def stT (i : Nat) : Term := if i = 0 then .string RX1 15 else if i = 1 then .string RX1 32 else .string RX1 34
theorem st_a0 : Cond.arrayOf (.static RX6 "ABOVE" "[I") .int ∈ stF := by decide +kernel
theorem st_a1 : Cond.eq (.length (.static RX6 "ABOVE" "[I")) (.int (Int32.ofNat 7)) ∈ stF := by decide +kernel
theorem st_a2 : ∀ j, j < 7 → Cond.eq (.elem (.static RX6 "ABOVE" "[I") (.int (Int32.ofNat j))) (.int (tbAbove.getD j 0)) ∈ stF := by decide +kernel
theorem st_b0 : Cond.arrayOf (.static RX4 "BODIES" "[I") .int ∈ stF := by decide +kernel
theorem st_b1 : Cond.eq (.length (.static RX4 "BODIES" "[I")) (.int (Int32.ofNat 28)) ∈ stF := by decide +kernel
theorem st_b2 : ∀ j, j < 28 → Cond.eq (.elem (.static RX4 "BODIES" "[I") (.int (Int32.ofNat j))) (.int (tbBodies.getD j 0)) ∈ stF := by decide +kernel
theorem st_s0 : ∀ i, i < 3 → stLen.getD i 0 < 2 ^ 31 := by decide +kernel
theorem st_s1 : ∀ i, i < 3 → Cond.exactly (stT i) "java/lang/String" ∈ stF := by decide +kernel
theorem st_s2 : ∀ i, i < 3 → Cond.eq (.field (stT i) "java/lang/String" "coder" "B") (.int 0) ∈ stF := by decide +kernel
theorem st_s3 : ∀ i, i < 3 → Cond.arrayOf (.field (stT i) "java/lang/String" "value" "[B") .byte ∈ stF := by decide +kernel
theorem st_s4 : ∀ i, i < 3 → Cond.eq (.length (.field (stT i) "java/lang/String" "value" "[B")) (.int (Int32.ofNat (stLen.getD i 0))) ∈ stF := by decide +kernel
theorem st_s5 : ∀ i, i < 3 → ∀ j, j < stLen.getD i 0 → Cond.eq (.elem (.field (stT i) "java/lang/String" "value" "[B") (.int (Int32.ofNat j))) (.int ((stByt.getD i []).getD j 0)) ∈ stF := by decide +kernel
theorem st_s6 : ∀ i, i < 3 → ∀ j, j < 3 → i ≠ j → Cond.not (Cond.eq (stT i) (stT j)) ∈ stF ∨ Cond.not (Cond.eq (stT j) (stT i)) ∈ stF := by decide +kernel
theorem st_c0 : Cond.eq (.static "java/lang/String" "COMPACT_STRINGS" "Z") (.int 1) ∈ stF := by decide +kernel
theorem st_amb {s : State} {b : Nat} {A : Nat → Prop} (hA : ∀ a : Nat, a < s.heap.size → ¬ A a) (hts : ∀ w ∈ lw_tbl, w.before #[Value.ref b] s = true) (hgv : (Jvm.Cond.and given_1 narrow_1).before #[Value.ref b] s = true) : ∃ g : Nat → Nat, Amb g A s s.heap := by
  have hs : ∀ c ∈ stF, c.before #[Value.ref b] s = true := flat_of_before _ hgv
  obtain ⟨t0, e0, T0⟩ := va_Tof (f := fun j => .int (tbAbove.getD j 0)) (A := A) (by decide) (hs _ st_a0) (va_eqt (hs _ st_a1)) (fun j hj => va_eqt (hs _ (st_a2 j hj))) hA
  obtain ⟨t1, e1, T1⟩ := va_Tof (f := fun j => .int (tbBodies.getD j 0)) (A := A) (by decide) (hs _ st_b0) (va_eqt (hs _ st_b1)) (fun j hj => va_eqt (hs _ (st_b2 j hj))) hA
  have Z0 := va_Zref (A := A) (hts _ (lw_tb 427 (w := .laysStatic RX6 "ABOVE" "[I") (by decide +kernel))) (hts _ (lw_tb 1 (w := .initialized RX6) (by decide +kernel))) e0 hA
  have Z1 := va_Zref (A := A) (hts _ (lw_tb 726 (w := .laysStatic RX4 "BODIES" "[I") (by decide +kernel))) (hts _ (lw_tb 6 (w := .initialized RX4) (by decide +kernel))) e1 hA
  have Z2 := va_Zof (A := A) (hts _ (lw_tb 505 (w := .laysStatic "java/lang/String" "COMPACT_STRINGS" "Z") (by decide +kernel))) (hts _ (lw_tb 10 (w := .initialized "java/lang/String") (by decide +kernel))) (va_eqi (hs _ st_c0)) hA
  obtain ⟨adK, adV, hS, hE⟩ := vk_Sof (N := 3) (tm := stT) (len := stLen) (byt := stByt) (A := A) st_s0 (fun i hi => hs _ (st_s1 i hi)) (fun i hi => hs _ (st_s2 i hi)) (fun i hi => hs _ (st_s3 i hi)) (fun i hi => hs _ (st_s4 i hi)) (fun i hi j hj => hs _ (st_s5 i hi j hj)) (fun i j hi hj hij => (st_s6 i hi j hj hij).elim (fun h => Or.inl (hs _ h)) (fun h => Or.inr (hs _ h))) hA
  obtain ⟨g, g0, g1, gk, gv⟩ : ∃ g : Nat → Nat, g 0 = t0 ∧ g 1 = t1 ∧ (∀ i, i < 3 → g (2 + i) = adK i) ∧ ∀ i, i < 3 → g (5 + i) = adV i := by
    refine ⟨fun j => if j = 0 then t0 else if j = 1 then t1 else if j < 5 then adK (j - 2) else adV (j - 5), rfl, rfl, fun i hi => ?_, fun i hi => ?_⟩
    · show (if 2 + i = 0 then t0 else if 2 + i = 1 then t1 else if 2 + i < 5 then adK (2 + i - 2) else adV (2 + i - 5)) = adK i
      rw [if_neg (by omega), if_neg (by omega), if_pos (by omega), Nat.add_sub_cancel_left]
    · show (if 5 + i = 0 then t0 else if 5 + i = 1 then t1 else if 5 + i < 5 then adK (5 + i - 2) else adV (5 + i - 5)) = adV i
      rw [if_neg (by omega), if_neg (by omega), if_neg (by omega), Nat.add_sub_cancel_left]
  have g2 : g 2 = adK 0 := gk 0 (by omega)
  have g3 : g 3 = adK 1 := gk 1 (by omega)
  have g4 : g 4 = adK 2 := gk 2 (by omega)
  refine ⟨g, st_nst hts, by rw [g0]; exact Z0, by rw [g0]; exact T0, by rw [g1]; exact Z1, by rw [g1]; exact T1, ⟨fun i hi => ?_, fun i j hi hj h => ?_⟩, ?_, ?_, ?_, Z2⟩
  · have q := hS.1 i hi
    rw [← gk i hi, ← gv i hi] at q
    exact q
  · exact hS.2 i j hi hj (by rw [← gk i hi, ← gk j hj]; exact h)
  · rw [g2]
    exact vk_R.of (A := #[Value.ref b]) (hts _ (lw_tb 137 (w := .stringRef RX1 15 "") (by decide +kernel))) (hE 0 (by omega))
  · rw [g3]
    exact vk_R.of (A := #[Value.ref b]) (hts _ (lw_tb 463 (w := .stringRef RX1 32 "mth") (by decide +kernel))) (hE 1 (by omega))
  · rw [g4]
    exact vk_R.of (A := #[Value.ref b]) (hts _ (lw_tb 464 (w := .stringRef RX1 34 "rkn") (by decide +kernel))) (hE 2 (by omega))
theorem law_end {p : Program} {l : Launch} {e : Env} {s : State} {m : MethodId} {below : List Frame} {meth : Method} {c : Code} {b : Nat} {D : va_G} {cells slots : Nat} (hc : cells ≤ 600000) (hsl : slots ≤ 7302250) (hx : p.tables.exec = Jvm.exec) (hb : c.code = code) (hr : meth.sig.returnType = ret) (hlocks : meth.locks = false) (ws : va_W) (lv : List (Nat × Value)) : V (p, l, e, room_1, s, m, #[Value.ref b], below, meth, c, lw_Z below #[Value.ref b] s, D, (fun q : Nat => s.heap.size ≤ q), 4, cells, slots) ws lv [.int 1] 1448 := by
  intro H locs ls hP hD hS hl
  refine va_forget (fun q hq => hS.2.2 q hq) ?_
  refine W.widen (k := 600000) (n := 7302250) hc hsl ?_
  exact lw_ret hx hb hr hlocks dL_law_1448
theorem whole_start {p : Program} {e : Env} {s : State} {m : MethodId} {below : List Frame} {meth : Method} {c : Code} (l : Launch) (hflags : l.flags = flags0) {b L : Nat} {xs : Nat → Int32} (hL : L ≤ 3072) (C0 : lw_At p s m meth c b L xs) : W p l e room_1 s m #[Value.ref b] below meth c s.heap [] 0 0 (lw_Z below #[Value.ref b] s) (entryFrame m ([Value.ref b] : List Value).toArray 4) := by
  obtain ⟨hx, hb, hr, hml, hown, hts, hX, hbl, hlocks, hgv⟩ := id C0
  have hA : ∀ a : Nat, a < s.heap.size → ¬ (fun q : Nat => s.heap.size ≤ q) a := fun a h => Nat.not_le.mpr h
  obtain ⟨D, k, hK⟩ := st_K hts
  obtain ⟨g, hAm⟩ := st_amb (A := fun q : Nat => s.heap.size ≤ q) hA hts hgv
  have hKd : Kd s := st_Kd hts
  have hl := lv_entry ([.ref b]) (n := 4) (Nat.le_of_ble_eq_true rfl)
  rw [lg_entry_eq]
  generalize (lg_sl ([.ref b]) ++ List.replicate (4 - (lg_sl ([.ref b])).length) Slot.unset).toArray = ls at hl ⊢
  have hl : lv_has ls 4 [(0, .ref b)] := hl
  have hC : Ok (p, l, e, room_1, s, m, #[Value.ref b], below, meth, c, lw_Z below #[Value.ref b] s, D, (fun q : Nat => s.heap.size ≤ q), 4, 0, 0) l D k g cL_law RL 4 2000 80000 := ⟨rfl, rfl, rfl, hx, hb, hml, hown, fun w h => hts w (lwG_ok w h), hK, hAm, fun q h => h, Nat.le_of_ble_eq_true rfl, Nat.le_of_ble_eq_true rfl, Nat.zero_le _, Nat.zero_le _⟩
  have hR : Rm (p, l, e, room_1, s, m, #[Value.ref b], below, meth, c, lw_Z below #[Value.ref b] s, D, (fun q : Nat => s.heap.size ≤ q), 4, 0, 0) 68 3090 := ⟨Nat.le_of_ble_eq_true rfl, Nat.le_of_ble_eq_true rfl⟩
  have hScr : Scr (p, l, e, room_1, s, m, #[Value.ref b], below, meth, c, lw_Z below #[Value.ref b] s, D, (fun q : Nat => s.heap.size ≤ q), 4, 0, 0) b L xs := ⟨hX, hbl, hA b hbl⟩
  have hv : V (p, l, e, room_1, s, m, #[Value.ref b], below, meth, c, lw_Z below #[Value.ref b] s, D, (fun q : Nat => s.heap.size ≤ q), 4, 0, 0) [] [(0, .ref b)] [] 0 := by
    refine law_begin hC hKd hR (by omega) (by omega) (fun a c' hC' => ?_)
    refine law_loop hC' hScr.bmp.bmp.bmp.bmp (by omega) (by omega) hL (fun ws lv => ?_) (L + 1) 0 st0X st0M _ _ (by omega) (by omega) rq0
    refine V.iconst (pc := 1447) 1 hC' dL_law_1447 (by decide) ?_
    exact law_end (Nat.le_of_ble_eq_true rfl) (Nat.le_of_ble_eq_true rfl) hx hb hr hlocks ws lv
  exact hv s.heap [] ls (fun i q h => by simp at h) ⟨fun i j x z h => by simp at h, fun i q h => by simp at h⟩ va_S.rf hl
