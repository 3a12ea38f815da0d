/-! V: the walk's judgement over a pure picture (cells, locals, stack, place); contracts Ct; rules, one an instruction -/
theorem lwG_ok : ∀ w ∈ lwG, w ∈ lw_tbl := fun _ h => (List.mem_filter.mp h).1
abbrev wU (y : MethodName) (b : ByteArray) (n : Nat) (r : Option FieldType) : List Cond := Cond.code y b n r :: lwG
theorem gU {y : MethodName} {b : ByteArray} {n : Nat} {r : Option FieldType} (h : Cond.code y b n r ∈ lwG) : GoodIn lwG (wU y b n r) := by
  intro w hw
  rcases List.mem_cons.mp hw with rfl | hw
  · exact ⟨h, good_of_word (List.mem_filter.mp h).2⟩
  · exact ⟨hw, good_of_word (List.mem_filter.mp hw).2⟩
theorem gUV {own : String} {idx : Nat} {C : String} {y : MethodName} {b : ByteArray} {n np : Nat} {r : Option FieldType} (h1 : Cond.methodLink own idx y ∈ lwG) (h : MU C y b n r np) : GoodIn lwG (wsV own idx C y (wU y b n r)) := by
  intro w hw
  have g : ∀ v : Cond, v ∈ lwG → v ∈ lwG ∧ ((v.onTables && v.keeps) = true ∨ ∃ ty, v = .arrayClass ty) := fun v hv => ⟨hv, good_of_word (List.mem_filter.mp hv).2⟩
  unfold wsV at hw
  rcases List.mem_append.mp hw with hw | hw
  · simp only [List.mem_cons, List.not_mem_nil, or_false] at hw
    rcases hw with rfl | rfl | rfl | rfl
    · exact g _ h1
    · exact g _ h.2.1
    · exact g _ h.2.2.1
    · exact g _ h.2.2.2.1
  · exact gU h.1 w hw
theorem gUS {own : String} {idx : Nat} {y : MethodName} {b : ByteArray} {n np : Nat} {r : Option FieldType} (h1 : Cond.methodLink own idx y ∈ lwG) (h : MS y b n r np) : GoodIn lwG (va_wsS own idx y (wU y b n r)) := by
  intro w hw
  have g : ∀ v : Cond, v ∈ lwG → v ∈ lwG ∧ ((v.onTables && v.keeps) = true ∨ ∃ ty, v = .arrayClass ty) := fun v hv => ⟨hv, good_of_word (List.mem_filter.mp hv).2⟩
  unfold va_wsS at hw
  rcases List.mem_append.mp hw with hw | hw
  · simp only [List.mem_cons, List.not_mem_nil, or_false] at hw
    rcases hw with rfl | rfl | rfl
    · exact g _ h1
    · exact g _ h.2.1
    · exact g _ h.2.2.1
  · exact gU h.1 w hw
/-! what stays around every call: the nest mates' links, the tables, the String constants -/
def nstW : List Cond := [.fieldLinkNest RX4 43 RX6 "ABOVE" "[I" RX6, .methodLinkNest RX6 37 yX4_init RX6, .methodLinkNest RX6 44 yX2_init RX6, .methodLinkNest RX6 9 yX3_init RX6, .methodLinkNest RX3 113 yX6_hold RX6, .methodLinkNest RX3 131 yX6_isIn RX6, .methodLinkNest RX3 46 yX0_init RX6, .methodLinkNest RX3 85 yX6_within RX6, .methodLinkNest RX3 93 yX6_rest RX6, .methodLinkNest RX5 55 yX6_isIn RX6]
def Nst (U : State) : Prop := ∀ w ∈ nstW, va_Nw w U
theorem Nst.warm {s U : State} (hW : s.WarmedH U.vm) (h : Nst s) : Nst U := by
  intro w hw
  have h1 := h w hw
  simp only [nstW, List.mem_cons, List.not_mem_nil, or_false] at hw
  rcases hw with rfl | rfl | rfl | rfl | rfl | rfl | rfl | rfl | rfl | rfl
  · exact h1.warmF hW
  all_goals exact h1.warmM hW
theorem Nst.same {u U : State} (hv : u.vm = U.vm) (h : Nst u) : Nst U := by
  intro w hw
  have h1 := h w hw
  simp only [nstW, List.mem_cons, List.not_mem_nil, or_false] at hw
  rcases hw with rfl | rfl | rfl | rfl | rfl | rfl | rfl | rfl | rfl | rfl
  all_goals exact va_Nw.same rfl hv h1
def tbAbove : List Int32 := [-1, 0, 0, 0, 1, 2, 0]
def tbBodies : List Int32 := [10, 11, 12, 13, 20, 0, 0, 21, 0, 30, 0, 0, 0, 0, 40, 0, 50, 0, 51, 0, 0, 60, 0, 0, 70, 71, 0, 0]
def stLen : List Nat := [0, 3, 3]
def stByt : List (List Int32) := [[], [109, 116, 104], [114, 107, 110]]
/-- g 0, g 1: the tables ABOVE and BODIES; g 2, 3, 4: the String constants; g 5, 6, 7: their rows of bytes -/
def Amb (g : Nat → Nat) (A : Nat → Prop) (U : State) (H : Heap) : Prop :=
  Nst U ∧ va_Z RX6 "ABOVE" "[I" (.ref (g 0)) A U H ∧ va_T .int (g 0) 7 (fun j => .int (tbAbove.getD j 0)) A U H ∧ va_Z RX4 "BODIES" "[I" (.ref (g 1)) A U H ∧ va_T .int (g 1) 28 (fun j => .int (tbBodies.getD j 0)) A U H ∧
  vk_S 3 stLen stByt (fun i => g (2 + i)) (fun i => g (5 + i)) A U H ∧ vk_R RX1 15 "" (g 2) U ∧ vk_R RX1 32 "mth" (g 3) U ∧ vk_R RX1 34 "rkn" (g 4) U ∧ va_Z "java/lang/String" "COMPACT_STRINGS" "Z" (.int 1) A U H
theorem Amb.warm {g : Nat → Nat} {A : Nat → Prop} {s U : State} {H : Heap} (hW : s.WarmedH U.vm) (h : Amb g A s H) : Amb g A U H := by
  obtain ⟨h1, h2, h3, h4, h5, h6, h7, h8, h9, h10⟩ := h
  exact ⟨h1.warm hW, va_Z.moved hW.alike h2, va_T.moved hW.alike h3, va_Z.moved hW.alike h4, va_T.moved hW.alike h5, vk_S.moved hW.alike h6, vk_R.warm hW h7, vk_R.warm hW h8, vk_R.warm hW h9, va_Z.moved hW.alike h10⟩
theorem Amb.same {g : Nat → Nat} {A : Nat → Prop} {u U : State} {H : Heap} (hv : u.vm = U.vm) (h : Amb g A u H) : Amb g A U H := by
  have hA : u.vm.Alike U.vm := by rw [hv]; exact Vm.Alike.refl U.vm
  obtain ⟨h1, h2, h3, h4, h5, h6, h7, h8, h9, h10⟩ := h
  exact ⟨h1.same hv, va_Z.moved hA h2, va_T.moved hA h3, va_Z.moved hA h4, va_T.moved hA h5, vk_S.moved hA h6, vk_R.same hv.symm h7, vk_R.same hv.symm h8, vk_R.same hv.symm h9, va_Z.moved hA h10⟩
theorem Amb.kept {g : Nat → Nat} {A : Nat → Prop} {U : State} {H H1 : Heap} (h : Amb g A U H) (hq : ∀ a : Nat, a < H.size → ¬ A a → H1[a]? = H[a]?) : Amb g A U H1 := by
  obtain ⟨h1, h2, h3, h4, h5, h6, h7, h8, h9, h10⟩ := h
  exact ⟨h1, h2.kept hq, h3.kept hq, h4.kept hq, h5.kept hq, h6.kept hq, h7, h8, h9, h10.kept hq⟩
theorem Amb.narrow {g : Nat → Nat} {A B : Nat → Prop} {U : State} {H : Heap} (h : Amb g A U H) (hAB : ∀ q, B q → A q) : Amb g B U H := by
  obtain ⟨h1, h2, h3, h4, h5, h6, h7, h8, h9, h10⟩ := h
  exact ⟨h1, h2.narrow hAB, h3.narrow hAB, h4.narrow hAB, h5.narrow hAB, h6.narrow hAB, h7, h8, h9, h10.narrow hAB⟩
abbrev tysK (k : Nat → ClassId) : List (ClassId × FieldType) := [(k 0, .int), (k 1, .byte), (k 2, .object "HandTown$Law"), (k 3, .object "HandTown$Sheet")]
/-- a walk's fixed things -/
abbrev Cx : Type := Program × Launch × Env × Room × State × MethodId × Array Value × List Frame × Method × Code × (State → Prop) × va_G × (Nat → Prop) × Nat × Nat × Nat
def V (X : Cx) (ws : va_W) (lv : List (Nat × Value)) (st : List Value) (pc : Nat) : Prop :=
  match X with
  | (p, l, e, R, s, m, args, below, meth, c, Q, D, A, nL, cells, slots) => ∀ (H : Heap) (locs : List Loc) (ls : Array Slot), va_P D vwCl ws H → va_D A ws → va_S A s.heap H locs → lv_has ls nL lv → W p l e R s m args below meth c H locs cells slots Q (F0 m pc ls st)
def Ok (X : Cx) (l0 : Launch) (D0 : va_G) (k : Nat → ClassId) (g : Nat → Nat) (cc : ByteArray) (own : String) (n fr lo : Nat) : Prop :=
  match X with
  | (p, l, _, R, s, m, args, _, _, c, _, D, A, nL, cells, slots) => l = l0 ∧ D = D0 ∧ nL = n ∧ p.tables.exec = Jvm.exec ∧ c.code = cc ∧ c.maxLocals = nL ∧ s.vm.findClass own = some m.cls ∧ (∀ w ∈ lwG, w.before args s = true) ∧ va_K D vwCl (tysK k) s ∧ Amb g A s s.heap ∧ (∀ q, s.heap.size ≤ q → A q) ∧ fr ≤ R.frames ∧ lo ≤ R.locals ∧ cells ≤ R.cells ∧ slots ≤ R.slots
/-- the contract of a method that makes no cell: its world ws goes over into ws' u, 'post answer u' -/
def Ct (l : Launch) (D : va_G) (k : Nat → ClassId) (g : Nat → Nat) (y : MethodName) (b : ByteArray) (n : Nat) (r : Option FieldType) (fr lo : Nat) (as : List Value) {S : Type} (ws : va_W) (ws' : S → va_W) (post : Option Value → S → Prop) : Prop :=
  ∀ sz : Nat, Met l y (wU y b n r) ({ frames := fr, cells := 0, slots := 0, locals := lo }) (va_Pc as (fun U => U.heap.size = sz ∧ va_P D vwCl ws U.heap ∧ va_K D vwCl (tysK k) U ∧ va_D (fun _ => True) ws ∧ Amb g (va_A ws sz) U U.heap))
    (fun _ st oc t => (∃ (v : Option Value) (u : S), oc = .returned v ∧ post v u ∧ va_P D vwCl (ws' u) t.heap ∧ va_D (va_A ws sz) (ws' u)) ∧ va_F (va_A ws sz) st t) 0 0 (va_A ws sz)
theorem Ct.mono {l : Launch} {D : va_G} {k : Nat → ClassId} {g : Nat → Nat} {y : MethodName} {b : ByteArray} {n : Nat} {r : Option FieldType} {fr lo fr' lo' : Nat} {as : List Value} {S : Type} {ws : va_W} {ws' : S → va_W} {post post' : Option Value → S → Prop} (h : Ct l D k g y b n r fr lo as ws ws' post) (hp : ∀ v u, post v u → post' v u) : Ct l D k g y b n r fr lo as ws ws' post' := by
  intro sz p e ha hc hk s m args below hf hfit hheap happ
  obtain ⟨kk, o, h1, h2, h3, ⟨⟨⟨v, u, q1, q2, q3⟩, q4⟩, q5⟩⟩ := h sz p e ha hc hk s m args below hf hfit hheap happ
  exact ⟨kk, o, h1, h2, h3, ⟨⟨⟨v, u, q1, hp v u q2, q3⟩, q4⟩, q5⟩⟩

theorem Ct.ofI {l : Launch} {D : va_G} {k : Nat → ClassId} {g : Nat → Nat} {y : MethodName} {b : ByteArray} {n : Nat} {ty : FieldType} {fr lo : Nat} {as : List Value} {S : Type} {ws : va_W} {ws' : S → va_W} {post : Option Value → S → Prop} (own : String) (hown : y.cls = own) (hy : plainFor y = true) (hlen : (lg_sl as).length ≤ n)
    (body : ∀ X : Cx, Ok X l D k g b own n fr lo → (∀ (r : Int32) (u : S) (lv : List (Nat × Value)) (pc : Nat), decode b pc = .ok (.ireturn, 1) → narrow ty (.int r) = .int r → post (some (.int r)) u → V X (ws' u) lv [.int r] pc) → V X ws (lv_args 0 as) [] 0) : Ct l D k g y b n (some ty) fr lo as ws ws' post := by
  intro sz
  refine va_MetF (cc := b) (maxL := n) (ret := (some ty)) hy rfl ?_
  intro p e s m args below meth c s₁ B hml hv
  obtain ⟨rfl, hsz, hP, hK, hD0, hAm⟩ := hv
  have hx := B.exec
  have hb := B.bytes
  have hr := B.returns
  have hts := atoms_spec (ws := wU y b n (some ty)) B.pre
  have hown : s.vm.findClass own = some m.cls := by rw [← hown]; exact findClass_of_methodNamed B.named
  have hlocks := B.notSynchronized
  subst hsz
  have hD := hD0.self (sz := s.heap.size)
  have hl := lv_entry as (n := n) hlen
  rw [lg_entry_eq]
  generalize (lg_sl as ++ List.replicate (n - (lg_sl as).length) Slot.unset).toArray = ls at hl ⊢
  refine body (p, l, e, (headSpec (wU y b n (some ty)) ({ frames := fr, cells := 0, slots := 0, locals := lo })).room, s, m, as.toArray, below, meth, c, _, D, va_A ws s.heap.size, n, 0, 0)
    ⟨rfl, rfl, rfl, hx, hb, hml, hown, fun w hw => hts w (List.mem_cons_of_mem _ hw), hK, hAm, fun q h => Or.inr h, Nat.le_refl _, Nat.le_refl _, Nat.zero_le _, Nat.zero_le _⟩ (fun r u lv pc hd hn hpost => ?_) s.heap [] ls hP hD va_S.rf hl
  intro H locs ls hP hD hS hl
  exact W.zret (v := r) hx hb hr hn (fun t ht hW => ⟨⟨(some (.int r)), u, rfl, hpost, by rw [ht]; exact hP, hD⟩, hS.F ht⟩) hS.2.2 hd
theorem Ct.ofV {l : Launch} {D : va_G} {k : Nat → ClassId} {g : Nat → Nat} {y : MethodName} {b : ByteArray} {n : Nat} {fr lo : Nat} {as : List Value} {S : Type} {ws : va_W} {ws' : S → va_W} {post : Option Value → S → Prop} (own : String) (hown : y.cls = own) (hy : plainFor y = true) (hlen : (lg_sl as).length ≤ n)
    (body : ∀ X : Cx, Ok X l D k g b own n fr lo → (∀ (u : S) (lv : List (Nat × Value)) (pc : Nat), decode b pc = .ok (.return_, 1) → post none u → V X (ws' u) lv [] pc) → V X ws (lv_args 0 as) [] 0) : Ct l D k g y b n none fr lo as ws ws' post := by
  intro sz
  refine va_MetF (cc := b) (maxL := n) (ret := none) hy rfl ?_
  intro p e s m args below meth c s₁ B hml hv
  obtain ⟨rfl, hsz, hP, hK, hD0, hAm⟩ := hv
  have hx := B.exec
  have hb := B.bytes
  have hr := B.returns
  have hts := atoms_spec (ws := wU y b n none) B.pre
  have hown : s.vm.findClass own = some m.cls := by rw [← hown]; exact findClass_of_methodNamed B.named
  have hlocks := B.notSynchronized
  subst hsz
  have hD := hD0.self (sz := s.heap.size)
  have hl := lv_entry as (n := n) hlen
  rw [lg_entry_eq]
  generalize (lg_sl as ++ List.replicate (n - (lg_sl as).length) Slot.unset).toArray = ls at hl ⊢
  refine body (p, l, e, (headSpec (wU y b n none) ({ frames := fr, cells := 0, slots := 0, locals := lo })).room, s, m, as.toArray, below, meth, c, _, D, va_A ws s.heap.size, n, 0, 0)
    ⟨rfl, rfl, rfl, hx, hb, hml, hown, fun w hw => hts w (List.mem_cons_of_mem _ hw), hK, hAm, fun q h => Or.inr h, Nat.le_refl _, Nat.le_refl _, Nat.zero_le _, Nat.zero_le _⟩ (fun u lv pc hd hpost => ?_) s.heap [] ls hP hD va_S.rf hl
  intro H locs ls hP hD hS hl
  exact W.vret hx hb hr (fun t ht hW => ⟨⟨none, u, rfl, hpost, by rw [ht]; exact hP, hD⟩, hS.F ht⟩) hS.2.2 hd
theorem V.iconst {X : Cx} {l : Launch} {D : va_G} {k : Nat → ClassId} {g : Nat → Nat} {cc : ByteArray} {own : String} {n fr lo : Nat} {ws : va_W} {lv : List (Nat × Value)} {st : List Value} {pc : Nat} {i : Int} (v : Int32) (hC : Ok X l D k g cc own n fr lo) (hd : decode cc pc = .ok (.iconst i, 1)) (hv : Int32.ofInt i = v) (kk : V X ws lv (.int v :: st) (pc + 1)) : V X ws lv st pc := by
  obtain ⟨p, l, e, R, s, m, args, below, meth, c, Q, D, A, nL, cells, slots⟩ := X
  obtain ⟨rfl, rfl, rfl, hx, hb, hml, hown, hts, hK, hAm, hA, hfr, hlo, hce, hsl⟩ := hC
  intro H locs ls hP hD hS hl
  exact lv_iconst hx hb hd hv (kk H locs ls hP hD hS hl)
theorem V.bipush {X : Cx} {l : Launch} {D : va_G} {k : Nat → ClassId} {g : Nat → Nat} {cc : ByteArray} {own : String} {n fr lo : Nat} {ws : va_W} {lv : List (Nat × Value)} {st : List Value} {pc : Nat} {i : Int} (v : Int32) (hC : Ok X l D k g cc own n fr lo) (hd : decode cc pc = .ok (.bipush i, 2)) (hv : (Int8.ofInt i).toInt32 = v) (kk : V X ws lv (.int v :: st) (pc + 2)) : V X ws lv st pc := by
  obtain ⟨p, l, e, R, s, m, args, below, meth, c, Q, D, A, nL, cells, slots⟩ := X
  obtain ⟨rfl, rfl, rfl, hx, hb, hml, hown, hts, hK, hAm, hA, hfr, hlo, hce, hsl⟩ := hC
  intro H locs ls hP hD hS hl
  exact lv_bipush hx hb hd hv (kk H locs ls hP hD hS hl)
theorem V.sipush {X : Cx} {l : Launch} {D : va_G} {k : Nat → ClassId} {g : Nat → Nat} {cc : ByteArray} {own : String} {n fr lo : Nat} {ws : va_W} {lv : List (Nat × Value)} {st : List Value} {pc : Nat} {i : Int} (v : Int32) (hC : Ok X l D k g cc own n fr lo) (hd : decode cc pc = .ok (.sipush i, 3)) (hv : (Int16.ofInt i).toInt32 = v) (kk : V X ws lv (.int v :: st) (pc + 3)) : V X ws lv st pc := by
  obtain ⟨p, l, e, R, s, m, args, below, meth, c, Q, D, A, nL, cells, slots⟩ := X
  obtain ⟨rfl, rfl, rfl, hx, hb, hml, hown, hts, hK, hAm, hA, hfr, hlo, hce, hsl⟩ := hC
  intro H locs ls hP hD hS hl
  exact lv_sipush hx hb hd hv (kk H locs ls hP hD hS hl)
theorem V.iadd {X : Cx} {l : Launch} {D : va_G} {k : Nat → ClassId} {g : Nat → Nat} {cc : ByteArray} {own : String} {n fr lo : Nat} {ws : va_W} {lv : List (Nat × Value)} {st : List Value} {pc : Nat} {x y : Int32} (hC : Ok X l D k g cc own n fr lo) (hd : decode cc pc = .ok (.iadd, 1)) (kk : V X ws lv (.int (x + y) :: st) (pc + 1)) : V X ws lv (.int y :: .int x :: st) pc := by
  obtain ⟨p, l, e, R, s, m, args, below, meth, c, Q, D, A, nL, cells, slots⟩ := X
  obtain ⟨rfl, rfl, rfl, hx, hb, hml, hown, hts, hK, hAm, hA, hfr, hlo, hce, hsl⟩ := hC
  intro H locs ls hP hD hS hl
  exact lv_iadd hx hb hd (kk H locs ls hP hD hS hl)
theorem V.isub {X : Cx} {l : Launch} {D : va_G} {k : Nat → ClassId} {g : Nat → Nat} {cc : ByteArray} {own : String} {n fr lo : Nat} {ws : va_W} {lv : List (Nat × Value)} {st : List Value} {pc : Nat} {x y : Int32} (hC : Ok X l D k g cc own n fr lo) (hd : decode cc pc = .ok (.isub, 1)) (kk : V X ws lv (.int (x - y) :: st) (pc + 1)) : V X ws lv (.int y :: .int x :: st) pc := by
  obtain ⟨p, l, e, R, s, m, args, below, meth, c, Q, D, A, nL, cells, slots⟩ := X
  obtain ⟨rfl, rfl, rfl, hx, hb, hml, hown, hts, hK, hAm, hA, hfr, hlo, hce, hsl⟩ := hC
  intro H locs ls hP hD hS hl
  exact lv_isub hx hb hd (kk H locs ls hP hD hS hl)
theorem V.imul {X : Cx} {l : Launch} {D : va_G} {k : Nat → ClassId} {g : Nat → Nat} {cc : ByteArray} {own : String} {n fr lo : Nat} {ws : va_W} {lv : List (Nat × Value)} {st : List Value} {pc : Nat} {x y : Int32} (hC : Ok X l D k g cc own n fr lo) (hd : decode cc pc = .ok (.imul, 1)) (kk : V X ws lv (.int (x * y) :: st) (pc + 1)) : V X ws lv (.int y :: .int x :: st) pc := by
  obtain ⟨p, l, e, R, s, m, args, below, meth, c, Q, D, A, nL, cells, slots⟩ := X
  obtain ⟨rfl, rfl, rfl, hx, hb, hml, hown, hts, hK, hAm, hA, hfr, hlo, hce, hsl⟩ := hC
  intro H locs ls hP hD hS hl
  exact lv_imul hx hb hd (kk H locs ls hP hD hS hl)
theorem V.iand {X : Cx} {l : Launch} {D : va_G} {k : Nat → ClassId} {g : Nat → Nat} {cc : ByteArray} {own : String} {n fr lo : Nat} {ws : va_W} {lv : List (Nat × Value)} {st : List Value} {pc : Nat} {x y : Int32} (hC : Ok X l D k g cc own n fr lo) (hd : decode cc pc = .ok (.iand, 1)) (kk : V X ws lv (.int (x &&& y) :: st) (pc + 1)) : V X ws lv (.int y :: .int x :: st) pc := by
  obtain ⟨p, l, e, R, s, m, args, below, meth, c, Q, D, A, nL, cells, slots⟩ := X
  obtain ⟨rfl, rfl, rfl, hx, hb, hml, hown, hts, hK, hAm, hA, hfr, hlo, hce, hsl⟩ := hC
  intro H locs ls hP hD hS hl
  exact lv_iand hx hb hd (kk H locs ls hP hD hS hl)
theorem V.ior {X : Cx} {l : Launch} {D : va_G} {k : Nat → ClassId} {g : Nat → Nat} {cc : ByteArray} {own : String} {n fr lo : Nat} {ws : va_W} {lv : List (Nat × Value)} {st : List Value} {pc : Nat} {x y : Int32} (hC : Ok X l D k g cc own n fr lo) (hd : decode cc pc = .ok (.ior, 1)) (kk : V X ws lv (.int (x ||| y) :: st) (pc + 1)) : V X ws lv (.int y :: .int x :: st) pc := by
  obtain ⟨p, l, e, R, s, m, args, below, meth, c, Q, D, A, nL, cells, slots⟩ := X
  obtain ⟨rfl, rfl, rfl, hx, hb, hml, hown, hts, hK, hAm, hA, hfr, hlo, hce, hsl⟩ := hC
  intro H locs ls hP hD hS hl
  exact lv_ior hx hb hd (kk H locs ls hP hD hS hl)
theorem V.ixor {X : Cx} {l : Launch} {D : va_G} {k : Nat → ClassId} {g : Nat → Nat} {cc : ByteArray} {own : String} {n fr lo : Nat} {ws : va_W} {lv : List (Nat × Value)} {st : List Value} {pc : Nat} {x y : Int32} (hC : Ok X l D k g cc own n fr lo) (hd : decode cc pc = .ok (.ixor, 1)) (kk : V X ws lv (.int (x ^^^ y) :: st) (pc + 1)) : V X ws lv (.int y :: .int x :: st) pc := by
  obtain ⟨p, l, e, R, s, m, args, below, meth, c, Q, D, A, nL, cells, slots⟩ := X
  obtain ⟨rfl, rfl, rfl, hx, hb, hml, hown, hts, hK, hAm, hA, hfr, hlo, hce, hsl⟩ := hC
  intro H locs ls hP hD hS hl
  exact lv_ixor hx hb hd (kk H locs ls hP hD hS hl)
theorem V.ishl {X : Cx} {l : Launch} {D : va_G} {k : Nat → ClassId} {g : Nat → Nat} {cc : ByteArray} {own : String} {n fr lo : Nat} {ws : va_W} {lv : List (Nat × Value)} {st : List Value} {pc : Nat} {x y : Int32} (hC : Ok X l D k g cc own n fr lo) (hd : decode cc pc = .ok (.ishl, 1)) (kk : V X ws lv (.int (x <<< (y &&& 31)) :: st) (pc + 1)) : V X ws lv (.int y :: .int x :: st) pc := by
  obtain ⟨p, l, e, R, s, m, args, below, meth, c, Q, D, A, nL, cells, slots⟩ := X
  obtain ⟨rfl, rfl, rfl, hx, hb, hml, hown, hts, hK, hAm, hA, hfr, hlo, hce, hsl⟩ := hC
  intro H locs ls hP hD hS hl
  exact lv_ishl hx hb hd (kk H locs ls hP hD hS hl)
theorem V.ishr {X : Cx} {l : Launch} {D : va_G} {k : Nat → ClassId} {g : Nat → Nat} {cc : ByteArray} {own : String} {n fr lo : Nat} {ws : va_W} {lv : List (Nat × Value)} {st : List Value} {pc : Nat} {x y : Int32} (hC : Ok X l D k g cc own n fr lo) (hd : decode cc pc = .ok (.ishr, 1)) (kk : V X ws lv (.int (x >>> (y &&& 31)) :: st) (pc + 1)) : V X ws lv (.int y :: .int x :: st) pc := by
  obtain ⟨p, l, e, R, s, m, args, below, meth, c, Q, D, A, nL, cells, slots⟩ := X
  obtain ⟨rfl, rfl, rfl, hx, hb, hml, hown, hts, hK, hAm, hA, hfr, hlo, hce, hsl⟩ := hC
  intro H locs ls hP hD hS hl
  exact lv_ishr hx hb hd (kk H locs ls hP hD hS hl)
theorem V.idiv {X : Cx} {l : Launch} {D : va_G} {k : Nat → ClassId} {g : Nat → Nat} {cc : ByteArray} {own : String} {n fr lo : Nat} {ws : va_W} {lv : List (Nat × Value)} {st : List Value} {pc : Nat} {x y : Int32} (hC : Ok X l D k g cc own n fr lo) (hd : decode cc pc = .ok (.idiv, 1)) (hne : ¬ y = 0) (kk : V X ws lv (.int (x / y) :: st) (pc + 1)) : V X ws lv (.int y :: .int x :: st) pc := by
  obtain ⟨p, l, e, R, s, m, args, below, meth, c, Q, D, A, nL, cells, slots⟩ := X
  obtain ⟨rfl, rfl, rfl, hx, hb, hml, hown, hts, hK, hAm, hA, hfr, hlo, hce, hsl⟩ := hC
  intro H locs ls hP hD hS hl
  exact lv_idiv hx hb hd hne (kk H locs ls hP hD hS hl)
theorem V.irem {X : Cx} {l : Launch} {D : va_G} {k : Nat → ClassId} {g : Nat → Nat} {cc : ByteArray} {own : String} {n fr lo : Nat} {ws : va_W} {lv : List (Nat × Value)} {st : List Value} {pc : Nat} {x y : Int32} (hC : Ok X l D k g cc own n fr lo) (hd : decode cc pc = .ok (.irem, 1)) (hne : ¬ y = 0) (kk : V X ws lv (.int (x - x / y * y) :: st) (pc + 1)) : V X ws lv (.int y :: .int x :: st) pc := by
  obtain ⟨p, l, e, R, s, m, args, below, meth, c, Q, D, A, nL, cells, slots⟩ := X
  obtain ⟨rfl, rfl, rfl, hx, hb, hml, hown, hts, hK, hAm, hA, hfr, hlo, hce, hsl⟩ := hC
  intro H locs ls hP hD hS hl
  exact lv_irem hx hb hd hne (kk H locs ls hP hD hS hl)
theorem V.ineg {X : Cx} {l : Launch} {D : va_G} {k : Nat → ClassId} {g : Nat → Nat} {cc : ByteArray} {own : String} {n fr lo : Nat} {ws : va_W} {lv : List (Nat × Value)} {st : List Value} {pc : Nat} {x : Int32} (hC : Ok X l D k g cc own n fr lo) (hd : decode cc pc = .ok (.ineg, 1)) (kk : V X ws lv (.int (-x) :: st) (pc + 1)) : V X ws lv (.int x :: st) pc := by
  obtain ⟨p, l, e, R, s, m, args, below, meth, c, Q, D, A, nL, cells, slots⟩ := X
  obtain ⟨rfl, rfl, rfl, hx, hb, hml, hown, hts, hK, hAm, hA, hfr, hlo, hce, hsl⟩ := hC
  intro H locs ls hP hD hS hl
  exact lv_ineg hx hb hd (kk H locs ls hP hD hS hl)
theorem V.iushr {X : Cx} {l : Launch} {D : va_G} {k : Nat → ClassId} {g : Nat → Nat} {cc : ByteArray} {own : String} {n fr lo : Nat} {ws : va_W} {lv : List (Nat × Value)} {st : List Value} {pc : Nat} {x y : Int32} (hC : Ok X l D k g cc own n fr lo) (hd : decode cc pc = .ok (.iushr, 1)) (kk : V X ws lv (.int ((x.toUInt32 >>> (y.toUInt32 &&& Int32.toUInt32 31)).toInt32) :: st) (pc + 1)) : V X ws lv (.int y :: .int x :: st) pc := by
  obtain ⟨p, l, e, R, s, m, args, below, meth, c, Q, D, A, nL, cells, slots⟩ := X
  obtain ⟨rfl, rfl, rfl, hx, hb, hml, hown, hts, hK, hAm, hA, hfr, hlo, hce, hsl⟩ := hC
  intro H locs ls hP hD hS hl
  exact lv_iushr hx hb hd rfl (kk H locs ls hP hD hS hl)
theorem V.lushr {X : Cx} {l : Launch} {D : va_G} {k : Nat → ClassId} {g : Nat → Nat} {cc : ByteArray} {own : String} {n fr lo : Nat} {ws : va_W} {lv : List (Nat × Value)} {st : List Value} {pc : Nat} {x : Int64} {y : Int32} (hC : Ok X l D k g cc own n fr lo) (hd : decode cc pc = .ok (.lushr, 1)) (kk : V X ws lv (.long ((x.toUInt64 >>> (y.toInt64.toUInt64 &&& Int64.toUInt64 63)).toInt64) :: st) (pc + 1)) : V X ws lv (.int y :: .long x :: st) pc := by
  obtain ⟨p, l, e, R, s, m, args, below, meth, c, Q, D, A, nL, cells, slots⟩ := X
  obtain ⟨rfl, rfl, rfl, hx, hb, hml, hown, hts, hK, hAm, hA, hfr, hlo, hce, hsl⟩ := hC
  intro H locs ls hP hD hS hl
  exact lv_lushr hx hb hd rfl (kk H locs ls hP hD hS hl)
theorem V.lshr {X : Cx} {l : Launch} {D : va_G} {k : Nat → ClassId} {g : Nat → Nat} {cc : ByteArray} {own : String} {n fr lo : Nat} {ws : va_W} {lv : List (Nat × Value)} {st : List Value} {pc : Nat} {x : Int64} {y : Int32} (hC : Ok X l D k g cc own n fr lo) (hd : decode cc pc = .ok (.lshr, 1)) (kk : V X ws lv (.long (x >>> (y.toInt64 &&& 63)) :: st) (pc + 1)) : V X ws lv (.int y :: .long x :: st) pc := by
  obtain ⟨p, l, e, R, s, m, args, below, meth, c, Q, D, A, nL, cells, slots⟩ := X
  obtain ⟨rfl, rfl, rfl, hx, hb, hml, hown, hts, hK, hAm, hA, hfr, hlo, hce, hsl⟩ := hC
  intro H locs ls hP hD hS hl
  exact lv_lshr hx hb hd rfl (kk H locs ls hP hD hS hl)
theorem V.lshl {X : Cx} {l : Launch} {D : va_G} {k : Nat → ClassId} {g : Nat → Nat} {cc : ByteArray} {own : String} {n fr lo : Nat} {ws : va_W} {lv : List (Nat × Value)} {st : List Value} {pc : Nat} {x : Int64} {y : Int32} (hC : Ok X l D k g cc own n fr lo) (hd : decode cc pc = .ok (.lshl, 1)) (kk : V X ws lv (.long (x <<< (y.toInt64 &&& 63)) :: st) (pc + 1)) : V X ws lv (.int y :: .long x :: st) pc := by
  obtain ⟨p, l, e, R, s, m, args, below, meth, c, Q, D, A, nL, cells, slots⟩ := X
  obtain ⟨rfl, rfl, rfl, hx, hb, hml, hown, hts, hK, hAm, hA, hfr, hlo, hce, hsl⟩ := hC
  intro H locs ls hP hD hS hl
  exact lv_lshl hx hb hd rfl (kk H locs ls hP hD hS hl)
theorem V.land {X : Cx} {l : Launch} {D : va_G} {k : Nat → ClassId} {g : Nat → Nat} {cc : ByteArray} {own : String} {n fr lo : Nat} {ws : va_W} {lv : List (Nat × Value)} {st : List Value} {pc : Nat} {x y : Int64} (hC : Ok X l D k g cc own n fr lo) (hd : decode cc pc = .ok (.land, 1)) (kk : V X ws lv (.long (x &&& y) :: st) (pc + 1)) : V X ws lv (.long y :: .long x :: st) pc := by
  obtain ⟨p, l, e, R, s, m, args, below, meth, c, Q, D, A, nL, cells, slots⟩ := X
  obtain ⟨rfl, rfl, rfl, hx, hb, hml, hown, hts, hK, hAm, hA, hfr, hlo, hce, hsl⟩ := hC
  intro H locs ls hP hD hS hl
  exact lv_land hx hb hd (kk H locs ls hP hD hS hl)
theorem V.lor {X : Cx} {l : Launch} {D : va_G} {k : Nat → ClassId} {g : Nat → Nat} {cc : ByteArray} {own : String} {n fr lo : Nat} {ws : va_W} {lv : List (Nat × Value)} {st : List Value} {pc : Nat} {x y : Int64} (hC : Ok X l D k g cc own n fr lo) (hd : decode cc pc = .ok (.lor, 1)) (kk : V X ws lv (.long (x ||| y) :: st) (pc + 1)) : V X ws lv (.long y :: .long x :: st) pc := by
  obtain ⟨p, l, e, R, s, m, args, below, meth, c, Q, D, A, nL, cells, slots⟩ := X
  obtain ⟨rfl, rfl, rfl, hx, hb, hml, hown, hts, hK, hAm, hA, hfr, hlo, hce, hsl⟩ := hC
  intro H locs ls hP hD hS hl
  exact lv_lor hx hb hd (kk H locs ls hP hD hS hl)
theorem V.i2l {X : Cx} {l : Launch} {D : va_G} {k : Nat → ClassId} {g : Nat → Nat} {cc : ByteArray} {own : String} {n fr lo : Nat} {ws : va_W} {lv : List (Nat × Value)} {st : List Value} {pc : Nat} {x : Int32} (hC : Ok X l D k g cc own n fr lo) (hd : decode cc pc = .ok (.i2l, 1)) (kk : V X ws lv (.long x.toInt64 :: st) (pc + 1)) : V X ws lv (.int x :: st) pc := by
  obtain ⟨p, l, e, R, s, m, args, below, meth, c, Q, D, A, nL, cells, slots⟩ := X
  obtain ⟨rfl, rfl, rfl, hx, hb, hml, hown, hts, hK, hAm, hA, hfr, hlo, hce, hsl⟩ := hC
  intro H locs ls hP hD hS hl
  exact lv_i2l hx hb hd rfl (kk H locs ls hP hD hS hl)
theorem V.l2i {X : Cx} {l : Launch} {D : va_G} {k : Nat → ClassId} {g : Nat → Nat} {cc : ByteArray} {own : String} {n fr lo : Nat} {ws : va_W} {lv : List (Nat × Value)} {st : List Value} {pc : Nat} {x : Int64} (hC : Ok X l D k g cc own n fr lo) (hd : decode cc pc = .ok (.l2i, 1)) (kk : V X ws lv (.int x.toInt32 :: st) (pc + 1)) : V X ws lv (.long x :: st) pc := by
  obtain ⟨p, l, e, R, s, m, args, below, meth, c, Q, D, A, nL, cells, slots⟩ := X
  obtain ⟨rfl, rfl, rfl, hx, hb, hml, hown, hts, hK, hAm, hA, hfr, hlo, hce, hsl⟩ := hC
  intro H locs ls hP hD hS hl
  exact lv_l2i hx hb hd rfl (kk H locs ls hP hD hS hl)
theorem V.i2b {X : Cx} {l : Launch} {D : va_G} {k : Nat → ClassId} {g : Nat → Nat} {cc : ByteArray} {own : String} {n fr lo : Nat} {ws : va_W} {lv : List (Nat × Value)} {st : List Value} {pc : Nat} {x : Int32} (hC : Ok X l D k g cc own n fr lo) (hd : decode cc pc = .ok (.i2b, 1)) (kk : V X ws lv (.int x.toInt8.toInt32 :: st) (pc + 1)) : V X ws lv (.int x :: st) pc := by
  obtain ⟨p, l, e, R, s, m, args, below, meth, c, Q, D, A, nL, cells, slots⟩ := X
  obtain ⟨rfl, rfl, rfl, hx, hb, hml, hown, hts, hK, hAm, hA, hfr, hlo, hce, hsl⟩ := hC
  intro H locs ls hP hD hS hl
  exact lv_i2b hx hb hd rfl (kk H locs ls hP hD hS hl)
theorem V.i2s {X : Cx} {l : Launch} {D : va_G} {k : Nat → ClassId} {g : Nat → Nat} {cc : ByteArray} {own : String} {n fr lo : Nat} {ws : va_W} {lv : List (Nat × Value)} {st : List Value} {pc : Nat} {x : Int32} (hC : Ok X l D k g cc own n fr lo) (hd : decode cc pc = .ok (.i2s, 1)) (kk : V X ws lv (.int x.toInt16.toInt32 :: st) (pc + 1)) : V X ws lv (.int x :: st) pc := by
  obtain ⟨p, l, e, R, s, m, args, below, meth, c, Q, D, A, nL, cells, slots⟩ := X
  obtain ⟨rfl, rfl, rfl, hx, hb, hml, hown, hts, hK, hAm, hA, hfr, hlo, hce, hsl⟩ := hC
  intro H locs ls hP hD hS hl
  exact lv_i2s hx hb hd rfl (kk H locs ls hP hD hS hl)
theorem V.i2c {X : Cx} {l : Launch} {D : va_G} {k : Nat → ClassId} {g : Nat → Nat} {cc : ByteArray} {own : String} {n fr lo : Nat} {ws : va_W} {lv : List (Nat × Value)} {st : List Value} {pc : Nat} {x : Int32} (hC : Ok X l D k g cc own n fr lo) (hd : decode cc pc = .ok (.i2c, 1)) (kk : V X ws lv (.int (x.toUInt32 % 65536).toInt32 :: st) (pc + 1)) : V X ws lv (.int x :: st) pc := by
  obtain ⟨p, l, e, R, s, m, args, below, meth, c, Q, D, A, nL, cells, slots⟩ := X
  obtain ⟨rfl, rfl, rfl, hx, hb, hml, hown, hts, hK, hAm, hA, hfr, hlo, hce, hsl⟩ := hC
  intro H locs ls hP hD hS hl
  exact lv_i2c hx hb hd rfl (kk H locs ls hP hD hS hl)
theorem V.ldc {X : Cx} {l : Launch} {D : va_G} {k : Nat → ClassId} {g : Nat → Nat} {cc : ByteArray} {own : String} {n fr lo : Nat} {ws : va_W} {lv : List (Nat × Value)} {st : List Value} {pc : Nat} {i : Nat} {v : Int32} (hC : Ok X l D k g cc own n fr lo) (hlk : Cond.constant own i v ∈ lwG) (hd : decode cc pc = .ok (.ldc i, 2)) (kk : V X ws lv (.int v :: st) (pc + 2)) : V X ws lv st pc := by
  obtain ⟨p, l, e, R, s, m, args, below, meth, c, Q, D, A, nL, cells, slots⟩ := X
  obtain ⟨rfl, rfl, rfl, hx, hb, hml, hown, hts, hK, hAm, hA, hfr, hlo, hce, hsl⟩ := hC
  intro H locs ls hP hD hS hl
  exact lv_ldc hx hb hown (hts _ hlk) hd (kk H locs ls hP hD hS hl)
theorem V.ldcw {X : Cx} {l : Launch} {D : va_G} {k : Nat → ClassId} {g : Nat → Nat} {cc : ByteArray} {own : String} {n fr lo : Nat} {ws : va_W} {lv : List (Nat × Value)} {st : List Value} {pc : Nat} {i : Nat} {v : Int32} (hC : Ok X l D k g cc own n fr lo) (hlk : Cond.constant own i v ∈ lwG) (hd : decode cc pc = .ok (.ldc_w i, 3)) (kk : V X ws lv (.int v :: st) (pc + 3)) : V X ws lv st pc := by
  obtain ⟨p, l, e, R, s, m, args, below, meth, c, Q, D, A, nL, cells, slots⟩ := X
  obtain ⟨rfl, rfl, rfl, hx, hb, hml, hown, hts, hK, hAm, hA, hfr, hlo, hce, hsl⟩ := hC
  intro H locs ls hP hD hS hl
  exact lv_ldcw hx hb hown (hts _ hlk) hd (kk H locs ls hP hD hS hl)
theorem V.ldc2 {X : Cx} {l : Launch} {D : va_G} {k : Nat → ClassId} {g : Nat → Nat} {cc : ByteArray} {own : String} {n fr lo : Nat} {ws : va_W} {lv : List (Nat × Value)} {st : List Value} {pc : Nat} {i : Nat} {v : Int64} (hC : Ok X l D k g cc own n fr lo) (hlk : Cond.constantLong own i v ∈ lwG) (hd : decode cc pc = .ok (.ldc2_w i, 3)) (kk : V X ws lv (.long v :: st) (pc + 3)) : V X ws lv st pc := by
  obtain ⟨p, l, e, R, s, m, args, below, meth, c, Q, D, A, nL, cells, slots⟩ := X
  obtain ⟨rfl, rfl, rfl, hx, hb, hml, hown, hts, hK, hAm, hA, hfr, hlo, hce, hsl⟩ := hC
  intro H locs ls hP hD hS hl
  exact lv_ldc2 hx hb hown (hts _ hlk) hd (kk H locs ls hP hD hS hl)
theorem V.iload_n {X : Cx} {l : Launch} {D : va_G} {k : Nat → ClassId} {g : Nat → Nat} {cc : ByteArray} {own : String} {n fr lo : Nat} {ws : va_W} {lv : List (Nat × Value)} {st : List Value} {pc : Nat} {i : Fin 4} {x : Int32} (j : Nat) (hC : Ok X l D k g cc own n fr lo) (hd : decode cc pc = .ok (.iload_n i, 1)) (hj : lv[j]? = some ((i : Nat), .int x)) (kk : V X ws lv (.int x :: st) (pc + 1)) : V X ws lv st pc := by
  obtain ⟨p, l, e, R, s, m, args, below, meth, c, Q, D, A, nL, cells, slots⟩ := X
  obtain ⟨rfl, rfl, rfl, hx, hb, hml, hown, hts, hK, hAm, hA, hfr, hlo, hce, hsl⟩ := hC
  intro H locs ls hP hD hS hl
  exact lv_iload_n hx hb hd rfl (lv_at hl j hj) (kk H locs ls hP hD hS hl)
theorem V.iload {X : Cx} {l : Launch} {D : va_G} {k : Nat → ClassId} {g : Nat → Nat} {cc : ByteArray} {own : String} {n fr lo : Nat} {ws : va_W} {lv : List (Nat × Value)} {st : List Value} {pc : Nat} {i : Nat} {x : Int32} (j : Nat) (hC : Ok X l D k g cc own n fr lo) (hd : decode cc pc = .ok (.iload i, 2)) (hj : lv[j]? = some (i, .int x)) (kk : V X ws lv (.int x :: st) (pc + 2)) : V X ws lv st pc := by
  obtain ⟨p, l, e, R, s, m, args, below, meth, c, Q, D, A, nL, cells, slots⟩ := X
  obtain ⟨rfl, rfl, rfl, hx, hb, hml, hown, hts, hK, hAm, hA, hfr, hlo, hce, hsl⟩ := hC
  intro H locs ls hP hD hS hl
  exact lv_iload hx hb hd (lv_at hl j hj) (kk H locs ls hP hD hS hl)
theorem V.aload_n {X : Cx} {l : Launch} {D : va_G} {k : Nat → ClassId} {g : Nat → Nat} {cc : ByteArray} {own : String} {n fr lo : Nat} {ws : va_W} {lv : List (Nat × Value)} {st : List Value} {pc : Nat} {i : Fin 4} {x : Nat} (j : Nat) (hC : Ok X l D k g cc own n fr lo) (hd : decode cc pc = .ok (.aload_n i, 1)) (hj : lv[j]? = some ((i : Nat), .ref x)) (kk : V X ws lv (.ref x :: st) (pc + 1)) : V X ws lv st pc := by
  obtain ⟨p, l, e, R, s, m, args, below, meth, c, Q, D, A, nL, cells, slots⟩ := X
  obtain ⟨rfl, rfl, rfl, hx, hb, hml, hown, hts, hK, hAm, hA, hfr, hlo, hce, hsl⟩ := hC
  intro H locs ls hP hD hS hl
  exact lv_aload_n hx hb hd rfl (lv_at hl j hj) (kk H locs ls hP hD hS hl)
theorem V.aload {X : Cx} {l : Launch} {D : va_G} {k : Nat → ClassId} {g : Nat → Nat} {cc : ByteArray} {own : String} {n fr lo : Nat} {ws : va_W} {lv : List (Nat × Value)} {st : List Value} {pc : Nat} {i : Nat} {x : Nat} (j : Nat) (hC : Ok X l D k g cc own n fr lo) (hd : decode cc pc = .ok (.aload i, 2)) (hj : lv[j]? = some (i, .ref x)) (kk : V X ws lv (.ref x :: st) (pc + 2)) : V X ws lv st pc := by
  obtain ⟨p, l, e, R, s, m, args, below, meth, c, Q, D, A, nL, cells, slots⟩ := X
  obtain ⟨rfl, rfl, rfl, hx, hb, hml, hown, hts, hK, hAm, hA, hfr, hlo, hce, hsl⟩ := hC
  intro H locs ls hP hD hS hl
  exact lv_aload hx hb hd (lv_at hl j hj) (kk H locs ls hP hD hS hl)
theorem V.lload_n {X : Cx} {l : Launch} {D : va_G} {k : Nat → ClassId} {g : Nat → Nat} {cc : ByteArray} {own : String} {n fr lo : Nat} {ws : va_W} {lv : List (Nat × Value)} {st : List Value} {pc : Nat} {i : Fin 4} {x : Int64} (j : Nat) (hC : Ok X l D k g cc own n fr lo) (hd : decode cc pc = .ok (.lload_n i, 1)) (hj : lv[j]? = some ((i : Nat), .long x)) (kk : V X ws lv (.long x :: st) (pc + 1)) : V X ws lv st pc := by
  obtain ⟨p, l, e, R, s, m, args, below, meth, c, Q, D, A, nL, cells, slots⟩ := X
  obtain ⟨rfl, rfl, rfl, hx, hb, hml, hown, hts, hK, hAm, hA, hfr, hlo, hce, hsl⟩ := hC
  intro H locs ls hP hD hS hl
  exact lv_lload_n hx hb hd rfl (lv_at hl j hj) (kk H locs ls hP hD hS hl)
theorem V.lload {X : Cx} {l : Launch} {D : va_G} {k : Nat → ClassId} {g : Nat → Nat} {cc : ByteArray} {own : String} {n fr lo : Nat} {ws : va_W} {lv : List (Nat × Value)} {st : List Value} {pc : Nat} {i : Nat} {x : Int64} (j : Nat) (hC : Ok X l D k g cc own n fr lo) (hd : decode cc pc = .ok (.lload i, 2)) (hj : lv[j]? = some (i, .long x)) (kk : V X ws lv (.long x :: st) (pc + 2)) : V X ws lv st pc := by
  obtain ⟨p, l, e, R, s, m, args, below, meth, c, Q, D, A, nL, cells, slots⟩ := X
  obtain ⟨rfl, rfl, rfl, hx, hb, hml, hown, hts, hK, hAm, hA, hfr, hlo, hce, hsl⟩ := hC
  intro H locs ls hP hD hS hl
  exact lv_lload hx hb hd (lv_at hl j hj) (kk H locs ls hP hD hS hl)
theorem V.istore_n {X : Cx} {l : Launch} {D : va_G} {k : Nat → ClassId} {g : Nat → Nat} {cc : ByteArray} {own : String} {n fr lo : Nat} {ws : va_W} {lv : List (Nat × Value)} {st : List Value} {pc : Nat} {i : Fin 4} {x : Int32} (lv' : List (Nat × Value)) (hC : Ok X l D k g cc own n fr lo) (hd : decode cc pc = .ok (.istore_n i, 1)) (hn : (i : Nat) < n) (hlv : ((i : Nat), Value.int x) :: (lv.filter (fun q => !(q.1 == (i : Nat)) && !(q.1 + 1 == (i : Nat) && q.2.category == 2))) = lv') (kk : V X ws lv' st (pc + 1)) : V X ws lv (.int x :: st) pc := by
  obtain ⟨p, l, e, R, s, m, args, below, meth, c, Q, D, A, nL, cells, slots⟩ := X
  obtain ⟨rfl, rfl, rfl, hx, hb, hml, hown, hts, hK, hAm, hA, hfr, hlo, hce, hsl⟩ := hC
  intro H locs ls hP hD hS hl
  exact lv_istore_n hx hb hd rfl hl hn hlv (fun ls hl => kk H locs ls hP hD hS hl)
theorem V.istore {X : Cx} {l : Launch} {D : va_G} {k : Nat → ClassId} {g : Nat → Nat} {cc : ByteArray} {own : String} {n fr lo : Nat} {ws : va_W} {lv : List (Nat × Value)} {st : List Value} {pc : Nat} {i : Nat} {x : Int32} (lv' : List (Nat × Value)) (hC : Ok X l D k g cc own n fr lo) (hd : decode cc pc = .ok (.istore i, 2)) (hn : i < n) (hlv : (i, Value.int x) :: (lv.filter (fun q => !(q.1 == i) && !(q.1 + 1 == i && q.2.category == 2))) = lv') (kk : V X ws lv' st (pc + 2)) : V X ws lv (.int x :: st) pc := by
  obtain ⟨p, l, e, R, s, m, args, below, meth, c, Q, D, A, nL, cells, slots⟩ := X
  obtain ⟨rfl, rfl, rfl, hx, hb, hml, hown, hts, hK, hAm, hA, hfr, hlo, hce, hsl⟩ := hC
  intro H locs ls hP hD hS hl
  exact lv_istore hx hb hd hl hn hlv (fun ls hl => kk H locs ls hP hD hS hl)
theorem V.astore_n {X : Cx} {l : Launch} {D : va_G} {k : Nat → ClassId} {g : Nat → Nat} {cc : ByteArray} {own : String} {n fr lo : Nat} {ws : va_W} {lv : List (Nat × Value)} {st : List Value} {pc : Nat} {i : Fin 4} {x : Nat} (lv' : List (Nat × Value)) (hC : Ok X l D k g cc own n fr lo) (hd : decode cc pc = .ok (.astore_n i, 1)) (hn : (i : Nat) < n) (hlv : ((i : Nat), Value.ref x) :: (lv.filter (fun q => !(q.1 == (i : Nat)) && !(q.1 + 1 == (i : Nat) && q.2.category == 2))) = lv') (kk : V X ws lv' st (pc + 1)) : V X ws lv (.ref x :: st) pc := by
  obtain ⟨p, l, e, R, s, m, args, below, meth, c, Q, D, A, nL, cells, slots⟩ := X
  obtain ⟨rfl, rfl, rfl, hx, hb, hml, hown, hts, hK, hAm, hA, hfr, hlo, hce, hsl⟩ := hC
  intro H locs ls hP hD hS hl
  exact lv_astore_n hx hb hd rfl hl hn hlv (fun ls hl => kk H locs ls hP hD hS hl)
theorem V.astore {X : Cx} {l : Launch} {D : va_G} {k : Nat → ClassId} {g : Nat → Nat} {cc : ByteArray} {own : String} {n fr lo : Nat} {ws : va_W} {lv : List (Nat × Value)} {st : List Value} {pc : Nat} {i : Nat} {x : Nat} (lv' : List (Nat × Value)) (hC : Ok X l D k g cc own n fr lo) (hd : decode cc pc = .ok (.astore i, 2)) (hn : i < n) (hlv : (i, Value.ref x) :: (lv.filter (fun q => !(q.1 == i) && !(q.1 + 1 == i && q.2.category == 2))) = lv') (kk : V X ws lv' st (pc + 2)) : V X ws lv (.ref x :: st) pc := by
  obtain ⟨p, l, e, R, s, m, args, below, meth, c, Q, D, A, nL, cells, slots⟩ := X
  obtain ⟨rfl, rfl, rfl, hx, hb, hml, hown, hts, hK, hAm, hA, hfr, hlo, hce, hsl⟩ := hC
  intro H locs ls hP hD hS hl
  exact lv_astore hx hb hd hl hn hlv (fun ls hl => kk H locs ls hP hD hS hl)
theorem V.iinc {X : Cx} {l : Launch} {D : va_G} {k : Nat → ClassId} {g : Nat → Nat} {cc : ByteArray} {own : String} {n fr lo : Nat} {ws : va_W} {lv : List (Nat × Value)} {st : List Value} {pc : Nat} {i : Nat} {d : Int} {x : Int32} (j : Nat) (v : Int32) (lv' : List (Nat × Value)) (hC : Ok X l D k g cc own n fr lo) (hd : decode cc pc = .ok (.iinc i d, 3)) (hj : lv[j]? = some (i, .int x)) (hv : x + Int32.ofInt d = v) (hn : i < n) (hlv : (i, Value.int v) :: (lv.filter (fun q => !(q.1 == i) && !(q.1 + 1 == i && q.2.category == 2))) = lv') (kk : V X ws lv' st (pc + 3)) : V X ws lv st pc := by
  obtain ⟨p, l, e, R, s, m, args, below, meth, c, Q, D, A, nL, cells, slots⟩ := X
  obtain ⟨rfl, rfl, rfl, hx, hb, hml, hown, hts, hK, hAm, hA, hfr, hlo, hce, hsl⟩ := hC
  intro H locs ls hP hD hS hl
  exact lv_iinc hx hb hd hl hj hv hn hlv (fun ls hl => kk H locs ls hP hD hS hl)
theorem V.dup {X : Cx} {l : Launch} {D : va_G} {k : Nat → ClassId} {g : Nat → Nat} {cc : ByteArray} {own : String} {n fr lo : Nat} {ws : va_W} {lv : List (Nat × Value)} {st : List Value} {pc : Nat} {v : Value} (hC : Ok X l D k g cc own n fr lo) (hd : decode cc pc = .ok (.dup, 1)) (hc : v.category = 1) (kk : V X ws lv (v :: v :: st) (pc + 1)) : V X ws lv (v :: st) pc := by
  obtain ⟨p, l, e, R, s, m, args, below, meth, c, Q, D, A, nL, cells, slots⟩ := X
  obtain ⟨rfl, rfl, rfl, hx, hb, hml, hown, hts, hK, hAm, hA, hfr, hlo, hce, hsl⟩ := hC
  intro H locs ls hP hD hS hl
  exact lv_dup hx hb hd hc (kk H locs ls hP hD hS hl)
theorem V.dup2 {X : Cx} {l : Launch} {D : va_G} {k : Nat → ClassId} {g : Nat → Nat} {cc : ByteArray} {own : String} {n fr lo : Nat} {ws : va_W} {lv : List (Nat × Value)} {st : List Value} {pc : Nat} {v u : Value} (hC : Ok X l D k g cc own n fr lo) (hd : decode cc pc = .ok (.dup2, 1)) (hc : v.category = 1) (hu : u.category = 1) (kk : V X ws lv (v :: u :: v :: u :: st) (pc + 1)) : V X ws lv (v :: u :: st) pc := by
  obtain ⟨p, l, e, R, s, m, args, below, meth, c, Q, D, A, nL, cells, slots⟩ := X
  obtain ⟨rfl, rfl, rfl, hx, hb, hml, hown, hts, hK, hAm, hA, hfr, hlo, hce, hsl⟩ := hC
  intro H locs ls hP hD hS hl
  exact lv_dup2_11 hx hb hd hc hu (kk H locs ls hP hD hS hl)
theorem V.pop {X : Cx} {l : Launch} {D : va_G} {k : Nat → ClassId} {g : Nat → Nat} {cc : ByteArray} {own : String} {n fr lo : Nat} {ws : va_W} {lv : List (Nat × Value)} {st : List Value} {pc : Nat} {v : Value} (hC : Ok X l D k g cc own n fr lo) (hd : decode cc pc = .ok (.pop, 1)) (hc : v.category = 1) (kk : V X ws lv st (pc + 1)) : V X ws lv (v :: st) pc := by
  obtain ⟨p, l, e, R, s, m, args, below, meth, c, Q, D, A, nL, cells, slots⟩ := X
  obtain ⟨rfl, rfl, rfl, hx, hb, hml, hown, hts, hK, hAm, hA, hfr, hlo, hce, hsl⟩ := hC
  intro H locs ls hP hD hS hl
  exact lv_pop hx hb hd hc (kk H locs ls hP hD hS hl)
theorem V.if_eq {X : Cx} {l : Launch} {D : va_G} {k : Nat → ClassId} {g : Nat → Nat} {cc : ByteArray} {own : String} {n fr lo : Nat} {ws : va_W} {lv : List (Nat × Value)} {st : List Value} {pc : Nat} {x : Int32} {off : Int} (tgt : Nat) (hC : Ok X l D k g cc own n fr lo) (hd : decode cc pc = .ok (.ifCond .eq off, 3)) (ht : (pc : Int) + off = (tgt : Int)) (kt : x = 0 → V X ws lv st tgt) (kf : ¬ x = 0 → V X ws lv st (pc + 3)) : V X ws lv (.int x :: st) pc := by
  obtain ⟨p, l, e, R, s, m, args, below, meth, c, Q, D, A, nL, cells, slots⟩ := X
  obtain ⟨rfl, rfl, rfl, hx, hb, hml, hown, hts, hK, hAm, hA, hfr, hlo, hce, hsl⟩ := hC
  intro H locs ls hP hD hS hl
  exact lv_if_eq hx hb hd ht (fun q => kt q H locs ls hP hD hS hl) (fun q => kf q H locs ls hP hD hS hl)
theorem V.icmp_eq {X : Cx} {l : Launch} {D : va_G} {k : Nat → ClassId} {g : Nat → Nat} {cc : ByteArray} {own : String} {n fr lo : Nat} {ws : va_W} {lv : List (Nat × Value)} {st : List Value} {pc : Nat} {x y : Int32} {off : Int} (tgt : Nat) (hC : Ok X l D k g cc own n fr lo) (hd : decode cc pc = .ok (.if_icmp .eq off, 3)) (ht : (pc : Int) + off = (tgt : Int)) (kt : x = y → V X ws lv st tgt) (kf : ¬ x = y → V X ws lv st (pc + 3)) : V X ws lv (.int y :: .int x :: st) pc := by
  obtain ⟨p, l, e, R, s, m, args, below, meth, c, Q, D, A, nL, cells, slots⟩ := X
  obtain ⟨rfl, rfl, rfl, hx, hb, hml, hown, hts, hK, hAm, hA, hfr, hlo, hce, hsl⟩ := hC
  intro H locs ls hP hD hS hl
  exact lv_icmp_eq hx hb hd ht (fun q => kt q H locs ls hP hD hS hl) (fun q => kf q H locs ls hP hD hS hl)
theorem V.if_ne {X : Cx} {l : Launch} {D : va_G} {k : Nat → ClassId} {g : Nat → Nat} {cc : ByteArray} {own : String} {n fr lo : Nat} {ws : va_W} {lv : List (Nat × Value)} {st : List Value} {pc : Nat} {x : Int32} {off : Int} (tgt : Nat) (hC : Ok X l D k g cc own n fr lo) (hd : decode cc pc = .ok (.ifCond .ne off, 3)) (ht : (pc : Int) + off = (tgt : Int)) (kt : ¬ x = 0 → V X ws lv st tgt) (kf : x = 0 → V X ws lv st (pc + 3)) : V X ws lv (.int x :: st) pc := by
  obtain ⟨p, l, e, R, s, m, args, below, meth, c, Q, D, A, nL, cells, slots⟩ := X
  obtain ⟨rfl, rfl, rfl, hx, hb, hml, hown, hts, hK, hAm, hA, hfr, hlo, hce, hsl⟩ := hC
  intro H locs ls hP hD hS hl
  exact lv_if_ne hx hb hd ht (fun q => kt q H locs ls hP hD hS hl) (fun q => kf q H locs ls hP hD hS hl)
theorem V.icmp_ne {X : Cx} {l : Launch} {D : va_G} {k : Nat → ClassId} {g : Nat → Nat} {cc : ByteArray} {own : String} {n fr lo : Nat} {ws : va_W} {lv : List (Nat × Value)} {st : List Value} {pc : Nat} {x y : Int32} {off : Int} (tgt : Nat) (hC : Ok X l D k g cc own n fr lo) (hd : decode cc pc = .ok (.if_icmp .ne off, 3)) (ht : (pc : Int) + off = (tgt : Int)) (kt : ¬ x = y → V X ws lv st tgt) (kf : x = y → V X ws lv st (pc + 3)) : V X ws lv (.int y :: .int x :: st) pc := by
  obtain ⟨p, l, e, R, s, m, args, below, meth, c, Q, D, A, nL, cells, slots⟩ := X
  obtain ⟨rfl, rfl, rfl, hx, hb, hml, hown, hts, hK, hAm, hA, hfr, hlo, hce, hsl⟩ := hC
  intro H locs ls hP hD hS hl
  exact lv_icmp_ne hx hb hd ht (fun q => kt q H locs ls hP hD hS hl) (fun q => kf q H locs ls hP hD hS hl)
theorem V.if_lt {X : Cx} {l : Launch} {D : va_G} {k : Nat → ClassId} {g : Nat → Nat} {cc : ByteArray} {own : String} {n fr lo : Nat} {ws : va_W} {lv : List (Nat × Value)} {st : List Value} {pc : Nat} {x : Int32} {off : Int} (tgt : Nat) (hC : Ok X l D k g cc own n fr lo) (hd : decode cc pc = .ok (.ifCond .lt off, 3)) (ht : (pc : Int) + off = (tgt : Int)) (kt : x < 0 → V X ws lv st tgt) (kf : ¬ x < 0 → V X ws lv st (pc + 3)) : V X ws lv (.int x :: st) pc := by
  obtain ⟨p, l, e, R, s, m, args, below, meth, c, Q, D, A, nL, cells, slots⟩ := X
  obtain ⟨rfl, rfl, rfl, hx, hb, hml, hown, hts, hK, hAm, hA, hfr, hlo, hce, hsl⟩ := hC
  intro H locs ls hP hD hS hl
  exact lv_if_lt hx hb hd ht (fun q => kt q H locs ls hP hD hS hl) (fun q => kf q H locs ls hP hD hS hl)
theorem V.icmp_lt {X : Cx} {l : Launch} {D : va_G} {k : Nat → ClassId} {g : Nat → Nat} {cc : ByteArray} {own : String} {n fr lo : Nat} {ws : va_W} {lv : List (Nat × Value)} {st : List Value} {pc : Nat} {x y : Int32} {off : Int} (tgt : Nat) (hC : Ok X l D k g cc own n fr lo) (hd : decode cc pc = .ok (.if_icmp .lt off, 3)) (ht : (pc : Int) + off = (tgt : Int)) (kt : x < y → V X ws lv st tgt) (kf : ¬ x < y → V X ws lv st (pc + 3)) : V X ws lv (.int y :: .int x :: st) pc := by
  obtain ⟨p, l, e, R, s, m, args, below, meth, c, Q, D, A, nL, cells, slots⟩ := X
  obtain ⟨rfl, rfl, rfl, hx, hb, hml, hown, hts, hK, hAm, hA, hfr, hlo, hce, hsl⟩ := hC
  intro H locs ls hP hD hS hl
  exact lv_icmp_lt hx hb hd ht (fun q => kt q H locs ls hP hD hS hl) (fun q => kf q H locs ls hP hD hS hl)
theorem V.if_ge {X : Cx} {l : Launch} {D : va_G} {k : Nat → ClassId} {g : Nat → Nat} {cc : ByteArray} {own : String} {n fr lo : Nat} {ws : va_W} {lv : List (Nat × Value)} {st : List Value} {pc : Nat} {x : Int32} {off : Int} (tgt : Nat) (hC : Ok X l D k g cc own n fr lo) (hd : decode cc pc = .ok (.ifCond .ge off, 3)) (ht : (pc : Int) + off = (tgt : Int)) (kt : 0 ≤ x → V X ws lv st tgt) (kf : ¬ 0 ≤ x → V X ws lv st (pc + 3)) : V X ws lv (.int x :: st) pc := by
  obtain ⟨p, l, e, R, s, m, args, below, meth, c, Q, D, A, nL, cells, slots⟩ := X
  obtain ⟨rfl, rfl, rfl, hx, hb, hml, hown, hts, hK, hAm, hA, hfr, hlo, hce, hsl⟩ := hC
  intro H locs ls hP hD hS hl
  exact lv_if_ge hx hb hd ht (fun q => kt q H locs ls hP hD hS hl) (fun q => kf q H locs ls hP hD hS hl)
theorem V.icmp_ge {X : Cx} {l : Launch} {D : va_G} {k : Nat → ClassId} {g : Nat → Nat} {cc : ByteArray} {own : String} {n fr lo : Nat} {ws : va_W} {lv : List (Nat × Value)} {st : List Value} {pc : Nat} {x y : Int32} {off : Int} (tgt : Nat) (hC : Ok X l D k g cc own n fr lo) (hd : decode cc pc = .ok (.if_icmp .ge off, 3)) (ht : (pc : Int) + off = (tgt : Int)) (kt : y ≤ x → V X ws lv st tgt) (kf : ¬ y ≤ x → V X ws lv st (pc + 3)) : V X ws lv (.int y :: .int x :: st) pc := by
  obtain ⟨p, l, e, R, s, m, args, below, meth, c, Q, D, A, nL, cells, slots⟩ := X
  obtain ⟨rfl, rfl, rfl, hx, hb, hml, hown, hts, hK, hAm, hA, hfr, hlo, hce, hsl⟩ := hC
  intro H locs ls hP hD hS hl
  exact lv_icmp_ge hx hb hd ht (fun q => kt q H locs ls hP hD hS hl) (fun q => kf q H locs ls hP hD hS hl)
theorem V.if_gt {X : Cx} {l : Launch} {D : va_G} {k : Nat → ClassId} {g : Nat → Nat} {cc : ByteArray} {own : String} {n fr lo : Nat} {ws : va_W} {lv : List (Nat × Value)} {st : List Value} {pc : Nat} {x : Int32} {off : Int} (tgt : Nat) (hC : Ok X l D k g cc own n fr lo) (hd : decode cc pc = .ok (.ifCond .gt off, 3)) (ht : (pc : Int) + off = (tgt : Int)) (kt : 0 < x → V X ws lv st tgt) (kf : ¬ 0 < x → V X ws lv st (pc + 3)) : V X ws lv (.int x :: st) pc := by
  obtain ⟨p, l, e, R, s, m, args, below, meth, c, Q, D, A, nL, cells, slots⟩ := X
  obtain ⟨rfl, rfl, rfl, hx, hb, hml, hown, hts, hK, hAm, hA, hfr, hlo, hce, hsl⟩ := hC
  intro H locs ls hP hD hS hl
  exact lv_if_gt hx hb hd ht (fun q => kt q H locs ls hP hD hS hl) (fun q => kf q H locs ls hP hD hS hl)
theorem V.icmp_gt {X : Cx} {l : Launch} {D : va_G} {k : Nat → ClassId} {g : Nat → Nat} {cc : ByteArray} {own : String} {n fr lo : Nat} {ws : va_W} {lv : List (Nat × Value)} {st : List Value} {pc : Nat} {x y : Int32} {off : Int} (tgt : Nat) (hC : Ok X l D k g cc own n fr lo) (hd : decode cc pc = .ok (.if_icmp .gt off, 3)) (ht : (pc : Int) + off = (tgt : Int)) (kt : y < x → V X ws lv st tgt) (kf : ¬ y < x → V X ws lv st (pc + 3)) : V X ws lv (.int y :: .int x :: st) pc := by
  obtain ⟨p, l, e, R, s, m, args, below, meth, c, Q, D, A, nL, cells, slots⟩ := X
  obtain ⟨rfl, rfl, rfl, hx, hb, hml, hown, hts, hK, hAm, hA, hfr, hlo, hce, hsl⟩ := hC
  intro H locs ls hP hD hS hl
  exact lv_icmp_gt hx hb hd ht (fun q => kt q H locs ls hP hD hS hl) (fun q => kf q H locs ls hP hD hS hl)
theorem V.if_le {X : Cx} {l : Launch} {D : va_G} {k : Nat → ClassId} {g : Nat → Nat} {cc : ByteArray} {own : String} {n fr lo : Nat} {ws : va_W} {lv : List (Nat × Value)} {st : List Value} {pc : Nat} {x : Int32} {off : Int} (tgt : Nat) (hC : Ok X l D k g cc own n fr lo) (hd : decode cc pc = .ok (.ifCond .le off, 3)) (ht : (pc : Int) + off = (tgt : Int)) (kt : x ≤ 0 → V X ws lv st tgt) (kf : ¬ x ≤ 0 → V X ws lv st (pc + 3)) : V X ws lv (.int x :: st) pc := by
  obtain ⟨p, l, e, R, s, m, args, below, meth, c, Q, D, A, nL, cells, slots⟩ := X
  obtain ⟨rfl, rfl, rfl, hx, hb, hml, hown, hts, hK, hAm, hA, hfr, hlo, hce, hsl⟩ := hC
  intro H locs ls hP hD hS hl
  exact lv_if_le hx hb hd ht (fun q => kt q H locs ls hP hD hS hl) (fun q => kf q H locs ls hP hD hS hl)
theorem V.icmp_le {X : Cx} {l : Launch} {D : va_G} {k : Nat → ClassId} {g : Nat → Nat} {cc : ByteArray} {own : String} {n fr lo : Nat} {ws : va_W} {lv : List (Nat × Value)} {st : List Value} {pc : Nat} {x y : Int32} {off : Int} (tgt : Nat) (hC : Ok X l D k g cc own n fr lo) (hd : decode cc pc = .ok (.if_icmp .le off, 3)) (ht : (pc : Int) + off = (tgt : Int)) (kt : x ≤ y → V X ws lv st tgt) (kf : ¬ x ≤ y → V X ws lv st (pc + 3)) : V X ws lv (.int y :: .int x :: st) pc := by
  obtain ⟨p, l, e, R, s, m, args, below, meth, c, Q, D, A, nL, cells, slots⟩ := X
  obtain ⟨rfl, rfl, rfl, hx, hb, hml, hown, hts, hK, hAm, hA, hfr, hlo, hce, hsl⟩ := hC
  intro H locs ls hP hD hS hl
  exact lv_icmp_le hx hb hd ht (fun q => kt q H locs ls hP hD hS hl) (fun q => kf q H locs ls hP hD hS hl)
theorem V.goto {X : Cx} {l : Launch} {D : va_G} {k : Nat → ClassId} {g : Nat → Nat} {cc : ByteArray} {own : String} {n fr lo : Nat} {ws : va_W} {lv : List (Nat × Value)} {st : List Value} {pc : Nat} {off : Int} (tgt : Nat) (hC : Ok X l D k g cc own n fr lo) (hd : decode cc pc = .ok (.goto off, 3)) (ht : (pc : Int) + off = (tgt : Int)) (kk : V X ws lv st tgt) : V X ws lv st pc := by
  obtain ⟨p, l, e, R, s, m, args, below, meth, c, Q, D, A, nL, cells, slots⟩ := X
  obtain ⟨rfl, rfl, rfl, hx, hb, hml, hown, hts, hK, hAm, hA, hfr, hlo, hce, hsl⟩ := hC
  intro H locs ls hP hD hS hl
  exact lv_goto hx hb hd ht (kk H locs ls hP hD hS hl)
theorem V.tableIn {X : Cx} {l : Launch} {D : va_G} {k : Nat → ClassId} {g : Nat → Nat} {cc : ByteArray} {own : String} {n fr lo : Nat} {ws : va_W} {lv : List (Nat × Value)} {st : List Value} {pc : Nat} {dflt lo9 hi : Int} {offs : Array Int} {len : Nat} {x : Int32} {off : Int} (tgt : Nat) (hC : Ok X l D k g cc own n fr lo) (hd : decode cc pc = .ok (.tableswitch dflt lo9 hi offs, len)) (h1 : ¬ x.toInt < lo9) (h2 : ¬ hi < x.toInt) (ho : offs[(x.toInt - lo9).toNat]? = some off) (ht : (pc : Int) + off = (tgt : Int)) (kk : V X ws lv st tgt) : V X ws lv (.int x :: st) pc := by
  obtain ⟨p, l, e, R, s, m, args, below, meth, c, Q, D, A, nL, cells, slots⟩ := X
  obtain ⟨rfl, rfl, rfl, hx, hb, hml, hown, hts, hK, hAm, hA, hfr, hlo, hce, hsl⟩ := hC
  intro H locs ls hP hD hS hl
  exact lv_tableIn hx hb hd h1 h2 ho ht (kk H locs ls hP hD hS hl)
theorem V.tableOut {X : Cx} {l : Launch} {D : va_G} {k : Nat → ClassId} {g : Nat → Nat} {cc : ByteArray} {own : String} {n fr lo : Nat} {ws : va_W} {lv : List (Nat × Value)} {st : List Value} {pc : Nat} {dflt lo9 hi : Int} {offs : Array Int} {len : Nat} {x : Int32} (tgt : Nat) (hC : Ok X l D k g cc own n fr lo) (hd : decode cc pc = .ok (.tableswitch dflt lo9 hi offs, len)) (h1 : x.toInt < lo9 ∨ hi < x.toInt) (ht : (pc : Int) + dflt = (tgt : Int)) (kk : V X ws lv st tgt) : V X ws lv (.int x :: st) pc := by
  obtain ⟨p, l, e, R, s, m, args, below, meth, c, Q, D, A, nL, cells, slots⟩ := X
  obtain ⟨rfl, rfl, rfl, hx, hb, hml, hown, hts, hK, hAm, hA, hfr, hlo, hce, hsl⟩ := hC
  intro H locs ls hP hD hS hl
  exact lv_tableOut hx hb hd h1 ht (kk H locs ls hP hD hS hl)
theorem V.lookup {X : Cx} {l : Launch} {D : va_G} {k : Nat → ClassId} {g : Nat → Nat} {cc : ByteArray} {own : String} {n fr lo : Nat} {ws : va_W} {lv : List (Nat × Value)} {st : List Value} {pc : Nat} {dflt : Int} {ps : Array (Int × Int)} {len : Nat} {x : Int32} {off : Int} (tgt : Nat) (hC : Ok X l D k g cc own n fr lo) (hd : decode cc pc = .ok (.lookupswitch dflt ps, len)) (hp : (ps.toList.zip (ps.toList.drop 1)).all (fun (a, next) => a.1 < next.1) = true) (ho : Op.lookupswitch.offset ps.toList dflt x.toInt = off) (ht : (pc : Int) + off = (tgt : Int)) (kk : V X ws lv st tgt) : V X ws lv (.int x :: st) pc := by
  obtain ⟨p, l, e, R, s, m, args, below, meth, c, Q, D, A, nL, cells, slots⟩ := X
  obtain ⟨rfl, rfl, rfl, hx, hb, hml, hown, hts, hK, hAm, hA, hfr, hlo, hce, hsl⟩ := hC
  intro H locs ls hP hD hS hl
  exact lv_lookup hx hb hd hp ho ht (kk H locs ls hP hD hS hl)
theorem V.get {X : Cx} {l : Launch} {D : va_G} {k : Nat → ClassId} {g : Nat → Nat} {cc : ByteArray} {own : String} {n fr lo : Nat} {ws : va_W} {lv : List (Nat × Value)} {st : List Value} {pc : Nat} {ci : Nat} {C : String} {T : u_T} {N : Nat} {ty : Nat → FieldType} {idx a : Nat} {fs : List Value} {v : Value} (hC : Ok X l D k g cc own n fr lo) (hF : CF ci C T N ty) (q j : Nat) (hlk : Cond.fieldLink own idx (T j).1 (T j).2.1 (T j).2.2.1 ∈ lwG) (hj : j < N) (he : ws[q]? = some (a, .inr (ci, fs))) (hv : fs[j]? = some v) (hd : decode cc pc = .ok (.getfield idx, 3)) (kk : V X ws lv (v :: st) (pc + 3)) : V X ws lv (.ref a :: st) pc := by
  obtain ⟨p, l, e, R, s, m, args, below, meth, c, Q, D, A, nL, cells, slots⟩ := X
  obtain ⟨rfl, rfl, rfl, hx, hb, hml, hown, hts, hK, hAm, hA, hfr, hlo, hce, hsl⟩ := hC
  intro H locs ls hP hD hS hl
  exact va_get (C := C) (T := T) (N := N) (ref := (T j).1) hx hb hts hF.2.1 hown hK hP q he hF.1 j hj (hts _ hlk) (fun _ h9 => h9) hv hd (kk H locs ls hP hD hS hl)
theorem V.put {X : Cx} {l : Launch} {D : va_G} {k : Nat → ClassId} {g : Nat → Nat} {cc : ByteArray} {own : String} {n fr lo : Nat} {ws : va_W} {lv : List (Nat × Value)} {st : List Value} {pc : Nat} {ci : Nat} {C : String} {T : u_T} {N : Nat} {ty : Nat → FieldType} {idx a : Nat} {fs : List Value} {v : Value} (hC : Ok X l D k g cc own n fr lo) (hF : CF ci C T N ty) (q j : Nat) (ws' : va_W) (hlk : Cond.fieldLink own idx (T j).1 (T j).2.1 (T j).2.2.1 ∈ lwG) (hj : j < N) (he : ws[q]? = some (a, .inr (ci, fs))) (hfin : (T j).2.2.2 = false) (hnr : narrow (ty j) v = v) (hft : fits (ty j) v = true) (hlf : j < fs.length) (hws : ws.set q (a, .inr (ci, fs.set j v)) = ws') (hd : decode cc pc = .ok (.putfield idx, 3)) (kk : V X ws' lv st (pc + 3)) : V X ws lv (v :: .ref a :: st) pc := by
  obtain ⟨p, l, e, R, s, m, args, below, meth, c, Q, D, A, nL, cells, slots⟩ := X
  obtain ⟨rfl, rfl, rfl, hx, hb, hml, hown, hts, hK, hAm, hA, hfr, hlo, hce, hsl⟩ := hC
  intro H locs ls hP hD hS hl
  exact va_put (C := C) (T := T) (N := N) (ref := (T j).1) (ty := ty j) hx hb hts hF.2.1 ty hF.2.2.1 hF.2.2.2 hown hK hP hD hS q he hF.1 j hj (hts _ hlk) (fun _ h9 => h9) hfin (hF.2.2.1 j hj) hnr hft hlf hd (fun H locs hP hD hS => kk H locs ls (hws ▸ hP) (hws ▸ hD) hS hl)
theorem V.iald {X : Cx} {l : Launch} {D : va_G} {k : Nat → ClassId} {g : Nat → Nat} {cc : ByteArray} {own : String} {n fr lo : Nat} {ws : va_W} {lv : List (Nat × Value)} {st : List Value} {pc : Nat} {a m : Nat} {f : Nat → Int32} {i : Int32} (hC : Ok X l D k g cc own n fr lo) (q j : Nat) (he : ws[q]? = some (a, .inl (k 0, m, .inl f))) (hi : i = nI j) (hj : j < m) (hm : m < 2147483648) (hd : decode cc pc = .ok (.iaload, 1)) (kk : V X ws lv (.int (f j) :: st) (pc + 1)) : V X ws lv (.int i :: .ref a :: st) pc := by
  obtain ⟨p, l, e, R, s, m, args, below, meth, c, Q, D, A, nL, cells, slots⟩ := X
  obtain ⟨rfl, rfl, rfl, hx, hb, hml, hown, hts, hK, hAm, hA, hfr, hlo, hce, hsl⟩ := hC
  intro H locs ls hP hD hS hl
  exact by subst hi; have kk := kk H locs ls hP hD hS hl; exact va_iald hx hb hK hP q 0 he rfl (vp_in_nI hj hm) hd (by rw [nI_clamp (Nat.lt_trans hj hm)]; exact kk)
theorem V.bald {X : Cx} {l : Launch} {D : va_G} {k : Nat → ClassId} {g : Nat → Nat} {cc : ByteArray} {own : String} {n fr lo : Nat} {ws : va_W} {lv : List (Nat × Value)} {st : List Value} {pc : Nat} {a m : Nat} {f : Nat → Int32} {i : Int32} (hC : Ok X l D k g cc own n fr lo) (q j : Nat) (he : ws[q]? = some (a, .inl (k 1, m, .inl f))) (hi : i = nI j) (hj : j < m) (hm : m < 2147483648) (hd : decode cc pc = .ok (.baload, 1)) (kk : V X ws lv (.int (f j) :: st) (pc + 1)) : V X ws lv (.int i :: .ref a :: st) pc := by
  obtain ⟨p, l, e, R, s, m, args, below, meth, c, Q, D, A, nL, cells, slots⟩ := X
  obtain ⟨rfl, rfl, rfl, hx, hb, hml, hown, hts, hK, hAm, hA, hfr, hlo, hce, hsl⟩ := hC
  intro H locs ls hP hD hS hl
  exact by subst hi; have kk := kk H locs ls hP hD hS hl; exact va_bald hx hb hK hP q 1 he rfl (vp_in_nI hj hm) hd (by rw [nI_clamp (Nat.lt_trans hj hm)]; exact kk)
theorem V.iast {X : Cx} {l : Launch} {D : va_G} {k : Nat → ClassId} {g : Nat → Nat} {cc : ByteArray} {own : String} {n fr lo : Nat} {ws : va_W} {lv : List (Nat × Value)} {st : List Value} {pc : Nat} {a m : Nat} {f : Nat → Int32} {i : Int32} {x : Int32} (hC : Ok X l D k g cc own n fr lo) (q j : Nat) (ws' : va_W) (he : ws[q]? = some (a, .inl (k 0, m, .inl f))) (hi : i = nI j) (hj : j < m) (hm : m < 2147483648) (hws : ws.set q (a, .inl (k 0, m, .inl (upd f j x))) = ws') (hd : decode cc pc = .ok (.iastore, 1)) (kk : V X ws' lv st (pc + 1)) : V X ws lv (.int x :: .int i :: .ref a :: st) pc := by
  obtain ⟨p, l, e, R, s, m, args, below, meth, c, Q, D, A, nL, cells, slots⟩ := X
  obtain ⟨rfl, rfl, rfl, hx, hb, hml, hown, hts, hK, hAm, hA, hfr, hlo, hce, hsl⟩ := hC
  intro H locs ls hP hD hS hl
  exact by subst hi; exact va_iast hx hb hK hP hD hS q 0 he rfl (vp_in_nI hj hm) hd (fun H locs hP hD hS => by rw [nI_clamp (Nat.lt_trans hj hm), hws] at hP hD; exact kk H locs ls hP hD hS hl)
theorem V.bast {X : Cx} {l : Launch} {D : va_G} {k : Nat → ClassId} {g : Nat → Nat} {cc : ByteArray} {own : String} {n fr lo : Nat} {ws : va_W} {lv : List (Nat × Value)} {st : List Value} {pc : Nat} {a m : Nat} {f : Nat → Int32} {i : Int32} {x : Int32} (hC : Ok X l D k g cc own n fr lo) (q j : Nat) (ws' : va_W) (he : ws[q]? = some (a, .inl (k 1, m, .inl f))) (hi : i = nI j) (hj : j < m) (hm : m < 2147483648) (hws : ws.set q (a, .inl (k 1, m, .inl (upd f j (vp_nar .byte x)))) = ws') (hd : decode cc pc = .ok (.bastore, 1)) (kk : V X ws' lv st (pc + 1)) : V X ws lv (.int x :: .int i :: .ref a :: st) pc := by
  obtain ⟨p, l, e, R, s, m, args, below, meth, c, Q, D, A, nL, cells, slots⟩ := X
  obtain ⟨rfl, rfl, rfl, hx, hb, hml, hown, hts, hK, hAm, hA, hfr, hlo, hce, hsl⟩ := hC
  intro H locs ls hP hD hS hl
  exact by subst hi; exact va_bast hx hb hK hP hD hS q 1 he rfl (vp_in_nI hj hm) hd (fun H locs hP hD hS => by rw [nI_clamp (Nat.lt_trans hj hm), hws] at hP hD; exact kk H locs ls hP hD hS hl)
theorem V.aldL {X : Cx} {l : Launch} {D : va_G} {k : Nat → ClassId} {g : Nat → Nat} {cc : ByteArray} {own : String} {n fr lo : Nat} {ws : va_W} {lv : List (Nat × Value)} {st : List Value} {pc : Nat} {a m : Nat} {f : Nat → Option Nat} {i : Int32} (hC : Ok X l D k g cc own n fr lo) (q j x : Nat) (he : ws[q]? = some (a, .inl (k 2, m, .inr (.inr (.inr (.inr f)))))) (hi : i = nI j) (hj : j < m) (hm : m < 2147483648) (hx9 : f j = some x) (hd : decode cc pc = .ok (.aaload, 1)) (kk : V X ws lv (.ref x :: st) (pc + 1)) : V X ws lv (.int i :: .ref a :: st) pc := by
  obtain ⟨p, l, e, R, s, m, args, below, meth, c, Q, D, A, nL, cells, slots⟩ := X
  obtain ⟨rfl, rfl, rfl, hx, hb, hml, hown, hts, hK, hAm, hA, hfr, hlo, hce, hsl⟩ := hC
  intro H locs ls hP hD hS hl
  exact by subst hi; have kk := kk H locs ls hP hD hS hl; exact va_aldq hx hb hK hP q 2 he rfl (vp_in_nI hj hm) hd (by rw [nI_clamp (Nat.lt_trans hj hm), hx9]; exact kk)
theorem V.aldS {X : Cx} {l : Launch} {D : va_G} {k : Nat → ClassId} {g : Nat → Nat} {cc : ByteArray} {own : String} {n fr lo : Nat} {ws : va_W} {lv : List (Nat × Value)} {st : List Value} {pc : Nat} {a m : Nat} {f : Nat → Option Nat} {i : Int32} (hC : Ok X l D k g cc own n fr lo) (q j x : Nat) (he : ws[q]? = some (a, .inl (k 3, m, .inr (.inr (.inr (.inr f)))))) (hi : i = nI j) (hj : j < m) (hm : m < 2147483648) (hx9 : f j = some x) (hd : decode cc pc = .ok (.aaload, 1)) (kk : V X ws lv (.ref x :: st) (pc + 1)) : V X ws lv (.int i :: .ref a :: st) pc := by
  obtain ⟨p, l, e, R, s, m, args, below, meth, c, Q, D, A, nL, cells, slots⟩ := X
  obtain ⟨rfl, rfl, rfl, hx, hb, hml, hown, hts, hK, hAm, hA, hfr, hlo, hce, hsl⟩ := hC
  intro H locs ls hP hD hS hl
  exact by subst hi; have kk := kk H locs ls hP hD hS hl; exact va_aldq hx hb hK hP q 3 he rfl (vp_in_nI hj hm) hd (by rw [nI_clamp (Nat.lt_trans hj hm), hx9]; exact kk)
theorem V.alen {X : Cx} {l : Launch} {D : va_G} {k : Nat → ClassId} {g : Nat → Nat} {cc : ByteArray} {own : String} {n fr lo : Nat} {ws : va_W} {lv : List (Nat × Value)} {st : List Value} {pc : Nat} {a : Nat} {x : vp_A} {v : Int32} (hC : Ok X l D k g cc own n fr lo) (q t : Nat) (cA : ClassId) (ty : FieldType) (he : ws[q]? = some (a, .inl (cA, x))) (ht : (tysK k)[t]? = some (cA, ty)) (hv : Int32.ofNat x.1 = v) (hd : decode cc pc = .ok (.arraylength, 1)) (kk : V X ws lv (.int v :: st) (pc + 1)) : V X ws lv (.ref a :: st) pc := by
  obtain ⟨p, l, e, R, s, m, args, below, meth, c, Q, D, A, nL, cells, slots⟩ := X
  obtain ⟨rfl, rfl, rfl, hx, hb, hml, hown, hts, hK, hAm, hA, hfr, hlo, hce, hsl⟩ := hC
  intro H locs ls hP hD hS hl
  exact va_alen hx hb hK hP q t he ht hv hd (kk H locs ls hP hD hS hl)
theorem V.getAbove {X : Cx} {l : Launch} {D : va_G} {k : Nat → ClassId} {g : Nat → Nat} {cc : ByteArray} {own : String} {n fr lo : Nat} {ws : va_W} {lv : List (Nat × Value)} {st : List Value} {pc : Nat} {idx : Nat} (hC : Ok X l D k g cc own n fr lo) (hlk : Cond.fieldLink own idx RX6 "ABOVE" "[I" ∈ lwG) (hd : decode cc pc = .ok (.getstatic idx, 3)) (kk : V X ws lv (.ref (g 0) :: st) (pc + 3)) : V X ws lv st pc := by
  obtain ⟨p, l, e, R, s, m, args, below, meth, c, Q, D, A, nL, cells, slots⟩ := X
  obtain ⟨rfl, rfl, rfl, hx, hb, hml, hown, hts, hK, hAm, hA, hfr, hlo, hce, hsl⟩ := hC
  intro H locs ls hP hD hS hl
  exact va_gets hx hb hAm.2.1 hS hown (hts _ hlk) (fun _ h9 => h9) hd (kk H locs ls hP hD hS hl)
theorem V.ldAbove {X : Cx} {l : Launch} {D : va_G} {k : Nat → ClassId} {g : Nat → Nat} {cc : ByteArray} {own : String} {n fr lo : Nat} {ws : va_W} {lv : List (Nat × Value)} {st : List Value} {pc : Nat} {i : Int32} (hC : Ok X l D k g cc own n fr lo) (j : Nat) (v : Int32) (hi : i = nI j) (hj : j < 7) (hv : tbAbove.getD j 0 = v) (hd : decode cc pc = .ok (.iaload, 1)) (kk : V X ws lv (.int v :: st) (pc + 1)) : V X ws lv (.int i :: .ref (g 0) :: st) pc := by
  obtain ⟨p, l, e, R, s, m, args, below, meth, c, Q, D, A, nL, cells, slots⟩ := X
  obtain ⟨rfl, rfl, rfl, hx, hb, hml, hown, hts, hK, hAm, hA, hfr, hlo, hce, hsl⟩ := hC
  intro H locs ls hP hD hS hl
  exact by subst hi; subst hv; exact va_ti hx hb hAm.2.2.1 hS (vp_in_nI hj (by omega)) (v := .int (tbAbove.getD j 0)) (by rw [nI_clamp (by omega)]) hd (kk H locs ls hP hD hS hl)
theorem V.getBodies {X : Cx} {l : Launch} {D : va_G} {k : Nat → ClassId} {g : Nat → Nat} {cc : ByteArray} {own : String} {n fr lo : Nat} {ws : va_W} {lv : List (Nat × Value)} {st : List Value} {pc : Nat} {idx : Nat} (hC : Ok X l D k g cc own n fr lo) (hlk : Cond.fieldLink own idx RX4 "BODIES" "[I" ∈ lwG) (hd : decode cc pc = .ok (.getstatic idx, 3)) (kk : V X ws lv (.ref (g 1) :: st) (pc + 3)) : V X ws lv st pc := by
  obtain ⟨p, l, e, R, s, m, args, below, meth, c, Q, D, A, nL, cells, slots⟩ := X
  obtain ⟨rfl, rfl, rfl, hx, hb, hml, hown, hts, hK, hAm, hA, hfr, hlo, hce, hsl⟩ := hC
  intro H locs ls hP hD hS hl
  exact va_gets hx hb hAm.2.2.2.1 hS hown (hts _ hlk) (fun _ h9 => h9) hd (kk H locs ls hP hD hS hl)
theorem V.ldBodies {X : Cx} {l : Launch} {D : va_G} {k : Nat → ClassId} {g : Nat → Nat} {cc : ByteArray} {own : String} {n fr lo : Nat} {ws : va_W} {lv : List (Nat × Value)} {st : List Value} {pc : Nat} {i : Int32} (hC : Ok X l D k g cc own n fr lo) (j : Nat) (v : Int32) (hi : i = nI j) (hj : j < 28) (hv : tbBodies.getD j 0 = v) (hd : decode cc pc = .ok (.iaload, 1)) (kk : V X ws lv (.int v :: st) (pc + 1)) : V X ws lv (.int i :: .ref (g 1) :: st) pc := by
  obtain ⟨p, l, e, R, s, m, args, below, meth, c, Q, D, A, nL, cells, slots⟩ := X
  obtain ⟨rfl, rfl, rfl, hx, hb, hml, hown, hts, hK, hAm, hA, hfr, hlo, hce, hsl⟩ := hC
  intro H locs ls hP hD hS hl
  exact by subst hi; subst hv; exact va_ti hx hb hAm.2.2.2.2.1 hS (vp_in_nI hj (by omega)) (v := .int (tbBodies.getD j 0)) (by rw [nI_clamp (by omega)]) hd (kk H locs ls hP hD hS hl)
theorem V.getAboveN {X : Cx} {l : Launch} {D : va_G} {k : Nat → ClassId} {g : Nat → Nat} {cc : ByteArray} {own : String} {n fr lo : Nat} {ws : va_W} {lv : List (Nat × Value)} {st : List Value} {pc : Nat}  (hC : Ok X l D k g cc own n fr lo) (hd : decode cc pc = .ok (.getstatic 43, 3)) (ho : own = RX4) (kk : V X ws lv (.ref (g 0) :: st) (pc + 3)) : V X ws lv st pc := by
  obtain ⟨p, l, e, R, s, m, args, below, meth, c, Q, D, A, nL, cells, slots⟩ := X
  obtain ⟨rfl, rfl, rfl, hx, hb, hml, hown, hts, hK, hAm, hA, hfr, hlo, hce, hsl⟩ := hC
  intro H locs ls hP hD hS hl
  exact by subst ho; exact va_getsN (host := RX6) hx hb hAm.2.1 hS hown (va_Nw.use rfl (hAm.1 (.fieldLinkNest RX4 43 RX6 "ABOVE" "[I" RX6) (by simp [nstW]))) (fun _ h9 => h9) hd (kk H locs ls hP hD hS hl)
theorem V.sub {X : Cx} {ws : va_W} {lv lv' : List (Nat × Value)} {st : List Value} {pc : Nat} (ks : List Nat) (h : lv_pick lv ks = lv') (kk : V X ws lv' st pc) : V X ws lv st pc := by
  obtain ⟨p, l, e, R, s, m, args, below, meth, c, Q, D, A, nL, cells, slots⟩ := X
  exact fun H locs ls hP hD hS hl => kk H locs ls hP hD hS (lv_sub hl ks h)
theorem V.mmax {X : Cx} {l : Launch} {D : va_G} {k : Nat → ClassId} {g : Nat → Nat} {cc : ByteArray} {own : String} {n fr lo : Nat} {ws : va_W} {lv : List (Nat × Value)} {st : List Value} {pc : Nat} {idx : Nat} {x y : Int32} (hC : Ok X l D k g cc own n fr lo) (hlk : Cond.methodLink own idx Lib.Math.max.name ∈ lwG) (hroom : 1 ≤ fr ∧ (st.map fun v => v.category).sum + 13 ≤ lo) (hd : decode cc pc = .ok (.invokestatic idx, 3)) (kk : V X ws lv (.int (if x < y then y else x) :: st) (pc + 3)) : V X ws lv (.int y :: .int x :: st) pc := by
  obtain ⟨p, l, e, R, s, m, args, below, meth, c, Q, D, A, nL, cells, slots⟩ := X
  obtain ⟨rfl, rfl, rfl, hx, hb, hml, hown, hts, hK, hAm, hA, hfr, hlo, hce, hsl⟩ := hC
  intro H locs ls hP hD hS hl
  exact va_mmax hx hb (by rw [hml]; exact hl.1.symm) hown (hts _ hlk) (hts _ mw_max_s) (hts _ mw_init) (hts _ mw_max_c) (Nat.le_trans hroom.1 hfr) (Nat.le_trans hroom.2 hlo) hce hsl hd (kk H locs ls hP hD hS hl)
theorem V.mmin {X : Cx} {l : Launch} {D : va_G} {k : Nat → ClassId} {g : Nat → Nat} {cc : ByteArray} {own : String} {n fr lo : Nat} {ws : va_W} {lv : List (Nat × Value)} {st : List Value} {pc : Nat} {idx : Nat} {x y : Int32} (hC : Ok X l D k g cc own n fr lo) (hlk : Cond.methodLink own idx Lib.Math.min.name ∈ lwG) (hroom : 1 ≤ fr ∧ (st.map fun v => v.category).sum + 13 ≤ lo) (hd : decode cc pc = .ok (.invokestatic idx, 3)) (kk : V X ws lv (.int (if y < x then y else x) :: st) (pc + 3)) : V X ws lv (.int y :: .int x :: st) pc := by
  obtain ⟨p, l, e, R, s, m, args, below, meth, c, Q, D, A, nL, cells, slots⟩ := X
  obtain ⟨rfl, rfl, rfl, hx, hb, hml, hown, hts, hK, hAm, hA, hfr, hlo, hce, hsl⟩ := hC
  intro H locs ls hP hD hS hl
  exact va_mmin hx hb (by rw [hml]; exact hl.1.symm) hown (hts _ hlk) (hts _ mw_min_s) (hts _ mw_init) (hts _ mw_min_c) (Nat.le_trans hroom.1 hfr) (Nat.le_trans hroom.2 hlo) hce hsl hd (kk H locs ls hP hD hS hl)
theorem V.mabs {X : Cx} {l : Launch} {D : va_G} {k : Nat → ClassId} {g : Nat → Nat} {cc : ByteArray} {own : String} {n fr lo : Nat} {ws : va_W} {lv : List (Nat × Value)} {st : List Value} {pc : Nat} {idx : Nat} {x : Int32} (hC : Ok X l D k g cc own n fr lo) (hlk : Cond.methodLink own idx Lib.Math.abs.name ∈ lwG) (hroom : 1 ≤ fr ∧ (st.map fun v => v.category).sum + 13 ≤ lo) (hd : decode cc pc = .ok (.invokestatic idx, 3)) (kk : V X ws lv (.int (if 0 ≤ x then x else 0 - x) :: st) (pc + 3)) : V X ws lv (.int x :: st) pc := by
  obtain ⟨p, l, e, R, s, m, args, below, meth, c, Q, D, A, nL, cells, slots⟩ := X
  obtain ⟨rfl, rfl, rfl, hx, hb, hml, hown, hts, hK, hAm, hA, hfr, hlo, hce, hsl⟩ := hC
  intro H locs ls hP hD hS hl
  exact va_mabs hx hb (by rw [hml]; exact hl.1.symm) hown (hts _ hlk) (hts _ mw_abs_s) (hts _ mw_init) (hts _ mw_abs_c) (Nat.le_trans hroom.1 hfr) (Nat.le_trans hroom.2 hlo) hce hsl hd (kk H locs ls hP hD hS hl)
theorem V.copyi {X : Cx} {l : Launch} {D : va_G} {k : Nat → ClassId} {g : Nat → Nat} {cc : ByteArray} {own : String} {n fr lo : Nat} {ws : va_W} {lv : List (Nat × Value)} {st : List Value} {pc : Nat} {idx a a0 n0 n1 : Nat} {f gg : Nat → Int32} {sp dp nn : Int32} (hC : Ok X l D k g cc own n fr lo) (q0 q1 s0 d0 m0 : Nat) (ws' : va_W) (t : Nat) (ty : FieldType) (cA : ClassId) (hlk : Cond.methodLink own idx arraycopyName ∈ lwG) (he0 : ws[q0]? = some (a0, .inl (cA, n0, .inl f))) (he1 : ws[q1]? = some (a, .inl (cA, n1, .inl gg))) (ht : (tysK k)[t]? = some (cA, ty)) (hpr : refKind ty = false) (hs : sp = nI s0) (hdp : dp = nI d0) (hn : nn = nI m0) (h4 : s0 + m0 ≤ n0) (h5 : d0 + m0 ≤ n1) (hb0 : n0 < 2147483648) (hb1 : n1 < 2147483648) (hfit : ∀ i, i < m0 → fits ty (.int (f (s0 + i))) = true) (hroom : 1 ≤ fr ∧ (st.map fun v => v.category).sum + (nativeFrameWords "java/lang/System" "arraycopy" 5 + 11) ≤ lo) (hws : ws.set q1 (a, .inl (cA, n1, .inl (va_cpy f gg s0 d0 m0))) = ws') (hd : decode cc pc = .ok (.invokestatic idx, 3)) (kk : V X ws' lv st (pc + 3)) : V X ws lv (.int nn :: .int dp :: .ref a :: .int sp :: .ref a0 :: st) pc := by
  obtain ⟨p, l, e, R, s, m, args, below, meth, c, Q, D, A, nL, cells, slots⟩ := X
  obtain ⟨rfl, rfl, rfl, hx, hb, hml, hown, hts, hK, hAm, hA, hfr, hlo, hce, hsl⟩ := hC
  intro H locs ls hP hD hS hl
  exact by
    have c0 : (nI s0).toNatClampNeg = s0 := nI_clamp (by omega)
    have c1 : (nI d0).toNatClampNeg = d0 := nI_clamp (by omega)
    have c2 : (nI m0).toNatClampNeg = m0 := nI_clamp (by omega)
    subst hs; subst hdp; subst hn
    refine va_copyi hx hb (by rw [hml]; exact hl.1.symm) hown (hts _ hlk) (hts _ mw_ac_n) (hts _ mw_ac_s) (hts _ mw_ac_i) hK hP hD hS q0 q1 t t he0 he1 ht ht hpr (nI_pos (by omega)) (nI_pos (by omega)) (nI_pos (by omega)) (by rw [c0, c2]; exact h4) (by rw [c1, c2]; exact h5) (by rw [c0, c2]; exact hfit) (Nat.le_trans hroom.1 hfr) (Nat.le_trans hroom.2 hlo) hd (fun H locs hP hD hS => ?_)
    rw [c0, c1, c2, hws] at hP hD
    exact kk H locs ls hP hD hS hl
theorem V.after {l : Launch} {D : va_G} {as' : List Value} {S : Type} {wc : va_W} {wc' : S → va_W} {post : Option Value → S → Prop}
    {p : Program} {e : Env} {R : Room} {s : State} {m : MethodId} {args : Array Value} {below : List Frame} {meth : Method} {c : Code} {Q : State → Prop} {A : Nat → Prop} {nL cells slots : Nat} {wl wr : va_W} {lv : List (Nat × Value)} {rest st : List Value} {pc : Nat} {H : Heap} {locs : List Loc} {ls : Array Slot}
    (hP : va_P D vwCl (wl ++ (wc ++ wr)) H) (hD : va_D A (wl ++ (wc ++ wr))) (hS : va_S A s.heap H locs) (hl : lv_has ls nL lv) (hA : ∀ q, s.heap.size ≤ q → A q)
    (hrun : va_Run p l e R s m args below meth c H locs cells slots 0 0 (F0 m pc ls st) rest ((fun _ st oc t => (∃ (v : Option Value) (u : S), oc = .returned v ∧ post v u ∧ va_P D vwCl (wc' u) t.heap ∧ va_D (va_A wc H.size) (wc' u)) ∧ va_F (va_A wc H.size) st t : Array Value → State → Outcome → State → Prop) as'.toArray) (va_A wc H.size))
    (kk : ∀ (v : Option Value) (u : S), post v u → V (p, l, e, R, s, m, args, below, meth, c, Q, D, A, nL, cells, slots) (wl ++ (wc' u ++ wr)) lv (v.toList ++ rest) (pc + 3)) : W p l e R s m args below meth c H locs cells slots Q (F0 m pc ls st) := by
  intro T hT X
  obtain ⟨v9, st₀, t, T', L, h0, X', hL, e1, e2, ⟨⟨v, u, hv, hp, hP1, hD1⟩, hz, hk⟩, st9⟩ := hrun T hT X
  cases hv
  rw [h0] at hz hk
  have hwc : va_P D vwCl wc H := fun i q hi => hP (wl.length + i) q (by rw [List.getElem?_append_right (by omega), Nat.add_sub_cancel_left, List.getElem?_append_left (List.getElem?_eq_some_iff.mp hi).1]; exact hi)
  have hin : ∀ (i : Nat) (q : Nat × va_E), wc[i]? = some q → (wl ++ (wc ++ wr))[wl.length + i]? = some q := fun i q hi => by rw [List.getElem?_append_right (by omega), Nat.add_sub_cancel_left, List.getElem?_append_left (List.getElem?_eq_some_iff.mp hi).1]; exact hi
  have hFc : ∀ q, va_A wc H.size q → A q := by
    intro q h
    rcases h with ⟨i, e9, h⟩ | h
    · exact hD.2 _ (q, e9) (hin i _ h)
    · exact hA q (Nat.le_trans hS.1 h)
  have hdl : ∀ (i : Nat) (q : Nat × va_E), wl[i]? = some q → q.1 < H.size ∧ ¬ va_A wc H.size q.1 := by
    intro i q hi
    have hli := (List.getElem?_eq_some_iff.mp hi).1
    have hi2 : (wl ++ (wc ++ wr))[i]? = some q := by rw [List.getElem?_append_left hli]; exact hi
    have hlt := (hP i q hi2).lt
    refine ⟨hlt, fun h => ?_⟩
    rcases h with ⟨j, e9, h⟩ | h
    · have := hD.1 i _ q (q.1, e9) hi2 (hin j _ h) rfl
      omega
    · omega
  have hdr : ∀ (i : Nat) (q : Nat × va_E), wr[i]? = some q → q.1 < H.size ∧ ¬ va_A wc H.size q.1 := by
    intro i q hi
    have hi2 : (wl ++ (wc ++ wr))[wl.length + (wc.length + i)]? = some q := by
      rw [List.getElem?_append_right (by omega), Nat.add_sub_cancel_left, List.getElem?_append_right (by omega), Nat.add_sub_cancel_left]; exact hi
    have hlt := (hP _ q hi2).lt
    refine ⟨hlt, fun h => ?_⟩
    rcases h with ⟨j, e9, h⟩ | h
    · have h7 := hD.1 _ _ q (q.1, e9) hi2 (hin j _ h) rfl
      have h8 := (List.getElem?_eq_some_iff.mp h).1
      omega
    · omega
  have hPl : va_P D vwCl wl H := fun i q hi => hP i q (by rw [List.getElem?_append_left (List.getElem?_eq_some_iff.mp hi).1]; exact hi)
  have hPr : va_P D vwCl wr H := fun i q hi => hP (wl.length + (wc.length + i)) q (by rw [List.getElem?_append_right (by omega), Nat.add_sub_cancel_left, List.getElem?_append_right (by omega), Nat.add_sub_cancel_left]; exact hi)
  have hDl : va_D A wl := ⟨fun i j x z hi hj hxz => hD.1 i j x z (by rw [List.getElem?_append_left (List.getElem?_eq_some_iff.mp hi).1]; exact hi) (by rw [List.getElem?_append_left (List.getElem?_eq_some_iff.mp hj).1]; exact hj) hxz, fun i q hi => hD.2 i q (by rw [List.getElem?_append_left (List.getElem?_eq_some_iff.mp hi).1]; exact hi)⟩
  have hir : ∀ (i : Nat) (q : Nat × va_E), wr[i]? = some q → (wl ++ (wc ++ wr))[wl.length + (wc.length + i)]? = some q := fun i q hi => by rw [List.getElem?_append_right (by omega), Nat.add_sub_cancel_left, List.getElem?_append_right (by omega), Nat.add_sub_cancel_left]; exact hi
  have hDr : va_D A wr := ⟨fun i j x z hi hj hxz => by have := hD.1 _ _ x z (hir i x hi) (hir j z hj) hxz; omega, fun i q hi => hD.2 _ q (hir i q hi)⟩
  have hP2 : va_P D vwCl (wl ++ (wc' u ++ wr)) T'.heap := by
    rw [e1]
    exact (hPl.kept (fun i q hi => hk q.1 (hdl i q hi).1 (hdl i q hi).2)).app (hP1.app (hPr.kept (fun i q hi => hk q.1 (hdr i q hi).1 (hdr i q hi).2)))
  have hD2 : va_D A (wl ++ (wc' u ++ wr)) := by
    refine va_D.app hDl (va_D.app (hD1.weaken (fun i q _ h => hFc q.1 h)) hDr (fun i j x z hi hj hxz => ?_)) (fun i j x z hi hj hxz => ?_)
    · exact (hdr j z hj).2 (hxz ▸ hD1.2 i x hi)
    · rcases List.mem_append.mp (List.mem_of_getElem? hj) with hm | hm
      · obtain ⟨j2, hj2⟩ := List.getElem?_of_mem hm
        exact (hdl i x hi).2 (hxz ▸ hD1.2 j2 z hj2)
      · obtain ⟨j2, hj2⟩ := List.getElem?_of_mem hm
        have h6 := hD.1 i _ x z (by rw [List.getElem?_append_left (List.getElem?_eq_some_iff.mp hi).1]; exact hi) (hir j2 z hj2) hxz
        have h7 := (List.getElem?_eq_some_iff.mp hi).1
        omega
  obtain ⟨t2, a1, b1⟩ := kk v9 u hp T'.heap (locs ++ L) ls hP2 hD2 ⟨Nat.le_trans hS.1 (by rw [e1]; exact hz), fun q h1 h2 => by rw [e1, hk q (Nat.lt_of_lt_of_le h1 hS.1) (fun z => h2 (hFc q z))]; exact hS.2.1 q h1 h2, fun q hq => by
      rcases List.mem_append.mp hq with h | h
      · exact hS.2.2 q h
      · exact hFc _ (hL q h)⟩ hl T' rfl X'
  exact ⟨t2, st9 t2 a1, b1⟩
theorem V.pre {D : va_G} {k : Nat → ClassId} {g : Nat → Nat} {s : State} {A : Nat → Prop} {wl wc wr : va_W} {as : List Value} {H : Heap} {locs : List Loc} (hP : va_P D vwCl (wl ++ (wc ++ wr)) H) (hD : va_D A (wl ++ (wc ++ wr))) (hS : va_S A s.heap H locs) (hA : ∀ q, s.heap.size ≤ q → A q) (hK : va_K D vwCl (tysK k) s) (hAm : Amb g A s s.heap) :
    PreS s H (va_Pc as (fun U => U.heap.size = H.size ∧ va_P D vwCl wc U.heap ∧ va_K D vwCl (tysK k) U ∧ va_D (fun _ => True) wc ∧ Amb g (va_A wc H.size) U U.heap)) as := by
  have hin : ∀ (i : Nat) (q : Nat × va_E), wc[i]? = some q → (wl ++ (wc ++ wr))[wl.length + i]? = some q := fun i q hi => by rw [List.getElem?_append_right (by omega), Nat.add_sub_cancel_left, List.getElem?_append_left (List.getElem?_eq_some_iff.mp hi).1]; exact hi
  have hFc : ∀ q, va_A wc H.size q → A q := by
    intro q h
    rcases h with ⟨i, e9, h⟩ | h
    · exact hD.2 _ (q, e9) (hin i _ h)
    · exact hA q (Nat.le_trans hS.1 h)
  refine ⟨fun a U gg mk q => ?_, fun U hU hW => ?_⟩
  · obtain ⟨q0, q1, qP, qK, qD, qA⟩ := q
    exact ⟨q0, q1, qP, va_K.moved (u := U) (U := U.calling gg mk a) (Vm.Alike.refl U.vm) qK, qD, Amb.same (u := U) (U := U.calling gg mk a) rfl qA⟩
  · refine ⟨rfl, by rw [hU], by rw [hU]; exact fun i q hi => hP _ q (hin i q hi), va_K.moved hW.alike hK, ⟨fun i j x z hi hj hxz => by have := hD.1 _ _ x z (hin i x hi) (hin j z hj) hxz; omega, fun _ _ _ => trivial⟩, ?_⟩
    rw [hU]
    exact Amb.warm hW ((hAm.kept hS.2.1).narrow hFc)
theorem V.callV {X : Cx} {l : Launch} {D : va_G} {k : Nat → ClassId} {g : Nat → Nat} {cc : ByteArray} {own : String} {n fr lo : Nat} {ws : va_W} {lv : List (Nat × Value)} {pc : Nat} {idx : Nat} {y : MethodName} {yb : ByteArray} {yn fr' lo' : Nat} {yr : Option FieldType} {as : List Value} {S : Type} {wl wc wr : va_W} {wc' : S → va_W} {post : Option Value → S → Prop} {rest stk : List Value} {C : String} {a : Nat} (hC : Ok X l D k g cc own n fr lo) (hct : Ct l D k g y yb yn yr fr' lo' (.ref a :: as) wc wc' post) (hU : MU C y yb yn yr as.length) (hlk : Cond.methodLink own idx y ∈ lwG) (hroom : fr' + 1 ≤ fr ∧ 8 + (yn + 11) + lo' ≤ lo) (hrc : ∃ (q ci : Nat) (T : u_T) (N : Nat) (fs : List Value), vwCl[ci]? = some (C, T, N) ∧ wc[q]? = some (a, .inr (ci, fs))) (hst : stk = as.reverse ++ .ref a :: rest) (hsum : (rest.map fun v => v.category).sum ≤ 8) (hws : ws = wl ++ (wc ++ wr)) (hd : decode cc pc = .ok (.invokevirtual idx, 3)) (kk : ∀ (v : Option Value) (u : S), post v u → V X (wl ++ (wc' u ++ wr)) lv (v.toList ++ rest) (pc + 3)) : V X ws lv stk pc := by
  obtain ⟨p, l, e, R, s, m, args, below, meth, c, Q, D, A, nL, cells, slots⟩ := X
  obtain ⟨rfl, rfl, rfl, hx, hb, hml, hown, hts, hK, hAm, hA, hfr, hlo, hce, hsl⟩ := hC
  intro H locs ls hP hD hS hl
  subst hws; subst hst
  obtain ⟨q, ci, T, N, fs, hc, hq⟩ := hrc
  have hpre := V.pre (k := k) (g := g) (as := .ref a :: as) hP hD hS hA hK hAm
  have hq2 : (wl ++ (wc ++ wr))[wl.length + q]? = some (a, .inr (ci, fs)) := by rw [List.getElem?_append_right (by omega), Nat.add_sub_cancel_left, List.getElem?_append_left (List.getElem?_eq_some_iff.mp hq).1]; exact hq
  exact V.after (as' := .ref a :: as) hP hD hS hl hA (va_runV (As := as) (rest := rest) ⟨hx, hb, hml, hown, hts⟩ (hct H.size) (cwV as.length hts (gUV hlk hU) rfl rfl rfl hU.2.2.2.2 ⟨Nat.le_trans hroom.1 hfr, Nat.le_trans hroom.2 hlo⟩) ⟨hpre.1, va_recv hK hP hc hq2, hpre.2⟩ rfl rfl hl.1 rfl (lv_room hsum) hd ⟨hce, hsl⟩) kk
theorem V.callS {X : Cx} {l : Launch} {D : va_G} {k : Nat → ClassId} {g : Nat → Nat} {cc : ByteArray} {own : String} {n fr lo : Nat} {ws : va_W} {lv : List (Nat × Value)} {pc : Nat} {idx : Nat} {y : MethodName} {yb : ByteArray} {yn fr' lo' : Nat} {yr : Option FieldType} {as : List Value} {S : Type} {wl wc wr : va_W} {wc' : S → va_W} {post : Option Value → S → Prop} {rest stk : List Value} (hC : Ok X l D k g cc own n fr lo) (hct : Ct l D k g y yb yn yr fr' lo' as wc wc' post) (hU : MS y yb yn yr as.length) (hlk : Cond.methodLink own idx y ∈ lwG) (hroom : fr' + 1 ≤ fr ∧ 8 + (yn + 11) + lo' ≤ lo) (hst : stk = as.reverse ++ rest) (hsum : (rest.map fun v => v.category).sum ≤ 8) (hws : ws = wl ++ (wc ++ wr)) (hd : decode cc pc = .ok (.invokestatic idx, 3)) (kk : ∀ (v : Option Value) (u : S), post v u → V X (wl ++ (wc' u ++ wr)) lv (v.toList ++ rest) (pc + 3)) : V X ws lv stk pc := by
  obtain ⟨p, l, e, R, s, m, args, below, meth, c, Q, D, A, nL, cells, slots⟩ := X
  obtain ⟨rfl, rfl, rfl, hx, hb, hml, hown, hts, hK, hAm, hA, hfr, hlo, hce, hsl⟩ := hC
  intro H locs ls hP hD hS hl
  subst hws; subst hst
  have hpre := V.pre (k := k) (g := g) (as := as) hP hD hS hA hK hAm
  exact V.after (as' := as) hP hD hS hl hA (va_runS (As := as) (rest := rest) ⟨hx, hb, hml, hown, hts⟩ (hct H.size) (va_cwS as.length hts (gUS hlk hU) rfl rfl rfl hU.2.2.2 ⟨Nat.le_trans hroom.1 hfr, Nat.le_trans hroom.2 hlo⟩) hpre rfl rfl hl.1 rfl (lv_room hsum) hd ⟨hce, hsl⟩) kk
theorem V.callN {X : Cx} {l : Launch} {D : va_G} {k : Nat → ClassId} {g : Nat → Nat} {cc : ByteArray} {own : String} {n fr lo : Nat} {ws : va_W} {lv : List (Nat × Value)} {pc : Nat} {idx : Nat} {y : MethodName} {yb : ByteArray} {yn fr' lo' : Nat} {yr : Option FieldType} {as : List Value} {S : Type} {wl wc wr : va_W} {wc' : S → va_W} {post : Option Value → S → Prop} {rest stk : List Value} {host : String} (hC : Ok X l D k g cc own n fr lo) (hct : Ct l D k g y yb yn yr fr' lo' as wc wc' post) (hU : MS y yb yn yr as.length) (hlk : Cond.methodLinkNest own idx y host ∈ nstW) (hroom : fr' + 1 ≤ fr ∧ 8 + (yn + 11) + lo' ≤ lo) (hst : stk = as.reverse ++ rest) (hsum : (rest.map fun v => v.category).sum ≤ 8) (hws : ws = wl ++ (wc ++ wr)) (hd : decode cc pc = .ok (.invokestatic idx, 3)) (kk : ∀ (v : Option Value) (u : S), post v u → V X (wl ++ (wc' u ++ wr)) lv (v.toList ++ rest) (pc + 3)) : V X ws lv stk pc := by
  obtain ⟨p, l, e, R, s, m, args, below, meth, c, Q, D, A, nL, cells, slots⟩ := X
  obtain ⟨rfl, rfl, rfl, hx, hb, hml, hown, hts, hK, hAm, hA, hfr, hlo, hce, hsl⟩ := hC
  intro H locs ls hP hD hS hl
  subst hws; subst hst
  have hpre := V.pre (k := k) (g := g) (as := as) hP hD hS hA hK hAm
  exact V.after (as' := as) hP hD hS hl hA (va_runSN (host := host) (As := as) (rest := rest) ⟨hx, hb, hml, hown, hts⟩ (hct H.size) ⟨va_cnB as.length hts (gU hU.1) rfl rfl rfl (hAm.1 _ hlk) (hts _ hU.2.2.1) hU.2.2.2 ⟨Nat.le_trans hroom.1 hfr, Nat.le_trans hroom.2 hlo⟩, hts _ hU.2.1, trivial⟩ hpre rfl rfl hl.1 rfl (lv_room hsum) hd ⟨hce, hsl⟩) kk
