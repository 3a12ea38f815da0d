/-! numbers: an int that is a count, by its Nat -/
theorem nl (n : Nat) : (OfNat.ofNat n : Int32) = nI n := rfl
theorem nadd {x y : Int32} {a b : Nat} (h : x = nI a) (h2 : y = nI b) : x + y = nI (a + b) := by rw [h, h2, nI_add]
theorem nmul {x y : Int32} {a b : Nat} (h : x = nI a) (h2 : y = nI b) : x * y = nI (a * b) := by rw [h, h2, pk_mul]
theorem nsub {x y : Int32} {a b : Nat} (h : x = nI a) (h2 : y = nI b) (hle : b ≤ a) : x - y = nI (a - b) := by rw [h, h2, pk_sub hle]
theorem ncast {x : Int32} {a b : Nat} (h : x = nI a) (e : a = b) : x = nI b := e ▸ h
theorem nle {x y : Int32} {a b : Nat} (h : x = nI a) (h2 : y = nI b) (ha : a < 2147483648) (hb : b < 2147483648) : x ≤ y ↔ a ≤ b := by rw [h, h2]; exact nI_leI ha hb
theorem nlt {x y : Int32} {a b : Nat} (h : x = nI a) (h2 : y = nI b) (ha : a < 2147483648) (hb : b < 2147483648) : x < y ↔ a < b := by rw [h, h2]; exact nI_ltI ha hb
theorem neq {x y : Int32} {a b : Nat} (h : x = nI a) (h2 : y = nI b) (ha : a < 2147483648) (hb : b < 2147483648) : x = y ↔ a = b := by rw [h, h2]; exact nI_eq ha hb
theorem ndiv {x y : Int32} {a b : Nat} (h : x = nI a) (h2 : y = nI b) (ha : a < 2147483648) (h0 : 0 < b) (hb : b < 2147483648) : x / y = nI (a / b) := by rw [h, h2, pk_div ha h0 hb]
def nN (x : Int32) : Nat := x.toNatClampNeg
def isN (x : Int32) (b : Nat) : Prop := x = nI (nN x) ∧ nN x ≤ b
theorem nN_nI {n : Nat} (h : n < 2147483648) : nN (nI n) = n := nI_clamp h
theorem isN.mk {x : Int32} {n b : Nat} (h : x = nI n) (hb : n ≤ b) (hs : b < 2147483648) : isN x b := by subst h; rw [isN, nN_nI (by omega)]; exact ⟨rfl, hb⟩
theorem nN_of {x : Int32} {n : Nat} (h : x = nI n) (hs : n < 2147483648) : nN x = n := by subst h; exact nN_nI hs
theorem V.eqi {X : Cx} {ws : va_W} {lv : List (Nat × Value)} {st : List Value} {pc : Nat} {x y : Int32} (h : x = y) (kk : V X ws lv (.int y :: st) pc) : V X ws lv (.int x :: st) pc := h ▸ kk
def bI (P : Prop) [Decidable P] : Int32 := if P then 1 else 0
theorem bI_t {P : Prop} [Decidable P] (h : P) : bI P = 1 := if_pos h
theorem bI_f {P : Prop} [Decidable P] (h : ¬ P) : bI P = 0 := if_neg h
theorem bI_n (P : Prop) [Decidable P] : narrow .boolean (.int (bI P)) = .int (bI P) := by
  by_cases h : P
  · rw [bI_t h]; rfl
  · rw [bI_f h]; rfl
theorem bI_ite (P : Prop) [Decidable P] : (if P then (1 : Int32) else 0) = bI P := rfl
theorem V.if_eq_b {X : Cx} {l : Launch} {D : va_G} {k : Nat → ClassId} {g : Nat → Nat} {cc : ByteArray} {own : String} {n fr lo : Nat} {ws : va_W} {lv : List (Nat × Value)} {st : List Value} {pc : Nat} {P : Prop} [Decidable P] {off : Int} (tgt : Nat) (hC : Ok X l D k g cc own n fr lo) (hd : decode cc pc = .ok (.ifCond .eq off, 3)) (ht : (pc : Int) + off = (tgt : Int)) (kt : ¬ P → V X ws lv st tgt) (kf : P → V X ws lv st (pc + 3)) : V X ws lv (.int (bI P) :: st) pc :=
  V.if_eq tgt hC hd ht (fun c => kt (fun h => by rw [bI_t h] at c; exact absurd c (by decide))) (fun c => kf (by
    by_cases h : P
    · exact h
    · exact absurd (bI_f h) c))
theorem V.if_ne_b {X : Cx} {l : Launch} {D : va_G} {k : Nat → ClassId} {g : Nat → Nat} {cc : ByteArray} {own : String} {n fr lo : Nat} {ws : va_W} {lv : List (Nat × Value)} {st : List Value} {pc : Nat} {P : Prop} [Decidable P] {off : Int} (tgt : Nat) (hC : Ok X l D k g cc own n fr lo) (hd : decode cc pc = .ok (.ifCond .ne off, 3)) (ht : (pc : Int) + off = (tgt : Int)) (kt : P → V X ws lv st tgt) (kf : ¬ P → V X ws lv st (pc + 3)) : V X ws lv (.int (bI P) :: st) pc :=
  V.if_ne tgt hC hd ht (fun c => kt (by
    by_cases h : P
    · exact h
    · exact absurd (bI_f h) c)) (fun c => kf (fun h => by rw [bI_t h] at c; exact absurd c (by decide)))
/-! what both sides work out, over the reference's row -/
def irm (x y : Int32) : Int32 := x - x / y * y
def run (f : Nat → Int32 → Int32) : Nat → Nat → Int32 → Int32
  | 0, _, s => s
  | n + 1, i, s => run f n (i + 1) (f i s)
def srch (p : Nat → Bool) : Nat → Nat → Nat
  | 0, i => i
  | n + 1, i => if p i = true then i else srch p n (i + 1)
theorem srch_t {p : Nat → Bool} {n i : Nat} (h : p i = true) : srch p (n + 1) i = i := by simp [srch, h]
theorem srch_f {p : Nat → Bool} {n i : Nat} (h : ¬ p i = true) : srch p (n + 1) i = srch p n (i + 1) := by simp [srch, h]
theorem run_congr {f g : Nat → Int32 → Int32} : ∀ (n i : Nat) (s : Int32), (∀ j, i ≤ j → j < i + n → ∀ s, f j s = g j s) → run f n i s = run g n i s := by
  intro n
  induction n with
  | zero => intro i s h; rfl
  | succ n ih =>
    intro i s h
    show run f n (i + 1) (f i s) = run g n (i + 1) (g i s)
    rw [h i (Nat.le_refl i) (by omega)]
    exact ih (i + 1) _ (fun j h1 h2 => h j (by omega) (by omega))
theorem srch_congr {p q : Nat → Bool} : ∀ (n i : Nat), (∀ j, i ≤ j → j < i + n → p j = q j) → srch p n i = srch q n i := by
  intro n
  induction n with
  | zero => intro i h; rfl
  | succ n ih =>
    intro i h
    simp only [srch]
    rw [h i (Nat.le_refl i) (by omega), ih (i + 1) (fun j h1 h2 => h j (by omega) (by omega))]
theorem srch_le {p : Nat → Bool} : ∀ (n i : Nat), i ≤ srch p n i ∧ srch p n i ≤ i + n := by
  intro n
  induction n with
  | zero => intro i; exact ⟨Nat.le_refl i, Nat.le_refl i⟩
  | succ n ih =>
    intro i
    simp only [srch]
    split
    · omega
    · have := ih (i + 1); omega
abbrev inS (v a b : Int32) : Prop := a ≤ v ∧ v ≤ b
def markS (ρ : Rw) (h : Nat) (t : Int32) : Int32 := irm (t + ρ (8 + 2 * h)) (ρ (7 + 2 * h)) * 60 / ρ (7 + 2 * h)
def absS (d : Int32) : Int32 := if d < 0 then -d else d
def minS (x y : Int32) : Int32 := if x < y then x else y
def apartS (ρ : Rw) (x y : Nat) (t : Int32) : Int32 := minS (absS (markS ρ x t - markS ρ y t)) (60 - absS (markS ρ x t - markS ρ y t))
def b1 (x : Int32) : Int32 := 1 <<< (x &&& 31)
def bitS (s x : Int32) : Int32 := (s >>> (x &&& 31)) &&& 1
def lowE (e : Nat) : Int32 := -1000000000 - nI e
/-- an error: its answer, and it is counted -/
def er (e : Nat) (μ : St) : Int32 × St := (lowE e, va_up μ 3 (upd (μ 3) e (μ 3 e + 1)))
/-! calls over the whole world, and of static methods that see none of it -/
theorem V.sts {X : Cx} {ws : va_W} {lv : List (Nat × Value)} {st st' : List Value} {pc : Nat} (h : st = st') (kk : V X ws lv st' pc) : V X ws lv st pc := h ▸ kk
theorem V.callV0 {X : Cx} {l : Launch} {D : va_G} {k : Nat → ClassId} {g : Nat → Nat} {cc : ByteArray} {own : String} {n fr lo : Nat} {ws : va_W} {lv : List (Nat × Value)} {pc : Nat} {idx : Nat} {y : MethodName} {yb : ByteArray} {yn fr' lo' : Nat} {yr : Option FieldType} {as : List Value} {S : Type} {post : Option Value → S → Prop} {rest stk : List Value} {ws' : S → va_W} {C : String} {a : Nat} (hC : Ok X l D k g cc own n fr lo) (hct : Ct l D k g y yb yn yr fr' lo' (.ref a :: as) ws ws' post) (hU : MU C y yb yn yr as.length) (hlk : Cond.methodLink own idx y ∈ lwG) (hroom : fr' + 1 ≤ fr ∧ 8 + (yn + 11) + lo' ≤ lo) (hrc : ∃ (q ci : Nat) (T : u_T) (N : Nat) (fs : List Value), vwCl[ci]? = some (C, T, N) ∧ ws[q]? = some (a, .inr (ci, fs))) (hst : stk = as.reverse ++ .ref a :: rest) (hsum : (rest.map fun v => v.category).sum ≤ 8) (hd : decode cc pc = .ok (.invokevirtual idx, 3)) (kk : ∀ (v : Option Value) (u : S), post v u → V X (ws' u) lv (v.toList ++ rest) (pc + 3)) : V X ws lv stk pc :=
  V.callV (wl := []) (wr := []) hC hct hU hlk hroom hrc hst hsum (by rw [List.nil_append, List.append_nil]) hd (fun v u h => by rw [List.nil_append, List.append_nil]; exact kk v u h)
theorem V.callSw {X : Cx} {l : Launch} {D : va_G} {k : Nat → ClassId} {g : Nat → Nat} {cc : ByteArray} {own : String} {n fr lo : Nat} {ws : va_W} {lv : List (Nat × Value)} {pc : Nat} {idx : Nat} {y : MethodName} {yb : ByteArray} {yn fr' lo' : Nat} {yr : Option FieldType} {as : List Value} {S : Type} {post : Option Value → S → Prop} {rest stk : List Value} {ws' : S → va_W} (hC : Ok X l D k g cc own n fr lo) (hct : Ct l D k g y yb yn yr fr' lo' as ws ws' post) (hU : MS y yb yn yr as.length) (hlk : Cond.methodLink own idx y ∈ lwG) (hroom : fr' + 1 ≤ fr ∧ 8 + (yn + 11) + lo' ≤ lo) (hst : stk = as.reverse ++ rest) (hsum : (rest.map fun v => v.category).sum ≤ 8) (hd : decode cc pc = .ok (.invokestatic idx, 3)) (kk : ∀ (v : Option Value) (u : S), post v u → V X (ws' u) lv (v.toList ++ rest) (pc + 3)) : V X ws lv stk pc :=
  V.callS (wl := []) (wr := []) hC hct hU hlk hroom hst hsum (by rw [List.nil_append, List.append_nil]) hd (fun v u h => by rw [List.nil_append, List.append_nil]; exact kk v u h)
theorem V.callS0 {X : Cx} {l : Launch} {D : va_G} {k : Nat → ClassId} {g : Nat → Nat} {cc : ByteArray} {own : String} {n fr lo : Nat} {ws : va_W} {lv : List (Nat × Value)} {pc : Nat} {idx : Nat} {y : MethodName} {yb : ByteArray} {yn fr' lo' : Nat} {yr : Option FieldType} {as : List Value} {S : Type} {post : Option Value → S → Prop} {rest stk : List Value} (hC : Ok X l D k g cc own n fr lo) (hct : Ct l D k g y yb yn yr fr' lo' as [] (fun _ => []) post) (hU : MS y yb yn yr as.length) (hlk : Cond.methodLink own idx y ∈ lwG) (hroom : fr' + 1 ≤ fr ∧ 8 + (yn + 11) + lo' ≤ lo) (hst : stk = as.reverse ++ rest) (hsum : (rest.map fun v => v.category).sum ≤ 8) (hd : decode cc pc = .ok (.invokestatic idx, 3)) (kk : ∀ (v : Option Value) (u : S), post v u → V X ws lv (v.toList ++ rest) (pc + 3)) : V X ws lv stk pc :=
  V.callS (wl := []) (wr := ws) hC hct hU hlk hroom hst hsum rfl hd (fun v u h => kk v u h)
theorem V.callN0 {X : Cx} {l : Launch} {D : va_G} {k : Nat → ClassId} {g : Nat → Nat} {cc : ByteArray} {own : String} {n fr lo : Nat} {ws : va_W} {lv : List (Nat × Value)} {pc : Nat} {idx : Nat} {y : MethodName} {yb : ByteArray} {yn fr' lo' : Nat} {yr : Option FieldType} {as : List Value} {S : Type} {post : Option Value → S → Prop} {rest stk : List Value} {host : String} (hC : Ok X l D k g cc own n fr lo) (hct : Ct l D k g y yb yn yr fr' lo' as [] (fun _ => []) post) (hU : MS y yb yn yr as.length) (hlk : Cond.methodLinkNest own idx y host ∈ nstW) (hroom : fr' + 1 ≤ fr ∧ 8 + (yn + 11) + lo' ≤ lo) (hst : stk = as.reverse ++ rest) (hsum : (rest.map fun v => v.category).sum ≤ 8) (hd : decode cc pc = .ok (.invokestatic idx, 3)) (kk : ∀ (v : Option Value) (u : S), post v u → V X ws lv (v.toList ++ rest) (pc + 3)) : V X ws lv stk pc :=
  V.callN (wl := []) (wr := ws) hC hct hU hlk hroom hst hsum rfl hd (fun v u h => kk v u h)
theorem rb1 {P : Prop} [Decidable P] (h : P) : some (Value.int 1) = some (Value.int (bI P)) := by rw [bI_t h]
theorem rb0 {P : Prop} [Decidable P] (h : ¬ P) : some (Value.int 0) = some (Value.int (bI P)) := by rw [bI_f h]
theorem ri {x y : Int32} (h : x = y) : some (Value.int x) = some (Value.int y) := by rw [h]
def heldS (v p q : Int32) : Int32 := if v < p then p else if q < v then q else v
def fmodS (x y : Int32) : Int32 := if ¬ 0 ≤ x ^^^ y ∧ ¬ irm x y = 0 then irm x y + y else irm x y
theorem i_nle {x y : Int32} (h : ¬ x ≤ y) : y < x := Int32.not_le.mp h
theorem i_nlt {x y : Int32} (h : ¬ x < y) : y ≤ x := Int32.not_lt.mp h
theorem i_gt {x y : Int32} (h : x < y) : ¬ y ≤ x := fun q => absurd h (Int32.not_lt.mpr q)
theorem i_ge {x y : Int32} (h : x ≤ y) : ¬ y < x := fun q => absurd h (Int32.not_le.mpr q)
