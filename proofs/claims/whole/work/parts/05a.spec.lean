/-! texts as words: what they give -/
def isOp (w : Int32) : Prop := w = 43 ∨ w = 45 ∨ w = 42 ∨ w = 47 ∨ w = 37 ∨ w = 60 ∨ w = 61 ∨ w = 62 ∨ w = 38 ∨ w = 124
def twoS (w x y : Int32) : Int32 := if w = 43 then x + y else if w = 45 then x - y else if w = 42 then x * y else if w = 47 then (if y = 0 then 0 else x / y) else if w = 37 then (if y = 0 then 0 else irm x y) else if w = 60 then (if x < y then 1 else 0) else if w = 61 then (if x = y then 1 else 0) else if w = 62 then (if y < x then 1 else 0) else if w = 38 then (if ¬ x = 0 ∧ ¬ y = 0 then 1 else 0) else (if ¬ x = 0 ∨ ¬ y = 0 then 1 else 0)
def wfC (ac wi : Rw) : Nat → Nat → Nat → Prop
  | 0, _, d => d = 1
  | n + 1, j, d => (ac j = 1 ∧ wfC ac wi n (j + 1) (d + 1)) ∨ ((ac j = 2 ∧ isN (wi j) 2) ∧ wfC ac wi n (j + 1) (d + 1)) ∨ ((ac j = 3 ∧ 1 ≤ d) ∧ wfC ac wi n (j + 1) d) ∨ ((isOp (ac j) ∧ 2 ≤ d) ∧ wfC ac wi n (j + 1) (d - 1))
def dnyS (x : Int32) : Int32 := if x = 0 then 1 else 0
def ev (ac wi : Rw) (fc : Nat → Int32) : Nat → Nat → List Int32 → Int32
  | 0, _, st => st.headD 0
  | n + 1, j, st => if ac j = 1 then ev ac wi fc n (j + 1) (wi j :: st) else if ac j = 2 then ev ac wi fc n (j + 1) (fc (nN (wi j)) :: st) else if ac j = 3 then ev ac wi fc n (j + 1) (dnyS (st.headD 0) :: st.tail) else ev ac wi fc n (j + 1) (twoS (ac j) (st.tail.headD 0) (st.headD 0) :: st.tail.tail)
def pileOf (f : Rw) : List Int32 → Prop
  | [] => True
  | x :: r => f r.length = x ∧ pileOf f r
theorem pileOf_upd {f : Rw} {j : Nat} {x : Int32} : ∀ {r : List Int32}, r.length ≤ j → pileOf f r → pileOf (upd f j x) r
  | [], _, _ => trivial
  | y :: r, hj, h => ⟨by have : r.length ≠ j := by simp only [List.length_cons] at hj; omega
                         simp only [upd, if_neg this]; exact h.1, pileOf_upd (by simp only [List.length_cons] at hj; omega) h.2⟩
theorem pileOf_push {f : Rw} {r : List Int32} {x : Int32} {j : Nat} (hj : j = r.length) (h : pileOf f r) : pileOf (upd f j x) (x :: r) := by subst hj; exact ⟨by simp [upd], pileOf_upd (Nat.le_refl _) h⟩
def fctS (x y z : Int32) (j : Nat) : Int32 := if j = 0 then x else if j = 1 then y else z
def acS (ρ : Rw) (u : Nat) : Rw := fun j => ρ (134 + 121 * u + j)
def wiS (ρ : Rw) (u : Nat) : Rw := fun j => ρ (194 + 121 * u + j)
def rawS (ρ : Rw) (u : Nat) (x y z : Int32) : Int32 := if 0 < ρ (133 + 121 * u) then ev (acS ρ u) (wiS ρ u) (fctS x y z) (nN (ρ (133 + 121 * u))) 0 [] else if u = 0 then x / 3 else 10 * x - y
def givesS (ρ : Rw) (u : Nat) (x y z : Int32) : Int32 := if u = 0 then heldS (rawS ρ u x y z) 0 30 else heldS (rawS ρ u x y z) (-999) 999
/-! hands, houses, people -/
def homesOnS (ρ : Rw) (h : Int32) : Int32 := run (fun i s => s ||| (if ρ (15 + 2 * i) = h then b1 (nI i) else 0)) (nN (ρ 3)) 0 0
def whoInS (ρ : Rw) (h : Int32) : Int32 := run (fun i s => s ||| (if ρ (33 + 3 * i) = h then b1 (nI i) else 0)) (nN (ρ 4)) 0 0
def worthS (ρ : Rw) (h : Nat) (t : Int32) : Int32 := givesS ρ 1 (ρ (16 + 2 * h)) (markS ρ (nN (ρ (15 + 2 * h))) t) (nI h)
def leapV (kd m v t : Int32) : Int32 := if kd = 1 then v + 1 else if kd = 2 then v / 2 else if kd = 3 then (if irm t 2 = 0 then v + 2 else v) else if kd = 4 then v + 1 + m else if kd = 5 then v / 2 + m else if kd = 6 then 30 else v
def leapsS (ρ : Rw) (p : Nat) (t : Int32) : Int32 := leapV (ρ (31 + 3 * p)) (ρ (32 + 3 * p)) (givesS ρ 0 (ρ (32 + 3 * p)) t (ρ 3)) t
def spanV (kd m : Int32) : Int32 := if kd = 1 then 1 + irm m 3 else if kd = 2 then 0 else if kd = 4 then 1 + irm m 3 else if kd = 5 then m else if kd = 6 then 9 else 1
def spansS (ρ : Rw) (p : Nat) : Int32 := spanV (ρ (31 + 3 * p)) (ρ (32 + 3 * p))
/-- from house x to house y at t, leaping so far -/
abbrev reachS (ρ : Rw) (p x y : Nat) (t lp : Int32) : Prop := absS (ρ (16 + 2 * x) - ρ (16 + 2 * y)) ≤ spansS ρ p ∧ apartS ρ (nN (ρ (15 + 2 * x))) (nN (ρ (15 + 2 * y))) t ≤ lp
abbrev getsS (ρ : Rw) (p x y : Nat) (t : Int32) : Prop := reachS ρ p x y t (leapsS ρ p t)
/-! what always holds of the row -/
def Inv (ρ : Rw) : Prop :=
  (isN (ρ 2) 4 ∧ ∀ i, i < nN (ρ 2) → isN (ρ (7 + 2 * i)) 1440 ∧ 1 ≤ nN (ρ (7 + 2 * i)) ∧ isN (ρ (8 + 2 * i)) 1439) ∧
  (isN (ρ 3) 8 ∧ ∀ i, i < nN (ρ 3) → isN (ρ (15 + 2 * i)) 3 ∧ nN (ρ (15 + 2 * i)) < nN (ρ 2) ∧ isN (ρ (16 + 2 * i)) 9) ∧
  (isN (ρ 4) 6 ∧ ∀ i, i < nN (ρ 4) → isN (ρ (31 + 3 * i)) 6 ∧ isN (ρ (32 + 3 * i)) 9 ∧ isN (ρ (33 + 3 * i)) 7 ∧ nN (ρ (33 + 3 * i)) < nN (ρ 3)) ∧
  isN (ρ 0) 9999 ∧ (isN (ρ 5) 60 ∧ ∀ i, i < nN (ρ 5) → isN (ρ (49 + i)) 255) ∧ isN (ρ 6) 24 ∧
  ∀ u, u < 2 → isN (ρ (133 + 121 * u)) 60 ∧ (0 < nN (ρ (133 + 121 * u)) → wfC (acS ρ u) (wiS ρ u) (nN (ρ (133 + 121 * u))) 0 0)
theorem Inv.hn {ρ : Rw} (h : Inv ρ) : ρ 2 = nI (nN (ρ 2)) := h.1.1.1
theorem Inv.hb {ρ : Rw} (h : Inv ρ) : nN (ρ 2) ≤ 4 := h.1.1.2
theorem Inv.tn {ρ : Rw} (h : Inv ρ) {i : Nat} (hi : i < nN (ρ 2)) : ρ (7 + 2 * i) = nI (nN (ρ (7 + 2 * i))) := (h.1.2 i hi).1.1
theorem Inv.tb {ρ : Rw} (h : Inv ρ) {i : Nat} (hi : i < nN (ρ 2)) : 1 ≤ nN (ρ (7 + 2 * i)) ∧ nN (ρ (7 + 2 * i)) ≤ 1440 := ⟨(h.1.2 i hi).2.1, (h.1.2 i hi).1.2⟩
theorem Inv.on {ρ : Rw} (h : Inv ρ) {i : Nat} (hi : i < nN (ρ 2)) : ρ (8 + 2 * i) = nI (nN (ρ (8 + 2 * i))) := (h.1.2 i hi).2.2.1
theorem Inv.ob {ρ : Rw} (h : Inv ρ) {i : Nat} (hi : i < nN (ρ 2)) : nN (ρ (8 + 2 * i)) ≤ 1439 := (h.1.2 i hi).2.2.2
theorem Inv.t0 {ρ : Rw} (h : Inv ρ) {i : Nat} (hi : i < nN (ρ 2)) : ¬ ρ (7 + 2 * i) = 0 := by
  rw [h.tn hi]; have := h.tb hi; exact nI_ne0 (by omega) (by omega)
theorem Inv.mn {ρ : Rw} (h : Inv ρ) : ρ 3 = nI (nN (ρ 3)) := h.2.1.1.1
theorem Inv.mb {ρ : Rw} (h : Inv ρ) : nN (ρ 3) ≤ 8 := h.2.1.1.2
theorem Inv.rn {ρ : Rw} (h : Inv ρ) {i : Nat} (hi : i < nN (ρ 3)) : ρ (15 + 2 * i) = nI (nN (ρ (15 + 2 * i))) := (h.2.1.2 i hi).1.1
theorem Inv.rb {ρ : Rw} (h : Inv ρ) {i : Nat} (hi : i < nN (ρ 3)) : nN (ρ (15 + 2 * i)) < nN (ρ 2) := (h.2.1.2 i hi).2.1
theorem Inv.fn {ρ : Rw} (h : Inv ρ) {i : Nat} (hi : i < nN (ρ 3)) : ρ (16 + 2 * i) = nI (nN (ρ (16 + 2 * i))) := (h.2.1.2 i hi).2.2.1
theorem Inv.fb {ρ : Rw} (h : Inv ρ) {i : Nat} (hi : i < nN (ρ 3)) : nN (ρ (16 + 2 * i)) ≤ 9 := (h.2.1.2 i hi).2.2.2
theorem Inv.pn {ρ : Rw} (h : Inv ρ) : ρ 4 = nI (nN (ρ 4)) := h.2.2.1.1.1
theorem Inv.pb {ρ : Rw} (h : Inv ρ) : nN (ρ 4) ≤ 6 := h.2.2.1.1.2
theorem Inv.kn {ρ : Rw} (h : Inv ρ) {i : Nat} (hi : i < nN (ρ 4)) : ρ (31 + 3 * i) = nI (nN (ρ (31 + 3 * i))) := (h.2.2.1.2 i hi).1.1
theorem Inv.kb {ρ : Rw} (h : Inv ρ) {i : Nat} (hi : i < nN (ρ 4)) : nN (ρ (31 + 3 * i)) ≤ 6 := (h.2.2.1.2 i hi).1.2
theorem Inv.nn {ρ : Rw} (h : Inv ρ) {i : Nat} (hi : i < nN (ρ 4)) : ρ (32 + 3 * i) = nI (nN (ρ (32 + 3 * i))) := (h.2.2.1.2 i hi).2.1.1
theorem Inv.nb {ρ : Rw} (h : Inv ρ) {i : Nat} (hi : i < nN (ρ 4)) : nN (ρ (32 + 3 * i)) ≤ 9 := (h.2.2.1.2 i hi).2.1.2
theorem Inv.an {ρ : Rw} (h : Inv ρ) {i : Nat} (hi : i < nN (ρ 4)) : ρ (33 + 3 * i) = nI (nN (ρ (33 + 3 * i))) := (h.2.2.1.2 i hi).2.2.1.1
theorem Inv.ab {ρ : Rw} (h : Inv ρ) {i : Nat} (hi : i < nN (ρ 4)) : nN (ρ (33 + 3 * i)) < nN (ρ 3) := (h.2.2.1.2 i hi).2.2.2
theorem Inv.on0 {ρ : Rw} (h : Inv ρ) : ρ 0 = nI (nN (ρ 0)) := h.2.2.2.1.1
theorem Inv.ob0 {ρ : Rw} (h : Inv ρ) : nN (ρ 0) ≤ 9999 := h.2.2.2.1.2
theorem Inv.bn {ρ : Rw} (h : Inv ρ) : ρ 5 = nI (nN (ρ 5)) := h.2.2.2.2.1.1.1
theorem Inv.bb {ρ : Rw} (h : Inv ρ) : nN (ρ 5) ≤ 60 := h.2.2.2.2.1.1.2
theorem Inv.by_ {ρ : Rw} (h : Inv ρ) {i : Nat} (hi : i < nN (ρ 5)) : isN (ρ (49 + i)) 255 := h.2.2.2.2.1.2 i hi
theorem Inv.wn {ρ : Rw} (h : Inv ρ) : ρ 6 = nI (nN (ρ 6)) := h.2.2.2.2.2.1.1
theorem Inv.wb {ρ : Rw} (h : Inv ρ) : nN (ρ 6) ≤ 24 := h.2.2.2.2.2.1.2
theorem Inv.ln {ρ : Rw} (h : Inv ρ) {u : Nat} (hu : u < 2) : ρ (133 + 121 * u) = nI (nN (ρ (133 + 121 * u))) := (h.2.2.2.2.2.2 u hu).1.1
theorem Inv.lb {ρ : Rw} (h : Inv ρ) {u : Nat} (hu : u < 2) : nN (ρ (133 + 121 * u)) ≤ 60 := (h.2.2.2.2.2.2 u hu).1.2
theorem Inv.lw {ρ : Rw} (h : Inv ρ) {u : Nat} (hu : u < 2) : 0 < nN (ρ (133 + 121 * u)) → wfC (acS ρ u) (wiS ρ u) (nN (ρ (133 + 121 * u))) 0 0 := (h.2.2.2.2.2.2 u hu).2
/-- a class's word c stands for the reference's words ac, wi -/
def cdR (c ac wi : Int32) : Prop := (ac = 1 ∧ c = wi ∧ isN wi 9999) ∨ ((ac = 2 ∧ isN wi 2) ∧ c = -1 - wi) ∨ (ac = 3 ∧ c = -33) ∨ (isOp ac ∧ c = -ac)
/-- a Town of the class is the row ρ of the reference -/
def Rx (h tu ofs ho hof fa pe ki nu ro mi z bs ta wa wt w0 w1 d0 d1 : Rw) (ρ : Rw) : Prop :=
  (h 0 = ρ 2 ∧ (∀ i, i < 4 → tu i = ρ (7 + 2 * i)) ∧ ∀ i, i < 4 → ofs i = ρ (8 + 2 * i)) ∧
  (ho 0 = ρ 3 ∧ (∀ i, i < 8 → hof i = ρ (15 + 2 * i)) ∧ ∀ i, i < 8 → fa i = ρ (16 + 2 * i)) ∧
  (pe 0 = ρ 4 ∧ (∀ i, i < 6 → ki i = ρ (31 + 3 * i)) ∧ (∀ i, i < 6 → nu i = ρ (32 + 3 * i)) ∧ ∀ i, i < 6 → ro i = ρ (33 + 3 * i)) ∧
  (mi 0 = ρ 0 ∧ z 0 = ρ 1) ∧ (bs 0 = ρ 5 ∧ ∀ i, i < nN (ρ 5) → ta i &&& 255 = ρ (49 + i)) ∧ (wa 0 = ρ 6 ∧ ∀ i, i < 24 → wt i = ρ (109 + i)) ∧
  (w0 0 = ρ 133 ∧ ∀ i, i < nN (ρ 133) → cdR (d0 i) (ρ (134 + i)) (ρ (194 + i))) ∧ (w1 0 = ρ 254 ∧ ∀ i, i < nN (ρ 254) → cdR (d1 i) (ρ (255 + i)) (ρ (315 + i)))
abbrev RT (σ : St) (ρ : Rw) : Prop := Rx (σ 10) (σ 11) (σ 12) (σ 13) (σ 14) (σ 15) (σ 16) (σ 17) (σ 18) (σ 19) (σ 20) (σ 21) (σ 22) (σ 23) (σ 24) (σ 25) (σ 27) (σ 28) (σ 29) (σ 30) ρ
abbrev RK (σ : St) (ρ : Rw) : Prop := Rx (σ 40) (σ 41) (σ 42) (σ 43) (σ 44) (σ 45) (σ 46) (σ 47) (σ 48) (σ 49) (σ 50) (σ 51) (σ 52) (σ 53) (σ 54) (σ 55) (σ 57) (σ 58) (σ 59) (σ 60) ρ
/-- the class's state σ stands for the reference's μ -/
def RR (σ μ : St) : Prop :=
  (∀ e, e < 7 → σ 0 e = μ 3 e) ∧ σ 1 0 = μ 2 0 ∧ (RT σ (μ 0) ∧ Inv (μ 0)) ∧ (¬ μ 2 0 = 0 → RK σ (μ 1) ∧ Inv (μ 1)) ∧
  (∀ s, s < 4 → σ (90 + s) 0 = μ 4 s ∧ σ (94 + s) 0 = μ 5 s ∧ isN (μ 5 s) 24 ∧ ∀ i, i < nN (μ 5 s) → σ (98 + s) i = μ 6 (24 * s + i)) ∧
  (σ 81 0 = μ 18 0 ∧ isN (μ 18 0) 30 ∧ ∀ i, i < nN (μ 18 0) → σ 80 i = μ 17 i)
