/-! texts: what both readers do -/
abbrev Wd := Int32 × Int32
abbrev Res := Bool × Nat × List Wd
def lkS (ρ : Rw) (p : Nat) : Int32 := if p < nN (ρ 5) then ρ (49 + p) else -1
def nbS (T : Nat → Int32) : Nat → Int32 → Nat → Int32 × Nat
  | 0, v, p => (v, p)
  | n + 1, v, p => if inS (T p) 48 57 then nbS T n (10 * v + T p - 48) (p + 1) else (v, p)
def numS (T : Nat → Int32) (p : Nat) : Res := if inS (T p) 48 57 then (true, (nbS T 4 0 p).2, [(1, (nbS T 4 0 p).1)]) else (false, p, [])
def namS (u q : Int32) : Int32 := if q = 109 ∨ q = 116 ∨ q = 104 then (if u = 0 then (if q = 109 then 0 else if q = 116 then 1 else 2) else -1) else if q = 114 ∨ q = 107 ∨ q = 110 then (if u = 1 then (if q = 114 then 0 else if q = 107 then 1 else 2) else -1) else -1
def rkS (q : Int32) : Nat := if q = 124 then 0 else if q = 38 then 1 else if q = 60 ∨ q = 61 ∨ q = 62 then 2 else if q = 43 ∨ q = 45 then 3 else if q = 42 ∨ q = 47 ∨ q = 37 then 4 else 5
def appS (x y : Res) (s : Int32) : Res := (y.1, y.2.1, x.2.2 ++ (y.2.2 ++ [(s, 0)]))
def lpS (T : Nat → Int32) (f : Nat → Res) (r : Nat) : Nat → Res → Res
  | 0, x => x
  | n + 1, x => if x.1 = true ∧ rkS (T x.2.1) = r then lpS T f r n (appS x (f (x.2.1 + 1)) (T x.2.1)) else x
def lvS (T : Nat → Int32) (sg : Nat → Res) : Nat → Nat → Res
  | 0 => sg
  | k + 1 => fun p => lpS T (lvS T sg k) (4 - k) (if k = 2 then 1 else 60) (lvS T sg k p)
def opG (T : Nat → Int32) (dd : Bool) (sN sA : Nat → Res) (p : Nat) : Res := if dd = false then (false, p, []) else if T p = 33 then ((sN (p + 1)).1, (sN (p + 1)).2.1, (sN (p + 1)).2.2 ++ [(3, 0)]) else if (sA (p + 1)).1 = true ∧ T (sA (p + 1)).2.1 = 41 then (true, (sA (p + 1)).2.1 + 1, (sA (p + 1)).2.2) else (false, (sA (p + 1)).2.1, (sA (p + 1)).2.2)
def onG (T : Nat → Int32) (u : Int32) (dd : Bool) (sN sA : Nat → Res) (p : Nat) : Res := if 0 ≤ namS u (T p) then (true, p + 1, [(2, namS u (T p))]) else if T p = 33 ∨ T p = 40 then opG T dd sN sA p else numS T p
def sgS (T : Nat → Int32) (u : Int32) : Nat → Nat → Res
  | 0 => onG T u false (fun p => (false, p, [])) (fun p => (false, p, []))
  | d + 1 => onG T u true (sgS T u d) (lvS T (sgS T u d) 5)
def wfl : List Wd → Nat → Nat → Prop
  | [], d, e => d = e
  | w :: r, d, e => (w.1 = 1 ∧ isN w.2 9999 ∧ wfl r (d + 1) e) ∨ (w.1 = 2 ∧ isN w.2 2 ∧ wfl r (d + 1) e) ∨ (w.1 = 3 ∧ 1 ≤ d ∧ wfl r d e) ∨ (isOp w.1 ∧ 2 ≤ d ∧ wfl r (d - 1) e)
theorem wfl_app {y : List Wd} {e f : Nat} : ∀ {x : List Wd} {d : Nat}, wfl x d e → wfl y e f → wfl (x ++ y) d f := by
  intro x
  induction x with
  | nil => intro d h1 h2; subst h1; exact h2
  | cons w r ih =>
    intro d h1 h2
    rcases h1 with h | h | h | h
    · exact Or.inl ⟨h.1, h.2.1, ih h.2.2 h2⟩
    · exact Or.inr (Or.inl ⟨h.1, h.2.1, ih h.2.2 h2⟩)
    · exact Or.inr (Or.inr (Or.inl ⟨h.1, h.2.1, ih h.2.2 h2⟩))
    · exact Or.inr (Or.inr (Or.inr ⟨h.1, h.2.1, ih h.2.2 h2⟩))
/-- a piece read from place p on: where it ends, and what it gives -/
def GR (N p : Nat) (x : Res) : Prop := p ≤ x.2.1 ∧ x.2.1 ≤ N ∧ (x.1 = true → p < x.2.1 ∧ p + x.2.2.length ≤ x.2.1 ∧ ∀ d, wfl x.2.2 d (d + 1))
def Good (N : Nat) (f : Nat → Res) : Prop := ∀ p, p ≤ N → GR N p (f p)
abbrev Tok (N : Nat) (T : Nat → Int32) : Prop := ∀ p, N ≤ p → T p = -1
theorem tok_lt {N : Nat} {T : Nat → Int32} (hT : Tok N T) {p : Nat} (h : ¬ T p = -1) : p < N := by
  rcases Nat.lt_or_ge p N with q | q
  · exact q
  · exact absurd (hT p q) h
theorem dig_lt {N : Nat} {T : Nat → Int32} (hT : Tok N T) {p : Nat} (h : inS (T p) 48 57) : p < N := tok_lt hT (fun q => by rw [q] at h; exact absurd h.1 (by decide))
theorem nb_p {N : Nat} {T : Nat → Int32} (hT : Tok N T) : ∀ (n : Nat) (v : Int32) (p : Nat), p ≤ N → p ≤ (nbS T n v p).2 ∧ (nbS T n v p).2 ≤ N := by
  intro n
  induction n with
  | zero => intro v p hp; exact ⟨Nat.le_refl p, hp⟩
  | succ n ih =>
    intro v p hp
    rw [nbS]
    split
    · rename_i hc
      have h1 := dig_lt hT hc
      have h2 := ih (10 * v + T p - 48) (p + 1) h1
      omega
    · exact ⟨Nat.le_refl p, hp⟩
theorem nb_v {T : Nat → Int32} : ∀ (n m w : Nat) (v : Int32) (p : Nat), n + m = 4 → v = nI w → w < 10 ^ m → isN (nbS T n v p).1 9999 := by
  intro n
  induction n with
  | zero =>
    intro m w v p hm hv hw
    have e : m = 4 := by omega
    subst e
    exact isN.mk hv (by omega) (by omega)
  | succ n ih =>
    intro m w v p hm hv hw
    have hp1 : 10 ^ (m + 1) = 10 * 10 ^ m := Nat.pow_succ'
    have hp2 : 10 ^ (m + 1) ≤ 10 ^ 4 := Nat.pow_le_pow_right (by omega) (by omega)
    rw [nbS]
    split
    · rename_i hc
      have h1 := inS_1 hc (nl 48) (nl 57) (by omega) (by omega)
      refine ih (m + 1) (10 * w + nN (T p) - 48) _ (p + 1) (by omega) ?_ (by omega)
      exact nsub (nadd (nmul (nl 10) hv) h1.1) (nl 48) (by omega)
    · exact isN.mk hv (by omega) (by omega)
theorem num_g {N : Nat} {T : Nat → Int32} (hT : Tok N T) : Good N (numS T) := by
  intro p hp
  unfold numS
  split
  · rename_i hc
    have h1 := dig_lt hT hc
    have h2 : p + 1 ≤ (nbS T 4 0 p).2 ∧ (nbS T 4 0 p).2 ≤ N := by
      rw [nbS, if_pos hc]
      exact nb_p hT _ _ _ h1
    refine ⟨by show p ≤ (nbS T 4 0 p).2; omega, h2.2, fun _ => ⟨h2.1, by show p + 1 ≤ _; exact h2.1, fun d => Or.inl ⟨rfl, nb_v 4 0 0 0 p (by omega) rfl (by omega), rfl⟩⟩⟩
  · exact ⟨Nat.le_refl p, hp, fun q => absurd (show false = true from q) (by decide)⟩
theorem rk_op {q : Int32} {r : Nat} (h : rkS q = r) (hr : r < 5) : isOp q ∧ ¬ q = -1 := by
  unfold rkS at h
  unfold isOp
  by_cases e0 : q = 124
  · subst e0; decide
  by_cases e1 : q = 38
  · subst e1; decide
  by_cases e2 : q = 60
  · subst e2; decide
  by_cases e3 : q = 61
  · subst e3; decide
  by_cases e4 : q = 62
  · subst e4; decide
  by_cases e5 : q = 43
  · subst e5; decide
  by_cases e6 : q = 45
  · subst e6; decide
  by_cases e7 : q = 42
  · subst e7; decide
  by_cases e8 : q = 47
  · subst e8; decide
  by_cases e9 : q = 37
  · subst e9; decide
  · simp only [e0, e1, e2, e3, e4, e5, e6, e7, e8, e9, if_false, or_false, false_or] at h
    omega
theorem GR.app {N p : Nat} {x y : Res} {s : Int32} (hx : GR N p x) (hok : x.1 = true) (hy : GR N (x.2.1 + 1) y) (hs : isOp s) : GR N p (appS x y s) := by
  obtain ⟨x1, x2, x3⟩ := hx
  obtain ⟨y1, y2, y3⟩ := hy
  have h3 := x3 hok
  refine ⟨by show p ≤ y.2.1; omega, y2, fun q => ?_⟩
  have h4 := y3 q
  refine ⟨by show p < y.2.1; omega, ?_, fun d => wfl_app (h3.2.2 d) (wfl_app (h4.2.2 (d + 1)) (Or.inr (Or.inr (Or.inr ⟨hs, by omega, rfl⟩))))⟩
  show p + (x.2.2 ++ (y.2.2 ++ [(s, 0)])).length ≤ y.2.1
  simp only [List.length_append, List.length_cons, List.length_nil]
  have := h3.2.1
  have := h4.2.1
  omega
theorem lp_g {N : Nat} {T : Nat → Int32} (hT : Tok N T) {f : Nat → Res} (hf : Good N f) {r : Nat} (hr : r < 5) {p : Nat} : ∀ (n : Nat) (x : Res), GR N p x → GR N p (lpS T f r n x) := by
  intro n
  induction n with
  | zero => intro x hx; exact hx
  | succ n ih =>
    intro x hx
    rw [lpS]
    split
    · rename_i hc
      have h1 := rk_op hc.2 hr
      exact ih _ (hx.app hc.1 (hf _ (tok_lt hT h1.2)) h1.1)
    · exact hx
theorem lv_g {N : Nat} {T : Nat → Int32} (hT : Tok N T) {f : Nat → Res} (hf : Good N f) : ∀ k, Good N (lvS T f k) := by
  intro k
  induction k with
  | zero => exact hf
  | succ k ih => intro p hp; exact lp_g hT ih (by omega) _ _ (ih p hp)
theorem op_g {N : Nat} {T : Nat → Int32} (hT : Tok N T) {dd : Bool} {sN sA : Nat → Res} (hN : Good N sN) (hA : Good N sA) {p : Nat} (hp : p ≤ N) (hc : T p = 33 ∨ T p = 40) : GR N p (opG T dd sN sA p) := by
  have hlt : p < N := tok_lt hT (fun q => by rw [q] at hc; exact absurd hc (by decide))
  unfold opG
  split
  · exact ⟨Nat.le_refl p, hp, fun q => absurd (show false = true from q) (by decide)⟩
  · split
    · have h := hN (p + 1) hlt
      refine ⟨by show p ≤ (sN (p + 1)).2.1; have := h.1; omega, h.2.1, fun q => ?_⟩
      have h3 := h.2.2 q
      refine ⟨by show p < (sN (p + 1)).2.1; omega, ?_, fun d => wfl_app (h3.2.2 d) (Or.inr (Or.inr (Or.inl ⟨rfl, by omega, rfl⟩)))⟩
      show p + ((sN (p + 1)).2.2 ++ [(3, 0)]).length ≤ (sN (p + 1)).2.1
      simp only [List.length_append, List.length_cons, List.length_nil]
      have := h3.2.1
      omega
    · have h := hA (p + 1) hlt
      split
      · rename_i hq
        have hlt2 := tok_lt hT (p := (sA (p + 1)).2.1) (fun q => by rw [hq.2] at q; exact absurd q (by decide))
        have h3 := h.2.2 hq.1
        refine ⟨by show p ≤ (sA (p + 1)).2.1 + 1; omega, hlt2, fun _ => ⟨by show p < (sA (p + 1)).2.1 + 1; omega, ?_, h3.2.2⟩⟩
        show p + (sA (p + 1)).2.2.length ≤ (sA (p + 1)).2.1 + 1
        have := h3.2.1
        omega
      · exact ⟨by show p ≤ (sA (p + 1)).2.1; have := h.1; omega, h.2.1, fun q => absurd (show false = true from q) (by decide)⟩
theorem nam_b {u q : Int32} (h : 0 ≤ namS u q) : isN (namS u q) 2 ∧ ¬ q = -1 := by
  unfold namS at h ⊢
  refine ⟨?_, fun e => by subst e; exact absurd (show (0 : Int32) ≤ -1 from h) (by decide)⟩
  split at h
  · rw [if_pos (by assumption)]
    split at h
    · rw [if_pos (by assumption)]
      split
      · exact ⟨by decide, by decide⟩
      · split <;> exact ⟨by decide, by decide⟩
    · exact absurd h (by decide)
  · rw [if_neg (by assumption)]
    split at h
    · rw [if_pos (by assumption)]
      split at h
      · rw [if_pos (by assumption)]
        split
        · exact ⟨by decide, by decide⟩
        · split <;> exact ⟨by decide, by decide⟩
      · exact absurd h (by decide)
    · exact absurd h (by decide)
theorem on_g {N : Nat} {T : Nat → Int32} (hT : Tok N T) {u : Int32} {dd : Bool} {sN sA : Nat → Res} (hN : Good N sN) (hA : Good N sA) : Good N (onG T u dd sN sA) := by
  intro p hp
  unfold onG
  split
  · rename_i hc
    have h := nam_b hc
    have hlt := tok_lt hT h.2
    exact ⟨by show p ≤ p + 1; omega, hlt, fun _ => ⟨by show p < p + 1; omega, by show p + 1 ≤ p + 1; omega, fun d => Or.inr (Or.inl ⟨rfl, h.1, rfl⟩)⟩⟩
  · split
    · rename_i hc; exact op_g hT hN hA hp hc
    · exact num_g hT p hp
theorem no_g {N : Nat} : Good N (fun p => (false, p, [])) := fun p hp => ⟨Nat.le_refl p, hp, fun q => absurd (show false = true from q) (by decide)⟩
theorem sg_g {N : Nat} {T : Nat → Int32} (hT : Tok N T) {u : Int32} : ∀ d, Good N (sgS T u d) := by
  intro d
  induction d with
  | zero => exact on_g hT no_g no_g
  | succ d ih => exact on_g hT ih (lv_g hT ih 5)
theorem lk_tok {ρ : Rw} : Tok (nN (ρ 5)) (lkS ρ) := fun p hp => if_neg (by omega)
theorem lp_no {T : Nat → Int32} {f : Nat → Res} {r n : Nat} {x : Res} (h : ¬ (x.1 = true ∧ rkS (T x.2.1) = r)) : lpS T f r n x = x := by
  cases n with
  | zero => rfl
  | succ n => rw [lpS, if_neg h]
theorem lp_yes {T : Nat → Int32} {f : Nat → Res} {r n : Nat} {x : Res} (h : x.1 = true ∧ rkS (T x.2.1) = r) : lpS T f r (n + 1) x = lpS T f r n (appS x (f (x.2.1 + 1)) (T x.2.1)) := by rw [lpS, if_pos h]
/-! words laid into rows -/
def lay (g : Rw) : Nat → List Int32 → Rw
  | _, [] => g
  | L, w :: r => lay (upd g L w) (L + 1) r
theorem lay_app {x y : List Int32} : ∀ {g : Rw} {L : Nat}, lay g L (x ++ y) = lay (lay g L x) (L + x.length) y := by
  induction x with
  | nil => intro g L; rfl
  | cons w r ih =>
    intro g L
    show lay (upd g L w) (L + 1) (r ++ y) = lay (lay (upd g L w) (L + 1) r) (L + (r.length + 1)) y
    rw [ih, show L + 1 + r.length = L + (r.length + 1) by omega]
theorem lay_lo {x : List Int32} : ∀ {g : Rw} {L j : Nat}, j < L → lay g L x j = g j := by
  induction x with
  | nil => intro g L j _; rfl
  | cons w r ih =>
    intro g L j hj
    show lay (upd g L w) (L + 1) r j = g j
    rw [ih (by omega)]
    exact upd_ne (by omega)
theorem lay_at {x : List Int32} : ∀ {g : Rw} {L i : Nat}, i < x.length → lay g L x (L + i) = x.getD i 0 := by
  induction x with
  | nil => intro g L i h; simp at h
  | cons w r ih =>
    intro g L i h
    show lay (upd g L w) (L + 1) r (L + i) = (w :: r).getD i 0
    cases i with
    | zero => rw [Nat.add_zero, lay_lo (by omega)]; exact upd_eq
    | succ i =>
      rw [show L + (i + 1) = L + 1 + i by omega, ih (by simp only [List.length_cons] at h; omega)]
      rfl
theorem wfl_C {ac wi : Rw} : ∀ {x : List Wd} {j d : Nat}, wfl x d 1 → (∀ i, i < x.length → ac (j + i) = (x.getD i (0, 0)).1 ∧ wi (j + i) = (x.getD i (0, 0)).2) → wfC ac wi x.length j d := by
  intro x
  induction x with
  | nil => intro j d h _; exact h
  | cons w r ih =>
    intro j d h hw
    have h0 := hw 0 (by simp)
    have e0 : ac j = w.1 := h0.1
    have e1 : wi j = w.2 := h0.2
    have hr : ∀ i, i < r.length → ac (j + 1 + i) = (r.getD i (0, 0)).1 ∧ wi (j + 1 + i) = (r.getD i (0, 0)).2 := fun i hi => by
      have := hw (i + 1) (by simp only [List.length_cons]; omega)
      rw [show j + 1 + i = j + (i + 1) by omega]
      exact this
    rcases h with h | h | h | h
    · exact Or.inl ⟨e0.trans h.1, ih h.2.2 hr⟩
    · exact Or.inr (Or.inl ⟨⟨e0.trans h.1, by rw [e1]; exact h.2.1⟩, ih h.2.2 hr⟩)
    · exact Or.inr (Or.inr (Or.inl ⟨⟨e0.trans h.1, h.2.1⟩, ih h.2.2 hr⟩))
    · exact Or.inr (Or.inr (Or.inr ⟨⟨by rw [e0]; exact h.1, h.2.1⟩, ih h.2.2 hr⟩))
/-! the reference's reader: before and behind a piece -/
def PIn (N : Nat) (i12 i13 i14 i15 i16 : Int32) (u : Int32) (o L p : Nat) : Prop := i16 = u ∧ i12 = nI L ∧ i13 = nI p ∧ i14 = nI o ∧ i15 = 0 ∧ L ≤ p ∧ p ≤ N
def bdS (x : Res) : Int32 := if x.1 = true then 0 else 1
def POut (o : Nat) (g8 g9 : Rw) (L : Nat) (x : Res) (f8 f9 : Rw) (i12 i13 i14 i15 : Int32) : Prop := i13 = nI x.2.1 ∧ i14 = nI o ∧ i15 = bdS x ∧ isN i12 60 ∧ (x.1 = true → i12 = nI (L + x.2.2.length) ∧ f8 = lay g8 L (x.2.2.map Prod.fst) ∧ f9 = lay g9 L (x.2.2.map Prod.snd))
def StF (g8 g9 : Rw) (i12 w v : Int32) (f8 f9 : Rw) (j12 : Int32) : Prop := isN j12 60 ∧ (nN i12 < 60 → j12 = i12 + 1 ∧ f8 = upd g8 (nN i12) w ∧ f9 = upd g9 (nN i12) v)
theorem bd_0 {x : Res} (h : bdS x = 0) : x.1 = true := by
  unfold bdS at h
  by_cases q : x.1 = true
  · exact q
  · rw [if_neg q] at h; exact absurd h (by decide)
theorem bd_1 {x : Res} (h : ¬ bdS x = 0) : ¬ x.1 = true := fun q => h (if_pos q)
theorem PO_app {o L : Nat} {g8 g9 f8 f9 e8 e9 k8 k9 : Rw} {i12 i13 i14 i15 j12 j13 j14 j15 k12 s : Int32} {x y : Res} (hx : POut o g8 g9 L x f8 f9 i12 i13 i14 i15) (hok : x.1 = true) (hy : POut o f8 f9 (L + x.2.2.length) y e8 e9 j12 j13 j14 j15) (hs : StF e8 e9 j12 s 0 k8 k9 k12) (hl : y.1 = true → L + x.2.2.length + y.2.2.length < 60) : POut o g8 g9 L (appS x y s) k8 k9 k12 j13 j14 j15 := by
  refine ⟨hy.1, hy.2.1, hy.2.2.1, hs.1, fun q => ?_⟩
  have h1 := hx.2.2.2.2 hok
  have h2 := hy.2.2.2.2 q
  have h3 := hl q
  have e12 : nN j12 = L + x.2.2.length + y.2.2.length := nN_of h2.1 (by omega)
  have h4 := hs.2 (by omega)
  refine ⟨?_, ?_, ?_⟩
  · rw [h4.1]
    refine ncast (nadd h2.1 (nl 1)) ?_
    show _ = L + (x.2.2 ++ (y.2.2 ++ [(s, 0)])).length
    simp only [List.length_append, List.length_cons, List.length_nil]
    omega
  · rw [h4.2.1, h2.2.1, h1.2.1, e12]
    show _ = lay g8 L ((x.2.2 ++ (y.2.2 ++ [(s, 0)])).map Prod.fst)
    rw [List.map_append, List.map_append, lay_app, lay_app, List.length_map, List.length_map]
    rfl
  · rw [h4.2.2, h2.2.2, h1.2.2, e12]
    show _ = lay g9 L ((x.2.2 ++ (y.2.2 ++ [(s, 0)])).map Prod.snd)
    rw [List.map_append, List.map_append, lay_app, lay_app, List.length_map, List.length_map]
    rfl
theorem PO_deny {o L : Nat} {g8 g9 e8 e9 k8 k9 : Rw} {j12 j13 j14 j15 k12 s v : Int32} {y : Res} (hy : POut o g8 g9 L y e8 e9 j12 j13 j14 j15) (hs : StF e8 e9 j12 s v k8 k9 k12) (hl : y.1 = true → L + y.2.2.length < 60) {o' : Nat} {k14 : Int32} (h14 : k14 = nI o') : POut o' g8 g9 L (y.1, y.2.1, y.2.2 ++ [(s, v)]) k8 k9 k12 j13 k14 j15 := by
  refine ⟨hy.1, h14, hy.2.2.1, hs.1, fun q => ?_⟩
  have h2 := hy.2.2.2.2 q
  have h3 := hl q
  have e12 : nN j12 = L + y.2.2.length := nN_of h2.1 (by omega)
  have h4 := hs.2 (by omega)
  refine ⟨?_, ?_, ?_⟩
  · rw [h4.1]
    refine ncast (nadd h2.1 (nl 1)) ?_
    show _ = L + (y.2.2 ++ [(s, v)]).length
    simp only [List.length_append, List.length_cons, List.length_nil]
    omega
  · rw [h4.2.1, h2.2.1, e12]
    show _ = lay g8 L ((y.2.2 ++ [(s, v)]).map Prod.fst)
    rw [List.map_append, lay_app, List.length_map]
    rfl
  · rw [h4.2.2, h2.2.2, e12]
    show _ = lay g9 L ((y.2.2 ++ [(s, v)]).map Prod.snd)
    rw [List.map_append, lay_app, List.length_map]
    rfl
theorem PO_one {o L p : Nat} {g8 g9 f8 f9 : Rw} {i12 j12 j13 j14 j15 s v : Int32} (h12 : i12 = nI L) (hL : L < 60) (hs : StF g8 g9 i12 s v f8 f9 j12) (h13 : j13 = nI p) (h14 : j14 = nI o) (h15 : j15 = 0) : POut o g8 g9 L (true, p, [(s, v)]) f8 f9 j12 j13 j14 j15 := by
  refine ⟨h13, h14, h15, hs.1, fun _ => ?_⟩
  have e12 : nN i12 = L := nN_of h12 (by omega)
  have h4 := hs.2 (by omega)
  exact ⟨by rw [h4.1]; exact nadd h12 (nl 1), by rw [h4.2.1, e12]; rfl, by rw [h4.2.2, e12]; rfl⟩
theorem PO_bad {o L p : Nat} {g8 g9 f8 f9 : Rw} {j12 j13 j14 j15 : Int32} {x : List Wd} (h13 : j13 = nI p) (h14 : j14 = nI o) (h15 : j15 = 1) (h12 : isN j12 60) : POut o g8 g9 L (false, p, x) f8 f9 j12 j13 j14 j15 := ⟨h13, h14, h15, h12, fun q => absurd (show false = true from q) (by decide)⟩

theorem rk_0 {q : Int32} : rkS q = 0 ↔ q = 124 := by
  unfold rkS
  constructor
  · intro h
    (repeat' split at h) <;> first | assumption | omega
  · intro h; subst h; decide
theorem rk_1 {q : Int32} : rkS q = 1 ↔ q = 38 := by
  unfold rkS
  constructor
  · intro h
    (repeat' split at h) <;> first | assumption | omega
  · intro h; subst h; decide
theorem rk_2 {q : Int32} : rkS q = 2 ↔ q = 60 ∨ q = 61 ∨ q = 62 := by
  unfold rkS
  constructor
  · intro h
    (repeat' split at h) <;> first | assumption | omega
  · intro h; rcases h with h | h | h <;> subst h <;> decide
theorem rk_3 {q : Int32} : rkS q = 3 ↔ q = 43 ∨ q = 45 := by
  unfold rkS
  constructor
  · intro h
    (repeat' split at h) <;> first | assumption | omega
  · intro h; rcases h with h | h <;> subst h <;> decide
theorem rk_4 {q : Int32} : rkS q = 4 ↔ q = 42 ∨ q = 47 ∨ q = 37 := by
  unfold rkS
  constructor
  · intro h
    (repeat' split at h) <;> first | assumption | omega
  · intro h; rcases h with h | h | h <;> subst h <;> decide

set_option maxHeartbeats 4000000 in
set_option maxRecDepth 100000 in
theorem c_X7_look {l : Launch} {D : va_G} {k : Nat → ClassId} {g b : Nat → Nat} (μ ν : St) (p : Nat) (hI : Inv (μ 0)) (hq : ν 13 0 = nI p) (hpb : p ≤ 60) : Ct l D k g yX7_look cX7_look 1 (some .int) 0 0 [.ref (b 20)] (S := Unit) (wM k b μ ν) (fun _ => wM k b μ ν) (fun vv _ => vv = some (.int (lkS (μ 0) p))) := by
  refine Ct.ofI RX7 rfl (by decide +kernel) (Nat.le_of_ble_eq_true rfl) (fun X hC hR => ?_)
  have hb60 := hI.bb
  show V X (wM k b μ ν) [(0, .ref (b 20))] [] 0
  refine V.aload_n (pc := 0) 0 hC dX7_look_0 rfl ?_
  refine V.get (pc := 1) (v := .int (ν 13 0)) hC cf_X7 0 13 fl_X7_121 (by decide) gm_0 rfl dX7_look_1 ?_
  refine V.aload_n (pc := 4) 0 hC dX7_look_4 rfl ?_
  refine V.get (pc := 5) (v := .ref (b 0)) hC cf_X7 0 0 fl_X7_9 (by decide) gm_0 rfl dX7_look_5 ?_
  refine V.iconst (pc := 8) 5 hC dX7_look_8 (by decide) ?_
  refine V.iald (pc := 9) (f := μ 0) hC 1 5 gm_1 (nl 5) (by omega) (by decide) dX7_look_9 ?_
  refine V.icmp_ge (pc := 10) 28 hC dX7_look_10 (by decide) (fun c_10 => ?_) (fun c_10 => ?_)
  · have nc_10 : nN (μ 0 5) ≤ p := (nle hI.bn hq (by omega) (by omega)).mp c_10
    refine V.iconst (pc := 28) (-1) hC dX7_look_28 (by decide) ?_
    exact hR (-1) () _ _ dX7_look_29 rfl (ri (by rw [lkS, if_neg (by omega)]))
  · have nc_10 : ¬ (nN (μ 0 5) ≤ p) := fun z => c_10 ((nle hI.bn hq (by omega) (by omega)).mpr z)
    refine V.aload_n (pc := 13) 0 hC dX7_look_13 rfl ?_
    refine V.get (pc := 14) (v := .ref (b 0)) hC cf_X7 0 0 fl_X7_9 (by decide) gm_0 rfl dX7_look_14 ?_
    refine V.bipush (pc := 17) 49 hC dX7_look_17 (by decide) ?_
    refine V.aload_n (pc := 19) 0 hC dX7_look_19 rfl ?_
    refine V.get (pc := 20) (v := .int (ν 13 0)) hC cf_X7 0 13 fl_X7_121 (by decide) gm_0 rfl dX7_look_20 ?_
    refine V.iadd (pc := 23) hC dX7_look_23 ?_
    refine V.iald (pc := 24) (f := μ 0) hC 1 (p + 49) gm_1 (ncast (b := p + 49) (nadd (nl 49) hq) (by omega)) (by omega) (by decide) dX7_look_24 ?_
    refine V.goto (pc := 25) 29 hC dX7_look_25 (by decide) ?_
    exact hR (μ 0 (p + 49)) () _ _ dX7_look_29 rfl (ri (by rw [lkS, if_pos (by omega), Nat.add_comm 49 p]))
set_option maxHeartbeats 4000000 in
set_option maxRecDepth 100000 in
theorem c_X7_step {l : Launch} {D : va_G} {k : Nat → ClassId} {g b : Nat → Nat} (μ ν : St) (w v : Int32) (hL : isN (ν 12 0) 60) : Ct l D k g yX7_step cX7_step 3 none 0 0 [.ref (b 20), .int w, .int v] (S := Rw × Rw × Int32) (wM k b μ ν) (fun uu => wM k b μ (va_up (va_up (va_up ν 8 uu.1) 9 uu.2.1) 12 (fun _ => uu.2.2))) (fun vv uu => vv = none ∧ StF (ν 8) (ν 9) (ν 12 0) w v uu.1 uu.2.1 uu.2.2) := by
  refine Ct.ofV RX7 rfl (by decide +kernel) (Nat.le_of_ble_eq_true rfl) (fun X hC hR => ?_)
  have hL2 := hL.2
  show V X (wM k b μ ν) [(0, .ref (b 20)), (1, .int w), (2, .int v)] [] 0
  refine V.aload_n (pc := 0) 0 hC dX7_step_0 rfl ?_
  refine V.get (pc := 1) (v := .int (ν 12 0)) hC cf_X7 0 12 fl_X7_125 (by decide) gm_0 rfl dX7_step_1 ?_
  refine V.aload_n (pc := 4) 0 hC dX7_step_4 rfl ?_
  refine V.get (pc := 5) (v := .ref (b 8)) hC cf_X7 0 8 fl_X7_31 (by decide) gm_0 rfl dX7_step_5 ?_
  refine V.alen (pc := 8) (v := 60) hC 8 0 (k 0) .int gm_8 rfl rfl dX7_step_8 ?_
  refine V.icmp_ge (pc := 9) 42 hC dX7_step_9 (by decide) (fun c_9 => ?_) (fun c_9 => ?_)
  · have nc_9 : 60 ≤ nN (ν 12 0) := (nle (nl 60) hL.1 (by omega) (by omega)).mp c_9
    exact hR (ν 8, ν 9, ν 12 0) _ _ dX7_step_42 ⟨rfl, hL, fun q => absurd q (by omega)⟩
  · have nc_9 : ¬ (60 ≤ nN (ν 12 0)) := fun z => c_9 ((nle (nl 60) hL.1 (by omega) (by omega)).mpr z)
    refine V.aload_n (pc := 12) 0 hC dX7_step_12 rfl ?_
    refine V.get (pc := 13) (v := .ref (b 8)) hC cf_X7 0 8 fl_X7_31 (by decide) gm_0 rfl dX7_step_13 ?_
    refine V.aload_n (pc := 16) 0 hC dX7_step_16 rfl ?_
    refine V.get (pc := 17) (v := .int (ν 12 0)) hC cf_X7 0 12 fl_X7_125 (by decide) gm_0 rfl dX7_step_17 ?_
    refine V.iload_n (pc := 20) 1 hC dX7_step_20 rfl ?_
    refine V.iast (pc := 21) (f := ν 8) hC 8 (nN (ν 12 0)) (wM k b μ (va_up ν 8 (upd (ν 8) (nN (ν 12 0)) w))) gm_8 hL.1 (by omega) (by decide) rfl dX7_step_21 ?_
    refine V.aload_n (pc := 22) 0 hC dX7_step_22 rfl ?_
    refine V.get (pc := 23) (v := .ref (b 9)) hC cf_X7 0 9 fl_X7_34 (by decide) gm_0 rfl dX7_step_23 ?_
    refine V.aload_n (pc := 26) 0 hC dX7_step_26 rfl ?_
    refine V.get (pc := 27) (v := .int (ν 12 0)) hC cf_X7 0 12 fl_X7_125 (by decide) gm_0 rfl dX7_step_27 ?_
    refine V.iload_n (pc := 30) 2 hC dX7_step_30 rfl ?_
    refine V.iast (pc := 31) (f := ν 9) hC 9 (nN (ν 12 0)) (wM k b μ (va_up (va_up ν 8 (upd (ν 8) (nN (ν 12 0)) w)) 9 (upd (ν 9) (nN (ν 12 0)) v))) gm_9 hL.1 (by omega) (by decide) rfl dX7_step_31 ?_
    refine V.aload_n (pc := 32) 0 hC dX7_step_32 rfl ?_
    refine V.dup (pc := 33) hC dX7_step_33 rfl ?_
    refine V.get (pc := 34) (v := .int (ν 12 0)) hC cf_X7 0 12 fl_X7_125 (by decide) gm_0 rfl dX7_step_34 ?_
    refine V.iconst (pc := 37) 1 hC dX7_step_37 (by decide) ?_
    refine V.iadd (pc := 38) hC dX7_step_38 ?_
    refine V.put (pc := 39) (v := .int ((ν 12 0) + 1)) hC cf_X7 0 12 (wM k b μ (va_up (va_up (va_up ν 8 (upd (ν 8) (nN (ν 12 0)) w)) 9 (upd (ν 9) (nN (ν 12 0)) v)) 12 (fun _ => (ν 12 0) + 1))) fl_X7_125 (by decide) gm_0 rfl rfl rfl (Nat.le_of_ble_eq_true rfl) rfl dX7_step_39 ?_
    exact hR (upd (ν 8) (nN (ν 12 0)) w, upd (ν 9) (nN (ν 12 0)) v, (ν 12 0) + 1) _ _ dX7_step_42 ⟨rfl, isN.mk (nadd hL.1 (nl 1)) (by omega) (by omega), fun _ => ⟨rfl, rfl, rfl⟩⟩
set_option maxHeartbeats 4000000 in
set_option maxRecDepth 100000 in
theorem c_X7_nameOf {l : Launch} {D : va_G} {k : Nat → ClassId} {g b : Nat → Nat} (μ ν : St) (v : Int32)  : Ct l D k g yX7_nameOf cX7_nameOf 2 (some .int) 0 0 [.ref (b 20), .int v] (S := Unit) (wM k b μ ν) (fun _ => wM k b μ ν) (fun vv _ => vv = some (.int (namS (ν 16 0) v))) := by
  refine Ct.ofI RX7 rfl (by decide +kernel) (Nat.le_of_ble_eq_true rfl) (fun X hC hR => ?_)
  show V X (wM k b μ ν) [(0, .ref (b 20)), (1, .int v)] [] 0
  refine V.iload_n (pc := 0) 1 hC dX7_nameOf_0 rfl ?_
  by_cases s_1_104 : v = 104
  · refine V.tableIn (pc := 1) 68 hC dX7_nameOf_1 (by rw [s_1_104]; decide) (by rw [s_1_104]; decide) (by rw [s_1_104]; rfl) (by decide) ?_
    subst s_1_104
    refine V.aload_n (pc := 68) 0 hC dX7_nameOf_68 rfl ?_
    refine V.get (pc := 69) (v := .int (ν 16 0)) hC cf_X7 0 16 fl_X7_128 (by decide) gm_0 rfl dX7_nameOf_69 ?_
    refine V.if_eq (pc := 72) 79 hC dX7_nameOf_72 (by decide) (fun c_72 => ?_) (fun c_72 => ?_)
    · refine V.iload_n (pc := 79) 1 hC dX7_nameOf_79 rfl ?_
      refine V.bipush (pc := 80) 109 hC dX7_nameOf_80 (by decide) ?_
      refine V.icmp_ne (pc := 82) 89 hC dX7_nameOf_82 (by decide) (fun c_82 => ?_) (fun c_82 => ?_)
      · have nc_82 : ¬ (104 = 109) := fun z => c_82 ((neq (nl 104) (nl 109) (by omega) (by omega)).mpr z)
        refine V.iload_n (pc := 89) 1 hC dX7_nameOf_89 rfl ?_
        refine V.bipush (pc := 90) 116 hC dX7_nameOf_90 (by decide) ?_
        refine V.icmp_ne (pc := 92) 99 hC dX7_nameOf_92 (by decide) (fun c_92 => ?_) (fun c_92 => ?_)
        · have nc_92 : ¬ (104 = 116) := fun z => c_92 ((neq (nl 104) (nl 116) (by omega) (by omega)).mpr z)
          refine V.iconst (pc := 99) 2 hC dX7_nameOf_99 (by decide) ?_
          exact hR 2 () _ _ dX7_nameOf_100 rfl (ri (by unfold namS; rw [if_pos (by decide), if_pos c_72]; first | done | rfl))
        · have nc_92 : 104 = 116 := (neq (nl 104) (nl 116) (by omega) (by omega)).mp c_92
          exact absurd c_92 (by decide)
      · have nc_82 : 104 = 109 := (neq (nl 104) (nl 109) (by omega) (by omega)).mp c_82
        exact absurd c_82 (by decide)
    · refine V.iconst (pc := 75) (-1) hC dX7_nameOf_75 (by decide) ?_
      refine V.goto (pc := 76) 100 hC dX7_nameOf_76 (by decide) ?_
      exact hR (-1) () _ _ dX7_nameOf_100 rfl (ri (by unfold namS; rw [if_pos (by decide), if_neg c_72]; first | done | rfl))
  by_cases s_1_105 : v = 105
  · refine V.tableIn (pc := 1) 135 hC dX7_nameOf_1 (by rw [s_1_105]; decide) (by rw [s_1_105]; decide) (by rw [s_1_105]; rfl) (by decide) ?_
    subst s_1_105
    refine V.iconst (pc := 135) (-1) hC dX7_nameOf_135 (by decide) ?_
    exact hR (-1) () _ _ dX7_nameOf_136 rfl (ri (by unfold namS; rw [if_neg (by decide), if_neg (by decide)]))
  by_cases s_1_106 : v = 106
  · refine V.tableIn (pc := 1) 135 hC dX7_nameOf_1 (by rw [s_1_106]; decide) (by rw [s_1_106]; decide) (by rw [s_1_106]; rfl) (by decide) ?_
    subst s_1_106
    refine V.iconst (pc := 135) (-1) hC dX7_nameOf_135 (by decide) ?_
    exact hR (-1) () _ _ dX7_nameOf_136 rfl (ri (by unfold namS; rw [if_neg (by decide), if_neg (by decide)]))
  by_cases s_1_107 : v = 107
  · refine V.tableIn (pc := 1) 101 hC dX7_nameOf_1 (by rw [s_1_107]; decide) (by rw [s_1_107]; decide) (by rw [s_1_107]; rfl) (by decide) ?_
    subst s_1_107
    refine V.aload_n (pc := 101) 0 hC dX7_nameOf_101 rfl ?_
    refine V.get (pc := 102) (v := .int (ν 16 0)) hC cf_X7 0 16 fl_X7_128 (by decide) gm_0 rfl dX7_nameOf_102 ?_
    refine V.iconst (pc := 105) 1 hC dX7_nameOf_105 (by decide) ?_
    refine V.icmp_eq (pc := 106) 113 hC dX7_nameOf_106 (by decide) (fun c_106 => ?_) (fun c_106 => ?_)
    · refine V.iload_n (pc := 113) 1 hC dX7_nameOf_113 rfl ?_
      refine V.bipush (pc := 114) 114 hC dX7_nameOf_114 (by decide) ?_
      refine V.icmp_ne (pc := 116) 123 hC dX7_nameOf_116 (by decide) (fun c_116 => ?_) (fun c_116 => ?_)
      · have nc_116 : ¬ (107 = 114) := fun z => c_116 ((neq (nl 107) (nl 114) (by omega) (by omega)).mpr z)
        refine V.iload_n (pc := 123) 1 hC dX7_nameOf_123 rfl ?_
        refine V.bipush (pc := 124) 107 hC dX7_nameOf_124 (by decide) ?_
        refine V.icmp_ne (pc := 126) 133 hC dX7_nameOf_126 (by decide) (fun c_126 => ?_) (fun c_126 => ?_)
        · have nc_126 : ¬ (107 = 107) := fun z => c_126 ((neq (nl 107) (nl 107) (by omega) (by omega)).mpr z)
          exact absurd c_126 (by decide)
        · have nc_126 : 107 = 107 := (neq (nl 107) (nl 107) (by omega) (by omega)).mp c_126
          refine V.iconst (pc := 129) 1 hC dX7_nameOf_129 (by decide) ?_
          refine V.goto (pc := 130) 134 hC dX7_nameOf_130 (by decide) ?_
          exact hR 1 () _ _ dX7_nameOf_134 rfl (ri (by unfold namS; rw [if_neg (by decide), if_pos (by decide), if_pos c_106]; first | done | rfl))
      · have nc_116 : 107 = 114 := (neq (nl 107) (nl 114) (by omega) (by omega)).mp c_116
        exact absurd c_116 (by decide)
    · refine V.iconst (pc := 109) (-1) hC dX7_nameOf_109 (by decide) ?_
      refine V.goto (pc := 110) 134 hC dX7_nameOf_110 (by decide) ?_
      exact hR (-1) () _ _ dX7_nameOf_134 rfl (ri (by unfold namS; rw [if_neg (by decide), if_pos (by decide), if_neg c_106]; first | done | rfl))
  by_cases s_1_108 : v = 108
  · refine V.tableIn (pc := 1) 135 hC dX7_nameOf_1 (by rw [s_1_108]; decide) (by rw [s_1_108]; decide) (by rw [s_1_108]; rfl) (by decide) ?_
    subst s_1_108
    refine V.iconst (pc := 135) (-1) hC dX7_nameOf_135 (by decide) ?_
    exact hR (-1) () _ _ dX7_nameOf_136 rfl (ri (by unfold namS; rw [if_neg (by decide), if_neg (by decide)]))
  by_cases s_1_109 : v = 109
  · refine V.tableIn (pc := 1) 68 hC dX7_nameOf_1 (by rw [s_1_109]; decide) (by rw [s_1_109]; decide) (by rw [s_1_109]; rfl) (by decide) ?_
    subst s_1_109
    refine V.aload_n (pc := 68) 0 hC dX7_nameOf_68 rfl ?_
    refine V.get (pc := 69) (v := .int (ν 16 0)) hC cf_X7 0 16 fl_X7_128 (by decide) gm_0 rfl dX7_nameOf_69 ?_
    refine V.if_eq (pc := 72) 79 hC dX7_nameOf_72 (by decide) (fun c_72 => ?_) (fun c_72 => ?_)
    · refine V.iload_n (pc := 79) 1 hC dX7_nameOf_79 rfl ?_
      refine V.bipush (pc := 80) 109 hC dX7_nameOf_80 (by decide) ?_
      refine V.icmp_ne (pc := 82) 89 hC dX7_nameOf_82 (by decide) (fun c_82 => ?_) (fun c_82 => ?_)
      · have nc_82 : ¬ (109 = 109) := fun z => c_82 ((neq (nl 109) (nl 109) (by omega) (by omega)).mpr z)
        exact absurd c_82 (by decide)
      · have nc_82 : 109 = 109 := (neq (nl 109) (nl 109) (by omega) (by omega)).mp c_82
        refine V.iconst (pc := 85) 0 hC dX7_nameOf_85 (by decide) ?_
        refine V.goto (pc := 86) 100 hC dX7_nameOf_86 (by decide) ?_
        exact hR 0 () _ _ dX7_nameOf_100 rfl (ri (by unfold namS; rw [if_pos (by decide), if_pos c_72]; first | done | rfl))
    · refine V.iconst (pc := 75) (-1) hC dX7_nameOf_75 (by decide) ?_
      refine V.goto (pc := 76) 100 hC dX7_nameOf_76 (by decide) ?_
      exact hR (-1) () _ _ dX7_nameOf_100 rfl (ri (by unfold namS; rw [if_pos (by decide), if_neg c_72]; first | done | rfl))
  by_cases s_1_110 : v = 110
  · refine V.tableIn (pc := 1) 101 hC dX7_nameOf_1 (by rw [s_1_110]; decide) (by rw [s_1_110]; decide) (by rw [s_1_110]; rfl) (by decide) ?_
    subst s_1_110
    refine V.aload_n (pc := 101) 0 hC dX7_nameOf_101 rfl ?_
    refine V.get (pc := 102) (v := .int (ν 16 0)) hC cf_X7 0 16 fl_X7_128 (by decide) gm_0 rfl dX7_nameOf_102 ?_
    refine V.iconst (pc := 105) 1 hC dX7_nameOf_105 (by decide) ?_
    refine V.icmp_eq (pc := 106) 113 hC dX7_nameOf_106 (by decide) (fun c_106 => ?_) (fun c_106 => ?_)
    · refine V.iload_n (pc := 113) 1 hC dX7_nameOf_113 rfl ?_
      refine V.bipush (pc := 114) 114 hC dX7_nameOf_114 (by decide) ?_
      refine V.icmp_ne (pc := 116) 123 hC dX7_nameOf_116 (by decide) (fun c_116 => ?_) (fun c_116 => ?_)
      · have nc_116 : ¬ (110 = 114) := fun z => c_116 ((neq (nl 110) (nl 114) (by omega) (by omega)).mpr z)
        refine V.iload_n (pc := 123) 1 hC dX7_nameOf_123 rfl ?_
        refine V.bipush (pc := 124) 107 hC dX7_nameOf_124 (by decide) ?_
        refine V.icmp_ne (pc := 126) 133 hC dX7_nameOf_126 (by decide) (fun c_126 => ?_) (fun c_126 => ?_)
        · have nc_126 : ¬ (110 = 107) := fun z => c_126 ((neq (nl 110) (nl 107) (by omega) (by omega)).mpr z)
          refine V.iconst (pc := 133) 2 hC dX7_nameOf_133 (by decide) ?_
          exact hR 2 () _ _ dX7_nameOf_134 rfl (ri (by unfold namS; rw [if_neg (by decide), if_pos (by decide), if_pos c_106]; first | done | rfl))
        · have nc_126 : 110 = 107 := (neq (nl 110) (nl 107) (by omega) (by omega)).mp c_126
          exact absurd c_126 (by decide)
      · have nc_116 : 110 = 114 := (neq (nl 110) (nl 114) (by omega) (by omega)).mp c_116
        exact absurd c_116 (by decide)
    · refine V.iconst (pc := 109) (-1) hC dX7_nameOf_109 (by decide) ?_
      refine V.goto (pc := 110) 134 hC dX7_nameOf_110 (by decide) ?_
      exact hR (-1) () _ _ dX7_nameOf_134 rfl (ri (by unfold namS; rw [if_neg (by decide), if_pos (by decide), if_neg c_106]; first | done | rfl))
  by_cases s_1_111 : v = 111
  · refine V.tableIn (pc := 1) 135 hC dX7_nameOf_1 (by rw [s_1_111]; decide) (by rw [s_1_111]; decide) (by rw [s_1_111]; rfl) (by decide) ?_
    subst s_1_111
    refine V.iconst (pc := 135) (-1) hC dX7_nameOf_135 (by decide) ?_
    exact hR (-1) () _ _ dX7_nameOf_136 rfl (ri (by unfold namS; rw [if_neg (by decide), if_neg (by decide)]))
  by_cases s_1_112 : v = 112
  · refine V.tableIn (pc := 1) 135 hC dX7_nameOf_1 (by rw [s_1_112]; decide) (by rw [s_1_112]; decide) (by rw [s_1_112]; rfl) (by decide) ?_
    subst s_1_112
    refine V.iconst (pc := 135) (-1) hC dX7_nameOf_135 (by decide) ?_
    exact hR (-1) () _ _ dX7_nameOf_136 rfl (ri (by unfold namS; rw [if_neg (by decide), if_neg (by decide)]))
  by_cases s_1_113 : v = 113
  · refine V.tableIn (pc := 1) 135 hC dX7_nameOf_1 (by rw [s_1_113]; decide) (by rw [s_1_113]; decide) (by rw [s_1_113]; rfl) (by decide) ?_
    subst s_1_113
    refine V.iconst (pc := 135) (-1) hC dX7_nameOf_135 (by decide) ?_
    exact hR (-1) () _ _ dX7_nameOf_136 rfl (ri (by unfold namS; rw [if_neg (by decide), if_neg (by decide)]))
  by_cases s_1_114 : v = 114
  · refine V.tableIn (pc := 1) 101 hC dX7_nameOf_1 (by rw [s_1_114]; decide) (by rw [s_1_114]; decide) (by rw [s_1_114]; rfl) (by decide) ?_
    subst s_1_114
    refine V.aload_n (pc := 101) 0 hC dX7_nameOf_101 rfl ?_
    refine V.get (pc := 102) (v := .int (ν 16 0)) hC cf_X7 0 16 fl_X7_128 (by decide) gm_0 rfl dX7_nameOf_102 ?_
    refine V.iconst (pc := 105) 1 hC dX7_nameOf_105 (by decide) ?_
    refine V.icmp_eq (pc := 106) 113 hC dX7_nameOf_106 (by decide) (fun c_106 => ?_) (fun c_106 => ?_)
    · refine V.iload_n (pc := 113) 1 hC dX7_nameOf_113 rfl ?_
      refine V.bipush (pc := 114) 114 hC dX7_nameOf_114 (by decide) ?_
      refine V.icmp_ne (pc := 116) 123 hC dX7_nameOf_116 (by decide) (fun c_116 => ?_) (fun c_116 => ?_)
      · have nc_116 : ¬ (114 = 114) := fun z => c_116 ((neq (nl 114) (nl 114) (by omega) (by omega)).mpr z)
        exact absurd c_116 (by decide)
      · have nc_116 : 114 = 114 := (neq (nl 114) (nl 114) (by omega) (by omega)).mp c_116
        refine V.iconst (pc := 119) 0 hC dX7_nameOf_119 (by decide) ?_
        refine V.goto (pc := 120) 134 hC dX7_nameOf_120 (by decide) ?_
        exact hR 0 () _ _ dX7_nameOf_134 rfl (ri (by unfold namS; rw [if_neg (by decide), if_pos (by decide), if_pos c_106]; first | done | rfl))
    · refine V.iconst (pc := 109) (-1) hC dX7_nameOf_109 (by decide) ?_
      refine V.goto (pc := 110) 134 hC dX7_nameOf_110 (by decide) ?_
      exact hR (-1) () _ _ dX7_nameOf_134 rfl (ri (by unfold namS; rw [if_neg (by decide), if_pos (by decide), if_neg c_106]; first | done | rfl))
  by_cases s_1_115 : v = 115
  · refine V.tableIn (pc := 1) 135 hC dX7_nameOf_1 (by rw [s_1_115]; decide) (by rw [s_1_115]; decide) (by rw [s_1_115]; rfl) (by decide) ?_
    subst s_1_115
    refine V.iconst (pc := 135) (-1) hC dX7_nameOf_135 (by decide) ?_
    exact hR (-1) () _ _ dX7_nameOf_136 rfl (ri (by unfold namS; rw [if_neg (by decide), if_neg (by decide)]))
  by_cases s_1_116 : v = 116
  · refine V.tableIn (pc := 1) 68 hC dX7_nameOf_1 (by rw [s_1_116]; decide) (by rw [s_1_116]; decide) (by rw [s_1_116]; rfl) (by decide) ?_
    subst s_1_116
    refine V.aload_n (pc := 68) 0 hC dX7_nameOf_68 rfl ?_
    refine V.get (pc := 69) (v := .int (ν 16 0)) hC cf_X7 0 16 fl_X7_128 (by decide) gm_0 rfl dX7_nameOf_69 ?_
    refine V.if_eq (pc := 72) 79 hC dX7_nameOf_72 (by decide) (fun c_72 => ?_) (fun c_72 => ?_)
    · refine V.iload_n (pc := 79) 1 hC dX7_nameOf_79 rfl ?_
      refine V.bipush (pc := 80) 109 hC dX7_nameOf_80 (by decide) ?_
      refine V.icmp_ne (pc := 82) 89 hC dX7_nameOf_82 (by decide) (fun c_82 => ?_) (fun c_82 => ?_)
      · have nc_82 : ¬ (116 = 109) := fun z => c_82 ((neq (nl 116) (nl 109) (by omega) (by omega)).mpr z)
        refine V.iload_n (pc := 89) 1 hC dX7_nameOf_89 rfl ?_
        refine V.bipush (pc := 90) 116 hC dX7_nameOf_90 (by decide) ?_
        refine V.icmp_ne (pc := 92) 99 hC dX7_nameOf_92 (by decide) (fun c_92 => ?_) (fun c_92 => ?_)
        · have nc_92 : ¬ (116 = 116) := fun z => c_92 ((neq (nl 116) (nl 116) (by omega) (by omega)).mpr z)
          exact absurd c_92 (by decide)
        · have nc_92 : 116 = 116 := (neq (nl 116) (nl 116) (by omega) (by omega)).mp c_92
          refine V.iconst (pc := 95) 1 hC dX7_nameOf_95 (by decide) ?_
          refine V.goto (pc := 96) 100 hC dX7_nameOf_96 (by decide) ?_
          exact hR 1 () _ _ dX7_nameOf_100 rfl (ri (by unfold namS; rw [if_pos (by decide), if_pos c_72]; first | done | rfl))
      · have nc_82 : 116 = 109 := (neq (nl 116) (nl 109) (by omega) (by omega)).mp c_82
        exact absurd c_82 (by decide)
    · refine V.iconst (pc := 75) (-1) hC dX7_nameOf_75 (by decide) ?_
      refine V.goto (pc := 76) 100 hC dX7_nameOf_76 (by decide) ?_
      exact hR (-1) () _ _ dX7_nameOf_100 rfl (ri (by unfold namS; rw [if_pos (by decide), if_neg c_72]; first | done | rfl))
  refine V.tableOut (pc := 1) 135 hC dX7_nameOf_1 (by have ts_1_104 : ¬ (v).toInt = 104 := fun q => s_1_104 (Int32.toInt_inj.mp q); have ts_1_105 : ¬ (v).toInt = 105 := fun q => s_1_105 (Int32.toInt_inj.mp q); have ts_1_106 : ¬ (v).toInt = 106 := fun q => s_1_106 (Int32.toInt_inj.mp q); have ts_1_107 : ¬ (v).toInt = 107 := fun q => s_1_107 (Int32.toInt_inj.mp q); have ts_1_108 : ¬ (v).toInt = 108 := fun q => s_1_108 (Int32.toInt_inj.mp q); have ts_1_109 : ¬ (v).toInt = 109 := fun q => s_1_109 (Int32.toInt_inj.mp q); have ts_1_110 : ¬ (v).toInt = 110 := fun q => s_1_110 (Int32.toInt_inj.mp q); have ts_1_111 : ¬ (v).toInt = 111 := fun q => s_1_111 (Int32.toInt_inj.mp q); have ts_1_112 : ¬ (v).toInt = 112 := fun q => s_1_112 (Int32.toInt_inj.mp q); have ts_1_113 : ¬ (v).toInt = 113 := fun q => s_1_113 (Int32.toInt_inj.mp q); have ts_1_114 : ¬ (v).toInt = 114 := fun q => s_1_114 (Int32.toInt_inj.mp q); have ts_1_115 : ¬ (v).toInt = 115 := fun q => s_1_115 (Int32.toInt_inj.mp q); have ts_1_116 : ¬ (v).toInt = 116 := fun q => s_1_116 (Int32.toInt_inj.mp q); omega) (by decide) ?_
  refine V.iconst (pc := 135) (-1) hC dX7_nameOf_135 (by decide) ?_
  exact hR (-1) () _ _ dX7_nameOf_136 rfl (ri (by unfold namS; rw [if_neg (fun q => q.elim s_1_109 (fun q => q.elim s_1_116 s_1_104)), if_neg (fun q => q.elim s_1_114 (fun q => q.elim s_1_107 s_1_110))]))
set_option maxHeartbeats 4000000 in
set_option maxRecDepth 100000 in
theorem c_X7_number {l : Launch} {D : va_G} {k : Nat → ClassId} {g b : Nat → Nat} (μ ν : St) (u : Int32) (L p : Nat) (o : Nat) (hI : Inv (μ 0)) (hP : PIn (nN (μ 0 5)) (ν 12 0) (ν 13 0) (ν 14 0) (ν 15 0) (ν 16 0) u o L p) : Ct l D k g yX7_number cX7_number 3 none 1 22 [.ref (b 20)] (S := Rw × Rw × Int32 × Int32 × Int32 × Int32) (wM k b μ ν) (fun uu => wM k b μ (va_up (va_up (va_up (va_up (va_up (va_up ν 8 uu.1) 9 uu.2.1) 12 (fun _ => uu.2.2.1)) 13 (fun _ => uu.2.2.2.1)) 14 (fun _ => uu.2.2.2.2.1)) 15 (fun _ => uu.2.2.2.2.2))) (fun vv uu => vv = none ∧ POut o (ν 8) (ν 9) L (numS (lkS (μ 0)) p) uu.1 uu.2.1 uu.2.2.1 uu.2.2.2.1 uu.2.2.2.2.1 uu.2.2.2.2.2) := by
  refine Ct.ofV RX7 rfl (by decide +kernel) (Nat.le_of_ble_eq_true rfl) (fun X hC hR => ?_)
  have hb60 := hI.bb; have hle := hP.2.2.2.2.2
  show V X (wM k b μ ν) [(0, .ref (b 20))] [] 0
  refine V.iconst (pc := 0) 0 hC dX7_number_0 (by decide) ?_
  refine V.istore_n (pc := 1) [(1, .int 0), (0, .ref (b 20))] hC dX7_number_1 (by decide) rfl ?_
  refine V.iconst (pc := 2) 0 hC dX7_number_2 (by decide) ?_
  refine V.istore_n (pc := 3) [(2, .int 0), (1, .int 0), (0, .ref (b 20))] hC dX7_number_3 (by decide) rfl ?_
  have loop_4 : ∀ (n : Nat) (j q : Nat) (v i13 : Int32), j + n = 4 → i13 = nI q → q = p + j → q ≤ nN (μ 0 5) → (0 < j → inS (lkS (μ 0) p) 48 57) → nbS (lkS (μ 0)) 4 0 p = nbS (lkS (μ 0)) n v q → V X (wM k b μ (va_up ν 13 (fun _ => i13))) [(0, .ref (b 20)), (1, .int v), (2, .int (nI j))] [] 4 := by
    intro n
    induction n with
    | zero =>
      intro j q v i13 hj h13 hqp hqN hd hv
      refine V.iload_n (pc := 4) 2 hC dX7_number_4 rfl ?_
      refine V.iconst (pc := 5) 4 hC dX7_number_5 (by decide) ?_
      refine V.icmp_ge (pc := 6) 52 hC dX7_number_6 (by decide) (fun c_6 => ?_) (fun c_6 => ?_)
      · have nc_6 : 4 ≤ j := (nle (nl 4) rfl (by omega) (by omega)).mp c_6
        refine V.aload_n (pc := 52) 0 hC dX7_number_52 rfl ?_
        refine V.iload_n (pc := 53) 2 hC dX7_number_53 rfl ?_
        refine V.if_ne (pc := 54) 61 hC dX7_number_54 (by decide) (fun c_54 => ?_) (fun c_54 => ?_)
        · have nc_54 : ¬ (j = 0) := fun z => c_54 ((neq rfl (nl 0) (by omega) (by omega)).mpr z)
          refine V.iconst (pc := 61) 0 hC dX7_number_61 (by decide) ?_
          refine V.put (pc := 62) (v := .int 0) hC cf_X7 0 15 (wM k b μ (va_up (va_up ν 13 (fun _ => i13)) 15 (fun _ => 0))) fl_X7_135 (by decide) gm_0 rfl rfl rfl (Nat.le_of_ble_eq_true rfl) rfl dX7_number_62 ?_
          refine V.aload_n (pc := 65) 0 hC dX7_number_65 rfl ?_
          refine V.iconst (pc := 66) 1 hC dX7_number_66 (by decide) ?_
          refine V.iload_n (pc := 67) 1 hC dX7_number_67 rfl ?_
          refine V.callV0 (pc := 68) (as := [.int 1, .int v]) hC (c_X7_step μ (va_up (va_up ν 13 (fun _ => i13)) 15 (fun _ => 0)) 1 v (isN.mk hP.2.1 (by omega) (by omega))) mu_X7_step ml_X7_139 (by decide) ⟨0, 7, TX7, 20, _, rfl, gm_0⟩ rfl (Nat.le_of_ble_eq_true rfl) dX7_number_68 ?_
          rintro _ ⟨f68_0, f68_1, i68_2⟩ ⟨rfl, hu68_0⟩
          have hu68_0 : StF ((ν 8)) ((ν 9)) ((ν 12 0)) 1 v f68_0 f68_1 i68_2 := hu68_0
          show V X (wM k b μ (va_up (va_up (va_up (va_up (va_up ν 13 (fun _ => i13)) 15 (fun _ => 0)) 8 f68_0) 9 f68_1) 12 (fun _ => i68_2))) [(0, .ref (b 20)), (1, .int v), (2, .int (nI j))] [] 71
          exact hR (f68_0, f68_1, i68_2, i13, ν 14 0, 0) _ _ dX7_number_71 ⟨rfl, by rw [numS, if_pos (hd (by omega)), show nbS (lkS (μ 0)) 4 0 p = (v, q) from hv]; exact PO_one hP.2.1 (by omega) hu68_0 h13 hP.2.2.2.1 rfl⟩
        · have nc_54 : j = 0 := (neq rfl (nl 0) (by omega) (by omega)).mp c_54
          exfalso; omega
      · have nc_6 : ¬ (4 ≤ j) := fun z => c_6 ((nle (nl 4) rfl (by omega) (by omega)).mpr z)
        exfalso; omega
    | succ n ih =>
      intro j q v i13 hj h13 hqp hqN hd hv
      refine V.iload_n (pc := 4) 2 hC dX7_number_4 rfl ?_
      refine V.iconst (pc := 5) 4 hC dX7_number_5 (by decide) ?_
      refine V.icmp_ge (pc := 6) 52 hC dX7_number_6 (by decide) (fun c_6 => ?_) (fun c_6 => ?_)
      · have nc_6 : 4 ≤ j := (nle (nl 4) rfl (by omega) (by omega)).mp c_6
        exfalso; omega
      · have nc_6 : ¬ (4 ≤ j) := fun z => c_6 ((nle (nl 4) rfl (by omega) (by omega)).mpr z)
        refine V.aload_n (pc := 9) 0 hC dX7_number_9 rfl ?_
        refine V.callV0 (pc := 10) (as := []) hC (c_X7_look μ (va_up ν 13 (fun _ => i13)) q hI h13 (by omega)) mu_X7_look ml_X7_131 (by decide) ⟨0, 7, TX7, 20, _, rfl, gm_0⟩ rfl (Nat.le_of_ble_eq_true rfl) dX7_number_10 ?_
        rintro _ _ rfl
        show V X (wM k b μ (va_up ν 13 (fun _ => i13))) [(0, .ref (b 20)), (1, .int v), (2, .int (nI j))] [.int (lkS (μ 0) q)] 13
        refine V.bipush (pc := 13) 48 hC dX7_number_13 (by decide) ?_
        refine V.bipush (pc := 15) 57 hC dX7_number_15 (by decide) ?_
        refine V.callS0 (pc := 17) (as := [.int (lkS (μ 0) q), .int 48, .int 57]) hC (c_X7_in (lkS (μ 0) q) 48 57 ) ms_X7_in ml_X7_47 (by decide) rfl (Nat.le_of_ble_eq_true rfl) dX7_number_17 ?_
        rintro _ _ rfl
        show V X (wM k b μ (va_up ν 13 (fun _ => i13))) [(0, .ref (b 20)), (1, .int v), (2, .int (nI j))] [.int (bI (inS (lkS (μ 0) q) 48 57))] 20
        refine V.if_eq_b (P := inS (lkS (μ 0) q) 48 57) (pc := 20) 52 hC dX7_number_20 (by decide) (fun c_20 => ?_) (fun c_20 => ?_)
        · refine V.aload_n (pc := 52) 0 hC dX7_number_52 rfl ?_
          refine V.iload_n (pc := 53) 2 hC dX7_number_53 rfl ?_
          refine V.if_ne (pc := 54) 61 hC dX7_number_54 (by decide) (fun c_54 => ?_) (fun c_54 => ?_)
          · have nc_54 : ¬ (j = 0) := fun z => c_54 ((neq rfl (nl 0) (by omega) (by omega)).mpr z)
            refine V.iconst (pc := 61) 0 hC dX7_number_61 (by decide) ?_
            refine V.put (pc := 62) (v := .int 0) hC cf_X7 0 15 (wM k b μ (va_up (va_up ν 13 (fun _ => i13)) 15 (fun _ => 0))) fl_X7_135 (by decide) gm_0 rfl rfl rfl (Nat.le_of_ble_eq_true rfl) rfl dX7_number_62 ?_
            refine V.aload_n (pc := 65) 0 hC dX7_number_65 rfl ?_
            refine V.iconst (pc := 66) 1 hC dX7_number_66 (by decide) ?_
            refine V.iload_n (pc := 67) 1 hC dX7_number_67 rfl ?_
            refine V.callV0 (pc := 68) (as := [.int 1, .int v]) hC (c_X7_step μ (va_up (va_up ν 13 (fun _ => i13)) 15 (fun _ => 0)) 1 v (isN.mk hP.2.1 (by omega) (by omega))) mu_X7_step ml_X7_139 (by decide) ⟨0, 7, TX7, 20, _, rfl, gm_0⟩ rfl (Nat.le_of_ble_eq_true rfl) dX7_number_68 ?_
            rintro _ ⟨f68_0, f68_1, i68_2⟩ ⟨rfl, hu68_0⟩
            have hu68_0 : StF ((ν 8)) ((ν 9)) ((ν 12 0)) 1 v f68_0 f68_1 i68_2 := hu68_0
            show V X (wM k b μ (va_up (va_up (va_up (va_up (va_up ν 13 (fun _ => i13)) 15 (fun _ => 0)) 8 f68_0) 9 f68_1) 12 (fun _ => i68_2))) [(0, .ref (b 20)), (1, .int v), (2, .int (nI j))] [] 71
            exact hR (f68_0, f68_1, i68_2, i13, ν 14 0, 0) _ _ dX7_number_71 ⟨rfl, by rw [numS, if_pos (hd (by omega)), show nbS (lkS (μ 0)) 4 0 p = (v, q) from hv.trans (if_neg c_20)]; exact PO_one hP.2.1 (by omega) hu68_0 h13 hP.2.2.2.1 rfl⟩
          · have nc_54 : j = 0 := (neq rfl (nl 0) (by omega) (by omega)).mp c_54
            have hpq : q = p := by rw [hqp, nc_54]; rfl
            refine V.iconst (pc := 57) 1 hC dX7_number_57 (by decide) ?_
            refine V.goto (pc := 58) 62 hC dX7_number_58 (by decide) ?_
            refine V.put (pc := 62) (v := .int 1) hC cf_X7 0 15 (wM k b μ (va_up (va_up ν 13 (fun _ => i13)) 15 (fun _ => 1))) fl_X7_135 (by decide) gm_0 rfl rfl rfl (Nat.le_of_ble_eq_true rfl) rfl dX7_number_62 ?_
            refine V.aload_n (pc := 65) 0 hC dX7_number_65 rfl ?_
            refine V.iconst (pc := 66) 1 hC dX7_number_66 (by decide) ?_
            refine V.iload_n (pc := 67) 1 hC dX7_number_67 rfl ?_
            refine V.callV0 (pc := 68) (as := [.int 1, .int v]) hC (c_X7_step μ (va_up (va_up ν 13 (fun _ => i13)) 15 (fun _ => 1)) 1 v (isN.mk hP.2.1 (by omega) (by omega))) mu_X7_step ml_X7_139 (by decide) ⟨0, 7, TX7, 20, _, rfl, gm_0⟩ rfl (Nat.le_of_ble_eq_true rfl) dX7_number_68 ?_
            rintro _ ⟨f68_0, f68_1, i68_2⟩ ⟨rfl, hu68_0⟩
            have hu68_0 : StF ((ν 8)) ((ν 9)) ((ν 12 0)) 1 v f68_0 f68_1 i68_2 := hu68_0
            show V X (wM k b μ (va_up (va_up (va_up (va_up (va_up ν 13 (fun _ => i13)) 15 (fun _ => 1)) 8 f68_0) 9 f68_1) 12 (fun _ => i68_2))) [(0, .ref (b 20)), (1, .int v), (2, .int (nI j))] [] 71
            exact hR (f68_0, f68_1, i68_2, i13, ν 14 0, 1) _ _ dX7_number_71 ⟨rfl, by rw [numS, if_neg (fun z => c_20 (by rw [hpq]; exact z))]; exact PO_bad (by rw [h13, hpq]) hP.2.2.2.1 rfl hu68_0.1⟩
        · refine V.bipush (pc := 23) 10 hC dX7_number_23 (by decide) ?_
          refine V.iload_n (pc := 25) 1 hC dX7_number_25 rfl ?_
          refine V.imul (pc := 26) hC dX7_number_26 ?_
          refine V.aload_n (pc := 27) 0 hC dX7_number_27 rfl ?_
          refine V.callV0 (pc := 28) (as := []) hC (c_X7_look μ (va_up ν 13 (fun _ => i13)) q hI h13 (by omega)) mu_X7_look ml_X7_131 (by decide) ⟨0, 7, TX7, 20, _, rfl, gm_0⟩ rfl (Nat.le_of_ble_eq_true rfl) dX7_number_28 ?_
          rintro _ _ rfl
          show V X (wM k b μ (va_up ν 13 (fun _ => i13))) [(0, .ref (b 20)), (1, .int v), (2, .int (nI j))] [.int (lkS (μ 0) q), .int (10 * v)] 31
          refine V.iadd (pc := 31) hC dX7_number_31 ?_
          refine V.bipush (pc := 32) 48 hC dX7_number_32 (by decide) ?_
          refine V.isub (pc := 34) hC dX7_number_34 ?_
          refine V.istore_n (pc := 35) [(1, .int (((10 * v) + (lkS (μ 0) q)) - 48)), (0, .ref (b 20)), (2, .int (nI j))] hC dX7_number_35 (by decide) rfl ?_
          refine V.aload_n (pc := 36) 1 hC dX7_number_36 rfl ?_
          refine V.dup (pc := 37) hC dX7_number_37 rfl ?_
          refine V.get (pc := 38) (v := .int i13) hC cf_X7 0 13 fl_X7_121 (by decide) gm_0 rfl dX7_number_38 ?_
          refine V.iconst (pc := 41) 1 hC dX7_number_41 (by decide) ?_
          refine V.iadd (pc := 42) hC dX7_number_42 ?_
          refine V.put (pc := 43) (v := .int (i13 + 1)) hC cf_X7 0 13 (wM k b μ (va_up ν 13 (fun _ => i13 + 1))) fl_X7_121 (by decide) gm_0 rfl rfl rfl (Nat.le_of_ble_eq_true rfl) rfl dX7_number_43 ?_
          refine V.iinc (pc := 46) 2 (nI (j + 1)) [(2, .int (nI (j + 1))), (1, .int (((10 * v) + (lkS (μ 0) q)) - 48)), (0, .ref (b 20))] hC dX7_number_46 rfl (ncast (nadd rfl (nl 1)) (by omega)) (by decide) rfl ?_
          refine V.goto (pc := 49) 4 hC dX7_number_49 (by decide) ?_
          exact V.sub [2, 1, 0] rfl (ih (j + 1) (q + 1) (((10 * v) + (lkS (μ 0) q)) - 48) (i13 + 1) (by omega) (nadd h13 (nl 1)) (by omega) (dig_lt lk_tok c_20) (fun _ => (Nat.eq_zero_or_pos j).elim (fun e => by rw [show p = q by omega]; exact c_20) hd) (hv.trans (if_pos c_20)))
  exact V.sub [2, 1, 0] rfl (loop_4 4 0 p 0 (ν 13 0) (by omega) hP.2.2.1 (by omega) (by omega) (fun q => absurd q (by omega)) rfl)
set_option maxHeartbeats 4000000 in
set_option maxRecDepth 100000 in
theorem c_X7_opens_0 {l : Launch} {D : va_G} {k : Nat → ClassId} {g b : Nat → Nat} (μ ν : St) (u : Int32) (L p : Nat) (s : Int32) (hI : Inv (μ 0)) (hP : PIn (nN (μ 0 5)) (ν 12 0) (ν 13 0) (ν 14 0) (ν 15 0) (ν 16 0) u 5 L p) (hs : s = lkS (μ 0) p) (hc : lkS (μ 0) p = 33 ∨ lkS (μ 0) p = 40) : Ct l D k g yX7_opens cX7_opens 2 none 0 0 [.ref (b 20), .int s] (S := Rw × Rw × Int32 × Int32 × Int32 × Int32) (wM k b μ ν) (fun uu => wM k b μ (va_up (va_up (va_up (va_up (va_up (va_up ν 8 uu.1) 9 uu.2.1) 12 (fun _ => uu.2.2.1)) 13 (fun _ => uu.2.2.2.1)) 14 (fun _ => uu.2.2.2.2.1)) 15 (fun _ => uu.2.2.2.2.2))) (fun vv uu => vv = none ∧ POut 5 (ν 8) (ν 9) L (opG (lkS (μ 0)) false (fun p => (false, p, [])) (fun p => (false, p, [])) p) uu.1 uu.2.1 uu.2.2.1 uu.2.2.2.1 uu.2.2.2.2.1 uu.2.2.2.2.2) := by
  refine Ct.ofV RX7 rfl (by decide +kernel) (Nat.le_of_ble_eq_true rfl) (fun X hC hR => ?_)
  have hb60 := hI.bb; have hle := hP.2.2.2.2.2
  have hlt : p < nN (μ 0 5) := tok_lt lk_tok (fun q => by rw [q] at hc; exact absurd hc (by decide))
  show V X (wM k b μ ν) [(0, .ref (b 20)), (1, .int s)] [] 0
  refine V.aload_n (pc := 0) 0 hC dX7_opens_0 rfl ?_
  refine V.get (pc := 1) (v := .int (ν 14 0)) hC cf_X7 0 14 fl_X7_143 (by decide) gm_0 rfl dX7_opens_1 ?_
  refine V.eqi (y := 5) (hP.2.2.2.1) ?_
  refine V.iconst (pc := 4) 5 hC dX7_opens_4 (by decide) ?_
  refine V.icmp_ne (pc := 5) 14 hC dX7_opens_5 (by decide) (fun c_5 => ?_) (fun c_5 => ?_)
  · have nc_5 : ¬ (5 = 5) := fun z => c_5 ((neq (nl 5) (nl 5) (by omega) (by omega)).mpr z)
    exact absurd c_5 (by decide)
  · have nc_5 : 5 = 5 := (neq (nl 5) (nl 5) (by omega) (by omega)).mp c_5
    refine V.aload_n (pc := 8) 0 hC dX7_opens_8 rfl ?_
    refine V.iconst (pc := 9) 1 hC dX7_opens_9 (by decide) ?_
    refine V.put (pc := 10) (v := .int 1) hC cf_X7 0 15 (wM k b μ (va_up ν 15 (fun _ => 1))) fl_X7_135 (by decide) gm_0 rfl rfl rfl (Nat.le_of_ble_eq_true rfl) rfl dX7_opens_10 ?_
    exact hR (ν 8, ν 9, ν 12 0, ν 13 0, ν 14 0, 1) _ _ dX7_opens_13 ⟨rfl, by rw [opG, if_pos rfl]; exact PO_bad hP.2.2.1 hP.2.2.2.1 rfl (isN.mk hP.2.1 (by omega) (by omega))⟩
set_option maxHeartbeats 4000000 in
set_option maxRecDepth 100000 in
theorem c_X7_one_0 {l : Launch} {D : va_G} {k : Nat → ClassId} {g b : Nat → Nat} (μ ν : St) (u : Int32) (L p : Nat) (hI : Inv (μ 0)) (hP : PIn (nN (μ 0 5)) (ν 12 0) (ν 13 0) (ν 14 0) (ν 15 0) (ν 16 0) u 5 L p) : Ct l D k g yX7_one cX7_one 3 none 2 44 [.ref (b 20)] (S := Rw × Rw × Int32 × Int32 × Int32 × Int32) (wM k b μ ν) (fun uu => wM k b μ (va_up (va_up (va_up (va_up (va_up (va_up ν 8 uu.1) 9 uu.2.1) 12 (fun _ => uu.2.2.1)) 13 (fun _ => uu.2.2.2.1)) 14 (fun _ => uu.2.2.2.2.1)) 15 (fun _ => uu.2.2.2.2.2))) (fun vv uu => vv = none ∧ POut 5 (ν 8) (ν 9) L ((sgS (lkS (μ 0)) u 0) p) uu.1 uu.2.1 uu.2.2.1 uu.2.2.2.1 uu.2.2.2.2.1 uu.2.2.2.2.2) := by
  refine Ct.ofV RX7 rfl (by decide +kernel) (Nat.le_of_ble_eq_true rfl) (fun X hC hR => ?_)
  have hb60 := hI.bb; have hle := hP.2.2.2.2.2
  show V X (wM k b μ ν) [(0, .ref (b 20))] [] 0
  refine V.aload_n (pc := 0) 0 hC dX7_one_0 rfl ?_
  refine V.callV0 (pc := 1) (as := []) hC (c_X7_look μ ν p hI hP.2.2.1 (by omega)) mu_X7_look ml_X7_131 (by decide) ⟨0, 7, TX7, 20, _, rfl, gm_0⟩ rfl (Nat.le_of_ble_eq_true rfl) dX7_one_1 ?_
  rintro _ _ rfl
  show V X (wM k b μ ν) [(0, .ref (b 20))] [.int (lkS (μ 0) p)] 4
  refine V.istore_n (pc := 4) [(1, .int (lkS (μ 0) p)), (0, .ref (b 20))] hC dX7_one_4 (by decide) rfl ?_
  refine V.aload_n (pc := 5) 1 hC dX7_one_5 rfl ?_
  refine V.iload_n (pc := 6) 0 hC dX7_one_6 rfl ?_
  refine V.callV0 (pc := 7) (as := [.int (lkS (μ 0) p)]) hC (c_X7_nameOf μ ν (lkS (μ 0) p) ) mu_X7_nameOf ml_X7_152 (by decide) ⟨0, 7, TX7, 20, _, rfl, gm_0⟩ rfl (Nat.le_of_ble_eq_true rfl) dX7_one_7 ?_
  rintro _ _ rfl
  show V X (wM k b μ ν) [(1, .int (lkS (μ 0) p)), (0, .ref (b 20))] [.int (namS (ν 16 0) (lkS (μ 0) p))] 10
  refine V.eqi (y := namS u (lkS (μ 0) p)) (by rw [hP.1]) ?_
  refine V.istore_n (pc := 10) [(2, .int (namS u (lkS (μ 0) p))), (1, .int (lkS (μ 0) p)), (0, .ref (b 20))] hC dX7_one_10 (by decide) rfl ?_
  refine V.iload_n (pc := 11) 0 hC dX7_one_11 rfl ?_
  refine V.if_lt (pc := 12) 34 hC dX7_one_12 (by decide) (fun c_12 => ?_) (fun c_12 => ?_)
  · refine V.iload_n (pc := 34) 1 hC dX7_one_34 rfl ?_
    refine V.bipush (pc := 35) 33 hC dX7_one_35 (by decide) ?_
    refine V.icmp_eq (pc := 37) 46 hC dX7_one_37 (by decide) (fun c_37 => ?_) (fun c_37 => ?_)
    · refine V.aload_n (pc := 46) 2 hC dX7_one_46 rfl ?_
      refine V.iload_n (pc := 47) 1 hC dX7_one_47 rfl ?_
      refine V.callV0 (pc := 48) (as := [.int (lkS (μ 0) p)]) hC (c_X7_opens_0 μ ν u L p (lkS (μ 0) p) hI hP rfl (Or.inl c_37)) mu_X7_opens ml_X7_155 (by decide) ⟨0, 7, TX7, 20, _, rfl, gm_0⟩ rfl (Nat.le_of_ble_eq_true rfl) dX7_one_48 ?_
      rintro _ ⟨f48_0, f48_1, i48_2, i48_3, i48_4, i48_5⟩ ⟨rfl, hu48_0⟩
      have hu48_0 : POut 5 (ν 8) (ν 9) L (opG (lkS (μ 0)) false (fun p => (false, p, [])) (fun p => (false, p, [])) p) f48_0 f48_1 i48_2 i48_3 i48_4 i48_5 := hu48_0
      show V X (wM k b μ (va_up (va_up (va_up (va_up (va_up (va_up ν 8 f48_0) 9 f48_1) 12 (fun _ => i48_2)) 13 (fun _ => i48_3)) 14 (fun _ => i48_4)) 15 (fun _ => i48_5))) [(2, .int (namS u (lkS (μ 0) p))), (1, .int (lkS (μ 0) p)), (0, .ref (b 20))] [] 51
      refine V.goto (pc := 51) 58 hC dX7_one_51 (by decide) ?_
      exact hR (f48_0, f48_1, i48_2, i48_3, i48_4, i48_5) _ _ dX7_one_58 ⟨rfl, by rw [show (sgS (lkS (μ 0)) u 0) p = _ from (if_neg (i_gt c_12)).trans (if_pos (Or.inl c_37))]; exact hu48_0⟩
    · refine V.iload_n (pc := 40) 1 hC dX7_one_40 rfl ?_
      refine V.bipush (pc := 41) 40 hC dX7_one_41 (by decide) ?_
      refine V.icmp_ne (pc := 43) 54 hC dX7_one_43 (by decide) (fun c_43 => ?_) (fun c_43 => ?_)
      · refine V.aload_n (pc := 54) 2 hC dX7_one_54 rfl ?_
        refine V.callV0 (pc := 55) (as := []) hC (c_X7_number μ ν u L p 5 hI hP) mu_X7_number ml_X7_159 (by decide) ⟨0, 7, TX7, 20, _, rfl, gm_0⟩ rfl (Nat.le_of_ble_eq_true rfl) dX7_one_55 ?_
        rintro _ ⟨f55_0, f55_1, i55_2, i55_3, i55_4, i55_5⟩ ⟨rfl, hu55_0⟩
        have hu55_0 : POut 5 (ν 8) (ν 9) L (numS (lkS (μ 0)) p) f55_0 f55_1 i55_2 i55_3 i55_4 i55_5 := hu55_0
        show V X (wM k b μ (va_up (va_up (va_up (va_up (va_up (va_up ν 8 f55_0) 9 f55_1) 12 (fun _ => i55_2)) 13 (fun _ => i55_3)) 14 (fun _ => i55_4)) 15 (fun _ => i55_5))) [(2, .int (namS u (lkS (μ 0) p))), (1, .int (lkS (μ 0) p)), (0, .ref (b 20))] [] 58
        exact hR (f55_0, f55_1, i55_2, i55_3, i55_4, i55_5) _ _ dX7_one_58 ⟨rfl, by rw [show (sgS (lkS (μ 0)) u 0) p = _ from (if_neg (i_gt c_12)).trans (if_neg (fun q => q.elim c_37 c_43))]; exact hu55_0⟩
      · refine V.aload_n (pc := 46) 2 hC dX7_one_46 rfl ?_
        refine V.iload_n (pc := 47) 1 hC dX7_one_47 rfl ?_
        refine V.callV0 (pc := 48) (as := [.int (lkS (μ 0) p)]) hC (c_X7_opens_0 μ ν u L p (lkS (μ 0) p) hI hP rfl (Or.inr c_43)) mu_X7_opens ml_X7_155 (by decide) ⟨0, 7, TX7, 20, _, rfl, gm_0⟩ rfl (Nat.le_of_ble_eq_true rfl) dX7_one_48 ?_
        rintro _ ⟨f48_0, f48_1, i48_2, i48_3, i48_4, i48_5⟩ ⟨rfl, hu48_0⟩
        have hu48_0 : POut 5 (ν 8) (ν 9) L (opG (lkS (μ 0)) false (fun p => (false, p, [])) (fun p => (false, p, [])) p) f48_0 f48_1 i48_2 i48_3 i48_4 i48_5 := hu48_0
        show V X (wM k b μ (va_up (va_up (va_up (va_up (va_up (va_up ν 8 f48_0) 9 f48_1) 12 (fun _ => i48_2)) 13 (fun _ => i48_3)) 14 (fun _ => i48_4)) 15 (fun _ => i48_5))) [(2, .int (namS u (lkS (μ 0) p))), (1, .int (lkS (μ 0) p)), (0, .ref (b 20))] [] 51
        refine V.goto (pc := 51) 58 hC dX7_one_51 (by decide) ?_
        exact hR (f48_0, f48_1, i48_2, i48_3, i48_4, i48_5) _ _ dX7_one_58 ⟨rfl, by rw [show (sgS (lkS (μ 0)) u 0) p = _ from (if_neg (i_gt c_12)).trans (if_pos (Or.inr c_43))]; exact hu48_0⟩
  · refine V.aload_n (pc := 15) 2 hC dX7_one_15 rfl ?_
    refine V.dup (pc := 16) hC dX7_one_16 rfl ?_
    refine V.get (pc := 17) (v := .int (ν 13 0)) hC cf_X7 0 13 fl_X7_121 (by decide) gm_0 rfl dX7_one_17 ?_
    refine V.iconst (pc := 20) 1 hC dX7_one_20 (by decide) ?_
    refine V.iadd (pc := 21) hC dX7_one_21 ?_
    refine V.put (pc := 22) (v := .int ((ν 13 0) + 1)) hC cf_X7 0 13 (wM k b μ (va_up ν 13 (fun _ => (ν 13 0) + 1))) fl_X7_121 (by decide) gm_0 rfl rfl rfl (Nat.le_of_ble_eq_true rfl) rfl dX7_one_22 ?_
    refine V.aload_n (pc := 25) 2 hC dX7_one_25 rfl ?_
    refine V.iconst (pc := 26) 2 hC dX7_one_26 (by decide) ?_
    refine V.iload_n (pc := 27) 0 hC dX7_one_27 rfl ?_
    refine V.callV0 (pc := 28) (as := [.int 2, .int (namS u (lkS (μ 0) p))]) hC (c_X7_step μ (va_up ν 13 (fun _ => (ν 13 0) + 1)) 2 (namS u (lkS (μ 0) p)) (isN.mk hP.2.1 (by omega) (by omega))) mu_X7_step ml_X7_139 (by decide) ⟨0, 7, TX7, 20, _, rfl, gm_0⟩ rfl (Nat.le_of_ble_eq_true rfl) dX7_one_28 ?_
    rintro _ ⟨f28_0, f28_1, i28_2⟩ ⟨rfl, hu28_0⟩
    have hu28_0 : StF ((ν 8)) ((ν 9)) ((ν 12 0)) 2 (namS u (lkS (μ 0) p)) f28_0 f28_1 i28_2 := hu28_0
    show V X (wM k b μ (va_up (va_up (va_up (va_up ν 13 (fun _ => (ν 13 0) + 1)) 8 f28_0) 9 f28_1) 12 (fun _ => i28_2))) [(2, .int (namS u (lkS (μ 0) p))), (1, .int (lkS (μ 0) p)), (0, .ref (b 20))] [] 31
    refine V.goto (pc := 31) 58 hC dX7_one_31 (by decide) ?_
    exact hR (f28_0, f28_1, i28_2, (ν 13 0) + 1, ν 14 0, ν 15 0) _ _ dX7_one_58 ⟨rfl, by rw [show (sgS (lkS (μ 0)) u 0) p = (true, p + 1, [(2, (namS u (lkS (μ 0) p)))]) from if_pos (i_nlt c_12)]; exact PO_one hP.2.1 (by have := tok_lt lk_tok (nam_b (i_nlt c_12)).2; omega) hu28_0 (nadd hP.2.2.1 (nl 1)) hP.2.2.2.1 hP.2.2.2.2.1⟩
set_option maxHeartbeats 4000000 in
set_option maxRecDepth 100000 in
theorem c_X7_times_0 {l : Launch} {D : va_G} {k : Nat → ClassId} {g b : Nat → Nat} (μ ν : St) (u : Int32) (L p : Nat) (hI : Inv (μ 0)) (hP : PIn (nN (μ 0 5)) (ν 12 0) (ν 13 0) (ν 14 0) (ν 15 0) (ν 16 0) u 5 L p) : Ct l D k g yX7_times cX7_times 2 none 3 66 [.ref (b 20)] (S := Rw × Rw × Int32 × Int32 × Int32 × Int32) (wM k b μ ν) (fun uu => wM k b μ (va_up (va_up (va_up (va_up (va_up (va_up ν 8 uu.1) 9 uu.2.1) 12 (fun _ => uu.2.2.1)) 13 (fun _ => uu.2.2.2.1)) 14 (fun _ => uu.2.2.2.2.1)) 15 (fun _ => uu.2.2.2.2.2))) (fun vv uu => vv = none ∧ POut 5 (ν 8) (ν 9) L ((lvS (lkS (μ 0)) (sgS (lkS (μ 0)) u 0) 1) p) uu.1 uu.2.1 uu.2.2.1 uu.2.2.2.1 uu.2.2.2.2.1 uu.2.2.2.2.2) := by
  refine Ct.ofV RX7 rfl (by decide +kernel) (Nat.le_of_ble_eq_true rfl) (fun X hC hR => ?_)
  have hb60 := hI.bb; have hle := hP.2.2.2.2.2
  show V X (wM k b μ ν) [(0, .ref (b 20))] [] 0
  refine V.aload_n (pc := 0) 0 hC dX7_times_0 rfl ?_
  refine V.callV0 (pc := 1) (as := []) hC (c_X7_one_0 μ ν u L p hI hP) mu_X7_one ml_X7_146 (by decide) ⟨0, 7, TX7, 20, _, rfl, gm_0⟩ rfl (Nat.le_of_ble_eq_true rfl) dX7_times_1 ?_
  rintro _ ⟨f1_0, f1_1, i1_2, i1_3, i1_4, i1_5⟩ ⟨rfl, hu1_0⟩
  have hu1_0 : POut 5 (ν 8) (ν 9) L ((sgS (lkS (μ 0)) u 0) p) f1_0 f1_1 i1_2 i1_3 i1_4 i1_5 := hu1_0
  show V X (wM k b μ (va_up (va_up (va_up (va_up (va_up (va_up ν 8 f1_0) 9 f1_1) 12 (fun _ => i1_2)) 13 (fun _ => i1_3)) 14 (fun _ => i1_4)) 15 (fun _ => i1_5))) [(0, .ref (b 20))] [] 4
  have loop_4 : ∀ (n : Nat) (x : Res) (f8 f9 : Rw) (i12 i13 i14 i15 : Int32), GR (nN (μ 0 5)) p x → POut 5 (ν 8) (ν 9) L x f8 f9 i12 i13 i14 i15 → 60 ≤ n + x.2.1 → (lvS (lkS (μ 0)) (sgS (lkS (μ 0)) u 0) 1) p = lpS (lkS (μ 0)) (sgS (lkS (μ 0)) u 0) 4 n x → V X (wM k b μ (va_up (va_up (va_up (va_up (va_up (va_up ν 8 f8) 9 f9) 12 (fun _ => i12)) 13 (fun _ => i13)) 14 (fun _ => i14)) 15 (fun _ => i15))) [(0, .ref (b 20))] [] 4 := by
    intro n
    induction n with
    | zero =>
      intro x f8 f9 i12 i13 i14 i15 hg hx hi hv
      have hxb := hg.2.1
      have hz : lkS (μ 0) x.2.1 = -1 := lk_tok x.2.1 (by omega)
      refine V.aload_n (pc := 4) 0 hC dX7_times_4 rfl ?_
      refine V.get (pc := 5) (v := .int i15) hC cf_X7 0 15 fl_X7_135 (by decide) gm_0 rfl dX7_times_5 ?_
      refine V.eqi (y := bdS x) (hx.2.2.1) ?_
      refine V.if_ne (pc := 8) 66 hC dX7_times_8 (by decide) (fun c_8 => ?_) (fun c_8 => ?_)
      · exact hR (f8, f9, i12, i13, i14, i15) _ _ dX7_times_66 ⟨rfl, by rw [show (lvS (lkS (μ 0)) (sgS (lkS (μ 0)) u 0) 1) p = x from hv.trans (lp_no (fun q => bd_1 c_8 q.1))]; exact hx⟩
      · refine V.aload_n (pc := 11) 0 hC dX7_times_11 rfl ?_
        refine V.callV0 (pc := 12) (as := []) hC (c_X7_look μ (va_up (va_up (va_up (va_up (va_up (va_up ν 8 f8) 9 f9) 12 (fun _ => i12)) 13 (fun _ => i13)) 14 (fun _ => i14)) 15 (fun _ => i15)) x.2.1 hI hx.1 (by omega)) mu_X7_look ml_X7_131 (by decide) ⟨0, 7, TX7, 20, _, rfl, gm_0⟩ rfl (Nat.le_of_ble_eq_true rfl) dX7_times_12 ?_
        rintro _ _ rfl
        show V X (wM k b μ (va_up (va_up (va_up (va_up (va_up (va_up ν 8 f8) 9 f9) 12 (fun _ => i12)) 13 (fun _ => i13)) 14 (fun _ => i14)) 15 (fun _ => i15))) [(0, .ref (b 20))] [.int (lkS (μ 0) x.2.1)] 15
        refine V.bipush (pc := 15) 42 hC dX7_times_15 (by decide) ?_
        refine V.icmp_eq (pc := 17) 38 hC dX7_times_17 (by decide) (fun c_17 => ?_) (fun c_17 => ?_)
        · exact absurd c_17 (by rw [hz]; decide)
        · refine V.aload_n (pc := 20) 0 hC dX7_times_20 rfl ?_
          refine V.callV0 (pc := 21) (as := []) hC (c_X7_look μ (va_up (va_up (va_up (va_up (va_up (va_up ν 8 f8) 9 f9) 12 (fun _ => i12)) 13 (fun _ => i13)) 14 (fun _ => i14)) 15 (fun _ => i15)) x.2.1 hI hx.1 (by omega)) mu_X7_look ml_X7_131 (by decide) ⟨0, 7, TX7, 20, _, rfl, gm_0⟩ rfl (Nat.le_of_ble_eq_true rfl) dX7_times_21 ?_
          rintro _ _ rfl
          show V X (wM k b μ (va_up (va_up (va_up (va_up (va_up (va_up ν 8 f8) 9 f9) 12 (fun _ => i12)) 13 (fun _ => i13)) 14 (fun _ => i14)) 15 (fun _ => i15))) [(0, .ref (b 20))] [.int (lkS (μ 0) x.2.1)] 24
          refine V.bipush (pc := 24) 47 hC dX7_times_24 (by decide) ?_
          refine V.icmp_eq (pc := 26) 38 hC dX7_times_26 (by decide) (fun c_26 => ?_) (fun c_26 => ?_)
          · exact absurd c_26 (by rw [hz]; decide)
          · refine V.aload_n (pc := 29) 0 hC dX7_times_29 rfl ?_
            refine V.callV0 (pc := 30) (as := []) hC (c_X7_look μ (va_up (va_up (va_up (va_up (va_up (va_up ν 8 f8) 9 f9) 12 (fun _ => i12)) 13 (fun _ => i13)) 14 (fun _ => i14)) 15 (fun _ => i15)) x.2.1 hI hx.1 (by omega)) mu_X7_look ml_X7_131 (by decide) ⟨0, 7, TX7, 20, _, rfl, gm_0⟩ rfl (Nat.le_of_ble_eq_true rfl) dX7_times_30 ?_
            rintro _ _ rfl
            show V X (wM k b μ (va_up (va_up (va_up (va_up (va_up (va_up ν 8 f8) 9 f9) 12 (fun _ => i12)) 13 (fun _ => i13)) 14 (fun _ => i14)) 15 (fun _ => i15))) [(0, .ref (b 20))] [.int (lkS (μ 0) x.2.1)] 33
            refine V.bipush (pc := 33) 37 hC dX7_times_33 (by decide) ?_
            refine V.icmp_ne (pc := 35) 66 hC dX7_times_35 (by decide) (fun c_35 => ?_) (fun c_35 => ?_)
            · exact hR (f8, f9, i12, i13, i14, i15) _ _ dX7_times_66 ⟨rfl, by rw [show (lvS (lkS (μ 0)) (sgS (lkS (μ 0)) u 0) 1) p = x from hv.trans (lp_no (fun q => (rk_4.mp q.2).elim c_17 (fun q => q.elim c_26 c_35)))]; exact hx⟩
            · exact absurd c_35 (by rw [hz]; decide)
    | succ n ih =>
      intro x f8 f9 i12 i13 i14 i15 hg hx hi hv
      have hxb := hg.2.1
      refine V.aload_n (pc := 4) 0 hC dX7_times_4 rfl ?_
      refine V.get (pc := 5) (v := .int i15) hC cf_X7 0 15 fl_X7_135 (by decide) gm_0 rfl dX7_times_5 ?_
      refine V.eqi (y := bdS x) (hx.2.2.1) ?_
      refine V.if_ne (pc := 8) 66 hC dX7_times_8 (by decide) (fun c_8 => ?_) (fun c_8 => ?_)
      · exact hR (f8, f9, i12, i13, i14, i15) _ _ dX7_times_66 ⟨rfl, by rw [show (lvS (lkS (μ 0)) (sgS (lkS (μ 0)) u 0) 1) p = x from hv.trans (lp_no (fun q => bd_1 c_8 q.1))]; exact hx⟩
      · refine V.aload_n (pc := 11) 0 hC dX7_times_11 rfl ?_
        refine V.callV0 (pc := 12) (as := []) hC (c_X7_look μ (va_up (va_up (va_up (va_up (va_up (va_up ν 8 f8) 9 f9) 12 (fun _ => i12)) 13 (fun _ => i13)) 14 (fun _ => i14)) 15 (fun _ => i15)) x.2.1 hI hx.1 (by omega)) mu_X7_look ml_X7_131 (by decide) ⟨0, 7, TX7, 20, _, rfl, gm_0⟩ rfl (Nat.le_of_ble_eq_true rfl) dX7_times_12 ?_
        rintro _ _ rfl
        show V X (wM k b μ (va_up (va_up (va_up (va_up (va_up (va_up ν 8 f8) 9 f9) 12 (fun _ => i12)) 13 (fun _ => i13)) 14 (fun _ => i14)) 15 (fun _ => i15))) [(0, .ref (b 20))] [.int (lkS (μ 0) x.2.1)] 15
        refine V.bipush (pc := 15) 42 hC dX7_times_15 (by decide) ?_
        refine V.icmp_eq (pc := 17) 38 hC dX7_times_17 (by decide) (fun c_17 => ?_) (fun c_17 => ?_)
        · have hok := bd_0 c_8
          have hgx := hg.2.2 hok
          have hrk : rkS (lkS (μ 0) x.2.1) = 4 := rk_4.mpr (Or.inl c_17)
          have hlt : x.2.1 < nN (μ 0 5) := tok_lt lk_tok (rk_op hrk (by omega)).2
          have hgy := (sg_g (u := u) (lk_tok (ρ := μ 0)) 0) (x.2.1 + 1) hlt
          have hgb := hg.2.1
          refine V.aload_n (pc := 38) 0 hC dX7_times_38 rfl ?_
          refine V.callV0 (pc := 39) (as := []) hC (c_X7_look μ (va_up (va_up (va_up (va_up (va_up (va_up ν 8 f8) 9 f9) 12 (fun _ => i12)) 13 (fun _ => i13)) 14 (fun _ => i14)) 15 (fun _ => i15)) x.2.1 hI hx.1 (by omega)) mu_X7_look ml_X7_131 (by decide) ⟨0, 7, TX7, 20, _, rfl, gm_0⟩ rfl (Nat.le_of_ble_eq_true rfl) dX7_times_39 ?_
          rintro _ _ rfl
          show V X (wM k b μ (va_up (va_up (va_up (va_up (va_up (va_up ν 8 f8) 9 f9) 12 (fun _ => i12)) 13 (fun _ => i13)) 14 (fun _ => i14)) 15 (fun _ => i15))) [(0, .ref (b 20))] [.int (lkS (μ 0) x.2.1)] 42
          refine V.istore_n (pc := 42) [(1, .int (lkS (μ 0) x.2.1)), (0, .ref (b 20))] hC dX7_times_42 (by decide) rfl ?_
          refine V.aload_n (pc := 43) 1 hC dX7_times_43 rfl ?_
          refine V.dup (pc := 44) hC dX7_times_44 rfl ?_
          refine V.get (pc := 45) (v := .int i13) hC cf_X7 0 13 fl_X7_121 (by decide) gm_0 rfl dX7_times_45 ?_
          refine V.iconst (pc := 48) 1 hC dX7_times_48 (by decide) ?_
          refine V.iadd (pc := 49) hC dX7_times_49 ?_
          refine V.put (pc := 50) (v := .int (i13 + 1)) hC cf_X7 0 13 (wM k b μ (va_up (va_up (va_up (va_up (va_up (va_up ν 8 f8) 9 f9) 12 (fun _ => i12)) 13 (fun _ => i13 + 1)) 14 (fun _ => i14)) 15 (fun _ => i15))) fl_X7_121 (by decide) gm_0 rfl rfl rfl (Nat.le_of_ble_eq_true rfl) rfl dX7_times_50 ?_
          refine V.aload_n (pc := 53) 1 hC dX7_times_53 rfl ?_
          refine V.callV0 (pc := 54) (as := []) hC (c_X7_one_0 μ (va_up (va_up (va_up (va_up (va_up (va_up ν 8 f8) 9 f9) 12 (fun _ => i12)) 13 (fun _ => i13 + 1)) 14 (fun _ => i14)) 15 (fun _ => i15)) u (L + x.2.2.length) (x.2.1 + 1) hI ⟨hP.1, (hx.2.2.2.2 hok).1, nadd hx.1 (nl 1), hx.2.1, hx.2.2.1.trans c_8, by omega, hlt⟩) mu_X7_one ml_X7_146 (by decide) ⟨0, 7, TX7, 20, _, rfl, gm_0⟩ rfl (Nat.le_of_ble_eq_true rfl) dX7_times_54 ?_
          rintro _ ⟨f54_0, f54_1, i54_2, i54_3, i54_4, i54_5⟩ ⟨rfl, hu54_0⟩
          have hu54_0 : POut 5 (f8) (f9) (L + x.2.2.length) ((sgS (lkS (μ 0)) u 0) (x.2.1 + 1)) f54_0 f54_1 i54_2 i54_3 i54_4 i54_5 := hu54_0
          show V X (wM k b μ (va_up (va_up (va_up (va_up (va_up (va_up ν 8 f54_0) 9 f54_1) 12 (fun _ => i54_2)) 13 (fun _ => i54_3)) 14 (fun _ => i54_4)) 15 (fun _ => i54_5))) [(1, .int (lkS (μ 0) x.2.1)), (0, .ref (b 20))] [] 57
          refine V.aload_n (pc := 57) 1 hC dX7_times_57 rfl ?_
          refine V.iload_n (pc := 58) 0 hC dX7_times_58 rfl ?_
          refine V.iconst (pc := 59) 0 hC dX7_times_59 (by decide) ?_
          refine V.callV0 (pc := 60) (as := [.int (lkS (μ 0) x.2.1), .int 0]) hC (c_X7_step μ (va_up (va_up (va_up (va_up (va_up (va_up ν 8 f54_0) 9 f54_1) 12 (fun _ => i54_2)) 13 (fun _ => i54_3)) 14 (fun _ => i54_4)) 15 (fun _ => i54_5)) (lkS (μ 0) x.2.1) 0 hu54_0.2.2.2.1) mu_X7_step ml_X7_139 (by decide) ⟨0, 7, TX7, 20, _, rfl, gm_0⟩ rfl (Nat.le_of_ble_eq_true rfl) dX7_times_60 ?_
          rintro _ ⟨f60_0, f60_1, i60_2⟩ ⟨rfl, hu60_0⟩
          have hu60_0 : StF (f54_0) (f54_1) (i54_2) (lkS (μ 0) x.2.1) 0 f60_0 f60_1 i60_2 := hu60_0
          show V X (wM k b μ (va_up (va_up (va_up (va_up (va_up (va_up ν 8 f60_0) 9 f60_1) 12 (fun _ => i60_2)) 13 (fun _ => i54_3)) 14 (fun _ => i54_4)) 15 (fun _ => i54_5))) [(1, .int (lkS (μ 0) x.2.1)), (0, .ref (b 20))] [] 63
          refine V.goto (pc := 63) 4 hC dX7_times_63 (by decide) ?_
          exact V.sub [1] rfl (ih (appS x ((sgS (lkS (μ 0)) u 0) (x.2.1 + 1)) (lkS (μ 0) x.2.1)) f60_0 f60_1 i60_2 i54_3 i54_4 i54_5 (hg.app hok hgy (rk_op hrk (by omega)).1) (PO_app hx hok hu54_0 hu60_0 (fun q => by have := hgy.2.2 q; have := hgy.2.1; omega)) (by have := hgy.1; show 60 ≤ n + ((sgS (lkS (μ 0)) u 0) (x.2.1 + 1)).2.1; omega) (hv.trans (lp_yes ⟨hok, hrk⟩)))
        · refine V.aload_n (pc := 20) 0 hC dX7_times_20 rfl ?_
          refine V.callV0 (pc := 21) (as := []) hC (c_X7_look μ (va_up (va_up (va_up (va_up (va_up (va_up ν 8 f8) 9 f9) 12 (fun _ => i12)) 13 (fun _ => i13)) 14 (fun _ => i14)) 15 (fun _ => i15)) x.2.1 hI hx.1 (by omega)) mu_X7_look ml_X7_131 (by decide) ⟨0, 7, TX7, 20, _, rfl, gm_0⟩ rfl (Nat.le_of_ble_eq_true rfl) dX7_times_21 ?_
          rintro _ _ rfl
          show V X (wM k b μ (va_up (va_up (va_up (va_up (va_up (va_up ν 8 f8) 9 f9) 12 (fun _ => i12)) 13 (fun _ => i13)) 14 (fun _ => i14)) 15 (fun _ => i15))) [(0, .ref (b 20))] [.int (lkS (μ 0) x.2.1)] 24
          refine V.bipush (pc := 24) 47 hC dX7_times_24 (by decide) ?_
          refine V.icmp_eq (pc := 26) 38 hC dX7_times_26 (by decide) (fun c_26 => ?_) (fun c_26 => ?_)
          · have hok := bd_0 c_8
            have hgx := hg.2.2 hok
            have hrk : rkS (lkS (μ 0) x.2.1) = 4 := rk_4.mpr (Or.inr (Or.inl c_26))
            have hlt : x.2.1 < nN (μ 0 5) := tok_lt lk_tok (rk_op hrk (by omega)).2
            have hgy := (sg_g (u := u) (lk_tok (ρ := μ 0)) 0) (x.2.1 + 1) hlt
            have hgb := hg.2.1
            refine V.aload_n (pc := 38) 0 hC dX7_times_38 rfl ?_
            refine V.callV0 (pc := 39) (as := []) hC (c_X7_look μ (va_up (va_up (va_up (va_up (va_up (va_up ν 8 f8) 9 f9) 12 (fun _ => i12)) 13 (fun _ => i13)) 14 (fun _ => i14)) 15 (fun _ => i15)) x.2.1 hI hx.1 (by omega)) mu_X7_look ml_X7_131 (by decide) ⟨0, 7, TX7, 20, _, rfl, gm_0⟩ rfl (Nat.le_of_ble_eq_true rfl) dX7_times_39 ?_
            rintro _ _ rfl
            show V X (wM k b μ (va_up (va_up (va_up (va_up (va_up (va_up ν 8 f8) 9 f9) 12 (fun _ => i12)) 13 (fun _ => i13)) 14 (fun _ => i14)) 15 (fun _ => i15))) [(0, .ref (b 20))] [.int (lkS (μ 0) x.2.1)] 42
            refine V.istore_n (pc := 42) [(1, .int (lkS (μ 0) x.2.1)), (0, .ref (b 20))] hC dX7_times_42 (by decide) rfl ?_
            refine V.aload_n (pc := 43) 1 hC dX7_times_43 rfl ?_
            refine V.dup (pc := 44) hC dX7_times_44 rfl ?_
            refine V.get (pc := 45) (v := .int i13) hC cf_X7 0 13 fl_X7_121 (by decide) gm_0 rfl dX7_times_45 ?_
            refine V.iconst (pc := 48) 1 hC dX7_times_48 (by decide) ?_
            refine V.iadd (pc := 49) hC dX7_times_49 ?_
            refine V.put (pc := 50) (v := .int (i13 + 1)) hC cf_X7 0 13 (wM k b μ (va_up (va_up (va_up (va_up (va_up (va_up ν 8 f8) 9 f9) 12 (fun _ => i12)) 13 (fun _ => i13 + 1)) 14 (fun _ => i14)) 15 (fun _ => i15))) fl_X7_121 (by decide) gm_0 rfl rfl rfl (Nat.le_of_ble_eq_true rfl) rfl dX7_times_50 ?_
            refine V.aload_n (pc := 53) 1 hC dX7_times_53 rfl ?_
            refine V.callV0 (pc := 54) (as := []) hC (c_X7_one_0 μ (va_up (va_up (va_up (va_up (va_up (va_up ν 8 f8) 9 f9) 12 (fun _ => i12)) 13 (fun _ => i13 + 1)) 14 (fun _ => i14)) 15 (fun _ => i15)) u (L + x.2.2.length) (x.2.1 + 1) hI ⟨hP.1, (hx.2.2.2.2 hok).1, nadd hx.1 (nl 1), hx.2.1, hx.2.2.1.trans c_8, by omega, hlt⟩) mu_X7_one ml_X7_146 (by decide) ⟨0, 7, TX7, 20, _, rfl, gm_0⟩ rfl (Nat.le_of_ble_eq_true rfl) dX7_times_54 ?_
            rintro _ ⟨f54_0, f54_1, i54_2, i54_3, i54_4, i54_5⟩ ⟨rfl, hu54_0⟩
            have hu54_0 : POut 5 (f8) (f9) (L + x.2.2.length) ((sgS (lkS (μ 0)) u 0) (x.2.1 + 1)) f54_0 f54_1 i54_2 i54_3 i54_4 i54_5 := hu54_0
            show V X (wM k b μ (va_up (va_up (va_up (va_up (va_up (va_up ν 8 f54_0) 9 f54_1) 12 (fun _ => i54_2)) 13 (fun _ => i54_3)) 14 (fun _ => i54_4)) 15 (fun _ => i54_5))) [(1, .int (lkS (μ 0) x.2.1)), (0, .ref (b 20))] [] 57
            refine V.aload_n (pc := 57) 1 hC dX7_times_57 rfl ?_
            refine V.iload_n (pc := 58) 0 hC dX7_times_58 rfl ?_
            refine V.iconst (pc := 59) 0 hC dX7_times_59 (by decide) ?_
            refine V.callV0 (pc := 60) (as := [.int (lkS (μ 0) x.2.1), .int 0]) hC (c_X7_step μ (va_up (va_up (va_up (va_up (va_up (va_up ν 8 f54_0) 9 f54_1) 12 (fun _ => i54_2)) 13 (fun _ => i54_3)) 14 (fun _ => i54_4)) 15 (fun _ => i54_5)) (lkS (μ 0) x.2.1) 0 hu54_0.2.2.2.1) mu_X7_step ml_X7_139 (by decide) ⟨0, 7, TX7, 20, _, rfl, gm_0⟩ rfl (Nat.le_of_ble_eq_true rfl) dX7_times_60 ?_
            rintro _ ⟨f60_0, f60_1, i60_2⟩ ⟨rfl, hu60_0⟩
            have hu60_0 : StF (f54_0) (f54_1) (i54_2) (lkS (μ 0) x.2.1) 0 f60_0 f60_1 i60_2 := hu60_0
            show V X (wM k b μ (va_up (va_up (va_up (va_up (va_up (va_up ν 8 f60_0) 9 f60_1) 12 (fun _ => i60_2)) 13 (fun _ => i54_3)) 14 (fun _ => i54_4)) 15 (fun _ => i54_5))) [(1, .int (lkS (μ 0) x.2.1)), (0, .ref (b 20))] [] 63
            refine V.goto (pc := 63) 4 hC dX7_times_63 (by decide) ?_
            exact V.sub [1] rfl (ih (appS x ((sgS (lkS (μ 0)) u 0) (x.2.1 + 1)) (lkS (μ 0) x.2.1)) f60_0 f60_1 i60_2 i54_3 i54_4 i54_5 (hg.app hok hgy (rk_op hrk (by omega)).1) (PO_app hx hok hu54_0 hu60_0 (fun q => by have := hgy.2.2 q; have := hgy.2.1; omega)) (by have := hgy.1; show 60 ≤ n + ((sgS (lkS (μ 0)) u 0) (x.2.1 + 1)).2.1; omega) (hv.trans (lp_yes ⟨hok, hrk⟩)))
          · refine V.aload_n (pc := 29) 0 hC dX7_times_29 rfl ?_
            refine V.callV0 (pc := 30) (as := []) hC (c_X7_look μ (va_up (va_up (va_up (va_up (va_up (va_up ν 8 f8) 9 f9) 12 (fun _ => i12)) 13 (fun _ => i13)) 14 (fun _ => i14)) 15 (fun _ => i15)) x.2.1 hI hx.1 (by omega)) mu_X7_look ml_X7_131 (by decide) ⟨0, 7, TX7, 20, _, rfl, gm_0⟩ rfl (Nat.le_of_ble_eq_true rfl) dX7_times_30 ?_
            rintro _ _ rfl
            show V X (wM k b μ (va_up (va_up (va_up (va_up (va_up (va_up ν 8 f8) 9 f9) 12 (fun _ => i12)) 13 (fun _ => i13)) 14 (fun _ => i14)) 15 (fun _ => i15))) [(0, .ref (b 20))] [.int (lkS (μ 0) x.2.1)] 33
            refine V.bipush (pc := 33) 37 hC dX7_times_33 (by decide) ?_
            refine V.icmp_ne (pc := 35) 66 hC dX7_times_35 (by decide) (fun c_35 => ?_) (fun c_35 => ?_)
            · exact hR (f8, f9, i12, i13, i14, i15) _ _ dX7_times_66 ⟨rfl, by rw [show (lvS (lkS (μ 0)) (sgS (lkS (μ 0)) u 0) 1) p = x from hv.trans (lp_no (fun q => (rk_4.mp q.2).elim c_17 (fun q => q.elim c_26 c_35)))]; exact hx⟩
            · have hok := bd_0 c_8
              have hgx := hg.2.2 hok
              have hrk : rkS (lkS (μ 0) x.2.1) = 4 := rk_4.mpr (Or.inr (Or.inr c_35))
              have hlt : x.2.1 < nN (μ 0 5) := tok_lt lk_tok (rk_op hrk (by omega)).2
              have hgy := (sg_g (u := u) (lk_tok (ρ := μ 0)) 0) (x.2.1 + 1) hlt
              have hgb := hg.2.1
              refine V.aload_n (pc := 38) 0 hC dX7_times_38 rfl ?_
              refine V.callV0 (pc := 39) (as := []) hC (c_X7_look μ (va_up (va_up (va_up (va_up (va_up (va_up ν 8 f8) 9 f9) 12 (fun _ => i12)) 13 (fun _ => i13)) 14 (fun _ => i14)) 15 (fun _ => i15)) x.2.1 hI hx.1 (by omega)) mu_X7_look ml_X7_131 (by decide) ⟨0, 7, TX7, 20, _, rfl, gm_0⟩ rfl (Nat.le_of_ble_eq_true rfl) dX7_times_39 ?_
              rintro _ _ rfl
              show V X (wM k b μ (va_up (va_up (va_up (va_up (va_up (va_up ν 8 f8) 9 f9) 12 (fun _ => i12)) 13 (fun _ => i13)) 14 (fun _ => i14)) 15 (fun _ => i15))) [(0, .ref (b 20))] [.int (lkS (μ 0) x.2.1)] 42
              refine V.istore_n (pc := 42) [(1, .int (lkS (μ 0) x.2.1)), (0, .ref (b 20))] hC dX7_times_42 (by decide) rfl ?_
              refine V.aload_n (pc := 43) 1 hC dX7_times_43 rfl ?_
              refine V.dup (pc := 44) hC dX7_times_44 rfl ?_
              refine V.get (pc := 45) (v := .int i13) hC cf_X7 0 13 fl_X7_121 (by decide) gm_0 rfl dX7_times_45 ?_
              refine V.iconst (pc := 48) 1 hC dX7_times_48 (by decide) ?_
              refine V.iadd (pc := 49) hC dX7_times_49 ?_
              refine V.put (pc := 50) (v := .int (i13 + 1)) hC cf_X7 0 13 (wM k b μ (va_up (va_up (va_up (va_up (va_up (va_up ν 8 f8) 9 f9) 12 (fun _ => i12)) 13 (fun _ => i13 + 1)) 14 (fun _ => i14)) 15 (fun _ => i15))) fl_X7_121 (by decide) gm_0 rfl rfl rfl (Nat.le_of_ble_eq_true rfl) rfl dX7_times_50 ?_
              refine V.aload_n (pc := 53) 1 hC dX7_times_53 rfl ?_
              refine V.callV0 (pc := 54) (as := []) hC (c_X7_one_0 μ (va_up (va_up (va_up (va_up (va_up (va_up ν 8 f8) 9 f9) 12 (fun _ => i12)) 13 (fun _ => i13 + 1)) 14 (fun _ => i14)) 15 (fun _ => i15)) u (L + x.2.2.length) (x.2.1 + 1) hI ⟨hP.1, (hx.2.2.2.2 hok).1, nadd hx.1 (nl 1), hx.2.1, hx.2.2.1.trans c_8, by omega, hlt⟩) mu_X7_one ml_X7_146 (by decide) ⟨0, 7, TX7, 20, _, rfl, gm_0⟩ rfl (Nat.le_of_ble_eq_true rfl) dX7_times_54 ?_
              rintro _ ⟨f54_0, f54_1, i54_2, i54_3, i54_4, i54_5⟩ ⟨rfl, hu54_0⟩
              have hu54_0 : POut 5 (f8) (f9) (L + x.2.2.length) ((sgS (lkS (μ 0)) u 0) (x.2.1 + 1)) f54_0 f54_1 i54_2 i54_3 i54_4 i54_5 := hu54_0
              show V X (wM k b μ (va_up (va_up (va_up (va_up (va_up (va_up ν 8 f54_0) 9 f54_1) 12 (fun _ => i54_2)) 13 (fun _ => i54_3)) 14 (fun _ => i54_4)) 15 (fun _ => i54_5))) [(1, .int (lkS (μ 0) x.2.1)), (0, .ref (b 20))] [] 57
              refine V.aload_n (pc := 57) 1 hC dX7_times_57 rfl ?_
              refine V.iload_n (pc := 58) 0 hC dX7_times_58 rfl ?_
              refine V.iconst (pc := 59) 0 hC dX7_times_59 (by decide) ?_
              refine V.callV0 (pc := 60) (as := [.int (lkS (μ 0) x.2.1), .int 0]) hC (c_X7_step μ (va_up (va_up (va_up (va_up (va_up (va_up ν 8 f54_0) 9 f54_1) 12 (fun _ => i54_2)) 13 (fun _ => i54_3)) 14 (fun _ => i54_4)) 15 (fun _ => i54_5)) (lkS (μ 0) x.2.1) 0 hu54_0.2.2.2.1) mu_X7_step ml_X7_139 (by decide) ⟨0, 7, TX7, 20, _, rfl, gm_0⟩ rfl (Nat.le_of_ble_eq_true rfl) dX7_times_60 ?_
              rintro _ ⟨f60_0, f60_1, i60_2⟩ ⟨rfl, hu60_0⟩
              have hu60_0 : StF (f54_0) (f54_1) (i54_2) (lkS (μ 0) x.2.1) 0 f60_0 f60_1 i60_2 := hu60_0
              show V X (wM k b μ (va_up (va_up (va_up (va_up (va_up (va_up ν 8 f60_0) 9 f60_1) 12 (fun _ => i60_2)) 13 (fun _ => i54_3)) 14 (fun _ => i54_4)) 15 (fun _ => i54_5))) [(1, .int (lkS (μ 0) x.2.1)), (0, .ref (b 20))] [] 63
              refine V.goto (pc := 63) 4 hC dX7_times_63 (by decide) ?_
              exact V.sub [1] rfl (ih (appS x ((sgS (lkS (μ 0)) u 0) (x.2.1 + 1)) (lkS (μ 0) x.2.1)) f60_0 f60_1 i60_2 i54_3 i54_4 i54_5 (hg.app hok hgy (rk_op hrk (by omega)).1) (PO_app hx hok hu54_0 hu60_0 (fun q => by have := hgy.2.2 q; have := hgy.2.1; omega)) (by have := hgy.1; show 60 ≤ n + ((sgS (lkS (μ 0)) u 0) (x.2.1 + 1)).2.1; omega) (hv.trans (lp_yes ⟨hok, hrk⟩)))
  exact V.sub [0] rfl (loop_4 60 ((sgS (lkS (μ 0)) u 0) p) f1_0 f1_1 i1_2 i1_3 i1_4 i1_5 ((sg_g (u := u) (lk_tok (ρ := μ 0)) 0) p (by omega)) hu1_0 (by omega) rfl)
set_option maxHeartbeats 4000000 in
set_option maxRecDepth 100000 in
theorem c_X7_sum_0 {l : Launch} {D : va_G} {k : Nat → ClassId} {g b : Nat → Nat} (μ ν : St) (u : Int32) (L p : Nat) (hI : Inv (μ 0)) (hP : PIn (nN (μ 0 5)) (ν 12 0) (ν 13 0) (ν 14 0) (ν 15 0) (ν 16 0) u 5 L p) : Ct l D k g yX7_sum cX7_sum 2 none 4 87 [.ref (b 20)] (S := Rw × Rw × Int32 × Int32 × Int32 × Int32) (wM k b μ ν) (fun uu => wM k b μ (va_up (va_up (va_up (va_up (va_up (va_up ν 8 uu.1) 9 uu.2.1) 12 (fun _ => uu.2.2.1)) 13 (fun _ => uu.2.2.2.1)) 14 (fun _ => uu.2.2.2.2.1)) 15 (fun _ => uu.2.2.2.2.2))) (fun vv uu => vv = none ∧ POut 5 (ν 8) (ν 9) L ((lvS (lkS (μ 0)) (sgS (lkS (μ 0)) u 0) 2) p) uu.1 uu.2.1 uu.2.2.1 uu.2.2.2.1 uu.2.2.2.2.1 uu.2.2.2.2.2) := by
  refine Ct.ofV RX7 rfl (by decide +kernel) (Nat.le_of_ble_eq_true rfl) (fun X hC hR => ?_)
  have hb60 := hI.bb; have hle := hP.2.2.2.2.2
  show V X (wM k b μ ν) [(0, .ref (b 20))] [] 0
  refine V.aload_n (pc := 0) 0 hC dX7_sum_0 rfl ?_
  refine V.callV0 (pc := 1) (as := []) hC (c_X7_times_0 μ ν u L p hI hP) mu_X7_times ml_X7_162 (by decide) ⟨0, 7, TX7, 20, _, rfl, gm_0⟩ rfl (Nat.le_of_ble_eq_true rfl) dX7_sum_1 ?_
  rintro _ ⟨f1_0, f1_1, i1_2, i1_3, i1_4, i1_5⟩ ⟨rfl, hu1_0⟩
  have hu1_0 : POut 5 (ν 8) (ν 9) L ((lvS (lkS (μ 0)) (sgS (lkS (μ 0)) u 0) 1) p) f1_0 f1_1 i1_2 i1_3 i1_4 i1_5 := hu1_0
  show V X (wM k b μ (va_up (va_up (va_up (va_up (va_up (va_up ν 8 f1_0) 9 f1_1) 12 (fun _ => i1_2)) 13 (fun _ => i1_3)) 14 (fun _ => i1_4)) 15 (fun _ => i1_5))) [(0, .ref (b 20))] [] 4
  have loop_4 : ∀ (n : Nat) (x : Res) (f8 f9 : Rw) (i12 i13 i14 i15 : Int32), GR (nN (μ 0 5)) p x → POut 5 (ν 8) (ν 9) L x f8 f9 i12 i13 i14 i15 → 60 ≤ n + x.2.1 → (lvS (lkS (μ 0)) (sgS (lkS (μ 0)) u 0) 2) p = lpS (lkS (μ 0)) (lvS (lkS (μ 0)) (sgS (lkS (μ 0)) u 0) 1) 3 n x → V X (wM k b μ (va_up (va_up (va_up (va_up (va_up (va_up ν 8 f8) 9 f9) 12 (fun _ => i12)) 13 (fun _ => i13)) 14 (fun _ => i14)) 15 (fun _ => i15))) [(0, .ref (b 20))] [] 4 := by
    intro n
    induction n with
    | zero =>
      intro x f8 f9 i12 i13 i14 i15 hg hx hi hv
      have hxb := hg.2.1
      have hz : lkS (μ 0) x.2.1 = -1 := lk_tok x.2.1 (by omega)
      refine V.aload_n (pc := 4) 0 hC dX7_sum_4 rfl ?_
      refine V.get (pc := 5) (v := .int i15) hC cf_X7 0 15 fl_X7_135 (by decide) gm_0 rfl dX7_sum_5 ?_
      refine V.eqi (y := bdS x) (hx.2.2.1) ?_
      refine V.if_ne (pc := 8) 57 hC dX7_sum_8 (by decide) (fun c_8 => ?_) (fun c_8 => ?_)
      · exact hR (f8, f9, i12, i13, i14, i15) _ _ dX7_sum_57 ⟨rfl, by rw [show (lvS (lkS (μ 0)) (sgS (lkS (μ 0)) u 0) 2) p = x from hv.trans (lp_no (fun q => bd_1 c_8 q.1))]; exact hx⟩
      · refine V.aload_n (pc := 11) 0 hC dX7_sum_11 rfl ?_
        refine V.callV0 (pc := 12) (as := []) hC (c_X7_look μ (va_up (va_up (va_up (va_up (va_up (va_up ν 8 f8) 9 f9) 12 (fun _ => i12)) 13 (fun _ => i13)) 14 (fun _ => i14)) 15 (fun _ => i15)) x.2.1 hI hx.1 (by omega)) mu_X7_look ml_X7_131 (by decide) ⟨0, 7, TX7, 20, _, rfl, gm_0⟩ rfl (Nat.le_of_ble_eq_true rfl) dX7_sum_12 ?_
        rintro _ _ rfl
        show V X (wM k b μ (va_up (va_up (va_up (va_up (va_up (va_up ν 8 f8) 9 f9) 12 (fun _ => i12)) 13 (fun _ => i13)) 14 (fun _ => i14)) 15 (fun _ => i15))) [(0, .ref (b 20))] [.int (lkS (μ 0) x.2.1)] 15
        refine V.bipush (pc := 15) 43 hC dX7_sum_15 (by decide) ?_
        refine V.icmp_eq (pc := 17) 29 hC dX7_sum_17 (by decide) (fun c_17 => ?_) (fun c_17 => ?_)
        · exact absurd c_17 (by rw [hz]; decide)
        · refine V.aload_n (pc := 20) 0 hC dX7_sum_20 rfl ?_
          refine V.callV0 (pc := 21) (as := []) hC (c_X7_look μ (va_up (va_up (va_up (va_up (va_up (va_up ν 8 f8) 9 f9) 12 (fun _ => i12)) 13 (fun _ => i13)) 14 (fun _ => i14)) 15 (fun _ => i15)) x.2.1 hI hx.1 (by omega)) mu_X7_look ml_X7_131 (by decide) ⟨0, 7, TX7, 20, _, rfl, gm_0⟩ rfl (Nat.le_of_ble_eq_true rfl) dX7_sum_21 ?_
          rintro _ _ rfl
          show V X (wM k b μ (va_up (va_up (va_up (va_up (va_up (va_up ν 8 f8) 9 f9) 12 (fun _ => i12)) 13 (fun _ => i13)) 14 (fun _ => i14)) 15 (fun _ => i15))) [(0, .ref (b 20))] [.int (lkS (μ 0) x.2.1)] 24
          refine V.bipush (pc := 24) 45 hC dX7_sum_24 (by decide) ?_
          refine V.icmp_ne (pc := 26) 57 hC dX7_sum_26 (by decide) (fun c_26 => ?_) (fun c_26 => ?_)
          · exact hR (f8, f9, i12, i13, i14, i15) _ _ dX7_sum_57 ⟨rfl, by rw [show (lvS (lkS (μ 0)) (sgS (lkS (μ 0)) u 0) 2) p = x from hv.trans (lp_no (fun q => (rk_3.mp q.2).elim c_17 c_26))]; exact hx⟩
          · exact absurd c_26 (by rw [hz]; decide)
    | succ n ih =>
      intro x f8 f9 i12 i13 i14 i15 hg hx hi hv
      have hxb := hg.2.1
      refine V.aload_n (pc := 4) 0 hC dX7_sum_4 rfl ?_
      refine V.get (pc := 5) (v := .int i15) hC cf_X7 0 15 fl_X7_135 (by decide) gm_0 rfl dX7_sum_5 ?_
      refine V.eqi (y := bdS x) (hx.2.2.1) ?_
      refine V.if_ne (pc := 8) 57 hC dX7_sum_8 (by decide) (fun c_8 => ?_) (fun c_8 => ?_)
      · exact hR (f8, f9, i12, i13, i14, i15) _ _ dX7_sum_57 ⟨rfl, by rw [show (lvS (lkS (μ 0)) (sgS (lkS (μ 0)) u 0) 2) p = x from hv.trans (lp_no (fun q => bd_1 c_8 q.1))]; exact hx⟩
      · refine V.aload_n (pc := 11) 0 hC dX7_sum_11 rfl ?_
        refine V.callV0 (pc := 12) (as := []) hC (c_X7_look μ (va_up (va_up (va_up (va_up (va_up (va_up ν 8 f8) 9 f9) 12 (fun _ => i12)) 13 (fun _ => i13)) 14 (fun _ => i14)) 15 (fun _ => i15)) x.2.1 hI hx.1 (by omega)) mu_X7_look ml_X7_131 (by decide) ⟨0, 7, TX7, 20, _, rfl, gm_0⟩ rfl (Nat.le_of_ble_eq_true rfl) dX7_sum_12 ?_
        rintro _ _ rfl
        show V X (wM k b μ (va_up (va_up (va_up (va_up (va_up (va_up ν 8 f8) 9 f9) 12 (fun _ => i12)) 13 (fun _ => i13)) 14 (fun _ => i14)) 15 (fun _ => i15))) [(0, .ref (b 20))] [.int (lkS (μ 0) x.2.1)] 15
        refine V.bipush (pc := 15) 43 hC dX7_sum_15 (by decide) ?_
        refine V.icmp_eq (pc := 17) 29 hC dX7_sum_17 (by decide) (fun c_17 => ?_) (fun c_17 => ?_)
        · have hok := bd_0 c_8
          have hgx := hg.2.2 hok
          have hrk : rkS (lkS (μ 0) x.2.1) = 3 := rk_3.mpr (Or.inl c_17)
          have hlt : x.2.1 < nN (μ 0 5) := tok_lt lk_tok (rk_op hrk (by omega)).2
          have hgy := (lv_g (lk_tok (ρ := μ 0)) (sg_g (u := u) (lk_tok (ρ := μ 0)) 0) 1) (x.2.1 + 1) hlt
          have hgb := hg.2.1
          refine V.aload_n (pc := 29) 0 hC dX7_sum_29 rfl ?_
          refine V.callV0 (pc := 30) (as := []) hC (c_X7_look μ (va_up (va_up (va_up (va_up (va_up (va_up ν 8 f8) 9 f9) 12 (fun _ => i12)) 13 (fun _ => i13)) 14 (fun _ => i14)) 15 (fun _ => i15)) x.2.1 hI hx.1 (by omega)) mu_X7_look ml_X7_131 (by decide) ⟨0, 7, TX7, 20, _, rfl, gm_0⟩ rfl (Nat.le_of_ble_eq_true rfl) dX7_sum_30 ?_
          rintro _ _ rfl
          show V X (wM k b μ (va_up (va_up (va_up (va_up (va_up (va_up ν 8 f8) 9 f9) 12 (fun _ => i12)) 13 (fun _ => i13)) 14 (fun _ => i14)) 15 (fun _ => i15))) [(0, .ref (b 20))] [.int (lkS (μ 0) x.2.1)] 33
          refine V.istore_n (pc := 33) [(1, .int (lkS (μ 0) x.2.1)), (0, .ref (b 20))] hC dX7_sum_33 (by decide) rfl ?_
          refine V.aload_n (pc := 34) 1 hC dX7_sum_34 rfl ?_
          refine V.dup (pc := 35) hC dX7_sum_35 rfl ?_
          refine V.get (pc := 36) (v := .int i13) hC cf_X7 0 13 fl_X7_121 (by decide) gm_0 rfl dX7_sum_36 ?_
          refine V.iconst (pc := 39) 1 hC dX7_sum_39 (by decide) ?_
          refine V.iadd (pc := 40) hC dX7_sum_40 ?_
          refine V.put (pc := 41) (v := .int (i13 + 1)) hC cf_X7 0 13 (wM k b μ (va_up (va_up (va_up (va_up (va_up (va_up ν 8 f8) 9 f9) 12 (fun _ => i12)) 13 (fun _ => i13 + 1)) 14 (fun _ => i14)) 15 (fun _ => i15))) fl_X7_121 (by decide) gm_0 rfl rfl rfl (Nat.le_of_ble_eq_true rfl) rfl dX7_sum_41 ?_
          refine V.aload_n (pc := 44) 1 hC dX7_sum_44 rfl ?_
          refine V.callV0 (pc := 45) (as := []) hC (c_X7_times_0 μ (va_up (va_up (va_up (va_up (va_up (va_up ν 8 f8) 9 f9) 12 (fun _ => i12)) 13 (fun _ => i13 + 1)) 14 (fun _ => i14)) 15 (fun _ => i15)) u (L + x.2.2.length) (x.2.1 + 1) hI ⟨hP.1, (hx.2.2.2.2 hok).1, nadd hx.1 (nl 1), hx.2.1, hx.2.2.1.trans c_8, by omega, hlt⟩) mu_X7_times ml_X7_162 (by decide) ⟨0, 7, TX7, 20, _, rfl, gm_0⟩ rfl (Nat.le_of_ble_eq_true rfl) dX7_sum_45 ?_
          rintro _ ⟨f45_0, f45_1, i45_2, i45_3, i45_4, i45_5⟩ ⟨rfl, hu45_0⟩
          have hu45_0 : POut 5 (f8) (f9) (L + x.2.2.length) ((lvS (lkS (μ 0)) (sgS (lkS (μ 0)) u 0) 1) (x.2.1 + 1)) f45_0 f45_1 i45_2 i45_3 i45_4 i45_5 := hu45_0
          show V X (wM k b μ (va_up (va_up (va_up (va_up (va_up (va_up ν 8 f45_0) 9 f45_1) 12 (fun _ => i45_2)) 13 (fun _ => i45_3)) 14 (fun _ => i45_4)) 15 (fun _ => i45_5))) [(1, .int (lkS (μ 0) x.2.1)), (0, .ref (b 20))] [] 48
          refine V.aload_n (pc := 48) 1 hC dX7_sum_48 rfl ?_
          refine V.iload_n (pc := 49) 0 hC dX7_sum_49 rfl ?_
          refine V.iconst (pc := 50) 0 hC dX7_sum_50 (by decide) ?_
          refine V.callV0 (pc := 51) (as := [.int (lkS (μ 0) x.2.1), .int 0]) hC (c_X7_step μ (va_up (va_up (va_up (va_up (va_up (va_up ν 8 f45_0) 9 f45_1) 12 (fun _ => i45_2)) 13 (fun _ => i45_3)) 14 (fun _ => i45_4)) 15 (fun _ => i45_5)) (lkS (μ 0) x.2.1) 0 hu45_0.2.2.2.1) mu_X7_step ml_X7_139 (by decide) ⟨0, 7, TX7, 20, _, rfl, gm_0⟩ rfl (Nat.le_of_ble_eq_true rfl) dX7_sum_51 ?_
          rintro _ ⟨f51_0, f51_1, i51_2⟩ ⟨rfl, hu51_0⟩
          have hu51_0 : StF (f45_0) (f45_1) (i45_2) (lkS (μ 0) x.2.1) 0 f51_0 f51_1 i51_2 := hu51_0
          show V X (wM k b μ (va_up (va_up (va_up (va_up (va_up (va_up ν 8 f51_0) 9 f51_1) 12 (fun _ => i51_2)) 13 (fun _ => i45_3)) 14 (fun _ => i45_4)) 15 (fun _ => i45_5))) [(1, .int (lkS (μ 0) x.2.1)), (0, .ref (b 20))] [] 54
          refine V.goto (pc := 54) 4 hC dX7_sum_54 (by decide) ?_
          exact V.sub [1] rfl (ih (appS x ((lvS (lkS (μ 0)) (sgS (lkS (μ 0)) u 0) 1) (x.2.1 + 1)) (lkS (μ 0) x.2.1)) f51_0 f51_1 i51_2 i45_3 i45_4 i45_5 (hg.app hok hgy (rk_op hrk (by omega)).1) (PO_app hx hok hu45_0 hu51_0 (fun q => by have := hgy.2.2 q; have := hgy.2.1; omega)) (by have := hgy.1; show 60 ≤ n + ((lvS (lkS (μ 0)) (sgS (lkS (μ 0)) u 0) 1) (x.2.1 + 1)).2.1; omega) (hv.trans (lp_yes ⟨hok, hrk⟩)))
        · refine V.aload_n (pc := 20) 0 hC dX7_sum_20 rfl ?_
          refine V.callV0 (pc := 21) (as := []) hC (c_X7_look μ (va_up (va_up (va_up (va_up (va_up (va_up ν 8 f8) 9 f9) 12 (fun _ => i12)) 13 (fun _ => i13)) 14 (fun _ => i14)) 15 (fun _ => i15)) x.2.1 hI hx.1 (by omega)) mu_X7_look ml_X7_131 (by decide) ⟨0, 7, TX7, 20, _, rfl, gm_0⟩ rfl (Nat.le_of_ble_eq_true rfl) dX7_sum_21 ?_
          rintro _ _ rfl
          show V X (wM k b μ (va_up (va_up (va_up (va_up (va_up (va_up ν 8 f8) 9 f9) 12 (fun _ => i12)) 13 (fun _ => i13)) 14 (fun _ => i14)) 15 (fun _ => i15))) [(0, .ref (b 20))] [.int (lkS (μ 0) x.2.1)] 24
          refine V.bipush (pc := 24) 45 hC dX7_sum_24 (by decide) ?_
          refine V.icmp_ne (pc := 26) 57 hC dX7_sum_26 (by decide) (fun c_26 => ?_) (fun c_26 => ?_)
          · exact hR (f8, f9, i12, i13, i14, i15) _ _ dX7_sum_57 ⟨rfl, by rw [show (lvS (lkS (μ 0)) (sgS (lkS (μ 0)) u 0) 2) p = x from hv.trans (lp_no (fun q => (rk_3.mp q.2).elim c_17 c_26))]; exact hx⟩
          · have hok := bd_0 c_8
            have hgx := hg.2.2 hok
            have hrk : rkS (lkS (μ 0) x.2.1) = 3 := rk_3.mpr (Or.inr c_26)
            have hlt : x.2.1 < nN (μ 0 5) := tok_lt lk_tok (rk_op hrk (by omega)).2
            have hgy := (lv_g (lk_tok (ρ := μ 0)) (sg_g (u := u) (lk_tok (ρ := μ 0)) 0) 1) (x.2.1 + 1) hlt
            have hgb := hg.2.1
            refine V.aload_n (pc := 29) 0 hC dX7_sum_29 rfl ?_
            refine V.callV0 (pc := 30) (as := []) hC (c_X7_look μ (va_up (va_up (va_up (va_up (va_up (va_up ν 8 f8) 9 f9) 12 (fun _ => i12)) 13 (fun _ => i13)) 14 (fun _ => i14)) 15 (fun _ => i15)) x.2.1 hI hx.1 (by omega)) mu_X7_look ml_X7_131 (by decide) ⟨0, 7, TX7, 20, _, rfl, gm_0⟩ rfl (Nat.le_of_ble_eq_true rfl) dX7_sum_30 ?_
            rintro _ _ rfl
            show V X (wM k b μ (va_up (va_up (va_up (va_up (va_up (va_up ν 8 f8) 9 f9) 12 (fun _ => i12)) 13 (fun _ => i13)) 14 (fun _ => i14)) 15 (fun _ => i15))) [(0, .ref (b 20))] [.int (lkS (μ 0) x.2.1)] 33
            refine V.istore_n (pc := 33) [(1, .int (lkS (μ 0) x.2.1)), (0, .ref (b 20))] hC dX7_sum_33 (by decide) rfl ?_
            refine V.aload_n (pc := 34) 1 hC dX7_sum_34 rfl ?_
            refine V.dup (pc := 35) hC dX7_sum_35 rfl ?_
            refine V.get (pc := 36) (v := .int i13) hC cf_X7 0 13 fl_X7_121 (by decide) gm_0 rfl dX7_sum_36 ?_
            refine V.iconst (pc := 39) 1 hC dX7_sum_39 (by decide) ?_
            refine V.iadd (pc := 40) hC dX7_sum_40 ?_
            refine V.put (pc := 41) (v := .int (i13 + 1)) hC cf_X7 0 13 (wM k b μ (va_up (va_up (va_up (va_up (va_up (va_up ν 8 f8) 9 f9) 12 (fun _ => i12)) 13 (fun _ => i13 + 1)) 14 (fun _ => i14)) 15 (fun _ => i15))) fl_X7_121 (by decide) gm_0 rfl rfl rfl (Nat.le_of_ble_eq_true rfl) rfl dX7_sum_41 ?_
            refine V.aload_n (pc := 44) 1 hC dX7_sum_44 rfl ?_
            refine V.callV0 (pc := 45) (as := []) hC (c_X7_times_0 μ (va_up (va_up (va_up (va_up (va_up (va_up ν 8 f8) 9 f9) 12 (fun _ => i12)) 13 (fun _ => i13 + 1)) 14 (fun _ => i14)) 15 (fun _ => i15)) u (L + x.2.2.length) (x.2.1 + 1) hI ⟨hP.1, (hx.2.2.2.2 hok).1, nadd hx.1 (nl 1), hx.2.1, hx.2.2.1.trans c_8, by omega, hlt⟩) mu_X7_times ml_X7_162 (by decide) ⟨0, 7, TX7, 20, _, rfl, gm_0⟩ rfl (Nat.le_of_ble_eq_true rfl) dX7_sum_45 ?_
            rintro _ ⟨f45_0, f45_1, i45_2, i45_3, i45_4, i45_5⟩ ⟨rfl, hu45_0⟩
            have hu45_0 : POut 5 (f8) (f9) (L + x.2.2.length) ((lvS (lkS (μ 0)) (sgS (lkS (μ 0)) u 0) 1) (x.2.1 + 1)) f45_0 f45_1 i45_2 i45_3 i45_4 i45_5 := hu45_0
            show V X (wM k b μ (va_up (va_up (va_up (va_up (va_up (va_up ν 8 f45_0) 9 f45_1) 12 (fun _ => i45_2)) 13 (fun _ => i45_3)) 14 (fun _ => i45_4)) 15 (fun _ => i45_5))) [(1, .int (lkS (μ 0) x.2.1)), (0, .ref (b 20))] [] 48
            refine V.aload_n (pc := 48) 1 hC dX7_sum_48 rfl ?_
            refine V.iload_n (pc := 49) 0 hC dX7_sum_49 rfl ?_
            refine V.iconst (pc := 50) 0 hC dX7_sum_50 (by decide) ?_
            refine V.callV0 (pc := 51) (as := [.int (lkS (μ 0) x.2.1), .int 0]) hC (c_X7_step μ (va_up (va_up (va_up (va_up (va_up (va_up ν 8 f45_0) 9 f45_1) 12 (fun _ => i45_2)) 13 (fun _ => i45_3)) 14 (fun _ => i45_4)) 15 (fun _ => i45_5)) (lkS (μ 0) x.2.1) 0 hu45_0.2.2.2.1) mu_X7_step ml_X7_139 (by decide) ⟨0, 7, TX7, 20, _, rfl, gm_0⟩ rfl (Nat.le_of_ble_eq_true rfl) dX7_sum_51 ?_
            rintro _ ⟨f51_0, f51_1, i51_2⟩ ⟨rfl, hu51_0⟩
            have hu51_0 : StF (f45_0) (f45_1) (i45_2) (lkS (μ 0) x.2.1) 0 f51_0 f51_1 i51_2 := hu51_0
            show V X (wM k b μ (va_up (va_up (va_up (va_up (va_up (va_up ν 8 f51_0) 9 f51_1) 12 (fun _ => i51_2)) 13 (fun _ => i45_3)) 14 (fun _ => i45_4)) 15 (fun _ => i45_5))) [(1, .int (lkS (μ 0) x.2.1)), (0, .ref (b 20))] [] 54
            refine V.goto (pc := 54) 4 hC dX7_sum_54 (by decide) ?_
            exact V.sub [1] rfl (ih (appS x ((lvS (lkS (μ 0)) (sgS (lkS (μ 0)) u 0) 1) (x.2.1 + 1)) (lkS (μ 0) x.2.1)) f51_0 f51_1 i51_2 i45_3 i45_4 i45_5 (hg.app hok hgy (rk_op hrk (by omega)).1) (PO_app hx hok hu45_0 hu51_0 (fun q => by have := hgy.2.2 q; have := hgy.2.1; omega)) (by have := hgy.1; show 60 ≤ n + ((lvS (lkS (μ 0)) (sgS (lkS (μ 0)) u 0) 1) (x.2.1 + 1)).2.1; omega) (hv.trans (lp_yes ⟨hok, hrk⟩)))
  exact V.sub [0] rfl (loop_4 60 ((lvS (lkS (μ 0)) (sgS (lkS (μ 0)) u 0) 1) p) f1_0 f1_1 i1_2 i1_3 i1_4 i1_5 ((lv_g (lk_tok (ρ := μ 0)) (sg_g (u := u) (lk_tok (ρ := μ 0)) 0) 1) p (by omega)) hu1_0 (by omega) rfl)
set_option maxHeartbeats 4000000 in
set_option maxRecDepth 100000 in
theorem c_X7_compares_0 {l : Launch} {D : va_G} {k : Nat → ClassId} {g b : Nat → Nat} (μ ν : St) (u : Int32) (L p : Nat) (hI : Inv (μ 0)) (hP : PIn (nN (μ 0 5)) (ν 12 0) (ν 13 0) (ν 14 0) (ν 15 0) (ν 16 0) u 5 L p) : Ct l D k g yX7_compares cX7_compares 2 none 5 108 [.ref (b 20)] (S := Rw × Rw × Int32 × Int32 × Int32 × Int32) (wM k b μ ν) (fun uu => wM k b μ (va_up (va_up (va_up (va_up (va_up (va_up ν 8 uu.1) 9 uu.2.1) 12 (fun _ => uu.2.2.1)) 13 (fun _ => uu.2.2.2.1)) 14 (fun _ => uu.2.2.2.2.1)) 15 (fun _ => uu.2.2.2.2.2))) (fun vv uu => vv = none ∧ POut 5 (ν 8) (ν 9) L ((lvS (lkS (μ 0)) (sgS (lkS (μ 0)) u 0) 3) p) uu.1 uu.2.1 uu.2.2.1 uu.2.2.2.1 uu.2.2.2.2.1 uu.2.2.2.2.2) := by
  refine Ct.ofV RX7 rfl (by decide +kernel) (Nat.le_of_ble_eq_true rfl) (fun X hC hR => ?_)
  have hb60 := hI.bb; have hle := hP.2.2.2.2.2
  show V X (wM k b μ ν) [(0, .ref (b 20))] [] 0
  refine V.aload_n (pc := 0) 0 hC dX7_compares_0 rfl ?_
  refine V.callV0 (pc := 1) (as := []) hC (c_X7_sum_0 μ ν u L p hI hP) mu_X7_sum ml_X7_165 (by decide) ⟨0, 7, TX7, 20, _, rfl, gm_0⟩ rfl (Nat.le_of_ble_eq_true rfl) dX7_compares_1 ?_
  rintro _ ⟨f1_0, f1_1, i1_2, i1_3, i1_4, i1_5⟩ ⟨rfl, hu1_0⟩
  have hu1_0 : POut 5 (ν 8) (ν 9) L ((lvS (lkS (μ 0)) (sgS (lkS (μ 0)) u 0) 2) p) f1_0 f1_1 i1_2 i1_3 i1_4 i1_5 := hu1_0
  show V X (wM k b μ (va_up (va_up (va_up (va_up (va_up (va_up ν 8 f1_0) 9 f1_1) 12 (fun _ => i1_2)) 13 (fun _ => i1_3)) 14 (fun _ => i1_4)) 15 (fun _ => i1_5))) [(0, .ref (b 20))] [] 4
  have hg : GR (nN (μ 0 5)) p ((lvS (lkS (μ 0)) (sgS (lkS (μ 0)) u 0) 2) p) := (lv_g (lk_tok (ρ := μ 0)) (sg_g (u := u) (lk_tok (ρ := μ 0)) 0) 2) p (by omega)
  have hxb := hg.2.1
  refine V.aload_n (pc := 4) 0 hC dX7_compares_4 rfl ?_
  refine V.callV0 (pc := 5) (as := []) hC (c_X7_look μ (va_up (va_up (va_up (va_up (va_up (va_up ν 8 f1_0) 9 f1_1) 12 (fun _ => i1_2)) 13 (fun _ => i1_3)) 14 (fun _ => i1_4)) 15 (fun _ => i1_5)) (((lvS (lkS (μ 0)) (sgS (lkS (μ 0)) u 0) 2) p).2.1) hI hu1_0.1 (by omega)) mu_X7_look ml_X7_131 (by decide) ⟨0, 7, TX7, 20, _, rfl, gm_0⟩ rfl (Nat.le_of_ble_eq_true rfl) dX7_compares_5 ?_
  rintro _ _ rfl
  show V X (wM k b μ (va_up (va_up (va_up (va_up (va_up (va_up ν 8 f1_0) 9 f1_1) 12 (fun _ => i1_2)) 13 (fun _ => i1_3)) 14 (fun _ => i1_4)) 15 (fun _ => i1_5))) [(0, .ref (b 20))] [.int (lkS (μ 0) (((lvS (lkS (μ 0)) (sgS (lkS (μ 0)) u 0) 2) p).2.1))] 8
  refine V.istore_n (pc := 8) [(1, .int (lkS (μ 0) (((lvS (lkS (μ 0)) (sgS (lkS (μ 0)) u 0) 2) p).2.1))), (0, .ref (b 20))] hC dX7_compares_8 (by decide) rfl ?_
  refine V.aload_n (pc := 9) 1 hC dX7_compares_9 rfl ?_
  refine V.get (pc := 10) (v := .int i1_5) hC cf_X7 0 15 fl_X7_135 (by decide) gm_0 rfl dX7_compares_10 ?_
  refine V.eqi (y := bdS ((lvS (lkS (μ 0)) (sgS (lkS (μ 0)) u 0) 2) p)) (hu1_0.2.2.1) ?_
  refine V.if_ne (pc := 13) 54 hC dX7_compares_13 (by decide) (fun c_13 => ?_) (fun c_13 => ?_)
  · exact hR (f1_0, f1_1, i1_2, i1_3, i1_4, i1_5) _ _ dX7_compares_54 ⟨rfl, by rw [show (lvS (lkS (μ 0)) (sgS (lkS (μ 0)) u 0) 3) p = ((lvS (lkS (μ 0)) (sgS (lkS (μ 0)) u 0) 2) p) from lp_no (fun q => bd_1 c_13 q.1)]; exact hu1_0⟩
  · refine V.iload_n (pc := 16) 0 hC dX7_compares_16 rfl ?_
    refine V.bipush (pc := 17) 60 hC dX7_compares_17 (by decide) ?_
    refine V.icmp_eq (pc := 19) 34 hC dX7_compares_19 (by decide) (fun c_19 => ?_) (fun c_19 => ?_)
    · have hok := bd_0 c_13
      have hgx := hg.2.2 hok
      have hrk : rkS (lkS (μ 0) ((lvS (lkS (μ 0)) (sgS (lkS (μ 0)) u 0) 2) p).2.1) = 2 := rk_2.mpr (Or.inl c_19)
      have hlt : ((lvS (lkS (μ 0)) (sgS (lkS (μ 0)) u 0) 2) p).2.1 < nN (μ 0 5) := tok_lt lk_tok (rk_op hrk (by omega)).2
      have hgy := (lv_g (lk_tok (ρ := μ 0)) (sg_g (u := u) (lk_tok (ρ := μ 0)) 0) 2) (((lvS (lkS (μ 0)) (sgS (lkS (μ 0)) u 0) 2) p).2.1 + 1) hlt
      have hgb := hg.2.1
      refine V.aload_n (pc := 34) 1 hC dX7_compares_34 rfl ?_
      refine V.dup (pc := 35) hC dX7_compares_35 rfl ?_
      refine V.get (pc := 36) (v := .int i1_3) hC cf_X7 0 13 fl_X7_121 (by decide) gm_0 rfl dX7_compares_36 ?_
      refine V.iconst (pc := 39) 1 hC dX7_compares_39 (by decide) ?_
      refine V.iadd (pc := 40) hC dX7_compares_40 ?_
      refine V.put (pc := 41) (v := .int (i1_3 + 1)) hC cf_X7 0 13 (wM k b μ (va_up (va_up (va_up (va_up (va_up (va_up ν 8 f1_0) 9 f1_1) 12 (fun _ => i1_2)) 13 (fun _ => i1_3 + 1)) 14 (fun _ => i1_4)) 15 (fun _ => i1_5))) fl_X7_121 (by decide) gm_0 rfl rfl rfl (Nat.le_of_ble_eq_true rfl) rfl dX7_compares_41 ?_
      refine V.aload_n (pc := 44) 1 hC dX7_compares_44 rfl ?_
      refine V.callV0 (pc := 45) (as := []) hC (c_X7_sum_0 μ (va_up (va_up (va_up (va_up (va_up (va_up ν 8 f1_0) 9 f1_1) 12 (fun _ => i1_2)) 13 (fun _ => i1_3 + 1)) 14 (fun _ => i1_4)) 15 (fun _ => i1_5)) u (L + ((lvS (lkS (μ 0)) (sgS (lkS (μ 0)) u 0) 2) p).2.2.length) (((lvS (lkS (μ 0)) (sgS (lkS (μ 0)) u 0) 2) p).2.1 + 1) hI ⟨hP.1, (hu1_0.2.2.2.2 hok).1, nadd hu1_0.1 (nl 1), hu1_0.2.1, hu1_0.2.2.1.trans c_13, by omega, hlt⟩) mu_X7_sum ml_X7_165 (by decide) ⟨0, 7, TX7, 20, _, rfl, gm_0⟩ rfl (Nat.le_of_ble_eq_true rfl) dX7_compares_45 ?_
      rintro _ ⟨f45_0, f45_1, i45_2, i45_3, i45_4, i45_5⟩ ⟨rfl, hu45_0⟩
      have hu45_0 : POut 5 (f1_0) (f1_1) (L + ((lvS (lkS (μ 0)) (sgS (lkS (μ 0)) u 0) 2) p).2.2.length) ((lvS (lkS (μ 0)) (sgS (lkS (μ 0)) u 0) 2) (((lvS (lkS (μ 0)) (sgS (lkS (μ 0)) u 0) 2) p).2.1 + 1)) f45_0 f45_1 i45_2 i45_3 i45_4 i45_5 := hu45_0
      show V X (wM k b μ (va_up (va_up (va_up (va_up (va_up (va_up ν 8 f45_0) 9 f45_1) 12 (fun _ => i45_2)) 13 (fun _ => i45_3)) 14 (fun _ => i45_4)) 15 (fun _ => i45_5))) [(1, .int (lkS (μ 0) (((lvS (lkS (μ 0)) (sgS (lkS (μ 0)) u 0) 2) p).2.1))), (0, .ref (b 20))] [] 48
      refine V.aload_n (pc := 48) 1 hC dX7_compares_48 rfl ?_
      refine V.iload_n (pc := 49) 0 hC dX7_compares_49 rfl ?_
      refine V.iconst (pc := 50) 0 hC dX7_compares_50 (by decide) ?_
      refine V.callV0 (pc := 51) (as := [.int (lkS (μ 0) (((lvS (lkS (μ 0)) (sgS (lkS (μ 0)) u 0) 2) p).2.1)), .int 0]) hC (c_X7_step μ (va_up (va_up (va_up (va_up (va_up (va_up ν 8 f45_0) 9 f45_1) 12 (fun _ => i45_2)) 13 (fun _ => i45_3)) 14 (fun _ => i45_4)) 15 (fun _ => i45_5)) (lkS (μ 0) (((lvS (lkS (μ 0)) (sgS (lkS (μ 0)) u 0) 2) p).2.1)) 0 hu45_0.2.2.2.1) mu_X7_step ml_X7_139 (by decide) ⟨0, 7, TX7, 20, _, rfl, gm_0⟩ rfl (Nat.le_of_ble_eq_true rfl) dX7_compares_51 ?_
      rintro _ ⟨f51_0, f51_1, i51_2⟩ ⟨rfl, hu51_0⟩
      have hu51_0 : StF (f45_0) (f45_1) (i45_2) (lkS (μ 0) (((lvS (lkS (μ 0)) (sgS (lkS (μ 0)) u 0) 2) p).2.1)) 0 f51_0 f51_1 i51_2 := hu51_0
      show V X (wM k b μ (va_up (va_up (va_up (va_up (va_up (va_up ν 8 f51_0) 9 f51_1) 12 (fun _ => i51_2)) 13 (fun _ => i45_3)) 14 (fun _ => i45_4)) 15 (fun _ => i45_5))) [(1, .int (lkS (μ 0) (((lvS (lkS (μ 0)) (sgS (lkS (μ 0)) u 0) 2) p).2.1))), (0, .ref (b 20))] [] 54
      exact hR (f51_0, f51_1, i51_2, i45_3, i45_4, i45_5) _ _ dX7_compares_54 ⟨rfl, by rw [show (lvS (lkS (μ 0)) (sgS (lkS (μ 0)) u 0) 3) p = appS ((lvS (lkS (μ 0)) (sgS (lkS (μ 0)) u 0) 2) p) ((lvS (lkS (μ 0)) (sgS (lkS (μ 0)) u 0) 2) (((lvS (lkS (μ 0)) (sgS (lkS (μ 0)) u 0) 2) p).2.1 + 1)) (lkS (μ 0) ((lvS (lkS (μ 0)) (sgS (lkS (μ 0)) u 0) 2) p).2.1) from lp_yes ⟨hok, hrk⟩]; exact PO_app hu1_0 hok hu45_0 hu51_0 (fun q => by have := hgy.2.2 q; have := hgy.2.1; omega)⟩
    · refine V.iload_n (pc := 22) 0 hC dX7_compares_22 rfl ?_
      refine V.bipush (pc := 23) 61 hC dX7_compares_23 (by decide) ?_
      refine V.icmp_eq (pc := 25) 34 hC dX7_compares_25 (by decide) (fun c_25 => ?_) (fun c_25 => ?_)
      · have hok := bd_0 c_13
        have hgx := hg.2.2 hok
        have hrk : rkS (lkS (μ 0) ((lvS (lkS (μ 0)) (sgS (lkS (μ 0)) u 0) 2) p).2.1) = 2 := rk_2.mpr (Or.inr (Or.inl c_25))
        have hlt : ((lvS (lkS (μ 0)) (sgS (lkS (μ 0)) u 0) 2) p).2.1 < nN (μ 0 5) := tok_lt lk_tok (rk_op hrk (by omega)).2
        have hgy := (lv_g (lk_tok (ρ := μ 0)) (sg_g (u := u) (lk_tok (ρ := μ 0)) 0) 2) (((lvS (lkS (μ 0)) (sgS (lkS (μ 0)) u 0) 2) p).2.1 + 1) hlt
        have hgb := hg.2.1
        refine V.aload_n (pc := 34) 1 hC dX7_compares_34 rfl ?_
        refine V.dup (pc := 35) hC dX7_compares_35 rfl ?_
        refine V.get (pc := 36) (v := .int i1_3) hC cf_X7 0 13 fl_X7_121 (by decide) gm_0 rfl dX7_compares_36 ?_
        refine V.iconst (pc := 39) 1 hC dX7_compares_39 (by decide) ?_
        refine V.iadd (pc := 40) hC dX7_compares_40 ?_
        refine V.put (pc := 41) (v := .int (i1_3 + 1)) hC cf_X7 0 13 (wM k b μ (va_up (va_up (va_up (va_up (va_up (va_up ν 8 f1_0) 9 f1_1) 12 (fun _ => i1_2)) 13 (fun _ => i1_3 + 1)) 14 (fun _ => i1_4)) 15 (fun _ => i1_5))) fl_X7_121 (by decide) gm_0 rfl rfl rfl (Nat.le_of_ble_eq_true rfl) rfl dX7_compares_41 ?_
        refine V.aload_n (pc := 44) 1 hC dX7_compares_44 rfl ?_
        refine V.callV0 (pc := 45) (as := []) hC (c_X7_sum_0 μ (va_up (va_up (va_up (va_up (va_up (va_up ν 8 f1_0) 9 f1_1) 12 (fun _ => i1_2)) 13 (fun _ => i1_3 + 1)) 14 (fun _ => i1_4)) 15 (fun _ => i1_5)) u (L + ((lvS (lkS (μ 0)) (sgS (lkS (μ 0)) u 0) 2) p).2.2.length) (((lvS (lkS (μ 0)) (sgS (lkS (μ 0)) u 0) 2) p).2.1 + 1) hI ⟨hP.1, (hu1_0.2.2.2.2 hok).1, nadd hu1_0.1 (nl 1), hu1_0.2.1, hu1_0.2.2.1.trans c_13, by omega, hlt⟩) mu_X7_sum ml_X7_165 (by decide) ⟨0, 7, TX7, 20, _, rfl, gm_0⟩ rfl (Nat.le_of_ble_eq_true rfl) dX7_compares_45 ?_
        rintro _ ⟨f45_0, f45_1, i45_2, i45_3, i45_4, i45_5⟩ ⟨rfl, hu45_0⟩
        have hu45_0 : POut 5 (f1_0) (f1_1) (L + ((lvS (lkS (μ 0)) (sgS (lkS (μ 0)) u 0) 2) p).2.2.length) ((lvS (lkS (μ 0)) (sgS (lkS (μ 0)) u 0) 2) (((lvS (lkS (μ 0)) (sgS (lkS (μ 0)) u 0) 2) p).2.1 + 1)) f45_0 f45_1 i45_2 i45_3 i45_4 i45_5 := hu45_0
        show V X (wM k b μ (va_up (va_up (va_up (va_up (va_up (va_up ν 8 f45_0) 9 f45_1) 12 (fun _ => i45_2)) 13 (fun _ => i45_3)) 14 (fun _ => i45_4)) 15 (fun _ => i45_5))) [(1, .int (lkS (μ 0) (((lvS (lkS (μ 0)) (sgS (lkS (μ 0)) u 0) 2) p).2.1))), (0, .ref (b 20))] [] 48
        refine V.aload_n (pc := 48) 1 hC dX7_compares_48 rfl ?_
        refine V.iload_n (pc := 49) 0 hC dX7_compares_49 rfl ?_
        refine V.iconst (pc := 50) 0 hC dX7_compares_50 (by decide) ?_
        refine V.callV0 (pc := 51) (as := [.int (lkS (μ 0) (((lvS (lkS (μ 0)) (sgS (lkS (μ 0)) u 0) 2) p).2.1)), .int 0]) hC (c_X7_step μ (va_up (va_up (va_up (va_up (va_up (va_up ν 8 f45_0) 9 f45_1) 12 (fun _ => i45_2)) 13 (fun _ => i45_3)) 14 (fun _ => i45_4)) 15 (fun _ => i45_5)) (lkS (μ 0) (((lvS (lkS (μ 0)) (sgS (lkS (μ 0)) u 0) 2) p).2.1)) 0 hu45_0.2.2.2.1) mu_X7_step ml_X7_139 (by decide) ⟨0, 7, TX7, 20, _, rfl, gm_0⟩ rfl (Nat.le_of_ble_eq_true rfl) dX7_compares_51 ?_
        rintro _ ⟨f51_0, f51_1, i51_2⟩ ⟨rfl, hu51_0⟩
        have hu51_0 : StF (f45_0) (f45_1) (i45_2) (lkS (μ 0) (((lvS (lkS (μ 0)) (sgS (lkS (μ 0)) u 0) 2) p).2.1)) 0 f51_0 f51_1 i51_2 := hu51_0
        show V X (wM k b μ (va_up (va_up (va_up (va_up (va_up (va_up ν 8 f51_0) 9 f51_1) 12 (fun _ => i51_2)) 13 (fun _ => i45_3)) 14 (fun _ => i45_4)) 15 (fun _ => i45_5))) [(1, .int (lkS (μ 0) (((lvS (lkS (μ 0)) (sgS (lkS (μ 0)) u 0) 2) p).2.1))), (0, .ref (b 20))] [] 54
        exact hR (f51_0, f51_1, i51_2, i45_3, i45_4, i45_5) _ _ dX7_compares_54 ⟨rfl, by rw [show (lvS (lkS (μ 0)) (sgS (lkS (μ 0)) u 0) 3) p = appS ((lvS (lkS (μ 0)) (sgS (lkS (μ 0)) u 0) 2) p) ((lvS (lkS (μ 0)) (sgS (lkS (μ 0)) u 0) 2) (((lvS (lkS (μ 0)) (sgS (lkS (μ 0)) u 0) 2) p).2.1 + 1)) (lkS (μ 0) ((lvS (lkS (μ 0)) (sgS (lkS (μ 0)) u 0) 2) p).2.1) from lp_yes ⟨hok, hrk⟩]; exact PO_app hu1_0 hok hu45_0 hu51_0 (fun q => by have := hgy.2.2 q; have := hgy.2.1; omega)⟩
      · refine V.iload_n (pc := 28) 0 hC dX7_compares_28 rfl ?_
        refine V.bipush (pc := 29) 62 hC dX7_compares_29 (by decide) ?_
        refine V.icmp_ne (pc := 31) 54 hC dX7_compares_31 (by decide) (fun c_31 => ?_) (fun c_31 => ?_)
        · exact hR (f1_0, f1_1, i1_2, i1_3, i1_4, i1_5) _ _ dX7_compares_54 ⟨rfl, by rw [show (lvS (lkS (μ 0)) (sgS (lkS (μ 0)) u 0) 3) p = ((lvS (lkS (μ 0)) (sgS (lkS (μ 0)) u 0) 2) p) from lp_no (fun q => (rk_2.mp q.2).elim c_19 (fun q => q.elim c_25 c_31))]; exact hu1_0⟩
        · have hok := bd_0 c_13
          have hgx := hg.2.2 hok
          have hrk : rkS (lkS (μ 0) ((lvS (lkS (μ 0)) (sgS (lkS (μ 0)) u 0) 2) p).2.1) = 2 := rk_2.mpr (Or.inr (Or.inr c_31))
          have hlt : ((lvS (lkS (μ 0)) (sgS (lkS (μ 0)) u 0) 2) p).2.1 < nN (μ 0 5) := tok_lt lk_tok (rk_op hrk (by omega)).2
          have hgy := (lv_g (lk_tok (ρ := μ 0)) (sg_g (u := u) (lk_tok (ρ := μ 0)) 0) 2) (((lvS (lkS (μ 0)) (sgS (lkS (μ 0)) u 0) 2) p).2.1 + 1) hlt
          have hgb := hg.2.1
          refine V.aload_n (pc := 34) 1 hC dX7_compares_34 rfl ?_
          refine V.dup (pc := 35) hC dX7_compares_35 rfl ?_
          refine V.get (pc := 36) (v := .int i1_3) hC cf_X7 0 13 fl_X7_121 (by decide) gm_0 rfl dX7_compares_36 ?_
          refine V.iconst (pc := 39) 1 hC dX7_compares_39 (by decide) ?_
          refine V.iadd (pc := 40) hC dX7_compares_40 ?_
          refine V.put (pc := 41) (v := .int (i1_3 + 1)) hC cf_X7 0 13 (wM k b μ (va_up (va_up (va_up (va_up (va_up (va_up ν 8 f1_0) 9 f1_1) 12 (fun _ => i1_2)) 13 (fun _ => i1_3 + 1)) 14 (fun _ => i1_4)) 15 (fun _ => i1_5))) fl_X7_121 (by decide) gm_0 rfl rfl rfl (Nat.le_of_ble_eq_true rfl) rfl dX7_compares_41 ?_
          refine V.aload_n (pc := 44) 1 hC dX7_compares_44 rfl ?_
          refine V.callV0 (pc := 45) (as := []) hC (c_X7_sum_0 μ (va_up (va_up (va_up (va_up (va_up (va_up ν 8 f1_0) 9 f1_1) 12 (fun _ => i1_2)) 13 (fun _ => i1_3 + 1)) 14 (fun _ => i1_4)) 15 (fun _ => i1_5)) u (L + ((lvS (lkS (μ 0)) (sgS (lkS (μ 0)) u 0) 2) p).2.2.length) (((lvS (lkS (μ 0)) (sgS (lkS (μ 0)) u 0) 2) p).2.1 + 1) hI ⟨hP.1, (hu1_0.2.2.2.2 hok).1, nadd hu1_0.1 (nl 1), hu1_0.2.1, hu1_0.2.2.1.trans c_13, by omega, hlt⟩) mu_X7_sum ml_X7_165 (by decide) ⟨0, 7, TX7, 20, _, rfl, gm_0⟩ rfl (Nat.le_of_ble_eq_true rfl) dX7_compares_45 ?_
          rintro _ ⟨f45_0, f45_1, i45_2, i45_3, i45_4, i45_5⟩ ⟨rfl, hu45_0⟩
          have hu45_0 : POut 5 (f1_0) (f1_1) (L + ((lvS (lkS (μ 0)) (sgS (lkS (μ 0)) u 0) 2) p).2.2.length) ((lvS (lkS (μ 0)) (sgS (lkS (μ 0)) u 0) 2) (((lvS (lkS (μ 0)) (sgS (lkS (μ 0)) u 0) 2) p).2.1 + 1)) f45_0 f45_1 i45_2 i45_3 i45_4 i45_5 := hu45_0
          show V X (wM k b μ (va_up (va_up (va_up (va_up (va_up (va_up ν 8 f45_0) 9 f45_1) 12 (fun _ => i45_2)) 13 (fun _ => i45_3)) 14 (fun _ => i45_4)) 15 (fun _ => i45_5))) [(1, .int (lkS (μ 0) (((lvS (lkS (μ 0)) (sgS (lkS (μ 0)) u 0) 2) p).2.1))), (0, .ref (b 20))] [] 48
          refine V.aload_n (pc := 48) 1 hC dX7_compares_48 rfl ?_
          refine V.iload_n (pc := 49) 0 hC dX7_compares_49 rfl ?_
          refine V.iconst (pc := 50) 0 hC dX7_compares_50 (by decide) ?_
          refine V.callV0 (pc := 51) (as := [.int (lkS (μ 0) (((lvS (lkS (μ 0)) (sgS (lkS (μ 0)) u 0) 2) p).2.1)), .int 0]) hC (c_X7_step μ (va_up (va_up (va_up (va_up (va_up (va_up ν 8 f45_0) 9 f45_1) 12 (fun _ => i45_2)) 13 (fun _ => i45_3)) 14 (fun _ => i45_4)) 15 (fun _ => i45_5)) (lkS (μ 0) (((lvS (lkS (μ 0)) (sgS (lkS (μ 0)) u 0) 2) p).2.1)) 0 hu45_0.2.2.2.1) mu_X7_step ml_X7_139 (by decide) ⟨0, 7, TX7, 20, _, rfl, gm_0⟩ rfl (Nat.le_of_ble_eq_true rfl) dX7_compares_51 ?_
          rintro _ ⟨f51_0, f51_1, i51_2⟩ ⟨rfl, hu51_0⟩
          have hu51_0 : StF (f45_0) (f45_1) (i45_2) (lkS (μ 0) (((lvS (lkS (μ 0)) (sgS (lkS (μ 0)) u 0) 2) p).2.1)) 0 f51_0 f51_1 i51_2 := hu51_0
          show V X (wM k b μ (va_up (va_up (va_up (va_up (va_up (va_up ν 8 f51_0) 9 f51_1) 12 (fun _ => i51_2)) 13 (fun _ => i45_3)) 14 (fun _ => i45_4)) 15 (fun _ => i45_5))) [(1, .int (lkS (μ 0) (((lvS (lkS (μ 0)) (sgS (lkS (μ 0)) u 0) 2) p).2.1))), (0, .ref (b 20))] [] 54
          exact hR (f51_0, f51_1, i51_2, i45_3, i45_4, i45_5) _ _ dX7_compares_54 ⟨rfl, by rw [show (lvS (lkS (μ 0)) (sgS (lkS (μ 0)) u 0) 3) p = appS ((lvS (lkS (μ 0)) (sgS (lkS (μ 0)) u 0) 2) p) ((lvS (lkS (μ 0)) (sgS (lkS (μ 0)) u 0) 2) (((lvS (lkS (μ 0)) (sgS (lkS (μ 0)) u 0) 2) p).2.1 + 1)) (lkS (μ 0) ((lvS (lkS (μ 0)) (sgS (lkS (μ 0)) u 0) 2) p).2.1) from lp_yes ⟨hok, hrk⟩]; exact PO_app hu1_0 hok hu45_0 hu51_0 (fun q => by have := hgy.2.2 q; have := hgy.2.1; omega)⟩
set_option maxHeartbeats 4000000 in
set_option maxRecDepth 100000 in
theorem c_X7_all_0 {l : Launch} {D : va_G} {k : Nat → ClassId} {g b : Nat → Nat} (μ ν : St) (u : Int32) (L p : Nat) (hI : Inv (μ 0)) (hP : PIn (nN (μ 0 5)) (ν 12 0) (ν 13 0) (ν 14 0) (ν 15 0) (ν 16 0) u 5 L p) : Ct l D k g yX7_all cX7_all 1 none 6 129 [.ref (b 20)] (S := Rw × Rw × Int32 × Int32 × Int32 × Int32) (wM k b μ ν) (fun uu => wM k b μ (va_up (va_up (va_up (va_up (va_up (va_up ν 8 uu.1) 9 uu.2.1) 12 (fun _ => uu.2.2.1)) 13 (fun _ => uu.2.2.2.1)) 14 (fun _ => uu.2.2.2.2.1)) 15 (fun _ => uu.2.2.2.2.2))) (fun vv uu => vv = none ∧ POut 5 (ν 8) (ν 9) L ((lvS (lkS (μ 0)) (sgS (lkS (μ 0)) u 0) 4) p) uu.1 uu.2.1 uu.2.2.1 uu.2.2.2.1 uu.2.2.2.2.1 uu.2.2.2.2.2) := by
  refine Ct.ofV RX7 rfl (by decide +kernel) (Nat.le_of_ble_eq_true rfl) (fun X hC hR => ?_)
  have hb60 := hI.bb; have hle := hP.2.2.2.2.2
  show V X (wM k b μ ν) [(0, .ref (b 20))] [] 0
  refine V.aload_n (pc := 0) 0 hC dX7_all_0 rfl ?_
  refine V.callV0 (pc := 1) (as := []) hC (c_X7_compares_0 μ ν u L p hI hP) mu_X7_compares ml_X7_168 (by decide) ⟨0, 7, TX7, 20, _, rfl, gm_0⟩ rfl (Nat.le_of_ble_eq_true rfl) dX7_all_1 ?_
  rintro _ ⟨f1_0, f1_1, i1_2, i1_3, i1_4, i1_5⟩ ⟨rfl, hu1_0⟩
  have hu1_0 : POut 5 (ν 8) (ν 9) L ((lvS (lkS (μ 0)) (sgS (lkS (μ 0)) u 0) 3) p) f1_0 f1_1 i1_2 i1_3 i1_4 i1_5 := hu1_0
  show V X (wM k b μ (va_up (va_up (va_up (va_up (va_up (va_up ν 8 f1_0) 9 f1_1) 12 (fun _ => i1_2)) 13 (fun _ => i1_3)) 14 (fun _ => i1_4)) 15 (fun _ => i1_5))) [(0, .ref (b 20))] [] 4
  have loop_4 : ∀ (n : Nat) (x : Res) (f8 f9 : Rw) (i12 i13 i14 i15 : Int32), GR (nN (μ 0 5)) p x → POut 5 (ν 8) (ν 9) L x f8 f9 i12 i13 i14 i15 → 60 ≤ n + x.2.1 → (lvS (lkS (μ 0)) (sgS (lkS (μ 0)) u 0) 4) p = lpS (lkS (μ 0)) (lvS (lkS (μ 0)) (sgS (lkS (μ 0)) u 0) 3) 1 n x → V X (wM k b μ (va_up (va_up (va_up (va_up (va_up (va_up ν 8 f8) 9 f9) 12 (fun _ => i12)) 13 (fun _ => i13)) 14 (fun _ => i14)) 15 (fun _ => i15))) [(0, .ref (b 20))] [] 4 := by
    intro n
    induction n with
    | zero =>
      intro x f8 f9 i12 i13 i14 i15 hg hx hi hv
      have hxb := hg.2.1
      have hz : lkS (μ 0) x.2.1 = -1 := lk_tok x.2.1 (by omega)
      refine V.aload_n (pc := 4) 0 hC dX7_all_4 rfl ?_
      refine V.get (pc := 5) (v := .int i15) hC cf_X7 0 15 fl_X7_135 (by decide) gm_0 rfl dX7_all_5 ?_
      refine V.eqi (y := bdS x) (hx.2.2.1) ?_
      refine V.if_ne (pc := 8) 44 hC dX7_all_8 (by decide) (fun c_8 => ?_) (fun c_8 => ?_)
      · exact hR (f8, f9, i12, i13, i14, i15) _ _ dX7_all_44 ⟨rfl, by rw [show (lvS (lkS (μ 0)) (sgS (lkS (μ 0)) u 0) 4) p = x from hv.trans (lp_no (fun q => bd_1 c_8 q.1))]; exact hx⟩
      · refine V.aload_n (pc := 11) 0 hC dX7_all_11 rfl ?_
        refine V.callV0 (pc := 12) (as := []) hC (c_X7_look μ (va_up (va_up (va_up (va_up (va_up (va_up ν 8 f8) 9 f9) 12 (fun _ => i12)) 13 (fun _ => i13)) 14 (fun _ => i14)) 15 (fun _ => i15)) x.2.1 hI hx.1 (by omega)) mu_X7_look ml_X7_131 (by decide) ⟨0, 7, TX7, 20, _, rfl, gm_0⟩ rfl (Nat.le_of_ble_eq_true rfl) dX7_all_12 ?_
        rintro _ _ rfl
        show V X (wM k b μ (va_up (va_up (va_up (va_up (va_up (va_up ν 8 f8) 9 f9) 12 (fun _ => i12)) 13 (fun _ => i13)) 14 (fun _ => i14)) 15 (fun _ => i15))) [(0, .ref (b 20))] [.int (lkS (μ 0) x.2.1)] 15
        refine V.bipush (pc := 15) 38 hC dX7_all_15 (by decide) ?_
        refine V.icmp_ne (pc := 17) 44 hC dX7_all_17 (by decide) (fun c_17 => ?_) (fun c_17 => ?_)
        · exact hR (f8, f9, i12, i13, i14, i15) _ _ dX7_all_44 ⟨rfl, by rw [show (lvS (lkS (μ 0)) (sgS (lkS (μ 0)) u 0) 4) p = x from hv.trans (lp_no (fun q => c_17 (rk_1.mp q.2)))]; exact hx⟩
        · exact absurd c_17 (by rw [hz]; decide)
    | succ n ih =>
      intro x f8 f9 i12 i13 i14 i15 hg hx hi hv
      have hxb := hg.2.1
      refine V.aload_n (pc := 4) 0 hC dX7_all_4 rfl ?_
      refine V.get (pc := 5) (v := .int i15) hC cf_X7 0 15 fl_X7_135 (by decide) gm_0 rfl dX7_all_5 ?_
      refine V.eqi (y := bdS x) (hx.2.2.1) ?_
      refine V.if_ne (pc := 8) 44 hC dX7_all_8 (by decide) (fun c_8 => ?_) (fun c_8 => ?_)
      · exact hR (f8, f9, i12, i13, i14, i15) _ _ dX7_all_44 ⟨rfl, by rw [show (lvS (lkS (μ 0)) (sgS (lkS (μ 0)) u 0) 4) p = x from hv.trans (lp_no (fun q => bd_1 c_8 q.1))]; exact hx⟩
      · refine V.aload_n (pc := 11) 0 hC dX7_all_11 rfl ?_
        refine V.callV0 (pc := 12) (as := []) hC (c_X7_look μ (va_up (va_up (va_up (va_up (va_up (va_up ν 8 f8) 9 f9) 12 (fun _ => i12)) 13 (fun _ => i13)) 14 (fun _ => i14)) 15 (fun _ => i15)) x.2.1 hI hx.1 (by omega)) mu_X7_look ml_X7_131 (by decide) ⟨0, 7, TX7, 20, _, rfl, gm_0⟩ rfl (Nat.le_of_ble_eq_true rfl) dX7_all_12 ?_
        rintro _ _ rfl
        show V X (wM k b μ (va_up (va_up (va_up (va_up (va_up (va_up ν 8 f8) 9 f9) 12 (fun _ => i12)) 13 (fun _ => i13)) 14 (fun _ => i14)) 15 (fun _ => i15))) [(0, .ref (b 20))] [.int (lkS (μ 0) x.2.1)] 15
        refine V.bipush (pc := 15) 38 hC dX7_all_15 (by decide) ?_
        refine V.icmp_ne (pc := 17) 44 hC dX7_all_17 (by decide) (fun c_17 => ?_) (fun c_17 => ?_)
        · exact hR (f8, f9, i12, i13, i14, i15) _ _ dX7_all_44 ⟨rfl, by rw [show (lvS (lkS (μ 0)) (sgS (lkS (μ 0)) u 0) 4) p = x from hv.trans (lp_no (fun q => c_17 (rk_1.mp q.2)))]; exact hx⟩
        · have hok := bd_0 c_8
          have hgx := hg.2.2 hok
          have hrk : rkS (lkS (μ 0) x.2.1) = 1 := rk_1.mpr (c_17)
          have hlt : x.2.1 < nN (μ 0 5) := tok_lt lk_tok (rk_op hrk (by omega)).2
          have hgy := (lv_g (lk_tok (ρ := μ 0)) (sg_g (u := u) (lk_tok (ρ := μ 0)) 0) 3) (x.2.1 + 1) hlt
          have hgb := hg.2.1
          refine V.aload_n (pc := 20) 0 hC dX7_all_20 rfl ?_
          refine V.dup (pc := 21) hC dX7_all_21 rfl ?_
          refine V.get (pc := 22) (v := .int i13) hC cf_X7 0 13 fl_X7_121 (by decide) gm_0 rfl dX7_all_22 ?_
          refine V.iconst (pc := 25) 1 hC dX7_all_25 (by decide) ?_
          refine V.iadd (pc := 26) hC dX7_all_26 ?_
          refine V.put (pc := 27) (v := .int (i13 + 1)) hC cf_X7 0 13 (wM k b μ (va_up (va_up (va_up (va_up (va_up (va_up ν 8 f8) 9 f9) 12 (fun _ => i12)) 13 (fun _ => i13 + 1)) 14 (fun _ => i14)) 15 (fun _ => i15))) fl_X7_121 (by decide) gm_0 rfl rfl rfl (Nat.le_of_ble_eq_true rfl) rfl dX7_all_27 ?_
          refine V.aload_n (pc := 30) 0 hC dX7_all_30 rfl ?_
          refine V.callV0 (pc := 31) (as := []) hC (c_X7_compares_0 μ (va_up (va_up (va_up (va_up (va_up (va_up ν 8 f8) 9 f9) 12 (fun _ => i12)) 13 (fun _ => i13 + 1)) 14 (fun _ => i14)) 15 (fun _ => i15)) u (L + x.2.2.length) (x.2.1 + 1) hI ⟨hP.1, (hx.2.2.2.2 hok).1, nadd hx.1 (nl 1), hx.2.1, hx.2.2.1.trans c_8, by omega, hlt⟩) mu_X7_compares ml_X7_168 (by decide) ⟨0, 7, TX7, 20, _, rfl, gm_0⟩ rfl (Nat.le_of_ble_eq_true rfl) dX7_all_31 ?_
          rintro _ ⟨f31_0, f31_1, i31_2, i31_3, i31_4, i31_5⟩ ⟨rfl, hu31_0⟩
          have hu31_0 : POut 5 (f8) (f9) (L + x.2.2.length) ((lvS (lkS (μ 0)) (sgS (lkS (μ 0)) u 0) 3) (x.2.1 + 1)) f31_0 f31_1 i31_2 i31_3 i31_4 i31_5 := hu31_0
          show V X (wM k b μ (va_up (va_up (va_up (va_up (va_up (va_up ν 8 f31_0) 9 f31_1) 12 (fun _ => i31_2)) 13 (fun _ => i31_3)) 14 (fun _ => i31_4)) 15 (fun _ => i31_5))) [(0, .ref (b 20))] [] 34
          refine V.aload_n (pc := 34) 0 hC dX7_all_34 rfl ?_
          refine V.bipush (pc := 35) 38 hC dX7_all_35 (by decide) ?_
          refine V.iconst (pc := 37) 0 hC dX7_all_37 (by decide) ?_
          refine V.callV0 (pc := 38) (as := [.int 38, .int 0]) hC (c_X7_step μ (va_up (va_up (va_up (va_up (va_up (va_up ν 8 f31_0) 9 f31_1) 12 (fun _ => i31_2)) 13 (fun _ => i31_3)) 14 (fun _ => i31_4)) 15 (fun _ => i31_5)) 38 0 hu31_0.2.2.2.1) mu_X7_step ml_X7_139 (by decide) ⟨0, 7, TX7, 20, _, rfl, gm_0⟩ rfl (Nat.le_of_ble_eq_true rfl) dX7_all_38 ?_
          rintro _ ⟨f38_0, f38_1, i38_2⟩ ⟨rfl, hu38_0⟩
          have hu38_0 : StF (f31_0) (f31_1) (i31_2) 38 0 f38_0 f38_1 i38_2 := hu38_0
          show V X (wM k b μ (va_up (va_up (va_up (va_up (va_up (va_up ν 8 f38_0) 9 f38_1) 12 (fun _ => i38_2)) 13 (fun _ => i31_3)) 14 (fun _ => i31_4)) 15 (fun _ => i31_5))) [(0, .ref (b 20))] [] 41
          refine V.goto (pc := 41) 4 hC dX7_all_41 (by decide) ?_
          exact V.sub [0] rfl (ih (appS x ((lvS (lkS (μ 0)) (sgS (lkS (μ 0)) u 0) 3) (x.2.1 + 1)) (lkS (μ 0) x.2.1)) f38_0 f38_1 i38_2 i31_3 i31_4 i31_5 (hg.app hok hgy (rk_op hrk (by omega)).1) (PO_app hx hok hu31_0 (by rw [c_17]; exact hu38_0) (fun q => by have := hgy.2.2 q; have := hgy.2.1; omega)) (by have := hgy.1; show 60 ≤ n + ((lvS (lkS (μ 0)) (sgS (lkS (μ 0)) u 0) 3) (x.2.1 + 1)).2.1; omega) (hv.trans (lp_yes ⟨hok, hrk⟩)))
  exact V.sub [0] rfl (loop_4 60 ((lvS (lkS (μ 0)) (sgS (lkS (μ 0)) u 0) 3) p) f1_0 f1_1 i1_2 i1_3 i1_4 i1_5 ((lv_g (lk_tok (ρ := μ 0)) (sg_g (u := u) (lk_tok (ρ := μ 0)) 0) 3) p (by omega)) hu1_0 (by omega) rfl)
set_option maxHeartbeats 4000000 in
set_option maxRecDepth 100000 in
theorem c_X7_any_0 {l : Launch} {D : va_G} {k : Nat → ClassId} {g b : Nat → Nat} (μ ν : St) (u : Int32) (L p : Nat) (hI : Inv (μ 0)) (hP : PIn (nN (μ 0 5)) (ν 12 0) (ν 13 0) (ν 14 0) (ν 15 0) (ν 16 0) u 5 L p) : Ct l D k g yX7_any cX7_any 1 none 7 149 [.ref (b 20)] (S := Rw × Rw × Int32 × Int32 × Int32 × Int32) (wM k b μ ν) (fun uu => wM k b μ (va_up (va_up (va_up (va_up (va_up (va_up ν 8 uu.1) 9 uu.2.1) 12 (fun _ => uu.2.2.1)) 13 (fun _ => uu.2.2.2.1)) 14 (fun _ => uu.2.2.2.2.1)) 15 (fun _ => uu.2.2.2.2.2))) (fun vv uu => vv = none ∧ POut 5 (ν 8) (ν 9) L ((lvS (lkS (μ 0)) (sgS (lkS (μ 0)) u 0) 5) p) uu.1 uu.2.1 uu.2.2.1 uu.2.2.2.1 uu.2.2.2.2.1 uu.2.2.2.2.2) := by
  refine Ct.ofV RX7 rfl (by decide +kernel) (Nat.le_of_ble_eq_true rfl) (fun X hC hR => ?_)
  have hb60 := hI.bb; have hle := hP.2.2.2.2.2
  show V X (wM k b μ ν) [(0, .ref (b 20))] [] 0
  refine V.aload_n (pc := 0) 0 hC dX7_any_0 rfl ?_
  refine V.callV0 (pc := 1) (as := []) hC (c_X7_all_0 μ ν u L p hI hP) mu_X7_all ml_X7_171 (by decide) ⟨0, 7, TX7, 20, _, rfl, gm_0⟩ rfl (Nat.le_of_ble_eq_true rfl) dX7_any_1 ?_
  rintro _ ⟨f1_0, f1_1, i1_2, i1_3, i1_4, i1_5⟩ ⟨rfl, hu1_0⟩
  have hu1_0 : POut 5 (ν 8) (ν 9) L ((lvS (lkS (μ 0)) (sgS (lkS (μ 0)) u 0) 4) p) f1_0 f1_1 i1_2 i1_3 i1_4 i1_5 := hu1_0
  show V X (wM k b μ (va_up (va_up (va_up (va_up (va_up (va_up ν 8 f1_0) 9 f1_1) 12 (fun _ => i1_2)) 13 (fun _ => i1_3)) 14 (fun _ => i1_4)) 15 (fun _ => i1_5))) [(0, .ref (b 20))] [] 4
  have loop_4 : ∀ (n : Nat) (x : Res) (f8 f9 : Rw) (i12 i13 i14 i15 : Int32), GR (nN (μ 0 5)) p x → POut 5 (ν 8) (ν 9) L x f8 f9 i12 i13 i14 i15 → 60 ≤ n + x.2.1 → (lvS (lkS (μ 0)) (sgS (lkS (μ 0)) u 0) 5) p = lpS (lkS (μ 0)) (lvS (lkS (μ 0)) (sgS (lkS (μ 0)) u 0) 4) 0 n x → V X (wM k b μ (va_up (va_up (va_up (va_up (va_up (va_up ν 8 f8) 9 f9) 12 (fun _ => i12)) 13 (fun _ => i13)) 14 (fun _ => i14)) 15 (fun _ => i15))) [(0, .ref (b 20))] [] 4 := by
    intro n
    induction n with
    | zero =>
      intro x f8 f9 i12 i13 i14 i15 hg hx hi hv
      have hxb := hg.2.1
      have hz : lkS (μ 0) x.2.1 = -1 := lk_tok x.2.1 (by omega)
      refine V.aload_n (pc := 4) 0 hC dX7_any_4 rfl ?_
      refine V.get (pc := 5) (v := .int i15) hC cf_X7 0 15 fl_X7_135 (by decide) gm_0 rfl dX7_any_5 ?_
      refine V.eqi (y := bdS x) (hx.2.2.1) ?_
      refine V.if_ne (pc := 8) 44 hC dX7_any_8 (by decide) (fun c_8 => ?_) (fun c_8 => ?_)
      · exact hR (f8, f9, i12, i13, i14, i15) _ _ dX7_any_44 ⟨rfl, by rw [show (lvS (lkS (μ 0)) (sgS (lkS (μ 0)) u 0) 5) p = x from hv.trans (lp_no (fun q => bd_1 c_8 q.1))]; exact hx⟩
      · refine V.aload_n (pc := 11) 0 hC dX7_any_11 rfl ?_
        refine V.callV0 (pc := 12) (as := []) hC (c_X7_look μ (va_up (va_up (va_up (va_up (va_up (va_up ν 8 f8) 9 f9) 12 (fun _ => i12)) 13 (fun _ => i13)) 14 (fun _ => i14)) 15 (fun _ => i15)) x.2.1 hI hx.1 (by omega)) mu_X7_look ml_X7_131 (by decide) ⟨0, 7, TX7, 20, _, rfl, gm_0⟩ rfl (Nat.le_of_ble_eq_true rfl) dX7_any_12 ?_
        rintro _ _ rfl
        show V X (wM k b μ (va_up (va_up (va_up (va_up (va_up (va_up ν 8 f8) 9 f9) 12 (fun _ => i12)) 13 (fun _ => i13)) 14 (fun _ => i14)) 15 (fun _ => i15))) [(0, .ref (b 20))] [.int (lkS (μ 0) x.2.1)] 15
        refine V.bipush (pc := 15) 124 hC dX7_any_15 (by decide) ?_
        refine V.icmp_ne (pc := 17) 44 hC dX7_any_17 (by decide) (fun c_17 => ?_) (fun c_17 => ?_)
        · exact hR (f8, f9, i12, i13, i14, i15) _ _ dX7_any_44 ⟨rfl, by rw [show (lvS (lkS (μ 0)) (sgS (lkS (μ 0)) u 0) 5) p = x from hv.trans (lp_no (fun q => c_17 (rk_0.mp q.2)))]; exact hx⟩
        · exact absurd c_17 (by rw [hz]; decide)
    | succ n ih =>
      intro x f8 f9 i12 i13 i14 i15 hg hx hi hv
      have hxb := hg.2.1
      refine V.aload_n (pc := 4) 0 hC dX7_any_4 rfl ?_
      refine V.get (pc := 5) (v := .int i15) hC cf_X7 0 15 fl_X7_135 (by decide) gm_0 rfl dX7_any_5 ?_
      refine V.eqi (y := bdS x) (hx.2.2.1) ?_
      refine V.if_ne (pc := 8) 44 hC dX7_any_8 (by decide) (fun c_8 => ?_) (fun c_8 => ?_)
      · exact hR (f8, f9, i12, i13, i14, i15) _ _ dX7_any_44 ⟨rfl, by rw [show (lvS (lkS (μ 0)) (sgS (lkS (μ 0)) u 0) 5) p = x from hv.trans (lp_no (fun q => bd_1 c_8 q.1))]; exact hx⟩
      · refine V.aload_n (pc := 11) 0 hC dX7_any_11 rfl ?_
        refine V.callV0 (pc := 12) (as := []) hC (c_X7_look μ (va_up (va_up (va_up (va_up (va_up (va_up ν 8 f8) 9 f9) 12 (fun _ => i12)) 13 (fun _ => i13)) 14 (fun _ => i14)) 15 (fun _ => i15)) x.2.1 hI hx.1 (by omega)) mu_X7_look ml_X7_131 (by decide) ⟨0, 7, TX7, 20, _, rfl, gm_0⟩ rfl (Nat.le_of_ble_eq_true rfl) dX7_any_12 ?_
        rintro _ _ rfl
        show V X (wM k b μ (va_up (va_up (va_up (va_up (va_up (va_up ν 8 f8) 9 f9) 12 (fun _ => i12)) 13 (fun _ => i13)) 14 (fun _ => i14)) 15 (fun _ => i15))) [(0, .ref (b 20))] [.int (lkS (μ 0) x.2.1)] 15
        refine V.bipush (pc := 15) 124 hC dX7_any_15 (by decide) ?_
        refine V.icmp_ne (pc := 17) 44 hC dX7_any_17 (by decide) (fun c_17 => ?_) (fun c_17 => ?_)
        · exact hR (f8, f9, i12, i13, i14, i15) _ _ dX7_any_44 ⟨rfl, by rw [show (lvS (lkS (μ 0)) (sgS (lkS (μ 0)) u 0) 5) p = x from hv.trans (lp_no (fun q => c_17 (rk_0.mp q.2)))]; exact hx⟩
        · have hok := bd_0 c_8
          have hgx := hg.2.2 hok
          have hrk : rkS (lkS (μ 0) x.2.1) = 0 := rk_0.mpr (c_17)
          have hlt : x.2.1 < nN (μ 0 5) := tok_lt lk_tok (rk_op hrk (by omega)).2
          have hgy := (lv_g (lk_tok (ρ := μ 0)) (sg_g (u := u) (lk_tok (ρ := μ 0)) 0) 4) (x.2.1 + 1) hlt
          have hgb := hg.2.1
          refine V.aload_n (pc := 20) 0 hC dX7_any_20 rfl ?_
          refine V.dup (pc := 21) hC dX7_any_21 rfl ?_
          refine V.get (pc := 22) (v := .int i13) hC cf_X7 0 13 fl_X7_121 (by decide) gm_0 rfl dX7_any_22 ?_
          refine V.iconst (pc := 25) 1 hC dX7_any_25 (by decide) ?_
          refine V.iadd (pc := 26) hC dX7_any_26 ?_
          refine V.put (pc := 27) (v := .int (i13 + 1)) hC cf_X7 0 13 (wM k b μ (va_up (va_up (va_up (va_up (va_up (va_up ν 8 f8) 9 f9) 12 (fun _ => i12)) 13 (fun _ => i13 + 1)) 14 (fun _ => i14)) 15 (fun _ => i15))) fl_X7_121 (by decide) gm_0 rfl rfl rfl (Nat.le_of_ble_eq_true rfl) rfl dX7_any_27 ?_
          refine V.aload_n (pc := 30) 0 hC dX7_any_30 rfl ?_
          refine V.callV0 (pc := 31) (as := []) hC (c_X7_all_0 μ (va_up (va_up (va_up (va_up (va_up (va_up ν 8 f8) 9 f9) 12 (fun _ => i12)) 13 (fun _ => i13 + 1)) 14 (fun _ => i14)) 15 (fun _ => i15)) u (L + x.2.2.length) (x.2.1 + 1) hI ⟨hP.1, (hx.2.2.2.2 hok).1, nadd hx.1 (nl 1), hx.2.1, hx.2.2.1.trans c_8, by omega, hlt⟩) mu_X7_all ml_X7_171 (by decide) ⟨0, 7, TX7, 20, _, rfl, gm_0⟩ rfl (Nat.le_of_ble_eq_true rfl) dX7_any_31 ?_
          rintro _ ⟨f31_0, f31_1, i31_2, i31_3, i31_4, i31_5⟩ ⟨rfl, hu31_0⟩
          have hu31_0 : POut 5 (f8) (f9) (L + x.2.2.length) ((lvS (lkS (μ 0)) (sgS (lkS (μ 0)) u 0) 4) (x.2.1 + 1)) f31_0 f31_1 i31_2 i31_3 i31_4 i31_5 := hu31_0
          show V X (wM k b μ (va_up (va_up (va_up (va_up (va_up (va_up ν 8 f31_0) 9 f31_1) 12 (fun _ => i31_2)) 13 (fun _ => i31_3)) 14 (fun _ => i31_4)) 15 (fun _ => i31_5))) [(0, .ref (b 20))] [] 34
          refine V.aload_n (pc := 34) 0 hC dX7_any_34 rfl ?_
          refine V.bipush (pc := 35) 124 hC dX7_any_35 (by decide) ?_
          refine V.iconst (pc := 37) 0 hC dX7_any_37 (by decide) ?_
          refine V.callV0 (pc := 38) (as := [.int 124, .int 0]) hC (c_X7_step μ (va_up (va_up (va_up (va_up (va_up (va_up ν 8 f31_0) 9 f31_1) 12 (fun _ => i31_2)) 13 (fun _ => i31_3)) 14 (fun _ => i31_4)) 15 (fun _ => i31_5)) 124 0 hu31_0.2.2.2.1) mu_X7_step ml_X7_139 (by decide) ⟨0, 7, TX7, 20, _, rfl, gm_0⟩ rfl (Nat.le_of_ble_eq_true rfl) dX7_any_38 ?_
          rintro _ ⟨f38_0, f38_1, i38_2⟩ ⟨rfl, hu38_0⟩
          have hu38_0 : StF (f31_0) (f31_1) (i31_2) 124 0 f38_0 f38_1 i38_2 := hu38_0
          show V X (wM k b μ (va_up (va_up (va_up (va_up (va_up (va_up ν 8 f38_0) 9 f38_1) 12 (fun _ => i38_2)) 13 (fun _ => i31_3)) 14 (fun _ => i31_4)) 15 (fun _ => i31_5))) [(0, .ref (b 20))] [] 41
          refine V.goto (pc := 41) 4 hC dX7_any_41 (by decide) ?_
          exact V.sub [0] rfl (ih (appS x ((lvS (lkS (μ 0)) (sgS (lkS (μ 0)) u 0) 4) (x.2.1 + 1)) (lkS (μ 0) x.2.1)) f38_0 f38_1 i38_2 i31_3 i31_4 i31_5 (hg.app hok hgy (rk_op hrk (by omega)).1) (PO_app hx hok hu31_0 (by rw [c_17]; exact hu38_0) (fun q => by have := hgy.2.2 q; have := hgy.2.1; omega)) (by have := hgy.1; show 60 ≤ n + ((lvS (lkS (μ 0)) (sgS (lkS (μ 0)) u 0) 4) (x.2.1 + 1)).2.1; omega) (hv.trans (lp_yes ⟨hok, hrk⟩)))
  exact V.sub [0] rfl (loop_4 60 ((lvS (lkS (μ 0)) (sgS (lkS (μ 0)) u 0) 4) p) f1_0 f1_1 i1_2 i1_3 i1_4 i1_5 ((lv_g (lk_tok (ρ := μ 0)) (sg_g (u := u) (lk_tok (ρ := μ 0)) 0) 4) p (by omega)) hu1_0 (by omega) rfl)
