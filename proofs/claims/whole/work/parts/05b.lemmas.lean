theorem run_next {f : Nat → Int32 → Int32} {n i : Nat} {s s' v : Int32} (hv : v = run f (n + 1) i s) (h : f i s = s') : v = run f n (i + 1) s' := by rw [hv, ← h]; rfl
theorem srch_go {p : Nat → Bool} {n i v : Nat} (hv : v = srch p (n + 1) i) (h : ¬ p i = true) : v = srch p n (i + 1) := by rw [hv]; exact srch_f h
theorem srch_at {p : Nat → Bool} {n i v : Nat} (hv : v = srch p (n + 1) i) (h : p i = true) : v = i := by rw [hv]; exact srch_t h
theorem isOp_ne {w : Int32} (h : isOp w) : ¬ w = 1 ∧ ¬ w = 2 ∧ ¬ w = 3 := by rcases h with h | h | h | h | h | h | h | h | h | h <;> subst h <;> decide
theorem wf_push {ac wi : Rw} {n j d : Nat} (h : wfC ac wi (n + 1) j d) (e : ac j = 1) : wfC ac wi n (j + 1) (d + 1) := by
  rcases h with h | h | h | h
  · exact h.2
  · exact absurd (e.symm.trans h.1.1) (by decide)
  · exact absurd (e.symm.trans h.1.1) (by decide)
  · exact absurd e (isOp_ne h.1.1).1
theorem wf_nam {ac wi : Rw} {n j d : Nat} (h : wfC ac wi (n + 1) j d) (e : ac j = 2) : isN (wi j) 2 ∧ wfC ac wi n (j + 1) (d + 1) := by
  rcases h with h | h | h | h
  · exact absurd (e.symm.trans h.1) (by decide)
  · exact ⟨h.1.2, h.2⟩
  · exact absurd (e.symm.trans h.1.1) (by decide)
  · exact absurd e (isOp_ne h.1.1).2.1
theorem wf_dny {ac wi : Rw} {n j d : Nat} (h : wfC ac wi (n + 1) j d) (e : ac j = 3) : 1 ≤ d ∧ wfC ac wi n (j + 1) d := by
  rcases h with h | h | h | h
  · exact absurd (e.symm.trans h.1) (by decide)
  · exact absurd (e.symm.trans h.1.1) (by decide)
  · exact ⟨h.1.2, h.2⟩
  · exact absurd e (isOp_ne h.1.1).2.2
theorem wf_op {ac wi : Rw} {n j d : Nat} (h : wfC ac wi (n + 1) j d) (e1 : ¬ ac j = 1) (e2 : ¬ ac j = 2) (e3 : ¬ ac j = 3) : isOp (ac j) ∧ 2 ≤ d ∧ wfC ac wi n (j + 1) (d - 1) := by
  rcases h with h | h | h | h
  · exact absurd h.1 e1
  · exact absurd h.1.1 e2
  · exact absurd h.1.1 e3
  · exact ⟨h.1.1, h.1.2, h.2⟩
theorem ev_push {ac wi : Rw} {fc : Nat → Int32} {n j : Nat} {st : List Int32} (e : ac j = 1) : ev ac wi fc (n + 1) j st = ev ac wi fc n (j + 1) (wi j :: st) := by simp [ev, e]
theorem ev_nam {ac wi : Rw} {fc : Nat → Int32} {n j : Nat} {st : List Int32} (e : ac j = 2) : ev ac wi fc (n + 1) j st = ev ac wi fc n (j + 1) (fc (nN (wi j)) :: st) := by simp [ev, e]
theorem ev_dny {ac wi : Rw} {fc : Nat → Int32} {n j : Nat} {x : Int32} {r : List Int32} (e : ac j = 3) : ev ac wi fc (n + 1) j (x :: r) = ev ac wi fc n (j + 1) (dnyS x :: r) := by simp [ev, e]
theorem ev_op {ac wi : Rw} {fc : Nat → Int32} {n j : Nat} {x y : Int32} {r : List Int32} (e1 : ¬ ac j = 1) (e2 : ¬ ac j = 2) (e3 : ¬ ac j = 3) : ev ac wi fc (n + 1) j (y :: x :: r) = ev ac wi fc n (j + 1) (twoS (ac j) x y :: r) := by simp [ev, e1, e2, e3]
theorem ev_fc {ac wi : Rw} {fc fc' : Nat → Int32} (hf : ∀ i, i ≤ 2 → fc i = fc' i) : ∀ (n j d : Nat) (st : List Int32), wfC ac wi n j d → ev ac wi fc n j st = ev ac wi fc' n j st := by
  intro n
  induction n with
  | zero => intro j d st _; rfl
  | succ n ih =>
    intro j d st h
    by_cases e1 : ac j = 1
    · rw [ev_push e1, ev_push e1]; exact ih _ _ _ (wf_push h e1)
    · by_cases e2 : ac j = 2
      · have hw := wf_nam h e2
        rw [ev_nam e2, ev_nam e2, hf _ hw.1.2]; exact ih _ _ _ hw.2
      · by_cases e3 : ac j = 3
        · simp only [ev, e1, e2, e3, if_true, if_false]; exact ih _ _ _ (wf_dny h e3).2
        · simp only [ev, e1, e2, e3, if_false]; exact ih _ _ _ (wf_op h e1 e2 e3).2.2
theorem len_1 {st : List Int32} (h : 1 ≤ st.length) : ∃ x r, st = x :: r := by
  cases st with
  | nil => simp at h
  | cons x r => exact ⟨x, r, rfl⟩
theorem len_2 {st : List Int32} (h : 2 ≤ st.length) : ∃ y x r, st = y :: x :: r := by
  obtain ⟨y, r, rfl⟩ := len_1 (by omega : 1 ≤ st.length)
  obtain ⟨x, r, rfl⟩ := len_1 (st := r) (by simp only [List.length_cons] at h; omega)
  exact ⟨y, x, r, rfl⟩
theorem fct3 {f : Rw} {x y z : Int32} : ∀ i, i ≤ 2 → upd (upd (upd f 0 x) 1 y) 2 z i = fctS x y z i := by
  intro i hi
  rcases (show i = 0 ∨ i = 1 ∨ i = 2 by omega) with rfl | rfl | rfl <;> simp [upd, fctS]
theorem ev_end {f : Rw} {sk : List Int32} {v : Int32} (hf : sk.length = 1) (hp : pileOf f sk) (hv : v = sk.headD 0) : f 0 = v := by
  obtain ⟨x, r, rfl⟩ := len_1 (by omega : 1 ≤ sk.length)
  have hr : r.length = 0 := by simp only [List.length_cons] at hf; omega
  rw [hv]; have := hp.1; rw [hr] at this; exact this
def onwF (ρ : Rw) (p : Nat) (set t lp : Int32) (x : Nat) : Nat → Int32 → Int32 := fun y nx => nx ||| (if (bitS set (nI x) = 1 ∧ bitS nx (nI y) = 0) ∧ reachS ρ p x y t lp then b1 (nI y) else 0)
def onwS (ρ : Rw) (p : Nat) (set t lp : Int32) : Int32 := run (fun x nx => run (onwF ρ p set t lp x) (nN (ρ 3)) 0 nx) (nN (ρ 3)) 0 set
def onwardS (ρ : Rw) (p : Nat) (set t : Int32) : Int32 := onwS ρ p set t (leapsS ρ p t)
def roomsByS (ρ : Rw) (p n : Nat) : Int32 := run (fun i s => onwardS ρ p s (ρ 0 + nI i)) n 0 (b1 (ρ (33 + 3 * p)))
/-- the houses to which one gets from house x at t -/
def wayS (ρ : Rw) (p x : Nat) (t : Int32) : Int32 := run (fun y s => s ||| (if reachS ρ p x y t (leapsS ρ p t) then b1 (nI y) else 0)) (nN (ρ 3)) 0 0
def butF (ρ : Rw) (re : Rw) (i : Nat) (shut set : Int32) : Nat → Int32 → Int32 := fun x nx => nx ||| (if bitS set (nI x) = 1 then re (8 * i + x) &&& (shut ^^^ (-1)) else 0)
def roomsButS (ρ : Rw) (re : Rw) (p n : Nat) (shut : Int32) : Int32 := run (fun i s => run (butF ρ re i shut s) (nN (ρ 3)) 0 s) n 0 (b1 (ρ (33 + 3 * p)))
theorem stc {x y : Int32} {s s' : List Value} (h : x = y) (t : s = s') : Value.int x :: s = Value.int y :: s' := by rw [h, t]
theorem stk {v : Value} {s s' : List Value} (t : s = s') : v :: s = v :: s' := by rw [t]
