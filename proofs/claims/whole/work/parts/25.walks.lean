/-! sets of houses -/
theorem run_bt {f : Nat → Int32 → Int32} {c : Nat → Prop} {j : Nat} : ∀ (n i : Nat) (s : Int32), (∀ k s, i ≤ k → k < i + n → (bt (f k s) j = true ↔ bt s j = true ∨ c k)) → (bt (run f n i s) j = true ↔ bt s j = true ∨ ∃ k, i ≤ k ∧ k < i + n ∧ c k) := by
  intro n
  induction n with
  | zero => intro i s _; exact ⟨Or.inl, fun h => h.elim id (fun ⟨k, h1, h2, _⟩ => absurd h2 (by omega))⟩
  | succ n ih =>
    intro i s h
    have h0 := h i s (Nat.le_refl i) (by omega)
    have h1 := ih (i + 1) (f i s) (fun k s h1 h2 => h k s (by omega) (by omega))
    show bt (run f n (i + 1) (f i s)) j = true ↔ _
    rw [h1, h0]
    constructor
    · rintro ((h | h) | ⟨k, h2, h3, h4⟩)
      · exact Or.inl h
      · exact Or.inr ⟨i, Nat.le_refl i, by omega, h⟩
      · exact Or.inr ⟨k, by omega, by omega, h4⟩
    · rintro (h | ⟨k, h2, h3, h4⟩)
      · exact Or.inl (Or.inl h)
      · by_cases e : k = i
        · subst e; exact Or.inl (Or.inr h4)
        · exact Or.inr ⟨k, by omega, by omega, h4⟩
theorem bt_or {x y : Int32} {j : Nat} : bt (x ||| y) j = true ↔ bt x j = true ∨ bt y j = true := by rw [b_or, Bool.or_eq_true]
theorem bt_and {x y : Int32} {j : Nat} : bt (x &&& y) j = true ↔ bt x j = true ∧ bt y j = true := by rw [b_and, Bool.and_eq_true]
theorem bt_b1 {i j : Nat} (hi : i < 32) (hj : j < 32) : bt (b1 (nI i)) j = true ↔ j = i := by rw [b_b1 hi hj, decide_eq_true_eq]
theorem bt_if {P : Prop} [Decidable P] {x : Int32} {j : Nat} : bt (if P then x else 0) j = true ↔ P ∧ bt x j = true := by
  by_cases h : P
  · rw [if_pos h]; exact ⟨fun q => ⟨h, q⟩, fun q => q.2⟩
  · rw [if_neg h, b_0]; exact ⟨fun q => absurd q (by decide), fun q => absurd q.1 h⟩
theorem bt_ext {x y : Int32} (h : ∀ j, j < 32 → (bt x j = true ↔ bt y j = true)) : x = y := b_ext (fun j hj => by
  have := h j hj
  cases hx : bt x j <;> cases hy : bt y j <;> simp_all)
theorem or_self_0 {x : Int32} : x ||| 0 = x := by simp
theorem hom_bt {ρ : Rw} (hI : Inv ρ) {h : Int32} {j : Nat} (hj : j < 32) : bt (homesOnS ρ h) j = true ↔ j < nN (ρ 3) ∧ ρ (15 + 2 * j) = h := by
  have hb := hI.mb
  unfold homesOnS
  rw [run_bt (c := fun k => ρ (15 + 2 * k) = h ∧ j = k) _ _ _ (fun k s h1 h2 => by rw [bt_or, bt_if, bt_b1 (by omega) hj])]
  rw [b_0]
  constructor
  · rintro (h | ⟨k, h1, h2, h3, h4⟩)
    · exact absurd h (by decide)
    · subst h4; exact ⟨by omega, h3⟩
  · rintro ⟨h1, h2⟩
    exact Or.inr ⟨j, by omega, by omega, h2, rfl⟩
theorem way_bt {ρ : Rw} (hI : Inv ρ) {p x : Nat} {t : Int32} {j : Nat} (hj : j < 32) : bt (wayS ρ p x t) j = true ↔ j < nN (ρ 3) ∧ reachS ρ p x j t (leapsS ρ p t) := by
  have hb := hI.mb
  unfold wayS
  rw [run_bt (c := fun k => reachS ρ p x k t (leapsS ρ p t) ∧ j = k) _ _ _ (fun k s h1 h2 => by rw [bt_or, bt_if, bt_b1 (by omega) hj])]
  rw [b_0]
  constructor
  · rintro (h | ⟨k, h1, h2, h3, h4⟩)
    · exact absurd h (by decide)
    · subst h4; exact ⟨by omega, h3⟩
  · rintro ⟨h1, h2⟩
    exact Or.inr ⟨j, by omega, by omega, h2, rfl⟩
def stpS (ρ : Rw) (W : Nat → Int32) (set : Int32) : Int32 := run (fun x nx => nx ||| (if bitS set (nI x) = 1 then W x else 0)) (nN (ρ 3)) 0 set
theorem stp_bt {ρ : Rw} (hI : Inv ρ) {W : Nat → Int32} {set : Int32} {j : Nat} : bt (stpS ρ W set) j = true ↔ bt set j = true ∨ ∃ x, x < nN (ρ 3) ∧ bt set x = true ∧ bt (W x) j = true := by
  have hb := hI.mb
  unfold stpS
  rw [run_bt (c := fun x => bitS set (nI x) = 1 ∧ bt (W x) j = true) _ _ _ (fun k s h1 h2 => by rw [bt_or, bt_if])]
  constructor
  · rintro (h | ⟨k, h1, h2, h3, h4⟩)
    · exact Or.inl h
    · exact Or.inr ⟨k, by omega, (bit_1 (by omega)).mp h3, h4⟩
  · rintro (h | ⟨k, h1, h2, h3⟩)
    · exact Or.inl h
    · exact Or.inr ⟨k, by omega, by omega, (bit_1 (by omega)).mpr h2, h3⟩
theorem onw_stp {ρ : Rw} (hI : Inv ρ) {p : Nat} {set t : Int32} : onwardS ρ p set t = stpS ρ (fun x => wayS ρ p x t) set := by
  have hb := hI.mb
  apply bt_ext
  intro j hj
  rw [stp_bt hI]
  unfold onwardS onwS
  rw [run_bt (c := fun x => bt set x = true ∧ j < nN (ρ 3) ∧ reachS ρ p x j t (leapsS ρ p t)) _ _ _ (fun k s h1 h2 => by
    rw [run_bt (c := fun y => (bt set k = true ∧ reachS ρ p k y t (leapsS ρ p t)) ∧ j = y) _ _ _ (fun y nx h3 h4 => by
      unfold onwF
      rw [bt_or, bt_if, bt_b1 (by omega) hj, bit_1 (by omega)]
      constructor
      · rintro (h | ⟨⟨⟨h5, h6⟩, h7⟩, h8⟩)
        · exact Or.inl h
        · exact Or.inr ⟨⟨h5, h7⟩, h8⟩
      · rintro (h | ⟨⟨h5, h6⟩, h7⟩)
        · exact Or.inl h
        · subst h7
          by_cases h8 : bt nx j = true
          · exact Or.inl h8
          · exact Or.inr ⟨⟨⟨h5, (bit_0 (by omega)).mpr (by simpa using h8)⟩, h6⟩, rfl⟩)]
    constructor
    · rintro (h | ⟨y, h3, h4, ⟨h5, h6⟩, h7⟩)
      · exact Or.inl h
      · subst h7; exact Or.inr ⟨h5, by omega, h6⟩
    · rintro (h | ⟨h5, h6, h7⟩)
      · exact Or.inl h
      · exact Or.inr ⟨j, by omega, by omega, ⟨h5, h7⟩, rfl⟩)]
  constructor
  · rintro (h | ⟨x, h1, h2, h3, h4, h5⟩)
    · exact Or.inl h
    · exact Or.inr ⟨x, by omega, h3, (way_bt hI hj).mpr ⟨h4, h5⟩⟩
  · rintro (h | ⟨x, h1, h2, h3⟩)
    · exact Or.inl h
    · have h4 := (way_bt hI hj).mp h3
      exact Or.inr ⟨x, by omega, by omega, h2, h4⟩
/-- the houses no more unlike house x than one's spans -/
def AL (ρ : Rw) (p : Nat) (f : Rw) : Prop := ∀ x, x < nN (ρ 3) → ∀ j, j < 32 → (bt (f x) j = true ↔ j < nN (ρ 3) ∧ absS (ρ (16 + 2 * x) - ρ (16 + 2 * j)) ≤ spansS ρ p)
def RD (ρ : Rw) (f : Rw) : Prop := ∀ h, h < nN (ρ 2) → f h = homesOnS ρ (nI h)
/-- hands below i, seen from the hands below n -/
def NR (ρ : Rw) (t lp : Int32) (i : Nat) (f : Rw) : Prop := ∀ h, h < i → ∀ j, j < 32 → (bt (f h) j = true ↔ ∃ g, g < i ∧ (g = h ∨ apartS ρ h g t ≤ lp) ∧ bt (homesOnS ρ (nI g)) j = true)
theorem apart_sy {ρ : Rw} (hI : Inv ρ) {x y : Nat} (hx : x < nN (ρ 2)) (hy : y < nN (ρ 2)) {t : Int32} (ht : isN t 100000) : apartS ρ x y t = apartS ρ y x t := by
  have h1 := (mark_n hI hx ht).1
  have h2 := (mark_n hI hy ht).1
  obtain ⟨q, hq, hqb⟩ : ∃ q, markS ρ x t = nI q ∧ q ≤ 59 := ⟨_, h1.1, h1.2⟩
  obtain ⟨c, hc, hcb⟩ : ∃ c, markS ρ y t = nI c ∧ c ≤ 59 := ⟨_, h2.1, h2.2⟩
  unfold apartS
  rw [hq, hc]
  have hs : ∀ a, a < 60 → ∀ c, c < 60 → absS (nI a - nI c) = absS (nI c - nI a) := by decide +kernel
  rw [hs q (by omega) c (by omega)]
theorem held_nn {v q : Int32} (hq : 0 ≤ q) : 0 ≤ heldS v 0 q := by
  unfold heldS
  by_cases h : v < 0
  · rw [if_pos h]; exact Int32.le_refl 0
  · rw [if_neg h]
    by_cases h2 : q < v
    · rw [if_pos h2]; exact hq
    · rw [if_neg h2]; exact i_nlt h
theorem held_30 {v : Int32} : isN (heldS v 0 30) 30 := by
  have h0 : 0 ≤ heldS v 0 30 := held_nn (by decide)
  have h1 : heldS v 0 30 ≤ 30 := by
    unfold heldS
    by_cases h : v < 0
    · rw [if_pos h]; decide
    · rw [if_neg h]
      by_cases h2 : (30 : Int32) < v
      · rw [if_pos h2]; decide
      · rw [if_neg h2]; exact i_nlt h2
  have := inS_c (v := heldS v 0 30) (M := 30) ⟨h0, h1⟩ (nl 30) (by omega)
  exact this
theorem leaps_nn {ρ : Rw} (hI : Inv ρ) {p : Nat} (hp : p < nN (ρ 4)) {t : Int32} : 0 ≤ leapsS ρ p t := by
  have hg : isN (givesS ρ 0 (ρ (32 + 3 * p)) t (ρ 3)) 30 := by unfold givesS; rw [if_pos rfl]; exact held_30
  have hm := hI.nn hp
  have hmb := hI.nb hp
  obtain ⟨v, hv, hvb⟩ : ∃ v, givesS ρ 0 (ρ (32 + 3 * p)) t (ρ 3) = nI v ∧ v ≤ 30 := ⟨_, hg.1, hg.2⟩
  unfold leapsS leapV
  rw [hv, hm, show (2 : Int32) = nI 2 from rfl, show (1 : Int32) = nI 1 from rfl, show (30 : Int32) = nI 30 from rfl]
  have hd : nI v / nI 2 = nI (v / 2) := pk_div (by omega) (by omega) (by omega)
  rw [hd]
  simp only [nI_add]
  have hn : ∀ q, q < 1000 → 0 ≤ nI q := fun q hq => nI_pos' (by omega)
  (repeat' split) <;> exact hn _ (by omega)
theorem way_eq {ρ : Rw} (hI : Inv ρ) {p : Nat} (hp : p < nN (ρ 4)) {t : Int32} (ht : isN t 100000) {al nr : Rw} (ha : AL ρ p al) (hn : NR ρ t (leapsS ρ p t) (nN (ρ 2)) nr) {x : Nat} (hx : x < nN (ρ 3)) : al x &&& nr (nN (ρ (15 + 2 * x))) = wayS ρ p x t := by
  have hb := hI.mb
  have hb4 := hI.hb
  have hr := hI.rb hx
  apply bt_ext
  intro j hj
  rw [bt_and, way_bt hI hj, ha x hx j hj, hn _ hr j hj]
  constructor
  · rintro ⟨⟨h1, h2⟩, g, h3, h4, h5⟩
    have h6 := (hom_bt hI hj).mp h5
    refine ⟨h1, h2, ?_⟩
    rw [h6.2, nN_nI (by omega)]
    rcases h4 with h4 | h4
    · subst h4
      rw [(apart_0 hI hr hr ht).mpr rfl]
      exact leaps_nn hI hp
    · exact h4
  · rintro ⟨h1, h2, h3⟩
    exact ⟨⟨h1, h2⟩, nN (ρ (15 + 2 * j)), hI.rb h1, Or.inr h3, (hom_bt hI hj).mpr ⟨h1, hI.rn h1⟩⟩
/-! a set that no walk leaves -/
def cnt (f : Nat → Bool) : Nat → Nat
  | 0 => 0
  | n + 1 => (if f n = true then 1 else 0) + cnt f n
theorem cnt_le {f : Nat → Bool} : ∀ n, cnt f n ≤ n := by
  intro n
  induction n with
  | zero => exact Nat.le_refl 0
  | succ n ih => show (if f n = true then 1 else 0) + cnt f n ≤ n + 1; split <;> omega
theorem cnt_mono {f g : Nat → Bool} (h : ∀ j, f j = true → g j = true) : ∀ n, cnt f n ≤ cnt g n := by
  intro n
  induction n with
  | zero => exact Nat.le_refl 0
  | succ n ih =>
    show (if f n = true then 1 else 0) + cnt f n ≤ (if g n = true then 1 else 0) + cnt g n
    by_cases e : f n = true
    · rw [if_pos e, if_pos (h n e)]; omega
    · rw [if_neg e]; omega
theorem cnt_lt {f g : Nat → Bool} (h : ∀ j, f j = true → g j = true) {i : Nat} (h1 : g i = true) (h2 : ¬ f i = true) : ∀ n, i < n → cnt f n < cnt g n := by
  intro n
  induction n with
  | zero => intro h; omega
  | succ n ih =>
    intro hi
    show (if f n = true then 1 else 0) + cnt f n < (if g n = true then 1 else 0) + cnt g n
    by_cases e : i = n
    · subst e
      rw [if_pos h1, if_neg h2]
      have := cnt_mono h i
      omega
    · have := ih (by omega)
      by_cases e2 : f n = true
      · rw [if_pos e2, if_pos (h n e2)]; omega
      · rw [if_neg e2]; omega
theorem cnt_full {f : Nat → Bool} : ∀ n, cnt f n = n → ∀ j, j < n → f j = true := by
  intro n
  induction n with
  | zero => intro _ j hj; omega
  | succ n ih =>
    intro h j hj
    have h' : (if f n = true then 1 else 0) + cnt f n = n + 1 := h
    have := cnt_le (f := f) n
    by_cases e : f n = true
    · rw [if_pos e] at h'
      by_cases e2 : j = n
      · rw [e2]; exact e
      · exact ih (by omega) j (by omega)
    · rw [if_neg e] at h'; omega
theorem cnt_pos {f : Nat → Bool} {i : Nat} (h : f i = true) : ∀ n, i < n → 1 ≤ cnt f n := by
  intro n
  induction n with
  | zero => intro h; omega
  | succ n ih =>
    intro hi
    show 1 ≤ (if f n = true then 1 else 0) + cnt f n
    by_cases e : i = n
    · subst e; rw [if_pos h]; omega
    · have := ih (by omega); omega
def rndF (al : Rw) : Nat → Int32 → Int32 := fun x s => if bitS s (nI x) = 0 then s else s ||| al x
def Clo (ρ : Rw) (al : Rw) (s : Int32) : Prop := ∀ x, x < nN (ρ 3) → bt s x = true → ∀ j, bt (al x) j = true → bt s j = true
theorem rnd_mono {al : Rw} {j : Nat} : ∀ (n i : Nat) (s : Int32), bt s j = true → bt (run (rndF al) n i s) j = true := by
  intro n
  induction n with
  | zero => intro i s h; exact h
  | succ n ih =>
    intro i s h
    refine ih (i + 1) _ ?_
    unfold rndF
    split
    · exact h
    · exact b_or_t h
theorem rnd_al {al : Rw} {j x : Nat} (hj : bt (al x) j = true) (hx32 : x < 32) : ∀ (n i : Nat) (s : Int32), i ≤ x → x < i + n → bt s x = true → bt (run (rndF al) n i s) j = true := by
  intro n
  induction n with
  | zero => intro i s h1 h2; omega
  | succ n ih =>
    intro i s h1 h2 h3
    show bt (run (rndF al) n (i + 1) (rndF al i s)) j = true
    by_cases e : i = x
    · subst e
      refine rnd_mono n _ _ ?_
      unfold rndF
      rw [if_neg (fun q => by rw [bit_0 hx32, h3] at q; exact absurd q (by decide))]
      exact bt_or.mpr (Or.inr hj)
    · refine ih (i + 1) _ (by omega) (by omega) ?_
      unfold rndF
      split
      · exact h3
      · exact b_or_t h3
theorem rnd_fix {ρ : Rw} (hI : Inv ρ) {al : Rw} {s : Int32} (h : run (rndF al) (nN (ρ 3)) 0 s = s) : Clo ρ al s := fun x hx h1 j h2 => by
  have hb := hI.mb
  have := rnd_al h2 (by omega) (nN (ρ 3)) 0 s (by omega) (by omega) h1
  rw [h] at this
  exact this
theorem clo_fix {ρ : Rw} (hI : Inv ρ) {al : Rw} {s : Int32} (h : Clo ρ al s) : run (rndF al) (nN (ρ 3)) 0 s = s := by
  have hb := hI.mb
  have key : ∀ n i, i + n ≤ nN (ρ 3) → run (rndF al) n i s = s := by
    intro n
    induction n with
    | zero => intro i _; rfl
    | succ n ih =>
      intro i hi
      show run (rndF al) n (i + 1) (rndF al i s) = s
      have e : rndF al i s = s := by
        unfold rndF
        split
        · rfl
        · rename_i hc
          apply bt_ext
          intro j _
          rw [bt_or]
          have hb1 : bt s i = true := (bit_1 (by omega)).mp (Decidable.not_not.mp (fun z => hc ((bit_n (by omega)).mpr z)))
          exact ⟨fun q => q.elim id (fun q => h i (by omega) hb1 j q), Or.inl⟩
      rw [e]
      exact ih (i + 1) (by omega)
  exact key _ 0 (by omega)
theorem rnd_grow {ρ : Rw} (hI : Inv ρ) {al : Rw} {s : Int32} (hal : ∀ x, x < nN (ρ 3) → ∀ j, j < 32 → bt (al x) j = true → j < nN (ρ 3)) (hs : ∀ j, j < 32 → bt s j = true → j < nN (ρ 3)) : Clo ρ al s ∨ cnt (bt s) (nN (ρ 3)) < cnt (bt (run (rndF al) (nN (ρ 3)) 0 s)) (nN (ρ 3)) := by
  by_cases e : run (rndF al) (nN (ρ 3)) 0 s = s
  · exact Or.inl (rnd_fix hI e)
  · right
    have hb := hI.mb
    have hin : ∀ j, j < 32 → bt (run (rndF al) (nN (ρ 3)) 0 s) j = true → j < nN (ρ 3) := by
      intro j hj h
      have := run_ind (f := rndF al) (fun _ s => bt s j = true → j < nN (ρ 3)) (nN (ρ 3)) 0 s (hs j hj) (fun x s' h1 h2 hs' => by
        unfold rndF
        split
        · exact hs'
        · intro q
          rcases bt_or.mp q with q | q
          · exact hs' q
          · exact hal x (by omega) j hj q)
      exact this h
    obtain ⟨i, h1, h2⟩ : ∃ i, bt (run (rndF al) (nN (ρ 3)) 0 s) i = true ∧ ¬ bt s i = true := by
      apply Classical.byContradiction
      intro hno
      apply e
      apply bt_ext
      intro j _
      exact ⟨fun q => Classical.byContradiction (fun z => hno ⟨j, q, z⟩), fun q => rnd_mono _ _ _ q⟩
    have hi32 : i < 32 := by
      rcases Nat.lt_or_ge i 32 with q | q
      · exact q
      · rw [b_big q] at h1; exact absurd h1 (by decide)
    exact cnt_lt (f := bt s) (g := bt (run (rndF al) (nN (ρ 3)) 0 s)) (fun j hj => rnd_mono _ _ _ hj) h1 h2 _ (hin i hi32 h1)
theorem al_in {ρ : Rw} {p : Nat} {al : Rw} (ha : AL ρ p al) : ∀ x, x < nN (ρ 3) → ∀ j, j < 32 → bt (al x) j = true → j < nN (ρ 3) := fun x hx j hj h => ((ha x hx j hj).mp h).1
theorem clo_full {ρ : Rw} {p : Nat} {al : Rw} (ha : AL ρ p al) {s : Int32} (h : cnt (bt s) (nN (ρ 3)) = nN (ρ 3)) : Clo ρ al s := fun x hx _ j hj => by
  have hj32 : j < 32 := by
    rcases Nat.lt_or_ge j 32 with q | q
    · exact q
    · rw [b_big q] at hj; exact absurd hj (by decide)
  exact cnt_full _ h j (al_in ha x hx j hj32 hj)
/-- walks stay inside a closed set -/
theorem onw_in {ρ : Rw} (hI : Inv ρ) {p : Nat} {al : Rw} (ha : AL ρ p al) {m set t : Int32} (hm : Clo ρ al m) (hs : ∀ j, bt set j = true → bt m j = true) : ∀ j, bt (onwardS ρ p set t) j = true → bt m j = true := by
  have hb := hI.mb
  intro j h
  rw [onw_stp hI, stp_bt hI] at h
  rcases h with h | ⟨x, h1, h2, h3⟩
  · exact hs j h
  · have hj32 : j < 32 := by
      rcases Nat.lt_or_ge j 32 with q | q
      · exact q
      · rw [b_big q] at h3; exact absurd h3 (by decide)
    have h4 := (way_bt hI hj32).mp h3
    exact hm x h1 (hs x h2) j ((ha x h1 j hj32).mpr ⟨h4.1, h4.2.1⟩)
theorem onw_clo {ρ : Rw} (hI : Inv ρ) {p : Nat} {al : Rw} (ha : AL ρ p al) {m t : Int32} (hm : Clo ρ al m) : onwardS ρ p m t = m := bt_ext (fun j _ => ⟨onw_in hI ha hm (fun _ q => q) j, fun q => onward_mono q⟩)
theorem run_fix {f : Nat → Int32 → Int32} {s : Int32} (h : ∀ i, f i s = s) : ∀ n i, run f n i s = s := by
  intro n
  induction n with
  | zero => intro i; rfl
  | succ n ih => intro i; show run f n (i + 1) (f i s) = s; rw [h i]; exact ih _
theorem soo_out {ρ : Rw} (hI : Inv ρ) {p : Nat} {al : Rw} (ha : AL ρ p al) {m : Int32} (hm : Clo ρ al m) {h : Nat} (hh : h < 32) (ho : ¬ bt m h = true) : ∀ (n i : Nat) (set : Int32), (∀ j, bt set j = true → bt m j = true) → sooS ρ p (nI h) n i set = i + n := by
  intro n
  induction n with
  | zero => intro i set _; rfl
  | succ n ih =>
    intro i set hs
    rw [sooS, if_pos ((bit_0 hh).mpr (by
      cases hq : bt set h
      · rfl
      · exact absurd (hs h hq) ho)), ih (i + 1) _ (onw_in hI ha hm hs)]
    omega
theorem b1_and {s : Int32} {h : Nat} (hh : h < 32) : s &&& b1 (nI h) = 0 ↔ bitS s (nI h) = 0 := by
  rw [bit_0 hh]
  constructor
  · intro e
    cases hq : bt s h
    · rfl
    · have : bt (s &&& b1 (nI h)) h = true := bt_and.mpr ⟨hq, (bt_b1 hh hh).mpr rfl⟩
      rw [e, b_0] at this
      exact absurd this (by decide)
  · intro e
    apply bt_ext
    intro j hj
    rw [bt_and, b_0, bt_b1 hh hj]
    exact ⟨fun q => by rw [q.2, e] at q; exact absurd q.1 (by decide), fun q => absurd q (by decide)⟩

set_option maxHeartbeats 4000000 in
set_option maxRecDepth 100000 in
theorem c_X5_begin {l : Launch} {D : va_G} {k : Nat → ClassId} {g a : Nat → Nat} (σ ν : St) (ρ : Rw) (p : Nat) (hT : RT σ ρ) (hI : Inv ρ) (hp : p < nN (ρ 4)) : Ct l D k g yX5_begin cX5_begin 5 none 1 23 [.ref (a 4), .int (nI p)] (S := Rw × Rw) (wX k g a σ ν) (fun uu => wX k g a σ (va_up (va_up ν 75 uu.1) 77 uu.2)) (fun vv uu => vv = none ∧ RD ρ uu.1 ∧ AL ρ p uu.2) := by
  refine Ct.ofV RX5 rfl (by decide +kernel) (Nat.le_of_ble_eq_true rfl) (fun X hC hR => ?_)
  have hb4 := hI.hb; have hb8 := hI.mb; have hb6 := hI.pb; have hbm := hI.ob0; have hbt := hI.bb; have hbw := hI.wb
  show V X (wX k g a σ ν) [(0, .ref (a 4)), (1, .int (nI p))] [] 0
  refine V.aload_n (pc := 0) 0 hC dX5_begin_0 rfl ?_
  refine V.get (pc := 1) (v := .ref (a 1)) hC cf_X5 4 0 fl_X5_27 (by decide) gx_4 rfl dX5_begin_1 ?_
  refine V.iload_n (pc := 4) 1 hC dX5_begin_4 rfl ?_
  refine V.callV0 (pc := 5) (as := [.int (nI p)]) hC (c_X3_spans σ ν ρ p hT hI hp) mu_X3_spans ml_X5_74 (by decide) ⟨1, 3, TX3, 17, _, rfl, gx_1⟩ rfl (Nat.le_of_ble_eq_true rfl) dX5_begin_5 ?_
  rintro _ _ rfl
  show V X (wX k g a σ ν) [(0, .ref (a 4)), (1, .int (nI p))] [.int (spansS ρ p)] 8
  refine V.istore_n (pc := 8) [(2, .int (spansS ρ p)), (0, .ref (a 4)), (1, .int (nI p))] hC dX5_begin_8 (by decide) rfl ?_
  refine V.iconst (pc := 9) 0 hC dX5_begin_9 (by decide) ?_
  refine V.istore_n (pc := 10) [(3, .int 0), (2, .int (spansS ρ p)), (0, .ref (a 4)), (1, .int (nI p))] hC dX5_begin_10 (by decide) rfl ?_
  have loop_11 : ∀ (n : Nat) (i : Nat) (f : Rw), i + n = nN (ρ 2) → (∀ h, h < i → f h = homesOnS ρ (nI h)) → V X (wX k g a σ (va_up ν 75 f)) [(0, .ref (a 4)), (1, .int (nI p)), (2, .int (spansS ρ p)), (3, .int (nI i))] [] 11 := by
    intro n
    induction n with
    | zero =>
      intro i f hi hf
      refine V.iload_n (pc := 11) 3 hC dX5_begin_11 rfl ?_
      refine V.aload_n (pc := 12) 0 hC dX5_begin_12 rfl ?_
      refine V.get (pc := 13) (v := .ref (a 1)) hC cf_X5 4 0 fl_X5_27 (by decide) gx_4 rfl dX5_begin_13 ?_
      refine V.get (pc := 16) (v := .int (σ 10 0)) hC cf_X3 1 0 fl_X5_77 (by decide) gx_1 rfl dX5_begin_16 ?_
      refine V.eqi (y := ρ 2) (hT.1.1) ?_
      refine V.icmp_ge (pc := 19) 42 hC dX5_begin_19 (by decide) (fun c_19 => ?_) (fun c_19 => ?_)
      · have nc_19 : nN (ρ 2) ≤ i := (nle hI.hn rfl (by omega) (by omega)).mp c_19
        refine V.iconst (pc := 42) 0 hC dX5_begin_42 (by decide) ?_
        refine V.istore_n (pc := 43) [(3, .int 0), (0, .ref (a 4)), (1, .int (nI p)), (2, .int (spansS ρ p))] hC dX5_begin_43 (by decide) rfl ?_
        have loop_44 : ∀ (n : Nat) (i : Nat) (f2 : Rw), i + n = nN (ρ 3) → (∀ x, x < i → ∀ j, j < 32 → (bt (f2 x) j = true ↔ j < nN (ρ 3) ∧ absS (ρ (16 + 2 * x) - ρ (16 + 2 * j)) ≤ spansS ρ p)) → V X (wX k g a σ (va_up (va_up ν 75 f) 77 f2)) [(0, .ref (a 4)), (1, .int (nI p)), (2, .int (spansS ρ p)), (3, .int (nI i))] [] 44 := by
          intro n
          induction n with
          | zero =>
            intro i f2 hi2 hf2
            refine V.iload_n (pc := 44) 3 hC dX5_begin_44 rfl ?_
            refine V.aload_n (pc := 45) 0 hC dX5_begin_45 rfl ?_
            refine V.get (pc := 46) (v := .ref (a 1)) hC cf_X5 4 0 fl_X5_27 (by decide) gx_4 rfl dX5_begin_46 ?_
            refine V.get (pc := 49) (v := .int (σ 13 0)) hC cf_X3 1 3 fl_X5_59 (by decide) gx_1 rfl dX5_begin_49 ?_
            refine V.eqi (y := ρ 3) (hT.2.1.1) ?_
            refine V.icmp_ge (pc := 52) 129 hC dX5_begin_52 (by decide) (fun c_52 => ?_) (fun c_52 => ?_)
            · have nc_52 : nN (ρ 3) ≤ i := (nle hI.mn rfl (by omega) (by omega)).mp c_52
              exact hR (f, f2) _ _ dX5_begin_129 ⟨rfl, fun h hh => hf h (by omega), fun x hx => hf2 x (by omega)⟩
            · have nc_52 : ¬ (nN (ρ 3) ≤ i) := fun z => c_52 ((nle hI.mn rfl (by omega) (by omega)).mpr z)
              exfalso; omega
          | succ n ih =>
            intro i f2 hi2 hf2
            refine V.iload_n (pc := 44) 3 hC dX5_begin_44 rfl ?_
            refine V.aload_n (pc := 45) 0 hC dX5_begin_45 rfl ?_
            refine V.get (pc := 46) (v := .ref (a 1)) hC cf_X5 4 0 fl_X5_27 (by decide) gx_4 rfl dX5_begin_46 ?_
            refine V.get (pc := 49) (v := .int (σ 13 0)) hC cf_X3 1 3 fl_X5_59 (by decide) gx_1 rfl dX5_begin_49 ?_
            refine V.eqi (y := ρ 3) (hT.2.1.1) ?_
            refine V.icmp_ge (pc := 52) 129 hC dX5_begin_52 (by decide) (fun c_52 => ?_) (fun c_52 => ?_)
            · have nc_52 : nN (ρ 3) ≤ i := (nle hI.mn rfl (by omega) (by omega)).mp c_52
              exfalso; omega
            · have nc_52 : ¬ (nN (ρ 3) ≤ i) := fun z => c_52 ((nle hI.mn rfl (by omega) (by omega)).mpr z)
              refine V.aload_n (pc := 55) 0 hC dX5_begin_55 rfl ?_
              refine V.get (pc := 56) (v := .ref (a 77)) hC cf_X5 4 4 fl_X5_21 (by decide) gx_4 rfl dX5_begin_56 ?_
              refine V.iload_n (pc := 59) 3 hC dX5_begin_59 rfl ?_
              refine V.iconst (pc := 60) 0 hC dX5_begin_60 (by decide) ?_
              refine V.iast (pc := 61) (f := f2) hC 44 i (wX k g a σ (va_up (va_up ν 75 f) 77 (upd f2 i 0))) gx_44 rfl (by omega) (by decide) rfl dX5_begin_61 ?_
              refine V.iconst (pc := 62) 0 hC dX5_begin_62 (by decide) ?_
              refine V.istore (pc := 63) [(4, .int 0), (0, .ref (a 4)), (1, .int (nI p)), (2, .int (spansS ρ p)), (3, .int (nI i))] hC dX5_begin_63 (by decide) rfl ?_
              have loop_65 : ∀ (n : Nat) (j2 : Nat) (f3 : Rw), j2 + n = nN (ρ 3) → (∀ x, x ≠ i → f3 x = f2 x) → (∀ j, j < 32 → (bt (f3 i) j = true ↔ j < j2 ∧ absS (ρ (16 + 2 * i) - ρ (16 + 2 * j)) ≤ spansS ρ p)) → V X (wX k g a σ (va_up (va_up ν 75 f) 77 f3)) [(0, .ref (a 4)), (1, .int (nI p)), (2, .int (spansS ρ p)), (3, .int (nI i)), (4, .int (nI j2))] [] 65 := by
                intro n
                induction n with
                | zero =>
                  intro j2 f3 hi3 hg1 hg2
                  refine V.iload (pc := 65) 4 hC dX5_begin_65 rfl ?_
                  refine V.aload_n (pc := 67) 0 hC dX5_begin_67 rfl ?_
                  refine V.get (pc := 68) (v := .ref (a 1)) hC cf_X5 4 0 fl_X5_27 (by decide) gx_4 rfl dX5_begin_68 ?_
                  refine V.get (pc := 71) (v := .int (σ 13 0)) hC cf_X3 1 3 fl_X5_59 (by decide) gx_1 rfl dX5_begin_71 ?_
                  refine V.eqi (y := ρ 3) (hT.2.1.1) ?_
                  refine V.icmp_ge (pc := 74) 123 hC dX5_begin_74 (by decide) (fun c_74 => ?_) (fun c_74 => ?_)
                  · have nc_74 : nN (ρ 3) ≤ j2 := (nle hI.mn rfl (by omega) (by omega)).mp c_74
                    refine V.iinc (pc := 123) 3 (nI (i + 1)) [(3, .int (nI (i + 1))), (0, .ref (a 4)), (1, .int (nI p)), (2, .int (spansS ρ p)), (4, .int (nI j2))] hC dX5_begin_123 rfl (ncast (nadd rfl (nl 1)) (by omega)) (by decide) rfl ?_
                    refine V.goto (pc := 126) 44 hC dX5_begin_126 (by decide) ?_
                    exact V.sub [1, 2, 3, 0] rfl (ih (i + 1) f3 (by omega) (fun x hx j hj => (Nat.lt_or_ge x i).elim (fun e => by rw [hg1 x (by omega)]; exact hf2 x e j hj) (fun e => by rw [show x = i by omega, hg2 j hj, show j2 = nN (ρ 3) by omega])))
                  · have nc_74 : ¬ (nN (ρ 3) ≤ j2) := fun z => c_74 ((nle hI.mn rfl (by omega) (by omega)).mpr z)
                    exfalso; omega
                | succ n ih =>
                  intro j2 f3 hi3 hg1 hg2
                  refine V.iload (pc := 65) 4 hC dX5_begin_65 rfl ?_
                  refine V.aload_n (pc := 67) 0 hC dX5_begin_67 rfl ?_
                  refine V.get (pc := 68) (v := .ref (a 1)) hC cf_X5 4 0 fl_X5_27 (by decide) gx_4 rfl dX5_begin_68 ?_
                  refine V.get (pc := 71) (v := .int (σ 13 0)) hC cf_X3 1 3 fl_X5_59 (by decide) gx_1 rfl dX5_begin_71 ?_
                  refine V.eqi (y := ρ 3) (hT.2.1.1) ?_
                  refine V.icmp_ge (pc := 74) 123 hC dX5_begin_74 (by decide) (fun c_74 => ?_) (fun c_74 => ?_)
                  · have nc_74 : nN (ρ 3) ≤ j2 := (nle hI.mn rfl (by omega) (by omega)).mp c_74
                    exfalso; omega
                  · have nc_74 : ¬ (nN (ρ 3) ≤ j2) := fun z => c_74 ((nle hI.mn rfl (by omega) (by omega)).mpr z)
                    refine V.aload_n (pc := 77) 0 hC dX5_begin_77 rfl ?_
                    refine V.get (pc := 78) (v := .ref (a 1)) hC cf_X5 4 0 fl_X5_27 (by decide) gx_4 rfl dX5_begin_78 ?_
                    refine V.get (pc := 81) (v := .ref (a 15)) hC cf_X3 1 5 fl_X5_83 (by decide) gx_1 rfl dX5_begin_81 ?_
                    refine V.iload_n (pc := 84) 3 hC dX5_begin_84 rfl ?_
                    refine V.iald (pc := 85) (f := σ 15) hC 11 i gx_11 rfl (by omega) (by decide) dX5_begin_85 ?_
                    refine V.eqi (y := ρ (16 + 2 * i)) (hT.2.1.2.2 i (by omega)) ?_
                    refine V.aload_n (pc := 86) 0 hC dX5_begin_86 rfl ?_
                    refine V.get (pc := 87) (v := .ref (a 1)) hC cf_X5 4 0 fl_X5_27 (by decide) gx_4 rfl dX5_begin_87 ?_
                    refine V.get (pc := 90) (v := .ref (a 15)) hC cf_X3 1 5 fl_X5_83 (by decide) gx_1 rfl dX5_begin_90 ?_
                    refine V.iload (pc := 93) 4 hC dX5_begin_93 rfl ?_
                    refine V.iald (pc := 95) (f := σ 15) hC 11 j2 gx_11 rfl (by omega) (by decide) dX5_begin_95 ?_
                    refine V.eqi (y := ρ (16 + 2 * j2)) (hT.2.1.2.2 j2 (by omega)) ?_
                    refine V.isub (pc := 96) hC dX5_begin_96 ?_
                    refine V.mabs (pc := 97) hC ml_X5_86 ⟨Nat.le_of_ble_eq_true rfl, Nat.le_of_ble_eq_true rfl⟩ dX5_begin_97 ?_
                    refine V.eqi (y := absS ((ρ (16 + 2 * i)) - (ρ (16 + 2 * j2)))) abs_m ?_
                    refine V.iload_n (pc := 100) 2 hC dX5_begin_100 rfl ?_
                    refine V.icmp_gt (pc := 101) 117 hC dX5_begin_101 (by decide) (fun c_101 => ?_) (fun c_101 => ?_)
                    · refine V.iinc (pc := 117) 4 (nI (j2 + 1)) [(4, .int (nI (j2 + 1))), (0, .ref (a 4)), (1, .int (nI p)), (2, .int (spansS ρ p)), (3, .int (nI i))] hC dX5_begin_117 rfl (ncast (nadd rfl (nl 1)) (by omega)) (by decide) rfl ?_
                      refine V.goto (pc := 120) 65 hC dX5_begin_120 (by decide) ?_
                      exact V.sub [1, 2, 3, 4, 0] rfl (ih (j2 + 1) f3 (by omega) hg1 (fun j hj => by rw [hg2 j hj]; exact ⟨fun q => ⟨by omega, q.2⟩, fun q => (Nat.lt_or_ge j j2).elim (fun e => ⟨e, q.2⟩) (fun e => absurd q.2 (by rw [show j = j2 by omega]; exact i_gt c_101))⟩))
                    · have c101 := i_nlt c_101
                      refine V.aload_n (pc := 104) 0 hC dX5_begin_104 rfl ?_
                      refine V.get (pc := 105) (v := .ref (a 77)) hC cf_X5 4 4 fl_X5_21 (by decide) gx_4 rfl dX5_begin_105 ?_
                      refine V.iload_n (pc := 108) 3 hC dX5_begin_108 rfl ?_
                      refine V.dup2 (pc := 109) hC dX5_begin_109 rfl rfl ?_
                      refine V.iald (pc := 110) (f := f3) hC 44 i gx_44 rfl (by omega) (by decide) dX5_begin_110 ?_
                      refine V.iconst (pc := 111) 1 hC dX5_begin_111 (by decide) ?_
                      refine V.iload (pc := 112) 4 hC dX5_begin_112 rfl ?_
                      refine V.ishl (pc := 114) hC dX5_begin_114 ?_
                      refine V.ior (pc := 115) hC dX5_begin_115 ?_
                      refine V.iast (pc := 116) (f := f3) hC 44 i (wX k g a σ (va_up (va_up ν 75 f) 77 (upd f3 i ((f3 i) ||| (1 <<< ((nI j2) &&& 31)))))) gx_44 rfl (by omega) (by decide) rfl dX5_begin_116 ?_
                      refine V.iinc (pc := 117) 4 (nI (j2 + 1)) [(4, .int (nI (j2 + 1))), (0, .ref (a 4)), (1, .int (nI p)), (2, .int (spansS ρ p)), (3, .int (nI i))] hC dX5_begin_117 rfl (ncast (nadd rfl (nl 1)) (by omega)) (by decide) rfl ?_
                      refine V.goto (pc := 120) 65 hC dX5_begin_120 (by decide) ?_
                      exact V.sub [1, 2, 3, 4, 0] rfl (ih (j2 + 1) (upd f3 i ((f3 i) ||| (1 <<< ((nI j2) &&& 31)))) (by omega) (fun x hx => (upd_ne hx).trans (hg1 x hx)) (fun j hj => by rw [upd_eq, bt_or, hg2 j hj, show (1 : Int32) <<< (nI j2 &&& 31) = b1 (nI j2) from rfl, bt_b1 (by omega) hj]; exact ⟨fun q => q.elim (fun q => ⟨by omega, q.2⟩) (fun q => by subst q; exact ⟨by omega, c101⟩), fun q => (Nat.lt_or_ge j j2).elim (fun e => Or.inl ⟨e, q.2⟩) (fun e => Or.inr (by omega))⟩))
              exact V.sub [1, 2, 3, 4, 0] rfl (loop_65 (nN (ρ 3)) 0 (upd f2 i 0) (by omega) (fun x hx => upd_ne hx) (fun j hj => by rw [upd_eq, b_0]; exact ⟨fun q => absurd q (by decide), fun q => absurd q.1 (by omega)⟩))
        exact V.sub [1, 2, 3, 0] rfl (loop_44 (nN (ρ 3)) 0 (ν 77) (by omega) (fun h q => absurd q (by omega)))
      · have nc_19 : ¬ (nN (ρ 2) ≤ i) := fun z => c_19 ((nle hI.hn rfl (by omega) (by omega)).mpr z)
        exfalso; omega
    | succ n ih =>
      intro i f hi hf
      refine V.iload_n (pc := 11) 3 hC dX5_begin_11 rfl ?_
      refine V.aload_n (pc := 12) 0 hC dX5_begin_12 rfl ?_
      refine V.get (pc := 13) (v := .ref (a 1)) hC cf_X5 4 0 fl_X5_27 (by decide) gx_4 rfl dX5_begin_13 ?_
      refine V.get (pc := 16) (v := .int (σ 10 0)) hC cf_X3 1 0 fl_X5_77 (by decide) gx_1 rfl dX5_begin_16 ?_
      refine V.eqi (y := ρ 2) (hT.1.1) ?_
      refine V.icmp_ge (pc := 19) 42 hC dX5_begin_19 (by decide) (fun c_19 => ?_) (fun c_19 => ?_)
      · have nc_19 : nN (ρ 2) ≤ i := (nle hI.hn rfl (by omega) (by omega)).mp c_19
        exfalso; omega
      · have nc_19 : ¬ (nN (ρ 2) ≤ i) := fun z => c_19 ((nle hI.hn rfl (by omega) (by omega)).mpr z)
        refine V.aload_n (pc := 22) 0 hC dX5_begin_22 rfl ?_
        refine V.get (pc := 23) (v := .ref (a 75)) hC cf_X5 4 2 fl_X5_15 (by decide) gx_4 rfl dX5_begin_23 ?_
        refine V.iload_n (pc := 26) 3 hC dX5_begin_26 rfl ?_
        refine V.aload_n (pc := 27) 0 hC dX5_begin_27 rfl ?_
        refine V.get (pc := 28) (v := .ref (a 1)) hC cf_X5 4 0 fl_X5_27 (by decide) gx_4 rfl dX5_begin_28 ?_
        refine V.iload_n (pc := 31) 3 hC dX5_begin_31 rfl ?_
        refine V.callV0 (pc := 32) (as := [.int (nI i)]) hC (c_X3_homesOn σ (va_up ν 75 f) ρ (nI i) hT hI) mu_X3_homesOn ml_X5_80 (by decide) ⟨1, 3, TX3, 17, _, rfl, gx_1⟩ rfl (Nat.le_of_ble_eq_true rfl) dX5_begin_32 ?_
        rintro _ _ rfl
        show V X (wX k g a σ (va_up ν 75 f)) [(0, .ref (a 4)), (1, .int (nI p)), (2, .int (spansS ρ p)), (3, .int (nI i))] [.int (homesOnS ρ (nI i)), .int (nI i), .ref (a 75)] 35
        refine V.iast (pc := 35) (f := f) hC 42 i (wX k g a σ (va_up ν 75 (upd f i (homesOnS ρ (nI i))))) gx_42 rfl (by omega) (by decide) rfl dX5_begin_35 ?_
        refine V.iinc (pc := 36) 3 (nI (i + 1)) [(3, .int (nI (i + 1))), (0, .ref (a 4)), (1, .int (nI p)), (2, .int (spansS ρ p))] hC dX5_begin_36 rfl (ncast (nadd rfl (nl 1)) (by omega)) (by decide) rfl ?_
        refine V.goto (pc := 39) 11 hC dX5_begin_39 (by decide) ?_
        exact V.sub [1, 2, 3, 0] rfl (ih (i + 1) (upd f i (homesOnS ρ (nI i))) (by omega) (fun h q => (Nat.lt_or_ge h i).elim (fun e => (upd_ne (by omega)).trans (hf h e)) (fun e => by rw [show h = i by omega]; exact upd_eq)))
  exact V.sub [2, 3, 1, 0] rfl (loop_11 (nN (ρ 2)) 0 (ν 75) (by omega) (fun h q => absurd q (by omega)))
/-- while hand i looks at the hands below j -/
def NQ (ρ : Rw) (t lp : Int32) (i j : Nat) (f0 f : Rw) : Prop := ∀ y, y < 32 → (bt (f i) y = true ↔ ∃ g, (g = i ∨ (g < j ∧ apartS ρ i g t ≤ lp)) ∧ bt (homesOnS ρ (nI g)) y = true) ∧ ∀ h, h < i → (bt (f h) y = true ↔ (∃ g, g < i ∧ (g = h ∨ apartS ρ h g t ≤ lp) ∧ bt (homesOnS ρ (nI g)) y = true) ∨ (h < j ∧ apartS ρ h i t ≤ lp ∧ bt (homesOnS ρ (nI i)) y = true))
theorem near_0 {ρ : Rw} {t lp : Int32} {i : Nat} {f0 : Rw} {r : Int32} (hr : r = homesOnS ρ (nI i)) (h : NR ρ t lp i f0) : NQ ρ t lp i 0 f0 (upd f0 i r) := by
  intro y hy
  refine ⟨?_, fun q hq => ?_⟩
  · rw [upd_eq, hr]
    constructor
    · intro z; exact ⟨i, Or.inl rfl, z⟩
    · rintro ⟨g, h1, h2⟩
      rcases h1 with h1 | h1
      · subst h1; exact h2
      · omega
  · rw [upd_ne (by omega), h q hq y hy]
    exact ⟨Or.inl, fun z => z.elim id (fun z => absurd z.1 (by omega))⟩
theorem near_end {ρ : Rw} {t lp : Int32} {i : Nat} {f0 f : Rw} (h : NQ ρ t lp i i f0 f) : NR ρ t lp (i + 1) f := by
  intro q hq y hy
  have h1 := h y hy
  by_cases e : q = i
  · subst e
    rw [h1.1]
    constructor
    · rintro ⟨g, h2, h3⟩
      rcases h2 with h2 | h2
      · exact ⟨g, by omega, Or.inl h2, h3⟩
      · exact ⟨g, by omega, Or.inr h2.2, h3⟩
    · rintro ⟨g, h2, h3, h4⟩
      rcases h3 with h3 | h3
      · exact ⟨g, Or.inl h3, h4⟩
      · by_cases e : g = q
        · exact ⟨g, Or.inl e, h4⟩
        · exact ⟨g, Or.inr ⟨by omega, h3⟩, h4⟩
  · rw [h1.2 q (by omega)]
    constructor
    · rintro (⟨g, h2, h3, h4⟩ | ⟨h2, h3, h4⟩)
      · exact ⟨g, by omega, h3, h4⟩
      · exact ⟨i, by omega, Or.inr h3, h4⟩
    · rintro ⟨g, h2, h3, h4⟩
      by_cases e2 : g = i
      · subst e2
        rcases h3 with h3 | h3
        · omega
        · exact Or.inr ⟨by omega, h3, h4⟩
      · exact Or.inl ⟨g, by omega, h3, h4⟩
theorem near_no {ρ : Rw} (hI : Inv ρ) {t lp : Int32} {i j : Nat} {f0 f : Rw} (hj : j < i) (hi : i < nN (ρ 2)) (ht : isN t 100000) (hno : ¬ apartS ρ i j t ≤ lp) (h : NQ ρ t lp i j f0 f) : NQ ρ t lp i (j + 1) f0 f := by
  intro y hy
  have h1 := h y hy
  refine ⟨?_, fun q hq => ?_⟩
  · rw [h1.1]
    constructor
    · rintro ⟨g, h2, h3⟩
      exact ⟨g, h2.imp_right (fun z => ⟨by omega, z.2⟩), h3⟩
    · rintro ⟨g, h2, h3⟩
      refine ⟨g, h2.imp_right (fun z => ⟨?_, z.2⟩), h3⟩
      rcases Nat.lt_or_ge g j with e | e
      · exact e
      · rw [show g = j by omega] at z; exact absurd z.2 hno
  · rw [h1.2 q hq]
    constructor
    · exact fun z => z.imp_right (fun z => ⟨by omega, z.2⟩)
    · refine fun z => z.imp_right (fun z => ⟨?_, z.2⟩)
      rcases Nat.lt_or_ge q j with e | e
      · exact e
      · have e2 : q = j := by omega
        rw [e2, apart_sy hI (by omega) hi ht] at z
        exact absurd z.2.1 hno
theorem near_yes {ρ : Rw} (hI : Inv ρ) {t lp : Int32} {i j : Nat} {f0 f : Rw} {r r2 : Int32} (hj : j < i) (hi : i < nN (ρ 2)) (ht : isN t 100000) (hr : r = homesOnS ρ (nI j)) (hr2 : r2 = homesOnS ρ (nI i)) (hyes : apartS ρ i j t ≤ lp) (h : NQ ρ t lp i j f0 f) : NQ ρ t lp i (j + 1) f0 (upd (upd f i (f i ||| r)) j (f j ||| r2)) := by
  intro y hy
  have h1 := h y hy
  refine ⟨?_, fun q hq => ?_⟩
  · rw [upd_ne (by omega), upd_eq, bt_or, h1.1, hr]
    constructor
    · rintro (⟨g, h2, h3⟩ | h2)
      · exact ⟨g, h2.imp_right (fun z => ⟨by omega, z.2⟩), h3⟩
      · exact ⟨j, Or.inr ⟨by omega, hyes⟩, h2⟩
    · rintro ⟨g, h2, h3⟩
      by_cases e : g = j
      · subst e; exact Or.inr h3
      · exact Or.inl ⟨g, h2.imp_right (fun z => ⟨by omega, z.2⟩), h3⟩
  · by_cases e : q = j
    · subst e
      rw [upd_eq, bt_or, h1.2 q hq, hr2]
      constructor
      · rintro ((z | z) | z)
        · exact Or.inl z
        · exact Or.inr ⟨by omega, z.2⟩
        · exact Or.inr ⟨by omega, by rw [apart_sy hI (by omega) hi ht]; exact hyes, z⟩
      · rintro (z | z)
        · exact Or.inl (Or.inl z)
        · exact Or.inr z.2.2
    · rw [upd_ne e, upd_ne (by omega), h1.2 q hq]
      constructor
      · exact fun z => z.imp_right (fun z => ⟨by omega, z.2⟩)
      · exact fun z => z.imp_right (fun z => ⟨by omega, z.2⟩)

set_option maxHeartbeats 4000000 in
set_option maxRecDepth 100000 in
theorem c_X5_lookAt {l : Launch} {D : va_G} {k : Nat → ClassId} {g a : Nat → Nat} (σ ν : St) (ρ : Rw) (p : Nat) (t : Int32) (hT : RT σ ρ) (hI : Inv ρ) (hp : p < nN (ρ 4)) (hrd : RD ρ (ν 75)) (ht : isN t 100000) : Ct l D k g yX5_lookAt cX5_lookAt 7 none 4 96 [.ref (a 4), .int (nI p), .int t] (S := Rw × Rw × Rw) (wX k g a σ ν) (fun uu => wX k g a σ (va_up (va_up (va_up ν 31 uu.1) 74 uu.2.1) 76 uu.2.2)) (fun vv uu => vv = none ∧ NR ρ t (leapsS ρ p t) (nN (ρ 2)) uu.2.2) := by
  refine Ct.ofV RX5 rfl (by decide +kernel) (Nat.le_of_ble_eq_true rfl) (fun X hC hR => ?_)
  have hb4 := hI.hb; have hb8 := hI.mb; have hb6 := hI.pb; have hbm := hI.ob0; have hbt := hI.bb; have hbw := hI.wb
  show V X (wX k g a σ ν) [(0, .ref (a 4)), (1, .int (nI p)), (2, .int t)] [] 0
  refine V.aload_n (pc := 0) 0 hC dX5_lookAt_0 rfl ?_
  refine V.get (pc := 1) (v := .ref (a 1)) hC cf_X5 4 0 fl_X5_27 (by decide) gx_4 rfl dX5_lookAt_1 ?_
  refine V.iload_n (pc := 4) 1 hC dX5_lookAt_4 rfl ?_
  refine V.iload_n (pc := 5) 2 hC dX5_lookAt_5 rfl ?_
  refine V.callV0 (pc := 6) (as := [.int (nI p), .int t]) hC (c_X3_leaps σ ν ρ p t hT hI hp) mu_X3_leaps ml_X5_91 (by decide) ⟨1, 3, TX3, 17, _, rfl, gx_1⟩ rfl (Nat.le_of_ble_eq_true rfl) dX5_lookAt_6 ?_
  rintro _ f6_0 rfl
  show V X (wX k g a σ (va_up ν 31 f6_0)) [(0, .ref (a 4)), (1, .int (nI p)), (2, .int t)] [.int (leapsS ρ p t)] 9
  refine V.istore_n (pc := 9) [(3, .int (leapsS ρ p t)), (0, .ref (a 4)), (1, .int (nI p)), (2, .int t)] hC dX5_lookAt_9 (by decide) rfl ?_
  refine V.iconst (pc := 10) 0 hC dX5_lookAt_10 (by decide) ?_
  refine V.istore (pc := 11) [(4, .int 0), (3, .int (leapsS ρ p t)), (0, .ref (a 4)), (1, .int (nI p)), (2, .int t)] hC dX5_lookAt_11 (by decide) rfl ?_
  have loop_13 : ∀ (n : Nat) (i : Nat) (fm fn : Rw), i + n = nN (ρ 2) → (∀ h, h < i → fm h = markS ρ h t) → NR ρ t (leapsS ρ p t) i fn → V X (wX k g a σ (va_up (va_up (va_up ν 31 f6_0) 74 fm) 76 fn)) [(3, .int (leapsS ρ p t)), (0, .ref (a 4)), (1, .int (nI p)), (2, .int t), (4, .int (nI i))] [] 13 := by
    intro n
    induction n with
    | zero =>
      intro i fm fn hi hm hn
      refine V.iload (pc := 13) 4 hC dX5_lookAt_13 rfl ?_
      refine V.aload_n (pc := 15) 1 hC dX5_lookAt_15 rfl ?_
      refine V.get (pc := 16) (v := .ref (a 1)) hC cf_X5 4 0 fl_X5_27 (by decide) gx_4 rfl dX5_lookAt_16 ?_
      refine V.get (pc := 19) (v := .int (σ 10 0)) hC cf_X3 1 0 fl_X5_77 (by decide) gx_1 rfl dX5_lookAt_19 ?_
      refine V.eqi (y := ρ 2) (hT.1.1) ?_
      refine V.icmp_ge (pc := 22) 146 hC dX5_lookAt_22 (by decide) (fun c_22 => ?_) (fun c_22 => ?_)
      · have nc_22 : nN (ρ 2) ≤ i := (nle hI.hn rfl (by omega) (by omega)).mp c_22
        exact hR (f6_0, fm, fn) _ _ dX5_lookAt_146 ⟨rfl, by rw [show nN (ρ 2) = i by omega]; exact hn⟩
      · have nc_22 : ¬ (nN (ρ 2) ≤ i) := fun z => c_22 ((nle hI.hn rfl (by omega) (by omega)).mpr z)
        exfalso; omega
    | succ n ih =>
      intro i fm fn hi hm hn
      refine V.iload (pc := 13) 4 hC dX5_lookAt_13 rfl ?_
      refine V.aload_n (pc := 15) 1 hC dX5_lookAt_15 rfl ?_
      refine V.get (pc := 16) (v := .ref (a 1)) hC cf_X5 4 0 fl_X5_27 (by decide) gx_4 rfl dX5_lookAt_16 ?_
      refine V.get (pc := 19) (v := .int (σ 10 0)) hC cf_X3 1 0 fl_X5_77 (by decide) gx_1 rfl dX5_lookAt_19 ?_
      refine V.eqi (y := ρ 2) (hT.1.1) ?_
      refine V.icmp_ge (pc := 22) 146 hC dX5_lookAt_22 (by decide) (fun c_22 => ?_) (fun c_22 => ?_)
      · have nc_22 : nN (ρ 2) ≤ i := (nle hI.hn rfl (by omega) (by omega)).mp c_22
        exfalso; omega
      · have nc_22 : ¬ (nN (ρ 2) ≤ i) := fun z => c_22 ((nle hI.hn rfl (by omega) (by omega)).mpr z)
        refine V.aload_n (pc := 25) 1 hC dX5_lookAt_25 rfl ?_
        refine V.get (pc := 26) (v := .ref (a 74)) hC cf_X5 4 1 fl_X5_9 (by decide) gx_4 rfl dX5_lookAt_26 ?_
        refine V.iload (pc := 29) 4 hC dX5_lookAt_29 rfl ?_
        refine V.aload_n (pc := 31) 1 hC dX5_lookAt_31 rfl ?_
        refine V.get (pc := 32) (v := .ref (a 1)) hC cf_X5 4 0 fl_X5_27 (by decide) gx_4 rfl dX5_lookAt_32 ?_
        refine V.iload (pc := 35) 4 hC dX5_lookAt_35 rfl ?_
        refine V.iload_n (pc := 37) 3 hC dX5_lookAt_37 rfl ?_
        refine V.callV0 (pc := 38) (as := [.int (nI i), .int t]) hC (c_X3_markOf σ (va_up (va_up (va_up ν 31 f6_0) 74 fm) 76 fn) ρ i t hT hI (by omega) ht) mu_X3_markOf ml_X5_95 (by decide) ⟨1, 3, TX3, 17, _, rfl, gx_1⟩ rfl (Nat.le_of_ble_eq_true rfl) dX5_lookAt_38 ?_
        rintro _ _ rfl
        show V X (wX k g a σ (va_up (va_up (va_up ν 31 f6_0) 74 fm) 76 fn)) [(3, .int (leapsS ρ p t)), (0, .ref (a 4)), (1, .int (nI p)), (2, .int t), (4, .int (nI i))] [.int (markS ρ i t), .int (nI i), .ref (a 74)] 41
        refine V.iast (pc := 41) (f := fm) hC 41 i (wX k g a σ (va_up (va_up (va_up ν 31 f6_0) 74 (upd fm i (markS ρ i t))) 76 fn)) gx_41 rfl (by omega) (by decide) rfl dX5_lookAt_41 ?_
        refine V.aload_n (pc := 42) 1 hC dX5_lookAt_42 rfl ?_
        refine V.get (pc := 43) (v := .ref (a 76)) hC cf_X5 4 3 fl_X5_18 (by decide) gx_4 rfl dX5_lookAt_43 ?_
        refine V.iload (pc := 46) 4 hC dX5_lookAt_46 rfl ?_
        refine V.aload_n (pc := 48) 1 hC dX5_lookAt_48 rfl ?_
        refine V.get (pc := 49) (v := .ref (a 75)) hC cf_X5 4 2 fl_X5_15 (by decide) gx_4 rfl dX5_lookAt_49 ?_
        refine V.iload (pc := 52) 4 hC dX5_lookAt_52 rfl ?_
        refine V.iald (pc := 54) (f := ν 75) hC 42 i gx_42 rfl (by omega) (by decide) dX5_lookAt_54 ?_
        refine V.iast (pc := 55) (f := fn) hC 43 i (wX k g a σ (va_up (va_up (va_up ν 31 f6_0) 74 (upd fm i (markS ρ i t))) 76 (upd fn i (ν 75 i)))) gx_43 rfl (by omega) (by decide) rfl dX5_lookAt_55 ?_
        refine V.iconst (pc := 56) 0 hC dX5_lookAt_56 (by decide) ?_
        refine V.istore (pc := 57) [(5, .int 0), (3, .int (leapsS ρ p t)), (0, .ref (a 4)), (1, .int (nI p)), (2, .int t), (4, .int (nI i))] hC dX5_lookAt_57 (by decide) rfl ?_
        have loop_59 : ∀ (n : Nat) (j2 : Nat) (f2 : Rw), j2 + n = i → NQ ρ t (leapsS ρ p t) i j2 fn f2 → V X (wX k g a σ (va_up (va_up (va_up ν 31 f6_0) 74 (upd fm i (markS ρ i t))) 76 f2)) [(3, .int (leapsS ρ p t)), (0, .ref (a 4)), (1, .int (nI p)), (2, .int t), (4, .int (nI i)), (5, .int (nI j2))] [] 59 := by
          intro n
          induction n with
          | zero =>
            intro j2 f2 hj hq1
            refine V.iload (pc := 59) 5 hC dX5_lookAt_59 rfl ?_
            refine V.iload (pc := 61) 4 hC dX5_lookAt_61 rfl ?_
            refine V.icmp_ge (pc := 63) 140 hC dX5_lookAt_63 (by decide) (fun c_63 => ?_) (fun c_63 => ?_)
            · have nc_63 : i ≤ j2 := (nle rfl rfl (by omega) (by omega)).mp c_63
              refine V.iinc (pc := 140) 4 (nI (i + 1)) [(4, .int (nI (i + 1))), (3, .int (leapsS ρ p t)), (0, .ref (a 4)), (1, .int (nI p)), (2, .int t), (5, .int (nI j2))] hC dX5_lookAt_140 rfl (ncast (nadd rfl (nl 1)) (by omega)) (by decide) rfl ?_
              refine V.goto (pc := 143) 13 hC dX5_lookAt_143 (by decide) ?_
              exact V.sub [1, 2, 3, 4, 0] rfl (ih (i + 1) _ f2 (by omega) (fun h q => (Nat.lt_or_ge h i).elim (fun e => (upd_ne (by omega)).trans (hm h e)) (fun e => by rw [show h = i by omega]; exact upd_eq)) (by rw [show j2 = i by omega] at hq1; exact near_end hq1))
            · have nc_63 : ¬ (i ≤ j2) := fun z => c_63 ((nle rfl rfl (by omega) (by omega)).mpr z)
              exfalso; omega
          | succ n ih =>
            intro j2 f2 hj hq1
            refine V.iload (pc := 59) 5 hC dX5_lookAt_59 rfl ?_
            refine V.iload (pc := 61) 4 hC dX5_lookAt_61 rfl ?_
            refine V.icmp_ge (pc := 63) 140 hC dX5_lookAt_63 (by decide) (fun c_63 => ?_) (fun c_63 => ?_)
            · have nc_63 : i ≤ j2 := (nle rfl rfl (by omega) (by omega)).mp c_63
              exfalso; omega
            · have nc_63 : ¬ (i ≤ j2) := fun z => c_63 ((nle rfl rfl (by omega) (by omega)).mpr z)
              refine V.aload_n (pc := 66) 1 hC dX5_lookAt_66 rfl ?_
              refine V.get (pc := 67) (v := .ref (a 74)) hC cf_X5 4 1 fl_X5_9 (by decide) gx_4 rfl dX5_lookAt_67 ?_
              refine V.iload (pc := 70) 4 hC dX5_lookAt_70 rfl ?_
              refine V.iald (pc := 72) (f := upd fm i (markS ρ i t)) hC 41 i gx_41 rfl (by omega) (by decide) dX5_lookAt_72 ?_
              refine V.eqi (y := markS ρ i t) (upd_eq) ?_
              refine V.aload_n (pc := 73) 1 hC dX5_lookAt_73 rfl ?_
              refine V.get (pc := 74) (v := .ref (a 74)) hC cf_X5 4 1 fl_X5_9 (by decide) gx_4 rfl dX5_lookAt_74 ?_
              refine V.iload (pc := 77) 5 hC dX5_lookAt_77 rfl ?_
              refine V.iald (pc := 79) (f := upd fm i (markS ρ i t)) hC 41 j2 gx_41 rfl (by omega) (by decide) dX5_lookAt_79 ?_
              refine V.eqi (y := fm j2) (upd_ne (show j2 ≠ i by omega)) ?_
              refine V.eqi (y := markS ρ j2 t) (hm j2 (by omega)) ?_
              refine V.isub (pc := 80) hC dX5_lookAt_80 ?_
              refine V.mabs (pc := 81) hC ml_X5_86 ⟨Nat.le_of_ble_eq_true rfl, Nat.le_of_ble_eq_true rfl⟩ dX5_lookAt_81 ?_
              refine V.eqi (y := absS ((markS ρ i t) - (markS ρ j2 t))) abs_m ?_
              refine V.istore (pc := 84) [(6, .int (absS ((markS ρ i t) - (markS ρ j2 t)))), (3, .int (leapsS ρ p t)), (0, .ref (a 4)), (1, .int (nI p)), (2, .int t), (4, .int (nI i)), (5, .int (nI j2))] hC dX5_lookAt_84 (by decide) rfl ?_
              refine V.iload (pc := 86) 0 hC dX5_lookAt_86 rfl ?_
              refine V.bipush (pc := 88) 60 hC dX5_lookAt_88 (by decide) ?_
              refine V.iload (pc := 90) 0 hC dX5_lookAt_90 rfl ?_
              refine V.isub (pc := 92) hC dX5_lookAt_92 ?_
              refine V.mmin (pc := 93) hC ml_X5_98 ⟨Nat.le_of_ble_eq_true rfl, Nat.le_of_ble_eq_true rfl⟩ dX5_lookAt_93 ?_
              refine V.eqi (y := minS (absS ((markS ρ i t) - (markS ρ j2 t))) (60 - (absS ((markS ρ i t) - (markS ρ j2 t))))) min_m ?_
              refine V.iload_n (pc := 96) 1 hC dX5_lookAt_96 rfl ?_
              refine V.icmp_gt (pc := 97) 134 hC dX5_lookAt_97 (by decide) (fun c_97 => ?_) (fun c_97 => ?_)
              · refine V.iinc (pc := 134) 6 (nI (j2 + 1)) [(5, .int (nI (j2 + 1))), (6, .int (absS ((markS ρ i t) - (markS ρ j2 t)))), (3, .int (leapsS ρ p t)), (0, .ref (a 4)), (1, .int (nI p)), (2, .int t), (4, .int (nI i))] hC dX5_lookAt_134 rfl (ncast (nadd rfl (nl 1)) (by omega)) (by decide) rfl ?_
                refine V.goto (pc := 137) 59 hC dX5_lookAt_137 (by decide) ?_
                exact V.sub [2, 3, 4, 5, 6, 0] rfl (ih (j2 + 1) f2 (by omega) (near_no hI (by omega) (by omega) ht (i_gt c_97) hq1))
              · have c96 : apartS ρ i j2 t ≤ (leapsS ρ p t) := i_nlt c_97
                have hj8 : j2 < i := by omega
                refine V.aload_n (pc := 100) 2 hC dX5_lookAt_100 rfl ?_
                refine V.get (pc := 101) (v := .ref (a 76)) hC cf_X5 4 3 fl_X5_18 (by decide) gx_4 rfl dX5_lookAt_101 ?_
                refine V.iload (pc := 104) 5 hC dX5_lookAt_104 rfl ?_
                refine V.dup2 (pc := 106) hC dX5_lookAt_106 rfl rfl ?_
                refine V.iald (pc := 107) (f := f2) hC 43 i gx_43 rfl (by omega) (by decide) dX5_lookAt_107 ?_
                refine V.aload_n (pc := 108) 2 hC dX5_lookAt_108 rfl ?_
                refine V.get (pc := 109) (v := .ref (a 75)) hC cf_X5 4 2 fl_X5_15 (by decide) gx_4 rfl dX5_lookAt_109 ?_
                refine V.iload (pc := 112) 6 hC dX5_lookAt_112 rfl ?_
                refine V.iald (pc := 114) (f := ν 75) hC 42 j2 gx_42 rfl (by omega) (by decide) dX5_lookAt_114 ?_
                refine V.ior (pc := 115) hC dX5_lookAt_115 ?_
                refine V.iast (pc := 116) (f := f2) hC 43 i (wX k g a σ (va_up (va_up (va_up ν 31 f6_0) 74 (upd fm i (markS ρ i t))) 76 (upd f2 i ((f2 i) ||| (ν 75 j2))))) gx_43 rfl (by omega) (by decide) rfl dX5_lookAt_116 ?_
                refine V.aload_n (pc := 117) 2 hC dX5_lookAt_117 rfl ?_
                refine V.get (pc := 118) (v := .ref (a 76)) hC cf_X5 4 3 fl_X5_18 (by decide) gx_4 rfl dX5_lookAt_118 ?_
                refine V.iload (pc := 121) 6 hC dX5_lookAt_121 rfl ?_
                refine V.dup2 (pc := 123) hC dX5_lookAt_123 rfl rfl ?_
                refine V.iald (pc := 124) (f := upd f2 i ((f2 i) ||| (ν 75 j2))) hC 43 j2 gx_43 rfl (by omega) (by decide) dX5_lookAt_124 ?_
                refine V.eqi (y := f2 j2) (upd_ne (show j2 ≠ i by omega)) ?_
                refine V.aload_n (pc := 125) 2 hC dX5_lookAt_125 rfl ?_
                refine V.get (pc := 126) (v := .ref (a 75)) hC cf_X5 4 2 fl_X5_15 (by decide) gx_4 rfl dX5_lookAt_126 ?_
                refine V.iload (pc := 129) 5 hC dX5_lookAt_129 rfl ?_
                refine V.iald (pc := 131) (f := ν 75) hC 42 i gx_42 rfl (by omega) (by decide) dX5_lookAt_131 ?_
                refine V.ior (pc := 132) hC dX5_lookAt_132 ?_
                refine V.iast (pc := 133) (f := upd f2 i ((f2 i) ||| (ν 75 j2))) hC 43 j2 (wX k g a σ (va_up (va_up (va_up ν 31 f6_0) 74 (upd fm i (markS ρ i t))) 76 (upd (upd f2 i ((f2 i) ||| (ν 75 j2))) j2 ((f2 j2) ||| (ν 75 i))))) gx_43 rfl (by omega) (by decide) rfl dX5_lookAt_133 ?_
                refine V.iinc (pc := 134) 6 (nI (j2 + 1)) [(5, .int (nI (j2 + 1))), (6, .int (absS ((markS ρ i t) - (markS ρ j2 t)))), (3, .int (leapsS ρ p t)), (0, .ref (a 4)), (1, .int (nI p)), (2, .int t), (4, .int (nI i))] hC dX5_lookAt_134 rfl (ncast (nadd rfl (nl 1)) (by omega)) (by decide) rfl ?_
                refine V.goto (pc := 137) 59 hC dX5_lookAt_137 (by decide) ?_
                exact V.sub [2, 3, 4, 5, 6, 0] rfl (ih (j2 + 1) (upd (upd f2 i ((f2 i) ||| (ν 75 j2))) j2 ((f2 j2) ||| (ν 75 i))) (by omega) (near_yes hI hj8 (by omega) ht (by rw [hrd j2 (by omega)]) (by rw [hrd i (by omega)]) c96 hq1))
        exact V.sub [1, 2, 3, 4, 5, 0] rfl (loop_59 i 0 (upd fn i (ν 75 i)) (by omega) (near_0 (by rw [hrd i (by omega)]) hn))
  exact V.sub [1, 2, 3, 4, 0] rfl (loop_13 (nN (ρ 2)) 0 (ν 74) (ν 76) (by omega) (fun h q => absurd q (by omega)) (fun h q => absurd q (by omega)))
