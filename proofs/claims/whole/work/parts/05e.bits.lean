/-! bits (the first rows are the kit's, pasted) -/
def bt (x : Int32) (i : Nat) : Bool := x.toBitVec.getLsbD i
theorem b_ext {x y : Int32} (h : ∀ i, i < 32 → bt x i = bt y i) : x = y := Int32.toBitVec_inj.mp (BitVec.eq_of_getLsbD_eq (fun i hi => h i hi))
theorem b_or (x y : Int32) (i : Nat) : bt (x ||| y) i = (bt x i || bt y i) := by unfold bt; rw [Int32.toBitVec_or, BitVec.getLsbD_or]
theorem b_and (x y : Int32) (i : Nat) : bt (x &&& y) i = (bt x i && bt y i) := by unfold bt; rw [Int32.toBitVec_and, BitVec.getLsbD_and]
theorem b_xor (x y : Int32) (i : Nat) : bt (x ^^^ y) i = (bt x i ^^ bt y i) := by unfold bt; rw [Int32.toBitVec_xor, BitVec.getLsbD_xor]
theorem b_big {x : Int32} {i : Nat} (h : 32 ≤ i) : bt x i = false := BitVec.getLsbD_of_ge _ _ h
theorem b_m1 : ∀ i, i < 32 → bt (-1) i = true := by decide +kernel
theorem b_0 (i : Nat) : bt 0 i = false := BitVec.getLsbD_zero
theorem s_l : ∀ n, n < 32 → ((nI n &&& 31).toBitVec.smod 32).toNat = n := by decide +kernel
theorem b_shl (n : Nat) (hn : n < 32) (x : Int32) {i : Nat} (hi : i < 32) : bt (x <<< (nI n &&& 31)) i = (decide (n ≤ i) && bt x (i - n)) := by
  unfold bt
  rw [Int32.toBitVec_shiftLeft]
  show (x.toBitVec <<< ((nI n &&& 31).toBitVec.smod 32).toNat).getLsbD i = _
  rw [s_l n hn, BitVec.getLsbD_shiftLeft]
  rcases Nat.lt_or_ge i n with h | h
  · simp [h, Nat.not_le.mpr h]
  · simp [hi, h, Nat.not_lt.mpr h]
theorem b_sshr (n : Nat) (hn : n < 32) (x : Int32) {i : Nat} (hi : i < 32) : bt (x >>> (nI n &&& 31)) i = if n + i < 32 then bt x (n + i) else bt x 31 := by
  unfold bt
  rw [Int32.toBitVec_shiftRight]
  show (x.toBitVec.sshiftRight ((nI n &&& 31).toBitVec.smod 32).toNat).getLsbD i = _
  rw [s_l n hn, BitVec.getLsbD_sshiftRight, BitVec.msb_eq_getLsbD_last]
  simp [hi]
theorem b_one : ∀ i, i < 32 → bt 1 i = decide (i = 0) := by decide +kernel
theorem bit_v {s : Int32} {i : Nat} (hi : i < 32) : bitS s (nI i) = if bt s i = true then 1 else 0 := by
  apply b_ext
  intro j hj
  unfold bitS
  rw [b_and, b_one j hj, b_sshr i hi s hj]
  by_cases h0 : j = 0
  · subst h0
    rw [Nat.add_zero, if_pos hi]
    cases hb : bt s i <;> simp [b_0, b_one 0 (by omega)]
  · cases hb : bt s i <;> simp [h0, b_0, b_one j hj]
theorem bit_1 {s : Int32} {i : Nat} (hi : i < 32) : bitS s (nI i) = 1 ↔ bt s i = true := by
  rw [bit_v hi]; cases bt s i <;> decide
theorem bit_0 {s : Int32} {i : Nat} (hi : i < 32) : bitS s (nI i) = 0 ↔ bt s i = false := by
  rw [bit_v hi]; cases bt s i <;> decide
theorem bit_n {s : Int32} {i : Nat} (hi : i < 32) : bitS s (nI i) = 0 ↔ ¬ bitS s (nI i) = 1 := by
  rw [bit_v hi]; cases bt s i <;> decide
theorem b_b1 {i j : Nat} (hi : i < 32) (hj : j < 32) : bt (b1 (nI i)) j = decide (j = i) := by
  unfold b1
  rw [b_shl i hi 1 hj]
  rcases Nat.lt_or_ge j i with h | h
  · have e : ¬ i ≤ j := by omega
    have e2 : ¬ j = i := by omega
    simp [e, e2]
  · rw [b_one (j - i) (by omega)]
    by_cases e : j = i
    · subst e; simp
    · have e2 : ¬ j - i = 0 := by omega
      simp [e, e2]
theorem run_ind {f : Nat → Int32 → Int32} (P : Nat → Int32 → Prop) : ∀ (n i : Nat) (s : Int32), P i s → (∀ j s, i ≤ j → j < i + n → P j s → P (j + 1) (f j s)) → P (i + n) (run f n i s) := by
  intro n
  induction n with
  | zero => intro i s h _; exact h
  | succ n ih =>
    intro i s h hs
    have := ih (i + 1) (f i s) (hs i s (Nat.le_refl i) (by omega) h) (fun j s h1 h2 => hs j s (by omega) (by omega))
    rw [show i + (n + 1) = i + 1 + n by omega]
    exact this
theorem b_or_t {x y : Int32} {j : Nat} (h : bt x j = true) : bt (x ||| y) j = true := by rw [b_or, h]; rfl
theorem onward_mono {ρ : Rw} {p : Nat} {set t : Int32} {j : Nat} (h : bt set j = true) : bt (onwardS ρ p set t) j = true :=
  run_ind (fun _ s => bt s j = true) _ 0 set h (fun _ s _ _ hs => run_ind (fun _ s => bt s j = true) _ 0 s hs (fun _ _ _ _ hq => b_or_t hq))
theorem roomsBy_mono {ρ : Rw} {p n j : Nat} (h : bt (b1 (ρ (33 + 3 * p))) j = true) : bt (roomsByS ρ p n) j = true :=
  run_ind (fun _ s => bt s j = true) _ 0 _ h (fun _ _ _ _ hs => onward_mono hs)
theorem roomsBy_at {ρ : Rw} (h : Inv ρ) {p n : Nat} (hp : p < nN (ρ 4)) : bt (roomsByS ρ p n) (nN (ρ (33 + 3 * p))) = true := by
  apply roomsBy_mono
  have h8 := h.mb
  have ha := h.ab hp
  rw [h.an hp, nN_nI (by omega), b_b1 (by omega) (by omega)]
  simp
theorem bst_ok {ρ : Rw} {set t : Int32} {x N : Nat} (hN : N ≤ 8) (hx : x < N) (hs : bt set x = true) : run (bstF ρ set t) N 0 (-1) = nI (nN (run (bstF ρ set t) N 0 (-1))) ∧ nN (run (bstF ρ set t) N 0 (-1)) < N := by
  have key := run_ind (f := bstF ρ set t) (fun j s => (s = -1 ∨ (s = nI (nN s) ∧ nN s < j)) ∧ (x < j → ¬ s = -1)) N 0 (-1) ⟨Or.inl rfl, fun h => absurd h (Nat.not_lt_zero x)⟩ (fun j s _ hj h => by
    unfold bstF
    split
    · have e : nN (nI j) = j := nN_nI (by omega)
      refine ⟨Or.inr ⟨by rw [e], by rw [e]; omega⟩, fun _ q => ?_⟩
      exact absurd (show nI j < 0 by rw [q]; decide) (nI_pos (by omega))
    · rename_i hc
      refine ⟨h.1.elim Or.inl (fun q => Or.inr ⟨q.1, by omega⟩), fun hxj q => ?_⟩
      by_cases e : x = j
      · subst e
        exact hc ⟨(bit_1 (by omega)).mpr hs, Or.inl (by rw [q]; decide)⟩
      · exact h.2 (by omega) q)
  rw [Nat.zero_add] at key
  rcases key.1 with h | h
  · exact absurd h (key.2 hx)
  · exact h
theorem bst_n {ρ : Rw} (h : Inv ρ) {p : Nat} {n : Int32} (hp : p < nN (ρ 4)) : bstS ρ p n = nI (nN (bstS ρ p n)) ∧ nN (bstS ρ p n) < nN (ρ 3) := bst_ok h.mb (h.ab hp) (roomsBy_at h hp)
theorem shl1 : ∀ c, c < 9 → (1 : Int32) <<< (nI c &&& 31) = nI (2 ^ c) := by decide +kernel
theorem pc8_b (c : Nat) : pc8 c ≤ 8 := by unfold pc8; omega
theorem but_c {ρ re re' : Rw} {p m : Nat} {shut : Int32} (h : ∀ i x, i < m → x < nN (ρ 3) → re (8 * i + x) = re' (8 * i + x)) : roomsButS ρ re p m shut = roomsButS ρ re' p m shut :=
  run_congr _ _ _ (fun i _ hi s => run_congr _ _ _ (fun x _ hx s' => by unfold butF; rw [h i x (by omega) (by omega)]))
theorem reW_v {ρ : Rw} {p i x : Nat} (hx : x < 8) : reW ρ p (8 * i + x) = wayS ρ p x (ρ 0 + nI i) := by
  unfold reW
  rw [show (8 * i + x) % 8 = x by omega, show (8 * i + x) / 8 = i by omega]
/-! odds -/
def redM : Nat → Nat → Nat → Nat × Nat
  | 0, x, y => (x, y)
  | d + 1, x, y => if 1 < d + 1 ∧ x % (d + 1) = 0 ∧ y % (d + 1) = 0 then redM d (x / (d + 1)) (y / (d + 1)) else redM d x y
theorem red_t : (List.range 61).all (fun c => decide (redM 60 c 60 = (c / Nat.gcd c 60, 60 / Nat.gcd c 60))) = true := by decide +kernel
theorem red_v {c : Nat} (h : c ≤ 60) : redM 60 c 60 = (c / Nat.gcd c 60, 60 / Nat.gcd c 60) := of_decide_eq_true (List.all_eq_true.mp red_t c (List.mem_range.mpr (by omega)))
theorem odd_n {ρ : Rw} {p : Nat} {h : Int32} : oddS ρ p h = nI (nN (oddS ρ p h)) ∧ nN (oddS ρ p h) ≤ 60 := by
  have key := run_ind (f := fun i s => s + (if ρ (33 + 3 * p) = h ∨ getsS ρ p (nN (ρ (33 + 3 * p))) (nN h) (ρ 0 + nI i) then 1 else 0)) (fun j s => isN s j ∧ j ≤ 60) 60 0 0 ⟨isN.mk (n := 0) rfl (Nat.le_refl 0) (by omega), by omega⟩ (fun j s _ hj q => by
    refine ⟨?_, by omega⟩
    split
    · exact isN.mk (nadd q.1.1 (nl 1)) (by have := q.1.2; omega) (by omega)
    · rw [show s + 0 = s by simp]; exact ⟨q.1.1, by have := q.1.2; omega⟩)
  exact key.1
/-! moving numbers -/
theorem isub_n {k a c : Nat} (hk : k ≤ 24) (ha : a < 2147483648) (hc : c < 2147483648) (h : nI c ≤ nI k - nI a) : a + c ≤ k := by
  rcases Nat.lt_or_ge k a with q | q
  · have e : nI k - nI a = -nI (a - k) := by
      have : nI a = nI k + nI (a - k) := by rw [nI_add]; congr 1; omega
      rw [this]
      apply Int32.toBitVec_inj.mp
      simp only [Int32.toBitVec_sub, Int32.toBitVec_add, Int32.toBitVec_neg]
      bv_omega
    rw [e, Int32.le_iff_toInt_le, sb_negT (by omega), nI_toInt hc] at h
    omega
  · rw [pk_sub q, nI_leI hc (by omega)] at h
    omega

theorem mov_n {s i o j n : Int32} {μ : St} (h : movOk s i o j n μ) (hs : isN (μ 5 (nN s)) 24) (ho : isN (μ 5 (nN o)) 24) : (i = nI (nN i) ∧ j = nI (nN j) ∧ n = nI (nN n)) ∧ nN i + nN n ≤ nN (μ 5 (nN s)) ∧ nN j + nN n ≤ nN (μ 5 (nN o)) := by
  obtain ⟨h0, h1, h2, h3, h4⟩ := h
  have nn : ∀ x : Int32, 0 ≤ x → x = nI (nN x) ∧ nN x < 2147483648 := fun x hx => by
    obtain ⟨c, hc, rfl⟩ := nI_of (x := x) (fun q => absurd hx (Int32.not_le.mpr q))
    rw [nN_nI hc]; exact ⟨rfl, hc⟩
  have e0 := nn n h0
  have e1 := nn i h1
  have e2 := nn j h2
  rw [e0.1, e1.1, hs.1] at h3
  rw [e0.1, e2.1, ho.1] at h4
  exact ⟨⟨e1.1, e2.1, e0.1⟩, isub_n hs.2 e1.2 e0.2 h3, isub_n ho.2 e2.2 e0.2 h4⟩
theorem cpy_0 {f g : Rw} : va_cpy f g 0 0 0 = g := by funext q; unfold va_cpy; rw [if_neg (by omega)]
theorem cpy_s {f g : Rw} {i : Nat} : upd (va_cpy f g 0 0 i) i (f i) = va_cpy f g 0 0 (i + 1) := by
  funext q
  unfold upd va_cpy
  by_cases h : q = i
  · subst h; rw [if_pos rfl, if_pos (by omega)]; congr 1; omega
  · rw [if_neg h]
    by_cases h2 : q < i
    · rw [if_pos (by omega), if_pos (by omega)]
    · rw [if_neg (by omega), if_neg (by omega)]
def clrU (f : Rw) (p i : Nat) : Rw := fun q => if p ≤ q ∧ q < p + i then 0 else f q
theorem clr_0 {f : Rw} {p : Nat} : f = clrU f p 0 := by funext q; unfold clrU; rw [if_neg (by omega)]
theorem clr_s {f : Rw} {p i : Nat} : upd (clrU f p i) (p + i) 0 = clrU f p (i + 1) := by
  funext q
  unfold upd clrU
  by_cases h : q = p + i
  · subst h; rw [if_pos rfl, if_pos (by omega)]
  · rw [if_neg h]
    by_cases h2 : p ≤ q ∧ q < p + i
    · rw [if_pos h2, if_pos (by omega)]
    · rw [if_neg h2, if_neg (by omega)]
def whyS (μ : St) (s : Int32) : Int32 := if ¬ shtS s then -1000000001 else if μ 4 (nN s) = 0 then -1000000002 else 0
def mvwS (μ : St) (s i o j n : Int32) : Int32 := if ¬ shtS s then -1000000001 else if ¬ shtS o then -1000000001 else if μ 4 (nN s) = 0 then -1000000002 else if μ 4 (nN o) = 0 then -1000000002 else if ¬ μ 4 (nN s) = μ 4 (nN o) then -1000000005 else if ¬ movOk s i o j n μ then -1000000001 else 0
def movG (f : Rw) (i j : Nat) (d s m : Nat) (c : Nat) : Rw := fun q => if d ≤ q ∧ q < d + m ∧ (if i < j then m ≤ c + (q - d) else q - d < c) then f (s + (q - d)) else f q
theorem inS_i {i : Nat} {N : Int32} {n : Nat} (hN : N = nI n) (hi : i < 1073741824) (hn : n < 1073741824) : inS (nI i) 0 (N - 1) ↔ i < n := by
  constructor
  · intro h
    have := (inS_n h hN hn).2
    rw [nN_nI (by omega)] at this
    exact this
  · intro h
    refine ⟨nI_pos' (by omega), ?_⟩
    obtain ⟨m, rfl⟩ : ∃ m, n = m + 1 := ⟨n - 1, by omega⟩
    rw [hN, nI_pred]
    exact nI_le (by omega) (by omega)
theorem Inv.wait {ρ : Rw} (h : Inv ρ) {x : Int32} (hx : isN x 24) : Inv (upd ρ 6 x) :=
  h.low (by omega) (h.pH.c (fun j hj => upd_ne (by omega))) (h.pM.c (fun j hj => upd_ne (by omega)) (by rw [upd_ne (by omega)]; exact Nat.le_refl _)) (h.pP.c (fun j hj => upd_ne (by omega)) (by rw [upd_ne (by omega)]; exact Nat.le_refl _)) (by rw [upd_ne (by omega)]; exact h.2.2.2.1) (h.pB.c (fun j hj => upd_ne (by omega))) (by rw [upd_eq]; exact hx)
theorem redM_s {d x y : Nat} (h : 1 < d) : redM d x y = if x % d = 0 ∧ y % d = 0 then redM (d - 1) (x / d) (y / d) else redM (d - 1) x y := by
  obtain ⟨c, rfl⟩ : ∃ c, d = c + 1 := ⟨d - 1, by omega⟩
  rw [redM, Nat.add_sub_cancel]
  simp only [h, true_and]
theorem redM_1 {x y : Nat} : redM 1 x y = (x, y) := by simp [redM]
theorem m1_n {d : Nat} (h : 1 ≤ d) : nI d + (-1) = nI (d - 1) := by
  obtain ⟨c, rfl⟩ : ∃ c, d = c + 1 := ⟨d - 1, by omega⟩
  exact pk_m1 c
