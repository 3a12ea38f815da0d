/-! a Town's groups -/
def XH (h tu ofs : Rw) (ρ : Rw) : Prop := h 0 = ρ 2 ∧ (∀ i, i < 4 → tu i = ρ (7 + 2 * i)) ∧ ∀ i, i < 4 → ofs i = ρ (8 + 2 * i)
def XM (ho hof fa : Rw) (ρ : Rw) : Prop := ho 0 = ρ 3 ∧ (∀ i, i < 8 → hof i = ρ (15 + 2 * i)) ∧ ∀ i, i < 8 → fa i = ρ (16 + 2 * i)
def XP (pe ki nu ro : Rw) (ρ : Rw) : Prop := pe 0 = ρ 4 ∧ (∀ i, i < 6 → ki i = ρ (31 + 3 * i)) ∧ (∀ i, i < 6 → nu i = ρ (32 + 3 * i)) ∧ ∀ i, i < 6 → ro i = ρ (33 + 3 * i)
def XT (mi z : Rw) (ρ : Rw) : Prop := mi 0 = ρ 0 ∧ z 0 = ρ 1
def XB (bs ta : Rw) (ρ : Rw) : Prop := bs 0 = ρ 5 ∧ ∀ i, i < nN (ρ 5) → ta i &&& 255 = ρ (49 + i)
def XW (wa wt : Rw) (ρ : Rw) : Prop := wa 0 = ρ 6 ∧ ∀ i, i < 24 → wt i = ρ (109 + i)
def XL (w d : Rw) (u : Nat) (ρ : Rw) : Prop := w 0 = ρ (133 + 121 * u) ∧ ∀ i, i < nN (ρ (133 + 121 * u)) → cdR (d i) (acS ρ u i) (wiS ρ u i)
theorem XH.c {h tu ofs ρ ρ' : Rw} (x : XH h tu ofs ρ) (e : ∀ j, j = 2 ∨ (7 ≤ j ∧ j < 15) → ρ' j = ρ j) : XH h tu ofs ρ' := ⟨x.1.trans (e 2 (Or.inl rfl)).symm, fun i hi => (x.2.1 i hi).trans (e _ (by omega)).symm, fun i hi => (x.2.2 i hi).trans (e _ (by omega)).symm⟩
theorem XM.c {ho hof fa ρ ρ' : Rw} (x : XM ho hof fa ρ) (e : ∀ j, j = 3 ∨ (15 ≤ j ∧ j < 31) → ρ' j = ρ j) : XM ho hof fa ρ' := ⟨x.1.trans (e 3 (Or.inl rfl)).symm, fun i hi => (x.2.1 i hi).trans (e _ (by omega)).symm, fun i hi => (x.2.2 i hi).trans (e _ (by omega)).symm⟩
theorem XP.c {pe ki nu ro ρ ρ' : Rw} (x : XP pe ki nu ro ρ) (e : ∀ j, j = 4 ∨ (31 ≤ j ∧ j < 49) → ρ' j = ρ j) : XP pe ki nu ro ρ' := ⟨x.1.trans (e 4 (Or.inl rfl)).symm, fun i hi => (x.2.1 i hi).trans (e _ (by omega)).symm, fun i hi => (x.2.2.1 i hi).trans (e _ (by omega)).symm, fun i hi => (x.2.2.2 i hi).trans (e _ (by omega)).symm⟩
theorem XT.c {mi z ρ ρ' : Rw} (x : XT mi z ρ) (e : ∀ j, j < 2 → ρ' j = ρ j) : XT mi z ρ' := ⟨x.1.trans (e 0 (by omega)).symm, x.2.trans (e 1 (by omega)).symm⟩
theorem XB.c {bs ta ρ ρ' : Rw} (x : XB bs ta ρ) (hb : nN (ρ 5) ≤ 60) (e : ∀ j, j = 5 ∨ (49 ≤ j ∧ j < 109) → ρ' j = ρ j) : XB bs ta ρ' := by
  have e5 := e 5 (Or.inl rfl)
  refine ⟨x.1.trans e5.symm, fun i hi => ?_⟩
  rw [e5] at hi
  exact (x.2 i hi).trans (e _ (by omega)).symm
theorem XW.c {wa wt ρ ρ' : Rw} (x : XW wa wt ρ) (e : ∀ j, j = 6 ∨ (109 ≤ j ∧ j < 133) → ρ' j = ρ j) : XW wa wt ρ' := ⟨x.1.trans (e 6 (Or.inl rfl)).symm, fun i hi => (x.2 i hi).trans (e _ (by omega)).symm⟩
theorem XL.c {w d ρ ρ' : Rw} {u : Nat} (x : XL w d u ρ) (hb : nN (ρ (133 + 121 * u)) ≤ 60) (e : ∀ j, 133 + 121 * u ≤ j ∧ j < 254 + 121 * u → ρ' j = ρ j) : XL w d u ρ' := by
  have e5 := e (133 + 121 * u) (by omega)
  refine ⟨x.1.trans e5.symm, fun i hi => ?_⟩
  rw [e5] at hi
  have h := x.2 i hi
  have e1 : acS ρ' u i = acS ρ u i := e (134 + 121 * u + i) (by omega)
  have e2 : wiS ρ' u i = wiS ρ u i := e (194 + 121 * u + i) (by omega)
  rw [e1, e2]
  exact h
theorem Rx_iff {h tu ofs ho hof fa pe ki nu ro mi z bs ta wa wt w0 w1 d0 d1 ρ : Rw} : Rx h tu ofs ho hof fa pe ki nu ro mi z bs ta wa wt w0 w1 d0 d1 ρ ↔ XH h tu ofs ρ ∧ XM ho hof fa ρ ∧ XP pe ki nu ro ρ ∧ XT mi z ρ ∧ XB bs ta ρ ∧ XW wa wt ρ ∧ XL w0 d0 0 ρ ∧ XL w1 d1 1 ρ := Iff.rfl
theorem le_i {x y : Int32} : x ≤ y ↔ x.toInt ≤ y.toInt := Int32.le_iff_toInt_le
theorem lt_i {x y : Int32} : x < y ↔ x.toInt < y.toInt := Int32.lt_iff_toInt_lt
theorem hold_h {v p q : Int32} (h : p ≤ q) : (if p < (if v < q then v else q) then (if v < q then v else q) else p) = heldS v p q := by
  unfold heldS
  rw [le_i] at h
  by_cases h1 : v < q
  · rw [if_pos h1]
    by_cases h2 : p < v
    · rw [if_pos h2, if_neg (fun z => by rw [lt_i] at h2 z; omega), if_neg (fun z => by rw [lt_i] at h1 z; omega)]
    · rw [if_neg h2]
      by_cases h3 : v < p
      · rw [if_pos h3]
      · rw [if_neg h3, if_neg (fun z => by rw [lt_i] at h1 z; omega)]
        rw [lt_i] at h2 h3
        exact Int32.toInt_inj.mp (by omega)
  · rw [if_neg h1]
    by_cases h2 : p < q
    · rw [if_pos h2, if_neg (fun z => by rw [lt_i] at h1 h2 z; omega)]
      by_cases h3 : q < v
      · rw [if_pos h3]
      · rw [if_neg h3]
        rw [lt_i] at h1 h3
        exact Int32.toInt_inj.mp (by omega)
    · rw [if_neg h2]
      have e : p = q := by rw [lt_i] at h2; exact Int32.toInt_inj.mp (by omega)
      subst e
      rw [if_neg h1]
      by_cases h3 : p < v
      · rw [if_pos h3]
      · rw [if_neg h3]
        rw [lt_i] at h1 h3
        exact Int32.toInt_inj.mp (by omega)
def restS (v y : Int32) : Int32 := if y < 1 then 0 else fmodS v y
theorem n_xor {x y : Int32} (hx : 0 ≤ x) (hy : 0 ≤ y) : 0 ≤ x ^^^ y := by
  have hs : ∀ v : Int32, 0 ≤ v ↔ bt v 31 = false := fun v => by
    unfold bt
    rw [le_i, show Int32.toInt 0 = 0 by decide]
    show 0 ≤ v.toBitVec.toInt ↔ _
    rw [BitVec.toInt_eq_msb_cond, BitVec.msb_eq_getLsbD_last]
    have := v.toBitVec.isLt
    cases v.toBitVec.getLsbD 31 <;> simp <;> omega
  rw [hs] at hx hy ⊢
  rw [b_xor, hx, hy]; rfl
theorem rest_n {v y : Int32} {a c : Nat} (hv : v = nI a) (hy : y = nI c) (ha : a < 2147483648) (hc : c < 2147483648) (h1 : 1 ≤ c) : restS v y = irm v y := by
  unfold restS fmodS
  rw [if_neg (fun z => by rw [hy] at z; have := (nI_ltI (a := c) (b := 1) hc (by omega)).mp z; omega), if_neg (fun z => z.1 (n_xor (by rw [hv]; exact nI_pos' ha) (by rw [hy]; exact nI_pos' hc)))]
theorem mark_n {ρ : Rw} (hI : Inv ρ) {h : Nat} (hh : h < nN (ρ 2)) {t : Int32} (ht : isN t 100000) : isN (markS ρ h t) 59 ∧ irm (t + ρ (8 + 2 * h)) (ρ (7 + 2 * h)) = nI ((nN t + nN (ρ (8 + 2 * h))) % nN (ρ (7 + 2 * h))) := by
  have h1 := hI.tb hh
  have h2 := hI.ob hh
  have h3 := ht.2
  have e := irm_n (nadd ht.1 (hI.on hh)) (hI.tn hh) (by omega) (by omega) (by omega)
  have hl := Nat.mod_lt (nN t + nN (ρ (8 + 2 * h))) (show 0 < nN (ρ (7 + 2 * h)) by omega)
  refine ⟨?_, e⟩
  unfold markS
  rw [e]
  refine isN.mk (ndiv (nmul rfl (nl 60)) (hI.tn hh) (by omega) (by omega) (by omega)) ?_ (by omega)
  have : (nN t + nN (ρ (8 + 2 * h))) % nN (ρ (7 + 2 * h)) * 60 / nN (ρ (7 + 2 * h)) < 60 := by
    rw [Nat.div_lt_iff_lt_mul (by omega)]
    omega
  omega
theorem abs_m {d : Int32} : (if 0 ≤ d then d else 0 - d) = absS d := by
  unfold absS
  by_cases h : 0 ≤ d
  · rw [if_pos h, if_neg (i_ge h)]
  · rw [if_neg h, if_pos (i_nle h)]; simp
theorem min_m {x y : Int32} : (if y < x then y else x) = minS x y := by
  unfold minS
  by_cases h : x < y
  · rw [if_pos h, if_neg (fun z => by rw [lt_i] at h z; omega)]
  · rw [if_neg h]
    by_cases h2 : y < x
    · rw [if_pos h2]
    · rw [if_neg h2]; rw [lt_i] at h h2; exact Int32.toInt_inj.mp (by omega)
theorem neg_neg_i {x : Int32} : - -x = x := by simp
theorem op_neg {w : Int32} (h : isOp w) : -w < (-3) ∧ ¬ -w = (-33) := by rcases h with h | h | h | h | h | h | h | h | h | h <;> subst h <;> decide

set_option maxHeartbeats 4000000 in
set_option maxRecDepth 100000 in
theorem c_X6_hold {l : Launch} {D : va_G} {k : Nat → ClassId} {g : Nat → Nat} (v p q : Int32) (h : p ≤ q) : Ct l D k g yX6_hold cX6_hold 3 (some .int) 1 14 [.int v, .int p, .int q] (S := Unit) ([]) (fun _ => []) (fun vv _ => vv = some (.int (heldS v p q))) := by
  refine Ct.ofI RX6 rfl (by decide +kernel) (Nat.le_of_ble_eq_true rfl) (fun X hC hR => ?_)
  show V X ([]) [(0, .int v), (1, .int p), (2, .int q)] [] 0
  refine V.iload_n (pc := 0) 1 hC dX6_hold_0 rfl ?_
  refine V.iload_n (pc := 1) 2 hC dX6_hold_1 rfl ?_
  refine V.iload_n (pc := 2) 0 hC dX6_hold_2 rfl ?_
  refine V.mmin (pc := 3) hC ml_X6_299 ⟨Nat.le_of_ble_eq_true rfl, Nat.le_of_ble_eq_true rfl⟩ dX6_hold_3 ?_
  refine V.mmax (pc := 6) hC ml_X6_302 ⟨Nat.le_of_ble_eq_true rfl, Nat.le_of_ble_eq_true rfl⟩ dX6_hold_6 ?_
  exact hR (if p < (if v < q then v else q) then (if v < q then v else q) else p) () _ _ dX6_hold_9 rfl (ri (hold_h h))
set_option maxHeartbeats 4000000 in
set_option maxRecDepth 100000 in
theorem c_X6_isIn {l : Launch} {D : va_G} {k : Nat → ClassId} {g : Nat → Nat} (s i : Int32)  : Ct l D k g yX6_isIn cX6_isIn 2 (some .boolean) 0 0 [.int s, .int i] (S := Unit) ([]) (fun _ => []) (fun vv _ => vv = some (.int (bI (¬ bitS s i = 0)))) := by
  refine Ct.ofI RX6 rfl (by decide +kernel) (Nat.le_of_ble_eq_true rfl) (fun X hC hR => ?_)
  show V X ([]) [(0, .int s), (1, .int i)] [] 0
  refine V.iload_n (pc := 0) 0 hC dX6_isIn_0 rfl ?_
  refine V.iload_n (pc := 1) 1 hC dX6_isIn_1 rfl ?_
  refine V.ishr (pc := 2) hC dX6_isIn_2 ?_
  refine V.iconst (pc := 3) 1 hC dX6_isIn_3 (by decide) ?_
  refine V.iand (pc := 4) hC dX6_isIn_4 ?_
  refine V.if_eq (pc := 5) 12 hC dX6_isIn_5 (by decide) (fun c_5 => ?_) (fun c_5 => ?_)
  · refine V.iconst (pc := 12) 0 hC dX6_isIn_12 (by decide) ?_
    exact hR 0 () _ _ dX6_isIn_13 (by first | rfl | exact bI_n _) (rb0 (not_not_intro c_5))
  · refine V.iconst (pc := 8) 1 hC dX6_isIn_8 (by decide) ?_
    refine V.goto (pc := 9) 13 hC dX6_isIn_9 (by decide) ?_
    exact hR 1 () _ _ dX6_isIn_13 (by first | rfl | exact bI_n _) (rb1 c_5)
set_option maxHeartbeats 4000000 in
set_option maxRecDepth 100000 in
theorem c_X6_rest {l : Launch} {D : va_G} {k : Nat → ClassId} {g : Nat → Nat} (v y : Int32)  : Ct l D k g yX6_rest cX6_rest 2 (some .int) 1 22 [.int v, .int y] (S := Unit) ([]) (fun _ => []) (fun vv _ => vv = some (.int (restS v y))) := by
  refine Ct.ofI RX6 rfl (by decide +kernel) (Nat.le_of_ble_eq_true rfl) (fun X hC hR => ?_)
  show V X ([]) [(0, .int v), (1, .int y)] [] 0
  refine V.iload_n (pc := 0) 1 hC dX6_rest_0 rfl ?_
  refine V.iconst (pc := 1) 1 hC dX6_rest_1 (by decide) ?_
  refine V.icmp_ge (pc := 2) 9 hC dX6_rest_2 (by decide) (fun c_2 => ?_) (fun c_2 => ?_)
  · refine V.iload_n (pc := 9) 0 hC dX6_rest_9 rfl ?_
    refine V.iload_n (pc := 10) 1 hC dX6_rest_10 rfl ?_
    refine V.callS0 (pc := 11) (as := [.int v, .int y]) hC (c_J9_floorMod_7cf53 v y (fun q => by rw [q] at c_2; exact absurd c_2 (by decide))) ms_J9_floorMod_7cf53 ml_X6_294 (by decide) rfl (Nat.le_of_ble_eq_true rfl) dX6_rest_11 ?_
    rintro _ _ rfl
    show V X ([]) [(0, .int v), (1, .int y)] [.int (fmodS v y)] 14
    exact hR (fmodS v y) () _ _ dX6_rest_14 rfl (ri (by rw [restS, if_neg (i_ge c_2)]))
  · refine V.iconst (pc := 5) 0 hC dX6_rest_5 (by decide) ?_
    refine V.goto (pc := 6) 14 hC dX6_rest_6 (by decide) ?_
    exact hR 0 () _ _ dX6_rest_14 rfl (ri (by rw [restS, if_pos (i_nle c_2)]))
set_option maxHeartbeats 4000000 in
set_option maxRecDepth 100000 in
theorem c_X6_isUse {l : Launch} {D : va_G} {k : Nat → ClassId} {g : Nat → Nat} (v : Int32)  : Ct l D k g yX6_isUse cX6_isUse 1 (some .boolean) 0 0 [.int v] (S := Unit) ([]) (fun _ => []) (fun vv _ => vv = some (.int (bI (inS v 0 1)))) := by
  refine Ct.ofI RX6 rfl (by decide +kernel) (Nat.le_of_ble_eq_true rfl) (fun X hC hR => ?_)
  show V X ([]) [(0, .int v)] [] 0
  refine V.iload_n (pc := 0) 0 hC dX6_isUse_0 rfl ?_
  refine V.if_eq (pc := 1) 9 hC dX6_isUse_1 (by decide) (fun c_1 => ?_) (fun c_1 => ?_)
  · refine V.iconst (pc := 9) 1 hC dX6_isUse_9 (by decide) ?_
    refine V.goto (pc := 10) 14 hC dX6_isUse_10 (by decide) ?_
    exact hR 1 () _ _ dX6_isUse_14 (by first | rfl | exact bI_n _) (rb1 (by rw [c_1]; exact ⟨by decide, by decide⟩))
  · refine V.iload_n (pc := 4) 0 hC dX6_isUse_4 rfl ?_
    refine V.iconst (pc := 5) 1 hC dX6_isUse_5 (by decide) ?_
    refine V.icmp_ne (pc := 6) 13 hC dX6_isUse_6 (by decide) (fun c_6 => ?_) (fun c_6 => ?_)
    · refine V.iconst (pc := 13) 0 hC dX6_isUse_13 (by decide) ?_
      exact hR 0 () _ _ dX6_isUse_14 (by first | rfl | exact bI_n _) (rb0 (fun q => by have h := inS_c q (nl 1) (by omega); exact (show nN v = 0 ∨ nN v = 1 by have := h.2; omega).elim (fun e => c_1 (by rw [h.1, e]; rfl)) (fun e => c_6 (by rw [h.1, e]; rfl))))
    · refine V.iconst (pc := 9) 1 hC dX6_isUse_9 (by decide) ?_
      refine V.goto (pc := 10) 14 hC dX6_isUse_10 (by decide) ?_
      exact hR 1 () _ _ dX6_isUse_14 (by first | rfl | exact bI_n _) (rb1 (by rw [c_6]; exact ⟨by decide, by decide⟩))
set_option maxHeartbeats 4000000 in
set_option maxRecDepth 100000 in
theorem c_X6_isSheet {l : Launch} {D : va_G} {k : Nat → ClassId} {g : Nat → Nat} (v : Int32)  : Ct l D k g yX6_isSheet cX6_isSheet 1 (some .boolean) 1 22 [.int v] (S := Unit) ([]) (fun _ => []) (fun vv _ => vv = some (.int (bI (inS v 0 3)))) := by
  refine Ct.ofI RX6 rfl (by decide +kernel) (Nat.le_of_ble_eq_true rfl) (fun X hC hR => ?_)
  show V X ([]) [(0, .int v)] [] 0
  refine V.iload_n (pc := 0) 0 hC dX6_isSheet_0 rfl ?_
  refine V.iconst (pc := 1) 0 hC dX6_isSheet_1 (by decide) ?_
  refine V.iconst (pc := 2) 3 hC dX6_isSheet_2 (by decide) ?_
  refine V.callS0 (pc := 3) (as := [.int v, .int 0, .int 3]) hC (c_X6_within v 0 3 ) ms_X6_within ml_X6_53 (by decide) rfl (Nat.le_of_ble_eq_true rfl) dX6_isSheet_3 ?_
  rintro _ _ rfl
  show V X ([]) [(0, .int v)] [.int (bI (inS v 0 3))] 6
  exact hR (bI (inS v 0 3)) () _ _ dX6_isSheet_6 (by first | rfl | exact bI_n _) rfl
set_option maxHeartbeats 4000000 in
set_option maxRecDepth 100000 in
theorem c_X6_isKindWithNumber {l : Launch} {D : va_G} {k : Nat → ClassId} {g : Nat → Nat} (v : Int32)  : Ct l D k g yX6_isKindWithNumber cX6_isKindWithNumber 1 (some .boolean) 1 22 [.int v] (S := Unit) ([]) (fun _ => []) (fun vv _ => vv = some (.int (bI (inS v 0 69)))) := by
  refine Ct.ofI RX6 rfl (by decide +kernel) (Nat.le_of_ble_eq_true rfl) (fun X hC hR => ?_)
  show V X ([]) [(0, .int v)] [] 0
  refine V.iload_n (pc := 0) 0 hC dX6_isKindWithNumber_0 rfl ?_
  refine V.iconst (pc := 1) 0 hC dX6_isKindWithNumber_1 (by decide) ?_
  refine V.bipush (pc := 2) 69 hC dX6_isKindWithNumber_2 (by decide) ?_
  refine V.callS0 (pc := 4) (as := [.int v, .int 0, .int 69]) hC (c_X6_within v 0 69 ) ms_X6_within ml_X6_53 (by decide) rfl (Nat.le_of_ble_eq_true rfl) dX6_isKindWithNumber_4 ?_
  rintro _ _ rfl
  show V X ([]) [(0, .int v)] [.int (bI (inS v 0 69))] 7
  exact hR (bI (inS v 0 69)) () _ _ dX6_isKindWithNumber_7 (by first | rfl | exact bI_n _) rfl
set_option maxHeartbeats 4000000 in
set_option maxRecDepth 100000 in
theorem c_X0_join {l : Launch} {D : va_G} {k : Nat → ClassId} {g : Nat → Nat} (w x y : Int32) (hw : isOp w) : Ct l D k g yX0_join cX0_join 3 (some .int) 0 0 [.int w, .int x, .int y] (S := Unit) ([]) (fun _ => []) (fun vv _ => vv = some (.int (twoS w x y))) := by
  refine Ct.ofI RX0 rfl (by decide +kernel) (Nat.le_of_ble_eq_true rfl) (fun X hC hR => ?_)
  show V X ([]) [(0, .int w), (1, .int x), (2, .int y)] [] 0
  refine V.iload_n (pc := 0) 0 hC dX0_join_0 rfl ?_
  by_cases s_1_37 : w = 37
  · refine V.lookup (pc := 1) 177 hC dX0_join_1 (by decide) (by rw [s_1_37]; first | done | rfl) (by decide) ?_
    refine V.iload_n (pc := 177) 2 hC dX0_join_177 rfl ?_
    refine V.if_ne (pc := 178) 185 hC dX0_join_178 (by decide) (fun c_178 => ?_) (fun c_178 => ?_)
    · refine V.iload_n (pc := 185) 1 hC dX0_join_185 rfl ?_
      refine V.iload_n (pc := 186) 2 hC dX0_join_186 rfl ?_
      refine V.irem (pc := 187) hC dX0_join_187 c_178 ?_
      exact hR (x - x / y * y) () _ _ dX0_join_188 rfl (ri (by simp [twoS, irm, s_1_37, c_178]))
    · refine V.iconst (pc := 181) 0 hC dX0_join_181 (by decide) ?_
      refine V.goto (pc := 182) 188 hC dX0_join_182 (by decide) ?_
      exact hR 0 () _ _ dX0_join_188 rfl (ri (by simp [twoS, irm, s_1_37, c_178]))
  by_cases s_1_38 : w = 38
  · refine V.lookup (pc := 1) 106 hC dX0_join_1 (by decide) (by rw [s_1_38]; first | done | rfl) (by decide) ?_
    refine V.iload_n (pc := 106) 1 hC dX0_join_106 rfl ?_
    refine V.if_eq (pc := 107) 118 hC dX0_join_107 (by decide) (fun c_107 => ?_) (fun c_107 => ?_)
    · refine V.iconst (pc := 118) 0 hC dX0_join_118 (by decide) ?_
      exact hR 0 () _ _ dX0_join_119 rfl (ri (by simp [twoS, irm, s_1_38, c_107]))
    · refine V.iload_n (pc := 110) 2 hC dX0_join_110 rfl ?_
      refine V.if_eq (pc := 111) 118 hC dX0_join_111 (by decide) (fun c_111 => ?_) (fun c_111 => ?_)
      · refine V.iconst (pc := 118) 0 hC dX0_join_118 (by decide) ?_
        exact hR 0 () _ _ dX0_join_119 rfl (ri (by simp [twoS, irm, s_1_38, c_107, c_111]))
      · refine V.iconst (pc := 114) 1 hC dX0_join_114 (by decide) ?_
        refine V.goto (pc := 115) 119 hC dX0_join_115 (by decide) ?_
        exact hR 1 () _ _ dX0_join_119 rfl (ri (by simp [twoS, irm, s_1_38, c_107, c_111]))
  by_cases s_1_42 : w = 42
  · refine V.lookup (pc := 1) 161 hC dX0_join_1 (by decide) (by rw [s_1_42]; first | done | rfl) (by decide) ?_
    refine V.iload_n (pc := 161) 1 hC dX0_join_161 rfl ?_
    refine V.iload_n (pc := 162) 2 hC dX0_join_162 rfl ?_
    refine V.imul (pc := 163) hC dX0_join_163 ?_
    exact hR (x * y) () _ _ dX0_join_164 rfl (ri (by simp [twoS, irm, s_1_42]))
  by_cases s_1_43 : w = 43
  · refine V.lookup (pc := 1) 153 hC dX0_join_1 (by decide) (by rw [s_1_43]; first | done | rfl) (by decide) ?_
    refine V.iload_n (pc := 153) 1 hC dX0_join_153 rfl ?_
    refine V.iload_n (pc := 154) 2 hC dX0_join_154 rfl ?_
    refine V.iadd (pc := 155) hC dX0_join_155 ?_
    exact hR (x + y) () _ _ dX0_join_156 rfl (ri (by simp [twoS, irm, s_1_43]))
  by_cases s_1_45 : w = 45
  · refine V.lookup (pc := 1) 157 hC dX0_join_1 (by decide) (by rw [s_1_45]; first | done | rfl) (by decide) ?_
    refine V.iload_n (pc := 157) 1 hC dX0_join_157 rfl ?_
    refine V.iload_n (pc := 158) 2 hC dX0_join_158 rfl ?_
    refine V.isub (pc := 159) hC dX0_join_159 ?_
    exact hR (x - y) () _ _ dX0_join_160 rfl (ri (by simp [twoS, irm, s_1_45]))
  by_cases s_1_47 : w = 47
  · refine V.lookup (pc := 1) 165 hC dX0_join_1 (by decide) (by rw [s_1_47]; first | done | rfl) (by decide) ?_
    refine V.iload_n (pc := 165) 2 hC dX0_join_165 rfl ?_
    refine V.if_ne (pc := 166) 173 hC dX0_join_166 (by decide) (fun c_166 => ?_) (fun c_166 => ?_)
    · refine V.iload_n (pc := 173) 1 hC dX0_join_173 rfl ?_
      refine V.iload_n (pc := 174) 2 hC dX0_join_174 rfl ?_
      refine V.idiv (pc := 175) hC dX0_join_175 c_166 ?_
      exact hR (x / y) () _ _ dX0_join_176 rfl (ri (by simp [twoS, irm, s_1_47, c_166]))
    · refine V.iconst (pc := 169) 0 hC dX0_join_169 (by decide) ?_
      refine V.goto (pc := 170) 176 hC dX0_join_170 (by decide) ?_
      exact hR 0 () _ _ dX0_join_176 rfl (ri (by simp [twoS, irm, s_1_47, c_166]))
  by_cases s_1_60 : w = 60
  · refine V.lookup (pc := 1) 120 hC dX0_join_1 (by decide) (by rw [s_1_60]; first | done | rfl) (by decide) ?_
    refine V.iload_n (pc := 120) 1 hC dX0_join_120 rfl ?_
    refine V.iload_n (pc := 121) 2 hC dX0_join_121 rfl ?_
    refine V.icmp_ge (pc := 122) 129 hC dX0_join_122 (by decide) (fun c_122 => ?_) (fun c_122 => ?_)
    · refine V.iconst (pc := 129) 0 hC dX0_join_129 (by decide) ?_
      exact hR 0 () _ _ dX0_join_130 rfl (ri (by simp [twoS, irm, s_1_60, c_122, i_ge c_122]))
    · refine V.iconst (pc := 125) 1 hC dX0_join_125 (by decide) ?_
      refine V.goto (pc := 126) 130 hC dX0_join_126 (by decide) ?_
      exact hR 1 () _ _ dX0_join_130 rfl (ri (by simp [twoS, irm, s_1_60, c_122, i_nle c_122]))
  by_cases s_1_61 : w = 61
  · refine V.lookup (pc := 1) 131 hC dX0_join_1 (by decide) (by rw [s_1_61]; first | done | rfl) (by decide) ?_
    refine V.iload_n (pc := 131) 1 hC dX0_join_131 rfl ?_
    refine V.iload_n (pc := 132) 2 hC dX0_join_132 rfl ?_
    refine V.icmp_ne (pc := 133) 140 hC dX0_join_133 (by decide) (fun c_133 => ?_) (fun c_133 => ?_)
    · refine V.iconst (pc := 140) 0 hC dX0_join_140 (by decide) ?_
      exact hR 0 () _ _ dX0_join_141 rfl (ri (by simp [twoS, irm, s_1_61, c_133]))
    · refine V.iconst (pc := 136) 1 hC dX0_join_136 (by decide) ?_
      refine V.goto (pc := 137) 141 hC dX0_join_137 (by decide) ?_
      exact hR 1 () _ _ dX0_join_141 rfl (ri (by simp [twoS, irm, s_1_61, c_133]))
  by_cases s_1_62 : w = 62
  · refine V.lookup (pc := 1) 142 hC dX0_join_1 (by decide) (by rw [s_1_62]; first | done | rfl) (by decide) ?_
    refine V.iload_n (pc := 142) 1 hC dX0_join_142 rfl ?_
    refine V.iload_n (pc := 143) 2 hC dX0_join_143 rfl ?_
    refine V.icmp_le (pc := 144) 151 hC dX0_join_144 (by decide) (fun c_144 => ?_) (fun c_144 => ?_)
    · refine V.iconst (pc := 151) 0 hC dX0_join_151 (by decide) ?_
      exact hR 0 () _ _ dX0_join_152 rfl (ri (by simp [twoS, irm, s_1_62, c_144, i_ge c_144]))
    · refine V.iconst (pc := 147) 1 hC dX0_join_147 (by decide) ?_
      refine V.goto (pc := 148) 152 hC dX0_join_148 (by decide) ?_
      exact hR 1 () _ _ dX0_join_152 rfl (ri (by simp [twoS, irm, s_1_62, c_144, i_nle c_144]))
  by_cases s_1_124 : w = 124
  · refine V.lookup (pc := 1) 92 hC dX0_join_1 (by decide) (by rw [s_1_124]; first | done | rfl) (by decide) ?_
    refine V.iload_n (pc := 92) 1 hC dX0_join_92 rfl ?_
    refine V.if_ne (pc := 93) 100 hC dX0_join_93 (by decide) (fun c_93 => ?_) (fun c_93 => ?_)
    · refine V.iconst (pc := 100) 1 hC dX0_join_100 (by decide) ?_
      refine V.goto (pc := 101) 105 hC dX0_join_101 (by decide) ?_
      exact hR 1 () _ _ dX0_join_105 rfl (ri (by simp [twoS, irm, s_1_124, c_93]))
    · refine V.iload_n (pc := 96) 2 hC dX0_join_96 rfl ?_
      refine V.if_eq (pc := 97) 104 hC dX0_join_97 (by decide) (fun c_97 => ?_) (fun c_97 => ?_)
      · refine V.iconst (pc := 104) 0 hC dX0_join_104 (by decide) ?_
        exact hR 0 () _ _ dX0_join_105 rfl (ri (by simp [twoS, irm, s_1_124, c_93, c_97]))
      · refine V.iconst (pc := 100) 1 hC dX0_join_100 (by decide) ?_
        refine V.goto (pc := 101) 105 hC dX0_join_101 (by decide) ?_
        exact hR 1 () _ _ dX0_join_105 rfl (ri (by simp [twoS, irm, s_1_124, c_93, c_97]))
  exact absurd hw (by unfold isOp; simp_all)
set_option maxHeartbeats 4000000 in
set_option maxRecDepth 100000 in
theorem c_X3_hasHand {l : Launch} {D : va_G} {k : Nat → ClassId} {g a : Nat → Nat} (σ ν : St) (ρ : Rw) (v : Int32) (hT : RT σ ρ) (hI : Inv ρ) : Ct l D k g yX3_hasHand cX3_hasHand 2 (some .boolean) 1 22 [.ref (a 1), .int v] (S := Unit) (wX k g a σ ν) (fun _ => wX k g a σ ν) (fun vv _ => vv = some (.int (bI (inS v 0 (ρ 2 - 1))))) := by
  refine Ct.ofI RX3 rfl (by decide +kernel) (Nat.le_of_ble_eq_true rfl) (fun X hC hR => ?_)
  have hb4 := hI.hb; have hb8 := hI.mb; have hb6 := hI.pb; have hbm := hI.ob0; have hbt := hI.bb; have hbw := hI.wb
  show V X (wX k g a σ ν) [(0, .ref (a 1)), (1, .int v)] [] 0
  refine V.iload_n (pc := 0) 1 hC dX3_hasHand_0 rfl ?_
  refine V.iconst (pc := 1) 0 hC dX3_hasHand_1 (by decide) ?_
  refine V.aload_n (pc := 2) 0 hC dX3_hasHand_2 rfl ?_
  refine V.get (pc := 3) (v := .int (σ 10 0)) hC cf_X3 1 0 fl_X3_51 (by decide) gx_1 rfl dX3_hasHand_3 ?_
  refine V.eqi (y := ρ 2) (hT.1.1) ?_
  refine V.iconst (pc := 6) 1 hC dX3_hasHand_6 (by decide) ?_
  refine V.isub (pc := 7) hC dX3_hasHand_7 ?_
  refine V.callN0 (pc := 8) (as := [.int v, .int 0, .int ((ρ 2) - 1)]) hC (c_X6_within v 0 ((ρ 2) - 1) ) ms_X6_within (host := RX6) (by simp [nstW]) (by decide) rfl (Nat.le_of_ble_eq_true rfl) dX3_hasHand_8 ?_
  rintro _ _ rfl
  show V X (wX k g a σ ν) [(0, .ref (a 1)), (1, .int v)] [.int (bI (inS v 0 ((ρ 2) - 1)))] 11
  exact hR (bI (inS v 0 ((ρ 2) - 1))) () _ _ dX3_hasHand_11 (by first | rfl | exact bI_n _) rfl
set_option maxHeartbeats 4000000 in
set_option maxRecDepth 100000 in
theorem c_X3_hasHome {l : Launch} {D : va_G} {k : Nat → ClassId} {g a : Nat → Nat} (σ ν : St) (ρ : Rw) (v : Int32) (hT : RT σ ρ) (hI : Inv ρ) : Ct l D k g yX3_hasHome cX3_hasHome 2 (some .boolean) 1 22 [.ref (a 1), .int v] (S := Unit) (wX k g a σ ν) (fun _ => wX k g a σ ν) (fun vv _ => vv = some (.int (bI (inS v 0 (ρ 3 - 1))))) := by
  refine Ct.ofI RX3 rfl (by decide +kernel) (Nat.le_of_ble_eq_true rfl) (fun X hC hR => ?_)
  have hb4 := hI.hb; have hb8 := hI.mb; have hb6 := hI.pb; have hbm := hI.ob0; have hbt := hI.bb; have hbw := hI.wb
  show V X (wX k g a σ ν) [(0, .ref (a 1)), (1, .int v)] [] 0
  refine V.iload_n (pc := 0) 1 hC dX3_hasHome_0 rfl ?_
  refine V.iconst (pc := 1) 0 hC dX3_hasHome_1 (by decide) ?_
  refine V.aload_n (pc := 2) 0 hC dX3_hasHome_2 rfl ?_
  refine V.get (pc := 3) (v := .int (σ 13 0)) hC cf_X3 1 3 fl_X3_60 (by decide) gx_1 rfl dX3_hasHome_3 ?_
  refine V.eqi (y := ρ 3) (hT.2.1.1) ?_
  refine V.iconst (pc := 6) 1 hC dX3_hasHome_6 (by decide) ?_
  refine V.isub (pc := 7) hC dX3_hasHome_7 ?_
  refine V.callN0 (pc := 8) (as := [.int v, .int 0, .int ((ρ 3) - 1)]) hC (c_X6_within v 0 ((ρ 3) - 1) ) ms_X6_within (host := RX6) (by simp [nstW]) (by decide) rfl (Nat.le_of_ble_eq_true rfl) dX3_hasHome_8 ?_
  rintro _ _ rfl
  show V X (wX k g a σ ν) [(0, .ref (a 1)), (1, .int v)] [.int (bI (inS v 0 ((ρ 3) - 1)))] 11
  exact hR (bI (inS v 0 ((ρ 3) - 1))) () _ _ dX3_hasHome_11 (by first | rfl | exact bI_n _) rfl
set_option maxHeartbeats 4000000 in
set_option maxRecDepth 100000 in
theorem c_X3_hasPerson {l : Launch} {D : va_G} {k : Nat → ClassId} {g a : Nat → Nat} (σ ν : St) (ρ : Rw) (v : Int32) (hT : RT σ ρ) (hI : Inv ρ) : Ct l D k g yX3_hasPerson cX3_hasPerson 2 (some .boolean) 1 22 [.ref (a 1), .int v] (S := Unit) (wX k g a σ ν) (fun _ => wX k g a σ ν) (fun vv _ => vv = some (.int (bI (inS v 0 (ρ 4 - 1))))) := by
  refine Ct.ofI RX3 rfl (by decide +kernel) (Nat.le_of_ble_eq_true rfl) (fun X hC hR => ?_)
  have hb4 := hI.hb; have hb8 := hI.mb; have hb6 := hI.pb; have hbm := hI.ob0; have hbt := hI.bb; have hbw := hI.wb
  show V X (wX k g a σ ν) [(0, .ref (a 1)), (1, .int v)] [] 0
  refine V.iload_n (pc := 0) 1 hC dX3_hasPerson_0 rfl ?_
  refine V.iconst (pc := 1) 0 hC dX3_hasPerson_1 (by decide) ?_
  refine V.aload_n (pc := 2) 0 hC dX3_hasPerson_2 rfl ?_
  refine V.get (pc := 3) (v := .int (σ 16 0)) hC cf_X3 1 6 fl_X3_63 (by decide) gx_1 rfl dX3_hasPerson_3 ?_
  refine V.eqi (y := ρ 4) (hT.2.2.1.1) ?_
  refine V.iconst (pc := 6) 1 hC dX3_hasPerson_6 (by decide) ?_
  refine V.isub (pc := 7) hC dX3_hasPerson_7 ?_
  refine V.callN0 (pc := 8) (as := [.int v, .int 0, .int ((ρ 4) - 1)]) hC (c_X6_within v 0 ((ρ 4) - 1) ) ms_X6_within (host := RX6) (by simp [nstW]) (by decide) rfl (Nat.le_of_ble_eq_true rfl) dX3_hasPerson_8 ?_
  rintro _ _ rfl
  show V X (wX k g a σ ν) [(0, .ref (a 1)), (1, .int v)] [.int (bI (inS v 0 ((ρ 4) - 1)))] 11
  exact hR (bI (inS v 0 ((ρ 4) - 1))) () _ _ dX3_hasPerson_11 (by first | rfl | exact bI_n _) rfl
set_option maxHeartbeats 4000000 in
set_option maxRecDepth 100000 in
theorem c_X3_markOf {l : Launch} {D : va_G} {k : Nat → ClassId} {g a : Nat → Nat} (σ ν : St) (ρ : Rw) (h : Nat) (t : Int32) (hT : RT σ ρ) (hI : Inv ρ) (hh : h < nN (ρ 2)) (ht : isN t 100000) : Ct l D k g yX3_markOf cX3_markOf 4 (some .int) 2 43 [.ref (a 1), .int (nI h), .int t] (S := Unit) (wX k g a σ ν) (fun _ => wX k g a σ ν) (fun vv _ => vv = some (.int (markS ρ h t))) := by
  refine Ct.ofI RX3 rfl (by decide +kernel) (Nat.le_of_ble_eq_true rfl) (fun X hC hR => ?_)
  have hb4 := hI.hb; have hb8 := hI.mb; have hb6 := hI.pb; have hbm := hI.ob0; have hbt := hI.bb; have hbw := hI.wb
  have htb := hI.tb hh; have hmk := mark_n hI hh ht
  show V X (wX k g a σ ν) [(0, .ref (a 1)), (1, .int (nI h)), (2, .int t)] [] 0
  refine V.aload_n (pc := 0) 0 hC dX3_markOf_0 rfl ?_
  refine V.get (pc := 1) (v := .ref (a 11)) hC cf_X3 1 1 fl_X3_9 (by decide) gx_1 rfl dX3_markOf_1 ?_
  refine V.iload_n (pc := 4) 1 hC dX3_markOf_4 rfl ?_
  refine V.iald (pc := 5) (f := σ 11) hC 8 h gx_8 rfl (by omega) (by decide) dX3_markOf_5 ?_
  refine V.eqi (y := ρ (7 + 2 * h)) (hT.1.2.1 h (by omega)) ?_
  refine V.istore_n (pc := 6) [(3, .int (ρ (7 + 2 * h))), (0, .ref (a 1)), (1, .int (nI h)), (2, .int t)] hC dX3_markOf_6 (by decide) rfl ?_
  refine V.iload_n (pc := 7) 0 hC dX3_markOf_7 rfl ?_
  refine V.iconst (pc := 8) 1 hC dX3_markOf_8 (by decide) ?_
  refine V.icmp_ge (pc := 9) 16 hC dX3_markOf_9 (by decide) (fun c_9 => ?_) (fun c_9 => ?_)
  · refine V.iload_n (pc := 16) 3 hC dX3_markOf_16 rfl ?_
    refine V.aload_n (pc := 17) 1 hC dX3_markOf_17 rfl ?_
    refine V.get (pc := 18) (v := .ref (a 12)) hC cf_X3 1 2 fl_X3_15 (by decide) gx_1 rfl dX3_markOf_18 ?_
    refine V.iload_n (pc := 21) 2 hC dX3_markOf_21 rfl ?_
    refine V.iald (pc := 22) (f := σ 12) hC 9 h gx_9 rfl (by omega) (by decide) dX3_markOf_22 ?_
    refine V.eqi (y := ρ (8 + 2 * h)) (hT.1.2.2 h (by omega)) ?_
    refine V.iadd (pc := 23) hC dX3_markOf_23 ?_
    refine V.iload_n (pc := 24) 0 hC dX3_markOf_24 rfl ?_
    refine V.callN0 (pc := 25) (as := [.int (t + (ρ (8 + 2 * h))), .int (ρ (7 + 2 * h))]) hC (c_X6_rest (t + (ρ (8 + 2 * h))) (ρ (7 + 2 * h)) ) ms_X6_rest (host := RX6) (by simp [nstW]) (by decide) rfl (Nat.le_of_ble_eq_true rfl) dX3_markOf_25 ?_
    rintro _ _ rfl
    show V X (wX k g a σ ν) [(3, .int (ρ (7 + 2 * h))), (0, .ref (a 1)), (1, .int (nI h)), (2, .int t)] [.int (restS (t + (ρ (8 + 2 * h))) (ρ (7 + 2 * h)))] 28
    refine V.bipush (pc := 28) 60 hC dX3_markOf_28 (by decide) ?_
    refine V.imul (pc := 30) hC dX3_markOf_30 ?_
    refine V.iload_n (pc := 31) 0 hC dX3_markOf_31 rfl ?_
    refine V.idiv (pc := 32) hC dX3_markOf_32 (hI.t0 hh) ?_
    exact hR (((restS (t + (ρ (8 + 2 * h))) (ρ (7 + 2 * h))) * 60) / (ρ (7 + 2 * h))) () _ _ dX3_markOf_33 rfl (ri (by rw [rest_n (nadd ht.1 (hI.on hh)) (hI.tn hh) (by have := ht.2; have := hI.ob hh; omega) (by omega) (by omega)]; rfl))
  · exact absurd (show 1 ≤ ρ (7 + 2 * h) by rw [hI.tn hh]; exact (nI_leI (a := 1) (by omega) (by omega)).mpr (by omega)) c_9
