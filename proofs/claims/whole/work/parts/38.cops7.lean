theorem neg_div {d c : Nat} (hd : d < 2147483648) (hc : c < 2147483648) : (-(nI d)) / nI c = -(nI (d / c)) := by
  apply Int32.toInt_inj.mp
  have hq : d / c ≤ d := Nat.div_le_self d c
  rw [Int32.toInt_div, sb_negT hd, nI_toInt hc, Int.neg_tdiv, ← Int.ofNat_tdiv, sb_negT (by omega)]
  generalize d / c = q at hq
  exact Int.bmod_eq_of_le (by omega) (by omega)
theorem neg_irm {d c : Nat} (hd : d < 2147483648) (h0 : 0 < c) (hc : c < 2147483648) : irm (-(nI d)) (nI c) = -(nI (d % c)) := by
  unfold irm
  rw [neg_div hd hc]
  have h := pk_rem (a := d) (d := c) hd h0 hc
  rw [pk_div hd h0 hc] at h
  rw [← h, Int32.neg_mul, Int32.sub_neg, Int32.neg_sub, Int32.add_comm, ← Int32.sub_eq_add_neg]
theorem rest_fro {o v tu : Int32} {a w c : Nat} (ho : o = nI a) (hv : v = nI w) (ht : tu = nI c) (ha : a ≤ 1439) (hw : w ≤ 99) (hc : 1 ≤ c) (hc2 : c ≤ 1440) : restS (o - v) tu = froV tu o v := by
  unfold froV
  rcases Nat.lt_or_ge a w with h | h
  · have e : o - v = -(nI (w - a)) := by
      rw [ho, hv, show nI w = nI a + nI (w - a) by rw [nI_add]; congr 1; omega]
      apply Int32.toBitVec_inj.mp
      simp only [Int32.toBitVec_sub, Int32.toBitVec_add, Int32.toBitVec_neg]
      bv_omega
    rw [e, ht, neg_irm (by omega) (by omega) (by omega)]
    unfold restS fmodS
    rw [if_neg (fun z => by have := (nI_ltI (a := c) (b := 1) (by omega) (by omega)).mp z; omega), neg_irm (by omega) (by omega) (by omega)]
    have hs : ∀ x : Int32, 0 ≤ x ↔ bt x 31 = false := fun x => by
      unfold bt
      rw [le_i, show Int32.toInt 0 = 0 by decide]
      show 0 ≤ x.toBitVec.toInt ↔ _
      rw [BitVec.toInt_eq_msb_cond, BitVec.msb_eq_getLsbD_last]
      have := x.toBitVec.isLt
      cases x.toBitVec.getLsbD 31 <;> simp <;> omega
    have hx : ¬ 0 ≤ -(nI (w - a)) ^^^ nI c := by
      rw [hs, b_xor]
      have h1 : bt (nI c) 31 = false := (hs _).mp (nI_pos' (by omega))
      have h2 : ¬ bt (-(nI (w - a))) 31 = false := fun z => by
        have := (hs _).mpr z
        rw [le_i, sb_negT (by omega)] at this
        have h9 : (0 : Int32).toInt = 0 := by decide
        omega
      rw [h1]
      cases hq : bt (-(nI (w - a))) 31
      · exact absurd hq h2
      · decide
    have hlt := Nat.mod_lt (w - a) (show 0 < c by omega)
    by_cases z : (w - a) % c = 0
    · rw [z, if_neg (fun q => q.2 (by decide)), if_neg (by decide)]
    · have hz : ¬ -(nI ((w - a) % c)) = 0 := fun q => by
        have := congrArg Int32.toInt q
        rw [sb_negT (by omega)] at this
        have h9 : (0 : Int32).toInt = 0 := by decide
        omega
      rw [if_pos ⟨hx, hz⟩, if_pos]
      rw [lt_i, sb_negT (by omega)]
      have h9 : (0 : Int32).toInt = 0 := by decide
      omega
  · have e : o - v = nI (a - w) := by rw [ho, hv]; exact pk_sub h
    rw [e, ht, rest_n rfl rfl (by omega) (by omega) hc, irm_n rfl rfl (by omega) (by omega) (by omega), if_neg (nI_pos (by have := Nat.mod_le (a - w) c; omega))]
theorem byt_n {w : Int64} {j : Nat} : isN (bytS w j) 255 := by
  obtain ⟨y, hy⟩ : ∃ y, y = (w >>> ((8 * nI j).toInt64 &&& 63)) &&& 255 := ⟨_, rfl⟩
  unfold bytS
  rw [← hy]
  have hb : y.toBitVec.toNat ≤ 255 := by
    rw [hy, Int64.toBitVec_and, BitVec.toNat_and]
    exact Nat.le_trans Nat.and_le_right (by decide)
  refine isN.mk (n := y.toBitVec.toNat) ?_ hb (by omega)
  apply Int32.toBitVec_inj.mp
  rw [Int64.toBitVec_toInt32]
  apply BitVec.eq_of_toNat_eq
  rw [BitVec.signExtend_eq_setWidth_of_le _ (by omega), BitVec.toNat_setWidth, pk_tn (by omega)]
  omega
theorem feed_i {w : Int64} : ∀ (n i : Nat) (ρ : Rw), Inv ρ → nN (ρ 5) + n ≤ 60 → Inv (feedS w n i ρ) ∧ ∀ j, ¬ (j = 5 ∨ (49 ≤ j ∧ j < 109)) → feedS w n i ρ j = ρ j := by
  intro n
  induction n with
  | zero => intro i ρ h _; exact ⟨h, fun j _ => rfl⟩
  | succ n ih =>
    intro i ρ h hn
    have hb4 := h.hb; have hb8 := h.mb; have hb6 := h.pb
    have e5 : ρ 5 + 1 = nI (nN (ρ 5) + 1) := nadd h.bn (nl 1)
    have e5n : nN (ρ 5 + 1) = nN (ρ 5) + 1 := nN_of e5 (by omega)
    have hz : Inv (upd (upd ρ (49 + nN (ρ 5)) (bytS w i)) 5 (ρ 5 + 1)) := by
      refine ⟨h.pH.c (fun j hj => (by unfold upd; repeat rw [if_neg (by omega)])), h.pM.c (fun j hj => (by unfold upd; repeat rw [if_neg (by omega)])) (by rw [upd_ne (by omega), upd_ne (by omega)]; exact Nat.le_refl _), h.pP.c (fun j hj => (by unfold upd; repeat rw [if_neg (by omega)])) (by rw [upd_ne (by omega), upd_ne (by omega)]; exact Nat.le_refl _), by rw [upd_ne (by omega), upd_ne (by omega)]; exact h.2.2.2.1, ⟨by rw [upd_eq]; exact isN.mk e5 (by omega) (by omega), fun q hq => ?_⟩, by rw [upd_ne (by omega), upd_ne (by omega)]; exact h.2.2.2.2.2.1, fun u hu => (h.pL hu).c (fun j hj => (by unfold upd; repeat rw [if_neg (by omega)]))⟩
      rw [upd_eq, e5n] at hq
      rw [upd_ne (by omega)]
      by_cases e : q = nN (ρ 5)
      · rw [e, upd_eq]; exact byt_n
      · rw [upd_ne (by omega)]; exact h.by_ (by omega)
    have h2 := ih (i + 1) _ hz (by rw [upd_eq, e5n]; omega)
    exact ⟨h2.1, fun j hj => (h2.2 j hj).trans ((upd_ne (by omega)).trans (upd_ne (by omega)))⟩
theorem fro_b {o v tu : Int32} {a w c : Nat} (ho : o = nI a) (hv : v = nI w) (ht : tu = nI c) (ha : a ≤ 1439) (hw : w ≤ 99) (hc : 1 ≤ c) (hc2 : c ≤ 1440) : isN (froV tu o v) 1439 := by
  unfold froV
  rcases Nat.lt_or_ge a w with h | h
  · have e : o - v = -(nI (w - a)) := by
      rw [ho, hv, show nI w = nI a + nI (w - a) by rw [nI_add]; congr 1; omega]
      apply Int32.toBitVec_inj.mp
      simp only [Int32.toBitVec_sub, Int32.toBitVec_add, Int32.toBitVec_neg]
      bv_omega
    rw [e, ht, neg_irm (by omega) (by omega) (by omega)]
    have hlt := Nat.mod_lt (w - a) (show 0 < c by omega)
    by_cases z : (w - a) % c = 0
    · rw [z, if_neg (by decide)]; exact isN.mk (n := 0) (by decide) (by omega) (by omega)
    · rw [if_pos (by
        rw [lt_i, sb_negT (by omega)]
        have h9 : (0 : Int32).toInt = 0 := by decide
        omega), Int32.add_comm, ← Int32.sub_eq_add_neg, pk_sub (by omega)]
      exact isN.mk rfl (by omega) (by omega)
  · have e : o - v = nI (a - w) := by rw [ho, hv]; exact pk_sub h
    have hlt := Nat.mod_lt (a - w) (show 0 < c by omega)
    rw [e, ht, irm_n rfl rfl (by omega) (by omega) (by omega), if_neg (nI_pos (by omega))]
    exact isN.mk rfl (by omega) (by omega)
theorem tx_ne {ρ : Rw} {u : Nat} {x : List Wd} (hl : x.length ≤ 60) {j : Nat} (h5 : j ≠ 5) (hj : j < 133 + 121 * u ∨ 254 + 121 * u ≤ j) : txC (txB ρ u x) (134 + 121 * u) (wdA x) (wdW x) x.length j = ρ j := by
  unfold txC txB
  rw [if_neg (by omega), if_neg (by omega), upd_ne (by omega), upd_ne h5]
theorem tx_5 {ρ : Rw} {u : Nat} {x : List Wd} (hl : x.length ≤ 60) : txC (txB ρ u x) (134 + 121 * u) (wdA x) (wdW x) x.length 5 = 0 := by
  unfold txC txB
  rw [if_neg (by omega), if_neg (by omega), upd_ne (by omega), upd_eq]
theorem tx_n {ρ : Rw} {u : Nat} {x : List Wd} (hl : x.length ≤ 60) : txC (txB ρ u x) (134 + 121 * u) (wdA x) (wdW x) x.length (133 + 121 * u) = nI x.length := by
  unfold txC txB
  rw [if_neg (by omega), if_neg (by omega), upd_eq]
theorem tx_a {ρ : Rw} {u : Nat} {x : List Wd} {i : Nat} (hi : i < x.length) : txC (txB ρ u x) (134 + 121 * u) (wdA x) (wdW x) x.length (134 + 121 * u + i) = (x.getD i (0, 0)).1 := by
  unfold txC
  rw [if_pos (by omega)]
  show wdA x _ = wdA x i
  congr 1; omega
theorem tx_w {ρ : Rw} {u : Nat} {x : List Wd} (hl : x.length ≤ 60) {i : Nat} (hi : i < x.length) : txC (txB ρ u x) (134 + 121 * u) (wdA x) (wdW x) x.length (194 + 121 * u + i) = (x.getD i (0, 0)).2 := by
  unfold txC
  rw [if_neg (by omega), if_pos (by omega)]
  show wdW x _ = wdW x i
  congr 1; omega
theorem Inv.text {ρ : Rw} (h : Inv ρ) {u : Nat} (hu : u < 2) {x : List Wd} (hl : x.length ≤ 60) (hw : wfl x 0 1) : Inv (txC (txB ρ u x) (134 + 121 * u) (wdA x) (wdW x) x.length) := by
  have hb4 := h.hb; have hb8 := h.mb; have hb6 := h.pb
  refine ⟨h.pH.c (fun j hj => tx_ne hl (by omega) (by omega)), h.pM.c (fun j hj => tx_ne hl (by omega) (by omega)) (by rw [tx_ne hl (by omega) (by omega)]; exact Nat.le_refl _), h.pP.c (fun j hj => tx_ne hl (by omega) (by omega)) (by rw [tx_ne hl (by omega) (by omega)]; exact Nat.le_refl _), by rw [tx_ne hl (by omega) (by omega)]; exact h.2.2.2.1, ⟨by rw [tx_5 hl]; exact ⟨rfl, by decide⟩, fun i hi => absurd hi (by rw [tx_5 hl, show nN 0 = 0 from rfl]; omega)⟩, by rw [tx_ne hl (by omega) (by omega)]; exact h.2.2.2.2.2.1, fun w hw2 => ?_⟩
  by_cases e : w = u
  · subst e
    have en : nN (txC (txB ρ w x) (134 + 121 * w) (wdA x) (wdW x) x.length (133 + 121 * w)) = x.length := nN_of (tx_n hl) (by omega)
    refine ⟨isN.mk (tx_n hl) hl (by omega), fun _ => ?_⟩
    rw [en]
    exact wfl_C hw (fun i hi => by rw [Nat.zero_add]; exact ⟨tx_a hi, tx_w hl hi⟩)
  · exact (h.pL hw2).c (fun j hj => tx_ne hl (by omega) (by omega))
theorem wf_cd : ∀ {x : List Wd} {d e : Nat}, wfl x d e → ∀ i, i < x.length → cdR (cdW (x.getD i (0, 0))) (x.getD i (0, 0)).1 (x.getD i (0, 0)).2 := by
  intro x
  induction x with
  | nil => intro d e _ i hi; simp at hi
  | cons w r ih =>
    intro d e h i hi
    cases i with
    | zero =>
      show cdR (cdW w) w.1 w.2
      unfold cdW
      rcases h with h | h | h | h
      · rw [if_pos h.1]; exact Or.inl ⟨h.1, rfl, h.2.1⟩
      · rw [if_neg (by rw [h.1]; decide), if_pos h.1]; exact Or.inr (Or.inl ⟨⟨h.1, h.2.1⟩, rfl⟩)
      · rw [if_neg (by rw [h.1]; decide), if_neg (by rw [h.1]; decide), if_pos h.1]; exact Or.inr (Or.inr (Or.inl ⟨h.1, rfl⟩))
      · have hn := isOp_ne h.1
        rw [if_neg hn.1, if_neg hn.2.1, if_neg hn.2.2]; exact Or.inr (Or.inr (Or.inr ⟨h.1, rfl⟩))
    | succ i =>
      show cdR (cdW (r.getD i (0, 0))) (r.getD i (0, 0)).1 (r.getD i (0, 0)).2
      have hi2 : i < r.length := by simp only [List.length_cons] at hi; omega
      rcases h with h | h | h | h
      · exact ih h.2.2 i hi2
      · exact ih h.2.2 i hi2
      · exact ih h.2.2 i hi2
      · exact ih h.2.2 i hi2
theorem getD_c {x : List Wd} {i : Nat} (hi : i < x.length) : (x.map cdW).getD i 0 = cdW (x.getD i (0, 0)) := by
  simp only [List.getD_eq_getElem?_getD, List.getElem?_map]
  rw [List.getElem?_eq_getElem hi]
  rfl
theorem lay0_c {g : Rw} {x : List Wd} {i : Nat} (h : i < x.length) : lay g 0 (x.map cdW) i = cdW (x.getD i (0, 0)) := by
  have e := lay_at (x := x.map cdW) (g := g) (L := 0) (i := i) (by rw [List.length_map]; exact h)
  rw [Nat.zero_add] at e
  rw [e, getD_c h]
theorem XL_text {ρ : Rw} {u : Nat} {x : List Wd} (hl : x.length ≤ 60) (hw : wfl x 0 1) {n : Int32} (hn : n = nI x.length) {f : Rw} (hf : ∀ i, i < x.length → f i = cdW (x.getD i (0, 0))) : XL (fun _ => n) f u (txC (txB ρ u x) (134 + 121 * u) (wdA x) (wdW x) x.length) := by
  refine ⟨hn.trans (tx_n hl).symm, fun i hi => ?_⟩
  rw [nN_of (tx_n hl) (by omega)] at hi
  have e1 : acS (txC (txB ρ u x) (134 + 121 * u) (wdA x) (wdW x) x.length) u i = (x.getD i (0, 0)).1 := tx_a hi
  have e2 : wiS (txC (txB ρ u x) (134 + 121 * u) (wdA x) (wdW x) x.length) u i = (x.getD i (0, 0)).2 := tx_w hl hi
  rw [e1, e2, hf i hi]
  exact wf_cd hw i hi
theorem Inv.tape0 {ρ : Rw} (h : Inv ρ) : Inv (upd ρ 5 0) := by
  have hb4 := h.hb; have hb8 := h.mb; have hb6 := h.pb
  exact ⟨h.pH.c (fun j hj => upd_ne (by omega)), h.pM.c (fun j hj => upd_ne (by omega)) (by rw [upd_ne (by omega)]; exact Nat.le_refl _), h.pP.c (fun j hj => upd_ne (by omega)) (by rw [upd_ne (by omega)]; exact Nat.le_refl _), by rw [upd_ne (by omega)]; exact h.2.2.2.1, ⟨by rw [upd_eq]; exact ⟨rfl, by decide⟩, fun i hi => absurd hi (by rw [upd_eq, show nN 0 = 0 from rfl]; omega)⟩, by rw [upd_ne (by omega)]; exact h.2.2.2.2.2.1, fun u hu => (h.pL hu).c (fun j hj => upd_ne (by omega))⟩

set_option maxHeartbeats 4000000 in
set_option maxRecDepth 100000 in
theorem c_X6_frost {l : Launch} {D : va_G} {k : Nat → ClassId} {g a : Nat → Nat} (σ ν μ : St) (h v : Int32) (hRR : RQ σ μ) : Ct l D k g yX6_frost cX6_frost 3 (some .int) 2 43 [.ref (a 0), .int h, .int v] (S := St × St) (wX k g a σ ν) (fun uu => wX k g a uu.1 uu.2) (fun vv uu => vv = some (.int ((op_frost h v μ).1)) ∧ RQ uu.1 (op_frost h v μ).2) := by
  refine Ct.ofI RX6 rfl (by decide +kernel) (Nat.le_of_ble_eq_true rfl) (fun X hC hR => ?_)
  have hT := hRR.1.2.2.1.1; have hI := hRR.1.2.2.1.2
  have hb4 := hI.hb; have hb8 := hI.mb; have hb6 := hI.pb; have hbm := hI.ob0; have hbt := hI.bb; have hbw := hI.wb
  show V X (wX k g a σ ν) [(0, .ref (a 0)), (1, .int h), (2, .int v)] [] 0
  refine V.aload_n (pc := 0) 0 hC dX6_frost_0 rfl ?_
  refine V.get (pc := 1) (v := .ref (a 1)) hC cf_X6 0 0 fl_X6_10 (by decide) gx_0 rfl dX6_frost_1 ?_
  refine V.iload_n (pc := 4) 1 hC dX6_frost_4 rfl ?_
  refine V.callV0 (pc := 5) (as := [.int h]) hC (c_X3_hasHand σ ν (μ 0) h hT hI) mu_X3_hasHand ml_X6_69 (by decide) ⟨1, 3, TX3, 17, _, rfl, gx_1⟩ rfl (Nat.le_of_ble_eq_true rfl) dX6_frost_5 ?_
  rintro _ _ rfl
  show V X (wX k g a σ ν) [(0, .ref (a 0)), (1, .int h), (2, .int v)] [.int (bI (inS h 0 ((μ 0) 2 - 1)))] 8
  refine V.if_eq_b (P := inS h 0 ((μ 0) 2 - 1)) (pc := 8) 21 hC dX6_frost_8 (by decide) (fun c_8 => ?_) (fun c_8 => ?_)
  · refine V.aload_n (pc := 21) 0 hC dX6_frost_21 rfl ?_
    refine V.iconst (pc := 22) 1 hC dX6_frost_22 (by decide) ?_
    refine V.sts (st' := [.int (nI 1), .ref (a 0)]) (stc (nl 1) (stk rfl)) ?_
    refine V.callV0 (pc := 23) (as := [.int (nI 1)]) hC (c_X6_error σ ν 1 (by omega)) mu_X6_error ml_X6_57 (by decide) ⟨0, 6, TX6, 8, _, rfl, gx_0⟩ rfl (Nat.le_of_ble_eq_true rfl) dX6_frost_23 ?_
    rintro _ f23_0 ⟨rfl, hu23_0⟩
    have hu23_0 : f23_0 = upd (σ 0) 1 (σ 0 1 + 1) := hu23_0
    show V X (wX k g a (va_up σ 0 f23_0) ν) [(0, .ref (a 0)), (1, .int h), (2, .int v)] [.int (lowE 1)] 26
    exact hR (lowE 1) ((va_up σ 0 f23_0), ν) _ _ dX6_frost_26 rfl (ope (by rw [op_frost, if_pos c_8] <;> rfl) (hRR.er (by omega) hu23_0))
  · refine V.iload_n (pc := 11) 2 hC dX6_frost_11 rfl ?_
    refine V.iconst (pc := 12) 1 hC dX6_frost_12 (by decide) ?_
    refine V.bipush (pc := 13) 99 hC dX6_frost_13 (by decide) ?_
    refine V.callS0 (pc := 15) (as := [.int v, .int 1, .int 99]) hC (c_X6_within v 1 99 ) ms_X6_within ml_X6_53 (by decide) rfl (Nat.le_of_ble_eq_true rfl) dX6_frost_15 ?_
    rintro _ _ rfl
    show V X (wX k g a σ ν) [(0, .ref (a 0)), (1, .int h), (2, .int v)] [.int (bI (inS v 1 99))] 18
    refine V.if_ne_b (P := inS v 1 99) (pc := 18) 27 hC dX6_frost_18 (by decide) (fun c_18 => ?_) (fun c_18 => ?_)
    · have hh_h := inS_n c_8 hI.hn (by omega)
      have hh_v := inS_1 c_18 (nl 1) (nl 99) (by omega) (by omega)
      refine V.aload_n (pc := 27) 0 hC dX6_frost_27 rfl ?_
      refine V.get (pc := 28) (v := .ref (a 1)) hC cf_X6 0 0 fl_X6_10 (by decide) gx_0 rfl dX6_frost_28 ?_
      refine V.get (pc := 31) (v := .ref (a 12)) hC cf_X3 1 2 fl_X6_76 (by decide) gx_1 rfl dX6_frost_31 ?_
      refine V.iload_n (pc := 34) 1 hC dX6_frost_34 rfl ?_
      refine V.aload_n (pc := 35) 0 hC dX6_frost_35 rfl ?_
      refine V.get (pc := 36) (v := .ref (a 1)) hC cf_X6 0 0 fl_X6_10 (by decide) gx_0 rfl dX6_frost_36 ?_
      refine V.get (pc := 39) (v := .ref (a 12)) hC cf_X3 1 2 fl_X6_76 (by decide) gx_1 rfl dX6_frost_39 ?_
      refine V.iload_n (pc := 42) 1 hC dX6_frost_42 rfl ?_
      refine V.iald (pc := 43) (f := σ 12) hC 9 (nN h) gx_9 hh_h.1 (by omega) (by decide) dX6_frost_43 ?_
      refine V.eqi (y := μ 0 (8 + 2 * (nN h))) (hT.1.2.2 (nN h) (by omega)) ?_
      refine V.iload_n (pc := 44) 2 hC dX6_frost_44 rfl ?_
      refine V.isub (pc := 45) hC dX6_frost_45 ?_
      refine V.aload_n (pc := 46) 0 hC dX6_frost_46 rfl ?_
      refine V.get (pc := 47) (v := .ref (a 1)) hC cf_X6 0 0 fl_X6_10 (by decide) gx_0 rfl dX6_frost_47 ?_
      refine V.get (pc := 50) (v := .ref (a 11)) hC cf_X3 1 1 fl_X6_73 (by decide) gx_1 rfl dX6_frost_50 ?_
      refine V.iload_n (pc := 53) 1 hC dX6_frost_53 rfl ?_
      refine V.iald (pc := 54) (f := σ 11) hC 8 (nN h) gx_8 hh_h.1 (by omega) (by decide) dX6_frost_54 ?_
      refine V.eqi (y := μ 0 (7 + 2 * (nN h))) (hT.1.2.1 (nN h) (by omega)) ?_
      refine V.callS0 (pc := 55) (as := [.int ((μ 0 (8 + 2 * (nN h))) - v), .int (μ 0 (7 + 2 * (nN h)))]) hC (c_X6_rest ((μ 0 (8 + 2 * (nN h))) - v) (μ 0 (7 + 2 * (nN h))) ) ms_X6_rest ml_X6_88 (by decide) rfl (Nat.le_of_ble_eq_true rfl) dX6_frost_55 ?_
      rintro _ _ rfl
      show V X (wX k g a σ ν) [(0, .ref (a 0)), (1, .int h), (2, .int v)] [.int (restS ((μ 0 (8 + 2 * (nN h))) - v) (μ 0 (7 + 2 * (nN h)))), .int h, .ref (a 12)] 58
      refine V.eqi (y := froV (μ 0 (7 + 2 * nN h)) (μ 0 (8 + 2 * nN h)) v) (rest_fro (hI.on hh_h.2) hh_v.1 (hI.tn hh_h.2) (hI.ob hh_h.2) hh_v.2.2 (hI.tb hh_h.2).1 (hI.tb hh_h.2).2) ?_
      refine V.iast (pc := 58) (f := σ 12) hC 9 (nN h) (wX k g a (va_up σ 12 (upd (σ 12) (nN h) (froV (μ 0 (7 + 2 * nN h)) (μ 0 (8 + 2 * nN h)) v))) ν) gx_9 hh_h.1 (by omega) (by decide) rfl dX6_frost_58 ?_
      refine V.aload_n (pc := 59) 0 hC dX6_frost_59 rfl ?_
      refine V.get (pc := 60) (v := .ref (a 1)) hC cf_X6 0 0 fl_X6_10 (by decide) gx_0 rfl dX6_frost_60 ?_
      refine V.get (pc := 63) (v := .ref (a 12)) hC cf_X3 1 2 fl_X6_76 (by decide) gx_1 rfl dX6_frost_63 ?_
      refine V.iload_n (pc := 66) 1 hC dX6_frost_66 rfl ?_
      refine V.iald (pc := 67) (f := upd (σ 12) (nN h) (froV (μ 0 (7 + 2 * nN h)) (μ 0 (8 + 2 * nN h)) v)) hC 9 (nN h) gx_9 hh_h.1 (by omega) (by decide) dX6_frost_67 ?_
      refine V.eqi (y := froV (μ 0 (7 + 2 * nN h)) (μ 0 (8 + 2 * nN h)) v) (upd_eq) ?_
      exact hR (froV (μ 0 (7 + 2 * nN h)) (μ 0 (8 + 2 * nN h)) v) ((va_up σ 12 (upd (σ 12) (nN h) (froV (μ 0 (7 + 2 * nN h)) (μ 0 (8 + 2 * nN h)) v))), ν) _ _ dX6_frost_68 rfl (opc (m := row μ (upd (μ 0) (8 + 2 * nN h) (froV (μ 0 (7 + 2 * nN h)) (μ 0 (8 + 2 * nN h)) v))) (by rw [op_frost, if_neg (not_not_intro c_8), if_neg (not_not_intro c_18)] <;> rfl) (hRR.town (fun j hj => by dsimp only [va_up]; repeat rw [if_neg (by omega)]) (hT.off hI (by omega) _) (hI.off (by omega) (fro_b (hI.on hh_h.2) hh_v.1 (hI.tn hh_h.2) (hI.ob hh_h.2) hh_v.2.2 (hI.tb hh_h.2).1 (hI.tb hh_h.2).2)) (show BF _ from hRR.2.1)))
    · refine V.aload_n (pc := 21) 0 hC dX6_frost_21 rfl ?_
      refine V.iconst (pc := 22) 1 hC dX6_frost_22 (by decide) ?_
      refine V.sts (st' := [.int (nI 1), .ref (a 0)]) (stc (nl 1) (stk rfl)) ?_
      refine V.callV0 (pc := 23) (as := [.int (nI 1)]) hC (c_X6_error σ ν 1 (by omega)) mu_X6_error ml_X6_57 (by decide) ⟨0, 6, TX6, 8, _, rfl, gx_0⟩ rfl (Nat.le_of_ble_eq_true rfl) dX6_frost_23 ?_
      rintro _ f23_0 ⟨rfl, hu23_0⟩
      have hu23_0 : f23_0 = upd (σ 0) 1 (σ 0 1 + 1) := hu23_0
      show V X (wX k g a (va_up σ 0 f23_0) ν) [(0, .ref (a 0)), (1, .int h), (2, .int v)] [.int (lowE 1)] 26
      exact hR (lowE 1) ((va_up σ 0 f23_0), ν) _ _ dX6_frost_26 rfl (ope (by rw [op_frost, if_neg (not_not_intro c_8), if_pos c_18] <;> rfl) (hRR.er (by omega) hu23_0))
set_option maxHeartbeats 4000000 in
set_option maxRecDepth 100000 in
theorem c_X6_feed {l : Launch} {D : va_G} {k : Nat → ClassId} {g a : Nat → Nat} (σ ν μ : St) (w : Int64) (m : Int32) (hRR : RQ σ μ) : Ct l D k g yX6_feed cX6_feed 4 (some .int) 1 24 [.ref (a 0), .long w, .int m] (S := St × St) (wX k g a σ ν) (fun uu => wX k g a uu.1 uu.2) (fun vv uu => vv = some (.int ((op_feed w m μ).1)) ∧ RQ uu.1 (op_feed w m μ).2) := by
  refine Ct.ofI RX6 rfl (by decide +kernel) (Nat.le_of_ble_eq_true rfl) (fun X hC hR => ?_)
  have hT := hRR.1.2.2.1.1; have hI := hRR.1.2.2.1.2
  have hb4 := hI.hb; have hb8 := hI.mb; have hb6 := hI.pb; have hbm := hI.ob0; have hbt := hI.bb; have hbw := hI.wb
  obtain ⟨gH, gM, gP, gT, gB, gW, g0, g1⟩ := Rx_iff.mp hT
  show V X (wX k g a σ ν) [(0, .ref (a 0)), (1, .long w), (3, .int m)] [] 0
  refine V.iload_n (pc := 0) 2 hC dX6_feed_0 rfl ?_
  refine V.iconst (pc := 1) 1 hC dX6_feed_1 (by decide) ?_
  refine V.bipush (pc := 2) 8 hC dX6_feed_2 (by decide) ?_
  refine V.callS0 (pc := 4) (as := [.int m, .int 1, .int 8]) hC (c_X6_within m 1 8 ) ms_X6_within ml_X6_53 (by decide) rfl (Nat.le_of_ble_eq_true rfl) dX6_feed_4 ?_
  rintro _ _ rfl
  show V X (wX k g a σ ν) [(0, .ref (a 0)), (1, .long w), (3, .int m)] [.int (bI (inS m 1 8))] 7
  refine V.if_ne_b (P := inS m 1 8) (pc := 7) 16 hC dX6_feed_7 (by decide) (fun c_7 => ?_) (fun c_7 => ?_)
  · have hh_m := inS_1 c_7 (nl 1) (nl 8) (by omega) (by omega)
    refine V.aload_n (pc := 16) 0 hC dX6_feed_16 rfl ?_
    refine V.get (pc := 17) (v := .ref (a 1)) hC cf_X6 0 0 fl_X6_10 (by decide) gx_0 rfl dX6_feed_17 ?_
    refine V.get (pc := 20) (v := .int (σ 22 0)) hC cf_X3 1 12 fl_X6_153 (by decide) gx_1 rfl dX6_feed_20 ?_
    refine V.eqi (y := μ 0 5) (hT.2.2.2.2.1.1) ?_
    refine V.iload_n (pc := 23) 2 hC dX6_feed_23 rfl ?_
    refine V.iadd (pc := 24) hC dX6_feed_24 ?_
    refine V.bipush (pc := 25) 60 hC dX6_feed_25 (by decide) ?_
    refine V.icmp_le (pc := 27) 36 hC dX6_feed_27 (by decide) (fun c_27 => ?_) (fun c_27 => ?_)
    · have nc_27 : nN (μ 0 5) + nN m ≤ 60 := (nle (ncast (b := nN (μ 0 5) + nN m) (nadd hI.bn hh_m.1) (by omega)) (nl 60) (by omega) (by omega)).mp c_27
      have hfi := feed_i (w := w) (nN m) 0 (μ 0) hI (by omega)
      refine V.aload_n (pc := 36) 0 hC dX6_feed_36 rfl ?_
      refine V.get (pc := 37) (v := .ref (a 1)) hC cf_X6 0 0 fl_X6_10 (by decide) gx_0 rfl dX6_feed_37 ?_
      refine V.lload_n (pc := 40) 1 hC dX6_feed_40 rfl ?_
      refine V.iload_n (pc := 41) 2 hC dX6_feed_41 rfl ?_
      refine V.sts (st' := [.int (nI (nN m)), .long w, .ref (a 1)]) (stc hh_m.1 (stk (stk rfl))) ?_
      refine V.callV0 (pc := 42) (as := [.long w, .int (nI (nN m))]) hC (c_X3_addBytes σ ν (μ 0) w (nN m) hT hI hh_m.2.2 (by omega) hRR.2.1) mu_X3_addBytes ml_X6_156 (by decide) ⟨1, 3, TX3, 17, _, rfl, gx_1⟩ rfl (Nat.le_of_ble_eq_true rfl) dX6_feed_42 ?_
      rintro _ ⟨f42_0, i42_1⟩ ⟨rfl, hu42_0, hu42_1⟩
      have hu42_0 : XB (fun _ => i42_1) f42_0 (feedS w (nN m) 0 (μ 0)) := hu42_0
      have hu42_1 : BF f42_0 := hu42_1
      show V X (wX k g a (va_up (va_up σ 23 f42_0) 22 (fun _ => i42_1)) ν) [(0, .ref (a 0)), (1, .long w), (3, .int m)] [] 45
      refine V.aload_n (pc := 45) 0 hC dX6_feed_45 rfl ?_
      refine V.get (pc := 46) (v := .ref (a 1)) hC cf_X6 0 0 fl_X6_10 (by decide) gx_0 rfl dX6_feed_46 ?_
      refine V.get (pc := 49) (v := .int i42_1) hC cf_X3 1 12 fl_X6_153 (by decide) gx_1 rfl dX6_feed_49 ?_
      refine V.eqi (y := feedS w (nN m) 0 (μ 0) 5) (hu42_0.1) ?_
      exact hR (feedS w (nN m) 0 (μ 0) 5) ((va_up (va_up σ 23 f42_0) 22 (fun _ => i42_1)), ν) _ _ dX6_feed_52 rfl (opc (m := row μ (feedS w (nN m) 0 (μ 0))) (by rw [op_feed, if_neg (not_not_intro c_7), if_neg (i_ge c_27)]) (hRR.town (fun j hj => by dsimp only [va_up]; repeat rw [if_neg (by omega)]) (Rx_iff.mpr ⟨gH.c (fun j hj => hfi.2 j (by omega)), gM.c (fun j hj => hfi.2 j (by omega)), gP.c (fun j hj => hfi.2 j (by omega)), gT.c (fun j hj => hfi.2 j (by omega)), hu42_0, gW.c (fun j hj => hfi.2 j (by omega)), g0.c (hI.lb (by omega)) (fun j hj => hfi.2 j (by omega)), g1.c (hI.lb (by omega)) (fun j hj => hfi.2 j (by omega))⟩) hfi.1 hu42_1))
    · have nc_27 : ¬ (nN (μ 0 5) + nN m ≤ 60) := fun z => c_27 ((nle (ncast (b := nN (μ 0 5) + nN m) (nadd hI.bn hh_m.1) (by omega)) (nl 60) (by omega) (by omega)).mpr z)
      refine V.aload_n (pc := 30) 0 hC dX6_feed_30 rfl ?_
      refine V.iconst (pc := 31) 4 hC dX6_feed_31 (by decide) ?_
      refine V.sts (st' := [.int (nI 4), .ref (a 0)]) (stc (nl 4) (stk rfl)) ?_
      refine V.callV0 (pc := 32) (as := [.int (nI 4)]) hC (c_X6_error σ ν 4 (by omega)) mu_X6_error ml_X6_57 (by decide) ⟨0, 6, TX6, 8, _, rfl, gx_0⟩ rfl (Nat.le_of_ble_eq_true rfl) dX6_feed_32 ?_
      rintro _ f32_0 ⟨rfl, hu32_0⟩
      have hu32_0 : f32_0 = upd (σ 0) 4 (σ 0 4 + 1) := hu32_0
      show V X (wX k g a (va_up σ 0 f32_0) ν) [(0, .ref (a 0)), (1, .long w), (3, .int m)] [.int (lowE 4)] 35
      exact hR (lowE 4) ((va_up σ 0 f32_0), ν) _ _ dX6_feed_35 rfl (ope (by rw [op_feed, if_neg (not_not_intro c_7), if_pos (i_nle c_27)] <;> rfl) (hRR.er (by omega) hu32_0))
  · refine V.aload_n (pc := 10) 0 hC dX6_feed_10 rfl ?_
    refine V.iconst (pc := 11) 1 hC dX6_feed_11 (by decide) ?_
    refine V.sts (st' := [.int (nI 1), .ref (a 0)]) (stc (nl 1) (stk rfl)) ?_
    refine V.callV0 (pc := 12) (as := [.int (nI 1)]) hC (c_X6_error σ ν 1 (by omega)) mu_X6_error ml_X6_57 (by decide) ⟨0, 6, TX6, 8, _, rfl, gx_0⟩ rfl (Nat.le_of_ble_eq_true rfl) dX6_feed_12 ?_
    rintro _ f12_0 ⟨rfl, hu12_0⟩
    have hu12_0 : f12_0 = upd (σ 0) 1 (σ 0 1 + 1) := hu12_0
    show V X (wX k g a (va_up σ 0 f12_0) ν) [(0, .ref (a 0)), (1, .long w), (3, .int m)] [.int (lowE 1)] 15
    exact hR (lowE 1) ((va_up σ 0 f12_0), ν) _ _ dX6_feed_15 rfl (ope (by rw [op_feed, if_pos c_7] <;> rfl) (hRR.er (by omega) hu12_0))
set_option maxHeartbeats 4000000 in
set_option maxRecDepth 100000 in
theorem c_X6_text {l : Launch} {D : va_G} {k : Nat → ClassId} {g a : Nat → Nat} (σ ν μ : St) (u : Int32) (hRR : RQ σ μ) : Ct l D k g yX6_text cX6_text 3 (some .int) 76 1795 [.ref (a 0), .int u] (S := St × St) (wX k g a σ ν) (fun uu => wX k g a uu.1 uu.2) (fun vv uu => vv = some (.int ((op_text u μ).1)) ∧ RQ uu.1 (op_text u μ).2) := by
  refine Ct.ofI RX6 rfl (by decide +kernel) (Nat.le_of_ble_eq_true rfl) (fun X hC hR => ?_)
  have hT := hRR.1.2.2.1.1; have hI := hRR.1.2.2.1.2
  have hb4 := hI.hb; have hb8 := hI.mb; have hb6 := hI.pb; have hbm := hI.ob0; have hbt := hI.bb; have hbw := hI.wb
  obtain ⟨gH, gM, gP, gT, gB, gW, g0, g1⟩ := Rx_iff.mp hT
  show V X (wX k g a σ ν) [(0, .ref (a 0)), (1, .int u)] [] 0
  refine V.iload_n (pc := 0) 1 hC dX6_text_0 rfl ?_
  refine V.callS0 (pc := 1) (as := [.int u]) hC (c_X6_isUse u ) ms_X6_isUse ml_X6_160 (by decide) rfl (Nat.le_of_ble_eq_true rfl) dX6_text_1 ?_
  rintro _ _ rfl
  show V X (wX k g a σ ν) [(0, .ref (a 0)), (1, .int u)] [.int (bI (inS u 0 1))] 4
  refine V.if_ne_b (P := inS u 0 1) (pc := 4) 13 hC dX6_text_4 (by decide) (fun c_4 => ?_) (fun c_4 => ?_)
  · by_cases u0 : u = 0
    · subst u0
      refine V.aload_n (pc := 13) 0 hC dX6_text_13 rfl ?_
      refine V.get (pc := 14) (v := .ref (a 3)) hC cf_X6 0 2 fl_X6_24 (by decide) gx_0 rfl dX6_text_14 ?_
      refine V.iload_n (pc := 17) 1 hC dX6_text_17 rfl ?_
      refine V.callV0 (pc := 18) (as := [.int 0]) hC (c_tape_0 σ ν (μ 0) hT hI) mu_X1_readTape ml_X6_163 (by decide) ⟨3, 1, TX1, 5, _, rfl, gx_3⟩ rfl (Nat.le_of_ble_eq_true rfl) dX6_text_18 ?_
      rintro _ ⟨f18_0, i18_1, i18_2, i18_3⟩ ⟨rfl, hu18_0⟩
      have hu18_0 : COut (ν 70) 0 (txR (μ 0) (nI 0)) f18_0 i18_1 i18_2 := hu18_0
      show V X (wX k g a σ (va_up (va_up (va_up (va_up ν 70 f18_0) 71 (fun _ => i18_1)) 72 (fun _ => i18_2)) 73 (fun _ => i18_3))) [(0, .ref (a 0)), (1, .int 0)] [.int (if (txR (μ 0) (nI 0)).1 = true ∧ (txR (μ 0) (nI 0)).2.1 = nN ((μ 0) 5) then -1 else nI (txR (μ 0) (nI 0)).2.1)] 21
      by_cases tS : (txR (μ 0) (nI 0)).1 = true ∧ (txR (μ 0) (nI 0)).2.1 = nN (μ 0 5)
      · refine V.eqi (y := (-1)) (if_pos tS) ?_
        have hgx := tx_g hI (nI 0)
        have hg2 := hgx.2.2 tS.1
        have hgb := hgx.2.1
        have hq := hu18_0.2.2 tS.1
        rw [Nat.zero_add] at hq
        have hl60 : (txR (μ 0) (nI 0)).2.2.length ≤ 60 := by have := hg2.2.1; omega
        refine V.istore_n (pc := 21) [(2, .int (-1)), (0, .ref (a 0)), (1, .int 0)] hC dX6_text_21 (by decide) rfl ?_
        refine V.aload_n (pc := 22) 1 hC dX6_text_22 rfl ?_
        refine V.get (pc := 23) (v := .ref (a 1)) hC cf_X6 0 0 fl_X6_10 (by decide) gx_0 rfl dX6_text_23 ?_
        refine V.iconst (pc := 26) 0 hC dX6_text_26 (by decide) ?_
        refine V.put (pc := 27) (v := .int 0) hC cf_X3 1 12 (wX k g a (va_up σ 22 (fun _ => 0)) (va_up (va_up (va_up (va_up ν 70 f18_0) 71 (fun _ => i18_1)) 72 (fun _ => i18_2)) 73 (fun _ => i18_3))) fl_X6_153 (by decide) gx_1 rfl rfl rfl (Nat.le_of_ble_eq_true rfl) rfl dX6_text_27 ?_
        refine V.iload_n (pc := 30) 0 hC dX6_text_30 rfl ?_
        refine V.if_lt (pc := 31) 39 hC dX6_text_31 (by decide) (fun c_31 => ?_) (fun c_31 => ?_)
        · refine V.aload_n (pc := 39) 1 hC dX6_text_39 rfl ?_
          refine V.get (pc := 40) (v := .ref (a 1)) hC cf_X6 0 0 fl_X6_10 (by decide) gx_0 rfl dX6_text_40 ?_
          refine V.get (pc := 43) (v := .ref (a 26)) hC cf_X3 1 16 fl_X6_166 (by decide) gx_1 rfl dX6_text_43 ?_
          refine V.iload_n (pc := 46) 2 hC dX6_text_46 rfl ?_
          refine V.aldL (pc := 47) hC 17 0 (a 27) gx_17 (nl 0) (by omega) (by decide) rfl dX6_text_47 ?_
          refine V.aload_n (pc := 48) 1 hC dX6_text_48 rfl ?_
          refine V.get (pc := 49) (v := .ref (a 3)) hC cf_X6 0 2 fl_X6_24 (by decide) gx_0 rfl dX6_text_49 ?_
          refine V.get (pc := 52) (v := .ref (a 70)) hC cf_X1 3 1 fl_X6_170 (by decide) gx_3 rfl dX6_text_52 ?_
          refine V.aload_n (pc := 55) 1 hC dX6_text_55 rfl ?_
          refine V.get (pc := 56) (v := .ref (a 3)) hC cf_X6 0 2 fl_X6_24 (by decide) gx_0 rfl dX6_text_56 ?_
          refine V.get (pc := 59) (v := .int i18_1) hC cf_X1 3 2 fl_X6_173 (by decide) gx_3 rfl dX6_text_59 ?_
          refine V.sts (st' := [.int (nI ((txR (μ 0) (nI 0)).2.2.length)), .ref (a 70), .ref (a 27)]) (stc hq.1 (stk (stk rfl))) ?_
          refine V.callV0 (pc := 62) (as := [.ref (a 70), .int (nI ((txR (μ 0) (nI 0)).2.2.length))]) hC (c_X0_take_27_70 (va_up σ 22 (fun _ => 0)) (va_up (va_up (va_up (va_up ν 70 f18_0) 71 (fun _ => i18_1)) 72 (fun _ => i18_2)) 73 (fun _ => i18_3)) ((txR (μ 0) (nI 0)).2.2.length) hl60) mu_X0_take ml_X6_176 (by decide) ⟨18, 0, TX0, 3, _, rfl, gx_18⟩ rfl (Nat.le_of_ble_eq_true rfl) dX6_text_62 ?_
          rintro _ ⟨f62_0, i62_1⟩ ⟨rfl, hu62_0, hu62_1⟩
          have hu62_0 : f62_0 = va_cpy (f18_0) ((σ 29)) 0 0 ((txR (μ 0) (nI 0)).2.2.length) := hu62_0
          have hu62_1 : i62_1 = nI ((txR (μ 0) (nI 0)).2.2.length) := hu62_1
          show V X (wX k g a (va_up (va_up (va_up σ 22 (fun _ => 0)) 29 f62_0) 27 (fun _ => i62_1)) (va_up (va_up (va_up (va_up ν 70 f18_0) 71 (fun _ => i18_1)) 72 (fun _ => i18_2)) 73 (fun _ => i18_3))) [(2, .int (-1)), (0, .ref (a 0)), (1, .int 0)] [] 65
          refine V.iconst (pc := 65) 1 hC dX6_text_65 (by decide) ?_
          exact hR 1 ((va_up (va_up (va_up σ 22 (fun _ => 0)) 29 f62_0) 27 (fun _ => i62_1)), (va_up (va_up (va_up (va_up ν 70 f18_0) 71 (fun _ => i18_1)) 72 (fun _ => i18_2)) 73 (fun _ => i18_3))) _ _ dX6_text_66 rfl (opc (m := row μ (txC (txB (μ 0) 0 (txR (μ 0) (nI 0)).2.2) (134 + 121 * 0) (wdA (txR (μ 0) (nI 0)).2.2) (wdW (txR (μ 0) (nI 0)).2.2) (txR (μ 0) (nI 0)).2.2.length)) (by rw [op_text, if_neg (not_not_intro c_4)]; exact if_pos tS) (hRR.town (fun j hj => by dsimp only [va_up]; repeat rw [if_neg (by omega)]) (Rx_iff.mpr ⟨gH.c (fun j hj => tx_ne hl60 (by omega) (by omega)), gM.c (fun j hj => tx_ne hl60 (by omega) (by omega)), gP.c (fun j hj => tx_ne hl60 (by omega) (by omega)), gT.c (fun j hj => tx_ne hl60 (by omega) (by omega)), ⟨(tx_5 hl60).symm, fun i hi => absurd hi (by rw [tx_5 hl60, show nN 0 = 0 from rfl]; omega)⟩, gW.c (fun j hj => tx_ne hl60 (by omega) (by omega)), XL_text hl60 (hg2.2.2 0) hu62_1 (fun i hi => by show f62_0 i = _; rw [hu62_0, cpy_v hi, hq.2]; exact lay0_c hi), g1.c (hI.lb (by omega)) (fun j hj => tx_ne hl60 (by omega) (by omega))⟩) (hI.text (by omega) hl60 (hg2.2.2 0)) (show BF _ from hRR.2.1)))
        · exact absurd c_31 (by decide)
      · refine V.eqi (y := nI ((txR (μ 0) (nI 0)).2.1)) (if_neg tS) ?_
        have hgb := (tx_g hI (nI 0)).2.1
        refine V.istore_n (pc := 21) [(2, .int (nI ((txR (μ 0) (nI 0)).2.1))), (0, .ref (a 0)), (1, .int 0)] hC dX6_text_21 (by decide) rfl ?_
        refine V.aload_n (pc := 22) 1 hC dX6_text_22 rfl ?_
        refine V.get (pc := 23) (v := .ref (a 1)) hC cf_X6 0 0 fl_X6_10 (by decide) gx_0 rfl dX6_text_23 ?_
        refine V.iconst (pc := 26) 0 hC dX6_text_26 (by decide) ?_
        refine V.put (pc := 27) (v := .int 0) hC cf_X3 1 12 (wX k g a (va_up σ 22 (fun _ => 0)) (va_up (va_up (va_up (va_up ν 70 f18_0) 71 (fun _ => i18_1)) 72 (fun _ => i18_2)) 73 (fun _ => i18_3))) fl_X6_153 (by decide) gx_1 rfl rfl rfl (Nat.le_of_ble_eq_true rfl) rfl dX6_text_27 ?_
        refine V.iload_n (pc := 30) 0 hC dX6_text_30 rfl ?_
        refine V.if_lt (pc := 31) 39 hC dX6_text_31 (by decide) (fun c_31 => ?_) (fun c_31 => ?_)
        · have nc_31 : (txR (μ 0) (nI 0)).2.1 < 0 := (nlt rfl (nl 0) (by omega) (by omega)).mp c_31
          exfalso; omega
        · have nc_31 : ¬ ((txR (μ 0) (nI 0)).2.1 < 0) := fun z => c_31 ((nlt rfl (nl 0) (by omega) (by omega)).mpr z)
          refine V.bipush (pc := 34) (-10) hC dX6_text_34 (by decide) ?_
          refine V.iload_n (pc := 36) 0 hC dX6_text_36 rfl ?_
          refine V.isub (pc := 37) hC dX6_text_37 ?_
          exact hR ((-10) - (nI ((txR (μ 0) (nI 0)).2.1))) ((va_up σ 22 (fun _ => 0)), (va_up (va_up (va_up (va_up ν 70 f18_0) 71 (fun _ => i18_1)) 72 (fun _ => i18_2)) 73 (fun _ => i18_3))) _ _ dX6_text_38 rfl (opc (m := row μ (upd (μ 0) 5 0)) (by rw [op_text, if_neg (not_not_intro c_4)]; exact if_neg tS) (hRR.town (fun j hj => by dsimp only [va_up]; repeat rw [if_neg (by omega)]) (Rx_iff.mpr ⟨gH.c (fun j hj => by unfold upd; repeat rw [if_neg (by omega)]), gM.c (fun j hj => by unfold upd; repeat rw [if_neg (by omega)]), gP.c (fun j hj => by unfold upd; repeat rw [if_neg (by omega)]), gT.c (fun j hj => by unfold upd; repeat rw [if_neg (by omega)]), ⟨upd_eq.symm, fun i hi => absurd hi (by rw [upd_eq, show nN 0 = 0 from rfl]; omega)⟩, gW.c (fun j hj => by unfold upd; repeat rw [if_neg (by omega)]), g0.c (hI.lb (by omega)) (fun j hj => by unfold upd; repeat rw [if_neg (by omega)]), g1.c (hI.lb (by omega)) (fun j hj => by unfold upd; repeat rw [if_neg (by omega)])⟩) hI.tape0 (show BF _ from hRR.2.1)))
    · have u1 : u = 1 := by have h := inS_c c_4 (nl 1) (by omega); have g0 : ¬ nN u = 0 := fun z => u0 (by rw [h.1, z]; rfl); rw [h.1, show nN u = 1 by have := h.2; omega]; rfl
      subst u1
      refine V.aload_n (pc := 13) 0 hC dX6_text_13 rfl ?_
      refine V.get (pc := 14) (v := .ref (a 3)) hC cf_X6 0 2 fl_X6_24 (by decide) gx_0 rfl dX6_text_14 ?_
      refine V.iload_n (pc := 17) 1 hC dX6_text_17 rfl ?_
      refine V.callV0 (pc := 18) (as := [.int 1]) hC (c_tape_1 σ ν (μ 0) hT hI) mu_X1_readTape ml_X6_163 (by decide) ⟨3, 1, TX1, 5, _, rfl, gx_3⟩ rfl (Nat.le_of_ble_eq_true rfl) dX6_text_18 ?_
      rintro _ ⟨f18_0, i18_1, i18_2, i18_3⟩ ⟨rfl, hu18_0⟩
      have hu18_0 : COut (ν 70) 0 (txR (μ 0) (nI 1)) f18_0 i18_1 i18_2 := hu18_0
      show V X (wX k g a σ (va_up (va_up (va_up (va_up ν 70 f18_0) 71 (fun _ => i18_1)) 72 (fun _ => i18_2)) 73 (fun _ => i18_3))) [(0, .ref (a 0)), (1, .int 1)] [.int (if (txR (μ 0) (nI 1)).1 = true ∧ (txR (μ 0) (nI 1)).2.1 = nN ((μ 0) 5) then -1 else nI (txR (μ 0) (nI 1)).2.1)] 21
      by_cases tS : (txR (μ 0) (nI 1)).1 = true ∧ (txR (μ 0) (nI 1)).2.1 = nN (μ 0 5)
      · refine V.eqi (y := (-1)) (if_pos tS) ?_
        have hgx := tx_g hI (nI 1)
        have hg2 := hgx.2.2 tS.1
        have hgb := hgx.2.1
        have hq := hu18_0.2.2 tS.1
        rw [Nat.zero_add] at hq
        have hl60 : (txR (μ 0) (nI 1)).2.2.length ≤ 60 := by have := hg2.2.1; omega
        refine V.istore_n (pc := 21) [(2, .int (-1)), (0, .ref (a 0)), (1, .int 1)] hC dX6_text_21 (by decide) rfl ?_
        refine V.aload_n (pc := 22) 1 hC dX6_text_22 rfl ?_
        refine V.get (pc := 23) (v := .ref (a 1)) hC cf_X6 0 0 fl_X6_10 (by decide) gx_0 rfl dX6_text_23 ?_
        refine V.iconst (pc := 26) 0 hC dX6_text_26 (by decide) ?_
        refine V.put (pc := 27) (v := .int 0) hC cf_X3 1 12 (wX k g a (va_up σ 22 (fun _ => 0)) (va_up (va_up (va_up (va_up ν 70 f18_0) 71 (fun _ => i18_1)) 72 (fun _ => i18_2)) 73 (fun _ => i18_3))) fl_X6_153 (by decide) gx_1 rfl rfl rfl (Nat.le_of_ble_eq_true rfl) rfl dX6_text_27 ?_
        refine V.iload_n (pc := 30) 0 hC dX6_text_30 rfl ?_
        refine V.if_lt (pc := 31) 39 hC dX6_text_31 (by decide) (fun c_31 => ?_) (fun c_31 => ?_)
        · refine V.aload_n (pc := 39) 1 hC dX6_text_39 rfl ?_
          refine V.get (pc := 40) (v := .ref (a 1)) hC cf_X6 0 0 fl_X6_10 (by decide) gx_0 rfl dX6_text_40 ?_
          refine V.get (pc := 43) (v := .ref (a 26)) hC cf_X3 1 16 fl_X6_166 (by decide) gx_1 rfl dX6_text_43 ?_
          refine V.iload_n (pc := 46) 2 hC dX6_text_46 rfl ?_
          refine V.aldL (pc := 47) hC 17 1 (a 28) gx_17 (nl 1) (by omega) (by decide) rfl dX6_text_47 ?_
          refine V.aload_n (pc := 48) 1 hC dX6_text_48 rfl ?_
          refine V.get (pc := 49) (v := .ref (a 3)) hC cf_X6 0 2 fl_X6_24 (by decide) gx_0 rfl dX6_text_49 ?_
          refine V.get (pc := 52) (v := .ref (a 70)) hC cf_X1 3 1 fl_X6_170 (by decide) gx_3 rfl dX6_text_52 ?_
          refine V.aload_n (pc := 55) 1 hC dX6_text_55 rfl ?_
          refine V.get (pc := 56) (v := .ref (a 3)) hC cf_X6 0 2 fl_X6_24 (by decide) gx_0 rfl dX6_text_56 ?_
          refine V.get (pc := 59) (v := .int i18_1) hC cf_X1 3 2 fl_X6_173 (by decide) gx_3 rfl dX6_text_59 ?_
          refine V.sts (st' := [.int (nI ((txR (μ 0) (nI 1)).2.2.length)), .ref (a 70), .ref (a 28)]) (stc hq.1 (stk (stk rfl))) ?_
          refine V.callV0 (pc := 62) (as := [.ref (a 70), .int (nI ((txR (μ 0) (nI 1)).2.2.length))]) hC (c_X0_take_28_70 (va_up σ 22 (fun _ => 0)) (va_up (va_up (va_up (va_up ν 70 f18_0) 71 (fun _ => i18_1)) 72 (fun _ => i18_2)) 73 (fun _ => i18_3)) ((txR (μ 0) (nI 1)).2.2.length) hl60) mu_X0_take ml_X6_176 (by decide) ⟨19, 0, TX0, 3, _, rfl, gx_19⟩ rfl (Nat.le_of_ble_eq_true rfl) dX6_text_62 ?_
          rintro _ ⟨f62_0, i62_1⟩ ⟨rfl, hu62_0, hu62_1⟩
          have hu62_0 : f62_0 = va_cpy (f18_0) ((σ 30)) 0 0 ((txR (μ 0) (nI 1)).2.2.length) := hu62_0
          have hu62_1 : i62_1 = nI ((txR (μ 0) (nI 1)).2.2.length) := hu62_1
          show V X (wX k g a (va_up (va_up (va_up σ 22 (fun _ => 0)) 30 f62_0) 28 (fun _ => i62_1)) (va_up (va_up (va_up (va_up ν 70 f18_0) 71 (fun _ => i18_1)) 72 (fun _ => i18_2)) 73 (fun _ => i18_3))) [(2, .int (-1)), (0, .ref (a 0)), (1, .int 1)] [] 65
          refine V.iconst (pc := 65) 1 hC dX6_text_65 (by decide) ?_
          exact hR 1 ((va_up (va_up (va_up σ 22 (fun _ => 0)) 30 f62_0) 28 (fun _ => i62_1)), (va_up (va_up (va_up (va_up ν 70 f18_0) 71 (fun _ => i18_1)) 72 (fun _ => i18_2)) 73 (fun _ => i18_3))) _ _ dX6_text_66 rfl (opc (m := row μ (txC (txB (μ 0) 1 (txR (μ 0) (nI 1)).2.2) (134 + 121 * 1) (wdA (txR (μ 0) (nI 1)).2.2) (wdW (txR (μ 0) (nI 1)).2.2) (txR (μ 0) (nI 1)).2.2.length)) (by rw [op_text, if_neg (not_not_intro c_4)]; exact if_pos tS) (hRR.town (fun j hj => by dsimp only [va_up]; repeat rw [if_neg (by omega)]) (Rx_iff.mpr ⟨gH.c (fun j hj => tx_ne hl60 (by omega) (by omega)), gM.c (fun j hj => tx_ne hl60 (by omega) (by omega)), gP.c (fun j hj => tx_ne hl60 (by omega) (by omega)), gT.c (fun j hj => tx_ne hl60 (by omega) (by omega)), ⟨(tx_5 hl60).symm, fun i hi => absurd hi (by rw [tx_5 hl60, show nN 0 = 0 from rfl]; omega)⟩, gW.c (fun j hj => tx_ne hl60 (by omega) (by omega)), g0.c (hI.lb (by omega)) (fun j hj => tx_ne hl60 (by omega) (by omega)), XL_text hl60 (hg2.2.2 0) hu62_1 (fun i hi => by show f62_0 i = _; rw [hu62_0, cpy_v hi, hq.2]; exact lay0_c hi)⟩) (hI.text (by omega) hl60 (hg2.2.2 0)) (show BF _ from hRR.2.1)))
        · exact absurd c_31 (by decide)
      · refine V.eqi (y := nI ((txR (μ 0) (nI 1)).2.1)) (if_neg tS) ?_
        have hgb := (tx_g hI (nI 1)).2.1
        refine V.istore_n (pc := 21) [(2, .int (nI ((txR (μ 0) (nI 1)).2.1))), (0, .ref (a 0)), (1, .int 1)] hC dX6_text_21 (by decide) rfl ?_
        refine V.aload_n (pc := 22) 1 hC dX6_text_22 rfl ?_
        refine V.get (pc := 23) (v := .ref (a 1)) hC cf_X6 0 0 fl_X6_10 (by decide) gx_0 rfl dX6_text_23 ?_
        refine V.iconst (pc := 26) 0 hC dX6_text_26 (by decide) ?_
        refine V.put (pc := 27) (v := .int 0) hC cf_X3 1 12 (wX k g a (va_up σ 22 (fun _ => 0)) (va_up (va_up (va_up (va_up ν 70 f18_0) 71 (fun _ => i18_1)) 72 (fun _ => i18_2)) 73 (fun _ => i18_3))) fl_X6_153 (by decide) gx_1 rfl rfl rfl (Nat.le_of_ble_eq_true rfl) rfl dX6_text_27 ?_
        refine V.iload_n (pc := 30) 0 hC dX6_text_30 rfl ?_
        refine V.if_lt (pc := 31) 39 hC dX6_text_31 (by decide) (fun c_31 => ?_) (fun c_31 => ?_)
        · have nc_31 : (txR (μ 0) (nI 1)).2.1 < 0 := (nlt rfl (nl 0) (by omega) (by omega)).mp c_31
          exfalso; omega
        · have nc_31 : ¬ ((txR (μ 0) (nI 1)).2.1 < 0) := fun z => c_31 ((nlt rfl (nl 0) (by omega) (by omega)).mpr z)
          refine V.bipush (pc := 34) (-10) hC dX6_text_34 (by decide) ?_
          refine V.iload_n (pc := 36) 0 hC dX6_text_36 rfl ?_
          refine V.isub (pc := 37) hC dX6_text_37 ?_
          exact hR ((-10) - (nI ((txR (μ 0) (nI 1)).2.1))) ((va_up σ 22 (fun _ => 0)), (va_up (va_up (va_up (va_up ν 70 f18_0) 71 (fun _ => i18_1)) 72 (fun _ => i18_2)) 73 (fun _ => i18_3))) _ _ dX6_text_38 rfl (opc (m := row μ (upd (μ 0) 5 0)) (by rw [op_text, if_neg (not_not_intro c_4)]; exact if_neg tS) (hRR.town (fun j hj => by dsimp only [va_up]; repeat rw [if_neg (by omega)]) (Rx_iff.mpr ⟨gH.c (fun j hj => by unfold upd; repeat rw [if_neg (by omega)]), gM.c (fun j hj => by unfold upd; repeat rw [if_neg (by omega)]), gP.c (fun j hj => by unfold upd; repeat rw [if_neg (by omega)]), gT.c (fun j hj => by unfold upd; repeat rw [if_neg (by omega)]), ⟨upd_eq.symm, fun i hi => absurd hi (by rw [upd_eq, show nN 0 = 0 from rfl]; omega)⟩, gW.c (fun j hj => by unfold upd; repeat rw [if_neg (by omega)]), g0.c (hI.lb (by omega)) (fun j hj => by unfold upd; repeat rw [if_neg (by omega)]), g1.c (hI.lb (by omega)) (fun j hj => by unfold upd; repeat rw [if_neg (by omega)])⟩) hI.tape0 (show BF _ from hRR.2.1)))
  · refine V.aload_n (pc := 7) 0 hC dX6_text_7 rfl ?_
    refine V.iconst (pc := 8) 1 hC dX6_text_8 (by decide) ?_
    refine V.sts (st' := [.int (nI 1), .ref (a 0)]) (stc (nl 1) (stk rfl)) ?_
    refine V.callV0 (pc := 9) (as := [.int (nI 1)]) hC (c_X6_error σ ν 1 (by omega)) mu_X6_error ml_X6_57 (by decide) ⟨0, 6, TX6, 8, _, rfl, gx_0⟩ rfl (Nat.le_of_ble_eq_true rfl) dX6_text_9 ?_
    rintro _ f9_0 ⟨rfl, hu9_0⟩
    have hu9_0 : f9_0 = upd (σ 0) 1 (σ 0 1 + 1) := hu9_0
    show V X (wX k g a (va_up σ 0 f9_0) ν) [(0, .ref (a 0)), (1, .int u)] [.int (lowE 1)] 12
    exact hR (lowE 1) ((va_up σ 0 f9_0), ν) _ _ dX6_text_12 rfl (ope (by rw [op_text, if_pos c_4] <;> rfl) (hRR.er (by omega) hu9_0))
