def lakS (μ : St) (s : Int32) : Int32 := if ¬ shtS s then 1 else if μ 4 (nN s) = 0 then 2 else 0
theorem allF_c {f g : Nat → Bool} : ∀ (n i : Nat), (∀ j, i ≤ j → j < i + n → f j = g j) → allF f n i = allF g n i := by
  intro n
  induction n with
  | zero => intro i _; rfl
  | succ n ih =>
    intro i h
    show (f i && allF f n (i + 1)) = (g i && allF g n (i + 1))
    rw [h i (Nat.le_refl i) (by omega), ih (i + 1) (fun j h1 h2 => h j (by omega) (by omega))]
theorem ofsS_c {c d : Rw} : ∀ (n i : Nat) (ρ : Rw), (∀ j, i ≤ j → j < i + n → c j = d j) → ofsS c n i ρ = ofsS d n i ρ := by
  intro n
  induction n with
  | zero => intro i ρ _; rfl
  | succ n ih =>
    intro i ρ h
    simp only [ofsS]
    rw [h i (Nat.le_refl i) (by omega)]
    split
    · exact ih (i + 1) _ (fun j h1 h2 => h j (by omega) (by omega))
    · rfl
theorem ofsS_i {c : Rw} : ∀ (n i : Nat) (ρ : Rw), Inv ρ → i + n ≤ nN (ρ 2) → Inv (ofsS c n i ρ).2 ∧ ∀ j, ¬ (7 ≤ j ∧ j < 15) → (ofsS c n i ρ).2 j = ρ j := by
  intro n
  induction n with
  | zero => intro i ρ h _; exact ⟨h, fun j _ => rfl⟩
  | succ n ih =>
    intro i ρ h hi
    have hb := h.hb
    simp only [ofsS]
    split
    · rename_i hc
      have h1 := inS_c hc (nl 1439) (by omega)
      have h2 := ih (i + 1) (upd ρ (8 + 2 * i) (c i)) (h.off (by omega) ⟨h1.1, h1.2⟩) (by rw [upd_ne (by omega)]; omega)
      exact ⟨h2.1, fun j hj => (h2.2 j hj).trans (upd_ne (by omega))⟩
    · exact ⟨h, fun j _ => rfl⟩
/-- one sheet changes on both sides -/
theorem RQ.sheet {σ σ' μ μ' : St} (h : RQ σ μ) {s : Nat} (hs : s < 4) (e : ∀ j, j ≠ 90 + s → j ≠ 94 + s → j ≠ 98 + s → σ' j = σ j) (em : ∀ j, j ≠ 4 → j ≠ 5 → j ≠ 6 → μ' j = μ j) (e4 : ∀ q, q ≠ s → μ' 4 q = μ 4 q) (e5 : ∀ q, q ≠ s → μ' 5 q = μ 5 q) (e6 : ∀ q, ¬ (24 * s ≤ q ∧ q < 24 * s + 24) → μ' 6 q = μ 6 q)
    (hn : σ' (90 + s) 0 = μ' 4 s ∧ σ' (94 + s) 0 = μ' 5 s ∧ isN (μ' 5 s) 24 ∧ ∀ i, i < nN (μ' 5 s) → σ' (98 + s) i = μ' 6 (24 * s + i)) : RQ σ' μ' := by
  refine h.mk' (fun q hq => ?_) ?_ ⟨?_, ?_⟩ (fun z => ⟨?_, ?_⟩) (fun q hq => ?_) ?_ ?_ ?_
  · rw [e 0 (by omega) (by omega) (by omega), em 3 (by omega) (by omega) (by omega)]; exact h.1.1 q hq
  · rw [e 1 (by omega) (by omega) (by omega), em 2 (by omega) (by omega) (by omega)]; exact h.1.2.1
  · rw [em 0 (by omega) (by omega) (by omega)]; exact RT_c h.1.2.2.1.1 (fun j a b => e j (by omega) (by omega) (by omega))
  · rw [em 0 (by omega) (by omega) (by omega)]; exact h.1.2.2.1.2
  · rw [em 1 (by omega) (by omega) (by omega)]; rw [em 2 (by omega) (by omega) (by omega)] at z; exact RK_c (h.1.2.2.2.1 z).1 (fun j a b => e j (by omega) (by omega) (by omega))
  · rw [em 1 (by omega) (by omega) (by omega)]; rw [em 2 (by omega) (by omega) (by omega)] at z; exact (h.1.2.2.2.1 z).2
  · by_cases z : q = s
    · subst z; exact hn
    · have h4 := h.1.2.2.2.2.1 q hq
      have hb := h4.2.2.1.2
      rw [e (90 + q) (by omega) (by omega) (by omega), e (94 + q) (by omega) (by omega) (by omega), e (98 + q) (by omega) (by omega) (by omega), e4 q z, e5 q z]
      exact ⟨h4.1, h4.2.1, h4.2.2.1, fun i hi => by rw [e6 _ (by omega)]; exact h4.2.2.2 i hi⟩
  · rw [e 81 (by omega) (by omega) (by omega), e 80 (by omega) (by omega) (by omega), em 18 (by omega) (by omega) (by omega), em 17 (by omega) (by omega) (by omega)]; exact h.1.2.2.2.2.2
  · rw [e 23 (by omega) (by omega) (by omega)]; exact h.2.1
  · rw [e 53 (by omega) (by omega) (by omega)]; exact h.2.2

set_option maxHeartbeats 4000000 in
set_option maxRecDepth 100000 in
theorem c_X6_lackOf {l : Launch} {D : va_G} {k : Nat → ClassId} {g a : Nat → Nat} (σ ν μ : St) (s : Int32) (hRR : RQ σ μ) : Ct l D k g yX6_lackOf cX6_lackOf 2 (some .int) 2 42 [.ref (a 0), .int s] (S := Unit) (wX k g a σ ν) (fun _ => wX k g a σ ν) (fun vv _ => vv = some (.int (lakS μ s))) := by
  refine Ct.ofI RX6 rfl (by decide +kernel) (Nat.le_of_ble_eq_true rfl) (fun X hC hR => ?_)
  show V X (wX k g a σ ν) [(0, .ref (a 0)), (1, .int s)] [] 0
  refine V.iload_n (pc := 0) 1 hC dX6_lackOf_0 rfl ?_
  refine V.callS0 (pc := 1) (as := [.int s]) hC (c_X6_isSheet s ) ms_X6_isSheet ml_X6_241 (by decide) rfl (Nat.le_of_ble_eq_true rfl) dX6_lackOf_1 ?_
  rintro _ _ rfl
  show V X (wX k g a σ ν) [(0, .ref (a 0)), (1, .int s)] [.int (bI (inS s 0 3))] 4
  refine V.if_ne_b (P := inS s 0 3) (pc := 4) 9 hC dX6_lackOf_4 (by decide) (fun c_4 => ?_) (fun c_4 => ?_)
  · have hh_s := inS_c c_4 (nl 3) (by omega)
    refine V.aload_n (pc := 9) 0 hC dX6_lackOf_9 rfl ?_
    refine V.get (pc := 10) (v := .ref (a 6)) hC cf_X6 0 5 fl_X6_45 (by decide) gx_0 rfl dX6_lackOf_10 ?_
    refine V.iload_n (pc := 13) 1 hC dX6_lackOf_13 rfl ?_
    refine V.aldS (pc := 14) hC 6 (nN s) (a (90 + nN s)) gx_6 hh_s.1 (by omega) (by decide) rfl dX6_lackOf_14 ?_
    refine V.callV0 (pc := 15) (as := []) hC (c_X2_isMissing σ ν (nN s) (by omega)) mu_X2_isMissing ml_X6_253 (by decide) ⟨(47 + (nN s)), 2, TX2, 3, _, rfl, (gx_sho (nN s) (by omega))⟩ rfl (Nat.le_of_ble_eq_true rfl) dX6_lackOf_15 ?_
    rintro _ _ rfl
    show V X (wX k g a σ ν) [(0, .ref (a 0)), (1, .int s)] [.int (bI (σ (90 + (nN s)) 0 = 0))] 18
    refine V.if_eq_b (P := σ (90 + (nN s)) 0 = 0) (pc := 18) 25 hC dX6_lackOf_18 (by decide) (fun c_18 => ?_) (fun c_18 => ?_)
    · refine V.iconst (pc := 25) 0 hC dX6_lackOf_25 (by decide) ?_
      exact hR 0 () _ _ dX6_lackOf_26 rfl (ri (by rw [lakS, if_neg (not_not_intro c_4), if_neg (fun z => c_18 ((hRR.1.2.2.2.2.1 _ (by omega)).1.trans z))]))
    · refine V.iconst (pc := 21) 2 hC dX6_lackOf_21 (by decide) ?_
      refine V.goto (pc := 22) 26 hC dX6_lackOf_22 (by decide) ?_
      exact hR 2 () _ _ dX6_lackOf_26 rfl (ri (by rw [lakS, if_neg (not_not_intro c_4), if_pos ((hRR.1.2.2.2.2.1 _ (by omega)).1.symm.trans c_18)]))
  · refine V.iconst (pc := 7) 1 hC dX6_lackOf_7 (by decide) ?_
    exact hR 1 () _ _ dX6_lackOf_8 rfl (ri (by rw [lakS, if_pos c_4]))
set_option maxHeartbeats 4000000 in
set_option maxRecDepth 100000 in
theorem c_X6_judge {l : Launch} {D : va_G} {k : Nat → ClassId} {g a : Nat → Nat} (σ ν μ : St) (s : Int32) (hRR : RQ σ μ) : Ct l D k g yX6_judge cX6_judge 3 (some .int) 3 63 [.ref (a 0), .int s] (S := St × St) (wX k g a σ ν) (fun uu => wX k g a uu.1 uu.2) (fun vv uu => vv = some (.int ((op_judge s μ).1)) ∧ RQ uu.1 (op_judge s μ).2) := by
  refine Ct.ofI RX6 rfl (by decide +kernel) (Nat.le_of_ble_eq_true rfl) (fun X hC hR => ?_)
  have hT := hRR.1.2.2.1.1; have hI := hRR.1.2.2.1.2
  have hb4 := hI.hb; have hb8 := hI.mb; have hb6 := hI.pb; have hbm := hI.ob0; have hbt := hI.bb; have hbw := hI.wb
  show V X (wX k g a σ ν) [(0, .ref (a 0)), (1, .int s)] [] 0
  refine V.aload_n (pc := 0) 0 hC dX6_judge_0 rfl ?_
  refine V.iload_n (pc := 1) 1 hC dX6_judge_1 rfl ?_
  refine V.callV0 (pc := 2) (as := [.int s]) hC (c_X6_lackOf σ ν μ s hRR) mu_X6_lackOf ml_X6_220 (by decide) ⟨0, 6, TX6, 8, _, rfl, gx_0⟩ rfl (Nat.le_of_ble_eq_true rfl) dX6_judge_2 ?_
  rintro _ _ rfl
  show V X (wX k g a σ ν) [(0, .ref (a 0)), (1, .int s)] [.int (lakS μ s)] 5
  by_cases sA : shtS s
  · by_cases sB : μ 4 (nN s) = 0
    · refine V.eqi (y := 2) (by rw [lakS, if_neg (not_not_intro sA), if_pos sB]) ?_
      refine V.istore_n (pc := 5) [(2, .int 2), (0, .ref (a 0)), (1, .int s)] hC dX6_judge_5 (by decide) rfl ?_
      refine V.iload_n (pc := 6) 0 hC dX6_judge_6 rfl ?_
      refine V.if_eq (pc := 7) 16 hC dX6_judge_7 (by decide) (fun c_7 => ?_) (fun c_7 => ?_)
      · have nc_7 : 2 = 0 := (neq (nl 2) (nl 0) (by omega) (by omega)).mp c_7
        exact absurd c_7 (by decide)
      · have nc_7 : ¬ (2 = 0) := fun z => c_7 ((neq (nl 2) (nl 0) (by omega) (by omega)).mpr z)
        refine V.aload_n (pc := 10) 1 hC dX6_judge_10 rfl ?_
        refine V.iload_n (pc := 11) 0 hC dX6_judge_11 rfl ?_
        refine V.sts (st' := [.int (nI 2), .ref (a 0)]) (stc (nl 2) (stk rfl)) ?_
        refine V.callV0 (pc := 12) (as := [.int (nI 2)]) hC (c_X6_error σ ν 2 (by omega)) mu_X6_error ml_X6_57 (by decide) ⟨0, 6, TX6, 8, _, rfl, gx_0⟩ rfl (Nat.le_of_ble_eq_true rfl) dX6_judge_12 ?_
        rintro _ f12_0 ⟨rfl, hu12_0⟩
        have hu12_0 : f12_0 = upd (σ 0) 2 (σ 0 2 + 1) := hu12_0
        show V X (wX k g a (va_up σ 0 f12_0) ν) [(2, .int 2), (0, .ref (a 0)), (1, .int s)] [.int (lowE 2)] 15
        exact hR (lowE 2) ((va_up σ 0 f12_0), ν) _ _ dX6_judge_15 rfl (ope (by rw [op_judge, if_neg (not_not_intro sA), if_pos sB] <;> rfl) (hRR.er (by omega) hu12_0))
    · refine V.eqi (y := 0) (by rw [lakS, if_neg (not_not_intro sA), if_neg sB]) ?_
      refine V.istore_n (pc := 5) [(2, .int 0), (0, .ref (a 0)), (1, .int s)] hC dX6_judge_5 (by decide) rfl ?_
      refine V.iload_n (pc := 6) 0 hC dX6_judge_6 rfl ?_
      refine V.if_eq (pc := 7) 16 hC dX6_judge_7 (by decide) (fun c_7 => ?_) (fun c_7 => ?_)
      · have nc_7 : 0 = 0 := (neq (nl 0) (nl 0) (by omega) (by omega)).mp c_7
        have hh_s := inS_c sA (nl 3) (by omega)
        have hsh := hRR.1.2.2.2.2.1 (nN s) (by omega)
        have hs24 := hsh.2.2.1.2
        refine V.aload_n (pc := 16) 1 hC dX6_judge_16 rfl ?_
        refine V.get (pc := 17) (v := .ref (a 1)) hC cf_X6 0 0 fl_X6_10 (by decide) gx_0 rfl dX6_judge_17 ?_
        refine V.aload_n (pc := 20) 1 hC dX6_judge_20 rfl ?_
        refine V.get (pc := 21) (v := .ref (a 6)) hC cf_X6 0 5 fl_X6_45 (by decide) gx_0 rfl dX6_judge_21 ?_
        refine V.iload_n (pc := 24) 2 hC dX6_judge_24 rfl ?_
        refine V.aldS (pc := 25) hC 6 (nN s) (a (90 + nN s)) gx_6 hh_s.1 (by omega) (by decide) rfl dX6_judge_25 ?_
        refine V.callV0 (pc := 26) (as := [.ref (a (90 + (nN s)))]) hC (c_X3_rightRooms σ ν (μ 0) (nN s) (nN (μ 5 (nN s))) hT hI (by omega) (hsh.2.1.trans hsh.2.2.1.1) hs24) mu_X3_rightRooms ml_X6_272 (by decide) ⟨1, 3, TX3, 17, _, rfl, gx_1⟩ rfl (Nat.le_of_ble_eq_true rfl) dX6_judge_26 ?_
        rintro _ _ rfl
        show V X (wX k g a σ ν) [(2, .int 0), (0, .ref (a 0)), (1, .int s)] [.int (nI (srch (fun i => decide (¬ σ (98 + (nN s)) i = (μ 0) (33 + 3 * i))) (min (nN (μ 5 (nN s))) (nN ((μ 0) 4))) 0))] 29
        exact hR (nI (srch (fun i => decide (¬ σ (98 + (nN s)) i = (μ 0) (33 + 3 * i))) (min (nN (μ 5 (nN s))) (nN ((μ 0) 4))) 0)) (σ, ν) _ _ dX6_judge_29 rfl (opc (m := μ) (by rw [op_judge, if_neg (not_not_intro sA), if_neg sB]; exact congrArg (fun z => (nI z, μ)) (srch_congr _ _ (fun j h1 h2 => by rw [← hsh.2.2.2 j (by omega)]))) hRR)
      · have nc_7 : ¬ (0 = 0) := fun z => c_7 ((neq (nl 0) (nl 0) (by omega) (by omega)).mpr z)
        exact absurd c_7 (by decide)
  · refine V.eqi (y := 1) (by rw [lakS, if_pos sA]) ?_
    refine V.istore_n (pc := 5) [(2, .int 1), (0, .ref (a 0)), (1, .int s)] hC dX6_judge_5 (by decide) rfl ?_
    refine V.iload_n (pc := 6) 0 hC dX6_judge_6 rfl ?_
    refine V.if_eq (pc := 7) 16 hC dX6_judge_7 (by decide) (fun c_7 => ?_) (fun c_7 => ?_)
    · have nc_7 : 1 = 0 := (neq (nl 1) (nl 0) (by omega) (by omega)).mp c_7
      exact absurd c_7 (by decide)
    · have nc_7 : ¬ (1 = 0) := fun z => c_7 ((neq (nl 1) (nl 0) (by omega) (by omega)).mpr z)
      refine V.aload_n (pc := 10) 1 hC dX6_judge_10 rfl ?_
      refine V.iload_n (pc := 11) 0 hC dX6_judge_11 rfl ?_
      refine V.sts (st' := [.int (nI 1), .ref (a 0)]) (stc (nl 1) (stk rfl)) ?_
      refine V.callV0 (pc := 12) (as := [.int (nI 1)]) hC (c_X6_error σ ν 1 (by omega)) mu_X6_error ml_X6_57 (by decide) ⟨0, 6, TX6, 8, _, rfl, gx_0⟩ rfl (Nat.le_of_ble_eq_true rfl) dX6_judge_12 ?_
      rintro _ f12_0 ⟨rfl, hu12_0⟩
      have hu12_0 : f12_0 = upd (σ 0) 1 (σ 0 1 + 1) := hu12_0
      show V X (wX k g a (va_up σ 0 f12_0) ν) [(2, .int 1), (0, .ref (a 0)), (1, .int s)] [.int (lowE 1)] 15
      exact hR (lowE 1) ((va_up σ 0 f12_0), ν) _ _ dX6_judge_15 rfl (ope (by rw [op_judge, if_pos sA] <;> rfl) (hRR.er (by omega) hu12_0))
set_option maxHeartbeats 4000000 in
set_option maxRecDepth 100000 in
theorem c_X6_offsets {l : Launch} {D : va_G} {k : Nat → ClassId} {g a : Nat → Nat} (σ ν μ : St) (s : Int32) (hRR : RQ σ μ) : Ct l D k g yX6_offsets cX6_offsets 3 (some .int) 3 63 [.ref (a 0), .int s] (S := St × St) (wX k g a σ ν) (fun uu => wX k g a uu.1 uu.2) (fun vv uu => vv = some (.int ((op_offsets s μ).1)) ∧ RQ uu.1 (op_offsets s μ).2) := by
  refine Ct.ofI RX6 rfl (by decide +kernel) (Nat.le_of_ble_eq_true rfl) (fun X hC hR => ?_)
  have hT := hRR.1.2.2.1.1; have hI := hRR.1.2.2.1.2
  have hb4 := hI.hb; have hb8 := hI.mb; have hb6 := hI.pb; have hbm := hI.ob0; have hbt := hI.bb; have hbw := hI.wb
  obtain ⟨gH, gM, gP, gT, gB, gW, g0, g1⟩ := Rx_iff.mp hT
  show V X (wX k g a σ ν) [(0, .ref (a 0)), (1, .int s)] [] 0
  refine V.aload_n (pc := 0) 0 hC dX6_offsets_0 rfl ?_
  refine V.iload_n (pc := 1) 1 hC dX6_offsets_1 rfl ?_
  refine V.callV0 (pc := 2) (as := [.int s]) hC (c_X6_lackOf σ ν μ s hRR) mu_X6_lackOf ml_X6_220 (by decide) ⟨0, 6, TX6, 8, _, rfl, gx_0⟩ rfl (Nat.le_of_ble_eq_true rfl) dX6_offsets_2 ?_
  rintro _ _ rfl
  show V X (wX k g a σ ν) [(0, .ref (a 0)), (1, .int s)] [.int (lakS μ s)] 5
  by_cases sA : shtS s
  · by_cases sB : μ 4 (nN s) = 0
    · refine V.eqi (y := 2) (by rw [lakS, if_neg (not_not_intro sA), if_pos sB]) ?_
      refine V.istore_n (pc := 5) [(2, .int 2), (0, .ref (a 0)), (1, .int s)] hC dX6_offsets_5 (by decide) rfl ?_
      refine V.iload_n (pc := 6) 0 hC dX6_offsets_6 rfl ?_
      refine V.if_eq (pc := 7) 16 hC dX6_offsets_7 (by decide) (fun c_7 => ?_) (fun c_7 => ?_)
      · have nc_7 : 2 = 0 := (neq (nl 2) (nl 0) (by omega) (by omega)).mp c_7
        exact absurd c_7 (by decide)
      · have nc_7 : ¬ (2 = 0) := fun z => c_7 ((neq (nl 2) (nl 0) (by omega) (by omega)).mpr z)
        refine V.aload_n (pc := 10) 1 hC dX6_offsets_10 rfl ?_
        refine V.iload_n (pc := 11) 0 hC dX6_offsets_11 rfl ?_
        refine V.sts (st' := [.int (nI 2), .ref (a 0)]) (stc (nl 2) (stk rfl)) ?_
        refine V.callV0 (pc := 12) (as := [.int (nI 2)]) hC (c_X6_error σ ν 2 (by omega)) mu_X6_error ml_X6_57 (by decide) ⟨0, 6, TX6, 8, _, rfl, gx_0⟩ rfl (Nat.le_of_ble_eq_true rfl) dX6_offsets_12 ?_
        rintro _ f12_0 ⟨rfl, hu12_0⟩
        have hu12_0 : f12_0 = upd (σ 0) 2 (σ 0 2 + 1) := hu12_0
        show V X (wX k g a (va_up σ 0 f12_0) ν) [(2, .int 2), (0, .ref (a 0)), (1, .int s)] [.int (lowE 2)] 15
        exact hR (lowE 2) ((va_up σ 0 f12_0), ν) _ _ dX6_offsets_15 rfl (ope (by rw [op_offsets, if_neg (not_not_intro sA), if_pos sB] <;> rfl) (hRR.er (by omega) hu12_0))
    · refine V.eqi (y := 0) (by rw [lakS, if_neg (not_not_intro sA), if_neg sB]) ?_
      refine V.istore_n (pc := 5) [(2, .int 0), (0, .ref (a 0)), (1, .int s)] hC dX6_offsets_5 (by decide) rfl ?_
      refine V.iload_n (pc := 6) 0 hC dX6_offsets_6 rfl ?_
      refine V.if_eq (pc := 7) 16 hC dX6_offsets_7 (by decide) (fun c_7 => ?_) (fun c_7 => ?_)
      · have nc_7 : 0 = 0 := (neq (nl 0) (nl 0) (by omega) (by omega)).mp c_7
        have hh_s := inS_c sA (nl 3) (by omega)
        have hsh := hRR.1.2.2.2.2.1 (nN s) (by omega)
        have hs24 := hsh.2.2.1.2
        refine V.aload_n (pc := 16) 1 hC dX6_offsets_16 rfl ?_
        refine V.get (pc := 17) (v := .ref (a 1)) hC cf_X6 0 0 fl_X6_10 (by decide) gx_0 rfl dX6_offsets_17 ?_
        refine V.aload_n (pc := 20) 1 hC dX6_offsets_20 rfl ?_
        refine V.get (pc := 21) (v := .ref (a 6)) hC cf_X6 0 5 fl_X6_45 (by decide) gx_0 rfl dX6_offsets_21 ?_
        refine V.iload_n (pc := 24) 2 hC dX6_offsets_24 rfl ?_
        refine V.aldS (pc := 25) hC 6 (nN s) (a (90 + nN s)) gx_6 hh_s.1 (by omega) (by decide) rfl dX6_offsets_25 ?_
        refine V.callV0 (pc := 26) (as := [.ref (a (90 + (nN s)))]) hC (c_X3_takeOffsets σ ν (μ 0) (nN s) (nN (μ 5 (nN s))) hT hI (by omega) (hsh.2.1.trans hsh.2.2.1.1) hs24) mu_X3_takeOffsets ml_X6_268 (by decide) ⟨1, 3, TX3, 17, _, rfl, gx_1⟩ rfl (Nat.le_of_ble_eq_true rfl) dX6_offsets_26 ?_
        rintro _ f26_0 ⟨rfl, hu26_0⟩
        have hu26_0 : XH (σ 10) (σ 11) f26_0 (ofsS (fun i => σ (98 + (nN s)) i) (min (nN (μ 5 (nN s))) (nN ((μ 0) 2))) 0 (μ 0)).2 := hu26_0
        show V X (wX k g a (va_up σ 12 f26_0) ν) [(2, .int 0), (0, .ref (a 0)), (1, .int s)] [.int (nI (ofsS (fun i => σ (98 + (nN s)) i) (min (nN (μ 5 (nN s))) (nN ((μ 0) 2))) 0 (μ 0)).1)] 29
        have hov : ofsS (fun i => σ (98 + nN s) i) (min (nN (μ 5 (nN s))) (nN (μ 0 2))) 0 (μ 0) = ofsV μ s := ofsS_c _ _ _ (fun j h1 h2 => hsh.2.2.2 j (by omega))
        have hoi := ofsS_i (c := fun i => μ 6 (24 * nN s + i)) (min (nN (μ 5 (nN s))) (nN (μ 0 2))) 0 (μ 0) hI (by omega)
        exact hR (nI (ofsS (fun i => σ (98 + (nN s)) i) (min (nN (μ 5 (nN s))) (nN ((μ 0) 2))) 0 (μ 0)).1) ((va_up σ 12 f26_0), ν) _ _ dX6_offsets_29 rfl (opc (m := row μ (ofsV μ s).2) (by rw [op_offsets, if_neg (not_not_intro sA), if_neg sB, ← hov]) (hRR.town (fun j hj => by dsimp only [va_up]; repeat rw [if_neg (by omega)]) (Rx_iff.mpr ⟨by rw [← hov]; exact hu26_0, gM.c (fun j hj => hoi.2 j (by omega)), gP.c (fun j hj => hoi.2 j (by omega)), gT.c (fun j hj => hoi.2 j (by omega)), gB.c hI.bb (fun j hj => hoi.2 j (by omega)), gW.c (fun j hj => hoi.2 j (by omega)), g0.c (hI.lb (by omega)) (fun j hj => hoi.2 j (by omega)), g1.c (hI.lb (by omega)) (fun j hj => hoi.2 j (by omega))⟩) hoi.1 (show BF _ from hRR.2.1)))
      · have nc_7 : ¬ (0 = 0) := fun z => c_7 ((neq (nl 0) (nl 0) (by omega) (by omega)).mpr z)
        exact absurd c_7 (by decide)
  · refine V.eqi (y := 1) (by rw [lakS, if_pos sA]) ?_
    refine V.istore_n (pc := 5) [(2, .int 1), (0, .ref (a 0)), (1, .int s)] hC dX6_offsets_5 (by decide) rfl ?_
    refine V.iload_n (pc := 6) 0 hC dX6_offsets_6 rfl ?_
    refine V.if_eq (pc := 7) 16 hC dX6_offsets_7 (by decide) (fun c_7 => ?_) (fun c_7 => ?_)
    · have nc_7 : 1 = 0 := (neq (nl 1) (nl 0) (by omega) (by omega)).mp c_7
      exact absurd c_7 (by decide)
    · have nc_7 : ¬ (1 = 0) := fun z => c_7 ((neq (nl 1) (nl 0) (by omega) (by omega)).mpr z)
      refine V.aload_n (pc := 10) 1 hC dX6_offsets_10 rfl ?_
      refine V.iload_n (pc := 11) 0 hC dX6_offsets_11 rfl ?_
      refine V.sts (st' := [.int (nI 1), .ref (a 0)]) (stc (nl 1) (stk rfl)) ?_
      refine V.callV0 (pc := 12) (as := [.int (nI 1)]) hC (c_X6_error σ ν 1 (by omega)) mu_X6_error ml_X6_57 (by decide) ⟨0, 6, TX6, 8, _, rfl, gx_0⟩ rfl (Nat.le_of_ble_eq_true rfl) dX6_offsets_12 ?_
      rintro _ f12_0 ⟨rfl, hu12_0⟩
      have hu12_0 : f12_0 = upd (σ 0) 1 (σ 0 1 + 1) := hu12_0
      show V X (wX k g a (va_up σ 0 f12_0) ν) [(2, .int 1), (0, .ref (a 0)), (1, .int s)] [.int (lowE 1)] 15
      exact hR (lowE 1) ((va_up σ 0 f12_0), ν) _ _ dX6_offsets_15 rfl (ope (by rw [op_offsets, if_pos sA] <;> rfl) (hRR.er (by omega) hu12_0))
set_option maxHeartbeats 4000000 in
set_option maxRecDepth 100000 in
theorem c_X6_fits {l : Launch} {D : va_G} {k : Nat → ClassId} {g a : Nat → Nat} (σ ν μ : St) (s : Int32) (hRR : RQ σ μ) : Ct l D k g yX6_fits cX6_fits 5 (some .int) 4 89 [.ref (a 0), .int s] (S := St × St) (wX k g a σ ν) (fun uu => wX k g a uu.1 uu.2) (fun vv uu => vv = some (.int ((op_fits s μ).1)) ∧ RQ uu.1 (op_fits s μ).2) := by
  refine Ct.ofI RX6 rfl (by decide +kernel) (Nat.le_of_ble_eq_true rfl) (fun X hC hR => ?_)
  have hT := hRR.1.2.2.1.1; have hI := hRR.1.2.2.1.2
  have hb4 := hI.hb; have hb8 := hI.mb; have hb6 := hI.pb; have hbm := hI.ob0; have hbt := hI.bb; have hbw := hI.wb
  show V X (wX k g a σ ν) [(0, .ref (a 0)), (1, .int s)] [] 0
  refine V.aload_n (pc := 0) 0 hC dX6_fits_0 rfl ?_
  refine V.iload_n (pc := 1) 1 hC dX6_fits_1 rfl ?_
  refine V.callV0 (pc := 2) (as := [.int s]) hC (c_X6_lackOf σ ν μ s hRR) mu_X6_lackOf ml_X6_220 (by decide) ⟨0, 6, TX6, 8, _, rfl, gx_0⟩ rfl (Nat.le_of_ble_eq_true rfl) dX6_fits_2 ?_
  rintro _ _ rfl
  show V X (wX k g a σ ν) [(0, .ref (a 0)), (1, .int s)] [.int (lakS μ s)] 5
  by_cases sA : shtS s
  · by_cases sB : μ 4 (nN s) = 0
    · refine V.eqi (y := 2) (by rw [lakS, if_neg (not_not_intro sA), if_pos sB]) ?_
      refine V.istore_n (pc := 5) [(2, .int 2), (0, .ref (a 0)), (1, .int s)] hC dX6_fits_5 (by decide) rfl ?_
      refine V.iload_n (pc := 6) 0 hC dX6_fits_6 rfl ?_
      refine V.if_eq (pc := 7) 16 hC dX6_fits_7 (by decide) (fun c_7 => ?_) (fun c_7 => ?_)
      · have nc_7 : 2 = 0 := (neq (nl 2) (nl 0) (by omega) (by omega)).mp c_7
        exact absurd c_7 (by decide)
      · have nc_7 : ¬ (2 = 0) := fun z => c_7 ((neq (nl 2) (nl 0) (by omega) (by omega)).mpr z)
        refine V.aload_n (pc := 10) 1 hC dX6_fits_10 rfl ?_
        refine V.iload_n (pc := 11) 0 hC dX6_fits_11 rfl ?_
        refine V.sts (st' := [.int (nI 2), .ref (a 0)]) (stc (nl 2) (stk rfl)) ?_
        refine V.callV0 (pc := 12) (as := [.int (nI 2)]) hC (c_X6_error σ ν 2 (by omega)) mu_X6_error ml_X6_57 (by decide) ⟨0, 6, TX6, 8, _, rfl, gx_0⟩ rfl (Nat.le_of_ble_eq_true rfl) dX6_fits_12 ?_
        rintro _ f12_0 ⟨rfl, hu12_0⟩
        have hu12_0 : f12_0 = upd (σ 0) 2 (σ 0 2 + 1) := hu12_0
        show V X (wX k g a (va_up σ 0 f12_0) ν) [(2, .int 2), (0, .ref (a 0)), (1, .int s)] [.int (lowE 2)] 15
        exact hR (lowE 2) ((va_up σ 0 f12_0), ν) _ _ dX6_fits_15 rfl (ope (by rw [op_fits, if_neg (not_not_intro sA), if_pos sB] <;> rfl) (hRR.er (by omega) hu12_0))
    · refine V.eqi (y := 0) (by rw [lakS, if_neg (not_not_intro sA), if_neg sB]) ?_
      refine V.istore_n (pc := 5) [(2, .int 0), (0, .ref (a 0)), (1, .int s)] hC dX6_fits_5 (by decide) rfl ?_
      refine V.iload_n (pc := 6) 0 hC dX6_fits_6 rfl ?_
      refine V.if_eq (pc := 7) 16 hC dX6_fits_7 (by decide) (fun c_7 => ?_) (fun c_7 => ?_)
      · have nc_7 : 0 = 0 := (neq (nl 0) (nl 0) (by omega) (by omega)).mp c_7
        have hh_s := inS_c sA (nl 3) (by omega)
        have hsh := hRR.1.2.2.2.2.1 (nN s) (by omega)
        have hs24 := hsh.2.2.1.2
        refine V.iconst (pc := 16) 0 hC dX6_fits_16 (by decide) ?_
        refine V.istore_n (pc := 17) [(3, .int 0), (2, .int 0), (0, .ref (a 0)), (1, .int s)] hC dX6_fits_17 (by decide) rfl ?_
        refine V.iconst (pc := 18) 0 hC dX6_fits_18 (by decide) ?_
        refine V.istore (pc := 19) [(4, .int 0), (3, .int 0), (2, .int 0), (0, .ref (a 0)), (1, .int s)] hC dX6_fits_19 (by decide) rfl ?_
        have loop_21 : ∀ (n : Nat) (i : Nat) (set : Int32), i + n = nN (μ 0 2) → run (fitF μ s) (nN (μ 0 2)) 0 0 = run (fitF μ s) n i set → V X (wX k g a σ ν) [(0, .ref (a 0)), (1, .int s), (3, .int set), (4, .int (nI i))] [] 21 := by
          intro n
          induction n with
          | zero =>
            intro i set hi hv
            refine V.iload (pc := 21) 3 hC dX6_fits_21 rfl ?_
            refine V.aload_n (pc := 23) 0 hC dX6_fits_23 rfl ?_
            refine V.get (pc := 24) (v := .ref (a 1)) hC cf_X6 0 0 fl_X6_10 (by decide) gx_0 rfl dX6_fits_24 ?_
            refine V.get (pc := 27) (v := .int (σ 10 0)) hC cf_X3 1 0 fl_X6_61 (by decide) gx_1 rfl dX6_fits_27 ?_
            refine V.eqi (y := μ 0 2) (hT.1.1) ?_
            refine V.icmp_ge (pc := 30) 64 hC dX6_fits_30 (by decide) (fun c_30 => ?_) (fun c_30 => ?_)
            · have nc_30 : nN (μ 0 2) ≤ i := (nle hI.hn rfl (by omega) (by omega)).mp c_30
              refine V.iload_n (pc := 64) 2 hC dX6_fits_64 rfl ?_
              exact hR set (σ, ν) _ _ dX6_fits_65 rfl (opc (m := μ) (by rw [op_fits, if_neg (not_not_intro sA), if_neg sB, hv] <;> rfl) hRR)
            · have nc_30 : ¬ (nN (μ 0 2) ≤ i) := fun z => c_30 ((nle hI.hn rfl (by omega) (by omega)).mpr z)
              exfalso; omega
          | succ n ih =>
            intro i set hi hv
            refine V.iload (pc := 21) 3 hC dX6_fits_21 rfl ?_
            refine V.aload_n (pc := 23) 0 hC dX6_fits_23 rfl ?_
            refine V.get (pc := 24) (v := .ref (a 1)) hC cf_X6 0 0 fl_X6_10 (by decide) gx_0 rfl dX6_fits_24 ?_
            refine V.get (pc := 27) (v := .int (σ 10 0)) hC cf_X3 1 0 fl_X6_61 (by decide) gx_1 rfl dX6_fits_27 ?_
            refine V.eqi (y := μ 0 2) (hT.1.1) ?_
            refine V.icmp_ge (pc := 30) 64 hC dX6_fits_30 (by decide) (fun c_30 => ?_) (fun c_30 => ?_)
            · have nc_30 : nN (μ 0 2) ≤ i := (nle hI.hn rfl (by omega) (by omega)).mp c_30
              exfalso; omega
            · have nc_30 : ¬ (nN (μ 0 2) ≤ i) := fun z => c_30 ((nle hI.hn rfl (by omega) (by omega)).mpr z)
              refine V.aload_n (pc := 33) 0 hC dX6_fits_33 rfl ?_
              refine V.get (pc := 34) (v := .ref (a 1)) hC cf_X6 0 0 fl_X6_10 (by decide) gx_0 rfl dX6_fits_34 ?_
              refine V.iload (pc := 37) 3 hC dX6_fits_37 rfl ?_
              refine V.aload_n (pc := 39) 0 hC dX6_fits_39 rfl ?_
              refine V.get (pc := 40) (v := .ref (a 6)) hC cf_X6 0 5 fl_X6_45 (by decide) gx_0 rfl dX6_fits_40 ?_
              refine V.iload_n (pc := 43) 1 hC dX6_fits_43 rfl ?_
              refine V.aldS (pc := 44) hC 6 (nN s) (a (90 + nN s)) gx_6 hh_s.1 (by omega) (by decide) rfl dX6_fits_44 ?_
              refine V.callV0 (pc := 45) (as := [.int (nI i), .ref (a (90 + (nN s)))]) hC (c_X3_marksAre σ ν (μ 0) i (nN s) (nN (μ 5 (nN s))) hT hI (by omega) (by omega) (hsh.2.1.trans hsh.2.2.1.1) hs24) mu_X3_marksAre ml_X6_223 (by decide) ⟨1, 3, TX3, 17, _, rfl, gx_1⟩ rfl (Nat.le_of_ble_eq_true rfl) dX6_fits_45 ?_
              rintro _ _ rfl
              show V X (wX k g a σ ν) [(0, .ref (a 0)), (1, .int s), (3, .int set), (4, .int (nI i))] [.int (bI (allF (fun j => decide (σ (98 + (nN s)) j = markS (μ 0) i ((μ 0) 0 + nI j))) (nN (μ 5 (nN s))) 0 = true))] 48
              have hfe : allF (fun j => decide (σ (98 + nN s) j = markS (μ 0) i (μ 0 0 + nI j))) (nN (μ 5 (nN s))) 0 = allF (fun j => decide (μ 6 (24 * nN s + j) = markS (μ 0) i (μ 0 0 + nI j))) (nN (μ 5 (nN s))) 0 := allF_c _ _ (fun j h1 h2 => by rw [hsh.2.2.2 j (by omega)])
              refine V.if_eq_b (P := allF (fun j => decide (σ (98 + (nN s)) j = markS (μ 0) i ((μ 0) 0 + nI j))) (nN (μ 5 (nN s))) 0 = true) (pc := 48) 58 hC dX6_fits_48 (by decide) (fun c_48 => ?_) (fun c_48 => ?_)
              · refine V.iinc (pc := 58) 3 (nI (i + 1)) [(4, .int (nI (i + 1))), (0, .ref (a 0)), (1, .int s), (3, .int set)] hC dX6_fits_58 rfl (ncast (nadd rfl (nl 1)) (by omega)) (by decide) rfl ?_
                refine V.goto (pc := 61) 21 hC dX6_fits_61 (by decide) ?_
                exact V.sub [1, 2, 3, 0] rfl (ih (i + 1) set (by omega) (run_next hv (by show set ||| (if allF (fun j => decide (μ 6 (24 * nN s + j) = markS (μ 0) i (μ 0 0 + nI j))) (nN (μ 5 (nN s))) 0 = true then b1 (nI i) else 0) = _; rw [if_neg (fun z => c_48 (hfe.trans z)), or_self_0] <;> rfl)))
              · refine V.iload_n (pc := 51) 2 hC dX6_fits_51 rfl ?_
                refine V.iconst (pc := 52) 1 hC dX6_fits_52 (by decide) ?_
                refine V.iload (pc := 53) 3 hC dX6_fits_53 rfl ?_
                refine V.ishl (pc := 55) hC dX6_fits_55 ?_
                refine V.ior (pc := 56) hC dX6_fits_56 ?_
                refine V.istore_n (pc := 57) [(3, .int (set ||| (1 <<< ((nI i) &&& 31)))), (0, .ref (a 0)), (1, .int s), (4, .int (nI i))] hC dX6_fits_57 (by decide) rfl ?_
                refine V.iinc (pc := 58) 3 (nI (i + 1)) [(4, .int (nI (i + 1))), (3, .int (set ||| (1 <<< ((nI i) &&& 31)))), (0, .ref (a 0)), (1, .int s)] hC dX6_fits_58 rfl (ncast (nadd rfl (nl 1)) (by omega)) (by decide) rfl ?_
                refine V.goto (pc := 61) 21 hC dX6_fits_61 (by decide) ?_
                exact V.sub [2, 3, 1, 0] rfl (ih (i + 1) (set ||| (1 <<< ((nI i) &&& 31))) (by omega) (run_next hv (by show set ||| (if allF (fun j => decide (μ 6 (24 * nN s + j) = markS (μ 0) i (μ 0 0 + nI j))) (nN (μ 5 (nN s))) 0 = true then b1 (nI i) else 0) = _; rw [if_pos (hfe.symm.trans c_48)] <;> rfl)))
        exact V.sub [3, 4, 1, 0] rfl (loop_21 (nN (μ 0 2)) 0 0 (by omega) rfl)
      · have nc_7 : ¬ (0 = 0) := fun z => c_7 ((neq (nl 0) (nl 0) (by omega) (by omega)).mpr z)
        exact absurd c_7 (by decide)
  · refine V.eqi (y := 1) (by rw [lakS, if_pos sA]) ?_
    refine V.istore_n (pc := 5) [(2, .int 1), (0, .ref (a 0)), (1, .int s)] hC dX6_fits_5 (by decide) rfl ?_
    refine V.iload_n (pc := 6) 0 hC dX6_fits_6 rfl ?_
    refine V.if_eq (pc := 7) 16 hC dX6_fits_7 (by decide) (fun c_7 => ?_) (fun c_7 => ?_)
    · have nc_7 : 1 = 0 := (neq (nl 1) (nl 0) (by omega) (by omega)).mp c_7
      exact absurd c_7 (by decide)
    · have nc_7 : ¬ (1 = 0) := fun z => c_7 ((neq (nl 1) (nl 0) (by omega) (by omega)).mpr z)
      refine V.aload_n (pc := 10) 1 hC dX6_fits_10 rfl ?_
      refine V.iload_n (pc := 11) 0 hC dX6_fits_11 rfl ?_
      refine V.sts (st' := [.int (nI 1), .ref (a 0)]) (stc (nl 1) (stk rfl)) ?_
      refine V.callV0 (pc := 12) (as := [.int (nI 1)]) hC (c_X6_error σ ν 1 (by omega)) mu_X6_error ml_X6_57 (by decide) ⟨0, 6, TX6, 8, _, rfl, gx_0⟩ rfl (Nat.le_of_ble_eq_true rfl) dX6_fits_12 ?_
      rintro _ f12_0 ⟨rfl, hu12_0⟩
      have hu12_0 : f12_0 = upd (σ 0) 1 (σ 0 1 + 1) := hu12_0
      show V X (wX k g a (va_up σ 0 f12_0) ν) [(2, .int 1), (0, .ref (a 0)), (1, .int s)] [.int (lowE 1)] 15
      exact hR (lowE 1) ((va_up σ 0 f12_0), ν) _ _ dX6_fits_15 rfl (ope (by rw [op_fits, if_pos sA] <;> rfl) (hRR.er (by omega) hu12_0))
theorem hold_1 {i x : Int32} {n : Nat} (hx : x = nI n) (hn : n ≤ 24) : (0 ≤ i ∧ 0 ≤ (1 : Int32) ∧ i ≤ x - 1) ↔ inS i 0 (x - 1) := ⟨fun h => ⟨h.1, h.2.2⟩, fun h => ⟨h.1, by decide, h.2⟩⟩

set_option maxHeartbeats 4000000 in
set_option maxRecDepth 100000 in
theorem c_X6_put {l : Launch} {D : va_G} {k : Nat → ClassId} {g a : Nat → Nat} (σ ν μ : St) (s i v : Int32) (hRR : RQ σ μ) : Ct l D k g yX6_put cX6_put 5 (some .int) 3 63 [.ref (a 0), .int s, .int i, .int v] (S := St × St) (wX k g a σ ν) (fun uu => wX k g a uu.1 uu.2) (fun vv uu => vv = some (.int ((op_put s i v μ).1)) ∧ RQ uu.1 (op_put s i v μ).2) := by
  refine Ct.ofI RX6 rfl (by decide +kernel) (Nat.le_of_ble_eq_true rfl) (fun X hC hR => ?_)
  have hT := hRR.1.2.2.1.1; have hI := hRR.1.2.2.1.2
  have hb4 := hI.hb; have hb8 := hI.mb; have hb6 := hI.pb; have hbm := hI.ob0; have hbt := hI.bb; have hbw := hI.wb
  show V X (wX k g a σ ν) [(0, .ref (a 0)), (1, .int s), (2, .int i), (3, .int v)] [] 0
  refine V.aload_n (pc := 0) 0 hC dX6_put_0 rfl ?_
  refine V.iload_n (pc := 1) 1 hC dX6_put_1 rfl ?_
  refine V.callV0 (pc := 2) (as := [.int s]) hC (c_X6_lackOf σ ν μ s hRR) mu_X6_lackOf ml_X6_220 (by decide) ⟨0, 6, TX6, 8, _, rfl, gx_0⟩ rfl (Nat.le_of_ble_eq_true rfl) dX6_put_2 ?_
  rintro _ _ rfl
  show V X (wX k g a σ ν) [(0, .ref (a 0)), (1, .int s), (2, .int i), (3, .int v)] [.int (lakS μ s)] 5
  by_cases sA : shtS s
  · by_cases sB : μ 4 (nN s) = 0
    · refine V.eqi (y := 2) (by rw [lakS, if_neg (not_not_intro sA), if_pos sB]) ?_
      refine V.istore (pc := 5) [(4, .int 2), (0, .ref (a 0)), (1, .int s), (2, .int i), (3, .int v)] hC dX6_put_5 (by decide) rfl ?_
      refine V.iload (pc := 7) 0 hC dX6_put_7 rfl ?_
      refine V.if_eq (pc := 9) 19 hC dX6_put_9 (by decide) (fun c_9 => ?_) (fun c_9 => ?_)
      · have nc_9 : 2 = 0 := (neq (nl 2) (nl 0) (by omega) (by omega)).mp c_9
        exact absurd c_9 (by decide)
      · have nc_9 : ¬ (2 = 0) := fun z => c_9 ((neq (nl 2) (nl 0) (by omega) (by omega)).mpr z)
        refine V.aload_n (pc := 12) 1 hC dX6_put_12 rfl ?_
        refine V.iload (pc := 13) 0 hC dX6_put_13 rfl ?_
        refine V.sts (st' := [.int (nI 2), .ref (a 0)]) (stc (nl 2) (stk rfl)) ?_
        refine V.callV0 (pc := 15) (as := [.int (nI 2)]) hC (c_X6_error σ ν 2 (by omega)) mu_X6_error ml_X6_57 (by decide) ⟨0, 6, TX6, 8, _, rfl, gx_0⟩ rfl (Nat.le_of_ble_eq_true rfl) dX6_put_15 ?_
        rintro _ f15_0 ⟨rfl, hu15_0⟩
        have hu15_0 : f15_0 = upd (σ 0) 2 (σ 0 2 + 1) := hu15_0
        show V X (wX k g a (va_up σ 0 f15_0) ν) [(4, .int 2), (0, .ref (a 0)), (1, .int s), (2, .int i), (3, .int v)] [.int (lowE 2)] 18
        exact hR (lowE 2) ((va_up σ 0 f15_0), ν) _ _ dX6_put_18 rfl (ope (by rw [op_put, if_neg (not_not_intro sA), if_pos sB] <;> rfl) (hRR.er (by omega) hu15_0))
    · refine V.eqi (y := 0) (by rw [lakS, if_neg (not_not_intro sA), if_neg sB]) ?_
      refine V.istore (pc := 5) [(4, .int 0), (0, .ref (a 0)), (1, .int s), (2, .int i), (3, .int v)] hC dX6_put_5 (by decide) rfl ?_
      refine V.iload (pc := 7) 0 hC dX6_put_7 rfl ?_
      refine V.if_eq (pc := 9) 19 hC dX6_put_9 (by decide) (fun c_9 => ?_) (fun c_9 => ?_)
      · have nc_9 : 0 = 0 := (neq (nl 0) (nl 0) (by omega) (by omega)).mp c_9
        have hh_s := inS_c sA (nl 3) (by omega)
        have hsh := hRR.1.2.2.2.2.1 (nN s) (by omega)
        have hs24 := hsh.2.2.1.2
        have hhd : (0 ≤ i ∧ 0 ≤ (1 : Int32) ∧ i ≤ σ (94 + nN s) 0 - 1) ↔ inS i 0 (μ 5 (nN s) - 1) := by rw [hsh.2.1]; exact hold_1 hsh.2.2.1.1 hs24
        refine V.aload_n (pc := 19) 1 hC dX6_put_19 rfl ?_
        refine V.get (pc := 20) (v := .ref (a 6)) hC cf_X6 0 5 fl_X6_45 (by decide) gx_0 rfl dX6_put_20 ?_
        refine V.iload_n (pc := 23) 2 hC dX6_put_23 rfl ?_
        refine V.aldS (pc := 24) hC 6 (nN s) (a (90 + nN s)) gx_6 hh_s.1 (by omega) (by decide) rfl dX6_put_24 ?_
        refine V.iload_n (pc := 25) 3 hC dX6_put_25 rfl ?_
        refine V.iconst (pc := 26) 1 hC dX6_put_26 (by decide) ?_
        refine V.callV0 (pc := 27) (as := [.int i, .int 1]) hC (c_X2_holds σ ν (nN s) i 1 (by omega)) mu_X2_holds ml_X6_247 (by decide) ⟨(47 + (nN s)), 2, TX2, 3, _, rfl, (gx_sho (nN s) (by omega))⟩ rfl (Nat.le_of_ble_eq_true rfl) dX6_put_27 ?_
        rintro _ _ rfl
        show V X (wX k g a σ ν) [(4, .int 0), (0, .ref (a 0)), (1, .int s), (2, .int i), (3, .int v)] [.int (bI (0 ≤ i ∧ 0 ≤ 1 ∧ i ≤ σ (94 + (nN s)) 0 - 1))] 30
        refine V.if_ne_b (P := 0 ≤ i ∧ 0 ≤ 1 ∧ i ≤ σ (94 + (nN s)) 0 - 1) (pc := 30) 39 hC dX6_put_30 (by decide) (fun c_30 => ?_) (fun c_30 => ?_)
        · have hin := hhd.mp c_30
          have hh_i := inS_n hin hsh.2.2.1.1 (by omega)
          refine V.aload_n (pc := 39) 1 hC dX6_put_39 rfl ?_
          refine V.get (pc := 40) (v := .ref (a 6)) hC cf_X6 0 5 fl_X6_45 (by decide) gx_0 rfl dX6_put_40 ?_
          refine V.iload_n (pc := 43) 2 hC dX6_put_43 rfl ?_
          refine V.aldS (pc := 44) hC 6 (nN s) (a (90 + nN s)) gx_6 hh_s.1 (by omega) (by decide) rfl dX6_put_44 ?_
          refine V.iload_n (pc := 45) 3 hC dX6_put_45 rfl ?_
          refine V.iload_n (pc := 46) 4 hC dX6_put_46 rfl ?_
          refine V.sts (st' := [.int v, .int (nI (nN i)), .ref (a (90 + nN s))]) (stk (stc hh_i.1 (stk rfl))) ?_
          refine V.callV0 (pc := 47) (as := [.int (nI (nN i)), .int v]) hC (c_X2_write σ ν (nN s) (nN i) v (by omega) (by omega)) mu_X2_write ml_X6_250 (by decide) ⟨(47 + (nN s)), 2, TX2, 3, _, rfl, (gx_sho (nN s) (by omega))⟩ rfl (Nat.le_of_ble_eq_true rfl) dX6_put_47 ?_
          rintro _ f47_0 ⟨rfl, hu47_0⟩
          have hu47_0 : f47_0 = upd (σ (98 + (nN s))) (nN i) (cstS (σ (90 + (nN s)) 0) v) := hu47_0
          show V X (wX k g a (va_up σ (98 + (nN s)) f47_0) ν) [(4, .int 0), (0, .ref (a 0)), (1, .int s), (2, .int i), (3, .int v)] [] 50
          refine V.iconst (pc := 50) 1 hC dX6_put_50 (by decide) ?_
          exact hR 1 ((va_up σ (98 + (nN s)) f47_0), ν) _ _ dX6_put_51 rfl (opc (m := va_up μ 6 (upd (μ 6) (24 * nN s + nN i) (cstS (μ 4 (nN s)) v))) (by rw [op_put, if_neg (not_not_intro sA), if_neg sB, if_neg (not_not_intro hin)])
        (hRR.sheet (s := nN s) (by omega) (fun j h1 h2 h3 => va_up_ne _ _ h3) (fun j h1 h2 h3 => va_up_ne _ _ h3) (fun q _ => rfl) (fun q _ => rfl) (fun q hq => upd_ne (by omega)) ⟨(congrFun (va_up_ne _ _ (by omega)) 0).trans hsh.1, (congrFun (va_up_ne _ _ (by omega)) 0).trans hsh.2.1, hsh.2.2.1, fun j hj => by
          rw [hu47_0, hsh.1]
          show va_up σ (98 + nN s) (upd (σ (98 + nN s)) (nN i) (cstS (μ 4 (nN s)) v)) (98 + nN s) j = upd (μ 6) (24 * nN s + nN i) (cstS (μ 4 (nN s)) v) (24 * nN s + j)
          rw [va_up_self]
          by_cases e : j = nN i
          · rw [e, upd_eq, upd_eq]
          · rw [upd_ne e, upd_ne (by omega)]; exact hsh.2.2.2 j hj⟩))
        · refine V.aload_n (pc := 33) 1 hC dX6_put_33 rfl ?_
          refine V.iconst (pc := 34) 1 hC dX6_put_34 (by decide) ?_
          refine V.sts (st' := [.int (nI 1), .ref (a 0)]) (stc (nl 1) (stk rfl)) ?_
          refine V.callV0 (pc := 35) (as := [.int (nI 1)]) hC (c_X6_error σ ν 1 (by omega)) mu_X6_error ml_X6_57 (by decide) ⟨0, 6, TX6, 8, _, rfl, gx_0⟩ rfl (Nat.le_of_ble_eq_true rfl) dX6_put_35 ?_
          rintro _ f35_0 ⟨rfl, hu35_0⟩
          have hu35_0 : f35_0 = upd (σ 0) 1 (σ 0 1 + 1) := hu35_0
          show V X (wX k g a (va_up σ 0 f35_0) ν) [(4, .int 0), (0, .ref (a 0)), (1, .int s), (2, .int i), (3, .int v)] [.int (lowE 1)] 38
          exact hR (lowE 1) ((va_up σ 0 f35_0), ν) _ _ dX6_put_38 rfl (ope (by rw [op_put, if_neg (not_not_intro sA), if_neg sB, if_pos (fun z => c_30 (hhd.mpr z))] <;> rfl) (hRR.er (by omega) hu35_0))
      · have nc_9 : ¬ (0 = 0) := fun z => c_9 ((neq (nl 0) (nl 0) (by omega) (by omega)).mpr z)
        exact absurd c_9 (by decide)
  · refine V.eqi (y := 1) (by rw [lakS, if_pos sA]) ?_
    refine V.istore (pc := 5) [(4, .int 1), (0, .ref (a 0)), (1, .int s), (2, .int i), (3, .int v)] hC dX6_put_5 (by decide) rfl ?_
    refine V.iload (pc := 7) 0 hC dX6_put_7 rfl ?_
    refine V.if_eq (pc := 9) 19 hC dX6_put_9 (by decide) (fun c_9 => ?_) (fun c_9 => ?_)
    · have nc_9 : 1 = 0 := (neq (nl 1) (nl 0) (by omega) (by omega)).mp c_9
      exact absurd c_9 (by decide)
    · have nc_9 : ¬ (1 = 0) := fun z => c_9 ((neq (nl 1) (nl 0) (by omega) (by omega)).mpr z)
      refine V.aload_n (pc := 12) 1 hC dX6_put_12 rfl ?_
      refine V.iload (pc := 13) 0 hC dX6_put_13 rfl ?_
      refine V.sts (st' := [.int (nI 1), .ref (a 0)]) (stc (nl 1) (stk rfl)) ?_
      refine V.callV0 (pc := 15) (as := [.int (nI 1)]) hC (c_X6_error σ ν 1 (by omega)) mu_X6_error ml_X6_57 (by decide) ⟨0, 6, TX6, 8, _, rfl, gx_0⟩ rfl (Nat.le_of_ble_eq_true rfl) dX6_put_15 ?_
      rintro _ f15_0 ⟨rfl, hu15_0⟩
      have hu15_0 : f15_0 = upd (σ 0) 1 (σ 0 1 + 1) := hu15_0
      show V X (wX k g a (va_up σ 0 f15_0) ν) [(4, .int 1), (0, .ref (a 0)), (1, .int s), (2, .int i), (3, .int v)] [.int (lowE 1)] 18
      exact hR (lowE 1) ((va_up σ 0 f15_0), ν) _ _ dX6_put_18 rfl (ope (by rw [op_put, if_pos sA] <;> rfl) (hRR.er (by omega) hu15_0))
