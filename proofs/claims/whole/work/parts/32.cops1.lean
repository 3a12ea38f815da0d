theorem RT_c {σ σ' : St} {ρ : Rw} (h : RT σ ρ) (e : ∀ j, 10 ≤ j → j < 31 → σ' j = σ j) : RT σ' ρ := by
  show Rx (σ' 10) (σ' 11) (σ' 12) (σ' 13) (σ' 14) (σ' 15) (σ' 16) (σ' 17) (σ' 18) (σ' 19) (σ' 20) (σ' 21) (σ' 22) (σ' 23) (σ' 24) (σ' 25) (σ' 27) (σ' 28) (σ' 29) (σ' 30) ρ
  rw [e 10 (by omega) (by omega), e 11 (by omega) (by omega), e 12 (by omega) (by omega), e 13 (by omega) (by omega), e 14 (by omega) (by omega), e 15 (by omega) (by omega), e 16 (by omega) (by omega), e 17 (by omega) (by omega), e 18 (by omega) (by omega), e 19 (by omega) (by omega), e 20 (by omega) (by omega), e 21 (by omega) (by omega), e 22 (by omega) (by omega), e 23 (by omega) (by omega), e 24 (by omega) (by omega), e 25 (by omega) (by omega), e 27 (by omega) (by omega), e 28 (by omega) (by omega), e 29 (by omega) (by omega), e 30 (by omega) (by omega)]
  exact h
theorem RK_c {σ σ' : St} {ρ : Rw} (h : RK σ ρ) (e : ∀ j, 40 ≤ j → j < 61 → σ' j = σ j) : RK σ' ρ := by
  show Rx (σ' 40) (σ' 41) (σ' 42) (σ' 43) (σ' 44) (σ' 45) (σ' 46) (σ' 47) (σ' 48) (σ' 49) (σ' 50) (σ' 51) (σ' 52) (σ' 53) (σ' 54) (σ' 55) (σ' 57) (σ' 58) (σ' 59) (σ' 60) ρ
  rw [e 40 (by omega) (by omega), e 41 (by omega) (by omega), e 42 (by omega) (by omega), e 43 (by omega) (by omega), e 44 (by omega) (by omega), e 45 (by omega) (by omega), e 46 (by omega) (by omega), e 47 (by omega) (by omega), e 48 (by omega) (by omega), e 49 (by omega) (by omega), e 50 (by omega) (by omega), e 51 (by omega) (by omega), e 52 (by omega) (by omega), e 53 (by omega) (by omega), e 54 (by omega) (by omega), e 55 (by omega) (by omega), e 57 (by omega) (by omega), e 58 (by omega) (by omega), e 59 (by omega) (by omega), e 60 (by omega) (by omega)]
  exact h
/-- the class's state σ stands for the reference's μ, its tapes being bytes -/
def RQ (σ μ : St) : Prop := RR σ μ ∧ BF (σ 23) ∧ BF (σ 53)
theorem RQ.mk' {σ σ' μ μ' : St} (h : RQ σ μ) (h0 : ∀ e, e < 7 → σ' 0 e = μ' 3 e) (h1 : σ' 1 0 = μ' 2 0) (h2 : RT σ' (μ' 0) ∧ Inv (μ' 0)) (h3 : ¬ μ' 2 0 = 0 → RK σ' (μ' 1) ∧ Inv (μ' 1)) (h4 : ∀ s, s < 4 → σ' (90 + s) 0 = μ' 4 s ∧ σ' (94 + s) 0 = μ' 5 s ∧ isN (μ' 5 s) 24 ∧ ∀ i, i < nN (μ' 5 s) → σ' (98 + s) i = μ' 6 (24 * s + i)) (h5 : σ' 81 0 = μ' 18 0 ∧ isN (μ' 18 0) 30 ∧ ∀ i, i < nN (μ' 18 0) → σ' 80 i = μ' 17 i) (h6 : BF (σ' 23)) (h7 : BF (σ' 53)) : RQ σ' μ' := ⟨⟨h0, h1, h2, h3, h4, h5⟩, h6, h7⟩
theorem RQ.town {σ σ' μ : St} {ρ' : Rw} (h : RQ σ μ) (e : ∀ j, (j < 10 ∨ 31 ≤ j) → σ' j = σ j) (hT : RT σ' ρ') (hI : Inv ρ') (hb : BF (σ' 23)) : RQ σ' (row μ ρ') := by
  refine ⟨⟨fun q hq => ?_, ?_, ⟨hT, hI⟩, fun z => ⟨RK_c (h.1.2.2.2.1 z).1 (fun j a b => e j (by omega)), (h.1.2.2.2.1 z).2⟩, fun s hs => ?_, ?_⟩, hb, ?_⟩
  · rw [e 0 (by omega)]; exact h.1.1 q hq
  · rw [e 1 (by omega)]; exact h.1.2.1
  · rw [e (90 + s) (by omega), e (94 + s) (by omega), e (98 + s) (by omega)]; exact h.1.2.2.2.2.1 s hs
  · rw [e 81 (by omega), e 80 (by omega)]; exact h.1.2.2.2.2.2
  · rw [e 53 (by omega)]; exact h.2.2
theorem RQ.er {σ μ : St} (h : RQ σ μ) {q : Nat} (hq : q < 7) {f : Rw} (hf : f = upd (σ 0) q (σ 0 q + 1)) : RQ (va_up σ 0 f) (er q μ).2 := by
  have e : ∀ j, j ≠ 0 → va_up σ 0 f j = σ j := fun j hj => va_up_ne _ _ hj
  refine ⟨⟨fun i hi => ?_, ?_, ⟨RT_c h.1.2.2.1.1 (fun j a b => e j (by omega)), h.1.2.2.1.2⟩, fun z => ⟨RK_c (h.1.2.2.2.1 z).1 (fun j a b => e j (by omega)), (h.1.2.2.2.1 z).2⟩, fun s hs => ?_, ?_⟩, ?_, ?_⟩
  · show f i = upd (μ 3) q (μ 3 q + 1) i
    rw [hf, h.1.1 q hq]
    by_cases z : i = q
    · rw [z, upd_eq, upd_eq]
    · rw [upd_ne z, upd_ne z]; exact h.1.1 i hi
  · rw [e 1 (by omega)]; exact h.1.2.1
  · rw [e (90 + s) (by omega), e (94 + s) (by omega), e (98 + s) (by omega)]; exact h.1.2.2.2.2.1 s hs
  · rw [e 81 (by omega), e 80 (by omega)]; exact h.1.2.2.2.2.2
  · rw [e 23 (by omega)]; exact h.2.1
  · rw [e 53 (by omega)]; exact h.2.2
theorem opc {x : Int32 × St} {r : Int32} {m σ' : St} (h : x = (r, m)) (hr : RQ σ' m) : some (Value.int r) = some (Value.int x.1) ∧ RQ σ' x.2 := by rw [h]; exact ⟨rfl, hr⟩
theorem ope {x : Int32 × St} {q : Nat} {μ σ' : St} (h : x = er q μ) (hr : RQ σ' (er q μ).2) : some (Value.int (lowE q)) = some (Value.int x.1) ∧ RQ σ' x.2 := by rw [h]; exact ⟨rfl, hr⟩

set_option maxHeartbeats 4000000 in
set_option maxRecDepth 100000 in
theorem c_X6_error {l : Launch} {D : va_G} {k : Nat → ClassId} {g a : Nat → Nat} (σ ν : St) (e : Nat) (he : e < 7) : Ct l D k g yX6_error cX6_error 2 (some .int) 0 0 [.ref (a 0), .int (nI e)] (S := Rw) (wX k g a σ ν) (fun uu => wX k g a (va_up σ 0 uu) ν) (fun vv uu => vv = some (.int (lowE e)) ∧ uu = upd (σ 0) e (σ 0 e + 1)) := by
  refine Ct.ofI RX6 rfl (by decide +kernel) (Nat.le_of_ble_eq_true rfl) (fun X hC hR => ?_)
  show V X (wX k g a σ ν) [(0, .ref (a 0)), (1, .int (nI e))] [] 0
  refine V.aload_n (pc := 0) 0 hC dX6_error_0 rfl ?_
  refine V.get (pc := 1) (v := .ref (a 7)) hC cf_X6 0 6 fl_X6_49 (by decide) gx_0 rfl dX6_error_1 ?_
  refine V.iload_n (pc := 4) 1 hC dX6_error_4 rfl ?_
  refine V.dup2 (pc := 5) hC dX6_error_5 rfl rfl ?_
  refine V.iald (pc := 6) (f := σ 0) hC 7 e gx_7 rfl (by omega) (by decide) dX6_error_6 ?_
  refine V.iconst (pc := 7) 1 hC dX6_error_7 (by decide) ?_
  refine V.iadd (pc := 8) hC dX6_error_8 ?_
  refine V.iast (pc := 9) (f := σ 0) hC 7 e (wX k g a (va_up σ 0 (upd (σ 0) e ((σ 0 e) + 1))) ν) gx_7 rfl (by omega) (by decide) rfl dX6_error_9 ?_
  refine V.ldcw (pc := 10) (v := (-1000000000)) hC cn_X6_290 dX6_error_10 ?_
  refine V.iload_n (pc := 13) 1 hC dX6_error_13 rfl ?_
  refine V.isub (pc := 14) hC dX6_error_14 ?_
  exact hR ((-1000000000) - (nI e)) (upd (σ 0) e ((σ 0 e) + 1)) _ _ dX6_error_15 rfl ⟨rfl, rfl⟩
set_option maxHeartbeats 4000000 in
set_option maxRecDepth 100000 in
theorem c_X6_handIs {l : Launch} {D : va_G} {k : Nat → ClassId} {g a : Nat → Nat} (σ ν μ : St) (h w : Int32) (hRR : RQ σ μ) : Ct l D k g yX6_handIs cX6_handIs 3 (some .int) 3 66 [.ref (a 0), .int h, .int w] (S := St × St) (wX k g a σ ν) (fun uu => wX k g a uu.1 uu.2) (fun vv uu => vv = some (.int ((op_handIs h w μ).1)) ∧ RQ uu.1 (op_handIs h w μ).2) := by
  refine Ct.ofI RX6 rfl (by decide +kernel) (Nat.le_of_ble_eq_true rfl) (fun X hC hR => ?_)
  have hT := hRR.1.2.2.1.1; have hI := hRR.1.2.2.1.2
  have hb4 := hI.hb; have hb8 := hI.mb; have hb6 := hI.pb; have hbm := hI.ob0; have hbt := hI.bb; have hbw := hI.wb
  show V X (wX k g a σ ν) [(0, .ref (a 0)), (1, .int h), (2, .int w)] [] 0
  refine V.aload_n (pc := 0) 0 hC dX6_handIs_0 rfl ?_
  refine V.get (pc := 1) (v := .ref (a 1)) hC cf_X6 0 0 fl_X6_10 (by decide) gx_0 rfl dX6_handIs_1 ?_
  refine V.iload_n (pc := 4) 1 hC dX6_handIs_4 rfl ?_
  refine V.callV0 (pc := 5) (as := [.int h]) hC (c_X3_hasHand σ ν (μ 0) h hT hI) mu_X3_hasHand ml_X6_69 (by decide) ⟨1, 3, TX3, 17, _, rfl, gx_1⟩ rfl (Nat.le_of_ble_eq_true rfl) dX6_handIs_5 ?_
  rintro _ _ rfl
  show V X (wX k g a σ ν) [(0, .ref (a 0)), (1, .int h), (2, .int w)] [.int (bI (inS h 0 ((μ 0) 2 - 1)))] 8
  refine V.if_ne_b (P := inS h 0 ((μ 0) 2 - 1)) (pc := 8) 17 hC dX6_handIs_8 (by decide) (fun c_8 => ?_) (fun c_8 => ?_)
  · have hh_h := inS_n c_8 hI.hn (by omega)
    refine V.iload_n (pc := 17) 2 hC dX6_handIs_17 rfl ?_
    by_cases s_18_0 : w = 0
    · refine V.tableIn (pc := 18) 48 hC dX6_handIs_18 (by rw [s_18_0]; decide) (by rw [s_18_0]; decide) (by rw [s_18_0]; rfl) (by decide) ?_
      refine V.aload_n (pc := 48) 0 hC dX6_handIs_48 rfl ?_
      refine V.get (pc := 49) (v := .ref (a 1)) hC cf_X6 0 0 fl_X6_10 (by decide) gx_0 rfl dX6_handIs_49 ?_
      refine V.get (pc := 52) (v := .ref (a 11)) hC cf_X3 1 1 fl_X6_73 (by decide) gx_1 rfl dX6_handIs_52 ?_
      refine V.iload_n (pc := 55) 1 hC dX6_handIs_55 rfl ?_
      refine V.iald (pc := 56) (f := σ 11) hC 8 (nN h) gx_8 hh_h.1 (by omega) (by decide) dX6_handIs_56 ?_
      refine V.eqi (y := μ 0 (7 + 2 * (nN h))) (hT.1.2.1 (nN h) (by omega)) ?_
      exact hR (μ 0 (7 + 2 * (nN h))) (σ, ν) _ _ dX6_handIs_57 rfl (opc (m := μ) (by rw [op_handIs, if_neg (not_not_intro c_8), if_neg (not_not_intro (show inS w 0 3 from by rw [s_18_0]; exact ⟨by decide, by decide⟩)), if_pos s_18_0] <;> rfl) hRR)
    by_cases s_18_1 : w = 1
    · refine V.tableIn (pc := 18) 58 hC dX6_handIs_18 (by rw [s_18_1]; decide) (by rw [s_18_1]; decide) (by rw [s_18_1]; rfl) (by decide) ?_
      refine V.aload_n (pc := 58) 0 hC dX6_handIs_58 rfl ?_
      refine V.get (pc := 59) (v := .ref (a 1)) hC cf_X6 0 0 fl_X6_10 (by decide) gx_0 rfl dX6_handIs_59 ?_
      refine V.get (pc := 62) (v := .ref (a 12)) hC cf_X3 1 2 fl_X6_76 (by decide) gx_1 rfl dX6_handIs_62 ?_
      refine V.iload_n (pc := 65) 1 hC dX6_handIs_65 rfl ?_
      refine V.iald (pc := 66) (f := σ 12) hC 9 (nN h) gx_9 hh_h.1 (by omega) (by decide) dX6_handIs_66 ?_
      refine V.eqi (y := μ 0 (8 + 2 * (nN h))) (hT.1.2.2 (nN h) (by omega)) ?_
      exact hR (μ 0 (8 + 2 * (nN h))) (σ, ν) _ _ dX6_handIs_67 rfl (opc (m := μ) (by rw [op_handIs, if_neg (not_not_intro c_8), if_neg (not_not_intro (show inS w 0 3 from by rw [s_18_1]; exact ⟨by decide, by decide⟩)), if_neg (show ¬ w = 0 from by rw [s_18_1]; decide), if_pos s_18_1] <;> rfl) hRR)
    by_cases s_18_2 : w = 2
    · refine V.tableIn (pc := 18) 68 hC dX6_handIs_18 (by rw [s_18_2]; decide) (by rw [s_18_2]; decide) (by rw [s_18_2]; rfl) (by decide) ?_
      refine V.aload_n (pc := 68) 0 hC dX6_handIs_68 rfl ?_
      refine V.get (pc := 69) (v := .ref (a 1)) hC cf_X6 0 0 fl_X6_10 (by decide) gx_0 rfl dX6_handIs_69 ?_
      refine V.iload_n (pc := 72) 1 hC dX6_handIs_72 rfl ?_
      refine V.aload_n (pc := 73) 0 hC dX6_handIs_73 rfl ?_
      refine V.get (pc := 74) (v := .ref (a 1)) hC cf_X6 0 0 fl_X6_10 (by decide) gx_0 rfl dX6_handIs_74 ?_
      refine V.get (pc := 77) (v := .int (σ 20 0)) hC cf_X3 1 10 fl_X6_79 (by decide) gx_1 rfl dX6_handIs_77 ?_
      refine V.eqi (y := μ 0 0) (hT.2.2.2.1.1) ?_
      refine V.sts (st' := [.int (μ 0 0), .int (nI (nN h)), .ref (a 1)]) (stk (stc hh_h.1 (stk rfl))) ?_
      refine V.callV0 (pc := 80) (as := [.int (nI (nN h)), .int (μ 0 0)]) hC (c_X3_markOf σ ν (μ 0) (nN h) (μ 0 0) hT hI hh_h.2 (isN.mk hI.on0 (by omega) (by omega))) mu_X3_markOf ml_X6_82 (by decide) ⟨1, 3, TX3, 17, _, rfl, gx_1⟩ rfl (Nat.le_of_ble_eq_true rfl) dX6_handIs_80 ?_
      rintro _ _ rfl
      show V X (wX k g a σ ν) [(0, .ref (a 0)), (1, .int h), (2, .int w)] [.int (markS (μ 0) (nN h) (μ 0 0))] 83
      exact hR (markS (μ 0) (nN h) (μ 0 0)) (σ, ν) _ _ dX6_handIs_83 rfl (opc (m := μ) (by rw [op_handIs, if_neg (not_not_intro c_8), if_neg (not_not_intro (show inS w 0 3 from by rw [s_18_2]; exact ⟨by decide, by decide⟩)), if_neg (show ¬ w = 0 from by rw [s_18_2]; decide), if_neg (show ¬ w = 1 from by rw [s_18_2]; decide), if_pos s_18_2] <;> rfl) hRR)
    by_cases s_18_3 : w = 3
    · refine V.tableIn (pc := 18) 84 hC dX6_handIs_18 (by rw [s_18_3]; decide) (by rw [s_18_3]; decide) (by rw [s_18_3]; rfl) (by decide) ?_
      refine V.aload_n (pc := 84) 0 hC dX6_handIs_84 rfl ?_
      refine V.get (pc := 85) (v := .ref (a 1)) hC cf_X6 0 0 fl_X6_10 (by decide) gx_0 rfl dX6_handIs_85 ?_
      refine V.iload_n (pc := 88) 1 hC dX6_handIs_88 rfl ?_
      refine V.callV0 (pc := 89) (as := [.int h]) hC (c_X3_homesOn σ ν (μ 0) h hT hI) mu_X3_homesOn ml_X6_85 (by decide) ⟨1, 3, TX3, 17, _, rfl, gx_1⟩ rfl (Nat.le_of_ble_eq_true rfl) dX6_handIs_89 ?_
      rintro _ _ rfl
      show V X (wX k g a σ ν) [(0, .ref (a 0)), (1, .int h), (2, .int w)] [.int (homesOnS (μ 0) h)] 92
      exact hR (homesOnS (μ 0) h) (σ, ν) _ _ dX6_handIs_92 rfl (opc (m := μ) (by rw [op_handIs, if_neg (not_not_intro c_8), if_neg (not_not_intro (show inS w 0 3 from by rw [s_18_3]; exact ⟨by decide, by decide⟩)), if_neg (show ¬ w = 0 from by rw [s_18_3]; decide), if_neg (show ¬ w = 1 from by rw [s_18_3]; decide), if_neg (show ¬ w = 2 from by rw [s_18_3]; decide)] <;> rfl) hRR)
    refine V.tableOut (pc := 18) 93 hC dX6_handIs_18 (by have ts_18_0 : ¬ (w).toInt = 0 := fun q => s_18_0 (Int32.toInt_inj.mp q); have ts_18_1 : ¬ (w).toInt = 1 := fun q => s_18_1 (Int32.toInt_inj.mp q); have ts_18_2 : ¬ (w).toInt = 2 := fun q => s_18_2 (Int32.toInt_inj.mp q); have ts_18_3 : ¬ (w).toInt = 3 := fun q => s_18_3 (Int32.toInt_inj.mp q); omega) (by decide) ?_
    refine V.aload_n (pc := 93) 0 hC dX6_handIs_93 rfl ?_
    refine V.iconst (pc := 94) 1 hC dX6_handIs_94 (by decide) ?_
    refine V.sts (st' := [.int (nI 1), .ref (a 0)]) (stc (nl 1) (stk rfl)) ?_
    refine V.callV0 (pc := 95) (as := [.int (nI 1)]) hC (c_X6_error σ ν 1 (by omega)) mu_X6_error ml_X6_57 (by decide) ⟨0, 6, TX6, 8, _, rfl, gx_0⟩ rfl (Nat.le_of_ble_eq_true rfl) dX6_handIs_95 ?_
    rintro _ f95_0 ⟨rfl, hu95_0⟩
    have hu95_0 : f95_0 = upd (σ 0) 1 (σ 0 1 + 1) := hu95_0
    show V X (wX k g a (va_up σ 0 f95_0) ν) [(0, .ref (a 0)), (1, .int h), (2, .int w)] [.int (lowE 1)] 98
    exact hR (lowE 1) ((va_up σ 0 f95_0), ν) _ _ dX6_handIs_98 rfl (ope (by rw [op_handIs, if_neg (not_not_intro c_8), if_pos (fun q => by have h := inS_c q (nl 3) (by omega); have g0 : ¬ nN w = 0 := fun z => s_18_0 (by rw [h.1, z]; rfl); have g1 : ¬ nN w = 1 := fun z => s_18_1 (by rw [h.1, z]; rfl); have g2 : ¬ nN w = 2 := fun z => s_18_2 (by rw [h.1, z]; rfl); have g3 : ¬ nN w = 3 := fun z => s_18_3 (by rw [h.1, z]; rfl); have := h.2; omega)] <;> rfl) (hRR.er (by omega) hu95_0))
  · refine V.aload_n (pc := 11) 0 hC dX6_handIs_11 rfl ?_
    refine V.iconst (pc := 12) 1 hC dX6_handIs_12 (by decide) ?_
    refine V.sts (st' := [.int (nI 1), .ref (a 0)]) (stc (nl 1) (stk rfl)) ?_
    refine V.callV0 (pc := 13) (as := [.int (nI 1)]) hC (c_X6_error σ ν 1 (by omega)) mu_X6_error ml_X6_57 (by decide) ⟨0, 6, TX6, 8, _, rfl, gx_0⟩ rfl (Nat.le_of_ble_eq_true rfl) dX6_handIs_13 ?_
    rintro _ f13_0 ⟨rfl, hu13_0⟩
    have hu13_0 : f13_0 = upd (σ 0) 1 (σ 0 1 + 1) := hu13_0
    show V X (wX k g a (va_up σ 0 f13_0) ν) [(0, .ref (a 0)), (1, .int h), (2, .int w)] [.int (lowE 1)] 16
    exact hR (lowE 1) ((va_up σ 0 f13_0), ν) _ _ dX6_handIs_16 rfl (ope (by rw [op_handIs, if_pos c_8] <;> rfl) (hRR.er (by omega) hu13_0))
set_option maxHeartbeats 4000000 in
set_option maxRecDepth 100000 in
theorem c_X6_homeIs {l : Launch} {D : va_G} {k : Nat → ClassId} {g a : Nat → Nat} (σ ν μ : St) (h w : Int32) (hRR : RQ σ μ) : Ct l D k g yX6_homeIs cX6_homeIs 3 (some .int) 4 94 [.ref (a 0), .int h, .int w] (S := St × St) (wX k g a σ ν) (fun uu => wX k g a uu.1 uu.2) (fun vv uu => vv = some (.int ((op_homeIs h w μ).1)) ∧ RQ uu.1 (op_homeIs h w μ).2) := by
  refine Ct.ofI RX6 rfl (by decide +kernel) (Nat.le_of_ble_eq_true rfl) (fun X hC hR => ?_)
  have hT := hRR.1.2.2.1.1; have hI := hRR.1.2.2.1.2
  have hb4 := hI.hb; have hb8 := hI.mb; have hb6 := hI.pb; have hbm := hI.ob0; have hbt := hI.bb; have hbw := hI.wb
  show V X (wX k g a σ ν) [(0, .ref (a 0)), (1, .int h), (2, .int w)] [] 0
  refine V.aload_n (pc := 0) 0 hC dX6_homeIs_0 rfl ?_
  refine V.get (pc := 1) (v := .ref (a 1)) hC cf_X6 0 0 fl_X6_10 (by decide) gx_0 rfl dX6_homeIs_1 ?_
  refine V.iload_n (pc := 4) 1 hC dX6_homeIs_4 rfl ?_
  refine V.callV0 (pc := 5) (as := [.int h]) hC (c_X3_hasHome σ ν (μ 0) h hT hI) mu_X3_hasHome ml_X6_97 (by decide) ⟨1, 3, TX3, 17, _, rfl, gx_1⟩ rfl (Nat.le_of_ble_eq_true rfl) dX6_homeIs_5 ?_
  rintro _ _ rfl
  show V X (wX k g a σ ν) [(0, .ref (a 0)), (1, .int h), (2, .int w)] [.int (bI (inS h 0 ((μ 0) 3 - 1)))] 8
  refine V.if_ne_b (P := inS h 0 ((μ 0) 3 - 1)) (pc := 8) 17 hC dX6_homeIs_8 (by decide) (fun c_8 => ?_) (fun c_8 => ?_)
  · have hh_h := inS_n c_8 hI.mn (by omega)
    refine V.iload_n (pc := 17) 2 hC dX6_homeIs_17 rfl ?_
    by_cases s_18_0 : w = 0
    · refine V.tableIn (pc := 18) 52 hC dX6_homeIs_18 (by rw [s_18_0]; decide) (by rw [s_18_0]; decide) (by rw [s_18_0]; rfl) (by decide) ?_
      refine V.aload_n (pc := 52) 0 hC dX6_homeIs_52 rfl ?_
      refine V.get (pc := 53) (v := .ref (a 1)) hC cf_X6 0 0 fl_X6_10 (by decide) gx_0 rfl dX6_homeIs_53 ?_
      refine V.get (pc := 56) (v := .ref (a 14)) hC cf_X3 1 4 fl_X6_100 (by decide) gx_1 rfl dX6_homeIs_56 ?_
      refine V.iload_n (pc := 59) 1 hC dX6_homeIs_59 rfl ?_
      refine V.iald (pc := 60) (f := σ 14) hC 10 (nN h) gx_10 hh_h.1 (by omega) (by decide) dX6_homeIs_60 ?_
      refine V.eqi (y := μ 0 (15 + 2 * (nN h))) (hT.2.1.2.1 (nN h) (by omega)) ?_
      exact hR (μ 0 (15 + 2 * (nN h))) (σ, ν) _ _ dX6_homeIs_61 rfl (opc (m := μ) (by rw [op_homeIs, if_neg (not_not_intro c_8), if_pos s_18_0] <;> rfl) hRR)
    by_cases s_18_1 : w = 1
    · refine V.tableIn (pc := 18) 62 hC dX6_homeIs_18 (by rw [s_18_1]; decide) (by rw [s_18_1]; decide) (by rw [s_18_1]; rfl) (by decide) ?_
      refine V.aload_n (pc := 62) 0 hC dX6_homeIs_62 rfl ?_
      refine V.get (pc := 63) (v := .ref (a 1)) hC cf_X6 0 0 fl_X6_10 (by decide) gx_0 rfl dX6_homeIs_63 ?_
      refine V.get (pc := 66) (v := .ref (a 15)) hC cf_X3 1 5 fl_X6_103 (by decide) gx_1 rfl dX6_homeIs_66 ?_
      refine V.iload_n (pc := 69) 1 hC dX6_homeIs_69 rfl ?_
      refine V.iald (pc := 70) (f := σ 15) hC 11 (nN h) gx_11 hh_h.1 (by omega) (by decide) dX6_homeIs_70 ?_
      refine V.eqi (y := μ 0 (16 + 2 * (nN h))) (hT.2.1.2.2 (nN h) (by omega)) ?_
      exact hR (μ 0 (16 + 2 * (nN h))) (σ, ν) _ _ dX6_homeIs_71 rfl (opc (m := μ) (by rw [op_homeIs, if_neg (not_not_intro c_8), if_neg (show ¬ w = 0 from by rw [s_18_1]; decide), if_pos s_18_1] <;> rfl) hRR)
    by_cases s_18_2 : w = 2
    · refine V.tableIn (pc := 18) 72 hC dX6_homeIs_18 (by rw [s_18_2]; decide) (by rw [s_18_2]; decide) (by rw [s_18_2]; rfl) (by decide) ?_
      refine V.aload_n (pc := 72) 0 hC dX6_homeIs_72 rfl ?_
      refine V.get (pc := 73) (v := .ref (a 1)) hC cf_X6 0 0 fl_X6_10 (by decide) gx_0 rfl dX6_homeIs_73 ?_
      refine V.aload_n (pc := 76) 0 hC dX6_homeIs_76 rfl ?_
      refine V.get (pc := 77) (v := .ref (a 1)) hC cf_X6 0 0 fl_X6_10 (by decide) gx_0 rfl dX6_homeIs_77 ?_
      refine V.get (pc := 80) (v := .ref (a 14)) hC cf_X3 1 4 fl_X6_100 (by decide) gx_1 rfl dX6_homeIs_80 ?_
      refine V.iload_n (pc := 83) 1 hC dX6_homeIs_83 rfl ?_
      refine V.iald (pc := 84) (f := σ 14) hC 10 (nN h) gx_10 hh_h.1 (by omega) (by decide) dX6_homeIs_84 ?_
      refine V.eqi (y := μ 0 (15 + 2 * (nN h))) (hT.2.1.2.1 (nN h) (by omega)) ?_
      refine V.aload_n (pc := 85) 0 hC dX6_homeIs_85 rfl ?_
      refine V.get (pc := 86) (v := .ref (a 1)) hC cf_X6 0 0 fl_X6_10 (by decide) gx_0 rfl dX6_homeIs_86 ?_
      refine V.get (pc := 89) (v := .int (σ 20 0)) hC cf_X3 1 10 fl_X6_79 (by decide) gx_1 rfl dX6_homeIs_89 ?_
      refine V.eqi (y := μ 0 0) (hT.2.2.2.1.1) ?_
      refine V.sts (st' := [.int (μ 0 0), .int (nI (nN (μ 0 (15 + 2 * (nN h))))), .ref (a 1)]) (stk (stc (hI.rn (by omega)) (stk rfl))) ?_
      refine V.callV0 (pc := 92) (as := [.int (nI (nN (μ 0 (15 + 2 * (nN h))))), .int (μ 0 0)]) hC (c_X3_markOf σ ν (μ 0) (nN (μ 0 (15 + 2 * (nN h)))) (μ 0 0) hT hI (hI.rb hh_h.2) (isN.mk hI.on0 (by omega) (by omega))) mu_X3_markOf ml_X6_82 (by decide) ⟨1, 3, TX3, 17, _, rfl, gx_1⟩ rfl (Nat.le_of_ble_eq_true rfl) dX6_homeIs_92 ?_
      rintro _ _ rfl
      show V X (wX k g a σ ν) [(0, .ref (a 0)), (1, .int h), (2, .int w)] [.int (markS (μ 0) (nN (μ 0 (15 + 2 * (nN h)))) (μ 0 0))] 95
      exact hR (markS (μ 0) (nN (μ 0 (15 + 2 * (nN h)))) (μ 0 0)) (σ, ν) _ _ dX6_homeIs_95 rfl (opc (m := μ) (by rw [op_homeIs, if_neg (not_not_intro c_8), if_neg (show ¬ w = 0 from by rw [s_18_2]; decide), if_neg (show ¬ w = 1 from by rw [s_18_2]; decide), if_pos s_18_2] <;> rfl) hRR)
    by_cases s_18_3 : w = 3
    · refine V.tableIn (pc := 18) 96 hC dX6_homeIs_18 (by rw [s_18_3]; decide) (by rw [s_18_3]; decide) (by rw [s_18_3]; rfl) (by decide) ?_
      refine V.aload_n (pc := 96) 0 hC dX6_homeIs_96 rfl ?_
      refine V.get (pc := 97) (v := .ref (a 1)) hC cf_X6 0 0 fl_X6_10 (by decide) gx_0 rfl dX6_homeIs_97 ?_
      refine V.iload_n (pc := 100) 1 hC dX6_homeIs_100 rfl ?_
      refine V.aload_n (pc := 101) 0 hC dX6_homeIs_101 rfl ?_
      refine V.get (pc := 102) (v := .ref (a 1)) hC cf_X6 0 0 fl_X6_10 (by decide) gx_0 rfl dX6_homeIs_102 ?_
      refine V.get (pc := 105) (v := .int (σ 20 0)) hC cf_X3 1 10 fl_X6_79 (by decide) gx_1 rfl dX6_homeIs_105 ?_
      refine V.eqi (y := μ 0 0) (hT.2.2.2.1.1) ?_
      refine V.sts (st' := [.int (μ 0 0), .int (nI (nN h)), .ref (a 1)]) (stk (stc hh_h.1 (stk rfl))) ?_
      refine V.callV0 (pc := 108) (as := [.int (nI (nN h)), .int (μ 0 0)]) hC (c_X3_worth σ ν (μ 0) (nN h) (μ 0 0) hT hI hh_h.2 (isN.mk hI.on0 (by omega) (by omega))) mu_X3_worth ml_X6_106 (by decide) ⟨1, 3, TX3, 17, _, rfl, gx_1⟩ rfl (Nat.le_of_ble_eq_true rfl) dX6_homeIs_108 ?_
      rintro _ f108_0 rfl
      show V X (wX k g a σ (va_up ν 32 f108_0)) [(0, .ref (a 0)), (1, .int h), (2, .int w)] [.int (worthS (μ 0) (nN h) (μ 0 0))] 111
      exact hR (worthS (μ 0) (nN h) (μ 0 0)) (σ, (va_up ν 32 f108_0)) _ _ dX6_homeIs_111 rfl (opc (m := μ) (by rw [op_homeIs, if_neg (not_not_intro c_8), if_neg (show ¬ w = 0 from by rw [s_18_3]; decide), if_neg (show ¬ w = 1 from by rw [s_18_3]; decide), if_neg (show ¬ w = 2 from by rw [s_18_3]; decide), if_pos s_18_3] <;> rfl) hRR)
    by_cases s_18_4 : w = 4
    · refine V.tableIn (pc := 18) 112 hC dX6_homeIs_18 (by rw [s_18_4]; decide) (by rw [s_18_4]; decide) (by rw [s_18_4]; rfl) (by decide) ?_
      refine V.aload_n (pc := 112) 0 hC dX6_homeIs_112 rfl ?_
      refine V.get (pc := 113) (v := .ref (a 1)) hC cf_X6 0 0 fl_X6_10 (by decide) gx_0 rfl dX6_homeIs_113 ?_
      refine V.iload_n (pc := 116) 1 hC dX6_homeIs_116 rfl ?_
      refine V.callV0 (pc := 117) (as := [.int h]) hC (c_X3_peopleIn σ ν (μ 0) h hT hI) mu_X3_peopleIn ml_X6_109 (by decide) ⟨1, 3, TX3, 17, _, rfl, gx_1⟩ rfl (Nat.le_of_ble_eq_true rfl) dX6_homeIs_117 ?_
      rintro _ _ rfl
      show V X (wX k g a σ ν) [(0, .ref (a 0)), (1, .int h), (2, .int w)] [.int (whoInS (μ 0) h)] 120
      exact hR (whoInS (μ 0) h) (σ, ν) _ _ dX6_homeIs_120 rfl (opc (m := μ) (by rw [op_homeIs, if_neg (not_not_intro c_8), if_neg (show ¬ w = 0 from by rw [s_18_4]; decide), if_neg (show ¬ w = 1 from by rw [s_18_4]; decide), if_neg (show ¬ w = 2 from by rw [s_18_4]; decide), if_neg (show ¬ w = 3 from by rw [s_18_4]; decide), if_pos s_18_4] <;> rfl) hRR)
    refine V.tableOut (pc := 18) 121 hC dX6_homeIs_18 (by have ts_18_0 : ¬ (w).toInt = 0 := fun q => s_18_0 (Int32.toInt_inj.mp q); have ts_18_1 : ¬ (w).toInt = 1 := fun q => s_18_1 (Int32.toInt_inj.mp q); have ts_18_2 : ¬ (w).toInt = 2 := fun q => s_18_2 (Int32.toInt_inj.mp q); have ts_18_3 : ¬ (w).toInt = 3 := fun q => s_18_3 (Int32.toInt_inj.mp q); have ts_18_4 : ¬ (w).toInt = 4 := fun q => s_18_4 (Int32.toInt_inj.mp q); omega) (by decide) ?_
    refine V.aload_n (pc := 121) 0 hC dX6_homeIs_121 rfl ?_
    refine V.iconst (pc := 122) 1 hC dX6_homeIs_122 (by decide) ?_
    refine V.sts (st' := [.int (nI 1), .ref (a 0)]) (stc (nl 1) (stk rfl)) ?_
    refine V.callV0 (pc := 123) (as := [.int (nI 1)]) hC (c_X6_error σ ν 1 (by omega)) mu_X6_error ml_X6_57 (by decide) ⟨0, 6, TX6, 8, _, rfl, gx_0⟩ rfl (Nat.le_of_ble_eq_true rfl) dX6_homeIs_123 ?_
    rintro _ f123_0 ⟨rfl, hu123_0⟩
    have hu123_0 : f123_0 = upd (σ 0) 1 (σ 0 1 + 1) := hu123_0
    show V X (wX k g a (va_up σ 0 f123_0) ν) [(0, .ref (a 0)), (1, .int h), (2, .int w)] [.int (lowE 1)] 126
    exact hR (lowE 1) ((va_up σ 0 f123_0), ν) _ _ dX6_homeIs_126 rfl (ope (by rw [op_homeIs, if_neg (not_not_intro c_8), if_neg s_18_0, if_neg s_18_1, if_neg s_18_2, if_neg s_18_3, if_neg s_18_4] <;> rfl) (hRR.er (by omega) hu123_0))
  · refine V.aload_n (pc := 11) 0 hC dX6_homeIs_11 rfl ?_
    refine V.iconst (pc := 12) 1 hC dX6_homeIs_12 (by decide) ?_
    refine V.sts (st' := [.int (nI 1), .ref (a 0)]) (stc (nl 1) (stk rfl)) ?_
    refine V.callV0 (pc := 13) (as := [.int (nI 1)]) hC (c_X6_error σ ν 1 (by omega)) mu_X6_error ml_X6_57 (by decide) ⟨0, 6, TX6, 8, _, rfl, gx_0⟩ rfl (Nat.le_of_ble_eq_true rfl) dX6_homeIs_13 ?_
    rintro _ f13_0 ⟨rfl, hu13_0⟩
    have hu13_0 : f13_0 = upd (σ 0) 1 (σ 0 1 + 1) := hu13_0
    show V X (wX k g a (va_up σ 0 f13_0) ν) [(0, .ref (a 0)), (1, .int h), (2, .int w)] [.int (lowE 1)] 16
    exact hR (lowE 1) ((va_up σ 0 f13_0), ν) _ _ dX6_homeIs_16 rfl (ope (by rw [op_homeIs, if_pos c_8] <;> rfl) (hRR.er (by omega) hu13_0))
set_option maxHeartbeats 4000000 in
set_option maxRecDepth 100000 in
theorem c_X6_personIs {l : Launch} {D : va_G} {k : Nat → ClassId} {g a : Nat → Nat} (σ ν μ : St) (p w : Int32) (hRR : RQ σ μ) : Ct l D k g yX6_personIs cX6_personIs 3 (some .int) 6 147 [.ref (a 0), .int p, .int w] (S := St × St) (wX k g a σ ν) (fun uu => wX k g a uu.1 uu.2) (fun vv uu => vv = some (.int ((op_personIs p w μ).1)) ∧ RQ uu.1 (op_personIs p w μ).2) := by
  refine Ct.ofI RX6 rfl (by decide +kernel) (Nat.le_of_ble_eq_true rfl) (fun X hC hR => ?_)
  have hT := hRR.1.2.2.1.1; have hI := hRR.1.2.2.1.2
  have hb4 := hI.hb; have hb8 := hI.mb; have hb6 := hI.pb; have hbm := hI.ob0; have hbt := hI.bb; have hbw := hI.wb
  show V X (wX k g a σ ν) [(0, .ref (a 0)), (1, .int p), (2, .int w)] [] 0
  refine V.aload_n (pc := 0) 0 hC dX6_personIs_0 rfl ?_
  refine V.get (pc := 1) (v := .ref (a 1)) hC cf_X6 0 0 fl_X6_10 (by decide) gx_0 rfl dX6_personIs_1 ?_
  refine V.iload_n (pc := 4) 1 hC dX6_personIs_4 rfl ?_
  refine V.callV0 (pc := 5) (as := [.int p]) hC (c_X3_hasPerson σ ν (μ 0) p hT hI) mu_X3_hasPerson ml_X6_121 (by decide) ⟨1, 3, TX3, 17, _, rfl, gx_1⟩ rfl (Nat.le_of_ble_eq_true rfl) dX6_personIs_5 ?_
  rintro _ _ rfl
  show V X (wX k g a σ ν) [(0, .ref (a 0)), (1, .int p), (2, .int w)] [.int (bI (inS p 0 ((μ 0) 4 - 1)))] 8
  refine V.if_ne_b (P := inS p 0 ((μ 0) 4 - 1)) (pc := 8) 17 hC dX6_personIs_8 (by decide) (fun c_8 => ?_) (fun c_8 => ?_)
  · have hh_p := inS_n c_8 hI.pn (by omega)
    refine V.iload_n (pc := 17) 2 hC dX6_personIs_17 rfl ?_
    by_cases s_18_0 : w = 0
    · refine V.tableIn (pc := 18) 56 hC dX6_personIs_18 (by rw [s_18_0]; decide) (by rw [s_18_0]; decide) (by rw [s_18_0]; rfl) (by decide) ?_
      refine V.aload_n (pc := 56) 0 hC dX6_personIs_56 rfl ?_
      refine V.get (pc := 57) (v := .ref (a 1)) hC cf_X6 0 0 fl_X6_10 (by decide) gx_0 rfl dX6_personIs_57 ?_
      refine V.get (pc := 60) (v := .ref (a 17)) hC cf_X3 1 7 fl_X6_124 (by decide) gx_1 rfl dX6_personIs_60 ?_
      refine V.iload_n (pc := 63) 1 hC dX6_personIs_63 rfl ?_
      refine V.iald (pc := 64) (f := σ 17) hC 12 (nN p) gx_12 hh_p.1 (by omega) (by decide) dX6_personIs_64 ?_
      refine V.eqi (y := μ 0 (31 + 3 * (nN p))) (hT.2.2.1.2.1 (nN p) (by omega)) ?_
      exact hR (μ 0 (31 + 3 * (nN p))) (σ, ν) _ _ dX6_personIs_65 rfl (opc (m := μ) (by rw [op_personIs, if_neg (not_not_intro c_8), if_pos s_18_0] <;> rfl) hRR)
    by_cases s_18_1 : w = 1
    · refine V.tableIn (pc := 18) 66 hC dX6_personIs_18 (by rw [s_18_1]; decide) (by rw [s_18_1]; decide) (by rw [s_18_1]; rfl) (by decide) ?_
      refine V.aload_n (pc := 66) 0 hC dX6_personIs_66 rfl ?_
      refine V.get (pc := 67) (v := .ref (a 1)) hC cf_X6 0 0 fl_X6_10 (by decide) gx_0 rfl dX6_personIs_67 ?_
      refine V.get (pc := 70) (v := .ref (a 18)) hC cf_X3 1 8 fl_X6_127 (by decide) gx_1 rfl dX6_personIs_70 ?_
      refine V.iload_n (pc := 73) 1 hC dX6_personIs_73 rfl ?_
      refine V.iald (pc := 74) (f := σ 18) hC 13 (nN p) gx_13 hh_p.1 (by omega) (by decide) dX6_personIs_74 ?_
      refine V.eqi (y := μ 0 (32 + 3 * (nN p))) (hT.2.2.1.2.2.1 (nN p) (by omega)) ?_
      exact hR (μ 0 (32 + 3 * (nN p))) (σ, ν) _ _ dX6_personIs_75 rfl (opc (m := μ) (by rw [op_personIs, if_neg (not_not_intro c_8), if_neg (show ¬ w = 0 from by rw [s_18_1]; decide), if_pos s_18_1] <;> rfl) hRR)
    by_cases s_18_2 : w = 2
    · refine V.tableIn (pc := 18) 76 hC dX6_personIs_18 (by rw [s_18_2]; decide) (by rw [s_18_2]; decide) (by rw [s_18_2]; rfl) (by decide) ?_
      refine V.aload_n (pc := 76) 0 hC dX6_personIs_76 rfl ?_
      refine V.get (pc := 77) (v := .ref (a 1)) hC cf_X6 0 0 fl_X6_10 (by decide) gx_0 rfl dX6_personIs_77 ?_
      refine V.get (pc := 80) (v := .ref (a 19)) hC cf_X3 1 9 fl_X6_130 (by decide) gx_1 rfl dX6_personIs_80 ?_
      refine V.iload_n (pc := 83) 1 hC dX6_personIs_83 rfl ?_
      refine V.iald (pc := 84) (f := σ 19) hC 14 (nN p) gx_14 hh_p.1 (by omega) (by decide) dX6_personIs_84 ?_
      refine V.eqi (y := μ 0 (33 + 3 * (nN p))) (hT.2.2.1.2.2.2 (nN p) (by omega)) ?_
      exact hR (μ 0 (33 + 3 * (nN p))) (σ, ν) _ _ dX6_personIs_85 rfl (opc (m := μ) (by rw [op_personIs, if_neg (not_not_intro c_8), if_neg (show ¬ w = 0 from by rw [s_18_2]; decide), if_neg (show ¬ w = 1 from by rw [s_18_2]; decide), if_pos s_18_2] <;> rfl) hRR)
    by_cases s_18_3 : w = 3
    · refine V.tableIn (pc := 18) 86 hC dX6_personIs_18 (by rw [s_18_3]; decide) (by rw [s_18_3]; decide) (by rw [s_18_3]; rfl) (by decide) ?_
      refine V.aload_n (pc := 86) 0 hC dX6_personIs_86 rfl ?_
      refine V.get (pc := 87) (v := .ref (a 1)) hC cf_X6 0 0 fl_X6_10 (by decide) gx_0 rfl dX6_personIs_87 ?_
      refine V.iload_n (pc := 90) 1 hC dX6_personIs_90 rfl ?_
      refine V.aload_n (pc := 91) 0 hC dX6_personIs_91 rfl ?_
      refine V.get (pc := 92) (v := .ref (a 1)) hC cf_X6 0 0 fl_X6_10 (by decide) gx_0 rfl dX6_personIs_92 ?_
      refine V.get (pc := 95) (v := .int (σ 20 0)) hC cf_X3 1 10 fl_X6_79 (by decide) gx_1 rfl dX6_personIs_95 ?_
      refine V.eqi (y := μ 0 0) (hT.2.2.2.1.1) ?_
      refine V.sts (st' := [.int (μ 0 0), .int (nI (nN p)), .ref (a 1)]) (stk (stc hh_p.1 (stk rfl))) ?_
      refine V.callV0 (pc := 98) (as := [.int (nI (nN p)), .int (μ 0 0)]) hC (c_X3_leaps σ ν (μ 0) (nN p) (μ 0 0) hT hI hh_p.2) mu_X3_leaps ml_X6_133 (by decide) ⟨1, 3, TX3, 17, _, rfl, gx_1⟩ rfl (Nat.le_of_ble_eq_true rfl) dX6_personIs_98 ?_
      rintro _ f98_0 rfl
      show V X (wX k g a σ (va_up ν 31 f98_0)) [(0, .ref (a 0)), (1, .int p), (2, .int w)] [.int (leapsS (μ 0) (nN p) (μ 0 0))] 101
      exact hR (leapsS (μ 0) (nN p) (μ 0 0)) (σ, (va_up ν 31 f98_0)) _ _ dX6_personIs_101 rfl (opc (m := μ) (by rw [op_personIs, if_neg (not_not_intro c_8), if_neg (show ¬ w = 0 from by rw [s_18_3]; decide), if_neg (show ¬ w = 1 from by rw [s_18_3]; decide), if_neg (show ¬ w = 2 from by rw [s_18_3]; decide), if_pos s_18_3] <;> rfl) hRR)
    by_cases s_18_4 : w = 4
    · refine V.tableIn (pc := 18) 102 hC dX6_personIs_18 (by rw [s_18_4]; decide) (by rw [s_18_4]; decide) (by rw [s_18_4]; rfl) (by decide) ?_
      refine V.aload_n (pc := 102) 0 hC dX6_personIs_102 rfl ?_
      refine V.get (pc := 103) (v := .ref (a 1)) hC cf_X6 0 0 fl_X6_10 (by decide) gx_0 rfl dX6_personIs_103 ?_
      refine V.iload_n (pc := 106) 1 hC dX6_personIs_106 rfl ?_
      refine V.sts (st' := [.int (nI (nN p)), .ref (a 1)]) (stc hh_p.1 (stk rfl)) ?_
      refine V.callV0 (pc := 107) (as := [.int (nI (nN p))]) hC (c_X3_spans σ ν (μ 0) (nN p) hT hI hh_p.2) mu_X3_spans ml_X6_136 (by decide) ⟨1, 3, TX3, 17, _, rfl, gx_1⟩ rfl (Nat.le_of_ble_eq_true rfl) dX6_personIs_107 ?_
      rintro _ _ rfl
      show V X (wX k g a σ ν) [(0, .ref (a 0)), (1, .int p), (2, .int w)] [.int (spansS (μ 0) (nN p))] 110
      exact hR (spansS (μ 0) (nN p)) (σ, ν) _ _ dX6_personIs_110 rfl (opc (m := μ) (by rw [op_personIs, if_neg (not_not_intro c_8), if_neg (show ¬ w = 0 from by rw [s_18_4]; decide), if_neg (show ¬ w = 1 from by rw [s_18_4]; decide), if_neg (show ¬ w = 2 from by rw [s_18_4]; decide), if_neg (show ¬ w = 3 from by rw [s_18_4]; decide), if_pos s_18_4] <;> rfl) hRR)
    by_cases s_18_5 : w = 5
    · refine V.tableIn (pc := 18) 111 hC dX6_personIs_18 (by rw [s_18_5]; decide) (by rw [s_18_5]; decide) (by rw [s_18_5]; rfl) (by decide) ?_
      refine V.aload_n (pc := 111) 0 hC dX6_personIs_111 rfl ?_
      refine V.get (pc := 112) (v := .ref (a 4)) hC cf_X6 0 3 fl_X6_31 (by decide) gx_0 rfl dX6_personIs_112 ?_
      refine V.iload_n (pc := 115) 1 hC dX6_personIs_115 rfl ?_
      refine V.iconst (pc := 116) 1 hC dX6_personIs_116 (by decide) ?_
      refine V.sts (st' := [.int (nI 1), .int (nI (nN p)), .ref (a 4)]) (stc (nl 1) (stc hh_p.1 (stk rfl))) ?_
      refine V.callV0 (pc := 117) (as := [.int (nI (nN p)), .int (nI 1)]) hC (c_X5_roomsBehind σ ν (μ 0) (nN p) 1 hT hI hh_p.2 (by omega)) mu_X5_roomsBehind ml_X6_139 (by decide) ⟨4, 5, TX5, 6, _, rfl, gx_4⟩ rfl (Nat.le_of_ble_eq_true rfl) dX6_personIs_117 ?_
      rintro _ ⟨f117_0, f117_1, f117_2, f117_3, f117_4⟩ rfl
      show V X (wX k g a σ (va_up (va_up (va_up (va_up (va_up ν 31 f117_0) 74 f117_1) 75 f117_2) 76 f117_3) 77 f117_4)) [(0, .ref (a 0)), (1, .int p), (2, .int w)] [.int (roomsByS (μ 0) (nN p) 1)] 120
      exact hR (roomsByS (μ 0) (nN p) 1) (σ, (va_up (va_up (va_up (va_up (va_up ν 31 f117_0) 74 f117_1) 75 f117_2) 76 f117_3) 77 f117_4)) _ _ dX6_personIs_120 rfl (opc (m := μ) (by rw [op_personIs, if_neg (not_not_intro c_8), if_neg (show ¬ w = 0 from by rw [s_18_5]; decide), if_neg (show ¬ w = 1 from by rw [s_18_5]; decide), if_neg (show ¬ w = 2 from by rw [s_18_5]; decide), if_neg (show ¬ w = 3 from by rw [s_18_5]; decide), if_neg (show ¬ w = 4 from by rw [s_18_5]; decide), if_pos s_18_5] <;> rfl) hRR)
    refine V.tableOut (pc := 18) 121 hC dX6_personIs_18 (by have ts_18_0 : ¬ (w).toInt = 0 := fun q => s_18_0 (Int32.toInt_inj.mp q); have ts_18_1 : ¬ (w).toInt = 1 := fun q => s_18_1 (Int32.toInt_inj.mp q); have ts_18_2 : ¬ (w).toInt = 2 := fun q => s_18_2 (Int32.toInt_inj.mp q); have ts_18_3 : ¬ (w).toInt = 3 := fun q => s_18_3 (Int32.toInt_inj.mp q); have ts_18_4 : ¬ (w).toInt = 4 := fun q => s_18_4 (Int32.toInt_inj.mp q); have ts_18_5 : ¬ (w).toInt = 5 := fun q => s_18_5 (Int32.toInt_inj.mp q); omega) (by decide) ?_
    refine V.aload_n (pc := 121) 0 hC dX6_personIs_121 rfl ?_
    refine V.iconst (pc := 122) 1 hC dX6_personIs_122 (by decide) ?_
    refine V.sts (st' := [.int (nI 1), .ref (a 0)]) (stc (nl 1) (stk rfl)) ?_
    refine V.callV0 (pc := 123) (as := [.int (nI 1)]) hC (c_X6_error σ ν 1 (by omega)) mu_X6_error ml_X6_57 (by decide) ⟨0, 6, TX6, 8, _, rfl, gx_0⟩ rfl (Nat.le_of_ble_eq_true rfl) dX6_personIs_123 ?_
    rintro _ f123_0 ⟨rfl, hu123_0⟩
    have hu123_0 : f123_0 = upd (σ 0) 1 (σ 0 1 + 1) := hu123_0
    show V X (wX k g a (va_up σ 0 f123_0) ν) [(0, .ref (a 0)), (1, .int p), (2, .int w)] [.int (lowE 1)] 126
    exact hR (lowE 1) ((va_up σ 0 f123_0), ν) _ _ dX6_personIs_126 rfl (ope (by rw [op_personIs, if_neg (not_not_intro c_8), if_neg s_18_0, if_neg s_18_1, if_neg s_18_2, if_neg s_18_3, if_neg s_18_4, if_neg s_18_5] <;> rfl) (hRR.er (by omega) hu123_0))
  · refine V.aload_n (pc := 11) 0 hC dX6_personIs_11 rfl ?_
    refine V.iconst (pc := 12) 1 hC dX6_personIs_12 (by decide) ?_
    refine V.sts (st' := [.int (nI 1), .ref (a 0)]) (stc (nl 1) (stk rfl)) ?_
    refine V.callV0 (pc := 13) (as := [.int (nI 1)]) hC (c_X6_error σ ν 1 (by omega)) mu_X6_error ml_X6_57 (by decide) ⟨0, 6, TX6, 8, _, rfl, gx_0⟩ rfl (Nat.le_of_ble_eq_true rfl) dX6_personIs_13 ?_
    rintro _ f13_0 ⟨rfl, hu13_0⟩
    have hu13_0 : f13_0 = upd (σ 0) 1 (σ 0 1 + 1) := hu13_0
    show V X (wX k g a (va_up σ 0 f13_0) ν) [(0, .ref (a 0)), (1, .int p), (2, .int w)] [.int (lowE 1)] 16
    exact hR (lowE 1) ((va_up σ 0 f13_0), ν) _ _ dX6_personIs_16 rfl (ope (by rw [op_personIs, if_pos c_8] <;> rfl) (hRR.er (by omega) hu13_0))
set_option maxHeartbeats 4000000 in
set_option maxRecDepth 100000 in
theorem c_X6_law {l : Launch} {D : va_G} {k : Nat → ClassId} {g a : Nat → Nat} (σ ν μ : St) (u x y z : Int32) (hRR : RQ σ μ) : Ct l D k g yX6_law cX6_law 5 (some .int) 3 72 [.ref (a 0), .int u, .int x, .int y, .int z] (S := St × St) (wX k g a σ ν) (fun uu => wX k g a uu.1 uu.2) (fun vv uu => vv = some (.int ((op_law u x y z μ).1)) ∧ RQ uu.1 (op_law u x y z μ).2) := by
  refine Ct.ofI RX6 rfl (by decide +kernel) (Nat.le_of_ble_eq_true rfl) (fun X hC hR => ?_)
  have hT := hRR.1.2.2.1.1; have hI := hRR.1.2.2.1.2
  have hb4 := hI.hb; have hb8 := hI.mb; have hb6 := hI.pb; have hbm := hI.ob0; have hbt := hI.bb; have hbw := hI.wb
  show V X (wX k g a σ ν) [(0, .ref (a 0)), (1, .int u), (2, .int x), (3, .int y), (4, .int z)] [] 0
  refine V.iload_n (pc := 0) 1 hC dX6_law_0 rfl ?_
  refine V.callS0 (pc := 1) (as := [.int u]) hC (c_X6_isUse u ) ms_X6_isUse ml_X6_160 (by decide) rfl (Nat.le_of_ble_eq_true rfl) dX6_law_1 ?_
  rintro _ _ rfl
  show V X (wX k g a σ ν) [(0, .ref (a 0)), (1, .int u), (2, .int x), (3, .int y), (4, .int z)] [.int (bI (inS u 0 1))] 4
  refine V.if_ne_b (P := inS u 0 1) (pc := 4) 13 hC dX6_law_4 (by decide) (fun c_4 => ?_) (fun c_4 => ?_)
  · refine V.iload_n (pc := 13) 1 hC dX6_law_13 rfl ?_
    refine V.if_ne (pc := 14) 31 hC dX6_law_14 (by decide) (fun c_14 => ?_) (fun c_14 => ?_)
    · refine V.aload_n (pc := 31) 0 hC dX6_law_31 rfl ?_
      refine V.get (pc := 32) (v := .ref (a 1)) hC cf_X6 0 0 fl_X6_10 (by decide) gx_0 rfl dX6_law_32 ?_
      refine V.iload_n (pc := 35) 2 hC dX6_law_35 rfl ?_
      refine V.iload_n (pc := 36) 3 hC dX6_law_36 rfl ?_
      refine V.iload (pc := 37) 4 hC dX6_law_37 rfl ?_
      refine V.callV0 (pc := 39) (as := [.int x, .int y, .int z]) hC (c_X3_worthLaw σ ν (μ 0) x y z hT hI) mu_X3_worthLaw ml_X6_187 (by decide) ⟨1, 3, TX3, 17, _, rfl, gx_1⟩ rfl (Nat.le_of_ble_eq_true rfl) dX6_law_39 ?_
      rintro _ f39_0 rfl
      show V X (wX k g a σ (va_up ν 32 f39_0)) [(0, .ref (a 0)), (1, .int u), (2, .int x), (3, .int y), (4, .int z)] [.int (givesS (μ 0) 1 x y z)] 42
      exact hR (givesS (μ 0) 1 x y z) (σ, (va_up ν 32 f39_0)) _ _ dX6_law_42 rfl (opc (m := μ) (by rw [op_law, if_pos c_4, show nN u = 1 from by have h := inS_c c_4 (nl 1) (by omega); have g0 : ¬ nN u = 0 := fun z => c_14 (by rw [h.1, z]; rfl); have := h.2; omega] <;> rfl) hRR)
    · refine V.aload_n (pc := 17) 0 hC dX6_law_17 rfl ?_
      refine V.get (pc := 18) (v := .ref (a 1)) hC cf_X6 0 0 fl_X6_10 (by decide) gx_0 rfl dX6_law_18 ?_
      refine V.iload_n (pc := 21) 2 hC dX6_law_21 rfl ?_
      refine V.iload_n (pc := 22) 3 hC dX6_law_22 rfl ?_
      refine V.iload (pc := 23) 4 hC dX6_law_23 rfl ?_
      refine V.callV0 (pc := 25) (as := [.int x, .int y, .int z]) hC (c_X3_leapLaw σ ν (μ 0) x y z hT hI) mu_X3_leapLaw ml_X6_183 (by decide) ⟨1, 3, TX3, 17, _, rfl, gx_1⟩ rfl (Nat.le_of_ble_eq_true rfl) dX6_law_25 ?_
      rintro _ f25_0 rfl
      show V X (wX k g a σ (va_up ν 31 f25_0)) [(0, .ref (a 0)), (1, .int u), (2, .int x), (3, .int y), (4, .int z)] [.int (givesS (μ 0) 0 x y z)] 28
      refine V.goto (pc := 28) 42 hC dX6_law_28 (by decide) ?_
      exact hR (givesS (μ 0) 0 x y z) (σ, (va_up ν 31 f25_0)) _ _ dX6_law_42 rfl (opc (m := μ) (by rw [op_law, if_pos c_4, show nN u = 0 from by rw [c_14]; rfl] <;> rfl) hRR)
  · refine V.aload_n (pc := 7) 0 hC dX6_law_7 rfl ?_
    refine V.iconst (pc := 8) 1 hC dX6_law_8 (by decide) ?_
    refine V.sts (st' := [.int (nI 1), .ref (a 0)]) (stc (nl 1) (stk rfl)) ?_
    refine V.callV0 (pc := 9) (as := [.int (nI 1)]) hC (c_X6_error σ ν 1 (by omega)) mu_X6_error ml_X6_57 (by decide) ⟨0, 6, TX6, 8, _, rfl, gx_0⟩ rfl (Nat.le_of_ble_eq_true rfl) dX6_law_9 ?_
    rintro _ f9_0 ⟨rfl, hu9_0⟩
    have hu9_0 : f9_0 = upd (σ 0) 1 (σ 0 1 + 1) := hu9_0
    show V X (wX k g a (va_up σ 0 f9_0) ν) [(0, .ref (a 0)), (1, .int u), (2, .int x), (3, .int y), (4, .int z)] [.int (lowE 1)] 12
    exact hR (lowE 1) ((va_up σ 0 f9_0), ν) _ _ dX6_law_12 rfl (ope (by rw [op_law, if_neg c_4] <;> rfl) (hRR.er (by omega) hu9_0))
set_option maxHeartbeats 4000000 in
set_option maxRecDepth 100000 in
theorem c_X6_markAt {l : Launch} {D : va_G} {k : Nat → ClassId} {g a : Nat → Nat} (σ ν μ : St) (h m : Int32) (hRR : RQ σ μ) : Ct l D k g yX6_markAt cX6_markAt 3 (some .int) 3 66 [.ref (a 0), .int h, .int m] (S := St × St) (wX k g a σ ν) (fun uu => wX k g a uu.1 uu.2) (fun vv uu => vv = some (.int ((op_markAt h m μ).1)) ∧ RQ uu.1 (op_markAt h m μ).2) := by
  refine Ct.ofI RX6 rfl (by decide +kernel) (Nat.le_of_ble_eq_true rfl) (fun X hC hR => ?_)
  have hT := hRR.1.2.2.1.1; have hI := hRR.1.2.2.1.2
  have hb4 := hI.hb; have hb8 := hI.mb; have hb6 := hI.pb; have hbm := hI.ob0; have hbt := hI.bb; have hbw := hI.wb
  show V X (wX k g a σ ν) [(0, .ref (a 0)), (1, .int h), (2, .int m)] [] 0
  refine V.aload_n (pc := 0) 0 hC dX6_markAt_0 rfl ?_
  refine V.get (pc := 1) (v := .ref (a 1)) hC cf_X6 0 0 fl_X6_10 (by decide) gx_0 rfl dX6_markAt_1 ?_
  refine V.iload_n (pc := 4) 1 hC dX6_markAt_4 rfl ?_
  refine V.callV0 (pc := 5) (as := [.int h]) hC (c_X3_hasHand σ ν (μ 0) h hT hI) mu_X3_hasHand ml_X6_69 (by decide) ⟨1, 3, TX3, 17, _, rfl, gx_1⟩ rfl (Nat.le_of_ble_eq_true rfl) dX6_markAt_5 ?_
  rintro _ _ rfl
  show V X (wX k g a σ ν) [(0, .ref (a 0)), (1, .int h), (2, .int m)] [.int (bI (inS h 0 ((μ 0) 2 - 1)))] 8
  refine V.if_eq_b (P := inS h 0 ((μ 0) 2 - 1)) (pc := 8) 22 hC dX6_markAt_8 (by decide) (fun c_8 => ?_) (fun c_8 => ?_)
  · refine V.aload_n (pc := 22) 0 hC dX6_markAt_22 rfl ?_
    refine V.iconst (pc := 23) 1 hC dX6_markAt_23 (by decide) ?_
    refine V.sts (st' := [.int (nI 1), .ref (a 0)]) (stc (nl 1) (stk rfl)) ?_
    refine V.callV0 (pc := 24) (as := [.int (nI 1)]) hC (c_X6_error σ ν 1 (by omega)) mu_X6_error ml_X6_57 (by decide) ⟨0, 6, TX6, 8, _, rfl, gx_0⟩ rfl (Nat.le_of_ble_eq_true rfl) dX6_markAt_24 ?_
    rintro _ f24_0 ⟨rfl, hu24_0⟩
    have hu24_0 : f24_0 = upd (σ 0) 1 (σ 0 1 + 1) := hu24_0
    show V X (wX k g a (va_up σ 0 f24_0) ν) [(0, .ref (a 0)), (1, .int h), (2, .int m)] [.int (lowE 1)] 27
    exact hR (lowE 1) ((va_up σ 0 f24_0), ν) _ _ dX6_markAt_27 rfl (ope (by rw [op_markAt, if_pos c_8] <;> rfl) (hRR.er (by omega) hu24_0))
  · refine V.iload_n (pc := 11) 2 hC dX6_markAt_11 rfl ?_
    refine V.iconst (pc := 12) 0 hC dX6_markAt_12 (by decide) ?_
    refine V.sipush (pc := 13) 9999 hC dX6_markAt_13 (by decide) ?_
    refine V.callS0 (pc := 16) (as := [.int m, .int 0, .int 9999]) hC (c_X6_within m 0 9999 ) ms_X6_within ml_X6_53 (by decide) rfl (Nat.le_of_ble_eq_true rfl) dX6_markAt_16 ?_
    rintro _ _ rfl
    show V X (wX k g a σ ν) [(0, .ref (a 0)), (1, .int h), (2, .int m)] [.int (bI (inS m 0 9999))] 19
    refine V.if_ne_b (P := inS m 0 9999) (pc := 19) 28 hC dX6_markAt_19 (by decide) (fun c_19 => ?_) (fun c_19 => ?_)
    · have hh_h := inS_n c_8 hI.hn (by omega)
      have hh_m := inS_c c_19 (nl 9999) (by omega)
      refine V.aload_n (pc := 28) 0 hC dX6_markAt_28 rfl ?_
      refine V.get (pc := 29) (v := .ref (a 1)) hC cf_X6 0 0 fl_X6_10 (by decide) gx_0 rfl dX6_markAt_29 ?_
      refine V.iload_n (pc := 32) 1 hC dX6_markAt_32 rfl ?_
      refine V.aload_n (pc := 33) 0 hC dX6_markAt_33 rfl ?_
      refine V.get (pc := 34) (v := .ref (a 1)) hC cf_X6 0 0 fl_X6_10 (by decide) gx_0 rfl dX6_markAt_34 ?_
      refine V.get (pc := 37) (v := .int (σ 20 0)) hC cf_X3 1 10 fl_X6_79 (by decide) gx_1 rfl dX6_markAt_37 ?_
      refine V.eqi (y := μ 0 0) (hT.2.2.2.1.1) ?_
      refine V.iload_n (pc := 40) 2 hC dX6_markAt_40 rfl ?_
      refine V.iadd (pc := 41) hC dX6_markAt_41 ?_
      refine V.sts (st' := [.int ((μ 0 0) + m), .int (nI (nN h)), .ref (a 1)]) (stk (stc hh_h.1 (stk rfl))) ?_
      refine V.callV0 (pc := 42) (as := [.int (nI (nN h)), .int ((μ 0 0) + m)]) hC (c_X3_markOf σ ν (μ 0) (nN h) ((μ 0 0) + m) hT hI hh_h.2 (isN.mk (nadd hI.on0 hh_m.1) (by omega) (by omega))) mu_X3_markOf ml_X6_82 (by decide) ⟨1, 3, TX3, 17, _, rfl, gx_1⟩ rfl (Nat.le_of_ble_eq_true rfl) dX6_markAt_42 ?_
      rintro _ _ rfl
      show V X (wX k g a σ ν) [(0, .ref (a 0)), (1, .int h), (2, .int m)] [.int (markS (μ 0) (nN h) ((μ 0 0) + m))] 45
      exact hR (markS (μ 0) (nN h) ((μ 0 0) + m)) (σ, ν) _ _ dX6_markAt_45 rfl (opc (m := μ) (by rw [op_markAt, if_neg (not_not_intro c_8), if_neg (not_not_intro c_19)] <;> rfl) hRR)
    · refine V.aload_n (pc := 22) 0 hC dX6_markAt_22 rfl ?_
      refine V.iconst (pc := 23) 1 hC dX6_markAt_23 (by decide) ?_
      refine V.sts (st' := [.int (nI 1), .ref (a 0)]) (stc (nl 1) (stk rfl)) ?_
      refine V.callV0 (pc := 24) (as := [.int (nI 1)]) hC (c_X6_error σ ν 1 (by omega)) mu_X6_error ml_X6_57 (by decide) ⟨0, 6, TX6, 8, _, rfl, gx_0⟩ rfl (Nat.le_of_ble_eq_true rfl) dX6_markAt_24 ?_
      rintro _ f24_0 ⟨rfl, hu24_0⟩
      have hu24_0 : f24_0 = upd (σ 0) 1 (σ 0 1 + 1) := hu24_0
      show V X (wX k g a (va_up σ 0 f24_0) ν) [(0, .ref (a 0)), (1, .int h), (2, .int m)] [.int (lowE 1)] 27
      exact hR (lowE 1) ((va_up σ 0 f24_0), ν) _ _ dX6_markAt_27 rfl (ope (by rw [op_markAt, if_neg (not_not_intro c_8), if_pos c_19] <;> rfl) (hRR.er (by omega) hu24_0))
theorem ap_pos {ρ : Rw} (hI : Inv ρ) {x y : Nat} (hx : x < nN (ρ 2)) (hy : y < nN (ρ 2)) {t : Int32} (ht : isN t 100000) : 0 < apartS ρ x y t ↔ ¬ apartS ρ x y t = 0 := by
  have h1 := (mark_n hI hx ht).1
  have h2 := (mark_n hI hy ht).1
  obtain ⟨q, hq, hqb⟩ : ∃ q, markS ρ x t = nI q ∧ q ≤ 59 := ⟨_, h1.1, h1.2⟩
  obtain ⟨c, hc, hcb⟩ : ∃ c, markS ρ y t = nI c ∧ c ≤ 59 := ⟨_, h2.1, h2.2⟩
  unfold apartS
  rw [hq, hc]
  have hs : ∀ a, a < 60 → ∀ c, c < 60 → (0 < minS (absS (nI a - nI c)) (60 - absS (nI a - nI c)) ↔ ¬ minS (absS (nI a - nI c)) (60 - absS (nI a - nI c)) = 0) := by decide +kernel
  exact hs q (by omega) c (by omega)

set_option maxHeartbeats 4000000 in
set_option maxRecDepth 100000 in
theorem c_X6_meet {l : Launch} {D : va_G} {k : Nat → ClassId} {g a : Nat → Nat} (σ ν μ : St) (x y : Int32) (hRR : RQ σ μ) : Ct l D k g yX6_meet cX6_meet 4 (some .int) 4 90 [.ref (a 0), .int x, .int y] (S := St × St) (wX k g a σ ν) (fun uu => wX k g a uu.1 uu.2) (fun vv uu => vv = some (.int ((op_meet x y μ).1)) ∧ RQ uu.1 (op_meet x y μ).2) := by
  refine Ct.ofI RX6 rfl (by decide +kernel) (Nat.le_of_ble_eq_true rfl) (fun X hC hR => ?_)
  have hT := hRR.1.2.2.1.1; have hI := hRR.1.2.2.1.2
  have hb4 := hI.hb; have hb8 := hI.mb; have hb6 := hI.pb; have hbm := hI.ob0; have hbt := hI.bb; have hbw := hI.wb
  show V X (wX k g a σ ν) [(0, .ref (a 0)), (1, .int x), (2, .int y)] [] 0
  refine V.aload_n (pc := 0) 0 hC dX6_meet_0 rfl ?_
  refine V.get (pc := 1) (v := .ref (a 1)) hC cf_X6 0 0 fl_X6_10 (by decide) gx_0 rfl dX6_meet_1 ?_
  refine V.iload_n (pc := 4) 1 hC dX6_meet_4 rfl ?_
  refine V.callV0 (pc := 5) (as := [.int x]) hC (c_X3_hasHand σ ν (μ 0) x hT hI) mu_X3_hasHand ml_X6_69 (by decide) ⟨1, 3, TX3, 17, _, rfl, gx_1⟩ rfl (Nat.le_of_ble_eq_true rfl) dX6_meet_5 ?_
  rintro _ _ rfl
  show V X (wX k g a σ ν) [(0, .ref (a 0)), (1, .int x), (2, .int y)] [.int (bI (inS x 0 ((μ 0) 2 - 1)))] 8
  refine V.if_eq_b (P := inS x 0 ((μ 0) 2 - 1)) (pc := 8) 27 hC dX6_meet_8 (by decide) (fun c_8 => ?_) (fun c_8 => ?_)
  · refine V.aload_n (pc := 27) 0 hC dX6_meet_27 rfl ?_
    refine V.iconst (pc := 28) 1 hC dX6_meet_28 (by decide) ?_
    refine V.sts (st' := [.int (nI 1), .ref (a 0)]) (stc (nl 1) (stk rfl)) ?_
    refine V.callV0 (pc := 29) (as := [.int (nI 1)]) hC (c_X6_error σ ν 1 (by omega)) mu_X6_error ml_X6_57 (by decide) ⟨0, 6, TX6, 8, _, rfl, gx_0⟩ rfl (Nat.le_of_ble_eq_true rfl) dX6_meet_29 ?_
    rintro _ f29_0 ⟨rfl, hu29_0⟩
    have hu29_0 : f29_0 = upd (σ 0) 1 (σ 0 1 + 1) := hu29_0
    show V X (wX k g a (va_up σ 0 f29_0) ν) [(0, .ref (a 0)), (1, .int x), (2, .int y)] [.int (lowE 1)] 32
    exact hR (lowE 1) ((va_up σ 0 f29_0), ν) _ _ dX6_meet_32 rfl (ope (by rw [op_meet, if_pos c_8] <;> rfl) (hRR.er (by omega) hu29_0))
  · refine V.aload_n (pc := 11) 0 hC dX6_meet_11 rfl ?_
    refine V.get (pc := 12) (v := .ref (a 1)) hC cf_X6 0 0 fl_X6_10 (by decide) gx_0 rfl dX6_meet_12 ?_
    refine V.iload_n (pc := 15) 2 hC dX6_meet_15 rfl ?_
    refine V.callV0 (pc := 16) (as := [.int y]) hC (c_X3_hasHand σ ν (μ 0) y hT hI) mu_X3_hasHand ml_X6_69 (by decide) ⟨1, 3, TX3, 17, _, rfl, gx_1⟩ rfl (Nat.le_of_ble_eq_true rfl) dX6_meet_16 ?_
    rintro _ _ rfl
    show V X (wX k g a σ ν) [(0, .ref (a 0)), (1, .int x), (2, .int y)] [.int (bI (inS y 0 ((μ 0) 2 - 1)))] 19
    refine V.if_eq_b (P := inS y 0 ((μ 0) 2 - 1)) (pc := 19) 27 hC dX6_meet_19 (by decide) (fun c_19 => ?_) (fun c_19 => ?_)
    · refine V.aload_n (pc := 27) 0 hC dX6_meet_27 rfl ?_
      refine V.iconst (pc := 28) 1 hC dX6_meet_28 (by decide) ?_
      refine V.sts (st' := [.int (nI 1), .ref (a 0)]) (stc (nl 1) (stk rfl)) ?_
      refine V.callV0 (pc := 29) (as := [.int (nI 1)]) hC (c_X6_error σ ν 1 (by omega)) mu_X6_error ml_X6_57 (by decide) ⟨0, 6, TX6, 8, _, rfl, gx_0⟩ rfl (Nat.le_of_ble_eq_true rfl) dX6_meet_29 ?_
      rintro _ f29_0 ⟨rfl, hu29_0⟩
      have hu29_0 : f29_0 = upd (σ 0) 1 (σ 0 1 + 1) := hu29_0
      show V X (wX k g a (va_up σ 0 f29_0) ν) [(0, .ref (a 0)), (1, .int x), (2, .int y)] [.int (lowE 1)] 32
      exact hR (lowE 1) ((va_up σ 0 f29_0), ν) _ _ dX6_meet_32 rfl (ope (by rw [op_meet, if_neg (not_not_intro c_8), if_pos c_19] <;> rfl) (hRR.er (by omega) hu29_0))
    · have hh_x := inS_n c_8 hI.hn (by omega)
      have hh_y := inS_n c_19 hI.hn (by omega)
      refine V.iload_n (pc := 22) 1 hC dX6_meet_22 rfl ?_
      refine V.iload_n (pc := 23) 2 hC dX6_meet_23 rfl ?_
      refine V.icmp_ne (pc := 24) 33 hC dX6_meet_24 (by decide) (fun c_24 => ?_) (fun c_24 => ?_)
      · refine V.iconst (pc := 33) 0 hC dX6_meet_33 (by decide) ?_
        refine V.istore_n (pc := 34) [(3, .int 0), (0, .ref (a 0)), (1, .int x), (2, .int y)] hC dX6_meet_34 (by decide) rfl ?_
        have loop_35 : ∀ (n : Nat) (i : Nat), i + n = 1441 → metS (μ 0) (nN x) (nN y) = srch (fun i => decide (¬ 0 < apartS (μ 0) (nN x) (nN y) (μ 0 0 + nI i))) n i → V X (wX k g a σ ν) [(0, .ref (a 0)), (1, .int x), (2, .int y), (3, .int (nI i))] [] 35 := by
          intro n
          induction n with
          | zero =>
            intro i hi hv
            refine V.iload_n (pc := 35) 3 hC dX6_meet_35 rfl ?_
            refine V.sipush (pc := 36) 1440 hC dX6_meet_36 (by decide) ?_
            refine V.icmp_gt (pc := 39) 71 hC dX6_meet_39 (by decide) (fun c_39 => ?_) (fun c_39 => ?_)
            · have nc_39 : 1440 < i := (nlt (nl 1440) rfl (by omega) (by omega)).mp c_39
              refine V.aload_n (pc := 71) 0 hC dX6_meet_71 rfl ?_
              refine V.iconst (pc := 72) 2 hC dX6_meet_72 (by decide) ?_
              refine V.sts (st' := [.int (nI 2), .ref (a 0)]) (stc (nl 2) (stk rfl)) ?_
              refine V.callV0 (pc := 73) (as := [.int (nI 2)]) hC (c_X6_error σ ν 2 (by omega)) mu_X6_error ml_X6_57 (by decide) ⟨0, 6, TX6, 8, _, rfl, gx_0⟩ rfl (Nat.le_of_ble_eq_true rfl) dX6_meet_73 ?_
              rintro _ f73_0 ⟨rfl, hu73_0⟩
              have hu73_0 : f73_0 = upd (σ 0) 2 (σ 0 2 + 1) := hu73_0
              show V X (wX k g a (va_up σ 0 f73_0) ν) [(0, .ref (a 0)), (1, .int x), (2, .int y), (3, .int (nI i))] [.int (lowE 2)] 76
              exact hR (lowE 2) ((va_up σ 0 f73_0), ν) _ _ dX6_meet_76 rfl (ope (by rw [op_meet, if_neg (not_not_intro c_8), if_neg (not_not_intro c_19), if_neg c_24, show metS (μ 0) (nN x) (nN y) = i from hv, if_pos (by omega)] <;> rfl) (hRR.er (by omega) hu73_0))
            · have nc_39 : ¬ (1440 < i) := fun z => c_39 ((nlt (nl 1440) rfl (by omega) (by omega)).mpr z)
              exfalso; omega
          | succ n ih =>
            intro i hi hv
            refine V.iload_n (pc := 35) 3 hC dX6_meet_35 rfl ?_
            refine V.sipush (pc := 36) 1440 hC dX6_meet_36 (by decide) ?_
            refine V.icmp_gt (pc := 39) 71 hC dX6_meet_39 (by decide) (fun c_39 => ?_) (fun c_39 => ?_)
            · have nc_39 : 1440 < i := (nlt (nl 1440) rfl (by omega) (by omega)).mp c_39
              exfalso; omega
            · have nc_39 : ¬ (1440 < i) := fun z => c_39 ((nlt (nl 1440) rfl (by omega) (by omega)).mpr z)
              refine V.aload_n (pc := 42) 0 hC dX6_meet_42 rfl ?_
              refine V.get (pc := 43) (v := .ref (a 1)) hC cf_X6 0 0 fl_X6_10 (by decide) gx_0 rfl dX6_meet_43 ?_
              refine V.iload_n (pc := 46) 1 hC dX6_meet_46 rfl ?_
              refine V.iload_n (pc := 47) 2 hC dX6_meet_47 rfl ?_
              refine V.aload_n (pc := 48) 0 hC dX6_meet_48 rfl ?_
              refine V.get (pc := 49) (v := .ref (a 1)) hC cf_X6 0 0 fl_X6_10 (by decide) gx_0 rfl dX6_meet_49 ?_
              refine V.get (pc := 52) (v := .int (σ 20 0)) hC cf_X3 1 10 fl_X6_79 (by decide) gx_1 rfl dX6_meet_52 ?_
              refine V.eqi (y := μ 0 0) (hT.2.2.2.1.1) ?_
              refine V.iload_n (pc := 55) 3 hC dX6_meet_55 rfl ?_
              refine V.iadd (pc := 56) hC dX6_meet_56 ?_
              refine V.sts (st' := [.int ((μ 0 0) + (nI i)), .int (nI (nN y)), .int (nI (nN x)), .ref (a 1)]) (stk (stc hh_y.1 (stc hh_x.1 (stk rfl)))) ?_
              refine V.callV0 (pc := 57) (as := [.int (nI (nN x)), .int (nI (nN y)), .int ((μ 0 0) + (nI i))]) hC (c_X3_apart σ ν (μ 0) (nN x) (nN y) ((μ 0 0) + (nI i)) hT hI hh_x.2 hh_y.2 (isN.mk (nadd hI.on0 rfl) (by omega) (by omega))) mu_X3_apart ml_X6_197 (by decide) ⟨1, 3, TX3, 17, _, rfl, gx_1⟩ rfl (Nat.le_of_ble_eq_true rfl) dX6_meet_57 ?_
              rintro _ _ rfl
              show V X (wX k g a σ ν) [(0, .ref (a 0)), (1, .int x), (2, .int y), (3, .int (nI i))] [.int (apartS (μ 0) (nN x) (nN y) ((μ 0 0) + (nI i)))] 60
              refine V.if_ne (pc := 60) 65 hC dX6_meet_60 (by decide) (fun c_60 => ?_) (fun c_60 => ?_)
              · refine V.iinc (pc := 65) 3 (nI (i + 1)) [(3, .int (nI (i + 1))), (0, .ref (a 0)), (1, .int x), (2, .int y)] hC dX6_meet_65 rfl (ncast (nadd rfl (nl 1)) (by omega)) (by decide) rfl ?_
                refine V.goto (pc := 68) 35 hC dX6_meet_68 (by decide) ?_
                exact V.sub [1, 2, 3, 0] rfl (ih (i + 1) (by omega) (srch_go hv (by simp only [decide_eq_true_eq]; exact not_not_intro ((ap_pos hI hh_x.2 hh_y.2 (isN.mk (nadd hI.on0 rfl) (by omega) (by omega))).mpr c_60))))
              · refine V.iload_n (pc := 63) 3 hC dX6_meet_63 rfl ?_
                exact hR (nI i) (σ, ν) _ _ dX6_meet_64 rfl (opc (m := μ) (by rw [op_meet, if_neg (not_not_intro c_8), if_neg (not_not_intro c_19), if_neg c_24, show metS (μ 0) (nN x) (nN y) = i from srch_at hv (by simp only [decide_eq_true_eq]; exact fun z => (ap_pos hI hh_x.2 hh_y.2 (isN.mk (nadd hI.on0 rfl) (by omega) (by omega))).mp z c_60), if_neg (by omega)]) hRR)
        exact V.sub [1, 2, 3, 0] rfl (loop_35 1441 0 (by omega) rfl)
      · refine V.aload_n (pc := 27) 0 hC dX6_meet_27 rfl ?_
        refine V.iconst (pc := 28) 1 hC dX6_meet_28 (by decide) ?_
        refine V.sts (st' := [.int (nI 1), .ref (a 0)]) (stc (nl 1) (stk rfl)) ?_
        refine V.callV0 (pc := 29) (as := [.int (nI 1)]) hC (c_X6_error σ ν 1 (by omega)) mu_X6_error ml_X6_57 (by decide) ⟨0, 6, TX6, 8, _, rfl, gx_0⟩ rfl (Nat.le_of_ble_eq_true rfl) dX6_meet_29 ?_
        rintro _ f29_0 ⟨rfl, hu29_0⟩
        have hu29_0 : f29_0 = upd (σ 0) 1 (σ 0 1 + 1) := hu29_0
        show V X (wX k g a (va_up σ 0 f29_0) ν) [(0, .ref (a 0)), (1, .int x), (2, .int y)] [.int (lowE 1)] 32
        exact hR (lowE 1) ((va_up σ 0 f29_0), ν) _ _ dX6_meet_32 rfl (ope (by rw [op_meet, if_neg (not_not_intro c_8), if_neg (not_not_intro c_19), if_pos c_24] <;> rfl) (hRR.er (by omega) hu29_0))
set_option maxHeartbeats 4000000 in
set_option maxRecDepth 100000 in
theorem c_X6_council {l : Launch} {D : va_G} {k : Nat → ClassId} {g a : Nat → Nat} (σ ν μ : St) (hRR : RQ σ μ) : Ct l D k g yX6_council cX6_council 2 (some .int) 4 89 [.ref (a 0)] (S := St × St) (wX k g a σ ν) (fun uu => wX k g a uu.1 uu.2) (fun vv uu => vv = some (.int ((op_council μ).1)) ∧ RQ uu.1 (op_council μ).2) := by
  refine Ct.ofI RX6 rfl (by decide +kernel) (Nat.le_of_ble_eq_true rfl) (fun X hC hR => ?_)
  have hT := hRR.1.2.2.1.1; have hI := hRR.1.2.2.1.2
  have hb4 := hI.hb; have hb8 := hI.mb; have hb6 := hI.pb; have hbm := hI.ob0; have hbt := hI.bb; have hbw := hI.wb
  show V X (wX k g a σ ν) [(0, .ref (a 0))] [] 0
  refine V.aload_n (pc := 0) 0 hC dX6_council_0 rfl ?_
  refine V.get (pc := 1) (v := .ref (a 1)) hC cf_X6 0 0 fl_X6_10 (by decide) gx_0 rfl dX6_council_1 ?_
  refine V.get (pc := 4) (v := .int (σ 10 0)) hC cf_X3 1 0 fl_X6_61 (by decide) gx_1 rfl dX6_council_4 ?_
  refine V.eqi (y := μ 0 2) (hT.1.1) ?_
  refine V.if_ne (pc := 7) 16 hC dX6_council_7 (by decide) (fun c_7 => ?_) (fun c_7 => ?_)
  · have h0 : 0 < nN (μ 0 2) := Nat.pos_of_ne_zero (fun z => c_7 (by rw [hI.hn, z]; rfl))
    refine V.iconst (pc := 16) 0 hC dX6_council_16 (by decide) ?_
    refine V.istore_n (pc := 17) [(1, .int 0), (0, .ref (a 0))] hC dX6_council_17 (by decide) rfl ?_
    have loop_18 : ∀ (n : Nat) (i : Nat), i + n = 10000 → couS (μ 0) = srch (fun i => almS (μ 0) (μ 0 0 + nI i)) n i → V X (wX k g a σ ν) [(0, .ref (a 0)), (1, .int (nI i))] [] 18 := by
      intro n
      induction n with
      | zero =>
        intro i hi hv
        refine V.iload_n (pc := 18) 1 hC dX6_council_18 rfl ?_
        refine V.sipush (pc := 19) 9999 hC dX6_council_19 (by decide) ?_
        refine V.icmp_gt (pc := 22) 52 hC dX6_council_22 (by decide) (fun c_22 => ?_) (fun c_22 => ?_)
        · have nc_22 : 9999 < i := (nlt (nl 9999) rfl (by omega) (by omega)).mp c_22
          refine V.aload_n (pc := 52) 0 hC dX6_council_52 rfl ?_
          refine V.iconst (pc := 53) 2 hC dX6_council_53 (by decide) ?_
          refine V.sts (st' := [.int (nI 2), .ref (a 0)]) (stc (nl 2) (stk rfl)) ?_
          refine V.callV0 (pc := 54) (as := [.int (nI 2)]) hC (c_X6_error σ ν 2 (by omega)) mu_X6_error ml_X6_57 (by decide) ⟨0, 6, TX6, 8, _, rfl, gx_0⟩ rfl (Nat.le_of_ble_eq_true rfl) dX6_council_54 ?_
          rintro _ f54_0 ⟨rfl, hu54_0⟩
          have hu54_0 : f54_0 = upd (σ 0) 2 (σ 0 2 + 1) := hu54_0
          show V X (wX k g a (va_up σ 0 f54_0) ν) [(0, .ref (a 0)), (1, .int (nI i))] [.int (lowE 2)] 57
          exact hR (lowE 2) ((va_up σ 0 f54_0), ν) _ _ dX6_council_57 rfl (ope (by rw [op_council, if_neg c_7, show couS (μ 0) = i from hv, if_pos (by omega)] <;> rfl) (hRR.er (by omega) hu54_0))
        · have nc_22 : ¬ (9999 < i) := fun z => c_22 ((nlt (nl 9999) rfl (by omega) (by omega)).mpr z)
          exfalso; omega
      | succ n ih =>
        intro i hi hv
        refine V.iload_n (pc := 18) 1 hC dX6_council_18 rfl ?_
        refine V.sipush (pc := 19) 9999 hC dX6_council_19 (by decide) ?_
        refine V.icmp_gt (pc := 22) 52 hC dX6_council_22 (by decide) (fun c_22 => ?_) (fun c_22 => ?_)
        · have nc_22 : 9999 < i := (nlt (nl 9999) rfl (by omega) (by omega)).mp c_22
          exfalso; omega
        · have nc_22 : ¬ (9999 < i) := fun z => c_22 ((nlt (nl 9999) rfl (by omega) (by omega)).mpr z)
          refine V.aload_n (pc := 25) 0 hC dX6_council_25 rfl ?_
          refine V.get (pc := 26) (v := .ref (a 1)) hC cf_X6 0 0 fl_X6_10 (by decide) gx_0 rfl dX6_council_26 ?_
          refine V.aload_n (pc := 29) 0 hC dX6_council_29 rfl ?_
          refine V.get (pc := 30) (v := .ref (a 1)) hC cf_X6 0 0 fl_X6_10 (by decide) gx_0 rfl dX6_council_30 ?_
          refine V.get (pc := 33) (v := .int (σ 20 0)) hC cf_X3 1 10 fl_X6_79 (by decide) gx_1 rfl dX6_council_33 ?_
          refine V.eqi (y := μ 0 0) (hT.2.2.2.1.1) ?_
          refine V.iload_n (pc := 36) 1 hC dX6_council_36 rfl ?_
          refine V.iadd (pc := 37) hC dX6_council_37 ?_
          refine V.callV0 (pc := 38) (as := [.int ((μ 0 0) + (nI i))]) hC (c_X3_allMeet σ ν (μ 0) ((μ 0 0) + (nI i)) hT hI h0 (isN.mk (nadd hI.on0 rfl) (by omega) (by omega))) mu_X3_allMeet ml_X6_200 (by decide) ⟨1, 3, TX3, 17, _, rfl, gx_1⟩ rfl (Nat.le_of_ble_eq_true rfl) dX6_council_38 ?_
          rintro _ _ rfl
          show V X (wX k g a σ ν) [(0, .ref (a 0)), (1, .int (nI i))] [.int (bI (almS (μ 0) ((μ 0 0) + (nI i)) = true))] 41
          refine V.if_eq_b (P := almS (μ 0) ((μ 0 0) + (nI i)) = true) (pc := 41) 46 hC dX6_council_41 (by decide) (fun c_41 => ?_) (fun c_41 => ?_)
          · refine V.iinc (pc := 46) 1 (nI (i + 1)) [(1, .int (nI (i + 1))), (0, .ref (a 0))] hC dX6_council_46 rfl (ncast (nadd rfl (nl 1)) (by omega)) (by decide) rfl ?_
            refine V.goto (pc := 49) 18 hC dX6_council_49 (by decide) ?_
            exact V.sub [1, 0] rfl (ih (i + 1) (by omega) (srch_go hv c_41))
          · refine V.iload_n (pc := 44) 1 hC dX6_council_44 rfl ?_
            exact hR (nI i) (σ, ν) _ _ dX6_council_45 rfl (opc (m := μ) (by rw [op_council, if_neg c_7, show couS (μ 0) = i from srch_at hv c_41, if_neg (by omega)]) hRR)
    exact V.sub [1, 0] rfl (loop_18 10000 0 (by omega) rfl)
  · refine V.aload_n (pc := 10) 0 hC dX6_council_10 rfl ?_
    refine V.iconst (pc := 11) 3 hC dX6_council_11 (by decide) ?_
    refine V.sts (st' := [.int (nI 3), .ref (a 0)]) (stc (nl 3) (stk rfl)) ?_
    refine V.callV0 (pc := 12) (as := [.int (nI 3)]) hC (c_X6_error σ ν 3 (by omega)) mu_X6_error ml_X6_57 (by decide) ⟨0, 6, TX6, 8, _, rfl, gx_0⟩ rfl (Nat.le_of_ble_eq_true rfl) dX6_council_12 ?_
    rintro _ f12_0 ⟨rfl, hu12_0⟩
    have hu12_0 : f12_0 = upd (σ 0) 3 (σ 0 3 + 1) := hu12_0
    show V X (wX k g a (va_up σ 0 f12_0) ν) [(0, .ref (a 0))] [.int (lowE 3)] 15
    exact hR (lowE 3) ((va_up σ 0 f12_0), ν) _ _ dX6_council_15 rfl (ope (by rw [op_council, if_pos c_7] <;> rfl) (hRR.er (by omega) hu12_0))
