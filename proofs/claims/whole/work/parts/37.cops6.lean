set_option maxHeartbeats 4000000 in
set_option maxRecDepth 100000 in
theorem c_X6_sheet {l : Launch} {D : va_G} {k : Nat → ClassId} {g a : Nat → Nat} (σ ν μ : St) (s bt m : Int32) (hRR : RQ σ μ) : Ct l D k g yX6_sheet cX6_sheet 4 (some .int) 2 42 [.ref (a 0), .int s, .int bt, .int m] (S := St × St) (wX k g a σ ν) (fun uu => wX k g a uu.1 uu.2) (fun vv uu => vv = some (.int ((op_sheet s bt m μ).1)) ∧ RQ uu.1 (op_sheet s bt m μ).2) := by
  refine Ct.ofI RX6 rfl (by decide +kernel) (Nat.le_of_ble_eq_true rfl) (fun X hC hR => ?_)
  have hT := hRR.1.2.2.1.1; have hI := hRR.1.2.2.1.2
  have hb4 := hI.hb; have hb8 := hI.mb; have hb6 := hI.pb; have hbm := hI.ob0; have hbt := hI.bb; have hbw := hI.wb
  show V X (wX k g a σ ν) [(0, .ref (a 0)), (1, .int s), (2, .int bt), (3, .int m)] [] 0
  refine V.iload_n (pc := 0) 1 hC dX6_sheet_0 rfl ?_
  refine V.callS0 (pc := 1) (as := [.int s]) hC (c_X6_isSheet s ) ms_X6_isSheet ml_X6_241 (by decide) rfl (Nat.le_of_ble_eq_true rfl) dX6_sheet_1 ?_
  rintro _ _ rfl
  show V X (wX k g a σ ν) [(0, .ref (a 0)), (1, .int s), (2, .int bt), (3, .int m)] [.int (bI (inS s 0 3))] 4
  refine V.if_eq_b (P := inS s 0 3) (pc := 4) 29 hC dX6_sheet_4 (by decide) (fun c_4 => ?_) (fun c_4 => ?_)
  · refine V.aload_n (pc := 29) 0 hC dX6_sheet_29 rfl ?_
    refine V.iconst (pc := 30) 1 hC dX6_sheet_30 (by decide) ?_
    refine V.sts (st' := [.int (nI 1), .ref (a 0)]) (stc (nl 1) (stk rfl)) ?_
    refine V.callV0 (pc := 31) (as := [.int (nI 1)]) hC (c_X6_error σ ν 1 (by omega)) mu_X6_error ml_X6_57 (by decide) ⟨0, 6, TX6, 8, _, rfl, gx_0⟩ rfl (Nat.le_of_ble_eq_true rfl) dX6_sheet_31 ?_
    rintro _ f31_0 ⟨rfl, hu31_0⟩
    have hu31_0 : f31_0 = upd (σ 0) 1 (σ 0 1 + 1) := hu31_0
    show V X (wX k g a (va_up σ 0 f31_0) ν) [(0, .ref (a 0)), (1, .int s), (2, .int bt), (3, .int m)] [.int (lowE 1)] 34
    exact hR (lowE 1) ((va_up σ 0 f31_0), ν) _ _ dX6_sheet_34 rfl (ope (by rw [op_sheet, if_pos c_4] <;> rfl) (hRR.er (by omega) hu31_0))
  · refine V.iload_n (pc := 7) 2 hC dX6_sheet_7 rfl ?_
    refine V.if_eq (pc := 8) 35 hC dX6_sheet_8 (by decide) (fun c_8 => ?_) (fun c_8 => ?_)
    · have hB : bt = 0 ∨ bt = 8 ∨ bt = 16 ∨ bt = 32 := Or.inl c_8
      have hps : ¬ bt = 0 → 0 < bt := fun q => by rcases hB with z | z | z | z; exact absurd z q; all_goals (rw [z]; decide)
      refine V.iload_n (pc := 35) 2 hC dX6_sheet_35 rfl ?_
      refine V.if_eq (pc := 36) 49 hC dX6_sheet_36 (by decide) (fun c_36 => ?_) (fun c_36 => ?_)
      · refine V.iload_n (pc := 49) 2 hC dX6_sheet_49 rfl ?_
        refine V.if_eq (pc := 50) 65 hC dX6_sheet_50 (by decide) (fun c_50 => ?_) (fun c_50 => ?_)
        · by_cases s0 : s = 0
          · subst s0
            refine V.aload_n (pc := 65) 0 hC dX6_sheet_65 rfl ?_
            refine V.get (pc := 66) (v := .ref (a 6)) hC cf_X6 0 5 fl_X6_45 (by decide) gx_0 rfl dX6_sheet_66 ?_
            refine V.iload_n (pc := 69) 1 hC dX6_sheet_69 rfl ?_
            refine V.aldS (pc := 70) hC 6 0 (a 90) gx_6 (nl 0) (by omega) (by decide) rfl dX6_sheet_70 ?_
            refine V.iload_n (pc := 71) 2 hC dX6_sheet_71 rfl ?_
            refine V.iload_n (pc := 72) 2 hC dX6_sheet_72 rfl ?_
            refine V.if_ne (pc := 73) 80 hC dX6_sheet_73 (by decide) (fun c_73 => ?_) (fun c_73 => ?_)
            · exact absurd c_50 c_73
            · refine V.iconst (pc := 76) 0 hC dX6_sheet_76 (by decide) ?_
              refine V.goto (pc := 77) 81 hC dX6_sheet_77 (by decide) ?_
              refine V.sts (st' := [.int (nI 0), .int bt, .ref (a 90)]) (stc (nl 0) (stk (stk rfl))) ?_
              refine V.callV0 (pc := 81) (as := [.int bt, .int (nI 0)]) hC (c_X2_lay_0 σ ν bt 0 (by omega)) mu_X2_lay ml_X6_244 (by decide) ⟨47, 2, TX2, 3, _, rfl, gx_47⟩ rfl (Nat.le_of_ble_eq_true rfl) dX6_sheet_81 ?_
              rintro _ ⟨i81_0, i81_1, f81_2⟩ ⟨rfl, hu81_0, hu81_1, hu81_2⟩
              have hu81_0 : i81_0 = bt := hu81_0
              have hu81_1 : i81_1 = nI 0 := hu81_1
              have hu81_2 : ∀ i, i < 0 → f81_2 i = 0 := hu81_2
              show V X (wX k g a (va_up (va_up (va_up σ 90 (fun _ => i81_0)) 94 (fun _ => i81_1)) 98 f81_2) ν) [(0, .ref (a 0)), (1, .int 0), (2, .int bt), (3, .int m)] [] 84
              refine V.iconst (pc := 84) 1 hC dX6_sheet_84 (by decide) ?_
              exact hR 1 ((va_up (va_up (va_up σ 90 (fun _ => i81_0)) 94 (fun _ => i81_1)) 98 f81_2), ν) _ _ dX6_sheet_85 rfl (opc (m := va_up (va_up (va_up μ 4 (upd (μ 4) 0 bt)) 5 (upd (μ 5) 0 0)) 6 (clrS (μ 6) (24 * 0))) (by rw [op_sheet, if_neg (not_not_intro c_4), if_neg (fun q => hB.elim q.1 (fun z => z.elim q.2.1 (fun z => z.elim q.2.2.1 q.2.2.2))), if_neg (fun q => absurd q.1 (by rw [c_36]; decide)), if_neg (fun q => absurd q.1 (by rw [c_36]; decide)), if_pos c_73] <;> rfl)
        (hRR.sheet (s := 0) (by omega) (fun j h1 h2 h3 => ((va_up_ne _ _ h3).trans (va_up_ne _ _ h2)).trans (va_up_ne _ _ h1)) (fun j h1 h2 h3 => ((va_up_ne _ _ h3).trans (va_up_ne _ _ h2)).trans (va_up_ne _ _ h1)) (fun q hq => upd_ne hq) (fun q hq => upd_ne hq) (fun q hq => if_neg (by omega)) ⟨hu81_0.trans (show bt = upd (μ 4) 0 bt 0 from upd_eq.symm), hu81_1.trans (show nI 0 = upd (μ 5) 0 0 0 from upd_eq.symm), isN.mk (n := 0) (show upd (μ 5) 0 0 0 = nI 0 from upd_eq) (by omega) (by omega), fun i hi => (hu81_2 i (by
          have q1 : i < nN (upd (μ 5) 0 0 0) := hi
          rw [upd_eq] at q1
          exact absurd q1 (by rw [show nN 0 = 0 from rfl]; omega))).trans (show (0 : Int32) = clrS (μ 6) (24 * 0) (24 * 0 + i) from (if_pos (by
          have q1 : i < nN (upd (μ 5) 0 0 0) := hi
          rw [upd_eq] at q1
          exact absurd q1 (by rw [show nN 0 = 0 from rfl]; omega))).symm)⟩))
          · by_cases s1 : s = 1
            · subst s1
              refine V.aload_n (pc := 65) 0 hC dX6_sheet_65 rfl ?_
              refine V.get (pc := 66) (v := .ref (a 6)) hC cf_X6 0 5 fl_X6_45 (by decide) gx_0 rfl dX6_sheet_66 ?_
              refine V.iload_n (pc := 69) 1 hC dX6_sheet_69 rfl ?_
              refine V.aldS (pc := 70) hC 6 1 (a 91) gx_6 (nl 1) (by omega) (by decide) rfl dX6_sheet_70 ?_
              refine V.iload_n (pc := 71) 2 hC dX6_sheet_71 rfl ?_
              refine V.iload_n (pc := 72) 2 hC dX6_sheet_72 rfl ?_
              refine V.if_ne (pc := 73) 80 hC dX6_sheet_73 (by decide) (fun c_73 => ?_) (fun c_73 => ?_)
              · exact absurd c_50 c_73
              · refine V.iconst (pc := 76) 0 hC dX6_sheet_76 (by decide) ?_
                refine V.goto (pc := 77) 81 hC dX6_sheet_77 (by decide) ?_
                refine V.sts (st' := [.int (nI 0), .int bt, .ref (a 91)]) (stc (nl 0) (stk (stk rfl))) ?_
                refine V.callV0 (pc := 81) (as := [.int bt, .int (nI 0)]) hC (c_X2_lay_1 σ ν bt 0 (by omega)) mu_X2_lay ml_X6_244 (by decide) ⟨48, 2, TX2, 3, _, rfl, gx_48⟩ rfl (Nat.le_of_ble_eq_true rfl) dX6_sheet_81 ?_
                rintro _ ⟨i81_0, i81_1, f81_2⟩ ⟨rfl, hu81_0, hu81_1, hu81_2⟩
                have hu81_0 : i81_0 = bt := hu81_0
                have hu81_1 : i81_1 = nI 0 := hu81_1
                have hu81_2 : ∀ i, i < 0 → f81_2 i = 0 := hu81_2
                show V X (wX k g a (va_up (va_up (va_up σ 91 (fun _ => i81_0)) 95 (fun _ => i81_1)) 99 f81_2) ν) [(0, .ref (a 0)), (1, .int 1), (2, .int bt), (3, .int m)] [] 84
                refine V.iconst (pc := 84) 1 hC dX6_sheet_84 (by decide) ?_
                exact hR 1 ((va_up (va_up (va_up σ 91 (fun _ => i81_0)) 95 (fun _ => i81_1)) 99 f81_2), ν) _ _ dX6_sheet_85 rfl (opc (m := va_up (va_up (va_up μ 4 (upd (μ 4) 1 bt)) 5 (upd (μ 5) 1 0)) 6 (clrS (μ 6) (24 * 1))) (by rw [op_sheet, if_neg (not_not_intro c_4), if_neg (fun q => hB.elim q.1 (fun z => z.elim q.2.1 (fun z => z.elim q.2.2.1 q.2.2.2))), if_neg (fun q => absurd q.1 (by rw [c_36]; decide)), if_neg (fun q => absurd q.1 (by rw [c_36]; decide)), if_pos c_73] <;> rfl)
        (hRR.sheet (s := 1) (by omega) (fun j h1 h2 h3 => ((va_up_ne _ _ h3).trans (va_up_ne _ _ h2)).trans (va_up_ne _ _ h1)) (fun j h1 h2 h3 => ((va_up_ne _ _ h3).trans (va_up_ne _ _ h2)).trans (va_up_ne _ _ h1)) (fun q hq => upd_ne hq) (fun q hq => upd_ne hq) (fun q hq => if_neg (by omega)) ⟨hu81_0.trans (show bt = upd (μ 4) 1 bt 1 from upd_eq.symm), hu81_1.trans (show nI 0 = upd (μ 5) 1 0 1 from upd_eq.symm), isN.mk (n := 0) (show upd (μ 5) 1 0 1 = nI 0 from upd_eq) (by omega) (by omega), fun i hi => (hu81_2 i (by
          have q1 : i < nN (upd (μ 5) 1 0 1) := hi
          rw [upd_eq] at q1
          exact absurd q1 (by rw [show nN 0 = 0 from rfl]; omega))).trans (show (0 : Int32) = clrS (μ 6) (24 * 1) (24 * 1 + i) from (if_pos (by
          have q1 : i < nN (upd (μ 5) 1 0 1) := hi
          rw [upd_eq] at q1
          exact absurd q1 (by rw [show nN 0 = 0 from rfl]; omega))).symm)⟩))
            · by_cases s2 : s = 2
              · subst s2
                refine V.aload_n (pc := 65) 0 hC dX6_sheet_65 rfl ?_
                refine V.get (pc := 66) (v := .ref (a 6)) hC cf_X6 0 5 fl_X6_45 (by decide) gx_0 rfl dX6_sheet_66 ?_
                refine V.iload_n (pc := 69) 1 hC dX6_sheet_69 rfl ?_
                refine V.aldS (pc := 70) hC 6 2 (a 92) gx_6 (nl 2) (by omega) (by decide) rfl dX6_sheet_70 ?_
                refine V.iload_n (pc := 71) 2 hC dX6_sheet_71 rfl ?_
                refine V.iload_n (pc := 72) 2 hC dX6_sheet_72 rfl ?_
                refine V.if_ne (pc := 73) 80 hC dX6_sheet_73 (by decide) (fun c_73 => ?_) (fun c_73 => ?_)
                · exact absurd c_50 c_73
                · refine V.iconst (pc := 76) 0 hC dX6_sheet_76 (by decide) ?_
                  refine V.goto (pc := 77) 81 hC dX6_sheet_77 (by decide) ?_
                  refine V.sts (st' := [.int (nI 0), .int bt, .ref (a 92)]) (stc (nl 0) (stk (stk rfl))) ?_
                  refine V.callV0 (pc := 81) (as := [.int bt, .int (nI 0)]) hC (c_X2_lay_2 σ ν bt 0 (by omega)) mu_X2_lay ml_X6_244 (by decide) ⟨49, 2, TX2, 3, _, rfl, gx_49⟩ rfl (Nat.le_of_ble_eq_true rfl) dX6_sheet_81 ?_
                  rintro _ ⟨i81_0, i81_1, f81_2⟩ ⟨rfl, hu81_0, hu81_1, hu81_2⟩
                  have hu81_0 : i81_0 = bt := hu81_0
                  have hu81_1 : i81_1 = nI 0 := hu81_1
                  have hu81_2 : ∀ i, i < 0 → f81_2 i = 0 := hu81_2
                  show V X (wX k g a (va_up (va_up (va_up σ 92 (fun _ => i81_0)) 96 (fun _ => i81_1)) 100 f81_2) ν) [(0, .ref (a 0)), (1, .int 2), (2, .int bt), (3, .int m)] [] 84
                  refine V.iconst (pc := 84) 1 hC dX6_sheet_84 (by decide) ?_
                  exact hR 1 ((va_up (va_up (va_up σ 92 (fun _ => i81_0)) 96 (fun _ => i81_1)) 100 f81_2), ν) _ _ dX6_sheet_85 rfl (opc (m := va_up (va_up (va_up μ 4 (upd (μ 4) 2 bt)) 5 (upd (μ 5) 2 0)) 6 (clrS (μ 6) (24 * 2))) (by rw [op_sheet, if_neg (not_not_intro c_4), if_neg (fun q => hB.elim q.1 (fun z => z.elim q.2.1 (fun z => z.elim q.2.2.1 q.2.2.2))), if_neg (fun q => absurd q.1 (by rw [c_36]; decide)), if_neg (fun q => absurd q.1 (by rw [c_36]; decide)), if_pos c_73] <;> rfl)
        (hRR.sheet (s := 2) (by omega) (fun j h1 h2 h3 => ((va_up_ne _ _ h3).trans (va_up_ne _ _ h2)).trans (va_up_ne _ _ h1)) (fun j h1 h2 h3 => ((va_up_ne _ _ h3).trans (va_up_ne _ _ h2)).trans (va_up_ne _ _ h1)) (fun q hq => upd_ne hq) (fun q hq => upd_ne hq) (fun q hq => if_neg (by omega)) ⟨hu81_0.trans (show bt = upd (μ 4) 2 bt 2 from upd_eq.symm), hu81_1.trans (show nI 0 = upd (μ 5) 2 0 2 from upd_eq.symm), isN.mk (n := 0) (show upd (μ 5) 2 0 2 = nI 0 from upd_eq) (by omega) (by omega), fun i hi => (hu81_2 i (by
          have q1 : i < nN (upd (μ 5) 2 0 2) := hi
          rw [upd_eq] at q1
          exact absurd q1 (by rw [show nN 0 = 0 from rfl]; omega))).trans (show (0 : Int32) = clrS (μ 6) (24 * 2) (24 * 2 + i) from (if_pos (by
          have q1 : i < nN (upd (μ 5) 2 0 2) := hi
          rw [upd_eq] at q1
          exact absurd q1 (by rw [show nN 0 = 0 from rfl]; omega))).symm)⟩))
              · have s3 : s = 3 := by have h := inS_c c_4 (nl 3) (by omega); have g0 : ¬ nN s = 0 := fun z => s0 (by rw [h.1, z]; rfl); have g1 : ¬ nN s = 1 := fun z => s1 (by rw [h.1, z]; rfl); have g2 : ¬ nN s = 2 := fun z => s2 (by rw [h.1, z]; rfl); rw [h.1, show nN s = 3 by have := h.2; omega]; rfl
                subst s3
                refine V.aload_n (pc := 65) 0 hC dX6_sheet_65 rfl ?_
                refine V.get (pc := 66) (v := .ref (a 6)) hC cf_X6 0 5 fl_X6_45 (by decide) gx_0 rfl dX6_sheet_66 ?_
                refine V.iload_n (pc := 69) 1 hC dX6_sheet_69 rfl ?_
                refine V.aldS (pc := 70) hC 6 3 (a 93) gx_6 (nl 3) (by omega) (by decide) rfl dX6_sheet_70 ?_
                refine V.iload_n (pc := 71) 2 hC dX6_sheet_71 rfl ?_
                refine V.iload_n (pc := 72) 2 hC dX6_sheet_72 rfl ?_
                refine V.if_ne (pc := 73) 80 hC dX6_sheet_73 (by decide) (fun c_73 => ?_) (fun c_73 => ?_)
                · exact absurd c_50 c_73
                · refine V.iconst (pc := 76) 0 hC dX6_sheet_76 (by decide) ?_
                  refine V.goto (pc := 77) 81 hC dX6_sheet_77 (by decide) ?_
                  refine V.sts (st' := [.int (nI 0), .int bt, .ref (a 93)]) (stc (nl 0) (stk (stk rfl))) ?_
                  refine V.callV0 (pc := 81) (as := [.int bt, .int (nI 0)]) hC (c_X2_lay_3 σ ν bt 0 (by omega)) mu_X2_lay ml_X6_244 (by decide) ⟨50, 2, TX2, 3, _, rfl, gx_50⟩ rfl (Nat.le_of_ble_eq_true rfl) dX6_sheet_81 ?_
                  rintro _ ⟨i81_0, i81_1, f81_2⟩ ⟨rfl, hu81_0, hu81_1, hu81_2⟩
                  have hu81_0 : i81_0 = bt := hu81_0
                  have hu81_1 : i81_1 = nI 0 := hu81_1
                  have hu81_2 : ∀ i, i < 0 → f81_2 i = 0 := hu81_2
                  show V X (wX k g a (va_up (va_up (va_up σ 93 (fun _ => i81_0)) 97 (fun _ => i81_1)) 101 f81_2) ν) [(0, .ref (a 0)), (1, .int 3), (2, .int bt), (3, .int m)] [] 84
                  refine V.iconst (pc := 84) 1 hC dX6_sheet_84 (by decide) ?_
                  exact hR 1 ((va_up (va_up (va_up σ 93 (fun _ => i81_0)) 97 (fun _ => i81_1)) 101 f81_2), ν) _ _ dX6_sheet_85 rfl (opc (m := va_up (va_up (va_up μ 4 (upd (μ 4) 3 bt)) 5 (upd (μ 5) 3 0)) 6 (clrS (μ 6) (24 * 3))) (by rw [op_sheet, if_neg (not_not_intro c_4), if_neg (fun q => hB.elim q.1 (fun z => z.elim q.2.1 (fun z => z.elim q.2.2.1 q.2.2.2))), if_neg (fun q => absurd q.1 (by rw [c_36]; decide)), if_neg (fun q => absurd q.1 (by rw [c_36]; decide)), if_pos c_73] <;> rfl)
        (hRR.sheet (s := 3) (by omega) (fun j h1 h2 h3 => ((va_up_ne _ _ h3).trans (va_up_ne _ _ h2)).trans (va_up_ne _ _ h1)) (fun j h1 h2 h3 => ((va_up_ne _ _ h3).trans (va_up_ne _ _ h2)).trans (va_up_ne _ _ h1)) (fun q hq => upd_ne hq) (fun q hq => upd_ne hq) (fun q hq => if_neg (by omega)) ⟨hu81_0.trans (show bt = upd (μ 4) 3 bt 3 from upd_eq.symm), hu81_1.trans (show nI 0 = upd (μ 5) 3 0 3 from upd_eq.symm), isN.mk (n := 0) (show upd (μ 5) 3 0 3 = nI 0 from upd_eq) (by omega) (by omega), fun i hi => (hu81_2 i (by
          have q1 : i < nN (upd (μ 5) 3 0 3) := hi
          rw [upd_eq] at q1
          exact absurd q1 (by rw [show nN 0 = 0 from rfl]; omega))).trans (show (0 : Int32) = clrS (μ 6) (24 * 3) (24 * 3 + i) from (if_pos (by
          have q1 : i < nN (upd (μ 5) 3 0 3) := hi
          rw [upd_eq] at q1
          exact absurd q1 (by rw [show nN 0 = 0 from rfl]; omega))).symm)⟩))
        · exact absurd c_36 c_50
      · exact absurd c_8 c_36
    · refine V.iload_n (pc := 11) 2 hC dX6_sheet_11 rfl ?_
      refine V.bipush (pc := 12) 8 hC dX6_sheet_12 (by decide) ?_
      refine V.icmp_eq (pc := 14) 35 hC dX6_sheet_14 (by decide) (fun c_14 => ?_) (fun c_14 => ?_)
      · have hB : bt = 0 ∨ bt = 8 ∨ bt = 16 ∨ bt = 32 := Or.inr (Or.inl c_14)
        have hps : ¬ bt = 0 → 0 < bt := fun q => by rcases hB with z | z | z | z; exact absurd z q; all_goals (rw [z]; decide)
        refine V.iload_n (pc := 35) 2 hC dX6_sheet_35 rfl ?_
        refine V.if_eq (pc := 36) 49 hC dX6_sheet_36 (by decide) (fun c_36 => ?_) (fun c_36 => ?_)
        · exact absurd c_36 c_8
        · refine V.iload_n (pc := 39) 3 hC dX6_sheet_39 rfl ?_
          refine V.if_ge (pc := 40) 49 hC dX6_sheet_40 (by decide) (fun c_40 => ?_) (fun c_40 => ?_)
          · refine V.iload_n (pc := 49) 2 hC dX6_sheet_49 rfl ?_
            refine V.if_eq (pc := 50) 65 hC dX6_sheet_50 (by decide) (fun c_50 => ?_) (fun c_50 => ?_)
            · exact absurd c_50 c_36
            · refine V.iload_n (pc := 53) 3 hC dX6_sheet_53 rfl ?_
              refine V.bipush (pc := 54) 24 hC dX6_sheet_54 (by decide) ?_
              refine V.icmp_le (pc := 56) 65 hC dX6_sheet_56 (by decide) (fun c_56 => ?_) (fun c_56 => ?_)
              · by_cases s0 : s = 0
                · subst s0
                  refine V.aload_n (pc := 65) 0 hC dX6_sheet_65 rfl ?_
                  refine V.get (pc := 66) (v := .ref (a 6)) hC cf_X6 0 5 fl_X6_45 (by decide) gx_0 rfl dX6_sheet_66 ?_
                  refine V.iload_n (pc := 69) 1 hC dX6_sheet_69 rfl ?_
                  refine V.aldS (pc := 70) hC 6 0 (a 90) gx_6 (nl 0) (by omega) (by decide) rfl dX6_sheet_70 ?_
                  refine V.iload_n (pc := 71) 2 hC dX6_sheet_71 rfl ?_
                  refine V.iload_n (pc := 72) 2 hC dX6_sheet_72 rfl ?_
                  refine V.if_ne (pc := 73) 80 hC dX6_sheet_73 (by decide) (fun c_73 => ?_) (fun c_73 => ?_)
                  · have hh_m := inS_c ⟨c_40, c_56⟩ (nl 24) (by omega)
                    refine V.iload_n (pc := 80) 3 hC dX6_sheet_80 rfl ?_
                    refine V.sts (st' := [.int (nI (nN m)), .int bt, .ref (a 90)]) (stc hh_m.1 (stk (stk rfl))) ?_
                    refine V.callV0 (pc := 81) (as := [.int bt, .int (nI (nN m))]) hC (c_X2_lay_0 σ ν bt (nN m) (by omega)) mu_X2_lay ml_X6_244 (by decide) ⟨47, 2, TX2, 3, _, rfl, gx_47⟩ rfl (Nat.le_of_ble_eq_true rfl) dX6_sheet_81 ?_
                    rintro _ ⟨i81_0, i81_1, f81_2⟩ ⟨rfl, hu81_0, hu81_1, hu81_2⟩
                    have hu81_0 : i81_0 = bt := hu81_0
                    have hu81_1 : i81_1 = nI (nN m) := hu81_1
                    have hu81_2 : ∀ i, i < (nN m) → f81_2 i = 0 := hu81_2
                    show V X (wX k g a (va_up (va_up (va_up σ 90 (fun _ => i81_0)) 94 (fun _ => i81_1)) 98 f81_2) ν) [(0, .ref (a 0)), (1, .int 0), (2, .int bt), (3, .int m)] [] 84
                    refine V.iconst (pc := 84) 1 hC dX6_sheet_84 (by decide) ?_
                    exact hR 1 ((va_up (va_up (va_up σ 90 (fun _ => i81_0)) 94 (fun _ => i81_1)) 98 f81_2), ν) _ _ dX6_sheet_85 rfl (opc (m := va_up (va_up (va_up μ 4 (upd (μ 4) 0 bt)) 5 (upd (μ 5) 0 m)) 6 (clrS (μ 6) (24 * 0))) (by rw [op_sheet, if_neg (not_not_intro c_4), if_neg (fun q => hB.elim q.1 (fun z => z.elim q.2.1 (fun z => z.elim q.2.2.1 q.2.2.2))), if_neg (fun q => i_ge c_40 q.2), if_neg (fun q => i_ge c_56 q.2), if_neg c_73] <;> rfl)
        (hRR.sheet (s := 0) (by omega) (fun j h1 h2 h3 => ((va_up_ne _ _ h3).trans (va_up_ne _ _ h2)).trans (va_up_ne _ _ h1)) (fun j h1 h2 h3 => ((va_up_ne _ _ h3).trans (va_up_ne _ _ h2)).trans (va_up_ne _ _ h1)) (fun q hq => upd_ne hq) (fun q hq => upd_ne hq) (fun q hq => if_neg (by omega)) ⟨hu81_0.trans (show bt = upd (μ 4) 0 bt 0 from upd_eq.symm), hu81_1.trans (show nI (nN m) = upd (μ 5) 0 m 0 from hh_m.1.symm.trans upd_eq.symm), isN.mk (n := nN m) (show upd (μ 5) 0 m 0 = nI (nN m) from upd_eq.trans hh_m.1) (by omega) (by omega), fun i hi => (hu81_2 i (by
          have q1 : i < nN (upd (μ 5) 0 m 0) := hi
          rw [upd_eq] at q1
          exact q1)).trans (show (0 : Int32) = clrS (μ 6) (24 * 0) (24 * 0 + i) from (if_pos (by
          have q1 : i < nN (upd (μ 5) 0 m 0) := hi
          rw [upd_eq] at q1
          omega)).symm)⟩))
                  · exact absurd c_73 c_50
                · by_cases s1 : s = 1
                  · subst s1
                    refine V.aload_n (pc := 65) 0 hC dX6_sheet_65 rfl ?_
                    refine V.get (pc := 66) (v := .ref (a 6)) hC cf_X6 0 5 fl_X6_45 (by decide) gx_0 rfl dX6_sheet_66 ?_
                    refine V.iload_n (pc := 69) 1 hC dX6_sheet_69 rfl ?_
                    refine V.aldS (pc := 70) hC 6 1 (a 91) gx_6 (nl 1) (by omega) (by decide) rfl dX6_sheet_70 ?_
                    refine V.iload_n (pc := 71) 2 hC dX6_sheet_71 rfl ?_
                    refine V.iload_n (pc := 72) 2 hC dX6_sheet_72 rfl ?_
                    refine V.if_ne (pc := 73) 80 hC dX6_sheet_73 (by decide) (fun c_73 => ?_) (fun c_73 => ?_)
                    · have hh_m := inS_c ⟨c_40, c_56⟩ (nl 24) (by omega)
                      refine V.iload_n (pc := 80) 3 hC dX6_sheet_80 rfl ?_
                      refine V.sts (st' := [.int (nI (nN m)), .int bt, .ref (a 91)]) (stc hh_m.1 (stk (stk rfl))) ?_
                      refine V.callV0 (pc := 81) (as := [.int bt, .int (nI (nN m))]) hC (c_X2_lay_1 σ ν bt (nN m) (by omega)) mu_X2_lay ml_X6_244 (by decide) ⟨48, 2, TX2, 3, _, rfl, gx_48⟩ rfl (Nat.le_of_ble_eq_true rfl) dX6_sheet_81 ?_
                      rintro _ ⟨i81_0, i81_1, f81_2⟩ ⟨rfl, hu81_0, hu81_1, hu81_2⟩
                      have hu81_0 : i81_0 = bt := hu81_0
                      have hu81_1 : i81_1 = nI (nN m) := hu81_1
                      have hu81_2 : ∀ i, i < (nN m) → f81_2 i = 0 := hu81_2
                      show V X (wX k g a (va_up (va_up (va_up σ 91 (fun _ => i81_0)) 95 (fun _ => i81_1)) 99 f81_2) ν) [(0, .ref (a 0)), (1, .int 1), (2, .int bt), (3, .int m)] [] 84
                      refine V.iconst (pc := 84) 1 hC dX6_sheet_84 (by decide) ?_
                      exact hR 1 ((va_up (va_up (va_up σ 91 (fun _ => i81_0)) 95 (fun _ => i81_1)) 99 f81_2), ν) _ _ dX6_sheet_85 rfl (opc (m := va_up (va_up (va_up μ 4 (upd (μ 4) 1 bt)) 5 (upd (μ 5) 1 m)) 6 (clrS (μ 6) (24 * 1))) (by rw [op_sheet, if_neg (not_not_intro c_4), if_neg (fun q => hB.elim q.1 (fun z => z.elim q.2.1 (fun z => z.elim q.2.2.1 q.2.2.2))), if_neg (fun q => i_ge c_40 q.2), if_neg (fun q => i_ge c_56 q.2), if_neg c_73] <;> rfl)
        (hRR.sheet (s := 1) (by omega) (fun j h1 h2 h3 => ((va_up_ne _ _ h3).trans (va_up_ne _ _ h2)).trans (va_up_ne _ _ h1)) (fun j h1 h2 h3 => ((va_up_ne _ _ h3).trans (va_up_ne _ _ h2)).trans (va_up_ne _ _ h1)) (fun q hq => upd_ne hq) (fun q hq => upd_ne hq) (fun q hq => if_neg (by omega)) ⟨hu81_0.trans (show bt = upd (μ 4) 1 bt 1 from upd_eq.symm), hu81_1.trans (show nI (nN m) = upd (μ 5) 1 m 1 from hh_m.1.symm.trans upd_eq.symm), isN.mk (n := nN m) (show upd (μ 5) 1 m 1 = nI (nN m) from upd_eq.trans hh_m.1) (by omega) (by omega), fun i hi => (hu81_2 i (by
          have q1 : i < nN (upd (μ 5) 1 m 1) := hi
          rw [upd_eq] at q1
          exact q1)).trans (show (0 : Int32) = clrS (μ 6) (24 * 1) (24 * 1 + i) from (if_pos (by
          have q1 : i < nN (upd (μ 5) 1 m 1) := hi
          rw [upd_eq] at q1
          omega)).symm)⟩))
                    · exact absurd c_73 c_50
                  · by_cases s2 : s = 2
                    · subst s2
                      refine V.aload_n (pc := 65) 0 hC dX6_sheet_65 rfl ?_
                      refine V.get (pc := 66) (v := .ref (a 6)) hC cf_X6 0 5 fl_X6_45 (by decide) gx_0 rfl dX6_sheet_66 ?_
                      refine V.iload_n (pc := 69) 1 hC dX6_sheet_69 rfl ?_
                      refine V.aldS (pc := 70) hC 6 2 (a 92) gx_6 (nl 2) (by omega) (by decide) rfl dX6_sheet_70 ?_
                      refine V.iload_n (pc := 71) 2 hC dX6_sheet_71 rfl ?_
                      refine V.iload_n (pc := 72) 2 hC dX6_sheet_72 rfl ?_
                      refine V.if_ne (pc := 73) 80 hC dX6_sheet_73 (by decide) (fun c_73 => ?_) (fun c_73 => ?_)
                      · have hh_m := inS_c ⟨c_40, c_56⟩ (nl 24) (by omega)
                        refine V.iload_n (pc := 80) 3 hC dX6_sheet_80 rfl ?_
                        refine V.sts (st' := [.int (nI (nN m)), .int bt, .ref (a 92)]) (stc hh_m.1 (stk (stk rfl))) ?_
                        refine V.callV0 (pc := 81) (as := [.int bt, .int (nI (nN m))]) hC (c_X2_lay_2 σ ν bt (nN m) (by omega)) mu_X2_lay ml_X6_244 (by decide) ⟨49, 2, TX2, 3, _, rfl, gx_49⟩ rfl (Nat.le_of_ble_eq_true rfl) dX6_sheet_81 ?_
                        rintro _ ⟨i81_0, i81_1, f81_2⟩ ⟨rfl, hu81_0, hu81_1, hu81_2⟩
                        have hu81_0 : i81_0 = bt := hu81_0
                        have hu81_1 : i81_1 = nI (nN m) := hu81_1
                        have hu81_2 : ∀ i, i < (nN m) → f81_2 i = 0 := hu81_2
                        show V X (wX k g a (va_up (va_up (va_up σ 92 (fun _ => i81_0)) 96 (fun _ => i81_1)) 100 f81_2) ν) [(0, .ref (a 0)), (1, .int 2), (2, .int bt), (3, .int m)] [] 84
                        refine V.iconst (pc := 84) 1 hC dX6_sheet_84 (by decide) ?_
                        exact hR 1 ((va_up (va_up (va_up σ 92 (fun _ => i81_0)) 96 (fun _ => i81_1)) 100 f81_2), ν) _ _ dX6_sheet_85 rfl (opc (m := va_up (va_up (va_up μ 4 (upd (μ 4) 2 bt)) 5 (upd (μ 5) 2 m)) 6 (clrS (μ 6) (24 * 2))) (by rw [op_sheet, if_neg (not_not_intro c_4), if_neg (fun q => hB.elim q.1 (fun z => z.elim q.2.1 (fun z => z.elim q.2.2.1 q.2.2.2))), if_neg (fun q => i_ge c_40 q.2), if_neg (fun q => i_ge c_56 q.2), if_neg c_73] <;> rfl)
        (hRR.sheet (s := 2) (by omega) (fun j h1 h2 h3 => ((va_up_ne _ _ h3).trans (va_up_ne _ _ h2)).trans (va_up_ne _ _ h1)) (fun j h1 h2 h3 => ((va_up_ne _ _ h3).trans (va_up_ne _ _ h2)).trans (va_up_ne _ _ h1)) (fun q hq => upd_ne hq) (fun q hq => upd_ne hq) (fun q hq => if_neg (by omega)) ⟨hu81_0.trans (show bt = upd (μ 4) 2 bt 2 from upd_eq.symm), hu81_1.trans (show nI (nN m) = upd (μ 5) 2 m 2 from hh_m.1.symm.trans upd_eq.symm), isN.mk (n := nN m) (show upd (μ 5) 2 m 2 = nI (nN m) from upd_eq.trans hh_m.1) (by omega) (by omega), fun i hi => (hu81_2 i (by
          have q1 : i < nN (upd (μ 5) 2 m 2) := hi
          rw [upd_eq] at q1
          exact q1)).trans (show (0 : Int32) = clrS (μ 6) (24 * 2) (24 * 2 + i) from (if_pos (by
          have q1 : i < nN (upd (μ 5) 2 m 2) := hi
          rw [upd_eq] at q1
          omega)).symm)⟩))
                      · exact absurd c_73 c_50
                    · have s3 : s = 3 := by have h := inS_c c_4 (nl 3) (by omega); have g0 : ¬ nN s = 0 := fun z => s0 (by rw [h.1, z]; rfl); have g1 : ¬ nN s = 1 := fun z => s1 (by rw [h.1, z]; rfl); have g2 : ¬ nN s = 2 := fun z => s2 (by rw [h.1, z]; rfl); rw [h.1, show nN s = 3 by have := h.2; omega]; rfl
                      subst s3
                      refine V.aload_n (pc := 65) 0 hC dX6_sheet_65 rfl ?_
                      refine V.get (pc := 66) (v := .ref (a 6)) hC cf_X6 0 5 fl_X6_45 (by decide) gx_0 rfl dX6_sheet_66 ?_
                      refine V.iload_n (pc := 69) 1 hC dX6_sheet_69 rfl ?_
                      refine V.aldS (pc := 70) hC 6 3 (a 93) gx_6 (nl 3) (by omega) (by decide) rfl dX6_sheet_70 ?_
                      refine V.iload_n (pc := 71) 2 hC dX6_sheet_71 rfl ?_
                      refine V.iload_n (pc := 72) 2 hC dX6_sheet_72 rfl ?_
                      refine V.if_ne (pc := 73) 80 hC dX6_sheet_73 (by decide) (fun c_73 => ?_) (fun c_73 => ?_)
                      · have hh_m := inS_c ⟨c_40, c_56⟩ (nl 24) (by omega)
                        refine V.iload_n (pc := 80) 3 hC dX6_sheet_80 rfl ?_
                        refine V.sts (st' := [.int (nI (nN m)), .int bt, .ref (a 93)]) (stc hh_m.1 (stk (stk rfl))) ?_
                        refine V.callV0 (pc := 81) (as := [.int bt, .int (nI (nN m))]) hC (c_X2_lay_3 σ ν bt (nN m) (by omega)) mu_X2_lay ml_X6_244 (by decide) ⟨50, 2, TX2, 3, _, rfl, gx_50⟩ rfl (Nat.le_of_ble_eq_true rfl) dX6_sheet_81 ?_
                        rintro _ ⟨i81_0, i81_1, f81_2⟩ ⟨rfl, hu81_0, hu81_1, hu81_2⟩
                        have hu81_0 : i81_0 = bt := hu81_0
                        have hu81_1 : i81_1 = nI (nN m) := hu81_1
                        have hu81_2 : ∀ i, i < (nN m) → f81_2 i = 0 := hu81_2
                        show V X (wX k g a (va_up (va_up (va_up σ 93 (fun _ => i81_0)) 97 (fun _ => i81_1)) 101 f81_2) ν) [(0, .ref (a 0)), (1, .int 3), (2, .int bt), (3, .int m)] [] 84
                        refine V.iconst (pc := 84) 1 hC dX6_sheet_84 (by decide) ?_
                        exact hR 1 ((va_up (va_up (va_up σ 93 (fun _ => i81_0)) 97 (fun _ => i81_1)) 101 f81_2), ν) _ _ dX6_sheet_85 rfl (opc (m := va_up (va_up (va_up μ 4 (upd (μ 4) 3 bt)) 5 (upd (μ 5) 3 m)) 6 (clrS (μ 6) (24 * 3))) (by rw [op_sheet, if_neg (not_not_intro c_4), if_neg (fun q => hB.elim q.1 (fun z => z.elim q.2.1 (fun z => z.elim q.2.2.1 q.2.2.2))), if_neg (fun q => i_ge c_40 q.2), if_neg (fun q => i_ge c_56 q.2), if_neg c_73] <;> rfl)
        (hRR.sheet (s := 3) (by omega) (fun j h1 h2 h3 => ((va_up_ne _ _ h3).trans (va_up_ne _ _ h2)).trans (va_up_ne _ _ h1)) (fun j h1 h2 h3 => ((va_up_ne _ _ h3).trans (va_up_ne _ _ h2)).trans (va_up_ne _ _ h1)) (fun q hq => upd_ne hq) (fun q hq => upd_ne hq) (fun q hq => if_neg (by omega)) ⟨hu81_0.trans (show bt = upd (μ 4) 3 bt 3 from upd_eq.symm), hu81_1.trans (show nI (nN m) = upd (μ 5) 3 m 3 from hh_m.1.symm.trans upd_eq.symm), isN.mk (n := nN m) (show upd (μ 5) 3 m 3 = nI (nN m) from upd_eq.trans hh_m.1) (by omega) (by omega), fun i hi => (hu81_2 i (by
          have q1 : i < nN (upd (μ 5) 3 m 3) := hi
          rw [upd_eq] at q1
          exact q1)).trans (show (0 : Int32) = clrS (μ 6) (24 * 3) (24 * 3 + i) from (if_pos (by
          have q1 : i < nN (upd (μ 5) 3 m 3) := hi
          rw [upd_eq] at q1
          omega)).symm)⟩))
                      · exact absurd c_73 c_50
              · refine V.aload_n (pc := 59) 0 hC dX6_sheet_59 rfl ?_
                refine V.iconst (pc := 60) 1 hC dX6_sheet_60 (by decide) ?_
                refine V.sts (st' := [.int (nI 1), .ref (a 0)]) (stc (nl 1) (stk rfl)) ?_
                refine V.callV0 (pc := 61) (as := [.int (nI 1)]) hC (c_X6_error σ ν 1 (by omega)) mu_X6_error ml_X6_57 (by decide) ⟨0, 6, TX6, 8, _, rfl, gx_0⟩ rfl (Nat.le_of_ble_eq_true rfl) dX6_sheet_61 ?_
                rintro _ f61_0 ⟨rfl, hu61_0⟩
                have hu61_0 : f61_0 = upd (σ 0) 1 (σ 0 1 + 1) := hu61_0
                show V X (wX k g a (va_up σ 0 f61_0) ν) [(0, .ref (a 0)), (1, .int s), (2, .int bt), (3, .int m)] [.int (lowE 1)] 64
                exact hR (lowE 1) ((va_up σ 0 f61_0), ν) _ _ dX6_sheet_64 rfl (ope (by rw [op_sheet, if_neg (not_not_intro c_4), if_neg (fun q => hB.elim q.1 (fun z => z.elim q.2.1 (fun z => z.elim q.2.2.1 q.2.2.2))), if_neg (fun q => i_ge c_40 q.2), if_pos ⟨hps c_36, i_nle c_56⟩] <;> rfl) (hRR.er (by omega) hu61_0))
          · refine V.aload_n (pc := 43) 0 hC dX6_sheet_43 rfl ?_
            refine V.iconst (pc := 44) 3 hC dX6_sheet_44 (by decide) ?_
            refine V.sts (st' := [.int (nI 3), .ref (a 0)]) (stc (nl 3) (stk rfl)) ?_
            refine V.callV0 (pc := 45) (as := [.int (nI 3)]) hC (c_X6_error σ ν 3 (by omega)) mu_X6_error ml_X6_57 (by decide) ⟨0, 6, TX6, 8, _, rfl, gx_0⟩ rfl (Nat.le_of_ble_eq_true rfl) dX6_sheet_45 ?_
            rintro _ f45_0 ⟨rfl, hu45_0⟩
            have hu45_0 : f45_0 = upd (σ 0) 3 (σ 0 3 + 1) := hu45_0
            show V X (wX k g a (va_up σ 0 f45_0) ν) [(0, .ref (a 0)), (1, .int s), (2, .int bt), (3, .int m)] [.int (lowE 3)] 48
            exact hR (lowE 3) ((va_up σ 0 f45_0), ν) _ _ dX6_sheet_48 rfl (ope (by rw [op_sheet, if_neg (not_not_intro c_4), if_neg (fun q => hB.elim q.1 (fun z => z.elim q.2.1 (fun z => z.elim q.2.2.1 q.2.2.2))), if_pos ⟨hps c_36, i_nle c_40⟩] <;> rfl) (hRR.er (by omega) hu45_0))
      · refine V.iload_n (pc := 17) 2 hC dX6_sheet_17 rfl ?_
        refine V.bipush (pc := 18) 16 hC dX6_sheet_18 (by decide) ?_
        refine V.icmp_eq (pc := 20) 35 hC dX6_sheet_20 (by decide) (fun c_20 => ?_) (fun c_20 => ?_)
        · have hB : bt = 0 ∨ bt = 8 ∨ bt = 16 ∨ bt = 32 := Or.inr (Or.inr (Or.inl c_20))
          have hps : ¬ bt = 0 → 0 < bt := fun q => by rcases hB with z | z | z | z; exact absurd z q; all_goals (rw [z]; decide)
          refine V.iload_n (pc := 35) 2 hC dX6_sheet_35 rfl ?_
          refine V.if_eq (pc := 36) 49 hC dX6_sheet_36 (by decide) (fun c_36 => ?_) (fun c_36 => ?_)
          · exact absurd c_36 c_8
          · refine V.iload_n (pc := 39) 3 hC dX6_sheet_39 rfl ?_
            refine V.if_ge (pc := 40) 49 hC dX6_sheet_40 (by decide) (fun c_40 => ?_) (fun c_40 => ?_)
            · refine V.iload_n (pc := 49) 2 hC dX6_sheet_49 rfl ?_
              refine V.if_eq (pc := 50) 65 hC dX6_sheet_50 (by decide) (fun c_50 => ?_) (fun c_50 => ?_)
              · exact absurd c_50 c_36
              · refine V.iload_n (pc := 53) 3 hC dX6_sheet_53 rfl ?_
                refine V.bipush (pc := 54) 24 hC dX6_sheet_54 (by decide) ?_
                refine V.icmp_le (pc := 56) 65 hC dX6_sheet_56 (by decide) (fun c_56 => ?_) (fun c_56 => ?_)
                · by_cases s0 : s = 0
                  · subst s0
                    refine V.aload_n (pc := 65) 0 hC dX6_sheet_65 rfl ?_
                    refine V.get (pc := 66) (v := .ref (a 6)) hC cf_X6 0 5 fl_X6_45 (by decide) gx_0 rfl dX6_sheet_66 ?_
                    refine V.iload_n (pc := 69) 1 hC dX6_sheet_69 rfl ?_
                    refine V.aldS (pc := 70) hC 6 0 (a 90) gx_6 (nl 0) (by omega) (by decide) rfl dX6_sheet_70 ?_
                    refine V.iload_n (pc := 71) 2 hC dX6_sheet_71 rfl ?_
                    refine V.iload_n (pc := 72) 2 hC dX6_sheet_72 rfl ?_
                    refine V.if_ne (pc := 73) 80 hC dX6_sheet_73 (by decide) (fun c_73 => ?_) (fun c_73 => ?_)
                    · have hh_m := inS_c ⟨c_40, c_56⟩ (nl 24) (by omega)
                      refine V.iload_n (pc := 80) 3 hC dX6_sheet_80 rfl ?_
                      refine V.sts (st' := [.int (nI (nN m)), .int bt, .ref (a 90)]) (stc hh_m.1 (stk (stk rfl))) ?_
                      refine V.callV0 (pc := 81) (as := [.int bt, .int (nI (nN m))]) hC (c_X2_lay_0 σ ν bt (nN m) (by omega)) mu_X2_lay ml_X6_244 (by decide) ⟨47, 2, TX2, 3, _, rfl, gx_47⟩ rfl (Nat.le_of_ble_eq_true rfl) dX6_sheet_81 ?_
                      rintro _ ⟨i81_0, i81_1, f81_2⟩ ⟨rfl, hu81_0, hu81_1, hu81_2⟩
                      have hu81_0 : i81_0 = bt := hu81_0
                      have hu81_1 : i81_1 = nI (nN m) := hu81_1
                      have hu81_2 : ∀ i, i < (nN m) → f81_2 i = 0 := hu81_2
                      show V X (wX k g a (va_up (va_up (va_up σ 90 (fun _ => i81_0)) 94 (fun _ => i81_1)) 98 f81_2) ν) [(0, .ref (a 0)), (1, .int 0), (2, .int bt), (3, .int m)] [] 84
                      refine V.iconst (pc := 84) 1 hC dX6_sheet_84 (by decide) ?_
                      exact hR 1 ((va_up (va_up (va_up σ 90 (fun _ => i81_0)) 94 (fun _ => i81_1)) 98 f81_2), ν) _ _ dX6_sheet_85 rfl (opc (m := va_up (va_up (va_up μ 4 (upd (μ 4) 0 bt)) 5 (upd (μ 5) 0 m)) 6 (clrS (μ 6) (24 * 0))) (by rw [op_sheet, if_neg (not_not_intro c_4), if_neg (fun q => hB.elim q.1 (fun z => z.elim q.2.1 (fun z => z.elim q.2.2.1 q.2.2.2))), if_neg (fun q => i_ge c_40 q.2), if_neg (fun q => i_ge c_56 q.2), if_neg c_73] <;> rfl)
        (hRR.sheet (s := 0) (by omega) (fun j h1 h2 h3 => ((va_up_ne _ _ h3).trans (va_up_ne _ _ h2)).trans (va_up_ne _ _ h1)) (fun j h1 h2 h3 => ((va_up_ne _ _ h3).trans (va_up_ne _ _ h2)).trans (va_up_ne _ _ h1)) (fun q hq => upd_ne hq) (fun q hq => upd_ne hq) (fun q hq => if_neg (by omega)) ⟨hu81_0.trans (show bt = upd (μ 4) 0 bt 0 from upd_eq.symm), hu81_1.trans (show nI (nN m) = upd (μ 5) 0 m 0 from hh_m.1.symm.trans upd_eq.symm), isN.mk (n := nN m) (show upd (μ 5) 0 m 0 = nI (nN m) from upd_eq.trans hh_m.1) (by omega) (by omega), fun i hi => (hu81_2 i (by
          have q1 : i < nN (upd (μ 5) 0 m 0) := hi
          rw [upd_eq] at q1
          exact q1)).trans (show (0 : Int32) = clrS (μ 6) (24 * 0) (24 * 0 + i) from (if_pos (by
          have q1 : i < nN (upd (μ 5) 0 m 0) := hi
          rw [upd_eq] at q1
          omega)).symm)⟩))
                    · exact absurd c_73 c_50
                  · by_cases s1 : s = 1
                    · subst s1
                      refine V.aload_n (pc := 65) 0 hC dX6_sheet_65 rfl ?_
                      refine V.get (pc := 66) (v := .ref (a 6)) hC cf_X6 0 5 fl_X6_45 (by decide) gx_0 rfl dX6_sheet_66 ?_
                      refine V.iload_n (pc := 69) 1 hC dX6_sheet_69 rfl ?_
                      refine V.aldS (pc := 70) hC 6 1 (a 91) gx_6 (nl 1) (by omega) (by decide) rfl dX6_sheet_70 ?_
                      refine V.iload_n (pc := 71) 2 hC dX6_sheet_71 rfl ?_
                      refine V.iload_n (pc := 72) 2 hC dX6_sheet_72 rfl ?_
                      refine V.if_ne (pc := 73) 80 hC dX6_sheet_73 (by decide) (fun c_73 => ?_) (fun c_73 => ?_)
                      · have hh_m := inS_c ⟨c_40, c_56⟩ (nl 24) (by omega)
                        refine V.iload_n (pc := 80) 3 hC dX6_sheet_80 rfl ?_
                        refine V.sts (st' := [.int (nI (nN m)), .int bt, .ref (a 91)]) (stc hh_m.1 (stk (stk rfl))) ?_
                        refine V.callV0 (pc := 81) (as := [.int bt, .int (nI (nN m))]) hC (c_X2_lay_1 σ ν bt (nN m) (by omega)) mu_X2_lay ml_X6_244 (by decide) ⟨48, 2, TX2, 3, _, rfl, gx_48⟩ rfl (Nat.le_of_ble_eq_true rfl) dX6_sheet_81 ?_
                        rintro _ ⟨i81_0, i81_1, f81_2⟩ ⟨rfl, hu81_0, hu81_1, hu81_2⟩
                        have hu81_0 : i81_0 = bt := hu81_0
                        have hu81_1 : i81_1 = nI (nN m) := hu81_1
                        have hu81_2 : ∀ i, i < (nN m) → f81_2 i = 0 := hu81_2
                        show V X (wX k g a (va_up (va_up (va_up σ 91 (fun _ => i81_0)) 95 (fun _ => i81_1)) 99 f81_2) ν) [(0, .ref (a 0)), (1, .int 1), (2, .int bt), (3, .int m)] [] 84
                        refine V.iconst (pc := 84) 1 hC dX6_sheet_84 (by decide) ?_
                        exact hR 1 ((va_up (va_up (va_up σ 91 (fun _ => i81_0)) 95 (fun _ => i81_1)) 99 f81_2), ν) _ _ dX6_sheet_85 rfl (opc (m := va_up (va_up (va_up μ 4 (upd (μ 4) 1 bt)) 5 (upd (μ 5) 1 m)) 6 (clrS (μ 6) (24 * 1))) (by rw [op_sheet, if_neg (not_not_intro c_4), if_neg (fun q => hB.elim q.1 (fun z => z.elim q.2.1 (fun z => z.elim q.2.2.1 q.2.2.2))), if_neg (fun q => i_ge c_40 q.2), if_neg (fun q => i_ge c_56 q.2), if_neg c_73] <;> rfl)
        (hRR.sheet (s := 1) (by omega) (fun j h1 h2 h3 => ((va_up_ne _ _ h3).trans (va_up_ne _ _ h2)).trans (va_up_ne _ _ h1)) (fun j h1 h2 h3 => ((va_up_ne _ _ h3).trans (va_up_ne _ _ h2)).trans (va_up_ne _ _ h1)) (fun q hq => upd_ne hq) (fun q hq => upd_ne hq) (fun q hq => if_neg (by omega)) ⟨hu81_0.trans (show bt = upd (μ 4) 1 bt 1 from upd_eq.symm), hu81_1.trans (show nI (nN m) = upd (μ 5) 1 m 1 from hh_m.1.symm.trans upd_eq.symm), isN.mk (n := nN m) (show upd (μ 5) 1 m 1 = nI (nN m) from upd_eq.trans hh_m.1) (by omega) (by omega), fun i hi => (hu81_2 i (by
          have q1 : i < nN (upd (μ 5) 1 m 1) := hi
          rw [upd_eq] at q1
          exact q1)).trans (show (0 : Int32) = clrS (μ 6) (24 * 1) (24 * 1 + i) from (if_pos (by
          have q1 : i < nN (upd (μ 5) 1 m 1) := hi
          rw [upd_eq] at q1
          omega)).symm)⟩))
                      · exact absurd c_73 c_50
                    · by_cases s2 : s = 2
                      · subst s2
                        refine V.aload_n (pc := 65) 0 hC dX6_sheet_65 rfl ?_
                        refine V.get (pc := 66) (v := .ref (a 6)) hC cf_X6 0 5 fl_X6_45 (by decide) gx_0 rfl dX6_sheet_66 ?_
                        refine V.iload_n (pc := 69) 1 hC dX6_sheet_69 rfl ?_
                        refine V.aldS (pc := 70) hC 6 2 (a 92) gx_6 (nl 2) (by omega) (by decide) rfl dX6_sheet_70 ?_
                        refine V.iload_n (pc := 71) 2 hC dX6_sheet_71 rfl ?_
                        refine V.iload_n (pc := 72) 2 hC dX6_sheet_72 rfl ?_
                        refine V.if_ne (pc := 73) 80 hC dX6_sheet_73 (by decide) (fun c_73 => ?_) (fun c_73 => ?_)
                        · have hh_m := inS_c ⟨c_40, c_56⟩ (nl 24) (by omega)
                          refine V.iload_n (pc := 80) 3 hC dX6_sheet_80 rfl ?_
                          refine V.sts (st' := [.int (nI (nN m)), .int bt, .ref (a 92)]) (stc hh_m.1 (stk (stk rfl))) ?_
                          refine V.callV0 (pc := 81) (as := [.int bt, .int (nI (nN m))]) hC (c_X2_lay_2 σ ν bt (nN m) (by omega)) mu_X2_lay ml_X6_244 (by decide) ⟨49, 2, TX2, 3, _, rfl, gx_49⟩ rfl (Nat.le_of_ble_eq_true rfl) dX6_sheet_81 ?_
                          rintro _ ⟨i81_0, i81_1, f81_2⟩ ⟨rfl, hu81_0, hu81_1, hu81_2⟩
                          have hu81_0 : i81_0 = bt := hu81_0
                          have hu81_1 : i81_1 = nI (nN m) := hu81_1
                          have hu81_2 : ∀ i, i < (nN m) → f81_2 i = 0 := hu81_2
                          show V X (wX k g a (va_up (va_up (va_up σ 92 (fun _ => i81_0)) 96 (fun _ => i81_1)) 100 f81_2) ν) [(0, .ref (a 0)), (1, .int 2), (2, .int bt), (3, .int m)] [] 84
                          refine V.iconst (pc := 84) 1 hC dX6_sheet_84 (by decide) ?_
                          exact hR 1 ((va_up (va_up (va_up σ 92 (fun _ => i81_0)) 96 (fun _ => i81_1)) 100 f81_2), ν) _ _ dX6_sheet_85 rfl (opc (m := va_up (va_up (va_up μ 4 (upd (μ 4) 2 bt)) 5 (upd (μ 5) 2 m)) 6 (clrS (μ 6) (24 * 2))) (by rw [op_sheet, if_neg (not_not_intro c_4), if_neg (fun q => hB.elim q.1 (fun z => z.elim q.2.1 (fun z => z.elim q.2.2.1 q.2.2.2))), if_neg (fun q => i_ge c_40 q.2), if_neg (fun q => i_ge c_56 q.2), if_neg c_73] <;> rfl)
        (hRR.sheet (s := 2) (by omega) (fun j h1 h2 h3 => ((va_up_ne _ _ h3).trans (va_up_ne _ _ h2)).trans (va_up_ne _ _ h1)) (fun j h1 h2 h3 => ((va_up_ne _ _ h3).trans (va_up_ne _ _ h2)).trans (va_up_ne _ _ h1)) (fun q hq => upd_ne hq) (fun q hq => upd_ne hq) (fun q hq => if_neg (by omega)) ⟨hu81_0.trans (show bt = upd (μ 4) 2 bt 2 from upd_eq.symm), hu81_1.trans (show nI (nN m) = upd (μ 5) 2 m 2 from hh_m.1.symm.trans upd_eq.symm), isN.mk (n := nN m) (show upd (μ 5) 2 m 2 = nI (nN m) from upd_eq.trans hh_m.1) (by omega) (by omega), fun i hi => (hu81_2 i (by
          have q1 : i < nN (upd (μ 5) 2 m 2) := hi
          rw [upd_eq] at q1
          exact q1)).trans (show (0 : Int32) = clrS (μ 6) (24 * 2) (24 * 2 + i) from (if_pos (by
          have q1 : i < nN (upd (μ 5) 2 m 2) := hi
          rw [upd_eq] at q1
          omega)).symm)⟩))
                        · exact absurd c_73 c_50
                      · have s3 : s = 3 := by have h := inS_c c_4 (nl 3) (by omega); have g0 : ¬ nN s = 0 := fun z => s0 (by rw [h.1, z]; rfl); have g1 : ¬ nN s = 1 := fun z => s1 (by rw [h.1, z]; rfl); have g2 : ¬ nN s = 2 := fun z => s2 (by rw [h.1, z]; rfl); rw [h.1, show nN s = 3 by have := h.2; omega]; rfl
                        subst s3
                        refine V.aload_n (pc := 65) 0 hC dX6_sheet_65 rfl ?_
                        refine V.get (pc := 66) (v := .ref (a 6)) hC cf_X6 0 5 fl_X6_45 (by decide) gx_0 rfl dX6_sheet_66 ?_
                        refine V.iload_n (pc := 69) 1 hC dX6_sheet_69 rfl ?_
                        refine V.aldS (pc := 70) hC 6 3 (a 93) gx_6 (nl 3) (by omega) (by decide) rfl dX6_sheet_70 ?_
                        refine V.iload_n (pc := 71) 2 hC dX6_sheet_71 rfl ?_
                        refine V.iload_n (pc := 72) 2 hC dX6_sheet_72 rfl ?_
                        refine V.if_ne (pc := 73) 80 hC dX6_sheet_73 (by decide) (fun c_73 => ?_) (fun c_73 => ?_)
                        · have hh_m := inS_c ⟨c_40, c_56⟩ (nl 24) (by omega)
                          refine V.iload_n (pc := 80) 3 hC dX6_sheet_80 rfl ?_
                          refine V.sts (st' := [.int (nI (nN m)), .int bt, .ref (a 93)]) (stc hh_m.1 (stk (stk rfl))) ?_
                          refine V.callV0 (pc := 81) (as := [.int bt, .int (nI (nN m))]) hC (c_X2_lay_3 σ ν bt (nN m) (by omega)) mu_X2_lay ml_X6_244 (by decide) ⟨50, 2, TX2, 3, _, rfl, gx_50⟩ rfl (Nat.le_of_ble_eq_true rfl) dX6_sheet_81 ?_
                          rintro _ ⟨i81_0, i81_1, f81_2⟩ ⟨rfl, hu81_0, hu81_1, hu81_2⟩
                          have hu81_0 : i81_0 = bt := hu81_0
                          have hu81_1 : i81_1 = nI (nN m) := hu81_1
                          have hu81_2 : ∀ i, i < (nN m) → f81_2 i = 0 := hu81_2
                          show V X (wX k g a (va_up (va_up (va_up σ 93 (fun _ => i81_0)) 97 (fun _ => i81_1)) 101 f81_2) ν) [(0, .ref (a 0)), (1, .int 3), (2, .int bt), (3, .int m)] [] 84
                          refine V.iconst (pc := 84) 1 hC dX6_sheet_84 (by decide) ?_
                          exact hR 1 ((va_up (va_up (va_up σ 93 (fun _ => i81_0)) 97 (fun _ => i81_1)) 101 f81_2), ν) _ _ dX6_sheet_85 rfl (opc (m := va_up (va_up (va_up μ 4 (upd (μ 4) 3 bt)) 5 (upd (μ 5) 3 m)) 6 (clrS (μ 6) (24 * 3))) (by rw [op_sheet, if_neg (not_not_intro c_4), if_neg (fun q => hB.elim q.1 (fun z => z.elim q.2.1 (fun z => z.elim q.2.2.1 q.2.2.2))), if_neg (fun q => i_ge c_40 q.2), if_neg (fun q => i_ge c_56 q.2), if_neg c_73] <;> rfl)
        (hRR.sheet (s := 3) (by omega) (fun j h1 h2 h3 => ((va_up_ne _ _ h3).trans (va_up_ne _ _ h2)).trans (va_up_ne _ _ h1)) (fun j h1 h2 h3 => ((va_up_ne _ _ h3).trans (va_up_ne _ _ h2)).trans (va_up_ne _ _ h1)) (fun q hq => upd_ne hq) (fun q hq => upd_ne hq) (fun q hq => if_neg (by omega)) ⟨hu81_0.trans (show bt = upd (μ 4) 3 bt 3 from upd_eq.symm), hu81_1.trans (show nI (nN m) = upd (μ 5) 3 m 3 from hh_m.1.symm.trans upd_eq.symm), isN.mk (n := nN m) (show upd (μ 5) 3 m 3 = nI (nN m) from upd_eq.trans hh_m.1) (by omega) (by omega), fun i hi => (hu81_2 i (by
          have q1 : i < nN (upd (μ 5) 3 m 3) := hi
          rw [upd_eq] at q1
          exact q1)).trans (show (0 : Int32) = clrS (μ 6) (24 * 3) (24 * 3 + i) from (if_pos (by
          have q1 : i < nN (upd (μ 5) 3 m 3) := hi
          rw [upd_eq] at q1
          omega)).symm)⟩))
                        · exact absurd c_73 c_50
                · refine V.aload_n (pc := 59) 0 hC dX6_sheet_59 rfl ?_
                  refine V.iconst (pc := 60) 1 hC dX6_sheet_60 (by decide) ?_
                  refine V.sts (st' := [.int (nI 1), .ref (a 0)]) (stc (nl 1) (stk rfl)) ?_
                  refine V.callV0 (pc := 61) (as := [.int (nI 1)]) hC (c_X6_error σ ν 1 (by omega)) mu_X6_error ml_X6_57 (by decide) ⟨0, 6, TX6, 8, _, rfl, gx_0⟩ rfl (Nat.le_of_ble_eq_true rfl) dX6_sheet_61 ?_
                  rintro _ f61_0 ⟨rfl, hu61_0⟩
                  have hu61_0 : f61_0 = upd (σ 0) 1 (σ 0 1 + 1) := hu61_0
                  show V X (wX k g a (va_up σ 0 f61_0) ν) [(0, .ref (a 0)), (1, .int s), (2, .int bt), (3, .int m)] [.int (lowE 1)] 64
                  exact hR (lowE 1) ((va_up σ 0 f61_0), ν) _ _ dX6_sheet_64 rfl (ope (by rw [op_sheet, if_neg (not_not_intro c_4), if_neg (fun q => hB.elim q.1 (fun z => z.elim q.2.1 (fun z => z.elim q.2.2.1 q.2.2.2))), if_neg (fun q => i_ge c_40 q.2), if_pos ⟨hps c_36, i_nle c_56⟩] <;> rfl) (hRR.er (by omega) hu61_0))
            · refine V.aload_n (pc := 43) 0 hC dX6_sheet_43 rfl ?_
              refine V.iconst (pc := 44) 3 hC dX6_sheet_44 (by decide) ?_
              refine V.sts (st' := [.int (nI 3), .ref (a 0)]) (stc (nl 3) (stk rfl)) ?_
              refine V.callV0 (pc := 45) (as := [.int (nI 3)]) hC (c_X6_error σ ν 3 (by omega)) mu_X6_error ml_X6_57 (by decide) ⟨0, 6, TX6, 8, _, rfl, gx_0⟩ rfl (Nat.le_of_ble_eq_true rfl) dX6_sheet_45 ?_
              rintro _ f45_0 ⟨rfl, hu45_0⟩
              have hu45_0 : f45_0 = upd (σ 0) 3 (σ 0 3 + 1) := hu45_0
              show V X (wX k g a (va_up σ 0 f45_0) ν) [(0, .ref (a 0)), (1, .int s), (2, .int bt), (3, .int m)] [.int (lowE 3)] 48
              exact hR (lowE 3) ((va_up σ 0 f45_0), ν) _ _ dX6_sheet_48 rfl (ope (by rw [op_sheet, if_neg (not_not_intro c_4), if_neg (fun q => hB.elim q.1 (fun z => z.elim q.2.1 (fun z => z.elim q.2.2.1 q.2.2.2))), if_pos ⟨hps c_36, i_nle c_40⟩] <;> rfl) (hRR.er (by omega) hu45_0))
        · refine V.iload_n (pc := 23) 2 hC dX6_sheet_23 rfl ?_
          refine V.bipush (pc := 24) 32 hC dX6_sheet_24 (by decide) ?_
          refine V.icmp_eq (pc := 26) 35 hC dX6_sheet_26 (by decide) (fun c_26 => ?_) (fun c_26 => ?_)
          · have hB : bt = 0 ∨ bt = 8 ∨ bt = 16 ∨ bt = 32 := Or.inr (Or.inr (Or.inr c_26))
            have hps : ¬ bt = 0 → 0 < bt := fun q => by rcases hB with z | z | z | z; exact absurd z q; all_goals (rw [z]; decide)
            refine V.iload_n (pc := 35) 2 hC dX6_sheet_35 rfl ?_
            refine V.if_eq (pc := 36) 49 hC dX6_sheet_36 (by decide) (fun c_36 => ?_) (fun c_36 => ?_)
            · exact absurd c_36 c_8
            · refine V.iload_n (pc := 39) 3 hC dX6_sheet_39 rfl ?_
              refine V.if_ge (pc := 40) 49 hC dX6_sheet_40 (by decide) (fun c_40 => ?_) (fun c_40 => ?_)
              · refine V.iload_n (pc := 49) 2 hC dX6_sheet_49 rfl ?_
                refine V.if_eq (pc := 50) 65 hC dX6_sheet_50 (by decide) (fun c_50 => ?_) (fun c_50 => ?_)
                · exact absurd c_50 c_36
                · refine V.iload_n (pc := 53) 3 hC dX6_sheet_53 rfl ?_
                  refine V.bipush (pc := 54) 24 hC dX6_sheet_54 (by decide) ?_
                  refine V.icmp_le (pc := 56) 65 hC dX6_sheet_56 (by decide) (fun c_56 => ?_) (fun c_56 => ?_)
                  · by_cases s0 : s = 0
                    · subst s0
                      refine V.aload_n (pc := 65) 0 hC dX6_sheet_65 rfl ?_
                      refine V.get (pc := 66) (v := .ref (a 6)) hC cf_X6 0 5 fl_X6_45 (by decide) gx_0 rfl dX6_sheet_66 ?_
                      refine V.iload_n (pc := 69) 1 hC dX6_sheet_69 rfl ?_
                      refine V.aldS (pc := 70) hC 6 0 (a 90) gx_6 (nl 0) (by omega) (by decide) rfl dX6_sheet_70 ?_
                      refine V.iload_n (pc := 71) 2 hC dX6_sheet_71 rfl ?_
                      refine V.iload_n (pc := 72) 2 hC dX6_sheet_72 rfl ?_
                      refine V.if_ne (pc := 73) 80 hC dX6_sheet_73 (by decide) (fun c_73 => ?_) (fun c_73 => ?_)
                      · have hh_m := inS_c ⟨c_40, c_56⟩ (nl 24) (by omega)
                        refine V.iload_n (pc := 80) 3 hC dX6_sheet_80 rfl ?_
                        refine V.sts (st' := [.int (nI (nN m)), .int bt, .ref (a 90)]) (stc hh_m.1 (stk (stk rfl))) ?_
                        refine V.callV0 (pc := 81) (as := [.int bt, .int (nI (nN m))]) hC (c_X2_lay_0 σ ν bt (nN m) (by omega)) mu_X2_lay ml_X6_244 (by decide) ⟨47, 2, TX2, 3, _, rfl, gx_47⟩ rfl (Nat.le_of_ble_eq_true rfl) dX6_sheet_81 ?_
                        rintro _ ⟨i81_0, i81_1, f81_2⟩ ⟨rfl, hu81_0, hu81_1, hu81_2⟩
                        have hu81_0 : i81_0 = bt := hu81_0
                        have hu81_1 : i81_1 = nI (nN m) := hu81_1
                        have hu81_2 : ∀ i, i < (nN m) → f81_2 i = 0 := hu81_2
                        show V X (wX k g a (va_up (va_up (va_up σ 90 (fun _ => i81_0)) 94 (fun _ => i81_1)) 98 f81_2) ν) [(0, .ref (a 0)), (1, .int 0), (2, .int bt), (3, .int m)] [] 84
                        refine V.iconst (pc := 84) 1 hC dX6_sheet_84 (by decide) ?_
                        exact hR 1 ((va_up (va_up (va_up σ 90 (fun _ => i81_0)) 94 (fun _ => i81_1)) 98 f81_2), ν) _ _ dX6_sheet_85 rfl (opc (m := va_up (va_up (va_up μ 4 (upd (μ 4) 0 bt)) 5 (upd (μ 5) 0 m)) 6 (clrS (μ 6) (24 * 0))) (by rw [op_sheet, if_neg (not_not_intro c_4), if_neg (fun q => hB.elim q.1 (fun z => z.elim q.2.1 (fun z => z.elim q.2.2.1 q.2.2.2))), if_neg (fun q => i_ge c_40 q.2), if_neg (fun q => i_ge c_56 q.2), if_neg c_73] <;> rfl)
        (hRR.sheet (s := 0) (by omega) (fun j h1 h2 h3 => ((va_up_ne _ _ h3).trans (va_up_ne _ _ h2)).trans (va_up_ne _ _ h1)) (fun j h1 h2 h3 => ((va_up_ne _ _ h3).trans (va_up_ne _ _ h2)).trans (va_up_ne _ _ h1)) (fun q hq => upd_ne hq) (fun q hq => upd_ne hq) (fun q hq => if_neg (by omega)) ⟨hu81_0.trans (show bt = upd (μ 4) 0 bt 0 from upd_eq.symm), hu81_1.trans (show nI (nN m) = upd (μ 5) 0 m 0 from hh_m.1.symm.trans upd_eq.symm), isN.mk (n := nN m) (show upd (μ 5) 0 m 0 = nI (nN m) from upd_eq.trans hh_m.1) (by omega) (by omega), fun i hi => (hu81_2 i (by
          have q1 : i < nN (upd (μ 5) 0 m 0) := hi
          rw [upd_eq] at q1
          exact q1)).trans (show (0 : Int32) = clrS (μ 6) (24 * 0) (24 * 0 + i) from (if_pos (by
          have q1 : i < nN (upd (μ 5) 0 m 0) := hi
          rw [upd_eq] at q1
          omega)).symm)⟩))
                      · exact absurd c_73 c_50
                    · by_cases s1 : s = 1
                      · subst s1
                        refine V.aload_n (pc := 65) 0 hC dX6_sheet_65 rfl ?_
                        refine V.get (pc := 66) (v := .ref (a 6)) hC cf_X6 0 5 fl_X6_45 (by decide) gx_0 rfl dX6_sheet_66 ?_
                        refine V.iload_n (pc := 69) 1 hC dX6_sheet_69 rfl ?_
                        refine V.aldS (pc := 70) hC 6 1 (a 91) gx_6 (nl 1) (by omega) (by decide) rfl dX6_sheet_70 ?_
                        refine V.iload_n (pc := 71) 2 hC dX6_sheet_71 rfl ?_
                        refine V.iload_n (pc := 72) 2 hC dX6_sheet_72 rfl ?_
                        refine V.if_ne (pc := 73) 80 hC dX6_sheet_73 (by decide) (fun c_73 => ?_) (fun c_73 => ?_)
                        · have hh_m := inS_c ⟨c_40, c_56⟩ (nl 24) (by omega)
                          refine V.iload_n (pc := 80) 3 hC dX6_sheet_80 rfl ?_
                          refine V.sts (st' := [.int (nI (nN m)), .int bt, .ref (a 91)]) (stc hh_m.1 (stk (stk rfl))) ?_
                          refine V.callV0 (pc := 81) (as := [.int bt, .int (nI (nN m))]) hC (c_X2_lay_1 σ ν bt (nN m) (by omega)) mu_X2_lay ml_X6_244 (by decide) ⟨48, 2, TX2, 3, _, rfl, gx_48⟩ rfl (Nat.le_of_ble_eq_true rfl) dX6_sheet_81 ?_
                          rintro _ ⟨i81_0, i81_1, f81_2⟩ ⟨rfl, hu81_0, hu81_1, hu81_2⟩
                          have hu81_0 : i81_0 = bt := hu81_0
                          have hu81_1 : i81_1 = nI (nN m) := hu81_1
                          have hu81_2 : ∀ i, i < (nN m) → f81_2 i = 0 := hu81_2
                          show V X (wX k g a (va_up (va_up (va_up σ 91 (fun _ => i81_0)) 95 (fun _ => i81_1)) 99 f81_2) ν) [(0, .ref (a 0)), (1, .int 1), (2, .int bt), (3, .int m)] [] 84
                          refine V.iconst (pc := 84) 1 hC dX6_sheet_84 (by decide) ?_
                          exact hR 1 ((va_up (va_up (va_up σ 91 (fun _ => i81_0)) 95 (fun _ => i81_1)) 99 f81_2), ν) _ _ dX6_sheet_85 rfl (opc (m := va_up (va_up (va_up μ 4 (upd (μ 4) 1 bt)) 5 (upd (μ 5) 1 m)) 6 (clrS (μ 6) (24 * 1))) (by rw [op_sheet, if_neg (not_not_intro c_4), if_neg (fun q => hB.elim q.1 (fun z => z.elim q.2.1 (fun z => z.elim q.2.2.1 q.2.2.2))), if_neg (fun q => i_ge c_40 q.2), if_neg (fun q => i_ge c_56 q.2), if_neg c_73] <;> rfl)
        (hRR.sheet (s := 1) (by omega) (fun j h1 h2 h3 => ((va_up_ne _ _ h3).trans (va_up_ne _ _ h2)).trans (va_up_ne _ _ h1)) (fun j h1 h2 h3 => ((va_up_ne _ _ h3).trans (va_up_ne _ _ h2)).trans (va_up_ne _ _ h1)) (fun q hq => upd_ne hq) (fun q hq => upd_ne hq) (fun q hq => if_neg (by omega)) ⟨hu81_0.trans (show bt = upd (μ 4) 1 bt 1 from upd_eq.symm), hu81_1.trans (show nI (nN m) = upd (μ 5) 1 m 1 from hh_m.1.symm.trans upd_eq.symm), isN.mk (n := nN m) (show upd (μ 5) 1 m 1 = nI (nN m) from upd_eq.trans hh_m.1) (by omega) (by omega), fun i hi => (hu81_2 i (by
          have q1 : i < nN (upd (μ 5) 1 m 1) := hi
          rw [upd_eq] at q1
          exact q1)).trans (show (0 : Int32) = clrS (μ 6) (24 * 1) (24 * 1 + i) from (if_pos (by
          have q1 : i < nN (upd (μ 5) 1 m 1) := hi
          rw [upd_eq] at q1
          omega)).symm)⟩))
                        · exact absurd c_73 c_50
                      · by_cases s2 : s = 2
                        · subst s2
                          refine V.aload_n (pc := 65) 0 hC dX6_sheet_65 rfl ?_
                          refine V.get (pc := 66) (v := .ref (a 6)) hC cf_X6 0 5 fl_X6_45 (by decide) gx_0 rfl dX6_sheet_66 ?_
                          refine V.iload_n (pc := 69) 1 hC dX6_sheet_69 rfl ?_
                          refine V.aldS (pc := 70) hC 6 2 (a 92) gx_6 (nl 2) (by omega) (by decide) rfl dX6_sheet_70 ?_
                          refine V.iload_n (pc := 71) 2 hC dX6_sheet_71 rfl ?_
                          refine V.iload_n (pc := 72) 2 hC dX6_sheet_72 rfl ?_
                          refine V.if_ne (pc := 73) 80 hC dX6_sheet_73 (by decide) (fun c_73 => ?_) (fun c_73 => ?_)
                          · have hh_m := inS_c ⟨c_40, c_56⟩ (nl 24) (by omega)
                            refine V.iload_n (pc := 80) 3 hC dX6_sheet_80 rfl ?_
                            refine V.sts (st' := [.int (nI (nN m)), .int bt, .ref (a 92)]) (stc hh_m.1 (stk (stk rfl))) ?_
                            refine V.callV0 (pc := 81) (as := [.int bt, .int (nI (nN m))]) hC (c_X2_lay_2 σ ν bt (nN m) (by omega)) mu_X2_lay ml_X6_244 (by decide) ⟨49, 2, TX2, 3, _, rfl, gx_49⟩ rfl (Nat.le_of_ble_eq_true rfl) dX6_sheet_81 ?_
                            rintro _ ⟨i81_0, i81_1, f81_2⟩ ⟨rfl, hu81_0, hu81_1, hu81_2⟩
                            have hu81_0 : i81_0 = bt := hu81_0
                            have hu81_1 : i81_1 = nI (nN m) := hu81_1
                            have hu81_2 : ∀ i, i < (nN m) → f81_2 i = 0 := hu81_2
                            show V X (wX k g a (va_up (va_up (va_up σ 92 (fun _ => i81_0)) 96 (fun _ => i81_1)) 100 f81_2) ν) [(0, .ref (a 0)), (1, .int 2), (2, .int bt), (3, .int m)] [] 84
                            refine V.iconst (pc := 84) 1 hC dX6_sheet_84 (by decide) ?_
                            exact hR 1 ((va_up (va_up (va_up σ 92 (fun _ => i81_0)) 96 (fun _ => i81_1)) 100 f81_2), ν) _ _ dX6_sheet_85 rfl (opc (m := va_up (va_up (va_up μ 4 (upd (μ 4) 2 bt)) 5 (upd (μ 5) 2 m)) 6 (clrS (μ 6) (24 * 2))) (by rw [op_sheet, if_neg (not_not_intro c_4), if_neg (fun q => hB.elim q.1 (fun z => z.elim q.2.1 (fun z => z.elim q.2.2.1 q.2.2.2))), if_neg (fun q => i_ge c_40 q.2), if_neg (fun q => i_ge c_56 q.2), if_neg c_73] <;> rfl)
        (hRR.sheet (s := 2) (by omega) (fun j h1 h2 h3 => ((va_up_ne _ _ h3).trans (va_up_ne _ _ h2)).trans (va_up_ne _ _ h1)) (fun j h1 h2 h3 => ((va_up_ne _ _ h3).trans (va_up_ne _ _ h2)).trans (va_up_ne _ _ h1)) (fun q hq => upd_ne hq) (fun q hq => upd_ne hq) (fun q hq => if_neg (by omega)) ⟨hu81_0.trans (show bt = upd (μ 4) 2 bt 2 from upd_eq.symm), hu81_1.trans (show nI (nN m) = upd (μ 5) 2 m 2 from hh_m.1.symm.trans upd_eq.symm), isN.mk (n := nN m) (show upd (μ 5) 2 m 2 = nI (nN m) from upd_eq.trans hh_m.1) (by omega) (by omega), fun i hi => (hu81_2 i (by
          have q1 : i < nN (upd (μ 5) 2 m 2) := hi
          rw [upd_eq] at q1
          exact q1)).trans (show (0 : Int32) = clrS (μ 6) (24 * 2) (24 * 2 + i) from (if_pos (by
          have q1 : i < nN (upd (μ 5) 2 m 2) := hi
          rw [upd_eq] at q1
          omega)).symm)⟩))
                          · exact absurd c_73 c_50
                        · have s3 : s = 3 := by have h := inS_c c_4 (nl 3) (by omega); have g0 : ¬ nN s = 0 := fun z => s0 (by rw [h.1, z]; rfl); have g1 : ¬ nN s = 1 := fun z => s1 (by rw [h.1, z]; rfl); have g2 : ¬ nN s = 2 := fun z => s2 (by rw [h.1, z]; rfl); rw [h.1, show nN s = 3 by have := h.2; omega]; rfl
                          subst s3
                          refine V.aload_n (pc := 65) 0 hC dX6_sheet_65 rfl ?_
                          refine V.get (pc := 66) (v := .ref (a 6)) hC cf_X6 0 5 fl_X6_45 (by decide) gx_0 rfl dX6_sheet_66 ?_
                          refine V.iload_n (pc := 69) 1 hC dX6_sheet_69 rfl ?_
                          refine V.aldS (pc := 70) hC 6 3 (a 93) gx_6 (nl 3) (by omega) (by decide) rfl dX6_sheet_70 ?_
                          refine V.iload_n (pc := 71) 2 hC dX6_sheet_71 rfl ?_
                          refine V.iload_n (pc := 72) 2 hC dX6_sheet_72 rfl ?_
                          refine V.if_ne (pc := 73) 80 hC dX6_sheet_73 (by decide) (fun c_73 => ?_) (fun c_73 => ?_)
                          · have hh_m := inS_c ⟨c_40, c_56⟩ (nl 24) (by omega)
                            refine V.iload_n (pc := 80) 3 hC dX6_sheet_80 rfl ?_
                            refine V.sts (st' := [.int (nI (nN m)), .int bt, .ref (a 93)]) (stc hh_m.1 (stk (stk rfl))) ?_
                            refine V.callV0 (pc := 81) (as := [.int bt, .int (nI (nN m))]) hC (c_X2_lay_3 σ ν bt (nN m) (by omega)) mu_X2_lay ml_X6_244 (by decide) ⟨50, 2, TX2, 3, _, rfl, gx_50⟩ rfl (Nat.le_of_ble_eq_true rfl) dX6_sheet_81 ?_
                            rintro _ ⟨i81_0, i81_1, f81_2⟩ ⟨rfl, hu81_0, hu81_1, hu81_2⟩
                            have hu81_0 : i81_0 = bt := hu81_0
                            have hu81_1 : i81_1 = nI (nN m) := hu81_1
                            have hu81_2 : ∀ i, i < (nN m) → f81_2 i = 0 := hu81_2
                            show V X (wX k g a (va_up (va_up (va_up σ 93 (fun _ => i81_0)) 97 (fun _ => i81_1)) 101 f81_2) ν) [(0, .ref (a 0)), (1, .int 3), (2, .int bt), (3, .int m)] [] 84
                            refine V.iconst (pc := 84) 1 hC dX6_sheet_84 (by decide) ?_
                            exact hR 1 ((va_up (va_up (va_up σ 93 (fun _ => i81_0)) 97 (fun _ => i81_1)) 101 f81_2), ν) _ _ dX6_sheet_85 rfl (opc (m := va_up (va_up (va_up μ 4 (upd (μ 4) 3 bt)) 5 (upd (μ 5) 3 m)) 6 (clrS (μ 6) (24 * 3))) (by rw [op_sheet, if_neg (not_not_intro c_4), if_neg (fun q => hB.elim q.1 (fun z => z.elim q.2.1 (fun z => z.elim q.2.2.1 q.2.2.2))), if_neg (fun q => i_ge c_40 q.2), if_neg (fun q => i_ge c_56 q.2), if_neg c_73] <;> rfl)
        (hRR.sheet (s := 3) (by omega) (fun j h1 h2 h3 => ((va_up_ne _ _ h3).trans (va_up_ne _ _ h2)).trans (va_up_ne _ _ h1)) (fun j h1 h2 h3 => ((va_up_ne _ _ h3).trans (va_up_ne _ _ h2)).trans (va_up_ne _ _ h1)) (fun q hq => upd_ne hq) (fun q hq => upd_ne hq) (fun q hq => if_neg (by omega)) ⟨hu81_0.trans (show bt = upd (μ 4) 3 bt 3 from upd_eq.symm), hu81_1.trans (show nI (nN m) = upd (μ 5) 3 m 3 from hh_m.1.symm.trans upd_eq.symm), isN.mk (n := nN m) (show upd (μ 5) 3 m 3 = nI (nN m) from upd_eq.trans hh_m.1) (by omega) (by omega), fun i hi => (hu81_2 i (by
          have q1 : i < nN (upd (μ 5) 3 m 3) := hi
          rw [upd_eq] at q1
          exact q1)).trans (show (0 : Int32) = clrS (μ 6) (24 * 3) (24 * 3 + i) from (if_pos (by
          have q1 : i < nN (upd (μ 5) 3 m 3) := hi
          rw [upd_eq] at q1
          omega)).symm)⟩))
                          · exact absurd c_73 c_50
                  · refine V.aload_n (pc := 59) 0 hC dX6_sheet_59 rfl ?_
                    refine V.iconst (pc := 60) 1 hC dX6_sheet_60 (by decide) ?_
                    refine V.sts (st' := [.int (nI 1), .ref (a 0)]) (stc (nl 1) (stk rfl)) ?_
                    refine V.callV0 (pc := 61) (as := [.int (nI 1)]) hC (c_X6_error σ ν 1 (by omega)) mu_X6_error ml_X6_57 (by decide) ⟨0, 6, TX6, 8, _, rfl, gx_0⟩ rfl (Nat.le_of_ble_eq_true rfl) dX6_sheet_61 ?_
                    rintro _ f61_0 ⟨rfl, hu61_0⟩
                    have hu61_0 : f61_0 = upd (σ 0) 1 (σ 0 1 + 1) := hu61_0
                    show V X (wX k g a (va_up σ 0 f61_0) ν) [(0, .ref (a 0)), (1, .int s), (2, .int bt), (3, .int m)] [.int (lowE 1)] 64
                    exact hR (lowE 1) ((va_up σ 0 f61_0), ν) _ _ dX6_sheet_64 rfl (ope (by rw [op_sheet, if_neg (not_not_intro c_4), if_neg (fun q => hB.elim q.1 (fun z => z.elim q.2.1 (fun z => z.elim q.2.2.1 q.2.2.2))), if_neg (fun q => i_ge c_40 q.2), if_pos ⟨hps c_36, i_nle c_56⟩] <;> rfl) (hRR.er (by omega) hu61_0))
              · refine V.aload_n (pc := 43) 0 hC dX6_sheet_43 rfl ?_
                refine V.iconst (pc := 44) 3 hC dX6_sheet_44 (by decide) ?_
                refine V.sts (st' := [.int (nI 3), .ref (a 0)]) (stc (nl 3) (stk rfl)) ?_
                refine V.callV0 (pc := 45) (as := [.int (nI 3)]) hC (c_X6_error σ ν 3 (by omega)) mu_X6_error ml_X6_57 (by decide) ⟨0, 6, TX6, 8, _, rfl, gx_0⟩ rfl (Nat.le_of_ble_eq_true rfl) dX6_sheet_45 ?_
                rintro _ f45_0 ⟨rfl, hu45_0⟩
                have hu45_0 : f45_0 = upd (σ 0) 3 (σ 0 3 + 1) := hu45_0
                show V X (wX k g a (va_up σ 0 f45_0) ν) [(0, .ref (a 0)), (1, .int s), (2, .int bt), (3, .int m)] [.int (lowE 3)] 48
                exact hR (lowE 3) ((va_up σ 0 f45_0), ν) _ _ dX6_sheet_48 rfl (ope (by rw [op_sheet, if_neg (not_not_intro c_4), if_neg (fun q => hB.elim q.1 (fun z => z.elim q.2.1 (fun z => z.elim q.2.2.1 q.2.2.2))), if_pos ⟨hps c_36, i_nle c_40⟩] <;> rfl) (hRR.er (by omega) hu45_0))
          · refine V.aload_n (pc := 29) 0 hC dX6_sheet_29 rfl ?_
            refine V.iconst (pc := 30) 1 hC dX6_sheet_30 (by decide) ?_
            refine V.sts (st' := [.int (nI 1), .ref (a 0)]) (stc (nl 1) (stk rfl)) ?_
            refine V.callV0 (pc := 31) (as := [.int (nI 1)]) hC (c_X6_error σ ν 1 (by omega)) mu_X6_error ml_X6_57 (by decide) ⟨0, 6, TX6, 8, _, rfl, gx_0⟩ rfl (Nat.le_of_ble_eq_true rfl) dX6_sheet_31 ?_
            rintro _ f31_0 ⟨rfl, hu31_0⟩
            have hu31_0 : f31_0 = upd (σ 0) 1 (σ 0 1 + 1) := hu31_0
            show V X (wX k g a (va_up σ 0 f31_0) ν) [(0, .ref (a 0)), (1, .int s), (2, .int bt), (3, .int m)] [.int (lowE 1)] 34
            exact hR (lowE 1) ((va_up σ 0 f31_0), ν) _ _ dX6_sheet_34 rfl (ope (by rw [op_sheet, if_neg (not_not_intro c_4), if_pos ⟨c_8, c_14, c_20, c_26⟩] <;> rfl) (hRR.er (by omega) hu31_0))
theorem hold_n {i q x : Int32} {n : Nat} (hx : x = nI n) (hn : n ≤ 24) : (0 ≤ i ∧ 0 ≤ q ∧ i ≤ x - q) ↔ (0 ≤ i ∧ 0 ≤ q ∧ q ≤ x - i) := by
  have key : ∀ a b : Int32, 0 ≤ a → 0 ≤ b → a ≤ x - b → b ≤ x - a := fun a b ha hb h => by
    obtain ⟨c, hc, rfl⟩ := nI_of (x := a) (fun z => absurd ha (Int32.not_le.mpr z))
    obtain ⟨d, hd, rfl⟩ := nI_of (x := b) (fun z => absurd hb (Int32.not_le.mpr z))
    rw [hx] at h ⊢
    have h1 := isub_n hn hd hc h
    rw [pk_sub (by omega)]
    exact (nI_leI hd (by omega)).mpr (by omega)
  exact ⟨fun h => ⟨h.1, h.2.1, key i q h.1 h.2.1 h.2.2⟩, fun h => ⟨h.1, h.2.1, key q i h.2.1 h.1 h.2.2⟩⟩

set_option maxHeartbeats 4000000 in
set_option maxRecDepth 100000 in
theorem c_X6_move {l : Launch} {D : va_G} {k : Nat → ClassId} {g a : Nat → Nat} (σ ν μ : St) (s i o j m : Int32) (hRR : RQ σ μ) : Ct l D k g yX6_move cX6_move 8 (some .int) 2 200 [.ref (a 0), .int s, .int i, .int o, .int j, .int m] (S := St × St) (wX k g a σ ν) (fun uu => wX k g a uu.1 uu.2) (fun vv uu => vv = some (.int ((op_move s i o j m μ).1)) ∧ RQ uu.1 (op_move s i o j m μ).2) := by
  refine Ct.ofI RX6 rfl (by decide +kernel) (Nat.le_of_ble_eq_true rfl) (fun X hC hR => ?_)
  have hT := hRR.1.2.2.1.1; have hI := hRR.1.2.2.1.2
  have hb4 := hI.hb; have hb8 := hI.mb; have hb6 := hI.pb; have hbm := hI.ob0; have hbt := hI.bb; have hbw := hI.wb
  show V X (wX k g a σ ν) [(0, .ref (a 0)), (1, .int s), (2, .int i), (3, .int o), (4, .int j), (5, .int m)] [] 0
  refine V.iload_n (pc := 0) 1 hC dX6_move_0 rfl ?_
  refine V.callS0 (pc := 1) (as := [.int s]) hC (c_X6_isSheet s ) ms_X6_isSheet ml_X6_241 (by decide) rfl (Nat.le_of_ble_eq_true rfl) dX6_move_1 ?_
  rintro _ _ rfl
  show V X (wX k g a σ ν) [(0, .ref (a 0)), (1, .int s), (2, .int i), (3, .int o), (4, .int j), (5, .int m)] [.int (bI (inS s 0 3))] 4
  refine V.if_eq_b (P := inS s 0 3) (pc := 4) 14 hC dX6_move_4 (by decide) (fun c_4 => ?_) (fun c_4 => ?_)
  · refine V.aload_n (pc := 14) 0 hC dX6_move_14 rfl ?_
    refine V.iconst (pc := 15) 1 hC dX6_move_15 (by decide) ?_
    refine V.sts (st' := [.int (nI 1), .ref (a 0)]) (stc (nl 1) (stk rfl)) ?_
    refine V.callV0 (pc := 16) (as := [.int (nI 1)]) hC (c_X6_error σ ν 1 (by omega)) mu_X6_error ml_X6_57 (by decide) ⟨0, 6, TX6, 8, _, rfl, gx_0⟩ rfl (Nat.le_of_ble_eq_true rfl) dX6_move_16 ?_
    rintro _ f16_0 ⟨rfl, hu16_0⟩
    have hu16_0 : f16_0 = upd (σ 0) 1 (σ 0 1 + 1) := hu16_0
    show V X (wX k g a (va_up σ 0 f16_0) ν) [(0, .ref (a 0)), (1, .int s), (2, .int i), (3, .int o), (4, .int j), (5, .int m)] [.int (lowE 1)] 19
    exact hR (lowE 1) ((va_up σ 0 f16_0), ν) _ _ dX6_move_19 rfl (ope (by rw [op_move, if_pos c_4] <;> rfl) (hRR.er (by omega) hu16_0))
  · refine V.iload_n (pc := 7) 3 hC dX6_move_7 rfl ?_
    refine V.callS0 (pc := 8) (as := [.int o]) hC (c_X6_isSheet o ) ms_X6_isSheet ml_X6_241 (by decide) rfl (Nat.le_of_ble_eq_true rfl) dX6_move_8 ?_
    rintro _ _ rfl
    show V X (wX k g a σ ν) [(0, .ref (a 0)), (1, .int s), (2, .int i), (3, .int o), (4, .int j), (5, .int m)] [.int (bI (inS o 0 3))] 11
    refine V.if_ne_b (P := inS o 0 3) (pc := 11) 20 hC dX6_move_11 (by decide) (fun c_11 => ?_) (fun c_11 => ?_)
    · have hh_s := inS_c c_4 (nl 3) (by omega)
      have hh_o := inS_c c_11 (nl 3) (by omega)
      have hsh := hRR.1.2.2.2.2.1 (nN s) (by omega)
      have hoh := hRR.1.2.2.2.2.1 (nN o) (by omega)
      have hs24 := hsh.2.2.1.2
      have ho24 := hoh.2.2.1.2
      refine V.aload_n (pc := 20) 0 hC dX6_move_20 rfl ?_
      refine V.get (pc := 21) (v := .ref (a 6)) hC cf_X6 0 5 fl_X6_45 (by decide) gx_0 rfl dX6_move_21 ?_
      refine V.iload_n (pc := 24) 1 hC dX6_move_24 rfl ?_
      refine V.aldS (pc := 25) hC 6 (nN s) (a (90 + nN s)) gx_6 hh_s.1 (by omega) (by decide) rfl dX6_move_25 ?_
      refine V.astore (pc := 26) [(6, .ref (a (90 + nN s))), (0, .ref (a 0)), (1, .int s), (2, .int i), (3, .int o), (4, .int j), (5, .int m)] hC dX6_move_26 (by decide) rfl ?_
      refine V.aload_n (pc := 28) 1 hC dX6_move_28 rfl ?_
      refine V.get (pc := 29) (v := .ref (a 6)) hC cf_X6 0 5 fl_X6_45 (by decide) gx_0 rfl dX6_move_29 ?_
      refine V.iload_n (pc := 32) 4 hC dX6_move_32 rfl ?_
      refine V.aldS (pc := 33) hC 6 (nN o) (a (90 + nN o)) gx_6 hh_o.1 (by omega) (by decide) rfl dX6_move_33 ?_
      refine V.astore (pc := 34) [(7, .ref (a (90 + nN o))), (6, .ref (a (90 + nN s))), (0, .ref (a 0)), (1, .int s), (2, .int i), (3, .int o), (4, .int j), (5, .int m)] hC dX6_move_34 (by decide) rfl ?_
      refine V.aload (pc := 36) 1 hC dX6_move_36 rfl ?_
      refine V.callV0 (pc := 38) (as := []) hC (c_X2_isMissing σ ν (nN s) (by omega)) mu_X2_isMissing ml_X6_253 (by decide) ⟨(47 + (nN s)), 2, TX2, 3, _, rfl, (gx_sho (nN s) (by omega))⟩ rfl (Nat.le_of_ble_eq_true rfl) dX6_move_38 ?_
      rintro _ _ rfl
      show V X (wX k g a σ ν) [(7, .ref (a (90 + nN o))), (6, .ref (a (90 + nN s))), (0, .ref (a 0)), (1, .int s), (2, .int i), (3, .int o), (4, .int j), (5, .int m)] [.int (bI (σ (90 + (nN s)) 0 = 0))] 41
      refine V.if_ne_b (P := σ (90 + (nN s)) 0 = 0) (pc := 41) 52 hC dX6_move_41 (by decide) (fun c_41 => ?_) (fun c_41 => ?_)
      · refine V.aload_n (pc := 52) 2 hC dX6_move_52 rfl ?_
        refine V.iconst (pc := 53) 2 hC dX6_move_53 (by decide) ?_
        refine V.sts (st' := [.int (nI 2), .ref (a 0)]) (stc (nl 2) (stk rfl)) ?_
        refine V.callV0 (pc := 54) (as := [.int (nI 2)]) hC (c_X6_error σ ν 2 (by omega)) mu_X6_error ml_X6_57 (by decide) ⟨0, 6, TX6, 8, _, rfl, gx_0⟩ rfl (Nat.le_of_ble_eq_true rfl) dX6_move_54 ?_
        rintro _ f54_0 ⟨rfl, hu54_0⟩
        have hu54_0 : f54_0 = upd (σ 0) 2 (σ 0 2 + 1) := hu54_0
        show V X (wX k g a (va_up σ 0 f54_0) ν) [(7, .ref (a (90 + nN o))), (6, .ref (a (90 + nN s))), (0, .ref (a 0)), (1, .int s), (2, .int i), (3, .int o), (4, .int j), (5, .int m)] [.int (lowE 2)] 57
        exact hR (lowE 2) ((va_up σ 0 f54_0), ν) _ _ dX6_move_57 rfl (ope (by rw [op_move, if_neg (not_not_intro c_4), if_neg (not_not_intro c_11), if_pos (hsh.1.symm.trans c_41)] <;> rfl) (hRR.er (by omega) hu54_0))
      · refine V.aload (pc := 44) 0 hC dX6_move_44 rfl ?_
        refine V.callV0 (pc := 46) (as := []) hC (c_X2_isMissing σ ν (nN o) (by omega)) mu_X2_isMissing ml_X6_253 (by decide) ⟨(47 + (nN o)), 2, TX2, 3, _, rfl, (gx_sho (nN o) (by omega))⟩ rfl (Nat.le_of_ble_eq_true rfl) dX6_move_46 ?_
        rintro _ _ rfl
        show V X (wX k g a σ ν) [(7, .ref (a (90 + nN o))), (6, .ref (a (90 + nN s))), (0, .ref (a 0)), (1, .int s), (2, .int i), (3, .int o), (4, .int j), (5, .int m)] [.int (bI (σ (90 + (nN o)) 0 = 0))] 49
        refine V.if_eq_b (P := σ (90 + (nN o)) 0 = 0) (pc := 49) 58 hC dX6_move_49 (by decide) (fun c_49 => ?_) (fun c_49 => ?_)
        · refine V.aload (pc := 58) 1 hC dX6_move_58 rfl ?_
          refine V.get (pc := 60) (v := .int (σ (90 + (nN s)) 0)) hC cf_X2 (47 + (nN s)) 0 fl_X6_256 (by decide) (gx_sho (nN s) (by omega)) rfl dX6_move_60 ?_
          refine V.aload (pc := 63) 0 hC dX6_move_63 rfl ?_
          refine V.get (pc := 65) (v := .int (σ (90 + (nN o)) 0)) hC cf_X2 (47 + (nN o)) 0 fl_X6_256 (by decide) (gx_sho (nN o) (by omega)) rfl dX6_move_65 ?_
          refine V.icmp_eq (pc := 68) 77 hC dX6_move_68 (by decide) (fun c_68 => ?_) (fun c_68 => ?_)
          · refine V.aload (pc := 77) 1 hC dX6_move_77 rfl ?_
            refine V.iload_n (pc := 79) 4 hC dX6_move_79 rfl ?_
            refine V.iload (pc := 80) 7 hC dX6_move_80 rfl ?_
            refine V.callV0 (pc := 82) (as := [.int i, .int m]) hC (c_X2_holds σ ν (nN s) i m (by omega)) mu_X2_holds ml_X6_247 (by decide) ⟨(47 + (nN s)), 2, TX2, 3, _, rfl, (gx_sho (nN s) (by omega))⟩ rfl (Nat.le_of_ble_eq_true rfl) dX6_move_82 ?_
            rintro _ _ rfl
            show V X (wX k g a σ ν) [(7, .ref (a (90 + nN o))), (6, .ref (a (90 + nN s))), (0, .ref (a 0)), (1, .int s), (2, .int i), (3, .int o), (4, .int j), (5, .int m)] [.int (bI (0 ≤ i ∧ 0 ≤ m ∧ i ≤ σ (94 + (nN s)) 0 - m))] 85
            refine V.if_eq_b (P := 0 ≤ i ∧ 0 ≤ m ∧ i ≤ σ (94 + (nN s)) 0 - m) (pc := 85) 100 hC dX6_move_85 (by decide) (fun c_85 => ?_) (fun c_85 => ?_)
            · refine V.aload_n (pc := 100) 2 hC dX6_move_100 rfl ?_
              refine V.iconst (pc := 101) 1 hC dX6_move_101 (by decide) ?_
              refine V.sts (st' := [.int (nI 1), .ref (a 0)]) (stc (nl 1) (stk rfl)) ?_
              refine V.callV0 (pc := 102) (as := [.int (nI 1)]) hC (c_X6_error σ ν 1 (by omega)) mu_X6_error ml_X6_57 (by decide) ⟨0, 6, TX6, 8, _, rfl, gx_0⟩ rfl (Nat.le_of_ble_eq_true rfl) dX6_move_102 ?_
              rintro _ f102_0 ⟨rfl, hu102_0⟩
              have hu102_0 : f102_0 = upd (σ 0) 1 (σ 0 1 + 1) := hu102_0
              show V X (wX k g a (va_up σ 0 f102_0) ν) [(7, .ref (a (90 + nN o))), (6, .ref (a (90 + nN s))), (0, .ref (a 0)), (1, .int s), (2, .int i), (3, .int o), (4, .int j), (5, .int m)] [.int (lowE 1)] 105
              exact hR (lowE 1) ((va_up σ 0 f102_0), ν) _ _ dX6_move_105 rfl (ope (by rw [op_move, if_neg (not_not_intro c_4), if_neg (not_not_intro c_11), if_neg (fun z => c_41 (hsh.1.trans z)), if_neg (fun z => c_49 (hoh.1.trans z)), if_neg (not_not_intro (hsh.1.symm.trans (c_68.trans hoh.1))), if_pos (fun z => c_85 (by rw [hsh.2.1]; exact (hold_n hsh.2.2.1.1 hs24).mpr ⟨z.2.1, z.1, z.2.2.2.1⟩))] <;> rfl) (hRR.er (by omega) hu102_0))
            · refine V.aload (pc := 88) 0 hC dX6_move_88 rfl ?_
              refine V.iload (pc := 90) 6 hC dX6_move_90 rfl ?_
              refine V.iload (pc := 92) 7 hC dX6_move_92 rfl ?_
              refine V.callV0 (pc := 94) (as := [.int j, .int m]) hC (c_X2_holds σ ν (nN o) j m (by omega)) mu_X2_holds ml_X6_247 (by decide) ⟨(47 + (nN o)), 2, TX2, 3, _, rfl, (gx_sho (nN o) (by omega))⟩ rfl (Nat.le_of_ble_eq_true rfl) dX6_move_94 ?_
              rintro _ _ rfl
              show V X (wX k g a σ ν) [(7, .ref (a (90 + nN o))), (6, .ref (a (90 + nN s))), (0, .ref (a 0)), (1, .int s), (2, .int i), (3, .int o), (4, .int j), (5, .int m)] [.int (bI (0 ≤ j ∧ 0 ≤ m ∧ j ≤ σ (94 + (nN o)) 0 - m))] 97
              refine V.if_ne_b (P := 0 ≤ j ∧ 0 ≤ m ∧ j ≤ σ (94 + (nN o)) 0 - m) (pc := 97) 106 hC dX6_move_97 (by decide) (fun c_97 => ?_) (fun c_97 => ?_)
              · have h85 : 0 ≤ i ∧ 0 ≤ m ∧ m ≤ μ 5 (nN s) - i := (hold_n hsh.2.2.1.1 hs24).mp (by rw [← hsh.2.1]; exact c_85)
                have h97 : 0 ≤ j ∧ 0 ≤ m ∧ m ≤ μ 5 (nN o) - j := (hold_n hoh.2.2.1.1 ho24).mp (by rw [← hoh.2.1]; exact c_97)
                have hmk : movOk s i o j m μ := ⟨h85.2.1, h85.1, h97.1, h85.2.2, h97.2.2⟩
                have hmv := mov_n hmk hsh.2.2.1 hoh.2.2.1
                refine V.aload (pc := 106) 1 hC dX6_move_106 rfl ?_
                refine V.get (pc := 108) (v := .ref (a (94 + (nN s)))) hC cf_X2 (47 + (nN s)) 2 fl_X6_259 (by decide) (gx_sho (nN s) (by omega)) rfl dX6_move_108 ?_
                refine V.iload_n (pc := 111) 4 hC dX6_move_111 rfl ?_
                refine V.aload (pc := 112) 0 hC dX6_move_112 rfl ?_
                refine V.get (pc := 114) (v := .ref (a (94 + (nN o)))) hC cf_X2 (47 + (nN o)) 2 fl_X6_259 (by decide) (gx_sho (nN o) (by omega)) rfl dX6_move_114 ?_
                refine V.iload (pc := 117) 6 hC dX6_move_117 rfl ?_
                refine V.iload (pc := 119) 7 hC dX6_move_119 rfl ?_
                refine V.copyi (pc := 121) (f := σ (98 + nN s)) (gg := σ (98 + nN o)) hC (51 + nN s) (51 + nN o) (nN i) (nN j) (nN m) (wX k g a (va_up σ (98 + (nN o)) (va_cpy (σ (98 + nN s)) (σ (98 + nN o)) (nN i) (nN j) (nN m))) ν) 0 .int (k 0) ml_X6_262 (gx_shn (nN s) (by omega)) (gx_shn (nN o) (by omega)) rfl rfl hmv.1.1 hmv.1.2.1 hmv.1.2.2 (by omega) (by omega) (by decide) (by decide) (fun _ _ => rfl) ⟨Nat.le_of_ble_eq_true rfl, Nat.le_of_ble_eq_true rfl⟩ (sx_shn (nN o) (by omega)) dX6_move_121 ?_
                show V X (wX k g a (va_up σ (98 + (nN o)) (va_cpy (σ (98 + nN s)) (σ (98 + nN o)) (nN i) (nN j) (nN m))) ν) [(7, .ref (a (90 + nN o))), (6, .ref (a (90 + nN s))), (0, .ref (a 0)), (1, .int s), (2, .int i), (3, .int o), (4, .int j), (5, .int m)] [] 124
                refine V.iload (pc := 124) 7 hC dX6_move_124 rfl ?_
                exact hR m ((va_up σ (98 + (nN o)) (va_cpy (σ (98 + nN s)) (σ (98 + nN o)) (nN i) (nN j) (nN m))), ν) _ _ dX6_move_126 rfl (opc (m := va_up μ 6 (va_cpy (μ 6) (μ 6) (24 * nN s + nN i) (24 * nN o + nN j) (nN m))) (by rw [op_move, if_neg (not_not_intro c_4), if_neg (not_not_intro c_11), if_neg (fun z => c_41 (hsh.1.trans z)), if_neg (fun z => c_49 (hoh.1.trans z)), if_neg (not_not_intro (hsh.1.symm.trans (c_68.trans hoh.1))), if_neg (not_not_intro hmk)])
        (hRR.sheet (s := nN o) (by omega) (fun j h1 h2 h3 => va_up_ne _ _ h3) (fun j h1 h2 h3 => va_up_ne _ _ h3) (fun q _ => rfl) (fun q _ => rfl) (fun q hq => if_neg (by omega)) ⟨(congrFun (va_up_ne _ _ (by omega)) 0).trans hoh.1, (congrFun (va_up_ne _ _ (by omega)) 0).trans hoh.2.1, hoh.2.2.1, fun q hq => by
          show va_up σ (98 + nN o) (va_cpy (σ (98 + nN s)) (σ (98 + nN o)) (nN i) (nN j) (nN m)) (98 + nN o) q = va_cpy (μ 6) (μ 6) (24 * nN s + nN i) (24 * nN o + nN j) (nN m) (24 * nN o + q)
          rw [va_up_self]
          unfold va_cpy
          by_cases e : nN j ≤ q ∧ q < nN j + nN m
          · rw [if_pos e, if_pos (by omega), hsh.2.2.2 _ (by omega)]
            congr 1; omega
          · rw [if_neg e, if_neg (by omega)]; exact hoh.2.2.2 q hq⟩))
              · refine V.aload_n (pc := 100) 2 hC dX6_move_100 rfl ?_
                refine V.iconst (pc := 101) 1 hC dX6_move_101 (by decide) ?_
                refine V.sts (st' := [.int (nI 1), .ref (a 0)]) (stc (nl 1) (stk rfl)) ?_
                refine V.callV0 (pc := 102) (as := [.int (nI 1)]) hC (c_X6_error σ ν 1 (by omega)) mu_X6_error ml_X6_57 (by decide) ⟨0, 6, TX6, 8, _, rfl, gx_0⟩ rfl (Nat.le_of_ble_eq_true rfl) dX6_move_102 ?_
                rintro _ f102_0 ⟨rfl, hu102_0⟩
                have hu102_0 : f102_0 = upd (σ 0) 1 (σ 0 1 + 1) := hu102_0
                show V X (wX k g a (va_up σ 0 f102_0) ν) [(7, .ref (a (90 + nN o))), (6, .ref (a (90 + nN s))), (0, .ref (a 0)), (1, .int s), (2, .int i), (3, .int o), (4, .int j), (5, .int m)] [.int (lowE 1)] 105
                exact hR (lowE 1) ((va_up σ 0 f102_0), ν) _ _ dX6_move_105 rfl (ope (by rw [op_move, if_neg (not_not_intro c_4), if_neg (not_not_intro c_11), if_neg (fun z => c_41 (hsh.1.trans z)), if_neg (fun z => c_49 (hoh.1.trans z)), if_neg (not_not_intro (hsh.1.symm.trans (c_68.trans hoh.1))), if_pos (fun z => c_97 (by rw [hoh.2.1]; exact (hold_n hoh.2.2.1.1 ho24).mpr ⟨z.2.2.1, z.1, z.2.2.2.2⟩))] <;> rfl) (hRR.er (by omega) hu102_0))
          · refine V.aload_n (pc := 71) 2 hC dX6_move_71 rfl ?_
            refine V.iconst (pc := 72) 5 hC dX6_move_72 (by decide) ?_
            refine V.sts (st' := [.int (nI 5), .ref (a 0)]) (stc (nl 5) (stk rfl)) ?_
            refine V.callV0 (pc := 73) (as := [.int (nI 5)]) hC (c_X6_error σ ν 5 (by omega)) mu_X6_error ml_X6_57 (by decide) ⟨0, 6, TX6, 8, _, rfl, gx_0⟩ rfl (Nat.le_of_ble_eq_true rfl) dX6_move_73 ?_
            rintro _ f73_0 ⟨rfl, hu73_0⟩
            have hu73_0 : f73_0 = upd (σ 0) 5 (σ 0 5 + 1) := hu73_0
            show V X (wX k g a (va_up σ 0 f73_0) ν) [(7, .ref (a (90 + nN o))), (6, .ref (a (90 + nN s))), (0, .ref (a 0)), (1, .int s), (2, .int i), (3, .int o), (4, .int j), (5, .int m)] [.int (lowE 5)] 76
            exact hR (lowE 5) ((va_up σ 0 f73_0), ν) _ _ dX6_move_76 rfl (ope (by rw [op_move, if_neg (not_not_intro c_4), if_neg (not_not_intro c_11), if_neg (fun z => c_41 (hsh.1.trans z)), if_neg (fun z => c_49 (hoh.1.trans z)), if_pos (fun z => c_68 (hsh.1.trans (z.trans hoh.1.symm)))] <;> rfl) (hRR.er (by omega) hu73_0))
        · refine V.aload_n (pc := 52) 2 hC dX6_move_52 rfl ?_
          refine V.iconst (pc := 53) 2 hC dX6_move_53 (by decide) ?_
          refine V.sts (st' := [.int (nI 2), .ref (a 0)]) (stc (nl 2) (stk rfl)) ?_
          refine V.callV0 (pc := 54) (as := [.int (nI 2)]) hC (c_X6_error σ ν 2 (by omega)) mu_X6_error ml_X6_57 (by decide) ⟨0, 6, TX6, 8, _, rfl, gx_0⟩ rfl (Nat.le_of_ble_eq_true rfl) dX6_move_54 ?_
          rintro _ f54_0 ⟨rfl, hu54_0⟩
          have hu54_0 : f54_0 = upd (σ 0) 2 (σ 0 2 + 1) := hu54_0
          show V X (wX k g a (va_up σ 0 f54_0) ν) [(7, .ref (a (90 + nN o))), (6, .ref (a (90 + nN s))), (0, .ref (a 0)), (1, .int s), (2, .int i), (3, .int o), (4, .int j), (5, .int m)] [.int (lowE 2)] 57
          exact hR (lowE 2) ((va_up σ 0 f54_0), ν) _ _ dX6_move_57 rfl (ope (by rw [op_move, if_neg (not_not_intro c_4), if_neg (not_not_intro c_11), if_neg (fun z => c_41 (hsh.1.trans z)), if_pos (hoh.1.symm.trans c_49)] <;> rfl) (hRR.er (by omega) hu54_0))
    · refine V.aload_n (pc := 14) 0 hC dX6_move_14 rfl ?_
      refine V.iconst (pc := 15) 1 hC dX6_move_15 (by decide) ?_
      refine V.sts (st' := [.int (nI 1), .ref (a 0)]) (stc (nl 1) (stk rfl)) ?_
      refine V.callV0 (pc := 16) (as := [.int (nI 1)]) hC (c_X6_error σ ν 1 (by omega)) mu_X6_error ml_X6_57 (by decide) ⟨0, 6, TX6, 8, _, rfl, gx_0⟩ rfl (Nat.le_of_ble_eq_true rfl) dX6_move_16 ?_
      rintro _ f16_0 ⟨rfl, hu16_0⟩
      have hu16_0 : f16_0 = upd (σ 0) 1 (σ 0 1 + 1) := hu16_0
      show V X (wX k g a (va_up σ 0 f16_0) ν) [(0, .ref (a 0)), (1, .int s), (2, .int i), (3, .int o), (4, .int j), (5, .int m)] [.int (lowE 1)] 19
      exact hR (lowE 1) ((va_up σ 0 f16_0), ν) _ _ dX6_move_19 rfl (ope (by rw [op_move, if_neg (not_not_intro c_4), if_pos c_11] <;> rfl) (hRR.er (by omega) hu16_0))
