set_option maxHeartbeats 4000000 in
set_option maxRecDepth 100000 in
theorem c_X7_untell {l : Launch} {D : va_G} {k : Nat → ClassId} {g b : Nat → Nat} (μ ν : St) (u : Int32) (hI : Inv (μ 0)) : Ct l D k g yX7_untell cX7_untell 2 (some .int) 1 23 [.ref (b 20), .int u] (S := St) (wM k b μ ν) (fun uu => wM k b uu ν) (fun vv uu => vv = some (.int ((op_untell u μ).1)) ∧ uu = (op_untell u μ).2) := by
  refine Ct.ofI RX7 rfl (by decide +kernel) (Nat.le_of_ble_eq_true rfl) (fun X hC hR => ?_)
  have hb4 := hI.hb; have hb8 := hI.mb; have hb6 := hI.pb; have hbm := hI.ob0; have hbt := hI.bb; have hbw := hI.wb
  show V X (wM k b μ ν) [(0, .ref (b 20)), (1, .int u)] [] 0
  refine V.iload_n (pc := 0) 1 hC dX7_untell_0 rfl ?_
  refine V.iconst (pc := 1) 0 hC dX7_untell_1 (by decide) ?_
  refine V.iconst (pc := 2) 1 hC dX7_untell_2 (by decide) ?_
  refine V.callS0 (pc := 3) (as := [.int u, .int 0, .int 1]) hC (c_X7_in u 0 1 ) ms_X7_in ml_X7_47 (by decide) rfl (Nat.le_of_ble_eq_true rfl) dX7_untell_3 ?_
  rintro _ _ rfl
  show V X (wM k b μ ν) [(0, .ref (b 20)), (1, .int u)] [.int (bI (inS u 0 1))] 6
  refine V.if_ne_b (P := inS u 0 1) (pc := 6) 16 hC dX7_untell_6 (by decide) (fun c_6 => ?_) (fun c_6 => ?_)
  · have hh_u := inS_c c_6 (nl 1) (by omega)
    refine V.aload_n (pc := 16) 0 hC dX7_untell_16 rfl ?_
    refine V.sipush (pc := 17) 133 hC dX7_untell_17 (by decide) ?_
    refine V.bipush (pc := 20) 121 hC dX7_untell_20 (by decide) ?_
    refine V.iload_n (pc := 22) 1 hC dX7_untell_22 rfl ?_
    refine V.imul (pc := 23) hC dX7_untell_23 ?_
    refine V.iadd (pc := 24) hC dX7_untell_24 ?_
    refine V.iconst (pc := 25) 0 hC dX7_untell_25 (by decide) ?_
    refine V.sts (st' := [.int 0, .int (nI (133 + 121 * nN u)), .ref (b 20)]) (stk (stc (ncast (b := 133 + 121 * nN u) (nadd (nl 133) (nmul (nl 121) hh_u.1)) (by omega)) (stk rfl))) ?_
    refine V.callV0 (pc := 26) (as := [.int (nI (133 + 121 * nN u)), .int 0]) hC (c_X7_becomes μ ν (133 + 121 * nN u) 0 (by omega)) mu_X7_becomes ml_X7_110 (by decide) ⟨0, 7, TX7, 20, _, rfl, gm_0⟩ rfl (Nat.le_of_ble_eq_true rfl) dX7_untell_26 ?_
    rintro _ _ rfl
    show V X (wM k b (va_up μ 0 (upd (μ 0) (133 + 121 * nN u) 0)) ν) [(0, .ref (b 20)), (1, .int u)] [.int (μ 0 (133 + 121 * nN u))] 29
    refine V.if_le (pc := 29) 36 hC dX7_untell_29 (by decide) (fun c_29 => ?_) (fun c_29 => ?_)
    · refine V.iconst (pc := 36) 0 hC dX7_untell_36 (by decide) ?_
      exact hR 0 ((va_up μ 0 (upd (μ 0) (133 + 121 * nN u) 0))) _ _ dX7_untell_37 rfl (opr (by rw [op_untell, if_neg (not_not_intro c_6), if_neg (i_ge c_29)]))
    · refine V.iconst (pc := 32) 1 hC dX7_untell_32 (by decide) ?_
      refine V.goto (pc := 33) 37 hC dX7_untell_33 (by decide) ?_
      exact hR 1 ((va_up μ 0 (upd (μ 0) (133 + 121 * nN u) 0))) _ _ dX7_untell_37 rfl (opr (by rw [op_untell, if_neg (not_not_intro c_6), if_pos (i_nle c_29)]))
  · refine V.aload_n (pc := 9) 0 hC dX7_untell_9 rfl ?_
    refine V.ldc (pc := 10) (v := (-1000000001)) hC cn_X7_55 dX7_untell_10 ?_
    refine V.callV0 (pc := 12) (as := [.int (-1000000001)]) hC (c_X7_error μ ν 1 (-1000000001) (by omega) (by decide)) mu_X7_error ml_X7_56 (by decide) ⟨0, 7, TX7, 20, _, rfl, gm_0⟩ rfl (Nat.le_of_ble_eq_true rfl) dX7_untell_12 ?_
    rintro _ _ rfl
    show V X (wM k b (va_up μ 3 (upd (μ 3) 1 (μ 3 1 + 1))) ν) [(0, .ref (b 20)), (1, .int u)] [.int (-1000000001)] 15
    exact hR (-1000000001) ((va_up μ 3 (upd (μ 3) 1 (μ 3 1 + 1)))) _ _ dX7_untell_15 rfl (opr (by simp only [op_untell, c_6, inS, hndS, homS, prsS, shtS, if_true, if_false, not_true_eq_false, not_false_eq_true, true_and, and_true, false_and, and_false, true_or, or_true, or_false, false_or, er_1, er_2, er_3, er_4, er_5, er_6] <;> rfl))
set_option maxHeartbeats 4000000 in
set_option maxRecDepth 100000 in
theorem c_X7_law {l : Launch} {D : va_G} {k : Nat → ClassId} {g b : Nat → Nat} (μ ν : St) (u x y z : Int32) (hI : Inv (μ 0)) : Ct l D k g yX7_law cX7_law 5 (some .int) 3 72 [.ref (b 20), .int u, .int x, .int y, .int z] (S := St × Rw × Rw) (wM k b μ ν) (fun uu => wM k b uu.1 (va_up (va_up ν 10 uu.2.1) 11 uu.2.2)) (fun vv uu => vv = some (.int ((op_law u x y z μ).1)) ∧ uu.1 = (op_law u x y z μ).2) := by
  refine Ct.ofI RX7 rfl (by decide +kernel) (Nat.le_of_ble_eq_true rfl) (fun X hC hR => ?_)
  have hb4 := hI.hb; have hb8 := hI.mb; have hb6 := hI.pb; have hbm := hI.ob0; have hbt := hI.bb; have hbw := hI.wb
  show V X (wM k b μ ν) [(0, .ref (b 20)), (1, .int u), (2, .int x), (3, .int y), (4, .int z)] [] 0
  refine V.iload_n (pc := 0) 1 hC dX7_law_0 rfl ?_
  refine V.iconst (pc := 1) 0 hC dX7_law_1 (by decide) ?_
  refine V.iconst (pc := 2) 1 hC dX7_law_2 (by decide) ?_
  refine V.callS0 (pc := 3) (as := [.int u, .int 0, .int 1]) hC (c_X7_in u 0 1 ) ms_X7_in ml_X7_47 (by decide) rfl (Nat.le_of_ble_eq_true rfl) dX7_law_3 ?_
  rintro _ _ rfl
  show V X (wM k b μ ν) [(0, .ref (b 20)), (1, .int u), (2, .int x), (3, .int y), (4, .int z)] [.int (bI (inS u 0 1))] 6
  refine V.if_eq_b (P := inS u 0 1) (pc := 6) 21 hC dX7_law_6 (by decide) (fun c_6 => ?_) (fun c_6 => ?_)
  · refine V.aload_n (pc := 21) 0 hC dX7_law_21 rfl ?_
    refine V.ldc (pc := 22) (v := (-1000000001)) hC cn_X7_55 dX7_law_22 ?_
    refine V.callV0 (pc := 24) (as := [.int (-1000000001)]) hC (c_X7_error μ ν 1 (-1000000001) (by omega) (by decide)) mu_X7_error ml_X7_56 (by decide) ⟨0, 7, TX7, 20, _, rfl, gm_0⟩ rfl (Nat.le_of_ble_eq_true rfl) dX7_law_24 ?_
    rintro _ _ rfl
    show V X (wM k b (va_up μ 3 (upd (μ 3) 1 (μ 3 1 + 1))) ν) [(0, .ref (b 20)), (1, .int u), (2, .int x), (3, .int y), (4, .int z)] [.int (-1000000001)] 27
    exact hR (-1000000001) ((va_up μ 3 (upd (μ 3) 1 (μ 3 1 + 1))), ν 10, ν 11) _ _ dX7_law_27 rfl (opr (by simp only [op_law, c_6, inS, hndS, homS, prsS, shtS, if_true, if_false, not_true_eq_false, not_false_eq_true, true_and, and_true, false_and, and_false, true_or, or_true, or_false, false_or, er_1, er_2, er_3, er_4, er_5, er_6] <;> rfl))
  · have hh_u := inS_c c_6 (nl 1) (by omega)
    refine V.aload_n (pc := 9) 0 hC dX7_law_9 rfl ?_
    refine V.iload_n (pc := 10) 1 hC dX7_law_10 rfl ?_
    refine V.iload_n (pc := 11) 2 hC dX7_law_11 rfl ?_
    refine V.iload_n (pc := 12) 3 hC dX7_law_12 rfl ?_
    refine V.iload (pc := 13) 4 hC dX7_law_13 rfl ?_
    refine V.sts (st' := [.int z, .int y, .int x, .int (nI (nN u)), .ref (b 20)]) (stk (stk (stk (stc hh_u.1 (stk rfl))))) ?_
    refine V.callV0 (pc := 15) (as := [.int (nI (nN u)), .int x, .int y, .int z]) hC (c_X7_gives μ ν (nN u) x y z hI (by have := hh_u.2; omega)) mu_X7_gives ml_X7_68 (by decide) ⟨0, 7, TX7, 20, _, rfl, gm_0⟩ rfl (Nat.le_of_ble_eq_true rfl) dX7_law_15 ?_
    rintro _ ⟨f15_0, f15_1⟩ rfl
    show V X (wM k b μ (va_up (va_up ν 10 f15_0) 11 f15_1)) [(0, .ref (b 20)), (1, .int u), (2, .int x), (3, .int y), (4, .int z)] [.int (givesS (μ 0) (nN u) x y z)] 18
    refine V.goto (pc := 18) 27 hC dX7_law_18 (by decide) ?_
    exact hR (givesS (μ 0) (nN u) x y z) (μ, f15_0, f15_1) _ _ dX7_law_27 rfl (opr (by simp only [op_law, c_6, inS, hndS, homS, prsS, shtS, if_true, if_false, not_true_eq_false, not_false_eq_true, true_and, and_true, false_and, and_false, true_or, or_true, or_false, false_or, er_1, er_2, er_3, er_4, er_5, er_6] <;> rfl))
set_option maxHeartbeats 4000000 in
set_option maxRecDepth 100000 in
theorem c_X7_minutes {l : Launch} {D : va_G} {k : Nat → ClassId} {g b : Nat → Nat} (μ ν : St) (m : Int32) (hI : Inv (μ 0)) : Ct l D k g yX7_minutes cX7_minutes 2 (some .int) 1 22 [.ref (b 20), .int m] (S := St) (wM k b μ ν) (fun uu => wM k b uu ν) (fun vv uu => vv = some (.int ((op_minutes m μ).1)) ∧ uu = (op_minutes m μ).2) := by
  refine Ct.ofI RX7 rfl (by decide +kernel) (Nat.le_of_ble_eq_true rfl) (fun X hC hR => ?_)
  have hb4 := hI.hb; have hb8 := hI.mb; have hb6 := hI.pb; have hbm := hI.ob0; have hbt := hI.bb; have hbw := hI.wb
  show V X (wM k b μ ν) [(0, .ref (b 20)), (1, .int m)] [] 0
  refine V.iload_n (pc := 0) 1 hC dX7_minutes_0 rfl ?_
  refine V.iconst (pc := 1) 1 hC dX7_minutes_1 (by decide) ?_
  refine V.sipush (pc := 2) 720 hC dX7_minutes_2 (by decide) ?_
  refine V.callS0 (pc := 5) (as := [.int m, .int 1, .int 720]) hC (c_X7_in m 1 720 ) ms_X7_in ml_X7_47 (by decide) rfl (Nat.le_of_ble_eq_true rfl) dX7_minutes_5 ?_
  rintro _ _ rfl
  show V X (wM k b μ ν) [(0, .ref (b 20)), (1, .int m)] [.int (bI (inS m 1 720))] 8
  refine V.if_ne_b (P := inS m 1 720) (pc := 8) 18 hC dX7_minutes_8 (by decide) (fun c_8 => ?_) (fun c_8 => ?_)
  · have hh_m := inS_1 c_8 (nl 1) (nl 720) (by omega) (by omega)
    refine V.aload_n (pc := 18) 0 hC dX7_minutes_18 rfl ?_
    refine V.get (pc := 19) (v := .ref (b 0)) hC cf_X7 0 0 fl_X7_9 (by decide) gm_0 rfl dX7_minutes_19 ?_
    refine V.iconst (pc := 22) 0 hC dX7_minutes_22 (by decide) ?_
    refine V.iald (pc := 23) (f := μ 0) hC 1 0 gm_1 (nl 0) (by omega) (by decide) dX7_minutes_23 ?_
    refine V.iload_n (pc := 24) 1 hC dX7_minutes_24 rfl ?_
    refine V.iadd (pc := 25) hC dX7_minutes_25 ?_
    refine V.sipush (pc := 26) 9999 hC dX7_minutes_26 (by decide) ?_
    refine V.icmp_le (pc := 29) 39 hC dX7_minutes_29 (by decide) (fun c_29 => ?_) (fun c_29 => ?_)
    · have nc_29 : nN (μ 0 0) + nN m ≤ 9999 := (nle (ncast (b := nN (μ 0 0) + nN m) (nadd hI.on0 hh_m.1) (by omega)) (nl 9999) (by omega) (by omega)).mp c_29
      refine V.aload_n (pc := 39) 0 hC dX7_minutes_39 rfl ?_
      refine V.get (pc := 40) (v := .ref (b 0)) hC cf_X7 0 0 fl_X7_9 (by decide) gm_0 rfl dX7_minutes_40 ?_
      refine V.iconst (pc := 43) 0 hC dX7_minutes_43 (by decide) ?_
      refine V.dup2 (pc := 44) hC dX7_minutes_44 rfl rfl ?_
      refine V.iald (pc := 45) (f := μ 0) hC 1 0 gm_1 (nl 0) (by omega) (by decide) dX7_minutes_45 ?_
      refine V.iload_n (pc := 46) 1 hC dX7_minutes_46 rfl ?_
      refine V.iadd (pc := 47) hC dX7_minutes_47 ?_
      refine V.iast (pc := 48) (f := μ 0) hC 1 0 (wM k b (va_up μ 0 (upd (μ 0) 0 ((μ 0 0) + m))) ν) gm_1 (nl 0) (by omega) (by decide) rfl dX7_minutes_48 ?_
      refine V.aload_n (pc := 49) 0 hC dX7_minutes_49 rfl ?_
      refine V.get (pc := 50) (v := .ref (b 0)) hC cf_X7 0 0 fl_X7_9 (by decide) gm_0 rfl dX7_minutes_50 ?_
      refine V.iconst (pc := 53) 0 hC dX7_minutes_53 (by decide) ?_
      refine V.iald (pc := 54) (f := upd (μ 0) 0 ((μ 0 0) + m)) hC 1 0 gm_1 (nl 0) (by omega) (by decide) dX7_minutes_54 ?_
      refine V.eqi (y := (μ 0 0) + m) (upd_eq) ?_
      exact hR ((μ 0 0) + m) ((va_up μ 0 (upd (μ 0) 0 ((μ 0 0) + m)))) _ _ dX7_minutes_55 rfl (opr (by rw [op_minutes, if_neg (not_not_intro c_8), if_neg (i_ge c_29)]))
    · have nc_29 : ¬ (nN (μ 0 0) + nN m ≤ 9999) := fun z => c_29 ((nle (ncast (b := nN (μ 0 0) + nN m) (nadd hI.on0 hh_m.1) (by omega)) (nl 9999) (by omega) (by omega)).mpr z)
      refine V.aload_n (pc := 32) 0 hC dX7_minutes_32 rfl ?_
      refine V.ldc (pc := 33) (v := (-1000000003)) hC cn_X7_118 dX7_minutes_33 ?_
      refine V.callV0 (pc := 35) (as := [.int (-1000000003)]) hC (c_X7_error μ ν 3 (-1000000003) (by omega) (by decide)) mu_X7_error ml_X7_56 (by decide) ⟨0, 7, TX7, 20, _, rfl, gm_0⟩ rfl (Nat.le_of_ble_eq_true rfl) dX7_minutes_35 ?_
      rintro _ _ rfl
      show V X (wM k b (va_up μ 3 (upd (μ 3) 3 (μ 3 3 + 1))) ν) [(0, .ref (b 20)), (1, .int m)] [.int (-1000000003)] 38
      exact hR (-1000000003) ((va_up μ 3 (upd (μ 3) 3 (μ 3 3 + 1)))) _ _ dX7_minutes_38 rfl (opr (by simp only [op_minutes, c_8, c_29, i_nle c_29, inS, hndS, homS, prsS, shtS, if_true, if_false, not_true_eq_false, not_false_eq_true, true_and, and_true, false_and, and_false, true_or, or_true, or_false, false_or, er_1, er_2, er_3, er_4, er_5, er_6] <;> rfl))
  · refine V.aload_n (pc := 11) 0 hC dX7_minutes_11 rfl ?_
    refine V.ldc (pc := 12) (v := (-1000000001)) hC cn_X7_55 dX7_minutes_12 ?_
    refine V.callV0 (pc := 14) (as := [.int (-1000000001)]) hC (c_X7_error μ ν 1 (-1000000001) (by omega) (by decide)) mu_X7_error ml_X7_56 (by decide) ⟨0, 7, TX7, 20, _, rfl, gm_0⟩ rfl (Nat.le_of_ble_eq_true rfl) dX7_minutes_14 ?_
    rintro _ _ rfl
    show V X (wM k b (va_up μ 3 (upd (μ 3) 1 (μ 3 1 + 1))) ν) [(0, .ref (b 20)), (1, .int m)] [.int (-1000000001)] 17
    exact hR (-1000000001) ((va_up μ 3 (upd (μ 3) 1 (μ 3 1 + 1)))) _ _ dX7_minutes_17 rfl (opr (by simp only [op_minutes, c_8, inS, hndS, homS, prsS, shtS, if_true, if_false, not_true_eq_false, not_false_eq_true, true_and, and_true, false_and, and_false, true_or, or_true, or_false, false_or, er_1, er_2, er_3, er_4, er_5, er_6] <;> rfl))
set_option maxHeartbeats 4000000 in
set_option maxRecDepth 100000 in
theorem c_X7_draw {l : Launch} {D : va_G} {k : Nat → ClassId} {g b : Nat → Nat} (μ ν : St)  : Ct l D k g yX7_draw cX7_draw 1 (some .int) 0 0 [.ref (b 20)] (S := Rw) (wM k b μ ν) (fun uu => wM k b (va_up μ 0 uu) ν) (fun vv uu => vv = some (.int (dvS (μ 0))) ∧ uu = drwS (μ 0)) := by
  refine Ct.ofI RX7 rfl (by decide +kernel) (Nat.le_of_ble_eq_true rfl) (fun X hC hR => ?_)
  show V X (wM k b μ ν) [(0, .ref (b 20))] [] 0
  refine V.aload_n (pc := 0) 0 hC dX7_draw_0 rfl ?_
  refine V.get (pc := 1) (v := .ref (b 0)) hC cf_X7 0 0 fl_X7_9 (by decide) gm_0 rfl dX7_draw_1 ?_
  refine V.iconst (pc := 4) 1 hC dX7_draw_4 (by decide) ?_
  refine V.aload_n (pc := 5) 0 hC dX7_draw_5 rfl ?_
  refine V.get (pc := 6) (v := .ref (b 0)) hC cf_X7 0 0 fl_X7_9 (by decide) gm_0 rfl dX7_draw_6 ?_
  refine V.iconst (pc := 9) 1 hC dX7_draw_9 (by decide) ?_
  refine V.iald (pc := 10) (f := μ 0) hC 1 1 gm_1 (nl 1) (by omega) (by decide) dX7_draw_10 ?_
  refine V.ldc (pc := 11) (v := 1103515245) hC cn_X7_183 dX7_draw_11 ?_
  refine V.imul (pc := 13) hC dX7_draw_13 ?_
  refine V.sipush (pc := 14) 12345 hC dX7_draw_14 (by decide) ?_
  refine V.iadd (pc := 17) hC dX7_draw_17 ?_
  refine V.iast (pc := 18) (f := μ 0) hC 1 1 (wM k b (va_up μ 0 (upd (μ 0) 1 (((μ 0 1) * 1103515245) + 12345))) ν) gm_1 (nl 1) (by omega) (by decide) rfl dX7_draw_18 ?_
  refine V.aload_n (pc := 19) 0 hC dX7_draw_19 rfl ?_
  refine V.get (pc := 20) (v := .ref (b 0)) hC cf_X7 0 0 fl_X7_9 (by decide) gm_0 rfl dX7_draw_20 ?_
  refine V.iconst (pc := 23) 1 hC dX7_draw_23 (by decide) ?_
  refine V.iald (pc := 24) (f := upd (μ 0) 1 (((μ 0 1) * 1103515245) + 12345)) hC 1 1 gm_1 (nl 1) (by omega) (by decide) dX7_draw_24 ?_
  refine V.eqi (y := ((μ 0 1) * 1103515245) + 12345) (upd_eq) ?_
  refine V.bipush (pc := 25) 8 hC dX7_draw_25 (by decide) ?_
  refine V.iushr (pc := 27) hC dX7_draw_27 ?_
  exact hR (((((μ 0 1) * 1103515245) + 12345).toUInt32 >>> ((8 : Int32).toUInt32 &&& Int32.toUInt32 31)).toInt32) (upd (μ 0) 1 (((μ 0 1) * 1103515245) + 12345)) _ _ dX7_draw_28 rfl ⟨rfl, rfl⟩
set_option maxHeartbeats 4000000 in
set_option maxRecDepth 100000 in
theorem c_X7_drawn {l : Launch} {D : va_G} {k : Nat → ClassId} {g b : Nat → Nat} (μ ν : St) (hI : Inv (μ 0)) (h0 : 0 < nN (μ 0 4)) : Ct l D k g yX7_drawn cX7_drawn 4 (some .int) 5 120 [.ref (b 20)] (S := Rw × Rw × Rw × Int32) (wM k b μ ν) (fun uu => wM k b (va_up μ 0 uu.1) (va_up (va_up ν 10 uu.2.1) 11 uu.2.2.1)) (fun vv uu => vv = some (.int uu.2.2.2) ∧ uu.2.2.2 = (drnS (μ 0)).1 ∧ uu.1 = (drnS (μ 0)).2) := by
  refine Ct.ofI RX7 rfl (by decide +kernel) (Nat.le_of_ble_eq_true rfl) (fun X hC hR => ?_)
  have hb8 := hI.mb; have hb6 := hI.pb; have hdp := dp_n hI h0; have hdh := dh_n hI (hI.home0 h0); have h30 := hI.home0 h0
  show V X (wM k b μ ν) [(0, .ref (b 20))] [] 0
  refine V.aload_n (pc := 0) 0 hC dX7_drawn_0 rfl ?_
  refine V.callV0 (pc := 1) (as := []) hC (c_X7_draw μ ν ) mu_X7_draw ml_X7_184 (by decide) ⟨0, 7, TX7, 20, _, rfl, gm_0⟩ rfl (Nat.le_of_ble_eq_true rfl) dX7_drawn_1 ?_
  rintro _ f1_0 ⟨rfl, hu1_0⟩
  have hu1_0 : f1_0 = drwS (μ 0) := hu1_0
  show V X (wM k b (va_up μ 0 f1_0) ν) [(0, .ref (b 20))] [.int (dvS (μ 0))] 4
  refine V.aload_n (pc := 4) 0 hC dX7_drawn_4 rfl ?_
  refine V.get (pc := 5) (v := .ref (b 0)) hC cf_X7 0 0 fl_X7_9 (by decide) gm_0 rfl dX7_drawn_5 ?_
  refine V.iconst (pc := 8) 4 hC dX7_drawn_8 (by decide) ?_
  refine V.iald (pc := 9) (f := f1_0) hC 1 4 gm_1 (nl 4) (by omega) (by decide) dX7_drawn_9 ?_
  refine V.eqi (y := μ 0 4) (by rw [hu1_0]; exact drw_ne (by decide)) ?_
  refine V.irem (pc := 10) hC dX7_drawn_10 (by rw [hI.pn]; exact nI_ne0 h0 (by omega)) ?_
  refine V.eqi (y := nI (dpS (μ 0))) (hdp.1) ?_
  refine V.istore_n (pc := 11) [(1, .int (nI (dpS (μ 0)))), (0, .ref (b 20))] hC dX7_drawn_11 (by decide) rfl ?_
  refine V.aload_n (pc := 12) 1 hC dX7_drawn_12 rfl ?_
  refine V.callV0 (pc := 13) (as := []) hC (c_X7_draw (va_up μ 0 f1_0) ν ) mu_X7_draw ml_X7_184 (by decide) ⟨0, 7, TX7, 20, _, rfl, gm_0⟩ rfl (Nat.le_of_ble_eq_true rfl) dX7_drawn_13 ?_
  rintro _ f13_0 ⟨rfl, hu13_0⟩
  have hu13_0 : f13_0 = drwS (f1_0) := hu13_0
  show V X (wM k b (va_up μ 0 f13_0) ν) [(1, .int (nI (dpS (μ 0)))), (0, .ref (b 20))] [.int (dvS (f1_0))] 16
  refine V.aload_n (pc := 16) 1 hC dX7_drawn_16 rfl ?_
  refine V.get (pc := 17) (v := .ref (b 0)) hC cf_X7 0 0 fl_X7_9 (by decide) gm_0 rfl dX7_drawn_17 ?_
  refine V.iconst (pc := 20) 3 hC dX7_drawn_20 (by decide) ?_
  refine V.iald (pc := 21) (f := f13_0) hC 1 3 gm_1 (nl 3) (by omega) (by decide) dX7_drawn_21 ?_
  refine V.eqi (y := μ 0 3) (by rw [hu13_0, hu1_0]; exact drw2_ne (by decide)) ?_
  refine V.irem (pc := 22) hC dX7_drawn_22 (by rw [hI.mn]; exact nI_ne0 h30 (by omega)) ?_
  refine V.eqi (y := dhS (μ 0)) (by rw [dhS, irm, hu1_0]) ?_
  refine V.istore_n (pc := 23) [(2, .int (dhS (μ 0))), (1, .int (nI (dpS (μ 0)))), (0, .ref (b 20))] hC dX7_drawn_23 (by decide) rfl ?_
  refine V.aload_n (pc := 24) 2 hC dX7_drawn_24 rfl ?_
  refine V.iload_n (pc := 25) 1 hC dX7_drawn_25 rfl ?_
  refine V.iconst (pc := 26) 2 hC dX7_drawn_26 (by decide) ?_
  refine V.sts (st' := [.int (nI 2), .int (nI (dpS (μ 0))), .ref (b 20)]) (stc (nl 2) (stk (stk rfl))) ?_
  refine V.callV0 (pc := 27) (as := [.int (nI (dpS (μ 0))), .int (nI 2)]) hC (c_X7_of (va_up μ 0 f13_0) ν (dpS (μ 0)) 2 (by omega) (by omega)) mu_X7_of ml_X7_72 (by decide) ⟨0, 7, TX7, 20, _, rfl, gm_0⟩ rfl (Nat.le_of_ble_eq_true rfl) dX7_drawn_27 ?_
  rintro _ _ rfl
  show V X (wM k b (va_up μ 0 f13_0) ν) [(2, .int (dhS (μ 0))), (1, .int (nI (dpS (μ 0)))), (0, .ref (b 20))] [.int (f13_0 (31 + 3 * (dpS (μ 0)) + 2))] 30
  refine V.eqi (y := f13_0 (33 + 3 * dpS (μ 0))) (congrArg (f13_0) (by omega)) ?_
  refine V.eqi (y := μ 0 (33 + 3 * dpS (μ 0))) (by rw [hu13_0, hu1_0]; exact drw2_ne (j := 33 + 3 * dpS (μ 0)) (by omega)) ?_
  refine V.istore_n (pc := 30) [(3, .int (μ 0 (33 + 3 * dpS (μ 0)))), (2, .int (dhS (μ 0))), (1, .int (nI (dpS (μ 0)))), (0, .ref (b 20))] hC dX7_drawn_30 (by decide) rfl ?_
  refine V.iload_n (pc := 31) 1 hC dX7_drawn_31 rfl ?_
  refine V.iload_n (pc := 32) 0 hC dX7_drawn_32 rfl ?_
  refine V.icmp_eq (pc := 33) 52 hC dX7_drawn_33 (by decide) (fun c_33 => ?_) (fun c_33 => ?_)
  · refine V.iconst (pc := 52) 0 hC dX7_drawn_52 (by decide) ?_
    exact hR 0 (f13_0, ν 10, ν 11, 0) _ _ dX7_drawn_53 rfl ⟨rfl, by rw [drn_t (Or.inl c_33)], (show f13_0 = (drnS (μ 0)).2 by rw [drn_t (Or.inl c_33), hu13_0, hu1_0])⟩
  · refine V.aload_n (pc := 36) 3 hC dX7_drawn_36 rfl ?_
    refine V.iload_n (pc := 37) 2 hC dX7_drawn_37 rfl ?_
    refine V.iload_n (pc := 38) 0 hC dX7_drawn_38 rfl ?_
    refine V.iload_n (pc := 39) 1 hC dX7_drawn_39 rfl ?_
    refine V.aload_n (pc := 40) 3 hC dX7_drawn_40 rfl ?_
    refine V.get (pc := 41) (v := .ref (b 0)) hC cf_X7 0 0 fl_X7_9 (by decide) gm_0 rfl dX7_drawn_41 ?_
    refine V.iconst (pc := 44) 0 hC dX7_drawn_44 (by decide) ?_
    refine V.iald (pc := 45) (f := f13_0) hC 1 0 gm_1 (nl 0) (by omega) (by decide) dX7_drawn_45 ?_
    refine V.eqi (y := μ 0 0) (by rw [hu13_0, hu1_0]; exact drw2_ne (by decide)) ?_
    refine V.sts (st' := [.int (μ 0 0), .int (nI (nN (dhS (μ 0)))), .int (nI (nN (μ 0 (33 + 3 * dpS (μ 0))))), .int (nI (dpS (μ 0))), .ref (b 20)]) (stk (stc hdh.1 (stc (hI.an hdp.2) (stk (stk rfl))))) ?_
    refine V.callV0 (pc := 46) (as := [.int (nI (dpS (μ 0))), .int (nI (nN (μ 0 (33 + 3 * dpS (μ 0))))), .int (nI (nN (dhS (μ 0)))), .int (μ 0 0)]) hC (c_X7_doesGet (va_up μ 0 f13_0) ν (dpS (μ 0)) (nN (μ 0 (33 + 3 * dpS (μ 0)))) (nN (dhS (μ 0))) (μ 0 0) (show Inv f13_0 by rw [hu13_0, hu1_0]; exact hI.drw.drw) (by omega) (show nN (μ 0 (33 + 3 * dpS (μ 0))) < nN (f13_0 3) by rw [hu13_0, hu1_0, drw2_ne (by decide)]; exact hI.ab hdp.2) (show nN (dhS (μ 0)) < nN (f13_0 3) by rw [hu13_0, hu1_0, drw2_ne (by decide)]; exact hdh.2)) mu_X7_doesGet ml_X7_114 (by decide) ⟨0, 7, TX7, 20, _, rfl, gm_0⟩ rfl (Nat.le_of_ble_eq_true rfl) dX7_drawn_46 ?_
    rintro _ ⟨f46_0, f46_1⟩ rfl
    show V X (wM k b (va_up μ 0 f13_0) (va_up (va_up ν 10 f46_0) 11 f46_1)) [(3, .int (μ 0 (33 + 3 * dpS (μ 0)))), (2, .int (dhS (μ 0))), (1, .int (nI (dpS (μ 0)))), (0, .ref (b 20))] [.int (bI (getsS (f13_0) (dpS (μ 0)) (nN (μ 0 (33 + 3 * dpS (μ 0)))) (nN (dhS (μ 0))) (μ 0 0)))] 49
    refine V.if_ne_b (P := getsS (f13_0) (dpS (μ 0)) (nN (μ 0 (33 + 3 * dpS (μ 0)))) (nN (dhS (μ 0))) (μ 0 0)) (pc := 49) 54 hC dX7_drawn_49 (by decide) (fun c_49 => ?_) (fun c_49 => ?_)
    · have c49 : getsS (drwS (drwS (μ 0))) (dpS (μ 0)) (nN (μ 0 (33 + 3 * dpS (μ 0)))) (nN (dhS (μ 0))) (μ 0 0) := by rw [hu13_0, hu1_0] at c_49; exact c_49
      refine V.aload_n (pc := 54) 3 hC dX7_drawn_54 rfl ?_
      refine V.get (pc := 55) (v := .ref (b 0)) hC cf_X7 0 0 fl_X7_9 (by decide) gm_0 rfl dX7_drawn_55 ?_
      refine V.bipush (pc := 58) 31 hC dX7_drawn_58 (by decide) ?_
      refine V.iconst (pc := 60) 3 hC dX7_drawn_60 (by decide) ?_
      refine V.iload_n (pc := 61) 2 hC dX7_drawn_61 rfl ?_
      refine V.imul (pc := 62) hC dX7_drawn_62 ?_
      refine V.iadd (pc := 63) hC dX7_drawn_63 ?_
      refine V.iconst (pc := 64) 2 hC dX7_drawn_64 (by decide) ?_
      refine V.iadd (pc := 65) hC dX7_drawn_65 ?_
      refine V.iload_n (pc := 66) 1 hC dX7_drawn_66 rfl ?_
      refine V.iast (pc := 67) (f := f13_0) hC 1 (33 + 3 * dpS (μ 0)) (wM k b (va_up μ 0 (upd f13_0 (33 + 3 * dpS (μ 0)) (dhS (μ 0)))) (va_up (va_up ν 10 f46_0) 11 f46_1)) gm_1 (ncast (b := 33 + 3 * dpS (μ 0)) (nadd (nadd (nl 31) (nmul (nl 3) rfl)) (nl 2)) (by omega)) (by omega) (by decide) rfl dX7_drawn_67 ?_
      refine V.iconst (pc := 68) 1 hC dX7_drawn_68 (by decide) ?_
      exact hR 1 (upd f13_0 (33 + 3 * dpS (μ 0)) (dhS (μ 0)), f46_0, f46_1, 1) _ _ dX7_drawn_69 rfl ⟨rfl, by rw [drn_f (fun q => q.elim c_33 (fun r => r c49))], (show upd f13_0 (33 + 3 * dpS (μ 0)) (dhS (μ 0)) = (drnS (μ 0)).2 by rw [drn_f (fun q => q.elim c_33 (fun r => r c49)), hu13_0, hu1_0])⟩
    · have c49 : ¬ getsS (drwS (drwS (μ 0))) (dpS (μ 0)) (nN (μ 0 (33 + 3 * dpS (μ 0)))) (nN (dhS (μ 0))) (μ 0 0) := by rw [hu13_0, hu1_0] at c_49; exact c_49
      refine V.iconst (pc := 52) 0 hC dX7_drawn_52 (by decide) ?_
      exact hR 0 (f13_0, f46_0, f46_1, 0) _ _ dX7_drawn_53 rfl ⟨rfl, by rw [drn_t (Or.inr c49)], (show f13_0 = (drnS (μ 0)).2 by rw [drn_t (Or.inr c49), hu13_0, hu1_0])⟩
set_option maxHeartbeats 4000000 in
set_option maxRecDepth 100000 in
theorem c_X7_loose {l : Launch} {D : va_G} {k : Nat → ClassId} {g b : Nat → Nat} (μ ν : St) (m : Int32) (hI : Inv (μ 0)) : Ct l D k g yX7_loose cX7_loose 4 (some .int) 6 143 [.ref (b 20), .int m] (S := St × Rw × Rw) (wM k b μ ν) (fun uu => wM k b uu.1 (va_up (va_up ν 10 uu.2.1) 11 uu.2.2)) (fun vv uu => vv = some (.int ((op_loose m μ).1)) ∧ uu.1 = (op_loose m μ).2) := by
  refine Ct.ofI RX7 rfl (by decide +kernel) (Nat.le_of_ble_eq_true rfl) (fun X hC hR => ?_)
  have hb4 := hI.hb; have hb8 := hI.mb; have hb6 := hI.pb; have hbm := hI.ob0; have hbt := hI.bb; have hbw := hI.wb
  show V X (wM k b μ ν) [(0, .ref (b 20)), (1, .int m)] [] 0
  refine V.iload_n (pc := 0) 1 hC dX7_loose_0 rfl ?_
  refine V.iconst (pc := 1) 1 hC dX7_loose_1 (by decide) ?_
  refine V.bipush (pc := 2) 40 hC dX7_loose_2 (by decide) ?_
  refine V.callS0 (pc := 4) (as := [.int m, .int 1, .int 40]) hC (c_X7_in m 1 40 ) ms_X7_in ml_X7_47 (by decide) rfl (Nat.le_of_ble_eq_true rfl) dX7_loose_4 ?_
  rintro _ _ rfl
  show V X (wM k b μ ν) [(0, .ref (b 20)), (1, .int m)] [.int (bI (inS m 1 40))] 7
  refine V.if_ne_b (P := inS m 1 40) (pc := 7) 17 hC dX7_loose_7 (by decide) (fun c_7 => ?_) (fun c_7 => ?_)
  · have hh_m := inS_1 c_7 (nl 1) (nl 40) (by omega) (by omega)
    refine V.aload_n (pc := 17) 0 hC dX7_loose_17 rfl ?_
    refine V.get (pc := 18) (v := .ref (b 0)) hC cf_X7 0 0 fl_X7_9 (by decide) gm_0 rfl dX7_loose_18 ?_
    refine V.iconst (pc := 21) 0 hC dX7_loose_21 (by decide) ?_
    refine V.iald (pc := 22) (f := μ 0) hC 1 0 gm_1 (nl 0) (by omega) (by decide) dX7_loose_22 ?_
    refine V.iload_n (pc := 23) 1 hC dX7_loose_23 rfl ?_
    refine V.iadd (pc := 24) hC dX7_loose_24 ?_
    refine V.sipush (pc := 25) 9999 hC dX7_loose_25 (by decide) ?_
    refine V.icmp_le (pc := 28) 38 hC dX7_loose_28 (by decide) (fun c_28 => ?_) (fun c_28 => ?_)
    · have nc_28 : nN (μ 0 0) + nN m ≤ 9999 := (nle (ncast (b := nN (μ 0 0) + nN m) (nadd hI.on0 hh_m.1) (by omega)) (nl 9999) (by omega) (by omega)).mp c_28
      refine V.iconst (pc := 38) 0 hC dX7_loose_38 (by decide) ?_
      refine V.istore_n (pc := 39) [(2, .int 0), (0, .ref (b 20)), (1, .int m)] hC dX7_loose_39 (by decide) rfl ?_
      refine V.iconst (pc := 40) 0 hC dX7_loose_40 (by decide) ?_
      refine V.istore_n (pc := 41) [(3, .int 0), (2, .int 0), (0, .ref (b 20)), (1, .int m)] hC dX7_loose_41 (by decide) rfl ?_
      have loop_42 : ∀ (n : Nat) (i : Nat) (j : Int32) (f f10 f11 : Rw), i + n = nN m → Inv f → nN (f 0) + n ≤ 9999 → losS (nN m) 0 (μ 0) = losS n j f → V X (wM k b (va_up μ 0 f) (va_up (va_up ν 10 f10) 11 f11)) [(0, .ref (b 20)), (1, .int m), (2, .int j), (3, .int (nI i))] [] 42 := by
        intro n
        induction n with
        | zero =>
          intro i j f f10 f11 hi hf hmi hv
          have hbf := hf.pb
          refine V.iload_n (pc := 42) 3 hC dX7_loose_42 rfl ?_
          refine V.iload_n (pc := 43) 1 hC dX7_loose_43 rfl ?_
          refine V.icmp_ge (pc := 44) 83 hC dX7_loose_44 (by decide) (fun c_44 => ?_) (fun c_44 => ?_)
          · have nc_44 : nN m ≤ i := (nle hh_m.1 rfl (by omega) (by omega)).mp c_44
            refine V.iload_n (pc := 83) 2 hC dX7_loose_83 rfl ?_
            exact hR j ((va_up μ 0 f), f10, f11) _ _ dX7_loose_84 rfl (opr (by rw [op_loose, if_neg (not_not_intro c_7), if_neg (i_ge c_28), hv]; rfl))
          · have nc_44 : ¬ (nN m ≤ i) := fun z => c_44 ((nle hh_m.1 rfl (by omega) (by omega)).mpr z)
            exfalso; omega
        | succ n ih =>
          intro i j f f10 f11 hi hf hmi hv
          have hbf := hf.pb
          refine V.iload_n (pc := 42) 3 hC dX7_loose_42 rfl ?_
          refine V.iload_n (pc := 43) 1 hC dX7_loose_43 rfl ?_
          refine V.icmp_ge (pc := 44) 83 hC dX7_loose_44 (by decide) (fun c_44 => ?_) (fun c_44 => ?_)
          · have nc_44 : nN m ≤ i := (nle hh_m.1 rfl (by omega) (by omega)).mp c_44
            exfalso; omega
          · have nc_44 : ¬ (nN m ≤ i) := fun z => c_44 ((nle hh_m.1 rfl (by omega) (by omega)).mpr z)
            refine V.iload_n (pc := 47) 2 hC dX7_loose_47 rfl ?_
            refine V.aload_n (pc := 48) 0 hC dX7_loose_48 rfl ?_
            refine V.get (pc := 49) (v := .ref (b 0)) hC cf_X7 0 0 fl_X7_9 (by decide) gm_0 rfl dX7_loose_49 ?_
            refine V.iconst (pc := 52) 4 hC dX7_loose_52 (by decide) ?_
            refine V.iald (pc := 53) (f := f) hC 1 4 gm_1 (nl 4) (by omega) (by decide) dX7_loose_53 ?_
            refine V.if_le (pc := 54) 64 hC dX7_loose_54 (by decide) (fun c_54 => ?_) (fun c_54 => ?_)
            · have nc_54 : nN (f 4) ≤ 0 := (nle hf.pn (nl 0) (by omega) (by omega)).mp c_54
              refine V.iconst (pc := 64) 0 hC dX7_loose_64 (by decide) ?_
              refine V.iadd (pc := 65) hC dX7_loose_65 ?_
              refine V.istore_n (pc := 66) [(2, .int (j + 0)), (0, .ref (b 20)), (1, .int m), (3, .int (nI i))] hC dX7_loose_66 (by decide) rfl ?_
              refine V.aload_n (pc := 67) 1 hC dX7_loose_67 rfl ?_
              refine V.get (pc := 68) (v := .ref (b 0)) hC cf_X7 0 0 fl_X7_9 (by decide) gm_0 rfl dX7_loose_68 ?_
              refine V.iconst (pc := 71) 0 hC dX7_loose_71 (by decide) ?_
              refine V.dup2 (pc := 72) hC dX7_loose_72 rfl rfl ?_
              refine V.iald (pc := 73) (f := f) hC 1 0 gm_1 (nl 0) (by omega) (by decide) dX7_loose_73 ?_
              refine V.iconst (pc := 74) 1 hC dX7_loose_74 (by decide) ?_
              refine V.iadd (pc := 75) hC dX7_loose_75 ?_
              refine V.iast (pc := 76) (f := f) hC 1 0 (wM k b (va_up μ 0 (upd f 0 ((f 0) + 1))) (va_up (va_up ν 10 f10) 11 f11)) gm_1 (nl 0) (by omega) (by decide) rfl dX7_loose_76 ?_
              refine V.iinc (pc := 77) 3 (nI (i + 1)) [(3, .int (nI (i + 1))), (2, .int (j + 0)), (0, .ref (b 20)), (1, .int m)] hC dX7_loose_77 rfl (ncast (nadd rfl (nl 1)) (by omega)) (by decide) rfl ?_
              refine V.goto (pc := 80) 42 hC dX7_loose_80 (by decide) ?_
              have hls : (lstS f).1 = 0 ∧ (lstS f).2 = f := lst_f (i_ge c_54)
              have hli := los_i hf hls hmi (by omega)
              exact V.sub [2, 3, 1, 0] rfl (ih (i + 1) (j + 0) (upd f 0 (f 0 + 1)) f10 f11 (by omega) hli.1 hli.2 (hv.trans (los_s hls)))
            · have nc_54 : ¬ (nN (f 4) ≤ 0) := fun z => c_54 ((nle hf.pn (nl 0) (by omega) (by omega)).mpr z)
              refine V.aload_n (pc := 57) 0 hC dX7_loose_57 rfl ?_
              refine V.callV0 (pc := 58) (as := []) hC (c_X7_drawn (va_up μ 0 f) (va_up (va_up ν 10 f10) 11 f11) hf (show 0 < nN (f 4) by omega)) mu_X7_drawn ml_X7_187 (by decide) ⟨0, 7, TX7, 20, _, rfl, gm_0⟩ rfl (Nat.le_of_ble_eq_true rfl) dX7_loose_58 ?_
              rintro _ ⟨f58_0, f58_1, f58_2, e58_0⟩ ⟨rfl, hu58_0, hu58_1⟩
              have hu58_0 : e58_0 = (drnS (f)).1 := hu58_0
              have hu58_1 : f58_0 = (drnS (f)).2 := hu58_1
              show V X (wM k b (va_up μ 0 f58_0) (va_up (va_up ν 10 f58_1) 11 f58_2)) [(0, .ref (b 20)), (1, .int m), (2, .int j), (3, .int (nI i))] [.int e58_0, .int j] 61
              refine V.goto (pc := 61) 65 hC dX7_loose_61 (by decide) ?_
              refine V.iadd (pc := 65) hC dX7_loose_65 ?_
              refine V.istore_n (pc := 66) [(2, .int (j + e58_0)), (0, .ref (b 20)), (1, .int m), (3, .int (nI i))] hC dX7_loose_66 (by decide) rfl ?_
              refine V.aload_n (pc := 67) 1 hC dX7_loose_67 rfl ?_
              refine V.get (pc := 68) (v := .ref (b 0)) hC cf_X7 0 0 fl_X7_9 (by decide) gm_0 rfl dX7_loose_68 ?_
              refine V.iconst (pc := 71) 0 hC dX7_loose_71 (by decide) ?_
              refine V.dup2 (pc := 72) hC dX7_loose_72 rfl rfl ?_
              refine V.iald (pc := 73) (f := f58_0) hC 1 0 gm_1 (nl 0) (by omega) (by decide) dX7_loose_73 ?_
              refine V.iconst (pc := 74) 1 hC dX7_loose_74 (by decide) ?_
              refine V.iadd (pc := 75) hC dX7_loose_75 ?_
              refine V.iast (pc := 76) (f := f58_0) hC 1 0 (wM k b (va_up μ 0 (upd f58_0 0 ((f58_0 0) + 1))) (va_up (va_up ν 10 f58_1) 11 f58_2)) gm_1 (nl 0) (by omega) (by decide) rfl dX7_loose_76 ?_
              refine V.iinc (pc := 77) 3 (nI (i + 1)) [(3, .int (nI (i + 1))), (2, .int (j + e58_0)), (0, .ref (b 20)), (1, .int m)] hC dX7_loose_77 rfl (ncast (nadd rfl (nl 1)) (by omega)) (by decide) rfl ?_
              refine V.goto (pc := 80) 42 hC dX7_loose_80 (by decide) ?_
              have hls : (lstS f).1 = e58_0 ∧ (lstS f).2 = f58_0 := lst_t (i_nle c_54) hu58_0 hu58_1
              have hli := los_i hf hls hmi (by omega)
              exact V.sub [2, 3, 1, 0] rfl (ih (i + 1) (j + e58_0) (upd f58_0 0 (f58_0 0 + 1)) f58_1 f58_2 (by omega) hli.1 hli.2 (hv.trans (los_s hls)))
      exact V.sub [2, 3, 1, 0] rfl (loop_42 (nN m) 0 0 (μ 0) (ν 10) (ν 11) (by omega) hI (by omega) rfl)
    · have nc_28 : ¬ (nN (μ 0 0) + nN m ≤ 9999) := fun z => c_28 ((nle (ncast (b := nN (μ 0 0) + nN m) (nadd hI.on0 hh_m.1) (by omega)) (nl 9999) (by omega) (by omega)).mpr z)
      refine V.aload_n (pc := 31) 0 hC dX7_loose_31 rfl ?_
      refine V.ldc (pc := 32) (v := (-1000000003)) hC cn_X7_118 dX7_loose_32 ?_
      refine V.callV0 (pc := 34) (as := [.int (-1000000003)]) hC (c_X7_error μ ν 3 (-1000000003) (by omega) (by decide)) mu_X7_error ml_X7_56 (by decide) ⟨0, 7, TX7, 20, _, rfl, gm_0⟩ rfl (Nat.le_of_ble_eq_true rfl) dX7_loose_34 ?_
      rintro _ _ rfl
      show V X (wM k b (va_up μ 3 (upd (μ 3) 3 (μ 3 3 + 1))) ν) [(0, .ref (b 20)), (1, .int m)] [.int (-1000000003)] 37
      exact hR (-1000000003) ((va_up μ 3 (upd (μ 3) 3 (μ 3 3 + 1))), ν 10, ν 11) _ _ dX7_loose_37 rfl (opr (by simp only [op_loose, c_7, c_28, i_nle c_28, inS, hndS, homS, prsS, shtS, if_true, if_false, not_true_eq_false, not_false_eq_true, true_and, and_true, false_and, and_false, true_or, or_true, or_false, false_or, er_1, er_2, er_3, er_4, er_5, er_6] <;> rfl))
  · refine V.aload_n (pc := 10) 0 hC dX7_loose_10 rfl ?_
    refine V.ldc (pc := 11) (v := (-1000000001)) hC cn_X7_55 dX7_loose_11 ?_
    refine V.callV0 (pc := 13) (as := [.int (-1000000001)]) hC (c_X7_error μ ν 1 (-1000000001) (by omega) (by decide)) mu_X7_error ml_X7_56 (by decide) ⟨0, 7, TX7, 20, _, rfl, gm_0⟩ rfl (Nat.le_of_ble_eq_true rfl) dX7_loose_13 ?_
    rintro _ _ rfl
    show V X (wM k b (va_up μ 3 (upd (μ 3) 1 (μ 3 1 + 1))) ν) [(0, .ref (b 20)), (1, .int m)] [.int (-1000000001)] 16
    exact hR (-1000000001) ((va_up μ 3 (upd (μ 3) 1 (μ 3 1 + 1))), ν 10, ν 11) _ _ dX7_loose_16 rfl (opr (by simp only [op_loose, c_7, inS, hndS, homS, prsS, shtS, if_true, if_false, not_true_eq_false, not_false_eq_true, true_and, and_true, false_and, and_false, true_or, or_true, or_false, false_or, er_1, er_2, er_3, er_4, er_5, er_6] <;> rfl))
set_option maxHeartbeats 4000000 in
set_option maxRecDepth 100000 in
theorem c_X7_seed {l : Launch} {D : va_G} {k : Nat → ClassId} {g b : Nat → Nat} (μ ν : St) (v : Int32) (hI : Inv (μ 0)) : Ct l D k g yX7_seed cX7_seed 2 (some .int) 1 23 [.ref (b 20), .int v] (S := St) (wM k b μ ν) (fun uu => wM k b uu ν) (fun vv uu => vv = some (.int ((op_seed v μ).1)) ∧ uu = (op_seed v μ).2) := by
  refine Ct.ofI RX7 rfl (by decide +kernel) (Nat.le_of_ble_eq_true rfl) (fun X hC hR => ?_)
  have hb4 := hI.hb; have hb8 := hI.mb; have hb6 := hI.pb; have hbm := hI.ob0; have hbt := hI.bb; have hbw := hI.wb
  show V X (wM k b μ ν) [(0, .ref (b 20)), (1, .int v)] [] 0
  refine V.aload_n (pc := 0) 0 hC dX7_seed_0 rfl ?_
  refine V.iconst (pc := 1) 1 hC dX7_seed_1 (by decide) ?_
  refine V.iload_n (pc := 2) 1 hC dX7_seed_2 rfl ?_
  refine V.sts (st' := [.int v, .int (nI 1), .ref (b 20)]) (stk (stc (nl 1) (stk rfl))) ?_
  refine V.callV0 (pc := 3) (as := [.int (nI 1), .int v]) hC (c_X7_becomes μ ν 1 v (by omega)) mu_X7_becomes ml_X7_110 (by decide) ⟨0, 7, TX7, 20, _, rfl, gm_0⟩ rfl (Nat.le_of_ble_eq_true rfl) dX7_seed_3 ?_
  rintro _ _ rfl
  show V X (wM k b (va_up μ 0 (upd (μ 0) 1 v)) ν) [(0, .ref (b 20)), (1, .int v)] [.int (μ 0 1)] 6
  exact hR (μ 0 1) ((va_up μ 0 (upd (μ 0) 1 v))) _ _ dX7_seed_6 rfl ⟨rfl, rfl⟩
set_option maxHeartbeats 4000000 in
set_option maxRecDepth 100000 in
theorem c_X7_markAt {l : Launch} {D : va_G} {k : Nat → ClassId} {g b : Nat → Nat} (μ ν : St) (h m : Int32) (hI : Inv (μ 0)) : Ct l D k g yX7_markAt cX7_markAt 3 (some .int) 2 43 [.ref (b 20), .int h, .int m] (S := St) (wM k b μ ν) (fun uu => wM k b uu ν) (fun vv uu => vv = some (.int ((op_markAt h m μ).1)) ∧ uu = (op_markAt h m μ).2) := by
  refine Ct.ofI RX7 rfl (by decide +kernel) (Nat.le_of_ble_eq_true rfl) (fun X hC hR => ?_)
  have hb4 := hI.hb; have hb8 := hI.mb; have hb6 := hI.pb; have hbm := hI.ob0; have hbt := hI.bb; have hbw := hI.wb
  show V X (wM k b μ ν) [(0, .ref (b 20)), (1, .int h), (2, .int m)] [] 0
  refine V.aload_n (pc := 0) 0 hC dX7_markAt_0 rfl ?_
  refine V.iload_n (pc := 1) 1 hC dX7_markAt_1 rfl ?_
  refine V.callV0 (pc := 2) (as := [.int h]) hC (c_X7_isHand μ ν h ) mu_X7_isHand ml_X7_61 (by decide) ⟨0, 7, TX7, 20, _, rfl, gm_0⟩ rfl (Nat.le_of_ble_eq_true rfl) dX7_markAt_2 ?_
  rintro _ _ rfl
  show V X (wM k b μ ν) [(0, .ref (b 20)), (1, .int h), (2, .int m)] [.int (bI (inS h 0 (μ 0 2 - 1)))] 5
  refine V.if_eq_b (P := inS h 0 (μ 0 2 - 1)) (pc := 5) 35 hC dX7_markAt_5 (by decide) (fun c_5 => ?_) (fun c_5 => ?_)
  · refine V.aload_n (pc := 35) 0 hC dX7_markAt_35 rfl ?_
    refine V.ldc (pc := 36) (v := (-1000000001)) hC cn_X7_55 dX7_markAt_36 ?_
    refine V.callV0 (pc := 38) (as := [.int (-1000000001)]) hC (c_X7_error μ ν 1 (-1000000001) (by omega) (by decide)) mu_X7_error ml_X7_56 (by decide) ⟨0, 7, TX7, 20, _, rfl, gm_0⟩ rfl (Nat.le_of_ble_eq_true rfl) dX7_markAt_38 ?_
    rintro _ _ rfl
    show V X (wM k b (va_up μ 3 (upd (μ 3) 1 (μ 3 1 + 1))) ν) [(0, .ref (b 20)), (1, .int h), (2, .int m)] [.int (-1000000001)] 41
    exact hR (-1000000001) ((va_up μ 3 (upd (μ 3) 1 (μ 3 1 + 1)))) _ _ dX7_markAt_41 rfl (opr (by simp only [op_markAt, c_5, inS, hndS, homS, prsS, shtS, if_true, if_false, not_true_eq_false, not_false_eq_true, true_and, and_true, false_and, and_false, true_or, or_true, or_false, false_or, er_1, er_2, er_3, er_4, er_5, er_6] <;> rfl))
  · have hh_h := inS_n c_5 hI.hn (by omega)
    refine V.iload_n (pc := 8) 2 hC dX7_markAt_8 rfl ?_
    refine V.iconst (pc := 9) 0 hC dX7_markAt_9 (by decide) ?_
    refine V.sipush (pc := 10) 9999 hC dX7_markAt_10 (by decide) ?_
    refine V.callS0 (pc := 13) (as := [.int m, .int 0, .int 9999]) hC (c_X7_in m 0 9999 ) ms_X7_in ml_X7_47 (by decide) rfl (Nat.le_of_ble_eq_true rfl) dX7_markAt_13 ?_
    rintro _ _ rfl
    show V X (wM k b μ ν) [(0, .ref (b 20)), (1, .int h), (2, .int m)] [.int (bI (inS m 0 9999))] 16
    refine V.if_eq_b (P := inS m 0 9999) (pc := 16) 35 hC dX7_markAt_16 (by decide) (fun c_16 => ?_) (fun c_16 => ?_)
    · refine V.aload_n (pc := 35) 0 hC dX7_markAt_35 rfl ?_
      refine V.ldc (pc := 36) (v := (-1000000001)) hC cn_X7_55 dX7_markAt_36 ?_
      refine V.callV0 (pc := 38) (as := [.int (-1000000001)]) hC (c_X7_error μ ν 1 (-1000000001) (by omega) (by decide)) mu_X7_error ml_X7_56 (by decide) ⟨0, 7, TX7, 20, _, rfl, gm_0⟩ rfl (Nat.le_of_ble_eq_true rfl) dX7_markAt_38 ?_
      rintro _ _ rfl
      show V X (wM k b (va_up μ 3 (upd (μ 3) 1 (μ 3 1 + 1))) ν) [(0, .ref (b 20)), (1, .int h), (2, .int m)] [.int (-1000000001)] 41
      exact hR (-1000000001) ((va_up μ 3 (upd (μ 3) 1 (μ 3 1 + 1)))) _ _ dX7_markAt_41 rfl (opr (by simp only [op_markAt, c_5, c_16, inS, hndS, homS, prsS, shtS, if_true, if_false, not_true_eq_false, not_false_eq_true, true_and, and_true, false_and, and_false, true_or, or_true, or_false, false_or, er_1, er_2, er_3, er_4, er_5, er_6] <;> rfl))
    · refine V.aload_n (pc := 19) 0 hC dX7_markAt_19 rfl ?_
      refine V.iload_n (pc := 20) 1 hC dX7_markAt_20 rfl ?_
      refine V.aload_n (pc := 21) 0 hC dX7_markAt_21 rfl ?_
      refine V.get (pc := 22) (v := .ref (b 0)) hC cf_X7 0 0 fl_X7_9 (by decide) gm_0 rfl dX7_markAt_22 ?_
      refine V.iconst (pc := 25) 0 hC dX7_markAt_25 (by decide) ?_
      refine V.iald (pc := 26) (f := μ 0) hC 1 0 gm_1 (nl 0) (by omega) (by decide) dX7_markAt_26 ?_
      refine V.iload_n (pc := 27) 2 hC dX7_markAt_27 rfl ?_
      refine V.iadd (pc := 28) hC dX7_markAt_28 ?_
      refine V.sts (st' := [.int ((μ 0 0) + m), .int (nI (nN h)), .ref (b 20)]) (stk (stc hh_h.1 (stk rfl))) ?_
      refine V.callV0 (pc := 29) (as := [.int (nI (nN h)), .int ((μ 0 0) + m)]) hC (c_X7_markOf μ ν (nN h) ((μ 0 0) + m) hI hh_h.2) mu_X7_markOf ml_X7_51 (by decide) ⟨0, 7, TX7, 20, _, rfl, gm_0⟩ rfl (Nat.le_of_ble_eq_true rfl) dX7_markAt_29 ?_
      rintro _ _ rfl
      show V X (wM k b μ ν) [(0, .ref (b 20)), (1, .int h), (2, .int m)] [.int (markS (μ 0) (nN h) ((μ 0 0) + m))] 32
      refine V.goto (pc := 32) 41 hC dX7_markAt_32 (by decide) ?_
      exact hR (markS (μ 0) (nN h) ((μ 0 0) + m)) (μ) _ _ dX7_markAt_41 rfl (opr (by simp only [op_markAt, c_5, c_16, inS, hndS, homS, prsS, shtS, if_true, if_false, not_true_eq_false, not_false_eq_true, true_and, and_true, false_and, and_false, true_or, or_true, or_false, false_or, er_1, er_2, er_3, er_4, er_5, er_6] <;> rfl))
set_option maxHeartbeats 4000000 in
set_option maxRecDepth 100000 in
theorem c_X7_meet {l : Launch} {D : va_G} {k : Nat → ClassId} {g b : Nat → Nat} (μ ν : St) (x y : Int32) (hI : Inv (μ 0)) : Ct l D k g yX7_meet cX7_meet 4 (some .int) 2 47 [.ref (b 20), .int x, .int y] (S := St) (wM k b μ ν) (fun uu => wM k b uu ν) (fun vv uu => vv = some (.int ((op_meet x y μ).1)) ∧ uu = (op_meet x y μ).2) := by
  refine Ct.ofI RX7 rfl (by decide +kernel) (Nat.le_of_ble_eq_true rfl) (fun X hC hR => ?_)
  have hb4 := hI.hb; have hb8 := hI.mb; have hb6 := hI.pb; have hbm := hI.ob0; have hbt := hI.bb; have hbw := hI.wb
  show V X (wM k b μ ν) [(0, .ref (b 20)), (1, .int x), (2, .int y)] [] 0
  refine V.aload_n (pc := 0) 0 hC dX7_meet_0 rfl ?_
  refine V.iload_n (pc := 1) 1 hC dX7_meet_1 rfl ?_
  refine V.callV0 (pc := 2) (as := [.int x]) hC (c_X7_isHand μ ν x ) mu_X7_isHand ml_X7_61 (by decide) ⟨0, 7, TX7, 20, _, rfl, gm_0⟩ rfl (Nat.le_of_ble_eq_true rfl) dX7_meet_2 ?_
  rintro _ _ rfl
  show V X (wM k b μ ν) [(0, .ref (b 20)), (1, .int x), (2, .int y)] [.int (bI (inS x 0 (μ 0 2 - 1)))] 5
  refine V.if_eq_b (P := inS x 0 (μ 0 2 - 1)) (pc := 5) 21 hC dX7_meet_5 (by decide) (fun c_5 => ?_) (fun c_5 => ?_)
  · refine V.aload_n (pc := 21) 0 hC dX7_meet_21 rfl ?_
    refine V.ldc (pc := 22) (v := (-1000000001)) hC cn_X7_55 dX7_meet_22 ?_
    refine V.callV0 (pc := 24) (as := [.int (-1000000001)]) hC (c_X7_error μ ν 1 (-1000000001) (by omega) (by decide)) mu_X7_error ml_X7_56 (by decide) ⟨0, 7, TX7, 20, _, rfl, gm_0⟩ rfl (Nat.le_of_ble_eq_true rfl) dX7_meet_24 ?_
    rintro _ _ rfl
    show V X (wM k b (va_up μ 3 (upd (μ 3) 1 (μ 3 1 + 1))) ν) [(0, .ref (b 20)), (1, .int x), (2, .int y)] [.int (-1000000001)] 27
    exact hR (-1000000001) ((va_up μ 3 (upd (μ 3) 1 (μ 3 1 + 1)))) _ _ dX7_meet_27 rfl (opr (by simp only [op_meet, c_5, inS, hndS, homS, prsS, shtS, if_true, if_false, not_true_eq_false, not_false_eq_true, true_and, and_true, false_and, and_false, true_or, or_true, or_false, false_or, er_1, er_2, er_3, er_4, er_5, er_6] <;> rfl))
  · have hh_x := inS_n c_5 hI.hn (by omega)
    refine V.aload_n (pc := 8) 0 hC dX7_meet_8 rfl ?_
    refine V.iload_n (pc := 9) 2 hC dX7_meet_9 rfl ?_
    refine V.callV0 (pc := 10) (as := [.int y]) hC (c_X7_isHand μ ν y ) mu_X7_isHand ml_X7_61 (by decide) ⟨0, 7, TX7, 20, _, rfl, gm_0⟩ rfl (Nat.le_of_ble_eq_true rfl) dX7_meet_10 ?_
    rintro _ _ rfl
    show V X (wM k b μ ν) [(0, .ref (b 20)), (1, .int x), (2, .int y)] [.int (bI (inS y 0 (μ 0 2 - 1)))] 13
    refine V.if_eq_b (P := inS y 0 (μ 0 2 - 1)) (pc := 13) 21 hC dX7_meet_13 (by decide) (fun c_13 => ?_) (fun c_13 => ?_)
    · refine V.aload_n (pc := 21) 0 hC dX7_meet_21 rfl ?_
      refine V.ldc (pc := 22) (v := (-1000000001)) hC cn_X7_55 dX7_meet_22 ?_
      refine V.callV0 (pc := 24) (as := [.int (-1000000001)]) hC (c_X7_error μ ν 1 (-1000000001) (by omega) (by decide)) mu_X7_error ml_X7_56 (by decide) ⟨0, 7, TX7, 20, _, rfl, gm_0⟩ rfl (Nat.le_of_ble_eq_true rfl) dX7_meet_24 ?_
      rintro _ _ rfl
      show V X (wM k b (va_up μ 3 (upd (μ 3) 1 (μ 3 1 + 1))) ν) [(0, .ref (b 20)), (1, .int x), (2, .int y)] [.int (-1000000001)] 27
      exact hR (-1000000001) ((va_up μ 3 (upd (μ 3) 1 (μ 3 1 + 1)))) _ _ dX7_meet_27 rfl (opr (by simp only [op_meet, c_5, c_13, inS, hndS, homS, prsS, shtS, if_true, if_false, not_true_eq_false, not_false_eq_true, true_and, and_true, false_and, and_false, true_or, or_true, or_false, false_or, er_1, er_2, er_3, er_4, er_5, er_6] <;> rfl))
    · have hh_y := inS_n c_13 hI.hn (by omega)
      refine V.iload_n (pc := 16) 1 hC dX7_meet_16 rfl ?_
      refine V.iload_n (pc := 17) 2 hC dX7_meet_17 rfl ?_
      refine V.icmp_ne (pc := 18) 28 hC dX7_meet_18 (by decide) (fun c_18 => ?_) (fun c_18 => ?_)
      · refine V.iconst (pc := 28) 0 hC dX7_meet_28 (by decide) ?_
        refine V.istore_n (pc := 29) [(3, .int 0), (0, .ref (b 20)), (1, .int x), (2, .int y)] hC dX7_meet_29 (by decide) rfl ?_
        have loop_30 : ∀ (n : Nat) (i : Nat), i + n = 1441 → metS (μ 0) (nN x) (nN y) = srch (fun i => decide (¬ 0 < apartS (μ 0) (nN x) (nN y) (μ 0 0 + nI i))) n i → V X (wM k b μ ν) [(3, .int (nI i)), (0, .ref (b 20)), (1, .int x), (2, .int y)] [] 30 := by
          intro n
          induction n with
          | zero =>
            intro i hi hv
            refine V.iload_n (pc := 30) 0 hC dX7_meet_30 rfl ?_
            refine V.sipush (pc := 31) 1440 hC dX7_meet_31 (by decide) ?_
            refine V.icmp_gt (pc := 34) 60 hC dX7_meet_34 (by decide) (fun c_34 => ?_) (fun c_34 => ?_)
            · have nc_34 : 1440 < i := (nlt (nl 1440) rfl (by omega) (by omega)).mp c_34
              refine V.iload_n (pc := 60) 0 hC dX7_meet_60 rfl ?_
              refine V.sipush (pc := 61) 1440 hC dX7_meet_61 (by decide) ?_
              refine V.icmp_le (pc := 64) 76 hC dX7_meet_64 (by decide) (fun c_64 => ?_) (fun c_64 => ?_)
              · have nc_64 : i ≤ 1440 := (nle rfl (nl 1440) (by omega) (by omega)).mp c_64
                exfalso; omega
              · have nc_64 : ¬ (i ≤ 1440) := fun z => c_64 ((nle rfl (nl 1440) (by omega) (by omega)).mpr z)
                refine V.aload_n (pc := 67) 1 hC dX7_meet_67 rfl ?_
                refine V.ldc (pc := 68) (v := (-1000000002)) hC cn_X7_190 dX7_meet_68 ?_
                refine V.callV0 (pc := 70) (as := [.int (-1000000002)]) hC (c_X7_error μ ν 2 (-1000000002) (by omega) (by decide)) mu_X7_error ml_X7_56 (by decide) ⟨0, 7, TX7, 20, _, rfl, gm_0⟩ rfl (Nat.le_of_ble_eq_true rfl) dX7_meet_70 ?_
                rintro _ _ rfl
                show V X (wM k b (va_up μ 3 (upd (μ 3) 2 (μ 3 2 + 1))) ν) [(3, .int (nI i)), (0, .ref (b 20)), (1, .int x), (2, .int y)] [.int (-1000000002)] 73
                refine V.goto (pc := 73) 77 hC dX7_meet_73 (by decide) ?_
                exact hR (-1000000002) ((va_up μ 3 (upd (μ 3) 2 (μ 3 2 + 1)))) _ _ dX7_meet_77 rfl (opr (by rw [op_meet, if_neg (not_not_intro c_5), if_neg (not_not_intro c_13), if_neg c_18, show metS (μ 0) (nN x) (nN y) = i from hv, if_pos (by omega), er_2]))
            · have nc_34 : ¬ (1440 < i) := fun z => c_34 ((nlt (nl 1440) rfl (by omega) (by omega)).mpr z)
              exfalso; omega
          | succ n ih =>
            intro i hi hv
            refine V.iload_n (pc := 30) 0 hC dX7_meet_30 rfl ?_
            refine V.sipush (pc := 31) 1440 hC dX7_meet_31 (by decide) ?_
            refine V.icmp_gt (pc := 34) 60 hC dX7_meet_34 (by decide) (fun c_34 => ?_) (fun c_34 => ?_)
            · have nc_34 : 1440 < i := (nlt (nl 1440) rfl (by omega) (by omega)).mp c_34
              exfalso; omega
            · have nc_34 : ¬ (1440 < i) := fun z => c_34 ((nlt (nl 1440) rfl (by omega) (by omega)).mpr z)
              refine V.aload_n (pc := 37) 1 hC dX7_meet_37 rfl ?_
              refine V.iload_n (pc := 38) 2 hC dX7_meet_38 rfl ?_
              refine V.iload_n (pc := 39) 3 hC dX7_meet_39 rfl ?_
              refine V.aload_n (pc := 40) 1 hC dX7_meet_40 rfl ?_
              refine V.get (pc := 41) (v := .ref (b 0)) hC cf_X7 0 0 fl_X7_9 (by decide) gm_0 rfl dX7_meet_41 ?_
              refine V.iconst (pc := 44) 0 hC dX7_meet_44 (by decide) ?_
              refine V.iald (pc := 45) (f := μ 0) hC 1 0 gm_1 (nl 0) (by omega) (by decide) dX7_meet_45 ?_
              refine V.iload_n (pc := 46) 0 hC dX7_meet_46 rfl ?_
              refine V.iadd (pc := 47) hC dX7_meet_47 ?_
              refine V.sts (st' := [.int ((μ 0 0) + (nI i)), .int (nI (nN y)), .int (nI (nN x)), .ref (b 20)]) (stk (stc hh_y.1 (stc hh_x.1 (stk rfl)))) ?_
              refine V.callV0 (pc := 48) (as := [.int (nI (nN x)), .int (nI (nN y)), .int ((μ 0 0) + (nI i))]) hC (c_X7_apart μ ν (nN x) (nN y) ((μ 0 0) + (nI i)) hI hh_x.2 hh_y.2) mu_X7_apart ml_X7_90 (by decide) ⟨0, 7, TX7, 20, _, rfl, gm_0⟩ rfl (Nat.le_of_ble_eq_true rfl) dX7_meet_48 ?_
              rintro _ _ rfl
              show V X (wM k b μ ν) [(3, .int (nI i)), (0, .ref (b 20)), (1, .int x), (2, .int y)] [.int (apartS (μ 0) (nN x) (nN y) ((μ 0 0) + (nI i)))] 51
              refine V.if_le (pc := 51) 60 hC dX7_meet_51 (by decide) (fun c_51 => ?_) (fun c_51 => ?_)
              · refine V.iload_n (pc := 60) 0 hC dX7_meet_60 rfl ?_
                refine V.sipush (pc := 61) 1440 hC dX7_meet_61 (by decide) ?_
                refine V.icmp_le (pc := 64) 76 hC dX7_meet_64 (by decide) (fun c_64 => ?_) (fun c_64 => ?_)
                · have nc_64 : i ≤ 1440 := (nle rfl (nl 1440) (by omega) (by omega)).mp c_64
                  refine V.iload_n (pc := 76) 0 hC dX7_meet_76 rfl ?_
                  exact hR (nI i) (μ) _ _ dX7_meet_77 rfl (opr (by rw [op_meet, if_neg (not_not_intro c_5), if_neg (not_not_intro c_13), if_neg c_18, show metS (μ 0) (nN x) (nN y) = i from srch_at hv (by simp only [decide_eq_true_eq]; exact i_ge c_51), if_neg (by omega)]))
                · have nc_64 : ¬ (i ≤ 1440) := fun z => c_64 ((nle rfl (nl 1440) (by omega) (by omega)).mpr z)
                  exfalso; omega
              · refine V.iinc (pc := 54) 0 (nI (i + 1)) [(3, .int (nI (i + 1))), (0, .ref (b 20)), (1, .int x), (2, .int y)] hC dX7_meet_54 rfl (ncast (nadd rfl (nl 1)) (by omega)) (by decide) rfl ?_
                refine V.goto (pc := 57) 30 hC dX7_meet_57 (by decide) ?_
                exact V.sub [0, 1, 2, 3] rfl (ih (i + 1) (by omega) (srch_go hv (by simp only [decide_eq_true_eq]; exact not_not_intro (i_nle c_51))))
        exact V.sub [0, 1, 2, 3] rfl (loop_30 1441 0 (by omega) rfl)
      · refine V.aload_n (pc := 21) 0 hC dX7_meet_21 rfl ?_
        refine V.ldc (pc := 22) (v := (-1000000001)) hC cn_X7_55 dX7_meet_22 ?_
        refine V.callV0 (pc := 24) (as := [.int (-1000000001)]) hC (c_X7_error μ ν 1 (-1000000001) (by omega) (by decide)) mu_X7_error ml_X7_56 (by decide) ⟨0, 7, TX7, 20, _, rfl, gm_0⟩ rfl (Nat.le_of_ble_eq_true rfl) dX7_meet_24 ?_
        rintro _ _ rfl
        show V X (wM k b (va_up μ 3 (upd (μ 3) 1 (μ 3 1 + 1))) ν) [(0, .ref (b 20)), (1, .int x), (2, .int y)] [.int (-1000000001)] 27
        exact hR (-1000000001) ((va_up μ 3 (upd (μ 3) 1 (μ 3 1 + 1)))) _ _ dX7_meet_27 rfl (opr (by simp only [op_meet, c_5, c_13, c_18, inS, hndS, homS, prsS, shtS, if_true, if_false, not_true_eq_false, not_false_eq_true, true_and, and_true, false_and, and_false, true_or, or_true, or_false, false_or, er_1, er_2, er_3, er_4, er_5, er_6] <;> rfl))
set_option maxHeartbeats 4000000 in
set_option maxRecDepth 100000 in
theorem c_X7_doAllMeet {l : Launch} {D : va_G} {k : Nat → ClassId} {g b : Nat → Nat} (μ ν : St) (t : Int32) (hI : Inv (μ 0)) (h0 : 1 ≤ nN (μ 0 2)) : Ct l D k g yX7_doAllMeet cX7_doAllMeet 4 (some .boolean) 2 47 [.ref (b 20), .int t] (S := Unit) (wM k b μ ν) (fun _ => wM k b μ ν) (fun vv _ => vv = some (.int (bI (almS (μ 0) t = true)))) := by
  refine Ct.ofI RX7 rfl (by decide +kernel) (Nat.le_of_ble_eq_true rfl) (fun X hC hR => ?_)
  have hb4 := hI.hb
  show V X (wM k b μ ν) [(0, .ref (b 20)), (1, .int t)] [] 0
  refine V.iconst (pc := 0) 1 hC dX7_doAllMeet_0 (by decide) ?_
  refine V.istore_n (pc := 1) [(2, .int 1), (0, .ref (b 20)), (1, .int t)] hC dX7_doAllMeet_1 (by decide) rfl ?_
  refine V.iconst (pc := 2) 1 hC dX7_doAllMeet_2 (by decide) ?_
  refine V.istore_n (pc := 3) [(3, .int 1), (2, .int 1), (0, .ref (b 20)), (1, .int t)] hC dX7_doAllMeet_3 (by decide) rfl ?_
  have loop_4 : ∀ (n : Nat) (i : Nat) (o : Bool), i + n = nN (μ 0 2) → 1 ≤ i → almS (μ 0) t = (o && allF (fun h => decide (apartS (μ 0) 0 h t = 0)) n i) → V X (wM k b μ ν) [(0, .ref (b 20)), (1, .int t), (2, .int (bI (o = true))), (3, .int (nI i))] [] 4 := by
    intro n
    induction n with
    | zero =>
      intro i o hi hi0 hv
      refine V.iload_n (pc := 4) 3 hC dX7_doAllMeet_4 rfl ?_
      refine V.aload_n (pc := 5) 0 hC dX7_doAllMeet_5 rfl ?_
      refine V.get (pc := 6) (v := .ref (b 0)) hC cf_X7 0 0 fl_X7_9 (by decide) gm_0 rfl dX7_doAllMeet_6 ?_
      refine V.iconst (pc := 9) 2 hC dX7_doAllMeet_9 (by decide) ?_
      refine V.iald (pc := 10) (f := μ 0) hC 1 2 gm_1 (nl 2) (by omega) (by decide) dX7_doAllMeet_10 ?_
      refine V.icmp_ge (pc := 11) 40 hC dX7_doAllMeet_11 (by decide) (fun c_11 => ?_) (fun c_11 => ?_)
      · have nc_11 : nN (μ 0 2) ≤ i := (nle hI.hn rfl (by omega) (by omega)).mp c_11
        refine V.iload_n (pc := 40) 2 hC dX7_doAllMeet_40 rfl ?_
        exact hR (bI (o = true)) () _ _ dX7_doAllMeet_41 (by first | rfl | exact bI_n _) (ri (by rw [hv]; cases o <;> rfl))
      · have nc_11 : ¬ (nN (μ 0 2) ≤ i) := fun z => c_11 ((nle hI.hn rfl (by omega) (by omega)).mpr z)
        exfalso; omega
    | succ n ih =>
      intro i o hi hi0 hv
      refine V.iload_n (pc := 4) 3 hC dX7_doAllMeet_4 rfl ?_
      refine V.aload_n (pc := 5) 0 hC dX7_doAllMeet_5 rfl ?_
      refine V.get (pc := 6) (v := .ref (b 0)) hC cf_X7 0 0 fl_X7_9 (by decide) gm_0 rfl dX7_doAllMeet_6 ?_
      refine V.iconst (pc := 9) 2 hC dX7_doAllMeet_9 (by decide) ?_
      refine V.iald (pc := 10) (f := μ 0) hC 1 2 gm_1 (nl 2) (by omega) (by decide) dX7_doAllMeet_10 ?_
      refine V.icmp_ge (pc := 11) 40 hC dX7_doAllMeet_11 (by decide) (fun c_11 => ?_) (fun c_11 => ?_)
      · have nc_11 : nN (μ 0 2) ≤ i := (nle hI.hn rfl (by omega) (by omega)).mp c_11
        exfalso; omega
      · have nc_11 : ¬ (nN (μ 0 2) ≤ i) := fun z => c_11 ((nle hI.hn rfl (by omega) (by omega)).mpr z)
        refine V.iload_n (pc := 14) 2 hC dX7_doAllMeet_14 rfl ?_
        refine V.if_eq_b (P := o = true) (pc := 15) 40 hC dX7_doAllMeet_15 (by decide) (fun c_15 => ?_) (fun c_15 => ?_)
        · refine V.iload_n (pc := 40) 2 hC dX7_doAllMeet_40 rfl ?_
          exact hR (bI (o = true)) () _ _ dX7_doAllMeet_41 (by first | rfl | exact bI_n _) (ri (by rw [hv, show o = false from by simpa using c_15]; rfl))
        · refine V.aload_n (pc := 18) 0 hC dX7_doAllMeet_18 rfl ?_
          refine V.iconst (pc := 19) 0 hC dX7_doAllMeet_19 (by decide) ?_
          refine V.iload_n (pc := 20) 3 hC dX7_doAllMeet_20 rfl ?_
          refine V.iload_n (pc := 21) 1 hC dX7_doAllMeet_21 rfl ?_
          refine V.sts (st' := [.int t, .int (nI i), .int (nI 0), .ref (b 20)]) (stk (stk (stc (nl 0) (stk rfl)))) ?_
          refine V.callV0 (pc := 22) (as := [.int (nI 0), .int (nI i), .int t]) hC (c_X7_apart μ ν 0 i t hI (by omega) (by omega)) mu_X7_apart ml_X7_90 (by decide) ⟨0, 7, TX7, 20, _, rfl, gm_0⟩ rfl (Nat.le_of_ble_eq_true rfl) dX7_doAllMeet_22 ?_
          rintro _ _ rfl
          show V X (wM k b μ ν) [(0, .ref (b 20)), (1, .int t), (2, .int (bI (o = true))), (3, .int (nI i))] [.int (apartS (μ 0) 0 i t)] 25
          refine V.if_ne (pc := 25) 32 hC dX7_doAllMeet_25 (by decide) (fun c_25 => ?_) (fun c_25 => ?_)
          · refine V.iconst (pc := 32) 0 hC dX7_doAllMeet_32 (by decide) ?_
            refine V.istore_n (pc := 33) [(2, .int 0), (0, .ref (b 20)), (1, .int t), (3, .int (nI i))] hC dX7_doAllMeet_33 (by decide) rfl ?_
            refine V.iinc (pc := 34) 3 (nI (i + 1)) [(3, .int (nI (i + 1))), (2, .int 0), (0, .ref (b 20)), (1, .int t)] hC dX7_doAllMeet_34 rfl (ncast (nadd rfl (nl 1)) (by omega)) (by decide) rfl ?_
            refine V.goto (pc := 37) 4 hC dX7_doAllMeet_37 (by decide) ?_
            exact V.sub [2, 3, 1, 0] rfl (ih (i + 1) false (by omega) (by omega) (by rw [hv, c_15]; simp only [allF, c_25, decide_true, decide_false, Bool.true_and, Bool.false_and]))
          · refine V.iconst (pc := 28) 1 hC dX7_doAllMeet_28 (by decide) ?_
            refine V.goto (pc := 29) 33 hC dX7_doAllMeet_29 (by decide) ?_
            refine V.istore_n (pc := 33) [(2, .int 1), (0, .ref (b 20)), (1, .int t), (3, .int (nI i))] hC dX7_doAllMeet_33 (by decide) rfl ?_
            refine V.iinc (pc := 34) 3 (nI (i + 1)) [(3, .int (nI (i + 1))), (2, .int 1), (0, .ref (b 20)), (1, .int t)] hC dX7_doAllMeet_34 rfl (ncast (nadd rfl (nl 1)) (by omega)) (by decide) rfl ?_
            refine V.goto (pc := 37) 4 hC dX7_doAllMeet_37 (by decide) ?_
            exact V.sub [2, 3, 1, 0] rfl (ih (i + 1) true (by omega) (by omega) (by rw [hv, c_15]; simp only [allF, c_25, decide_true, decide_false, Bool.true_and, Bool.false_and]))
  exact V.sub [2, 3, 1, 0] rfl (loop_4 (nN (μ 0 2) - 1) 1 true (by omega) (Nat.le_refl 1) rfl)
set_option maxHeartbeats 4000000 in
set_option maxRecDepth 100000 in
theorem c_X7_council {l : Launch} {D : va_G} {k : Nat → ClassId} {g b : Nat → Nat} (μ ν : St) (hI : Inv (μ 0)) : Ct l D k g yX7_council cX7_council 2 (some .int) 3 70 [.ref (b 20)] (S := St) (wM k b μ ν) (fun uu => wM k b uu ν) (fun vv uu => vv = some (.int ((op_council μ).1)) ∧ uu = (op_council μ).2) := by
  refine Ct.ofI RX7 rfl (by decide +kernel) (Nat.le_of_ble_eq_true rfl) (fun X hC hR => ?_)
  have hb4 := hI.hb; have hb8 := hI.mb; have hb6 := hI.pb; have hbm := hI.ob0; have hbt := hI.bb; have hbw := hI.wb
  show V X (wM k b μ ν) [(0, .ref (b 20))] [] 0
  refine V.aload_n (pc := 0) 0 hC dX7_council_0 rfl ?_
  refine V.get (pc := 1) (v := .ref (b 0)) hC cf_X7 0 0 fl_X7_9 (by decide) gm_0 rfl dX7_council_1 ?_
  refine V.iconst (pc := 4) 2 hC dX7_council_4 (by decide) ?_
  refine V.iald (pc := 5) (f := μ 0) hC 1 2 gm_1 (nl 2) (by omega) (by decide) dX7_council_5 ?_
  refine V.if_ne (pc := 6) 16 hC dX7_council_6 (by decide) (fun c_6 => ?_) (fun c_6 => ?_)
  · have nc_6 : ¬ (nN (μ 0 2) = 0) := fun z => c_6 ((neq hI.hn (nl 0) (by omega) (by omega)).mpr z)
    refine V.iconst (pc := 16) 0 hC dX7_council_16 (by decide) ?_
    refine V.istore_n (pc := 17) [(1, .int 0), (0, .ref (b 20))] hC dX7_council_17 (by decide) rfl ?_
    have loop_18 : ∀ (n : Nat) (i : Nat), i + n = 10000 → couS (μ 0) = srch (fun i => almS (μ 0) (μ 0 0 + nI i)) n i → V X (wM k b μ ν) [(1, .int (nI i)), (0, .ref (b 20))] [] 18 := by
      intro n
      induction n with
      | zero =>
        intro i hi hv
        refine V.iload_n (pc := 18) 0 hC dX7_council_18 rfl ?_
        refine V.sipush (pc := 19) 9999 hC dX7_council_19 (by decide) ?_
        refine V.icmp_gt (pc := 22) 46 hC dX7_council_22 (by decide) (fun c_22 => ?_) (fun c_22 => ?_)
        · have nc_22 : 9999 < i := (nlt (nl 9999) rfl (by omega) (by omega)).mp c_22
          refine V.iload_n (pc := 46) 0 hC dX7_council_46 rfl ?_
          refine V.sipush (pc := 47) 9999 hC dX7_council_47 (by decide) ?_
          refine V.icmp_le (pc := 50) 62 hC dX7_council_50 (by decide) (fun c_50 => ?_) (fun c_50 => ?_)
          · have nc_50 : i ≤ 9999 := (nle rfl (nl 9999) (by omega) (by omega)).mp c_50
            exfalso; omega
          · have nc_50 : ¬ (i ≤ 9999) := fun z => c_50 ((nle rfl (nl 9999) (by omega) (by omega)).mpr z)
            refine V.aload_n (pc := 53) 1 hC dX7_council_53 rfl ?_
            refine V.ldc (pc := 54) (v := (-1000000002)) hC cn_X7_190 dX7_council_54 ?_
            refine V.callV0 (pc := 56) (as := [.int (-1000000002)]) hC (c_X7_error μ ν 2 (-1000000002) (by omega) (by decide)) mu_X7_error ml_X7_56 (by decide) ⟨0, 7, TX7, 20, _, rfl, gm_0⟩ rfl (Nat.le_of_ble_eq_true rfl) dX7_council_56 ?_
            rintro _ _ rfl
            show V X (wM k b (va_up μ 3 (upd (μ 3) 2 (μ 3 2 + 1))) ν) [(1, .int (nI i)), (0, .ref (b 20))] [.int (-1000000002)] 59
            refine V.goto (pc := 59) 63 hC dX7_council_59 (by decide) ?_
            exact hR (-1000000002) ((va_up μ 3 (upd (μ 3) 2 (μ 3 2 + 1)))) _ _ dX7_council_63 rfl (opr (by rw [op_council, if_neg c_6, show couS (μ 0) = i from hv, if_pos (by omega), er_2]))
        · have nc_22 : ¬ (9999 < i) := fun z => c_22 ((nlt (nl 9999) rfl (by omega) (by omega)).mpr z)
          exfalso; omega
      | succ n ih =>
        intro i hi hv
        refine V.iload_n (pc := 18) 0 hC dX7_council_18 rfl ?_
        refine V.sipush (pc := 19) 9999 hC dX7_council_19 (by decide) ?_
        refine V.icmp_gt (pc := 22) 46 hC dX7_council_22 (by decide) (fun c_22 => ?_) (fun c_22 => ?_)
        · have nc_22 : 9999 < i := (nlt (nl 9999) rfl (by omega) (by omega)).mp c_22
          exfalso; omega
        · have nc_22 : ¬ (9999 < i) := fun z => c_22 ((nlt (nl 9999) rfl (by omega) (by omega)).mpr z)
          refine V.aload_n (pc := 25) 1 hC dX7_council_25 rfl ?_
          refine V.aload_n (pc := 26) 1 hC dX7_council_26 rfl ?_
          refine V.get (pc := 27) (v := .ref (b 0)) hC cf_X7 0 0 fl_X7_9 (by decide) gm_0 rfl dX7_council_27 ?_
          refine V.iconst (pc := 30) 0 hC dX7_council_30 (by decide) ?_
          refine V.iald (pc := 31) (f := μ 0) hC 1 0 gm_1 (nl 0) (by omega) (by decide) dX7_council_31 ?_
          refine V.iload_n (pc := 32) 0 hC dX7_council_32 rfl ?_
          refine V.iadd (pc := 33) hC dX7_council_33 ?_
          refine V.callV0 (pc := 34) (as := [.int ((μ 0 0) + (nI i))]) hC (c_X7_doAllMeet μ ν ((μ 0 0) + (nI i)) hI (by omega)) mu_X7_doAllMeet ml_X7_191 (by decide) ⟨0, 7, TX7, 20, _, rfl, gm_0⟩ rfl (Nat.le_of_ble_eq_true rfl) dX7_council_34 ?_
          rintro _ _ rfl
          show V X (wM k b μ ν) [(1, .int (nI i)), (0, .ref (b 20))] [.int (bI (almS (μ 0) ((μ 0 0) + (nI i)) = true))] 37
          refine V.if_ne_b (P := almS (μ 0) ((μ 0 0) + (nI i)) = true) (pc := 37) 46 hC dX7_council_37 (by decide) (fun c_37 => ?_) (fun c_37 => ?_)
          · refine V.iload_n (pc := 46) 0 hC dX7_council_46 rfl ?_
            refine V.sipush (pc := 47) 9999 hC dX7_council_47 (by decide) ?_
            refine V.icmp_le (pc := 50) 62 hC dX7_council_50 (by decide) (fun c_50 => ?_) (fun c_50 => ?_)
            · have nc_50 : i ≤ 9999 := (nle rfl (nl 9999) (by omega) (by omega)).mp c_50
              refine V.iload_n (pc := 62) 0 hC dX7_council_62 rfl ?_
              exact hR (nI i) (μ) _ _ dX7_council_63 rfl (opr (by rw [op_council, if_neg c_6, show couS (μ 0) = i from srch_at hv c_37, if_neg (by omega)]))
            · have nc_50 : ¬ (i ≤ 9999) := fun z => c_50 ((nle rfl (nl 9999) (by omega) (by omega)).mpr z)
              exfalso; omega
          · refine V.iinc (pc := 40) 0 (nI (i + 1)) [(1, .int (nI (i + 1))), (0, .ref (b 20))] hC dX7_council_40 rfl (ncast (nadd rfl (nl 1)) (by omega)) (by decide) rfl ?_
            refine V.goto (pc := 43) 18 hC dX7_council_43 (by decide) ?_
            exact V.sub [0, 1] rfl (ih (i + 1) (by omega) (srch_go hv c_37))
    exact V.sub [0, 1] rfl (loop_18 10000 0 (by omega) rfl)
  · have nc_6 : nN (μ 0 2) = 0 := (neq hI.hn (nl 0) (by omega) (by omega)).mp c_6
    refine V.aload_n (pc := 9) 0 hC dX7_council_9 rfl ?_
    refine V.ldc (pc := 10) (v := (-1000000003)) hC cn_X7_118 dX7_council_10 ?_
    refine V.callV0 (pc := 12) (as := [.int (-1000000003)]) hC (c_X7_error μ ν 3 (-1000000003) (by omega) (by decide)) mu_X7_error ml_X7_56 (by decide) ⟨0, 7, TX7, 20, _, rfl, gm_0⟩ rfl (Nat.le_of_ble_eq_true rfl) dX7_council_12 ?_
    rintro _ _ rfl
    show V X (wM k b (va_up μ 3 (upd (μ 3) 3 (μ 3 3 + 1))) ν) [(0, .ref (b 20))] [.int (-1000000003)] 15
    exact hR (-1000000003) ((va_up μ 3 (upd (μ 3) 3 (μ 3 3 + 1)))) _ _ dX7_council_15 rfl (opr (by simp only [op_council, c_6, inS, hndS, homS, prsS, shtS, if_true, if_false, not_true_eq_false, not_false_eq_true, true_and, and_true, false_and, and_false, true_or, or_true, or_false, false_or, er_1, er_2, er_3, er_4, er_5, er_6] <;> rfl))
set_option maxHeartbeats 4000000 in
set_option maxRecDepth 100000 in
theorem c_X7_soonest {l : Launch} {D : va_G} {k : Nat → ClassId} {g b : Nat → Nat} (μ ν : St) (p h : Int32) (hI : Inv (μ 0)) : Ct l D k g yX7_soonest cX7_soonest 5 (some .int) 5 124 [.ref (b 20), .int p, .int h] (S := St × Rw × Rw) (wM k b μ ν) (fun uu => wM k b uu.1 (va_up (va_up ν 10 uu.2.1) 11 uu.2.2)) (fun vv uu => vv = some (.int ((op_soonest p h μ).1)) ∧ uu.1 = (op_soonest p h μ).2) := by
  refine Ct.ofI RX7 rfl (by decide +kernel) (Nat.le_of_ble_eq_true rfl) (fun X hC hR => ?_)
  have hb4 := hI.hb; have hb8 := hI.mb; have hb6 := hI.pb; have hbm := hI.ob0; have hbt := hI.bb; have hbw := hI.wb
  show V X (wM k b μ ν) [(0, .ref (b 20)), (1, .int p), (2, .int h)] [] 0
  refine V.aload_n (pc := 0) 0 hC dX7_soonest_0 rfl ?_
  refine V.iload_n (pc := 1) 1 hC dX7_soonest_1 rfl ?_
  refine V.callV0 (pc := 2) (as := [.int p]) hC (c_X7_isPerson μ ν p ) mu_X7_isPerson ml_X7_104 (by decide) ⟨0, 7, TX7, 20, _, rfl, gm_0⟩ rfl (Nat.le_of_ble_eq_true rfl) dX7_soonest_2 ?_
  rintro _ _ rfl
  show V X (wM k b μ ν) [(0, .ref (b 20)), (1, .int p), (2, .int h)] [.int (bI (inS p 0 (μ 0 4 - 1)))] 5
  refine V.if_eq_b (P := inS p 0 (μ 0 4 - 1)) (pc := 5) 16 hC dX7_soonest_5 (by decide) (fun c_5 => ?_) (fun c_5 => ?_)
  · refine V.aload_n (pc := 16) 0 hC dX7_soonest_16 rfl ?_
    refine V.ldc (pc := 17) (v := (-1000000001)) hC cn_X7_55 dX7_soonest_17 ?_
    refine V.callV0 (pc := 19) (as := [.int (-1000000001)]) hC (c_X7_error μ ν 1 (-1000000001) (by omega) (by decide)) mu_X7_error ml_X7_56 (by decide) ⟨0, 7, TX7, 20, _, rfl, gm_0⟩ rfl (Nat.le_of_ble_eq_true rfl) dX7_soonest_19 ?_
    rintro _ _ rfl
    show V X (wM k b (va_up μ 3 (upd (μ 3) 1 (μ 3 1 + 1))) ν) [(0, .ref (b 20)), (1, .int p), (2, .int h)] [.int (-1000000001)] 22
    exact hR (-1000000001) ((va_up μ 3 (upd (μ 3) 1 (μ 3 1 + 1))), ν 10, ν 11) _ _ dX7_soonest_22 rfl (opr (by simp only [op_soonest, c_5, inS, hndS, homS, prsS, shtS, if_true, if_false, not_true_eq_false, not_false_eq_true, true_and, and_true, false_and, and_false, true_or, or_true, or_false, false_or, er_1, er_2, er_3, er_4, er_5, er_6] <;> rfl))
  · have hh_p := inS_n c_5 hI.pn (by omega)
    refine V.aload_n (pc := 8) 0 hC dX7_soonest_8 rfl ?_
    refine V.iload_n (pc := 9) 2 hC dX7_soonest_9 rfl ?_
    refine V.callV0 (pc := 10) (as := [.int h]) hC (c_X7_isHome μ ν h ) mu_X7_isHome ml_X7_75 (by decide) ⟨0, 7, TX7, 20, _, rfl, gm_0⟩ rfl (Nat.le_of_ble_eq_true rfl) dX7_soonest_10 ?_
    rintro _ _ rfl
    show V X (wM k b μ ν) [(0, .ref (b 20)), (1, .int p), (2, .int h)] [.int (bI (inS h 0 (μ 0 3 - 1)))] 13
    refine V.if_ne_b (P := inS h 0 (μ 0 3 - 1)) (pc := 13) 23 hC dX7_soonest_13 (by decide) (fun c_13 => ?_) (fun c_13 => ?_)
    · have hh_h := inS_n c_13 hI.mn (by omega)
      refine V.iconst (pc := 23) 1 hC dX7_soonest_23 (by decide) ?_
      refine V.aload_n (pc := 24) 0 hC dX7_soonest_24 rfl ?_
      refine V.iload_n (pc := 25) 1 hC dX7_soonest_25 rfl ?_
      refine V.iconst (pc := 26) 2 hC dX7_soonest_26 (by decide) ?_
      refine V.sts (st' := [.int (nI 2), .int (nI (nN p)), .ref (b 20), .int 1]) (stc (nl 2) (stc hh_p.1 (stk (stk rfl)))) ?_
      refine V.callV0 (pc := 27) (as := [.int (nI (nN p)), .int (nI 2)]) hC (c_X7_of μ ν (nN p) 2 (by have := hh_p.2; omega) (by omega)) mu_X7_of ml_X7_72 (by decide) ⟨0, 7, TX7, 20, _, rfl, gm_0⟩ rfl (Nat.le_of_ble_eq_true rfl) dX7_soonest_27 ?_
      rintro _ _ rfl
      show V X (wM k b μ ν) [(0, .ref (b 20)), (1, .int p), (2, .int h)] [.int (μ 0 (31 + 3 * (nN p) + 2)), .int 1] 30
      refine V.eqi (y := μ 0 (33 + 3 * nN p)) (congrArg (μ 0) (by omega)) ?_
      refine V.ishl (pc := 30) hC dX7_soonest_30 ?_
      refine V.istore_n (pc := 31) [(3, .int (1 <<< ((μ 0 (33 + 3 * nN p)) &&& 31))), (0, .ref (b 20)), (1, .int p), (2, .int h)] hC dX7_soonest_31 (by decide) rfl ?_
      refine V.iconst (pc := 32) 0 hC dX7_soonest_32 (by decide) ?_
      refine V.istore (pc := 33) [(4, .int 0), (3, .int (1 <<< ((μ 0 (33 + 3 * nN p)) &&& 31))), (0, .ref (b 20)), (1, .int p), (2, .int h)] hC dX7_soonest_33 (by decide) rfl ?_
      have loop_35 : ∀ (n : Nat) (i : Nat) (r : Int32) (f10 f11 : Rw), i + n = 721 → sooV (μ 0) (nN p) h = sooS (μ 0) (nN p) h n i r → V X (wM k b μ (va_up (va_up ν 10 f10) 11 f11)) [(4, .int (nI i)), (3, .int r), (0, .ref (b 20)), (1, .int p), (2, .int h)] [] 35 := by
        intro n
        induction n with
        | zero =>
          intro i r f10 f11 hi hv
          refine V.iload (pc := 35) 0 hC dX7_soonest_35 rfl ?_
          refine V.sipush (pc := 37) 720 hC dX7_soonest_37 (by decide) ?_
          refine V.icmp_gt (pc := 40) 73 hC dX7_soonest_40 (by decide) (fun c_40 => ?_) (fun c_40 => ?_)
          · have nc_40 : 720 < i := (nlt (nl 720) rfl (by omega) (by omega)).mp c_40
            refine V.iload (pc := 73) 0 hC dX7_soonest_73 rfl ?_
            refine V.sipush (pc := 75) 720 hC dX7_soonest_75 (by decide) ?_
            refine V.icmp_le (pc := 78) 90 hC dX7_soonest_78 (by decide) (fun c_78 => ?_) (fun c_78 => ?_)
            · have nc_78 : i ≤ 720 := (nle rfl (nl 720) (by omega) (by omega)).mp c_78
              exfalso; omega
            · have nc_78 : ¬ (i ≤ 720) := fun z => c_78 ((nle rfl (nl 720) (by omega) (by omega)).mpr z)
              refine V.aload_n (pc := 81) 2 hC dX7_soonest_81 rfl ?_
              refine V.ldc (pc := 82) (v := (-1000000002)) hC cn_X7_190 dX7_soonest_82 ?_
              refine V.callV0 (pc := 84) (as := [.int (-1000000002)]) hC (c_X7_error μ (va_up (va_up ν 10 f10) 11 f11) 2 (-1000000002) (by omega) (by decide)) mu_X7_error ml_X7_56 (by decide) ⟨0, 7, TX7, 20, _, rfl, gm_0⟩ rfl (Nat.le_of_ble_eq_true rfl) dX7_soonest_84 ?_
              rintro _ _ rfl
              show V X (wM k b (va_up μ 3 (upd (μ 3) 2 (μ 3 2 + 1))) (va_up (va_up ν 10 f10) 11 f11)) [(4, .int (nI i)), (3, .int r), (0, .ref (b 20)), (1, .int p), (2, .int h)] [.int (-1000000002)] 87
              refine V.goto (pc := 87) 92 hC dX7_soonest_87 (by decide) ?_
              exact hR (-1000000002) ((va_up μ 3 (upd (μ 3) 2 (μ 3 2 + 1))), f10, f11) _ _ dX7_soonest_92 rfl (opr (by rw [op_soonest, if_neg (not_not_intro c_5), if_neg (not_not_intro c_13), show sooV (μ 0) (nN p) h = i from hv, if_pos (by omega), er_2]))
          · have nc_40 : ¬ (720 < i) := fun z => c_40 ((nlt (nl 720) rfl (by omega) (by omega)).mpr z)
            exfalso; omega
        | succ n ih =>
          intro i r f10 f11 hi hv
          refine V.iload (pc := 35) 0 hC dX7_soonest_35 rfl ?_
          refine V.sipush (pc := 37) 720 hC dX7_soonest_37 (by decide) ?_
          refine V.icmp_gt (pc := 40) 73 hC dX7_soonest_40 (by decide) (fun c_40 => ?_) (fun c_40 => ?_)
          · have nc_40 : 720 < i := (nlt (nl 720) rfl (by omega) (by omega)).mp c_40
            exfalso; omega
          · have nc_40 : ¬ (720 < i) := fun z => c_40 ((nlt (nl 720) rfl (by omega) (by omega)).mpr z)
            refine V.iload_n (pc := 43) 1 hC dX7_soonest_43 rfl ?_
            refine V.iload_n (pc := 44) 4 hC dX7_soonest_44 rfl ?_
            refine V.ishr (pc := 45) hC dX7_soonest_45 ?_
            refine V.iconst (pc := 46) 1 hC dX7_soonest_46 (by decide) ?_
            refine V.iand (pc := 47) hC dX7_soonest_47 ?_
            refine V.if_ne (pc := 48) 73 hC dX7_soonest_48 (by decide) (fun c_48 => ?_) (fun c_48 => ?_)
            · refine V.iload (pc := 73) 0 hC dX7_soonest_73 rfl ?_
              refine V.sipush (pc := 75) 720 hC dX7_soonest_75 (by decide) ?_
              refine V.icmp_le (pc := 78) 90 hC dX7_soonest_78 (by decide) (fun c_78 => ?_) (fun c_78 => ?_)
              · have nc_78 : i ≤ 720 := (nle rfl (nl 720) (by omega) (by omega)).mp c_78
                refine V.iload (pc := 90) 0 hC dX7_soonest_90 rfl ?_
                exact hR (nI i) (μ, f10, f11) _ _ dX7_soonest_92 rfl (opr (by rw [op_soonest, if_neg (not_not_intro c_5), if_neg (not_not_intro c_13), show sooV (μ 0) (nN p) h = i from hv.trans (if_neg c_48), if_neg (by omega)]))
              · have nc_78 : ¬ (i ≤ 720) := fun z => c_78 ((nle rfl (nl 720) (by omega) (by omega)).mpr z)
                exfalso; omega
            · refine V.aload_n (pc := 51) 2 hC dX7_soonest_51 rfl ?_
              refine V.iload_n (pc := 52) 3 hC dX7_soonest_52 rfl ?_
              refine V.iload_n (pc := 53) 1 hC dX7_soonest_53 rfl ?_
              refine V.aload_n (pc := 54) 2 hC dX7_soonest_54 rfl ?_
              refine V.get (pc := 55) (v := .ref (b 0)) hC cf_X7 0 0 fl_X7_9 (by decide) gm_0 rfl dX7_soonest_55 ?_
              refine V.iconst (pc := 58) 0 hC dX7_soonest_58 (by decide) ?_
              refine V.iald (pc := 59) (f := μ 0) hC 1 0 gm_1 (nl 0) (by omega) (by decide) dX7_soonest_59 ?_
              refine V.iload (pc := 60) 0 hC dX7_soonest_60 rfl ?_
              refine V.iadd (pc := 62) hC dX7_soonest_62 ?_
              refine V.sts (st' := [.int ((μ 0 0) + (nI i)), .int r, .int (nI (nN p)), .ref (b 20)]) (stk (stk (stc hh_p.1 (stk rfl)))) ?_
              refine V.callV0 (pc := 63) (as := [.int (nI (nN p)), .int r, .int ((μ 0 0) + (nI i))]) hC (c_X7_onward μ (va_up (va_up ν 10 f10) 11 f11) (nN p) r ((μ 0 0) + (nI i)) hI (by have := hh_p.2; omega)) mu_X7_onward ml_X7_101 (by decide) ⟨0, 7, TX7, 20, _, rfl, gm_0⟩ rfl (Nat.le_of_ble_eq_true rfl) dX7_soonest_63 ?_
              rintro _ ⟨f63_0, f63_1⟩ rfl
              show V X (wM k b μ (va_up (va_up ν 10 f63_0) 11 f63_1)) [(4, .int (nI i)), (3, .int r), (0, .ref (b 20)), (1, .int p), (2, .int h)] [.int (onwardS (μ 0) (nN p) r ((μ 0 0) + (nI i)))] 66
              refine V.istore_n (pc := 66) [(3, .int (onwardS (μ 0) (nN p) r ((μ 0 0) + (nI i)))), (4, .int (nI i)), (0, .ref (b 20)), (1, .int p), (2, .int h)] hC dX7_soonest_66 (by decide) rfl ?_
              refine V.iinc (pc := 67) 1 (nI (i + 1)) [(4, .int (nI (i + 1))), (3, .int (onwardS (μ 0) (nN p) r ((μ 0 0) + (nI i)))), (0, .ref (b 20)), (1, .int p), (2, .int h)] hC dX7_soonest_67 rfl (ncast (nadd rfl (nl 1)) (by omega)) (by decide) rfl ?_
              refine V.goto (pc := 70) 35 hC dX7_soonest_70 (by decide) ?_
              exact V.sub [0, 1, 2, 3, 4] rfl (ih (i + 1) (onwardS (μ 0) (nN p) r ((μ 0 0) + (nI i))) f63_0 f63_1 (by omega) (hv.trans (by simp only [sooS, bitS, c_48, if_true])))
      exact V.sub [0, 1, 2, 3, 4] rfl (loop_35 721 0 _ (ν 10) (ν 11) (by omega) rfl)
    · refine V.aload_n (pc := 16) 0 hC dX7_soonest_16 rfl ?_
      refine V.ldc (pc := 17) (v := (-1000000001)) hC cn_X7_55 dX7_soonest_17 ?_
      refine V.callV0 (pc := 19) (as := [.int (-1000000001)]) hC (c_X7_error μ ν 1 (-1000000001) (by omega) (by decide)) mu_X7_error ml_X7_56 (by decide) ⟨0, 7, TX7, 20, _, rfl, gm_0⟩ rfl (Nat.le_of_ble_eq_true rfl) dX7_soonest_19 ?_
      rintro _ _ rfl
      show V X (wM k b (va_up μ 3 (upd (μ 3) 1 (μ 3 1 + 1))) ν) [(0, .ref (b 20)), (1, .int p), (2, .int h)] [.int (-1000000001)] 22
      exact hR (-1000000001) ((va_up μ 3 (upd (μ 3) 1 (μ 3 1 + 1))), ν 10, ν 11) _ _ dX7_soonest_22 rfl (opr (by simp only [op_soonest, c_5, c_13, inS, hndS, homS, prsS, shtS, if_true, if_false, not_true_eq_false, not_false_eq_true, true_and, and_true, false_and, and_false, true_or, or_true, or_false, false_or, er_1, er_2, er_3, er_4, er_5, er_6] <;> rfl))
set_option maxHeartbeats 4000000 in
set_option maxRecDepth 100000 in
theorem c_X7_rooms {l : Launch} {D : va_G} {k : Nat → ClassId} {g b : Nat → Nat} (μ ν : St) (p m : Int32) (hI : Inv (μ 0)) : Ct l D k g yX7_rooms cX7_rooms 3 (some .int) 6 148 [.ref (b 20), .int p, .int m] (S := St × Rw × Rw) (wM k b μ ν) (fun uu => wM k b uu.1 (va_up (va_up ν 10 uu.2.1) 11 uu.2.2)) (fun vv uu => vv = some (.int ((op_rooms p m μ).1)) ∧ uu.1 = (op_rooms p m μ).2) := by
  refine Ct.ofI RX7 rfl (by decide +kernel) (Nat.le_of_ble_eq_true rfl) (fun X hC hR => ?_)
  have hb4 := hI.hb; have hb8 := hI.mb; have hb6 := hI.pb; have hbm := hI.ob0; have hbt := hI.bb; have hbw := hI.wb
  show V X (wM k b μ ν) [(0, .ref (b 20)), (1, .int p), (2, .int m)] [] 0
  refine V.aload_n (pc := 0) 0 hC dX7_rooms_0 rfl ?_
  refine V.iload_n (pc := 1) 1 hC dX7_rooms_1 rfl ?_
  refine V.callV0 (pc := 2) (as := [.int p]) hC (c_X7_isPerson μ ν p ) mu_X7_isPerson ml_X7_104 (by decide) ⟨0, 7, TX7, 20, _, rfl, gm_0⟩ rfl (Nat.le_of_ble_eq_true rfl) dX7_rooms_2 ?_
  rintro _ _ rfl
  show V X (wM k b μ ν) [(0, .ref (b 20)), (1, .int p), (2, .int m)] [.int (bI (inS p 0 (μ 0 4 - 1)))] 5
  refine V.if_eq_b (P := inS p 0 (μ 0 4 - 1)) (pc := 5) 28 hC dX7_rooms_5 (by decide) (fun c_5 => ?_) (fun c_5 => ?_)
  · refine V.aload_n (pc := 28) 0 hC dX7_rooms_28 rfl ?_
    refine V.ldc (pc := 29) (v := (-1000000001)) hC cn_X7_55 dX7_rooms_29 ?_
    refine V.callV0 (pc := 31) (as := [.int (-1000000001)]) hC (c_X7_error μ ν 1 (-1000000001) (by omega) (by decide)) mu_X7_error ml_X7_56 (by decide) ⟨0, 7, TX7, 20, _, rfl, gm_0⟩ rfl (Nat.le_of_ble_eq_true rfl) dX7_rooms_31 ?_
    rintro _ _ rfl
    show V X (wM k b (va_up μ 3 (upd (μ 3) 1 (μ 3 1 + 1))) ν) [(0, .ref (b 20)), (1, .int p), (2, .int m)] [.int (-1000000001)] 34
    exact hR (-1000000001) ((va_up μ 3 (upd (μ 3) 1 (μ 3 1 + 1))), ν 10, ν 11) _ _ dX7_rooms_34 rfl (opr (by simp only [op_rooms, c_5, inS, hndS, homS, prsS, shtS, if_true, if_false, not_true_eq_false, not_false_eq_true, true_and, and_true, false_and, and_false, true_or, or_true, or_false, false_or, er_1, er_2, er_3, er_4, er_5, er_6] <;> rfl))
  · have hh_p := inS_n c_5 hI.pn (by omega)
    refine V.iload_n (pc := 8) 2 hC dX7_rooms_8 rfl ?_
    refine V.iconst (pc := 9) 0 hC dX7_rooms_9 (by decide) ?_
    refine V.sipush (pc := 10) 720 hC dX7_rooms_10 (by decide) ?_
    refine V.callS0 (pc := 13) (as := [.int m, .int 0, .int 720]) hC (c_X7_in m 0 720 ) ms_X7_in ml_X7_47 (by decide) rfl (Nat.le_of_ble_eq_true rfl) dX7_rooms_13 ?_
    rintro _ _ rfl
    show V X (wM k b μ ν) [(0, .ref (b 20)), (1, .int p), (2, .int m)] [.int (bI (inS m 0 720))] 16
    refine V.if_eq_b (P := inS m 0 720) (pc := 16) 28 hC dX7_rooms_16 (by decide) (fun c_16 => ?_) (fun c_16 => ?_)
    · refine V.aload_n (pc := 28) 0 hC dX7_rooms_28 rfl ?_
      refine V.ldc (pc := 29) (v := (-1000000001)) hC cn_X7_55 dX7_rooms_29 ?_
      refine V.callV0 (pc := 31) (as := [.int (-1000000001)]) hC (c_X7_error μ ν 1 (-1000000001) (by omega) (by decide)) mu_X7_error ml_X7_56 (by decide) ⟨0, 7, TX7, 20, _, rfl, gm_0⟩ rfl (Nat.le_of_ble_eq_true rfl) dX7_rooms_31 ?_
      rintro _ _ rfl
      show V X (wM k b (va_up μ 3 (upd (μ 3) 1 (μ 3 1 + 1))) ν) [(0, .ref (b 20)), (1, .int p), (2, .int m)] [.int (-1000000001)] 34
      exact hR (-1000000001) ((va_up μ 3 (upd (μ 3) 1 (μ 3 1 + 1))), ν 10, ν 11) _ _ dX7_rooms_34 rfl (opr (by simp only [op_rooms, c_5, c_16, inS, hndS, homS, prsS, shtS, if_true, if_false, not_true_eq_false, not_false_eq_true, true_and, and_true, false_and, and_false, true_or, or_true, or_false, false_or, er_1, er_2, er_3, er_4, er_5, er_6] <;> rfl))
    · have hh_m := inS_c c_16 (nl 720) (by omega)
      refine V.aload_n (pc := 19) 0 hC dX7_rooms_19 rfl ?_
      refine V.iload_n (pc := 20) 1 hC dX7_rooms_20 rfl ?_
      refine V.iload_n (pc := 21) 2 hC dX7_rooms_21 rfl ?_
      refine V.sts (st' := [.int (nI (nN m)), .int (nI (nN p)), .ref (b 20)]) (stc hh_m.1 (stc hh_p.1 (stk rfl))) ?_
      refine V.callV0 (pc := 22) (as := [.int (nI (nN p)), .int (nI (nN m))]) hC (c_X7_roomsBy μ ν (nN p) (nN m) hI (by have := hh_p.2; omega) hh_m.2) mu_X7_roomsBy ml_X7_107 (by decide) ⟨0, 7, TX7, 20, _, rfl, gm_0⟩ rfl (Nat.le_of_ble_eq_true rfl) dX7_rooms_22 ?_
      rintro _ ⟨f22_0, f22_1⟩ rfl
      show V X (wM k b μ (va_up (va_up ν 10 f22_0) 11 f22_1)) [(0, .ref (b 20)), (1, .int p), (2, .int m)] [.int (roomsByS (μ 0) (nN p) (nN m))] 25
      refine V.goto (pc := 25) 34 hC dX7_rooms_25 (by decide) ?_
      exact hR (roomsByS (μ 0) (nN p) (nN m)) (μ, f22_0, f22_1) _ _ dX7_rooms_34 rfl (opr (by simp only [op_rooms, c_5, c_16, inS, hndS, homS, prsS, shtS, if_true, if_false, not_true_eq_false, not_false_eq_true, true_and, and_true, false_and, and_false, true_or, or_true, or_false, false_or, er_1, er_2, er_3, er_4, er_5, er_6] <;> rfl))
