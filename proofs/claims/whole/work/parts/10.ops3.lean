set_option maxHeartbeats 4000000 in
set_option maxRecDepth 100000 in
theorem c_X7_watch {l : Launch} {D : va_G} {k : Nat → ClassId} {g b : Nat → Nat} (μ ν : St) (p h m w : Int32) (hI : Inv (μ 0)) : Ct l D k g yX7_watch cX7_watch 8 (some .int) 5 124 [.ref (b 20), .int p, .int h, .int m, .int w] (S := St × Rw × Rw × Rw) (wM k b μ ν) (fun uu => wM k b uu.1 (va_up (va_up (va_up ν 7 uu.2.1) 10 uu.2.2.1) 11 uu.2.2.2)) (fun vv uu => vv = some (.int ((op_watch p h m w μ).1)) ∧ uu.1 = (op_watch p h m w μ).2) := by
  refine Ct.ofI RX7 rfl (by decide +kernel) (Nat.le_of_ble_eq_true rfl) (fun X hC hR => ?_)
  have hb4 := hI.hb; have hb8 := hI.mb; have hb6 := hI.pb; have hbm := hI.ob0; have hbt := hI.bb; have hbw := hI.wb
  have hpow : 2 ^ nN (μ 0 3) ≤ 256 := Nat.le_trans (Nat.pow_le_pow_right (by omega) hI.mb) (by decide)
  show V X (wM k b μ ν) [(0, .ref (b 20)), (1, .int p), (2, .int h), (3, .int m), (4, .int w)] [] 0
  refine V.aload_n (pc := 0) 0 hC dX7_watch_0 rfl ?_
  refine V.iload_n (pc := 1) 1 hC dX7_watch_1 rfl ?_
  refine V.callV0 (pc := 2) (as := [.int p]) hC (c_X7_isPerson μ ν p ) mu_X7_isPerson ml_X7_104 (by decide) ⟨0, 7, TX7, 20, _, rfl, gm_0⟩ rfl (Nat.le_of_ble_eq_true rfl) dX7_watch_2 ?_
  rintro _ _ rfl
  show V X (wM k b μ ν) [(0, .ref (b 20)), (1, .int p), (2, .int h), (3, .int m), (4, .int w)] [.int (bI (inS p 0 (μ 0 4 - 1)))] 5
  refine V.if_eq_b (P := inS p 0 (μ 0 4 - 1)) (pc := 5) 36 hC dX7_watch_5 (by decide) (fun c_5 => ?_) (fun c_5 => ?_)
  · refine V.aload_n (pc := 36) 0 hC dX7_watch_36 rfl ?_
    refine V.ldc (pc := 37) (v := (-1000000001)) hC cn_X7_55 dX7_watch_37 ?_
    refine V.callV0 (pc := 39) (as := [.int (-1000000001)]) hC (c_X7_error μ ν 1 (-1000000001) (by omega) (by decide)) mu_X7_error ml_X7_56 (by decide) ⟨0, 7, TX7, 20, _, rfl, gm_0⟩ rfl (Nat.le_of_ble_eq_true rfl) dX7_watch_39 ?_
    rintro _ _ rfl
    show V X (wM k b (va_up μ 3 (upd (μ 3) 1 (μ 3 1 + 1))) ν) [(0, .ref (b 20)), (1, .int p), (2, .int h), (3, .int m), (4, .int w)] [.int (-1000000001)] 42
    exact hR (-1000000001) ((va_up μ 3 (upd (μ 3) 1 (μ 3 1 + 1))), ν 7, ν 10, ν 11) _ _ dX7_watch_42 rfl (opr (by simp only [op_watch, c_5, inS, hndS, homS, prsS, shtS, if_true, if_false, not_true_eq_false, not_false_eq_true, true_and, and_true, false_and, and_false, true_or, or_true, or_false, false_or, er_1, er_2, er_3, er_4, er_5, er_6] <;> rfl))
  · have hh_p := inS_n c_5 hI.pn (by omega)
    refine V.aload_n (pc := 8) 0 hC dX7_watch_8 rfl ?_
    refine V.iload_n (pc := 9) 2 hC dX7_watch_9 rfl ?_
    refine V.callV0 (pc := 10) (as := [.int h]) hC (c_X7_isHome μ ν h ) mu_X7_isHome ml_X7_75 (by decide) ⟨0, 7, TX7, 20, _, rfl, gm_0⟩ rfl (Nat.le_of_ble_eq_true rfl) dX7_watch_10 ?_
    rintro _ _ rfl
    show V X (wM k b μ ν) [(0, .ref (b 20)), (1, .int p), (2, .int h), (3, .int m), (4, .int w)] [.int (bI (inS h 0 (μ 0 3 - 1)))] 13
    refine V.if_eq_b (P := inS h 0 (μ 0 3 - 1)) (pc := 13) 36 hC dX7_watch_13 (by decide) (fun c_13 => ?_) (fun c_13 => ?_)
    · refine V.aload_n (pc := 36) 0 hC dX7_watch_36 rfl ?_
      refine V.ldc (pc := 37) (v := (-1000000001)) hC cn_X7_55 dX7_watch_37 ?_
      refine V.callV0 (pc := 39) (as := [.int (-1000000001)]) hC (c_X7_error μ ν 1 (-1000000001) (by omega) (by decide)) mu_X7_error ml_X7_56 (by decide) ⟨0, 7, TX7, 20, _, rfl, gm_0⟩ rfl (Nat.le_of_ble_eq_true rfl) dX7_watch_39 ?_
      rintro _ _ rfl
      show V X (wM k b (va_up μ 3 (upd (μ 3) 1 (μ 3 1 + 1))) ν) [(0, .ref (b 20)), (1, .int p), (2, .int h), (3, .int m), (4, .int w)] [.int (-1000000001)] 42
      exact hR (-1000000001) ((va_up μ 3 (upd (μ 3) 1 (μ 3 1 + 1))), ν 7, ν 10, ν 11) _ _ dX7_watch_42 rfl (opr (by simp only [op_watch, c_5, c_13, inS, hndS, homS, prsS, shtS, if_true, if_false, not_true_eq_false, not_false_eq_true, true_and, and_true, false_and, and_false, true_or, or_true, or_false, false_or, er_1, er_2, er_3, er_4, er_5, er_6] <;> rfl))
    · have hh_h := inS_n c_13 hI.mn (by omega)
      refine V.iload_n (pc := 16) 3 hC dX7_watch_16 rfl ?_
      refine V.iconst (pc := 17) 1 hC dX7_watch_17 (by decide) ?_
      refine V.bipush (pc := 18) 60 hC dX7_watch_18 (by decide) ?_
      refine V.callS0 (pc := 20) (as := [.int m, .int 1, .int 60]) hC (c_X7_in m 1 60 ) ms_X7_in ml_X7_47 (by decide) rfl (Nat.le_of_ble_eq_true rfl) dX7_watch_20 ?_
      rintro _ _ rfl
      show V X (wM k b μ ν) [(0, .ref (b 20)), (1, .int p), (2, .int h), (3, .int m), (4, .int w)] [.int (bI (inS m 1 60))] 23
      refine V.if_eq_b (P := inS m 1 60) (pc := 23) 36 hC dX7_watch_23 (by decide) (fun c_23 => ?_) (fun c_23 => ?_)
      · refine V.aload_n (pc := 36) 0 hC dX7_watch_36 rfl ?_
        refine V.ldc (pc := 37) (v := (-1000000001)) hC cn_X7_55 dX7_watch_37 ?_
        refine V.callV0 (pc := 39) (as := [.int (-1000000001)]) hC (c_X7_error μ ν 1 (-1000000001) (by omega) (by decide)) mu_X7_error ml_X7_56 (by decide) ⟨0, 7, TX7, 20, _, rfl, gm_0⟩ rfl (Nat.le_of_ble_eq_true rfl) dX7_watch_39 ?_
        rintro _ _ rfl
        show V X (wM k b (va_up μ 3 (upd (μ 3) 1 (μ 3 1 + 1))) ν) [(0, .ref (b 20)), (1, .int p), (2, .int h), (3, .int m), (4, .int w)] [.int (-1000000001)] 42
        exact hR (-1000000001) ((va_up μ 3 (upd (μ 3) 1 (μ 3 1 + 1))), ν 7, ν 10, ν 11) _ _ dX7_watch_42 rfl (opr (by simp only [op_watch, c_5, c_13, c_23, inS, hndS, homS, prsS, shtS, if_true, if_false, not_true_eq_false, not_false_eq_true, true_and, and_true, false_and, and_false, true_or, or_true, or_false, false_or, er_1, er_2, er_3, er_4, er_5, er_6] <;> rfl))
      · have hh_m := inS_1 c_23 (nl 1) (nl 60) (by omega) (by omega)
        refine V.iload (pc := 26) 4 hC dX7_watch_26 rfl ?_
        refine V.iconst (pc := 28) 0 hC dX7_watch_28 (by decide) ?_
        refine V.iconst (pc := 29) 1 hC dX7_watch_29 (by decide) ?_
        refine V.callS0 (pc := 30) (as := [.int w, .int 0, .int 1]) hC (c_X7_in w 0 1 ) ms_X7_in ml_X7_47 (by decide) rfl (Nat.le_of_ble_eq_true rfl) dX7_watch_30 ?_
        rintro _ _ rfl
        show V X (wM k b μ ν) [(0, .ref (b 20)), (1, .int p), (2, .int h), (3, .int m), (4, .int w)] [.int (bI (inS w 0 1))] 33
        refine V.if_ne_b (P := inS w 0 1) (pc := 33) 43 hC dX7_watch_33 (by decide) (fun c_33 => ?_) (fun c_33 => ?_)
        · refine V.aload_n (pc := 43) 0 hC dX7_watch_43 rfl ?_
          refine V.iload_n (pc := 44) 1 hC dX7_watch_44 rfl ?_
          refine V.iconst (pc := 45) 2 hC dX7_watch_45 (by decide) ?_
          refine V.sts (st' := [.int (nI 2), .int (nI (nN p)), .ref (b 20)]) (stc (nl 2) (stc hh_p.1 (stk rfl))) ?_
          refine V.callV0 (pc := 46) (as := [.int (nI (nN p)), .int (nI 2)]) hC (c_X7_of μ ν (nN p) 2 (by have := hh_p.2; omega) (by omega)) mu_X7_of ml_X7_72 (by decide) ⟨0, 7, TX7, 20, _, rfl, gm_0⟩ rfl (Nat.le_of_ble_eq_true rfl) dX7_watch_46 ?_
          rintro _ _ rfl
          show V X (wM k b μ ν) [(0, .ref (b 20)), (1, .int p), (2, .int h), (3, .int m), (4, .int w)] [.int (μ 0 (31 + 3 * (nN p) + 2))] 49
          refine V.eqi (y := μ 0 (33 + 3 * nN p)) (congrArg (μ 0) (by omega)) ?_
          refine V.iload_n (pc := 49) 2 hC dX7_watch_49 rfl ?_
          refine V.icmp_ne (pc := 50) 60 hC dX7_watch_50 (by decide) (fun c_50 => ?_) (fun c_50 => ?_)
          · refine V.iconst (pc := 60) 1 hC dX7_watch_60 (by decide) ?_
            refine V.iload_n (pc := 61) 2 hC dX7_watch_61 rfl ?_
            refine V.ishl (pc := 62) hC dX7_watch_62 ?_
            refine V.iconst (pc := 63) 1 hC dX7_watch_63 (by decide) ?_
            refine V.aload_n (pc := 64) 0 hC dX7_watch_64 rfl ?_
            refine V.iload_n (pc := 65) 1 hC dX7_watch_65 rfl ?_
            refine V.iconst (pc := 66) 2 hC dX7_watch_66 (by decide) ?_
            refine V.sts (st' := [.int (nI 2), .int (nI (nN p)), .ref (b 20), .int 1, .int (1 <<< (h &&& 31))]) (stc (nl 2) (stc hh_p.1 (stk (stk (stk rfl))))) ?_
            refine V.callV0 (pc := 67) (as := [.int (nI (nN p)), .int (nI 2)]) hC (c_X7_of μ ν (nN p) 2 (by have := hh_p.2; omega) (by omega)) mu_X7_of ml_X7_72 (by decide) ⟨0, 7, TX7, 20, _, rfl, gm_0⟩ rfl (Nat.le_of_ble_eq_true rfl) dX7_watch_67 ?_
            rintro _ _ rfl
            show V X (wM k b μ ν) [(0, .ref (b 20)), (1, .int p), (2, .int h), (3, .int m), (4, .int w)] [.int (μ 0 (31 + 3 * (nN p) + 2)), .int 1, .int (1 <<< (h &&& 31))] 70
            refine V.eqi (y := μ 0 (33 + 3 * nN p)) (congrArg (μ 0) (by omega)) ?_
            refine V.ishl (pc := 70) hC dX7_watch_70 ?_
            refine V.ior (pc := 71) hC dX7_watch_71 ?_
            refine V.istore (pc := 72) [(5, .int ((1 <<< (h &&& 31)) ||| (1 <<< ((μ 0 (33 + 3 * nN p)) &&& 31)))), (0, .ref (b 20)), (1, .int p), (2, .int h), (3, .int m), (4, .int w)] hC dX7_watch_72 (by decide) rfl ?_
            refine V.aload_n (pc := 74) 1 hC dX7_watch_74 rfl ?_
            refine V.iload_n (pc := 75) 2 hC dX7_watch_75 rfl ?_
            refine V.iload_n (pc := 76) 4 hC dX7_watch_76 rfl ?_
            refine V.sts (st' := [.int (nI (nN m)), .int (nI (nN p)), .ref (b 20)]) (stc hh_m.1 (stc hh_p.1 (stk rfl))) ?_
            refine V.callV0 (pc := 77) (as := [.int (nI (nN p)), .int (nI (nN m))]) hC (c_X7_findReach μ ν (nN p) (nN m) hI (by have := hh_p.2; omega) hh_m.2.2) mu_X7_findReach ml_X7_194 (by decide) ⟨0, 7, TX7, 20, _, rfl, gm_0⟩ rfl (Nat.le_of_ble_eq_true rfl) dX7_watch_77 ?_
            rintro _ ⟨f77_0, f77_1, f77_2⟩ ⟨rfl, hu77_0⟩
            have hu77_0 : (∀ i x, i < (nN m) → x < nN (μ 0 3) → f77_0 (8 * i + x) = wayS (μ 0) (nN p) x (μ 0 0 + nI i)) := hu77_0
            show V X (wM k b μ (va_up (va_up (va_up ν 7 f77_0) 10 f77_1) 11 f77_2)) [(5, .int ((1 <<< (h &&& 31)) ||| (1 <<< ((μ 0 (33 + 3 * nN p)) &&& 31)))), (0, .ref (b 20)), (1, .int p), (2, .int h), (3, .int m), (4, .int w)] [] 80
            refine V.iconst (pc := 80) (-1) hC dX7_watch_80 (by decide) ?_
            refine V.istore (pc := 81) [(6, .int (-1)), (5, .int ((1 <<< (h &&& 31)) ||| (1 <<< ((μ 0 (33 + 3 * nN p)) &&& 31)))), (0, .ref (b 20)), (1, .int p), (2, .int h), (3, .int m), (4, .int w)] hC dX7_watch_81 (by decide) rfl ?_
            refine V.iconst (pc := 83) 0 hC dX7_watch_83 (by decide) ?_
            refine V.istore (pc := 84) [(7, .int 0), (6, .int (-1)), (5, .int ((1 <<< (h &&& 31)) ||| (1 <<< ((μ 0 (33 + 3 * nN p)) &&& 31)))), (0, .ref (b 20)), (1, .int p), (2, .int h), (3, .int m), (4, .int w)] hC dX7_watch_84 (by decide) rfl ?_
            have loop_86 : ∀ (n : Nat) (i : Nat) (bs : Int32), i + n = 2 ^ nN (μ 0 3) → bs = -1 ∨ (bs = nI (nN bs) ∧ nN bs < 256) → watS (μ 0) (nN p) (nN m) h = run (watF (μ 0) (nN p) (nN m) h (reW (μ 0) (nN p))) n i bs → V X (wM k b μ (va_up (va_up (va_up ν 7 f77_0) 10 f77_1) 11 f77_2)) [(5, .int ((1 <<< (h &&& 31)) ||| (1 <<< ((μ 0 (33 + 3 * nN p)) &&& 31)))), (0, .ref (b 20)), (1, .int p), (2, .int h), (3, .int m), (4, .int w), (6, .int bs), (7, .int (nI i))] [] 86 := by
              intro n
              induction n with
              | zero =>
                intro i bs hi hb hv
                refine V.iload (pc := 86) 7 hC dX7_watch_86 rfl ?_
                refine V.iconst (pc := 88) 1 hC dX7_watch_88 (by decide) ?_
                refine V.aload_n (pc := 89) 1 hC dX7_watch_89 rfl ?_
                refine V.get (pc := 90) (v := .ref (b 0)) hC cf_X7 0 0 fl_X7_9 (by decide) gm_0 rfl dX7_watch_90 ?_
                refine V.iconst (pc := 93) 3 hC dX7_watch_93 (by decide) ?_
                refine V.iald (pc := 94) (f := μ 0) hC 1 3 gm_1 (nl 3) (by omega) (by decide) dX7_watch_94 ?_
                refine V.ishl (pc := 95) hC dX7_watch_95 ?_
                refine V.eqi (y := nI (2 ^ nN (μ 0 3))) (by rw [hI.mn, nN_nI (by omega)]; exact shl1 _ (by omega)) ?_
                refine V.icmp_ge (pc := 96) 155 hC dX7_watch_96 (by decide) (fun c_96 => ?_) (fun c_96 => ?_)
                · have nc_96 : 2 ^ nN (μ 0 3) ≤ i := (nle rfl rfl (by omega) (by omega)).mp c_96
                  refine V.iload (pc := 155) 6 hC dX7_watch_155 rfl ?_
                  refine V.if_ge (pc := 157) 169 hC dX7_watch_157 (by decide) (fun c_157 => ?_) (fun c_157 => ?_)
                  · refine V.iload (pc := 169) 5 hC dX7_watch_169 rfl ?_
                    refine V.if_ne (pc := 171) 182 hC dX7_watch_171 (by decide) (fun c_171 => ?_) (fun c_171 => ?_)
                    · refine V.iload (pc := 182) 6 hC dX7_watch_182 rfl ?_
                      exact hR bs (μ, f77_0, f77_1, f77_2) _ _ dX7_watch_184 rfl (opr (by rw [op_watch, if_neg (not_not_intro c_5), if_neg (not_not_intro c_13), if_neg (not_not_intro c_23), if_neg (not_not_intro c_33), if_neg c_50, show watS (μ 0) (nN p) (nN m) h = bs from hv, if_neg (i_ge c_157), if_neg c_171]))
                    · have hbs : bs = nI (nN bs) ∧ nN bs < 256 := hb.elim (fun q => absurd (show bs < 0 by rw [q]; decide) (i_ge c_157)) (fun q => q)
                      refine V.iload (pc := 174) 6 hC dX7_watch_174 rfl ?_
                      refine V.sts (st' := [.int (nI (nN bs))]) (stc hbs.1 rfl) ?_
                      refine V.callS0 (pc := 176) (as := [.int (nI (nN bs))]) hC (c_X7_bits (nN bs) hbs.2) ms_X7_bits ml_X7_197 (by decide) rfl (Nat.le_of_ble_eq_true rfl) dX7_watch_176 ?_
                      rintro _ _ rfl
                      show V X (wM k b μ (va_up (va_up (va_up ν 7 f77_0) 10 f77_1) 11 f77_2)) [(5, .int ((1 <<< (h &&& 31)) ||| (1 <<< ((μ 0 (33 + 3 * nN p)) &&& 31)))), (0, .ref (b 20)), (1, .int p), (2, .int h), (3, .int m), (4, .int w), (6, .int bs), (7, .int (nI i))] [.int (nI (pc8 (nN bs)))] 179
                      refine V.goto (pc := 179) 184 hC dX7_watch_179 (by decide) ?_
                      exact hR (nI (pc8 (nN bs))) (μ, f77_0, f77_1, f77_2) _ _ dX7_watch_184 rfl (opr (by rw [op_watch, if_neg (not_not_intro c_5), if_neg (not_not_intro c_13), if_neg (not_not_intro c_23), if_neg (not_not_intro c_33), if_neg c_50, show watS (μ 0) (nN p) (nN m) h = bs from hv, if_neg (i_ge c_157), if_pos c_171]))
                  · refine V.aload_n (pc := 160) 1 hC dX7_watch_160 rfl ?_
                    refine V.ldc (pc := 161) (v := (-1000000002)) hC cn_X7_190 dX7_watch_161 ?_
                    refine V.callV0 (pc := 163) (as := [.int (-1000000002)]) hC (c_X7_error μ (va_up (va_up (va_up ν 7 f77_0) 10 f77_1) 11 f77_2) 2 (-1000000002) (by omega) (by decide)) mu_X7_error ml_X7_56 (by decide) ⟨0, 7, TX7, 20, _, rfl, gm_0⟩ rfl (Nat.le_of_ble_eq_true rfl) dX7_watch_163 ?_
                    rintro _ _ rfl
                    show V X (wM k b (va_up μ 3 (upd (μ 3) 2 (μ 3 2 + 1))) (va_up (va_up (va_up ν 7 f77_0) 10 f77_1) 11 f77_2)) [(5, .int ((1 <<< (h &&& 31)) ||| (1 <<< ((μ 0 (33 + 3 * nN p)) &&& 31)))), (0, .ref (b 20)), (1, .int p), (2, .int h), (3, .int m), (4, .int w), (6, .int bs), (7, .int (nI i))] [.int (-1000000002)] 166
                    refine V.goto (pc := 166) 184 hC dX7_watch_166 (by decide) ?_
                    exact hR (-1000000002) ((va_up μ 3 (upd (μ 3) 2 (μ 3 2 + 1))), f77_0, f77_1, f77_2) _ _ dX7_watch_184 rfl (opr (by rw [op_watch, if_neg (not_not_intro c_5), if_neg (not_not_intro c_13), if_neg (not_not_intro c_23), if_neg (not_not_intro c_33), if_neg c_50, show watS (μ 0) (nN p) (nN m) h = bs from hv, if_pos (i_nle c_157), er_2]))
                · have nc_96 : ¬ (2 ^ nN (μ 0 3) ≤ i) := fun z => c_96 ((nle rfl rfl (by omega) (by omega)).mpr z)
                  exfalso; omega
              | succ n ih =>
                intro i bs hi hb hv
                have hi256 : i < 256 := by omega
                refine V.iload (pc := 86) 7 hC dX7_watch_86 rfl ?_
                refine V.iconst (pc := 88) 1 hC dX7_watch_88 (by decide) ?_
                refine V.aload_n (pc := 89) 1 hC dX7_watch_89 rfl ?_
                refine V.get (pc := 90) (v := .ref (b 0)) hC cf_X7 0 0 fl_X7_9 (by decide) gm_0 rfl dX7_watch_90 ?_
                refine V.iconst (pc := 93) 3 hC dX7_watch_93 (by decide) ?_
                refine V.iald (pc := 94) (f := μ 0) hC 1 3 gm_1 (nl 3) (by omega) (by decide) dX7_watch_94 ?_
                refine V.ishl (pc := 95) hC dX7_watch_95 ?_
                refine V.eqi (y := nI (2 ^ nN (μ 0 3))) (by rw [hI.mn, nN_nI (by omega)]; exact shl1 _ (by omega)) ?_
                refine V.icmp_ge (pc := 96) 155 hC dX7_watch_96 (by decide) (fun c_96 => ?_) (fun c_96 => ?_)
                · have nc_96 : 2 ^ nN (μ 0 3) ≤ i := (nle rfl rfl (by omega) (by omega)).mp c_96
                  exfalso; omega
                · have nc_96 : ¬ (2 ^ nN (μ 0 3) ≤ i) := fun z => c_96 ((nle rfl rfl (by omega) (by omega)).mpr z)
                  refine V.iload (pc := 99) 7 hC dX7_watch_99 rfl ?_
                  refine V.iload (pc := 101) 0 hC dX7_watch_101 rfl ?_
                  refine V.iand (pc := 103) hC dX7_watch_103 ?_
                  refine V.if_ne (pc := 104) 149 hC dX7_watch_104 (by decide) (fun c_104 => ?_) (fun c_104 => ?_)
                  · refine V.iinc (pc := 149) 7 (nI (i + 1)) [(7, .int (nI (i + 1))), (5, .int ((1 <<< (h &&& 31)) ||| (1 <<< ((μ 0 (33 + 3 * nN p)) &&& 31)))), (0, .ref (b 20)), (1, .int p), (2, .int h), (3, .int m), (4, .int w), (6, .int bs)] hC dX7_watch_149 rfl (ncast (nadd rfl (nl 1)) (by omega)) (by decide) rfl ?_
                    refine V.goto (pc := 152) 86 hC dX7_watch_152 (by decide) ?_
                    exact V.sub [1, 2, 3, 4, 5, 6, 7, 0] rfl (ih (i + 1) bs (by omega) hb (run_next hv (by show (if nI i &&& (b1 h ||| b1 (μ 0 (33 + 3 * nN p))) = 0 ∧ (bs < 0 ∨ pc8 i < pc8 (nN bs)) then _ else _) = _; rw [if_neg (show ¬ (nI i &&& (b1 h ||| b1 (μ 0 (33 + 3 * nN p))) = 0 ∧ (bs < 0 ∨ pc8 i < pc8 (nN bs))) from fun q => c_104 q.1)])))
                  · refine V.iload (pc := 107) 6 hC dX7_watch_107 rfl ?_
                    refine V.if_lt (pc := 109) 125 hC dX7_watch_109 (by decide) (fun c_109 => ?_) (fun c_109 => ?_)
                    · refine V.aload_n (pc := 125) 1 hC dX7_watch_125 rfl ?_
                      refine V.iload_n (pc := 126) 2 hC dX7_watch_126 rfl ?_
                      refine V.iload_n (pc := 127) 4 hC dX7_watch_127 rfl ?_
                      refine V.iload (pc := 128) 7 hC dX7_watch_128 rfl ?_
                      refine V.sts (st' := [.int (nI i), .int (nI (nN m)), .int (nI (nN p)), .ref (b 20)]) (stk (stc hh_m.1 (stc hh_p.1 (stk rfl)))) ?_
                      refine V.callV0 (pc := 130) (as := [.int (nI (nN p)), .int (nI (nN m)), .int (nI i)]) hC (c_X7_roomsBut μ (va_up (va_up (va_up ν 7 f77_0) 10 f77_1) 11 f77_2) (nN p) (nN m) (nI i) hI (by have := hh_p.2; omega) hh_m.2.2) mu_X7_roomsBut ml_X7_200 (by decide) ⟨0, 7, TX7, 20, _, rfl, gm_0⟩ rfl (Nat.le_of_ble_eq_true rfl) dX7_watch_130 ?_
                      rintro _ _ rfl
                      show V X (wM k b μ (va_up (va_up (va_up ν 7 f77_0) 10 f77_1) 11 f77_2)) [(5, .int ((1 <<< (h &&& 31)) ||| (1 <<< ((μ 0 (33 + 3 * nN p)) &&& 31)))), (0, .ref (b 20)), (1, .int p), (2, .int h), (3, .int m), (4, .int w), (6, .int bs), (7, .int (nI i))] [.int (roomsButS (μ 0) (f77_0) (nN p) (nN m) (nI i))] 133
                      have hbut := but_c (ρ := μ 0) (re := f77_0) (re' := reW (μ 0) (nN p)) (p := nN p) (m := nN m) (shut := nI i) (fun i x h1 h2 => by rw [reW_v (by omega)]; exact hu77_0 i x h1 h2)
                      refine V.iload_n (pc := 133) 3 hC dX7_watch_133 rfl ?_
                      refine V.ishr (pc := 134) hC dX7_watch_134 ?_
                      refine V.iconst (pc := 135) 1 hC dX7_watch_135 (by decide) ?_
                      refine V.iand (pc := 136) hC dX7_watch_136 ?_
                      refine V.if_ne (pc := 137) 145 hC dX7_watch_137 (by decide) (fun c_137 => ?_) (fun c_137 => ?_)
                      · refine V.iload (pc := 145) 6 hC dX7_watch_145 rfl ?_
                        refine V.istore (pc := 147) [(6, .int bs), (5, .int ((1 <<< (h &&& 31)) ||| (1 <<< ((μ 0 (33 + 3 * nN p)) &&& 31)))), (0, .ref (b 20)), (1, .int p), (2, .int h), (3, .int m), (4, .int w), (7, .int (nI i))] hC dX7_watch_147 (by decide) rfl ?_
                        refine V.iinc (pc := 149) 7 (nI (i + 1)) [(7, .int (nI (i + 1))), (6, .int bs), (5, .int ((1 <<< (h &&& 31)) ||| (1 <<< ((μ 0 (33 + 3 * nN p)) &&& 31)))), (0, .ref (b 20)), (1, .int p), (2, .int h), (3, .int m), (4, .int w)] hC dX7_watch_149 rfl (ncast (nadd rfl (nl 1)) (by omega)) (by decide) rfl ?_
                        refine V.goto (pc := 152) 86 hC dX7_watch_152 (by decide) ?_
                        have hq : ¬ bitS (roomsButS (μ 0) (reW (μ 0) (nN p)) (nN p) (nN m) (nI i)) h = 0 := by rw [← hbut]; exact c_137
                        exact V.sub [2, 3, 4, 5, 6, 7, 1, 0] rfl (ih (i + 1) bs (by omega) hb (run_next hv (by show (if nI i &&& (b1 h ||| b1 (μ 0 (33 + 3 * nN p))) = 0 ∧ (bs < 0 ∨ pc8 i < pc8 (nN bs)) then _ else _) = _; rw [if_pos (show nI i &&& (b1 h ||| b1 (μ 0 (33 + 3 * nN p))) = 0 ∧ (bs < 0 ∨ pc8 i < pc8 (nN bs)) from ⟨c_104, Or.inl c_109⟩), if_neg hq])))
                      · refine V.iload (pc := 140) 7 hC dX7_watch_140 rfl ?_
                        refine V.goto (pc := 142) 147 hC dX7_watch_142 (by decide) ?_
                        refine V.istore (pc := 147) [(6, .int (nI i)), (5, .int ((1 <<< (h &&& 31)) ||| (1 <<< ((μ 0 (33 + 3 * nN p)) &&& 31)))), (0, .ref (b 20)), (1, .int p), (2, .int h), (3, .int m), (4, .int w), (7, .int (nI i))] hC dX7_watch_147 (by decide) rfl ?_
                        refine V.iinc (pc := 149) 7 (nI (i + 1)) [(7, .int (nI (i + 1))), (6, .int (nI i)), (5, .int ((1 <<< (h &&& 31)) ||| (1 <<< ((μ 0 (33 + 3 * nN p)) &&& 31)))), (0, .ref (b 20)), (1, .int p), (2, .int h), (3, .int m), (4, .int w)] hC dX7_watch_149 rfl (ncast (nadd rfl (nl 1)) (by omega)) (by decide) rfl ?_
                        refine V.goto (pc := 152) 86 hC dX7_watch_152 (by decide) ?_
                        have hq : bitS (roomsButS (μ 0) (reW (μ 0) (nN p)) (nN p) (nN m) (nI i)) h = 0 := by rw [← hbut]; exact c_137
                        exact V.sub [2, 3, 4, 5, 6, 7, 1, 0] rfl (ih (i + 1) (nI i) (by omega) (Or.inr ⟨by rw [nN_nI (by omega)], by rw [nN_nI (by omega)]; omega⟩) (run_next hv (by show (if nI i &&& (b1 h ||| b1 (μ 0 (33 + 3 * nN p))) = 0 ∧ (bs < 0 ∨ pc8 i < pc8 (nN bs)) then _ else _) = _; rw [if_pos (show nI i &&& (b1 h ||| b1 (μ 0 (33 + 3 * nN p))) = 0 ∧ (bs < 0 ∨ pc8 i < pc8 (nN bs)) from ⟨c_104, Or.inl c_109⟩), if_pos hq])))
                    · refine V.iload (pc := 112) 7 hC dX7_watch_112 rfl ?_
                      refine V.callS0 (pc := 114) (as := [.int (nI i)]) hC (c_X7_bits i (by omega)) ms_X7_bits ml_X7_197 (by decide) rfl (Nat.le_of_ble_eq_true rfl) dX7_watch_114 ?_
                      rintro _ _ rfl
                      show V X (wM k b μ (va_up (va_up (va_up ν 7 f77_0) 10 f77_1) 11 f77_2)) [(5, .int ((1 <<< (h &&& 31)) ||| (1 <<< ((μ 0 (33 + 3 * nN p)) &&& 31)))), (0, .ref (b 20)), (1, .int p), (2, .int h), (3, .int m), (4, .int w), (6, .int bs), (7, .int (nI i))] [.int (nI (pc8 i))] 117
                      have hbs : bs = nI (nN bs) ∧ nN bs < 256 := hb.elim (fun q => absurd (show bs < 0 by rw [q]; decide) c_109) (fun q => q)
                      refine V.iload (pc := 117) 6 hC dX7_watch_117 rfl ?_
                      refine V.sts (st' := [.int (nI (nN bs)), .int (nI (pc8 i))]) (stc hbs.1 (stk rfl)) ?_
                      refine V.callS0 (pc := 119) (as := [.int (nI (nN bs))]) hC (c_X7_bits (nN bs) hbs.2) ms_X7_bits ml_X7_197 (by decide) rfl (Nat.le_of_ble_eq_true rfl) dX7_watch_119 ?_
                      rintro _ _ rfl
                      show V X (wM k b μ (va_up (va_up (va_up ν 7 f77_0) 10 f77_1) 11 f77_2)) [(5, .int ((1 <<< (h &&& 31)) ||| (1 <<< ((μ 0 (33 + 3 * nN p)) &&& 31)))), (0, .ref (b 20)), (1, .int p), (2, .int h), (3, .int m), (4, .int w), (6, .int bs), (7, .int (nI i))] [.int (nI (pc8 (nN bs))), .int (nI (pc8 i))] 122
                      refine V.icmp_ge (pc := 122) 149 hC dX7_watch_122 (by decide) (fun c_122 => ?_) (fun c_122 => ?_)
                      · have hge : ¬ pc8 i < pc8 (nN bs) := fun q => i_ge c_122 ((nI_ltI (by have := pc8_b i; omega) (by have := pc8_b (nN bs); omega)).mpr q)
                        refine V.iinc (pc := 149) 7 (nI (i + 1)) [(7, .int (nI (i + 1))), (5, .int ((1 <<< (h &&& 31)) ||| (1 <<< ((μ 0 (33 + 3 * nN p)) &&& 31)))), (0, .ref (b 20)), (1, .int p), (2, .int h), (3, .int m), (4, .int w), (6, .int bs)] hC dX7_watch_149 rfl (ncast (nadd rfl (nl 1)) (by omega)) (by decide) rfl ?_
                        refine V.goto (pc := 152) 86 hC dX7_watch_152 (by decide) ?_
                        exact V.sub [1, 2, 3, 4, 5, 6, 7, 0] rfl (ih (i + 1) bs (by omega) hb (run_next hv (by show (if nI i &&& (b1 h ||| b1 (μ 0 (33 + 3 * nN p))) = 0 ∧ (bs < 0 ∨ pc8 i < pc8 (nN bs)) then _ else _) = _; rw [if_neg (show ¬ (nI i &&& (b1 h ||| b1 (μ 0 (33 + 3 * nN p))) = 0 ∧ (bs < 0 ∨ pc8 i < pc8 (nN bs))) from fun q => q.2.elim c_109 hge)])))
                      · have hlt : pc8 i < pc8 (nN bs) := (nI_ltI (by have := pc8_b i; omega) (by have := pc8_b (nN bs); omega)).mp (i_nle c_122)
                        refine V.aload_n (pc := 125) 1 hC dX7_watch_125 rfl ?_
                        refine V.iload_n (pc := 126) 2 hC dX7_watch_126 rfl ?_
                        refine V.iload_n (pc := 127) 4 hC dX7_watch_127 rfl ?_
                        refine V.iload (pc := 128) 7 hC dX7_watch_128 rfl ?_
                        refine V.sts (st' := [.int (nI i), .int (nI (nN m)), .int (nI (nN p)), .ref (b 20)]) (stk (stc hh_m.1 (stc hh_p.1 (stk rfl)))) ?_
                        refine V.callV0 (pc := 130) (as := [.int (nI (nN p)), .int (nI (nN m)), .int (nI i)]) hC (c_X7_roomsBut μ (va_up (va_up (va_up ν 7 f77_0) 10 f77_1) 11 f77_2) (nN p) (nN m) (nI i) hI (by have := hh_p.2; omega) hh_m.2.2) mu_X7_roomsBut ml_X7_200 (by decide) ⟨0, 7, TX7, 20, _, rfl, gm_0⟩ rfl (Nat.le_of_ble_eq_true rfl) dX7_watch_130 ?_
                        rintro _ _ rfl
                        show V X (wM k b μ (va_up (va_up (va_up ν 7 f77_0) 10 f77_1) 11 f77_2)) [(5, .int ((1 <<< (h &&& 31)) ||| (1 <<< ((μ 0 (33 + 3 * nN p)) &&& 31)))), (0, .ref (b 20)), (1, .int p), (2, .int h), (3, .int m), (4, .int w), (6, .int bs), (7, .int (nI i))] [.int (roomsButS (μ 0) (f77_0) (nN p) (nN m) (nI i))] 133
                        have hbut := but_c (ρ := μ 0) (re := f77_0) (re' := reW (μ 0) (nN p)) (p := nN p) (m := nN m) (shut := nI i) (fun i x h1 h2 => by rw [reW_v (by omega)]; exact hu77_0 i x h1 h2)
                        refine V.iload_n (pc := 133) 3 hC dX7_watch_133 rfl ?_
                        refine V.ishr (pc := 134) hC dX7_watch_134 ?_
                        refine V.iconst (pc := 135) 1 hC dX7_watch_135 (by decide) ?_
                        refine V.iand (pc := 136) hC dX7_watch_136 ?_
                        refine V.if_ne (pc := 137) 145 hC dX7_watch_137 (by decide) (fun c_137 => ?_) (fun c_137 => ?_)
                        · refine V.iload (pc := 145) 6 hC dX7_watch_145 rfl ?_
                          refine V.istore (pc := 147) [(6, .int bs), (5, .int ((1 <<< (h &&& 31)) ||| (1 <<< ((μ 0 (33 + 3 * nN p)) &&& 31)))), (0, .ref (b 20)), (1, .int p), (2, .int h), (3, .int m), (4, .int w), (7, .int (nI i))] hC dX7_watch_147 (by decide) rfl ?_
                          refine V.iinc (pc := 149) 7 (nI (i + 1)) [(7, .int (nI (i + 1))), (6, .int bs), (5, .int ((1 <<< (h &&& 31)) ||| (1 <<< ((μ 0 (33 + 3 * nN p)) &&& 31)))), (0, .ref (b 20)), (1, .int p), (2, .int h), (3, .int m), (4, .int w)] hC dX7_watch_149 rfl (ncast (nadd rfl (nl 1)) (by omega)) (by decide) rfl ?_
                          refine V.goto (pc := 152) 86 hC dX7_watch_152 (by decide) ?_
                          have hq : ¬ bitS (roomsButS (μ 0) (reW (μ 0) (nN p)) (nN p) (nN m) (nI i)) h = 0 := by rw [← hbut]; exact c_137
                          exact V.sub [2, 3, 4, 5, 6, 7, 1, 0] rfl (ih (i + 1) bs (by omega) hb (run_next hv (by show (if nI i &&& (b1 h ||| b1 (μ 0 (33 + 3 * nN p))) = 0 ∧ (bs < 0 ∨ pc8 i < pc8 (nN bs)) then _ else _) = _; rw [if_pos (show nI i &&& (b1 h ||| b1 (μ 0 (33 + 3 * nN p))) = 0 ∧ (bs < 0 ∨ pc8 i < pc8 (nN bs)) from ⟨c_104, Or.inr hlt⟩), if_neg hq])))
                        · refine V.iload (pc := 140) 7 hC dX7_watch_140 rfl ?_
                          refine V.goto (pc := 142) 147 hC dX7_watch_142 (by decide) ?_
                          refine V.istore (pc := 147) [(6, .int (nI i)), (5, .int ((1 <<< (h &&& 31)) ||| (1 <<< ((μ 0 (33 + 3 * nN p)) &&& 31)))), (0, .ref (b 20)), (1, .int p), (2, .int h), (3, .int m), (4, .int w), (7, .int (nI i))] hC dX7_watch_147 (by decide) rfl ?_
                          refine V.iinc (pc := 149) 7 (nI (i + 1)) [(7, .int (nI (i + 1))), (6, .int (nI i)), (5, .int ((1 <<< (h &&& 31)) ||| (1 <<< ((μ 0 (33 + 3 * nN p)) &&& 31)))), (0, .ref (b 20)), (1, .int p), (2, .int h), (3, .int m), (4, .int w)] hC dX7_watch_149 rfl (ncast (nadd rfl (nl 1)) (by omega)) (by decide) rfl ?_
                          refine V.goto (pc := 152) 86 hC dX7_watch_152 (by decide) ?_
                          have hq : bitS (roomsButS (μ 0) (reW (μ 0) (nN p)) (nN p) (nN m) (nI i)) h = 0 := by rw [← hbut]; exact c_137
                          exact V.sub [2, 3, 4, 5, 6, 7, 1, 0] rfl (ih (i + 1) (nI i) (by omega) (Or.inr ⟨by rw [nN_nI (by omega)], by rw [nN_nI (by omega)]; omega⟩) (run_next hv (by show (if nI i &&& (b1 h ||| b1 (μ 0 (33 + 3 * nN p))) = 0 ∧ (bs < 0 ∨ pc8 i < pc8 (nN bs)) then _ else _) = _; rw [if_pos (show nI i &&& (b1 h ||| b1 (μ 0 (33 + 3 * nN p))) = 0 ∧ (bs < 0 ∨ pc8 i < pc8 (nN bs)) from ⟨c_104, Or.inr hlt⟩), if_pos hq])))
            exact V.sub [2, 3, 4, 5, 6, 7, 1, 0] rfl (loop_86 (2 ^ nN (μ 0 3)) 0 (-1) (by omega) (Or.inl rfl) rfl)
          · refine V.aload_n (pc := 53) 0 hC dX7_watch_53 rfl ?_
            refine V.ldc (pc := 54) (v := (-1000000003)) hC cn_X7_118 dX7_watch_54 ?_
            refine V.callV0 (pc := 56) (as := [.int (-1000000003)]) hC (c_X7_error μ ν 3 (-1000000003) (by omega) (by decide)) mu_X7_error ml_X7_56 (by decide) ⟨0, 7, TX7, 20, _, rfl, gm_0⟩ rfl (Nat.le_of_ble_eq_true rfl) dX7_watch_56 ?_
            rintro _ _ rfl
            show V X (wM k b (va_up μ 3 (upd (μ 3) 3 (μ 3 3 + 1))) ν) [(0, .ref (b 20)), (1, .int p), (2, .int h), (3, .int m), (4, .int w)] [.int (-1000000003)] 59
            exact hR (-1000000003) ((va_up μ 3 (upd (μ 3) 3 (μ 3 3 + 1))), ν 7, ν 10, ν 11) _ _ dX7_watch_59 rfl (opr (by rw [op_watch, if_neg (not_not_intro c_5), if_neg (not_not_intro c_13), if_neg (not_not_intro c_23), if_neg (not_not_intro c_33), if_pos c_50, er_3]))
        · refine V.aload_n (pc := 36) 0 hC dX7_watch_36 rfl ?_
          refine V.ldc (pc := 37) (v := (-1000000001)) hC cn_X7_55 dX7_watch_37 ?_
          refine V.callV0 (pc := 39) (as := [.int (-1000000001)]) hC (c_X7_error μ ν 1 (-1000000001) (by omega) (by decide)) mu_X7_error ml_X7_56 (by decide) ⟨0, 7, TX7, 20, _, rfl, gm_0⟩ rfl (Nat.le_of_ble_eq_true rfl) dX7_watch_39 ?_
          rintro _ _ rfl
          show V X (wM k b (va_up μ 3 (upd (μ 3) 1 (μ 3 1 + 1))) ν) [(0, .ref (b 20)), (1, .int p), (2, .int h), (3, .int m), (4, .int w)] [.int (-1000000001)] 42
          exact hR (-1000000001) ((va_up μ 3 (upd (μ 3) 1 (μ 3 1 + 1))), ν 7, ν 10, ν 11) _ _ dX7_watch_42 rfl (opr (by simp only [op_watch, c_5, c_13, c_23, c_33, inS, hndS, homS, prsS, shtS, if_true, if_false, not_true_eq_false, not_false_eq_true, true_and, and_true, false_and, and_false, true_or, or_true, or_false, false_or, er_1, er_2, er_3, er_4, er_5, er_6] <;> rfl))
set_option maxHeartbeats 4000000 in
set_option maxRecDepth 100000 in
theorem c_X7_best {l : Launch} {D : va_G} {k : Nat → ClassId} {g b : Nat → Nat} (μ ν : St) (p m w : Int32) (hI : Inv (μ 0)) : Ct l D k g yX7_best cX7_best 9 (some .int) 6 148 [.ref (b 20), .int p, .int m, .int w] (S := St × Rw × Rw) (wM k b μ ν) (fun uu => wM k b uu.1 (va_up (va_up ν 10 uu.2.1) 11 uu.2.2)) (fun vv uu => vv = some (.int ((op_best p m w μ).1)) ∧ uu.1 = (op_best p m w μ).2) := by
  refine Ct.ofI RX7 rfl (by decide +kernel) (Nat.le_of_ble_eq_true rfl) (fun X hC hR => ?_)
  have hb4 := hI.hb; have hb8 := hI.mb; have hb6 := hI.pb; have hbm := hI.ob0; have hbt := hI.bb; have hbw := hI.wb
  show V X (wM k b μ ν) [(0, .ref (b 20)), (1, .int p), (2, .int m), (3, .int w)] [] 0
  refine V.aload_n (pc := 0) 0 hC dX7_best_0 rfl ?_
  refine V.iload_n (pc := 1) 1 hC dX7_best_1 rfl ?_
  refine V.callV0 (pc := 2) (as := [.int p]) hC (c_X7_isPerson μ ν p ) mu_X7_isPerson ml_X7_104 (by decide) ⟨0, 7, TX7, 20, _, rfl, gm_0⟩ rfl (Nat.le_of_ble_eq_true rfl) dX7_best_2 ?_
  rintro _ _ rfl
  show V X (wM k b μ ν) [(0, .ref (b 20)), (1, .int p), (2, .int m), (3, .int w)] [.int (bI (inS p 0 (μ 0 4 - 1)))] 5
  refine V.if_eq_b (P := inS p 0 (μ 0 4 - 1)) (pc := 5) 27 hC dX7_best_5 (by decide) (fun c_5 => ?_) (fun c_5 => ?_)
  · refine V.aload_n (pc := 27) 0 hC dX7_best_27 rfl ?_
    refine V.ldc (pc := 28) (v := (-1000000001)) hC cn_X7_55 dX7_best_28 ?_
    refine V.callV0 (pc := 30) (as := [.int (-1000000001)]) hC (c_X7_error μ ν 1 (-1000000001) (by omega) (by decide)) mu_X7_error ml_X7_56 (by decide) ⟨0, 7, TX7, 20, _, rfl, gm_0⟩ rfl (Nat.le_of_ble_eq_true rfl) dX7_best_30 ?_
    rintro _ _ rfl
    show V X (wM k b (va_up μ 3 (upd (μ 3) 1 (μ 3 1 + 1))) ν) [(0, .ref (b 20)), (1, .int p), (2, .int m), (3, .int w)] [.int (-1000000001)] 33
    exact hR (-1000000001) ((va_up μ 3 (upd (μ 3) 1 (μ 3 1 + 1))), ν 10, ν 11) _ _ dX7_best_33 rfl (opr (by simp only [op_best, c_5, inS, hndS, homS, prsS, shtS, if_true, if_false, not_true_eq_false, not_false_eq_true, true_and, and_true, false_and, and_false, true_or, or_true, or_false, false_or, er_1, er_2, er_3, er_4, er_5, er_6] <;> rfl))
  · have hh_p := inS_n c_5 hI.pn (by omega)
    refine V.iload_n (pc := 8) 2 hC dX7_best_8 rfl ?_
    refine V.iconst (pc := 9) 0 hC dX7_best_9 (by decide) ?_
    refine V.bipush (pc := 10) 60 hC dX7_best_10 (by decide) ?_
    refine V.callS0 (pc := 12) (as := [.int m, .int 0, .int 60]) hC (c_X7_in m 0 60 ) ms_X7_in ml_X7_47 (by decide) rfl (Nat.le_of_ble_eq_true rfl) dX7_best_12 ?_
    rintro _ _ rfl
    show V X (wM k b μ ν) [(0, .ref (b 20)), (1, .int p), (2, .int m), (3, .int w)] [.int (bI (inS m 0 60))] 15
    refine V.if_eq_b (P := inS m 0 60) (pc := 15) 27 hC dX7_best_15 (by decide) (fun c_15 => ?_) (fun c_15 => ?_)
    · refine V.aload_n (pc := 27) 0 hC dX7_best_27 rfl ?_
      refine V.ldc (pc := 28) (v := (-1000000001)) hC cn_X7_55 dX7_best_28 ?_
      refine V.callV0 (pc := 30) (as := [.int (-1000000001)]) hC (c_X7_error μ ν 1 (-1000000001) (by omega) (by decide)) mu_X7_error ml_X7_56 (by decide) ⟨0, 7, TX7, 20, _, rfl, gm_0⟩ rfl (Nat.le_of_ble_eq_true rfl) dX7_best_30 ?_
      rintro _ _ rfl
      show V X (wM k b (va_up μ 3 (upd (μ 3) 1 (μ 3 1 + 1))) ν) [(0, .ref (b 20)), (1, .int p), (2, .int m), (3, .int w)] [.int (-1000000001)] 33
      exact hR (-1000000001) ((va_up μ 3 (upd (μ 3) 1 (μ 3 1 + 1))), ν 10, ν 11) _ _ dX7_best_33 rfl (opr (by simp only [op_best, c_5, c_15, inS, hndS, homS, prsS, shtS, if_true, if_false, not_true_eq_false, not_false_eq_true, true_and, and_true, false_and, and_false, true_or, or_true, or_false, false_or, er_1, er_2, er_3, er_4, er_5, er_6] <;> rfl))
    · have hh_m := inS_c c_15 (nl 60) (by omega)
      refine V.iload_n (pc := 18) 3 hC dX7_best_18 rfl ?_
      refine V.iconst (pc := 19) 0 hC dX7_best_19 (by decide) ?_
      refine V.iconst (pc := 20) 1 hC dX7_best_20 (by decide) ?_
      refine V.callS0 (pc := 21) (as := [.int w, .int 0, .int 1]) hC (c_X7_in w 0 1 ) ms_X7_in ml_X7_47 (by decide) rfl (Nat.le_of_ble_eq_true rfl) dX7_best_21 ?_
      rintro _ _ rfl
      show V X (wM k b μ ν) [(0, .ref (b 20)), (1, .int p), (2, .int m), (3, .int w)] [.int (bI (inS w 0 1))] 24
      refine V.if_ne_b (P := inS w 0 1) (pc := 24) 34 hC dX7_best_24 (by decide) (fun c_24 => ?_) (fun c_24 => ?_)
      · refine V.aload_n (pc := 34) 0 hC dX7_best_34 rfl ?_
        refine V.iload_n (pc := 35) 1 hC dX7_best_35 rfl ?_
        refine V.iload_n (pc := 36) 2 hC dX7_best_36 rfl ?_
        refine V.sts (st' := [.int (nI (nN m)), .int (nI (nN p)), .ref (b 20)]) (stc hh_m.1 (stc hh_p.1 (stk rfl))) ?_
        refine V.callV0 (pc := 37) (as := [.int (nI (nN p)), .int (nI (nN m))]) hC (c_X7_roomsBy μ ν (nN p) (nN m) hI (by have := hh_p.2; omega) (by have := hh_m.2; omega)) mu_X7_roomsBy ml_X7_107 (by decide) ⟨0, 7, TX7, 20, _, rfl, gm_0⟩ rfl (Nat.le_of_ble_eq_true rfl) dX7_best_37 ?_
        rintro _ ⟨f37_0, f37_1⟩ rfl
        show V X (wM k b μ (va_up (va_up ν 10 f37_0) 11 f37_1)) [(0, .ref (b 20)), (1, .int p), (2, .int m), (3, .int w)] [.int (roomsByS (μ 0) (nN p) (nN m))] 40
        refine V.istore (pc := 40) [(4, .int (roomsByS (μ 0) (nN p) (nN m))), (0, .ref (b 20)), (1, .int p), (2, .int m), (3, .int w)] hC dX7_best_40 (by decide) rfl ?_
        refine V.aload_n (pc := 42) 1 hC dX7_best_42 rfl ?_
        refine V.get (pc := 43) (v := .ref (b 0)) hC cf_X7 0 0 fl_X7_9 (by decide) gm_0 rfl dX7_best_43 ?_
        refine V.iconst (pc := 46) 0 hC dX7_best_46 (by decide) ?_
        refine V.iald (pc := 47) (f := μ 0) hC 1 0 gm_1 (nl 0) (by omega) (by decide) dX7_best_47 ?_
        refine V.iload_n (pc := 48) 3 hC dX7_best_48 rfl ?_
        refine V.iadd (pc := 49) hC dX7_best_49 ?_
        refine V.istore (pc := 50) [(5, .int ((μ 0 0) + m)), (4, .int (roomsByS (μ 0) (nN p) (nN m))), (0, .ref (b 20)), (1, .int p), (2, .int m), (3, .int w)] hC dX7_best_50 (by decide) rfl ?_
        refine V.iconst (pc := 52) (-1) hC dX7_best_52 (by decide) ?_
        refine V.istore (pc := 53) [(6, .int (-1)), (5, .int ((μ 0 0) + m)), (4, .int (roomsByS (μ 0) (nN p) (nN m))), (0, .ref (b 20)), (1, .int p), (2, .int m), (3, .int w)] hC dX7_best_53 (by decide) rfl ?_
        refine V.iconst (pc := 55) 0 hC dX7_best_55 (by decide) ?_
        refine V.istore (pc := 56) [(7, .int 0), (6, .int (-1)), (5, .int ((μ 0 0) + m)), (4, .int (roomsByS (μ 0) (nN p) (nN m))), (0, .ref (b 20)), (1, .int p), (2, .int m), (3, .int w)] hC dX7_best_56 (by decide) rfl ?_
        have loop_58 : ∀ (n : Nat) (i : Nat) (bs : Int32) (f10 f11 : Rw), i + n = nN (μ 0 3) → bs = -1 ∨ (bs = nI (nN bs) ∧ nN bs < nN (μ 0 3)) → bstS (μ 0) (nN p) m = run (bstF (μ 0) (roomsByS (μ 0) (nN p) (nN m)) (μ 0 0 + m)) n i bs → V X (wM k b μ (va_up (va_up ν 10 f10) 11 f11)) [(5, .int ((μ 0 0) + m)), (4, .int (roomsByS (μ 0) (nN p) (nN m))), (0, .ref (b 20)), (3, .int w), (6, .int bs), (7, .int (nI i))] [] 58 := by
          intro n
          induction n with
          | zero =>
            intro i bs f10 f11 hi hb hv
            refine V.iload (pc := 58) 5 hC dX7_best_58 rfl ?_
            refine V.aload_n (pc := 60) 2 hC dX7_best_60 rfl ?_
            refine V.get (pc := 61) (v := .ref (b 0)) hC cf_X7 0 0 fl_X7_9 (by decide) gm_0 rfl dX7_best_61 ?_
            refine V.iconst (pc := 64) 3 hC dX7_best_64 (by decide) ?_
            refine V.iald (pc := 65) (f := μ 0) hC 1 3 gm_1 (nl 3) (by omega) (by decide) dX7_best_65 ?_
            refine V.icmp_ge (pc := 66) 131 hC dX7_best_66 (by decide) (fun c_66 => ?_) (fun c_66 => ?_)
            · have nc_66 : nN (μ 0 3) ≤ i := (nle hI.mn rfl (by omega) (by omega)).mp c_66
              refine V.iload_n (pc := 131) 3 hC dX7_best_131 rfl ?_
              refine V.if_ne (pc := 132) 140 hC dX7_best_132 (by decide) (fun c_132 => ?_) (fun c_132 => ?_)
              · have hbs := bst_n (n := m) hI hh_p.2
                rw [show bstS (μ 0) (nN p) m = bs from hv] at hbs
                refine V.aload_n (pc := 140) 2 hC dX7_best_140 rfl ?_
                refine V.iload (pc := 141) 4 hC dX7_best_141 rfl ?_
                refine V.iload (pc := 143) 0 hC dX7_best_143 rfl ?_
                refine V.sts (st' := [.int ((μ 0 0) + m), .int (nI (nN bs)), .ref (b 20)]) (stk (stc hbs.1 (stk rfl))) ?_
                refine V.callV0 (pc := 145) (as := [.int (nI (nN bs)), .int ((μ 0 0) + m)]) hC (c_X7_worthOf μ (va_up (va_up ν 10 f10) 11 f11) (nN bs) ((μ 0 0) + m) hI hbs.2) mu_X7_worthOf ml_X7_78 (by decide) ⟨0, 7, TX7, 20, _, rfl, gm_0⟩ rfl (Nat.le_of_ble_eq_true rfl) dX7_best_145 ?_
                rintro _ ⟨f145_0, f145_1⟩ rfl
                show V X (wM k b μ (va_up (va_up ν 10 f145_0) 11 f145_1)) [(5, .int ((μ 0 0) + m)), (4, .int (roomsByS (μ 0) (nN p) (nN m))), (0, .ref (b 20)), (3, .int w), (6, .int bs), (7, .int (nI i))] [.int (worthS (μ 0) (nN bs) ((μ 0 0) + m))] 148
                exact hR (worthS (μ 0) (nN bs) ((μ 0 0) + m)) (μ, f145_0, f145_1) _ _ dX7_best_148 rfl (opr (by rw [op_best, if_neg (not_not_intro c_5), if_neg (not_not_intro c_15), if_neg (not_not_intro c_24), show bstS (μ 0) (nN p) m = bs from hv, if_neg c_132]))
              · refine V.iload (pc := 135) 4 hC dX7_best_135 rfl ?_
                refine V.goto (pc := 137) 148 hC dX7_best_137 (by decide) ?_
                exact hR bs (μ, f10, f11) _ _ dX7_best_148 rfl (opr (by rw [op_best, if_neg (not_not_intro c_5), if_neg (not_not_intro c_15), if_neg (not_not_intro c_24), show bstS (μ 0) (nN p) m = bs from hv, if_pos c_132]))
            · have nc_66 : ¬ (nN (μ 0 3) ≤ i) := fun z => c_66 ((nle hI.mn rfl (by omega) (by omega)).mpr z)
              exfalso; omega
          | succ n ih =>
            intro i bs f10 f11 hi hb hv
            refine V.iload (pc := 58) 5 hC dX7_best_58 rfl ?_
            refine V.aload_n (pc := 60) 2 hC dX7_best_60 rfl ?_
            refine V.get (pc := 61) (v := .ref (b 0)) hC cf_X7 0 0 fl_X7_9 (by decide) gm_0 rfl dX7_best_61 ?_
            refine V.iconst (pc := 64) 3 hC dX7_best_64 (by decide) ?_
            refine V.iald (pc := 65) (f := μ 0) hC 1 3 gm_1 (nl 3) (by omega) (by decide) dX7_best_65 ?_
            refine V.icmp_ge (pc := 66) 131 hC dX7_best_66 (by decide) (fun c_66 => ?_) (fun c_66 => ?_)
            · have nc_66 : nN (μ 0 3) ≤ i := (nle hI.mn rfl (by omega) (by omega)).mp c_66
              exfalso; omega
            · have nc_66 : ¬ (nN (μ 0 3) ≤ i) := fun z => c_66 ((nle hI.mn rfl (by omega) (by omega)).mpr z)
              refine V.iload (pc := 69) 1 hC dX7_best_69 rfl ?_
              refine V.iload (pc := 71) 5 hC dX7_best_71 rfl ?_
              refine V.ishr (pc := 73) hC dX7_best_73 ?_
              refine V.iconst (pc := 74) 1 hC dX7_best_74 (by decide) ?_
              refine V.iand (pc := 75) hC dX7_best_75 ?_
              refine V.iconst (pc := 76) 1 hC dX7_best_76 (by decide) ?_
              refine V.icmp_ne (pc := 77) 108 hC dX7_best_77 (by decide) (fun c_77 => ?_) (fun c_77 => ?_)
              · refine V.iconst (pc := 108) 0 hC dX7_best_108 (by decide) ?_
                refine V.istore (pc := 109) [(8, .int 0), (5, .int ((μ 0 0) + m)), (4, .int (roomsByS (μ 0) (nN p) (nN m))), (0, .ref (b 20)), (3, .int w), (6, .int bs), (7, .int (nI i))] hC dX7_best_109 (by decide) rfl ?_
                refine V.iload (pc := 111) 0 hC dX7_best_111 rfl ?_
                refine V.if_eq (pc := 113) 121 hC dX7_best_113 (by decide) (fun c_113 => ?_) (fun c_113 => ?_)
                · have nc_113 : 0 = 0 := (neq (nl 0) (nl 0) (by omega) (by omega)).mp c_113
                  refine V.iload (pc := 121) 5 hC dX7_best_121 rfl ?_
                  refine V.istore (pc := 123) [(6, .int bs), (8, .int 0), (5, .int ((μ 0 0) + m)), (4, .int (roomsByS (μ 0) (nN p) (nN m))), (0, .ref (b 20)), (3, .int w), (7, .int (nI i))] hC dX7_best_123 (by decide) rfl ?_
                  refine V.iinc (pc := 125) 6 (nI (i + 1)) [(7, .int (nI (i + 1))), (6, .int bs), (8, .int 0), (5, .int ((μ 0 0) + m)), (4, .int (roomsByS (μ 0) (nN p) (nN m))), (0, .ref (b 20)), (3, .int w)] hC dX7_best_125 rfl (ncast (nadd rfl (nl 1)) (by omega)) (by decide) rfl ?_
                  refine V.goto (pc := 128) 58 hC dX7_best_128 (by decide) ?_
                  exact V.sub [3, 4, 5, 6, 1, 0] rfl (ih (i + 1) bs f10 f11 (by omega) hb (run_next hv (by show (if bitS (roomsByS (μ 0) (nN p) (nN m)) (nI i) = 1 ∧ (bs < 0 ∨ worthS (μ 0) (nN bs) (μ 0 0 + m) < worthS (μ 0) i (μ 0 0 + m)) then _ else _) = _; rw [if_neg (show ¬ (bitS (roomsByS (μ 0) (nN p) (nN m)) (nI i) = 1 ∧ (bs < 0 ∨ worthS (μ 0) (nN bs) (μ 0 0 + m) < worthS (μ 0) i (μ 0 0 + m))) from fun q => c_77 q.1)])))
                · have nc_113 : ¬ (0 = 0) := fun z => c_113 ((neq (nl 0) (nl 0) (by omega) (by omega)).mpr z)
                  exact absurd c_113 (by decide)
              · refine V.iload (pc := 80) 4 hC dX7_best_80 rfl ?_
                refine V.if_lt (pc := 82) 104 hC dX7_best_82 (by decide) (fun c_82 => ?_) (fun c_82 => ?_)
                · refine V.iconst (pc := 104) 1 hC dX7_best_104 (by decide) ?_
                  refine V.goto (pc := 105) 109 hC dX7_best_105 (by decide) ?_
                  refine V.istore (pc := 109) [(8, .int 1), (5, .int ((μ 0 0) + m)), (4, .int (roomsByS (μ 0) (nN p) (nN m))), (0, .ref (b 20)), (3, .int w), (6, .int bs), (7, .int (nI i))] hC dX7_best_109 (by decide) rfl ?_
                  refine V.iload (pc := 111) 0 hC dX7_best_111 rfl ?_
                  refine V.if_eq (pc := 113) 121 hC dX7_best_113 (by decide) (fun c_113 => ?_) (fun c_113 => ?_)
                  · have nc_113 : 1 = 0 := (neq (nl 1) (nl 0) (by omega) (by omega)).mp c_113
                    exact absurd c_113 (by decide)
                  · have nc_113 : ¬ (1 = 0) := fun z => c_113 ((neq (nl 1) (nl 0) (by omega) (by omega)).mpr z)
                    refine V.iload (pc := 116) 6 hC dX7_best_116 rfl ?_
                    refine V.goto (pc := 118) 123 hC dX7_best_118 (by decide) ?_
                    refine V.istore (pc := 123) [(6, .int (nI i)), (8, .int 1), (5, .int ((μ 0 0) + m)), (4, .int (roomsByS (μ 0) (nN p) (nN m))), (0, .ref (b 20)), (3, .int w), (7, .int (nI i))] hC dX7_best_123 (by decide) rfl ?_
                    refine V.iinc (pc := 125) 6 (nI (i + 1)) [(7, .int (nI (i + 1))), (6, .int (nI i)), (8, .int 1), (5, .int ((μ 0 0) + m)), (4, .int (roomsByS (μ 0) (nN p) (nN m))), (0, .ref (b 20)), (3, .int w)] hC dX7_best_125 rfl (ncast (nadd rfl (nl 1)) (by omega)) (by decide) rfl ?_
                    refine V.goto (pc := 128) 58 hC dX7_best_128 (by decide) ?_
                    exact V.sub [3, 4, 5, 6, 1, 0] rfl (ih (i + 1) (nI i) f10 f11 (by omega) (Or.inr ⟨by rw [nN_nI (by omega)], by rw [nN_nI (by omega)]; omega⟩) (run_next hv (by show (if bitS (roomsByS (μ 0) (nN p) (nN m)) (nI i) = 1 ∧ (bs < 0 ∨ worthS (μ 0) (nN bs) (μ 0 0 + m) < worthS (μ 0) i (μ 0 0 + m)) then _ else _) = _; rw [if_pos (show bitS (roomsByS (μ 0) (nN p) (nN m)) (nI i) = 1 ∧ (bs < 0 ∨ worthS (μ 0) (nN bs) (μ 0 0 + m) < worthS (μ 0) i (μ 0 0 + m)) from ⟨c_77, Or.inl c_82⟩)])))
                · refine V.aload_n (pc := 85) 2 hC dX7_best_85 rfl ?_
                  refine V.iload (pc := 86) 5 hC dX7_best_86 rfl ?_
                  refine V.iload (pc := 88) 0 hC dX7_best_88 rfl ?_
                  refine V.callV0 (pc := 90) (as := [.int (nI i), .int ((μ 0 0) + m)]) hC (c_X7_worthOf μ (va_up (va_up ν 10 f10) 11 f11) i ((μ 0 0) + m) hI (by omega)) mu_X7_worthOf ml_X7_78 (by decide) ⟨0, 7, TX7, 20, _, rfl, gm_0⟩ rfl (Nat.le_of_ble_eq_true rfl) dX7_best_90 ?_
                  rintro _ ⟨f90_0, f90_1⟩ rfl
                  show V X (wM k b μ (va_up (va_up ν 10 f90_0) 11 f90_1)) [(5, .int ((μ 0 0) + m)), (4, .int (roomsByS (μ 0) (nN p) (nN m))), (0, .ref (b 20)), (3, .int w), (6, .int bs), (7, .int (nI i))] [.int (worthS (μ 0) i ((μ 0 0) + m))] 93
                  have hbs : bs = nI (nN bs) ∧ nN bs < nN (μ 0 3) := hb.elim (fun q => absurd (show bs < 0 by rw [q]; decide) c_82) (fun q => q)
                  refine V.aload_n (pc := 93) 2 hC dX7_best_93 rfl ?_
                  refine V.iload (pc := 94) 4 hC dX7_best_94 rfl ?_
                  refine V.iload (pc := 96) 0 hC dX7_best_96 rfl ?_
                  refine V.sts (st' := [.int ((μ 0 0) + m), .int (nI (nN bs)), .ref (b 20), .int (worthS (μ 0) i ((μ 0 0) + m))]) (stk (stc hbs.1 (stk (stk rfl)))) ?_
                  refine V.callV0 (pc := 98) (as := [.int (nI (nN bs)), .int ((μ 0 0) + m)]) hC (c_X7_worthOf μ (va_up (va_up ν 10 f90_0) 11 f90_1) (nN bs) ((μ 0 0) + m) hI hbs.2) mu_X7_worthOf ml_X7_78 (by decide) ⟨0, 7, TX7, 20, _, rfl, gm_0⟩ rfl (Nat.le_of_ble_eq_true rfl) dX7_best_98 ?_
                  rintro _ ⟨f98_0, f98_1⟩ rfl
                  show V X (wM k b μ (va_up (va_up ν 10 f98_0) 11 f98_1)) [(5, .int ((μ 0 0) + m)), (4, .int (roomsByS (μ 0) (nN p) (nN m))), (0, .ref (b 20)), (3, .int w), (6, .int bs), (7, .int (nI i))] [.int (worthS (μ 0) (nN bs) ((μ 0 0) + m)), .int (worthS (μ 0) i ((μ 0 0) + m))] 101
                  refine V.icmp_le (pc := 101) 108 hC dX7_best_101 (by decide) (fun c_101 => ?_) (fun c_101 => ?_)
                  · refine V.iconst (pc := 108) 0 hC dX7_best_108 (by decide) ?_
                    refine V.istore (pc := 109) [(8, .int 0), (5, .int ((μ 0 0) + m)), (4, .int (roomsByS (μ 0) (nN p) (nN m))), (0, .ref (b 20)), (3, .int w), (6, .int bs), (7, .int (nI i))] hC dX7_best_109 (by decide) rfl ?_
                    refine V.iload (pc := 111) 0 hC dX7_best_111 rfl ?_
                    refine V.if_eq (pc := 113) 121 hC dX7_best_113 (by decide) (fun c_113 => ?_) (fun c_113 => ?_)
                    · have nc_113 : 0 = 0 := (neq (nl 0) (nl 0) (by omega) (by omega)).mp c_113
                      refine V.iload (pc := 121) 5 hC dX7_best_121 rfl ?_
                      refine V.istore (pc := 123) [(6, .int bs), (8, .int 0), (5, .int ((μ 0 0) + m)), (4, .int (roomsByS (μ 0) (nN p) (nN m))), (0, .ref (b 20)), (3, .int w), (7, .int (nI i))] hC dX7_best_123 (by decide) rfl ?_
                      refine V.iinc (pc := 125) 6 (nI (i + 1)) [(7, .int (nI (i + 1))), (6, .int bs), (8, .int 0), (5, .int ((μ 0 0) + m)), (4, .int (roomsByS (μ 0) (nN p) (nN m))), (0, .ref (b 20)), (3, .int w)] hC dX7_best_125 rfl (ncast (nadd rfl (nl 1)) (by omega)) (by decide) rfl ?_
                      refine V.goto (pc := 128) 58 hC dX7_best_128 (by decide) ?_
                      exact V.sub [3, 4, 5, 6, 1, 0] rfl (ih (i + 1) bs f98_0 f98_1 (by omega) hb (run_next hv (by show (if bitS (roomsByS (μ 0) (nN p) (nN m)) (nI i) = 1 ∧ (bs < 0 ∨ worthS (μ 0) (nN bs) (μ 0 0 + m) < worthS (μ 0) i (μ 0 0 + m)) then _ else _) = _; rw [if_neg (show ¬ (bitS (roomsByS (μ 0) (nN p) (nN m)) (nI i) = 1 ∧ (bs < 0 ∨ worthS (μ 0) (nN bs) (μ 0 0 + m) < worthS (μ 0) i (μ 0 0 + m))) from fun q => q.2.elim c_82 (i_ge c_101))])))
                    · have nc_113 : ¬ (0 = 0) := fun z => c_113 ((neq (nl 0) (nl 0) (by omega) (by omega)).mpr z)
                      exact absurd c_113 (by decide)
                  · refine V.iconst (pc := 104) 1 hC dX7_best_104 (by decide) ?_
                    refine V.goto (pc := 105) 109 hC dX7_best_105 (by decide) ?_
                    refine V.istore (pc := 109) [(8, .int 1), (5, .int ((μ 0 0) + m)), (4, .int (roomsByS (μ 0) (nN p) (nN m))), (0, .ref (b 20)), (3, .int w), (6, .int bs), (7, .int (nI i))] hC dX7_best_109 (by decide) rfl ?_
                    refine V.iload (pc := 111) 0 hC dX7_best_111 rfl ?_
                    refine V.if_eq (pc := 113) 121 hC dX7_best_113 (by decide) (fun c_113 => ?_) (fun c_113 => ?_)
                    · have nc_113 : 1 = 0 := (neq (nl 1) (nl 0) (by omega) (by omega)).mp c_113
                      exact absurd c_113 (by decide)
                    · have nc_113 : ¬ (1 = 0) := fun z => c_113 ((neq (nl 1) (nl 0) (by omega) (by omega)).mpr z)
                      refine V.iload (pc := 116) 6 hC dX7_best_116 rfl ?_
                      refine V.goto (pc := 118) 123 hC dX7_best_118 (by decide) ?_
                      refine V.istore (pc := 123) [(6, .int (nI i)), (8, .int 1), (5, .int ((μ 0 0) + m)), (4, .int (roomsByS (μ 0) (nN p) (nN m))), (0, .ref (b 20)), (3, .int w), (7, .int (nI i))] hC dX7_best_123 (by decide) rfl ?_
                      refine V.iinc (pc := 125) 6 (nI (i + 1)) [(7, .int (nI (i + 1))), (6, .int (nI i)), (8, .int 1), (5, .int ((μ 0 0) + m)), (4, .int (roomsByS (μ 0) (nN p) (nN m))), (0, .ref (b 20)), (3, .int w)] hC dX7_best_125 rfl (ncast (nadd rfl (nl 1)) (by omega)) (by decide) rfl ?_
                      refine V.goto (pc := 128) 58 hC dX7_best_128 (by decide) ?_
                      exact V.sub [3, 4, 5, 6, 1, 0] rfl (ih (i + 1) (nI i) f98_0 f98_1 (by omega) (Or.inr ⟨by rw [nN_nI (by omega)], by rw [nN_nI (by omega)]; omega⟩) (run_next hv (by show (if bitS (roomsByS (μ 0) (nN p) (nN m)) (nI i) = 1 ∧ (bs < 0 ∨ worthS (μ 0) (nN bs) (μ 0 0 + m) < worthS (μ 0) i (μ 0 0 + m)) then _ else _) = _; rw [if_pos (show bitS (roomsByS (μ 0) (nN p) (nN m)) (nI i) = 1 ∧ (bs < 0 ∨ worthS (μ 0) (nN bs) (μ 0 0 + m) < worthS (μ 0) i (μ 0 0 + m)) from ⟨c_77, Or.inr (i_nle c_101)⟩)])))
        exact V.sub [2, 3, 4, 7, 1, 0] rfl (loop_58 (nN (μ 0 3)) 0 (-1) f37_0 f37_1 (by omega) (Or.inl rfl) rfl)
      · refine V.aload_n (pc := 27) 0 hC dX7_best_27 rfl ?_
        refine V.ldc (pc := 28) (v := (-1000000001)) hC cn_X7_55 dX7_best_28 ?_
        refine V.callV0 (pc := 30) (as := [.int (-1000000001)]) hC (c_X7_error μ ν 1 (-1000000001) (by omega) (by decide)) mu_X7_error ml_X7_56 (by decide) ⟨0, 7, TX7, 20, _, rfl, gm_0⟩ rfl (Nat.le_of_ble_eq_true rfl) dX7_best_30 ?_
        rintro _ _ rfl
        show V X (wM k b (va_up μ 3 (upd (μ 3) 1 (μ 3 1 + 1))) ν) [(0, .ref (b 20)), (1, .int p), (2, .int m), (3, .int w)] [.int (-1000000001)] 33
        exact hR (-1000000001) ((va_up μ 3 (upd (μ 3) 1 (μ 3 1 + 1))), ν 10, ν 11) _ _ dX7_best_33 rfl (opr (by simp only [op_best, c_5, c_15, c_24, inS, hndS, homS, prsS, shtS, if_true, if_false, not_true_eq_false, not_false_eq_true, true_and, and_true, false_and, and_false, true_or, or_true, or_false, false_or, er_1, er_2, er_3, er_4, er_5, er_6] <;> rfl))
set_option maxHeartbeats 4000000 in
set_option maxRecDepth 100000 in
theorem c_X7_odds {l : Launch} {D : va_G} {k : Nat → ClassId} {g b : Nat → Nat} (μ ν : St) (p h w : Int32) (hI : Inv (μ 0)) : Ct l D k g yX7_odds cX7_odds 8 (some .int) 5 120 [.ref (b 20), .int p, .int h, .int w] (S := St × Rw × Rw) (wM k b μ ν) (fun uu => wM k b uu.1 (va_up (va_up ν 10 uu.2.1) 11 uu.2.2)) (fun vv uu => vv = some (.int ((op_odds p h w μ).1)) ∧ uu.1 = (op_odds p h w μ).2) := by
  refine Ct.ofI RX7 rfl (by decide +kernel) (Nat.le_of_ble_eq_true rfl) (fun X hC hR => ?_)
  have hb4 := hI.hb; have hb8 := hI.mb; have hb6 := hI.pb; have hbm := hI.ob0; have hbt := hI.bb; have hbw := hI.wb
  show V X (wM k b μ ν) [(0, .ref (b 20)), (1, .int p), (2, .int h), (3, .int w)] [] 0
  refine V.aload_n (pc := 0) 0 hC dX7_odds_0 rfl ?_
  refine V.iload_n (pc := 1) 1 hC dX7_odds_1 rfl ?_
  refine V.callV0 (pc := 2) (as := [.int p]) hC (c_X7_isPerson μ ν p ) mu_X7_isPerson ml_X7_104 (by decide) ⟨0, 7, TX7, 20, _, rfl, gm_0⟩ rfl (Nat.le_of_ble_eq_true rfl) dX7_odds_2 ?_
  rintro _ _ rfl
  show V X (wM k b μ ν) [(0, .ref (b 20)), (1, .int p), (2, .int h), (3, .int w)] [.int (bI (inS p 0 (μ 0 4 - 1)))] 5
  refine V.if_eq_b (P := inS p 0 (μ 0 4 - 1)) (pc := 5) 25 hC dX7_odds_5 (by decide) (fun c_5 => ?_) (fun c_5 => ?_)
  · refine V.aload_n (pc := 25) 0 hC dX7_odds_25 rfl ?_
    refine V.ldc (pc := 26) (v := (-1000000001)) hC cn_X7_55 dX7_odds_26 ?_
    refine V.callV0 (pc := 28) (as := [.int (-1000000001)]) hC (c_X7_error μ ν 1 (-1000000001) (by omega) (by decide)) mu_X7_error ml_X7_56 (by decide) ⟨0, 7, TX7, 20, _, rfl, gm_0⟩ rfl (Nat.le_of_ble_eq_true rfl) dX7_odds_28 ?_
    rintro _ _ rfl
    show V X (wM k b (va_up μ 3 (upd (μ 3) 1 (μ 3 1 + 1))) ν) [(0, .ref (b 20)), (1, .int p), (2, .int h), (3, .int w)] [.int (-1000000001)] 31
    exact hR (-1000000001) ((va_up μ 3 (upd (μ 3) 1 (μ 3 1 + 1))), ν 10, ν 11) _ _ dX7_odds_31 rfl (opr (by simp only [op_odds, c_5, inS, hndS, homS, prsS, shtS, if_true, if_false, not_true_eq_false, not_false_eq_true, true_and, and_true, false_and, and_false, true_or, or_true, or_false, false_or, er_1, er_2, er_3, er_4, er_5, er_6] <;> rfl))
  · have hh_p := inS_n c_5 hI.pn (by omega)
    refine V.aload_n (pc := 8) 0 hC dX7_odds_8 rfl ?_
    refine V.iload_n (pc := 9) 2 hC dX7_odds_9 rfl ?_
    refine V.callV0 (pc := 10) (as := [.int h]) hC (c_X7_isHome μ ν h ) mu_X7_isHome ml_X7_75 (by decide) ⟨0, 7, TX7, 20, _, rfl, gm_0⟩ rfl (Nat.le_of_ble_eq_true rfl) dX7_odds_10 ?_
    rintro _ _ rfl
    show V X (wM k b μ ν) [(0, .ref (b 20)), (1, .int p), (2, .int h), (3, .int w)] [.int (bI (inS h 0 (μ 0 3 - 1)))] 13
    refine V.if_eq_b (P := inS h 0 (μ 0 3 - 1)) (pc := 13) 25 hC dX7_odds_13 (by decide) (fun c_13 => ?_) (fun c_13 => ?_)
    · refine V.aload_n (pc := 25) 0 hC dX7_odds_25 rfl ?_
      refine V.ldc (pc := 26) (v := (-1000000001)) hC cn_X7_55 dX7_odds_26 ?_
      refine V.callV0 (pc := 28) (as := [.int (-1000000001)]) hC (c_X7_error μ ν 1 (-1000000001) (by omega) (by decide)) mu_X7_error ml_X7_56 (by decide) ⟨0, 7, TX7, 20, _, rfl, gm_0⟩ rfl (Nat.le_of_ble_eq_true rfl) dX7_odds_28 ?_
      rintro _ _ rfl
      show V X (wM k b (va_up μ 3 (upd (μ 3) 1 (μ 3 1 + 1))) ν) [(0, .ref (b 20)), (1, .int p), (2, .int h), (3, .int w)] [.int (-1000000001)] 31
      exact hR (-1000000001) ((va_up μ 3 (upd (μ 3) 1 (μ 3 1 + 1))), ν 10, ν 11) _ _ dX7_odds_31 rfl (opr (by simp only [op_odds, c_5, c_13, inS, hndS, homS, prsS, shtS, if_true, if_false, not_true_eq_false, not_false_eq_true, true_and, and_true, false_and, and_false, true_or, or_true, or_false, false_or, er_1, er_2, er_3, er_4, er_5, er_6] <;> rfl))
    · have hh_h := inS_n c_13 hI.mn (by omega)
      refine V.iload_n (pc := 16) 3 hC dX7_odds_16 rfl ?_
      refine V.iconst (pc := 17) 0 hC dX7_odds_17 (by decide) ?_
      refine V.iconst (pc := 18) 1 hC dX7_odds_18 (by decide) ?_
      refine V.callS0 (pc := 19) (as := [.int w, .int 0, .int 1]) hC (c_X7_in w 0 1 ) ms_X7_in ml_X7_47 (by decide) rfl (Nat.le_of_ble_eq_true rfl) dX7_odds_19 ?_
      rintro _ _ rfl
      show V X (wM k b μ ν) [(0, .ref (b 20)), (1, .int p), (2, .int h), (3, .int w)] [.int (bI (inS w 0 1))] 22
      refine V.if_ne_b (P := inS w 0 1) (pc := 22) 32 hC dX7_odds_22 (by decide) (fun c_22 => ?_) (fun c_22 => ?_)
      · refine V.aload_n (pc := 32) 0 hC dX7_odds_32 rfl ?_
        refine V.iload_n (pc := 33) 1 hC dX7_odds_33 rfl ?_
        refine V.iconst (pc := 34) 2 hC dX7_odds_34 (by decide) ?_
        refine V.sts (st' := [.int (nI 2), .int (nI (nN p)), .ref (b 20)]) (stc (nl 2) (stc hh_p.1 (stk rfl))) ?_
        refine V.callV0 (pc := 35) (as := [.int (nI (nN p)), .int (nI 2)]) hC (c_X7_of μ ν (nN p) 2 (by have := hh_p.2; omega) (by omega)) mu_X7_of ml_X7_72 (by decide) ⟨0, 7, TX7, 20, _, rfl, gm_0⟩ rfl (Nat.le_of_ble_eq_true rfl) dX7_odds_35 ?_
        rintro _ _ rfl
        show V X (wM k b μ ν) [(0, .ref (b 20)), (1, .int p), (2, .int h), (3, .int w)] [.int (μ 0 (31 + 3 * (nN p) + 2))] 38
        refine V.eqi (y := μ 0 (33 + 3 * nN p)) (congrArg (μ 0) (by omega)) ?_
        refine V.istore (pc := 38) [(4, .int (μ 0 (33 + 3 * nN p))), (0, .ref (b 20)), (1, .int p), (2, .int h), (3, .int w)] hC dX7_odds_38 (by decide) rfl ?_
        refine V.iconst (pc := 40) 0 hC dX7_odds_40 (by decide) ?_
        refine V.istore (pc := 41) [(5, .int 0), (4, .int (μ 0 (33 + 3 * nN p))), (0, .ref (b 20)), (1, .int p), (2, .int h), (3, .int w)] hC dX7_odds_41 (by decide) rfl ?_
        refine V.iconst (pc := 43) 0 hC dX7_odds_43 (by decide) ?_
        refine V.istore (pc := 44) [(6, .int 0), (5, .int 0), (4, .int (μ 0 (33 + 3 * nN p))), (0, .ref (b 20)), (1, .int p), (2, .int h), (3, .int w)] hC dX7_odds_44 (by decide) rfl ?_
        have loop_46 : ∀ (n : Nat) (i : Nat) (r : Int32) (f10 f11 : Rw), i + n = 60 → oddS (μ 0) (nN p) h = run (fun i s => s + (if μ 0 (33 + 3 * nN p) = h ∨ getsS (μ 0) (nN p) (nN (μ 0 (33 + 3 * nN p))) (nN h) (μ 0 0 + nI i) then 1 else 0)) n i r → V X (wM k b μ (va_up (va_up ν 10 f10) 11 f11)) [(4, .int (μ 0 (33 + 3 * nN p))), (0, .ref (b 20)), (1, .int p), (2, .int h), (3, .int w), (5, .int r), (6, .int (nI i))] [] 46 := by
          intro n
          induction n with
          | zero =>
            intro i r f10 f11 hi hv
            refine V.iload (pc := 46) 6 hC dX7_odds_46 rfl ?_
            refine V.bipush (pc := 48) 60 hC dX7_odds_48 (by decide) ?_
            refine V.icmp_ge (pc := 50) 95 hC dX7_odds_50 (by decide) (fun c_50 => ?_) (fun c_50 => ?_)
            · have nc_50 : 60 ≤ i := (nle (nl 60) rfl (by omega) (by omega)).mp c_50
              have hod := odd_n (ρ := μ 0) (p := nN p) (h := h)
              refine V.bipush (pc := 95) 60 hC dX7_odds_95 (by decide) ?_
              refine V.istore (pc := 97) [(6, .int 60), (4, .int (μ 0 (33 + 3 * nN p))), (0, .ref (b 20)), (1, .int p), (2, .int h), (3, .int w), (5, .int r)] hC dX7_odds_97 (by decide) rfl ?_
              refine V.bipush (pc := 99) 60 hC dX7_odds_99 (by decide) ?_
              refine V.istore (pc := 101) [(7, .int 60), (6, .int 60), (4, .int (μ 0 (33 + 3 * nN p))), (0, .ref (b 20)), (1, .int p), (2, .int h), (3, .int w), (5, .int r)] hC dX7_odds_101 (by decide) rfl ?_
              obtain rfl : r = nI (nN (oddS (μ 0) (nN p) h)) := (show r = oddS (μ 0) (nN p) h from hv.symm).trans hod.1
              have loop_103 : ∀ (n : Nat) (A B d : Nat), d = n + 1 ∧ d ≤ 60 → A ≤ 60 → B ≤ 60 → redM 60 (nN (oddS (μ 0) (nN p) h)) 60 = redM d A B → V X (wM k b μ (va_up (va_up ν 10 f10) 11 f11)) [(0, .ref (b 20)), (3, .int w), (5, .int (nI A)), (6, .int (nI B)), (7, .int (nI d))] [] 103 := by
                intro n
                induction n with
                | zero =>
                  intro A B d hd hA hB hg
                  refine V.iload (pc := 103) 4 hC dX7_odds_103 rfl ?_
                  refine V.iconst (pc := 105) 1 hC dX7_odds_105 (by decide) ?_
                  refine V.icmp_le (pc := 106) 145 hC dX7_odds_106 (by decide) (fun c_106 => ?_) (fun c_106 => ?_)
                  · have nc_106 : d ≤ 1 := (nle rfl (nl 1) (by omega) (by omega)).mp c_106
                    refine V.iload_n (pc := 145) 1 hC dX7_odds_145 rfl ?_
                    refine V.if_ne (pc := 146) 154 hC dX7_odds_146 (by decide) (fun c_146 => ?_) (fun c_146 => ?_)
                    · refine V.iload (pc := 154) 3 hC dX7_odds_154 rfl ?_
                      exact hR (nI B) (μ, f10, f11) _ _ dX7_odds_156 rfl (opr (by rw [op_odds, if_neg (not_not_intro c_5), if_neg (not_not_intro c_13), if_neg (not_not_intro c_22), if_neg c_146]; have e := (red_v hod.2).symm.trans (hg.trans (show redM d A B = (A, B) by rw [show d = 1 by omega]; exact redM_1)); rw [show 60 / Nat.gcd (nN (oddS (μ 0) (nN p) h)) 60 = B from congrArg Prod.snd e]))
                    · refine V.iload (pc := 149) 2 hC dX7_odds_149 rfl ?_
                      refine V.goto (pc := 151) 156 hC dX7_odds_151 (by decide) ?_
                      exact hR (nI A) (μ, f10, f11) _ _ dX7_odds_156 rfl (opr (by rw [op_odds, if_neg (not_not_intro c_5), if_neg (not_not_intro c_13), if_neg (not_not_intro c_22), if_pos c_146]; have e := (red_v hod.2).symm.trans (hg.trans (show redM d A B = (A, B) by rw [show d = 1 by omega]; exact redM_1)); rw [show nN (oddS (μ 0) (nN p) h) / Nat.gcd (nN (oddS (μ 0) (nN p) h)) 60 = A from congrArg Prod.fst e]))
                  · have nc_106 : ¬ (d ≤ 1) := fun z => c_106 ((nle rfl (nl 1) (by omega) (by omega)).mpr z)
                    exfalso; omega
                | succ n ih =>
                  intro A B d hd hA hB hg
                  refine V.iload (pc := 103) 4 hC dX7_odds_103 rfl ?_
                  refine V.iconst (pc := 105) 1 hC dX7_odds_105 (by decide) ?_
                  refine V.icmp_le (pc := 106) 145 hC dX7_odds_106 (by decide) (fun c_106 => ?_) (fun c_106 => ?_)
                  · have nc_106 : d ≤ 1 := (nle rfl (nl 1) (by omega) (by omega)).mp c_106
                    exfalso; omega
                  · have nc_106 : ¬ (d ≤ 1) := fun z => c_106 ((nle rfl (nl 1) (by omega) (by omega)).mpr z)
                    refine V.iload (pc := 109) 2 hC dX7_odds_109 rfl ?_
                    refine V.iload (pc := 111) 4 hC dX7_odds_111 rfl ?_
                    refine V.irem (pc := 113) hC dX7_odds_113 (nI_ne0 (by omega) (by omega)) ?_
                    refine V.eqi (y := nI (A % d)) (irm_n rfl rfl (by omega) (by omega) (by omega)) ?_
                    refine V.if_ne (pc := 114) 139 hC dX7_odds_114 (by decide) (fun c_114 => ?_) (fun c_114 => ?_)
                    · refine V.iinc (pc := 139) 4 (nI (d - 1)) [(7, .int (nI (d - 1))), (0, .ref (b 20)), (3, .int w), (5, .int (nI A)), (6, .int (nI B))] hC dX7_odds_139 rfl (m1_n (by omega)) (by decide) rfl ?_
                      refine V.goto (pc := 142) 103 hC dX7_odds_142 (by decide) ?_
                      have q114 : ¬ A % d = 0 := fun q => c_114 (by rw [q]; rfl)
                      exact V.sub [1, 2, 3, 4, 0] rfl (ih A B (d - 1) (by omega) hA hB (hg.trans ((redM_s (by omega)).trans (if_neg (show ¬ (A % d = 0 ∧ B % d = 0) from fun q => q114 q.1)))))
                    · have q114 : A % d = 0 := (nI_eq (a := A % d) (b := 0) (by have := Nat.mod_le A d; omega) (by omega)).mp c_114
                      refine V.iload (pc := 117) 3 hC dX7_odds_117 rfl ?_
                      refine V.iload (pc := 119) 4 hC dX7_odds_119 rfl ?_
                      refine V.irem (pc := 121) hC dX7_odds_121 (nI_ne0 (by omega) (by omega)) ?_
                      refine V.eqi (y := nI (B % d)) (irm_n rfl rfl (by omega) (by omega) (by omega)) ?_
                      refine V.if_ne (pc := 122) 139 hC dX7_odds_122 (by decide) (fun c_122 => ?_) (fun c_122 => ?_)
                      · refine V.iinc (pc := 139) 4 (nI (d - 1)) [(7, .int (nI (d - 1))), (0, .ref (b 20)), (3, .int w), (5, .int (nI A)), (6, .int (nI B))] hC dX7_odds_139 rfl (m1_n (by omega)) (by decide) rfl ?_
                        refine V.goto (pc := 142) 103 hC dX7_odds_142 (by decide) ?_
                        have q122 : ¬ B % d = 0 := fun q => c_122 (by rw [q]; rfl)
                        exact V.sub [1, 2, 3, 4, 0] rfl (ih A B (d - 1) (by omega) hA hB (hg.trans ((redM_s (by omega)).trans (if_neg (show ¬ (A % d = 0 ∧ B % d = 0) from fun q => q122 q.2)))))
                      · have q122 : B % d = 0 := (nI_eq (a := B % d) (b := 0) (by have := Nat.mod_le B d; omega) (by omega)).mp c_122
                        refine V.iload (pc := 125) 2 hC dX7_odds_125 rfl ?_
                        refine V.iload (pc := 127) 4 hC dX7_odds_127 rfl ?_
                        refine V.idiv (pc := 129) hC dX7_odds_129 (nI_ne0 (by omega) (by omega)) ?_
                        refine V.eqi (y := nI (A / d)) (ndiv rfl rfl (by omega) (by omega) (by omega)) ?_
                        refine V.istore (pc := 130) [(5, .int (nI (A / d))), (0, .ref (b 20)), (3, .int w), (6, .int (nI B)), (7, .int (nI d))] hC dX7_odds_130 (by decide) rfl ?_
                        refine V.iload (pc := 132) 3 hC dX7_odds_132 rfl ?_
                        refine V.iload (pc := 134) 4 hC dX7_odds_134 rfl ?_
                        refine V.idiv (pc := 136) hC dX7_odds_136 (nI_ne0 (by omega) (by omega)) ?_
                        refine V.eqi (y := nI (B / d)) (ndiv rfl rfl (by omega) (by omega) (by omega)) ?_
                        refine V.istore (pc := 137) [(6, .int (nI (B / d))), (5, .int (nI (A / d))), (0, .ref (b 20)), (3, .int w), (7, .int (nI d))] hC dX7_odds_137 (by decide) rfl ?_
                        refine V.iinc (pc := 139) 4 (nI (d - 1)) [(7, .int (nI (d - 1))), (6, .int (nI (B / d))), (5, .int (nI (A / d))), (0, .ref (b 20)), (3, .int w)] hC dX7_odds_139 rfl (m1_n (by omega)) (by decide) rfl ?_
                        refine V.goto (pc := 142) 103 hC dX7_odds_142 (by decide) ?_
                        exact V.sub [3, 4, 2, 1, 0] rfl (ih (A / d) (B / d) (d - 1) (by omega) (Nat.le_trans (Nat.div_le_self A d) hA) (Nat.le_trans (Nat.div_le_self B d) hB) (hg.trans ((redM_s (by omega)).trans (if_pos (show A % d = 0 ∧ B % d = 0 from ⟨q114, q122⟩)))))
              exact V.sub [3, 6, 7, 1, 0] rfl (loop_103 59 (nN (oddS (μ 0) (nN p) h)) 60 60 ⟨rfl, by omega⟩ hod.2 (by omega) rfl)
            · have nc_50 : ¬ (60 ≤ i) := fun z => c_50 ((nle (nl 60) rfl (by omega) (by omega)).mpr z)
              exfalso; omega
          | succ n ih =>
            intro i r f10 f11 hi hv
            refine V.iload (pc := 46) 6 hC dX7_odds_46 rfl ?_
            refine V.bipush (pc := 48) 60 hC dX7_odds_48 (by decide) ?_
            refine V.icmp_ge (pc := 50) 95 hC dX7_odds_50 (by decide) (fun c_50 => ?_) (fun c_50 => ?_)
            · have nc_50 : 60 ≤ i := (nle (nl 60) rfl (by omega) (by omega)).mp c_50
              exfalso; omega
            · have nc_50 : ¬ (60 ≤ i) := fun z => c_50 ((nle (nl 60) rfl (by omega) (by omega)).mpr z)
              refine V.iload (pc := 53) 5 hC dX7_odds_53 rfl ?_
              refine V.iload (pc := 55) 0 hC dX7_odds_55 rfl ?_
              refine V.iload_n (pc := 57) 3 hC dX7_odds_57 rfl ?_
              refine V.icmp_eq (pc := 58) 81 hC dX7_odds_58 (by decide) (fun c_58 => ?_) (fun c_58 => ?_)
              · refine V.iconst (pc := 81) 1 hC dX7_odds_81 (by decide) ?_
                refine V.goto (pc := 82) 86 hC dX7_odds_82 (by decide) ?_
                refine V.iadd (pc := 86) hC dX7_odds_86 ?_
                refine V.istore (pc := 87) [(5, .int (r + 1)), (4, .int (μ 0 (33 + 3 * nN p))), (0, .ref (b 20)), (1, .int p), (2, .int h), (3, .int w), (6, .int (nI i))] hC dX7_odds_87 (by decide) rfl ?_
                refine V.iinc (pc := 89) 6 (nI (i + 1)) [(6, .int (nI (i + 1))), (5, .int (r + 1)), (4, .int (μ 0 (33 + 3 * nN p))), (0, .ref (b 20)), (1, .int p), (2, .int h), (3, .int w)] hC dX7_odds_89 rfl (ncast (nadd rfl (nl 1)) (by omega)) (by decide) rfl ?_
                refine V.goto (pc := 92) 46 hC dX7_odds_92 (by decide) ?_
                exact V.sub [2, 3, 4, 5, 6, 1, 0] rfl (ih (i + 1) (r + 1) f10 f11 (by omega) (run_next hv (by show r + _ = _; rw [if_pos (Or.inl c_58)])))
              · refine V.aload_n (pc := 61) 1 hC dX7_odds_61 rfl ?_
                refine V.iload_n (pc := 62) 2 hC dX7_odds_62 rfl ?_
                refine V.iload (pc := 63) 0 hC dX7_odds_63 rfl ?_
                refine V.iload_n (pc := 65) 3 hC dX7_odds_65 rfl ?_
                refine V.aload_n (pc := 66) 1 hC dX7_odds_66 rfl ?_
                refine V.get (pc := 67) (v := .ref (b 0)) hC cf_X7 0 0 fl_X7_9 (by decide) gm_0 rfl dX7_odds_67 ?_
                refine V.iconst (pc := 70) 0 hC dX7_odds_70 (by decide) ?_
                refine V.iald (pc := 71) (f := μ 0) hC 1 0 gm_1 (nl 0) (by omega) (by decide) dX7_odds_71 ?_
                refine V.iload (pc := 72) 6 hC dX7_odds_72 rfl ?_
                refine V.iadd (pc := 74) hC dX7_odds_74 ?_
                refine V.sts (st' := [.int ((μ 0 0) + (nI i)), .int (nI (nN h)), .int (nI (nN (μ 0 (33 + 3 * nN p)))), .int (nI (nN p)), .ref (b 20), .int r]) (stk (stc hh_h.1 (stc (hI.an hh_p.2) (stc hh_p.1 (stk (stk rfl)))))) ?_
                refine V.callV0 (pc := 75) (as := [.int (nI (nN p)), .int (nI (nN (μ 0 (33 + 3 * nN p)))), .int (nI (nN h)), .int ((μ 0 0) + (nI i))]) hC (c_X7_doesGet μ (va_up (va_up ν 10 f10) 11 f11) (nN p) (nN (μ 0 (33 + 3 * nN p))) (nN h) ((μ 0 0) + (nI i)) hI (by have := hh_p.2; omega) (hI.ab hh_p.2) hh_h.2) mu_X7_doesGet ml_X7_114 (by decide) ⟨0, 7, TX7, 20, _, rfl, gm_0⟩ rfl (Nat.le_of_ble_eq_true rfl) dX7_odds_75 ?_
                rintro _ ⟨f75_0, f75_1⟩ rfl
                show V X (wM k b μ (va_up (va_up ν 10 f75_0) 11 f75_1)) [(4, .int (μ 0 (33 + 3 * nN p))), (0, .ref (b 20)), (1, .int p), (2, .int h), (3, .int w), (5, .int r), (6, .int (nI i))] [.int (bI (getsS (μ 0) (nN p) (nN (μ 0 (33 + 3 * nN p))) (nN h) ((μ 0 0) + (nI i)))), .int r] 78
                refine V.if_eq_b (P := getsS (μ 0) (nN p) (nN (μ 0 (33 + 3 * nN p))) (nN h) ((μ 0 0) + (nI i))) (pc := 78) 85 hC dX7_odds_78 (by decide) (fun c_78 => ?_) (fun c_78 => ?_)
                · refine V.iconst (pc := 85) 0 hC dX7_odds_85 (by decide) ?_
                  refine V.iadd (pc := 86) hC dX7_odds_86 ?_
                  refine V.istore (pc := 87) [(5, .int (r + 0)), (4, .int (μ 0 (33 + 3 * nN p))), (0, .ref (b 20)), (1, .int p), (2, .int h), (3, .int w), (6, .int (nI i))] hC dX7_odds_87 (by decide) rfl ?_
                  refine V.iinc (pc := 89) 6 (nI (i + 1)) [(6, .int (nI (i + 1))), (5, .int (r + 0)), (4, .int (μ 0 (33 + 3 * nN p))), (0, .ref (b 20)), (1, .int p), (2, .int h), (3, .int w)] hC dX7_odds_89 rfl (ncast (nadd rfl (nl 1)) (by omega)) (by decide) rfl ?_
                  refine V.goto (pc := 92) 46 hC dX7_odds_92 (by decide) ?_
                  exact V.sub [2, 3, 4, 5, 6, 1, 0] rfl (ih (i + 1) (r + 0) f75_0 f75_1 (by omega) (run_next hv (by show r + _ = _; rw [if_neg (fun q => q.elim c_58 c_78)])))
                · refine V.iconst (pc := 81) 1 hC dX7_odds_81 (by decide) ?_
                  refine V.goto (pc := 82) 86 hC dX7_odds_82 (by decide) ?_
                  refine V.iadd (pc := 86) hC dX7_odds_86 ?_
                  refine V.istore (pc := 87) [(5, .int (r + 1)), (4, .int (μ 0 (33 + 3 * nN p))), (0, .ref (b 20)), (1, .int p), (2, .int h), (3, .int w), (6, .int (nI i))] hC dX7_odds_87 (by decide) rfl ?_
                  refine V.iinc (pc := 89) 6 (nI (i + 1)) [(6, .int (nI (i + 1))), (5, .int (r + 1)), (4, .int (μ 0 (33 + 3 * nN p))), (0, .ref (b 20)), (1, .int p), (2, .int h), (3, .int w)] hC dX7_odds_89 rfl (ncast (nadd rfl (nl 1)) (by omega)) (by decide) rfl ?_
                  refine V.goto (pc := 92) 46 hC dX7_odds_92 (by decide) ?_
                  exact V.sub [2, 3, 4, 5, 6, 1, 0] rfl (ih (i + 1) (r + 1) f75_0 f75_1 (by omega) (run_next hv (by show r + _ = _; rw [if_pos (Or.inr c_78)])))
        exact V.sub [2, 3, 4, 5, 6, 1, 0] rfl (loop_46 60 0 0 (ν 10) (ν 11) (by omega) rfl)
      · refine V.aload_n (pc := 25) 0 hC dX7_odds_25 rfl ?_
        refine V.ldc (pc := 26) (v := (-1000000001)) hC cn_X7_55 dX7_odds_26 ?_
        refine V.callV0 (pc := 28) (as := [.int (-1000000001)]) hC (c_X7_error μ ν 1 (-1000000001) (by omega) (by decide)) mu_X7_error ml_X7_56 (by decide) ⟨0, 7, TX7, 20, _, rfl, gm_0⟩ rfl (Nat.le_of_ble_eq_true rfl) dX7_odds_28 ?_
        rintro _ _ rfl
        show V X (wM k b (va_up μ 3 (upd (μ 3) 1 (μ 3 1 + 1))) ν) [(0, .ref (b 20)), (1, .int p), (2, .int h), (3, .int w)] [.int (-1000000001)] 31
        exact hR (-1000000001) ((va_up μ 3 (upd (μ 3) 1 (μ 3 1 + 1))), ν 10, ν 11) _ _ dX7_odds_31 rfl (opr (by simp only [op_odds, c_5, c_13, c_22, inS, hndS, homS, prsS, shtS, if_true, if_false, not_true_eq_false, not_false_eq_true, true_and, and_true, false_and, and_false, true_or, or_true, or_false, false_or, er_1, er_2, er_3, er_4, er_5, er_6] <;> rfl))
