set_option maxHeartbeats 4000000 in
set_option maxRecDepth 100000 in
theorem c_jd2 {l : Launch} {D : va_G} {k : Nat → ClassId} {g a : Nat → Nat} (σ ν : St) (ρ : Rw) (hT : RT σ ρ) (hI : Inv ρ) : Ct l D k g yX3_jumpsByDraws cX3_jumpsByDraws 3 (some .boolean) 5 120 [.ref (a 1)] (S := St × Rw) (wX k g a σ ν) (fun uu => wX k g a uu.1 (va_up ν 31 uu.2)) (fun vv uu => vv = some (.int (bI ((lstS ρ).1 = 1))) ∧ RT uu.1 (lstS ρ).2 ∧ ∀ j, (j < 10 ∨ 31 ≤ j ∨ j = 23) → uu.1 j = σ j) := by
  refine Ct.ofI RX3 rfl (by decide +kernel) (Nat.le_of_ble_eq_true rfl) (fun X hC hR => ?_)
  have hb4 := hI.hb; have hb8 := hI.mb; have hb6 := hI.pb; have hbm := hI.ob0; have hbt := hI.bb; have hbw := hI.wb
  show V X (wX k g a σ ν) [(0, .ref (a 1))] [] 0
  refine V.aload_n (pc := 0) 0 hC dX3_jumpsByDraws_0 rfl ?_
  refine V.get (pc := 1) (v := .int (σ 16 0)) hC cf_X3 1 6 fl_X3_63 (by decide) gx_1 rfl dX3_jumpsByDraws_1 ?_
  refine V.eqi (y := ρ 4) (hT.2.2.1.1) ?_
  refine V.if_ne (pc := 4) 9 hC dX3_jumpsByDraws_4 (by decide) (fun c_4 => ?_) (fun c_4 => ?_)
  · have hp0 : 0 < nN (ρ 4) := Nat.pos_of_ne_zero (fun q => c_4 (by rw [hI.pn, q]; rfl))
    have hm0 := hI.home0 hp0
    have hdp := dp_n hI hp0
    have hdh := dh_n hI hm0
    have hls : lstS ρ = drnS ρ := by unfold lstS; rw [if_pos]; rw [hI.pn]; exact (nI_ltI (a := 0) (by omega) (by omega)).mpr hp0
    refine V.aload_n (pc := 9) 0 hC dX3_jumpsByDraws_9 rfl ?_
    refine V.callV0 (pc := 10) (as := []) hC (c_X3_draw σ ν ρ hT hI) mu_X3_draw ml_X3_142 (by decide) ⟨1, 3, TX3, 17, _, rfl, gx_1⟩ rfl (Nat.le_of_ble_eq_true rfl) dX3_jumpsByDraws_10 ?_
    rintro _ i10_0 ⟨rfl, hu10_0⟩
    have hu10_0 : i10_0 = ρ 1 * 1103515245 + 12345 := hu10_0
    show V X (wX k g a (va_up σ 21 (fun _ => i10_0)) ν) [(0, .ref (a 1))] [.int (dvS ρ)] 13
    have hT1 : RT (va_up σ 21 (fun _ => i10_0)) (drwS ρ) := by rw [hu10_0]; exact hT.z hI _
    have hI1 := hI.drw
    refine V.aload_n (pc := 13) 0 hC dX3_jumpsByDraws_13 rfl ?_
    refine V.get (pc := 14) (v := .int (σ 16 0)) hC cf_X3 1 6 fl_X3_63 (by decide) gx_1 rfl dX3_jumpsByDraws_14 ?_
    refine V.eqi (y := ρ 4) (hT.2.2.1.1) ?_
    refine V.callN0 (pc := 17) (as := [.int (dvS ρ), .int (ρ 4)]) hC (c_X6_rest (dvS ρ) (ρ 4) ) ms_X6_rest (host := RX6) (by simp [nstW]) (by decide) rfl (Nat.le_of_ble_eq_true rfl) dX3_jumpsByDraws_17 ?_
    rintro _ _ rfl
    show V X (wX k g a (va_up σ 21 (fun _ => i10_0)) ν) [(0, .ref (a 1))] [.int (restS (dvS ρ) (ρ 4))] 20
    refine V.eqi (y := nI (dpS ρ)) (dp_r hI hp0) ?_
    refine V.istore_n (pc := 20) [(1, .int (nI (dpS ρ))), (0, .ref (a 1))] hC dX3_jumpsByDraws_20 (by decide) rfl ?_
    refine V.aload_n (pc := 21) 1 hC dX3_jumpsByDraws_21 rfl ?_
    refine V.callV0 (pc := 22) (as := []) hC (c_X3_draw (va_up σ 21 (fun _ => i10_0)) ν (drwS ρ) hT1 hI1) mu_X3_draw ml_X3_142 (by decide) ⟨1, 3, TX3, 17, _, rfl, gx_1⟩ rfl (Nat.le_of_ble_eq_true rfl) dX3_jumpsByDraws_22 ?_
    rintro _ i22_0 ⟨rfl, hu22_0⟩
    have hu22_0 : i22_0 = (drwS ρ) 1 * 1103515245 + 12345 := hu22_0
    show V X (wX k g a (va_up σ 21 (fun _ => i22_0)) ν) [(1, .int (nI (dpS ρ))), (0, .ref (a 1))] [.int (dvS (drwS ρ))] 25
    have hT2 : RT (va_up σ 21 (fun _ => i22_0)) (drwS (drwS ρ)) := by rw [hu22_0]; exact hT1.z hI1 _
    obtain ⟨f, hf⟩ : ∃ f, f = drwS (drwS ρ) := ⟨_, rfl⟩
    rw [← hf] at hT2
    have hI2 : Inv f := by rw [hf]; exact hI1.drw
    have hfe : ∀ j, j ≠ 1 → f j = ρ j := fun j hj => by rw [hf]; exact drw2_ne hj
    refine V.aload_n (pc := 25) 1 hC dX3_jumpsByDraws_25 rfl ?_
    refine V.get (pc := 26) (v := .int (σ 13 0)) hC cf_X3 1 3 fl_X3_60 (by decide) gx_1 rfl dX3_jumpsByDraws_26 ?_
    refine V.eqi (y := ρ 3) (hT.2.1.1) ?_
    refine V.callN0 (pc := 29) (as := [.int (dvS (drwS ρ)), .int (ρ 3)]) hC (c_X6_rest (dvS (drwS ρ)) (ρ 3) ) ms_X6_rest (host := RX6) (by simp [nstW]) (by decide) rfl (Nat.le_of_ble_eq_true rfl) dX3_jumpsByDraws_29 ?_
    rintro _ _ rfl
    show V X (wX k g a (va_up σ 21 (fun _ => i22_0)) ν) [(1, .int (nI (dpS ρ))), (0, .ref (a 1))] [.int (restS (dvS (drwS ρ)) (ρ 3))] 32
    refine V.eqi (y := dhS ρ) (dh_r hI hm0) ?_
    refine V.istore_n (pc := 32) [(2, .int (dhS ρ)), (1, .int (nI (dpS ρ))), (0, .ref (a 1))] hC dX3_jumpsByDraws_32 (by decide) rfl ?_
    refine V.iload_n (pc := 33) 0 hC dX3_jumpsByDraws_33 rfl ?_
    refine V.aload_n (pc := 34) 2 hC dX3_jumpsByDraws_34 rfl ?_
    refine V.get (pc := 35) (v := .ref (a 19)) hC cf_X3 1 9 fl_X3_30 (by decide) gx_1 rfl dX3_jumpsByDraws_35 ?_
    refine V.iload_n (pc := 38) 1 hC dX3_jumpsByDraws_38 rfl ?_
    refine V.iald (pc := 39) (f := σ 19) hC 14 (dpS ρ) gx_14 rfl (by omega) (by decide) dX3_jumpsByDraws_39 ?_
    refine V.eqi (y := ρ (33 + 3 * (dpS ρ))) (hT.2.2.1.2.2.2 (dpS ρ) (by omega)) ?_
    refine V.icmp_eq (pc := 40) 56 hC dX3_jumpsByDraws_40 (by decide) (fun c_40 => ?_) (fun c_40 => ?_)
    · refine V.iconst (pc := 56) 0 hC dX3_jumpsByDraws_56 (by decide) ?_
      exact hR 0 ((va_up σ 21 (fun _ => i22_0)), ν 31) _ _ dX3_jumpsByDraws_57 (by first | rfl | exact bI_n _) ⟨rb0 (by rw [hls, drn_t (Or.inl c_40)]; exact fun q => absurd (show (0 : Int32) = 1 from q) (by decide)), by rw [hls, drn_t (Or.inl c_40)]; exact hf ▸ hT2, fun j hj => va_up_ne _ _ (by omega)⟩
    · refine V.aload_n (pc := 43) 2 hC dX3_jumpsByDraws_43 rfl ?_
      refine V.iload_n (pc := 44) 1 hC dX3_jumpsByDraws_44 rfl ?_
      refine V.iload_n (pc := 45) 0 hC dX3_jumpsByDraws_45 rfl ?_
      refine V.aload_n (pc := 46) 2 hC dX3_jumpsByDraws_46 rfl ?_
      refine V.get (pc := 47) (v := .int (σ 20 0)) hC cf_X3 1 10 fl_X3_66 (by decide) gx_1 rfl dX3_jumpsByDraws_47 ?_
      refine V.eqi (y := ρ 0) (hT.2.2.2.1.1) ?_
      refine V.sts (st' := [.int (ρ 0), .int (nI (nN (dhS ρ))), .int (nI (dpS ρ)), .ref (a 1)]) (stk (stc hdh.1 (stk (stk rfl)))) ?_
      refine V.callV0 (pc := 50) (as := [.int (nI (dpS ρ)), .int (nI (nN (dhS ρ))), .int (ρ 0)]) hC (c_X3_gets (va_up σ 21 (fun _ => i22_0)) ν f (dpS ρ) (nN (dhS ρ)) (ρ 0) hT2 hI2 (by rw [hfe 4 (by omega)]; exact hdp.2) (by rw [hfe 3 (by omega)]; exact hdh.2) (isN.mk hI.on0 (by omega) (by omega))) mu_X3_gets ml_X3_146 (by decide) ⟨1, 3, TX3, 17, _, rfl, gx_1⟩ rfl (Nat.le_of_ble_eq_true rfl) dX3_jumpsByDraws_50 ?_
      rintro _ f50_0 rfl
      show V X (wX k g a (va_up σ 21 (fun _ => i22_0)) (va_up ν 31 f50_0)) [(2, .int (dhS ρ)), (1, .int (nI (dpS ρ))), (0, .ref (a 1))] [.int (bI (getsS f (dpS ρ) (nN (f (33 + 3 * (dpS ρ)))) (nN (dhS ρ)) (ρ 0)))] 53
      refine V.if_ne_b (P := getsS f (dpS ρ) (nN (f (33 + 3 * (dpS ρ)))) (nN (dhS ρ)) (ρ 0)) (pc := 53) 58 hC dX3_jumpsByDraws_53 (by decide) (fun c_53 => ?_) (fun c_53 => ?_)
      · have hg : getsS (drwS (drwS ρ)) (dpS ρ) (nN (ρ (33 + 3 * dpS ρ))) (nN (dhS ρ)) (ρ 0) := by rw [← hf, ← hfe (33 + 3 * dpS ρ) (by omega)]; exact c_53
        refine V.aload_n (pc := 58) 2 hC dX3_jumpsByDraws_58 rfl ?_
        refine V.get (pc := 59) (v := .ref (a 19)) hC cf_X3 1 9 fl_X3_30 (by decide) gx_1 rfl dX3_jumpsByDraws_59 ?_
        refine V.iload_n (pc := 62) 1 hC dX3_jumpsByDraws_62 rfl ?_
        refine V.iload_n (pc := 63) 0 hC dX3_jumpsByDraws_63 rfl ?_
        refine V.iast (pc := 64) (f := σ 19) hC 14 (dpS ρ) (wX k g a (va_up (va_up σ 21 (fun _ => i22_0)) 19 (upd (σ 19) (dpS ρ) (dhS ρ))) (va_up ν 31 f50_0)) gx_14 rfl (by omega) (by decide) rfl dX3_jumpsByDraws_64 ?_
        refine V.iconst (pc := 65) 1 hC dX3_jumpsByDraws_65 (by decide) ?_
        exact hR 1 ((va_up (va_up σ 21 (fun _ => i22_0)) 19 (upd (σ 19) (dpS ρ) (dhS ρ))), f50_0) _ _ dX3_jumpsByDraws_66 (by first | rfl | exact bI_n _) ⟨rb1 (by rw [hls, drn_f (fun q => q.elim c_40 (fun r => r hg))]), by rw [hls, drn_f (fun q => q.elim c_40 (fun r => r hg)), ← hf]; exact hT2.room hI2 (by omega) _, fun j hj => (va_up_ne _ _ (by omega)).trans (va_up_ne _ _ (by omega))⟩
      · have hng : ¬ getsS (drwS (drwS ρ)) (dpS ρ) (nN (ρ (33 + 3 * dpS ρ))) (nN (dhS ρ)) (ρ 0) := by rw [← hf, ← hfe (33 + 3 * dpS ρ) (by omega)]; exact c_53
        refine V.iconst (pc := 56) 0 hC dX3_jumpsByDraws_56 (by decide) ?_
        exact hR 0 ((va_up σ 21 (fun _ => i22_0)), f50_0) _ _ dX3_jumpsByDraws_57 (by first | rfl | exact bI_n _) ⟨rb0 (by rw [hls, drn_t (Or.inr hng)]; exact fun q => absurd (show (0 : Int32) = 1 from q) (by decide)), by rw [hls, drn_t (Or.inr hng)]; exact hf ▸ hT2, fun j hj => va_up_ne _ _ (by omega)⟩
  · refine V.iconst (pc := 7) 0 hC dX3_jumpsByDraws_7 (by decide) ?_
    exact hR 0 (σ, ν 31) _ _ dX3_jumpsByDraws_8 (by first | rfl | exact bI_n _) ⟨rb0 (by rw [(lst_f (ρ := ρ) (by rw [c_4]; decide)).1]; decide), by rw [(lst_f (ρ := ρ) (by rw [c_4]; decide)).2]; exact hT, fun j hj => rfl⟩
set_option maxHeartbeats 4000000 in
set_option maxRecDepth 100000 in
theorem c_X6_loose {l : Launch} {D : va_G} {k : Nat → ClassId} {g a : Nat → Nat} (σ ν μ : St) (m : Int32) (hRR : RQ σ μ) : Ct l D k g yX6_loose cX6_loose 4 (some .int) 6 142 [.ref (a 0), .int m] (S := St × St) (wX k g a σ ν) (fun uu => wX k g a uu.1 uu.2) (fun vv uu => vv = some (.int ((op_loose m μ).1)) ∧ RQ uu.1 (op_loose m μ).2) := by
  refine Ct.ofI RX6 rfl (by decide +kernel) (Nat.le_of_ble_eq_true rfl) (fun X hC hR => ?_)
  have hT := hRR.1.2.2.1.1; have hI := hRR.1.2.2.1.2
  have hb4 := hI.hb; have hb8 := hI.mb; have hb6 := hI.pb; have hbm := hI.ob0; have hbt := hI.bb; have hbw := hI.wb
  show V X (wX k g a σ ν) [(0, .ref (a 0)), (1, .int m)] [] 0
  refine V.iload_n (pc := 0) 1 hC dX6_loose_0 rfl ?_
  refine V.iconst (pc := 1) 1 hC dX6_loose_1 (by decide) ?_
  refine V.bipush (pc := 2) 40 hC dX6_loose_2 (by decide) ?_
  refine V.callS0 (pc := 4) (as := [.int m, .int 1, .int 40]) hC (c_X6_within m 1 40 ) ms_X6_within ml_X6_53 (by decide) rfl (Nat.le_of_ble_eq_true rfl) dX6_loose_4 ?_
  rintro _ _ rfl
  show V X (wX k g a σ ν) [(0, .ref (a 0)), (1, .int m)] [.int (bI (inS m 1 40))] 7
  refine V.if_ne_b (P := inS m 1 40) (pc := 7) 16 hC dX6_loose_7 (by decide) (fun c_7 => ?_) (fun c_7 => ?_)
  · have hh_m := inS_1 c_7 (nl 1) (nl 40) (by omega) (by omega)
    refine V.aload_n (pc := 16) 0 hC dX6_loose_16 rfl ?_
    refine V.get (pc := 17) (v := .ref (a 1)) hC cf_X6 0 0 fl_X6_10 (by decide) gx_0 rfl dX6_loose_17 ?_
    refine V.get (pc := 20) (v := .int (σ 20 0)) hC cf_X3 1 10 fl_X6_79 (by decide) gx_1 rfl dX6_loose_20 ?_
    refine V.eqi (y := μ 0 0) (hT.2.2.2.1.1) ?_
    refine V.iload_n (pc := 23) 1 hC dX6_loose_23 rfl ?_
    refine V.iadd (pc := 24) hC dX6_loose_24 ?_
    refine V.sipush (pc := 25) 9999 hC dX6_loose_25 (by decide) ?_
    refine V.icmp_le (pc := 28) 37 hC dX6_loose_28 (by decide) (fun c_28 => ?_) (fun c_28 => ?_)
    · have nc_28 : nN (μ 0 0) + nN m ≤ 9999 := (nle (ncast (b := nN (μ 0 0) + nN m) (nadd hI.on0 hh_m.1) (by omega)) (nl 9999) (by omega) (by omega)).mp c_28
      refine V.iconst (pc := 37) 0 hC dX6_loose_37 (by decide) ?_
      refine V.istore_n (pc := 38) [(2, .int 0), (0, .ref (a 0)), (1, .int m)] hC dX6_loose_38 (by decide) rfl ?_
      refine V.iconst (pc := 39) 0 hC dX6_loose_39 (by decide) ?_
      refine V.istore_n (pc := 40) [(3, .int 0), (2, .int 0), (0, .ref (a 0)), (1, .int m)] hC dX6_loose_40 (by decide) rfl ?_
      have loop_41 : ∀ (n : Nat) (i : Nat) (j : Int32) (σ2 ν2 : St) (f : Rw), i + n = nN m → RT σ2 f → Inv f → (∀ j, (j < 10 ∨ 31 ≤ j) → σ2 j = σ j) → BF (σ2 23) → nN (f 0) + n ≤ 9999 → losS (nN m) 0 (μ 0) = losS n j f → V X (wX k g a σ2 ν2) [(0, .ref (a 0)), (1, .int m), (2, .int j), (3, .int (nI i))] [] 41 := by
        intro n
        induction n with
        | zero =>
          intro i j σ2 ν2 f hi hT2 hI2 hfr hbf2 hmi hv
          refine V.iload_n (pc := 41) 3 hC dX6_loose_41 rfl ?_
          refine V.iload_n (pc := 42) 1 hC dX6_loose_42 rfl ?_
          refine V.icmp_ge (pc := 43) 78 hC dX6_loose_43 (by decide) (fun c_43 => ?_) (fun c_43 => ?_)
          · have nc_43 : nN m ≤ i := (nle hh_m.1 rfl (by omega) (by omega)).mp c_43
            refine V.iload_n (pc := 78) 2 hC dX6_loose_78 rfl ?_
            exact hR j (σ2, ν2) _ _ dX6_loose_79 rfl (opc (m := row μ f) (by rw [op_loose, if_neg (not_not_intro c_7), if_neg (i_ge c_28), hv] <;> rfl) (hRR.town hfr hT2 hI2 hbf2))
          · have nc_43 : ¬ (nN m ≤ i) := fun z => c_43 ((nle hh_m.1 rfl (by omega) (by omega)).mpr z)
            exfalso; omega
        | succ n ih =>
          intro i j σ2 ν2 f hi hT2 hI2 hfr hbf2 hmi hv
          refine V.iload_n (pc := 41) 3 hC dX6_loose_41 rfl ?_
          refine V.iload_n (pc := 42) 1 hC dX6_loose_42 rfl ?_
          refine V.icmp_ge (pc := 43) 78 hC dX6_loose_43 (by decide) (fun c_43 => ?_) (fun c_43 => ?_)
          · have nc_43 : nN m ≤ i := (nle hh_m.1 rfl (by omega) (by omega)).mp c_43
            exfalso; omega
          · have nc_43 : ¬ (nN m ≤ i) := fun z => c_43 ((nle hh_m.1 rfl (by omega) (by omega)).mpr z)
            refine V.aload_n (pc := 46) 0 hC dX6_loose_46 rfl ?_
            refine V.get (pc := 47) (v := .ref (a 1)) hC cf_X6 0 0 fl_X6_10 (by decide) gx_0 rfl dX6_loose_47 ?_
            refine V.callV0 (pc := 50) (as := []) hC (c_jd2 σ2 ν2 f hT2 hI2) mu_X3_jumpsByDraws ml_X6_190 (by decide) ⟨1, 3, TX3, 17, _, rfl, gx_1⟩ rfl (Nat.le_of_ble_eq_true rfl) dX6_loose_50 ?_
            rintro _ ⟨S50_0, f50_1⟩ ⟨rfl, hu50_0, hu50_1⟩
            have hu50_0 : RT S50_0 (lstS f).2 := hu50_0
            have hu50_1 : ∀ j, (j < 10 ∨ 31 ≤ j ∨ j = 23) → S50_0 j = σ2 j := hu50_1
            show V X (wX k g a S50_0 (va_up ν2 31 f50_1)) [(0, .ref (a 0)), (1, .int m), (2, .int j), (3, .int (nI i))] [.int (bI ((lstS f).1 = 1))] 53
            refine V.if_eq_b (P := (lstS f).1 = 1) (pc := 53) 59 hC dX6_loose_53 (by decide) (fun c_53 => ?_) (fun c_53 => ?_)
            · have hy : (lstS f).1 = 0 := (lst_01 f).resolve_right c_53
              have hT4 := RT.min hu50_0 hI2.lst.1 ((lstS f).2 0 + 1)
              refine V.aload_n (pc := 59) 0 hC dX6_loose_59 rfl ?_
              refine V.get (pc := 60) (v := .ref (a 1)) hC cf_X6 0 0 fl_X6_10 (by decide) gx_0 rfl dX6_loose_60 ?_
              refine V.dup (pc := 63) hC dX6_loose_63 rfl ?_
              refine V.get (pc := 64) (v := .int (S50_0 20 0)) hC cf_X3 1 10 fl_X6_79 (by decide) gx_1 rfl dX6_loose_64 ?_
              refine V.eqi (y := (lstS f).2 0) (hu50_0.2.2.2.1.1) ?_
              refine V.iconst (pc := 67) 1 hC dX6_loose_67 (by decide) ?_
              refine V.iadd (pc := 68) hC dX6_loose_68 ?_
              refine V.put (pc := 69) (v := .int (((lstS f).2 0) + 1)) hC cf_X3 1 10 (wX k g a (va_up S50_0 20 (fun _ => ((lstS f).2 0) + 1)) (va_up ν2 31 f50_1)) fl_X6_79 (by decide) gx_1 rfl rfl rfl (Nat.le_of_ble_eq_true rfl) rfl dX6_loose_69 ?_
              refine V.iinc (pc := 72) 3 (nI (i + 1)) [(3, .int (nI (i + 1))), (0, .ref (a 0)), (1, .int m), (2, .int j)] hC dX6_loose_72 rfl (ncast (nadd rfl (nl 1)) (by omega)) (by decide) rfl ?_
              refine V.goto (pc := 75) 41 hC dX6_loose_75 (by decide) ?_
              have hli := los_i hI2 (show (lstS f).1 = (lstS f).1 ∧ (lstS f).2 = (lstS f).2 from ⟨rfl, rfl⟩) hmi (by omega)
              exact V.sub [1, 2, 3, 0] rfl (ih (i + 1) j (va_up S50_0 20 (fun _ => ((lstS f).2 0) + 1)) (va_up ν2 31 f50_1) _ (by omega) hT4 hli.1 (fun j hj => (va_up_ne _ _ (by omega)).trans ((hu50_1 j (by omega)).trans (hfr j hj))) (by rw [va_up_ne _ _ (by omega), hu50_1 23 (by omega)]; exact hbf2) hli.2 (hv.trans ((los_s (show (lstS f).1 = 0 ∧ (lstS f).2 = (lstS f).2 from ⟨hy, rfl⟩)).trans (by rw [show j + 0 = j from by simp]))))
            · refine V.iinc (pc := 56) 2 (j + 1) [(2, .int (j + 1)), (0, .ref (a 0)), (1, .int m), (3, .int (nI i))] hC dX6_loose_56 rfl rfl (by decide) rfl ?_
              have hy : (lstS f).1 = 1 := c_53
              have hT4 := RT.min hu50_0 hI2.lst.1 ((lstS f).2 0 + 1)
              refine V.aload_n (pc := 59) 1 hC dX6_loose_59 rfl ?_
              refine V.get (pc := 60) (v := .ref (a 1)) hC cf_X6 0 0 fl_X6_10 (by decide) gx_0 rfl dX6_loose_60 ?_
              refine V.dup (pc := 63) hC dX6_loose_63 rfl ?_
              refine V.get (pc := 64) (v := .int (S50_0 20 0)) hC cf_X3 1 10 fl_X6_79 (by decide) gx_1 rfl dX6_loose_64 ?_
              refine V.eqi (y := (lstS f).2 0) (hu50_0.2.2.2.1.1) ?_
              refine V.iconst (pc := 67) 1 hC dX6_loose_67 (by decide) ?_
              refine V.iadd (pc := 68) hC dX6_loose_68 ?_
              refine V.put (pc := 69) (v := .int (((lstS f).2 0) + 1)) hC cf_X3 1 10 (wX k g a (va_up S50_0 20 (fun _ => ((lstS f).2 0) + 1)) (va_up ν2 31 f50_1)) fl_X6_79 (by decide) gx_1 rfl rfl rfl (Nat.le_of_ble_eq_true rfl) rfl dX6_loose_69 ?_
              refine V.iinc (pc := 72) 3 (nI (i + 1)) [(3, .int (nI (i + 1))), (2, .int (j + 1)), (0, .ref (a 0)), (1, .int m)] hC dX6_loose_72 rfl (ncast (nadd rfl (nl 1)) (by omega)) (by decide) rfl ?_
              refine V.goto (pc := 75) 41 hC dX6_loose_75 (by decide) ?_
              have hli := los_i hI2 (show (lstS f).1 = (lstS f).1 ∧ (lstS f).2 = (lstS f).2 from ⟨rfl, rfl⟩) hmi (by omega)
              exact V.sub [2, 3, 1, 0] rfl (ih (i + 1) (j + 1) (va_up S50_0 20 (fun _ => ((lstS f).2 0) + 1)) (va_up ν2 31 f50_1) _ (by omega) hT4 hli.1 (fun j hj => (va_up_ne _ _ (by omega)).trans ((hu50_1 j (by omega)).trans (hfr j hj))) (by rw [va_up_ne _ _ (by omega), hu50_1 23 (by omega)]; exact hbf2) hli.2 (hv.trans ((los_s (show (lstS f).1 = 1 ∧ (lstS f).2 = (lstS f).2 from ⟨hy, rfl⟩)).trans rfl)))
      exact V.sub [2, 3, 1, 0] rfl (loop_41 (nN m) 0 0 σ ν (μ 0) (by omega) hT hI (fun j hj => rfl) hRR.2.1 (by omega) rfl)
    · have nc_28 : ¬ (nN (μ 0 0) + nN m ≤ 9999) := fun z => c_28 ((nle (ncast (b := nN (μ 0 0) + nN m) (nadd hI.on0 hh_m.1) (by omega)) (nl 9999) (by omega) (by omega)).mpr z)
      refine V.aload_n (pc := 31) 0 hC dX6_loose_31 rfl ?_
      refine V.iconst (pc := 32) 3 hC dX6_loose_32 (by decide) ?_
      refine V.sts (st' := [.int (nI 3), .ref (a 0)]) (stc (nl 3) (stk rfl)) ?_
      refine V.callV0 (pc := 33) (as := [.int (nI 3)]) hC (c_X6_error σ ν 3 (by omega)) mu_X6_error ml_X6_57 (by decide) ⟨0, 6, TX6, 8, _, rfl, gx_0⟩ rfl (Nat.le_of_ble_eq_true rfl) dX6_loose_33 ?_
      rintro _ f33_0 ⟨rfl, hu33_0⟩
      have hu33_0 : f33_0 = upd (σ 0) 3 (σ 0 3 + 1) := hu33_0
      show V X (wX k g a (va_up σ 0 f33_0) ν) [(0, .ref (a 0)), (1, .int m)] [.int (lowE 3)] 36
      exact hR (lowE 3) ((va_up σ 0 f33_0), ν) _ _ dX6_loose_36 rfl (ope (by rw [op_loose, if_neg (not_not_intro c_7), if_pos (i_nle c_28)] <;> rfl) (hRR.er (by omega) hu33_0))
  · refine V.aload_n (pc := 10) 0 hC dX6_loose_10 rfl ?_
    refine V.iconst (pc := 11) 1 hC dX6_loose_11 (by decide) ?_
    refine V.sts (st' := [.int (nI 1), .ref (a 0)]) (stc (nl 1) (stk rfl)) ?_
    refine V.callV0 (pc := 12) (as := [.int (nI 1)]) hC (c_X6_error σ ν 1 (by omega)) mu_X6_error ml_X6_57 (by decide) ⟨0, 6, TX6, 8, _, rfl, gx_0⟩ rfl (Nat.le_of_ble_eq_true rfl) dX6_loose_12 ?_
    rintro _ f12_0 ⟨rfl, hu12_0⟩
    have hu12_0 : f12_0 = upd (σ 0) 1 (σ 0 1 + 1) := hu12_0
    show V X (wX k g a (va_up σ 0 f12_0) ν) [(0, .ref (a 0)), (1, .int m)] [.int (lowE 1)] 15
    exact hR (lowE 1) ((va_up σ 0 f12_0), ν) _ _ dX6_loose_15 rfl (ope (by rw [op_loose, if_pos c_7] <;> rfl) (hRR.er (by omega) hu12_0))
theorem bgs_eq {c : Int32} : ∀ (L : List Int32) {f g : Rw}, isN c 30 → (∀ i, i < nN c → f i = g i) → (bgs L (f, c)).2 = (bgs L (g, c)).2 ∧ ∀ i, i < nN (bgs L (g, c)).2 → (bgs L (f, c)).1 i = (bgs L (g, c)).1 i := by
  intro L
  induction L generalizing c with
  | nil => intro f g _ h; exact ⟨rfl, h⟩
  | cons q r ih =>
    intro f g hc h
    show (bgs r (bgS q (f, c))).2 = (bgs r (bgS q (g, c))).2 ∧ _
    by_cases z : c < 30
    · have e1 : bgS q (f, c) = (upd f (nN c) q, c + 1) := if_pos z
      have e2 : bgS q (g, c) = (upd g (nN c) q, c + 1) := if_pos z
      have hz : nN c < 30 := by
        have z2 := z
        rw [hc.1] at z2
        exact (nI_ltI (a := nN c) (b := 30) (by have := hc.2; omega) (by omega)).mp z2
      have hc1 : c + 1 = nI (nN c + 1) := nadd hc.1 (nl 1)
      have hc2 : nN (c + 1) = nN c + 1 := nN_of hc1 (by omega)
      have := ih (c := c + 1) (f := upd f (nN c) q) (g := upd g (nN c) q) (isN.mk hc1 (by omega) (by omega)) (fun i hi => by
        by_cases e : i = nN c
        · rw [e, upd_eq, upd_eq]
        · rw [upd_ne e, upd_ne e]; exact h i (by omega))
      rw [e1, e2]
      refine ⟨this.1, ?_⟩
      show ∀ i, i < nN (bgs r (bgS q (g, c))).2 → (bgs r (bgS q (f, c))).1 i = (bgs r (bgS q (g, c))).1 i
      rw [e1, e2]
      exact this.2
    · have e1 : bgS q (f, c) = (f, c) := if_neg z
      have e2 : bgS q (g, c) = (g, c) := if_neg z
      rw [e1, e2]
      refine ⟨(ih hc h).1, ?_⟩
      show ∀ i, i < nN (bgs r (bgS q (g, c))).2 → (bgs r (bgS q (f, c))).1 i = (bgs r (bgS q (g, c))).1 i
      rw [e1, e2]
      exact (ih hc h).2
theorem RQ.voice {σ μ : St} (h : RQ σ μ) {v : Int32} {p : Nat} {f : Rw} {c : Int32} (hf : (f, c) = bgs (voL v (μ 0 (31 + 3 * p)) (μ 0 (32 + 3 * p)) (nI p)) (σ 80, 0)) (hc : isN c 30) : RQ (va_up (va_up σ 80 f) 81 (fun _ => c)) (voM v p μ) := by
  have e : ∀ j, j ≠ 80 → j ≠ 81 → va_up (va_up σ 80 f) 81 (fun _ => c) j = σ j := fun j h1 h2 => (va_up_ne _ _ h2).trans (va_up_ne _ _ h1)
  have hq := bgs_eq (c := 0) (voL v (μ 0 (31 + 3 * p)) (μ 0 (32 + 3 * p)) (nI p)) (f := σ 80) (g := μ 17) (isN.mk (n := 0) rfl (by omega) (by omega)) (fun i hi => absurd hi (by rw [show nN 0 = 0 from rfl]; omega))
  rw [← hf] at hq
  refine h.mk' (fun q hq => ?_) ?_ ⟨RT_c h.1.2.2.1.1 (fun j a b => e j (by omega) (by omega)), h.1.2.2.1.2⟩ (fun z => ⟨RK_c (h.1.2.2.2.1 z).1 (fun j a b => e j (by omega) (by omega)), (h.1.2.2.2.1 z).2⟩) (fun s hs => ?_) ⟨hq.1, ?_, fun i hi => hq.2 i hi⟩ ?_ ?_
  · rw [e 0 (by omega) (by omega)]; exact h.1.1 q hq
  · rw [e 1 (by omega) (by omega)]; exact h.1.2.1
  · rw [e (90 + s) (by omega) (by omega), e (94 + s) (by omega) (by omega), e (98 + s) (by omega) (by omega)]; exact h.1.2.2.2.2.1 s hs
  · show isN (bgs _ (μ 17, 0)).2 30
    rw [← hq.1]; exact hc
  · rw [e 23 (by omega) (by omega)]; exact h.2.1
  · rw [e 53 (by omega) (by omega)]; exact h.2.2
theorem RQ.vo {σ σ' μ : St} (h : RQ σ μ) (e : ∀ j, σ' j = σ j) : RQ σ' μ := by rw [show σ' = σ from funext e]; exact h

set_option maxHeartbeats 4000000 in
set_option maxRecDepth 100000 in
theorem c_X6_voice {l : Launch} {D : va_G} {k : Nat → ClassId} {g a : Nat → Nat} (σ ν μ : St) (p v x : Int32) (hRR : RQ σ μ) : Ct l D k g yX6_voice cX6_voice 5 (some .int) 13 318 [.ref (a 0), .int p, .int v, .int x] (S := St × St) (wX k g a σ ν) (fun uu => wX k g a uu.1 uu.2) (fun vv uu => vv = some (.int ((op_voice p v x μ).1)) ∧ RQ uu.1 (op_voice p v x μ).2) := by
  refine Ct.ofI RX6 rfl (by decide +kernel) (Nat.le_of_ble_eq_true rfl) (fun X hC hR => ?_)
  have hT := hRR.1.2.2.1.1; have hI := hRR.1.2.2.1.2
  have hb4 := hI.hb; have hb8 := hI.mb; have hb6 := hI.pb; have hbm := hI.ob0; have hbt := hI.bb; have hbw := hI.wb
  show V X (wX k g a σ ν) [(0, .ref (a 0)), (1, .int p), (2, .int v), (3, .int x)] [] 0
  refine V.aload_n (pc := 0) 0 hC dX6_voice_0 rfl ?_
  refine V.get (pc := 1) (v := .ref (a 1)) hC cf_X6 0 0 fl_X6_10 (by decide) gx_0 rfl dX6_voice_1 ?_
  refine V.iload_n (pc := 4) 1 hC dX6_voice_4 rfl ?_
  refine V.callV0 (pc := 5) (as := [.int p]) hC (c_X3_hasPerson σ ν (μ 0) p hT hI) mu_X3_hasPerson ml_X6_121 (by decide) ⟨1, 3, TX3, 17, _, rfl, gx_1⟩ rfl (Nat.le_of_ble_eq_true rfl) dX6_voice_5 ?_
  rintro _ _ rfl
  show V X (wX k g a σ ν) [(0, .ref (a 0)), (1, .int p), (2, .int v), (3, .int x)] [.int (bI (inS p 0 ((μ 0) 4 - 1)))] 8
  refine V.if_eq_b (P := inS p 0 ((μ 0) 4 - 1)) (pc := 8) 20 hC dX6_voice_8 (by decide) (fun c_8 => ?_) (fun c_8 => ?_)
  · refine V.aload_n (pc := 20) 0 hC dX6_voice_20 rfl ?_
    refine V.iconst (pc := 21) 1 hC dX6_voice_21 (by decide) ?_
    refine V.sts (st' := [.int (nI 1), .ref (a 0)]) (stc (nl 1) (stk rfl)) ?_
    refine V.callV0 (pc := 22) (as := [.int (nI 1)]) hC (c_X6_error σ ν 1 (by omega)) mu_X6_error ml_X6_57 (by decide) ⟨0, 6, TX6, 8, _, rfl, gx_0⟩ rfl (Nat.le_of_ble_eq_true rfl) dX6_voice_22 ?_
    rintro _ f22_0 ⟨rfl, hu22_0⟩
    have hu22_0 : f22_0 = upd (σ 0) 1 (σ 0 1 + 1) := hu22_0
    show V X (wX k g a (va_up σ 0 f22_0) ν) [(0, .ref (a 0)), (1, .int p), (2, .int v), (3, .int x)] [.int (lowE 1)] 25
    exact hR (lowE 1) ((va_up σ 0 f22_0), ν) _ _ dX6_voice_25 rfl (ope (by rw [op_voice, if_pos c_8] <;> rfl) (hRR.er (by omega) hu22_0))
  · refine V.iload_n (pc := 11) 2 hC dX6_voice_11 rfl ?_
    refine V.iconst (pc := 12) 0 hC dX6_voice_12 (by decide) ?_
    refine V.iconst (pc := 13) 3 hC dX6_voice_13 (by decide) ?_
    refine V.callS0 (pc := 14) (as := [.int v, .int 0, .int 3]) hC (c_X6_within v 0 3 ) ms_X6_within ml_X6_53 (by decide) rfl (Nat.le_of_ble_eq_true rfl) dX6_voice_14 ?_
    rintro _ _ rfl
    show V X (wX k g a σ ν) [(0, .ref (a 0)), (1, .int p), (2, .int v), (3, .int x)] [.int (bI (inS v 0 3))] 17
    refine V.if_ne_b (P := inS v 0 3) (pc := 17) 26 hC dX6_voice_17 (by decide) (fun c_17 => ?_) (fun c_17 => ?_)
    · have hh_p := inS_n c_8 hI.pn (by omega)
      refine V.aload_n (pc := 26) 0 hC dX6_voice_26 rfl ?_
      refine V.get (pc := 27) (v := .ref (a 5)) hC cf_X6 0 4 fl_X6_38 (by decide) gx_0 rfl dX6_voice_27 ?_
      refine V.aload_n (pc := 30) 0 hC dX6_voice_30 rfl ?_
      refine V.get (pc := 31) (v := .ref (a 1)) hC cf_X6 0 0 fl_X6_10 (by decide) gx_0 rfl dX6_voice_31 ?_
      refine V.iload_n (pc := 34) 1 hC dX6_voice_34 rfl ?_
      refine V.iload_n (pc := 35) 2 hC dX6_voice_35 rfl ?_
      refine V.iload_n (pc := 36) 3 hC dX6_voice_36 rfl ?_
      refine V.sts (st' := [.int x, .int v, .int (nI (nN p)), .ref (a 1), .ref (a 5)]) (stk (stk (stc hh_p.1 (stk (stk rfl))))) ?_
      refine V.callV0 (pc := 37) (as := [.ref (a 1), .int (nI (nN p)), .int v, .int x]) hC (c_X4_hear σ ν (μ 0) (nN p) v x hT hI hh_p.2 c_17) mu_X4_hear ml_X6_227 (by decide) ⟨5, 4, TX4, 6, _, rfl, gx_5⟩ rfl (Nat.le_of_ble_eq_true rfl) dX6_voice_37 ?_
      rintro _ ⟨f37_0, i37_1, i37_2, i37_3, i37_4, i37_5, e37_0⟩ ⟨rfl, hu37_0, hu37_1, hu37_2, hu37_3⟩
      have hu37_0 : (f37_0, i37_1) = bgs (voL v ((μ 0) (31 + 3 * (nN p))) ((μ 0) (32 + 3 * (nN p))) (nI (nN p))) (σ 80, 0) := hu37_0
      have hu37_1 : isN i37_1 30 := hu37_1
      have hu37_2 : i37_2 = bI (v = 3 ∧ ((μ 0) (32 + 3 * (nN p))) - nI (nN p) = 0) := hu37_2
      have hu37_3 : (¬ (v = 3 ∧ ((μ 0) (32 + 3 * (nN p))) - nI (nN p) = 0) → e37_0 = voV v ((μ 0) (31 + 3 * (nN p))) ((μ 0) (32 + 3 * (nN p))) (nI (nN p)) x) := hu37_3
      show V X (wX k g a (va_up (va_up σ 80 f37_0) 81 (fun _ => i37_1)) (va_up (va_up (va_up (va_up ν 82 (fun _ => i37_2)) 83 (fun _ => i37_3)) 84 (fun _ => i37_4)) 85 (fun _ => i37_5))) [(0, .ref (a 0)), (1, .int p), (2, .int v), (3, .int x)] [.int e37_0] 40
      refine V.istore (pc := 40) [(4, .int e37_0), (0, .ref (a 0)), (1, .int p), (2, .int v), (3, .int x)] hC dX6_voice_40 (by decide) rfl ?_
      have hvq := hRR.voice (v := v) (p := nN p) hu37_0 hu37_1
      refine V.aload_n (pc := 42) 1 hC dX6_voice_42 rfl ?_
      refine V.get (pc := 43) (v := .ref (a 5)) hC cf_X6 0 4 fl_X6_38 (by decide) gx_0 rfl dX6_voice_43 ?_
      refine V.get (pc := 46) (v := .int i37_2) hC cf_X4 5 2 fl_X6_231 (by decide) gx_5 rfl dX6_voice_46 ?_
      refine V.eqi (y := bI (v = 3 ∧ μ 0 (32 + 3 * nN p) - nI (nN p) = 0)) hu37_2 ?_
      refine V.if_eq_b (P := v = 3 ∧ μ 0 (32 + 3 * nN p) - nI (nN p) = 0) (pc := 49) 61 hC dX6_voice_49 (by decide) (fun c_49 => ?_) (fun c_49 => ?_)
      · refine V.iload (pc := 61) 0 hC dX6_voice_61 rfl ?_
        exact hR e37_0 ((va_up (va_up σ 80 f37_0) 81 (fun _ => i37_1)), (va_up (va_up (va_up (va_up ν 82 (fun _ => i37_2)) 83 (fun _ => i37_3)) 84 (fun _ => i37_4)) 85 (fun _ => i37_5))) _ _ dX6_voice_63 rfl (opc (m := voM v (nN p) μ) (by rw [op_voice, if_neg (not_not_intro c_8), if_neg (not_not_intro c_17), if_neg c_49, hu37_3 c_49]) hvq)
      · refine V.aload_n (pc := 52) 1 hC dX6_voice_52 rfl ?_
        refine V.bipush (pc := 53) 6 hC dX6_voice_53 (by decide) ?_
        refine V.sts (st' := [.int (nI 6), .ref (a 0)]) (stc (nl 6) (stk rfl)) ?_
        refine V.callV0 (pc := 55) (as := [.int (nI 6)]) hC (c_X6_error (va_up (va_up σ 80 f37_0) 81 (fun _ => i37_1)) (va_up (va_up (va_up (va_up ν 82 (fun _ => i37_2)) 83 (fun _ => i37_3)) 84 (fun _ => i37_4)) 85 (fun _ => i37_5)) 6 (by omega)) mu_X6_error ml_X6_57 (by decide) ⟨0, 6, TX6, 8, _, rfl, gx_0⟩ rfl (Nat.le_of_ble_eq_true rfl) dX6_voice_55 ?_
        rintro _ f55_0 ⟨rfl, hu55_0⟩
        have hu55_0 : f55_0 = upd ((σ 0)) 6 ((σ 0) 6 + 1) := hu55_0
        show V X (wX k g a (va_up (va_up (va_up σ 80 f37_0) 81 (fun _ => i37_1)) 0 f55_0) (va_up (va_up (va_up (va_up ν 82 (fun _ => i37_2)) 83 (fun _ => i37_3)) 84 (fun _ => i37_4)) 85 (fun _ => i37_5))) [(4, .int e37_0), (0, .ref (a 0)), (1, .int p), (2, .int v), (3, .int x)] [.int (lowE 6)] 58
        refine V.goto (pc := 58) 63 hC dX6_voice_58 (by decide) ?_
        exact hR (lowE 6) ((va_up (va_up (va_up σ 80 f37_0) 81 (fun _ => i37_1)) 0 f55_0), (va_up (va_up (va_up (va_up ν 82 (fun _ => i37_2)) 83 (fun _ => i37_3)) 84 (fun _ => i37_4)) 85 (fun _ => i37_5))) _ _ dX6_voice_63 rfl (ope (μ := voM v (nN p) μ) (by rw [op_voice, if_neg (not_not_intro c_8), if_neg (not_not_intro c_17), if_pos c_49]) (hvq.er (by omega) hu55_0))
    · refine V.aload_n (pc := 20) 0 hC dX6_voice_20 rfl ?_
      refine V.iconst (pc := 21) 1 hC dX6_voice_21 (by decide) ?_
      refine V.sts (st' := [.int (nI 1), .ref (a 0)]) (stc (nl 1) (stk rfl)) ?_
      refine V.callV0 (pc := 22) (as := [.int (nI 1)]) hC (c_X6_error σ ν 1 (by omega)) mu_X6_error ml_X6_57 (by decide) ⟨0, 6, TX6, 8, _, rfl, gx_0⟩ rfl (Nat.le_of_ble_eq_true rfl) dX6_voice_22 ?_
      rintro _ f22_0 ⟨rfl, hu22_0⟩
      have hu22_0 : f22_0 = upd (σ 0) 1 (σ 0 1 + 1) := hu22_0
      show V X (wX k g a (va_up σ 0 f22_0) ν) [(0, .ref (a 0)), (1, .int p), (2, .int v), (3, .int x)] [.int (lowE 1)] 25
      exact hR (lowE 1) ((va_up σ 0 f22_0), ν) _ _ dX6_voice_25 rfl (ope (by rw [op_voice, if_neg (not_not_intro c_8), if_pos c_17] <;> rfl) (hRR.er (by omega) hu22_0))
theorem Inv.untell {ρ : Rw} (h : Inv ρ) {u : Nat} (hu : u < 2) : Inv (upd ρ (133 + 121 * u) 0) := by
  have hb4 := h.hb; have hb8 := h.mb; have hb6 := h.pb; have hbb := h.bb
  refine ⟨h.pH.c (fun j hj => upd_ne (by omega)), h.pM.c (fun j hj => upd_ne (by omega)) (by rw [upd_ne (by omega)]; exact Nat.le_refl _), h.pP.c (fun j hj => upd_ne (by omega)) (by rw [upd_ne (by omega)]; exact Nat.le_refl _), by rw [upd_ne (by omega)]; exact h.2.2.2.1, h.pB.c (fun j hj => upd_ne (by omega)), by rw [upd_ne (by omega)]; exact h.2.2.2.2.2.1, fun w hw => ?_⟩
  by_cases e : w = u
  · subst e
    refine ⟨by rw [upd_eq]; exact ⟨rfl, by decide⟩, fun q => absurd q (by rw [upd_eq, show nN 0 = 0 from rfl]; omega)⟩
  · exact (h.pL hw).c (fun j hj => upd_ne (by omega))

set_option maxHeartbeats 4000000 in
set_option maxRecDepth 100000 in
theorem c_X6_untell {l : Launch} {D : va_G} {k : Nat → ClassId} {g a : Nat → Nat} (σ ν μ : St) (u : Int32) (hRR : RQ σ μ) : Ct l D k g yX6_untell cX6_untell 3 (some .int) 1 21 [.ref (a 0), .int u] (S := St × St) (wX k g a σ ν) (fun uu => wX k g a uu.1 uu.2) (fun vv uu => vv = some (.int ((op_untell u μ).1)) ∧ RQ uu.1 (op_untell u μ).2) := by
  refine Ct.ofI RX6 rfl (by decide +kernel) (Nat.le_of_ble_eq_true rfl) (fun X hC hR => ?_)
  have hT := hRR.1.2.2.1.1; have hI := hRR.1.2.2.1.2
  have hb4 := hI.hb; have hb8 := hI.mb; have hb6 := hI.pb; have hbm := hI.ob0; have hbt := hI.bb; have hbw := hI.wb
  obtain ⟨gH, gM, gP, gT, gB, gW, g0, g1⟩ := Rx_iff.mp hT
  show V X (wX k g a σ ν) [(0, .ref (a 0)), (1, .int u)] [] 0
  refine V.iload_n (pc := 0) 1 hC dX6_untell_0 rfl ?_
  refine V.callS0 (pc := 1) (as := [.int u]) hC (c_X6_isUse u ) ms_X6_isUse ml_X6_160 (by decide) rfl (Nat.le_of_ble_eq_true rfl) dX6_untell_1 ?_
  rintro _ _ rfl
  show V X (wX k g a σ ν) [(0, .ref (a 0)), (1, .int u)] [.int (bI (inS u 0 1))] 4
  refine V.if_ne_b (P := inS u 0 1) (pc := 4) 13 hC dX6_untell_4 (by decide) (fun c_4 => ?_) (fun c_4 => ?_)
  · by_cases u0 : u = 0
    · subst u0
      refine V.aload_n (pc := 13) 0 hC dX6_untell_13 rfl ?_
      refine V.get (pc := 14) (v := .ref (a 1)) hC cf_X6 0 0 fl_X6_10 (by decide) gx_0 rfl dX6_untell_14 ?_
      refine V.get (pc := 17) (v := .ref (a 26)) hC cf_X3 1 16 fl_X6_166 (by decide) gx_1 rfl dX6_untell_17 ?_
      refine V.iload_n (pc := 20) 1 hC dX6_untell_20 rfl ?_
      refine V.aldL (pc := 21) hC 17 0 (a 27) gx_17 (nl 0) (by omega) (by decide) rfl dX6_untell_21 ?_
      refine V.get (pc := 22) (v := .int (σ 27 0)) hC cf_X0 18 2 fl_X6_182 (by decide) gx_18 rfl dX6_untell_22 ?_
      refine V.eqi (y := μ 0 133) (hT.2.2.2.2.2.2.1.1) ?_
      refine V.if_le (pc := 25) 32 hC dX6_untell_25 (by decide) (fun c_25 => ?_) (fun c_25 => ?_)
      · refine V.iconst (pc := 32) 0 hC dX6_untell_32 (by decide) ?_
        refine V.istore_n (pc := 33) [(2, .int 0), (0, .ref (a 0)), (1, .int 0)] hC dX6_untell_33 (by decide) rfl ?_
        refine V.aload_n (pc := 34) 1 hC dX6_untell_34 rfl ?_
        refine V.get (pc := 35) (v := .ref (a 1)) hC cf_X6 0 0 fl_X6_10 (by decide) gx_0 rfl dX6_untell_35 ?_
        refine V.get (pc := 38) (v := .ref (a 26)) hC cf_X3 1 16 fl_X6_166 (by decide) gx_1 rfl dX6_untell_38 ?_
        refine V.iload_n (pc := 41) 2 hC dX6_untell_41 rfl ?_
        refine V.aldL (pc := 42) hC 17 0 (a 27) gx_17 (nl 0) (by omega) (by decide) rfl dX6_untell_42 ?_
        refine V.iconst (pc := 43) 0 hC dX6_untell_43 (by decide) ?_
        refine V.put (pc := 44) (v := .int 0) hC cf_X0 18 2 (wX k g a (va_up σ 27 (fun _ => 0)) ν) fl_X6_182 (by decide) gx_18 rfl rfl rfl (Nat.le_of_ble_eq_true rfl) rfl dX6_untell_44 ?_
        refine V.iload_n (pc := 47) 0 hC dX6_untell_47 rfl ?_
        exact hR 0 ((va_up σ 27 (fun _ => 0)), ν) _ _ dX6_untell_48 rfl (opc (m := row μ (upd (μ 0) (133 + 121 * 0) 0)) (by rw [op_untell, if_neg (not_not_intro c_4), if_neg (c := 0 < μ 0 (133 + 121 * nN 0)) (i_ge c_25)] <;> rfl) (hRR.town (fun j hj => by dsimp only [va_up]; repeat rw [if_neg (by omega)]) (Rx_iff.mpr ⟨gH.c (fun j hj => by unfold upd; repeat rw [if_neg (by omega)]), gM.c (fun j hj => by unfold upd; repeat rw [if_neg (by omega)]), gP.c (fun j hj => by unfold upd; repeat rw [if_neg (by omega)]), gT.c (fun j hj => by unfold upd; repeat rw [if_neg (by omega)]), gB.c hI.bb (fun j hj => by unfold upd; repeat rw [if_neg (by omega)]), gW.c (fun j hj => by unfold upd; repeat rw [if_neg (by omega)]), ⟨upd_eq.symm, fun i hi => absurd hi (by rw [upd_eq, show nN 0 = 0 from rfl]; omega)⟩, g1.c (hI.lb (by omega)) (fun j hj => by unfold upd; repeat rw [if_neg (by omega)])⟩) (hI.untell (u := 0) (by omega)) (show BF _ from hRR.2.1)))
      · refine V.iconst (pc := 28) 1 hC dX6_untell_28 (by decide) ?_
        refine V.goto (pc := 29) 33 hC dX6_untell_29 (by decide) ?_
        refine V.istore_n (pc := 33) [(2, .int 1), (0, .ref (a 0)), (1, .int 0)] hC dX6_untell_33 (by decide) rfl ?_
        refine V.aload_n (pc := 34) 1 hC dX6_untell_34 rfl ?_
        refine V.get (pc := 35) (v := .ref (a 1)) hC cf_X6 0 0 fl_X6_10 (by decide) gx_0 rfl dX6_untell_35 ?_
        refine V.get (pc := 38) (v := .ref (a 26)) hC cf_X3 1 16 fl_X6_166 (by decide) gx_1 rfl dX6_untell_38 ?_
        refine V.iload_n (pc := 41) 2 hC dX6_untell_41 rfl ?_
        refine V.aldL (pc := 42) hC 17 0 (a 27) gx_17 (nl 0) (by omega) (by decide) rfl dX6_untell_42 ?_
        refine V.iconst (pc := 43) 0 hC dX6_untell_43 (by decide) ?_
        refine V.put (pc := 44) (v := .int 0) hC cf_X0 18 2 (wX k g a (va_up σ 27 (fun _ => 0)) ν) fl_X6_182 (by decide) gx_18 rfl rfl rfl (Nat.le_of_ble_eq_true rfl) rfl dX6_untell_44 ?_
        refine V.iload_n (pc := 47) 0 hC dX6_untell_47 rfl ?_
        exact hR 1 ((va_up σ 27 (fun _ => 0)), ν) _ _ dX6_untell_48 rfl (opc (m := row μ (upd (μ 0) (133 + 121 * 0) 0)) (by rw [op_untell, if_neg (not_not_intro c_4), if_pos (c := 0 < μ 0 (133 + 121 * nN 0)) (i_nle c_25)] <;> rfl) (hRR.town (fun j hj => by dsimp only [va_up]; repeat rw [if_neg (by omega)]) (Rx_iff.mpr ⟨gH.c (fun j hj => by unfold upd; repeat rw [if_neg (by omega)]), gM.c (fun j hj => by unfold upd; repeat rw [if_neg (by omega)]), gP.c (fun j hj => by unfold upd; repeat rw [if_neg (by omega)]), gT.c (fun j hj => by unfold upd; repeat rw [if_neg (by omega)]), gB.c hI.bb (fun j hj => by unfold upd; repeat rw [if_neg (by omega)]), gW.c (fun j hj => by unfold upd; repeat rw [if_neg (by omega)]), ⟨upd_eq.symm, fun i hi => absurd hi (by rw [upd_eq, show nN 0 = 0 from rfl]; omega)⟩, g1.c (hI.lb (by omega)) (fun j hj => by unfold upd; repeat rw [if_neg (by omega)])⟩) (hI.untell (u := 0) (by omega)) (show BF _ from hRR.2.1)))
    · have u1 : u = 1 := by have h := inS_c c_4 (nl 1) (by omega); have g0 : ¬ nN u = 0 := fun z => u0 (by rw [h.1, z]; rfl); rw [h.1, show nN u = 1 by have := h.2; omega]; rfl
      subst u1
      refine V.aload_n (pc := 13) 0 hC dX6_untell_13 rfl ?_
      refine V.get (pc := 14) (v := .ref (a 1)) hC cf_X6 0 0 fl_X6_10 (by decide) gx_0 rfl dX6_untell_14 ?_
      refine V.get (pc := 17) (v := .ref (a 26)) hC cf_X3 1 16 fl_X6_166 (by decide) gx_1 rfl dX6_untell_17 ?_
      refine V.iload_n (pc := 20) 1 hC dX6_untell_20 rfl ?_
      refine V.aldL (pc := 21) hC 17 1 (a 28) gx_17 (nl 1) (by omega) (by decide) rfl dX6_untell_21 ?_
      refine V.get (pc := 22) (v := .int (σ 28 0)) hC cf_X0 19 2 fl_X6_182 (by decide) gx_19 rfl dX6_untell_22 ?_
      refine V.eqi (y := μ 0 254) (hT.2.2.2.2.2.2.2.1) ?_
      refine V.if_le (pc := 25) 32 hC dX6_untell_25 (by decide) (fun c_25 => ?_) (fun c_25 => ?_)
      · refine V.iconst (pc := 32) 0 hC dX6_untell_32 (by decide) ?_
        refine V.istore_n (pc := 33) [(2, .int 0), (0, .ref (a 0)), (1, .int 1)] hC dX6_untell_33 (by decide) rfl ?_
        refine V.aload_n (pc := 34) 1 hC dX6_untell_34 rfl ?_
        refine V.get (pc := 35) (v := .ref (a 1)) hC cf_X6 0 0 fl_X6_10 (by decide) gx_0 rfl dX6_untell_35 ?_
        refine V.get (pc := 38) (v := .ref (a 26)) hC cf_X3 1 16 fl_X6_166 (by decide) gx_1 rfl dX6_untell_38 ?_
        refine V.iload_n (pc := 41) 2 hC dX6_untell_41 rfl ?_
        refine V.aldL (pc := 42) hC 17 1 (a 28) gx_17 (nl 1) (by omega) (by decide) rfl dX6_untell_42 ?_
        refine V.iconst (pc := 43) 0 hC dX6_untell_43 (by decide) ?_
        refine V.put (pc := 44) (v := .int 0) hC cf_X0 19 2 (wX k g a (va_up σ 28 (fun _ => 0)) ν) fl_X6_182 (by decide) gx_19 rfl rfl rfl (Nat.le_of_ble_eq_true rfl) rfl dX6_untell_44 ?_
        refine V.iload_n (pc := 47) 0 hC dX6_untell_47 rfl ?_
        exact hR 0 ((va_up σ 28 (fun _ => 0)), ν) _ _ dX6_untell_48 rfl (opc (m := row μ (upd (μ 0) (133 + 121 * 1) 0)) (by rw [op_untell, if_neg (not_not_intro c_4), if_neg (c := 0 < μ 0 (133 + 121 * nN 1)) (i_ge c_25)] <;> rfl) (hRR.town (fun j hj => by dsimp only [va_up]; repeat rw [if_neg (by omega)]) (Rx_iff.mpr ⟨gH.c (fun j hj => by unfold upd; repeat rw [if_neg (by omega)]), gM.c (fun j hj => by unfold upd; repeat rw [if_neg (by omega)]), gP.c (fun j hj => by unfold upd; repeat rw [if_neg (by omega)]), gT.c (fun j hj => by unfold upd; repeat rw [if_neg (by omega)]), gB.c hI.bb (fun j hj => by unfold upd; repeat rw [if_neg (by omega)]), gW.c (fun j hj => by unfold upd; repeat rw [if_neg (by omega)]), g0.c (hI.lb (by omega)) (fun j hj => by unfold upd; repeat rw [if_neg (by omega)]), ⟨upd_eq.symm, fun i hi => absurd hi (by rw [upd_eq, show nN 0 = 0 from rfl]; omega)⟩⟩) (hI.untell (u := 1) (by omega)) (show BF _ from hRR.2.1)))
      · refine V.iconst (pc := 28) 1 hC dX6_untell_28 (by decide) ?_
        refine V.goto (pc := 29) 33 hC dX6_untell_29 (by decide) ?_
        refine V.istore_n (pc := 33) [(2, .int 1), (0, .ref (a 0)), (1, .int 1)] hC dX6_untell_33 (by decide) rfl ?_
        refine V.aload_n (pc := 34) 1 hC dX6_untell_34 rfl ?_
        refine V.get (pc := 35) (v := .ref (a 1)) hC cf_X6 0 0 fl_X6_10 (by decide) gx_0 rfl dX6_untell_35 ?_
        refine V.get (pc := 38) (v := .ref (a 26)) hC cf_X3 1 16 fl_X6_166 (by decide) gx_1 rfl dX6_untell_38 ?_
        refine V.iload_n (pc := 41) 2 hC dX6_untell_41 rfl ?_
        refine V.aldL (pc := 42) hC 17 1 (a 28) gx_17 (nl 1) (by omega) (by decide) rfl dX6_untell_42 ?_
        refine V.iconst (pc := 43) 0 hC dX6_untell_43 (by decide) ?_
        refine V.put (pc := 44) (v := .int 0) hC cf_X0 19 2 (wX k g a (va_up σ 28 (fun _ => 0)) ν) fl_X6_182 (by decide) gx_19 rfl rfl rfl (Nat.le_of_ble_eq_true rfl) rfl dX6_untell_44 ?_
        refine V.iload_n (pc := 47) 0 hC dX6_untell_47 rfl ?_
        exact hR 1 ((va_up σ 28 (fun _ => 0)), ν) _ _ dX6_untell_48 rfl (opc (m := row μ (upd (μ 0) (133 + 121 * 1) 0)) (by rw [op_untell, if_neg (not_not_intro c_4), if_pos (c := 0 < μ 0 (133 + 121 * nN 1)) (i_nle c_25)] <;> rfl) (hRR.town (fun j hj => by dsimp only [va_up]; repeat rw [if_neg (by omega)]) (Rx_iff.mpr ⟨gH.c (fun j hj => by unfold upd; repeat rw [if_neg (by omega)]), gM.c (fun j hj => by unfold upd; repeat rw [if_neg (by omega)]), gP.c (fun j hj => by unfold upd; repeat rw [if_neg (by omega)]), gT.c (fun j hj => by unfold upd; repeat rw [if_neg (by omega)]), gB.c hI.bb (fun j hj => by unfold upd; repeat rw [if_neg (by omega)]), gW.c (fun j hj => by unfold upd; repeat rw [if_neg (by omega)]), g0.c (hI.lb (by omega)) (fun j hj => by unfold upd; repeat rw [if_neg (by omega)]), ⟨upd_eq.symm, fun i hi => absurd hi (by rw [upd_eq, show nN 0 = 0 from rfl]; omega)⟩⟩) (hI.untell (u := 1) (by omega)) (show BF _ from hRR.2.1)))
  · refine V.aload_n (pc := 7) 0 hC dX6_untell_7 rfl ?_
    refine V.iconst (pc := 8) 1 hC dX6_untell_8 (by decide) ?_
    refine V.sts (st' := [.int (nI 1), .ref (a 0)]) (stc (nl 1) (stk rfl)) ?_
    refine V.callV0 (pc := 9) (as := [.int (nI 1)]) hC (c_X6_error σ ν 1 (by omega)) mu_X6_error ml_X6_57 (by decide) ⟨0, 6, TX6, 8, _, rfl, gx_0⟩ rfl (Nat.le_of_ble_eq_true rfl) dX6_untell_9 ?_
    rintro _ f9_0 ⟨rfl, hu9_0⟩
    have hu9_0 : f9_0 = upd (σ 0) 1 (σ 0 1 + 1) := hu9_0
    show V X (wX k g a (va_up σ 0 f9_0) ν) [(0, .ref (a 0)), (1, .int u)] [.int (lowE 1)] 12
    exact hR (lowE 1) ((va_up σ 0 f9_0), ν) _ _ dX6_untell_12 rfl (ope (by rw [op_untell, if_pos c_4] <;> rfl) (hRR.er (by omega) hu9_0))
