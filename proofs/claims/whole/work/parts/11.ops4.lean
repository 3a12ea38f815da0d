theorem mov_0 {f : Rw} {i j d s m : Nat} : f = movG f i j d s m 0 := by
  funext q
  unfold movG
  rw [if_neg]
  intro h
  by_cases e : i < j
  · rw [if_pos e] at h; omega
  · rw [if_neg e] at h; omega
theorem mov_m {f : Rw} {i j d s m : Nat} : movG f i j d s m m = va_cpy f f s d m := by
  funext q
  unfold movG va_cpy
  by_cases h : d ≤ q ∧ q < d + m
  · rw [if_pos h, if_pos]
    refine ⟨h.1, h.2, ?_⟩
    by_cases e : i < j
    · rw [if_pos e]; omega
    · rw [if_neg e]; omega
  · rw [if_neg h, if_neg]
    exact fun q => h ⟨q.1, q.2.1⟩
theorem mov_s {f : Rw} {i j S O m c e : Nat} (hc : c < m) (hi : i + m ≤ 24) (hj : j + m ≤ 24) (he : (i < j ∧ e = m - 1 - c) ∨ (¬ i < j ∧ e = c)) : upd (movG f i j (24 * O + j) (24 * S + i) m c) (24 * O + j + e) (movG f i j (24 * O + j) (24 * S + i) m c (24 * S + i + e)) = movG f i j (24 * O + j) (24 * S + i) m (c + 1) := by
  have hr : movG f i j (24 * O + j) (24 * S + i) m c (24 * S + i + e) = f (24 * S + i + e) := by
    unfold movG
    rw [if_neg]
    rintro ⟨h1, h2, h3⟩
    rcases he with ⟨e1, e2⟩ | ⟨e1, e2⟩
    · rw [if_pos e1] at h3; omega
    · rw [if_neg e1] at h3; omega
  rw [hr]
  funext q
  unfold upd
  by_cases hq : q = 24 * O + j + e
  · subst hq
    rw [if_pos rfl]
    unfold movG
    rw [if_pos]
    · congr 1; omega
    · refine ⟨by omega, by omega, ?_⟩
      rcases he with ⟨e1, e2⟩ | ⟨e1, e2⟩
      · rw [if_pos e1]; omega
      · rw [if_neg e1]; omega
  · rw [if_neg hq]
    unfold movG
    rcases he with ⟨e1, e2⟩ | ⟨e1, e2⟩
    · simp only [if_pos e1]
      by_cases h : 24 * O + j ≤ q ∧ q < 24 * O + j + m ∧ m ≤ c + (q - (24 * O + j))
      · rw [if_pos h, if_pos (by omega)]
      · rw [if_neg h, if_neg (by omega)]
    · simp only [if_neg e1]
      by_cases h : 24 * O + j ≤ q ∧ q < 24 * O + j + m ∧ q - (24 * O + j) < c
      · rw [if_pos h, if_pos (by omega)]
      · rw [if_neg h, if_neg (by omega)]
theorem mark_c {ρ ρ' : Rw} {h : Nat} {t : Int32} (e : ∀ j, 7 ≤ j → ρ' j = ρ j) : markS ρ' h t = markS ρ h t := by unfold markS; rw [e (7 + 2 * h) (by omega), e (8 + 2 * h) (by omega)]

set_option maxHeartbeats 4000000 in
set_option maxRecDepth 100000 in
theorem c_X7_notThere {l : Launch} {D : va_G} {k : Nat → ClassId} {g b : Nat → Nat} (μ ν : St) (s : Int32)  : Ct l D k g yX7_notThere cX7_notThere 2 (some .int) 2 42 [.ref (b 20), .int s] (S := Unit) (wM k b μ ν) (fun _ => wM k b μ ν) (fun vv _ => vv = some (.int (whyS μ s))) := by
  refine Ct.ofI RX7 rfl (by decide +kernel) (Nat.le_of_ble_eq_true rfl) (fun X hC hR => ?_)
  show V X (wM k b μ ν) [(0, .ref (b 20)), (1, .int s)] [] 0
  refine V.iload_n (pc := 0) 1 hC dX7_notThere_0 rfl ?_
  refine V.callS0 (pc := 1) (as := [.int s]) hC (c_X7_isSheet s ) ms_X7_isSheet ml_X7_246 (by decide) rfl (Nat.le_of_ble_eq_true rfl) dX7_notThere_1 ?_
  rintro _ _ rfl
  show V X (wM k b μ ν) [(0, .ref (b 20)), (1, .int s)] [.int (bI (inS s 0 3))] 4
  refine V.if_ne_b (P := inS s 0 3) (pc := 4) 12 hC dX7_notThere_4 (by decide) (fun c_4 => ?_) (fun c_4 => ?_)
  · have hh_s := inS_c c_4 (nl 3) (by omega)
    refine V.aload_n (pc := 12) 0 hC dX7_notThere_12 rfl ?_
    refine V.get (pc := 13) (v := .ref (b 4)) hC cf_X7 0 4 fl_X7_19 (by decide) gm_0 rfl dX7_notThere_13 ?_
    refine V.iload_n (pc := 16) 1 hC dX7_notThere_16 rfl ?_
    refine V.iald (pc := 17) (f := μ 4) hC 4 (nN s) gm_4 hh_s.1 (by omega) (by decide) dX7_notThere_17 ?_
    refine V.if_ne (pc := 18) 26 hC dX7_notThere_18 (by decide) (fun c_18 => ?_) (fun c_18 => ?_)
    · refine V.iconst (pc := 26) 0 hC dX7_notThere_26 (by decide) ?_
      exact hR 0 () _ _ dX7_notThere_27 rfl (ri (by rw [whyS, if_neg (not_not_intro c_4), if_neg c_18]))
    · refine V.ldc (pc := 21) (v := (-1000000002)) hC cn_X7_190 dX7_notThere_21 ?_
      refine V.goto (pc := 23) 27 hC dX7_notThere_23 (by decide) ?_
      exact hR (-1000000002) () _ _ dX7_notThere_27 rfl (ri (by rw [whyS, if_neg (not_not_intro c_4), if_pos c_18]))
  · refine V.ldc (pc := 7) (v := (-1000000001)) hC cn_X7_55 dX7_notThere_7 ?_
    refine V.goto (pc := 9) 27 hC dX7_notThere_9 (by decide) ?_
    exact hR (-1000000001) () _ _ dX7_notThere_27 rfl (ri (by rw [whyS, if_pos c_4]))
set_option maxHeartbeats 4000000 in
set_option maxRecDepth 100000 in
theorem c_X7_fits {l : Launch} {D : va_G} {k : Nat → ClassId} {g b : Nat → Nat} (μ ν : St) (s : Int32) (hI : Inv (μ 0)) (hS : ∀ s, s < 4 → isN (μ 5 s) 24) : Ct l D k g yX7_fits cX7_fits 7 (some .int) 3 63 [.ref (b 20), .int s] (S := St) (wM k b μ ν) (fun uu => wM k b uu ν) (fun vv uu => vv = some (.int ((op_fits s μ).1)) ∧ uu = (op_fits s μ).2) := by
  refine Ct.ofI RX7 rfl (by decide +kernel) (Nat.le_of_ble_eq_true rfl) (fun X hC hR => ?_)
  have hb4 := hI.hb; have hb8 := hI.mb; have hb6 := hI.pb; have hbm := hI.ob0; have hbt := hI.bb; have hbw := hI.wb
  show V X (wM k b μ ν) [(0, .ref (b 20)), (1, .int s)] [] 0
  refine V.aload_n (pc := 0) 0 hC dX7_fits_0 rfl ?_
  refine V.iload_n (pc := 1) 1 hC dX7_fits_1 rfl ?_
  refine V.callV0 (pc := 2) (as := [.int s]) hC (c_X7_notThere μ ν s ) mu_X7_notThere ml_X7_203 (by decide) ⟨0, 7, TX7, 20, _, rfl, gm_0⟩ rfl (Nat.le_of_ble_eq_true rfl) dX7_fits_2 ?_
  rintro _ _ rfl
  show V X (wM k b μ ν) [(0, .ref (b 20)), (1, .int s)] [.int (whyS μ s)] 5
  by_cases sA : shtS s
  · by_cases sB : μ 4 (nN s) = 0
    · refine V.eqi (y := (-1000000002)) (by rw [whyS, if_neg (not_not_intro sA), if_pos sB]) ?_
      refine V.istore_n (pc := 5) [(2, .int (-1000000002)), (0, .ref (b 20)), (1, .int s)] hC dX7_fits_5 (by decide) rfl ?_
      refine V.iload_n (pc := 6) 0 hC dX7_fits_6 rfl ?_
      refine V.if_eq (pc := 7) 16 hC dX7_fits_7 (by decide) (fun c_7 => ?_) (fun c_7 => ?_)
      · exact absurd c_7 (by decide)
      · refine V.aload_n (pc := 10) 1 hC dX7_fits_10 rfl ?_
        refine V.iload_n (pc := 11) 0 hC dX7_fits_11 rfl ?_
        refine V.callV0 (pc := 12) (as := [.int (-1000000002)]) hC (c_X7_error μ ν 2 (-1000000002) (by omega) (by decide)) mu_X7_error ml_X7_56 (by decide) ⟨0, 7, TX7, 20, _, rfl, gm_0⟩ rfl (Nat.le_of_ble_eq_true rfl) dX7_fits_12 ?_
        rintro _ _ rfl
        show V X (wM k b (va_up μ 3 (upd (μ 3) 2 (μ 3 2 + 1))) ν) [(2, .int (-1000000002)), (0, .ref (b 20)), (1, .int s)] [.int (-1000000002)] 15
        exact hR (-1000000002) ((va_up μ 3 (upd (μ 3) 2 (μ 3 2 + 1)))) _ _ dX7_fits_15 rfl (opr (by rw [op_fits, if_neg (not_not_intro sA), if_pos sB, er_2]))
    · refine V.eqi (y := 0) (by rw [whyS, if_neg (not_not_intro sA), if_neg sB]) ?_
      refine V.istore_n (pc := 5) [(2, .int 0), (0, .ref (b 20)), (1, .int s)] hC dX7_fits_5 (by decide) rfl ?_
      refine V.iload_n (pc := 6) 0 hC dX7_fits_6 rfl ?_
      refine V.if_eq (pc := 7) 16 hC dX7_fits_7 (by decide) (fun c_7 => ?_) (fun c_7 => ?_)
      · have nc_7 : 0 = 0 := (neq (nl 0) (nl 0) (by omega) (by omega)).mp c_7
        have hh_s := inS_c sA (nl 3) (by omega)
        have hs24 := (hS (nN s) (by omega)).2
        refine V.iconst (pc := 16) 0 hC dX7_fits_16 (by decide) ?_
        refine V.istore_n (pc := 17) [(3, .int 0), (2, .int 0), (0, .ref (b 20)), (1, .int s)] hC dX7_fits_17 (by decide) rfl ?_
        refine V.iconst (pc := 18) 0 hC dX7_fits_18 (by decide) ?_
        refine V.istore (pc := 19) [(4, .int 0), (3, .int 0), (2, .int 0), (0, .ref (b 20)), (1, .int s)] hC dX7_fits_19 (by decide) rfl ?_
        have loop_21 : ∀ (n : Nat) (i : Nat) (set : Int32), i + n = nN (μ 0 2) → run (fitF μ s) (nN (μ 0 2)) 0 0 = run (fitF μ s) n i set → V X (wM k b μ ν) [(0, .ref (b 20)), (1, .int s), (3, .int set), (4, .int (nI i))] [] 21 := by
          intro n
          induction n with
          | zero =>
            intro i set hi hv
            refine V.iload (pc := 21) 3 hC dX7_fits_21 rfl ?_
            refine V.aload_n (pc := 23) 0 hC dX7_fits_23 rfl ?_
            refine V.get (pc := 24) (v := .ref (b 0)) hC cf_X7 0 0 fl_X7_9 (by decide) gm_0 rfl dX7_fits_24 ?_
            refine V.iconst (pc := 27) 2 hC dX7_fits_27 (by decide) ?_
            refine V.iald (pc := 28) (f := μ 0) hC 1 2 gm_1 (nl 2) (by omega) (by decide) dX7_fits_28 ?_
            refine V.icmp_ge (pc := 29) 119 hC dX7_fits_29 (by decide) (fun c_29 => ?_) (fun c_29 => ?_)
            · have nc_29 : nN (μ 0 2) ≤ i := (nle hI.hn rfl (by omega) (by omega)).mp c_29
              refine V.iload_n (pc := 119) 2 hC dX7_fits_119 rfl ?_
              exact hR set (μ) _ _ dX7_fits_120 rfl (opr (by rw [op_fits, if_neg (not_not_intro sA), if_neg sB, hv]; rfl))
            · have nc_29 : ¬ (nN (μ 0 2) ≤ i) := fun z => c_29 ((nle hI.hn rfl (by omega) (by omega)).mpr z)
              exfalso; omega
          | succ n ih =>
            intro i set hi hv
            refine V.iload (pc := 21) 3 hC dX7_fits_21 rfl ?_
            refine V.aload_n (pc := 23) 0 hC dX7_fits_23 rfl ?_
            refine V.get (pc := 24) (v := .ref (b 0)) hC cf_X7 0 0 fl_X7_9 (by decide) gm_0 rfl dX7_fits_24 ?_
            refine V.iconst (pc := 27) 2 hC dX7_fits_27 (by decide) ?_
            refine V.iald (pc := 28) (f := μ 0) hC 1 2 gm_1 (nl 2) (by omega) (by decide) dX7_fits_28 ?_
            refine V.icmp_ge (pc := 29) 119 hC dX7_fits_29 (by decide) (fun c_29 => ?_) (fun c_29 => ?_)
            · have nc_29 : nN (μ 0 2) ≤ i := (nle hI.hn rfl (by omega) (by omega)).mp c_29
              exfalso; omega
            · have nc_29 : ¬ (nN (μ 0 2) ≤ i) := fun z => c_29 ((nle hI.hn rfl (by omega) (by omega)).mpr z)
              refine V.iconst (pc := 32) 1 hC dX7_fits_32 (by decide) ?_
              refine V.istore (pc := 33) [(5, .int 1), (0, .ref (b 20)), (1, .int s), (3, .int set), (4, .int (nI i))] hC dX7_fits_33 (by decide) rfl ?_
              refine V.iconst (pc := 35) 0 hC dX7_fits_35 (by decide) ?_
              refine V.istore (pc := 36) [(6, .int 0), (5, .int 1), (0, .ref (b 20)), (1, .int s), (3, .int set), (4, .int (nI i))] hC dX7_fits_36 (by decide) rfl ?_
              have loop_38 : ∀ (n : Nat) (j : Nat) (v : Int32), j + n = nN (μ 5 (nN s)) → allF (fun j => decide (μ 6 (24 * nN s + j) = markS (μ 0) i (μ 0 0 + nI j))) (nN (μ 5 (nN s))) 0 = (decide (¬ v = 0) && allF (fun j => decide (μ 6 (24 * nN s + j) = markS (μ 0) i (μ 0 0 + nI j))) n j) → V X (wM k b μ ν) [(0, .ref (b 20)), (1, .int s), (3, .int set), (4, .int (nI i)), (5, .int v), (6, .int (nI j))] [] 38 := by
                intro n
                induction n with
                | zero =>
                  intro j v hj hb
                  refine V.iload (pc := 38) 5 hC dX7_fits_38 rfl ?_
                  refine V.aload_n (pc := 40) 0 hC dX7_fits_40 rfl ?_
                  refine V.get (pc := 41) (v := .ref (b 5)) hC cf_X7 0 5 fl_X7_22 (by decide) gm_0 rfl dX7_fits_41 ?_
                  refine V.iload_n (pc := 44) 1 hC dX7_fits_44 rfl ?_
                  refine V.iald (pc := 45) (f := μ 5) hC 5 (nN s) gm_5 hh_s.1 (by omega) (by decide) dX7_fits_45 ?_
                  refine V.icmp_ge (pc := 46) 97 hC dX7_fits_46 (by decide) (fun c_46 => ?_) (fun c_46 => ?_)
                  · have nc_46 : nN (μ 5 (nN s)) ≤ j := (nle ((hS _ (by omega)).1) rfl (by omega) (by omega)).mp c_46
                    refine V.iload_n (pc := 97) 2 hC dX7_fits_97 rfl ?_
                    refine V.iload (pc := 98) 4 hC dX7_fits_98 rfl ?_
                    refine V.if_eq (pc := 100) 110 hC dX7_fits_100 (by decide) (fun c_100 => ?_) (fun c_100 => ?_)
                    · refine V.iconst (pc := 110) 0 hC dX7_fits_110 (by decide) ?_
                      refine V.ior (pc := 111) hC dX7_fits_111 ?_
                      refine V.istore_n (pc := 112) [(3, .int (set ||| 0)), (0, .ref (b 20)), (1, .int s), (4, .int (nI i)), (5, .int v), (6, .int (nI j))] hC dX7_fits_112 (by decide) rfl ?_
                      refine V.iinc (pc := 113) 3 (nI (i + 1)) [(4, .int (nI (i + 1))), (3, .int (set ||| 0)), (0, .ref (b 20)), (1, .int s), (5, .int v), (6, .int (nI j))] hC dX7_fits_113 rfl (ncast (nadd rfl (nl 1)) (by omega)) (by decide) rfl ?_
                      refine V.goto (pc := 116) 21 hC dX7_fits_116 (by decide) ?_
                      exact V.sub [2, 3, 1, 0] rfl (ih (i + 1) (set ||| 0) (by omega) (run_next hv (by show set ||| (if allF (fun j => decide (μ 6 (24 * nN s + j) = markS (μ 0) i (μ 0 0 + nI j))) (nN (μ 5 (nN s))) 0 = true then b1 (nI i) else 0) = _; rw [if_neg (by rw [hb]; simp [allF, c_100])] <;> rfl)))
                    · refine V.iconst (pc := 103) 1 hC dX7_fits_103 (by decide) ?_
                      refine V.iload (pc := 104) 3 hC dX7_fits_104 rfl ?_
                      refine V.ishl (pc := 106) hC dX7_fits_106 ?_
                      refine V.goto (pc := 107) 111 hC dX7_fits_107 (by decide) ?_
                      refine V.ior (pc := 111) hC dX7_fits_111 ?_
                      refine V.istore_n (pc := 112) [(3, .int (set ||| (1 <<< ((nI i) &&& 31)))), (0, .ref (b 20)), (1, .int s), (4, .int (nI i)), (5, .int v), (6, .int (nI j))] hC dX7_fits_112 (by decide) rfl ?_
                      refine V.iinc (pc := 113) 3 (nI (i + 1)) [(4, .int (nI (i + 1))), (3, .int (set ||| (1 <<< ((nI i) &&& 31)))), (0, .ref (b 20)), (1, .int s), (5, .int v), (6, .int (nI j))] hC dX7_fits_113 rfl (ncast (nadd rfl (nl 1)) (by omega)) (by decide) rfl ?_
                      refine V.goto (pc := 116) 21 hC dX7_fits_116 (by decide) ?_
                      exact V.sub [2, 3, 1, 0] rfl (ih (i + 1) (set ||| (1 <<< ((nI i) &&& 31))) (by omega) (run_next hv (by show set ||| (if allF (fun j => decide (μ 6 (24 * nN s + j) = markS (μ 0) i (μ 0 0 + nI j))) (nN (μ 5 (nN s))) 0 = true then b1 (nI i) else 0) = _; rw [if_pos (hb.trans (by simp [allF, c_100]))] <;> rfl)))
                  · have nc_46 : ¬ (nN (μ 5 (nN s)) ≤ j) := fun z => c_46 ((nle ((hS _ (by omega)).1) rfl (by omega) (by omega)).mpr z)
                    exfalso; omega
                | succ n ih =>
                  intro j v hj hb
                  refine V.iload (pc := 38) 5 hC dX7_fits_38 rfl ?_
                  refine V.aload_n (pc := 40) 0 hC dX7_fits_40 rfl ?_
                  refine V.get (pc := 41) (v := .ref (b 5)) hC cf_X7 0 5 fl_X7_22 (by decide) gm_0 rfl dX7_fits_41 ?_
                  refine V.iload_n (pc := 44) 1 hC dX7_fits_44 rfl ?_
                  refine V.iald (pc := 45) (f := μ 5) hC 5 (nN s) gm_5 hh_s.1 (by omega) (by decide) dX7_fits_45 ?_
                  refine V.icmp_ge (pc := 46) 97 hC dX7_fits_46 (by decide) (fun c_46 => ?_) (fun c_46 => ?_)
                  · have nc_46 : nN (μ 5 (nN s)) ≤ j := (nle ((hS _ (by omega)).1) rfl (by omega) (by omega)).mp c_46
                    exfalso; omega
                  · have nc_46 : ¬ (nN (μ 5 (nN s)) ≤ j) := fun z => c_46 ((nle ((hS _ (by omega)).1) rfl (by omega) (by omega)).mpr z)
                    refine V.iload (pc := 49) 4 hC dX7_fits_49 rfl ?_
                    refine V.if_eq (pc := 51) 88 hC dX7_fits_51 (by decide) (fun c_51 => ?_) (fun c_51 => ?_)
                    · refine V.iconst (pc := 88) 0 hC dX7_fits_88 (by decide) ?_
                      refine V.istore (pc := 89) [(5, .int 0), (0, .ref (b 20)), (1, .int s), (3, .int set), (4, .int (nI i)), (6, .int (nI j))] hC dX7_fits_89 (by decide) rfl ?_
                      refine V.iinc (pc := 91) 5 (nI (j + 1)) [(6, .int (nI (j + 1))), (5, .int 0), (0, .ref (b 20)), (1, .int s), (3, .int set), (4, .int (nI i))] hC dX7_fits_91 rfl (ncast (nadd rfl (nl 1)) (by omega)) (by decide) rfl ?_
                      refine V.goto (pc := 94) 38 hC dX7_fits_94 (by decide) ?_
                      exact V.sub [2, 3, 4, 5, 1, 0] rfl (ih (j + 1) 0 (by omega) (hb.trans (by simp [allF, c_51])))
                    · refine V.aload_n (pc := 54) 0 hC dX7_fits_54 rfl ?_
                      refine V.get (pc := 55) (v := .ref (b 6)) hC cf_X7 0 6 fl_X7_25 (by decide) gm_0 rfl dX7_fits_55 ?_
                      refine V.bipush (pc := 58) 24 hC dX7_fits_58 (by decide) ?_
                      refine V.iload_n (pc := 60) 1 hC dX7_fits_60 rfl ?_
                      refine V.imul (pc := 61) hC dX7_fits_61 ?_
                      refine V.iload (pc := 62) 5 hC dX7_fits_62 rfl ?_
                      refine V.iadd (pc := 64) hC dX7_fits_64 ?_
                      refine V.iald (pc := 65) (f := μ 6) hC 6 (24 * nN s + j) gm_6 (ncast (b := 24 * nN s + j) (nadd (nmul (nl 24) hh_s.1) rfl) (by omega)) (by omega) (by decide) dX7_fits_65 ?_
                      refine V.aload_n (pc := 66) 0 hC dX7_fits_66 rfl ?_
                      refine V.iload (pc := 67) 3 hC dX7_fits_67 rfl ?_
                      refine V.aload_n (pc := 69) 0 hC dX7_fits_69 rfl ?_
                      refine V.get (pc := 70) (v := .ref (b 0)) hC cf_X7 0 0 fl_X7_9 (by decide) gm_0 rfl dX7_fits_70 ?_
                      refine V.iconst (pc := 73) 0 hC dX7_fits_73 (by decide) ?_
                      refine V.iald (pc := 74) (f := μ 0) hC 1 0 gm_1 (nl 0) (by omega) (by decide) dX7_fits_74 ?_
                      refine V.iload (pc := 75) 5 hC dX7_fits_75 rfl ?_
                      refine V.iadd (pc := 77) hC dX7_fits_77 ?_
                      refine V.callV0 (pc := 78) (as := [.int (nI i), .int ((μ 0 0) + (nI j))]) hC (c_X7_markOf μ ν i ((μ 0 0) + (nI j)) hI (by omega)) mu_X7_markOf ml_X7_51 (by decide) ⟨0, 7, TX7, 20, _, rfl, gm_0⟩ rfl (Nat.le_of_ble_eq_true rfl) dX7_fits_78 ?_
                      rintro _ _ rfl
                      show V X (wM k b μ ν) [(0, .ref (b 20)), (1, .int s), (3, .int set), (4, .int (nI i)), (5, .int v), (6, .int (nI j))] [.int (markS (μ 0) i ((μ 0 0) + (nI j))), .int (μ 6 (24 * nN s + j))] 81
                      refine V.icmp_ne (pc := 81) 88 hC dX7_fits_81 (by decide) (fun c_81 => ?_) (fun c_81 => ?_)
                      · refine V.iconst (pc := 88) 0 hC dX7_fits_88 (by decide) ?_
                        refine V.istore (pc := 89) [(5, .int 0), (0, .ref (b 20)), (1, .int s), (3, .int set), (4, .int (nI i)), (6, .int (nI j))] hC dX7_fits_89 (by decide) rfl ?_
                        refine V.iinc (pc := 91) 5 (nI (j + 1)) [(6, .int (nI (j + 1))), (5, .int 0), (0, .ref (b 20)), (1, .int s), (3, .int set), (4, .int (nI i))] hC dX7_fits_91 rfl (ncast (nadd rfl (nl 1)) (by omega)) (by decide) rfl ?_
                        refine V.goto (pc := 94) 38 hC dX7_fits_94 (by decide) ?_
                        exact V.sub [2, 3, 4, 5, 1, 0] rfl (ih (j + 1) 0 (by omega) (hb.trans (by simp [allF, c_51, c_81])))
                      · refine V.iconst (pc := 84) 1 hC dX7_fits_84 (by decide) ?_
                        refine V.goto (pc := 85) 89 hC dX7_fits_85 (by decide) ?_
                        refine V.istore (pc := 89) [(5, .int 1), (0, .ref (b 20)), (1, .int s), (3, .int set), (4, .int (nI i)), (6, .int (nI j))] hC dX7_fits_89 (by decide) rfl ?_
                        refine V.iinc (pc := 91) 5 (nI (j + 1)) [(6, .int (nI (j + 1))), (5, .int 1), (0, .ref (b 20)), (1, .int s), (3, .int set), (4, .int (nI i))] hC dX7_fits_91 rfl (ncast (nadd rfl (nl 1)) (by omega)) (by decide) rfl ?_
                        refine V.goto (pc := 94) 38 hC dX7_fits_94 (by decide) ?_
                        exact V.sub [2, 3, 4, 5, 1, 0] rfl (ih (j + 1) 1 (by omega) (hb.trans (by simp [allF, c_51, c_81])))
              exact V.sub [2, 3, 4, 5, 1, 0] rfl (loop_38 (nN (μ 5 (nN s))) 0 1 (by omega) (by simp))
        exact V.sub [3, 4, 1, 0] rfl (loop_21 (nN (μ 0 2)) 0 0 (by omega) rfl)
      · have nc_7 : ¬ (0 = 0) := fun z => c_7 ((neq (nl 0) (nl 0) (by omega) (by omega)).mpr z)
        exact absurd c_7 (by decide)
  · refine V.eqi (y := (-1000000001)) (by rw [whyS, if_pos sA]) ?_
    refine V.istore_n (pc := 5) [(2, .int (-1000000001)), (0, .ref (b 20)), (1, .int s)] hC dX7_fits_5 (by decide) rfl ?_
    refine V.iload_n (pc := 6) 0 hC dX7_fits_6 rfl ?_
    refine V.if_eq (pc := 7) 16 hC dX7_fits_7 (by decide) (fun c_7 => ?_) (fun c_7 => ?_)
    · exact absurd c_7 (by decide)
    · refine V.aload_n (pc := 10) 1 hC dX7_fits_10 rfl ?_
      refine V.iload_n (pc := 11) 0 hC dX7_fits_11 rfl ?_
      refine V.callV0 (pc := 12) (as := [.int (-1000000001)]) hC (c_X7_error μ ν 1 (-1000000001) (by omega) (by decide)) mu_X7_error ml_X7_56 (by decide) ⟨0, 7, TX7, 20, _, rfl, gm_0⟩ rfl (Nat.le_of_ble_eq_true rfl) dX7_fits_12 ?_
      rintro _ _ rfl
      show V X (wM k b (va_up μ 3 (upd (μ 3) 1 (μ 3 1 + 1))) ν) [(2, .int (-1000000001)), (0, .ref (b 20)), (1, .int s)] [.int (-1000000001)] 15
      exact hR (-1000000001) ((va_up μ 3 (upd (μ 3) 1 (μ 3 1 + 1)))) _ _ dX7_fits_15 rfl (opr (by rw [op_fits, if_pos sA, er_1]))
set_option maxHeartbeats 4000000 in
set_option maxRecDepth 100000 in
theorem c_X7_body {l : Launch} {D : va_G} {k : Nat → ClassId} {g b : Nat → Nat} (μ ν : St) (i : Int32) (hI : Inv (μ 0)) (hT : isN (μ 18 0) 30) : Ct l D k g yX7_body cX7_body 2 (some .int) 1 22 [.ref (b 20), .int i] (S := St) (wM k b μ ν) (fun uu => wM k b uu ν) (fun vv uu => vv = some (.int ((op_body i μ).1)) ∧ uu = (op_body i μ).2) := by
  refine Ct.ofI RX7 rfl (by decide +kernel) (Nat.le_of_ble_eq_true rfl) (fun X hC hR => ?_)
  have hb4 := hI.hb; have hb8 := hI.mb; have hb6 := hI.pb; have hbm := hI.ob0; have hbt := hI.bb; have hbw := hI.wb
  have hT2 := hT.2
  show V X (wM k b μ ν) [(0, .ref (b 20)), (1, .int i)] [] 0
  refine V.iload_n (pc := 0) 1 hC dX7_body_0 rfl ?_
  refine V.iconst (pc := 1) 0 hC dX7_body_1 (by decide) ?_
  refine V.aload_n (pc := 2) 0 hC dX7_body_2 rfl ?_
  refine V.get (pc := 3) (v := .int (μ 18 0)) hC cf_X7 0 18 fl_X7_206 (by decide) gm_0 rfl dX7_body_3 ?_
  refine V.iconst (pc := 6) 1 hC dX7_body_6 (by decide) ?_
  refine V.isub (pc := 7) hC dX7_body_7 ?_
  refine V.callS0 (pc := 8) (as := [.int i, .int 0, .int ((μ 18 0) - 1)]) hC (c_X7_in i 0 ((μ 18 0) - 1) ) ms_X7_in ml_X7_47 (by decide) rfl (Nat.le_of_ble_eq_true rfl) dX7_body_8 ?_
  rintro _ _ rfl
  show V X (wM k b μ ν) [(0, .ref (b 20)), (1, .int i)] [.int (bI (inS i 0 ((μ 18 0) - 1)))] 11
  refine V.if_eq_b (P := inS i 0 ((μ 18 0) - 1)) (pc := 11) 23 hC dX7_body_11 (by decide) (fun c_11 => ?_) (fun c_11 => ?_)
  · refine V.aload_n (pc := 23) 0 hC dX7_body_23 rfl ?_
    refine V.ldc (pc := 24) (v := (-1000000002)) hC cn_X7_190 dX7_body_24 ?_
    refine V.callV0 (pc := 26) (as := [.int (-1000000002)]) hC (c_X7_error μ ν 2 (-1000000002) (by omega) (by decide)) mu_X7_error ml_X7_56 (by decide) ⟨0, 7, TX7, 20, _, rfl, gm_0⟩ rfl (Nat.le_of_ble_eq_true rfl) dX7_body_26 ?_
    rintro _ _ rfl
    show V X (wM k b (va_up μ 3 (upd (μ 3) 2 (μ 3 2 + 1))) ν) [(0, .ref (b 20)), (1, .int i)] [.int (-1000000002)] 29
    exact hR (-1000000002) ((va_up μ 3 (upd (μ 3) 2 (μ 3 2 + 1)))) _ _ dX7_body_29 rfl (opr (by rw [op_body, if_neg c_11, er_2]))
  · have hh_i := inS_n c_11 hT.1 (by omega)
    refine V.aload_n (pc := 14) 0 hC dX7_body_14 rfl ?_
    refine V.get (pc := 15) (v := .ref (b 17)) hC cf_X7 0 17 fl_X7_43 (by decide) gm_0 rfl dX7_body_15 ?_
    refine V.iload_n (pc := 18) 1 hC dX7_body_18 rfl ?_
    refine V.iald (pc := 19) (f := μ 17) hC 12 (nN i) gm_12 hh_i.1 (by omega) (by decide) dX7_body_19 ?_
    refine V.goto (pc := 20) 29 hC dX7_body_20 (by decide) ?_
    exact hR (μ 17 (nN i)) (μ) _ _ dX7_body_29 rfl (opr (by rw [op_body, if_pos c_11]))
set_option maxHeartbeats 4000000 in
set_option maxRecDepth 100000 in
theorem c_X7_sheet {l : Launch} {D : va_G} {k : Nat → ClassId} {g b : Nat → Nat} (μ ν : St) (s bt m : Int32) (hI : Inv (μ 0)) : Ct l D k g yX7_sheet cX7_sheet 5 (some .int) 2 42 [.ref (b 20), .int s, .int bt, .int m] (S := St) (wM k b μ ν) (fun uu => wM k b uu ν) (fun vv uu => vv = some (.int ((op_sheet s bt m μ).1)) ∧ uu = (op_sheet s bt m μ).2) := by
  refine Ct.ofI RX7 rfl (by decide +kernel) (Nat.le_of_ble_eq_true rfl) (fun X hC hR => ?_)
  have hb4 := hI.hb; have hb8 := hI.mb; have hb6 := hI.pb; have hbm := hI.ob0; have hbt := hI.bb; have hbw := hI.wb
  show V X (wM k b μ ν) [(0, .ref (b 20)), (1, .int s), (2, .int bt), (3, .int m)] [] 0
  refine V.iload_n (pc := 0) 1 hC dX7_sheet_0 rfl ?_
  refine V.callS0 (pc := 1) (as := [.int s]) hC (c_X7_isSheet s ) ms_X7_isSheet ml_X7_246 (by decide) rfl (Nat.le_of_ble_eq_true rfl) dX7_sheet_1 ?_
  rintro _ _ rfl
  show V X (wM k b μ ν) [(0, .ref (b 20)), (1, .int s), (2, .int bt), (3, .int m)] [.int (bI (inS s 0 3))] 4
  refine V.if_eq_b (P := inS s 0 3) (pc := 4) 29 hC dX7_sheet_4 (by decide) (fun c_4 => ?_) (fun c_4 => ?_)
  · refine V.aload_n (pc := 29) 0 hC dX7_sheet_29 rfl ?_
    refine V.ldc (pc := 30) (v := (-1000000001)) hC cn_X7_55 dX7_sheet_30 ?_
    refine V.callV0 (pc := 32) (as := [.int (-1000000001)]) hC (c_X7_error μ ν 1 (-1000000001) (by omega) (by decide)) mu_X7_error ml_X7_56 (by decide) ⟨0, 7, TX7, 20, _, rfl, gm_0⟩ rfl (Nat.le_of_ble_eq_true rfl) dX7_sheet_32 ?_
    rintro _ _ rfl
    show V X (wM k b (va_up μ 3 (upd (μ 3) 1 (μ 3 1 + 1))) ν) [(0, .ref (b 20)), (1, .int s), (2, .int bt), (3, .int m)] [.int (-1000000001)] 35
    exact hR (-1000000001) ((va_up μ 3 (upd (μ 3) 1 (μ 3 1 + 1)))) _ _ dX7_sheet_35 rfl (opr (by rw [op_sheet, if_pos c_4, er_1]))
  · refine V.iload_n (pc := 7) 2 hC dX7_sheet_7 rfl ?_
    refine V.if_eq (pc := 8) 36 hC dX7_sheet_8 (by decide) (fun c_8 => ?_) (fun c_8 => ?_)
    · refine V.iload_n (pc := 36) 2 hC dX7_sheet_36 rfl ?_
      refine V.if_le (pc := 37) 51 hC dX7_sheet_37 (by decide) (fun c_37 => ?_) (fun c_37 => ?_)
      · refine V.iload_n (pc := 51) 2 hC dX7_sheet_51 rfl ?_
        refine V.if_le (pc := 52) 68 hC dX7_sheet_52 (by decide) (fun c_52 => ?_) (fun c_52 => ?_)
        · have hh_s := inS_c c_4 (nl 3) (by omega)
          refine V.aload_n (pc := 68) 0 hC dX7_sheet_68 rfl ?_
          refine V.get (pc := 69) (v := .ref (b 4)) hC cf_X7 0 4 fl_X7_19 (by decide) gm_0 rfl dX7_sheet_69 ?_
          refine V.iload_n (pc := 72) 1 hC dX7_sheet_72 rfl ?_
          refine V.iload_n (pc := 73) 2 hC dX7_sheet_73 rfl ?_
          refine V.iast (pc := 74) (f := μ 4) hC 4 (nN s) (wM k b (va_up μ 4 (upd (μ 4) (nN s) bt)) ν) gm_4 hh_s.1 (by omega) (by decide) rfl dX7_sheet_74 ?_
          refine V.aload_n (pc := 75) 0 hC dX7_sheet_75 rfl ?_
          refine V.get (pc := 76) (v := .ref (b 5)) hC cf_X7 0 5 fl_X7_22 (by decide) gm_0 rfl dX7_sheet_76 ?_
          refine V.iload_n (pc := 79) 1 hC dX7_sheet_79 rfl ?_
          refine V.iload_n (pc := 80) 2 hC dX7_sheet_80 rfl ?_
          refine V.if_ne (pc := 81) 88 hC dX7_sheet_81 (by decide) (fun c_81 => ?_) (fun c_81 => ?_)
          · exact absurd c_8 c_81
          · refine V.iconst (pc := 84) 0 hC dX7_sheet_84 (by decide) ?_
            refine V.goto (pc := 85) 89 hC dX7_sheet_85 (by decide) ?_
            refine V.iast (pc := 89) (f := μ 5) hC 5 (nN s) (wM k b (va_up (va_up μ 4 (upd (μ 4) (nN s) bt)) 5 (upd (μ 5) (nN s) 0)) ν) gm_5 hh_s.1 (by omega) (by decide) rfl dX7_sheet_89 ?_
            refine V.iconst (pc := 90) 0 hC dX7_sheet_90 (by decide) ?_
            refine V.istore (pc := 91) [(4, .int 0), (0, .ref (b 20)), (1, .int s), (2, .int bt), (3, .int m)] hC dX7_sheet_91 (by decide) rfl ?_
            have loop_93 : ∀ (n : Nat) (i : Nat) (f : Rw), i + n = 24 → f = clrU (μ 6) (24 * nN s) i → V X (wM k b (va_up (va_up (va_up μ 4 (upd (μ 4) (nN s) bt)) 5 (upd (μ 5) (nN s) 0)) 6 f) ν) [(0, .ref (b 20)), (1, .int s), (4, .int (nI i))] [] 93 := by
              intro n
              induction n with
              | zero =>
                intro i f hi hf
                refine V.iload (pc := 93) 2 hC dX7_sheet_93 rfl ?_
                refine V.bipush (pc := 95) 24 hC dX7_sheet_95 (by decide) ?_
                refine V.icmp_ge (pc := 97) 119 hC dX7_sheet_97 (by decide) (fun c_97 => ?_) (fun c_97 => ?_)
                · have nc_97 : 24 ≤ i := (nle (nl 24) rfl (by omega) (by omega)).mp c_97
                  refine V.iconst (pc := 119) 1 hC dX7_sheet_119 (by decide) ?_
                  exact hR 1 ((va_up (va_up (va_up μ 4 (upd (μ 4) (nN s) bt)) 5 (upd (μ 5) (nN s) 0)) 6 f)) _ _ dX7_sheet_120 rfl (opr (by rw [op_sheet, if_neg (not_not_intro c_4), if_neg (fun q => q.1 c_8), if_neg (fun q => i_ge c_37 q.1), if_neg (fun q => i_ge c_52 q.1), if_pos c_81, show clrS (μ 6) (24 * nN s) = f from by rw [hf, show i = 24 by omega]; rfl]))
                · have nc_97 : ¬ (24 ≤ i) := fun z => c_97 ((nle (nl 24) rfl (by omega) (by omega)).mpr z)
                  exfalso; omega
              | succ n ih =>
                intro i f hi hf
                refine V.iload (pc := 93) 2 hC dX7_sheet_93 rfl ?_
                refine V.bipush (pc := 95) 24 hC dX7_sheet_95 (by decide) ?_
                refine V.icmp_ge (pc := 97) 119 hC dX7_sheet_97 (by decide) (fun c_97 => ?_) (fun c_97 => ?_)
                · have nc_97 : 24 ≤ i := (nle (nl 24) rfl (by omega) (by omega)).mp c_97
                  exfalso; omega
                · have nc_97 : ¬ (24 ≤ i) := fun z => c_97 ((nle (nl 24) rfl (by omega) (by omega)).mpr z)
                  refine V.aload_n (pc := 100) 0 hC dX7_sheet_100 rfl ?_
                  refine V.get (pc := 101) (v := .ref (b 6)) hC cf_X7 0 6 fl_X7_25 (by decide) gm_0 rfl dX7_sheet_101 ?_
                  refine V.bipush (pc := 104) 24 hC dX7_sheet_104 (by decide) ?_
                  refine V.iload_n (pc := 106) 1 hC dX7_sheet_106 rfl ?_
                  refine V.imul (pc := 107) hC dX7_sheet_107 ?_
                  refine V.iload (pc := 108) 2 hC dX7_sheet_108 rfl ?_
                  refine V.iadd (pc := 110) hC dX7_sheet_110 ?_
                  refine V.iconst (pc := 111) 0 hC dX7_sheet_111 (by decide) ?_
                  refine V.iast (pc := 112) (f := f) hC 6 (24 * nN s + i) (wM k b (va_up (va_up (va_up μ 4 (upd (μ 4) (nN s) bt)) 5 (upd (μ 5) (nN s) 0)) 6 (upd f (24 * nN s + i) 0)) ν) gm_6 (ncast (b := 24 * nN s + i) (nadd (nmul (nl 24) hh_s.1) rfl) (by omega)) (by omega) (by decide) rfl dX7_sheet_112 ?_
                  refine V.iinc (pc := 113) 2 (nI (i + 1)) [(4, .int (nI (i + 1))), (0, .ref (b 20)), (1, .int s)] hC dX7_sheet_113 rfl (ncast (nadd rfl (nl 1)) (by omega)) (by decide) rfl ?_
                  refine V.goto (pc := 116) 93 hC dX7_sheet_116 (by decide) ?_
                  exact V.sub [1, 2, 0] rfl (ih (i + 1) (upd f (24 * nN s + i) 0) (by omega) (by rw [hf]; exact clr_s))
            exact V.sub [1, 2, 0] rfl (loop_93 24 0 (μ 6) (by omega) clr_0)
        · exact absurd c_37 c_52
      · refine V.iload_n (pc := 40) 3 hC dX7_sheet_40 rfl ?_
        refine V.if_ge (pc := 41) 51 hC dX7_sheet_41 (by decide) (fun c_41 => ?_) (fun c_41 => ?_)
        · refine V.iload_n (pc := 51) 2 hC dX7_sheet_51 rfl ?_
          refine V.if_le (pc := 52) 68 hC dX7_sheet_52 (by decide) (fun c_52 => ?_) (fun c_52 => ?_)
          · exact absurd c_52 c_37
          · refine V.iload_n (pc := 55) 3 hC dX7_sheet_55 rfl ?_
            refine V.bipush (pc := 56) 24 hC dX7_sheet_56 (by decide) ?_
            refine V.icmp_le (pc := 58) 68 hC dX7_sheet_58 (by decide) (fun c_58 => ?_) (fun c_58 => ?_)
            · have hh_s := inS_c c_4 (nl 3) (by omega)
              refine V.aload_n (pc := 68) 0 hC dX7_sheet_68 rfl ?_
              refine V.get (pc := 69) (v := .ref (b 4)) hC cf_X7 0 4 fl_X7_19 (by decide) gm_0 rfl dX7_sheet_69 ?_
              refine V.iload_n (pc := 72) 1 hC dX7_sheet_72 rfl ?_
              refine V.iload_n (pc := 73) 2 hC dX7_sheet_73 rfl ?_
              refine V.iast (pc := 74) (f := μ 4) hC 4 (nN s) (wM k b (va_up μ 4 (upd (μ 4) (nN s) bt)) ν) gm_4 hh_s.1 (by omega) (by decide) rfl dX7_sheet_74 ?_
              refine V.aload_n (pc := 75) 0 hC dX7_sheet_75 rfl ?_
              refine V.get (pc := 76) (v := .ref (b 5)) hC cf_X7 0 5 fl_X7_22 (by decide) gm_0 rfl dX7_sheet_76 ?_
              refine V.iload_n (pc := 79) 1 hC dX7_sheet_79 rfl ?_
              refine V.iload_n (pc := 80) 2 hC dX7_sheet_80 rfl ?_
              refine V.if_ne (pc := 81) 88 hC dX7_sheet_81 (by decide) (fun c_81 => ?_) (fun c_81 => ?_)
              · exact absurd c_8 c_81
              · refine V.iconst (pc := 84) 0 hC dX7_sheet_84 (by decide) ?_
                refine V.goto (pc := 85) 89 hC dX7_sheet_85 (by decide) ?_
                refine V.iast (pc := 89) (f := μ 5) hC 5 (nN s) (wM k b (va_up (va_up μ 4 (upd (μ 4) (nN s) bt)) 5 (upd (μ 5) (nN s) 0)) ν) gm_5 hh_s.1 (by omega) (by decide) rfl dX7_sheet_89 ?_
                refine V.iconst (pc := 90) 0 hC dX7_sheet_90 (by decide) ?_
                refine V.istore (pc := 91) [(4, .int 0), (0, .ref (b 20)), (1, .int s), (2, .int bt), (3, .int m)] hC dX7_sheet_91 (by decide) rfl ?_
                have loop_93 : ∀ (n : Nat) (i : Nat) (f : Rw), i + n = 24 → f = clrU (μ 6) (24 * nN s) i → V X (wM k b (va_up (va_up (va_up μ 4 (upd (μ 4) (nN s) bt)) 5 (upd (μ 5) (nN s) 0)) 6 f) ν) [(0, .ref (b 20)), (1, .int s), (4, .int (nI i))] [] 93 := by
                  intro n
                  induction n with
                  | zero =>
                    intro i f hi hf
                    refine V.iload (pc := 93) 2 hC dX7_sheet_93 rfl ?_
                    refine V.bipush (pc := 95) 24 hC dX7_sheet_95 (by decide) ?_
                    refine V.icmp_ge (pc := 97) 119 hC dX7_sheet_97 (by decide) (fun c_97 => ?_) (fun c_97 => ?_)
                    · have nc_97 : 24 ≤ i := (nle (nl 24) rfl (by omega) (by omega)).mp c_97
                      refine V.iconst (pc := 119) 1 hC dX7_sheet_119 (by decide) ?_
                      exact hR 1 ((va_up (va_up (va_up μ 4 (upd (μ 4) (nN s) bt)) 5 (upd (μ 5) (nN s) 0)) 6 f)) _ _ dX7_sheet_120 rfl (opr (by rw [op_sheet, if_neg (not_not_intro c_4), if_neg (fun q => q.1 c_8), if_neg (fun q => i_ge c_41 q.2), if_neg (fun q => i_ge c_58 q.2), if_pos c_81, show clrS (μ 6) (24 * nN s) = f from by rw [hf, show i = 24 by omega]; rfl]))
                    · have nc_97 : ¬ (24 ≤ i) := fun z => c_97 ((nle (nl 24) rfl (by omega) (by omega)).mpr z)
                      exfalso; omega
                  | succ n ih =>
                    intro i f hi hf
                    refine V.iload (pc := 93) 2 hC dX7_sheet_93 rfl ?_
                    refine V.bipush (pc := 95) 24 hC dX7_sheet_95 (by decide) ?_
                    refine V.icmp_ge (pc := 97) 119 hC dX7_sheet_97 (by decide) (fun c_97 => ?_) (fun c_97 => ?_)
                    · have nc_97 : 24 ≤ i := (nle (nl 24) rfl (by omega) (by omega)).mp c_97
                      exfalso; omega
                    · have nc_97 : ¬ (24 ≤ i) := fun z => c_97 ((nle (nl 24) rfl (by omega) (by omega)).mpr z)
                      refine V.aload_n (pc := 100) 0 hC dX7_sheet_100 rfl ?_
                      refine V.get (pc := 101) (v := .ref (b 6)) hC cf_X7 0 6 fl_X7_25 (by decide) gm_0 rfl dX7_sheet_101 ?_
                      refine V.bipush (pc := 104) 24 hC dX7_sheet_104 (by decide) ?_
                      refine V.iload_n (pc := 106) 1 hC dX7_sheet_106 rfl ?_
                      refine V.imul (pc := 107) hC dX7_sheet_107 ?_
                      refine V.iload (pc := 108) 2 hC dX7_sheet_108 rfl ?_
                      refine V.iadd (pc := 110) hC dX7_sheet_110 ?_
                      refine V.iconst (pc := 111) 0 hC dX7_sheet_111 (by decide) ?_
                      refine V.iast (pc := 112) (f := f) hC 6 (24 * nN s + i) (wM k b (va_up (va_up (va_up μ 4 (upd (μ 4) (nN s) bt)) 5 (upd (μ 5) (nN s) 0)) 6 (upd f (24 * nN s + i) 0)) ν) gm_6 (ncast (b := 24 * nN s + i) (nadd (nmul (nl 24) hh_s.1) rfl) (by omega)) (by omega) (by decide) rfl dX7_sheet_112 ?_
                      refine V.iinc (pc := 113) 2 (nI (i + 1)) [(4, .int (nI (i + 1))), (0, .ref (b 20)), (1, .int s)] hC dX7_sheet_113 rfl (ncast (nadd rfl (nl 1)) (by omega)) (by decide) rfl ?_
                      refine V.goto (pc := 116) 93 hC dX7_sheet_116 (by decide) ?_
                      exact V.sub [1, 2, 0] rfl (ih (i + 1) (upd f (24 * nN s + i) 0) (by omega) (by rw [hf]; exact clr_s))
                exact V.sub [1, 2, 0] rfl (loop_93 24 0 (μ 6) (by omega) clr_0)
            · refine V.aload_n (pc := 61) 0 hC dX7_sheet_61 rfl ?_
              refine V.ldc (pc := 62) (v := (-1000000001)) hC cn_X7_55 dX7_sheet_62 ?_
              refine V.callV0 (pc := 64) (as := [.int (-1000000001)]) hC (c_X7_error μ ν 1 (-1000000001) (by omega) (by decide)) mu_X7_error ml_X7_56 (by decide) ⟨0, 7, TX7, 20, _, rfl, gm_0⟩ rfl (Nat.le_of_ble_eq_true rfl) dX7_sheet_64 ?_
              rintro _ _ rfl
              show V X (wM k b (va_up μ 3 (upd (μ 3) 1 (μ 3 1 + 1))) ν) [(0, .ref (b 20)), (1, .int s), (2, .int bt), (3, .int m)] [.int (-1000000001)] 67
              exact hR (-1000000001) ((va_up μ 3 (upd (μ 3) 1 (μ 3 1 + 1)))) _ _ dX7_sheet_67 rfl (opr (by rw [op_sheet, if_neg (not_not_intro c_4), if_neg (fun q => q.1 c_8), if_neg (fun q => i_ge c_41 q.2), if_pos ⟨i_nle c_52, i_nle c_58⟩, er_1]))
        · refine V.aload_n (pc := 44) 0 hC dX7_sheet_44 rfl ?_
          refine V.ldc (pc := 45) (v := (-1000000003)) hC cn_X7_118 dX7_sheet_45 ?_
          refine V.callV0 (pc := 47) (as := [.int (-1000000003)]) hC (c_X7_error μ ν 3 (-1000000003) (by omega) (by decide)) mu_X7_error ml_X7_56 (by decide) ⟨0, 7, TX7, 20, _, rfl, gm_0⟩ rfl (Nat.le_of_ble_eq_true rfl) dX7_sheet_47 ?_
          rintro _ _ rfl
          show V X (wM k b (va_up μ 3 (upd (μ 3) 3 (μ 3 3 + 1))) ν) [(0, .ref (b 20)), (1, .int s), (2, .int bt), (3, .int m)] [.int (-1000000003)] 50
          exact hR (-1000000003) ((va_up μ 3 (upd (μ 3) 3 (μ 3 3 + 1)))) _ _ dX7_sheet_50 rfl (opr (by rw [op_sheet, if_neg (not_not_intro c_4), if_neg (fun q => q.1 c_8), if_pos ⟨i_nle c_37, i_nle c_41⟩, er_3]))
    · refine V.iload_n (pc := 11) 2 hC dX7_sheet_11 rfl ?_
      refine V.bipush (pc := 12) 8 hC dX7_sheet_12 (by decide) ?_
      refine V.icmp_eq (pc := 14) 36 hC dX7_sheet_14 (by decide) (fun c_14 => ?_) (fun c_14 => ?_)
      · refine V.iload_n (pc := 36) 2 hC dX7_sheet_36 rfl ?_
        refine V.if_le (pc := 37) 51 hC dX7_sheet_37 (by decide) (fun c_37 => ?_) (fun c_37 => ?_)
        · refine V.iload_n (pc := 51) 2 hC dX7_sheet_51 rfl ?_
          refine V.if_le (pc := 52) 68 hC dX7_sheet_52 (by decide) (fun c_52 => ?_) (fun c_52 => ?_)
          · have hh_s := inS_c c_4 (nl 3) (by omega)
            refine V.aload_n (pc := 68) 0 hC dX7_sheet_68 rfl ?_
            refine V.get (pc := 69) (v := .ref (b 4)) hC cf_X7 0 4 fl_X7_19 (by decide) gm_0 rfl dX7_sheet_69 ?_
            refine V.iload_n (pc := 72) 1 hC dX7_sheet_72 rfl ?_
            refine V.iload_n (pc := 73) 2 hC dX7_sheet_73 rfl ?_
            refine V.iast (pc := 74) (f := μ 4) hC 4 (nN s) (wM k b (va_up μ 4 (upd (μ 4) (nN s) bt)) ν) gm_4 hh_s.1 (by omega) (by decide) rfl dX7_sheet_74 ?_
            refine V.aload_n (pc := 75) 0 hC dX7_sheet_75 rfl ?_
            refine V.get (pc := 76) (v := .ref (b 5)) hC cf_X7 0 5 fl_X7_22 (by decide) gm_0 rfl dX7_sheet_76 ?_
            refine V.iload_n (pc := 79) 1 hC dX7_sheet_79 rfl ?_
            refine V.iload_n (pc := 80) 2 hC dX7_sheet_80 rfl ?_
            refine V.if_ne (pc := 81) 88 hC dX7_sheet_81 (by decide) (fun c_81 => ?_) (fun c_81 => ?_)
            · refine V.iload_n (pc := 88) 3 hC dX7_sheet_88 rfl ?_
              refine V.iast (pc := 89) (f := μ 5) hC 5 (nN s) (wM k b (va_up (va_up μ 4 (upd (μ 4) (nN s) bt)) 5 (upd (μ 5) (nN s) m)) ν) gm_5 hh_s.1 (by omega) (by decide) rfl dX7_sheet_89 ?_
              refine V.iconst (pc := 90) 0 hC dX7_sheet_90 (by decide) ?_
              refine V.istore (pc := 91) [(4, .int 0), (0, .ref (b 20)), (1, .int s), (2, .int bt), (3, .int m)] hC dX7_sheet_91 (by decide) rfl ?_
              have loop_93 : ∀ (n : Nat) (i : Nat) (f : Rw), i + n = 24 → f = clrU (μ 6) (24 * nN s) i → V X (wM k b (va_up (va_up (va_up μ 4 (upd (μ 4) (nN s) bt)) 5 (upd (μ 5) (nN s) m)) 6 f) ν) [(0, .ref (b 20)), (1, .int s), (4, .int (nI i))] [] 93 := by
                intro n
                induction n with
                | zero =>
                  intro i f hi hf
                  refine V.iload (pc := 93) 2 hC dX7_sheet_93 rfl ?_
                  refine V.bipush (pc := 95) 24 hC dX7_sheet_95 (by decide) ?_
                  refine V.icmp_ge (pc := 97) 119 hC dX7_sheet_97 (by decide) (fun c_97 => ?_) (fun c_97 => ?_)
                  · have nc_97 : 24 ≤ i := (nle (nl 24) rfl (by omega) (by omega)).mp c_97
                    refine V.iconst (pc := 119) 1 hC dX7_sheet_119 (by decide) ?_
                    exact hR 1 ((va_up (va_up (va_up μ 4 (upd (μ 4) (nN s) bt)) 5 (upd (μ 5) (nN s) m)) 6 f)) _ _ dX7_sheet_120 rfl (opr (by rw [op_sheet, if_neg (not_not_intro c_4), if_neg (fun q => q.2.1 c_14), if_neg (fun q => i_ge c_37 q.1), if_neg (fun q => i_ge c_52 q.1), if_neg c_81, show clrS (μ 6) (24 * nN s) = f from by rw [hf, show i = 24 by omega]; rfl]))
                  · have nc_97 : ¬ (24 ≤ i) := fun z => c_97 ((nle (nl 24) rfl (by omega) (by omega)).mpr z)
                    exfalso; omega
                | succ n ih =>
                  intro i f hi hf
                  refine V.iload (pc := 93) 2 hC dX7_sheet_93 rfl ?_
                  refine V.bipush (pc := 95) 24 hC dX7_sheet_95 (by decide) ?_
                  refine V.icmp_ge (pc := 97) 119 hC dX7_sheet_97 (by decide) (fun c_97 => ?_) (fun c_97 => ?_)
                  · have nc_97 : 24 ≤ i := (nle (nl 24) rfl (by omega) (by omega)).mp c_97
                    exfalso; omega
                  · have nc_97 : ¬ (24 ≤ i) := fun z => c_97 ((nle (nl 24) rfl (by omega) (by omega)).mpr z)
                    refine V.aload_n (pc := 100) 0 hC dX7_sheet_100 rfl ?_
                    refine V.get (pc := 101) (v := .ref (b 6)) hC cf_X7 0 6 fl_X7_25 (by decide) gm_0 rfl dX7_sheet_101 ?_
                    refine V.bipush (pc := 104) 24 hC dX7_sheet_104 (by decide) ?_
                    refine V.iload_n (pc := 106) 1 hC dX7_sheet_106 rfl ?_
                    refine V.imul (pc := 107) hC dX7_sheet_107 ?_
                    refine V.iload (pc := 108) 2 hC dX7_sheet_108 rfl ?_
                    refine V.iadd (pc := 110) hC dX7_sheet_110 ?_
                    refine V.iconst (pc := 111) 0 hC dX7_sheet_111 (by decide) ?_
                    refine V.iast (pc := 112) (f := f) hC 6 (24 * nN s + i) (wM k b (va_up (va_up (va_up μ 4 (upd (μ 4) (nN s) bt)) 5 (upd (μ 5) (nN s) m)) 6 (upd f (24 * nN s + i) 0)) ν) gm_6 (ncast (b := 24 * nN s + i) (nadd (nmul (nl 24) hh_s.1) rfl) (by omega)) (by omega) (by decide) rfl dX7_sheet_112 ?_
                    refine V.iinc (pc := 113) 2 (nI (i + 1)) [(4, .int (nI (i + 1))), (0, .ref (b 20)), (1, .int s)] hC dX7_sheet_113 rfl (ncast (nadd rfl (nl 1)) (by omega)) (by decide) rfl ?_
                    refine V.goto (pc := 116) 93 hC dX7_sheet_116 (by decide) ?_
                    exact V.sub [1, 2, 0] rfl (ih (i + 1) (upd f (24 * nN s + i) 0) (by omega) (by rw [hf]; exact clr_s))
              exact V.sub [1, 2, 0] rfl (loop_93 24 0 (μ 6) (by omega) clr_0)
            · exact absurd c_81 c_8
          · exact absurd c_37 c_52
        · refine V.iload_n (pc := 40) 3 hC dX7_sheet_40 rfl ?_
          refine V.if_ge (pc := 41) 51 hC dX7_sheet_41 (by decide) (fun c_41 => ?_) (fun c_41 => ?_)
          · refine V.iload_n (pc := 51) 2 hC dX7_sheet_51 rfl ?_
            refine V.if_le (pc := 52) 68 hC dX7_sheet_52 (by decide) (fun c_52 => ?_) (fun c_52 => ?_)
            · exact absurd c_52 c_37
            · refine V.iload_n (pc := 55) 3 hC dX7_sheet_55 rfl ?_
              refine V.bipush (pc := 56) 24 hC dX7_sheet_56 (by decide) ?_
              refine V.icmp_le (pc := 58) 68 hC dX7_sheet_58 (by decide) (fun c_58 => ?_) (fun c_58 => ?_)
              · have hh_s := inS_c c_4 (nl 3) (by omega)
                refine V.aload_n (pc := 68) 0 hC dX7_sheet_68 rfl ?_
                refine V.get (pc := 69) (v := .ref (b 4)) hC cf_X7 0 4 fl_X7_19 (by decide) gm_0 rfl dX7_sheet_69 ?_
                refine V.iload_n (pc := 72) 1 hC dX7_sheet_72 rfl ?_
                refine V.iload_n (pc := 73) 2 hC dX7_sheet_73 rfl ?_
                refine V.iast (pc := 74) (f := μ 4) hC 4 (nN s) (wM k b (va_up μ 4 (upd (μ 4) (nN s) bt)) ν) gm_4 hh_s.1 (by omega) (by decide) rfl dX7_sheet_74 ?_
                refine V.aload_n (pc := 75) 0 hC dX7_sheet_75 rfl ?_
                refine V.get (pc := 76) (v := .ref (b 5)) hC cf_X7 0 5 fl_X7_22 (by decide) gm_0 rfl dX7_sheet_76 ?_
                refine V.iload_n (pc := 79) 1 hC dX7_sheet_79 rfl ?_
                refine V.iload_n (pc := 80) 2 hC dX7_sheet_80 rfl ?_
                refine V.if_ne (pc := 81) 88 hC dX7_sheet_81 (by decide) (fun c_81 => ?_) (fun c_81 => ?_)
                · refine V.iload_n (pc := 88) 3 hC dX7_sheet_88 rfl ?_
                  refine V.iast (pc := 89) (f := μ 5) hC 5 (nN s) (wM k b (va_up (va_up μ 4 (upd (μ 4) (nN s) bt)) 5 (upd (μ 5) (nN s) m)) ν) gm_5 hh_s.1 (by omega) (by decide) rfl dX7_sheet_89 ?_
                  refine V.iconst (pc := 90) 0 hC dX7_sheet_90 (by decide) ?_
                  refine V.istore (pc := 91) [(4, .int 0), (0, .ref (b 20)), (1, .int s), (2, .int bt), (3, .int m)] hC dX7_sheet_91 (by decide) rfl ?_
                  have loop_93 : ∀ (n : Nat) (i : Nat) (f : Rw), i + n = 24 → f = clrU (μ 6) (24 * nN s) i → V X (wM k b (va_up (va_up (va_up μ 4 (upd (μ 4) (nN s) bt)) 5 (upd (μ 5) (nN s) m)) 6 f) ν) [(0, .ref (b 20)), (1, .int s), (4, .int (nI i))] [] 93 := by
                    intro n
                    induction n with
                    | zero =>
                      intro i f hi hf
                      refine V.iload (pc := 93) 2 hC dX7_sheet_93 rfl ?_
                      refine V.bipush (pc := 95) 24 hC dX7_sheet_95 (by decide) ?_
                      refine V.icmp_ge (pc := 97) 119 hC dX7_sheet_97 (by decide) (fun c_97 => ?_) (fun c_97 => ?_)
                      · have nc_97 : 24 ≤ i := (nle (nl 24) rfl (by omega) (by omega)).mp c_97
                        refine V.iconst (pc := 119) 1 hC dX7_sheet_119 (by decide) ?_
                        exact hR 1 ((va_up (va_up (va_up μ 4 (upd (μ 4) (nN s) bt)) 5 (upd (μ 5) (nN s) m)) 6 f)) _ _ dX7_sheet_120 rfl (opr (by rw [op_sheet, if_neg (not_not_intro c_4), if_neg (fun q => q.2.1 c_14), if_neg (fun q => i_ge c_41 q.2), if_neg (fun q => i_ge c_58 q.2), if_neg c_81, show clrS (μ 6) (24 * nN s) = f from by rw [hf, show i = 24 by omega]; rfl]))
                      · have nc_97 : ¬ (24 ≤ i) := fun z => c_97 ((nle (nl 24) rfl (by omega) (by omega)).mpr z)
                        exfalso; omega
                    | succ n ih =>
                      intro i f hi hf
                      refine V.iload (pc := 93) 2 hC dX7_sheet_93 rfl ?_
                      refine V.bipush (pc := 95) 24 hC dX7_sheet_95 (by decide) ?_
                      refine V.icmp_ge (pc := 97) 119 hC dX7_sheet_97 (by decide) (fun c_97 => ?_) (fun c_97 => ?_)
                      · have nc_97 : 24 ≤ i := (nle (nl 24) rfl (by omega) (by omega)).mp c_97
                        exfalso; omega
                      · have nc_97 : ¬ (24 ≤ i) := fun z => c_97 ((nle (nl 24) rfl (by omega) (by omega)).mpr z)
                        refine V.aload_n (pc := 100) 0 hC dX7_sheet_100 rfl ?_
                        refine V.get (pc := 101) (v := .ref (b 6)) hC cf_X7 0 6 fl_X7_25 (by decide) gm_0 rfl dX7_sheet_101 ?_
                        refine V.bipush (pc := 104) 24 hC dX7_sheet_104 (by decide) ?_
                        refine V.iload_n (pc := 106) 1 hC dX7_sheet_106 rfl ?_
                        refine V.imul (pc := 107) hC dX7_sheet_107 ?_
                        refine V.iload (pc := 108) 2 hC dX7_sheet_108 rfl ?_
                        refine V.iadd (pc := 110) hC dX7_sheet_110 ?_
                        refine V.iconst (pc := 111) 0 hC dX7_sheet_111 (by decide) ?_
                        refine V.iast (pc := 112) (f := f) hC 6 (24 * nN s + i) (wM k b (va_up (va_up (va_up μ 4 (upd (μ 4) (nN s) bt)) 5 (upd (μ 5) (nN s) m)) 6 (upd f (24 * nN s + i) 0)) ν) gm_6 (ncast (b := 24 * nN s + i) (nadd (nmul (nl 24) hh_s.1) rfl) (by omega)) (by omega) (by decide) rfl dX7_sheet_112 ?_
                        refine V.iinc (pc := 113) 2 (nI (i + 1)) [(4, .int (nI (i + 1))), (0, .ref (b 20)), (1, .int s)] hC dX7_sheet_113 rfl (ncast (nadd rfl (nl 1)) (by omega)) (by decide) rfl ?_
                        refine V.goto (pc := 116) 93 hC dX7_sheet_116 (by decide) ?_
                        exact V.sub [1, 2, 0] rfl (ih (i + 1) (upd f (24 * nN s + i) 0) (by omega) (by rw [hf]; exact clr_s))
                  exact V.sub [1, 2, 0] rfl (loop_93 24 0 (μ 6) (by omega) clr_0)
                · exact absurd c_81 c_8
              · refine V.aload_n (pc := 61) 0 hC dX7_sheet_61 rfl ?_
                refine V.ldc (pc := 62) (v := (-1000000001)) hC cn_X7_55 dX7_sheet_62 ?_
                refine V.callV0 (pc := 64) (as := [.int (-1000000001)]) hC (c_X7_error μ ν 1 (-1000000001) (by omega) (by decide)) mu_X7_error ml_X7_56 (by decide) ⟨0, 7, TX7, 20, _, rfl, gm_0⟩ rfl (Nat.le_of_ble_eq_true rfl) dX7_sheet_64 ?_
                rintro _ _ rfl
                show V X (wM k b (va_up μ 3 (upd (μ 3) 1 (μ 3 1 + 1))) ν) [(0, .ref (b 20)), (1, .int s), (2, .int bt), (3, .int m)] [.int (-1000000001)] 67
                exact hR (-1000000001) ((va_up μ 3 (upd (μ 3) 1 (μ 3 1 + 1)))) _ _ dX7_sheet_67 rfl (opr (by rw [op_sheet, if_neg (not_not_intro c_4), if_neg (fun q => q.2.1 c_14), if_neg (fun q => i_ge c_41 q.2), if_pos ⟨i_nle c_52, i_nle c_58⟩, er_1]))
          · refine V.aload_n (pc := 44) 0 hC dX7_sheet_44 rfl ?_
            refine V.ldc (pc := 45) (v := (-1000000003)) hC cn_X7_118 dX7_sheet_45 ?_
            refine V.callV0 (pc := 47) (as := [.int (-1000000003)]) hC (c_X7_error μ ν 3 (-1000000003) (by omega) (by decide)) mu_X7_error ml_X7_56 (by decide) ⟨0, 7, TX7, 20, _, rfl, gm_0⟩ rfl (Nat.le_of_ble_eq_true rfl) dX7_sheet_47 ?_
            rintro _ _ rfl
            show V X (wM k b (va_up μ 3 (upd (μ 3) 3 (μ 3 3 + 1))) ν) [(0, .ref (b 20)), (1, .int s), (2, .int bt), (3, .int m)] [.int (-1000000003)] 50
            exact hR (-1000000003) ((va_up μ 3 (upd (μ 3) 3 (μ 3 3 + 1)))) _ _ dX7_sheet_50 rfl (opr (by rw [op_sheet, if_neg (not_not_intro c_4), if_neg (fun q => q.2.1 c_14), if_pos ⟨i_nle c_37, i_nle c_41⟩, er_3]))
      · refine V.iload_n (pc := 17) 2 hC dX7_sheet_17 rfl ?_
        refine V.bipush (pc := 18) 16 hC dX7_sheet_18 (by decide) ?_
        refine V.icmp_eq (pc := 20) 36 hC dX7_sheet_20 (by decide) (fun c_20 => ?_) (fun c_20 => ?_)
        · refine V.iload_n (pc := 36) 2 hC dX7_sheet_36 rfl ?_
          refine V.if_le (pc := 37) 51 hC dX7_sheet_37 (by decide) (fun c_37 => ?_) (fun c_37 => ?_)
          · refine V.iload_n (pc := 51) 2 hC dX7_sheet_51 rfl ?_
            refine V.if_le (pc := 52) 68 hC dX7_sheet_52 (by decide) (fun c_52 => ?_) (fun c_52 => ?_)
            · have hh_s := inS_c c_4 (nl 3) (by omega)
              refine V.aload_n (pc := 68) 0 hC dX7_sheet_68 rfl ?_
              refine V.get (pc := 69) (v := .ref (b 4)) hC cf_X7 0 4 fl_X7_19 (by decide) gm_0 rfl dX7_sheet_69 ?_
              refine V.iload_n (pc := 72) 1 hC dX7_sheet_72 rfl ?_
              refine V.iload_n (pc := 73) 2 hC dX7_sheet_73 rfl ?_
              refine V.iast (pc := 74) (f := μ 4) hC 4 (nN s) (wM k b (va_up μ 4 (upd (μ 4) (nN s) bt)) ν) gm_4 hh_s.1 (by omega) (by decide) rfl dX7_sheet_74 ?_
              refine V.aload_n (pc := 75) 0 hC dX7_sheet_75 rfl ?_
              refine V.get (pc := 76) (v := .ref (b 5)) hC cf_X7 0 5 fl_X7_22 (by decide) gm_0 rfl dX7_sheet_76 ?_
              refine V.iload_n (pc := 79) 1 hC dX7_sheet_79 rfl ?_
              refine V.iload_n (pc := 80) 2 hC dX7_sheet_80 rfl ?_
              refine V.if_ne (pc := 81) 88 hC dX7_sheet_81 (by decide) (fun c_81 => ?_) (fun c_81 => ?_)
              · refine V.iload_n (pc := 88) 3 hC dX7_sheet_88 rfl ?_
                refine V.iast (pc := 89) (f := μ 5) hC 5 (nN s) (wM k b (va_up (va_up μ 4 (upd (μ 4) (nN s) bt)) 5 (upd (μ 5) (nN s) m)) ν) gm_5 hh_s.1 (by omega) (by decide) rfl dX7_sheet_89 ?_
                refine V.iconst (pc := 90) 0 hC dX7_sheet_90 (by decide) ?_
                refine V.istore (pc := 91) [(4, .int 0), (0, .ref (b 20)), (1, .int s), (2, .int bt), (3, .int m)] hC dX7_sheet_91 (by decide) rfl ?_
                have loop_93 : ∀ (n : Nat) (i : Nat) (f : Rw), i + n = 24 → f = clrU (μ 6) (24 * nN s) i → V X (wM k b (va_up (va_up (va_up μ 4 (upd (μ 4) (nN s) bt)) 5 (upd (μ 5) (nN s) m)) 6 f) ν) [(0, .ref (b 20)), (1, .int s), (4, .int (nI i))] [] 93 := by
                  intro n
                  induction n with
                  | zero =>
                    intro i f hi hf
                    refine V.iload (pc := 93) 2 hC dX7_sheet_93 rfl ?_
                    refine V.bipush (pc := 95) 24 hC dX7_sheet_95 (by decide) ?_
                    refine V.icmp_ge (pc := 97) 119 hC dX7_sheet_97 (by decide) (fun c_97 => ?_) (fun c_97 => ?_)
                    · have nc_97 : 24 ≤ i := (nle (nl 24) rfl (by omega) (by omega)).mp c_97
                      refine V.iconst (pc := 119) 1 hC dX7_sheet_119 (by decide) ?_
                      exact hR 1 ((va_up (va_up (va_up μ 4 (upd (μ 4) (nN s) bt)) 5 (upd (μ 5) (nN s) m)) 6 f)) _ _ dX7_sheet_120 rfl (opr (by rw [op_sheet, if_neg (not_not_intro c_4), if_neg (fun q => q.2.2.1 c_20), if_neg (fun q => i_ge c_37 q.1), if_neg (fun q => i_ge c_52 q.1), if_neg c_81, show clrS (μ 6) (24 * nN s) = f from by rw [hf, show i = 24 by omega]; rfl]))
                    · have nc_97 : ¬ (24 ≤ i) := fun z => c_97 ((nle (nl 24) rfl (by omega) (by omega)).mpr z)
                      exfalso; omega
                  | succ n ih =>
                    intro i f hi hf
                    refine V.iload (pc := 93) 2 hC dX7_sheet_93 rfl ?_
                    refine V.bipush (pc := 95) 24 hC dX7_sheet_95 (by decide) ?_
                    refine V.icmp_ge (pc := 97) 119 hC dX7_sheet_97 (by decide) (fun c_97 => ?_) (fun c_97 => ?_)
                    · have nc_97 : 24 ≤ i := (nle (nl 24) rfl (by omega) (by omega)).mp c_97
                      exfalso; omega
                    · have nc_97 : ¬ (24 ≤ i) := fun z => c_97 ((nle (nl 24) rfl (by omega) (by omega)).mpr z)
                      refine V.aload_n (pc := 100) 0 hC dX7_sheet_100 rfl ?_
                      refine V.get (pc := 101) (v := .ref (b 6)) hC cf_X7 0 6 fl_X7_25 (by decide) gm_0 rfl dX7_sheet_101 ?_
                      refine V.bipush (pc := 104) 24 hC dX7_sheet_104 (by decide) ?_
                      refine V.iload_n (pc := 106) 1 hC dX7_sheet_106 rfl ?_
                      refine V.imul (pc := 107) hC dX7_sheet_107 ?_
                      refine V.iload (pc := 108) 2 hC dX7_sheet_108 rfl ?_
                      refine V.iadd (pc := 110) hC dX7_sheet_110 ?_
                      refine V.iconst (pc := 111) 0 hC dX7_sheet_111 (by decide) ?_
                      refine V.iast (pc := 112) (f := f) hC 6 (24 * nN s + i) (wM k b (va_up (va_up (va_up μ 4 (upd (μ 4) (nN s) bt)) 5 (upd (μ 5) (nN s) m)) 6 (upd f (24 * nN s + i) 0)) ν) gm_6 (ncast (b := 24 * nN s + i) (nadd (nmul (nl 24) hh_s.1) rfl) (by omega)) (by omega) (by decide) rfl dX7_sheet_112 ?_
                      refine V.iinc (pc := 113) 2 (nI (i + 1)) [(4, .int (nI (i + 1))), (0, .ref (b 20)), (1, .int s)] hC dX7_sheet_113 rfl (ncast (nadd rfl (nl 1)) (by omega)) (by decide) rfl ?_
                      refine V.goto (pc := 116) 93 hC dX7_sheet_116 (by decide) ?_
                      exact V.sub [1, 2, 0] rfl (ih (i + 1) (upd f (24 * nN s + i) 0) (by omega) (by rw [hf]; exact clr_s))
                exact V.sub [1, 2, 0] rfl (loop_93 24 0 (μ 6) (by omega) clr_0)
              · exact absurd c_81 c_8
            · exact absurd c_37 c_52
          · refine V.iload_n (pc := 40) 3 hC dX7_sheet_40 rfl ?_
            refine V.if_ge (pc := 41) 51 hC dX7_sheet_41 (by decide) (fun c_41 => ?_) (fun c_41 => ?_)
            · refine V.iload_n (pc := 51) 2 hC dX7_sheet_51 rfl ?_
              refine V.if_le (pc := 52) 68 hC dX7_sheet_52 (by decide) (fun c_52 => ?_) (fun c_52 => ?_)
              · exact absurd c_52 c_37
              · refine V.iload_n (pc := 55) 3 hC dX7_sheet_55 rfl ?_
                refine V.bipush (pc := 56) 24 hC dX7_sheet_56 (by decide) ?_
                refine V.icmp_le (pc := 58) 68 hC dX7_sheet_58 (by decide) (fun c_58 => ?_) (fun c_58 => ?_)
                · have hh_s := inS_c c_4 (nl 3) (by omega)
                  refine V.aload_n (pc := 68) 0 hC dX7_sheet_68 rfl ?_
                  refine V.get (pc := 69) (v := .ref (b 4)) hC cf_X7 0 4 fl_X7_19 (by decide) gm_0 rfl dX7_sheet_69 ?_
                  refine V.iload_n (pc := 72) 1 hC dX7_sheet_72 rfl ?_
                  refine V.iload_n (pc := 73) 2 hC dX7_sheet_73 rfl ?_
                  refine V.iast (pc := 74) (f := μ 4) hC 4 (nN s) (wM k b (va_up μ 4 (upd (μ 4) (nN s) bt)) ν) gm_4 hh_s.1 (by omega) (by decide) rfl dX7_sheet_74 ?_
                  refine V.aload_n (pc := 75) 0 hC dX7_sheet_75 rfl ?_
                  refine V.get (pc := 76) (v := .ref (b 5)) hC cf_X7 0 5 fl_X7_22 (by decide) gm_0 rfl dX7_sheet_76 ?_
                  refine V.iload_n (pc := 79) 1 hC dX7_sheet_79 rfl ?_
                  refine V.iload_n (pc := 80) 2 hC dX7_sheet_80 rfl ?_
                  refine V.if_ne (pc := 81) 88 hC dX7_sheet_81 (by decide) (fun c_81 => ?_) (fun c_81 => ?_)
                  · refine V.iload_n (pc := 88) 3 hC dX7_sheet_88 rfl ?_
                    refine V.iast (pc := 89) (f := μ 5) hC 5 (nN s) (wM k b (va_up (va_up μ 4 (upd (μ 4) (nN s) bt)) 5 (upd (μ 5) (nN s) m)) ν) gm_5 hh_s.1 (by omega) (by decide) rfl dX7_sheet_89 ?_
                    refine V.iconst (pc := 90) 0 hC dX7_sheet_90 (by decide) ?_
                    refine V.istore (pc := 91) [(4, .int 0), (0, .ref (b 20)), (1, .int s), (2, .int bt), (3, .int m)] hC dX7_sheet_91 (by decide) rfl ?_
                    have loop_93 : ∀ (n : Nat) (i : Nat) (f : Rw), i + n = 24 → f = clrU (μ 6) (24 * nN s) i → V X (wM k b (va_up (va_up (va_up μ 4 (upd (μ 4) (nN s) bt)) 5 (upd (μ 5) (nN s) m)) 6 f) ν) [(0, .ref (b 20)), (1, .int s), (4, .int (nI i))] [] 93 := by
                      intro n
                      induction n with
                      | zero =>
                        intro i f hi hf
                        refine V.iload (pc := 93) 2 hC dX7_sheet_93 rfl ?_
                        refine V.bipush (pc := 95) 24 hC dX7_sheet_95 (by decide) ?_
                        refine V.icmp_ge (pc := 97) 119 hC dX7_sheet_97 (by decide) (fun c_97 => ?_) (fun c_97 => ?_)
                        · have nc_97 : 24 ≤ i := (nle (nl 24) rfl (by omega) (by omega)).mp c_97
                          refine V.iconst (pc := 119) 1 hC dX7_sheet_119 (by decide) ?_
                          exact hR 1 ((va_up (va_up (va_up μ 4 (upd (μ 4) (nN s) bt)) 5 (upd (μ 5) (nN s) m)) 6 f)) _ _ dX7_sheet_120 rfl (opr (by rw [op_sheet, if_neg (not_not_intro c_4), if_neg (fun q => q.2.2.1 c_20), if_neg (fun q => i_ge c_41 q.2), if_neg (fun q => i_ge c_58 q.2), if_neg c_81, show clrS (μ 6) (24 * nN s) = f from by rw [hf, show i = 24 by omega]; rfl]))
                        · have nc_97 : ¬ (24 ≤ i) := fun z => c_97 ((nle (nl 24) rfl (by omega) (by omega)).mpr z)
                          exfalso; omega
                      | succ n ih =>
                        intro i f hi hf
                        refine V.iload (pc := 93) 2 hC dX7_sheet_93 rfl ?_
                        refine V.bipush (pc := 95) 24 hC dX7_sheet_95 (by decide) ?_
                        refine V.icmp_ge (pc := 97) 119 hC dX7_sheet_97 (by decide) (fun c_97 => ?_) (fun c_97 => ?_)
                        · have nc_97 : 24 ≤ i := (nle (nl 24) rfl (by omega) (by omega)).mp c_97
                          exfalso; omega
                        · have nc_97 : ¬ (24 ≤ i) := fun z => c_97 ((nle (nl 24) rfl (by omega) (by omega)).mpr z)
                          refine V.aload_n (pc := 100) 0 hC dX7_sheet_100 rfl ?_
                          refine V.get (pc := 101) (v := .ref (b 6)) hC cf_X7 0 6 fl_X7_25 (by decide) gm_0 rfl dX7_sheet_101 ?_
                          refine V.bipush (pc := 104) 24 hC dX7_sheet_104 (by decide) ?_
                          refine V.iload_n (pc := 106) 1 hC dX7_sheet_106 rfl ?_
                          refine V.imul (pc := 107) hC dX7_sheet_107 ?_
                          refine V.iload (pc := 108) 2 hC dX7_sheet_108 rfl ?_
                          refine V.iadd (pc := 110) hC dX7_sheet_110 ?_
                          refine V.iconst (pc := 111) 0 hC dX7_sheet_111 (by decide) ?_
                          refine V.iast (pc := 112) (f := f) hC 6 (24 * nN s + i) (wM k b (va_up (va_up (va_up μ 4 (upd (μ 4) (nN s) bt)) 5 (upd (μ 5) (nN s) m)) 6 (upd f (24 * nN s + i) 0)) ν) gm_6 (ncast (b := 24 * nN s + i) (nadd (nmul (nl 24) hh_s.1) rfl) (by omega)) (by omega) (by decide) rfl dX7_sheet_112 ?_
                          refine V.iinc (pc := 113) 2 (nI (i + 1)) [(4, .int (nI (i + 1))), (0, .ref (b 20)), (1, .int s)] hC dX7_sheet_113 rfl (ncast (nadd rfl (nl 1)) (by omega)) (by decide) rfl ?_
                          refine V.goto (pc := 116) 93 hC dX7_sheet_116 (by decide) ?_
                          exact V.sub [1, 2, 0] rfl (ih (i + 1) (upd f (24 * nN s + i) 0) (by omega) (by rw [hf]; exact clr_s))
                    exact V.sub [1, 2, 0] rfl (loop_93 24 0 (μ 6) (by omega) clr_0)
                  · exact absurd c_81 c_8
                · refine V.aload_n (pc := 61) 0 hC dX7_sheet_61 rfl ?_
                  refine V.ldc (pc := 62) (v := (-1000000001)) hC cn_X7_55 dX7_sheet_62 ?_
                  refine V.callV0 (pc := 64) (as := [.int (-1000000001)]) hC (c_X7_error μ ν 1 (-1000000001) (by omega) (by decide)) mu_X7_error ml_X7_56 (by decide) ⟨0, 7, TX7, 20, _, rfl, gm_0⟩ rfl (Nat.le_of_ble_eq_true rfl) dX7_sheet_64 ?_
                  rintro _ _ rfl
                  show V X (wM k b (va_up μ 3 (upd (μ 3) 1 (μ 3 1 + 1))) ν) [(0, .ref (b 20)), (1, .int s), (2, .int bt), (3, .int m)] [.int (-1000000001)] 67
                  exact hR (-1000000001) ((va_up μ 3 (upd (μ 3) 1 (μ 3 1 + 1)))) _ _ dX7_sheet_67 rfl (opr (by rw [op_sheet, if_neg (not_not_intro c_4), if_neg (fun q => q.2.2.1 c_20), if_neg (fun q => i_ge c_41 q.2), if_pos ⟨i_nle c_52, i_nle c_58⟩, er_1]))
            · refine V.aload_n (pc := 44) 0 hC dX7_sheet_44 rfl ?_
              refine V.ldc (pc := 45) (v := (-1000000003)) hC cn_X7_118 dX7_sheet_45 ?_
              refine V.callV0 (pc := 47) (as := [.int (-1000000003)]) hC (c_X7_error μ ν 3 (-1000000003) (by omega) (by decide)) mu_X7_error ml_X7_56 (by decide) ⟨0, 7, TX7, 20, _, rfl, gm_0⟩ rfl (Nat.le_of_ble_eq_true rfl) dX7_sheet_47 ?_
              rintro _ _ rfl
              show V X (wM k b (va_up μ 3 (upd (μ 3) 3 (μ 3 3 + 1))) ν) [(0, .ref (b 20)), (1, .int s), (2, .int bt), (3, .int m)] [.int (-1000000003)] 50
              exact hR (-1000000003) ((va_up μ 3 (upd (μ 3) 3 (μ 3 3 + 1)))) _ _ dX7_sheet_50 rfl (opr (by rw [op_sheet, if_neg (not_not_intro c_4), if_neg (fun q => q.2.2.1 c_20), if_pos ⟨i_nle c_37, i_nle c_41⟩, er_3]))
        · refine V.iload_n (pc := 23) 2 hC dX7_sheet_23 rfl ?_
          refine V.bipush (pc := 24) 32 hC dX7_sheet_24 (by decide) ?_
          refine V.icmp_eq (pc := 26) 36 hC dX7_sheet_26 (by decide) (fun c_26 => ?_) (fun c_26 => ?_)
          · refine V.iload_n (pc := 36) 2 hC dX7_sheet_36 rfl ?_
            refine V.if_le (pc := 37) 51 hC dX7_sheet_37 (by decide) (fun c_37 => ?_) (fun c_37 => ?_)
            · refine V.iload_n (pc := 51) 2 hC dX7_sheet_51 rfl ?_
              refine V.if_le (pc := 52) 68 hC dX7_sheet_52 (by decide) (fun c_52 => ?_) (fun c_52 => ?_)
              · have hh_s := inS_c c_4 (nl 3) (by omega)
                refine V.aload_n (pc := 68) 0 hC dX7_sheet_68 rfl ?_
                refine V.get (pc := 69) (v := .ref (b 4)) hC cf_X7 0 4 fl_X7_19 (by decide) gm_0 rfl dX7_sheet_69 ?_
                refine V.iload_n (pc := 72) 1 hC dX7_sheet_72 rfl ?_
                refine V.iload_n (pc := 73) 2 hC dX7_sheet_73 rfl ?_
                refine V.iast (pc := 74) (f := μ 4) hC 4 (nN s) (wM k b (va_up μ 4 (upd (μ 4) (nN s) bt)) ν) gm_4 hh_s.1 (by omega) (by decide) rfl dX7_sheet_74 ?_
                refine V.aload_n (pc := 75) 0 hC dX7_sheet_75 rfl ?_
                refine V.get (pc := 76) (v := .ref (b 5)) hC cf_X7 0 5 fl_X7_22 (by decide) gm_0 rfl dX7_sheet_76 ?_
                refine V.iload_n (pc := 79) 1 hC dX7_sheet_79 rfl ?_
                refine V.iload_n (pc := 80) 2 hC dX7_sheet_80 rfl ?_
                refine V.if_ne (pc := 81) 88 hC dX7_sheet_81 (by decide) (fun c_81 => ?_) (fun c_81 => ?_)
                · refine V.iload_n (pc := 88) 3 hC dX7_sheet_88 rfl ?_
                  refine V.iast (pc := 89) (f := μ 5) hC 5 (nN s) (wM k b (va_up (va_up μ 4 (upd (μ 4) (nN s) bt)) 5 (upd (μ 5) (nN s) m)) ν) gm_5 hh_s.1 (by omega) (by decide) rfl dX7_sheet_89 ?_
                  refine V.iconst (pc := 90) 0 hC dX7_sheet_90 (by decide) ?_
                  refine V.istore (pc := 91) [(4, .int 0), (0, .ref (b 20)), (1, .int s), (2, .int bt), (3, .int m)] hC dX7_sheet_91 (by decide) rfl ?_
                  have loop_93 : ∀ (n : Nat) (i : Nat) (f : Rw), i + n = 24 → f = clrU (μ 6) (24 * nN s) i → V X (wM k b (va_up (va_up (va_up μ 4 (upd (μ 4) (nN s) bt)) 5 (upd (μ 5) (nN s) m)) 6 f) ν) [(0, .ref (b 20)), (1, .int s), (4, .int (nI i))] [] 93 := by
                    intro n
                    induction n with
                    | zero =>
                      intro i f hi hf
                      refine V.iload (pc := 93) 2 hC dX7_sheet_93 rfl ?_
                      refine V.bipush (pc := 95) 24 hC dX7_sheet_95 (by decide) ?_
                      refine V.icmp_ge (pc := 97) 119 hC dX7_sheet_97 (by decide) (fun c_97 => ?_) (fun c_97 => ?_)
                      · have nc_97 : 24 ≤ i := (nle (nl 24) rfl (by omega) (by omega)).mp c_97
                        refine V.iconst (pc := 119) 1 hC dX7_sheet_119 (by decide) ?_
                        exact hR 1 ((va_up (va_up (va_up μ 4 (upd (μ 4) (nN s) bt)) 5 (upd (μ 5) (nN s) m)) 6 f)) _ _ dX7_sheet_120 rfl (opr (by rw [op_sheet, if_neg (not_not_intro c_4), if_neg (fun q => q.2.2.2 c_26), if_neg (fun q => i_ge c_37 q.1), if_neg (fun q => i_ge c_52 q.1), if_neg c_81, show clrS (μ 6) (24 * nN s) = f from by rw [hf, show i = 24 by omega]; rfl]))
                      · have nc_97 : ¬ (24 ≤ i) := fun z => c_97 ((nle (nl 24) rfl (by omega) (by omega)).mpr z)
                        exfalso; omega
                    | succ n ih =>
                      intro i f hi hf
                      refine V.iload (pc := 93) 2 hC dX7_sheet_93 rfl ?_
                      refine V.bipush (pc := 95) 24 hC dX7_sheet_95 (by decide) ?_
                      refine V.icmp_ge (pc := 97) 119 hC dX7_sheet_97 (by decide) (fun c_97 => ?_) (fun c_97 => ?_)
                      · have nc_97 : 24 ≤ i := (nle (nl 24) rfl (by omega) (by omega)).mp c_97
                        exfalso; omega
                      · have nc_97 : ¬ (24 ≤ i) := fun z => c_97 ((nle (nl 24) rfl (by omega) (by omega)).mpr z)
                        refine V.aload_n (pc := 100) 0 hC dX7_sheet_100 rfl ?_
                        refine V.get (pc := 101) (v := .ref (b 6)) hC cf_X7 0 6 fl_X7_25 (by decide) gm_0 rfl dX7_sheet_101 ?_
                        refine V.bipush (pc := 104) 24 hC dX7_sheet_104 (by decide) ?_
                        refine V.iload_n (pc := 106) 1 hC dX7_sheet_106 rfl ?_
                        refine V.imul (pc := 107) hC dX7_sheet_107 ?_
                        refine V.iload (pc := 108) 2 hC dX7_sheet_108 rfl ?_
                        refine V.iadd (pc := 110) hC dX7_sheet_110 ?_
                        refine V.iconst (pc := 111) 0 hC dX7_sheet_111 (by decide) ?_
                        refine V.iast (pc := 112) (f := f) hC 6 (24 * nN s + i) (wM k b (va_up (va_up (va_up μ 4 (upd (μ 4) (nN s) bt)) 5 (upd (μ 5) (nN s) m)) 6 (upd f (24 * nN s + i) 0)) ν) gm_6 (ncast (b := 24 * nN s + i) (nadd (nmul (nl 24) hh_s.1) rfl) (by omega)) (by omega) (by decide) rfl dX7_sheet_112 ?_
                        refine V.iinc (pc := 113) 2 (nI (i + 1)) [(4, .int (nI (i + 1))), (0, .ref (b 20)), (1, .int s)] hC dX7_sheet_113 rfl (ncast (nadd rfl (nl 1)) (by omega)) (by decide) rfl ?_
                        refine V.goto (pc := 116) 93 hC dX7_sheet_116 (by decide) ?_
                        exact V.sub [1, 2, 0] rfl (ih (i + 1) (upd f (24 * nN s + i) 0) (by omega) (by rw [hf]; exact clr_s))
                  exact V.sub [1, 2, 0] rfl (loop_93 24 0 (μ 6) (by omega) clr_0)
                · exact absurd c_81 c_8
              · exact absurd c_37 c_52
            · refine V.iload_n (pc := 40) 3 hC dX7_sheet_40 rfl ?_
              refine V.if_ge (pc := 41) 51 hC dX7_sheet_41 (by decide) (fun c_41 => ?_) (fun c_41 => ?_)
              · refine V.iload_n (pc := 51) 2 hC dX7_sheet_51 rfl ?_
                refine V.if_le (pc := 52) 68 hC dX7_sheet_52 (by decide) (fun c_52 => ?_) (fun c_52 => ?_)
                · exact absurd c_52 c_37
                · refine V.iload_n (pc := 55) 3 hC dX7_sheet_55 rfl ?_
                  refine V.bipush (pc := 56) 24 hC dX7_sheet_56 (by decide) ?_
                  refine V.icmp_le (pc := 58) 68 hC dX7_sheet_58 (by decide) (fun c_58 => ?_) (fun c_58 => ?_)
                  · have hh_s := inS_c c_4 (nl 3) (by omega)
                    refine V.aload_n (pc := 68) 0 hC dX7_sheet_68 rfl ?_
                    refine V.get (pc := 69) (v := .ref (b 4)) hC cf_X7 0 4 fl_X7_19 (by decide) gm_0 rfl dX7_sheet_69 ?_
                    refine V.iload_n (pc := 72) 1 hC dX7_sheet_72 rfl ?_
                    refine V.iload_n (pc := 73) 2 hC dX7_sheet_73 rfl ?_
                    refine V.iast (pc := 74) (f := μ 4) hC 4 (nN s) (wM k b (va_up μ 4 (upd (μ 4) (nN s) bt)) ν) gm_4 hh_s.1 (by omega) (by decide) rfl dX7_sheet_74 ?_
                    refine V.aload_n (pc := 75) 0 hC dX7_sheet_75 rfl ?_
                    refine V.get (pc := 76) (v := .ref (b 5)) hC cf_X7 0 5 fl_X7_22 (by decide) gm_0 rfl dX7_sheet_76 ?_
                    refine V.iload_n (pc := 79) 1 hC dX7_sheet_79 rfl ?_
                    refine V.iload_n (pc := 80) 2 hC dX7_sheet_80 rfl ?_
                    refine V.if_ne (pc := 81) 88 hC dX7_sheet_81 (by decide) (fun c_81 => ?_) (fun c_81 => ?_)
                    · refine V.iload_n (pc := 88) 3 hC dX7_sheet_88 rfl ?_
                      refine V.iast (pc := 89) (f := μ 5) hC 5 (nN s) (wM k b (va_up (va_up μ 4 (upd (μ 4) (nN s) bt)) 5 (upd (μ 5) (nN s) m)) ν) gm_5 hh_s.1 (by omega) (by decide) rfl dX7_sheet_89 ?_
                      refine V.iconst (pc := 90) 0 hC dX7_sheet_90 (by decide) ?_
                      refine V.istore (pc := 91) [(4, .int 0), (0, .ref (b 20)), (1, .int s), (2, .int bt), (3, .int m)] hC dX7_sheet_91 (by decide) rfl ?_
                      have loop_93 : ∀ (n : Nat) (i : Nat) (f : Rw), i + n = 24 → f = clrU (μ 6) (24 * nN s) i → V X (wM k b (va_up (va_up (va_up μ 4 (upd (μ 4) (nN s) bt)) 5 (upd (μ 5) (nN s) m)) 6 f) ν) [(0, .ref (b 20)), (1, .int s), (4, .int (nI i))] [] 93 := by
                        intro n
                        induction n with
                        | zero =>
                          intro i f hi hf
                          refine V.iload (pc := 93) 2 hC dX7_sheet_93 rfl ?_
                          refine V.bipush (pc := 95) 24 hC dX7_sheet_95 (by decide) ?_
                          refine V.icmp_ge (pc := 97) 119 hC dX7_sheet_97 (by decide) (fun c_97 => ?_) (fun c_97 => ?_)
                          · have nc_97 : 24 ≤ i := (nle (nl 24) rfl (by omega) (by omega)).mp c_97
                            refine V.iconst (pc := 119) 1 hC dX7_sheet_119 (by decide) ?_
                            exact hR 1 ((va_up (va_up (va_up μ 4 (upd (μ 4) (nN s) bt)) 5 (upd (μ 5) (nN s) m)) 6 f)) _ _ dX7_sheet_120 rfl (opr (by rw [op_sheet, if_neg (not_not_intro c_4), if_neg (fun q => q.2.2.2 c_26), if_neg (fun q => i_ge c_41 q.2), if_neg (fun q => i_ge c_58 q.2), if_neg c_81, show clrS (μ 6) (24 * nN s) = f from by rw [hf, show i = 24 by omega]; rfl]))
                          · have nc_97 : ¬ (24 ≤ i) := fun z => c_97 ((nle (nl 24) rfl (by omega) (by omega)).mpr z)
                            exfalso; omega
                        | succ n ih =>
                          intro i f hi hf
                          refine V.iload (pc := 93) 2 hC dX7_sheet_93 rfl ?_
                          refine V.bipush (pc := 95) 24 hC dX7_sheet_95 (by decide) ?_
                          refine V.icmp_ge (pc := 97) 119 hC dX7_sheet_97 (by decide) (fun c_97 => ?_) (fun c_97 => ?_)
                          · have nc_97 : 24 ≤ i := (nle (nl 24) rfl (by omega) (by omega)).mp c_97
                            exfalso; omega
                          · have nc_97 : ¬ (24 ≤ i) := fun z => c_97 ((nle (nl 24) rfl (by omega) (by omega)).mpr z)
                            refine V.aload_n (pc := 100) 0 hC dX7_sheet_100 rfl ?_
                            refine V.get (pc := 101) (v := .ref (b 6)) hC cf_X7 0 6 fl_X7_25 (by decide) gm_0 rfl dX7_sheet_101 ?_
                            refine V.bipush (pc := 104) 24 hC dX7_sheet_104 (by decide) ?_
                            refine V.iload_n (pc := 106) 1 hC dX7_sheet_106 rfl ?_
                            refine V.imul (pc := 107) hC dX7_sheet_107 ?_
                            refine V.iload (pc := 108) 2 hC dX7_sheet_108 rfl ?_
                            refine V.iadd (pc := 110) hC dX7_sheet_110 ?_
                            refine V.iconst (pc := 111) 0 hC dX7_sheet_111 (by decide) ?_
                            refine V.iast (pc := 112) (f := f) hC 6 (24 * nN s + i) (wM k b (va_up (va_up (va_up μ 4 (upd (μ 4) (nN s) bt)) 5 (upd (μ 5) (nN s) m)) 6 (upd f (24 * nN s + i) 0)) ν) gm_6 (ncast (b := 24 * nN s + i) (nadd (nmul (nl 24) hh_s.1) rfl) (by omega)) (by omega) (by decide) rfl dX7_sheet_112 ?_
                            refine V.iinc (pc := 113) 2 (nI (i + 1)) [(4, .int (nI (i + 1))), (0, .ref (b 20)), (1, .int s)] hC dX7_sheet_113 rfl (ncast (nadd rfl (nl 1)) (by omega)) (by decide) rfl ?_
                            refine V.goto (pc := 116) 93 hC dX7_sheet_116 (by decide) ?_
                            exact V.sub [1, 2, 0] rfl (ih (i + 1) (upd f (24 * nN s + i) 0) (by omega) (by rw [hf]; exact clr_s))
                      exact V.sub [1, 2, 0] rfl (loop_93 24 0 (μ 6) (by omega) clr_0)
                    · exact absurd c_81 c_8
                  · refine V.aload_n (pc := 61) 0 hC dX7_sheet_61 rfl ?_
                    refine V.ldc (pc := 62) (v := (-1000000001)) hC cn_X7_55 dX7_sheet_62 ?_
                    refine V.callV0 (pc := 64) (as := [.int (-1000000001)]) hC (c_X7_error μ ν 1 (-1000000001) (by omega) (by decide)) mu_X7_error ml_X7_56 (by decide) ⟨0, 7, TX7, 20, _, rfl, gm_0⟩ rfl (Nat.le_of_ble_eq_true rfl) dX7_sheet_64 ?_
                    rintro _ _ rfl
                    show V X (wM k b (va_up μ 3 (upd (μ 3) 1 (μ 3 1 + 1))) ν) [(0, .ref (b 20)), (1, .int s), (2, .int bt), (3, .int m)] [.int (-1000000001)] 67
                    exact hR (-1000000001) ((va_up μ 3 (upd (μ 3) 1 (μ 3 1 + 1)))) _ _ dX7_sheet_67 rfl (opr (by rw [op_sheet, if_neg (not_not_intro c_4), if_neg (fun q => q.2.2.2 c_26), if_neg (fun q => i_ge c_41 q.2), if_pos ⟨i_nle c_52, i_nle c_58⟩, er_1]))
              · refine V.aload_n (pc := 44) 0 hC dX7_sheet_44 rfl ?_
                refine V.ldc (pc := 45) (v := (-1000000003)) hC cn_X7_118 dX7_sheet_45 ?_
                refine V.callV0 (pc := 47) (as := [.int (-1000000003)]) hC (c_X7_error μ ν 3 (-1000000003) (by omega) (by decide)) mu_X7_error ml_X7_56 (by decide) ⟨0, 7, TX7, 20, _, rfl, gm_0⟩ rfl (Nat.le_of_ble_eq_true rfl) dX7_sheet_47 ?_
                rintro _ _ rfl
                show V X (wM k b (va_up μ 3 (upd (μ 3) 3 (μ 3 3 + 1))) ν) [(0, .ref (b 20)), (1, .int s), (2, .int bt), (3, .int m)] [.int (-1000000003)] 50
                exact hR (-1000000003) ((va_up μ 3 (upd (μ 3) 3 (μ 3 3 + 1)))) _ _ dX7_sheet_50 rfl (opr (by rw [op_sheet, if_neg (not_not_intro c_4), if_neg (fun q => q.2.2.2 c_26), if_pos ⟨i_nle c_37, i_nle c_41⟩, er_3]))
          · refine V.aload_n (pc := 29) 0 hC dX7_sheet_29 rfl ?_
            refine V.ldc (pc := 30) (v := (-1000000001)) hC cn_X7_55 dX7_sheet_30 ?_
            refine V.callV0 (pc := 32) (as := [.int (-1000000001)]) hC (c_X7_error μ ν 1 (-1000000001) (by omega) (by decide)) mu_X7_error ml_X7_56 (by decide) ⟨0, 7, TX7, 20, _, rfl, gm_0⟩ rfl (Nat.le_of_ble_eq_true rfl) dX7_sheet_32 ?_
            rintro _ _ rfl
            show V X (wM k b (va_up μ 3 (upd (μ 3) 1 (μ 3 1 + 1))) ν) [(0, .ref (b 20)), (1, .int s), (2, .int bt), (3, .int m)] [.int (-1000000001)] 35
            exact hR (-1000000001) ((va_up μ 3 (upd (μ 3) 1 (μ 3 1 + 1)))) _ _ dX7_sheet_35 rfl (opr (by rw [op_sheet, if_neg (not_not_intro c_4), if_pos ⟨c_8, c_14, c_20, c_26⟩, er_1]))
set_option maxHeartbeats 4000000 in
set_option maxRecDepth 100000 in
theorem c_X7_put {l : Launch} {D : va_G} {k : Nat → ClassId} {g b : Nat → Nat} (μ ν : St) (s i v : Int32) (hI : Inv (μ 0)) (hS : ∀ s, s < 4 → isN (μ 5 s) 24) : Ct l D k g yX7_put cX7_put 5 (some .int) 3 63 [.ref (b 20), .int s, .int i, .int v] (S := St) (wM k b μ ν) (fun uu => wM k b uu ν) (fun vv uu => vv = some (.int ((op_put s i v μ).1)) ∧ uu = (op_put s i v μ).2) := by
  refine Ct.ofI RX7 rfl (by decide +kernel) (Nat.le_of_ble_eq_true rfl) (fun X hC hR => ?_)
  have hb4 := hI.hb; have hb8 := hI.mb; have hb6 := hI.pb; have hbm := hI.ob0; have hbt := hI.bb; have hbw := hI.wb
  show V X (wM k b μ ν) [(0, .ref (b 20)), (1, .int s), (2, .int i), (3, .int v)] [] 0
  refine V.aload_n (pc := 0) 0 hC dX7_put_0 rfl ?_
  refine V.iload_n (pc := 1) 1 hC dX7_put_1 rfl ?_
  refine V.callV0 (pc := 2) (as := [.int s]) hC (c_X7_notThere μ ν s ) mu_X7_notThere ml_X7_203 (by decide) ⟨0, 7, TX7, 20, _, rfl, gm_0⟩ rfl (Nat.le_of_ble_eq_true rfl) dX7_put_2 ?_
  rintro _ _ rfl
  show V X (wM k b μ ν) [(0, .ref (b 20)), (1, .int s), (2, .int i), (3, .int v)] [.int (whyS μ s)] 5
  by_cases sA : shtS s
  · by_cases sB : μ 4 (nN s) = 0
    · refine V.eqi (y := (-1000000002)) (by rw [whyS, if_neg (not_not_intro sA), if_pos sB]) ?_
      refine V.istore (pc := 5) [(4, .int (-1000000002)), (0, .ref (b 20)), (1, .int s), (2, .int i), (3, .int v)] hC dX7_put_5 (by decide) rfl ?_
      refine V.iload (pc := 7) 0 hC dX7_put_7 rfl ?_
      refine V.if_ne (pc := 9) 33 hC dX7_put_9 (by decide) (fun c_9 => ?_) (fun c_9 => ?_)
      · refine V.iload (pc := 33) 0 hC dX7_put_33 rfl ?_
        refine V.istore (pc := 35) [(4, .int (-1000000002)), (0, .ref (b 20)), (1, .int s), (2, .int i), (3, .int v)] hC dX7_put_35 (by decide) rfl ?_
        refine V.iload (pc := 37) 0 hC dX7_put_37 rfl ?_
        refine V.if_eq (pc := 39) 49 hC dX7_put_39 (by decide) (fun c_39 => ?_) (fun c_39 => ?_)
        · exact absurd c_39 c_9
        · refine V.aload_n (pc := 42) 1 hC dX7_put_42 rfl ?_
          refine V.iload (pc := 43) 0 hC dX7_put_43 rfl ?_
          refine V.callV0 (pc := 45) (as := [.int (-1000000002)]) hC (c_X7_error μ ν 2 (-1000000002) (by omega) (by decide)) mu_X7_error ml_X7_56 (by decide) ⟨0, 7, TX7, 20, _, rfl, gm_0⟩ rfl (Nat.le_of_ble_eq_true rfl) dX7_put_45 ?_
          rintro _ _ rfl
          show V X (wM k b (va_up μ 3 (upd (μ 3) 2 (μ 3 2 + 1))) ν) [(4, .int (-1000000002)), (0, .ref (b 20)), (1, .int s), (2, .int i), (3, .int v)] [.int (-1000000002)] 48
          exact hR (-1000000002) ((va_up μ 3 (upd (μ 3) 2 (μ 3 2 + 1)))) _ _ dX7_put_48 rfl (opr (by rw [op_put, if_neg (not_not_intro sA), if_pos sB, er_2]))
      · exact absurd c_9 (by decide)
    · refine V.eqi (y := 0) (by rw [whyS, if_neg (not_not_intro sA), if_neg sB]) ?_
      refine V.istore (pc := 5) [(4, .int 0), (0, .ref (b 20)), (1, .int s), (2, .int i), (3, .int v)] hC dX7_put_5 (by decide) rfl ?_
      refine V.iload (pc := 7) 0 hC dX7_put_7 rfl ?_
      refine V.if_ne (pc := 9) 33 hC dX7_put_9 (by decide) (fun c_9 => ?_) (fun c_9 => ?_)
      · have nc_9 : ¬ (0 = 0) := fun z => c_9 ((neq (nl 0) (nl 0) (by omega) (by omega)).mpr z)
        exact absurd c_9 (by decide)
      · have nc_9 : 0 = 0 := (neq (nl 0) (nl 0) (by omega) (by omega)).mp c_9
        have hh_s := inS_c sA (nl 3) (by omega)
        have hs24 := (hS (nN s) (by omega)).2
        refine V.iload_n (pc := 12) 3 hC dX7_put_12 rfl ?_
        refine V.iconst (pc := 13) 0 hC dX7_put_13 (by decide) ?_
        refine V.aload_n (pc := 14) 1 hC dX7_put_14 rfl ?_
        refine V.get (pc := 15) (v := .ref (b 5)) hC cf_X7 0 5 fl_X7_22 (by decide) gm_0 rfl dX7_put_15 ?_
        refine V.iload_n (pc := 18) 2 hC dX7_put_18 rfl ?_
        refine V.iald (pc := 19) (f := μ 5) hC 5 (nN s) gm_5 hh_s.1 (by omega) (by decide) dX7_put_19 ?_
        refine V.iconst (pc := 20) 1 hC dX7_put_20 (by decide) ?_
        refine V.isub (pc := 21) hC dX7_put_21 ?_
        refine V.callS0 (pc := 22) (as := [.int i, .int 0, .int ((μ 5 (nN s)) - 1)]) hC (c_X7_in i 0 ((μ 5 (nN s)) - 1) ) ms_X7_in ml_X7_47 (by decide) rfl (Nat.le_of_ble_eq_true rfl) dX7_put_22 ?_
        rintro _ _ rfl
        show V X (wM k b μ ν) [(4, .int 0), (0, .ref (b 20)), (1, .int s), (2, .int i), (3, .int v)] [.int (bI (inS i 0 ((μ 5 (nN s)) - 1)))] 25
        refine V.if_ne_b (P := inS i 0 ((μ 5 (nN s)) - 1)) (pc := 25) 33 hC dX7_put_25 (by decide) (fun c_25 => ?_) (fun c_25 => ?_)
        · refine V.iload (pc := 33) 0 hC dX7_put_33 rfl ?_
          refine V.istore (pc := 35) [(4, .int 0), (0, .ref (b 20)), (1, .int s), (2, .int i), (3, .int v)] hC dX7_put_35 (by decide) rfl ?_
          refine V.iload (pc := 37) 0 hC dX7_put_37 rfl ?_
          refine V.if_eq (pc := 39) 49 hC dX7_put_39 (by decide) (fun c_39 => ?_) (fun c_39 => ?_)
          · have nc_39 : 0 = 0 := (neq (nl 0) (nl 0) (by omega) (by omega)).mp c_39
            have hh_i := inS_n c_25 (hS _ (by omega)).1 (by omega)
            refine V.aload_n (pc := 49) 1 hC dX7_put_49 rfl ?_
            refine V.get (pc := 50) (v := .ref (b 6)) hC cf_X7 0 6 fl_X7_25 (by decide) gm_0 rfl dX7_put_50 ?_
            refine V.bipush (pc := 53) 24 hC dX7_put_53 (by decide) ?_
            refine V.iload_n (pc := 55) 2 hC dX7_put_55 rfl ?_
            refine V.imul (pc := 56) hC dX7_put_56 ?_
            refine V.iload_n (pc := 57) 3 hC dX7_put_57 rfl ?_
            refine V.iadd (pc := 58) hC dX7_put_58 ?_
            refine V.aload_n (pc := 59) 1 hC dX7_put_59 rfl ?_
            refine V.get (pc := 60) (v := .ref (b 4)) hC cf_X7 0 4 fl_X7_19 (by decide) gm_0 rfl dX7_put_60 ?_
            refine V.iload_n (pc := 63) 2 hC dX7_put_63 rfl ?_
            refine V.iald (pc := 64) (f := μ 4) hC 4 (nN s) gm_4 hh_s.1 (by omega) (by decide) dX7_put_64 ?_
            refine V.bipush (pc := 65) 8 hC dX7_put_65 (by decide) ?_
            refine V.icmp_ne (pc := 67) 75 hC dX7_put_67 (by decide) (fun c_67 => ?_) (fun c_67 => ?_)
            · refine V.aload_n (pc := 75) 1 hC dX7_put_75 rfl ?_
              refine V.get (pc := 76) (v := .ref (b 4)) hC cf_X7 0 4 fl_X7_19 (by decide) gm_0 rfl dX7_put_76 ?_
              refine V.iload_n (pc := 79) 2 hC dX7_put_79 rfl ?_
              refine V.iald (pc := 80) (f := μ 4) hC 4 (nN s) gm_4 hh_s.1 (by omega) (by decide) dX7_put_80 ?_
              refine V.bipush (pc := 81) 16 hC dX7_put_81 (by decide) ?_
              refine V.icmp_ne (pc := 83) 91 hC dX7_put_83 (by decide) (fun c_83 => ?_) (fun c_83 => ?_)
              · refine V.iload_n (pc := 91) 4 hC dX7_put_91 rfl ?_
                refine V.iast (pc := 92) (f := μ 6) hC 6 (24 * nN s + nN i) (wM k b (va_up μ 6 (upd (μ 6) (24 * nN s + nN i) v)) ν) gm_6 (ncast (b := 24 * nN s + nN i) (nadd (nmul (nl 24) hh_s.1) hh_i.1) (by omega)) (by omega) (by decide) rfl dX7_put_92 ?_
                refine V.iconst (pc := 93) 1 hC dX7_put_93 (by decide) ?_
                exact hR 1 ((va_up μ 6 (upd (μ 6) (24 * nN s + nN i) v))) _ _ dX7_put_94 rfl (opr (by rw [op_put, if_neg (not_not_intro sA), if_neg sB, if_neg (not_not_intro c_25), cstS, if_neg c_67, if_neg c_83]))
              · refine V.iload_n (pc := 86) 4 hC dX7_put_86 rfl ?_
                refine V.i2s (pc := 87) hC dX7_put_87 ?_
                refine V.goto (pc := 88) 92 hC dX7_put_88 (by decide) ?_
                refine V.iast (pc := 92) (f := μ 6) hC 6 (24 * nN s + nN i) (wM k b (va_up μ 6 (upd (μ 6) (24 * nN s + nN i) v.toInt16.toInt32)) ν) gm_6 (ncast (b := 24 * nN s + nN i) (nadd (nmul (nl 24) hh_s.1) hh_i.1) (by omega)) (by omega) (by decide) rfl dX7_put_92 ?_
                refine V.iconst (pc := 93) 1 hC dX7_put_93 (by decide) ?_
                exact hR 1 ((va_up μ 6 (upd (μ 6) (24 * nN s + nN i) v.toInt16.toInt32))) _ _ dX7_put_94 rfl (opr (by rw [op_put, if_neg (not_not_intro sA), if_neg sB, if_neg (not_not_intro c_25), cstS, if_neg c_67, if_pos c_83]))
            · refine V.iload_n (pc := 70) 4 hC dX7_put_70 rfl ?_
              refine V.i2b (pc := 71) hC dX7_put_71 ?_
              refine V.goto (pc := 72) 92 hC dX7_put_72 (by decide) ?_
              refine V.iast (pc := 92) (f := μ 6) hC 6 (24 * nN s + nN i) (wM k b (va_up μ 6 (upd (μ 6) (24 * nN s + nN i) v.toInt8.toInt32)) ν) gm_6 (ncast (b := 24 * nN s + nN i) (nadd (nmul (nl 24) hh_s.1) hh_i.1) (by omega)) (by omega) (by decide) rfl dX7_put_92 ?_
              refine V.iconst (pc := 93) 1 hC dX7_put_93 (by decide) ?_
              exact hR 1 ((va_up μ 6 (upd (μ 6) (24 * nN s + nN i) v.toInt8.toInt32))) _ _ dX7_put_94 rfl (opr (by rw [op_put, if_neg (not_not_intro sA), if_neg sB, if_neg (not_not_intro c_25), cstS, if_pos c_67]))
          · have nc_39 : ¬ (0 = 0) := fun z => c_39 ((neq (nl 0) (nl 0) (by omega) (by omega)).mpr z)
            exact absurd c_39 (by decide)
        · refine V.ldc (pc := 28) (v := (-1000000001)) hC cn_X7_55 dX7_put_28 ?_
          refine V.goto (pc := 30) 35 hC dX7_put_30 (by decide) ?_
          refine V.istore (pc := 35) [(4, .int (-1000000001)), (0, .ref (b 20)), (1, .int s), (2, .int i), (3, .int v)] hC dX7_put_35 (by decide) rfl ?_
          refine V.iload (pc := 37) 0 hC dX7_put_37 rfl ?_
          refine V.if_eq (pc := 39) 49 hC dX7_put_39 (by decide) (fun c_39 => ?_) (fun c_39 => ?_)
          · exact absurd c_39 (by decide)
          · refine V.aload_n (pc := 42) 1 hC dX7_put_42 rfl ?_
            refine V.iload (pc := 43) 0 hC dX7_put_43 rfl ?_
            refine V.callV0 (pc := 45) (as := [.int (-1000000001)]) hC (c_X7_error μ ν 1 (-1000000001) (by omega) (by decide)) mu_X7_error ml_X7_56 (by decide) ⟨0, 7, TX7, 20, _, rfl, gm_0⟩ rfl (Nat.le_of_ble_eq_true rfl) dX7_put_45 ?_
            rintro _ _ rfl
            show V X (wM k b (va_up μ 3 (upd (μ 3) 1 (μ 3 1 + 1))) ν) [(4, .int (-1000000001)), (0, .ref (b 20)), (1, .int s), (2, .int i), (3, .int v)] [.int (-1000000001)] 48
            exact hR (-1000000001) ((va_up μ 3 (upd (μ 3) 1 (μ 3 1 + 1)))) _ _ dX7_put_48 rfl (opr (by rw [op_put, if_neg (not_not_intro sA), if_neg sB, if_pos c_25, er_1]))
  · refine V.eqi (y := (-1000000001)) (by rw [whyS, if_pos sA]) ?_
    refine V.istore (pc := 5) [(4, .int (-1000000001)), (0, .ref (b 20)), (1, .int s), (2, .int i), (3, .int v)] hC dX7_put_5 (by decide) rfl ?_
    refine V.iload (pc := 7) 0 hC dX7_put_7 rfl ?_
    refine V.if_ne (pc := 9) 33 hC dX7_put_9 (by decide) (fun c_9 => ?_) (fun c_9 => ?_)
    · refine V.iload (pc := 33) 0 hC dX7_put_33 rfl ?_
      refine V.istore (pc := 35) [(4, .int (-1000000001)), (0, .ref (b 20)), (1, .int s), (2, .int i), (3, .int v)] hC dX7_put_35 (by decide) rfl ?_
      refine V.iload (pc := 37) 0 hC dX7_put_37 rfl ?_
      refine V.if_eq (pc := 39) 49 hC dX7_put_39 (by decide) (fun c_39 => ?_) (fun c_39 => ?_)
      · exact absurd c_39 c_9
      · refine V.aload_n (pc := 42) 1 hC dX7_put_42 rfl ?_
        refine V.iload (pc := 43) 0 hC dX7_put_43 rfl ?_
        refine V.callV0 (pc := 45) (as := [.int (-1000000001)]) hC (c_X7_error μ ν 1 (-1000000001) (by omega) (by decide)) mu_X7_error ml_X7_56 (by decide) ⟨0, 7, TX7, 20, _, rfl, gm_0⟩ rfl (Nat.le_of_ble_eq_true rfl) dX7_put_45 ?_
        rintro _ _ rfl
        show V X (wM k b (va_up μ 3 (upd (μ 3) 1 (μ 3 1 + 1))) ν) [(4, .int (-1000000001)), (0, .ref (b 20)), (1, .int s), (2, .int i), (3, .int v)] [.int (-1000000001)] 48
        exact hR (-1000000001) ((va_up μ 3 (upd (μ 3) 1 (μ 3 1 + 1)))) _ _ dX7_put_48 rfl (opr (by rw [op_put, if_pos sA, er_1]))
    · exact absurd c_9 (by decide)
set_option maxHeartbeats 4000000 in
set_option maxRecDepth 100000 in
theorem c_X7_notMoved {l : Launch} {D : va_G} {k : Nat → ClassId} {g b : Nat → Nat} (μ ν : St) (s i o j m : Int32)  : Ct l D k g yX7_notMoved cX7_notMoved 7 (some .int) 2 42 [.ref (b 20), .int s, .int i, .int o, .int j, .int m] (S := Unit) (wM k b μ ν) (fun _ => wM k b μ ν) (fun vv _ => vv = some (.int (mvwS μ s i o j m))) := by
  refine Ct.ofI RX7 rfl (by decide +kernel) (Nat.le_of_ble_eq_true rfl) (fun X hC hR => ?_)
  show V X (wM k b μ ν) [(0, .ref (b 20)), (1, .int s), (2, .int i), (3, .int o), (4, .int j), (5, .int m)] [] 0
  refine V.iload_n (pc := 0) 1 hC dX7_notMoved_0 rfl ?_
  refine V.callS0 (pc := 1) (as := [.int s]) hC (c_X7_isSheet s ) ms_X7_isSheet ml_X7_246 (by decide) rfl (Nat.le_of_ble_eq_true rfl) dX7_notMoved_1 ?_
  rintro _ _ rfl
  show V X (wM k b μ ν) [(0, .ref (b 20)), (1, .int s), (2, .int i), (3, .int o), (4, .int j), (5, .int m)] [.int (bI (inS s 0 3))] 4
  refine V.if_eq_b (P := inS s 0 3) (pc := 4) 14 hC dX7_notMoved_4 (by decide) (fun c_4 => ?_) (fun c_4 => ?_)
  · refine V.ldc (pc := 14) (v := (-1000000001)) hC cn_X7_55 dX7_notMoved_14 ?_
    exact hR (-1000000001) () _ _ dX7_notMoved_16 rfl (ri (by rw [mvwS, if_pos c_4]))
  · refine V.iload_n (pc := 7) 3 hC dX7_notMoved_7 rfl ?_
    refine V.callS0 (pc := 8) (as := [.int o]) hC (c_X7_isSheet o ) ms_X7_isSheet ml_X7_246 (by decide) rfl (Nat.le_of_ble_eq_true rfl) dX7_notMoved_8 ?_
    rintro _ _ rfl
    show V X (wM k b μ ν) [(0, .ref (b 20)), (1, .int s), (2, .int i), (3, .int o), (4, .int j), (5, .int m)] [.int (bI (inS o 0 3))] 11
    refine V.if_ne_b (P := inS o 0 3) (pc := 11) 17 hC dX7_notMoved_11 (by decide) (fun c_11 => ?_) (fun c_11 => ?_)
    · have hh_s := inS_c c_4 (nl 3) (by omega)
      have hh_o := inS_c c_11 (nl 3) (by omega)
      refine V.aload_n (pc := 17) 0 hC dX7_notMoved_17 rfl ?_
      refine V.get (pc := 18) (v := .ref (b 4)) hC cf_X7 0 4 fl_X7_19 (by decide) gm_0 rfl dX7_notMoved_18 ?_
      refine V.iload_n (pc := 21) 1 hC dX7_notMoved_21 rfl ?_
      refine V.iald (pc := 22) (f := μ 4) hC 4 (nN s) gm_4 hh_s.1 (by omega) (by decide) dX7_notMoved_22 ?_
      refine V.if_eq (pc := 23) 35 hC dX7_notMoved_23 (by decide) (fun c_23 => ?_) (fun c_23 => ?_)
      · refine V.ldc (pc := 35) (v := (-1000000002)) hC cn_X7_190 dX7_notMoved_35 ?_
        exact hR (-1000000002) () _ _ dX7_notMoved_37 rfl (ri (by rw [mvwS, if_neg (not_not_intro c_4), if_neg (not_not_intro c_11), if_pos c_23]))
      · refine V.aload_n (pc := 26) 0 hC dX7_notMoved_26 rfl ?_
        refine V.get (pc := 27) (v := .ref (b 4)) hC cf_X7 0 4 fl_X7_19 (by decide) gm_0 rfl dX7_notMoved_27 ?_
        refine V.iload_n (pc := 30) 3 hC dX7_notMoved_30 rfl ?_
        refine V.iald (pc := 31) (f := μ 4) hC 4 (nN o) gm_4 hh_o.1 (by omega) (by decide) dX7_notMoved_31 ?_
        refine V.if_ne (pc := 32) 38 hC dX7_notMoved_32 (by decide) (fun c_32 => ?_) (fun c_32 => ?_)
        · refine V.aload_n (pc := 38) 0 hC dX7_notMoved_38 rfl ?_
          refine V.get (pc := 39) (v := .ref (b 4)) hC cf_X7 0 4 fl_X7_19 (by decide) gm_0 rfl dX7_notMoved_39 ?_
          refine V.iload_n (pc := 42) 1 hC dX7_notMoved_42 rfl ?_
          refine V.iald (pc := 43) (f := μ 4) hC 4 (nN s) gm_4 hh_s.1 (by omega) (by decide) dX7_notMoved_43 ?_
          refine V.aload_n (pc := 44) 0 hC dX7_notMoved_44 rfl ?_
          refine V.get (pc := 45) (v := .ref (b 4)) hC cf_X7 0 4 fl_X7_19 (by decide) gm_0 rfl dX7_notMoved_45 ?_
          refine V.iload_n (pc := 48) 3 hC dX7_notMoved_48 rfl ?_
          refine V.iald (pc := 49) (f := μ 4) hC 4 (nN o) gm_4 hh_o.1 (by omega) (by decide) dX7_notMoved_49 ?_
          refine V.icmp_eq (pc := 50) 56 hC dX7_notMoved_50 (by decide) (fun c_50 => ?_) (fun c_50 => ?_)
          · refine V.iload (pc := 56) 5 hC dX7_notMoved_56 rfl ?_
            refine V.if_lt (pc := 58) 101 hC dX7_notMoved_58 (by decide) (fun c_58 => ?_) (fun c_58 => ?_)
            · refine V.iconst (pc := 101) 0 hC dX7_notMoved_101 (by decide) ?_
              refine V.istore (pc := 102) [(6, .int 0), (0, .ref (b 20)), (1, .int s), (2, .int i), (3, .int o), (4, .int j), (5, .int m)] hC dX7_notMoved_102 (by decide) rfl ?_
              refine V.iload (pc := 104) 0 hC dX7_notMoved_104 rfl ?_
              refine V.if_eq (pc := 106) 113 hC dX7_notMoved_106 (by decide) (fun c_106 => ?_) (fun c_106 => ?_)
              · have nc_106 : 0 = 0 := (neq (nl 0) (nl 0) (by omega) (by omega)).mp c_106
                refine V.ldc (pc := 113) (v := (-1000000001)) hC cn_X7_55 dX7_notMoved_113 ?_
                exact hR (-1000000001) () _ _ dX7_notMoved_115 rfl (ri (by rw [mvwS, if_neg (not_not_intro c_4), if_neg (not_not_intro c_11), if_neg c_23, if_neg c_32, if_neg (not_not_intro c_50), if_pos (fun q => i_gt c_58 q.1)]))
              · have nc_106 : ¬ (0 = 0) := fun z => c_106 ((neq (nl 0) (nl 0) (by omega) (by omega)).mpr z)
                exact absurd c_106 (by decide)
            · refine V.iload_n (pc := 61) 2 hC dX7_notMoved_61 rfl ?_
              refine V.if_lt (pc := 62) 101 hC dX7_notMoved_62 (by decide) (fun c_62 => ?_) (fun c_62 => ?_)
              · refine V.iconst (pc := 101) 0 hC dX7_notMoved_101 (by decide) ?_
                refine V.istore (pc := 102) [(6, .int 0), (0, .ref (b 20)), (1, .int s), (2, .int i), (3, .int o), (4, .int j), (5, .int m)] hC dX7_notMoved_102 (by decide) rfl ?_
                refine V.iload (pc := 104) 0 hC dX7_notMoved_104 rfl ?_
                refine V.if_eq (pc := 106) 113 hC dX7_notMoved_106 (by decide) (fun c_106 => ?_) (fun c_106 => ?_)
                · have nc_106 : 0 = 0 := (neq (nl 0) (nl 0) (by omega) (by omega)).mp c_106
                  refine V.ldc (pc := 113) (v := (-1000000001)) hC cn_X7_55 dX7_notMoved_113 ?_
                  exact hR (-1000000001) () _ _ dX7_notMoved_115 rfl (ri (by rw [mvwS, if_neg (not_not_intro c_4), if_neg (not_not_intro c_11), if_neg c_23, if_neg c_32, if_neg (not_not_intro c_50), if_pos (fun q => i_gt c_62 q.2.1)]))
                · have nc_106 : ¬ (0 = 0) := fun z => c_106 ((neq (nl 0) (nl 0) (by omega) (by omega)).mpr z)
                  exact absurd c_106 (by decide)
              · refine V.iload (pc := 65) 4 hC dX7_notMoved_65 rfl ?_
                refine V.if_lt (pc := 67) 101 hC dX7_notMoved_67 (by decide) (fun c_67 => ?_) (fun c_67 => ?_)
                · refine V.iconst (pc := 101) 0 hC dX7_notMoved_101 (by decide) ?_
                  refine V.istore (pc := 102) [(6, .int 0), (0, .ref (b 20)), (1, .int s), (2, .int i), (3, .int o), (4, .int j), (5, .int m)] hC dX7_notMoved_102 (by decide) rfl ?_
                  refine V.iload (pc := 104) 0 hC dX7_notMoved_104 rfl ?_
                  refine V.if_eq (pc := 106) 113 hC dX7_notMoved_106 (by decide) (fun c_106 => ?_) (fun c_106 => ?_)
                  · have nc_106 : 0 = 0 := (neq (nl 0) (nl 0) (by omega) (by omega)).mp c_106
                    refine V.ldc (pc := 113) (v := (-1000000001)) hC cn_X7_55 dX7_notMoved_113 ?_
                    exact hR (-1000000001) () _ _ dX7_notMoved_115 rfl (ri (by rw [mvwS, if_neg (not_not_intro c_4), if_neg (not_not_intro c_11), if_neg c_23, if_neg c_32, if_neg (not_not_intro c_50), if_pos (fun q => i_gt c_67 q.2.2.1)]))
                  · have nc_106 : ¬ (0 = 0) := fun z => c_106 ((neq (nl 0) (nl 0) (by omega) (by omega)).mpr z)
                    exact absurd c_106 (by decide)
                · refine V.iload (pc := 70) 5 hC dX7_notMoved_70 rfl ?_
                  refine V.aload_n (pc := 72) 0 hC dX7_notMoved_72 rfl ?_
                  refine V.get (pc := 73) (v := .ref (b 5)) hC cf_X7 0 5 fl_X7_22 (by decide) gm_0 rfl dX7_notMoved_73 ?_
                  refine V.iload_n (pc := 76) 1 hC dX7_notMoved_76 rfl ?_
                  refine V.iald (pc := 77) (f := μ 5) hC 5 (nN s) gm_5 hh_s.1 (by omega) (by decide) dX7_notMoved_77 ?_
                  refine V.iload_n (pc := 78) 2 hC dX7_notMoved_78 rfl ?_
                  refine V.isub (pc := 79) hC dX7_notMoved_79 ?_
                  refine V.icmp_gt (pc := 80) 101 hC dX7_notMoved_80 (by decide) (fun c_80 => ?_) (fun c_80 => ?_)
                  · refine V.iconst (pc := 101) 0 hC dX7_notMoved_101 (by decide) ?_
                    refine V.istore (pc := 102) [(6, .int 0), (0, .ref (b 20)), (1, .int s), (2, .int i), (3, .int o), (4, .int j), (5, .int m)] hC dX7_notMoved_102 (by decide) rfl ?_
                    refine V.iload (pc := 104) 0 hC dX7_notMoved_104 rfl ?_
                    refine V.if_eq (pc := 106) 113 hC dX7_notMoved_106 (by decide) (fun c_106 => ?_) (fun c_106 => ?_)
                    · have nc_106 : 0 = 0 := (neq (nl 0) (nl 0) (by omega) (by omega)).mp c_106
                      refine V.ldc (pc := 113) (v := (-1000000001)) hC cn_X7_55 dX7_notMoved_113 ?_
                      exact hR (-1000000001) () _ _ dX7_notMoved_115 rfl (ri (by rw [mvwS, if_neg (not_not_intro c_4), if_neg (not_not_intro c_11), if_neg c_23, if_neg c_32, if_neg (not_not_intro c_50), if_pos (fun q => i_gt c_80 q.2.2.2.1)]))
                    · have nc_106 : ¬ (0 = 0) := fun z => c_106 ((neq (nl 0) (nl 0) (by omega) (by omega)).mpr z)
                      exact absurd c_106 (by decide)
                  · refine V.iload (pc := 83) 5 hC dX7_notMoved_83 rfl ?_
                    refine V.aload_n (pc := 85) 0 hC dX7_notMoved_85 rfl ?_
                    refine V.get (pc := 86) (v := .ref (b 5)) hC cf_X7 0 5 fl_X7_22 (by decide) gm_0 rfl dX7_notMoved_86 ?_
                    refine V.iload_n (pc := 89) 3 hC dX7_notMoved_89 rfl ?_
                    refine V.iald (pc := 90) (f := μ 5) hC 5 (nN o) gm_5 hh_o.1 (by omega) (by decide) dX7_notMoved_90 ?_
                    refine V.iload (pc := 91) 4 hC dX7_notMoved_91 rfl ?_
                    refine V.isub (pc := 93) hC dX7_notMoved_93 ?_
                    refine V.icmp_gt (pc := 94) 101 hC dX7_notMoved_94 (by decide) (fun c_94 => ?_) (fun c_94 => ?_)
                    · refine V.iconst (pc := 101) 0 hC dX7_notMoved_101 (by decide) ?_
                      refine V.istore (pc := 102) [(6, .int 0), (0, .ref (b 20)), (1, .int s), (2, .int i), (3, .int o), (4, .int j), (5, .int m)] hC dX7_notMoved_102 (by decide) rfl ?_
                      refine V.iload (pc := 104) 0 hC dX7_notMoved_104 rfl ?_
                      refine V.if_eq (pc := 106) 113 hC dX7_notMoved_106 (by decide) (fun c_106 => ?_) (fun c_106 => ?_)
                      · have nc_106 : 0 = 0 := (neq (nl 0) (nl 0) (by omega) (by omega)).mp c_106
                        refine V.ldc (pc := 113) (v := (-1000000001)) hC cn_X7_55 dX7_notMoved_113 ?_
                        exact hR (-1000000001) () _ _ dX7_notMoved_115 rfl (ri (by rw [mvwS, if_neg (not_not_intro c_4), if_neg (not_not_intro c_11), if_neg c_23, if_neg c_32, if_neg (not_not_intro c_50), if_pos (fun q => i_gt c_94 q.2.2.2.2)]))
                      · have nc_106 : ¬ (0 = 0) := fun z => c_106 ((neq (nl 0) (nl 0) (by omega) (by omega)).mpr z)
                        exact absurd c_106 (by decide)
                    · refine V.iconst (pc := 97) 1 hC dX7_notMoved_97 (by decide) ?_
                      refine V.goto (pc := 98) 102 hC dX7_notMoved_98 (by decide) ?_
                      refine V.istore (pc := 102) [(6, .int 1), (0, .ref (b 20)), (1, .int s), (2, .int i), (3, .int o), (4, .int j), (5, .int m)] hC dX7_notMoved_102 (by decide) rfl ?_
                      refine V.iload (pc := 104) 0 hC dX7_notMoved_104 rfl ?_
                      refine V.if_eq (pc := 106) 113 hC dX7_notMoved_106 (by decide) (fun c_106 => ?_) (fun c_106 => ?_)
                      · have nc_106 : 1 = 0 := (neq (nl 1) (nl 0) (by omega) (by omega)).mp c_106
                        exact absurd c_106 (by decide)
                      · have nc_106 : ¬ (1 = 0) := fun z => c_106 ((neq (nl 1) (nl 0) (by omega) (by omega)).mpr z)
                        refine V.iconst (pc := 109) 0 hC dX7_notMoved_109 (by decide) ?_
                        refine V.goto (pc := 110) 115 hC dX7_notMoved_110 (by decide) ?_
                        exact hR 0 () _ _ dX7_notMoved_115 rfl (ri (by rw [mvwS, if_neg (not_not_intro c_4), if_neg (not_not_intro c_11), if_neg c_23, if_neg c_32, if_neg (not_not_intro c_50), if_neg (not_not_intro ⟨i_nlt c_58, i_nlt c_62, i_nlt c_67, i_nlt c_80, i_nlt c_94⟩)]))
          · refine V.ldc (pc := 53) (v := (-1000000005)) hC cn_X7_113 dX7_notMoved_53 ?_
            exact hR (-1000000005) () _ _ dX7_notMoved_55 rfl (ri (by rw [mvwS, if_neg (not_not_intro c_4), if_neg (not_not_intro c_11), if_neg c_23, if_neg c_32, if_pos c_50]))
        · refine V.ldc (pc := 35) (v := (-1000000002)) hC cn_X7_190 dX7_notMoved_35 ?_
          exact hR (-1000000002) () _ _ dX7_notMoved_37 rfl (ri (by rw [mvwS, if_neg (not_not_intro c_4), if_neg (not_not_intro c_11), if_neg c_23, if_pos c_32]))
    · refine V.ldc (pc := 14) (v := (-1000000001)) hC cn_X7_55 dX7_notMoved_14 ?_
      exact hR (-1000000001) () _ _ dX7_notMoved_16 rfl (ri (by rw [mvwS, if_neg (not_not_intro c_4), if_pos c_11]))
set_option maxHeartbeats 4000000 in
set_option maxRecDepth 100000 in
theorem c_X7_move {l : Launch} {D : va_G} {k : Nat → ClassId} {g b : Nat → Nat} (μ ν : St) (s i o j m : Int32) (hI : Inv (μ 0)) (hS : ∀ s, s < 4 → isN (μ 5 s) 24) : Ct l D k g yX7_move cX7_move 9 (some .int) 3 68 [.ref (b 20), .int s, .int i, .int o, .int j, .int m] (S := St) (wM k b μ ν) (fun uu => wM k b uu ν) (fun vv uu => vv = some (.int ((op_move s i o j m μ).1)) ∧ uu = (op_move s i o j m μ).2) := by
  refine Ct.ofI RX7 rfl (by decide +kernel) (Nat.le_of_ble_eq_true rfl) (fun X hC hR => ?_)
  have hb4 := hI.hb; have hb8 := hI.mb; have hb6 := hI.pb; have hbm := hI.ob0; have hbt := hI.bb; have hbw := hI.wb
  show V X (wM k b μ ν) [(0, .ref (b 20)), (1, .int s), (2, .int i), (3, .int o), (4, .int j), (5, .int m)] [] 0
  refine V.aload_n (pc := 0) 0 hC dX7_move_0 rfl ?_
  refine V.iload_n (pc := 1) 1 hC dX7_move_1 rfl ?_
  refine V.iload_n (pc := 2) 2 hC dX7_move_2 rfl ?_
  refine V.iload_n (pc := 3) 3 hC dX7_move_3 rfl ?_
  refine V.iload (pc := 4) 4 hC dX7_move_4 rfl ?_
  refine V.iload (pc := 6) 5 hC dX7_move_6 rfl ?_
  refine V.callV0 (pc := 8) (as := [.int s, .int i, .int o, .int j, .int m]) hC (c_X7_notMoved μ ν s i o j m ) mu_X7_notMoved ml_X7_249 (by decide) ⟨0, 7, TX7, 20, _, rfl, gm_0⟩ rfl (Nat.le_of_ble_eq_true rfl) dX7_move_8 ?_
  rintro _ _ rfl
  show V X (wM k b μ ν) [(0, .ref (b 20)), (1, .int s), (2, .int i), (3, .int o), (4, .int j), (5, .int m)] [.int (mvwS μ s i o j m)] 11
  by_cases sA : shtS s
  · by_cases sO : shtS o
    · by_cases sB : μ 4 (nN s) = 0
      · refine V.eqi (y := (-1000000002)) (by rw [mvwS, if_neg (not_not_intro sA), if_neg (not_not_intro sO), if_pos sB]) ?_
        refine V.istore (pc := 11) [(6, .int (-1000000002)), (0, .ref (b 20)), (1, .int s), (2, .int i), (3, .int o), (4, .int j), (5, .int m)] hC dX7_move_11 (by decide) rfl ?_
        refine V.iload (pc := 13) 0 hC dX7_move_13 rfl ?_
        refine V.if_eq (pc := 15) 25 hC dX7_move_15 (by decide) (fun c_15 => ?_) (fun c_15 => ?_)
        · exact absurd c_15 (by decide)
        · refine V.aload_n (pc := 18) 1 hC dX7_move_18 rfl ?_
          refine V.iload (pc := 19) 0 hC dX7_move_19 rfl ?_
          refine V.callV0 (pc := 21) (as := [.int (-1000000002)]) hC (c_X7_error μ ν 2 (-1000000002) (by omega) (by decide)) mu_X7_error ml_X7_56 (by decide) ⟨0, 7, TX7, 20, _, rfl, gm_0⟩ rfl (Nat.le_of_ble_eq_true rfl) dX7_move_21 ?_
          rintro _ _ rfl
          show V X (wM k b (va_up μ 3 (upd (μ 3) 2 (μ 3 2 + 1))) ν) [(6, .int (-1000000002)), (0, .ref (b 20)), (1, .int s), (2, .int i), (3, .int o), (4, .int j), (5, .int m)] [.int (-1000000002)] 24
          exact hR (-1000000002) ((va_up μ 3 (upd (μ 3) 2 (μ 3 2 + 1)))) _ _ dX7_move_24 rfl (opr (by rw [op_move, if_neg (not_not_intro sA), if_neg (not_not_intro sO), if_pos sB, er_2]))
      · by_cases sC : μ 4 (nN o) = 0
        · refine V.eqi (y := (-1000000002)) (by rw [mvwS, if_neg (not_not_intro sA), if_neg (not_not_intro sO), if_neg sB, if_pos sC]) ?_
          refine V.istore (pc := 11) [(6, .int (-1000000002)), (0, .ref (b 20)), (1, .int s), (2, .int i), (3, .int o), (4, .int j), (5, .int m)] hC dX7_move_11 (by decide) rfl ?_
          refine V.iload (pc := 13) 0 hC dX7_move_13 rfl ?_
          refine V.if_eq (pc := 15) 25 hC dX7_move_15 (by decide) (fun c_15 => ?_) (fun c_15 => ?_)
          · exact absurd c_15 (by decide)
          · refine V.aload_n (pc := 18) 1 hC dX7_move_18 rfl ?_
            refine V.iload (pc := 19) 0 hC dX7_move_19 rfl ?_
            refine V.callV0 (pc := 21) (as := [.int (-1000000002)]) hC (c_X7_error μ ν 2 (-1000000002) (by omega) (by decide)) mu_X7_error ml_X7_56 (by decide) ⟨0, 7, TX7, 20, _, rfl, gm_0⟩ rfl (Nat.le_of_ble_eq_true rfl) dX7_move_21 ?_
            rintro _ _ rfl
            show V X (wM k b (va_up μ 3 (upd (μ 3) 2 (μ 3 2 + 1))) ν) [(6, .int (-1000000002)), (0, .ref (b 20)), (1, .int s), (2, .int i), (3, .int o), (4, .int j), (5, .int m)] [.int (-1000000002)] 24
            exact hR (-1000000002) ((va_up μ 3 (upd (μ 3) 2 (μ 3 2 + 1)))) _ _ dX7_move_24 rfl (opr (by rw [op_move, if_neg (not_not_intro sA), if_neg (not_not_intro sO), if_neg sB, if_pos sC, er_2]))
        · by_cases sD : μ 4 (nN s) = μ 4 (nN o)
          · by_cases sE : movOk s i o j m μ
            · refine V.eqi (y := 0) (by rw [mvwS, if_neg (not_not_intro sA), if_neg (not_not_intro sO), if_neg sB, if_neg sC, if_neg (not_not_intro sD), if_neg (not_not_intro sE)]) ?_
              refine V.istore (pc := 11) [(6, .int 0), (0, .ref (b 20)), (1, .int s), (2, .int i), (3, .int o), (4, .int j), (5, .int m)] hC dX7_move_11 (by decide) rfl ?_
              refine V.iload (pc := 13) 0 hC dX7_move_13 rfl ?_
              refine V.if_eq (pc := 15) 25 hC dX7_move_15 (by decide) (fun c_15 => ?_) (fun c_15 => ?_)
              · have nc_15 : 0 = 0 := (neq (nl 0) (nl 0) (by omega) (by omega)).mp c_15
                have hh_s := inS_c sA (nl 3) (by omega)
                have hh_o := inS_c sO (nl 3) (by omega)
                have hmv := mov_n sE (hS _ (by omega)) (hS _ (by omega))
                have hs24 := (hS (nN s) (by omega)).2
                have ho24 := (hS (nN o) (by omega)).2
                have hmv : (i = nI (nN i) ∧ j = nI (nN j) ∧ m = nI (nN m)) ∧ nN i + nN m ≤ 24 ∧ nN j + nN m ≤ 24 := ⟨hmv.1, by omega, by omega⟩
                refine V.iconst (pc := 25) 0 hC dX7_move_25 (by decide) ?_
                refine V.istore (pc := 26) [(7, .int 0), (6, .int 0), (0, .ref (b 20)), (1, .int s), (2, .int i), (3, .int o), (4, .int j), (5, .int m)] hC dX7_move_26 (by decide) rfl ?_
                have loop_28 : ∀ (n : Nat) (c : Nat) (f : Rw), c + n = nN m → f = movG (μ 6) (nN i) (nN j) (24 * nN o + nN j) (24 * nN s + nN i) (nN m) c → V X (wM k b (va_up μ 6 f) ν) [(0, .ref (b 20)), (1, .int s), (2, .int i), (3, .int o), (4, .int j), (5, .int m), (7, .int (nI c))] [] 28 := by
                  intro n
                  induction n with
                  | zero =>
                    intro c f hi hf
                    refine V.iload (pc := 28) 6 hC dX7_move_28 rfl ?_
                    refine V.iload (pc := 30) 5 hC dX7_move_30 rfl ?_
                    refine V.icmp_ge (pc := 32) 90 hC dX7_move_32 (by decide) (fun c_32 => ?_) (fun c_32 => ?_)
                    · have nc_32 : nN m ≤ c := (nle hmv.1.2.2 rfl (by omega) (by omega)).mp c_32
                      refine V.iload (pc := 90) 5 hC dX7_move_90 rfl ?_
                      exact hR m ((va_up μ 6 f)) _ _ dX7_move_92 rfl (opr (by rw [op_move, if_neg (not_not_intro sA), if_neg (not_not_intro sO), if_neg sB, if_neg sC, if_neg (not_not_intro sD), if_neg (not_not_intro sE), ← mov_m (i := nN i) (j := nN j), show movG (μ 6) (nN i) (nN j) (24 * nN o + nN j) (24 * nN s + nN i) (nN m) (nN m) = f from by rw [hf, show c = nN m by omega]]))
                    · have nc_32 : ¬ (nN m ≤ c) := fun z => c_32 ((nle hmv.1.2.2 rfl (by omega) (by omega)).mpr z)
                      exfalso; omega
                  | succ n ih =>
                    intro c f hi hf
                    refine V.iload (pc := 28) 6 hC dX7_move_28 rfl ?_
                    refine V.iload (pc := 30) 5 hC dX7_move_30 rfl ?_
                    refine V.icmp_ge (pc := 32) 90 hC dX7_move_32 (by decide) (fun c_32 => ?_) (fun c_32 => ?_)
                    · have nc_32 : nN m ≤ c := (nle hmv.1.2.2 rfl (by omega) (by omega)).mp c_32
                      exfalso; omega
                    · have nc_32 : ¬ (nN m ≤ c) := fun z => c_32 ((nle hmv.1.2.2 rfl (by omega) (by omega)).mpr z)
                      refine V.iload_n (pc := 35) 2 hC dX7_move_35 rfl ?_
                      refine V.iload (pc := 36) 4 hC dX7_move_36 rfl ?_
                      refine V.icmp_ge (pc := 38) 51 hC dX7_move_38 (by decide) (fun c_38 => ?_) (fun c_38 => ?_)
                      · have nc_38 : nN j ≤ nN i := (nle hmv.1.2.1 hmv.1.1 (by omega) (by omega)).mp c_38
                        refine V.iload (pc := 51) 6 hC dX7_move_51 rfl ?_
                        refine V.istore (pc := 53) [(8, .int (nI c)), (0, .ref (b 20)), (1, .int s), (2, .int i), (3, .int o), (4, .int j), (5, .int m), (7, .int (nI c))] hC dX7_move_53 (by decide) rfl ?_
                        refine V.aload_n (pc := 55) 1 hC dX7_move_55 rfl ?_
                        refine V.get (pc := 56) (v := .ref (b 6)) hC cf_X7 0 6 fl_X7_25 (by decide) gm_0 rfl dX7_move_56 ?_
                        refine V.bipush (pc := 59) 24 hC dX7_move_59 (by decide) ?_
                        refine V.iload_n (pc := 61) 4 hC dX7_move_61 rfl ?_
                        refine V.imul (pc := 62) hC dX7_move_62 ?_
                        refine V.iload (pc := 63) 5 hC dX7_move_63 rfl ?_
                        refine V.iadd (pc := 65) hC dX7_move_65 ?_
                        refine V.iload (pc := 66) 0 hC dX7_move_66 rfl ?_
                        refine V.iadd (pc := 68) hC dX7_move_68 ?_
                        refine V.aload_n (pc := 69) 1 hC dX7_move_69 rfl ?_
                        refine V.get (pc := 70) (v := .ref (b 6)) hC cf_X7 0 6 fl_X7_25 (by decide) gm_0 rfl dX7_move_70 ?_
                        refine V.bipush (pc := 73) 24 hC dX7_move_73 (by decide) ?_
                        refine V.iload_n (pc := 75) 2 hC dX7_move_75 rfl ?_
                        refine V.imul (pc := 76) hC dX7_move_76 ?_
                        refine V.iload_n (pc := 77) 3 hC dX7_move_77 rfl ?_
                        refine V.iadd (pc := 78) hC dX7_move_78 ?_
                        refine V.iload (pc := 79) 0 hC dX7_move_79 rfl ?_
                        refine V.iadd (pc := 81) hC dX7_move_81 ?_
                        refine V.iald (pc := 82) (f := f) hC 6 (24 * nN s + nN i + c) gm_6 (ncast (b := 24 * nN s + nN i + c) (nadd (nadd (nmul (nl 24) hh_s.1) hmv.1.1) rfl) (by omega)) (by omega) (by decide) dX7_move_82 ?_
                        refine V.iast (pc := 83) (f := f) hC 6 (24 * nN o + nN j + c) (wM k b (va_up μ 6 (upd f (24 * nN o + nN j + c) (f (24 * nN s + nN i + c)))) ν) gm_6 (ncast (b := 24 * nN o + nN j + c) (nadd (nadd (nmul (nl 24) hh_o.1) hmv.1.2.1) rfl) (by omega)) (by omega) (by decide) rfl dX7_move_83 ?_
                        refine V.iinc (pc := 84) 7 (nI (c + 1)) [(7, .int (nI (c + 1))), (8, .int (nI c)), (0, .ref (b 20)), (1, .int s), (2, .int i), (3, .int o), (4, .int j), (5, .int m)] hC dX7_move_84 rfl (ncast (nadd rfl (nl 1)) (by omega)) (by decide) rfl ?_
                        refine V.goto (pc := 87) 28 hC dX7_move_87 (by decide) ?_
                        exact V.sub [2, 3, 4, 5, 6, 7, 0] rfl (ih (c + 1) (upd f (24 * nN o + nN j + c) (f (24 * nN s + nN i + c))) (by omega) (by rw [hf]; exact mov_s (by omega) hmv.2.1 hmv.2.2 (Or.inr ⟨by omega, rfl⟩)))
                      · have nc_38 : ¬ (nN j ≤ nN i) := fun z => c_38 ((nle hmv.1.2.1 hmv.1.1 (by omega) (by omega)).mpr z)
                        refine V.iload (pc := 41) 5 hC dX7_move_41 rfl ?_
                        refine V.iconst (pc := 43) 1 hC dX7_move_43 (by decide) ?_
                        refine V.isub (pc := 44) hC dX7_move_44 ?_
                        refine V.iload (pc := 45) 6 hC dX7_move_45 rfl ?_
                        refine V.isub (pc := 47) hC dX7_move_47 ?_
                        obtain ⟨e9, he9⟩ : ∃ e9, e9 = nN m - 1 - c := ⟨_, rfl⟩
                        refine V.eqi (y := nI e9) (by rw [he9]; exact nsub (nsub hmv.1.2.2 (nl 1) (by omega)) rfl (by omega)) ?_
                        refine V.goto (pc := 48) 53 hC dX7_move_48 (by decide) ?_
                        refine V.istore (pc := 53) [(8, .int (nI e9)), (0, .ref (b 20)), (1, .int s), (2, .int i), (3, .int o), (4, .int j), (5, .int m), (7, .int (nI c))] hC dX7_move_53 (by decide) rfl ?_
                        refine V.aload_n (pc := 55) 1 hC dX7_move_55 rfl ?_
                        refine V.get (pc := 56) (v := .ref (b 6)) hC cf_X7 0 6 fl_X7_25 (by decide) gm_0 rfl dX7_move_56 ?_
                        refine V.bipush (pc := 59) 24 hC dX7_move_59 (by decide) ?_
                        refine V.iload_n (pc := 61) 4 hC dX7_move_61 rfl ?_
                        refine V.imul (pc := 62) hC dX7_move_62 ?_
                        refine V.iload (pc := 63) 5 hC dX7_move_63 rfl ?_
                        refine V.iadd (pc := 65) hC dX7_move_65 ?_
                        refine V.iload (pc := 66) 0 hC dX7_move_66 rfl ?_
                        refine V.iadd (pc := 68) hC dX7_move_68 ?_
                        refine V.aload_n (pc := 69) 1 hC dX7_move_69 rfl ?_
                        refine V.get (pc := 70) (v := .ref (b 6)) hC cf_X7 0 6 fl_X7_25 (by decide) gm_0 rfl dX7_move_70 ?_
                        refine V.bipush (pc := 73) 24 hC dX7_move_73 (by decide) ?_
                        refine V.iload_n (pc := 75) 2 hC dX7_move_75 rfl ?_
                        refine V.imul (pc := 76) hC dX7_move_76 ?_
                        refine V.iload_n (pc := 77) 3 hC dX7_move_77 rfl ?_
                        refine V.iadd (pc := 78) hC dX7_move_78 ?_
                        refine V.iload (pc := 79) 0 hC dX7_move_79 rfl ?_
                        refine V.iadd (pc := 81) hC dX7_move_81 ?_
                        refine V.iald (pc := 82) (f := f) hC 6 (24 * nN s + nN i + e9) gm_6 (ncast (b := 24 * nN s + nN i + e9) (nadd (nadd (nmul (nl 24) hh_s.1) hmv.1.1) rfl) (by omega)) (by omega) (by decide) dX7_move_82 ?_
                        refine V.iast (pc := 83) (f := f) hC 6 (24 * nN o + nN j + e9) (wM k b (va_up μ 6 (upd f (24 * nN o + nN j + e9) (f (24 * nN s + nN i + e9)))) ν) gm_6 (ncast (b := 24 * nN o + nN j + e9) (nadd (nadd (nmul (nl 24) hh_o.1) hmv.1.2.1) rfl) (by omega)) (by omega) (by decide) rfl dX7_move_83 ?_
                        refine V.iinc (pc := 84) 7 (nI (c + 1)) [(7, .int (nI (c + 1))), (8, .int (nI e9)), (0, .ref (b 20)), (1, .int s), (2, .int i), (3, .int o), (4, .int j), (5, .int m)] hC dX7_move_84 rfl (ncast (nadd rfl (nl 1)) (by omega)) (by decide) rfl ?_
                        refine V.goto (pc := 87) 28 hC dX7_move_87 (by decide) ?_
                        exact V.sub [2, 3, 4, 5, 6, 7, 0] rfl (ih (c + 1) (upd f (24 * nN o + nN j + e9) (f (24 * nN s + nN i + e9))) (by omega) (by rw [hf]; exact mov_s (by omega) hmv.2.1 hmv.2.2 (Or.inl ⟨by omega, he9⟩)))
                exact V.sub [2, 3, 4, 5, 6, 7, 0] rfl (loop_28 (nN m) 0 (μ 6) (by omega) mov_0)
              · have nc_15 : ¬ (0 = 0) := fun z => c_15 ((neq (nl 0) (nl 0) (by omega) (by omega)).mpr z)
                exact absurd c_15 (by decide)
            · refine V.eqi (y := (-1000000001)) (by rw [mvwS, if_neg (not_not_intro sA), if_neg (not_not_intro sO), if_neg sB, if_neg sC, if_neg (not_not_intro sD), if_pos sE]) ?_
              refine V.istore (pc := 11) [(6, .int (-1000000001)), (0, .ref (b 20)), (1, .int s), (2, .int i), (3, .int o), (4, .int j), (5, .int m)] hC dX7_move_11 (by decide) rfl ?_
              refine V.iload (pc := 13) 0 hC dX7_move_13 rfl ?_
              refine V.if_eq (pc := 15) 25 hC dX7_move_15 (by decide) (fun c_15 => ?_) (fun c_15 => ?_)
              · exact absurd c_15 (by decide)
              · refine V.aload_n (pc := 18) 1 hC dX7_move_18 rfl ?_
                refine V.iload (pc := 19) 0 hC dX7_move_19 rfl ?_
                refine V.callV0 (pc := 21) (as := [.int (-1000000001)]) hC (c_X7_error μ ν 1 (-1000000001) (by omega) (by decide)) mu_X7_error ml_X7_56 (by decide) ⟨0, 7, TX7, 20, _, rfl, gm_0⟩ rfl (Nat.le_of_ble_eq_true rfl) dX7_move_21 ?_
                rintro _ _ rfl
                show V X (wM k b (va_up μ 3 (upd (μ 3) 1 (μ 3 1 + 1))) ν) [(6, .int (-1000000001)), (0, .ref (b 20)), (1, .int s), (2, .int i), (3, .int o), (4, .int j), (5, .int m)] [.int (-1000000001)] 24
                exact hR (-1000000001) ((va_up μ 3 (upd (μ 3) 1 (μ 3 1 + 1)))) _ _ dX7_move_24 rfl (opr (by rw [op_move, if_neg (not_not_intro sA), if_neg (not_not_intro sO), if_neg sB, if_neg sC, if_neg (not_not_intro sD), if_pos sE, er_1]))
          · refine V.eqi (y := (-1000000005)) (by rw [mvwS, if_neg (not_not_intro sA), if_neg (not_not_intro sO), if_neg sB, if_neg sC, if_pos sD]) ?_
            refine V.istore (pc := 11) [(6, .int (-1000000005)), (0, .ref (b 20)), (1, .int s), (2, .int i), (3, .int o), (4, .int j), (5, .int m)] hC dX7_move_11 (by decide) rfl ?_
            refine V.iload (pc := 13) 0 hC dX7_move_13 rfl ?_
            refine V.if_eq (pc := 15) 25 hC dX7_move_15 (by decide) (fun c_15 => ?_) (fun c_15 => ?_)
            · exact absurd c_15 (by decide)
            · refine V.aload_n (pc := 18) 1 hC dX7_move_18 rfl ?_
              refine V.iload (pc := 19) 0 hC dX7_move_19 rfl ?_
              refine V.callV0 (pc := 21) (as := [.int (-1000000005)]) hC (c_X7_error μ ν 5 (-1000000005) (by omega) (by decide)) mu_X7_error ml_X7_56 (by decide) ⟨0, 7, TX7, 20, _, rfl, gm_0⟩ rfl (Nat.le_of_ble_eq_true rfl) dX7_move_21 ?_
              rintro _ _ rfl
              show V X (wM k b (va_up μ 3 (upd (μ 3) 5 (μ 3 5 + 1))) ν) [(6, .int (-1000000005)), (0, .ref (b 20)), (1, .int s), (2, .int i), (3, .int o), (4, .int j), (5, .int m)] [.int (-1000000005)] 24
              exact hR (-1000000005) ((va_up μ 3 (upd (μ 3) 5 (μ 3 5 + 1)))) _ _ dX7_move_24 rfl (opr (by rw [op_move, if_neg (not_not_intro sA), if_neg (not_not_intro sO), if_neg sB, if_neg sC, if_pos sD, er_5]))
    · refine V.eqi (y := (-1000000001)) (by rw [mvwS, if_neg (not_not_intro sA), if_pos sO]) ?_
      refine V.istore (pc := 11) [(6, .int (-1000000001)), (0, .ref (b 20)), (1, .int s), (2, .int i), (3, .int o), (4, .int j), (5, .int m)] hC dX7_move_11 (by decide) rfl ?_
      refine V.iload (pc := 13) 0 hC dX7_move_13 rfl ?_
      refine V.if_eq (pc := 15) 25 hC dX7_move_15 (by decide) (fun c_15 => ?_) (fun c_15 => ?_)
      · exact absurd c_15 (by decide)
      · refine V.aload_n (pc := 18) 1 hC dX7_move_18 rfl ?_
        refine V.iload (pc := 19) 0 hC dX7_move_19 rfl ?_
        refine V.callV0 (pc := 21) (as := [.int (-1000000001)]) hC (c_X7_error μ ν 1 (-1000000001) (by omega) (by decide)) mu_X7_error ml_X7_56 (by decide) ⟨0, 7, TX7, 20, _, rfl, gm_0⟩ rfl (Nat.le_of_ble_eq_true rfl) dX7_move_21 ?_
        rintro _ _ rfl
        show V X (wM k b (va_up μ 3 (upd (μ 3) 1 (μ 3 1 + 1))) ν) [(6, .int (-1000000001)), (0, .ref (b 20)), (1, .int s), (2, .int i), (3, .int o), (4, .int j), (5, .int m)] [.int (-1000000001)] 24
        exact hR (-1000000001) ((va_up μ 3 (upd (μ 3) 1 (μ 3 1 + 1)))) _ _ dX7_move_24 rfl (opr (by rw [op_move, if_neg (not_not_intro sA), if_pos sO, er_1]))
  · refine V.eqi (y := (-1000000001)) (by rw [mvwS, if_pos sA]) ?_
    refine V.istore (pc := 11) [(6, .int (-1000000001)), (0, .ref (b 20)), (1, .int s), (2, .int i), (3, .int o), (4, .int j), (5, .int m)] hC dX7_move_11 (by decide) rfl ?_
    refine V.iload (pc := 13) 0 hC dX7_move_13 rfl ?_
    refine V.if_eq (pc := 15) 25 hC dX7_move_15 (by decide) (fun c_15 => ?_) (fun c_15 => ?_)
    · exact absurd c_15 (by decide)
    · refine V.aload_n (pc := 18) 1 hC dX7_move_18 rfl ?_
      refine V.iload (pc := 19) 0 hC dX7_move_19 rfl ?_
      refine V.callV0 (pc := 21) (as := [.int (-1000000001)]) hC (c_X7_error μ ν 1 (-1000000001) (by omega) (by decide)) mu_X7_error ml_X7_56 (by decide) ⟨0, 7, TX7, 20, _, rfl, gm_0⟩ rfl (Nat.le_of_ble_eq_true rfl) dX7_move_21 ?_
      rintro _ _ rfl
      show V X (wM k b (va_up μ 3 (upd (μ 3) 1 (μ 3 1 + 1))) ν) [(6, .int (-1000000001)), (0, .ref (b 20)), (1, .int s), (2, .int i), (3, .int o), (4, .int j), (5, .int m)] [.int (-1000000001)] 24
      exact hR (-1000000001) ((va_up μ 3 (upd (μ 3) 1 (μ 3 1 + 1)))) _ _ dX7_move_24 rfl (opr (by rw [op_move, if_pos sA, er_1]))
set_option maxHeartbeats 4000000 in
set_option maxRecDepth 100000 in
theorem c_X7_offsets {l : Launch} {D : va_G} {k : Nat → ClassId} {g b : Nat → Nat} (μ ν : St) (s : Int32) (hI : Inv (μ 0)) (hS : ∀ s, s < 4 → isN (μ 5 s) 24) : Ct l D k g yX7_offsets cX7_offsets 4 (some .int) 3 63 [.ref (b 20), .int s] (S := St) (wM k b μ ν) (fun uu => wM k b uu ν) (fun vv uu => vv = some (.int ((op_offsets s μ).1)) ∧ uu = (op_offsets s μ).2) := by
  refine Ct.ofI RX7 rfl (by decide +kernel) (Nat.le_of_ble_eq_true rfl) (fun X hC hR => ?_)
  have hb4 := hI.hb; have hb8 := hI.mb; have hb6 := hI.pb; have hbm := hI.ob0; have hbt := hI.bb; have hbw := hI.wb
  show V X (wM k b μ ν) [(0, .ref (b 20)), (1, .int s)] [] 0
  refine V.aload_n (pc := 0) 0 hC dX7_offsets_0 rfl ?_
  refine V.iload_n (pc := 1) 1 hC dX7_offsets_1 rfl ?_
  refine V.callV0 (pc := 2) (as := [.int s]) hC (c_X7_notThere μ ν s ) mu_X7_notThere ml_X7_203 (by decide) ⟨0, 7, TX7, 20, _, rfl, gm_0⟩ rfl (Nat.le_of_ble_eq_true rfl) dX7_offsets_2 ?_
  rintro _ _ rfl
  show V X (wM k b μ ν) [(0, .ref (b 20)), (1, .int s)] [.int (whyS μ s)] 5
  by_cases sA : shtS s
  · by_cases sB : μ 4 (nN s) = 0
    · refine V.eqi (y := (-1000000002)) (by rw [whyS, if_neg (not_not_intro sA), if_pos sB]) ?_
      refine V.istore_n (pc := 5) [(2, .int (-1000000002)), (0, .ref (b 20)), (1, .int s)] hC dX7_offsets_5 (by decide) rfl ?_
      refine V.iload_n (pc := 6) 0 hC dX7_offsets_6 rfl ?_
      refine V.if_eq (pc := 7) 16 hC dX7_offsets_7 (by decide) (fun c_7 => ?_) (fun c_7 => ?_)
      · exact absurd c_7 (by decide)
      · refine V.aload_n (pc := 10) 1 hC dX7_offsets_10 rfl ?_
        refine V.iload_n (pc := 11) 0 hC dX7_offsets_11 rfl ?_
        refine V.callV0 (pc := 12) (as := [.int (-1000000002)]) hC (c_X7_error μ ν 2 (-1000000002) (by omega) (by decide)) mu_X7_error ml_X7_56 (by decide) ⟨0, 7, TX7, 20, _, rfl, gm_0⟩ rfl (Nat.le_of_ble_eq_true rfl) dX7_offsets_12 ?_
        rintro _ _ rfl
        show V X (wM k b (va_up μ 3 (upd (μ 3) 2 (μ 3 2 + 1))) ν) [(2, .int (-1000000002)), (0, .ref (b 20)), (1, .int s)] [.int (-1000000002)] 15
        exact hR (-1000000002) ((va_up μ 3 (upd (μ 3) 2 (μ 3 2 + 1)))) _ _ dX7_offsets_15 rfl (opr (by rw [op_offsets, if_neg (not_not_intro sA), if_pos sB, er_2]))
    · refine V.eqi (y := 0) (by rw [whyS, if_neg (not_not_intro sA), if_neg sB]) ?_
      refine V.istore_n (pc := 5) [(2, .int 0), (0, .ref (b 20)), (1, .int s)] hC dX7_offsets_5 (by decide) rfl ?_
      refine V.iload_n (pc := 6) 0 hC dX7_offsets_6 rfl ?_
      refine V.if_eq (pc := 7) 16 hC dX7_offsets_7 (by decide) (fun c_7 => ?_) (fun c_7 => ?_)
      · have nc_7 : 0 = 0 := (neq (nl 0) (nl 0) (by omega) (by omega)).mp c_7
        have hh_s := inS_c sA (nl 3) (by omega)
        have hs24 := (hS (nN s) (by omega)).2
        refine V.iconst (pc := 16) 0 hC dX7_offsets_16 (by decide) ?_
        refine V.istore_n (pc := 17) [(3, .int 0), (2, .int 0), (0, .ref (b 20)), (1, .int s)] hC dX7_offsets_17 (by decide) rfl ?_
        have loop_18 : ∀ (n : Nat) (i : Nat) (f : Rw), i + n = min (nN (μ 5 (nN s))) (nN (μ 0 2)) → f 2 = μ 0 2 → ofsS (fun i => μ 6 (24 * nN s + i)) (min (nN (μ 5 (nN s))) (nN (μ 0 2))) 0 (μ 0) = ofsS (fun i => μ 6 (24 * nN s + i)) n i f → V X (wM k b (va_up μ 0 f) ν) [(0, .ref (b 20)), (1, .int s), (3, .int (nI i))] [] 18 := by
          intro n
          induction n with
          | zero =>
            intro i f hi h2 hv
            refine V.iload_n (pc := 18) 2 hC dX7_offsets_18 rfl ?_
            refine V.aload_n (pc := 19) 0 hC dX7_offsets_19 rfl ?_
            refine V.get (pc := 20) (v := .ref (b 5)) hC cf_X7 0 5 fl_X7_22 (by decide) gm_0 rfl dX7_offsets_20 ?_
            refine V.iload_n (pc := 23) 1 hC dX7_offsets_23 rfl ?_
            refine V.iald (pc := 24) (f := μ 5) hC 5 (nN s) gm_5 hh_s.1 (by omega) (by decide) dX7_offsets_24 ?_
            refine V.icmp_ge (pc := 25) 89 hC dX7_offsets_25 (by decide) (fun c_25 => ?_) (fun c_25 => ?_)
            · have nc_25 : nN (μ 5 (nN s)) ≤ i := (nle ((hS _ (by omega)).1) rfl (by omega) (by omega)).mp c_25
              refine V.iload_n (pc := 89) 2 hC dX7_offsets_89 rfl ?_
              exact hR (nI i) ((va_up μ 0 f)) _ _ dX7_offsets_90 rfl (opr (by rw [op_offsets, if_neg (not_not_intro sA), if_neg sB, show ofsV μ s = (i, f) from hv]))
            · have nc_25 : ¬ (nN (μ 5 (nN s)) ≤ i) := fun z => c_25 ((nle ((hS _ (by omega)).1) rfl (by omega) (by omega)).mpr z)
              refine V.iload_n (pc := 28) 2 hC dX7_offsets_28 rfl ?_
              refine V.aload_n (pc := 29) 0 hC dX7_offsets_29 rfl ?_
              refine V.get (pc := 30) (v := .ref (b 0)) hC cf_X7 0 0 fl_X7_9 (by decide) gm_0 rfl dX7_offsets_30 ?_
              refine V.iconst (pc := 33) 2 hC dX7_offsets_33 (by decide) ?_
              refine V.iald (pc := 34) (f := f) hC 1 2 gm_1 (nl 2) (by omega) (by decide) dX7_offsets_34 ?_
              refine V.eqi (y := μ 0 2) (h2) ?_
              refine V.icmp_ge (pc := 35) 89 hC dX7_offsets_35 (by decide) (fun c_35 => ?_) (fun c_35 => ?_)
              · have nc_35 : nN (μ 0 2) ≤ i := (nle hI.hn rfl (by omega) (by omega)).mp c_35
                refine V.iload_n (pc := 89) 2 hC dX7_offsets_89 rfl ?_
                exact hR (nI i) ((va_up μ 0 f)) _ _ dX7_offsets_90 rfl (opr (by rw [op_offsets, if_neg (not_not_intro sA), if_neg sB, show ofsV μ s = (i, f) from hv]))
              · have nc_35 : ¬ (nN (μ 0 2) ≤ i) := fun z => c_35 ((nle hI.hn rfl (by omega) (by omega)).mpr z)
                exfalso; omega
          | succ n ih =>
            intro i f hi h2 hv
            refine V.iload_n (pc := 18) 2 hC dX7_offsets_18 rfl ?_
            refine V.aload_n (pc := 19) 0 hC dX7_offsets_19 rfl ?_
            refine V.get (pc := 20) (v := .ref (b 5)) hC cf_X7 0 5 fl_X7_22 (by decide) gm_0 rfl dX7_offsets_20 ?_
            refine V.iload_n (pc := 23) 1 hC dX7_offsets_23 rfl ?_
            refine V.iald (pc := 24) (f := μ 5) hC 5 (nN s) gm_5 hh_s.1 (by omega) (by decide) dX7_offsets_24 ?_
            refine V.icmp_ge (pc := 25) 89 hC dX7_offsets_25 (by decide) (fun c_25 => ?_) (fun c_25 => ?_)
            · have nc_25 : nN (μ 5 (nN s)) ≤ i := (nle ((hS _ (by omega)).1) rfl (by omega) (by omega)).mp c_25
              exfalso; omega
            · have nc_25 : ¬ (nN (μ 5 (nN s)) ≤ i) := fun z => c_25 ((nle ((hS _ (by omega)).1) rfl (by omega) (by omega)).mpr z)
              refine V.iload_n (pc := 28) 2 hC dX7_offsets_28 rfl ?_
              refine V.aload_n (pc := 29) 0 hC dX7_offsets_29 rfl ?_
              refine V.get (pc := 30) (v := .ref (b 0)) hC cf_X7 0 0 fl_X7_9 (by decide) gm_0 rfl dX7_offsets_30 ?_
              refine V.iconst (pc := 33) 2 hC dX7_offsets_33 (by decide) ?_
              refine V.iald (pc := 34) (f := f) hC 1 2 gm_1 (nl 2) (by omega) (by decide) dX7_offsets_34 ?_
              refine V.eqi (y := μ 0 2) (h2) ?_
              refine V.icmp_ge (pc := 35) 89 hC dX7_offsets_35 (by decide) (fun c_35 => ?_) (fun c_35 => ?_)
              · have nc_35 : nN (μ 0 2) ≤ i := (nle hI.hn rfl (by omega) (by omega)).mp c_35
                exfalso; omega
              · have nc_35 : ¬ (nN (μ 0 2) ≤ i) := fun z => c_35 ((nle hI.hn rfl (by omega) (by omega)).mpr z)
                refine V.aload_n (pc := 38) 0 hC dX7_offsets_38 rfl ?_
                refine V.get (pc := 39) (v := .ref (b 6)) hC cf_X7 0 6 fl_X7_25 (by decide) gm_0 rfl dX7_offsets_39 ?_
                refine V.bipush (pc := 42) 24 hC dX7_offsets_42 (by decide) ?_
                refine V.iload_n (pc := 44) 1 hC dX7_offsets_44 rfl ?_
                refine V.imul (pc := 45) hC dX7_offsets_45 ?_
                refine V.iload_n (pc := 46) 2 hC dX7_offsets_46 rfl ?_
                refine V.iadd (pc := 47) hC dX7_offsets_47 ?_
                refine V.iald (pc := 48) (f := μ 6) hC 6 (24 * nN s + i) gm_6 (ncast (b := 24 * nN s + i) (nadd (nmul (nl 24) hh_s.1) rfl) (by omega)) (by omega) (by decide) dX7_offsets_48 ?_
                refine V.iconst (pc := 49) 0 hC dX7_offsets_49 (by decide) ?_
                refine V.sipush (pc := 50) 1439 hC dX7_offsets_50 (by decide) ?_
                refine V.callS0 (pc := 53) (as := [.int (μ 6 (24 * nN s + i)), .int 0, .int 1439]) hC (c_X7_in (μ 6 (24 * nN s + i)) 0 1439 ) ms_X7_in ml_X7_47 (by decide) rfl (Nat.le_of_ble_eq_true rfl) dX7_offsets_53 ?_
                rintro _ _ rfl
                show V X (wM k b (va_up μ 0 f) ν) [(0, .ref (b 20)), (1, .int s), (3, .int (nI i))] [.int (bI (inS (μ 6 (24 * nN s + i)) 0 1439))] 56
                refine V.if_eq_b (P := inS (μ 6 (24 * nN s + i)) 0 1439) (pc := 56) 89 hC dX7_offsets_56 (by decide) (fun c_56 => ?_) (fun c_56 => ?_)
                · refine V.iload_n (pc := 89) 2 hC dX7_offsets_89 rfl ?_
                  exact hR (nI i) ((va_up μ 0 f)) _ _ dX7_offsets_90 rfl (opr (by rw [op_offsets, if_neg (not_not_intro sA), if_neg sB, show ofsV μ s = (i, f) from hv.trans (if_neg c_56)]))
                · refine V.aload_n (pc := 59) 0 hC dX7_offsets_59 rfl ?_
                  refine V.get (pc := 60) (v := .ref (b 0)) hC cf_X7 0 0 fl_X7_9 (by decide) gm_0 rfl dX7_offsets_60 ?_
                  refine V.bipush (pc := 63) 7 hC dX7_offsets_63 (by decide) ?_
                  refine V.iconst (pc := 65) 2 hC dX7_offsets_65 (by decide) ?_
                  refine V.iload_n (pc := 66) 2 hC dX7_offsets_66 rfl ?_
                  refine V.imul (pc := 67) hC dX7_offsets_67 ?_
                  refine V.iadd (pc := 68) hC dX7_offsets_68 ?_
                  refine V.iconst (pc := 69) 1 hC dX7_offsets_69 (by decide) ?_
                  refine V.iadd (pc := 70) hC dX7_offsets_70 ?_
                  refine V.aload_n (pc := 71) 0 hC dX7_offsets_71 rfl ?_
                  refine V.get (pc := 72) (v := .ref (b 6)) hC cf_X7 0 6 fl_X7_25 (by decide) gm_0 rfl dX7_offsets_72 ?_
                  refine V.bipush (pc := 75) 24 hC dX7_offsets_75 (by decide) ?_
                  refine V.iload_n (pc := 77) 1 hC dX7_offsets_77 rfl ?_
                  refine V.imul (pc := 78) hC dX7_offsets_78 ?_
                  refine V.iload_n (pc := 79) 2 hC dX7_offsets_79 rfl ?_
                  refine V.iadd (pc := 80) hC dX7_offsets_80 ?_
                  refine V.iald (pc := 81) (f := μ 6) hC 6 (24 * nN s + i) gm_6 (ncast (b := 24 * nN s + i) (nadd (nmul (nl 24) hh_s.1) rfl) (by omega)) (by omega) (by decide) dX7_offsets_81 ?_
                  refine V.iast (pc := 82) (f := f) hC 1 (8 + 2 * i) (wM k b (va_up μ 0 (upd f (8 + 2 * i) (μ 6 (24 * nN s + i)))) ν) gm_1 (ncast (b := 8 + 2 * i) (nadd (nadd (nl 7) (nmul (nl 2) rfl)) (nl 1)) (by omega)) (by omega) (by decide) rfl dX7_offsets_82 ?_
                  refine V.iinc (pc := 83) 2 (nI (i + 1)) [(3, .int (nI (i + 1))), (0, .ref (b 20)), (1, .int s)] hC dX7_offsets_83 rfl (ncast (nadd rfl (nl 1)) (by omega)) (by decide) rfl ?_
                  refine V.goto (pc := 86) 18 hC dX7_offsets_86 (by decide) ?_
                  exact V.sub [1, 2, 0] rfl (ih (i + 1) (upd f (8 + 2 * i) (μ 6 (24 * nN s + i))) (by omega) ((upd_ne (by omega)).trans h2) (hv.trans (if_pos c_56)))
        exact V.sub [2, 3, 0] rfl (loop_18 (min (nN (μ 5 (nN s))) (nN (μ 0 2))) 0 (μ 0) (by omega) rfl rfl)
      · have nc_7 : ¬ (0 = 0) := fun z => c_7 ((neq (nl 0) (nl 0) (by omega) (by omega)).mpr z)
        exact absurd c_7 (by decide)
  · refine V.eqi (y := (-1000000001)) (by rw [whyS, if_pos sA]) ?_
    refine V.istore_n (pc := 5) [(2, .int (-1000000001)), (0, .ref (b 20)), (1, .int s)] hC dX7_offsets_5 (by decide) rfl ?_
    refine V.iload_n (pc := 6) 0 hC dX7_offsets_6 rfl ?_
    refine V.if_eq (pc := 7) 16 hC dX7_offsets_7 (by decide) (fun c_7 => ?_) (fun c_7 => ?_)
    · exact absurd c_7 (by decide)
    · refine V.aload_n (pc := 10) 1 hC dX7_offsets_10 rfl ?_
      refine V.iload_n (pc := 11) 0 hC dX7_offsets_11 rfl ?_
      refine V.callV0 (pc := 12) (as := [.int (-1000000001)]) hC (c_X7_error μ ν 1 (-1000000001) (by omega) (by decide)) mu_X7_error ml_X7_56 (by decide) ⟨0, 7, TX7, 20, _, rfl, gm_0⟩ rfl (Nat.le_of_ble_eq_true rfl) dX7_offsets_12 ?_
      rintro _ _ rfl
      show V X (wM k b (va_up μ 3 (upd (μ 3) 1 (μ 3 1 + 1))) ν) [(2, .int (-1000000001)), (0, .ref (b 20)), (1, .int s)] [.int (-1000000001)] 15
      exact hR (-1000000001) ((va_up μ 3 (upd (μ 3) 1 (μ 3 1 + 1)))) _ _ dX7_offsets_15 rfl (opr (by rw [op_offsets, if_pos sA, er_1]))
set_option maxHeartbeats 4000000 in
set_option maxRecDepth 100000 in
theorem c_X7_judge {l : Launch} {D : va_G} {k : Nat → ClassId} {g b : Nat → Nat} (μ ν : St) (s : Int32) (hI : Inv (μ 0)) (hS : ∀ s, s < 4 → isN (μ 5 s) 24) : Ct l D k g yX7_judge cX7_judge 4 (some .int) 3 63 [.ref (b 20), .int s] (S := St) (wM k b μ ν) (fun uu => wM k b uu ν) (fun vv uu => vv = some (.int ((op_judge s μ).1)) ∧ uu = (op_judge s μ).2) := by
  refine Ct.ofI RX7 rfl (by decide +kernel) (Nat.le_of_ble_eq_true rfl) (fun X hC hR => ?_)
  have hb4 := hI.hb; have hb8 := hI.mb; have hb6 := hI.pb; have hbm := hI.ob0; have hbt := hI.bb; have hbw := hI.wb
  show V X (wM k b μ ν) [(0, .ref (b 20)), (1, .int s)] [] 0
  refine V.aload_n (pc := 0) 0 hC dX7_judge_0 rfl ?_
  refine V.iload_n (pc := 1) 1 hC dX7_judge_1 rfl ?_
  refine V.callV0 (pc := 2) (as := [.int s]) hC (c_X7_notThere μ ν s ) mu_X7_notThere ml_X7_203 (by decide) ⟨0, 7, TX7, 20, _, rfl, gm_0⟩ rfl (Nat.le_of_ble_eq_true rfl) dX7_judge_2 ?_
  rintro _ _ rfl
  show V X (wM k b μ ν) [(0, .ref (b 20)), (1, .int s)] [.int (whyS μ s)] 5
  by_cases sA : shtS s
  · by_cases sB : μ 4 (nN s) = 0
    · refine V.eqi (y := (-1000000002)) (by rw [whyS, if_neg (not_not_intro sA), if_pos sB]) ?_
      refine V.istore_n (pc := 5) [(2, .int (-1000000002)), (0, .ref (b 20)), (1, .int s)] hC dX7_judge_5 (by decide) rfl ?_
      refine V.iload_n (pc := 6) 0 hC dX7_judge_6 rfl ?_
      refine V.if_eq (pc := 7) 16 hC dX7_judge_7 (by decide) (fun c_7 => ?_) (fun c_7 => ?_)
      · exact absurd c_7 (by decide)
      · refine V.aload_n (pc := 10) 1 hC dX7_judge_10 rfl ?_
        refine V.iload_n (pc := 11) 0 hC dX7_judge_11 rfl ?_
        refine V.callV0 (pc := 12) (as := [.int (-1000000002)]) hC (c_X7_error μ ν 2 (-1000000002) (by omega) (by decide)) mu_X7_error ml_X7_56 (by decide) ⟨0, 7, TX7, 20, _, rfl, gm_0⟩ rfl (Nat.le_of_ble_eq_true rfl) dX7_judge_12 ?_
        rintro _ _ rfl
        show V X (wM k b (va_up μ 3 (upd (μ 3) 2 (μ 3 2 + 1))) ν) [(2, .int (-1000000002)), (0, .ref (b 20)), (1, .int s)] [.int (-1000000002)] 15
        exact hR (-1000000002) ((va_up μ 3 (upd (μ 3) 2 (μ 3 2 + 1)))) _ _ dX7_judge_15 rfl (opr (by rw [op_judge, if_neg (not_not_intro sA), if_pos sB, er_2]))
    · refine V.eqi (y := 0) (by rw [whyS, if_neg (not_not_intro sA), if_neg sB]) ?_
      refine V.istore_n (pc := 5) [(2, .int 0), (0, .ref (b 20)), (1, .int s)] hC dX7_judge_5 (by decide) rfl ?_
      refine V.iload_n (pc := 6) 0 hC dX7_judge_6 rfl ?_
      refine V.if_eq (pc := 7) 16 hC dX7_judge_7 (by decide) (fun c_7 => ?_) (fun c_7 => ?_)
      · have nc_7 : 0 = 0 := (neq (nl 0) (nl 0) (by omega) (by omega)).mp c_7
        have hh_s := inS_c sA (nl 3) (by omega)
        have hs24 := (hS (nN s) (by omega)).2
        refine V.iconst (pc := 16) 0 hC dX7_judge_16 (by decide) ?_
        refine V.istore_n (pc := 17) [(3, .int 0), (2, .int 0), (0, .ref (b 20)), (1, .int s)] hC dX7_judge_17 (by decide) rfl ?_
        have loop_18 : ∀ (n : Nat) (i : Nat), i + n = min (nN (μ 5 (nN s))) (nN (μ 0 4)) → srch (fun i => decide (¬ μ 6 (24 * nN s + i) = μ 0 (33 + 3 * i))) (min (nN (μ 5 (nN s))) (nN (μ 0 4))) 0 = srch (fun i => decide (¬ μ 6 (24 * nN s + i) = μ 0 (33 + 3 * i))) n i → V X (wM k b μ ν) [(0, .ref (b 20)), (1, .int s), (3, .int (nI i))] [] 18 := by
          intro n
          induction n with
          | zero =>
            intro i hi hv
            refine V.iload_n (pc := 18) 2 hC dX7_judge_18 rfl ?_
            refine V.aload_n (pc := 19) 0 hC dX7_judge_19 rfl ?_
            refine V.get (pc := 20) (v := .ref (b 5)) hC cf_X7 0 5 fl_X7_22 (by decide) gm_0 rfl dX7_judge_20 ?_
            refine V.iload_n (pc := 23) 1 hC dX7_judge_23 rfl ?_
            refine V.iald (pc := 24) (f := μ 5) hC 5 (nN s) gm_5 hh_s.1 (by omega) (by decide) dX7_judge_24 ?_
            refine V.icmp_ge (pc := 25) 64 hC dX7_judge_25 (by decide) (fun c_25 => ?_) (fun c_25 => ?_)
            · have nc_25 : nN (μ 5 (nN s)) ≤ i := (nle ((hS _ (by omega)).1) rfl (by omega) (by omega)).mp c_25
              refine V.iload_n (pc := 64) 2 hC dX7_judge_64 rfl ?_
              exact hR (nI i) (μ) _ _ dX7_judge_65 rfl (opr (by rw [op_judge, if_neg (not_not_intro sA), if_neg sB, show srch (fun i => decide (¬ μ 6 (24 * nN s + i) = μ 0 (33 + 3 * i))) (min (nN (μ 5 (nN s))) (nN (μ 0 4))) 0 = i from hv]))
            · have nc_25 : ¬ (nN (μ 5 (nN s)) ≤ i) := fun z => c_25 ((nle ((hS _ (by omega)).1) rfl (by omega) (by omega)).mpr z)
              refine V.iload_n (pc := 28) 2 hC dX7_judge_28 rfl ?_
              refine V.aload_n (pc := 29) 0 hC dX7_judge_29 rfl ?_
              refine V.get (pc := 30) (v := .ref (b 0)) hC cf_X7 0 0 fl_X7_9 (by decide) gm_0 rfl dX7_judge_30 ?_
              refine V.iconst (pc := 33) 4 hC dX7_judge_33 (by decide) ?_
              refine V.iald (pc := 34) (f := μ 0) hC 1 4 gm_1 (nl 4) (by omega) (by decide) dX7_judge_34 ?_
              refine V.icmp_ge (pc := 35) 64 hC dX7_judge_35 (by decide) (fun c_35 => ?_) (fun c_35 => ?_)
              · have nc_35 : nN (μ 0 4) ≤ i := (nle hI.pn rfl (by omega) (by omega)).mp c_35
                refine V.iload_n (pc := 64) 2 hC dX7_judge_64 rfl ?_
                exact hR (nI i) (μ) _ _ dX7_judge_65 rfl (opr (by rw [op_judge, if_neg (not_not_intro sA), if_neg sB, show srch (fun i => decide (¬ μ 6 (24 * nN s + i) = μ 0 (33 + 3 * i))) (min (nN (μ 5 (nN s))) (nN (μ 0 4))) 0 = i from hv]))
              · have nc_35 : ¬ (nN (μ 0 4) ≤ i) := fun z => c_35 ((nle hI.pn rfl (by omega) (by omega)).mpr z)
                exfalso; omega
          | succ n ih =>
            intro i hi hv
            refine V.iload_n (pc := 18) 2 hC dX7_judge_18 rfl ?_
            refine V.aload_n (pc := 19) 0 hC dX7_judge_19 rfl ?_
            refine V.get (pc := 20) (v := .ref (b 5)) hC cf_X7 0 5 fl_X7_22 (by decide) gm_0 rfl dX7_judge_20 ?_
            refine V.iload_n (pc := 23) 1 hC dX7_judge_23 rfl ?_
            refine V.iald (pc := 24) (f := μ 5) hC 5 (nN s) gm_5 hh_s.1 (by omega) (by decide) dX7_judge_24 ?_
            refine V.icmp_ge (pc := 25) 64 hC dX7_judge_25 (by decide) (fun c_25 => ?_) (fun c_25 => ?_)
            · have nc_25 : nN (μ 5 (nN s)) ≤ i := (nle ((hS _ (by omega)).1) rfl (by omega) (by omega)).mp c_25
              exfalso; omega
            · have nc_25 : ¬ (nN (μ 5 (nN s)) ≤ i) := fun z => c_25 ((nle ((hS _ (by omega)).1) rfl (by omega) (by omega)).mpr z)
              refine V.iload_n (pc := 28) 2 hC dX7_judge_28 rfl ?_
              refine V.aload_n (pc := 29) 0 hC dX7_judge_29 rfl ?_
              refine V.get (pc := 30) (v := .ref (b 0)) hC cf_X7 0 0 fl_X7_9 (by decide) gm_0 rfl dX7_judge_30 ?_
              refine V.iconst (pc := 33) 4 hC dX7_judge_33 (by decide) ?_
              refine V.iald (pc := 34) (f := μ 0) hC 1 4 gm_1 (nl 4) (by omega) (by decide) dX7_judge_34 ?_
              refine V.icmp_ge (pc := 35) 64 hC dX7_judge_35 (by decide) (fun c_35 => ?_) (fun c_35 => ?_)
              · have nc_35 : nN (μ 0 4) ≤ i := (nle hI.pn rfl (by omega) (by omega)).mp c_35
                exfalso; omega
              · have nc_35 : ¬ (nN (μ 0 4) ≤ i) := fun z => c_35 ((nle hI.pn rfl (by omega) (by omega)).mpr z)
                refine V.aload_n (pc := 38) 0 hC dX7_judge_38 rfl ?_
                refine V.get (pc := 39) (v := .ref (b 6)) hC cf_X7 0 6 fl_X7_25 (by decide) gm_0 rfl dX7_judge_39 ?_
                refine V.bipush (pc := 42) 24 hC dX7_judge_42 (by decide) ?_
                refine V.iload_n (pc := 44) 1 hC dX7_judge_44 rfl ?_
                refine V.imul (pc := 45) hC dX7_judge_45 ?_
                refine V.iload_n (pc := 46) 2 hC dX7_judge_46 rfl ?_
                refine V.iadd (pc := 47) hC dX7_judge_47 ?_
                refine V.iald (pc := 48) (f := μ 6) hC 6 (24 * nN s + i) gm_6 (ncast (b := 24 * nN s + i) (nadd (nmul (nl 24) hh_s.1) rfl) (by omega)) (by omega) (by decide) dX7_judge_48 ?_
                refine V.aload_n (pc := 49) 0 hC dX7_judge_49 rfl ?_
                refine V.iload_n (pc := 50) 2 hC dX7_judge_50 rfl ?_
                refine V.iconst (pc := 51) 2 hC dX7_judge_51 (by decide) ?_
                refine V.sts (st' := [.int (nI 2), .int (nI i), .ref (b 20), .int (μ 6 (24 * nN s + i))]) (stc (nl 2) (stk (stk (stk rfl)))) ?_
                refine V.callV0 (pc := 52) (as := [.int (nI i), .int (nI 2)]) hC (c_X7_of μ ν i 2 (by omega) (by omega)) mu_X7_of ml_X7_72 (by decide) ⟨0, 7, TX7, 20, _, rfl, gm_0⟩ rfl (Nat.le_of_ble_eq_true rfl) dX7_judge_52 ?_
                rintro _ _ rfl
                show V X (wM k b μ ν) [(0, .ref (b 20)), (1, .int s), (3, .int (nI i))] [.int (μ 0 (31 + 3 * i + 2)), .int (μ 6 (24 * nN s + i))] 55
                refine V.eqi (y := μ 0 (33 + 3 * i)) (congrArg (μ 0) (by omega)) ?_
                refine V.icmp_ne (pc := 55) 64 hC dX7_judge_55 (by decide) (fun c_55 => ?_) (fun c_55 => ?_)
                · refine V.iload_n (pc := 64) 2 hC dX7_judge_64 rfl ?_
                  exact hR (nI i) (μ) _ _ dX7_judge_65 rfl (opr (by rw [op_judge, if_neg (not_not_intro sA), if_neg sB, show srch (fun i => decide (¬ μ 6 (24 * nN s + i) = μ 0 (33 + 3 * i))) (min (nN (μ 5 (nN s))) (nN (μ 0 4))) 0 = i from srch_at hv (by simp only [decide_eq_true_eq]; exact c_55)]))
                · refine V.iinc (pc := 58) 2 (nI (i + 1)) [(3, .int (nI (i + 1))), (0, .ref (b 20)), (1, .int s)] hC dX7_judge_58 rfl (ncast (nadd rfl (nl 1)) (by omega)) (by decide) rfl ?_
                  refine V.goto (pc := 61) 18 hC dX7_judge_61 (by decide) ?_
                  exact V.sub [1, 2, 0] rfl (ih (i + 1) (by omega) (srch_go hv (by simp only [decide_eq_true_eq]; exact not_not_intro c_55)))
        exact V.sub [2, 3, 0] rfl (loop_18 (min (nN (μ 5 (nN s))) (nN (μ 0 4))) 0 (by omega) rfl)
      · have nc_7 : ¬ (0 = 0) := fun z => c_7 ((neq (nl 0) (nl 0) (by omega) (by omega)).mpr z)
        exact absurd c_7 (by decide)
  · refine V.eqi (y := (-1000000001)) (by rw [whyS, if_pos sA]) ?_
    refine V.istore_n (pc := 5) [(2, .int (-1000000001)), (0, .ref (b 20)), (1, .int s)] hC dX7_judge_5 (by decide) rfl ?_
    refine V.iload_n (pc := 6) 0 hC dX7_judge_6 rfl ?_
    refine V.if_eq (pc := 7) 16 hC dX7_judge_7 (by decide) (fun c_7 => ?_) (fun c_7 => ?_)
    · exact absurd c_7 (by decide)
    · refine V.aload_n (pc := 10) 1 hC dX7_judge_10 rfl ?_
      refine V.iload_n (pc := 11) 0 hC dX7_judge_11 rfl ?_
      refine V.callV0 (pc := 12) (as := [.int (-1000000001)]) hC (c_X7_error μ ν 1 (-1000000001) (by omega) (by decide)) mu_X7_error ml_X7_56 (by decide) ⟨0, 7, TX7, 20, _, rfl, gm_0⟩ rfl (Nat.le_of_ble_eq_true rfl) dX7_judge_12 ?_
      rintro _ _ rfl
      show V X (wM k b (va_up μ 3 (upd (μ 3) 1 (μ 3 1 + 1))) ν) [(2, .int (-1000000001)), (0, .ref (b 20)), (1, .int s)] [.int (-1000000001)] 15
      exact hR (-1000000001) ((va_up μ 3 (upd (μ 3) 1 (μ 3 1 + 1)))) _ _ dX7_judge_15 rfl (opr (by rw [op_judge, if_pos sA, er_1]))
set_option maxHeartbeats 4000000 in
set_option maxRecDepth 100000 in
theorem c_copyKeep {l : Launch} {D : va_G} {k : Nat → ClassId} {g b : Nat → Nat} (μ ν : St)  : Ct l D k g yX7_copyAll cX7_copyAll 3 none 0 0 [.ref (b 0), .ref (b 1)] (S := Rw) (wM k b μ ν) (fun uu => wM k b (va_up μ 1 uu) ν) (fun vv uu => vv = none ∧ uu = va_cpy (μ 0) (μ 1) 0 0 375) := by
  refine Ct.ofV RX7 rfl (by decide +kernel) (Nat.le_of_ble_eq_true rfl) (fun X hC hR => ?_)
  show V X (wM k b μ ν) [(0, .ref (b 0)), (1, .ref (b 1))] [] 0
  refine V.iconst (pc := 0) 0 hC dX7_copyAll_0 (by decide) ?_
  refine V.istore_n (pc := 1) [(2, .int 0), (0, .ref (b 0)), (1, .ref (b 1))] hC dX7_copyAll_1 (by decide) rfl ?_
  have loop_2 : ∀ (n : Nat) (i : Nat) (f : Rw), i + n = 375 → f = va_cpy (μ 0) (μ 1) 0 0 i → V X (wM k b (va_up μ 1 f) ν) [(0, .ref (b 0)), (1, .ref (b 1)), (2, .int (nI i))] [] 2 := by
    intro n
    induction n with
    | zero =>
      intro i f hi hf
      refine V.iload_n (pc := 2) 2 hC dX7_copyAll_2 rfl ?_
      refine V.sipush (pc := 3) 375 hC dX7_copyAll_3 (by decide) ?_
      refine V.icmp_ge (pc := 6) 21 hC dX7_copyAll_6 (by decide) (fun c_6 => ?_) (fun c_6 => ?_)
      · have nc_6 : 375 ≤ i := (nle (nl 375) rfl (by omega) (by omega)).mp c_6
        exact hR (f) _ _ dX7_copyAll_21 ⟨rfl, by rw [hf, show i = 375 by omega]⟩
      · have nc_6 : ¬ (375 ≤ i) := fun z => c_6 ((nle (nl 375) rfl (by omega) (by omega)).mpr z)
        exfalso; omega
    | succ n ih =>
      intro i f hi hf
      refine V.iload_n (pc := 2) 2 hC dX7_copyAll_2 rfl ?_
      refine V.sipush (pc := 3) 375 hC dX7_copyAll_3 (by decide) ?_
      refine V.icmp_ge (pc := 6) 21 hC dX7_copyAll_6 (by decide) (fun c_6 => ?_) (fun c_6 => ?_)
      · have nc_6 : 375 ≤ i := (nle (nl 375) rfl (by omega) (by omega)).mp c_6
        exfalso; omega
      · have nc_6 : ¬ (375 ≤ i) := fun z => c_6 ((nle (nl 375) rfl (by omega) (by omega)).mpr z)
        refine V.aload_n (pc := 9) 1 hC dX7_copyAll_9 rfl ?_
        refine V.iload_n (pc := 10) 2 hC dX7_copyAll_10 rfl ?_
        refine V.aload_n (pc := 11) 0 hC dX7_copyAll_11 rfl ?_
        refine V.iload_n (pc := 12) 2 hC dX7_copyAll_12 rfl ?_
        refine V.iald (pc := 13) (f := μ 0) hC 1 i gm_1 rfl (by omega) (by decide) dX7_copyAll_13 ?_
        refine V.iast (pc := 14) (f := f) hC 2 i (wM k b (va_up μ 1 (upd f i (μ 0 i))) ν) gm_2 rfl (by omega) (by decide) rfl dX7_copyAll_14 ?_
        refine V.iinc (pc := 15) 2 (nI (i + 1)) [(2, .int (nI (i + 1))), (0, .ref (b 0)), (1, .ref (b 1))] hC dX7_copyAll_15 rfl (ncast (nadd rfl (nl 1)) (by omega)) (by decide) rfl ?_
        refine V.goto (pc := 18) 2 hC dX7_copyAll_18 (by decide) ?_
        exact V.sub [1, 2, 0] rfl (ih (i + 1) (upd f i (μ 0 i)) (by omega) (by rw [hf]; exact cpy_s))
  exact V.sub [1, 2, 0] rfl (loop_2 375 0 (μ 1) (by omega) cpy_0.symm)
set_option maxHeartbeats 4000000 in
set_option maxRecDepth 100000 in
theorem c_copyBack {l : Launch} {D : va_G} {k : Nat → ClassId} {g b : Nat → Nat} (μ ν : St)  : Ct l D k g yX7_copyAll cX7_copyAll 3 none 0 0 [.ref (b 1), .ref (b 0)] (S := Rw) (wM k b μ ν) (fun uu => wM k b (va_up μ 0 uu) ν) (fun vv uu => vv = none ∧ uu = va_cpy (μ 1) (μ 0) 0 0 375) := by
  refine Ct.ofV RX7 rfl (by decide +kernel) (Nat.le_of_ble_eq_true rfl) (fun X hC hR => ?_)
  show V X (wM k b μ ν) [(0, .ref (b 1)), (1, .ref (b 0))] [] 0
  refine V.iconst (pc := 0) 0 hC dX7_copyAll_0 (by decide) ?_
  refine V.istore_n (pc := 1) [(2, .int 0), (0, .ref (b 1)), (1, .ref (b 0))] hC dX7_copyAll_1 (by decide) rfl ?_
  have loop_2 : ∀ (n : Nat) (i : Nat) (f : Rw), i + n = 375 → f = va_cpy (μ 1) (μ 0) 0 0 i → V X (wM k b (va_up μ 0 f) ν) [(0, .ref (b 1)), (1, .ref (b 0)), (2, .int (nI i))] [] 2 := by
    intro n
    induction n with
    | zero =>
      intro i f hi hf
      refine V.iload_n (pc := 2) 2 hC dX7_copyAll_2 rfl ?_
      refine V.sipush (pc := 3) 375 hC dX7_copyAll_3 (by decide) ?_
      refine V.icmp_ge (pc := 6) 21 hC dX7_copyAll_6 (by decide) (fun c_6 => ?_) (fun c_6 => ?_)
      · have nc_6 : 375 ≤ i := (nle (nl 375) rfl (by omega) (by omega)).mp c_6
        exact hR (f) _ _ dX7_copyAll_21 ⟨rfl, by rw [hf, show i = 375 by omega]⟩
      · have nc_6 : ¬ (375 ≤ i) := fun z => c_6 ((nle (nl 375) rfl (by omega) (by omega)).mpr z)
        exfalso; omega
    | succ n ih =>
      intro i f hi hf
      refine V.iload_n (pc := 2) 2 hC dX7_copyAll_2 rfl ?_
      refine V.sipush (pc := 3) 375 hC dX7_copyAll_3 (by decide) ?_
      refine V.icmp_ge (pc := 6) 21 hC dX7_copyAll_6 (by decide) (fun c_6 => ?_) (fun c_6 => ?_)
      · have nc_6 : 375 ≤ i := (nle (nl 375) rfl (by omega) (by omega)).mp c_6
        exfalso; omega
      · have nc_6 : ¬ (375 ≤ i) := fun z => c_6 ((nle (nl 375) rfl (by omega) (by omega)).mpr z)
        refine V.aload_n (pc := 9) 1 hC dX7_copyAll_9 rfl ?_
        refine V.iload_n (pc := 10) 2 hC dX7_copyAll_10 rfl ?_
        refine V.aload_n (pc := 11) 0 hC dX7_copyAll_11 rfl ?_
        refine V.iload_n (pc := 12) 2 hC dX7_copyAll_12 rfl ?_
        refine V.iald (pc := 13) (f := μ 1) hC 2 i gm_2 rfl (by omega) (by decide) dX7_copyAll_13 ?_
        refine V.iast (pc := 14) (f := f) hC 1 i (wM k b (va_up μ 0 (upd f i (μ 1 i))) ν) gm_1 rfl (by omega) (by decide) rfl dX7_copyAll_14 ?_
        refine V.iinc (pc := 15) 2 (nI (i + 1)) [(2, .int (nI (i + 1))), (0, .ref (b 1)), (1, .ref (b 0))] hC dX7_copyAll_15 rfl (ncast (nadd rfl (nl 1)) (by omega)) (by decide) rfl ?_
        refine V.goto (pc := 18) 2 hC dX7_copyAll_18 (by decide) ?_
        exact V.sub [1, 2, 0] rfl (ih (i + 1) (upd f i (μ 1 i)) (by omega) (by rw [hf]; exact cpy_s))
  exact V.sub [1, 2, 0] rfl (loop_2 375 0 (μ 0) (by omega) cpy_0.symm)
set_option maxHeartbeats 4000000 in
set_option maxRecDepth 100000 in
theorem c_X7_image {l : Launch} {D : va_G} {k : Nat → ClassId} {g b : Nat → Nat} (μ ν : St) (hI : Inv (μ 0)) : Ct l D k g yX7_image cX7_image 1 (some .int) 1 22 [.ref (b 20)] (S := St) (wM k b μ ν) (fun uu => wM k b uu ν) (fun vv uu => vv = some (.int ((op_image μ).1)) ∧ uu = (op_image μ).2) := by
  refine Ct.ofI RX7 rfl (by decide +kernel) (Nat.le_of_ble_eq_true rfl) (fun X hC hR => ?_)
  have hb4 := hI.hb; have hb8 := hI.mb; have hb6 := hI.pb; have hbm := hI.ob0; have hbt := hI.bb; have hbw := hI.wb
  show V X (wM k b μ ν) [(0, .ref (b 20))] [] 0
  refine V.aload_n (pc := 0) 0 hC dX7_image_0 rfl ?_
  refine V.get (pc := 1) (v := .ref (b 0)) hC cf_X7 0 0 fl_X7_9 (by decide) gm_0 rfl dX7_image_1 ?_
  refine V.aload_n (pc := 4) 0 hC dX7_image_4 rfl ?_
  refine V.get (pc := 5) (v := .ref (b 1)) hC cf_X7 0 1 fl_X7_13 (by decide) gm_0 rfl dX7_image_5 ?_
  refine V.callSw (pc := 8) (as := [.ref (b 0), .ref (b 1)]) hC (c_copyKeep μ ν ) ms_X7_copyAll ml_X7_253 (by decide) rfl (Nat.le_of_ble_eq_true rfl) dX7_image_8 ?_
  rintro _ f8_0 ⟨rfl, hu8_0⟩
  have hu8_0 : f8_0 = va_cpy (μ 0) (μ 1) 0 0 375 := hu8_0
  show V X (wM k b (va_up μ 1 f8_0) ν) [(0, .ref (b 20))] [] 11
  refine V.aload_n (pc := 11) 0 hC dX7_image_11 rfl ?_
  refine V.dup (pc := 12) hC dX7_image_12 rfl ?_
  refine V.get (pc := 13) (v := .int (μ 2 0)) hC cf_X7 0 2 fl_X7_257 (by decide) gm_0 rfl dX7_image_13 ?_
  refine V.iconst (pc := 16) 1 hC dX7_image_16 (by decide) ?_
  refine V.iadd (pc := 17) hC dX7_image_17 ?_
  refine V.put (pc := 18) (v := .int ((μ 2 0) + 1)) hC cf_X7 0 2 (wM k b (va_up (va_up μ 1 f8_0) 2 (fun _ => (μ 2 0) + 1)) ν) fl_X7_257 (by decide) gm_0 rfl rfl rfl (Nat.le_of_ble_eq_true rfl) rfl dX7_image_18 ?_
  refine V.aload_n (pc := 21) 0 hC dX7_image_21 rfl ?_
  refine V.get (pc := 22) (v := .int ((μ 2 0) + 1)) hC cf_X7 0 2 fl_X7_257 (by decide) gm_0 rfl dX7_image_22 ?_
  exact hR ((μ 2 0) + 1) ((va_up (va_up μ 1 f8_0) 2 (fun _ => (μ 2 0) + 1))) _ _ dX7_image_25 rfl (opr (by rw [op_image, ← hu8_0]))
set_option maxHeartbeats 4000000 in
set_option maxRecDepth 100000 in
theorem c_X7_restore {l : Launch} {D : va_G} {k : Nat → ClassId} {g b : Nat → Nat} (μ ν : St) (hI : Inv (μ 0)) : Ct l D k g yX7_restore cX7_restore 1 (some .int) 1 22 [.ref (b 20)] (S := St) (wM k b μ ν) (fun uu => wM k b uu ν) (fun vv uu => vv = some (.int ((op_restore μ).1)) ∧ uu = (op_restore μ).2) := by
  refine Ct.ofI RX7 rfl (by decide +kernel) (Nat.le_of_ble_eq_true rfl) (fun X hC hR => ?_)
  have hb4 := hI.hb; have hb8 := hI.mb; have hb6 := hI.pb; have hbm := hI.ob0; have hbt := hI.bb; have hbw := hI.wb
  show V X (wM k b μ ν) [(0, .ref (b 20))] [] 0
  refine V.aload_n (pc := 0) 0 hC dX7_restore_0 rfl ?_
  refine V.get (pc := 1) (v := .int (μ 2 0)) hC cf_X7 0 2 fl_X7_257 (by decide) gm_0 rfl dX7_restore_1 ?_
  refine V.if_ne (pc := 4) 14 hC dX7_restore_4 (by decide) (fun c_4 => ?_) (fun c_4 => ?_)
  · refine V.aload_n (pc := 14) 0 hC dX7_restore_14 rfl ?_
    refine V.get (pc := 15) (v := .ref (b 1)) hC cf_X7 0 1 fl_X7_13 (by decide) gm_0 rfl dX7_restore_15 ?_
    refine V.aload_n (pc := 18) 0 hC dX7_restore_18 rfl ?_
    refine V.get (pc := 19) (v := .ref (b 0)) hC cf_X7 0 0 fl_X7_9 (by decide) gm_0 rfl dX7_restore_19 ?_
    refine V.callSw (pc := 22) (as := [.ref (b 1), .ref (b 0)]) hC (c_copyBack μ ν ) ms_X7_copyAll ml_X7_253 (by decide) rfl (Nat.le_of_ble_eq_true rfl) dX7_restore_22 ?_
    rintro _ f22_0 ⟨rfl, hu22_0⟩
    have hu22_0 : f22_0 = va_cpy (μ 1) (μ 0) 0 0 375 := hu22_0
    show V X (wM k b (va_up μ 0 f22_0) ν) [(0, .ref (b 20))] [] 25
    refine V.aload_n (pc := 25) 0 hC dX7_restore_25 rfl ?_
    refine V.get (pc := 26) (v := .ref (b 0)) hC cf_X7 0 0 fl_X7_9 (by decide) gm_0 rfl dX7_restore_26 ?_
    refine V.iconst (pc := 29) 0 hC dX7_restore_29 (by decide) ?_
    refine V.iald (pc := 30) (f := f22_0) hC 1 0 gm_1 (nl 0) (by omega) (by decide) dX7_restore_30 ?_
    refine V.eqi (y := μ 1 0) (by rw [hu22_0]; exact if_pos (by omega)) ?_
    exact hR (μ 1 0) ((va_up μ 0 f22_0)) _ _ dX7_restore_31 rfl (opr (by rw [op_restore, if_neg c_4, ← hu22_0]))
  · refine V.aload_n (pc := 7) 0 hC dX7_restore_7 rfl ?_
    refine V.ldc (pc := 8) (v := (-1000000002)) hC cn_X7_190 dX7_restore_8 ?_
    refine V.callV0 (pc := 10) (as := [.int (-1000000002)]) hC (c_X7_error μ ν 2 (-1000000002) (by omega) (by decide)) mu_X7_error ml_X7_56 (by decide) ⟨0, 7, TX7, 20, _, rfl, gm_0⟩ rfl (Nat.le_of_ble_eq_true rfl) dX7_restore_10 ?_
    rintro _ _ rfl
    show V X (wM k b (va_up μ 3 (upd (μ 3) 2 (μ 3 2 + 1))) ν) [(0, .ref (b 20))] [.int (-1000000002)] 13
    exact hR (-1000000002) ((va_up μ 3 (upd (μ 3) 2 (μ 3 2 + 1)))) _ _ dX7_restore_13 rfl (opr (by rw [op_restore, if_pos c_4, er_2]))
set_option maxHeartbeats 4000000 in
set_option maxRecDepth 100000 in
theorem c_X7_tell {l : Launch} {D : va_G} {k : Nat → ClassId} {g b : Nat → Nat} (μ ν : St) (v : Int32) (hI : Inv (μ 0)) : Ct l D k g yX7_tell cX7_tell 2 (some .int) 1 21 [.ref (b 20), .int v] (S := St) (wM k b μ ν) (fun uu => wM k b uu ν) (fun vv uu => vv = some (.int ((op_tell v μ).1)) ∧ uu = (op_tell v μ).2) := by
  refine Ct.ofI RX7 rfl (by decide +kernel) (Nat.le_of_ble_eq_true rfl) (fun X hC hR => ?_)
  have hb4 := hI.hb; have hb8 := hI.mb; have hb6 := hI.pb; have hbm := hI.ob0; have hbt := hI.bb; have hbw := hI.wb
  show V X (wM k b μ ν) [(0, .ref (b 20)), (1, .int v)] [] 0
  refine V.aload_n (pc := 0) 0 hC dX7_tell_0 rfl ?_
  refine V.get (pc := 1) (v := .ref (b 0)) hC cf_X7 0 0 fl_X7_9 (by decide) gm_0 rfl dX7_tell_1 ?_
  refine V.bipush (pc := 4) 6 hC dX7_tell_4 (by decide) ?_
  refine V.iald (pc := 6) (f := μ 0) hC 1 6 gm_1 (nl 6) (by omega) (by decide) dX7_tell_6 ?_
  refine V.bipush (pc := 7) 24 hC dX7_tell_7 (by decide) ?_
  refine V.icmp_ne (pc := 9) 19 hC dX7_tell_9 (by decide) (fun c_9 => ?_) (fun c_9 => ?_)
  · have hw6 : ¬ nN (μ 0 6) = 24 := fun q => c_9 (by rw [hI.wn, q]; rfl)
    refine V.aload_n (pc := 19) 0 hC dX7_tell_19 rfl ?_
    refine V.get (pc := 20) (v := .ref (b 0)) hC cf_X7 0 0 fl_X7_9 (by decide) gm_0 rfl dX7_tell_20 ?_
    refine V.bipush (pc := 23) 109 hC dX7_tell_23 (by decide) ?_
    refine V.aload_n (pc := 25) 0 hC dX7_tell_25 rfl ?_
    refine V.get (pc := 26) (v := .ref (b 0)) hC cf_X7 0 0 fl_X7_9 (by decide) gm_0 rfl dX7_tell_26 ?_
    refine V.bipush (pc := 29) 6 hC dX7_tell_29 (by decide) ?_
    refine V.iald (pc := 31) (f := μ 0) hC 1 6 gm_1 (nl 6) (by omega) (by decide) dX7_tell_31 ?_
    refine V.iadd (pc := 32) hC dX7_tell_32 ?_
    refine V.iload_n (pc := 33) 1 hC dX7_tell_33 rfl ?_
    refine V.iast (pc := 34) (f := μ 0) hC 1 (nN (μ 0 6) + 109) (wM k b (va_up μ 0 (upd (μ 0) (nN (μ 0 6) + 109) v)) ν) gm_1 (ncast (b := nN (μ 0 6) + 109) (nadd (nl 109) hI.wn) (by omega)) (by omega) (by decide) rfl dX7_tell_34 ?_
    refine V.aload_n (pc := 35) 0 hC dX7_tell_35 rfl ?_
    refine V.get (pc := 36) (v := .ref (b 0)) hC cf_X7 0 0 fl_X7_9 (by decide) gm_0 rfl dX7_tell_36 ?_
    refine V.bipush (pc := 39) 6 hC dX7_tell_39 (by decide) ?_
    refine V.dup2 (pc := 41) hC dX7_tell_41 rfl rfl ?_
    refine V.iald (pc := 42) (f := upd (μ 0) (nN (μ 0 6) + 109) v) hC 1 6 gm_1 (nl 6) (by omega) (by decide) dX7_tell_42 ?_
    refine V.eqi (y := μ 0 6) (upd_ne (show 6 ≠ nN (μ 0 6) + 109 by omega)) ?_
    refine V.iconst (pc := 43) 1 hC dX7_tell_43 (by decide) ?_
    refine V.iadd (pc := 44) hC dX7_tell_44 ?_
    refine V.iast (pc := 45) (f := upd (μ 0) (nN (μ 0 6) + 109) v) hC 1 6 (wM k b (va_up μ 0 (upd (upd (μ 0) (nN (μ 0 6) + 109) v) 6 ((μ 0 6) + 1))) ν) gm_1 (nl 6) (by omega) (by decide) rfl dX7_tell_45 ?_
    refine V.aload_n (pc := 46) 0 hC dX7_tell_46 rfl ?_
    refine V.get (pc := 47) (v := .ref (b 0)) hC cf_X7 0 0 fl_X7_9 (by decide) gm_0 rfl dX7_tell_47 ?_
    refine V.bipush (pc := 50) 6 hC dX7_tell_50 (by decide) ?_
    refine V.iald (pc := 52) (f := upd (upd (μ 0) (nN (μ 0 6) + 109) v) 6 ((μ 0 6) + 1)) hC 1 6 gm_1 (nl 6) (by omega) (by decide) dX7_tell_52 ?_
    refine V.eqi (y := (μ 0 6) + 1) (upd_eq) ?_
    exact hR ((μ 0 6) + 1) ((va_up μ 0 (upd (upd (μ 0) (nN (μ 0 6) + 109) v) 6 ((μ 0 6) + 1)))) _ _ dX7_tell_53 rfl (opr (by rw [op_tell, if_neg c_9, Nat.add_comm 109]))
  · refine V.aload_n (pc := 12) 0 hC dX7_tell_12 rfl ?_
    refine V.ldc (pc := 13) (v := (-1000000004)) hC cn_X7_60 dX7_tell_13 ?_
    refine V.callV0 (pc := 15) (as := [.int (-1000000004)]) hC (c_X7_error μ ν 4 (-1000000004) (by omega) (by decide)) mu_X7_error ml_X7_56 (by decide) ⟨0, 7, TX7, 20, _, rfl, gm_0⟩ rfl (Nat.le_of_ble_eq_true rfl) dX7_tell_15 ?_
    rintro _ _ rfl
    show V X (wM k b (va_up μ 3 (upd (μ 3) 4 (μ 3 4 + 1))) ν) [(0, .ref (b 20)), (1, .int v)] [.int (-1000000004)] 18
    exact hR (-1000000004) ((va_up μ 3 (upd (μ 3) 4 (μ 3 4 + 1)))) _ _ dX7_tell_18 rfl (opr (by simp only [op_tell, c_9, inS, hndS, homS, prsS, shtS, if_true, if_false, not_true_eq_false, not_false_eq_true, true_and, and_true, false_and, and_false, true_or, or_true, or_false, false_or, er_1, er_2, er_3, er_4, er_5, er_6] <;> rfl))
set_option maxHeartbeats 4000000 in
set_option maxRecDepth 100000 in
theorem c_X7_check {l : Launch} {D : va_G} {k : Nat → ClassId} {g b : Nat → Nat} (μ ν : St) (hI : Inv (μ 0)) : Ct l D k g yX7_check cX7_check 3 (some .int) 2 43 [.ref (b 20)] (S := St) (wM k b μ ν) (fun uu => wM k b uu ν) (fun vv uu => vv = some (.int ((op_check μ).1)) ∧ uu = (op_check μ).2) := by
  refine Ct.ofI RX7 rfl (by decide +kernel) (Nat.le_of_ble_eq_true rfl) (fun X hC hR => ?_)
  have hb4 := hI.hb; have hb8 := hI.mb; have hb6 := hI.pb; have hbm := hI.ob0; have hbt := hI.bb; have hbw := hI.wb
  show V X (wM k b μ ν) [(0, .ref (b 20))] [] 0
  refine V.aload_n (pc := 0) 0 hC dX7_check_0 rfl ?_
  refine V.get (pc := 1) (v := .ref (b 0)) hC cf_X7 0 0 fl_X7_9 (by decide) gm_0 rfl dX7_check_1 ?_
  refine V.bipush (pc := 4) 6 hC dX7_check_4 (by decide) ?_
  refine V.iald (pc := 6) (f := μ 0) hC 1 6 gm_1 (nl 6) (by omega) (by decide) dX7_check_6 ?_
  refine V.istore_n (pc := 7) [(1, .int (μ 0 6)), (0, .ref (b 20))] hC dX7_check_7 (by decide) rfl ?_
  refine V.aload_n (pc := 8) 1 hC dX7_check_8 rfl ?_
  refine V.get (pc := 9) (v := .ref (b 0)) hC cf_X7 0 0 fl_X7_9 (by decide) gm_0 rfl dX7_check_9 ?_
  refine V.bipush (pc := 12) 6 hC dX7_check_12 (by decide) ?_
  refine V.iconst (pc := 14) 0 hC dX7_check_14 (by decide) ?_
  refine V.iast (pc := 15) (f := μ 0) hC 1 6 (wM k b (va_up μ 0 (upd (μ 0) 6 0)) ν) gm_1 (nl 6) (by omega) (by decide) rfl dX7_check_15 ?_
  generalize hf : upd (μ 0) 6 0 = f
  have hfe : ∀ j, j ≠ 6 → f j = μ 0 j := fun j hj => by rw [← hf]; exact upd_ne hj
  have hfI : Inv f := by rw [← hf]; exact hI.wait ⟨rfl, by decide⟩
  refine V.iconst (pc := 16) 0 hC dX7_check_16 (by decide) ?_
  refine V.istore_n (pc := 17) [(2, .int 0), (1, .int (μ 0 6)), (0, .ref (b 20))] hC dX7_check_17 (by decide) rfl ?_
  have loop_18 : ∀ (n : Nat) (i : Nat), i + n = nN (μ 0 6) → chkS (μ 0) = srch (fun i => decide (¬ (i < nN (μ 0 2) ∧ μ 0 (109 + i) = markS (μ 0) i (μ 0 0)))) n i → V X (wM k b (va_up μ 0 f) ν) [(0, .ref (b 20)), (1, .int (μ 0 6)), (2, .int (nI i))] [] 18 := by
    intro n
    induction n with
    | zero =>
      intro i hi hv
      refine V.iload_n (pc := 18) 2 hC dX7_check_18 rfl ?_
      refine V.iload_n (pc := 19) 1 hC dX7_check_19 rfl ?_
      refine V.icmp_ge (pc := 20) 64 hC dX7_check_20 (by decide) (fun c_20 => ?_) (fun c_20 => ?_)
      · have nc_20 : nN (μ 0 6) ≤ i := (nle hI.wn rfl (by omega) (by omega)).mp c_20
        refine V.iconst (pc := 64) 0 hC dX7_check_64 (by decide) ?_
        exact hR 0 ((va_up μ 0 f)) _ _ dX7_check_65 rfl (opr (by rw [op_check, if_pos (hv.trans (by show i = _; omega)), hf]))
      · have nc_20 : ¬ (nN (μ 0 6) ≤ i) := fun z => c_20 ((nle hI.wn rfl (by omega) (by omega)).mpr z)
        exfalso; omega
    | succ n ih =>
      intro i hi hv
      refine V.iload_n (pc := 18) 2 hC dX7_check_18 rfl ?_
      refine V.iload_n (pc := 19) 1 hC dX7_check_19 rfl ?_
      refine V.icmp_ge (pc := 20) 64 hC dX7_check_20 (by decide) (fun c_20 => ?_) (fun c_20 => ?_)
      · have nc_20 : nN (μ 0 6) ≤ i := (nle hI.wn rfl (by omega) (by omega)).mp c_20
        exfalso; omega
      · have nc_20 : ¬ (nN (μ 0 6) ≤ i) := fun z => c_20 ((nle hI.wn rfl (by omega) (by omega)).mpr z)
        refine V.aload_n (pc := 23) 0 hC dX7_check_23 rfl ?_
        refine V.iload_n (pc := 24) 2 hC dX7_check_24 rfl ?_
        refine V.callV0 (pc := 25) (as := [.int (nI i)]) hC (c_X7_isHand (va_up μ 0 f) ν (nI i) ) mu_X7_isHand ml_X7_61 (by decide) ⟨0, 7, TX7, 20, _, rfl, gm_0⟩ rfl (Nat.le_of_ble_eq_true rfl) dX7_check_25 ?_
        rintro _ _ rfl
        show V X (wM k b (va_up μ 0 f) ν) [(0, .ref (b 20)), (1, .int (μ 0 6)), (2, .int (nI i))] [.int (bI (inS (nI i) 0 (f 2 - 1)))] 28
        refine V.if_eq_b (P := inS (nI i) 0 (f 2 - 1)) (pc := 28) 54 hC dX7_check_28 (by decide) (fun c_28 => ?_) (fun c_28 => ?_)
        · refine V.iconst (pc := 54) 1 hC dX7_check_54 (by decide) ?_
          refine V.iload_n (pc := 55) 2 hC dX7_check_55 rfl ?_
          refine V.iadd (pc := 56) hC dX7_check_56 ?_
          exact hR (1 + (nI i)) ((va_up μ 0 f)) _ _ dX7_check_57 rfl (opr (by rw [op_check, show chkS (μ 0) = i from srch_at hv (by simp only [decide_eq_true_eq]; exact fun q => c_28 (by rw [hfe 2 (by omega)]; exact (inS_i hI.hn (by omega) (by omega)).mpr q.1)), if_neg (by omega), hf]))
        · refine V.aload_n (pc := 31) 0 hC dX7_check_31 rfl ?_
          refine V.get (pc := 32) (v := .ref (b 0)) hC cf_X7 0 0 fl_X7_9 (by decide) gm_0 rfl dX7_check_32 ?_
          refine V.bipush (pc := 35) 109 hC dX7_check_35 (by decide) ?_
          refine V.iload_n (pc := 37) 2 hC dX7_check_37 rfl ?_
          refine V.iadd (pc := 38) hC dX7_check_38 ?_
          refine V.iald (pc := 39) (f := f) hC 1 (i + 109) gm_1 (ncast (b := i + 109) (nadd (nl 109) rfl) (by omega)) (by omega) (by decide) dX7_check_39 ?_
          refine V.eqi (y := μ 0 (109 + i)) (by rw [Nat.add_comm i 109]; exact hfe _ (by omega)) ?_
          refine V.aload_n (pc := 40) 0 hC dX7_check_40 rfl ?_
          refine V.iload_n (pc := 41) 2 hC dX7_check_41 rfl ?_
          refine V.aload_n (pc := 42) 0 hC dX7_check_42 rfl ?_
          refine V.get (pc := 43) (v := .ref (b 0)) hC cf_X7 0 0 fl_X7_9 (by decide) gm_0 rfl dX7_check_43 ?_
          refine V.iconst (pc := 46) 0 hC dX7_check_46 (by decide) ?_
          refine V.iald (pc := 47) (f := f) hC 1 0 gm_1 (nl 0) (by omega) (by decide) dX7_check_47 ?_
          refine V.eqi (y := μ 0 0) (hfe _ (by omega)) ?_
          refine V.callV0 (pc := 48) (as := [.int (nI i), .int (μ 0 0)]) hC (c_X7_markOf (va_up μ 0 f) ν i (μ 0 0) hfI (show i < nN (f 2) by rw [hfe 2 (by omega)]; exact (inS_i hI.hn (by omega) (by omega)).mp (by rw [← hfe 2 (by omega)]; exact c_28))) mu_X7_markOf ml_X7_51 (by decide) ⟨0, 7, TX7, 20, _, rfl, gm_0⟩ rfl (Nat.le_of_ble_eq_true rfl) dX7_check_48 ?_
          rintro _ _ rfl
          show V X (wM k b (va_up μ 0 f) ν) [(0, .ref (b 20)), (1, .int (μ 0 6)), (2, .int (nI i))] [.int (markS (f) i (μ 0 0)), .int (μ 0 (109 + i))] 51
          refine V.eqi (y := markS (μ 0) i (μ 0 0)) (mark_c (fun j hj => hfe j (by omega))) ?_
          refine V.icmp_eq (pc := 51) 58 hC dX7_check_51 (by decide) (fun c_51 => ?_) (fun c_51 => ?_)
          · refine V.iinc (pc := 58) 2 (nI (i + 1)) [(2, .int (nI (i + 1))), (0, .ref (b 20)), (1, .int (μ 0 6))] hC dX7_check_58 rfl (ncast (nadd rfl (nl 1)) (by omega)) (by decide) rfl ?_
            refine V.goto (pc := 61) 18 hC dX7_check_61 (by decide) ?_
            exact V.sub [1, 2, 0] rfl (ih (i + 1) (by omega) (srch_go hv (by simp only [decide_eq_true_eq]; exact not_not_intro ⟨(inS_i hI.hn (by omega) (by omega)).mp (by rw [← hfe 2 (by omega)]; exact c_28), c_51⟩)))
          · refine V.iconst (pc := 54) 1 hC dX7_check_54 (by decide) ?_
            refine V.iload_n (pc := 55) 2 hC dX7_check_55 rfl ?_
            refine V.iadd (pc := 56) hC dX7_check_56 ?_
            exact hR (1 + (nI i)) ((va_up μ 0 f)) _ _ dX7_check_57 rfl (opr (by rw [op_check, show chkS (μ 0) = i from srch_at hv (by simp only [decide_eq_true_eq]; exact fun q => c_51 q.2), if_neg (by omega), hf]))
  exact V.sub [2, 1, 0] rfl (loop_18 (nN (μ 0 6)) 0 (by omega) rfl)
set_option maxHeartbeats 4000000 in
set_option maxRecDepth 100000 in
theorem c_X7_count {l : Launch} {D : va_G} {k : Nat → ClassId} {g b : Nat → Nat} (μ ν : St) (w : Int32) (hI : Inv (μ 0)) : Ct l D k g yX7_count cX7_count 2 (some .int) 1 21 [.ref (b 20), .int w] (S := St) (wM k b μ ν) (fun uu => wM k b uu ν) (fun vv uu => vv = some (.int ((op_count w μ).1)) ∧ uu = (op_count w μ).2) := by
  refine Ct.ofI RX7 rfl (by decide +kernel) (Nat.le_of_ble_eq_true rfl) (fun X hC hR => ?_)
  have hb4 := hI.hb; have hb8 := hI.mb; have hb6 := hI.pb; have hbm := hI.ob0; have hbt := hI.bb; have hbw := hI.wb
  show V X (wM k b μ ν) [(0, .ref (b 20)), (1, .int w)] [] 0
  refine V.iload_n (pc := 0) 1 hC dX7_count_0 rfl ?_
  by_cases s_1_0 : w = 0
  · refine V.tableIn (pc := 1) 48 hC dX7_count_1 (by rw [s_1_0]; decide) (by rw [s_1_0]; decide) (by rw [s_1_0]; rfl) (by decide) ?_
    refine V.aload_n (pc := 48) 0 hC dX7_count_48 rfl ?_
    refine V.get (pc := 49) (v := .ref (b 0)) hC cf_X7 0 0 fl_X7_9 (by decide) gm_0 rfl dX7_count_49 ?_
    refine V.iconst (pc := 52) 2 hC dX7_count_52 (by decide) ?_
    refine V.iald (pc := 53) (f := μ 0) hC 1 2 gm_1 (nl 2) (by omega) (by decide) dX7_count_53 ?_
    exact hR (μ 0 2) (μ) _ _ dX7_count_54 rfl (opr (by simp only [op_count, s_1_0, inS, hndS, homS, prsS, shtS, if_true, if_false, not_true_eq_false, not_false_eq_true, true_and, and_true, false_and, and_false, true_or, or_true, or_false, false_or, er_1, er_2, er_3, er_4, er_5, er_6] <;> rfl))
  by_cases s_1_1 : w = 1
  · refine V.tableIn (pc := 1) 55 hC dX7_count_1 (by rw [s_1_1]; decide) (by rw [s_1_1]; decide) (by rw [s_1_1]; rfl) (by decide) ?_
    refine V.aload_n (pc := 55) 0 hC dX7_count_55 rfl ?_
    refine V.get (pc := 56) (v := .ref (b 0)) hC cf_X7 0 0 fl_X7_9 (by decide) gm_0 rfl dX7_count_56 ?_
    refine V.iconst (pc := 59) 3 hC dX7_count_59 (by decide) ?_
    refine V.iald (pc := 60) (f := μ 0) hC 1 3 gm_1 (nl 3) (by omega) (by decide) dX7_count_60 ?_
    exact hR (μ 0 3) (μ) _ _ dX7_count_61 rfl (opr (by simp only [op_count, s_1_1, inS, hndS, homS, prsS, shtS, if_true, if_false, not_true_eq_false, not_false_eq_true, true_and, and_true, false_and, and_false, true_or, or_true, or_false, false_or, er_1, er_2, er_3, er_4, er_5, er_6] <;> rfl))
  by_cases s_1_2 : w = 2
  · refine V.tableIn (pc := 1) 62 hC dX7_count_1 (by rw [s_1_2]; decide) (by rw [s_1_2]; decide) (by rw [s_1_2]; rfl) (by decide) ?_
    refine V.aload_n (pc := 62) 0 hC dX7_count_62 rfl ?_
    refine V.get (pc := 63) (v := .ref (b 0)) hC cf_X7 0 0 fl_X7_9 (by decide) gm_0 rfl dX7_count_63 ?_
    refine V.iconst (pc := 66) 4 hC dX7_count_66 (by decide) ?_
    refine V.iald (pc := 67) (f := μ 0) hC 1 4 gm_1 (nl 4) (by omega) (by decide) dX7_count_67 ?_
    exact hR (μ 0 4) (μ) _ _ dX7_count_68 rfl (opr (by simp only [op_count, s_1_2, inS, hndS, homS, prsS, shtS, if_true, if_false, not_true_eq_false, not_false_eq_true, true_and, and_true, false_and, and_false, true_or, or_true, or_false, false_or, er_1, er_2, er_3, er_4, er_5, er_6] <;> rfl))
  by_cases s_1_3 : w = 3
  · refine V.tableIn (pc := 1) 69 hC dX7_count_1 (by rw [s_1_3]; decide) (by rw [s_1_3]; decide) (by rw [s_1_3]; rfl) (by decide) ?_
    refine V.aload_n (pc := 69) 0 hC dX7_count_69 rfl ?_
    refine V.get (pc := 70) (v := .ref (b 0)) hC cf_X7 0 0 fl_X7_9 (by decide) gm_0 rfl dX7_count_70 ?_
    refine V.iconst (pc := 73) 0 hC dX7_count_73 (by decide) ?_
    refine V.iald (pc := 74) (f := μ 0) hC 1 0 gm_1 (nl 0) (by omega) (by decide) dX7_count_74 ?_
    exact hR (μ 0 0) (μ) _ _ dX7_count_75 rfl (opr (by simp only [op_count, s_1_3, inS, hndS, homS, prsS, shtS, if_true, if_false, not_true_eq_false, not_false_eq_true, true_and, and_true, false_and, and_false, true_or, or_true, or_false, false_or, er_1, er_2, er_3, er_4, er_5, er_6] <;> rfl))
  by_cases s_1_4 : w = 4
  · refine V.tableIn (pc := 1) 76 hC dX7_count_1 (by rw [s_1_4]; decide) (by rw [s_1_4]; decide) (by rw [s_1_4]; rfl) (by decide) ?_
    refine V.aload_n (pc := 76) 0 hC dX7_count_76 rfl ?_
    refine V.get (pc := 77) (v := .ref (b 0)) hC cf_X7 0 0 fl_X7_9 (by decide) gm_0 rfl dX7_count_77 ?_
    refine V.iconst (pc := 80) 5 hC dX7_count_80 (by decide) ?_
    refine V.iald (pc := 81) (f := μ 0) hC 1 5 gm_1 (nl 5) (by omega) (by decide) dX7_count_81 ?_
    exact hR (μ 0 5) (μ) _ _ dX7_count_82 rfl (opr (by simp only [op_count, s_1_4, inS, hndS, homS, prsS, shtS, if_true, if_false, not_true_eq_false, not_false_eq_true, true_and, and_true, false_and, and_false, true_or, or_true, or_false, false_or, er_1, er_2, er_3, er_4, er_5, er_6] <;> rfl))
  by_cases s_1_5 : w = 5
  · refine V.tableIn (pc := 1) 83 hC dX7_count_1 (by rw [s_1_5]; decide) (by rw [s_1_5]; decide) (by rw [s_1_5]; rfl) (by decide) ?_
    refine V.aload_n (pc := 83) 0 hC dX7_count_83 rfl ?_
    refine V.get (pc := 84) (v := .ref (b 0)) hC cf_X7 0 0 fl_X7_9 (by decide) gm_0 rfl dX7_count_84 ?_
    refine V.bipush (pc := 87) 6 hC dX7_count_87 (by decide) ?_
    refine V.iald (pc := 89) (f := μ 0) hC 1 6 gm_1 (nl 6) (by omega) (by decide) dX7_count_89 ?_
    exact hR (μ 0 6) (μ) _ _ dX7_count_90 rfl (opr (by simp only [op_count, s_1_5, inS, hndS, homS, prsS, shtS, if_true, if_false, not_true_eq_false, not_false_eq_true, true_and, and_true, false_and, and_false, true_or, or_true, or_false, false_or, er_1, er_2, er_3, er_4, er_5, er_6] <;> rfl))
  by_cases s_1_6 : w = 6
  · refine V.tableIn (pc := 1) 91 hC dX7_count_1 (by rw [s_1_6]; decide) (by rw [s_1_6]; decide) (by rw [s_1_6]; rfl) (by decide) ?_
    refine V.aload_n (pc := 91) 0 hC dX7_count_91 rfl ?_
    refine V.get (pc := 92) (v := .int (μ 18 0)) hC cf_X7 0 18 fl_X7_206 (by decide) gm_0 rfl dX7_count_92 ?_
    exact hR (μ 18 0) (μ) _ _ dX7_count_95 rfl (opr (by simp only [op_count, s_1_6, inS, hndS, homS, prsS, shtS, if_true, if_false, not_true_eq_false, not_false_eq_true, true_and, and_true, false_and, and_false, true_or, or_true, or_false, false_or, er_1, er_2, er_3, er_4, er_5, er_6] <;> rfl))
  by_cases s_1_7 : w = 7
  · refine V.tableIn (pc := 1) 96 hC dX7_count_1 (by rw [s_1_7]; decide) (by rw [s_1_7]; decide) (by rw [s_1_7]; rfl) (by decide) ?_
    refine V.aload_n (pc := 96) 0 hC dX7_count_96 rfl ?_
    refine V.get (pc := 97) (v := .ref (b 0)) hC cf_X7 0 0 fl_X7_9 (by decide) gm_0 rfl dX7_count_97 ?_
    refine V.iconst (pc := 100) 1 hC dX7_count_100 (by decide) ?_
    refine V.iald (pc := 101) (f := μ 0) hC 1 1 gm_1 (nl 1) (by omega) (by decide) dX7_count_101 ?_
    exact hR (μ 0 1) (μ) _ _ dX7_count_102 rfl (opr (by simp only [op_count, s_1_7, inS, hndS, homS, prsS, shtS, if_true, if_false, not_true_eq_false, not_false_eq_true, true_and, and_true, false_and, and_false, true_or, or_true, or_false, false_or, er_1, er_2, er_3, er_4, er_5, er_6] <;> rfl))
  refine V.tableOut (pc := 1) 103 hC dX7_count_1 (by have ts_1_0 : ¬ (w).toInt = 0 := fun q => s_1_0 (Int32.toInt_inj.mp q); have ts_1_1 : ¬ (w).toInt = 1 := fun q => s_1_1 (Int32.toInt_inj.mp q); have ts_1_2 : ¬ (w).toInt = 2 := fun q => s_1_2 (Int32.toInt_inj.mp q); have ts_1_3 : ¬ (w).toInt = 3 := fun q => s_1_3 (Int32.toInt_inj.mp q); have ts_1_4 : ¬ (w).toInt = 4 := fun q => s_1_4 (Int32.toInt_inj.mp q); have ts_1_5 : ¬ (w).toInt = 5 := fun q => s_1_5 (Int32.toInt_inj.mp q); have ts_1_6 : ¬ (w).toInt = 6 := fun q => s_1_6 (Int32.toInt_inj.mp q); have ts_1_7 : ¬ (w).toInt = 7 := fun q => s_1_7 (Int32.toInt_inj.mp q); omega) (by decide) ?_
  refine V.aload_n (pc := 103) 0 hC dX7_count_103 rfl ?_
  refine V.ldc (pc := 104) (v := (-1000000001)) hC cn_X7_55 dX7_count_104 ?_
  refine V.callV0 (pc := 106) (as := [.int (-1000000001)]) hC (c_X7_error μ ν 1 (-1000000001) (by omega) (by decide)) mu_X7_error ml_X7_56 (by decide) ⟨0, 7, TX7, 20, _, rfl, gm_0⟩ rfl (Nat.le_of_ble_eq_true rfl) dX7_count_106 ?_
  rintro _ _ rfl
  show V X (wM k b (va_up μ 3 (upd (μ 3) 1 (μ 3 1 + 1))) ν) [(0, .ref (b 20)), (1, .int w)] [.int (-1000000001)] 109
  exact hR (-1000000001) ((va_up μ 3 (upd (μ 3) 1 (μ 3 1 + 1)))) _ _ dX7_count_109 rfl (opr (by simp only [op_count, s_1_0, s_1_1, s_1_2, s_1_3, s_1_4, s_1_5, s_1_6, s_1_7, inS, hndS, homS, prsS, shtS, if_true, if_false, not_true_eq_false, not_false_eq_true, true_and, and_true, false_and, and_false, true_or, or_true, or_false, false_or, er_1, er_2, er_3, er_4, er_5, er_6] <;> rfl))
set_option maxHeartbeats 4000000 in
set_option maxRecDepth 100000 in
theorem c_X7_told {l : Launch} {D : va_G} {k : Nat → ClassId} {g b : Nat → Nat} (μ ν : St) (e : Int32) (hI : Inv (μ 0)) : Ct l D k g yX7_told cX7_told 2 (some .int) 1 22 [.ref (b 20), .int e] (S := St) (wM k b μ ν) (fun uu => wM k b uu ν) (fun vv uu => vv = some (.int ((op_told e μ).1)) ∧ uu = (op_told e μ).2) := by
  refine Ct.ofI RX7 rfl (by decide +kernel) (Nat.le_of_ble_eq_true rfl) (fun X hC hR => ?_)
  have hb4 := hI.hb; have hb8 := hI.mb; have hb6 := hI.pb; have hbm := hI.ob0; have hbt := hI.bb; have hbw := hI.wb
  show V X (wM k b μ ν) [(0, .ref (b 20)), (1, .int e)] [] 0
  refine V.iload_n (pc := 0) 1 hC dX7_told_0 rfl ?_
  refine V.iconst (pc := 1) 1 hC dX7_told_1 (by decide) ?_
  refine V.bipush (pc := 2) 6 hC dX7_told_2 (by decide) ?_
  refine V.callS0 (pc := 4) (as := [.int e, .int 1, .int 6]) hC (c_X7_in e 1 6 ) ms_X7_in ml_X7_47 (by decide) rfl (Nat.le_of_ble_eq_true rfl) dX7_told_4 ?_
  rintro _ _ rfl
  show V X (wM k b μ ν) [(0, .ref (b 20)), (1, .int e)] [.int (bI (inS e 1 6))] 7
  refine V.if_eq_b (P := inS e 1 6) (pc := 7) 19 hC dX7_told_7 (by decide) (fun c_7 => ?_) (fun c_7 => ?_)
  · refine V.aload_n (pc := 19) 0 hC dX7_told_19 rfl ?_
    refine V.ldc (pc := 20) (v := (-1000000001)) hC cn_X7_55 dX7_told_20 ?_
    refine V.callV0 (pc := 22) (as := [.int (-1000000001)]) hC (c_X7_error μ ν 1 (-1000000001) (by omega) (by decide)) mu_X7_error ml_X7_56 (by decide) ⟨0, 7, TX7, 20, _, rfl, gm_0⟩ rfl (Nat.le_of_ble_eq_true rfl) dX7_told_22 ?_
    rintro _ _ rfl
    show V X (wM k b (va_up μ 3 (upd (μ 3) 1 (μ 3 1 + 1))) ν) [(0, .ref (b 20)), (1, .int e)] [.int (-1000000001)] 25
    exact hR (-1000000001) ((va_up μ 3 (upd (μ 3) 1 (μ 3 1 + 1)))) _ _ dX7_told_25 rfl (opr (by rw [op_told, if_neg c_7, er_1]))
  · have hh_e := inS_1 c_7 (nl 1) (nl 6) (by omega) (by omega)
    refine V.aload_n (pc := 10) 0 hC dX7_told_10 rfl ?_
    refine V.get (pc := 11) (v := .ref (b 3)) hC cf_X7 0 3 fl_X7_16 (by decide) gm_0 rfl dX7_told_11 ?_
    refine V.iload_n (pc := 14) 1 hC dX7_told_14 rfl ?_
    refine V.iald (pc := 15) (f := μ 3) hC 3 (nN e) gm_3 hh_e.1 (by omega) (by decide) dX7_told_15 ?_
    refine V.goto (pc := 16) 25 hC dX7_told_16 (by decide) ?_
    exact hR (μ 3 (nN e)) (μ) _ _ dX7_told_25 rfl (opr (by rw [op_told, if_pos c_7]))
