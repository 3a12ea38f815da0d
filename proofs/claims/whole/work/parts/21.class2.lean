theorem apart_0 {ρ : Rw} (hI : Inv ρ) {x y : Nat} (hx : x < nN (ρ 2)) (hy : y < nN (ρ 2)) {t : Int32} (ht : isN t 100000) : apartS ρ x y t = 0 ↔ markS ρ y t = markS ρ x t := by
  have h1 := (mark_n hI hx ht).1
  have h2 := (mark_n hI hy ht).1
  obtain ⟨a, ha, hab⟩ : ∃ a, markS ρ x t = nI a ∧ a ≤ 59 := ⟨_, h1.1, h1.2⟩
  obtain ⟨c, hc, hcb⟩ : ∃ c, markS ρ y t = nI c ∧ c ≤ 59 := ⟨_, h2.1, h2.2⟩
  unfold apartS
  rw [ha, hc]
  have hs : ∀ a, a < 60 → ∀ c, c < 60 → (minS (absS (nI a - nI c)) (60 - absS (nI a - nI c)) = 0 ↔ nI c = nI a) := by decide +kernel
  exact hs a (by omega) c (by omega)

set_option maxHeartbeats 4000000 in
set_option maxRecDepth 100000 in
theorem c_X3_apart {l : Launch} {D : va_G} {k : Nat → ClassId} {g a : Nat → Nat} (σ ν : St) (ρ : Rw) (x y : Nat) (t : Int32) (hT : RT σ ρ) (hI : Inv ρ) (hx : x < nN (ρ 2)) (hy : y < nN (ρ 2)) (ht : isN t 100000) : Ct l D k g yX3_apart cX3_apart 5 (some .int) 3 66 [.ref (a 1), .int (nI x), .int (nI y), .int t] (S := Unit) (wX k g a σ ν) (fun _ => wX k g a σ ν) (fun vv _ => vv = some (.int (apartS ρ x y t))) := by
  refine Ct.ofI RX3 rfl (by decide +kernel) (Nat.le_of_ble_eq_true rfl) (fun X hC hR => ?_)
  have hb4 := hI.hb; have hb8 := hI.mb; have hb6 := hI.pb; have hbm := hI.ob0; have hbt := hI.bb; have hbw := hI.wb
  show V X (wX k g a σ ν) [(0, .ref (a 1)), (1, .int (nI x)), (2, .int (nI y)), (3, .int t)] [] 0
  refine V.aload_n (pc := 0) 0 hC dX3_apart_0 rfl ?_
  refine V.iload_n (pc := 1) 1 hC dX3_apart_1 rfl ?_
  refine V.iload_n (pc := 2) 3 hC dX3_apart_2 rfl ?_
  refine V.callV0 (pc := 3) (as := [.int (nI x), .int t]) hC (c_X3_markOf σ ν ρ x t hT hI hx ht) mu_X3_markOf ml_X3_97 (by decide) ⟨1, 3, TX3, 17, _, rfl, gx_1⟩ rfl (Nat.le_of_ble_eq_true rfl) dX3_apart_3 ?_
  rintro _ _ rfl
  show V X (wX k g a σ ν) [(0, .ref (a 1)), (1, .int (nI x)), (2, .int (nI y)), (3, .int t)] [.int (markS ρ x t)] 6
  refine V.aload_n (pc := 6) 0 hC dX3_apart_6 rfl ?_
  refine V.iload_n (pc := 7) 2 hC dX3_apart_7 rfl ?_
  refine V.iload_n (pc := 8) 3 hC dX3_apart_8 rfl ?_
  refine V.callV0 (pc := 9) (as := [.int (nI y), .int t]) hC (c_X3_markOf σ ν ρ y t hT hI hy ht) mu_X3_markOf ml_X3_97 (by decide) ⟨1, 3, TX3, 17, _, rfl, gx_1⟩ rfl (Nat.le_of_ble_eq_true rfl) dX3_apart_9 ?_
  rintro _ _ rfl
  show V X (wX k g a σ ν) [(0, .ref (a 1)), (1, .int (nI x)), (2, .int (nI y)), (3, .int t)] [.int (markS ρ y t), .int (markS ρ x t)] 12
  refine V.isub (pc := 12) hC dX3_apart_12 ?_
  refine V.mabs (pc := 13) hC ml_X3_100 ⟨Nat.le_of_ble_eq_true rfl, Nat.le_of_ble_eq_true rfl⟩ dX3_apart_13 ?_
  refine V.eqi (y := absS ((markS ρ x t) - (markS ρ y t))) abs_m ?_
  refine V.istore (pc := 16) [(4, .int (absS ((markS ρ x t) - (markS ρ y t)))), (0, .ref (a 1)), (1, .int (nI x)), (2, .int (nI y)), (3, .int t)] hC dX3_apart_16 (by decide) rfl ?_
  refine V.iload (pc := 18) 0 hC dX3_apart_18 rfl ?_
  refine V.bipush (pc := 20) 60 hC dX3_apart_20 (by decide) ?_
  refine V.iload (pc := 22) 0 hC dX3_apart_22 rfl ?_
  refine V.isub (pc := 24) hC dX3_apart_24 ?_
  refine V.mmin (pc := 25) hC ml_X3_106 ⟨Nat.le_of_ble_eq_true rfl, Nat.le_of_ble_eq_true rfl⟩ dX3_apart_25 ?_
  refine V.eqi (y := minS (absS ((markS ρ x t) - (markS ρ y t))) (60 - (absS ((markS ρ x t) - (markS ρ y t))))) min_m ?_
  exact hR (minS (absS ((markS ρ x t) - (markS ρ y t))) (60 - (absS ((markS ρ x t) - (markS ρ y t))))) () _ _ dX3_apart_28 rfl rfl
set_option maxHeartbeats 4000000 in
set_option maxRecDepth 100000 in
theorem c_X3_allMeet {l : Launch} {D : va_G} {k : Nat → ClassId} {g a : Nat → Nat} (σ ν : St) (ρ : Rw) (t : Int32) (hT : RT σ ρ) (hI : Inv ρ) (h0 : 0 < nN (ρ 2)) (ht : isN t 100000) : Ct l D k g yX3_allMeet cX3_allMeet 4 (some .boolean) 3 66 [.ref (a 1), .int t] (S := Unit) (wX k g a σ ν) (fun _ => wX k g a σ ν) (fun vv _ => vv = some (.int (bI (almS ρ t = true)))) := by
  refine Ct.ofI RX3 rfl (by decide +kernel) (Nat.le_of_ble_eq_true rfl) (fun X hC hR => ?_)
  have hb4 := hI.hb; have hb8 := hI.mb; have hb6 := hI.pb; have hbm := hI.ob0; have hbt := hI.bb; have hbw := hI.wb
  show V X (wX k g a σ ν) [(0, .ref (a 1)), (1, .int t)] [] 0
  refine V.aload_n (pc := 0) 0 hC dX3_allMeet_0 rfl ?_
  refine V.iconst (pc := 1) 0 hC dX3_allMeet_1 (by decide) ?_
  refine V.iload_n (pc := 2) 1 hC dX3_allMeet_2 rfl ?_
  refine V.sts (st' := [.int t, .int (nI 0), .ref (a 1)]) (stk (stc (nl 0) (stk rfl))) ?_
  refine V.callV0 (pc := 3) (as := [.int (nI 0), .int t]) hC (c_X3_markOf σ ν ρ 0 t hT hI h0 ht) mu_X3_markOf ml_X3_97 (by decide) ⟨1, 3, TX3, 17, _, rfl, gx_1⟩ rfl (Nat.le_of_ble_eq_true rfl) dX3_allMeet_3 ?_
  rintro _ _ rfl
  show V X (wX k g a σ ν) [(0, .ref (a 1)), (1, .int t)] [.int (markS ρ 0 t)] 6
  refine V.istore_n (pc := 6) [(2, .int (markS ρ 0 t)), (0, .ref (a 1)), (1, .int t)] hC dX3_allMeet_6 (by decide) rfl ?_
  refine V.iconst (pc := 7) 1 hC dX3_allMeet_7 (by decide) ?_
  refine V.istore_n (pc := 8) [(3, .int 1), (2, .int (markS ρ 0 t)), (0, .ref (a 1)), (1, .int t)] hC dX3_allMeet_8 (by decide) rfl ?_
  have loop_9 : ∀ (n : Nat) (i : Nat), i + n = nN (ρ 2) → almS ρ t = allF (fun h => decide (apartS ρ 0 h t = 0)) n i → V X (wX k g a σ ν) [(0, .ref (a 1)), (1, .int t), (2, .int (markS ρ 0 t)), (3, .int (nI i))] [] 9 := by
    intro n
    induction n with
    | zero =>
      intro i hi hv
      refine V.iload_n (pc := 9) 3 hC dX3_allMeet_9 rfl ?_
      refine V.aload_n (pc := 10) 0 hC dX3_allMeet_10 rfl ?_
      refine V.get (pc := 11) (v := .int (σ 10 0)) hC cf_X3 1 0 fl_X3_51 (by decide) gx_1 rfl dX3_allMeet_11 ?_
      refine V.eqi (y := ρ 2) (hT.1.1) ?_
      refine V.icmp_ge (pc := 14) 35 hC dX3_allMeet_14 (by decide) (fun c_14 => ?_) (fun c_14 => ?_)
      · have nc_14 : nN (ρ 2) ≤ i := (nle hI.hn rfl (by omega) (by omega)).mp c_14
        refine V.iconst (pc := 35) 1 hC dX3_allMeet_35 (by decide) ?_
        exact hR 1 () _ _ dX3_allMeet_36 (by first | rfl | exact bI_n _) (rb1 (hv.trans rfl))
      · have nc_14 : ¬ (nN (ρ 2) ≤ i) := fun z => c_14 ((nle hI.hn rfl (by omega) (by omega)).mpr z)
        exfalso; omega
    | succ n ih =>
      intro i hi hv
      refine V.iload_n (pc := 9) 3 hC dX3_allMeet_9 rfl ?_
      refine V.aload_n (pc := 10) 0 hC dX3_allMeet_10 rfl ?_
      refine V.get (pc := 11) (v := .int (σ 10 0)) hC cf_X3 1 0 fl_X3_51 (by decide) gx_1 rfl dX3_allMeet_11 ?_
      refine V.eqi (y := ρ 2) (hT.1.1) ?_
      refine V.icmp_ge (pc := 14) 35 hC dX3_allMeet_14 (by decide) (fun c_14 => ?_) (fun c_14 => ?_)
      · have nc_14 : nN (ρ 2) ≤ i := (nle hI.hn rfl (by omega) (by omega)).mp c_14
        exfalso; omega
      · have nc_14 : ¬ (nN (ρ 2) ≤ i) := fun z => c_14 ((nle hI.hn rfl (by omega) (by omega)).mpr z)
        refine V.aload_n (pc := 17) 0 hC dX3_allMeet_17 rfl ?_
        refine V.iload_n (pc := 18) 3 hC dX3_allMeet_18 rfl ?_
        refine V.iload_n (pc := 19) 1 hC dX3_allMeet_19 rfl ?_
        refine V.callV0 (pc := 20) (as := [.int (nI i), .int t]) hC (c_X3_markOf σ ν ρ i t hT hI (by omega) ht) mu_X3_markOf ml_X3_97 (by decide) ⟨1, 3, TX3, 17, _, rfl, gx_1⟩ rfl (Nat.le_of_ble_eq_true rfl) dX3_allMeet_20 ?_
        rintro _ _ rfl
        show V X (wX k g a σ ν) [(0, .ref (a 1)), (1, .int t), (2, .int (markS ρ 0 t)), (3, .int (nI i))] [.int (markS ρ i t)] 23
        refine V.iload_n (pc := 23) 2 hC dX3_allMeet_23 rfl ?_
        refine V.icmp_eq (pc := 24) 29 hC dX3_allMeet_24 (by decide) (fun c_24 => ?_) (fun c_24 => ?_)
        · refine V.iinc (pc := 29) 3 (nI (i + 1)) [(3, .int (nI (i + 1))), (0, .ref (a 1)), (1, .int t), (2, .int (markS ρ 0 t))] hC dX3_allMeet_29 rfl (ncast (nadd rfl (nl 1)) (by omega)) (by decide) rfl ?_
          refine V.goto (pc := 32) 9 hC dX3_allMeet_32 (by decide) ?_
          exact V.sub [1, 2, 3, 0] rfl (ih (i + 1) (by omega) (hv.trans (by show (decide (apartS ρ 0 i t = 0) && allF _ n (i + 1)) = _; rw [decide_eq_true ((apart_0 hI h0 (by omega) ht).mpr c_24)]; rfl)))
        · refine V.iconst (pc := 27) 0 hC dX3_allMeet_27 (by decide) ?_
          exact hR 0 () _ _ dX3_allMeet_28 (by first | rfl | exact bI_n _) (rb0 (by rw [hv]; show ¬ (decide (apartS ρ 0 i t = 0) && allF _ n (i + 1)) = true; rw [decide_eq_false (fun q => c_24 ((apart_0 hI h0 (by omega) ht).mp q))]; exact fun q => absurd (show false = true from q) (by decide)))
  exact V.sub [2, 3, 1, 0] rfl (loop_9 (nN (ρ 2) - 1) 1 (by omega) rfl)
set_option maxHeartbeats 4000000 in
set_option maxRecDepth 100000 in
theorem c_X3_homesOn {l : Launch} {D : va_G} {k : Nat → ClassId} {g a : Nat → Nat} (σ ν : St) (ρ : Rw) (h : Int32) (hT : RT σ ρ) (hI : Inv ρ) : Ct l D k g yX3_homesOn cX3_homesOn 4 (some .int) 0 0 [.ref (a 1), .int h] (S := Unit) (wX k g a σ ν) (fun _ => wX k g a σ ν) (fun vv _ => vv = some (.int (homesOnS ρ h))) := by
  refine Ct.ofI RX3 rfl (by decide +kernel) (Nat.le_of_ble_eq_true rfl) (fun X hC hR => ?_)
  have hb4 := hI.hb; have hb8 := hI.mb; have hb6 := hI.pb; have hbm := hI.ob0; have hbt := hI.bb; have hbw := hI.wb
  show V X (wX k g a σ ν) [(0, .ref (a 1)), (1, .int h)] [] 0
  refine V.iconst (pc := 0) 0 hC dX3_homesOn_0 (by decide) ?_
  refine V.istore_n (pc := 1) [(2, .int 0), (0, .ref (a 1)), (1, .int h)] hC dX3_homesOn_1 (by decide) rfl ?_
  refine V.iconst (pc := 2) 0 hC dX3_homesOn_2 (by decide) ?_
  refine V.istore_n (pc := 3) [(3, .int 0), (2, .int 0), (0, .ref (a 1)), (1, .int h)] hC dX3_homesOn_3 (by decide) rfl ?_
  have loop_4 : ∀ (n : Nat) (i : Nat) (s : Int32), i + n = nN (ρ 3) → homesOnS ρ h = run (fun i s => s ||| (if ρ (15 + 2 * i) = h then b1 (nI i) else 0)) n i s → V X (wX k g a σ ν) [(3, .int (nI i)), (2, .int s), (0, .ref (a 1)), (1, .int h)] [] 4 := by
    intro n
    induction n with
    | zero =>
      intro i s hi hv
      refine V.iload_n (pc := 4) 0 hC dX3_homesOn_4 rfl ?_
      refine V.aload_n (pc := 5) 2 hC dX3_homesOn_5 rfl ?_
      refine V.get (pc := 6) (v := .int (σ 13 0)) hC cf_X3 1 3 fl_X3_60 (by decide) gx_1 rfl dX3_homesOn_6 ?_
      refine V.eqi (y := ρ 3) (hT.2.1.1) ?_
      refine V.icmp_ge (pc := 9) 34 hC dX3_homesOn_9 (by decide) (fun c_9 => ?_) (fun c_9 => ?_)
      · have nc_9 : nN (ρ 3) ≤ i := (nle hI.mn rfl (by omega) (by omega)).mp c_9
        refine V.iload_n (pc := 34) 1 hC dX3_homesOn_34 rfl ?_
        exact hR s () _ _ dX3_homesOn_35 rfl (ri hv.symm)
      · have nc_9 : ¬ (nN (ρ 3) ≤ i) := fun z => c_9 ((nle hI.mn rfl (by omega) (by omega)).mpr z)
        exfalso; omega
    | succ n ih =>
      intro i s hi hv
      refine V.iload_n (pc := 4) 0 hC dX3_homesOn_4 rfl ?_
      refine V.aload_n (pc := 5) 2 hC dX3_homesOn_5 rfl ?_
      refine V.get (pc := 6) (v := .int (σ 13 0)) hC cf_X3 1 3 fl_X3_60 (by decide) gx_1 rfl dX3_homesOn_6 ?_
      refine V.eqi (y := ρ 3) (hT.2.1.1) ?_
      refine V.icmp_ge (pc := 9) 34 hC dX3_homesOn_9 (by decide) (fun c_9 => ?_) (fun c_9 => ?_)
      · have nc_9 : nN (ρ 3) ≤ i := (nle hI.mn rfl (by omega) (by omega)).mp c_9
        exfalso; omega
      · have nc_9 : ¬ (nN (ρ 3) ≤ i) := fun z => c_9 ((nle hI.mn rfl (by omega) (by omega)).mpr z)
        refine V.aload_n (pc := 12) 2 hC dX3_homesOn_12 rfl ?_
        refine V.get (pc := 13) (v := .ref (a 14)) hC cf_X3 1 4 fl_X3_18 (by decide) gx_1 rfl dX3_homesOn_13 ?_
        refine V.iload_n (pc := 16) 0 hC dX3_homesOn_16 rfl ?_
        refine V.iald (pc := 17) (f := σ 14) hC 10 i gx_10 rfl (by omega) (by decide) dX3_homesOn_17 ?_
        refine V.eqi (y := ρ (15 + 2 * i)) (hT.2.1.2.1 i (by omega)) ?_
        refine V.iload_n (pc := 18) 3 hC dX3_homesOn_18 rfl ?_
        refine V.icmp_ne (pc := 19) 28 hC dX3_homesOn_19 (by decide) (fun c_19 => ?_) (fun c_19 => ?_)
        · refine V.iinc (pc := 28) 0 (nI (i + 1)) [(3, .int (nI (i + 1))), (2, .int s), (0, .ref (a 1)), (1, .int h)] hC dX3_homesOn_28 rfl (ncast (nadd rfl (nl 1)) (by omega)) (by decide) rfl ?_
          refine V.goto (pc := 31) 4 hC dX3_homesOn_31 (by decide) ?_
          exact V.sub [0, 1, 2, 3] rfl (ih (i + 1) s (by omega) (run_next hv (by simp [b1, c_9, i_nle c_9, c_19])))
        · refine V.iload_n (pc := 22) 1 hC dX3_homesOn_22 rfl ?_
          refine V.iconst (pc := 23) 1 hC dX3_homesOn_23 (by decide) ?_
          refine V.iload_n (pc := 24) 0 hC dX3_homesOn_24 rfl ?_
          refine V.ishl (pc := 25) hC dX3_homesOn_25 ?_
          refine V.ior (pc := 26) hC dX3_homesOn_26 ?_
          refine V.istore_n (pc := 27) [(2, .int (s ||| (1 <<< ((nI i) &&& 31)))), (3, .int (nI i)), (0, .ref (a 1)), (1, .int h)] hC dX3_homesOn_27 (by decide) rfl ?_
          refine V.iinc (pc := 28) 1 (nI (i + 1)) [(3, .int (nI (i + 1))), (2, .int (s ||| (1 <<< ((nI i) &&& 31)))), (0, .ref (a 1)), (1, .int h)] hC dX3_homesOn_28 rfl (ncast (nadd rfl (nl 1)) (by omega)) (by decide) rfl ?_
          refine V.goto (pc := 31) 4 hC dX3_homesOn_31 (by decide) ?_
          exact V.sub [0, 1, 2, 3] rfl (ih (i + 1) (s ||| (1 <<< ((nI i) &&& 31))) (by omega) (run_next hv (by simp [b1, c_9, i_nle c_9, c_19])))
  exact V.sub [0, 1, 2, 3] rfl (loop_4 (nN (ρ 3)) 0 0 (by omega) rfl)
set_option maxHeartbeats 4000000 in
set_option maxRecDepth 100000 in
theorem c_X3_peopleIn {l : Launch} {D : va_G} {k : Nat → ClassId} {g a : Nat → Nat} (σ ν : St) (ρ : Rw) (h : Int32) (hT : RT σ ρ) (hI : Inv ρ) : Ct l D k g yX3_peopleIn cX3_peopleIn 4 (some .int) 0 0 [.ref (a 1), .int h] (S := Unit) (wX k g a σ ν) (fun _ => wX k g a σ ν) (fun vv _ => vv = some (.int (whoInS ρ h))) := by
  refine Ct.ofI RX3 rfl (by decide +kernel) (Nat.le_of_ble_eq_true rfl) (fun X hC hR => ?_)
  have hb4 := hI.hb; have hb8 := hI.mb; have hb6 := hI.pb; have hbm := hI.ob0; have hbt := hI.bb; have hbw := hI.wb
  show V X (wX k g a σ ν) [(0, .ref (a 1)), (1, .int h)] [] 0
  refine V.iconst (pc := 0) 0 hC dX3_peopleIn_0 (by decide) ?_
  refine V.istore_n (pc := 1) [(2, .int 0), (0, .ref (a 1)), (1, .int h)] hC dX3_peopleIn_1 (by decide) rfl ?_
  refine V.iconst (pc := 2) 0 hC dX3_peopleIn_2 (by decide) ?_
  refine V.istore_n (pc := 3) [(3, .int 0), (2, .int 0), (0, .ref (a 1)), (1, .int h)] hC dX3_peopleIn_3 (by decide) rfl ?_
  have loop_4 : ∀ (n : Nat) (i : Nat) (s : Int32), i + n = nN (ρ 4) → whoInS ρ h = run (fun i s => s ||| (if ρ (33 + 3 * i) = h then b1 (nI i) else 0)) n i s → V X (wX k g a σ ν) [(3, .int (nI i)), (2, .int s), (0, .ref (a 1)), (1, .int h)] [] 4 := by
    intro n
    induction n with
    | zero =>
      intro i s hi hv
      refine V.iload_n (pc := 4) 0 hC dX3_peopleIn_4 rfl ?_
      refine V.aload_n (pc := 5) 2 hC dX3_peopleIn_5 rfl ?_
      refine V.get (pc := 6) (v := .int (σ 16 0)) hC cf_X3 1 6 fl_X3_63 (by decide) gx_1 rfl dX3_peopleIn_6 ?_
      refine V.eqi (y := ρ 4) (hT.2.2.1.1) ?_
      refine V.icmp_ge (pc := 9) 34 hC dX3_peopleIn_9 (by decide) (fun c_9 => ?_) (fun c_9 => ?_)
      · have nc_9 : nN (ρ 4) ≤ i := (nle hI.pn rfl (by omega) (by omega)).mp c_9
        refine V.iload_n (pc := 34) 1 hC dX3_peopleIn_34 rfl ?_
        exact hR s () _ _ dX3_peopleIn_35 rfl (ri hv.symm)
      · have nc_9 : ¬ (nN (ρ 4) ≤ i) := fun z => c_9 ((nle hI.pn rfl (by omega) (by omega)).mpr z)
        exfalso; omega
    | succ n ih =>
      intro i s hi hv
      refine V.iload_n (pc := 4) 0 hC dX3_peopleIn_4 rfl ?_
      refine V.aload_n (pc := 5) 2 hC dX3_peopleIn_5 rfl ?_
      refine V.get (pc := 6) (v := .int (σ 16 0)) hC cf_X3 1 6 fl_X3_63 (by decide) gx_1 rfl dX3_peopleIn_6 ?_
      refine V.eqi (y := ρ 4) (hT.2.2.1.1) ?_
      refine V.icmp_ge (pc := 9) 34 hC dX3_peopleIn_9 (by decide) (fun c_9 => ?_) (fun c_9 => ?_)
      · have nc_9 : nN (ρ 4) ≤ i := (nle hI.pn rfl (by omega) (by omega)).mp c_9
        exfalso; omega
      · have nc_9 : ¬ (nN (ρ 4) ≤ i) := fun z => c_9 ((nle hI.pn rfl (by omega) (by omega)).mpr z)
        refine V.aload_n (pc := 12) 2 hC dX3_peopleIn_12 rfl ?_
        refine V.get (pc := 13) (v := .ref (a 19)) hC cf_X3 1 9 fl_X3_30 (by decide) gx_1 rfl dX3_peopleIn_13 ?_
        refine V.iload_n (pc := 16) 0 hC dX3_peopleIn_16 rfl ?_
        refine V.iald (pc := 17) (f := σ 19) hC 14 i gx_14 rfl (by omega) (by decide) dX3_peopleIn_17 ?_
        refine V.eqi (y := ρ (33 + 3 * i)) (hT.2.2.1.2.2.2 i (by omega)) ?_
        refine V.iload_n (pc := 18) 3 hC dX3_peopleIn_18 rfl ?_
        refine V.icmp_ne (pc := 19) 28 hC dX3_peopleIn_19 (by decide) (fun c_19 => ?_) (fun c_19 => ?_)
        · refine V.iinc (pc := 28) 0 (nI (i + 1)) [(3, .int (nI (i + 1))), (2, .int s), (0, .ref (a 1)), (1, .int h)] hC dX3_peopleIn_28 rfl (ncast (nadd rfl (nl 1)) (by omega)) (by decide) rfl ?_
          refine V.goto (pc := 31) 4 hC dX3_peopleIn_31 (by decide) ?_
          exact V.sub [0, 1, 2, 3] rfl (ih (i + 1) s (by omega) (run_next hv (by simp [b1, c_9, i_nle c_9, c_19])))
        · refine V.iload_n (pc := 22) 1 hC dX3_peopleIn_22 rfl ?_
          refine V.iconst (pc := 23) 1 hC dX3_peopleIn_23 (by decide) ?_
          refine V.iload_n (pc := 24) 0 hC dX3_peopleIn_24 rfl ?_
          refine V.ishl (pc := 25) hC dX3_peopleIn_25 ?_
          refine V.ior (pc := 26) hC dX3_peopleIn_26 ?_
          refine V.istore_n (pc := 27) [(2, .int (s ||| (1 <<< ((nI i) &&& 31)))), (3, .int (nI i)), (0, .ref (a 1)), (1, .int h)] hC dX3_peopleIn_27 (by decide) rfl ?_
          refine V.iinc (pc := 28) 1 (nI (i + 1)) [(3, .int (nI (i + 1))), (2, .int (s ||| (1 <<< ((nI i) &&& 31)))), (0, .ref (a 1)), (1, .int h)] hC dX3_peopleIn_28 rfl (ncast (nadd rfl (nl 1)) (by omega)) (by decide) rfl ?_
          refine V.goto (pc := 31) 4 hC dX3_peopleIn_31 (by decide) ?_
          exact V.sub [0, 1, 2, 3] rfl (ih (i + 1) (s ||| (1 <<< ((nI i) &&& 31))) (by omega) (run_next hv (by simp [b1, c_9, i_nle c_9, c_19])))
  exact V.sub [0, 1, 2, 3] rfl (loop_4 (nN (ρ 4)) 0 0 (by omega) rfl)
theorem pileOf_e {f : Rw} {r : List Int32} {x y : Int32} (e : x = y) (h : pileOf f r) : pileOf (upd f r.length y) (x :: r) := by subst e; exact pileOf_push rfl h
theorem cd_push {c ac wi : Int32} (h : cdR c ac wi) (e : ac = 1) : c = wi ∧ isN wi 9999 := by
  rcases h with h | h | h | h
  · exact h.2
  · exact absurd (e.symm.trans h.1.1) (by decide)
  · exact absurd (e.symm.trans h.1) (by decide)
  · exact absurd e (isOp_ne h.1).1
theorem cd_nam {c ac wi : Int32} (h : cdR c ac wi) (e : ac = 2) : c = -1 - wi ∧ isN wi 2 := by
  rcases h with h | h | h | h
  · exact absurd (e.symm.trans h.1) (by decide)
  · exact ⟨h.2, h.1.2⟩
  · exact absurd (e.symm.trans h.1) (by decide)
  · exact absurd e (isOp_ne h.1).2.1
theorem cd_dny {c ac wi : Int32} (h : cdR c ac wi) (e : ac = 3) : c = -33 := by
  rcases h with h | h | h | h
  · exact absurd (e.symm.trans h.1) (by decide)
  · exact absurd (e.symm.trans h.1.1) (by decide)
  · exact h.2
  · exact absurd e (isOp_ne h.1).2.2
theorem cd_op {c ac wi : Int32} (h : cdR c ac wi) (e1 : ¬ ac = 1) (e2 : ¬ ac = 2) (e3 : ¬ ac = 3) : c = -ac := by
  rcases h with h | h | h | h
  · exact absurd h.1 e1
  · exact absurd h.1.1 e2
  · exact absurd h.1 e3
  · exact h.2

set_option maxHeartbeats 4000000 in
set_option maxRecDepth 100000 in
theorem c_X0_gives_0 {l : Launch} {D : va_G} {k : Nat → ClassId} {g a : Nat → Nat} (σ ν : St) (ρ : Rw) (x y z : Int32) (hx : XL (σ 27) (σ 29) 0 ρ) (hI : Inv ρ) (hpos : 0 < nN (ρ (133 + 121 * 0))) : Ct l D k g yX0_gives cX0_gives 7 (some .int) 1 22 [.ref (a 27), .int x, .int y, .int z] (S := Rw) (wX k g a σ ν) (fun uu => wX k g a σ (va_up ν 31 uu)) (fun vv uu => vv = some (.int (ev (acS ρ 0) (wiS ρ 0) (fctS x y z) (nN (ρ (133 + 121 * 0))) 0 []))) := by
  refine Ct.ofI RX0 rfl (by decide +kernel) (Nat.le_of_ble_eq_true rfl) (fun X hC hR => ?_)
  have hb60 := hI.lb (u := 0) (by omega)
  show V X (wX k g a σ ν) [(0, .ref (a 27)), (1, .int x), (2, .int y), (3, .int z)] [] 0
  refine V.iconst (pc := 0) 0 hC dX0_gives_0 (by decide) ?_
  refine V.istore (pc := 1) [(4, .int 0), (0, .ref (a 27)), (1, .int x), (2, .int y), (3, .int z)] hC dX0_gives_1 (by decide) rfl ?_
  refine V.iconst (pc := 3) 0 hC dX0_gives_3 (by decide) ?_
  refine V.istore (pc := 4) [(5, .int 0), (4, .int 0), (0, .ref (a 27)), (1, .int x), (2, .int y), (3, .int z)] hC dX0_gives_4 (by decide) rfl ?_
  have loop_6 : ∀ (n : Nat) (i : Nat) (sk : List Int32) (f : Rw), i + n = nN (ρ (133 + 121 * 0)) → sk.length ≤ i → pileOf f sk → wfC (acS ρ 0) (wiS ρ 0) n i sk.length → ev (acS ρ 0) (wiS ρ 0) (fctS x y z) (nN (ρ (133 + 121 * 0))) 0 [] = ev (acS ρ 0) (wiS ρ 0) (fctS x y z) n i sk → V X (wX k g a σ (va_up ν 31 f)) [(0, .ref (a 27)), (1, .int x), (2, .int y), (3, .int z), (4, .int (nI sk.length)), (5, .int (nI i))] [] 6 := by
    intro n
    induction n with
    | zero =>
      intro i sk f hi hl hp hf hv
      refine V.iload (pc := 6) 5 hC dX0_gives_6 rfl ?_
      refine V.aload_n (pc := 8) 0 hC dX0_gives_8 rfl ?_
      refine V.get (pc := 9) (v := .int (σ 27 0)) hC cf_X0 18 2 fl_X0_24 (by decide) gx_18 rfl dX0_gives_9 ?_
      refine V.eqi (y := ρ (133 + 121 * 0)) (hx.1) ?_
      refine V.icmp_ge (pc := 12) 170 hC dX0_gives_12 (by decide) (fun c_12 => ?_) (fun c_12 => ?_)
      · have nc_12 : nN (ρ (133 + 121 * 0)) ≤ i := (nle (hI.ln (by omega)) rfl (by omega) (by omega)).mp c_12
        refine V.aload_n (pc := 170) 0 hC dX0_gives_170 rfl ?_
        refine V.get (pc := 171) (v := .ref (a 31)) hC cf_X0 18 1 fl_X0_15 (by decide) gx_18 rfl dX0_gives_171 ?_
        refine V.iconst (pc := 174) 0 hC dX0_gives_174 (by decide) ?_
        refine V.iald (pc := 175) (f := f) hC 22 0 gx_22 (nl 0) (by omega) (by decide) dX0_gives_175 ?_
        exact hR (f 0) (f) _ _ dX0_gives_176 rfl (ri (ev_end hf hp hv))
      · have nc_12 : ¬ (nN (ρ (133 + 121 * 0)) ≤ i) := fun z => c_12 ((nle (hI.ln (by omega)) rfl (by omega) (by omega)).mpr z)
        exfalso; omega
    | succ n ih =>
      intro i sk f hi hl hp hf hv
      refine V.iload (pc := 6) 5 hC dX0_gives_6 rfl ?_
      refine V.aload_n (pc := 8) 0 hC dX0_gives_8 rfl ?_
      refine V.get (pc := 9) (v := .int (σ 27 0)) hC cf_X0 18 2 fl_X0_24 (by decide) gx_18 rfl dX0_gives_9 ?_
      refine V.eqi (y := ρ (133 + 121 * 0)) (hx.1) ?_
      refine V.icmp_ge (pc := 12) 170 hC dX0_gives_12 (by decide) (fun c_12 => ?_) (fun c_12 => ?_)
      · have nc_12 : nN (ρ (133 + 121 * 0)) ≤ i := (nle (hI.ln (by omega)) rfl (by omega) (by omega)).mp c_12
        exfalso; omega
      · have nc_12 : ¬ (nN (ρ (133 + 121 * 0)) ≤ i) := fun z => c_12 ((nle (hI.ln (by omega)) rfl (by omega) (by omega)).mpr z)
        refine V.aload_n (pc := 15) 0 hC dX0_gives_15 rfl ?_
        refine V.get (pc := 16) (v := .ref (a 29)) hC cf_X0 18 0 fl_X0_9 (by decide) gx_18 rfl dX0_gives_16 ?_
        refine V.iload (pc := 19) 5 hC dX0_gives_19 rfl ?_
        refine V.iald (pc := 21) (f := σ 29) hC 20 i gx_20 rfl (by omega) (by decide) dX0_gives_21 ?_
        by_cases e1 : (acS ρ 0) i = 1
        · have hcw := cd_push (hx.2 i (by omega)) e1
          have hwi : (wiS ρ 0) i = nI (nN ((wiS ρ 0) i)) := hcw.2.1
          have hk2 : ¬ (nI (nN ((wiS ρ 0) i))) < 0 := nI_pos (by have := hcw.2.2; omega)
          have hk1 : ¬ (nI (nN ((wiS ρ 0) i))) < (-3) := fun z => hk2 (Int32.lt_trans z (by decide))
          refine V.eqi (y := nI (nN ((wiS ρ 0) i))) (hcw.1.trans hwi) ?_
          refine V.istore (pc := 22) [(6, .int (nI (nN ((wiS ρ 0) i)))), (0, .ref (a 27)), (1, .int x), (2, .int y), (3, .int z), (4, .int (nI sk.length)), (5, .int (nI i))] hC dX0_gives_22 (by decide) rfl ?_
          refine V.iload (pc := 24) 0 hC dX0_gives_24 rfl ?_
          refine V.bipush (pc := 26) (-3) hC dX0_gives_26 (by decide) ?_
          refine V.icmp_lt (pc := 28) 83 hC dX0_gives_28 (by decide) (fun c_28 => ?_) (fun c_28 => ?_)
          · exact absurd c_28 hk1
          · refine V.iload (pc := 31) 5 hC dX0_gives_31 rfl ?_
            refine V.bipush (pc := 33) 60 hC dX0_gives_33 (by decide) ?_
            refine V.icmp_ge (pc := 35) 83 hC dX0_gives_35 (by decide) (fun c_35 => ?_) (fun c_35 => ?_)
            · have nc_35 : 60 ≤ sk.length := (nle (nl 60) rfl (by omega) (by omega)).mp c_35
              exfalso; omega
            · have nc_35 : ¬ (60 ≤ sk.length) := fun z => c_35 ((nle (nl 60) rfl (by omega) (by omega)).mpr z)
              refine V.aload_n (pc := 38) 1 hC dX0_gives_38 rfl ?_
              refine V.get (pc := 39) (v := .ref (a 31)) hC cf_X0 18 1 fl_X0_15 (by decide) gx_18 rfl dX0_gives_39 ?_
              refine V.iload (pc := 42) 5 hC dX0_gives_42 rfl ?_
              refine V.iload (pc := 44) 0 hC dX0_gives_44 rfl ?_
              refine V.if_lt (pc := 46) 54 hC dX0_gives_46 (by decide) (fun c_46 => ?_) (fun c_46 => ?_)
              · exact absurd c_46 hk2
              · refine V.iload (pc := 49) 0 hC dX0_gives_49 rfl ?_
                refine V.goto (pc := 51) 76 hC dX0_gives_51 (by decide) ?_
                refine V.iast (pc := 76) (f := f) hC 22 sk.length (wX k g a σ (va_up ν 31 (upd f sk.length (nI (nN ((wiS ρ 0) i)))))) gx_22 rfl (by omega) (by decide) rfl dX0_gives_76 ?_
                refine V.iinc (pc := 77) 5 (nI (sk.length + 1)) [(4, .int (nI (sk.length + 1))), (6, .int (nI (nN ((wiS ρ 0) i)))), (0, .ref (a 27)), (1, .int x), (2, .int y), (3, .int z), (5, .int (nI i))] hC dX0_gives_77 rfl (ncast (nadd rfl (nl 1)) (by omega)) (by decide) rfl ?_
                refine V.goto (pc := 80) 164 hC dX0_gives_80 (by decide) ?_
                refine V.iinc (pc := 164) 6 (nI (i + 1)) [(5, .int (nI (i + 1))), (4, .int (nI (sk.length + 1))), (6, .int (nI (nN ((wiS ρ 0) i)))), (0, .ref (a 27)), (1, .int x), (2, .int y), (3, .int z)] hC dX0_gives_164 rfl (ncast (nadd rfl (nl 1)) (by omega)) (by decide) rfl ?_
                refine V.goto (pc := 167) 6 hC dX0_gives_167 (by decide) ?_
                exact V.sub [3, 4, 5, 6, 1, 0] rfl (ih (i + 1) ((wiS ρ 0) i :: sk) (upd f sk.length (nI (nN ((wiS ρ 0) i)))) (by omega) (by simp only [List.length_cons]; omega) (pileOf_e hwi hp) (wf_push hf e1) (hv.trans (ev_push e1)))
        · by_cases e2 : (acS ρ 0) i = 2
          · by_cases e20 : (wiS ρ 0) i = 0
            · have hnm : (fctS x y z) (nN ((wiS ρ 0) i)) = x := by rw [e20]; rfl
              refine V.eqi (y := (-1)) ((cd_nam (hx.2 i (by omega)) e2).1.trans (by rw [e20]; rfl)) ?_
              refine V.istore (pc := 22) [(6, .int (-1)), (0, .ref (a 27)), (1, .int x), (2, .int y), (3, .int z), (4, .int (nI sk.length)), (5, .int (nI i))] hC dX0_gives_22 (by decide) rfl ?_
              refine V.iload (pc := 24) 0 hC dX0_gives_24 rfl ?_
              refine V.bipush (pc := 26) (-3) hC dX0_gives_26 (by decide) ?_
              refine V.icmp_lt (pc := 28) 83 hC dX0_gives_28 (by decide) (fun c_28 => ?_) (fun c_28 => ?_)
              · exact absurd c_28 (by decide)
              · refine V.iload (pc := 31) 5 hC dX0_gives_31 rfl ?_
                refine V.bipush (pc := 33) 60 hC dX0_gives_33 (by decide) ?_
                refine V.icmp_ge (pc := 35) 83 hC dX0_gives_35 (by decide) (fun c_35 => ?_) (fun c_35 => ?_)
                · have nc_35 : 60 ≤ sk.length := (nle (nl 60) rfl (by omega) (by omega)).mp c_35
                  exfalso; omega
                · have nc_35 : ¬ (60 ≤ sk.length) := fun z => c_35 ((nle (nl 60) rfl (by omega) (by omega)).mpr z)
                  refine V.aload_n (pc := 38) 1 hC dX0_gives_38 rfl ?_
                  refine V.get (pc := 39) (v := .ref (a 31)) hC cf_X0 18 1 fl_X0_15 (by decide) gx_18 rfl dX0_gives_39 ?_
                  refine V.iload (pc := 42) 5 hC dX0_gives_42 rfl ?_
                  refine V.iload (pc := 44) 0 hC dX0_gives_44 rfl ?_
                  refine V.if_lt (pc := 46) 54 hC dX0_gives_46 (by decide) (fun c_46 => ?_) (fun c_46 => ?_)
                  · refine V.iload (pc := 54) 0 hC dX0_gives_54 rfl ?_
                    refine V.iconst (pc := 56) (-1) hC dX0_gives_56 (by decide) ?_
                    refine V.icmp_ne (pc := 57) 64 hC dX0_gives_57 (by decide) (fun c_57 => ?_) (fun c_57 => ?_)
                    · exact absurd c_57 (by decide)
                    · refine V.iload_n (pc := 60) 2 hC dX0_gives_60 rfl ?_
                      refine V.goto (pc := 61) 76 hC dX0_gives_61 (by decide) ?_
                      refine V.iast (pc := 76) (f := f) hC 22 sk.length (wX k g a σ (va_up ν 31 (upd f sk.length x))) gx_22 rfl (by omega) (by decide) rfl dX0_gives_76 ?_
                      refine V.iinc (pc := 77) 5 (nI (sk.length + 1)) [(4, .int (nI (sk.length + 1))), (6, .int (-1)), (0, .ref (a 27)), (1, .int x), (2, .int y), (3, .int z), (5, .int (nI i))] hC dX0_gives_77 rfl (ncast (nadd rfl (nl 1)) (by omega)) (by decide) rfl ?_
                      refine V.goto (pc := 80) 164 hC dX0_gives_80 (by decide) ?_
                      refine V.iinc (pc := 164) 6 (nI (i + 1)) [(5, .int (nI (i + 1))), (4, .int (nI (sk.length + 1))), (6, .int (-1)), (0, .ref (a 27)), (1, .int x), (2, .int y), (3, .int z)] hC dX0_gives_164 rfl (ncast (nadd rfl (nl 1)) (by omega)) (by decide) rfl ?_
                      refine V.goto (pc := 167) 6 hC dX0_gives_167 (by decide) ?_
                      exact V.sub [3, 4, 5, 6, 1, 0] rfl (ih (i + 1) ((fctS x y z) (nN ((wiS ρ 0) i)) :: sk) (upd f sk.length x) (by omega) (by simp only [List.length_cons]; omega) (by rw [hnm]; exact pileOf_push rfl hp) (wf_nam hf e2).2 (hv.trans (ev_nam e2)))
                  · exact absurd c_46 (by decide)
            · by_cases e21 : (wiS ρ 0) i = 1
              · have hnm : (fctS x y z) (nN ((wiS ρ 0) i)) = y := by rw [e21]; rfl
                refine V.eqi (y := (-2)) ((cd_nam (hx.2 i (by omega)) e2).1.trans (by rw [e21]; rfl)) ?_
                refine V.istore (pc := 22) [(6, .int (-2)), (0, .ref (a 27)), (1, .int x), (2, .int y), (3, .int z), (4, .int (nI sk.length)), (5, .int (nI i))] hC dX0_gives_22 (by decide) rfl ?_
                refine V.iload (pc := 24) 0 hC dX0_gives_24 rfl ?_
                refine V.bipush (pc := 26) (-3) hC dX0_gives_26 (by decide) ?_
                refine V.icmp_lt (pc := 28) 83 hC dX0_gives_28 (by decide) (fun c_28 => ?_) (fun c_28 => ?_)
                · exact absurd c_28 (by decide)
                · refine V.iload (pc := 31) 5 hC dX0_gives_31 rfl ?_
                  refine V.bipush (pc := 33) 60 hC dX0_gives_33 (by decide) ?_
                  refine V.icmp_ge (pc := 35) 83 hC dX0_gives_35 (by decide) (fun c_35 => ?_) (fun c_35 => ?_)
                  · have nc_35 : 60 ≤ sk.length := (nle (nl 60) rfl (by omega) (by omega)).mp c_35
                    exfalso; omega
                  · have nc_35 : ¬ (60 ≤ sk.length) := fun z => c_35 ((nle (nl 60) rfl (by omega) (by omega)).mpr z)
                    refine V.aload_n (pc := 38) 1 hC dX0_gives_38 rfl ?_
                    refine V.get (pc := 39) (v := .ref (a 31)) hC cf_X0 18 1 fl_X0_15 (by decide) gx_18 rfl dX0_gives_39 ?_
                    refine V.iload (pc := 42) 5 hC dX0_gives_42 rfl ?_
                    refine V.iload (pc := 44) 0 hC dX0_gives_44 rfl ?_
                    refine V.if_lt (pc := 46) 54 hC dX0_gives_46 (by decide) (fun c_46 => ?_) (fun c_46 => ?_)
                    · refine V.iload (pc := 54) 0 hC dX0_gives_54 rfl ?_
                      refine V.iconst (pc := 56) (-1) hC dX0_gives_56 (by decide) ?_
                      refine V.icmp_ne (pc := 57) 64 hC dX0_gives_57 (by decide) (fun c_57 => ?_) (fun c_57 => ?_)
                      · refine V.iload (pc := 64) 0 hC dX0_gives_64 rfl ?_
                        refine V.bipush (pc := 66) (-3) hC dX0_gives_66 (by decide) ?_
                        refine V.icmp_ne (pc := 68) 75 hC dX0_gives_68 (by decide) (fun c_68 => ?_) (fun c_68 => ?_)
                        · refine V.iload_n (pc := 75) 3 hC dX0_gives_75 rfl ?_
                          refine V.iast (pc := 76) (f := f) hC 22 sk.length (wX k g a σ (va_up ν 31 (upd f sk.length y))) gx_22 rfl (by omega) (by decide) rfl dX0_gives_76 ?_
                          refine V.iinc (pc := 77) 5 (nI (sk.length + 1)) [(4, .int (nI (sk.length + 1))), (6, .int (-2)), (0, .ref (a 27)), (1, .int x), (2, .int y), (3, .int z), (5, .int (nI i))] hC dX0_gives_77 rfl (ncast (nadd rfl (nl 1)) (by omega)) (by decide) rfl ?_
                          refine V.goto (pc := 80) 164 hC dX0_gives_80 (by decide) ?_
                          refine V.iinc (pc := 164) 6 (nI (i + 1)) [(5, .int (nI (i + 1))), (4, .int (nI (sk.length + 1))), (6, .int (-2)), (0, .ref (a 27)), (1, .int x), (2, .int y), (3, .int z)] hC dX0_gives_164 rfl (ncast (nadd rfl (nl 1)) (by omega)) (by decide) rfl ?_
                          refine V.goto (pc := 167) 6 hC dX0_gives_167 (by decide) ?_
                          exact V.sub [3, 4, 5, 6, 1, 0] rfl (ih (i + 1) ((fctS x y z) (nN ((wiS ρ 0) i)) :: sk) (upd f sk.length y) (by omega) (by simp only [List.length_cons]; omega) (by rw [hnm]; exact pileOf_push rfl hp) (wf_nam hf e2).2 (hv.trans (ev_nam e2)))
                        · exact absurd c_68 (by decide)
                      · exact absurd c_57 (by decide)
                    · exact absurd c_46 (by decide)
              · have e22 : (wiS ρ 0) i = 2 := by have h9 := (cd_nam (hx.2 i (by omega)) e2).2; rw [h9.1, show nN ((wiS ρ 0) i) = 2 by have q0 : ¬ nN ((wiS ρ 0) i) = 0 := fun q => e20 (by rw [h9.1, q]; rfl); have q1 : ¬ nN ((wiS ρ 0) i) = 1 := fun q => e21 (by rw [h9.1, q]; rfl); have := h9.2; omega]; rfl
                have hnm : (fctS x y z) (nN ((wiS ρ 0) i)) = z := by rw [e22]; rfl
                refine V.eqi (y := (-3)) ((cd_nam (hx.2 i (by omega)) e2).1.trans (by rw [e22]; rfl)) ?_
                refine V.istore (pc := 22) [(6, .int (-3)), (0, .ref (a 27)), (1, .int x), (2, .int y), (3, .int z), (4, .int (nI sk.length)), (5, .int (nI i))] hC dX0_gives_22 (by decide) rfl ?_
                refine V.iload (pc := 24) 0 hC dX0_gives_24 rfl ?_
                refine V.bipush (pc := 26) (-3) hC dX0_gives_26 (by decide) ?_
                refine V.icmp_lt (pc := 28) 83 hC dX0_gives_28 (by decide) (fun c_28 => ?_) (fun c_28 => ?_)
                · exact absurd c_28 (by decide)
                · refine V.iload (pc := 31) 5 hC dX0_gives_31 rfl ?_
                  refine V.bipush (pc := 33) 60 hC dX0_gives_33 (by decide) ?_
                  refine V.icmp_ge (pc := 35) 83 hC dX0_gives_35 (by decide) (fun c_35 => ?_) (fun c_35 => ?_)
                  · have nc_35 : 60 ≤ sk.length := (nle (nl 60) rfl (by omega) (by omega)).mp c_35
                    exfalso; omega
                  · have nc_35 : ¬ (60 ≤ sk.length) := fun z => c_35 ((nle (nl 60) rfl (by omega) (by omega)).mpr z)
                    refine V.aload_n (pc := 38) 1 hC dX0_gives_38 rfl ?_
                    refine V.get (pc := 39) (v := .ref (a 31)) hC cf_X0 18 1 fl_X0_15 (by decide) gx_18 rfl dX0_gives_39 ?_
                    refine V.iload (pc := 42) 5 hC dX0_gives_42 rfl ?_
                    refine V.iload (pc := 44) 0 hC dX0_gives_44 rfl ?_
                    refine V.if_lt (pc := 46) 54 hC dX0_gives_46 (by decide) (fun c_46 => ?_) (fun c_46 => ?_)
                    · refine V.iload (pc := 54) 0 hC dX0_gives_54 rfl ?_
                      refine V.iconst (pc := 56) (-1) hC dX0_gives_56 (by decide) ?_
                      refine V.icmp_ne (pc := 57) 64 hC dX0_gives_57 (by decide) (fun c_57 => ?_) (fun c_57 => ?_)
                      · refine V.iload (pc := 64) 0 hC dX0_gives_64 rfl ?_
                        refine V.bipush (pc := 66) (-3) hC dX0_gives_66 (by decide) ?_
                        refine V.icmp_ne (pc := 68) 75 hC dX0_gives_68 (by decide) (fun c_68 => ?_) (fun c_68 => ?_)
                        · exact absurd c_68 (by decide)
                        · refine V.iload_n (pc := 71) 4 hC dX0_gives_71 rfl ?_
                          refine V.goto (pc := 72) 76 hC dX0_gives_72 (by decide) ?_
                          refine V.iast (pc := 76) (f := f) hC 22 sk.length (wX k g a σ (va_up ν 31 (upd f sk.length z))) gx_22 rfl (by omega) (by decide) rfl dX0_gives_76 ?_
                          refine V.iinc (pc := 77) 5 (nI (sk.length + 1)) [(4, .int (nI (sk.length + 1))), (6, .int (-3)), (0, .ref (a 27)), (1, .int x), (2, .int y), (3, .int z), (5, .int (nI i))] hC dX0_gives_77 rfl (ncast (nadd rfl (nl 1)) (by omega)) (by decide) rfl ?_
                          refine V.goto (pc := 80) 164 hC dX0_gives_80 (by decide) ?_
                          refine V.iinc (pc := 164) 6 (nI (i + 1)) [(5, .int (nI (i + 1))), (4, .int (nI (sk.length + 1))), (6, .int (-3)), (0, .ref (a 27)), (1, .int x), (2, .int y), (3, .int z)] hC dX0_gives_164 rfl (ncast (nadd rfl (nl 1)) (by omega)) (by decide) rfl ?_
                          refine V.goto (pc := 167) 6 hC dX0_gives_167 (by decide) ?_
                          exact V.sub [3, 4, 5, 6, 1, 0] rfl (ih (i + 1) ((fctS x y z) (nN ((wiS ρ 0) i)) :: sk) (upd f sk.length z) (by omega) (by simp only [List.length_cons]; omega) (by rw [hnm]; exact pileOf_push rfl hp) (wf_nam hf e2).2 (hv.trans (ev_nam e2)))
                      · exact absurd c_57 (by decide)
                    · exact absurd c_46 (by decide)
          · by_cases e3 : (acS ρ 0) i = 3
            · refine V.eqi (y := (-33)) (cd_dny (hx.2 i (by omega)) e3) ?_
              obtain ⟨x9, r9, e9⟩ := len_1 (wf_dny hf e3).1
              have hlen : sk.length = r9.length + 1 := by rw [e9]; rfl
              refine V.istore (pc := 22) [(6, .int (-33)), (0, .ref (a 27)), (1, .int x), (2, .int y), (3, .int z), (4, .int (nI sk.length)), (5, .int (nI i))] hC dX0_gives_22 (by decide) rfl ?_
              refine V.iload (pc := 24) 0 hC dX0_gives_24 rfl ?_
              refine V.bipush (pc := 26) (-3) hC dX0_gives_26 (by decide) ?_
              refine V.icmp_lt (pc := 28) 83 hC dX0_gives_28 (by decide) (fun c_28 => ?_) (fun c_28 => ?_)
              · refine V.iload (pc := 83) 0 hC dX0_gives_83 rfl ?_
                refine V.bipush (pc := 85) (-33) hC dX0_gives_85 (by decide) ?_
                refine V.icmp_ne (pc := 87) 124 hC dX0_gives_87 (by decide) (fun c_87 => ?_) (fun c_87 => ?_)
                · exact absurd c_87 (by decide)
                · refine V.iload (pc := 90) 5 hC dX0_gives_90 rfl ?_
                  refine V.if_le (pc := 92) 124 hC dX0_gives_92 (by decide) (fun c_92 => ?_) (fun c_92 => ?_)
                  · have nc_92 : sk.length ≤ 0 := (nle rfl (nl 0) (by omega) (by omega)).mp c_92
                    exfalso; omega
                  · have nc_92 : ¬ (sk.length ≤ 0) := fun z => c_92 ((nle rfl (nl 0) (by omega) (by omega)).mpr z)
                    refine V.aload_n (pc := 95) 1 hC dX0_gives_95 rfl ?_
                    refine V.get (pc := 96) (v := .ref (a 31)) hC cf_X0 18 1 fl_X0_15 (by decide) gx_18 rfl dX0_gives_96 ?_
                    refine V.iload (pc := 99) 5 hC dX0_gives_99 rfl ?_
                    refine V.iconst (pc := 101) 1 hC dX0_gives_101 (by decide) ?_
                    refine V.isub (pc := 102) hC dX0_gives_102 ?_
                    refine V.aload_n (pc := 103) 1 hC dX0_gives_103 rfl ?_
                    refine V.get (pc := 104) (v := .ref (a 31)) hC cf_X0 18 1 fl_X0_15 (by decide) gx_18 rfl dX0_gives_104 ?_
                    refine V.iload (pc := 107) 5 hC dX0_gives_107 rfl ?_
                    refine V.iconst (pc := 109) 1 hC dX0_gives_109 (by decide) ?_
                    refine V.isub (pc := 110) hC dX0_gives_110 ?_
                    refine V.iald (pc := 111) (f := f) hC 22 (r9.length) gx_22 (ncast (nsub rfl (nl 1) (by omega)) (by omega)) (by omega) (by decide) dX0_gives_111 ?_
                    refine V.if_ne (pc := 112) 119 hC dX0_gives_112 (by decide) (fun c_112 => ?_) (fun c_112 => ?_)
                    · refine V.iconst (pc := 119) 0 hC dX0_gives_119 (by decide) ?_
                      refine V.iast (pc := 120) (f := f) hC 22 (r9.length) (wX k g a σ (va_up ν 31 (upd f (r9.length) 0))) gx_22 (ncast (nsub rfl (nl 1) (by omega)) (by omega)) (by omega) (by decide) rfl dX0_gives_120 ?_
                      refine V.goto (pc := 121) 164 hC dX0_gives_121 (by decide) ?_
                      refine V.iinc (pc := 164) 6 (nI (i + 1)) [(5, .int (nI (i + 1))), (6, .int (-33)), (0, .ref (a 27)), (1, .int x), (2, .int y), (3, .int z), (4, .int (nI sk.length))] hC dX0_gives_164 rfl (ncast (nadd rfl (nl 1)) (by omega)) (by decide) rfl ?_
                      refine V.goto (pc := 167) 6 hC dX0_gives_167 (by decide) ?_
                      subst e9
                      exact V.sub [2, 3, 4, 5, 6, 0] rfl (ih (i + 1) (dnyS x9 :: r9) (upd f (r9.length) 0) (by omega) (by simp only [List.length_cons] at hl ⊢; omega) (by rw [show dnyS x9 = 0 from by rw [dnyS, if_neg (fun z => c_112 (hp.1.trans z))]]; exact pileOf_push rfl hp.2) (wf_dny hf e3).2 (hv.trans (ev_dny e3)))
                    · refine V.iconst (pc := 115) 1 hC dX0_gives_115 (by decide) ?_
                      refine V.goto (pc := 116) 120 hC dX0_gives_116 (by decide) ?_
                      refine V.iast (pc := 120) (f := f) hC 22 (r9.length) (wX k g a σ (va_up ν 31 (upd f (r9.length) 1))) gx_22 (ncast (nsub rfl (nl 1) (by omega)) (by omega)) (by omega) (by decide) rfl dX0_gives_120 ?_
                      refine V.goto (pc := 121) 164 hC dX0_gives_121 (by decide) ?_
                      refine V.iinc (pc := 164) 6 (nI (i + 1)) [(5, .int (nI (i + 1))), (6, .int (-33)), (0, .ref (a 27)), (1, .int x), (2, .int y), (3, .int z), (4, .int (nI sk.length))] hC dX0_gives_164 rfl (ncast (nadd rfl (nl 1)) (by omega)) (by decide) rfl ?_
                      refine V.goto (pc := 167) 6 hC dX0_gives_167 (by decide) ?_
                      subst e9
                      exact V.sub [2, 3, 4, 5, 6, 0] rfl (ih (i + 1) (dnyS x9 :: r9) (upd f (r9.length) 1) (by omega) (by simp only [List.length_cons] at hl ⊢; omega) (by rw [show dnyS x9 = 1 from by rw [dnyS, if_pos (hp.1.symm.trans c_112)]]; exact pileOf_push rfl hp.2) (wf_dny hf e3).2 (hv.trans (ev_dny e3)))
              · exact absurd c_28 (by decide)
            · have hop := wf_op hf e1 e2 e3
              have hk := op_neg hop.1
              refine V.eqi (y := -((acS ρ 0) i)) (cd_op (hx.2 i (by omega)) e1 e2 e3) ?_
              obtain ⟨y9, x9, r9, e9⟩ := len_2 hop.2.1
              have hlen : sk.length = r9.length + 2 := by rw [e9]; rfl
              refine V.istore (pc := 22) [(6, .int (-((acS ρ 0) i))), (0, .ref (a 27)), (1, .int x), (2, .int y), (3, .int z), (4, .int (nI sk.length)), (5, .int (nI i))] hC dX0_gives_22 (by decide) rfl ?_
              refine V.iload (pc := 24) 0 hC dX0_gives_24 rfl ?_
              refine V.bipush (pc := 26) (-3) hC dX0_gives_26 (by decide) ?_
              refine V.icmp_lt (pc := 28) 83 hC dX0_gives_28 (by decide) (fun c_28 => ?_) (fun c_28 => ?_)
              · refine V.iload (pc := 83) 0 hC dX0_gives_83 rfl ?_
                refine V.bipush (pc := 85) (-33) hC dX0_gives_85 (by decide) ?_
                refine V.icmp_ne (pc := 87) 124 hC dX0_gives_87 (by decide) (fun c_87 => ?_) (fun c_87 => ?_)
                · refine V.iload (pc := 124) 5 hC dX0_gives_124 rfl ?_
                  refine V.iconst (pc := 126) 1 hC dX0_gives_126 (by decide) ?_
                  refine V.icmp_le (pc := 127) 164 hC dX0_gives_127 (by decide) (fun c_127 => ?_) (fun c_127 => ?_)
                  · have nc_127 : sk.length ≤ 1 := (nle rfl (nl 1) (by omega) (by omega)).mp c_127
                    exfalso; omega
                  · have nc_127 : ¬ (sk.length ≤ 1) := fun z => c_127 ((nle rfl (nl 1) (by omega) (by omega)).mpr z)
                    refine V.iinc (pc := 130) 5 (nI (r9.length + 1)) [(4, .int (nI (r9.length + 1))), (6, .int (-((acS ρ 0) i))), (0, .ref (a 27)), (1, .int x), (2, .int y), (3, .int z), (5, .int (nI i))] hC dX0_gives_130 rfl (by rw [hlen]; exact pk_m1 (r9.length + 1)) (by decide) rfl ?_
                    refine V.aload_n (pc := 133) 2 hC dX0_gives_133 rfl ?_
                    refine V.get (pc := 134) (v := .ref (a 31)) hC cf_X0 18 1 fl_X0_15 (by decide) gx_18 rfl dX0_gives_134 ?_
                    refine V.iload (pc := 137) 0 hC dX0_gives_137 rfl ?_
                    refine V.iconst (pc := 139) 1 hC dX0_gives_139 (by decide) ?_
                    refine V.isub (pc := 140) hC dX0_gives_140 ?_
                    refine V.iload (pc := 141) 1 hC dX0_gives_141 rfl ?_
                    refine V.ineg (pc := 143) hC dX0_gives_143 ?_
                    refine V.eqi (y := (acS ρ 0) i) neg_neg_i ?_
                    refine V.aload_n (pc := 144) 2 hC dX0_gives_144 rfl ?_
                    refine V.get (pc := 145) (v := .ref (a 31)) hC cf_X0 18 1 fl_X0_15 (by decide) gx_18 rfl dX0_gives_145 ?_
                    refine V.iload (pc := 148) 0 hC dX0_gives_148 rfl ?_
                    refine V.iconst (pc := 150) 1 hC dX0_gives_150 (by decide) ?_
                    refine V.isub (pc := 151) hC dX0_gives_151 ?_
                    refine V.iald (pc := 152) (f := f) hC 22 (r9.length) gx_22 (ncast (nsub rfl (nl 1) (by omega)) (by omega)) (by omega) (by decide) dX0_gives_152 ?_
                    refine V.aload_n (pc := 153) 2 hC dX0_gives_153 rfl ?_
                    refine V.get (pc := 154) (v := .ref (a 31)) hC cf_X0 18 1 fl_X0_15 (by decide) gx_18 rfl dX0_gives_154 ?_
                    refine V.iload (pc := 157) 0 hC dX0_gives_157 rfl ?_
                    refine V.iald (pc := 159) (f := f) hC 22 (r9.length + 1) gx_22 rfl (by omega) (by decide) dX0_gives_159 ?_
                    refine V.callS0 (pc := 160) (as := [.int ((acS ρ 0) i), .int (f (r9.length)), .int (f (r9.length + 1))]) hC (c_X0_join ((acS ρ 0) i) (f (r9.length)) (f (r9.length + 1)) hop.1) ms_X0_join ml_X0_28 (by decide) rfl (Nat.le_of_ble_eq_true rfl) dX0_gives_160 ?_
                    rintro _ _ rfl
                    show V X (wX k g a σ (va_up ν 31 f)) [(4, .int (nI (r9.length + 1))), (6, .int (-((acS ρ 0) i))), (0, .ref (a 27)), (1, .int x), (2, .int y), (3, .int z), (5, .int (nI i))] [.int (twoS ((acS ρ 0) i) (f (r9.length)) (f (r9.length + 1))), .int ((nI (r9.length + 1)) - 1), .ref (a 31)] 163
                    refine V.iast (pc := 163) (f := f) hC 22 (r9.length) (wX k g a σ (va_up ν 31 (upd f (r9.length) (twoS ((acS ρ 0) i) (f (r9.length)) (f (r9.length + 1)))))) gx_22 (ncast (nsub rfl (nl 1) (by omega)) (by omega)) (by omega) (by decide) rfl dX0_gives_163 ?_
                    refine V.iinc (pc := 164) 6 (nI (i + 1)) [(5, .int (nI (i + 1))), (4, .int (nI (r9.length + 1))), (6, .int (-((acS ρ 0) i))), (0, .ref (a 27)), (1, .int x), (2, .int y), (3, .int z)] hC dX0_gives_164 rfl (ncast (nadd rfl (nl 1)) (by omega)) (by decide) rfl ?_
                    refine V.goto (pc := 167) 6 hC dX0_gives_167 (by decide) ?_
                    subst e9
                    exact V.sub [3, 4, 5, 6, 1, 0] rfl (ih (i + 1) (twoS ((acS ρ 0) i) x9 y9 :: r9) (upd f (r9.length) (twoS ((acS ρ 0) i) (f (r9.length)) (f (r9.length + 1)))) (by omega) (by simp only [List.length_cons] at hl ⊢; omega) (by rw [← hp.1, ← hp.2.1]; exact pileOf_push rfl hp.2.2) (wf_op hf e1 e2 e3).2.2 (hv.trans (ev_op e1 e2 e3)))
                · exact absurd c_87 hk.2
              · exact absurd hk.1 c_28
  exact V.sub [2, 3, 4, 5, 1, 0] rfl (loop_6 (nN (ρ (133 + 121 * 0))) 0 [] (ν 31) (by omega) (Nat.le_refl 0) trivial (hI.lw (by omega) hpos) rfl)
set_option maxHeartbeats 4000000 in
set_option maxRecDepth 100000 in
theorem c_X0_gives_1 {l : Launch} {D : va_G} {k : Nat → ClassId} {g a : Nat → Nat} (σ ν : St) (ρ : Rw) (x y z : Int32) (hx : XL (σ 28) (σ 30) 1 ρ) (hI : Inv ρ) (hpos : 0 < nN (ρ (133 + 121 * 1))) : Ct l D k g yX0_gives cX0_gives 7 (some .int) 1 22 [.ref (a 28), .int x, .int y, .int z] (S := Rw) (wX k g a σ ν) (fun uu => wX k g a σ (va_up ν 32 uu)) (fun vv uu => vv = some (.int (ev (acS ρ 1) (wiS ρ 1) (fctS x y z) (nN (ρ (133 + 121 * 1))) 0 []))) := by
  refine Ct.ofI RX0 rfl (by decide +kernel) (Nat.le_of_ble_eq_true rfl) (fun X hC hR => ?_)
  have hb60 := hI.lb (u := 1) (by omega)
  show V X (wX k g a σ ν) [(0, .ref (a 28)), (1, .int x), (2, .int y), (3, .int z)] [] 0
  refine V.iconst (pc := 0) 0 hC dX0_gives_0 (by decide) ?_
  refine V.istore (pc := 1) [(4, .int 0), (0, .ref (a 28)), (1, .int x), (2, .int y), (3, .int z)] hC dX0_gives_1 (by decide) rfl ?_
  refine V.iconst (pc := 3) 0 hC dX0_gives_3 (by decide) ?_
  refine V.istore (pc := 4) [(5, .int 0), (4, .int 0), (0, .ref (a 28)), (1, .int x), (2, .int y), (3, .int z)] hC dX0_gives_4 (by decide) rfl ?_
  have loop_6 : ∀ (n : Nat) (i : Nat) (sk : List Int32) (f : Rw), i + n = nN (ρ (133 + 121 * 1)) → sk.length ≤ i → pileOf f sk → wfC (acS ρ 1) (wiS ρ 1) n i sk.length → ev (acS ρ 1) (wiS ρ 1) (fctS x y z) (nN (ρ (133 + 121 * 1))) 0 [] = ev (acS ρ 1) (wiS ρ 1) (fctS x y z) n i sk → V X (wX k g a σ (va_up ν 32 f)) [(0, .ref (a 28)), (1, .int x), (2, .int y), (3, .int z), (4, .int (nI sk.length)), (5, .int (nI i))] [] 6 := by
    intro n
    induction n with
    | zero =>
      intro i sk f hi hl hp hf hv
      refine V.iload (pc := 6) 5 hC dX0_gives_6 rfl ?_
      refine V.aload_n (pc := 8) 0 hC dX0_gives_8 rfl ?_
      refine V.get (pc := 9) (v := .int (σ 28 0)) hC cf_X0 19 2 fl_X0_24 (by decide) gx_19 rfl dX0_gives_9 ?_
      refine V.eqi (y := ρ (133 + 121 * 1)) (hx.1) ?_
      refine V.icmp_ge (pc := 12) 170 hC dX0_gives_12 (by decide) (fun c_12 => ?_) (fun c_12 => ?_)
      · have nc_12 : nN (ρ (133 + 121 * 1)) ≤ i := (nle (hI.ln (by omega)) rfl (by omega) (by omega)).mp c_12
        refine V.aload_n (pc := 170) 0 hC dX0_gives_170 rfl ?_
        refine V.get (pc := 171) (v := .ref (a 32)) hC cf_X0 19 1 fl_X0_15 (by decide) gx_19 rfl dX0_gives_171 ?_
        refine V.iconst (pc := 174) 0 hC dX0_gives_174 (by decide) ?_
        refine V.iald (pc := 175) (f := f) hC 23 0 gx_23 (nl 0) (by omega) (by decide) dX0_gives_175 ?_
        exact hR (f 0) (f) _ _ dX0_gives_176 rfl (ri (ev_end hf hp hv))
      · have nc_12 : ¬ (nN (ρ (133 + 121 * 1)) ≤ i) := fun z => c_12 ((nle (hI.ln (by omega)) rfl (by omega) (by omega)).mpr z)
        exfalso; omega
    | succ n ih =>
      intro i sk f hi hl hp hf hv
      refine V.iload (pc := 6) 5 hC dX0_gives_6 rfl ?_
      refine V.aload_n (pc := 8) 0 hC dX0_gives_8 rfl ?_
      refine V.get (pc := 9) (v := .int (σ 28 0)) hC cf_X0 19 2 fl_X0_24 (by decide) gx_19 rfl dX0_gives_9 ?_
      refine V.eqi (y := ρ (133 + 121 * 1)) (hx.1) ?_
      refine V.icmp_ge (pc := 12) 170 hC dX0_gives_12 (by decide) (fun c_12 => ?_) (fun c_12 => ?_)
      · have nc_12 : nN (ρ (133 + 121 * 1)) ≤ i := (nle (hI.ln (by omega)) rfl (by omega) (by omega)).mp c_12
        exfalso; omega
      · have nc_12 : ¬ (nN (ρ (133 + 121 * 1)) ≤ i) := fun z => c_12 ((nle (hI.ln (by omega)) rfl (by omega) (by omega)).mpr z)
        refine V.aload_n (pc := 15) 0 hC dX0_gives_15 rfl ?_
        refine V.get (pc := 16) (v := .ref (a 30)) hC cf_X0 19 0 fl_X0_9 (by decide) gx_19 rfl dX0_gives_16 ?_
        refine V.iload (pc := 19) 5 hC dX0_gives_19 rfl ?_
        refine V.iald (pc := 21) (f := σ 30) hC 21 i gx_21 rfl (by omega) (by decide) dX0_gives_21 ?_
        by_cases e1 : (acS ρ 1) i = 1
        · have hcw := cd_push (hx.2 i (by omega)) e1
          have hwi : (wiS ρ 1) i = nI (nN ((wiS ρ 1) i)) := hcw.2.1
          have hk2 : ¬ (nI (nN ((wiS ρ 1) i))) < 0 := nI_pos (by have := hcw.2.2; omega)
          have hk1 : ¬ (nI (nN ((wiS ρ 1) i))) < (-3) := fun z => hk2 (Int32.lt_trans z (by decide))
          refine V.eqi (y := nI (nN ((wiS ρ 1) i))) (hcw.1.trans hwi) ?_
          refine V.istore (pc := 22) [(6, .int (nI (nN ((wiS ρ 1) i)))), (0, .ref (a 28)), (1, .int x), (2, .int y), (3, .int z), (4, .int (nI sk.length)), (5, .int (nI i))] hC dX0_gives_22 (by decide) rfl ?_
          refine V.iload (pc := 24) 0 hC dX0_gives_24 rfl ?_
          refine V.bipush (pc := 26) (-3) hC dX0_gives_26 (by decide) ?_
          refine V.icmp_lt (pc := 28) 83 hC dX0_gives_28 (by decide) (fun c_28 => ?_) (fun c_28 => ?_)
          · exact absurd c_28 hk1
          · refine V.iload (pc := 31) 5 hC dX0_gives_31 rfl ?_
            refine V.bipush (pc := 33) 60 hC dX0_gives_33 (by decide) ?_
            refine V.icmp_ge (pc := 35) 83 hC dX0_gives_35 (by decide) (fun c_35 => ?_) (fun c_35 => ?_)
            · have nc_35 : 60 ≤ sk.length := (nle (nl 60) rfl (by omega) (by omega)).mp c_35
              exfalso; omega
            · have nc_35 : ¬ (60 ≤ sk.length) := fun z => c_35 ((nle (nl 60) rfl (by omega) (by omega)).mpr z)
              refine V.aload_n (pc := 38) 1 hC dX0_gives_38 rfl ?_
              refine V.get (pc := 39) (v := .ref (a 32)) hC cf_X0 19 1 fl_X0_15 (by decide) gx_19 rfl dX0_gives_39 ?_
              refine V.iload (pc := 42) 5 hC dX0_gives_42 rfl ?_
              refine V.iload (pc := 44) 0 hC dX0_gives_44 rfl ?_
              refine V.if_lt (pc := 46) 54 hC dX0_gives_46 (by decide) (fun c_46 => ?_) (fun c_46 => ?_)
              · exact absurd c_46 hk2
              · refine V.iload (pc := 49) 0 hC dX0_gives_49 rfl ?_
                refine V.goto (pc := 51) 76 hC dX0_gives_51 (by decide) ?_
                refine V.iast (pc := 76) (f := f) hC 23 sk.length (wX k g a σ (va_up ν 32 (upd f sk.length (nI (nN ((wiS ρ 1) i)))))) gx_23 rfl (by omega) (by decide) rfl dX0_gives_76 ?_
                refine V.iinc (pc := 77) 5 (nI (sk.length + 1)) [(4, .int (nI (sk.length + 1))), (6, .int (nI (nN ((wiS ρ 1) i)))), (0, .ref (a 28)), (1, .int x), (2, .int y), (3, .int z), (5, .int (nI i))] hC dX0_gives_77 rfl (ncast (nadd rfl (nl 1)) (by omega)) (by decide) rfl ?_
                refine V.goto (pc := 80) 164 hC dX0_gives_80 (by decide) ?_
                refine V.iinc (pc := 164) 6 (nI (i + 1)) [(5, .int (nI (i + 1))), (4, .int (nI (sk.length + 1))), (6, .int (nI (nN ((wiS ρ 1) i)))), (0, .ref (a 28)), (1, .int x), (2, .int y), (3, .int z)] hC dX0_gives_164 rfl (ncast (nadd rfl (nl 1)) (by omega)) (by decide) rfl ?_
                refine V.goto (pc := 167) 6 hC dX0_gives_167 (by decide) ?_
                exact V.sub [3, 4, 5, 6, 1, 0] rfl (ih (i + 1) ((wiS ρ 1) i :: sk) (upd f sk.length (nI (nN ((wiS ρ 1) i)))) (by omega) (by simp only [List.length_cons]; omega) (pileOf_e hwi hp) (wf_push hf e1) (hv.trans (ev_push e1)))
        · by_cases e2 : (acS ρ 1) i = 2
          · by_cases e20 : (wiS ρ 1) i = 0
            · have hnm : (fctS x y z) (nN ((wiS ρ 1) i)) = x := by rw [e20]; rfl
              refine V.eqi (y := (-1)) ((cd_nam (hx.2 i (by omega)) e2).1.trans (by rw [e20]; rfl)) ?_
              refine V.istore (pc := 22) [(6, .int (-1)), (0, .ref (a 28)), (1, .int x), (2, .int y), (3, .int z), (4, .int (nI sk.length)), (5, .int (nI i))] hC dX0_gives_22 (by decide) rfl ?_
              refine V.iload (pc := 24) 0 hC dX0_gives_24 rfl ?_
              refine V.bipush (pc := 26) (-3) hC dX0_gives_26 (by decide) ?_
              refine V.icmp_lt (pc := 28) 83 hC dX0_gives_28 (by decide) (fun c_28 => ?_) (fun c_28 => ?_)
              · exact absurd c_28 (by decide)
              · refine V.iload (pc := 31) 5 hC dX0_gives_31 rfl ?_
                refine V.bipush (pc := 33) 60 hC dX0_gives_33 (by decide) ?_
                refine V.icmp_ge (pc := 35) 83 hC dX0_gives_35 (by decide) (fun c_35 => ?_) (fun c_35 => ?_)
                · have nc_35 : 60 ≤ sk.length := (nle (nl 60) rfl (by omega) (by omega)).mp c_35
                  exfalso; omega
                · have nc_35 : ¬ (60 ≤ sk.length) := fun z => c_35 ((nle (nl 60) rfl (by omega) (by omega)).mpr z)
                  refine V.aload_n (pc := 38) 1 hC dX0_gives_38 rfl ?_
                  refine V.get (pc := 39) (v := .ref (a 32)) hC cf_X0 19 1 fl_X0_15 (by decide) gx_19 rfl dX0_gives_39 ?_
                  refine V.iload (pc := 42) 5 hC dX0_gives_42 rfl ?_
                  refine V.iload (pc := 44) 0 hC dX0_gives_44 rfl ?_
                  refine V.if_lt (pc := 46) 54 hC dX0_gives_46 (by decide) (fun c_46 => ?_) (fun c_46 => ?_)
                  · refine V.iload (pc := 54) 0 hC dX0_gives_54 rfl ?_
                    refine V.iconst (pc := 56) (-1) hC dX0_gives_56 (by decide) ?_
                    refine V.icmp_ne (pc := 57) 64 hC dX0_gives_57 (by decide) (fun c_57 => ?_) (fun c_57 => ?_)
                    · exact absurd c_57 (by decide)
                    · refine V.iload_n (pc := 60) 2 hC dX0_gives_60 rfl ?_
                      refine V.goto (pc := 61) 76 hC dX0_gives_61 (by decide) ?_
                      refine V.iast (pc := 76) (f := f) hC 23 sk.length (wX k g a σ (va_up ν 32 (upd f sk.length x))) gx_23 rfl (by omega) (by decide) rfl dX0_gives_76 ?_
                      refine V.iinc (pc := 77) 5 (nI (sk.length + 1)) [(4, .int (nI (sk.length + 1))), (6, .int (-1)), (0, .ref (a 28)), (1, .int x), (2, .int y), (3, .int z), (5, .int (nI i))] hC dX0_gives_77 rfl (ncast (nadd rfl (nl 1)) (by omega)) (by decide) rfl ?_
                      refine V.goto (pc := 80) 164 hC dX0_gives_80 (by decide) ?_
                      refine V.iinc (pc := 164) 6 (nI (i + 1)) [(5, .int (nI (i + 1))), (4, .int (nI (sk.length + 1))), (6, .int (-1)), (0, .ref (a 28)), (1, .int x), (2, .int y), (3, .int z)] hC dX0_gives_164 rfl (ncast (nadd rfl (nl 1)) (by omega)) (by decide) rfl ?_
                      refine V.goto (pc := 167) 6 hC dX0_gives_167 (by decide) ?_
                      exact V.sub [3, 4, 5, 6, 1, 0] rfl (ih (i + 1) ((fctS x y z) (nN ((wiS ρ 1) i)) :: sk) (upd f sk.length x) (by omega) (by simp only [List.length_cons]; omega) (by rw [hnm]; exact pileOf_push rfl hp) (wf_nam hf e2).2 (hv.trans (ev_nam e2)))
                  · exact absurd c_46 (by decide)
            · by_cases e21 : (wiS ρ 1) i = 1
              · have hnm : (fctS x y z) (nN ((wiS ρ 1) i)) = y := by rw [e21]; rfl
                refine V.eqi (y := (-2)) ((cd_nam (hx.2 i (by omega)) e2).1.trans (by rw [e21]; rfl)) ?_
                refine V.istore (pc := 22) [(6, .int (-2)), (0, .ref (a 28)), (1, .int x), (2, .int y), (3, .int z), (4, .int (nI sk.length)), (5, .int (nI i))] hC dX0_gives_22 (by decide) rfl ?_
                refine V.iload (pc := 24) 0 hC dX0_gives_24 rfl ?_
                refine V.bipush (pc := 26) (-3) hC dX0_gives_26 (by decide) ?_
                refine V.icmp_lt (pc := 28) 83 hC dX0_gives_28 (by decide) (fun c_28 => ?_) (fun c_28 => ?_)
                · exact absurd c_28 (by decide)
                · refine V.iload (pc := 31) 5 hC dX0_gives_31 rfl ?_
                  refine V.bipush (pc := 33) 60 hC dX0_gives_33 (by decide) ?_
                  refine V.icmp_ge (pc := 35) 83 hC dX0_gives_35 (by decide) (fun c_35 => ?_) (fun c_35 => ?_)
                  · have nc_35 : 60 ≤ sk.length := (nle (nl 60) rfl (by omega) (by omega)).mp c_35
                    exfalso; omega
                  · have nc_35 : ¬ (60 ≤ sk.length) := fun z => c_35 ((nle (nl 60) rfl (by omega) (by omega)).mpr z)
                    refine V.aload_n (pc := 38) 1 hC dX0_gives_38 rfl ?_
                    refine V.get (pc := 39) (v := .ref (a 32)) hC cf_X0 19 1 fl_X0_15 (by decide) gx_19 rfl dX0_gives_39 ?_
                    refine V.iload (pc := 42) 5 hC dX0_gives_42 rfl ?_
                    refine V.iload (pc := 44) 0 hC dX0_gives_44 rfl ?_
                    refine V.if_lt (pc := 46) 54 hC dX0_gives_46 (by decide) (fun c_46 => ?_) (fun c_46 => ?_)
                    · refine V.iload (pc := 54) 0 hC dX0_gives_54 rfl ?_
                      refine V.iconst (pc := 56) (-1) hC dX0_gives_56 (by decide) ?_
                      refine V.icmp_ne (pc := 57) 64 hC dX0_gives_57 (by decide) (fun c_57 => ?_) (fun c_57 => ?_)
                      · refine V.iload (pc := 64) 0 hC dX0_gives_64 rfl ?_
                        refine V.bipush (pc := 66) (-3) hC dX0_gives_66 (by decide) ?_
                        refine V.icmp_ne (pc := 68) 75 hC dX0_gives_68 (by decide) (fun c_68 => ?_) (fun c_68 => ?_)
                        · refine V.iload_n (pc := 75) 3 hC dX0_gives_75 rfl ?_
                          refine V.iast (pc := 76) (f := f) hC 23 sk.length (wX k g a σ (va_up ν 32 (upd f sk.length y))) gx_23 rfl (by omega) (by decide) rfl dX0_gives_76 ?_
                          refine V.iinc (pc := 77) 5 (nI (sk.length + 1)) [(4, .int (nI (sk.length + 1))), (6, .int (-2)), (0, .ref (a 28)), (1, .int x), (2, .int y), (3, .int z), (5, .int (nI i))] hC dX0_gives_77 rfl (ncast (nadd rfl (nl 1)) (by omega)) (by decide) rfl ?_
                          refine V.goto (pc := 80) 164 hC dX0_gives_80 (by decide) ?_
                          refine V.iinc (pc := 164) 6 (nI (i + 1)) [(5, .int (nI (i + 1))), (4, .int (nI (sk.length + 1))), (6, .int (-2)), (0, .ref (a 28)), (1, .int x), (2, .int y), (3, .int z)] hC dX0_gives_164 rfl (ncast (nadd rfl (nl 1)) (by omega)) (by decide) rfl ?_
                          refine V.goto (pc := 167) 6 hC dX0_gives_167 (by decide) ?_
                          exact V.sub [3, 4, 5, 6, 1, 0] rfl (ih (i + 1) ((fctS x y z) (nN ((wiS ρ 1) i)) :: sk) (upd f sk.length y) (by omega) (by simp only [List.length_cons]; omega) (by rw [hnm]; exact pileOf_push rfl hp) (wf_nam hf e2).2 (hv.trans (ev_nam e2)))
                        · exact absurd c_68 (by decide)
                      · exact absurd c_57 (by decide)
                    · exact absurd c_46 (by decide)
              · have e22 : (wiS ρ 1) i = 2 := by have h9 := (cd_nam (hx.2 i (by omega)) e2).2; rw [h9.1, show nN ((wiS ρ 1) i) = 2 by have q0 : ¬ nN ((wiS ρ 1) i) = 0 := fun q => e20 (by rw [h9.1, q]; rfl); have q1 : ¬ nN ((wiS ρ 1) i) = 1 := fun q => e21 (by rw [h9.1, q]; rfl); have := h9.2; omega]; rfl
                have hnm : (fctS x y z) (nN ((wiS ρ 1) i)) = z := by rw [e22]; rfl
                refine V.eqi (y := (-3)) ((cd_nam (hx.2 i (by omega)) e2).1.trans (by rw [e22]; rfl)) ?_
                refine V.istore (pc := 22) [(6, .int (-3)), (0, .ref (a 28)), (1, .int x), (2, .int y), (3, .int z), (4, .int (nI sk.length)), (5, .int (nI i))] hC dX0_gives_22 (by decide) rfl ?_
                refine V.iload (pc := 24) 0 hC dX0_gives_24 rfl ?_
                refine V.bipush (pc := 26) (-3) hC dX0_gives_26 (by decide) ?_
                refine V.icmp_lt (pc := 28) 83 hC dX0_gives_28 (by decide) (fun c_28 => ?_) (fun c_28 => ?_)
                · exact absurd c_28 (by decide)
                · refine V.iload (pc := 31) 5 hC dX0_gives_31 rfl ?_
                  refine V.bipush (pc := 33) 60 hC dX0_gives_33 (by decide) ?_
                  refine V.icmp_ge (pc := 35) 83 hC dX0_gives_35 (by decide) (fun c_35 => ?_) (fun c_35 => ?_)
                  · have nc_35 : 60 ≤ sk.length := (nle (nl 60) rfl (by omega) (by omega)).mp c_35
                    exfalso; omega
                  · have nc_35 : ¬ (60 ≤ sk.length) := fun z => c_35 ((nle (nl 60) rfl (by omega) (by omega)).mpr z)
                    refine V.aload_n (pc := 38) 1 hC dX0_gives_38 rfl ?_
                    refine V.get (pc := 39) (v := .ref (a 32)) hC cf_X0 19 1 fl_X0_15 (by decide) gx_19 rfl dX0_gives_39 ?_
                    refine V.iload (pc := 42) 5 hC dX0_gives_42 rfl ?_
                    refine V.iload (pc := 44) 0 hC dX0_gives_44 rfl ?_
                    refine V.if_lt (pc := 46) 54 hC dX0_gives_46 (by decide) (fun c_46 => ?_) (fun c_46 => ?_)
                    · refine V.iload (pc := 54) 0 hC dX0_gives_54 rfl ?_
                      refine V.iconst (pc := 56) (-1) hC dX0_gives_56 (by decide) ?_
                      refine V.icmp_ne (pc := 57) 64 hC dX0_gives_57 (by decide) (fun c_57 => ?_) (fun c_57 => ?_)
                      · refine V.iload (pc := 64) 0 hC dX0_gives_64 rfl ?_
                        refine V.bipush (pc := 66) (-3) hC dX0_gives_66 (by decide) ?_
                        refine V.icmp_ne (pc := 68) 75 hC dX0_gives_68 (by decide) (fun c_68 => ?_) (fun c_68 => ?_)
                        · exact absurd c_68 (by decide)
                        · refine V.iload_n (pc := 71) 4 hC dX0_gives_71 rfl ?_
                          refine V.goto (pc := 72) 76 hC dX0_gives_72 (by decide) ?_
                          refine V.iast (pc := 76) (f := f) hC 23 sk.length (wX k g a σ (va_up ν 32 (upd f sk.length z))) gx_23 rfl (by omega) (by decide) rfl dX0_gives_76 ?_
                          refine V.iinc (pc := 77) 5 (nI (sk.length + 1)) [(4, .int (nI (sk.length + 1))), (6, .int (-3)), (0, .ref (a 28)), (1, .int x), (2, .int y), (3, .int z), (5, .int (nI i))] hC dX0_gives_77 rfl (ncast (nadd rfl (nl 1)) (by omega)) (by decide) rfl ?_
                          refine V.goto (pc := 80) 164 hC dX0_gives_80 (by decide) ?_
                          refine V.iinc (pc := 164) 6 (nI (i + 1)) [(5, .int (nI (i + 1))), (4, .int (nI (sk.length + 1))), (6, .int (-3)), (0, .ref (a 28)), (1, .int x), (2, .int y), (3, .int z)] hC dX0_gives_164 rfl (ncast (nadd rfl (nl 1)) (by omega)) (by decide) rfl ?_
                          refine V.goto (pc := 167) 6 hC dX0_gives_167 (by decide) ?_
                          exact V.sub [3, 4, 5, 6, 1, 0] rfl (ih (i + 1) ((fctS x y z) (nN ((wiS ρ 1) i)) :: sk) (upd f sk.length z) (by omega) (by simp only [List.length_cons]; omega) (by rw [hnm]; exact pileOf_push rfl hp) (wf_nam hf e2).2 (hv.trans (ev_nam e2)))
                      · exact absurd c_57 (by decide)
                    · exact absurd c_46 (by decide)
          · by_cases e3 : (acS ρ 1) i = 3
            · refine V.eqi (y := (-33)) (cd_dny (hx.2 i (by omega)) e3) ?_
              obtain ⟨x9, r9, e9⟩ := len_1 (wf_dny hf e3).1
              have hlen : sk.length = r9.length + 1 := by rw [e9]; rfl
              refine V.istore (pc := 22) [(6, .int (-33)), (0, .ref (a 28)), (1, .int x), (2, .int y), (3, .int z), (4, .int (nI sk.length)), (5, .int (nI i))] hC dX0_gives_22 (by decide) rfl ?_
              refine V.iload (pc := 24) 0 hC dX0_gives_24 rfl ?_
              refine V.bipush (pc := 26) (-3) hC dX0_gives_26 (by decide) ?_
              refine V.icmp_lt (pc := 28) 83 hC dX0_gives_28 (by decide) (fun c_28 => ?_) (fun c_28 => ?_)
              · refine V.iload (pc := 83) 0 hC dX0_gives_83 rfl ?_
                refine V.bipush (pc := 85) (-33) hC dX0_gives_85 (by decide) ?_
                refine V.icmp_ne (pc := 87) 124 hC dX0_gives_87 (by decide) (fun c_87 => ?_) (fun c_87 => ?_)
                · exact absurd c_87 (by decide)
                · refine V.iload (pc := 90) 5 hC dX0_gives_90 rfl ?_
                  refine V.if_le (pc := 92) 124 hC dX0_gives_92 (by decide) (fun c_92 => ?_) (fun c_92 => ?_)
                  · have nc_92 : sk.length ≤ 0 := (nle rfl (nl 0) (by omega) (by omega)).mp c_92
                    exfalso; omega
                  · have nc_92 : ¬ (sk.length ≤ 0) := fun z => c_92 ((nle rfl (nl 0) (by omega) (by omega)).mpr z)
                    refine V.aload_n (pc := 95) 1 hC dX0_gives_95 rfl ?_
                    refine V.get (pc := 96) (v := .ref (a 32)) hC cf_X0 19 1 fl_X0_15 (by decide) gx_19 rfl dX0_gives_96 ?_
                    refine V.iload (pc := 99) 5 hC dX0_gives_99 rfl ?_
                    refine V.iconst (pc := 101) 1 hC dX0_gives_101 (by decide) ?_
                    refine V.isub (pc := 102) hC dX0_gives_102 ?_
                    refine V.aload_n (pc := 103) 1 hC dX0_gives_103 rfl ?_
                    refine V.get (pc := 104) (v := .ref (a 32)) hC cf_X0 19 1 fl_X0_15 (by decide) gx_19 rfl dX0_gives_104 ?_
                    refine V.iload (pc := 107) 5 hC dX0_gives_107 rfl ?_
                    refine V.iconst (pc := 109) 1 hC dX0_gives_109 (by decide) ?_
                    refine V.isub (pc := 110) hC dX0_gives_110 ?_
                    refine V.iald (pc := 111) (f := f) hC 23 (r9.length) gx_23 (ncast (nsub rfl (nl 1) (by omega)) (by omega)) (by omega) (by decide) dX0_gives_111 ?_
                    refine V.if_ne (pc := 112) 119 hC dX0_gives_112 (by decide) (fun c_112 => ?_) (fun c_112 => ?_)
                    · refine V.iconst (pc := 119) 0 hC dX0_gives_119 (by decide) ?_
                      refine V.iast (pc := 120) (f := f) hC 23 (r9.length) (wX k g a σ (va_up ν 32 (upd f (r9.length) 0))) gx_23 (ncast (nsub rfl (nl 1) (by omega)) (by omega)) (by omega) (by decide) rfl dX0_gives_120 ?_
                      refine V.goto (pc := 121) 164 hC dX0_gives_121 (by decide) ?_
                      refine V.iinc (pc := 164) 6 (nI (i + 1)) [(5, .int (nI (i + 1))), (6, .int (-33)), (0, .ref (a 28)), (1, .int x), (2, .int y), (3, .int z), (4, .int (nI sk.length))] hC dX0_gives_164 rfl (ncast (nadd rfl (nl 1)) (by omega)) (by decide) rfl ?_
                      refine V.goto (pc := 167) 6 hC dX0_gives_167 (by decide) ?_
                      subst e9
                      exact V.sub [2, 3, 4, 5, 6, 0] rfl (ih (i + 1) (dnyS x9 :: r9) (upd f (r9.length) 0) (by omega) (by simp only [List.length_cons] at hl ⊢; omega) (by rw [show dnyS x9 = 0 from by rw [dnyS, if_neg (fun z => c_112 (hp.1.trans z))]]; exact pileOf_push rfl hp.2) (wf_dny hf e3).2 (hv.trans (ev_dny e3)))
                    · refine V.iconst (pc := 115) 1 hC dX0_gives_115 (by decide) ?_
                      refine V.goto (pc := 116) 120 hC dX0_gives_116 (by decide) ?_
                      refine V.iast (pc := 120) (f := f) hC 23 (r9.length) (wX k g a σ (va_up ν 32 (upd f (r9.length) 1))) gx_23 (ncast (nsub rfl (nl 1) (by omega)) (by omega)) (by omega) (by decide) rfl dX0_gives_120 ?_
                      refine V.goto (pc := 121) 164 hC dX0_gives_121 (by decide) ?_
                      refine V.iinc (pc := 164) 6 (nI (i + 1)) [(5, .int (nI (i + 1))), (6, .int (-33)), (0, .ref (a 28)), (1, .int x), (2, .int y), (3, .int z), (4, .int (nI sk.length))] hC dX0_gives_164 rfl (ncast (nadd rfl (nl 1)) (by omega)) (by decide) rfl ?_
                      refine V.goto (pc := 167) 6 hC dX0_gives_167 (by decide) ?_
                      subst e9
                      exact V.sub [2, 3, 4, 5, 6, 0] rfl (ih (i + 1) (dnyS x9 :: r9) (upd f (r9.length) 1) (by omega) (by simp only [List.length_cons] at hl ⊢; omega) (by rw [show dnyS x9 = 1 from by rw [dnyS, if_pos (hp.1.symm.trans c_112)]]; exact pileOf_push rfl hp.2) (wf_dny hf e3).2 (hv.trans (ev_dny e3)))
              · exact absurd c_28 (by decide)
            · have hop := wf_op hf e1 e2 e3
              have hk := op_neg hop.1
              refine V.eqi (y := -((acS ρ 1) i)) (cd_op (hx.2 i (by omega)) e1 e2 e3) ?_
              obtain ⟨y9, x9, r9, e9⟩ := len_2 hop.2.1
              have hlen : sk.length = r9.length + 2 := by rw [e9]; rfl
              refine V.istore (pc := 22) [(6, .int (-((acS ρ 1) i))), (0, .ref (a 28)), (1, .int x), (2, .int y), (3, .int z), (4, .int (nI sk.length)), (5, .int (nI i))] hC dX0_gives_22 (by decide) rfl ?_
              refine V.iload (pc := 24) 0 hC dX0_gives_24 rfl ?_
              refine V.bipush (pc := 26) (-3) hC dX0_gives_26 (by decide) ?_
              refine V.icmp_lt (pc := 28) 83 hC dX0_gives_28 (by decide) (fun c_28 => ?_) (fun c_28 => ?_)
              · refine V.iload (pc := 83) 0 hC dX0_gives_83 rfl ?_
                refine V.bipush (pc := 85) (-33) hC dX0_gives_85 (by decide) ?_
                refine V.icmp_ne (pc := 87) 124 hC dX0_gives_87 (by decide) (fun c_87 => ?_) (fun c_87 => ?_)
                · refine V.iload (pc := 124) 5 hC dX0_gives_124 rfl ?_
                  refine V.iconst (pc := 126) 1 hC dX0_gives_126 (by decide) ?_
                  refine V.icmp_le (pc := 127) 164 hC dX0_gives_127 (by decide) (fun c_127 => ?_) (fun c_127 => ?_)
                  · have nc_127 : sk.length ≤ 1 := (nle rfl (nl 1) (by omega) (by omega)).mp c_127
                    exfalso; omega
                  · have nc_127 : ¬ (sk.length ≤ 1) := fun z => c_127 ((nle rfl (nl 1) (by omega) (by omega)).mpr z)
                    refine V.iinc (pc := 130) 5 (nI (r9.length + 1)) [(4, .int (nI (r9.length + 1))), (6, .int (-((acS ρ 1) i))), (0, .ref (a 28)), (1, .int x), (2, .int y), (3, .int z), (5, .int (nI i))] hC dX0_gives_130 rfl (by rw [hlen]; exact pk_m1 (r9.length + 1)) (by decide) rfl ?_
                    refine V.aload_n (pc := 133) 2 hC dX0_gives_133 rfl ?_
                    refine V.get (pc := 134) (v := .ref (a 32)) hC cf_X0 19 1 fl_X0_15 (by decide) gx_19 rfl dX0_gives_134 ?_
                    refine V.iload (pc := 137) 0 hC dX0_gives_137 rfl ?_
                    refine V.iconst (pc := 139) 1 hC dX0_gives_139 (by decide) ?_
                    refine V.isub (pc := 140) hC dX0_gives_140 ?_
                    refine V.iload (pc := 141) 1 hC dX0_gives_141 rfl ?_
                    refine V.ineg (pc := 143) hC dX0_gives_143 ?_
                    refine V.eqi (y := (acS ρ 1) i) neg_neg_i ?_
                    refine V.aload_n (pc := 144) 2 hC dX0_gives_144 rfl ?_
                    refine V.get (pc := 145) (v := .ref (a 32)) hC cf_X0 19 1 fl_X0_15 (by decide) gx_19 rfl dX0_gives_145 ?_
                    refine V.iload (pc := 148) 0 hC dX0_gives_148 rfl ?_
                    refine V.iconst (pc := 150) 1 hC dX0_gives_150 (by decide) ?_
                    refine V.isub (pc := 151) hC dX0_gives_151 ?_
                    refine V.iald (pc := 152) (f := f) hC 23 (r9.length) gx_23 (ncast (nsub rfl (nl 1) (by omega)) (by omega)) (by omega) (by decide) dX0_gives_152 ?_
                    refine V.aload_n (pc := 153) 2 hC dX0_gives_153 rfl ?_
                    refine V.get (pc := 154) (v := .ref (a 32)) hC cf_X0 19 1 fl_X0_15 (by decide) gx_19 rfl dX0_gives_154 ?_
                    refine V.iload (pc := 157) 0 hC dX0_gives_157 rfl ?_
                    refine V.iald (pc := 159) (f := f) hC 23 (r9.length + 1) gx_23 rfl (by omega) (by decide) dX0_gives_159 ?_
                    refine V.callS0 (pc := 160) (as := [.int ((acS ρ 1) i), .int (f (r9.length)), .int (f (r9.length + 1))]) hC (c_X0_join ((acS ρ 1) i) (f (r9.length)) (f (r9.length + 1)) hop.1) ms_X0_join ml_X0_28 (by decide) rfl (Nat.le_of_ble_eq_true rfl) dX0_gives_160 ?_
                    rintro _ _ rfl
                    show V X (wX k g a σ (va_up ν 32 f)) [(4, .int (nI (r9.length + 1))), (6, .int (-((acS ρ 1) i))), (0, .ref (a 28)), (1, .int x), (2, .int y), (3, .int z), (5, .int (nI i))] [.int (twoS ((acS ρ 1) i) (f (r9.length)) (f (r9.length + 1))), .int ((nI (r9.length + 1)) - 1), .ref (a 32)] 163
                    refine V.iast (pc := 163) (f := f) hC 23 (r9.length) (wX k g a σ (va_up ν 32 (upd f (r9.length) (twoS ((acS ρ 1) i) (f (r9.length)) (f (r9.length + 1)))))) gx_23 (ncast (nsub rfl (nl 1) (by omega)) (by omega)) (by omega) (by decide) rfl dX0_gives_163 ?_
                    refine V.iinc (pc := 164) 6 (nI (i + 1)) [(5, .int (nI (i + 1))), (4, .int (nI (r9.length + 1))), (6, .int (-((acS ρ 1) i))), (0, .ref (a 28)), (1, .int x), (2, .int y), (3, .int z)] hC dX0_gives_164 rfl (ncast (nadd rfl (nl 1)) (by omega)) (by decide) rfl ?_
                    refine V.goto (pc := 167) 6 hC dX0_gives_167 (by decide) ?_
                    subst e9
                    exact V.sub [3, 4, 5, 6, 1, 0] rfl (ih (i + 1) (twoS ((acS ρ 1) i) x9 y9 :: r9) (upd f (r9.length) (twoS ((acS ρ 1) i) (f (r9.length)) (f (r9.length + 1)))) (by omega) (by simp only [List.length_cons] at hl ⊢; omega) (by rw [← hp.1, ← hp.2.1]; exact pileOf_push rfl hp.2.2) (wf_op hf e1 e2 e3).2.2 (hv.trans (ev_op e1 e2 e3)))
                · exact absurd c_87 hk.2
              · exact absurd hk.1 c_28
  exact V.sub [2, 3, 4, 5, 1, 0] rfl (loop_6 (nN (ρ (133 + 121 * 1))) 0 [] (ν 32) (by omega) (Nat.le_refl 0) trivial (hI.lw (by omega) hpos) rfl)
set_option maxHeartbeats 4000000 in
set_option maxRecDepth 100000 in
theorem c_X3_leapLaw {l : Launch} {D : va_G} {k : Nat → ClassId} {g a : Nat → Nat} (σ ν : St) (ρ : Rw) (x y z : Int32) (hT : RT σ ρ) (hI : Inv ρ) : Ct l D k g yX3_leapLaw cX3_leapLaw 5 (some .int) 2 48 [.ref (a 1), .int x, .int y, .int z] (S := Rw) (wX k g a σ ν) (fun uu => wX k g a σ (va_up ν 31 uu)) (fun vv uu => vv = some (.int (givesS ρ 0 x y z))) := by
  refine Ct.ofI RX3 rfl (by decide +kernel) (Nat.le_of_ble_eq_true rfl) (fun X hC hR => ?_)
  have hb4 := hI.hb; have hb8 := hI.mb; have hb6 := hI.pb; have hbm := hI.ob0; have hbt := hI.bb; have hbw := hI.wb
  have hl0 : nN (ρ 133) ≤ 60 := hI.lb (u := 0) (by omega)
  show V X (wX k g a σ ν) [(0, .ref (a 1)), (1, .int x), (2, .int y), (3, .int z)] [] 0
  refine V.aload_n (pc := 0) 0 hC dX3_leapLaw_0 rfl ?_
  refine V.get (pc := 1) (v := .ref (a 26)) hC cf_X3 1 16 fl_X3_47 (by decide) gx_1 rfl dX3_leapLaw_1 ?_
  refine V.iconst (pc := 4) 0 hC dX3_leapLaw_4 (by decide) ?_
  refine V.aldL (pc := 5) hC 17 0 (a 27) gx_17 (nl 0) (by omega) (by decide) rfl dX3_leapLaw_5 ?_
  refine V.astore (pc := 6) [(4, .ref (a 27)), (0, .ref (a 1)), (1, .int x), (2, .int y), (3, .int z)] hC dX3_leapLaw_6 (by decide) rfl ?_
  refine V.aload (pc := 8) 0 hC dX3_leapLaw_8 rfl ?_
  refine V.get (pc := 10) (v := .int (σ 27 0)) hC cf_X0 18 2 fl_X3_78 (by decide) gx_18 rfl dX3_leapLaw_10 ?_
  refine V.eqi (y := ρ 133) (hT.2.2.2.2.2.2.1.1) ?_
  refine V.if_le (pc := 13) 27 hC dX3_leapLaw_13 (by decide) (fun c_13 => ?_) (fun c_13 => ?_)
  · have nc_13 : nN (ρ 133) ≤ 0 := (nle (show ρ 133 = nI (nN (ρ 133)) from hI.ln (u := 0) (by omega)) (nl 0) (by omega) (by omega)).mp c_13
    refine V.iload_n (pc := 27) 2 hC dX3_leapLaw_27 rfl ?_
    refine V.iconst (pc := 28) 3 hC dX3_leapLaw_28 (by decide) ?_
    refine V.idiv (pc := 29) hC dX3_leapLaw_29 (by decide) ?_
    refine V.iconst (pc := 30) 0 hC dX3_leapLaw_30 (by decide) ?_
    refine V.bipush (pc := 31) 30 hC dX3_leapLaw_31 (by decide) ?_
    refine V.callN0 (pc := 33) (as := [.int (x / 3), .int 0, .int 30]) hC (c_X6_hold (x / 3) 0 30 (by decide)) ms_X6_hold (host := RX6) (by simp [nstW]) (by decide) rfl (Nat.le_of_ble_eq_true rfl) dX3_leapLaw_33 ?_
    rintro _ _ rfl
    show V X (wX k g a σ ν) [(4, .ref (a 27)), (0, .ref (a 1)), (1, .int x), (2, .int y), (3, .int z)] [.int (heldS (x / 3) 0 30)] 36
    exact hR (heldS (x / 3) 0 30) (ν 31) _ _ dX3_leapLaw_36 rfl (ri (by rw [givesS, if_pos rfl, rawS, if_neg (c := 0 < ρ (133 + 121 * 0)) (i_ge c_13), if_pos rfl]))
  · have nc_13 : ¬ (nN (ρ 133) ≤ 0) := fun z => c_13 ((nle (show ρ 133 = nI (nN (ρ 133)) from hI.ln (u := 0) (by omega)) (nl 0) (by omega) (by omega)).mpr z)
    refine V.aload (pc := 16) 0 hC dX3_leapLaw_16 rfl ?_
    refine V.iload_n (pc := 18) 2 hC dX3_leapLaw_18 rfl ?_
    refine V.iload_n (pc := 19) 3 hC dX3_leapLaw_19 rfl ?_
    refine V.iload_n (pc := 20) 4 hC dX3_leapLaw_20 rfl ?_
    refine V.callV0 (pc := 21) (as := [.int x, .int y, .int z]) hC (c_X0_gives_0 σ ν ρ x y z hT.2.2.2.2.2.2.1 hI (show 0 < nN (ρ 133) by omega)) mu_X0_gives ml_X3_109 (by decide) ⟨18, 0, TX0, 3, _, rfl, gx_18⟩ rfl (Nat.le_of_ble_eq_true rfl) dX3_leapLaw_21 ?_
    rintro _ f21_0 rfl
    show V X (wX k g a σ (va_up ν 31 f21_0)) [(4, .ref (a 27)), (0, .ref (a 1)), (1, .int x), (2, .int y), (3, .int z)] [.int (ev (acS ρ 0) (wiS ρ 0) (fctS x y z) (nN (ρ (133 + 121 * 0))) 0 [])] 24
    refine V.goto (pc := 24) 30 hC dX3_leapLaw_24 (by decide) ?_
    refine V.iconst (pc := 30) 0 hC dX3_leapLaw_30 (by decide) ?_
    refine V.bipush (pc := 31) 30 hC dX3_leapLaw_31 (by decide) ?_
    refine V.callN0 (pc := 33) (as := [.int (ev (acS ρ 0) (wiS ρ 0) (fctS x y z) (nN (ρ (133 + 121 * 0))) 0 []), .int 0, .int 30]) hC (c_X6_hold (ev (acS ρ 0) (wiS ρ 0) (fctS x y z) (nN (ρ (133 + 121 * 0))) 0 []) 0 30 (by decide)) ms_X6_hold (host := RX6) (by simp [nstW]) (by decide) rfl (Nat.le_of_ble_eq_true rfl) dX3_leapLaw_33 ?_
    rintro _ _ rfl
    show V X (wX k g a σ (va_up ν 31 f21_0)) [(4, .ref (a 27)), (0, .ref (a 1)), (1, .int x), (2, .int y), (3, .int z)] [.int (heldS (ev (acS ρ 0) (wiS ρ 0) (fctS x y z) (nN (ρ (133 + 121 * 0))) 0 []) 0 30)] 36
    exact hR (heldS (ev (acS ρ 0) (wiS ρ 0) (fctS x y z) (nN (ρ (133 + 121 * 0))) 0 []) 0 30) (f21_0) _ _ dX3_leapLaw_36 rfl (ri (by rw [givesS, if_pos rfl, rawS, if_pos (c := 0 < ρ (133 + 121 * 0)) (i_nle c_13)]))
set_option maxHeartbeats 4000000 in
set_option maxRecDepth 100000 in
theorem c_X3_worthLaw {l : Launch} {D : va_G} {k : Nat → ClassId} {g a : Nat → Nat} (σ ν : St) (ρ : Rw) (x y z : Int32) (hT : RT σ ρ) (hI : Inv ρ) : Ct l D k g yX3_worthLaw cX3_worthLaw 5 (some .int) 2 48 [.ref (a 1), .int x, .int y, .int z] (S := Rw) (wX k g a σ ν) (fun uu => wX k g a σ (va_up ν 32 uu)) (fun vv uu => vv = some (.int (givesS ρ 1 x y z))) := by
  refine Ct.ofI RX3 rfl (by decide +kernel) (Nat.le_of_ble_eq_true rfl) (fun X hC hR => ?_)
  have hb4 := hI.hb; have hb8 := hI.mb; have hb6 := hI.pb; have hbm := hI.ob0; have hbt := hI.bb; have hbw := hI.wb
  have hl0 : nN (ρ 254) ≤ 60 := hI.lb (u := 1) (by omega)
  show V X (wX k g a σ ν) [(0, .ref (a 1)), (1, .int x), (2, .int y), (3, .int z)] [] 0
  refine V.aload_n (pc := 0) 0 hC dX3_worthLaw_0 rfl ?_
  refine V.get (pc := 1) (v := .ref (a 26)) hC cf_X3 1 16 fl_X3_47 (by decide) gx_1 rfl dX3_worthLaw_1 ?_
  refine V.iconst (pc := 4) 1 hC dX3_worthLaw_4 (by decide) ?_
  refine V.aldL (pc := 5) hC 17 1 (a 28) gx_17 (nl 1) (by omega) (by decide) rfl dX3_worthLaw_5 ?_
  refine V.astore (pc := 6) [(4, .ref (a 28)), (0, .ref (a 1)), (1, .int x), (2, .int y), (3, .int z)] hC dX3_worthLaw_6 (by decide) rfl ?_
  refine V.aload (pc := 8) 0 hC dX3_worthLaw_8 rfl ?_
  refine V.get (pc := 10) (v := .int (σ 28 0)) hC cf_X0 19 2 fl_X3_78 (by decide) gx_19 rfl dX3_worthLaw_10 ?_
  refine V.eqi (y := ρ 254) (hT.2.2.2.2.2.2.2.1) ?_
  refine V.if_le (pc := 13) 27 hC dX3_worthLaw_13 (by decide) (fun c_13 => ?_) (fun c_13 => ?_)
  · have nc_13 : nN (ρ 254) ≤ 0 := (nle (show ρ 254 = nI (nN (ρ 254)) from hI.ln (u := 1) (by omega)) (nl 0) (by omega) (by omega)).mp c_13
    refine V.bipush (pc := 27) 10 hC dX3_worthLaw_27 (by decide) ?_
    refine V.iload_n (pc := 29) 2 hC dX3_worthLaw_29 rfl ?_
    refine V.imul (pc := 30) hC dX3_worthLaw_30 ?_
    refine V.iload_n (pc := 31) 3 hC dX3_worthLaw_31 rfl ?_
    refine V.isub (pc := 32) hC dX3_worthLaw_32 ?_
    refine V.sipush (pc := 33) (-999) hC dX3_worthLaw_33 (by decide) ?_
    refine V.sipush (pc := 36) 999 hC dX3_worthLaw_36 (by decide) ?_
    refine V.callN0 (pc := 39) (as := [.int ((10 * x) - y), .int (-999), .int 999]) hC (c_X6_hold ((10 * x) - y) (-999) 999 (by decide)) ms_X6_hold (host := RX6) (by simp [nstW]) (by decide) rfl (Nat.le_of_ble_eq_true rfl) dX3_worthLaw_39 ?_
    rintro _ _ rfl
    show V X (wX k g a σ ν) [(4, .ref (a 28)), (0, .ref (a 1)), (1, .int x), (2, .int y), (3, .int z)] [.int (heldS ((10 * x) - y) (-999) 999)] 42
    exact hR (heldS ((10 * x) - y) (-999) 999) (ν 32) _ _ dX3_worthLaw_42 rfl (ri (by rw [givesS, if_neg (by decide), rawS, if_neg (c := 0 < ρ (133 + 121 * 1)) (i_ge c_13), if_neg (by decide)]))
  · have nc_13 : ¬ (nN (ρ 254) ≤ 0) := fun z => c_13 ((nle (show ρ 254 = nI (nN (ρ 254)) from hI.ln (u := 1) (by omega)) (nl 0) (by omega) (by omega)).mpr z)
    refine V.aload (pc := 16) 0 hC dX3_worthLaw_16 rfl ?_
    refine V.iload_n (pc := 18) 2 hC dX3_worthLaw_18 rfl ?_
    refine V.iload_n (pc := 19) 3 hC dX3_worthLaw_19 rfl ?_
    refine V.iload_n (pc := 20) 4 hC dX3_worthLaw_20 rfl ?_
    refine V.callV0 (pc := 21) (as := [.int x, .int y, .int z]) hC (c_X0_gives_1 σ ν ρ x y z hT.2.2.2.2.2.2.2 hI (show 0 < nN (ρ 254) by omega)) mu_X0_gives ml_X3_109 (by decide) ⟨19, 0, TX0, 3, _, rfl, gx_19⟩ rfl (Nat.le_of_ble_eq_true rfl) dX3_worthLaw_21 ?_
    rintro _ f21_0 rfl
    show V X (wX k g a σ (va_up ν 32 f21_0)) [(4, .ref (a 28)), (0, .ref (a 1)), (1, .int x), (2, .int y), (3, .int z)] [.int (ev (acS ρ 1) (wiS ρ 1) (fctS x y z) (nN (ρ (133 + 121 * 1))) 0 [])] 24
    refine V.goto (pc := 24) 33 hC dX3_worthLaw_24 (by decide) ?_
    refine V.sipush (pc := 33) (-999) hC dX3_worthLaw_33 (by decide) ?_
    refine V.sipush (pc := 36) 999 hC dX3_worthLaw_36 (by decide) ?_
    refine V.callN0 (pc := 39) (as := [.int (ev (acS ρ 1) (wiS ρ 1) (fctS x y z) (nN (ρ (133 + 121 * 1))) 0 []), .int (-999), .int 999]) hC (c_X6_hold (ev (acS ρ 1) (wiS ρ 1) (fctS x y z) (nN (ρ (133 + 121 * 1))) 0 []) (-999) 999 (by decide)) ms_X6_hold (host := RX6) (by simp [nstW]) (by decide) rfl (Nat.le_of_ble_eq_true rfl) dX3_worthLaw_39 ?_
    rintro _ _ rfl
    show V X (wX k g a σ (va_up ν 32 f21_0)) [(4, .ref (a 28)), (0, .ref (a 1)), (1, .int x), (2, .int y), (3, .int z)] [.int (heldS (ev (acS ρ 1) (wiS ρ 1) (fctS x y z) (nN (ρ (133 + 121 * 1))) 0 []) (-999) 999)] 42
    exact hR (heldS (ev (acS ρ 1) (wiS ρ 1) (fctS x y z) (nN (ρ (133 + 121 * 1))) 0 []) (-999) 999) (f21_0) _ _ dX3_worthLaw_42 rfl (ri (by rw [givesS, if_neg (by decide), rawS, if_pos (c := 0 < ρ (133 + 121 * 1)) (i_nle c_13)]))
set_option maxHeartbeats 4000000 in
set_option maxRecDepth 100000 in
theorem c_X3_worth {l : Launch} {D : va_G} {k : Nat → ClassId} {g a : Nat → Nat} (σ ν : St) (ρ : Rw) (h : Nat) (t : Int32) (hT : RT σ ρ) (hI : Inv ρ) (hh : h < nN (ρ 3)) (ht : isN t 100000) : Ct l D k g yX3_worth cX3_worth 3 (some .int) 3 72 [.ref (a 1), .int (nI h), .int t] (S := Rw) (wX k g a σ ν) (fun uu => wX k g a σ (va_up ν 32 uu)) (fun vv uu => vv = some (.int (worthS ρ h t))) := by
  refine Ct.ofI RX3 rfl (by decide +kernel) (Nat.le_of_ble_eq_true rfl) (fun X hC hR => ?_)
  have hb4 := hI.hb; have hb8 := hI.mb; have hb6 := hI.pb; have hbm := hI.ob0; have hbt := hI.bb; have hbw := hI.wb
  show V X (wX k g a σ ν) [(0, .ref (a 1)), (1, .int (nI h)), (2, .int t)] [] 0
  refine V.aload_n (pc := 0) 0 hC dX3_worth_0 rfl ?_
  refine V.aload_n (pc := 1) 0 hC dX3_worth_1 rfl ?_
  refine V.get (pc := 2) (v := .ref (a 15)) hC cf_X3 1 5 fl_X3_21 (by decide) gx_1 rfl dX3_worth_2 ?_
  refine V.iload_n (pc := 5) 1 hC dX3_worth_5 rfl ?_
  refine V.iald (pc := 6) (f := σ 15) hC 11 h gx_11 rfl (by omega) (by decide) dX3_worth_6 ?_
  refine V.eqi (y := ρ (16 + 2 * h)) (hT.2.1.2.2 h (by omega)) ?_
  refine V.aload_n (pc := 7) 0 hC dX3_worth_7 rfl ?_
  refine V.aload_n (pc := 8) 0 hC dX3_worth_8 rfl ?_
  refine V.get (pc := 9) (v := .ref (a 14)) hC cf_X3 1 4 fl_X3_18 (by decide) gx_1 rfl dX3_worth_9 ?_
  refine V.iload_n (pc := 12) 1 hC dX3_worth_12 rfl ?_
  refine V.iald (pc := 13) (f := σ 14) hC 10 h gx_10 rfl (by omega) (by decide) dX3_worth_13 ?_
  refine V.eqi (y := ρ (15 + 2 * h)) (hT.2.1.2.1 h (by omega)) ?_
  refine V.iload_n (pc := 14) 2 hC dX3_worth_14 rfl ?_
  refine V.sts (st' := [.int t, .int (nI (nN (ρ (15 + 2 * h)))), .ref (a 1), .int (ρ (16 + 2 * h)), .ref (a 1)]) (stk (stc (hI.rn (by omega)) (stk (stk (stk rfl))))) ?_
  refine V.callV0 (pc := 15) (as := [.int (nI (nN (ρ (15 + 2 * h)))), .int t]) hC (c_X3_markOf σ ν ρ (nN (ρ (15 + 2 * h))) t hT hI (hI.rb hh) ht) mu_X3_markOf ml_X3_97 (by decide) ⟨1, 3, TX3, 17, _, rfl, gx_1⟩ rfl (Nat.le_of_ble_eq_true rfl) dX3_worth_15 ?_
  rintro _ _ rfl
  show V X (wX k g a σ ν) [(0, .ref (a 1)), (1, .int (nI h)), (2, .int t)] [.int (markS ρ (nN (ρ (15 + 2 * h))) t), .int (ρ (16 + 2 * h)), .ref (a 1)] 18
  refine V.iload_n (pc := 18) 1 hC dX3_worth_18 rfl ?_
  refine V.callV0 (pc := 19) (as := [.int (ρ (16 + 2 * h)), .int (markS ρ (nN (ρ (15 + 2 * h))) t), .int (nI h)]) hC (c_X3_worthLaw σ ν ρ (ρ (16 + 2 * h)) (markS ρ (nN (ρ (15 + 2 * h))) t) (nI h) hT hI) mu_X3_worthLaw ml_X3_116 (by decide) ⟨1, 3, TX3, 17, _, rfl, gx_1⟩ rfl (Nat.le_of_ble_eq_true rfl) dX3_worth_19 ?_
  rintro _ f19_0 rfl
  show V X (wX k g a σ (va_up ν 32 f19_0)) [(0, .ref (a 1)), (1, .int (nI h)), (2, .int t)] [.int (givesS ρ 1 (ρ (16 + 2 * h)) (markS ρ (nN (ρ (15 + 2 * h))) t) (nI h))] 22
  exact hR (givesS ρ 1 (ρ (16 + 2 * h)) (markS ρ (nN (ρ (15 + 2 * h))) t) (nI h)) (f19_0) _ _ dX3_worth_22 rfl rfl
set_option maxHeartbeats 4000000 in
set_option maxRecDepth 100000 in
theorem c_X3_leaps {l : Launch} {D : va_G} {k : Nat → ClassId} {g a : Nat → Nat} (σ ν : St) (ρ : Rw) (p : Nat) (t : Int32) (hT : RT σ ρ) (hI : Inv ρ) (hp : p < nN (ρ 4)) : Ct l D k g yX3_leaps cX3_leaps 5 (some .int) 3 72 [.ref (a 1), .int (nI p), .int t] (S := Rw) (wX k g a σ ν) (fun uu => wX k g a σ (va_up ν 31 uu)) (fun vv uu => vv = some (.int (leapsS ρ p t))) := by
  refine Ct.ofI RX3 rfl (by decide +kernel) (Nat.le_of_ble_eq_true rfl) (fun X hC hR => ?_)
  have hb4 := hI.hb; have hb8 := hI.mb; have hb6 := hI.pb; have hbm := hI.ob0; have hbt := hI.bb; have hbw := hI.wb
  show V X (wX k g a σ ν) [(0, .ref (a 1)), (1, .int (nI p)), (2, .int t)] [] 0
  refine V.aload_n (pc := 0) 0 hC dX3_leaps_0 rfl ?_
  refine V.get (pc := 1) (v := .ref (a 18)) hC cf_X3 1 8 fl_X3_27 (by decide) gx_1 rfl dX3_leaps_1 ?_
  refine V.iload_n (pc := 4) 1 hC dX3_leaps_4 rfl ?_
  refine V.iald (pc := 5) (f := σ 18) hC 13 p gx_13 rfl (by omega) (by decide) dX3_leaps_5 ?_
  refine V.eqi (y := ρ (32 + 3 * p)) (hT.2.2.1.2.2.1 p (by omega)) ?_
  refine V.istore_n (pc := 6) [(3, .int (ρ (32 + 3 * p))), (0, .ref (a 1)), (1, .int (nI p)), (2, .int t)] hC dX3_leaps_6 (by decide) rfl ?_
  refine V.aload_n (pc := 7) 1 hC dX3_leaps_7 rfl ?_
  refine V.iload_n (pc := 8) 0 hC dX3_leaps_8 rfl ?_
  refine V.iload_n (pc := 9) 3 hC dX3_leaps_9 rfl ?_
  refine V.aload_n (pc := 10) 1 hC dX3_leaps_10 rfl ?_
  refine V.get (pc := 11) (v := .int (σ 13 0)) hC cf_X3 1 3 fl_X3_60 (by decide) gx_1 rfl dX3_leaps_11 ?_
  refine V.eqi (y := ρ 3) (hT.2.1.1) ?_
  refine V.callV0 (pc := 14) (as := [.int (ρ (32 + 3 * p)), .int t, .int (ρ 3)]) hC (c_X3_leapLaw σ ν ρ (ρ (32 + 3 * p)) t (ρ 3) hT hI) mu_X3_leapLaw ml_X3_119 (by decide) ⟨1, 3, TX3, 17, _, rfl, gx_1⟩ rfl (Nat.le_of_ble_eq_true rfl) dX3_leaps_14 ?_
  rintro _ f14_0 rfl
  show V X (wX k g a σ (va_up ν 31 f14_0)) [(3, .int (ρ (32 + 3 * p))), (0, .ref (a 1)), (1, .int (nI p)), (2, .int t)] [.int (givesS ρ 0 (ρ (32 + 3 * p)) t (ρ 3))] 17
  refine V.istore (pc := 17) [(4, .int (givesS ρ 0 (ρ (32 + 3 * p)) t (ρ 3))), (3, .int (ρ (32 + 3 * p))), (0, .ref (a 1)), (1, .int (nI p)), (2, .int t)] hC dX3_leaps_17 (by decide) rfl ?_
  refine V.aload_n (pc := 19) 2 hC dX3_leaps_19 rfl ?_
  refine V.get (pc := 20) (v := .ref (a 17)) hC cf_X3 1 7 fl_X3_24 (by decide) gx_1 rfl dX3_leaps_20 ?_
  refine V.iload_n (pc := 23) 3 hC dX3_leaps_23 rfl ?_
  refine V.iald (pc := 24) (f := σ 17) hC 12 p gx_12 rfl (by omega) (by decide) dX3_leaps_24 ?_
  refine V.eqi (y := ρ (31 + 3 * p)) (hT.2.2.1.2.1 p (by omega)) ?_
  by_cases s_25_1 : ρ (31 + 3 * p) = 1
  · refine V.tableIn (pc := 25) 64 hC dX3_leaps_25 (by rw [s_25_1]; decide) (by rw [s_25_1]; decide) (by rw [s_25_1]; rfl) (by decide) ?_
    refine V.iload (pc := 64) 0 hC dX3_leaps_64 rfl ?_
    refine V.iconst (pc := 66) 1 hC dX3_leaps_66 (by decide) ?_
    refine V.iadd (pc := 67) hC dX3_leaps_67 ?_
    exact hR ((givesS ρ 0 (ρ (32 + 3 * p)) t (ρ 3)) + 1) (f14_0) _ _ dX3_leaps_68 rfl (ri (by simp [leapsS, leapV, irm, s_25_1]))
  by_cases s_25_2 : ρ (31 + 3 * p) = 2
  · refine V.tableIn (pc := 25) 69 hC dX3_leaps_25 (by rw [s_25_2]; decide) (by rw [s_25_2]; decide) (by rw [s_25_2]; rfl) (by decide) ?_
    refine V.iload (pc := 69) 0 hC dX3_leaps_69 rfl ?_
    refine V.iconst (pc := 71) 2 hC dX3_leaps_71 (by decide) ?_
    refine V.idiv (pc := 72) hC dX3_leaps_72 (by decide) ?_
    exact hR ((givesS ρ 0 (ρ (32 + 3 * p)) t (ρ 3)) / 2) (f14_0) _ _ dX3_leaps_73 rfl (ri (by simp [leapsS, leapV, irm, s_25_2]))
  by_cases s_25_3 : ρ (31 + 3 * p) = 3
  · refine V.tableIn (pc := 25) 74 hC dX3_leaps_25 (by rw [s_25_3]; decide) (by rw [s_25_3]; decide) (by rw [s_25_3]; rfl) (by decide) ?_
    refine V.iload_n (pc := 74) 4 hC dX3_leaps_74 rfl ?_
    refine V.iconst (pc := 75) 2 hC dX3_leaps_75 (by decide) ?_
    refine V.irem (pc := 76) hC dX3_leaps_76 (by decide) ?_
    refine V.if_ne (pc := 77) 87 hC dX3_leaps_77 (by decide) (fun c_77 => ?_) (fun c_77 => ?_)
    · refine V.iload (pc := 87) 0 hC dX3_leaps_87 rfl ?_
      exact hR (givesS ρ 0 (ρ (32 + 3 * p)) t (ρ 3)) (f14_0) _ _ dX3_leaps_89 rfl (ri (by simp [leapsS, leapV, irm, s_25_3, c_77]))
    · refine V.iload (pc := 80) 0 hC dX3_leaps_80 rfl ?_
      refine V.iconst (pc := 82) 2 hC dX3_leaps_82 (by decide) ?_
      refine V.iadd (pc := 83) hC dX3_leaps_83 ?_
      refine V.goto (pc := 84) 89 hC dX3_leaps_84 (by decide) ?_
      exact hR ((givesS ρ 0 (ρ (32 + 3 * p)) t (ρ 3)) + 2) (f14_0) _ _ dX3_leaps_89 rfl (ri (by simp [leapsS, leapV, irm, s_25_3, c_77]))
  by_cases s_25_4 : ρ (31 + 3 * p) = 4
  · refine V.tableIn (pc := 25) 90 hC dX3_leaps_25 (by rw [s_25_4]; decide) (by rw [s_25_4]; decide) (by rw [s_25_4]; rfl) (by decide) ?_
    refine V.iload (pc := 90) 0 hC dX3_leaps_90 rfl ?_
    refine V.iconst (pc := 92) 1 hC dX3_leaps_92 (by decide) ?_
    refine V.iadd (pc := 93) hC dX3_leaps_93 ?_
    refine V.iload_n (pc := 94) 1 hC dX3_leaps_94 rfl ?_
    refine V.iadd (pc := 95) hC dX3_leaps_95 ?_
    exact hR (((givesS ρ 0 (ρ (32 + 3 * p)) t (ρ 3)) + 1) + (ρ (32 + 3 * p))) (f14_0) _ _ dX3_leaps_96 rfl (ri (by simp [leapsS, leapV, irm, s_25_4]))
  by_cases s_25_5 : ρ (31 + 3 * p) = 5
  · refine V.tableIn (pc := 25) 97 hC dX3_leaps_25 (by rw [s_25_5]; decide) (by rw [s_25_5]; decide) (by rw [s_25_5]; rfl) (by decide) ?_
    refine V.iload (pc := 97) 0 hC dX3_leaps_97 rfl ?_
    refine V.iconst (pc := 99) 2 hC dX3_leaps_99 (by decide) ?_
    refine V.idiv (pc := 100) hC dX3_leaps_100 (by decide) ?_
    refine V.iload_n (pc := 101) 1 hC dX3_leaps_101 rfl ?_
    refine V.iadd (pc := 102) hC dX3_leaps_102 ?_
    exact hR (((givesS ρ 0 (ρ (32 + 3 * p)) t (ρ 3)) / 2) + (ρ (32 + 3 * p))) (f14_0) _ _ dX3_leaps_103 rfl (ri (by simp [leapsS, leapV, irm, s_25_5]))
  by_cases s_25_6 : ρ (31 + 3 * p) = 6
  · refine V.tableIn (pc := 25) 104 hC dX3_leaps_25 (by rw [s_25_6]; decide) (by rw [s_25_6]; decide) (by rw [s_25_6]; rfl) (by decide) ?_
    refine V.bipush (pc := 104) 30 hC dX3_leaps_104 (by decide) ?_
    exact hR 30 (f14_0) _ _ dX3_leaps_106 rfl (ri (by simp [leapsS, leapV, irm, s_25_6]))
  refine V.tableOut (pc := 25) 107 hC dX3_leaps_25 (by have ts_25_1 : ¬ (ρ (31 + 3 * p)).toInt = 1 := fun q => s_25_1 (Int32.toInt_inj.mp q); have ts_25_2 : ¬ (ρ (31 + 3 * p)).toInt = 2 := fun q => s_25_2 (Int32.toInt_inj.mp q); have ts_25_3 : ¬ (ρ (31 + 3 * p)).toInt = 3 := fun q => s_25_3 (Int32.toInt_inj.mp q); have ts_25_4 : ¬ (ρ (31 + 3 * p)).toInt = 4 := fun q => s_25_4 (Int32.toInt_inj.mp q); have ts_25_5 : ¬ (ρ (31 + 3 * p)).toInt = 5 := fun q => s_25_5 (Int32.toInt_inj.mp q); have ts_25_6 : ¬ (ρ (31 + 3 * p)).toInt = 6 := fun q => s_25_6 (Int32.toInt_inj.mp q); omega) (by decide) ?_
  refine V.iload (pc := 107) 0 hC dX3_leaps_107 rfl ?_
  exact hR (givesS ρ 0 (ρ (32 + 3 * p)) t (ρ 3)) (f14_0) _ _ dX3_leaps_109 rfl (ri (by simp [leapsS, leapV, irm, s_25_1, s_25_2, s_25_3, s_25_4, s_25_5, s_25_6]))
set_option maxHeartbeats 4000000 in
set_option maxRecDepth 100000 in
theorem c_X3_spans {l : Launch} {D : va_G} {k : Nat → ClassId} {g a : Nat → Nat} (σ ν : St) (ρ : Rw) (p : Nat) (hT : RT σ ρ) (hI : Inv ρ) (hp : p < nN (ρ 4)) : Ct l D k g yX3_spans cX3_spans 3 (some .int) 0 0 [.ref (a 1), .int (nI p)] (S := Unit) (wX k g a σ ν) (fun _ => wX k g a σ ν) (fun vv _ => vv = some (.int (spansS ρ p))) := by
  refine Ct.ofI RX3 rfl (by decide +kernel) (Nat.le_of_ble_eq_true rfl) (fun X hC hR => ?_)
  have hb4 := hI.hb; have hb8 := hI.mb; have hb6 := hI.pb; have hbm := hI.ob0; have hbt := hI.bb; have hbw := hI.wb
  show V X (wX k g a σ ν) [(0, .ref (a 1)), (1, .int (nI p))] [] 0
  refine V.aload_n (pc := 0) 0 hC dX3_spans_0 rfl ?_
  refine V.get (pc := 1) (v := .ref (a 18)) hC cf_X3 1 8 fl_X3_27 (by decide) gx_1 rfl dX3_spans_1 ?_
  refine V.iload_n (pc := 4) 1 hC dX3_spans_4 rfl ?_
  refine V.iald (pc := 5) (f := σ 18) hC 13 p gx_13 rfl (by omega) (by decide) dX3_spans_5 ?_
  refine V.eqi (y := ρ (32 + 3 * p)) (hT.2.2.1.2.2.1 p (by omega)) ?_
  refine V.istore_n (pc := 6) [(2, .int (ρ (32 + 3 * p))), (0, .ref (a 1)), (1, .int (nI p))] hC dX3_spans_6 (by decide) rfl ?_
  refine V.aload_n (pc := 7) 1 hC dX3_spans_7 rfl ?_
  refine V.get (pc := 8) (v := .ref (a 17)) hC cf_X3 1 7 fl_X3_24 (by decide) gx_1 rfl dX3_spans_8 ?_
  refine V.iload_n (pc := 11) 2 hC dX3_spans_11 rfl ?_
  refine V.iald (pc := 12) (f := σ 17) hC 12 p gx_12 rfl (by omega) (by decide) dX3_spans_12 ?_
  refine V.eqi (y := ρ (31 + 3 * p)) (hT.2.2.1.2.1 p (by omega)) ?_
  by_cases s_13_1 : ρ (31 + 3 * p) = 1
  · refine V.tableIn (pc := 13) 52 hC dX3_spans_13 (by rw [s_13_1]; decide) (by rw [s_13_1]; decide) (by rw [s_13_1]; rfl) (by decide) ?_
    refine V.iconst (pc := 52) 1 hC dX3_spans_52 (by decide) ?_
    refine V.iload_n (pc := 53) 0 hC dX3_spans_53 rfl ?_
    refine V.iconst (pc := 54) 3 hC dX3_spans_54 (by decide) ?_
    refine V.irem (pc := 55) hC dX3_spans_55 (by decide) ?_
    refine V.iadd (pc := 56) hC dX3_spans_56 ?_
    exact hR (1 + ((ρ (32 + 3 * p)) - (ρ (32 + 3 * p)) / 3 * 3)) () _ _ dX3_spans_57 rfl (ri (by simp [spansS, spanV, irm, s_13_1]))
  by_cases s_13_2 : ρ (31 + 3 * p) = 2
  · refine V.tableIn (pc := 13) 58 hC dX3_spans_13 (by rw [s_13_2]; decide) (by rw [s_13_2]; decide) (by rw [s_13_2]; rfl) (by decide) ?_
    refine V.iconst (pc := 58) 0 hC dX3_spans_58 (by decide) ?_
    exact hR 0 () _ _ dX3_spans_59 rfl (ri (by simp [spansS, spanV, irm, s_13_2]))
  by_cases s_13_3 : ρ (31 + 3 * p) = 3
  · refine V.tableIn (pc := 13) 65 hC dX3_spans_13 (by rw [s_13_3]; decide) (by rw [s_13_3]; decide) (by rw [s_13_3]; rfl) (by decide) ?_
    refine V.iconst (pc := 65) 1 hC dX3_spans_65 (by decide) ?_
    exact hR 1 () _ _ dX3_spans_66 rfl (ri (by simp [spansS, spanV, irm, s_13_3]))
  by_cases s_13_4 : ρ (31 + 3 * p) = 4
  · refine V.tableIn (pc := 13) 52 hC dX3_spans_13 (by rw [s_13_4]; decide) (by rw [s_13_4]; decide) (by rw [s_13_4]; rfl) (by decide) ?_
    refine V.iconst (pc := 52) 1 hC dX3_spans_52 (by decide) ?_
    refine V.iload_n (pc := 53) 0 hC dX3_spans_53 rfl ?_
    refine V.iconst (pc := 54) 3 hC dX3_spans_54 (by decide) ?_
    refine V.irem (pc := 55) hC dX3_spans_55 (by decide) ?_
    refine V.iadd (pc := 56) hC dX3_spans_56 ?_
    exact hR (1 + ((ρ (32 + 3 * p)) - (ρ (32 + 3 * p)) / 3 * 3)) () _ _ dX3_spans_57 rfl (ri (by simp [spansS, spanV, irm, s_13_4]))
  by_cases s_13_5 : ρ (31 + 3 * p) = 5
  · refine V.tableIn (pc := 13) 60 hC dX3_spans_13 (by rw [s_13_5]; decide) (by rw [s_13_5]; decide) (by rw [s_13_5]; rfl) (by decide) ?_
    refine V.iload_n (pc := 60) 0 hC dX3_spans_60 rfl ?_
    exact hR (ρ (32 + 3 * p)) () _ _ dX3_spans_61 rfl (ri (by simp [spansS, spanV, irm, s_13_5]))
  by_cases s_13_6 : ρ (31 + 3 * p) = 6
  · refine V.tableIn (pc := 13) 62 hC dX3_spans_13 (by rw [s_13_6]; decide) (by rw [s_13_6]; decide) (by rw [s_13_6]; rfl) (by decide) ?_
    refine V.bipush (pc := 62) 9 hC dX3_spans_62 (by decide) ?_
    exact hR 9 () _ _ dX3_spans_64 rfl (ri (by simp [spansS, spanV, irm, s_13_6]))
  refine V.tableOut (pc := 13) 65 hC dX3_spans_13 (by have ts_13_1 : ¬ (ρ (31 + 3 * p)).toInt = 1 := fun q => s_13_1 (Int32.toInt_inj.mp q); have ts_13_2 : ¬ (ρ (31 + 3 * p)).toInt = 2 := fun q => s_13_2 (Int32.toInt_inj.mp q); have ts_13_3 : ¬ (ρ (31 + 3 * p)).toInt = 3 := fun q => s_13_3 (Int32.toInt_inj.mp q); have ts_13_4 : ¬ (ρ (31 + 3 * p)).toInt = 4 := fun q => s_13_4 (Int32.toInt_inj.mp q); have ts_13_5 : ¬ (ρ (31 + 3 * p)).toInt = 5 := fun q => s_13_5 (Int32.toInt_inj.mp q); have ts_13_6 : ¬ (ρ (31 + 3 * p)).toInt = 6 := fun q => s_13_6 (Int32.toInt_inj.mp q); omega) (by decide) ?_
  refine V.iconst (pc := 65) 1 hC dX3_spans_65 (by decide) ?_
  exact hR 1 () _ _ dX3_spans_66 rfl (ri (by simp [spansS, spanV, irm, s_13_1, s_13_2, s_13_3, s_13_4, s_13_5, s_13_6]))
set_option maxHeartbeats 4000000 in
set_option maxRecDepth 100000 in
theorem c_X3_gets {l : Launch} {D : va_G} {k : Nat → ClassId} {g a : Nat → Nat} (σ ν : St) (ρ : Rw) (p h : Nat) (t : Int32) (hT : RT σ ρ) (hI : Inv ρ) (hp : p < nN (ρ 4)) (hh : h < nN (ρ 3)) (ht : isN t 100000) : Ct l D k g yX3_gets cX3_gets 5 (some .boolean) 4 96 [.ref (a 1), .int (nI p), .int (nI h), .int t] (S := Rw) (wX k g a σ ν) (fun uu => wX k g a σ (va_up ν 31 uu)) (fun vv uu => vv = some (.int (bI (getsS ρ p (nN (ρ (33 + 3 * p))) h t)))) := by
  refine Ct.ofI RX3 rfl (by decide +kernel) (Nat.le_of_ble_eq_true rfl) (fun X hC hR => ?_)
  have hb4 := hI.hb; have hb8 := hI.mb; have hb6 := hI.pb; have hbm := hI.ob0; have hbt := hI.bb; have hbw := hI.wb
  have hab := hI.ab hp
  show V X (wX k g a σ ν) [(0, .ref (a 1)), (1, .int (nI p)), (2, .int (nI h)), (3, .int t)] [] 0
  refine V.aload_n (pc := 0) 0 hC dX3_gets_0 rfl ?_
  refine V.get (pc := 1) (v := .ref (a 19)) hC cf_X3 1 9 fl_X3_30 (by decide) gx_1 rfl dX3_gets_1 ?_
  refine V.iload_n (pc := 4) 1 hC dX3_gets_4 rfl ?_
  refine V.iald (pc := 5) (f := σ 19) hC 14 p gx_14 rfl (by omega) (by decide) dX3_gets_5 ?_
  refine V.eqi (y := ρ (33 + 3 * p)) (hT.2.2.1.2.2.2 p (by omega)) ?_
  refine V.istore (pc := 6) [(4, .int (ρ (33 + 3 * p))), (0, .ref (a 1)), (1, .int (nI p)), (2, .int (nI h)), (3, .int t)] hC dX3_gets_6 (by decide) rfl ?_
  refine V.aload_n (pc := 8) 1 hC dX3_gets_8 rfl ?_
  refine V.get (pc := 9) (v := .ref (a 15)) hC cf_X3 1 5 fl_X3_21 (by decide) gx_1 rfl dX3_gets_9 ?_
  refine V.iload (pc := 12) 0 hC dX3_gets_12 rfl ?_
  refine V.iald (pc := 14) (f := σ 15) hC 11 (nN (ρ (33 + 3 * p))) gx_11 (hI.an (by omega)) (by omega) (by decide) dX3_gets_14 ?_
  refine V.eqi (y := ρ (16 + 2 * (nN (ρ (33 + 3 * p))))) (hT.2.1.2.2 (nN (ρ (33 + 3 * p))) (by omega)) ?_
  refine V.aload_n (pc := 15) 1 hC dX3_gets_15 rfl ?_
  refine V.get (pc := 16) (v := .ref (a 15)) hC cf_X3 1 5 fl_X3_21 (by decide) gx_1 rfl dX3_gets_16 ?_
  refine V.iload_n (pc := 19) 3 hC dX3_gets_19 rfl ?_
  refine V.iald (pc := 20) (f := σ 15) hC 11 h gx_11 rfl (by omega) (by decide) dX3_gets_20 ?_
  refine V.eqi (y := ρ (16 + 2 * h)) (hT.2.1.2.2 h (by omega)) ?_
  refine V.isub (pc := 21) hC dX3_gets_21 ?_
  refine V.mabs (pc := 22) hC ml_X3_100 ⟨Nat.le_of_ble_eq_true rfl, Nat.le_of_ble_eq_true rfl⟩ dX3_gets_22 ?_
  refine V.eqi (y := absS ((ρ (16 + 2 * (nN (ρ (33 + 3 * p))))) - (ρ (16 + 2 * h)))) abs_m ?_
  refine V.aload_n (pc := 25) 1 hC dX3_gets_25 rfl ?_
  refine V.iload_n (pc := 26) 2 hC dX3_gets_26 rfl ?_
  refine V.callV0 (pc := 27) (as := [.int (nI p)]) hC (c_X3_spans σ ν ρ p hT hI hp) mu_X3_spans ml_X3_122 (by decide) ⟨1, 3, TX3, 17, _, rfl, gx_1⟩ rfl (Nat.le_of_ble_eq_true rfl) dX3_gets_27 ?_
  rintro _ _ rfl
  show V X (wX k g a σ ν) [(4, .int (ρ (33 + 3 * p))), (0, .ref (a 1)), (1, .int (nI p)), (2, .int (nI h)), (3, .int t)] [.int (spansS ρ p), .int (absS ((ρ (16 + 2 * (nN (ρ (33 + 3 * p))))) - (ρ (16 + 2 * h))))] 30
  refine V.icmp_gt (pc := 30) 64 hC dX3_gets_30 (by decide) (fun c_30 => ?_) (fun c_30 => ?_)
  · refine V.iconst (pc := 64) 0 hC dX3_gets_64 (by decide) ?_
    exact hR 0 (ν 31) _ _ dX3_gets_65 (by first | rfl | exact bI_n _) (rb0 (fun h => i_ge h.1 c_30))
  · refine V.aload_n (pc := 33) 1 hC dX3_gets_33 rfl ?_
    refine V.aload_n (pc := 34) 1 hC dX3_gets_34 rfl ?_
    refine V.get (pc := 35) (v := .ref (a 14)) hC cf_X3 1 4 fl_X3_18 (by decide) gx_1 rfl dX3_gets_35 ?_
    refine V.iload (pc := 38) 0 hC dX3_gets_38 rfl ?_
    refine V.iald (pc := 40) (f := σ 14) hC 10 (nN (ρ (33 + 3 * p))) gx_10 (hI.an (by omega)) (by omega) (by decide) dX3_gets_40 ?_
    refine V.eqi (y := ρ (15 + 2 * (nN (ρ (33 + 3 * p))))) (hT.2.1.2.1 (nN (ρ (33 + 3 * p))) (by omega)) ?_
    refine V.aload_n (pc := 41) 1 hC dX3_gets_41 rfl ?_
    refine V.get (pc := 42) (v := .ref (a 14)) hC cf_X3 1 4 fl_X3_18 (by decide) gx_1 rfl dX3_gets_42 ?_
    refine V.iload_n (pc := 45) 3 hC dX3_gets_45 rfl ?_
    refine V.iald (pc := 46) (f := σ 14) hC 10 h gx_10 rfl (by omega) (by decide) dX3_gets_46 ?_
    refine V.eqi (y := ρ (15 + 2 * h)) (hT.2.1.2.1 h (by omega)) ?_
    refine V.iload_n (pc := 47) 4 hC dX3_gets_47 rfl ?_
    refine V.sts (st' := [.int t, .int (nI (nN (ρ (15 + 2 * h)))), .int (nI (nN (ρ (15 + 2 * (nN (ρ (33 + 3 * p))))))), .ref (a 1)]) (stk (stc (hI.rn (by omega)) (stc (hI.rn (by omega)) (stk rfl)))) ?_
    refine V.callV0 (pc := 48) (as := [.int (nI (nN (ρ (15 + 2 * (nN (ρ (33 + 3 * p))))))), .int (nI (nN (ρ (15 + 2 * h)))), .int t]) hC (c_X3_apart σ ν ρ (nN (ρ (15 + 2 * (nN (ρ (33 + 3 * p)))))) (nN (ρ (15 + 2 * h))) t hT hI (hI.rb hab) (hI.rb hh) ht) mu_X3_apart ml_X3_125 (by decide) ⟨1, 3, TX3, 17, _, rfl, gx_1⟩ rfl (Nat.le_of_ble_eq_true rfl) dX3_gets_48 ?_
    rintro _ _ rfl
    show V X (wX k g a σ ν) [(4, .int (ρ (33 + 3 * p))), (0, .ref (a 1)), (1, .int (nI p)), (2, .int (nI h)), (3, .int t)] [.int (apartS ρ (nN (ρ (15 + 2 * (nN (ρ (33 + 3 * p)))))) (nN (ρ (15 + 2 * h))) t)] 51
    refine V.aload_n (pc := 51) 1 hC dX3_gets_51 rfl ?_
    refine V.iload_n (pc := 52) 2 hC dX3_gets_52 rfl ?_
    refine V.iload_n (pc := 53) 4 hC dX3_gets_53 rfl ?_
    refine V.callV0 (pc := 54) (as := [.int (nI p), .int t]) hC (c_X3_leaps σ ν ρ p t hT hI hp) mu_X3_leaps ml_X3_128 (by decide) ⟨1, 3, TX3, 17, _, rfl, gx_1⟩ rfl (Nat.le_of_ble_eq_true rfl) dX3_gets_54 ?_
    rintro _ f54_0 rfl
    show V X (wX k g a σ (va_up ν 31 f54_0)) [(4, .int (ρ (33 + 3 * p))), (0, .ref (a 1)), (1, .int (nI p)), (2, .int (nI h)), (3, .int t)] [.int (leapsS ρ p t), .int (apartS ρ (nN (ρ (15 + 2 * (nN (ρ (33 + 3 * p)))))) (nN (ρ (15 + 2 * h))) t)] 57
    refine V.icmp_gt (pc := 57) 64 hC dX3_gets_57 (by decide) (fun c_57 => ?_) (fun c_57 => ?_)
    · refine V.iconst (pc := 64) 0 hC dX3_gets_64 (by decide) ?_
      exact hR 0 (f54_0) _ _ dX3_gets_65 (by first | rfl | exact bI_n _) (rb0 (fun h => i_ge h.2 c_57))
    · refine V.iconst (pc := 60) 1 hC dX3_gets_60 (by decide) ?_
      refine V.goto (pc := 61) 65 hC dX3_gets_61 (by decide) ?_
      exact hR 1 (f54_0) _ _ dX3_gets_65 (by first | rfl | exact bI_n _) (rb1 ⟨i_nlt c_30, i_nlt c_57⟩)
