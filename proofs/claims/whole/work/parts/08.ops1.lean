theorem sub_sub_i (x y : Int32) : x - (x - y) = y := by
  apply Int32.toBitVec_inj.mp
  simp only [Int32.toBitVec_sub]
  bv_omega
set_option maxHeartbeats 4000000 in
set_option maxRecDepth 100000 in
theorem c_X7_error {l : Launch} {D : va_G} {k : Nat → ClassId} {g b : Nat → Nat} (μ ν : St) (e : Nat) (v : Int32) (he : e < 7) (hv : v = lowE e) : Ct l D k g yX7_error cX7_error 2 (some .int) 0 0 [.ref (b 20), .int v] (S := Unit) (wM k b μ ν) (fun _ => wM k b (va_up μ 3 (upd (μ 3) e (μ 3 e + 1))) ν) (fun vv _ => vv = some (.int v)) := by
  refine Ct.ofI RX7 rfl (by decide +kernel) (Nat.le_of_ble_eq_true rfl) (fun X hC hR => ?_)
  show V X (wM k b μ ν) [(0, .ref (b 20)), (1, .int v)] [] 0
  refine V.aload_n (pc := 0) 0 hC dX7_error_0 rfl ?_
  refine V.get (pc := 1) (v := .ref (b 3)) hC cf_X7 0 3 fl_X7_16 (by decide) gm_0 rfl dX7_error_1 ?_
  refine V.ldc (pc := 4) (v := (-1000000000)) hC cn_X7_46 dX7_error_4 ?_
  refine V.iload_n (pc := 6) 1 hC dX7_error_6 rfl ?_
  refine V.isub (pc := 7) hC dX7_error_7 ?_
  refine V.dup2 (pc := 8) hC dX7_error_8 rfl rfl ?_
  refine V.iald (pc := 9) (f := μ 3) hC 3 e gm_3 (show -1000000000 - v = nI e by rw [hv, lowE]; exact sub_sub_i _ _) he (by decide) dX7_error_9 ?_
  refine V.iconst (pc := 10) 1 hC dX7_error_10 (by decide) ?_
  refine V.iadd (pc := 11) hC dX7_error_11 ?_
  refine V.iast (pc := 12) (f := μ 3) hC 3 e (wM k b (va_up μ 3 (upd (μ 3) e ((μ 3 e) + 1))) ν) gm_3 (show -1000000000 - v = nI e by rw [hv, lowE]; exact sub_sub_i _ _) he (by decide) rfl dX7_error_12 ?_
  refine V.iload_n (pc := 13) 1 hC dX7_error_13 rfl ?_
  exact hR v () _ _ dX7_error_14 rfl rfl
set_option maxHeartbeats 4000000 in
set_option maxRecDepth 100000 in
theorem c_X7_becomes {l : Launch} {D : va_G} {k : Nat → ClassId} {g b : Nat → Nat} (μ ν : St) (q : Nat) (v : Int32) (hq : q < 375) : Ct l D k g yX7_becomes cX7_becomes 4 (some .int) 0 0 [.ref (b 20), .int (nI q), .int v] (S := Unit) (wM k b μ ν) (fun _ => wM k b (va_up μ 0 (upd (μ 0) q v)) ν) (fun vv _ => vv = some (.int (μ 0 q))) := by
  refine Ct.ofI RX7 rfl (by decide +kernel) (Nat.le_of_ble_eq_true rfl) (fun X hC hR => ?_)
  show V X (wM k b μ ν) [(0, .ref (b 20)), (1, .int (nI q)), (2, .int v)] [] 0
  refine V.aload_n (pc := 0) 0 hC dX7_becomes_0 rfl ?_
  refine V.get (pc := 1) (v := .ref (b 0)) hC cf_X7 0 0 fl_X7_9 (by decide) gm_0 rfl dX7_becomes_1 ?_
  refine V.iload_n (pc := 4) 1 hC dX7_becomes_4 rfl ?_
  refine V.iald (pc := 5) (f := μ 0) hC 1 q gm_1 rfl (by omega) (by decide) dX7_becomes_5 ?_
  refine V.istore_n (pc := 6) [(3, .int (μ 0 q)), (0, .ref (b 20)), (1, .int (nI q)), (2, .int v)] hC dX7_becomes_6 (by decide) rfl ?_
  refine V.aload_n (pc := 7) 1 hC dX7_becomes_7 rfl ?_
  refine V.get (pc := 8) (v := .ref (b 0)) hC cf_X7 0 0 fl_X7_9 (by decide) gm_0 rfl dX7_becomes_8 ?_
  refine V.iload_n (pc := 11) 2 hC dX7_becomes_11 rfl ?_
  refine V.iload_n (pc := 12) 3 hC dX7_becomes_12 rfl ?_
  refine V.iast (pc := 13) (f := μ 0) hC 1 q (wM k b (va_up μ 0 (upd (μ 0) q v)) ν) gm_1 rfl (by omega) (by decide) rfl dX7_becomes_13 ?_
  refine V.iload_n (pc := 14) 0 hC dX7_becomes_14 rfl ?_
  exact hR (μ 0 q) () _ _ dX7_becomes_15 rfl rfl
set_option maxHeartbeats 4000000 in
set_option maxRecDepth 100000 in
theorem c_X7_bits {l : Launch} {D : va_G} {k : Nat → ClassId} {g : Nat → Nat} (c : Nat) (hc : c < 256) : Ct l D k g yX7_bits cX7_bits 3 (some .int) 0 0 [.int (nI c)] (S := Unit) ([]) (fun _ => []) (fun vv _ => vv = some (.int (nI (pc8 c)))) := by
  refine Ct.ofI RX7 rfl (by decide +kernel) (Nat.le_of_ble_eq_true rfl) (fun X hC hR => ?_)
  show V X ([]) [(0, .int (nI c))] [] 0
  refine V.iconst (pc := 0) 0 hC dX7_bits_0 (by decide) ?_
  refine V.istore_n (pc := 1) [(1, .int 0), (0, .int (nI c))] hC dX7_bits_1 (by decide) rfl ?_
  refine V.iload_n (pc := 2) 1 hC dX7_bits_2 rfl ?_
  refine V.istore_n (pc := 3) [(2, .int (nI c)), (1, .int 0), (0, .int (nI c))] hC dX7_bits_3 (by decide) rfl ?_
  have loop_4 : ∀ (n : Nat) (r j : Nat), r ≤ n → r < 256 → j + pc8 r = pc8 c → V X ([]) [(1, .int (nI j)), (2, .int (nI r))] [] 4 := by
    intro n
    induction n with
    | zero =>
      intro r j hr hs hj
      refine V.iload_n (pc := 4) 1 hC dX7_bits_4 rfl ?_
      refine V.if_eq (pc := 5) 20 hC dX7_bits_5 (by decide) (fun c_5 => ?_) (fun c_5 => ?_)
      · have nc_5 : r = 0 := (neq rfl (nl 0) (by omega) (by omega)).mp c_5
        refine V.iload_n (pc := 20) 0 hC dX7_bits_20 rfl ?_
        exact hR (nI j) () _ _ dX7_bits_21 rfl (ri (by rw [show pc8 c = j by have e : r = 0 := nc_5; subst e; exact hj.symm]))
      · have nc_5 : ¬ (r = 0) := fun z => c_5 ((neq rfl (nl 0) (by omega) (by omega)).mpr z)
        exfalso; omega
    | succ n ih =>
      intro r j hr hs hj
      refine V.iload_n (pc := 4) 1 hC dX7_bits_4 rfl ?_
      refine V.if_eq (pc := 5) 20 hC dX7_bits_5 (by decide) (fun c_5 => ?_) (fun c_5 => ?_)
      · have nc_5 : r = 0 := (neq rfl (nl 0) (by omega) (by omega)).mp c_5
        refine V.iload_n (pc := 20) 0 hC dX7_bits_20 rfl ?_
        exact hR (nI j) () _ _ dX7_bits_21 rfl (ri (by rw [show pc8 c = j by have e : r = 0 := nc_5; subst e; exact hj.symm]))
      · have nc_5 : ¬ (r = 0) := fun z => c_5 ((neq rfl (nl 0) (by omega) (by omega)).mpr z)
        refine V.iinc (pc := 8) 0 (nI (j + 1)) [(1, .int (nI (j + 1))), (2, .int (nI r))] hC dX7_bits_8 rfl (ncast (nadd rfl (nl 1)) (by omega)) (by decide) rfl ?_
        refine V.iload_n (pc := 11) 1 hC dX7_bits_11 rfl ?_
        refine V.iload_n (pc := 12) 1 hC dX7_bits_12 rfl ?_
        refine V.iconst (pc := 13) 1 hC dX7_bits_13 (by decide) ?_
        refine V.isub (pc := 14) hC dX7_bits_14 ?_
        refine V.iand (pc := 15) hC dX7_bits_15 ?_
        refine V.eqi (y := nI (r &&& (r - 1))) (pc8_s hs (by omega)).1 ?_
        refine V.istore_n (pc := 16) [(2, .int (nI (r &&& (r - 1)))), (1, .int (nI (j + 1)))] hC dX7_bits_16 (by decide) rfl ?_
        refine V.goto (pc := 17) 4 hC dX7_bits_17 (by decide) ?_
        exact V.sub [1, 0] rfl (ih (r &&& (r - 1)) (j + 1) (by have := (pc8_s hs (by omega)).2.1; omega) (by have := (pc8_s hs (by omega)).2.1; omega) (by have := (pc8_s hs (by omega)).2.2; omega))
  exact V.sub [1, 0] rfl (loop_4 c c 0 (Nat.le_refl c) hc (by omega))
set_option maxHeartbeats 4000000 in
set_option maxRecDepth 100000 in
theorem c_X7_findReach {l : Launch} {D : va_G} {k : Nat → ClassId} {g b : Nat → Nat} (μ ν : St) (p m : Nat) (hI : Inv (μ 0)) (hp : p < 6) (hm : m ≤ 60) : Ct l D k g yX7_findReach cX7_findReach 9 none 4 96 [.ref (b 20), .int (nI p), .int (nI m)] (S := Rw × Rw × Rw) (wM k b μ ν) (fun uu => wM k b μ (va_up (va_up (va_up ν 7 uu.1) 10 uu.2.1) 11 uu.2.2)) (fun vv uu => vv = none ∧ (∀ i x, i < m → x < nN (μ 0 3) → uu.1 (8 * i + x) = wayS (μ 0) p x (μ 0 0 + nI i))) := by
  refine Ct.ofV RX7 rfl (by decide +kernel) (Nat.le_of_ble_eq_true rfl) (fun X hC hR => ?_)
  have hb8 := hI.mb
  show V X (wM k b μ ν) [(0, .ref (b 20)), (1, .int (nI p)), (2, .int (nI m))] [] 0
  refine V.iconst (pc := 0) 0 hC dX7_findReach_0 (by decide) ?_
  refine V.istore_n (pc := 1) [(3, .int 0), (0, .ref (b 20)), (1, .int (nI p)), (2, .int (nI m))] hC dX7_findReach_1 (by decide) rfl ?_
  have loop_2 : ∀ (n : Nat) (i : Nat) (f7 f10 f11 : Rw), i + n = m → (∀ i2 x2, i2 < i → x2 < nN (μ 0 3) → f7 (8 * i2 + x2) = (wayS (μ 0) p x2 (μ 0 0 + nI i2))) → V X (wM k b μ (va_up (va_up (va_up ν 7 f7) 10 f10) 11 f11)) [(3, .int (nI i)), (0, .ref (b 20)), (1, .int (nI p)), (2, .int (nI m))] [] 2 := by
    intro n
    induction n with
    | zero =>
      intro i f7 f10 f11 hi hq
      refine V.iload_n (pc := 2) 0 hC dX7_findReach_2 rfl ?_
      refine V.iload_n (pc := 3) 3 hC dX7_findReach_3 rfl ?_
      refine V.icmp_ge (pc := 4) 118 hC dX7_findReach_4 (by decide) (fun c_4 => ?_) (fun c_4 => ?_)
      · have nc_4 : m ≤ i := (nle rfl rfl (by omega) (by omega)).mp c_4
        exact hR (f7, f10, f11) _ _ dX7_findReach_118 ⟨rfl, fun i2 x2 h1 h2 => hq i2 x2 (by omega) h2⟩
      · have nc_4 : ¬ (m ≤ i) := fun z => c_4 ((nle rfl rfl (by omega) (by omega)).mpr z)
        exfalso; omega
    | succ n ih =>
      intro i f7 f10 f11 hi hq
      refine V.iload_n (pc := 2) 0 hC dX7_findReach_2 rfl ?_
      refine V.iload_n (pc := 3) 3 hC dX7_findReach_3 rfl ?_
      refine V.icmp_ge (pc := 4) 118 hC dX7_findReach_4 (by decide) (fun c_4 => ?_) (fun c_4 => ?_)
      · have nc_4 : m ≤ i := (nle rfl rfl (by omega) (by omega)).mp c_4
        exfalso; omega
      · have nc_4 : ¬ (m ≤ i) := fun z => c_4 ((nle rfl rfl (by omega) (by omega)).mpr z)
        refine V.aload_n (pc := 7) 1 hC dX7_findReach_7 rfl ?_
        refine V.get (pc := 8) (v := .ref (b 0)) hC cf_X7 0 0 fl_X7_9 (by decide) gm_0 rfl dX7_findReach_8 ?_
        refine V.iconst (pc := 11) 0 hC dX7_findReach_11 (by decide) ?_
        refine V.iald (pc := 12) (f := μ 0) hC 1 0 gm_1 (nl 0) (by omega) (by decide) dX7_findReach_12 ?_
        refine V.iload_n (pc := 13) 0 hC dX7_findReach_13 rfl ?_
        refine V.iadd (pc := 14) hC dX7_findReach_14 ?_
        refine V.istore (pc := 15) [(4, .int ((μ 0 0) + (nI i))), (3, .int (nI i)), (0, .ref (b 20)), (1, .int (nI p)), (2, .int (nI m))] hC dX7_findReach_15 (by decide) rfl ?_
        refine V.aload_n (pc := 17) 2 hC dX7_findReach_17 rfl ?_
        refine V.iload_n (pc := 18) 3 hC dX7_findReach_18 rfl ?_
        refine V.iload (pc := 19) 0 hC dX7_findReach_19 rfl ?_
        refine V.callV0 (pc := 21) (as := [.int (nI p), .int ((μ 0 0) + (nI i))]) hC (c_X7_leapsOf μ (va_up (va_up (va_up ν 7 f7) 10 f10) 11 f11) p ((μ 0 0) + (nI i)) hI hp) mu_X7_leapsOf ml_X7_94 (by decide) ⟨0, 7, TX7, 20, _, rfl, gm_0⟩ rfl (Nat.le_of_ble_eq_true rfl) dX7_findReach_21 ?_
        rintro _ ⟨f21_0, f21_1⟩ rfl
        show V X (wM k b μ (va_up (va_up (va_up ν 7 f7) 10 f21_0) 11 f21_1)) [(4, .int ((μ 0 0) + (nI i))), (3, .int (nI i)), (0, .ref (b 20)), (1, .int (nI p)), (2, .int (nI m))] [.int (leapsS (μ 0) p ((μ 0 0) + (nI i)))] 24
        refine V.istore (pc := 24) [(5, .int (leapsS (μ 0) p ((μ 0 0) + (nI i)))), (4, .int ((μ 0 0) + (nI i))), (3, .int (nI i)), (0, .ref (b 20)), (1, .int (nI p)), (2, .int (nI m))] hC dX7_findReach_24 (by decide) rfl ?_
        refine V.iconst (pc := 26) 0 hC dX7_findReach_26 (by decide) ?_
        refine V.istore (pc := 27) [(6, .int 0), (5, .int (leapsS (μ 0) p ((μ 0 0) + (nI i)))), (4, .int ((μ 0 0) + (nI i))), (3, .int (nI i)), (0, .ref (b 20)), (1, .int (nI p)), (2, .int (nI m))] hC dX7_findReach_27 (by decide) rfl ?_
        have loop_29 : ∀ (n : Nat) (x : Nat) (g7 : Rw), x + n = nN (μ 0 3) → (∀ i2 x2, (i2 < i ∧ x2 < nN (μ 0 3)) ∨ (i2 = i ∧ x2 < x) → g7 (8 * i2 + x2) = (wayS (μ 0) p x2 (μ 0 0 + nI i2))) → V X (wM k b μ (va_up (va_up (va_up ν 7 g7) 10 f21_0) 11 f21_1)) [(5, .int (leapsS (μ 0) p ((μ 0 0) + (nI i)))), (4, .int ((μ 0 0) + (nI i))), (3, .int (nI i)), (0, .ref (b 20)), (1, .int (nI p)), (2, .int (nI m)), (6, .int (nI x))] [] 29 := by
          intro n
          induction n with
          | zero =>
            intro x g7 hx hr
            refine V.iload (pc := 29) 6 hC dX7_findReach_29 rfl ?_
            refine V.aload_n (pc := 31) 3 hC dX7_findReach_31 rfl ?_
            refine V.get (pc := 32) (v := .ref (b 0)) hC cf_X7 0 0 fl_X7_9 (by decide) gm_0 rfl dX7_findReach_32 ?_
            refine V.iconst (pc := 35) 3 hC dX7_findReach_35 (by decide) ?_
            refine V.iald (pc := 36) (f := μ 0) hC 1 3 gm_1 (nl 3) (by omega) (by decide) dX7_findReach_36 ?_
            refine V.icmp_ge (pc := 37) 112 hC dX7_findReach_37 (by decide) (fun c_37 => ?_) (fun c_37 => ?_)
            · have nc_37 : nN (μ 0 3) ≤ x := (nle hI.mn rfl (by omega) (by omega)).mp c_37
              refine V.iinc (pc := 112) 2 (nI (i + 1)) [(3, .int (nI (i + 1))), (5, .int (leapsS (μ 0) p ((μ 0 0) + (nI i)))), (4, .int ((μ 0 0) + (nI i))), (0, .ref (b 20)), (1, .int (nI p)), (2, .int (nI m)), (6, .int (nI x))] hC dX7_findReach_112 rfl (ncast (nadd rfl (nl 1)) (by omega)) (by decide) rfl ?_
              refine V.goto (pc := 115) 2 hC dX7_findReach_115 (by decide) ?_
              exact V.sub [0, 3, 4, 5] rfl (ih (i + 1) g7 f21_0 f21_1 (by omega) (fun i2 x2 h1 h2 => hr i2 x2 (by omega)))
            · have nc_37 : ¬ (nN (μ 0 3) ≤ x) := fun z => c_37 ((nle hI.mn rfl (by omega) (by omega)).mpr z)
              exfalso; omega
          | succ n ih =>
            intro x g7 hx hr
            refine V.iload (pc := 29) 6 hC dX7_findReach_29 rfl ?_
            refine V.aload_n (pc := 31) 3 hC dX7_findReach_31 rfl ?_
            refine V.get (pc := 32) (v := .ref (b 0)) hC cf_X7 0 0 fl_X7_9 (by decide) gm_0 rfl dX7_findReach_32 ?_
            refine V.iconst (pc := 35) 3 hC dX7_findReach_35 (by decide) ?_
            refine V.iald (pc := 36) (f := μ 0) hC 1 3 gm_1 (nl 3) (by omega) (by decide) dX7_findReach_36 ?_
            refine V.icmp_ge (pc := 37) 112 hC dX7_findReach_37 (by decide) (fun c_37 => ?_) (fun c_37 => ?_)
            · have nc_37 : nN (μ 0 3) ≤ x := (nle hI.mn rfl (by omega) (by omega)).mp c_37
              exfalso; omega
            · have nc_37 : ¬ (nN (μ 0 3) ≤ x) := fun z => c_37 ((nle hI.mn rfl (by omega) (by omega)).mpr z)
              refine V.iconst (pc := 40) 0 hC dX7_findReach_40 (by decide) ?_
              refine V.istore (pc := 41) [(7, .int 0), (5, .int (leapsS (μ 0) p ((μ 0 0) + (nI i)))), (4, .int ((μ 0 0) + (nI i))), (3, .int (nI i)), (0, .ref (b 20)), (1, .int (nI p)), (2, .int (nI m)), (6, .int (nI x))] hC dX7_findReach_41 (by decide) rfl ?_
              refine V.iconst (pc := 43) 0 hC dX7_findReach_43 (by decide) ?_
              refine V.istore (pc := 44) [(8, .int 0), (7, .int 0), (5, .int (leapsS (μ 0) p ((μ 0 0) + (nI i)))), (4, .int ((μ 0 0) + (nI i))), (3, .int (nI i)), (0, .ref (b 20)), (1, .int (nI p)), (2, .int (nI m)), (6, .int (nI x))] hC dX7_findReach_44 (by decide) rfl ?_
              have loop_46 : ∀ (n : Nat) (j : Nat) (r : Int32), j + n = nN (μ 0 3) → (wayS (μ 0) p x (μ 0 0 + nI i)) = run (fun y s => s ||| (if reachS (μ 0) p x y (μ 0 0 + nI i) (leapsS (μ 0) p (μ 0 0 + nI i)) then b1 (nI y) else 0)) n j r → V X (wM k b μ (va_up (va_up (va_up ν 7 g7) 10 f21_0) 11 f21_1)) [(5, .int (leapsS (μ 0) p ((μ 0 0) + (nI i)))), (4, .int ((μ 0 0) + (nI i))), (3, .int (nI i)), (0, .ref (b 20)), (1, .int (nI p)), (2, .int (nI m)), (6, .int (nI x)), (7, .int r), (8, .int (nI j))] [] 46 := by
                intro n
                induction n with
                | zero =>
                  intro j r hj hw
                  refine V.iload (pc := 46) 8 hC dX7_findReach_46 rfl ?_
                  refine V.aload_n (pc := 48) 3 hC dX7_findReach_48 rfl ?_
                  refine V.get (pc := 49) (v := .ref (b 0)) hC cf_X7 0 0 fl_X7_9 (by decide) gm_0 rfl dX7_findReach_49 ?_
                  refine V.iconst (pc := 52) 3 hC dX7_findReach_52 (by decide) ?_
                  refine V.iald (pc := 53) (f := μ 0) hC 1 3 gm_1 (nl 3) (by omega) (by decide) dX7_findReach_53 ?_
                  refine V.icmp_ge (pc := 54) 92 hC dX7_findReach_54 (by decide) (fun c_54 => ?_) (fun c_54 => ?_)
                  · have nc_54 : nN (μ 0 3) ≤ j := (nle hI.mn rfl (by omega) (by omega)).mp c_54
                    refine V.aload_n (pc := 92) 3 hC dX7_findReach_92 rfl ?_
                    refine V.get (pc := 93) (v := .ref (b 7)) hC cf_X7 0 7 fl_X7_28 (by decide) gm_0 rfl dX7_findReach_93 ?_
                    refine V.bipush (pc := 96) 8 hC dX7_findReach_96 (by decide) ?_
                    refine V.iload_n (pc := 98) 2 hC dX7_findReach_98 rfl ?_
                    refine V.imul (pc := 99) hC dX7_findReach_99 ?_
                    refine V.iload (pc := 100) 6 hC dX7_findReach_100 rfl ?_
                    refine V.iadd (pc := 102) hC dX7_findReach_102 ?_
                    refine V.iload (pc := 103) 7 hC dX7_findReach_103 rfl ?_
                    refine V.iast (pc := 105) (f := g7) hC 7 (8 * i + x) (wM k b μ (va_up (va_up (va_up ν 7 (upd g7 (8 * i + x) r)) 10 f21_0) 11 f21_1)) gm_7 (ncast (b := 8 * i + x) (nadd (nmul (nl 8) rfl) rfl) (by omega)) (by omega) (by decide) rfl dX7_findReach_105 ?_
                    refine V.iinc (pc := 106) 6 (nI (x + 1)) [(6, .int (nI (x + 1))), (5, .int (leapsS (μ 0) p ((μ 0 0) + (nI i)))), (4, .int ((μ 0 0) + (nI i))), (3, .int (nI i)), (0, .ref (b 20)), (1, .int (nI p)), (2, .int (nI m)), (7, .int r), (8, .int (nI j))] hC dX7_findReach_106 rfl (ncast (nadd rfl (nl 1)) (by omega)) (by decide) rfl ?_
                    refine V.goto (pc := 109) 29 hC dX7_findReach_109 (by decide) ?_
                    exact V.sub [1, 2, 3, 4, 5, 6, 0] rfl (ih (x + 1) (upd g7 (8 * i + x) r) (by omega) (fun i2 x2 h => by
          by_cases e : 8 * i2 + x2 = 8 * i + x
          · have e1 : i2 = i := by omega
            have e2 : x2 = x := by omega
            subst e1; subst e2; simp only [upd, if_true]; exact hw.symm
          · simp only [upd, if_neg e]; exact hr i2 x2 (by omega)))
                  · have nc_54 : ¬ (nN (μ 0 3) ≤ j) := fun z => c_54 ((nle hI.mn rfl (by omega) (by omega)).mpr z)
                    exfalso; omega
                | succ n ih =>
                  intro j r hj hw
                  refine V.iload (pc := 46) 8 hC dX7_findReach_46 rfl ?_
                  refine V.aload_n (pc := 48) 3 hC dX7_findReach_48 rfl ?_
                  refine V.get (pc := 49) (v := .ref (b 0)) hC cf_X7 0 0 fl_X7_9 (by decide) gm_0 rfl dX7_findReach_49 ?_
                  refine V.iconst (pc := 52) 3 hC dX7_findReach_52 (by decide) ?_
                  refine V.iald (pc := 53) (f := μ 0) hC 1 3 gm_1 (nl 3) (by omega) (by decide) dX7_findReach_53 ?_
                  refine V.icmp_ge (pc := 54) 92 hC dX7_findReach_54 (by decide) (fun c_54 => ?_) (fun c_54 => ?_)
                  · have nc_54 : nN (μ 0 3) ≤ j := (nle hI.mn rfl (by omega) (by omega)).mp c_54
                    exfalso; omega
                  · have nc_54 : ¬ (nN (μ 0 3) ≤ j) := fun z => c_54 ((nle hI.mn rfl (by omega) (by omega)).mpr z)
                    refine V.iload (pc := 57) 7 hC dX7_findReach_57 rfl ?_
                    refine V.aload_n (pc := 59) 3 hC dX7_findReach_59 rfl ?_
                    refine V.iload_n (pc := 60) 4 hC dX7_findReach_60 rfl ?_
                    refine V.iload (pc := 61) 6 hC dX7_findReach_61 rfl ?_
                    refine V.iload (pc := 63) 8 hC dX7_findReach_63 rfl ?_
                    refine V.iload (pc := 65) 1 hC dX7_findReach_65 rfl ?_
                    refine V.iload (pc := 67) 0 hC dX7_findReach_67 rfl ?_
                    refine V.callV0 (pc := 69) (as := [.int (nI p), .int (nI x), .int (nI j), .int ((μ 0 0) + (nI i)), .int (leapsS (μ 0) p ((μ 0 0) + (nI i)))]) hC (c_X7_isInReach μ (va_up (va_up (va_up ν 7 g7) 10 f21_0) 11 f21_1) p x j ((μ 0 0) + (nI i)) (leapsS (μ 0) p ((μ 0 0) + (nI i))) hI hp (by omega) (by omega)) mu_X7_isInReach ml_X7_97 (by decide) ⟨0, 7, TX7, 20, _, rfl, gm_0⟩ rfl (Nat.le_of_ble_eq_true rfl) dX7_findReach_69 ?_
                    rintro _ _ rfl
                    show V X (wM k b μ (va_up (va_up (va_up ν 7 g7) 10 f21_0) 11 f21_1)) [(5, .int (leapsS (μ 0) p ((μ 0 0) + (nI i)))), (4, .int ((μ 0 0) + (nI i))), (3, .int (nI i)), (0, .ref (b 20)), (1, .int (nI p)), (2, .int (nI m)), (6, .int (nI x)), (7, .int r), (8, .int (nI j))] [.int (bI (reachS (μ 0) p x j ((μ 0 0) + (nI i)) (leapsS (μ 0) p ((μ 0 0) + (nI i))))), .int r] 72
                    refine V.if_eq_b (P := reachS (μ 0) p x j ((μ 0 0) + (nI i)) (leapsS (μ 0) p ((μ 0 0) + (nI i)))) (pc := 72) 82 hC dX7_findReach_72 (by decide) (fun c_72 => ?_) (fun c_72 => ?_)
                    · refine V.iconst (pc := 82) 0 hC dX7_findReach_82 (by decide) ?_
                      refine V.ior (pc := 83) hC dX7_findReach_83 ?_
                      refine V.istore (pc := 84) [(7, .int (r ||| 0)), (5, .int (leapsS (μ 0) p ((μ 0 0) + (nI i)))), (4, .int ((μ 0 0) + (nI i))), (3, .int (nI i)), (0, .ref (b 20)), (1, .int (nI p)), (2, .int (nI m)), (6, .int (nI x)), (8, .int (nI j))] hC dX7_findReach_84 (by decide) rfl ?_
                      refine V.iinc (pc := 86) 8 (nI (j + 1)) [(8, .int (nI (j + 1))), (7, .int (r ||| 0)), (5, .int (leapsS (μ 0) p ((μ 0 0) + (nI i)))), (4, .int ((μ 0 0) + (nI i))), (3, .int (nI i)), (0, .ref (b 20)), (1, .int (nI p)), (2, .int (nI m)), (6, .int (nI x))] hC dX7_findReach_86 rfl (ncast (nadd rfl (nl 1)) (by omega)) (by decide) rfl ?_
                      refine V.goto (pc := 89) 46 hC dX7_findReach_89 (by decide) ?_
                      exact V.sub [2, 3, 4, 5, 6, 7, 8, 1, 0] rfl (ih (j + 1) (r ||| 0) (by omega) (run_next hw (by show r ||| _ = _; rw [if_neg c_72] <;> rfl)))
                    · refine V.iconst (pc := 75) 1 hC dX7_findReach_75 (by decide) ?_
                      refine V.iload (pc := 76) 8 hC dX7_findReach_76 rfl ?_
                      refine V.ishl (pc := 78) hC dX7_findReach_78 ?_
                      refine V.goto (pc := 79) 83 hC dX7_findReach_79 (by decide) ?_
                      refine V.ior (pc := 83) hC dX7_findReach_83 ?_
                      refine V.istore (pc := 84) [(7, .int (r ||| (1 <<< ((nI j) &&& 31)))), (5, .int (leapsS (μ 0) p ((μ 0 0) + (nI i)))), (4, .int ((μ 0 0) + (nI i))), (3, .int (nI i)), (0, .ref (b 20)), (1, .int (nI p)), (2, .int (nI m)), (6, .int (nI x)), (8, .int (nI j))] hC dX7_findReach_84 (by decide) rfl ?_
                      refine V.iinc (pc := 86) 8 (nI (j + 1)) [(8, .int (nI (j + 1))), (7, .int (r ||| (1 <<< ((nI j) &&& 31)))), (5, .int (leapsS (μ 0) p ((μ 0 0) + (nI i)))), (4, .int ((μ 0 0) + (nI i))), (3, .int (nI i)), (0, .ref (b 20)), (1, .int (nI p)), (2, .int (nI m)), (6, .int (nI x))] hC dX7_findReach_86 rfl (ncast (nadd rfl (nl 1)) (by omega)) (by decide) rfl ?_
                      refine V.goto (pc := 89) 46 hC dX7_findReach_89 (by decide) ?_
                      exact V.sub [2, 3, 4, 5, 6, 7, 8, 1, 0] rfl (ih (j + 1) (r ||| (1 <<< ((nI j) &&& 31))) (by omega) (run_next hw (by show r ||| _ = _; rw [if_pos c_72] <;> rfl)))
              exact V.sub [2, 3, 4, 5, 6, 7, 8, 1, 0] rfl (loop_46 (nN (μ 0 3)) 0 0 (by omega) rfl)
        exact V.sub [1, 2, 3, 4, 5, 6, 0] rfl (loop_29 (nN (μ 0 3)) 0 f7 (by omega) (fun i2 x2 h => hq i2 x2 (by omega) (by omega)))
  exact V.sub [0, 1, 2, 3] rfl (loop_2 m 0 (ν 7) (ν 10) (ν 11) (by omega) (fun i2 x2 h => absurd h (Nat.not_lt_zero i2)))
set_option maxHeartbeats 4000000 in
set_option maxRecDepth 100000 in
theorem c_X7_roomsBut {l : Launch} {D : va_G} {k : Nat → ClassId} {g b : Nat → Nat} (μ ν : St) (p m : Nat) (shut : Int32) (hI : Inv (μ 0)) (hp : p < 6) (hm : m ≤ 60) : Ct l D k g yX7_roomsBut cX7_roomsBut 8 (some .int) 1 22 [.ref (b 20), .int (nI p), .int (nI m), .int shut] (S := Unit) (wM k b μ ν) (fun _ => wM k b μ ν) (fun vv _ => vv = some (.int (roomsButS (μ 0) (ν 7) p m shut))) := by
  refine Ct.ofI RX7 rfl (by decide +kernel) (Nat.le_of_ble_eq_true rfl) (fun X hC hR => ?_)
  have hb8 := hI.mb
  show V X (wM k b μ ν) [(0, .ref (b 20)), (1, .int (nI p)), (2, .int (nI m)), (3, .int shut)] [] 0
  refine V.iconst (pc := 0) 1 hC dX7_roomsBut_0 (by decide) ?_
  refine V.aload_n (pc := 1) 0 hC dX7_roomsBut_1 rfl ?_
  refine V.iload_n (pc := 2) 1 hC dX7_roomsBut_2 rfl ?_
  refine V.iconst (pc := 3) 2 hC dX7_roomsBut_3 (by decide) ?_
  refine V.sts (st' := [.int (nI 2), .int (nI p), .ref (b 20), .int 1]) (stc (nl 2) (stk (stk (stk rfl)))) ?_
  refine V.callV0 (pc := 4) (as := [.int (nI p), .int (nI 2)]) hC (c_X7_of μ ν p 2 hp (by omega)) mu_X7_of ml_X7_72 (by decide) ⟨0, 7, TX7, 20, _, rfl, gm_0⟩ rfl (Nat.le_of_ble_eq_true rfl) dX7_roomsBut_4 ?_
  rintro _ _ rfl
  show V X (wM k b μ ν) [(0, .ref (b 20)), (1, .int (nI p)), (2, .int (nI m)), (3, .int shut)] [.int (μ 0 (31 + 3 * p + 2)), .int 1] 7
  refine V.eqi (y := μ 0 (33 + 3 * p)) (congrArg (μ 0) (by omega)) ?_
  refine V.ishl (pc := 7) hC dX7_roomsBut_7 ?_
  refine V.istore (pc := 8) [(4, .int (1 <<< ((μ 0 (33 + 3 * p)) &&& 31))), (0, .ref (b 20)), (1, .int (nI p)), (2, .int (nI m)), (3, .int shut)] hC dX7_roomsBut_8 (by decide) rfl ?_
  refine V.iconst (pc := 10) 0 hC dX7_roomsBut_10 (by decide) ?_
  refine V.istore (pc := 11) [(5, .int 0), (4, .int (1 <<< ((μ 0 (33 + 3 * p)) &&& 31))), (0, .ref (b 20)), (1, .int (nI p)), (2, .int (nI m)), (3, .int shut)] hC dX7_roomsBut_11 (by decide) rfl ?_
  have loop_13 : ∀ (n : Nat) (i : Nat) (s : Int32), i + n = m → roomsButS (μ 0) (ν 7) p m shut = run (fun i s => run (butF (μ 0) (ν 7) i shut s) (nN (μ 0 3)) 0 s) n i s → V X (wM k b μ ν) [(0, .ref (b 20)), (1, .int (nI p)), (2, .int (nI m)), (3, .int shut), (4, .int s), (5, .int (nI i))] [] 13 := by
    intro n
    induction n with
    | zero =>
      intro i s hi hv
      refine V.iload (pc := 13) 5 hC dX7_roomsBut_13 rfl ?_
      refine V.iload_n (pc := 15) 2 hC dX7_roomsBut_15 rfl ?_
      refine V.icmp_ge (pc := 16) 90 hC dX7_roomsBut_16 (by decide) (fun c_16 => ?_) (fun c_16 => ?_)
      · have nc_16 : m ≤ i := (nle rfl rfl (by omega) (by omega)).mp c_16
        refine V.iload (pc := 90) 4 hC dX7_roomsBut_90 rfl ?_
        exact hR s () _ _ dX7_roomsBut_92 rfl (ri hv.symm)
      · have nc_16 : ¬ (m ≤ i) := fun z => c_16 ((nle rfl rfl (by omega) (by omega)).mpr z)
        exfalso; omega
    | succ n ih =>
      intro i s hi hv
      refine V.iload (pc := 13) 5 hC dX7_roomsBut_13 rfl ?_
      refine V.iload_n (pc := 15) 2 hC dX7_roomsBut_15 rfl ?_
      refine V.icmp_ge (pc := 16) 90 hC dX7_roomsBut_16 (by decide) (fun c_16 => ?_) (fun c_16 => ?_)
      · have nc_16 : m ≤ i := (nle rfl rfl (by omega) (by omega)).mp c_16
        exfalso; omega
      · have nc_16 : ¬ (m ≤ i) := fun z => c_16 ((nle rfl rfl (by omega) (by omega)).mpr z)
        refine V.iload (pc := 19) 4 hC dX7_roomsBut_19 rfl ?_
        refine V.istore (pc := 21) [(6, .int s), (0, .ref (b 20)), (1, .int (nI p)), (2, .int (nI m)), (3, .int shut), (4, .int s), (5, .int (nI i))] hC dX7_roomsBut_21 (by decide) rfl ?_
        refine V.iconst (pc := 23) 0 hC dX7_roomsBut_23 (by decide) ?_
        refine V.istore (pc := 24) [(7, .int 0), (6, .int s), (0, .ref (b 20)), (1, .int (nI p)), (2, .int (nI m)), (3, .int shut), (4, .int s), (5, .int (nI i))] hC dX7_roomsBut_24 (by decide) rfl ?_
        have loop_26 : ∀ (n : Nat) (j : Nat) (r : Int32), j + n = nN (μ 0 3) → run (butF (μ 0) (ν 7) i shut s) (nN (μ 0 3)) 0 s = run (butF (μ 0) (ν 7) i shut s) n j r → V X (wM k b μ ν) [(0, .ref (b 20)), (1, .int (nI p)), (2, .int (nI m)), (3, .int shut), (4, .int s), (5, .int (nI i)), (6, .int r), (7, .int (nI j))] [] 26 := by
          intro n
          induction n with
          | zero =>
            intro j r hj hw
            refine V.iload (pc := 26) 7 hC dX7_roomsBut_26 rfl ?_
            refine V.aload_n (pc := 28) 0 hC dX7_roomsBut_28 rfl ?_
            refine V.get (pc := 29) (v := .ref (b 0)) hC cf_X7 0 0 fl_X7_9 (by decide) gm_0 rfl dX7_roomsBut_29 ?_
            refine V.iconst (pc := 32) 3 hC dX7_roomsBut_32 (by decide) ?_
            refine V.iald (pc := 33) (f := μ 0) hC 1 3 gm_1 (nl 3) (by omega) (by decide) dX7_roomsBut_33 ?_
            refine V.icmp_ge (pc := 34) 80 hC dX7_roomsBut_34 (by decide) (fun c_34 => ?_) (fun c_34 => ?_)
            · have nc_34 : nN (μ 0 3) ≤ j := (nle hI.mn rfl (by omega) (by omega)).mp c_34
              refine V.iload (pc := 80) 6 hC dX7_roomsBut_80 rfl ?_
              refine V.istore (pc := 82) [(4, .int r), (0, .ref (b 20)), (1, .int (nI p)), (2, .int (nI m)), (3, .int shut), (5, .int (nI i)), (6, .int r), (7, .int (nI j))] hC dX7_roomsBut_82 (by decide) rfl ?_
              refine V.iinc (pc := 84) 5 (nI (i + 1)) [(5, .int (nI (i + 1))), (4, .int r), (0, .ref (b 20)), (1, .int (nI p)), (2, .int (nI m)), (3, .int shut), (6, .int r), (7, .int (nI j))] hC dX7_roomsBut_84 rfl (ncast (nadd rfl (nl 1)) (by omega)) (by decide) rfl ?_
              refine V.goto (pc := 87) 13 hC dX7_roomsBut_87 (by decide) ?_
              exact V.sub [2, 3, 4, 5, 1, 0] rfl (ih (i + 1) r (by omega) (run_next hv hw))
            · have nc_34 : ¬ (nN (μ 0 3) ≤ j) := fun z => c_34 ((nle hI.mn rfl (by omega) (by omega)).mpr z)
              exfalso; omega
          | succ n ih =>
            intro j r hj hw
            refine V.iload (pc := 26) 7 hC dX7_roomsBut_26 rfl ?_
            refine V.aload_n (pc := 28) 0 hC dX7_roomsBut_28 rfl ?_
            refine V.get (pc := 29) (v := .ref (b 0)) hC cf_X7 0 0 fl_X7_9 (by decide) gm_0 rfl dX7_roomsBut_29 ?_
            refine V.iconst (pc := 32) 3 hC dX7_roomsBut_32 (by decide) ?_
            refine V.iald (pc := 33) (f := μ 0) hC 1 3 gm_1 (nl 3) (by omega) (by decide) dX7_roomsBut_33 ?_
            refine V.icmp_ge (pc := 34) 80 hC dX7_roomsBut_34 (by decide) (fun c_34 => ?_) (fun c_34 => ?_)
            · have nc_34 : nN (μ 0 3) ≤ j := (nle hI.mn rfl (by omega) (by omega)).mp c_34
              exfalso; omega
            · have nc_34 : ¬ (nN (μ 0 3) ≤ j) := fun z => c_34 ((nle hI.mn rfl (by omega) (by omega)).mpr z)
              refine V.iload (pc := 37) 6 hC dX7_roomsBut_37 rfl ?_
              refine V.iload (pc := 39) 4 hC dX7_roomsBut_39 rfl ?_
              refine V.iload (pc := 41) 7 hC dX7_roomsBut_41 rfl ?_
              refine V.ishr (pc := 43) hC dX7_roomsBut_43 ?_
              refine V.iconst (pc := 44) 1 hC dX7_roomsBut_44 (by decide) ?_
              refine V.iand (pc := 45) hC dX7_roomsBut_45 ?_
              refine V.iconst (pc := 46) 1 hC dX7_roomsBut_46 (by decide) ?_
              refine V.icmp_ne (pc := 47) 70 hC dX7_roomsBut_47 (by decide) (fun c_47 => ?_) (fun c_47 => ?_)
              · refine V.iconst (pc := 70) 0 hC dX7_roomsBut_70 (by decide) ?_
                refine V.ior (pc := 71) hC dX7_roomsBut_71 ?_
                refine V.istore (pc := 72) [(6, .int (r ||| 0)), (0, .ref (b 20)), (1, .int (nI p)), (2, .int (nI m)), (3, .int shut), (4, .int s), (5, .int (nI i)), (7, .int (nI j))] hC dX7_roomsBut_72 (by decide) rfl ?_
                refine V.iinc (pc := 74) 7 (nI (j + 1)) [(7, .int (nI (j + 1))), (6, .int (r ||| 0)), (0, .ref (b 20)), (1, .int (nI p)), (2, .int (nI m)), (3, .int shut), (4, .int s), (5, .int (nI i))] hC dX7_roomsBut_74 rfl (ncast (nadd rfl (nl 1)) (by omega)) (by decide) rfl ?_
                refine V.goto (pc := 77) 26 hC dX7_roomsBut_77 (by decide) ?_
                exact V.sub [2, 3, 4, 5, 6, 7, 1, 0] rfl (ih (j + 1) (r ||| 0) (by omega) (run_next hw (by show r ||| _ = _; rw [if_neg (show ¬ bitS s (nI j) = 1 from c_47)] <;> rfl)))
              · refine V.aload_n (pc := 50) 0 hC dX7_roomsBut_50 rfl ?_
                refine V.get (pc := 51) (v := .ref (b 7)) hC cf_X7 0 7 fl_X7_28 (by decide) gm_0 rfl dX7_roomsBut_51 ?_
                refine V.bipush (pc := 54) 8 hC dX7_roomsBut_54 (by decide) ?_
                refine V.iload (pc := 56) 5 hC dX7_roomsBut_56 rfl ?_
                refine V.imul (pc := 58) hC dX7_roomsBut_58 ?_
                refine V.iload (pc := 59) 7 hC dX7_roomsBut_59 rfl ?_
                refine V.iadd (pc := 61) hC dX7_roomsBut_61 ?_
                refine V.iald (pc := 62) (f := ν 7) hC 7 (8 * i + j) gm_7 (ncast (b := 8 * i + j) (nadd (nmul (nl 8) rfl) rfl) (by omega)) (by omega) (by decide) dX7_roomsBut_62 ?_
                refine V.iload_n (pc := 63) 3 hC dX7_roomsBut_63 rfl ?_
                refine V.iconst (pc := 64) (-1) hC dX7_roomsBut_64 (by decide) ?_
                refine V.ixor (pc := 65) hC dX7_roomsBut_65 ?_
                refine V.iand (pc := 66) hC dX7_roomsBut_66 ?_
                refine V.goto (pc := 67) 71 hC dX7_roomsBut_67 (by decide) ?_
                refine V.ior (pc := 71) hC dX7_roomsBut_71 ?_
                refine V.istore (pc := 72) [(6, .int (r ||| ((ν 7 (8 * i + j)) &&& (shut ^^^ (-1))))), (0, .ref (b 20)), (1, .int (nI p)), (2, .int (nI m)), (3, .int shut), (4, .int s), (5, .int (nI i)), (7, .int (nI j))] hC dX7_roomsBut_72 (by decide) rfl ?_
                refine V.iinc (pc := 74) 7 (nI (j + 1)) [(7, .int (nI (j + 1))), (6, .int (r ||| ((ν 7 (8 * i + j)) &&& (shut ^^^ (-1))))), (0, .ref (b 20)), (1, .int (nI p)), (2, .int (nI m)), (3, .int shut), (4, .int s), (5, .int (nI i))] hC dX7_roomsBut_74 rfl (ncast (nadd rfl (nl 1)) (by omega)) (by decide) rfl ?_
                refine V.goto (pc := 77) 26 hC dX7_roomsBut_77 (by decide) ?_
                exact V.sub [2, 3, 4, 5, 6, 7, 1, 0] rfl (ih (j + 1) (r ||| ((ν 7 (8 * i + j)) &&& (shut ^^^ (-1)))) (by omega) (run_next hw (by show r ||| _ = _; rw [if_pos (show bitS s (nI j) = 1 from c_47)] <;> rfl)))
        exact V.sub [2, 3, 4, 5, 6, 7, 1, 0] rfl (loop_26 (nN (μ 0 3)) 0 s (by omega) rfl)
  exact V.sub [2, 3, 4, 5, 1, 0] rfl (loop_13 m 0 _ (by omega) rfl)
set_option maxHeartbeats 4000000 in
set_option maxRecDepth 100000 in
theorem c_X7_hand {l : Launch} {D : va_G} {k : Nat → ClassId} {g b : Nat → Nat} (μ ν : St) (t o : Int32) (hI : Inv (μ 0)) : Ct l D k g yX7_hand cX7_hand 4 (some .int) 1 22 [.ref (b 20), .int t, .int o] (S := St) (wM k b μ ν) (fun uu => wM k b uu ν) (fun vv uu => vv = some (.int ((op_hand t o μ).1)) ∧ uu = (op_hand t o μ).2) := by
  refine Ct.ofI RX7 rfl (by decide +kernel) (Nat.le_of_ble_eq_true rfl) (fun X hC hR => ?_)
  have hb4 := hI.hb; have hb8 := hI.mb; have hb6 := hI.pb; have hbm := hI.ob0; have hbt := hI.bb; have hbw := hI.wb
  show V X (wM k b μ ν) [(0, .ref (b 20)), (1, .int t), (2, .int o)] [] 0
  refine V.iload_n (pc := 0) 1 hC dX7_hand_0 rfl ?_
  refine V.iconst (pc := 1) 1 hC dX7_hand_1 (by decide) ?_
  refine V.sipush (pc := 2) 1440 hC dX7_hand_2 (by decide) ?_
  refine V.callS0 (pc := 5) (as := [.int t, .int 1, .int 1440]) hC (c_X7_in t 1 1440 ) ms_X7_in ml_X7_47 (by decide) rfl (Nat.le_of_ble_eq_true rfl) dX7_hand_5 ?_
  rintro _ _ rfl
  show V X (wM k b μ ν) [(0, .ref (b 20)), (1, .int t), (2, .int o)] [.int (bI (inS t 1 1440))] 8
  refine V.if_eq_b (P := inS t 1 1440) (pc := 8) 22 hC dX7_hand_8 (by decide) (fun c_8 => ?_) (fun c_8 => ?_)
  · refine V.aload_n (pc := 22) 0 hC dX7_hand_22 rfl ?_
    refine V.ldc (pc := 23) (v := (-1000000001)) hC cn_X7_55 dX7_hand_23 ?_
    refine V.callV0 (pc := 25) (as := [.int (-1000000001)]) hC (c_X7_error μ ν 1 (-1000000001) (by omega) (by decide)) mu_X7_error ml_X7_56 (by decide) ⟨0, 7, TX7, 20, _, rfl, gm_0⟩ rfl (Nat.le_of_ble_eq_true rfl) dX7_hand_25 ?_
    rintro _ _ rfl
    show V X (wM k b (va_up μ 3 (upd (μ 3) 1 (μ 3 1 + 1))) ν) [(0, .ref (b 20)), (1, .int t), (2, .int o)] [.int (-1000000001)] 28
    exact hR (-1000000001) ((va_up μ 3 (upd (μ 3) 1 (μ 3 1 + 1)))) _ _ dX7_hand_28 rfl (opr (by simp only [op_hand, c_8, inS, hndS, homS, prsS, shtS, if_true, if_false, not_true_eq_false, not_false_eq_true, true_and, and_true, false_and, and_false, true_or, or_true, or_false, false_or, er_1, er_2, er_3, er_4, er_5, er_6] <;> rfl))
  · refine V.iload_n (pc := 11) 2 hC dX7_hand_11 rfl ?_
    refine V.iconst (pc := 12) 0 hC dX7_hand_12 (by decide) ?_
    refine V.sipush (pc := 13) 1439 hC dX7_hand_13 (by decide) ?_
    refine V.callS0 (pc := 16) (as := [.int o, .int 0, .int 1439]) hC (c_X7_in o 0 1439 ) ms_X7_in ml_X7_47 (by decide) rfl (Nat.le_of_ble_eq_true rfl) dX7_hand_16 ?_
    rintro _ _ rfl
    show V X (wM k b μ ν) [(0, .ref (b 20)), (1, .int t), (2, .int o)] [.int (bI (inS o 0 1439))] 19
    refine V.if_ne_b (P := inS o 0 1439) (pc := 19) 29 hC dX7_hand_19 (by decide) (fun c_19 => ?_) (fun c_19 => ?_)
    · refine V.aload_n (pc := 29) 0 hC dX7_hand_29 rfl ?_
      refine V.get (pc := 30) (v := .ref (b 0)) hC cf_X7 0 0 fl_X7_9 (by decide) gm_0 rfl dX7_hand_30 ?_
      refine V.iconst (pc := 33) 2 hC dX7_hand_33 (by decide) ?_
      refine V.iald (pc := 34) (f := μ 0) hC 1 2 gm_1 (nl 2) (by omega) (by decide) dX7_hand_34 ?_
      refine V.istore_n (pc := 35) [(3, .int (μ 0 2)), (0, .ref (b 20)), (1, .int t), (2, .int o)] hC dX7_hand_35 (by decide) rfl ?_
      refine V.iload_n (pc := 36) 0 hC dX7_hand_36 rfl ?_
      refine V.iconst (pc := 37) 4 hC dX7_hand_37 (by decide) ?_
      refine V.icmp_ne (pc := 38) 48 hC dX7_hand_38 (by decide) (fun c_38 => ?_) (fun c_38 => ?_)
      · have nc_38 : ¬ (nN (μ 0 2) = 4) := fun z => c_38 ((neq hI.hn (nl 4) (by omega) (by omega)).mpr z)
        refine V.aload_n (pc := 48) 1 hC dX7_hand_48 rfl ?_
        refine V.get (pc := 49) (v := .ref (b 0)) hC cf_X7 0 0 fl_X7_9 (by decide) gm_0 rfl dX7_hand_49 ?_
        refine V.iconst (pc := 52) 2 hC dX7_hand_52 (by decide) ?_
        refine V.dup2 (pc := 53) hC dX7_hand_53 rfl rfl ?_
        refine V.iald (pc := 54) (f := μ 0) hC 1 2 gm_1 (nl 2) (by omega) (by decide) dX7_hand_54 ?_
        refine V.iconst (pc := 55) 1 hC dX7_hand_55 (by decide) ?_
        refine V.iadd (pc := 56) hC dX7_hand_56 ?_
        refine V.iast (pc := 57) (f := μ 0) hC 1 2 (wM k b (va_up μ 0 (upd (μ 0) 2 ((μ 0 2) + 1))) ν) gm_1 (nl 2) (by omega) (by decide) rfl dX7_hand_57 ?_
        refine V.aload_n (pc := 58) 1 hC dX7_hand_58 rfl ?_
        refine V.get (pc := 59) (v := .ref (b 0)) hC cf_X7 0 0 fl_X7_9 (by decide) gm_0 rfl dX7_hand_59 ?_
        refine V.bipush (pc := 62) 7 hC dX7_hand_62 (by decide) ?_
        refine V.iconst (pc := 64) 2 hC dX7_hand_64 (by decide) ?_
        refine V.iload_n (pc := 65) 0 hC dX7_hand_65 rfl ?_
        refine V.imul (pc := 66) hC dX7_hand_66 ?_
        refine V.iadd (pc := 67) hC dX7_hand_67 ?_
        refine V.iload_n (pc := 68) 2 hC dX7_hand_68 rfl ?_
        refine V.iast (pc := 69) (f := upd (μ 0) 2 ((μ 0 2) + 1)) hC 1 (7 + 2 * nN (μ 0 2)) (wM k b (va_up μ 0 (upd (upd (μ 0) 2 ((μ 0 2) + 1)) (7 + 2 * nN (μ 0 2)) t)) ν) gm_1 (ncast (b := 7 + 2 * nN (μ 0 2)) (nadd (nl 7) (nmul (nl 2) hI.hn)) (by omega)) (by omega) (by decide) rfl dX7_hand_69 ?_
        refine V.aload_n (pc := 70) 1 hC dX7_hand_70 rfl ?_
        refine V.get (pc := 71) (v := .ref (b 0)) hC cf_X7 0 0 fl_X7_9 (by decide) gm_0 rfl dX7_hand_71 ?_
        refine V.bipush (pc := 74) 7 hC dX7_hand_74 (by decide) ?_
        refine V.iconst (pc := 76) 2 hC dX7_hand_76 (by decide) ?_
        refine V.iload_n (pc := 77) 0 hC dX7_hand_77 rfl ?_
        refine V.imul (pc := 78) hC dX7_hand_78 ?_
        refine V.iadd (pc := 79) hC dX7_hand_79 ?_
        refine V.iconst (pc := 80) 1 hC dX7_hand_80 (by decide) ?_
        refine V.iadd (pc := 81) hC dX7_hand_81 ?_
        refine V.iload_n (pc := 82) 3 hC dX7_hand_82 rfl ?_
        refine V.iast (pc := 83) (f := upd (upd (μ 0) 2 ((μ 0 2) + 1)) (7 + 2 * nN (μ 0 2)) t) hC 1 (8 + 2 * nN (μ 0 2)) (wM k b (va_up μ 0 (upd (upd (upd (μ 0) 2 ((μ 0 2) + 1)) (7 + 2 * nN (μ 0 2)) t) (8 + 2 * nN (μ 0 2)) o)) ν) gm_1 (ncast (b := 8 + 2 * nN (μ 0 2)) (nadd (nadd (nl 7) (nmul (nl 2) hI.hn)) (nl 1)) (by omega)) (by omega) (by decide) rfl dX7_hand_83 ?_
        refine V.iload_n (pc := 84) 0 hC dX7_hand_84 rfl ?_
        exact hR (μ 0 2) ((va_up μ 0 (upd (upd (upd (μ 0) 2 ((μ 0 2) + 1)) (7 + 2 * nN (μ 0 2)) t) (8 + 2 * nN (μ 0 2)) o))) _ _ dX7_hand_85 rfl (opr (by simp only [op_hand, c_8, c_19, c_38, inS, hndS, homS, prsS, shtS, if_true, if_false, not_true_eq_false, not_false_eq_true, true_and, and_true, false_and, and_false, true_or, or_true, or_false, false_or, er_1, er_2, er_3, er_4, er_5, er_6] <;> rfl))
      · have nc_38 : nN (μ 0 2) = 4 := (neq hI.hn (nl 4) (by omega) (by omega)).mp c_38
        refine V.aload_n (pc := 41) 1 hC dX7_hand_41 rfl ?_
        refine V.ldc (pc := 42) (v := (-1000000004)) hC cn_X7_60 dX7_hand_42 ?_
        refine V.callV0 (pc := 44) (as := [.int (-1000000004)]) hC (c_X7_error μ ν 4 (-1000000004) (by omega) (by decide)) mu_X7_error ml_X7_56 (by decide) ⟨0, 7, TX7, 20, _, rfl, gm_0⟩ rfl (Nat.le_of_ble_eq_true rfl) dX7_hand_44 ?_
        rintro _ _ rfl
        show V X (wM k b (va_up μ 3 (upd (μ 3) 4 (μ 3 4 + 1))) ν) [(3, .int (μ 0 2)), (0, .ref (b 20)), (1, .int t), (2, .int o)] [.int (-1000000004)] 47
        exact hR (-1000000004) ((va_up μ 3 (upd (μ 3) 4 (μ 3 4 + 1)))) _ _ dX7_hand_47 rfl (opr (by simp only [op_hand, c_8, c_19, c_38, inS, hndS, homS, prsS, shtS, if_true, if_false, not_true_eq_false, not_false_eq_true, true_and, and_true, false_and, and_false, true_or, or_true, or_false, false_or, er_1, er_2, er_3, er_4, er_5, er_6] <;> rfl))
    · refine V.aload_n (pc := 22) 0 hC dX7_hand_22 rfl ?_
      refine V.ldc (pc := 23) (v := (-1000000001)) hC cn_X7_55 dX7_hand_23 ?_
      refine V.callV0 (pc := 25) (as := [.int (-1000000001)]) hC (c_X7_error μ ν 1 (-1000000001) (by omega) (by decide)) mu_X7_error ml_X7_56 (by decide) ⟨0, 7, TX7, 20, _, rfl, gm_0⟩ rfl (Nat.le_of_ble_eq_true rfl) dX7_hand_25 ?_
      rintro _ _ rfl
      show V X (wM k b (va_up μ 3 (upd (μ 3) 1 (μ 3 1 + 1))) ν) [(0, .ref (b 20)), (1, .int t), (2, .int o)] [.int (-1000000001)] 28
      exact hR (-1000000001) ((va_up μ 3 (upd (μ 3) 1 (μ 3 1 + 1)))) _ _ dX7_hand_28 rfl (opr (by simp only [op_hand, c_8, c_19, inS, hndS, homS, prsS, shtS, if_true, if_false, not_true_eq_false, not_false_eq_true, true_and, and_true, false_and, and_false, true_or, or_true, or_false, false_or, er_1, er_2, er_3, er_4, er_5, er_6] <;> rfl))
set_option maxHeartbeats 4000000 in
set_option maxRecDepth 100000 in
theorem c_X7_handIs {l : Launch} {D : va_G} {k : Nat → ClassId} {g b : Nat → Nat} (μ ν : St) (h w : Int32) (hI : Inv (μ 0)) : Ct l D k g yX7_handIs cX7_handIs 3 (some .int) 2 43 [.ref (b 20), .int h, .int w] (S := St) (wM k b μ ν) (fun uu => wM k b uu ν) (fun vv uu => vv = some (.int ((op_handIs h w μ).1)) ∧ uu = (op_handIs h w μ).2) := by
  refine Ct.ofI RX7 rfl (by decide +kernel) (Nat.le_of_ble_eq_true rfl) (fun X hC hR => ?_)
  have hb4 := hI.hb; have hb8 := hI.mb; have hb6 := hI.pb; have hbm := hI.ob0; have hbt := hI.bb; have hbw := hI.wb
  show V X (wM k b μ ν) [(0, .ref (b 20)), (1, .int h), (2, .int w)] [] 0
  refine V.aload_n (pc := 0) 0 hC dX7_handIs_0 rfl ?_
  refine V.iload_n (pc := 1) 1 hC dX7_handIs_1 rfl ?_
  refine V.callV0 (pc := 2) (as := [.int h]) hC (c_X7_isHand μ ν h ) mu_X7_isHand ml_X7_61 (by decide) ⟨0, 7, TX7, 20, _, rfl, gm_0⟩ rfl (Nat.le_of_ble_eq_true rfl) dX7_handIs_2 ?_
  rintro _ _ rfl
  show V X (wM k b μ ν) [(0, .ref (b 20)), (1, .int h), (2, .int w)] [.int (bI (inS h 0 (μ 0 2 - 1)))] 5
  refine V.if_eq_b (P := inS h 0 (μ 0 2 - 1)) (pc := 5) 17 hC dX7_handIs_5 (by decide) (fun c_5 => ?_) (fun c_5 => ?_)
  · refine V.aload_n (pc := 17) 0 hC dX7_handIs_17 rfl ?_
    refine V.ldc (pc := 18) (v := (-1000000001)) hC cn_X7_55 dX7_handIs_18 ?_
    refine V.callV0 (pc := 20) (as := [.int (-1000000001)]) hC (c_X7_error μ ν 1 (-1000000001) (by omega) (by decide)) mu_X7_error ml_X7_56 (by decide) ⟨0, 7, TX7, 20, _, rfl, gm_0⟩ rfl (Nat.le_of_ble_eq_true rfl) dX7_handIs_20 ?_
    rintro _ _ rfl
    show V X (wM k b (va_up μ 3 (upd (μ 3) 1 (μ 3 1 + 1))) ν) [(0, .ref (b 20)), (1, .int h), (2, .int w)] [.int (-1000000001)] 23
    exact hR (-1000000001) ((va_up μ 3 (upd (μ 3) 1 (μ 3 1 + 1)))) _ _ dX7_handIs_23 rfl (opr (by simp only [op_handIs, c_5, inS, hndS, homS, prsS, shtS, if_true, if_false, not_true_eq_false, not_false_eq_true, true_and, and_true, false_and, and_false, true_or, or_true, or_false, false_or, er_1, er_2, er_3, er_4, er_5, er_6] <;> rfl))
  · have hh_h := inS_n c_5 hI.hn (by omega)
    refine V.iload_n (pc := 8) 2 hC dX7_handIs_8 rfl ?_
    refine V.iconst (pc := 9) 0 hC dX7_handIs_9 (by decide) ?_
    refine V.iconst (pc := 10) 3 hC dX7_handIs_10 (by decide) ?_
    refine V.callS0 (pc := 11) (as := [.int w, .int 0, .int 3]) hC (c_X7_in w 0 3 ) ms_X7_in ml_X7_47 (by decide) rfl (Nat.le_of_ble_eq_true rfl) dX7_handIs_11 ?_
    rintro _ _ rfl
    show V X (wM k b μ ν) [(0, .ref (b 20)), (1, .int h), (2, .int w)] [.int (bI (inS w 0 3))] 14
    refine V.if_ne_b (P := inS w 0 3) (pc := 14) 24 hC dX7_handIs_14 (by decide) (fun c_14 => ?_) (fun c_14 => ?_)
    · have hh_w := inS_c c_14 (nl 3) (by omega)
      refine V.iload_n (pc := 24) 2 hC dX7_handIs_24 rfl ?_
      refine V.iconst (pc := 25) 2 hC dX7_handIs_25 (by decide) ?_
      refine V.icmp_ge (pc := 26) 45 hC dX7_handIs_26 (by decide) (fun c_26 => ?_) (fun c_26 => ?_)
      · have nc_26 : 2 ≤ nN w := (nle (nl 2) hh_w.1 (by omega) (by omega)).mp c_26
        refine V.iload_n (pc := 45) 2 hC dX7_handIs_45 rfl ?_
        refine V.iconst (pc := 46) 2 hC dX7_handIs_46 (by decide) ?_
        refine V.icmp_ne (pc := 47) 64 hC dX7_handIs_47 (by decide) (fun c_47 => ?_) (fun c_47 => ?_)
        · have nc_47 : ¬ (nN w = 2) := fun z => c_47 ((neq hh_w.1 (nl 2) (by omega) (by omega)).mpr z)
          refine V.aload_n (pc := 64) 0 hC dX7_handIs_64 rfl ?_
          refine V.iload_n (pc := 65) 1 hC dX7_handIs_65 rfl ?_
          refine V.callV0 (pc := 66) (as := [.int h]) hC (c_X7_homesOn μ ν h hI) mu_X7_homesOn ml_X7_65 (by decide) ⟨0, 7, TX7, 20, _, rfl, gm_0⟩ rfl (Nat.le_of_ble_eq_true rfl) dX7_handIs_66 ?_
          rintro _ _ rfl
          show V X (wM k b μ ν) [(0, .ref (b 20)), (1, .int h), (2, .int w)] [.int (homesOnS (μ 0) h)] 69
          exact hR (homesOnS (μ 0) h) (μ) _ _ dX7_handIs_69 rfl (opr (by simp only [op_handIs, c_5, c_14, inS, hndS, homS, prsS, shtS, if_true, if_false, not_true_eq_false, not_false_eq_true, true_and, and_true, false_and, and_false, true_or, or_true, or_false, false_or]; rw [if_neg (show ¬ w = 0 from fun e => by rw [e] at c_26; exact absurd c_26 (by decide)), if_neg (show ¬ w = 1 from fun e => by rw [e] at c_26; exact absurd c_26 (by decide)), if_neg c_47]))
        · have nc_47 : nN w = 2 := (neq hh_w.1 (nl 2) (by omega) (by omega)).mp c_47
          refine V.aload_n (pc := 50) 0 hC dX7_handIs_50 rfl ?_
          refine V.iload_n (pc := 51) 1 hC dX7_handIs_51 rfl ?_
          refine V.aload_n (pc := 52) 0 hC dX7_handIs_52 rfl ?_
          refine V.get (pc := 53) (v := .ref (b 0)) hC cf_X7 0 0 fl_X7_9 (by decide) gm_0 rfl dX7_handIs_53 ?_
          refine V.iconst (pc := 56) 0 hC dX7_handIs_56 (by decide) ?_
          refine V.iald (pc := 57) (f := μ 0) hC 1 0 gm_1 (nl 0) (by omega) (by decide) dX7_handIs_57 ?_
          refine V.sts (st' := [.int (μ 0 0), .int (nI (nN h)), .ref (b 20)]) (stk (stc hh_h.1 (stk rfl))) ?_
          refine V.callV0 (pc := 58) (as := [.int (nI (nN h)), .int (μ 0 0)]) hC (c_X7_markOf μ ν (nN h) (μ 0 0) hI hh_h.2) mu_X7_markOf ml_X7_51 (by decide) ⟨0, 7, TX7, 20, _, rfl, gm_0⟩ rfl (Nat.le_of_ble_eq_true rfl) dX7_handIs_58 ?_
          rintro _ _ rfl
          show V X (wM k b μ ν) [(0, .ref (b 20)), (1, .int h), (2, .int w)] [.int (markS (μ 0) (nN h) (μ 0 0))] 61
          refine V.goto (pc := 61) 69 hC dX7_handIs_61 (by decide) ?_
          exact hR (markS (μ 0) (nN h) (μ 0 0)) (μ) _ _ dX7_handIs_69 rfl (opr (by simp only [op_handIs, c_5, c_14, inS, hndS, homS, prsS, shtS, if_true, if_false, not_true_eq_false, not_false_eq_true, true_and, and_true, false_and, and_false, true_or, or_true, or_false, false_or]; rw [if_neg (show ¬ w = 0 from fun e => by rw [e] at c_26; exact absurd c_26 (by decide)), if_neg (show ¬ w = 1 from fun e => by rw [e] at c_26; exact absurd c_26 (by decide)), if_pos c_47]))
      · have nc_26 : ¬ (2 ≤ nN w) := fun z => c_26 ((nle (nl 2) hh_w.1 (by omega) (by omega)).mpr z)
        refine V.aload_n (pc := 29) 0 hC dX7_handIs_29 rfl ?_
        refine V.get (pc := 30) (v := .ref (b 0)) hC cf_X7 0 0 fl_X7_9 (by decide) gm_0 rfl dX7_handIs_30 ?_
        refine V.bipush (pc := 33) 7 hC dX7_handIs_33 (by decide) ?_
        refine V.iconst (pc := 35) 2 hC dX7_handIs_35 (by decide) ?_
        refine V.iload_n (pc := 36) 1 hC dX7_handIs_36 rfl ?_
        refine V.imul (pc := 37) hC dX7_handIs_37 ?_
        refine V.iadd (pc := 38) hC dX7_handIs_38 ?_
        refine V.iload_n (pc := 39) 2 hC dX7_handIs_39 rfl ?_
        refine V.iadd (pc := 40) hC dX7_handIs_40 ?_
        refine V.iald (pc := 41) (f := μ 0) hC 1 (7 + 2 * nN h + nN w) gm_1 (ncast (b := 7 + 2 * nN h + nN w) (nadd (nadd (nl 7) (nmul (nl 2) hh_h.1)) hh_w.1) (by omega)) (by omega) (by decide) dX7_handIs_41 ?_
        refine V.goto (pc := 42) 69 hC dX7_handIs_42 (by decide) ?_
        exact hR (μ 0 (7 + 2 * nN h + nN w)) (μ) _ _ dX7_handIs_69 rfl (opr (by
        simp only [op_handIs, c_5, c_14, inS, hndS, homS, prsS, shtS, if_true, if_false, not_true_eq_false, not_false_eq_true, true_and, and_true, false_and, and_false, true_or, or_true, or_false, false_or]
        rcases (show nN w = 0 ∨ nN w = 1 by have := nc_26; omega) with e | e
        · rw [if_pos (show w = 0 by rw [hh_w.1, e]; rfl), e, Nat.add_zero]
        · rw [if_neg (show ¬ w = 0 by rw [hh_w.1, e]; decide), if_pos (show w = 1 by rw [hh_w.1, e]; rfl), e, show 7 + 2 * nN h + 1 = 8 + 2 * nN h by omega]))
    · refine V.aload_n (pc := 17) 0 hC dX7_handIs_17 rfl ?_
      refine V.ldc (pc := 18) (v := (-1000000001)) hC cn_X7_55 dX7_handIs_18 ?_
      refine V.callV0 (pc := 20) (as := [.int (-1000000001)]) hC (c_X7_error μ ν 1 (-1000000001) (by omega) (by decide)) mu_X7_error ml_X7_56 (by decide) ⟨0, 7, TX7, 20, _, rfl, gm_0⟩ rfl (Nat.le_of_ble_eq_true rfl) dX7_handIs_20 ?_
      rintro _ _ rfl
      show V X (wM k b (va_up μ 3 (upd (μ 3) 1 (μ 3 1 + 1))) ν) [(0, .ref (b 20)), (1, .int h), (2, .int w)] [.int (-1000000001)] 23
      exact hR (-1000000001) ((va_up μ 3 (upd (μ 3) 1 (μ 3 1 + 1)))) _ _ dX7_handIs_23 rfl (opr (by simp only [op_handIs, c_5, c_14, inS, hndS, homS, prsS, shtS, if_true, if_false, not_true_eq_false, not_false_eq_true, true_and, and_true, false_and, and_false, true_or, or_true, or_false, false_or, er_1, er_2, er_3, er_4, er_5, er_6] <;> rfl))
set_option maxHeartbeats 4000000 in
set_option maxRecDepth 100000 in
theorem c_X7_frost {l : Launch} {D : va_G} {k : Nat → ClassId} {g b : Nat → Nat} (μ ν : St) (h v : Int32) (hI : Inv (μ 0)) : Ct l D k g yX7_frost cX7_frost 5 (some .int) 2 43 [.ref (b 20), .int h, .int v] (S := St) (wM k b μ ν) (fun uu => wM k b uu ν) (fun vv uu => vv = some (.int ((op_frost h v μ).1)) ∧ uu = (op_frost h v μ).2) := by
  refine Ct.ofI RX7 rfl (by decide +kernel) (Nat.le_of_ble_eq_true rfl) (fun X hC hR => ?_)
  have hb4 := hI.hb; have hb8 := hI.mb; have hb6 := hI.pb; have hbm := hI.ob0; have hbt := hI.bb; have hbw := hI.wb
  show V X (wM k b μ ν) [(0, .ref (b 20)), (1, .int h), (2, .int v)] [] 0
  refine V.aload_n (pc := 0) 0 hC dX7_frost_0 rfl ?_
  refine V.iload_n (pc := 1) 1 hC dX7_frost_1 rfl ?_
  refine V.callV0 (pc := 2) (as := [.int h]) hC (c_X7_isHand μ ν h ) mu_X7_isHand ml_X7_61 (by decide) ⟨0, 7, TX7, 20, _, rfl, gm_0⟩ rfl (Nat.le_of_ble_eq_true rfl) dX7_frost_2 ?_
  rintro _ _ rfl
  show V X (wM k b μ ν) [(0, .ref (b 20)), (1, .int h), (2, .int v)] [.int (bI (inS h 0 (μ 0 2 - 1)))] 5
  refine V.if_eq_b (P := inS h 0 (μ 0 2 - 1)) (pc := 5) 18 hC dX7_frost_5 (by decide) (fun c_5 => ?_) (fun c_5 => ?_)
  · refine V.aload_n (pc := 18) 0 hC dX7_frost_18 rfl ?_
    refine V.ldc (pc := 19) (v := (-1000000001)) hC cn_X7_55 dX7_frost_19 ?_
    refine V.callV0 (pc := 21) (as := [.int (-1000000001)]) hC (c_X7_error μ ν 1 (-1000000001) (by omega) (by decide)) mu_X7_error ml_X7_56 (by decide) ⟨0, 7, TX7, 20, _, rfl, gm_0⟩ rfl (Nat.le_of_ble_eq_true rfl) dX7_frost_21 ?_
    rintro _ _ rfl
    show V X (wM k b (va_up μ 3 (upd (μ 3) 1 (μ 3 1 + 1))) ν) [(0, .ref (b 20)), (1, .int h), (2, .int v)] [.int (-1000000001)] 24
    exact hR (-1000000001) ((va_up μ 3 (upd (μ 3) 1 (μ 3 1 + 1)))) _ _ dX7_frost_24 rfl (opr (by simp only [op_frost, c_5, inS, hndS, homS, prsS, shtS, if_true, if_false, not_true_eq_false, not_false_eq_true, true_and, and_true, false_and, and_false, true_or, or_true, or_false, false_or, er_1, er_2, er_3, er_4, er_5, er_6] <;> rfl))
  · have hh_h := inS_n c_5 hI.hn (by omega)
    refine V.iload_n (pc := 8) 2 hC dX7_frost_8 rfl ?_
    refine V.iconst (pc := 9) 1 hC dX7_frost_9 (by decide) ?_
    refine V.bipush (pc := 10) 99 hC dX7_frost_10 (by decide) ?_
    refine V.callS0 (pc := 12) (as := [.int v, .int 1, .int 99]) hC (c_X7_in v 1 99 ) ms_X7_in ml_X7_47 (by decide) rfl (Nat.le_of_ble_eq_true rfl) dX7_frost_12 ?_
    rintro _ _ rfl
    show V X (wM k b μ ν) [(0, .ref (b 20)), (1, .int h), (2, .int v)] [.int (bI (inS v 1 99))] 15
    refine V.if_ne_b (P := inS v 1 99) (pc := 15) 25 hC dX7_frost_15 (by decide) (fun c_15 => ?_) (fun c_15 => ?_)
    · refine V.aload_n (pc := 25) 0 hC dX7_frost_25 rfl ?_
      refine V.get (pc := 26) (v := .ref (b 0)) hC cf_X7 0 0 fl_X7_9 (by decide) gm_0 rfl dX7_frost_26 ?_
      refine V.bipush (pc := 29) 7 hC dX7_frost_29 (by decide) ?_
      refine V.iconst (pc := 31) 2 hC dX7_frost_31 (by decide) ?_
      refine V.iload_n (pc := 32) 1 hC dX7_frost_32 rfl ?_
      refine V.imul (pc := 33) hC dX7_frost_33 ?_
      refine V.iadd (pc := 34) hC dX7_frost_34 ?_
      refine V.iald (pc := 35) (f := μ 0) hC 1 (7 + 2 * nN h) gm_1 (ncast (b := 7 + 2 * nN h) (nadd (nl 7) (nmul (nl 2) hh_h.1)) (by omega)) (by omega) (by decide) dX7_frost_35 ?_
      refine V.istore_n (pc := 36) [(3, .int (μ 0 (7 + 2 * nN h))), (0, .ref (b 20)), (1, .int h), (2, .int v)] hC dX7_frost_36 (by decide) rfl ?_
      refine V.aload_n (pc := 37) 1 hC dX7_frost_37 rfl ?_
      refine V.get (pc := 38) (v := .ref (b 0)) hC cf_X7 0 0 fl_X7_9 (by decide) gm_0 rfl dX7_frost_38 ?_
      refine V.bipush (pc := 41) 7 hC dX7_frost_41 (by decide) ?_
      refine V.iconst (pc := 43) 2 hC dX7_frost_43 (by decide) ?_
      refine V.iload_n (pc := 44) 2 hC dX7_frost_44 rfl ?_
      refine V.imul (pc := 45) hC dX7_frost_45 ?_
      refine V.iadd (pc := 46) hC dX7_frost_46 ?_
      refine V.iconst (pc := 47) 1 hC dX7_frost_47 (by decide) ?_
      refine V.iadd (pc := 48) hC dX7_frost_48 ?_
      refine V.iald (pc := 49) (f := μ 0) hC 1 (8 + 2 * nN h) gm_1 (ncast (b := 8 + 2 * nN h) (nadd (nadd (nl 7) (nmul (nl 2) hh_h.1)) (nl 1)) (by omega)) (by omega) (by decide) dX7_frost_49 ?_
      refine V.iload_n (pc := 50) 3 hC dX7_frost_50 rfl ?_
      refine V.isub (pc := 51) hC dX7_frost_51 ?_
      refine V.iload_n (pc := 52) 0 hC dX7_frost_52 rfl ?_
      refine V.irem (pc := 53) hC dX7_frost_53 (hI.t0 hh_h.2) ?_
      refine V.istore (pc := 54) [(4, .int (((μ 0 (8 + 2 * nN h)) - v) - ((μ 0 (8 + 2 * nN h)) - v) / (μ 0 (7 + 2 * nN h)) * (μ 0 (7 + 2 * nN h)))), (3, .int (μ 0 (7 + 2 * nN h))), (0, .ref (b 20)), (1, .int h), (2, .int v)] hC dX7_frost_54 (by decide) rfl ?_
      refine V.aload_n (pc := 56) 2 hC dX7_frost_56 rfl ?_
      refine V.get (pc := 57) (v := .ref (b 0)) hC cf_X7 0 0 fl_X7_9 (by decide) gm_0 rfl dX7_frost_57 ?_
      refine V.bipush (pc := 60) 7 hC dX7_frost_60 (by decide) ?_
      refine V.iconst (pc := 62) 2 hC dX7_frost_62 (by decide) ?_
      refine V.iload_n (pc := 63) 3 hC dX7_frost_63 rfl ?_
      refine V.imul (pc := 64) hC dX7_frost_64 ?_
      refine V.iadd (pc := 65) hC dX7_frost_65 ?_
      refine V.iconst (pc := 66) 1 hC dX7_frost_66 (by decide) ?_
      refine V.iadd (pc := 67) hC dX7_frost_67 ?_
      refine V.iload (pc := 68) 0 hC dX7_frost_68 rfl ?_
      refine V.if_ge (pc := 70) 80 hC dX7_frost_70 (by decide) (fun c_70 => ?_) (fun c_70 => ?_)
      · refine V.iload (pc := 80) 0 hC dX7_frost_80 rfl ?_
        refine V.iast (pc := 82) (f := μ 0) hC 1 (8 + 2 * nN h) (wM k b (va_up μ 0 (upd (μ 0) (8 + 2 * nN h) (((μ 0 (8 + 2 * nN h)) - v) - ((μ 0 (8 + 2 * nN h)) - v) / (μ 0 (7 + 2 * nN h)) * (μ 0 (7 + 2 * nN h))))) ν) gm_1 (ncast (b := 8 + 2 * nN h) (nadd (nadd (nl 7) (nmul (nl 2) hh_h.1)) (nl 1)) (by omega)) (by omega) (by decide) rfl dX7_frost_82 ?_
        refine V.aload_n (pc := 83) 2 hC dX7_frost_83 rfl ?_
        refine V.get (pc := 84) (v := .ref (b 0)) hC cf_X7 0 0 fl_X7_9 (by decide) gm_0 rfl dX7_frost_84 ?_
        refine V.bipush (pc := 87) 7 hC dX7_frost_87 (by decide) ?_
        refine V.iconst (pc := 89) 2 hC dX7_frost_89 (by decide) ?_
        refine V.iload_n (pc := 90) 3 hC dX7_frost_90 rfl ?_
        refine V.imul (pc := 91) hC dX7_frost_91 ?_
        refine V.iadd (pc := 92) hC dX7_frost_92 ?_
        refine V.iconst (pc := 93) 1 hC dX7_frost_93 (by decide) ?_
        refine V.iadd (pc := 94) hC dX7_frost_94 ?_
        refine V.iald (pc := 95) (f := upd (μ 0) (8 + 2 * nN h) (((μ 0 (8 + 2 * nN h)) - v) - ((μ 0 (8 + 2 * nN h)) - v) / (μ 0 (7 + 2 * nN h)) * (μ 0 (7 + 2 * nN h)))) hC 1 (8 + 2 * nN h) gm_1 (ncast (b := 8 + 2 * nN h) (nadd (nadd (nl 7) (nmul (nl 2) hh_h.1)) (nl 1)) (by omega)) (by omega) (by decide) dX7_frost_95 ?_
        refine V.eqi (y := ((μ 0 (8 + 2 * nN h)) - v) - ((μ 0 (8 + 2 * nN h)) - v) / (μ 0 (7 + 2 * nN h)) * (μ 0 (7 + 2 * nN h))) (upd_eq) ?_
        exact hR (((μ 0 (8 + 2 * nN h)) - v) - ((μ 0 (8 + 2 * nN h)) - v) / (μ 0 (7 + 2 * nN h)) * (μ 0 (7 + 2 * nN h))) ((va_up μ 0 (upd (μ 0) (8 + 2 * nN h) (((μ 0 (8 + 2 * nN h)) - v) - ((μ 0 (8 + 2 * nN h)) - v) / (μ 0 (7 + 2 * nN h)) * (μ 0 (7 + 2 * nN h)))))) _ _ dX7_frost_96 rfl (opr (by rw [op_frost, if_neg (not_not_intro c_5), if_neg (not_not_intro c_15), froV, irm, if_neg (i_ge c_70)]))
      · refine V.iload (pc := 73) 0 hC dX7_frost_73 rfl ?_
        refine V.iload_n (pc := 75) 1 hC dX7_frost_75 rfl ?_
        refine V.iadd (pc := 76) hC dX7_frost_76 ?_
        refine V.goto (pc := 77) 82 hC dX7_frost_77 (by decide) ?_
        refine V.iast (pc := 82) (f := μ 0) hC 1 (8 + 2 * nN h) (wM k b (va_up μ 0 (upd (μ 0) (8 + 2 * nN h) ((((μ 0 (8 + 2 * nN h)) - v) - ((μ 0 (8 + 2 * nN h)) - v) / (μ 0 (7 + 2 * nN h)) * (μ 0 (7 + 2 * nN h))) + (μ 0 (7 + 2 * nN h))))) ν) gm_1 (ncast (b := 8 + 2 * nN h) (nadd (nadd (nl 7) (nmul (nl 2) hh_h.1)) (nl 1)) (by omega)) (by omega) (by decide) rfl dX7_frost_82 ?_
        refine V.aload_n (pc := 83) 2 hC dX7_frost_83 rfl ?_
        refine V.get (pc := 84) (v := .ref (b 0)) hC cf_X7 0 0 fl_X7_9 (by decide) gm_0 rfl dX7_frost_84 ?_
        refine V.bipush (pc := 87) 7 hC dX7_frost_87 (by decide) ?_
        refine V.iconst (pc := 89) 2 hC dX7_frost_89 (by decide) ?_
        refine V.iload_n (pc := 90) 3 hC dX7_frost_90 rfl ?_
        refine V.imul (pc := 91) hC dX7_frost_91 ?_
        refine V.iadd (pc := 92) hC dX7_frost_92 ?_
        refine V.iconst (pc := 93) 1 hC dX7_frost_93 (by decide) ?_
        refine V.iadd (pc := 94) hC dX7_frost_94 ?_
        refine V.iald (pc := 95) (f := upd (μ 0) (8 + 2 * nN h) ((((μ 0 (8 + 2 * nN h)) - v) - ((μ 0 (8 + 2 * nN h)) - v) / (μ 0 (7 + 2 * nN h)) * (μ 0 (7 + 2 * nN h))) + (μ 0 (7 + 2 * nN h)))) hC 1 (8 + 2 * nN h) gm_1 (ncast (b := 8 + 2 * nN h) (nadd (nadd (nl 7) (nmul (nl 2) hh_h.1)) (nl 1)) (by omega)) (by omega) (by decide) dX7_frost_95 ?_
        refine V.eqi (y := (((μ 0 (8 + 2 * nN h)) - v) - ((μ 0 (8 + 2 * nN h)) - v) / (μ 0 (7 + 2 * nN h)) * (μ 0 (7 + 2 * nN h))) + (μ 0 (7 + 2 * nN h))) (upd_eq) ?_
        exact hR ((((μ 0 (8 + 2 * nN h)) - v) - ((μ 0 (8 + 2 * nN h)) - v) / (μ 0 (7 + 2 * nN h)) * (μ 0 (7 + 2 * nN h))) + (μ 0 (7 + 2 * nN h))) ((va_up μ 0 (upd (μ 0) (8 + 2 * nN h) ((((μ 0 (8 + 2 * nN h)) - v) - ((μ 0 (8 + 2 * nN h)) - v) / (μ 0 (7 + 2 * nN h)) * (μ 0 (7 + 2 * nN h))) + (μ 0 (7 + 2 * nN h)))))) _ _ dX7_frost_96 rfl (opr (by rw [op_frost, if_neg (not_not_intro c_5), if_neg (not_not_intro c_15), froV, irm, if_pos (i_nle c_70)]))
    · refine V.aload_n (pc := 18) 0 hC dX7_frost_18 rfl ?_
      refine V.ldc (pc := 19) (v := (-1000000001)) hC cn_X7_55 dX7_frost_19 ?_
      refine V.callV0 (pc := 21) (as := [.int (-1000000001)]) hC (c_X7_error μ ν 1 (-1000000001) (by omega) (by decide)) mu_X7_error ml_X7_56 (by decide) ⟨0, 7, TX7, 20, _, rfl, gm_0⟩ rfl (Nat.le_of_ble_eq_true rfl) dX7_frost_21 ?_
      rintro _ _ rfl
      show V X (wM k b (va_up μ 3 (upd (μ 3) 1 (μ 3 1 + 1))) ν) [(0, .ref (b 20)), (1, .int h), (2, .int v)] [.int (-1000000001)] 24
      exact hR (-1000000001) ((va_up μ 3 (upd (μ 3) 1 (μ 3 1 + 1)))) _ _ dX7_frost_24 rfl (opr (by simp only [op_frost, c_5, c_15, inS, hndS, homS, prsS, shtS, if_true, if_false, not_true_eq_false, not_false_eq_true, true_and, and_true, false_and, and_false, true_or, or_true, or_false, false_or, er_1, er_2, er_3, er_4, er_5, er_6] <;> rfl))
set_option maxHeartbeats 4000000 in
set_option maxRecDepth 100000 in
theorem c_X7_home {l : Launch} {D : va_G} {k : Nat → ClassId} {g b : Nat → Nat} (μ ν : St) (h f : Int32) (hI : Inv (μ 0)) : Ct l D k g yX7_home cX7_home 4 (some .int) 2 43 [.ref (b 20), .int h, .int f] (S := St) (wM k b μ ν) (fun uu => wM k b uu ν) (fun vv uu => vv = some (.int ((op_home h f μ).1)) ∧ uu = (op_home h f μ).2) := by
  refine Ct.ofI RX7 rfl (by decide +kernel) (Nat.le_of_ble_eq_true rfl) (fun X hC hR => ?_)
  have hb4 := hI.hb; have hb8 := hI.mb; have hb6 := hI.pb; have hbm := hI.ob0; have hbt := hI.bb; have hbw := hI.wb
  show V X (wM k b μ ν) [(0, .ref (b 20)), (1, .int h), (2, .int f)] [] 0
  refine V.aload_n (pc := 0) 0 hC dX7_home_0 rfl ?_
  refine V.iload_n (pc := 1) 1 hC dX7_home_1 rfl ?_
  refine V.callV0 (pc := 2) (as := [.int h]) hC (c_X7_isHand μ ν h ) mu_X7_isHand ml_X7_61 (by decide) ⟨0, 7, TX7, 20, _, rfl, gm_0⟩ rfl (Nat.le_of_ble_eq_true rfl) dX7_home_2 ?_
  rintro _ _ rfl
  show V X (wM k b μ ν) [(0, .ref (b 20)), (1, .int h), (2, .int f)] [.int (bI (inS h 0 (μ 0 2 - 1)))] 5
  refine V.if_eq_b (P := inS h 0 (μ 0 2 - 1)) (pc := 5) 18 hC dX7_home_5 (by decide) (fun c_5 => ?_) (fun c_5 => ?_)
  · refine V.aload_n (pc := 18) 0 hC dX7_home_18 rfl ?_
    refine V.ldc (pc := 19) (v := (-1000000001)) hC cn_X7_55 dX7_home_19 ?_
    refine V.callV0 (pc := 21) (as := [.int (-1000000001)]) hC (c_X7_error μ ν 1 (-1000000001) (by omega) (by decide)) mu_X7_error ml_X7_56 (by decide) ⟨0, 7, TX7, 20, _, rfl, gm_0⟩ rfl (Nat.le_of_ble_eq_true rfl) dX7_home_21 ?_
    rintro _ _ rfl
    show V X (wM k b (va_up μ 3 (upd (μ 3) 1 (μ 3 1 + 1))) ν) [(0, .ref (b 20)), (1, .int h), (2, .int f)] [.int (-1000000001)] 24
    exact hR (-1000000001) ((va_up μ 3 (upd (μ 3) 1 (μ 3 1 + 1)))) _ _ dX7_home_24 rfl (opr (by simp only [op_home, c_5, inS, hndS, homS, prsS, shtS, if_true, if_false, not_true_eq_false, not_false_eq_true, true_and, and_true, false_and, and_false, true_or, or_true, or_false, false_or, er_1, er_2, er_3, er_4, er_5, er_6] <;> rfl))
  · have hh_h := inS_n c_5 hI.hn (by omega)
    refine V.iload_n (pc := 8) 2 hC dX7_home_8 rfl ?_
    refine V.iconst (pc := 9) 0 hC dX7_home_9 (by decide) ?_
    refine V.bipush (pc := 10) 9 hC dX7_home_10 (by decide) ?_
    refine V.callS0 (pc := 12) (as := [.int f, .int 0, .int 9]) hC (c_X7_in f 0 9 ) ms_X7_in ml_X7_47 (by decide) rfl (Nat.le_of_ble_eq_true rfl) dX7_home_12 ?_
    rintro _ _ rfl
    show V X (wM k b μ ν) [(0, .ref (b 20)), (1, .int h), (2, .int f)] [.int (bI (inS f 0 9))] 15
    refine V.if_ne_b (P := inS f 0 9) (pc := 15) 25 hC dX7_home_15 (by decide) (fun c_15 => ?_) (fun c_15 => ?_)
    · refine V.aload_n (pc := 25) 0 hC dX7_home_25 rfl ?_
      refine V.get (pc := 26) (v := .ref (b 0)) hC cf_X7 0 0 fl_X7_9 (by decide) gm_0 rfl dX7_home_26 ?_
      refine V.iconst (pc := 29) 3 hC dX7_home_29 (by decide) ?_
      refine V.iald (pc := 30) (f := μ 0) hC 1 3 gm_1 (nl 3) (by omega) (by decide) dX7_home_30 ?_
      refine V.istore_n (pc := 31) [(3, .int (μ 0 3)), (0, .ref (b 20)), (1, .int h), (2, .int f)] hC dX7_home_31 (by decide) rfl ?_
      refine V.iload_n (pc := 32) 0 hC dX7_home_32 rfl ?_
      refine V.bipush (pc := 33) 8 hC dX7_home_33 (by decide) ?_
      refine V.icmp_ne (pc := 35) 45 hC dX7_home_35 (by decide) (fun c_35 => ?_) (fun c_35 => ?_)
      · have nc_35 : ¬ (nN (μ 0 3) = 8) := fun z => c_35 ((neq hI.mn (nl 8) (by omega) (by omega)).mpr z)
        refine V.aload_n (pc := 45) 1 hC dX7_home_45 rfl ?_
        refine V.get (pc := 46) (v := .ref (b 0)) hC cf_X7 0 0 fl_X7_9 (by decide) gm_0 rfl dX7_home_46 ?_
        refine V.iconst (pc := 49) 3 hC dX7_home_49 (by decide) ?_
        refine V.dup2 (pc := 50) hC dX7_home_50 rfl rfl ?_
        refine V.iald (pc := 51) (f := μ 0) hC 1 3 gm_1 (nl 3) (by omega) (by decide) dX7_home_51 ?_
        refine V.iconst (pc := 52) 1 hC dX7_home_52 (by decide) ?_
        refine V.iadd (pc := 53) hC dX7_home_53 ?_
        refine V.iast (pc := 54) (f := μ 0) hC 1 3 (wM k b (va_up μ 0 (upd (μ 0) 3 ((μ 0 3) + 1))) ν) gm_1 (nl 3) (by omega) (by decide) rfl dX7_home_54 ?_
        refine V.aload_n (pc := 55) 1 hC dX7_home_55 rfl ?_
        refine V.get (pc := 56) (v := .ref (b 0)) hC cf_X7 0 0 fl_X7_9 (by decide) gm_0 rfl dX7_home_56 ?_
        refine V.bipush (pc := 59) 15 hC dX7_home_59 (by decide) ?_
        refine V.iconst (pc := 61) 2 hC dX7_home_61 (by decide) ?_
        refine V.iload_n (pc := 62) 0 hC dX7_home_62 rfl ?_
        refine V.imul (pc := 63) hC dX7_home_63 ?_
        refine V.iadd (pc := 64) hC dX7_home_64 ?_
        refine V.iload_n (pc := 65) 2 hC dX7_home_65 rfl ?_
        refine V.iast (pc := 66) (f := upd (μ 0) 3 ((μ 0 3) + 1)) hC 1 (15 + 2 * nN (μ 0 3)) (wM k b (va_up μ 0 (upd (upd (μ 0) 3 ((μ 0 3) + 1)) (15 + 2 * nN (μ 0 3)) h)) ν) gm_1 (ncast (b := 15 + 2 * nN (μ 0 3)) (nadd (nl 15) (nmul (nl 2) hI.mn)) (by omega)) (by omega) (by decide) rfl dX7_home_66 ?_
        refine V.aload_n (pc := 67) 1 hC dX7_home_67 rfl ?_
        refine V.get (pc := 68) (v := .ref (b 0)) hC cf_X7 0 0 fl_X7_9 (by decide) gm_0 rfl dX7_home_68 ?_
        refine V.bipush (pc := 71) 15 hC dX7_home_71 (by decide) ?_
        refine V.iconst (pc := 73) 2 hC dX7_home_73 (by decide) ?_
        refine V.iload_n (pc := 74) 0 hC dX7_home_74 rfl ?_
        refine V.imul (pc := 75) hC dX7_home_75 ?_
        refine V.iadd (pc := 76) hC dX7_home_76 ?_
        refine V.iconst (pc := 77) 1 hC dX7_home_77 (by decide) ?_
        refine V.iadd (pc := 78) hC dX7_home_78 ?_
        refine V.iload_n (pc := 79) 3 hC dX7_home_79 rfl ?_
        refine V.iast (pc := 80) (f := upd (upd (μ 0) 3 ((μ 0 3) + 1)) (15 + 2 * nN (μ 0 3)) h) hC 1 (16 + 2 * nN (μ 0 3)) (wM k b (va_up μ 0 (upd (upd (upd (μ 0) 3 ((μ 0 3) + 1)) (15 + 2 * nN (μ 0 3)) h) (16 + 2 * nN (μ 0 3)) f)) ν) gm_1 (ncast (b := 16 + 2 * nN (μ 0 3)) (nadd (nadd (nl 15) (nmul (nl 2) hI.mn)) (nl 1)) (by omega)) (by omega) (by decide) rfl dX7_home_80 ?_
        refine V.iload_n (pc := 81) 0 hC dX7_home_81 rfl ?_
        exact hR (μ 0 3) ((va_up μ 0 (upd (upd (upd (μ 0) 3 ((μ 0 3) + 1)) (15 + 2 * nN (μ 0 3)) h) (16 + 2 * nN (μ 0 3)) f))) _ _ dX7_home_82 rfl (opr (by simp only [op_home, c_5, c_15, c_35, inS, hndS, homS, prsS, shtS, if_true, if_false, not_true_eq_false, not_false_eq_true, true_and, and_true, false_and, and_false, true_or, or_true, or_false, false_or, er_1, er_2, er_3, er_4, er_5, er_6] <;> rfl))
      · have nc_35 : nN (μ 0 3) = 8 := (neq hI.mn (nl 8) (by omega) (by omega)).mp c_35
        refine V.aload_n (pc := 38) 1 hC dX7_home_38 rfl ?_
        refine V.ldc (pc := 39) (v := (-1000000004)) hC cn_X7_60 dX7_home_39 ?_
        refine V.callV0 (pc := 41) (as := [.int (-1000000004)]) hC (c_X7_error μ ν 4 (-1000000004) (by omega) (by decide)) mu_X7_error ml_X7_56 (by decide) ⟨0, 7, TX7, 20, _, rfl, gm_0⟩ rfl (Nat.le_of_ble_eq_true rfl) dX7_home_41 ?_
        rintro _ _ rfl
        show V X (wM k b (va_up μ 3 (upd (μ 3) 4 (μ 3 4 + 1))) ν) [(3, .int (μ 0 3)), (0, .ref (b 20)), (1, .int h), (2, .int f)] [.int (-1000000004)] 44
        exact hR (-1000000004) ((va_up μ 3 (upd (μ 3) 4 (μ 3 4 + 1)))) _ _ dX7_home_44 rfl (opr (by simp only [op_home, c_5, c_15, c_35, inS, hndS, homS, prsS, shtS, if_true, if_false, not_true_eq_false, not_false_eq_true, true_and, and_true, false_and, and_false, true_or, or_true, or_false, false_or, er_1, er_2, er_3, er_4, er_5, er_6] <;> rfl))
    · refine V.aload_n (pc := 18) 0 hC dX7_home_18 rfl ?_
      refine V.ldc (pc := 19) (v := (-1000000001)) hC cn_X7_55 dX7_home_19 ?_
      refine V.callV0 (pc := 21) (as := [.int (-1000000001)]) hC (c_X7_error μ ν 1 (-1000000001) (by omega) (by decide)) mu_X7_error ml_X7_56 (by decide) ⟨0, 7, TX7, 20, _, rfl, gm_0⟩ rfl (Nat.le_of_ble_eq_true rfl) dX7_home_21 ?_
      rintro _ _ rfl
      show V X (wM k b (va_up μ 3 (upd (μ 3) 1 (μ 3 1 + 1))) ν) [(0, .ref (b 20)), (1, .int h), (2, .int f)] [.int (-1000000001)] 24
      exact hR (-1000000001) ((va_up μ 3 (upd (μ 3) 1 (μ 3 1 + 1)))) _ _ dX7_home_24 rfl (opr (by simp only [op_home, c_5, c_15, inS, hndS, homS, prsS, shtS, if_true, if_false, not_true_eq_false, not_false_eq_true, true_and, and_true, false_and, and_false, true_or, or_true, or_false, false_or, er_1, er_2, er_3, er_4, er_5, er_6] <;> rfl))
set_option maxHeartbeats 4000000 in
set_option maxRecDepth 100000 in
theorem c_X7_homeIs {l : Launch} {D : va_G} {k : Nat → ClassId} {g b : Nat → Nat} (μ ν : St) (h w : Int32) (hI : Inv (μ 0)) : Ct l D k g yX7_homeIs cX7_homeIs 3 (some .int) 4 94 [.ref (b 20), .int h, .int w] (S := St × Rw × Rw) (wM k b μ ν) (fun uu => wM k b uu.1 (va_up (va_up ν 10 uu.2.1) 11 uu.2.2)) (fun vv uu => vv = some (.int ((op_homeIs h w μ).1)) ∧ uu.1 = (op_homeIs h w μ).2) := by
  refine Ct.ofI RX7 rfl (by decide +kernel) (Nat.le_of_ble_eq_true rfl) (fun X hC hR => ?_)
  have hb4 := hI.hb; have hb8 := hI.mb; have hb6 := hI.pb; have hbm := hI.ob0; have hbt := hI.bb; have hbw := hI.wb
  show V X (wM k b μ ν) [(0, .ref (b 20)), (1, .int h), (2, .int w)] [] 0
  refine V.aload_n (pc := 0) 0 hC dX7_homeIs_0 rfl ?_
  refine V.iload_n (pc := 1) 1 hC dX7_homeIs_1 rfl ?_
  refine V.callV0 (pc := 2) (as := [.int h]) hC (c_X7_isHome μ ν h ) mu_X7_isHome ml_X7_75 (by decide) ⟨0, 7, TX7, 20, _, rfl, gm_0⟩ rfl (Nat.le_of_ble_eq_true rfl) dX7_homeIs_2 ?_
  rintro _ _ rfl
  show V X (wM k b μ ν) [(0, .ref (b 20)), (1, .int h), (2, .int w)] [.int (bI (inS h 0 (μ 0 3 - 1)))] 5
  refine V.if_ne_b (P := inS h 0 (μ 0 3 - 1)) (pc := 5) 15 hC dX7_homeIs_5 (by decide) (fun c_5 => ?_) (fun c_5 => ?_)
  · have hh_h := inS_n c_5 hI.mn (by omega)
    refine V.iload_n (pc := 15) 2 hC dX7_homeIs_15 rfl ?_
    by_cases s_16_0 : w = 0
    · refine V.tableIn (pc := 16) 52 hC dX7_homeIs_16 (by rw [s_16_0]; decide) (by rw [s_16_0]; decide) (by rw [s_16_0]; rfl) (by decide) ?_
      refine V.aload_n (pc := 52) 0 hC dX7_homeIs_52 rfl ?_
      refine V.get (pc := 53) (v := .ref (b 0)) hC cf_X7 0 0 fl_X7_9 (by decide) gm_0 rfl dX7_homeIs_53 ?_
      refine V.bipush (pc := 56) 15 hC dX7_homeIs_56 (by decide) ?_
      refine V.iconst (pc := 58) 2 hC dX7_homeIs_58 (by decide) ?_
      refine V.iload_n (pc := 59) 1 hC dX7_homeIs_59 rfl ?_
      refine V.imul (pc := 60) hC dX7_homeIs_60 ?_
      refine V.iadd (pc := 61) hC dX7_homeIs_61 ?_
      refine V.iload_n (pc := 62) 2 hC dX7_homeIs_62 rfl ?_
      refine V.iadd (pc := 63) hC dX7_homeIs_63 ?_
      refine V.iald (pc := 64) (f := μ 0) hC 1 (15 + 2 * nN h) gm_1 (ncast (b := 15 + 2 * nN h) (nadd (nadd (nl 15) (nmul (nl 2) hh_h.1)) (s_16_0.trans (nl 0))) (by omega)) (by omega) (by decide) dX7_homeIs_64 ?_
      exact hR (μ 0 (15 + 2 * nN h)) (μ, ν 10, ν 11) _ _ dX7_homeIs_65 rfl (opr (by simp only [op_homeIs, c_5, s_16_0, inS, hndS, homS, prsS, shtS, if_true, if_false, not_true_eq_false, not_false_eq_true, true_and, and_true, false_and, and_false, true_or, or_true, or_false, false_or, er_1, er_2, er_3, er_4, er_5, er_6] <;> rfl))
    by_cases s_16_1 : w = 1
    · refine V.tableIn (pc := 16) 52 hC dX7_homeIs_16 (by rw [s_16_1]; decide) (by rw [s_16_1]; decide) (by rw [s_16_1]; rfl) (by decide) ?_
      refine V.aload_n (pc := 52) 0 hC dX7_homeIs_52 rfl ?_
      refine V.get (pc := 53) (v := .ref (b 0)) hC cf_X7 0 0 fl_X7_9 (by decide) gm_0 rfl dX7_homeIs_53 ?_
      refine V.bipush (pc := 56) 15 hC dX7_homeIs_56 (by decide) ?_
      refine V.iconst (pc := 58) 2 hC dX7_homeIs_58 (by decide) ?_
      refine V.iload_n (pc := 59) 1 hC dX7_homeIs_59 rfl ?_
      refine V.imul (pc := 60) hC dX7_homeIs_60 ?_
      refine V.iadd (pc := 61) hC dX7_homeIs_61 ?_
      refine V.iload_n (pc := 62) 2 hC dX7_homeIs_62 rfl ?_
      refine V.iadd (pc := 63) hC dX7_homeIs_63 ?_
      refine V.iald (pc := 64) (f := μ 0) hC 1 (16 + 2 * nN h) gm_1 (ncast (b := 16 + 2 * nN h) (nadd (nadd (nl 15) (nmul (nl 2) hh_h.1)) (s_16_1.trans (nl 1))) (by omega)) (by omega) (by decide) dX7_homeIs_64 ?_
      exact hR (μ 0 (16 + 2 * nN h)) (μ, ν 10, ν 11) _ _ dX7_homeIs_65 rfl (opr (by simp only [op_homeIs, c_5, s_16_1, inS, hndS, homS, prsS, shtS, if_true, if_false, not_true_eq_false, not_false_eq_true, true_and, and_true, false_and, and_false, true_or, or_true, or_false, false_or, er_1, er_2, er_3, er_4, er_5, er_6] <;> rfl))
    by_cases s_16_2 : w = 2
    · refine V.tableIn (pc := 16) 66 hC dX7_homeIs_16 (by rw [s_16_2]; decide) (by rw [s_16_2]; decide) (by rw [s_16_2]; rfl) (by decide) ?_
      refine V.aload_n (pc := 66) 0 hC dX7_homeIs_66 rfl ?_
      refine V.aload_n (pc := 67) 0 hC dX7_homeIs_67 rfl ?_
      refine V.get (pc := 68) (v := .ref (b 0)) hC cf_X7 0 0 fl_X7_9 (by decide) gm_0 rfl dX7_homeIs_68 ?_
      refine V.bipush (pc := 71) 15 hC dX7_homeIs_71 (by decide) ?_
      refine V.iconst (pc := 73) 2 hC dX7_homeIs_73 (by decide) ?_
      refine V.iload_n (pc := 74) 1 hC dX7_homeIs_74 rfl ?_
      refine V.imul (pc := 75) hC dX7_homeIs_75 ?_
      refine V.iadd (pc := 76) hC dX7_homeIs_76 ?_
      refine V.iald (pc := 77) (f := μ 0) hC 1 (15 + 2 * nN h) gm_1 (ncast (b := 15 + 2 * nN h) (nadd (nl 15) (nmul (nl 2) hh_h.1)) (by omega)) (by omega) (by decide) dX7_homeIs_77 ?_
      refine V.aload_n (pc := 78) 0 hC dX7_homeIs_78 rfl ?_
      refine V.get (pc := 79) (v := .ref (b 0)) hC cf_X7 0 0 fl_X7_9 (by decide) gm_0 rfl dX7_homeIs_79 ?_
      refine V.iconst (pc := 82) 0 hC dX7_homeIs_82 (by decide) ?_
      refine V.iald (pc := 83) (f := μ 0) hC 1 0 gm_1 (nl 0) (by omega) (by decide) dX7_homeIs_83 ?_
      refine V.sts (st' := [.int (μ 0 0), .int (nI (nN (μ 0 (15 + 2 * nN h)))), .ref (b 20)]) (stk (stc (hI.rn hh_h.2) (stk rfl))) ?_
      refine V.callV0 (pc := 84) (as := [.int (nI (nN (μ 0 (15 + 2 * nN h)))), .int (μ 0 0)]) hC (c_X7_markOf μ ν (nN (μ 0 (15 + 2 * nN h))) (μ 0 0) hI (hI.rb hh_h.2)) mu_X7_markOf ml_X7_51 (by decide) ⟨0, 7, TX7, 20, _, rfl, gm_0⟩ rfl (Nat.le_of_ble_eq_true rfl) dX7_homeIs_84 ?_
      rintro _ _ rfl
      show V X (wM k b μ ν) [(0, .ref (b 20)), (1, .int h), (2, .int w)] [.int (markS (μ 0) (nN (μ 0 (15 + 2 * nN h))) (μ 0 0))] 87
      exact hR (markS (μ 0) (nN (μ 0 (15 + 2 * nN h))) (μ 0 0)) (μ, ν 10, ν 11) _ _ dX7_homeIs_87 rfl (opr (by simp only [op_homeIs, c_5, s_16_2, inS, hndS, homS, prsS, shtS, if_true, if_false, not_true_eq_false, not_false_eq_true, true_and, and_true, false_and, and_false, true_or, or_true, or_false, false_or, er_1, er_2, er_3, er_4, er_5, er_6] <;> rfl))
    by_cases s_16_3 : w = 3
    · refine V.tableIn (pc := 16) 88 hC dX7_homeIs_16 (by rw [s_16_3]; decide) (by rw [s_16_3]; decide) (by rw [s_16_3]; rfl) (by decide) ?_
      refine V.aload_n (pc := 88) 0 hC dX7_homeIs_88 rfl ?_
      refine V.iload_n (pc := 89) 1 hC dX7_homeIs_89 rfl ?_
      refine V.aload_n (pc := 90) 0 hC dX7_homeIs_90 rfl ?_
      refine V.get (pc := 91) (v := .ref (b 0)) hC cf_X7 0 0 fl_X7_9 (by decide) gm_0 rfl dX7_homeIs_91 ?_
      refine V.iconst (pc := 94) 0 hC dX7_homeIs_94 (by decide) ?_
      refine V.iald (pc := 95) (f := μ 0) hC 1 0 gm_1 (nl 0) (by omega) (by decide) dX7_homeIs_95 ?_
      refine V.sts (st' := [.int (μ 0 0), .int (nI (nN h)), .ref (b 20)]) (stk (stc hh_h.1 (stk rfl))) ?_
      refine V.callV0 (pc := 96) (as := [.int (nI (nN h)), .int (μ 0 0)]) hC (c_X7_worthOf μ ν (nN h) (μ 0 0) hI hh_h.2) mu_X7_worthOf ml_X7_78 (by decide) ⟨0, 7, TX7, 20, _, rfl, gm_0⟩ rfl (Nat.le_of_ble_eq_true rfl) dX7_homeIs_96 ?_
      rintro _ ⟨f96_0, f96_1⟩ rfl
      show V X (wM k b μ (va_up (va_up ν 10 f96_0) 11 f96_1)) [(0, .ref (b 20)), (1, .int h), (2, .int w)] [.int (worthS (μ 0) (nN h) (μ 0 0))] 99
      exact hR (worthS (μ 0) (nN h) (μ 0 0)) (μ, f96_0, f96_1) _ _ dX7_homeIs_99 rfl (opr (by simp only [op_homeIs, c_5, s_16_3, inS, hndS, homS, prsS, shtS, if_true, if_false, not_true_eq_false, not_false_eq_true, true_and, and_true, false_and, and_false, true_or, or_true, or_false, false_or, er_1, er_2, er_3, er_4, er_5, er_6] <;> rfl))
    by_cases s_16_4 : w = 4
    · refine V.tableIn (pc := 16) 100 hC dX7_homeIs_16 (by rw [s_16_4]; decide) (by rw [s_16_4]; decide) (by rw [s_16_4]; rfl) (by decide) ?_
      refine V.aload_n (pc := 100) 0 hC dX7_homeIs_100 rfl ?_
      refine V.iload_n (pc := 101) 1 hC dX7_homeIs_101 rfl ?_
      refine V.callV0 (pc := 102) (as := [.int h]) hC (c_X7_whoIn μ ν h hI) mu_X7_whoIn ml_X7_81 (by decide) ⟨0, 7, TX7, 20, _, rfl, gm_0⟩ rfl (Nat.le_of_ble_eq_true rfl) dX7_homeIs_102 ?_
      rintro _ _ rfl
      show V X (wM k b μ ν) [(0, .ref (b 20)), (1, .int h), (2, .int w)] [.int (whoInS (μ 0) h)] 105
      exact hR (whoInS (μ 0) h) (μ, ν 10, ν 11) _ _ dX7_homeIs_105 rfl (opr (by simp only [op_homeIs, c_5, s_16_4, inS, hndS, homS, prsS, shtS, if_true, if_false, not_true_eq_false, not_false_eq_true, true_and, and_true, false_and, and_false, true_or, or_true, or_false, false_or, er_1, er_2, er_3, er_4, er_5, er_6] <;> rfl))
    refine V.tableOut (pc := 16) 106 hC dX7_homeIs_16 (by have ts_16_0 : ¬ (w).toInt = 0 := fun q => s_16_0 (Int32.toInt_inj.mp q); have ts_16_1 : ¬ (w).toInt = 1 := fun q => s_16_1 (Int32.toInt_inj.mp q); have ts_16_2 : ¬ (w).toInt = 2 := fun q => s_16_2 (Int32.toInt_inj.mp q); have ts_16_3 : ¬ (w).toInt = 3 := fun q => s_16_3 (Int32.toInt_inj.mp q); have ts_16_4 : ¬ (w).toInt = 4 := fun q => s_16_4 (Int32.toInt_inj.mp q); omega) (by decide) ?_
    refine V.aload_n (pc := 106) 0 hC dX7_homeIs_106 rfl ?_
    refine V.ldc (pc := 107) (v := (-1000000001)) hC cn_X7_55 dX7_homeIs_107 ?_
    refine V.callV0 (pc := 109) (as := [.int (-1000000001)]) hC (c_X7_error μ ν 1 (-1000000001) (by omega) (by decide)) mu_X7_error ml_X7_56 (by decide) ⟨0, 7, TX7, 20, _, rfl, gm_0⟩ rfl (Nat.le_of_ble_eq_true rfl) dX7_homeIs_109 ?_
    rintro _ _ rfl
    show V X (wM k b (va_up μ 3 (upd (μ 3) 1 (μ 3 1 + 1))) ν) [(0, .ref (b 20)), (1, .int h), (2, .int w)] [.int (-1000000001)] 112
    exact hR (-1000000001) ((va_up μ 3 (upd (μ 3) 1 (μ 3 1 + 1))), ν 10, ν 11) _ _ dX7_homeIs_112 rfl (opr (by simp only [op_homeIs, c_5, s_16_0, s_16_1, s_16_2, s_16_3, s_16_4, inS, hndS, homS, prsS, shtS, if_true, if_false, not_true_eq_false, not_false_eq_true, true_and, and_true, false_and, and_false, true_or, or_true, or_false, false_or, er_1, er_2, er_3, er_4, er_5, er_6] <;> rfl))
  · refine V.aload_n (pc := 8) 0 hC dX7_homeIs_8 rfl ?_
    refine V.ldc (pc := 9) (v := (-1000000001)) hC cn_X7_55 dX7_homeIs_9 ?_
    refine V.callV0 (pc := 11) (as := [.int (-1000000001)]) hC (c_X7_error μ ν 1 (-1000000001) (by omega) (by decide)) mu_X7_error ml_X7_56 (by decide) ⟨0, 7, TX7, 20, _, rfl, gm_0⟩ rfl (Nat.le_of_ble_eq_true rfl) dX7_homeIs_11 ?_
    rintro _ _ rfl
    show V X (wM k b (va_up μ 3 (upd (μ 3) 1 (μ 3 1 + 1))) ν) [(0, .ref (b 20)), (1, .int h), (2, .int w)] [.int (-1000000001)] 14
    exact hR (-1000000001) ((va_up μ 3 (upd (μ 3) 1 (μ 3 1 + 1))), ν 10, ν 11) _ _ dX7_homeIs_14 rfl (opr (by simp only [op_homeIs, c_5, inS, hndS, homS, prsS, shtS, if_true, if_false, not_true_eq_false, not_false_eq_true, true_and, and_true, false_and, and_false, true_or, or_true, or_false, false_or, er_1, er_2, er_3, er_4, er_5, er_6] <;> rfl))
set_option maxHeartbeats 4000000 in
set_option maxRecDepth 100000 in
theorem c_X7_person {l : Launch} {D : va_G} {k : Nat → ClassId} {g b : Nat → Nat} (μ ν : St) (km h : Int32) (hI : Inv (μ 0)) : Ct l D k g yX7_person cX7_person 4 (some .int) 2 43 [.ref (b 20), .int km, .int h] (S := St) (wM k b μ ν) (fun uu => wM k b uu ν) (fun vv uu => vv = some (.int ((op_person km h μ).1)) ∧ uu = (op_person km h μ).2) := by
  refine Ct.ofI RX7 rfl (by decide +kernel) (Nat.le_of_ble_eq_true rfl) (fun X hC hR => ?_)
  have hb4 := hI.hb; have hb8 := hI.mb; have hb6 := hI.pb; have hbm := hI.ob0; have hbt := hI.bb; have hbw := hI.wb
  show V X (wM k b μ ν) [(0, .ref (b 20)), (1, .int km), (2, .int h)] [] 0
  refine V.iload_n (pc := 0) 1 hC dX7_person_0 rfl ?_
  refine V.callS0 (pc := 1) (as := [.int km]) hC (c_X7_isKm km ) ms_X7_isKm ml_X7_84 (by decide) rfl (Nat.le_of_ble_eq_true rfl) dX7_person_1 ?_
  rintro _ _ rfl
  show V X (wM k b μ ν) [(0, .ref (b 20)), (1, .int km), (2, .int h)] [.int (bI (inS km 0 69))] 4
  refine V.if_eq_b (P := inS km 0 69) (pc := 4) 15 hC dX7_person_4 (by decide) (fun c_4 => ?_) (fun c_4 => ?_)
  · refine V.aload_n (pc := 15) 0 hC dX7_person_15 rfl ?_
    refine V.ldc (pc := 16) (v := (-1000000001)) hC cn_X7_55 dX7_person_16 ?_
    refine V.callV0 (pc := 18) (as := [.int (-1000000001)]) hC (c_X7_error μ ν 1 (-1000000001) (by omega) (by decide)) mu_X7_error ml_X7_56 (by decide) ⟨0, 7, TX7, 20, _, rfl, gm_0⟩ rfl (Nat.le_of_ble_eq_true rfl) dX7_person_18 ?_
    rintro _ _ rfl
    show V X (wM k b (va_up μ 3 (upd (μ 3) 1 (μ 3 1 + 1))) ν) [(0, .ref (b 20)), (1, .int km), (2, .int h)] [.int (-1000000001)] 21
    exact hR (-1000000001) ((va_up μ 3 (upd (μ 3) 1 (μ 3 1 + 1)))) _ _ dX7_person_21 rfl (opr (by simp only [op_person, irm, c_4, inS, hndS, homS, prsS, shtS, if_true, if_false, not_true_eq_false, not_false_eq_true, true_and, and_true, false_and, and_false, true_or, or_true, or_false, false_or, er_1, er_2, er_3, er_4, er_5, er_6] <;> rfl))
  · refine V.aload_n (pc := 7) 0 hC dX7_person_7 rfl ?_
    refine V.iload_n (pc := 8) 2 hC dX7_person_8 rfl ?_
    refine V.callV0 (pc := 9) (as := [.int h]) hC (c_X7_isHome μ ν h ) mu_X7_isHome ml_X7_75 (by decide) ⟨0, 7, TX7, 20, _, rfl, gm_0⟩ rfl (Nat.le_of_ble_eq_true rfl) dX7_person_9 ?_
    rintro _ _ rfl
    show V X (wM k b μ ν) [(0, .ref (b 20)), (1, .int km), (2, .int h)] [.int (bI (inS h 0 (μ 0 3 - 1)))] 12
    refine V.if_ne_b (P := inS h 0 (μ 0 3 - 1)) (pc := 12) 22 hC dX7_person_12 (by decide) (fun c_12 => ?_) (fun c_12 => ?_)
    · have hh_h := inS_n c_12 hI.mn (by omega)
      refine V.aload_n (pc := 22) 0 hC dX7_person_22 rfl ?_
      refine V.get (pc := 23) (v := .ref (b 0)) hC cf_X7 0 0 fl_X7_9 (by decide) gm_0 rfl dX7_person_23 ?_
      refine V.iconst (pc := 26) 4 hC dX7_person_26 (by decide) ?_
      refine V.iald (pc := 27) (f := μ 0) hC 1 4 gm_1 (nl 4) (by omega) (by decide) dX7_person_27 ?_
      refine V.istore_n (pc := 28) [(3, .int (μ 0 4)), (0, .ref (b 20)), (1, .int km), (2, .int h)] hC dX7_person_28 (by decide) rfl ?_
      refine V.iload_n (pc := 29) 0 hC dX7_person_29 rfl ?_
      refine V.bipush (pc := 30) 6 hC dX7_person_30 (by decide) ?_
      refine V.icmp_ne (pc := 32) 42 hC dX7_person_32 (by decide) (fun c_32 => ?_) (fun c_32 => ?_)
      · have nc_32 : ¬ (nN (μ 0 4) = 6) := fun z => c_32 ((neq hI.pn (nl 6) (by omega) (by omega)).mpr z)
        refine V.aload_n (pc := 42) 1 hC dX7_person_42 rfl ?_
        refine V.get (pc := 43) (v := .ref (b 0)) hC cf_X7 0 0 fl_X7_9 (by decide) gm_0 rfl dX7_person_43 ?_
        refine V.iconst (pc := 46) 4 hC dX7_person_46 (by decide) ?_
        refine V.dup2 (pc := 47) hC dX7_person_47 rfl rfl ?_
        refine V.iald (pc := 48) (f := μ 0) hC 1 4 gm_1 (nl 4) (by omega) (by decide) dX7_person_48 ?_
        refine V.iconst (pc := 49) 1 hC dX7_person_49 (by decide) ?_
        refine V.iadd (pc := 50) hC dX7_person_50 ?_
        refine V.iast (pc := 51) (f := μ 0) hC 1 4 (wM k b (va_up μ 0 (upd (μ 0) 4 ((μ 0 4) + 1))) ν) gm_1 (nl 4) (by omega) (by decide) rfl dX7_person_51 ?_
        refine V.aload_n (pc := 52) 1 hC dX7_person_52 rfl ?_
        refine V.get (pc := 53) (v := .ref (b 0)) hC cf_X7 0 0 fl_X7_9 (by decide) gm_0 rfl dX7_person_53 ?_
        refine V.bipush (pc := 56) 31 hC dX7_person_56 (by decide) ?_
        refine V.iconst (pc := 58) 3 hC dX7_person_58 (by decide) ?_
        refine V.iload_n (pc := 59) 0 hC dX7_person_59 rfl ?_
        refine V.imul (pc := 60) hC dX7_person_60 ?_
        refine V.iadd (pc := 61) hC dX7_person_61 ?_
        refine V.iload_n (pc := 62) 2 hC dX7_person_62 rfl ?_
        refine V.bipush (pc := 63) 10 hC dX7_person_63 (by decide) ?_
        refine V.idiv (pc := 65) hC dX7_person_65 (by decide) ?_
        refine V.iast (pc := 66) (f := upd (μ 0) 4 ((μ 0 4) + 1)) hC 1 (31 + 3 * nN (μ 0 4)) (wM k b (va_up μ 0 (upd (upd (μ 0) 4 ((μ 0 4) + 1)) (31 + 3 * nN (μ 0 4)) (km / 10))) ν) gm_1 (ncast (b := 31 + 3 * nN (μ 0 4)) (nadd (nl 31) (nmul (nl 3) hI.pn)) (by omega)) (by omega) (by decide) rfl dX7_person_66 ?_
        refine V.aload_n (pc := 67) 1 hC dX7_person_67 rfl ?_
        refine V.get (pc := 68) (v := .ref (b 0)) hC cf_X7 0 0 fl_X7_9 (by decide) gm_0 rfl dX7_person_68 ?_
        refine V.bipush (pc := 71) 31 hC dX7_person_71 (by decide) ?_
        refine V.iconst (pc := 73) 3 hC dX7_person_73 (by decide) ?_
        refine V.iload_n (pc := 74) 0 hC dX7_person_74 rfl ?_
        refine V.imul (pc := 75) hC dX7_person_75 ?_
        refine V.iadd (pc := 76) hC dX7_person_76 ?_
        refine V.iconst (pc := 77) 1 hC dX7_person_77 (by decide) ?_
        refine V.iadd (pc := 78) hC dX7_person_78 ?_
        refine V.iload_n (pc := 79) 2 hC dX7_person_79 rfl ?_
        refine V.bipush (pc := 80) 10 hC dX7_person_80 (by decide) ?_
        refine V.irem (pc := 82) hC dX7_person_82 (by decide) ?_
        refine V.iast (pc := 83) (f := upd (upd (μ 0) 4 ((μ 0 4) + 1)) (31 + 3 * nN (μ 0 4)) (km / 10)) hC 1 (32 + 3 * nN (μ 0 4)) (wM k b (va_up μ 0 (upd (upd (upd (μ 0) 4 ((μ 0 4) + 1)) (31 + 3 * nN (μ 0 4)) (km / 10)) (32 + 3 * nN (μ 0 4)) (km - km / 10 * 10))) ν) gm_1 (ncast (b := 32 + 3 * nN (μ 0 4)) (nadd (nadd (nl 31) (nmul (nl 3) hI.pn)) (nl 1)) (by omega)) (by omega) (by decide) rfl dX7_person_83 ?_
        refine V.aload_n (pc := 84) 1 hC dX7_person_84 rfl ?_
        refine V.get (pc := 85) (v := .ref (b 0)) hC cf_X7 0 0 fl_X7_9 (by decide) gm_0 rfl dX7_person_85 ?_
        refine V.bipush (pc := 88) 31 hC dX7_person_88 (by decide) ?_
        refine V.iconst (pc := 90) 3 hC dX7_person_90 (by decide) ?_
        refine V.iload_n (pc := 91) 0 hC dX7_person_91 rfl ?_
        refine V.imul (pc := 92) hC dX7_person_92 ?_
        refine V.iadd (pc := 93) hC dX7_person_93 ?_
        refine V.iconst (pc := 94) 2 hC dX7_person_94 (by decide) ?_
        refine V.iadd (pc := 95) hC dX7_person_95 ?_
        refine V.iload_n (pc := 96) 3 hC dX7_person_96 rfl ?_
        refine V.iast (pc := 97) (f := upd (upd (upd (μ 0) 4 ((μ 0 4) + 1)) (31 + 3 * nN (μ 0 4)) (km / 10)) (32 + 3 * nN (μ 0 4)) (km - km / 10 * 10)) hC 1 (33 + 3 * nN (μ 0 4)) (wM k b (va_up μ 0 (upd (upd (upd (upd (μ 0) 4 ((μ 0 4) + 1)) (31 + 3 * nN (μ 0 4)) (km / 10)) (32 + 3 * nN (μ 0 4)) (km - km / 10 * 10)) (33 + 3 * nN (μ 0 4)) h)) ν) gm_1 (ncast (b := 33 + 3 * nN (μ 0 4)) (nadd (nadd (nl 31) (nmul (nl 3) hI.pn)) (nl 2)) (by omega)) (by omega) (by decide) rfl dX7_person_97 ?_
        refine V.iload_n (pc := 98) 0 hC dX7_person_98 rfl ?_
        exact hR (μ 0 4) ((va_up μ 0 (upd (upd (upd (upd (μ 0) 4 ((μ 0 4) + 1)) (31 + 3 * nN (μ 0 4)) (km / 10)) (32 + 3 * nN (μ 0 4)) (km - km / 10 * 10)) (33 + 3 * nN (μ 0 4)) h))) _ _ dX7_person_99 rfl (opr (by simp only [op_person, irm, c_4, c_12, c_32, inS, hndS, homS, prsS, shtS, if_true, if_false, not_true_eq_false, not_false_eq_true, true_and, and_true, false_and, and_false, true_or, or_true, or_false, false_or, er_1, er_2, er_3, er_4, er_5, er_6] <;> rfl))
      · have nc_32 : nN (μ 0 4) = 6 := (neq hI.pn (nl 6) (by omega) (by omega)).mp c_32
        refine V.aload_n (pc := 35) 1 hC dX7_person_35 rfl ?_
        refine V.ldc (pc := 36) (v := (-1000000004)) hC cn_X7_60 dX7_person_36 ?_
        refine V.callV0 (pc := 38) (as := [.int (-1000000004)]) hC (c_X7_error μ ν 4 (-1000000004) (by omega) (by decide)) mu_X7_error ml_X7_56 (by decide) ⟨0, 7, TX7, 20, _, rfl, gm_0⟩ rfl (Nat.le_of_ble_eq_true rfl) dX7_person_38 ?_
        rintro _ _ rfl
        show V X (wM k b (va_up μ 3 (upd (μ 3) 4 (μ 3 4 + 1))) ν) [(3, .int (μ 0 4)), (0, .ref (b 20)), (1, .int km), (2, .int h)] [.int (-1000000004)] 41
        exact hR (-1000000004) ((va_up μ 3 (upd (μ 3) 4 (μ 3 4 + 1)))) _ _ dX7_person_41 rfl (opr (by simp only [op_person, irm, c_4, c_12, c_32, inS, hndS, homS, prsS, shtS, if_true, if_false, not_true_eq_false, not_false_eq_true, true_and, and_true, false_and, and_false, true_or, or_true, or_false, false_or, er_1, er_2, er_3, er_4, er_5, er_6] <;> rfl))
    · refine V.aload_n (pc := 15) 0 hC dX7_person_15 rfl ?_
      refine V.ldc (pc := 16) (v := (-1000000001)) hC cn_X7_55 dX7_person_16 ?_
      refine V.callV0 (pc := 18) (as := [.int (-1000000001)]) hC (c_X7_error μ ν 1 (-1000000001) (by omega) (by decide)) mu_X7_error ml_X7_56 (by decide) ⟨0, 7, TX7, 20, _, rfl, gm_0⟩ rfl (Nat.le_of_ble_eq_true rfl) dX7_person_18 ?_
      rintro _ _ rfl
      show V X (wM k b (va_up μ 3 (upd (μ 3) 1 (μ 3 1 + 1))) ν) [(0, .ref (b 20)), (1, .int km), (2, .int h)] [.int (-1000000001)] 21
      exact hR (-1000000001) ((va_up μ 3 (upd (μ 3) 1 (μ 3 1 + 1)))) _ _ dX7_person_21 rfl (opr (by simp only [op_person, irm, c_4, c_12, inS, hndS, homS, prsS, shtS, if_true, if_false, not_true_eq_false, not_false_eq_true, true_and, and_true, false_and, and_false, true_or, or_true, or_false, false_or, er_1, er_2, er_3, er_4, er_5, er_6] <;> rfl))
set_option maxHeartbeats 4000000 in
set_option maxRecDepth 100000 in
theorem c_X7_personIs {l : Launch} {D : va_G} {k : Nat → ClassId} {g b : Nat → Nat} (μ ν : St) (p w : Int32) (hI : Inv (μ 0)) : Ct l D k g yX7_personIs cX7_personIs 3 (some .int) 6 148 [.ref (b 20), .int p, .int w] (S := St × Rw × Rw) (wM k b μ ν) (fun uu => wM k b uu.1 (va_up (va_up ν 10 uu.2.1) 11 uu.2.2)) (fun vv uu => vv = some (.int ((op_personIs p w μ).1)) ∧ uu.1 = (op_personIs p w μ).2) := by
  refine Ct.ofI RX7 rfl (by decide +kernel) (Nat.le_of_ble_eq_true rfl) (fun X hC hR => ?_)
  have hb4 := hI.hb; have hb8 := hI.mb; have hb6 := hI.pb; have hbm := hI.ob0; have hbt := hI.bb; have hbw := hI.wb
  show V X (wM k b μ ν) [(0, .ref (b 20)), (1, .int p), (2, .int w)] [] 0
  refine V.aload_n (pc := 0) 0 hC dX7_personIs_0 rfl ?_
  refine V.iload_n (pc := 1) 1 hC dX7_personIs_1 rfl ?_
  refine V.callV0 (pc := 2) (as := [.int p]) hC (c_X7_isPerson μ ν p ) mu_X7_isPerson ml_X7_104 (by decide) ⟨0, 7, TX7, 20, _, rfl, gm_0⟩ rfl (Nat.le_of_ble_eq_true rfl) dX7_personIs_2 ?_
  rintro _ _ rfl
  show V X (wM k b μ ν) [(0, .ref (b 20)), (1, .int p), (2, .int w)] [.int (bI (inS p 0 (μ 0 4 - 1)))] 5
  refine V.if_ne_b (P := inS p 0 (μ 0 4 - 1)) (pc := 5) 15 hC dX7_personIs_5 (by decide) (fun c_5 => ?_) (fun c_5 => ?_)
  · have hh_p := inS_n c_5 hI.pn (by omega)
    refine V.iload_n (pc := 15) 2 hC dX7_personIs_15 rfl ?_
    by_cases s_16_0 : w = 0
    · refine V.tableIn (pc := 16) 56 hC dX7_personIs_16 (by rw [s_16_0]; decide) (by rw [s_16_0]; decide) (by rw [s_16_0]; rfl) (by decide) ?_
      refine V.aload_n (pc := 56) 0 hC dX7_personIs_56 rfl ?_
      refine V.iload_n (pc := 57) 1 hC dX7_personIs_57 rfl ?_
      refine V.iload_n (pc := 58) 2 hC dX7_personIs_58 rfl ?_
      refine V.sts (st' := [.int (nI 0), .int (nI (nN p)), .ref (b 20)]) (stc (s_16_0.trans (nl 0)) (stc hh_p.1 (stk rfl))) ?_
      refine V.callV0 (pc := 59) (as := [.int (nI (nN p)), .int (nI 0)]) hC (c_X7_of μ ν (nN p) 0 (by have := hh_p.2; omega) (by omega)) mu_X7_of ml_X7_72 (by decide) ⟨0, 7, TX7, 20, _, rfl, gm_0⟩ rfl (Nat.le_of_ble_eq_true rfl) dX7_personIs_59 ?_
      rintro _ _ rfl
      show V X (wM k b μ ν) [(0, .ref (b 20)), (1, .int p), (2, .int w)] [.int (μ 0 (31 + 3 * (nN p) + 0))] 62
      refine V.eqi (y := μ 0 (31 + 3 * nN p)) (congrArg (μ 0) (by omega)) ?_
      exact hR (μ 0 (31 + 3 * nN p)) (μ, ν 10, ν 11) _ _ dX7_personIs_62 rfl (opr (by simp only [op_personIs, Nat.add_zero, c_5, s_16_0, inS, hndS, homS, prsS, shtS, if_true, if_false, not_true_eq_false, not_false_eq_true, true_and, and_true, false_and, and_false, true_or, or_true, or_false, false_or, er_1, er_2, er_3, er_4, er_5, er_6] <;> rfl))
    by_cases s_16_1 : w = 1
    · refine V.tableIn (pc := 16) 56 hC dX7_personIs_16 (by rw [s_16_1]; decide) (by rw [s_16_1]; decide) (by rw [s_16_1]; rfl) (by decide) ?_
      refine V.aload_n (pc := 56) 0 hC dX7_personIs_56 rfl ?_
      refine V.iload_n (pc := 57) 1 hC dX7_personIs_57 rfl ?_
      refine V.iload_n (pc := 58) 2 hC dX7_personIs_58 rfl ?_
      refine V.sts (st' := [.int (nI 1), .int (nI (nN p)), .ref (b 20)]) (stc (s_16_1.trans (nl 1)) (stc hh_p.1 (stk rfl))) ?_
      refine V.callV0 (pc := 59) (as := [.int (nI (nN p)), .int (nI 1)]) hC (c_X7_of μ ν (nN p) 1 (by have := hh_p.2; omega) (by omega)) mu_X7_of ml_X7_72 (by decide) ⟨0, 7, TX7, 20, _, rfl, gm_0⟩ rfl (Nat.le_of_ble_eq_true rfl) dX7_personIs_59 ?_
      rintro _ _ rfl
      show V X (wM k b μ ν) [(0, .ref (b 20)), (1, .int p), (2, .int w)] [.int (μ 0 (31 + 3 * (nN p) + 1))] 62
      refine V.eqi (y := μ 0 (32 + 3 * nN p)) (congrArg (μ 0) (by omega)) ?_
      exact hR (μ 0 (32 + 3 * nN p)) (μ, ν 10, ν 11) _ _ dX7_personIs_62 rfl (opr (by simp only [op_personIs, Nat.add_zero, c_5, s_16_1, inS, hndS, homS, prsS, shtS, if_true, if_false, not_true_eq_false, not_false_eq_true, true_and, and_true, false_and, and_false, true_or, or_true, or_false, false_or, er_1, er_2, er_3, er_4, er_5, er_6] <;> rfl))
    by_cases s_16_2 : w = 2
    · refine V.tableIn (pc := 16) 56 hC dX7_personIs_16 (by rw [s_16_2]; decide) (by rw [s_16_2]; decide) (by rw [s_16_2]; rfl) (by decide) ?_
      refine V.aload_n (pc := 56) 0 hC dX7_personIs_56 rfl ?_
      refine V.iload_n (pc := 57) 1 hC dX7_personIs_57 rfl ?_
      refine V.iload_n (pc := 58) 2 hC dX7_personIs_58 rfl ?_
      refine V.sts (st' := [.int (nI 2), .int (nI (nN p)), .ref (b 20)]) (stc (s_16_2.trans (nl 2)) (stc hh_p.1 (stk rfl))) ?_
      refine V.callV0 (pc := 59) (as := [.int (nI (nN p)), .int (nI 2)]) hC (c_X7_of μ ν (nN p) 2 (by have := hh_p.2; omega) (by omega)) mu_X7_of ml_X7_72 (by decide) ⟨0, 7, TX7, 20, _, rfl, gm_0⟩ rfl (Nat.le_of_ble_eq_true rfl) dX7_personIs_59 ?_
      rintro _ _ rfl
      show V X (wM k b μ ν) [(0, .ref (b 20)), (1, .int p), (2, .int w)] [.int (μ 0 (31 + 3 * (nN p) + 2))] 62
      refine V.eqi (y := μ 0 (33 + 3 * nN p)) (congrArg (μ 0) (by omega)) ?_
      exact hR (μ 0 (33 + 3 * nN p)) (μ, ν 10, ν 11) _ _ dX7_personIs_62 rfl (opr (by simp only [op_personIs, Nat.add_zero, c_5, s_16_2, inS, hndS, homS, prsS, shtS, if_true, if_false, not_true_eq_false, not_false_eq_true, true_and, and_true, false_and, and_false, true_or, or_true, or_false, false_or, er_1, er_2, er_3, er_4, er_5, er_6] <;> rfl))
    by_cases s_16_3 : w = 3
    · refine V.tableIn (pc := 16) 63 hC dX7_personIs_16 (by rw [s_16_3]; decide) (by rw [s_16_3]; decide) (by rw [s_16_3]; rfl) (by decide) ?_
      refine V.aload_n (pc := 63) 0 hC dX7_personIs_63 rfl ?_
      refine V.iload_n (pc := 64) 1 hC dX7_personIs_64 rfl ?_
      refine V.aload_n (pc := 65) 0 hC dX7_personIs_65 rfl ?_
      refine V.get (pc := 66) (v := .ref (b 0)) hC cf_X7 0 0 fl_X7_9 (by decide) gm_0 rfl dX7_personIs_66 ?_
      refine V.iconst (pc := 69) 0 hC dX7_personIs_69 (by decide) ?_
      refine V.iald (pc := 70) (f := μ 0) hC 1 0 gm_1 (nl 0) (by omega) (by decide) dX7_personIs_70 ?_
      refine V.sts (st' := [.int (μ 0 0), .int (nI (nN p)), .ref (b 20)]) (stk (stc hh_p.1 (stk rfl))) ?_
      refine V.callV0 (pc := 71) (as := [.int (nI (nN p)), .int (μ 0 0)]) hC (c_X7_leapsOf μ ν (nN p) (μ 0 0) hI (by have := hh_p.2; omega)) mu_X7_leapsOf ml_X7_94 (by decide) ⟨0, 7, TX7, 20, _, rfl, gm_0⟩ rfl (Nat.le_of_ble_eq_true rfl) dX7_personIs_71 ?_
      rintro _ ⟨f71_0, f71_1⟩ rfl
      show V X (wM k b μ (va_up (va_up ν 10 f71_0) 11 f71_1)) [(0, .ref (b 20)), (1, .int p), (2, .int w)] [.int (leapsS (μ 0) (nN p) (μ 0 0))] 74
      exact hR (leapsS (μ 0) (nN p) (μ 0 0)) (μ, f71_0, f71_1) _ _ dX7_personIs_74 rfl (opr (by simp only [op_personIs, Nat.add_zero, c_5, s_16_3, inS, hndS, homS, prsS, shtS, if_true, if_false, not_true_eq_false, not_false_eq_true, true_and, and_true, false_and, and_false, true_or, or_true, or_false, false_or, er_1, er_2, er_3, er_4, er_5, er_6] <;> rfl))
    by_cases s_16_4 : w = 4
    · refine V.tableIn (pc := 16) 75 hC dX7_personIs_16 (by rw [s_16_4]; decide) (by rw [s_16_4]; decide) (by rw [s_16_4]; rfl) (by decide) ?_
      refine V.aload_n (pc := 75) 0 hC dX7_personIs_75 rfl ?_
      refine V.iload_n (pc := 76) 1 hC dX7_personIs_76 rfl ?_
      refine V.sts (st' := [.int (nI (nN p)), .ref (b 20)]) (stc hh_p.1 (stk rfl)) ?_
      refine V.callV0 (pc := 77) (as := [.int (nI (nN p))]) hC (c_X7_spansOf μ ν (nN p) (by have := hh_p.2; omega)) mu_X7_spansOf ml_X7_87 (by decide) ⟨0, 7, TX7, 20, _, rfl, gm_0⟩ rfl (Nat.le_of_ble_eq_true rfl) dX7_personIs_77 ?_
      rintro _ _ rfl
      show V X (wM k b μ ν) [(0, .ref (b 20)), (1, .int p), (2, .int w)] [.int (spansS (μ 0) (nN p))] 80
      exact hR (spansS (μ 0) (nN p)) (μ, ν 10, ν 11) _ _ dX7_personIs_80 rfl (opr (by simp only [op_personIs, Nat.add_zero, c_5, s_16_4, inS, hndS, homS, prsS, shtS, if_true, if_false, not_true_eq_false, not_false_eq_true, true_and, and_true, false_and, and_false, true_or, or_true, or_false, false_or, er_1, er_2, er_3, er_4, er_5, er_6] <;> rfl))
    by_cases s_16_5 : w = 5
    · refine V.tableIn (pc := 16) 81 hC dX7_personIs_16 (by rw [s_16_5]; decide) (by rw [s_16_5]; decide) (by rw [s_16_5]; rfl) (by decide) ?_
      refine V.aload_n (pc := 81) 0 hC dX7_personIs_81 rfl ?_
      refine V.iload_n (pc := 82) 1 hC dX7_personIs_82 rfl ?_
      refine V.iconst (pc := 83) 1 hC dX7_personIs_83 (by decide) ?_
      refine V.sts (st' := [.int (nI 1), .int (nI (nN p)), .ref (b 20)]) (stc (nl 1) (stc hh_p.1 (stk rfl))) ?_
      refine V.callV0 (pc := 84) (as := [.int (nI (nN p)), .int (nI 1)]) hC (c_X7_roomsBy μ ν (nN p) 1 hI (by have := hh_p.2; omega) (by omega)) mu_X7_roomsBy ml_X7_107 (by decide) ⟨0, 7, TX7, 20, _, rfl, gm_0⟩ rfl (Nat.le_of_ble_eq_true rfl) dX7_personIs_84 ?_
      rintro _ ⟨f84_0, f84_1⟩ rfl
      show V X (wM k b μ (va_up (va_up ν 10 f84_0) 11 f84_1)) [(0, .ref (b 20)), (1, .int p), (2, .int w)] [.int (roomsByS (μ 0) (nN p) 1)] 87
      exact hR (roomsByS (μ 0) (nN p) 1) (μ, f84_0, f84_1) _ _ dX7_personIs_87 rfl (opr (by simp only [op_personIs, Nat.add_zero, c_5, s_16_5, inS, hndS, homS, prsS, shtS, if_true, if_false, not_true_eq_false, not_false_eq_true, true_and, and_true, false_and, and_false, true_or, or_true, or_false, false_or, er_1, er_2, er_3, er_4, er_5, er_6] <;> rfl))
    refine V.tableOut (pc := 16) 88 hC dX7_personIs_16 (by have ts_16_0 : ¬ (w).toInt = 0 := fun q => s_16_0 (Int32.toInt_inj.mp q); have ts_16_1 : ¬ (w).toInt = 1 := fun q => s_16_1 (Int32.toInt_inj.mp q); have ts_16_2 : ¬ (w).toInt = 2 := fun q => s_16_2 (Int32.toInt_inj.mp q); have ts_16_3 : ¬ (w).toInt = 3 := fun q => s_16_3 (Int32.toInt_inj.mp q); have ts_16_4 : ¬ (w).toInt = 4 := fun q => s_16_4 (Int32.toInt_inj.mp q); have ts_16_5 : ¬ (w).toInt = 5 := fun q => s_16_5 (Int32.toInt_inj.mp q); omega) (by decide) ?_
    refine V.aload_n (pc := 88) 0 hC dX7_personIs_88 rfl ?_
    refine V.ldc (pc := 89) (v := (-1000000001)) hC cn_X7_55 dX7_personIs_89 ?_
    refine V.callV0 (pc := 91) (as := [.int (-1000000001)]) hC (c_X7_error μ ν 1 (-1000000001) (by omega) (by decide)) mu_X7_error ml_X7_56 (by decide) ⟨0, 7, TX7, 20, _, rfl, gm_0⟩ rfl (Nat.le_of_ble_eq_true rfl) dX7_personIs_91 ?_
    rintro _ _ rfl
    show V X (wM k b (va_up μ 3 (upd (μ 3) 1 (μ 3 1 + 1))) ν) [(0, .ref (b 20)), (1, .int p), (2, .int w)] [.int (-1000000001)] 94
    exact hR (-1000000001) ((va_up μ 3 (upd (μ 3) 1 (μ 3 1 + 1))), ν 10, ν 11) _ _ dX7_personIs_94 rfl (opr (by simp only [op_personIs, Nat.add_zero, c_5, s_16_0, s_16_1, s_16_2, s_16_3, s_16_4, s_16_5, inS, hndS, homS, prsS, shtS, if_true, if_false, not_true_eq_false, not_false_eq_true, true_and, and_true, false_and, and_false, true_or, or_true, or_false, false_or, er_1, er_2, er_3, er_4, er_5, er_6] <;> rfl))
  · refine V.aload_n (pc := 8) 0 hC dX7_personIs_8 rfl ?_
    refine V.ldc (pc := 9) (v := (-1000000001)) hC cn_X7_55 dX7_personIs_9 ?_
    refine V.callV0 (pc := 11) (as := [.int (-1000000001)]) hC (c_X7_error μ ν 1 (-1000000001) (by omega) (by decide)) mu_X7_error ml_X7_56 (by decide) ⟨0, 7, TX7, 20, _, rfl, gm_0⟩ rfl (Nat.le_of_ble_eq_true rfl) dX7_personIs_11 ?_
    rintro _ _ rfl
    show V X (wM k b (va_up μ 3 (upd (μ 3) 1 (μ 3 1 + 1))) ν) [(0, .ref (b 20)), (1, .int p), (2, .int w)] [.int (-1000000001)] 14
    exact hR (-1000000001) ((va_up μ 3 (upd (μ 3) 1 (μ 3 1 + 1))), ν 10, ν 11) _ _ dX7_personIs_14 rfl (opr (by simp only [op_personIs, Nat.add_zero, c_5, inS, hndS, homS, prsS, shtS, if_true, if_false, not_true_eq_false, not_false_eq_true, true_and, and_true, false_and, and_false, true_or, or_true, or_false, false_or, er_1, er_2, er_3, er_4, er_5, er_6] <;> rfl))
set_option maxHeartbeats 4000000 in
set_option maxRecDepth 100000 in
theorem c_X7_become {l : Launch} {D : va_G} {k : Nat → ClassId} {g b : Nat → Nat} (μ ν : St) (p km : Int32) (hI : Inv (μ 0)) : Ct l D k g yX7_become cX7_become 3 (some .int) 2 43 [.ref (b 20), .int p, .int km] (S := St) (wM k b μ ν) (fun uu => wM k b uu ν) (fun vv uu => vv = some (.int ((op_become p km μ).1)) ∧ uu = (op_become p km μ).2) := by
  refine Ct.ofI RX7 rfl (by decide +kernel) (Nat.le_of_ble_eq_true rfl) (fun X hC hR => ?_)
  have hb4 := hI.hb; have hb8 := hI.mb; have hb6 := hI.pb; have hbm := hI.ob0; have hbt := hI.bb; have hbw := hI.wb
  show V X (wM k b μ ν) [(0, .ref (b 20)), (1, .int p), (2, .int km)] [] 0
  refine V.aload_n (pc := 0) 0 hC dX7_become_0 rfl ?_
  refine V.iload_n (pc := 1) 1 hC dX7_become_1 rfl ?_
  refine V.callV0 (pc := 2) (as := [.int p]) hC (c_X7_isPerson μ ν p ) mu_X7_isPerson ml_X7_104 (by decide) ⟨0, 7, TX7, 20, _, rfl, gm_0⟩ rfl (Nat.le_of_ble_eq_true rfl) dX7_become_2 ?_
  rintro _ _ rfl
  show V X (wM k b μ ν) [(0, .ref (b 20)), (1, .int p), (2, .int km)] [.int (bI (inS p 0 (μ 0 4 - 1)))] 5
  refine V.if_eq_b (P := inS p 0 (μ 0 4 - 1)) (pc := 5) 15 hC dX7_become_5 (by decide) (fun c_5 => ?_) (fun c_5 => ?_)
  · refine V.aload_n (pc := 15) 0 hC dX7_become_15 rfl ?_
    refine V.ldc (pc := 16) (v := (-1000000001)) hC cn_X7_55 dX7_become_16 ?_
    refine V.callV0 (pc := 18) (as := [.int (-1000000001)]) hC (c_X7_error μ ν 1 (-1000000001) (by omega) (by decide)) mu_X7_error ml_X7_56 (by decide) ⟨0, 7, TX7, 20, _, rfl, gm_0⟩ rfl (Nat.le_of_ble_eq_true rfl) dX7_become_18 ?_
    rintro _ _ rfl
    show V X (wM k b (va_up μ 3 (upd (μ 3) 1 (μ 3 1 + 1))) ν) [(0, .ref (b 20)), (1, .int p), (2, .int km)] [.int (-1000000001)] 21
    exact hR (-1000000001) ((va_up μ 3 (upd (μ 3) 1 (μ 3 1 + 1)))) _ _ dX7_become_21 rfl (opr (by simp only [op_become, c_5, inS, hndS, homS, prsS, shtS, if_true, if_false, not_true_eq_false, not_false_eq_true, true_and, and_true, false_and, and_false, true_or, or_true, or_false, false_or, er_1, er_2, er_3, er_4, er_5, er_6] <;> rfl))
  · have hh_p := inS_n c_5 hI.pn (by omega)
    refine V.iload_n (pc := 8) 2 hC dX7_become_8 rfl ?_
    refine V.callS0 (pc := 9) (as := [.int km]) hC (c_X7_isKm km ) ms_X7_isKm ml_X7_84 (by decide) rfl (Nat.le_of_ble_eq_true rfl) dX7_become_9 ?_
    rintro _ _ rfl
    show V X (wM k b μ ν) [(0, .ref (b 20)), (1, .int p), (2, .int km)] [.int (bI (inS km 0 69))] 12
    refine V.if_ne_b (P := inS km 0 69) (pc := 12) 22 hC dX7_become_12 (by decide) (fun c_12 => ?_) (fun c_12 => ?_)
    · refine V.aload_n (pc := 22) 0 hC dX7_become_22 rfl ?_
      refine V.get (pc := 23) (v := .ref (b 0)) hC cf_X7 0 0 fl_X7_9 (by decide) gm_0 rfl dX7_become_23 ?_
      refine V.bipush (pc := 26) 31 hC dX7_become_26 (by decide) ?_
      refine V.iconst (pc := 28) 3 hC dX7_become_28 (by decide) ?_
      refine V.iload_n (pc := 29) 1 hC dX7_become_29 rfl ?_
      refine V.imul (pc := 30) hC dX7_become_30 ?_
      refine V.iadd (pc := 31) hC dX7_become_31 ?_
      refine V.iconst (pc := 32) 1 hC dX7_become_32 (by decide) ?_
      refine V.iadd (pc := 33) hC dX7_become_33 ?_
      refine V.iload_n (pc := 34) 2 hC dX7_become_34 rfl ?_
      refine V.bipush (pc := 35) 10 hC dX7_become_35 (by decide) ?_
      refine V.irem (pc := 37) hC dX7_become_37 (by decide) ?_
      refine V.iast (pc := 38) (f := μ 0) hC 1 (32 + 3 * nN p) (wM k b (va_up μ 0 (upd (μ 0) (32 + 3 * nN p) (km - km / 10 * 10))) ν) gm_1 (ncast (b := 32 + 3 * nN p) (nadd (nadd (nl 31) (nmul (nl 3) hh_p.1)) (nl 1)) (by omega)) (by omega) (by decide) rfl dX7_become_38 ?_
      refine V.aload_n (pc := 39) 0 hC dX7_become_39 rfl ?_
      refine V.bipush (pc := 40) 31 hC dX7_become_40 (by decide) ?_
      refine V.iconst (pc := 42) 3 hC dX7_become_42 (by decide) ?_
      refine V.iload_n (pc := 43) 1 hC dX7_become_43 rfl ?_
      refine V.imul (pc := 44) hC dX7_become_44 ?_
      refine V.iadd (pc := 45) hC dX7_become_45 ?_
      refine V.iload_n (pc := 46) 2 hC dX7_become_46 rfl ?_
      refine V.bipush (pc := 47) 10 hC dX7_become_47 (by decide) ?_
      refine V.idiv (pc := 49) hC dX7_become_49 (by decide) ?_
      refine V.sts (st' := [.int (km / 10), .int (nI (31 + 3 * nN p)), .ref (b 20)]) (stk (stc (ncast (b := 31 + 3 * nN p) (nadd (nl 31) (nmul (nl 3) hh_p.1)) (by omega)) (stk rfl))) ?_
      refine V.callV0 (pc := 50) (as := [.int (nI (31 + 3 * nN p)), .int (km / 10)]) hC (c_X7_becomes (va_up μ 0 (upd (μ 0) (32 + 3 * nN p) (km - km / 10 * 10))) ν (31 + 3 * nN p) (km / 10) (by have := hh_p.2; omega)) mu_X7_becomes ml_X7_110 (by decide) ⟨0, 7, TX7, 20, _, rfl, gm_0⟩ rfl (Nat.le_of_ble_eq_true rfl) dX7_become_50 ?_
      rintro _ _ rfl
      show V X (wM k b (va_up μ 0 (upd ((upd (μ 0) (32 + 3 * nN p) (km - km / 10 * 10))) (31 + 3 * nN p) (km / 10))) ν) [(0, .ref (b 20)), (1, .int p), (2, .int km)] [.int ((upd (μ 0) (32 + 3 * nN p) (km - km / 10 * 10)) (31 + 3 * nN p))] 53
      exact hR ((upd (μ 0) (32 + 3 * nN p) (km - km / 10 * 10)) (31 + 3 * nN p)) ((va_up μ 0 (upd ((upd (μ 0) (32 + 3 * nN p) (km - km / 10 * 10))) (31 + 3 * nN p) (km / 10)))) _ _ dX7_become_53 rfl (opr (by rw [op_become, if_neg (not_not_intro c_5), if_neg (not_not_intro c_12)]; simp only [irm, upd_ne (show 31 + 3 * nN p ≠ 32 + 3 * nN p by omega)]))
    · refine V.aload_n (pc := 15) 0 hC dX7_become_15 rfl ?_
      refine V.ldc (pc := 16) (v := (-1000000001)) hC cn_X7_55 dX7_become_16 ?_
      refine V.callV0 (pc := 18) (as := [.int (-1000000001)]) hC (c_X7_error μ ν 1 (-1000000001) (by omega) (by decide)) mu_X7_error ml_X7_56 (by decide) ⟨0, 7, TX7, 20, _, rfl, gm_0⟩ rfl (Nat.le_of_ble_eq_true rfl) dX7_become_18 ?_
      rintro _ _ rfl
      show V X (wM k b (va_up μ 3 (upd (μ 3) 1 (μ 3 1 + 1))) ν) [(0, .ref (b 20)), (1, .int p), (2, .int km)] [.int (-1000000001)] 21
      exact hR (-1000000001) ((va_up μ 3 (upd (μ 3) 1 (μ 3 1 + 1)))) _ _ dX7_become_21 rfl (opr (by simp only [op_become, c_5, c_12, inS, hndS, homS, prsS, shtS, if_true, if_false, not_true_eq_false, not_false_eq_true, true_and, and_true, false_and, and_false, true_or, or_true, or_false, false_or, er_1, er_2, er_3, er_4, er_5, er_6] <;> rfl))
set_option maxHeartbeats 4000000 in
set_option maxRecDepth 100000 in
theorem c_X7_as {l : Launch} {D : va_G} {k : Nat → ClassId} {g b : Nat → Nat} (μ ν : St) (p kd : Int32) (hI : Inv (μ 0)) : Ct l D k g yX7_as cX7_as 5 (some .int) 2 43 [.ref (b 20), .int p, .int kd] (S := St) (wM k b μ ν) (fun uu => wM k b uu ν) (fun vv uu => vv = some (.int ((op_as p kd μ).1)) ∧ uu = (op_as p kd μ).2) := by
  refine Ct.ofI RX7 rfl (by decide +kernel) (Nat.le_of_ble_eq_true rfl) (fun X hC hR => ?_)
  have hb4 := hI.hb; have hb8 := hI.mb; have hb6 := hI.pb; have hbm := hI.ob0; have hbt := hI.bb; have hbw := hI.wb
  show V X (wM k b μ ν) [(0, .ref (b 20)), (1, .int p), (2, .int kd)] [] 0
  refine V.aload_n (pc := 0) 0 hC dX7_as_0 rfl ?_
  refine V.iload_n (pc := 1) 1 hC dX7_as_1 rfl ?_
  refine V.callV0 (pc := 2) (as := [.int p]) hC (c_X7_isPerson μ ν p ) mu_X7_isPerson ml_X7_104 (by decide) ⟨0, 7, TX7, 20, _, rfl, gm_0⟩ rfl (Nat.le_of_ble_eq_true rfl) dX7_as_2 ?_
  rintro _ _ rfl
  show V X (wM k b μ ν) [(0, .ref (b 20)), (1, .int p), (2, .int kd)] [.int (bI (inS p 0 (μ 0 4 - 1)))] 5
  refine V.if_eq_b (P := inS p 0 (μ 0 4 - 1)) (pc := 5) 18 hC dX7_as_5 (by decide) (fun c_5 => ?_) (fun c_5 => ?_)
  · refine V.aload_n (pc := 18) 0 hC dX7_as_18 rfl ?_
    refine V.ldc (pc := 19) (v := (-1000000001)) hC cn_X7_55 dX7_as_19 ?_
    refine V.callV0 (pc := 21) (as := [.int (-1000000001)]) hC (c_X7_error μ ν 1 (-1000000001) (by omega) (by decide)) mu_X7_error ml_X7_56 (by decide) ⟨0, 7, TX7, 20, _, rfl, gm_0⟩ rfl (Nat.le_of_ble_eq_true rfl) dX7_as_21 ?_
    rintro _ _ rfl
    show V X (wM k b (va_up μ 3 (upd (μ 3) 1 (μ 3 1 + 1))) ν) [(0, .ref (b 20)), (1, .int p), (2, .int kd)] [.int (-1000000001)] 24
    exact hR (-1000000001) ((va_up μ 3 (upd (μ 3) 1 (μ 3 1 + 1)))) _ _ dX7_as_24 rfl (opr (by simp only [op_as, c_5, inS, hndS, homS, prsS, shtS, if_true, if_false, not_true_eq_false, not_false_eq_true, true_and, and_true, false_and, and_false, true_or, or_true, or_false, false_or, er_1, er_2, er_3, er_4, er_5, er_6] <;> rfl))
  · have hh_p := inS_n c_5 hI.pn (by omega)
    refine V.iload_n (pc := 8) 2 hC dX7_as_8 rfl ?_
    refine V.iconst (pc := 9) 0 hC dX7_as_9 (by decide) ?_
    refine V.bipush (pc := 10) 6 hC dX7_as_10 (by decide) ?_
    refine V.callS0 (pc := 12) (as := [.int kd, .int 0, .int 6]) hC (c_X7_in kd 0 6 ) ms_X7_in ml_X7_47 (by decide) rfl (Nat.le_of_ble_eq_true rfl) dX7_as_12 ?_
    rintro _ _ rfl
    show V X (wM k b μ ν) [(0, .ref (b 20)), (1, .int p), (2, .int kd)] [.int (bI (inS kd 0 6))] 15
    refine V.if_ne_b (P := inS kd 0 6) (pc := 15) 25 hC dX7_as_15 (by decide) (fun c_15 => ?_) (fun c_15 => ?_)
    · refine V.aload_n (pc := 25) 0 hC dX7_as_25 rfl ?_
      refine V.iload_n (pc := 26) 1 hC dX7_as_26 rfl ?_
      refine V.iconst (pc := 27) 0 hC dX7_as_27 (by decide) ?_
      refine V.sts (st' := [.int (nI 0), .int (nI (nN p)), .ref (b 20)]) (stc (nl 0) (stc hh_p.1 (stk rfl))) ?_
      refine V.callV0 (pc := 28) (as := [.int (nI (nN p)), .int (nI 0)]) hC (c_X7_of μ ν (nN p) 0 (by have := hh_p.2; omega) (by omega)) mu_X7_of ml_X7_72 (by decide) ⟨0, 7, TX7, 20, _, rfl, gm_0⟩ rfl (Nat.le_of_ble_eq_true rfl) dX7_as_28 ?_
      rintro _ _ rfl
      show V X (wM k b μ ν) [(0, .ref (b 20)), (1, .int p), (2, .int kd)] [.int (μ 0 (31 + 3 * (nN p) + 0))] 31
      refine V.eqi (y := μ 0 (31 + 3 * nN p)) (congrArg (μ 0) (by omega)) ?_
      refine V.istore_n (pc := 31) [(3, .int (μ 0 (31 + 3 * nN p))), (0, .ref (b 20)), (1, .int p), (2, .int kd)] hC dX7_as_31 (by decide) rfl ?_
      refine V.iload_n (pc := 32) 3 hC dX7_as_32 rfl ?_
      refine V.if_eq (pc := 33) 61 hC dX7_as_33 (by decide) (fun c_33 => ?_) (fun c_33 => ?_)
      · refine V.iconst (pc := 61) 1 hC dX7_as_61 (by decide) ?_
        refine V.goto (pc := 62) 66 hC dX7_as_62 (by decide) ?_
        refine V.istore (pc := 66) [(4, .int 1), (3, .int (μ 0 (31 + 3 * nN p))), (0, .ref (b 20)), (1, .int p), (2, .int kd)] hC dX7_as_66 (by decide) rfl ?_
        refine V.iload (pc := 68) 0 hC dX7_as_68 rfl ?_
        refine V.if_eq (pc := 70) 82 hC dX7_as_70 (by decide) (fun c_70 => ?_) (fun c_70 => ?_)
        · have nc_70 : 1 = 0 := (neq (nl 1) (nl 0) (by omega) (by omega)).mp c_70
          exact absurd c_70 (by decide)
        · have nc_70 : ¬ (1 = 0) := fun z => c_70 ((neq (nl 1) (nl 0) (by omega) (by omega)).mpr z)
          refine V.aload_n (pc := 73) 2 hC dX7_as_73 rfl ?_
          refine V.iload_n (pc := 74) 3 hC dX7_as_74 rfl ?_
          refine V.iconst (pc := 75) 1 hC dX7_as_75 (by decide) ?_
          refine V.sts (st' := [.int (nI 1), .int (nI (nN p)), .ref (b 20)]) (stc (nl 1) (stc hh_p.1 (stk rfl))) ?_
          refine V.callV0 (pc := 76) (as := [.int (nI (nN p)), .int (nI 1)]) hC (c_X7_of μ ν (nN p) 1 (by have := hh_p.2; omega) (by omega)) mu_X7_of ml_X7_72 (by decide) ⟨0, 7, TX7, 20, _, rfl, gm_0⟩ rfl (Nat.le_of_ble_eq_true rfl) dX7_as_76 ?_
          rintro _ _ rfl
          show V X (wM k b μ ν) [(4, .int 1), (3, .int (μ 0 (31 + 3 * nN p))), (0, .ref (b 20)), (1, .int p), (2, .int kd)] [.int (μ 0 (31 + 3 * (nN p) + 1))] 79
          refine V.eqi (y := μ 0 (32 + 3 * nN p)) (congrArg (μ 0) (by omega)) ?_
          refine V.goto (pc := 79) 88 hC dX7_as_79 (by decide) ?_
          exact hR (μ 0 (32 + 3 * nN p)) (μ) _ _ dX7_as_88 rfl (opr (by rw [op_as, if_neg (not_not_intro c_5), if_neg (not_not_intro c_15), if_pos (show asOk kd (μ 0 (31 + 3 * nN p)) by first | exact Or.inl c_33 | exact Or.inr (Or.inl c_38) | exact Or.inr (Or.inr (Or.inl ⟨c_43, c_48⟩)) | exact Or.inr (Or.inr (Or.inr ⟨c_53, c_58⟩)))]))
      · refine V.iload_n (pc := 36) 3 hC dX7_as_36 rfl ?_
        refine V.iload_n (pc := 37) 0 hC dX7_as_37 rfl ?_
        refine V.icmp_eq (pc := 38) 61 hC dX7_as_38 (by decide) (fun c_38 => ?_) (fun c_38 => ?_)
        · refine V.iconst (pc := 61) 1 hC dX7_as_61 (by decide) ?_
          refine V.goto (pc := 62) 66 hC dX7_as_62 (by decide) ?_
          refine V.istore (pc := 66) [(4, .int 1), (3, .int (μ 0 (31 + 3 * nN p))), (0, .ref (b 20)), (1, .int p), (2, .int kd)] hC dX7_as_66 (by decide) rfl ?_
          refine V.iload (pc := 68) 0 hC dX7_as_68 rfl ?_
          refine V.if_eq (pc := 70) 82 hC dX7_as_70 (by decide) (fun c_70 => ?_) (fun c_70 => ?_)
          · have nc_70 : 1 = 0 := (neq (nl 1) (nl 0) (by omega) (by omega)).mp c_70
            exact absurd c_70 (by decide)
          · have nc_70 : ¬ (1 = 0) := fun z => c_70 ((neq (nl 1) (nl 0) (by omega) (by omega)).mpr z)
            refine V.aload_n (pc := 73) 2 hC dX7_as_73 rfl ?_
            refine V.iload_n (pc := 74) 3 hC dX7_as_74 rfl ?_
            refine V.iconst (pc := 75) 1 hC dX7_as_75 (by decide) ?_
            refine V.sts (st' := [.int (nI 1), .int (nI (nN p)), .ref (b 20)]) (stc (nl 1) (stc hh_p.1 (stk rfl))) ?_
            refine V.callV0 (pc := 76) (as := [.int (nI (nN p)), .int (nI 1)]) hC (c_X7_of μ ν (nN p) 1 (by have := hh_p.2; omega) (by omega)) mu_X7_of ml_X7_72 (by decide) ⟨0, 7, TX7, 20, _, rfl, gm_0⟩ rfl (Nat.le_of_ble_eq_true rfl) dX7_as_76 ?_
            rintro _ _ rfl
            show V X (wM k b μ ν) [(4, .int 1), (3, .int (μ 0 (31 + 3 * nN p))), (0, .ref (b 20)), (1, .int p), (2, .int kd)] [.int (μ 0 (31 + 3 * (nN p) + 1))] 79
            refine V.eqi (y := μ 0 (32 + 3 * nN p)) (congrArg (μ 0) (by omega)) ?_
            refine V.goto (pc := 79) 88 hC dX7_as_79 (by decide) ?_
            exact hR (μ 0 (32 + 3 * nN p)) (μ) _ _ dX7_as_88 rfl (opr (by rw [op_as, if_neg (not_not_intro c_5), if_neg (not_not_intro c_15), if_pos (show asOk kd (μ 0 (31 + 3 * nN p)) by first | exact Or.inl c_33 | exact Or.inr (Or.inl c_38) | exact Or.inr (Or.inr (Or.inl ⟨c_43, c_48⟩)) | exact Or.inr (Or.inr (Or.inr ⟨c_53, c_58⟩)))]))
        · refine V.iload_n (pc := 41) 3 hC dX7_as_41 rfl ?_
          refine V.iconst (pc := 42) 1 hC dX7_as_42 (by decide) ?_
          refine V.icmp_ne (pc := 43) 51 hC dX7_as_43 (by decide) (fun c_43 => ?_) (fun c_43 => ?_)
          · refine V.iload_n (pc := 51) 3 hC dX7_as_51 rfl ?_
            refine V.iconst (pc := 52) 2 hC dX7_as_52 (by decide) ?_
            refine V.icmp_ne (pc := 53) 65 hC dX7_as_53 (by decide) (fun c_53 => ?_) (fun c_53 => ?_)
            · refine V.iconst (pc := 65) 0 hC dX7_as_65 (by decide) ?_
              refine V.istore (pc := 66) [(4, .int 0), (3, .int (μ 0 (31 + 3 * nN p))), (0, .ref (b 20)), (1, .int p), (2, .int kd)] hC dX7_as_66 (by decide) rfl ?_
              refine V.iload (pc := 68) 0 hC dX7_as_68 rfl ?_
              refine V.if_eq (pc := 70) 82 hC dX7_as_70 (by decide) (fun c_70 => ?_) (fun c_70 => ?_)
              · have nc_70 : 0 = 0 := (neq (nl 0) (nl 0) (by omega) (by omega)).mp c_70
                refine V.aload_n (pc := 82) 2 hC dX7_as_82 rfl ?_
                refine V.ldc (pc := 83) (v := (-1000000005)) hC cn_X7_113 dX7_as_83 ?_
                refine V.callV0 (pc := 85) (as := [.int (-1000000005)]) hC (c_X7_error μ ν 5 (-1000000005) (by omega) (by decide)) mu_X7_error ml_X7_56 (by decide) ⟨0, 7, TX7, 20, _, rfl, gm_0⟩ rfl (Nat.le_of_ble_eq_true rfl) dX7_as_85 ?_
                rintro _ _ rfl
                show V X (wM k b (va_up μ 3 (upd (μ 3) 5 (μ 3 5 + 1))) ν) [(4, .int 0), (3, .int (μ 0 (31 + 3 * nN p))), (0, .ref (b 20)), (1, .int p), (2, .int kd)] [.int (-1000000005)] 88
                exact hR (-1000000005) ((va_up μ 3 (upd (μ 3) 5 (μ 3 5 + 1)))) _ _ dX7_as_88 rfl (opr (by rw [op_as, if_neg (not_not_intro c_5), if_neg (not_not_intro c_15), if_neg (fun q => by rcases q with q | q | ⟨q, r⟩ | ⟨q, r⟩ <;> first | exact c_33 q | exact c_38 q | exact c_43 q | exact c_48 r | exact c_53 q | exact c_58 r), er_5]))
              · have nc_70 : ¬ (0 = 0) := fun z => c_70 ((neq (nl 0) (nl 0) (by omega) (by omega)).mpr z)
                exact absurd c_70 (by decide)
            · refine V.iload_n (pc := 56) 0 hC dX7_as_56 rfl ?_
              refine V.iconst (pc := 57) 5 hC dX7_as_57 (by decide) ?_
              refine V.icmp_ne (pc := 58) 65 hC dX7_as_58 (by decide) (fun c_58 => ?_) (fun c_58 => ?_)
              · refine V.iconst (pc := 65) 0 hC dX7_as_65 (by decide) ?_
                refine V.istore (pc := 66) [(4, .int 0), (3, .int (μ 0 (31 + 3 * nN p))), (0, .ref (b 20)), (1, .int p), (2, .int kd)] hC dX7_as_66 (by decide) rfl ?_
                refine V.iload (pc := 68) 0 hC dX7_as_68 rfl ?_
                refine V.if_eq (pc := 70) 82 hC dX7_as_70 (by decide) (fun c_70 => ?_) (fun c_70 => ?_)
                · have nc_70 : 0 = 0 := (neq (nl 0) (nl 0) (by omega) (by omega)).mp c_70
                  refine V.aload_n (pc := 82) 2 hC dX7_as_82 rfl ?_
                  refine V.ldc (pc := 83) (v := (-1000000005)) hC cn_X7_113 dX7_as_83 ?_
                  refine V.callV0 (pc := 85) (as := [.int (-1000000005)]) hC (c_X7_error μ ν 5 (-1000000005) (by omega) (by decide)) mu_X7_error ml_X7_56 (by decide) ⟨0, 7, TX7, 20, _, rfl, gm_0⟩ rfl (Nat.le_of_ble_eq_true rfl) dX7_as_85 ?_
                  rintro _ _ rfl
                  show V X (wM k b (va_up μ 3 (upd (μ 3) 5 (μ 3 5 + 1))) ν) [(4, .int 0), (3, .int (μ 0 (31 + 3 * nN p))), (0, .ref (b 20)), (1, .int p), (2, .int kd)] [.int (-1000000005)] 88
                  exact hR (-1000000005) ((va_up μ 3 (upd (μ 3) 5 (μ 3 5 + 1)))) _ _ dX7_as_88 rfl (opr (by rw [op_as, if_neg (not_not_intro c_5), if_neg (not_not_intro c_15), if_neg (fun q => by rcases q with q | q | ⟨q, r⟩ | ⟨q, r⟩ <;> first | exact c_33 q | exact c_38 q | exact c_43 q | exact c_48 r | exact c_53 q | exact c_58 r), er_5]))
                · have nc_70 : ¬ (0 = 0) := fun z => c_70 ((neq (nl 0) (nl 0) (by omega) (by omega)).mpr z)
                  exact absurd c_70 (by decide)
              · refine V.iconst (pc := 61) 1 hC dX7_as_61 (by decide) ?_
                refine V.goto (pc := 62) 66 hC dX7_as_62 (by decide) ?_
                refine V.istore (pc := 66) [(4, .int 1), (3, .int (μ 0 (31 + 3 * nN p))), (0, .ref (b 20)), (1, .int p), (2, .int kd)] hC dX7_as_66 (by decide) rfl ?_
                refine V.iload (pc := 68) 0 hC dX7_as_68 rfl ?_
                refine V.if_eq (pc := 70) 82 hC dX7_as_70 (by decide) (fun c_70 => ?_) (fun c_70 => ?_)
                · have nc_70 : 1 = 0 := (neq (nl 1) (nl 0) (by omega) (by omega)).mp c_70
                  exact absurd c_70 (by decide)
                · have nc_70 : ¬ (1 = 0) := fun z => c_70 ((neq (nl 1) (nl 0) (by omega) (by omega)).mpr z)
                  refine V.aload_n (pc := 73) 2 hC dX7_as_73 rfl ?_
                  refine V.iload_n (pc := 74) 3 hC dX7_as_74 rfl ?_
                  refine V.iconst (pc := 75) 1 hC dX7_as_75 (by decide) ?_
                  refine V.sts (st' := [.int (nI 1), .int (nI (nN p)), .ref (b 20)]) (stc (nl 1) (stc hh_p.1 (stk rfl))) ?_
                  refine V.callV0 (pc := 76) (as := [.int (nI (nN p)), .int (nI 1)]) hC (c_X7_of μ ν (nN p) 1 (by have := hh_p.2; omega) (by omega)) mu_X7_of ml_X7_72 (by decide) ⟨0, 7, TX7, 20, _, rfl, gm_0⟩ rfl (Nat.le_of_ble_eq_true rfl) dX7_as_76 ?_
                  rintro _ _ rfl
                  show V X (wM k b μ ν) [(4, .int 1), (3, .int (μ 0 (31 + 3 * nN p))), (0, .ref (b 20)), (1, .int p), (2, .int kd)] [.int (μ 0 (31 + 3 * (nN p) + 1))] 79
                  refine V.eqi (y := μ 0 (32 + 3 * nN p)) (congrArg (μ 0) (by omega)) ?_
                  refine V.goto (pc := 79) 88 hC dX7_as_79 (by decide) ?_
                  exact hR (μ 0 (32 + 3 * nN p)) (μ) _ _ dX7_as_88 rfl (opr (by rw [op_as, if_neg (not_not_intro c_5), if_neg (not_not_intro c_15), if_pos (show asOk kd (μ 0 (31 + 3 * nN p)) by first | exact Or.inl c_33 | exact Or.inr (Or.inl c_38) | exact Or.inr (Or.inr (Or.inl ⟨c_43, c_48⟩)) | exact Or.inr (Or.inr (Or.inr ⟨c_53, c_58⟩)))]))
          · refine V.iload_n (pc := 46) 0 hC dX7_as_46 rfl ?_
            refine V.iconst (pc := 47) 4 hC dX7_as_47 (by decide) ?_
            refine V.icmp_eq (pc := 48) 61 hC dX7_as_48 (by decide) (fun c_48 => ?_) (fun c_48 => ?_)
            · refine V.iconst (pc := 61) 1 hC dX7_as_61 (by decide) ?_
              refine V.goto (pc := 62) 66 hC dX7_as_62 (by decide) ?_
              refine V.istore (pc := 66) [(4, .int 1), (3, .int (μ 0 (31 + 3 * nN p))), (0, .ref (b 20)), (1, .int p), (2, .int kd)] hC dX7_as_66 (by decide) rfl ?_
              refine V.iload (pc := 68) 0 hC dX7_as_68 rfl ?_
              refine V.if_eq (pc := 70) 82 hC dX7_as_70 (by decide) (fun c_70 => ?_) (fun c_70 => ?_)
              · have nc_70 : 1 = 0 := (neq (nl 1) (nl 0) (by omega) (by omega)).mp c_70
                exact absurd c_70 (by decide)
              · have nc_70 : ¬ (1 = 0) := fun z => c_70 ((neq (nl 1) (nl 0) (by omega) (by omega)).mpr z)
                refine V.aload_n (pc := 73) 2 hC dX7_as_73 rfl ?_
                refine V.iload_n (pc := 74) 3 hC dX7_as_74 rfl ?_
                refine V.iconst (pc := 75) 1 hC dX7_as_75 (by decide) ?_
                refine V.sts (st' := [.int (nI 1), .int (nI (nN p)), .ref (b 20)]) (stc (nl 1) (stc hh_p.1 (stk rfl))) ?_
                refine V.callV0 (pc := 76) (as := [.int (nI (nN p)), .int (nI 1)]) hC (c_X7_of μ ν (nN p) 1 (by have := hh_p.2; omega) (by omega)) mu_X7_of ml_X7_72 (by decide) ⟨0, 7, TX7, 20, _, rfl, gm_0⟩ rfl (Nat.le_of_ble_eq_true rfl) dX7_as_76 ?_
                rintro _ _ rfl
                show V X (wM k b μ ν) [(4, .int 1), (3, .int (μ 0 (31 + 3 * nN p))), (0, .ref (b 20)), (1, .int p), (2, .int kd)] [.int (μ 0 (31 + 3 * (nN p) + 1))] 79
                refine V.eqi (y := μ 0 (32 + 3 * nN p)) (congrArg (μ 0) (by omega)) ?_
                refine V.goto (pc := 79) 88 hC dX7_as_79 (by decide) ?_
                exact hR (μ 0 (32 + 3 * nN p)) (μ) _ _ dX7_as_88 rfl (opr (by rw [op_as, if_neg (not_not_intro c_5), if_neg (not_not_intro c_15), if_pos (show asOk kd (μ 0 (31 + 3 * nN p)) by first | exact Or.inl c_33 | exact Or.inr (Or.inl c_38) | exact Or.inr (Or.inr (Or.inl ⟨c_43, c_48⟩)) | exact Or.inr (Or.inr (Or.inr ⟨c_53, c_58⟩)))]))
            · refine V.iload_n (pc := 51) 3 hC dX7_as_51 rfl ?_
              refine V.iconst (pc := 52) 2 hC dX7_as_52 (by decide) ?_
              refine V.icmp_ne (pc := 53) 65 hC dX7_as_53 (by decide) (fun c_53 => ?_) (fun c_53 => ?_)
              · refine V.iconst (pc := 65) 0 hC dX7_as_65 (by decide) ?_
                refine V.istore (pc := 66) [(4, .int 0), (3, .int (μ 0 (31 + 3 * nN p))), (0, .ref (b 20)), (1, .int p), (2, .int kd)] hC dX7_as_66 (by decide) rfl ?_
                refine V.iload (pc := 68) 0 hC dX7_as_68 rfl ?_
                refine V.if_eq (pc := 70) 82 hC dX7_as_70 (by decide) (fun c_70 => ?_) (fun c_70 => ?_)
                · have nc_70 : 0 = 0 := (neq (nl 0) (nl 0) (by omega) (by omega)).mp c_70
                  refine V.aload_n (pc := 82) 2 hC dX7_as_82 rfl ?_
                  refine V.ldc (pc := 83) (v := (-1000000005)) hC cn_X7_113 dX7_as_83 ?_
                  refine V.callV0 (pc := 85) (as := [.int (-1000000005)]) hC (c_X7_error μ ν 5 (-1000000005) (by omega) (by decide)) mu_X7_error ml_X7_56 (by decide) ⟨0, 7, TX7, 20, _, rfl, gm_0⟩ rfl (Nat.le_of_ble_eq_true rfl) dX7_as_85 ?_
                  rintro _ _ rfl
                  show V X (wM k b (va_up μ 3 (upd (μ 3) 5 (μ 3 5 + 1))) ν) [(4, .int 0), (3, .int (μ 0 (31 + 3 * nN p))), (0, .ref (b 20)), (1, .int p), (2, .int kd)] [.int (-1000000005)] 88
                  exact hR (-1000000005) ((va_up μ 3 (upd (μ 3) 5 (μ 3 5 + 1)))) _ _ dX7_as_88 rfl (opr (by rw [op_as, if_neg (not_not_intro c_5), if_neg (not_not_intro c_15), if_neg (fun q => by rcases q with q | q | ⟨q, r⟩ | ⟨q, r⟩ <;> first | exact c_33 q | exact c_38 q | exact c_43 q | exact c_48 r | exact c_53 q | exact c_58 r), er_5]))
                · have nc_70 : ¬ (0 = 0) := fun z => c_70 ((neq (nl 0) (nl 0) (by omega) (by omega)).mpr z)
                  exact absurd c_70 (by decide)
              · refine V.iload_n (pc := 56) 0 hC dX7_as_56 rfl ?_
                refine V.iconst (pc := 57) 5 hC dX7_as_57 (by decide) ?_
                refine V.icmp_ne (pc := 58) 65 hC dX7_as_58 (by decide) (fun c_58 => ?_) (fun c_58 => ?_)
                · refine V.iconst (pc := 65) 0 hC dX7_as_65 (by decide) ?_
                  refine V.istore (pc := 66) [(4, .int 0), (3, .int (μ 0 (31 + 3 * nN p))), (0, .ref (b 20)), (1, .int p), (2, .int kd)] hC dX7_as_66 (by decide) rfl ?_
                  refine V.iload (pc := 68) 0 hC dX7_as_68 rfl ?_
                  refine V.if_eq (pc := 70) 82 hC dX7_as_70 (by decide) (fun c_70 => ?_) (fun c_70 => ?_)
                  · have nc_70 : 0 = 0 := (neq (nl 0) (nl 0) (by omega) (by omega)).mp c_70
                    refine V.aload_n (pc := 82) 2 hC dX7_as_82 rfl ?_
                    refine V.ldc (pc := 83) (v := (-1000000005)) hC cn_X7_113 dX7_as_83 ?_
                    refine V.callV0 (pc := 85) (as := [.int (-1000000005)]) hC (c_X7_error μ ν 5 (-1000000005) (by omega) (by decide)) mu_X7_error ml_X7_56 (by decide) ⟨0, 7, TX7, 20, _, rfl, gm_0⟩ rfl (Nat.le_of_ble_eq_true rfl) dX7_as_85 ?_
                    rintro _ _ rfl
                    show V X (wM k b (va_up μ 3 (upd (μ 3) 5 (μ 3 5 + 1))) ν) [(4, .int 0), (3, .int (μ 0 (31 + 3 * nN p))), (0, .ref (b 20)), (1, .int p), (2, .int kd)] [.int (-1000000005)] 88
                    exact hR (-1000000005) ((va_up μ 3 (upd (μ 3) 5 (μ 3 5 + 1)))) _ _ dX7_as_88 rfl (opr (by rw [op_as, if_neg (not_not_intro c_5), if_neg (not_not_intro c_15), if_neg (fun q => by rcases q with q | q | ⟨q, r⟩ | ⟨q, r⟩ <;> first | exact c_33 q | exact c_38 q | exact c_43 q | exact c_48 r | exact c_53 q | exact c_58 r), er_5]))
                  · have nc_70 : ¬ (0 = 0) := fun z => c_70 ((neq (nl 0) (nl 0) (by omega) (by omega)).mpr z)
                    exact absurd c_70 (by decide)
                · refine V.iconst (pc := 61) 1 hC dX7_as_61 (by decide) ?_
                  refine V.goto (pc := 62) 66 hC dX7_as_62 (by decide) ?_
                  refine V.istore (pc := 66) [(4, .int 1), (3, .int (μ 0 (31 + 3 * nN p))), (0, .ref (b 20)), (1, .int p), (2, .int kd)] hC dX7_as_66 (by decide) rfl ?_
                  refine V.iload (pc := 68) 0 hC dX7_as_68 rfl ?_
                  refine V.if_eq (pc := 70) 82 hC dX7_as_70 (by decide) (fun c_70 => ?_) (fun c_70 => ?_)
                  · have nc_70 : 1 = 0 := (neq (nl 1) (nl 0) (by omega) (by omega)).mp c_70
                    exact absurd c_70 (by decide)
                  · have nc_70 : ¬ (1 = 0) := fun z => c_70 ((neq (nl 1) (nl 0) (by omega) (by omega)).mpr z)
                    refine V.aload_n (pc := 73) 2 hC dX7_as_73 rfl ?_
                    refine V.iload_n (pc := 74) 3 hC dX7_as_74 rfl ?_
                    refine V.iconst (pc := 75) 1 hC dX7_as_75 (by decide) ?_
                    refine V.sts (st' := [.int (nI 1), .int (nI (nN p)), .ref (b 20)]) (stc (nl 1) (stc hh_p.1 (stk rfl))) ?_
                    refine V.callV0 (pc := 76) (as := [.int (nI (nN p)), .int (nI 1)]) hC (c_X7_of μ ν (nN p) 1 (by have := hh_p.2; omega) (by omega)) mu_X7_of ml_X7_72 (by decide) ⟨0, 7, TX7, 20, _, rfl, gm_0⟩ rfl (Nat.le_of_ble_eq_true rfl) dX7_as_76 ?_
                    rintro _ _ rfl
                    show V X (wM k b μ ν) [(4, .int 1), (3, .int (μ 0 (31 + 3 * nN p))), (0, .ref (b 20)), (1, .int p), (2, .int kd)] [.int (μ 0 (31 + 3 * (nN p) + 1))] 79
                    refine V.eqi (y := μ 0 (32 + 3 * nN p)) (congrArg (μ 0) (by omega)) ?_
                    refine V.goto (pc := 79) 88 hC dX7_as_79 (by decide) ?_
                    exact hR (μ 0 (32 + 3 * nN p)) (μ) _ _ dX7_as_88 rfl (opr (by rw [op_as, if_neg (not_not_intro c_5), if_neg (not_not_intro c_15), if_pos (show asOk kd (μ 0 (31 + 3 * nN p)) by first | exact Or.inl c_33 | exact Or.inr (Or.inl c_38) | exact Or.inr (Or.inr (Or.inl ⟨c_43, c_48⟩)) | exact Or.inr (Or.inr (Or.inr ⟨c_53, c_58⟩)))]))
    · refine V.aload_n (pc := 18) 0 hC dX7_as_18 rfl ?_
      refine V.ldc (pc := 19) (v := (-1000000001)) hC cn_X7_55 dX7_as_19 ?_
      refine V.callV0 (pc := 21) (as := [.int (-1000000001)]) hC (c_X7_error μ ν 1 (-1000000001) (by omega) (by decide)) mu_X7_error ml_X7_56 (by decide) ⟨0, 7, TX7, 20, _, rfl, gm_0⟩ rfl (Nat.le_of_ble_eq_true rfl) dX7_as_21 ?_
      rintro _ _ rfl
      show V X (wM k b (va_up μ 3 (upd (μ 3) 1 (μ 3 1 + 1))) ν) [(0, .ref (b 20)), (1, .int p), (2, .int kd)] [.int (-1000000001)] 24
      exact hR (-1000000001) ((va_up μ 3 (upd (μ 3) 1 (μ 3 1 + 1)))) _ _ dX7_as_24 rfl (opr (by simp only [op_as, c_5, c_15, inS, hndS, homS, prsS, shtS, if_true, if_false, not_true_eq_false, not_false_eq_true, true_and, and_true, false_and, and_false, true_or, or_true, or_false, false_or, er_1, er_2, er_3, er_4, er_5, er_6] <;> rfl))
set_option maxHeartbeats 4000000 in
set_option maxRecDepth 100000 in
theorem c_X7_jump {l : Launch} {D : va_G} {k : Nat → ClassId} {g b : Nat → Nat} (μ ν : St) (p h : Int32) (hI : Inv (μ 0)) : Ct l D k g yX7_jump cX7_jump 4 (some .int) 5 120 [.ref (b 20), .int p, .int h] (S := St × Rw × Rw) (wM k b μ ν) (fun uu => wM k b uu.1 (va_up (va_up ν 10 uu.2.1) 11 uu.2.2)) (fun vv uu => vv = some (.int ((op_jump p h μ).1)) ∧ uu.1 = (op_jump p h μ).2) := by
  refine Ct.ofI RX7 rfl (by decide +kernel) (Nat.le_of_ble_eq_true rfl) (fun X hC hR => ?_)
  have hb4 := hI.hb; have hb8 := hI.mb; have hb6 := hI.pb; have hbm := hI.ob0; have hbt := hI.bb; have hbw := hI.wb
  show V X (wM k b μ ν) [(0, .ref (b 20)), (1, .int p), (2, .int h)] [] 0
  refine V.aload_n (pc := 0) 0 hC dX7_jump_0 rfl ?_
  refine V.iload_n (pc := 1) 1 hC dX7_jump_1 rfl ?_
  refine V.callV0 (pc := 2) (as := [.int p]) hC (c_X7_isPerson μ ν p ) mu_X7_isPerson ml_X7_104 (by decide) ⟨0, 7, TX7, 20, _, rfl, gm_0⟩ rfl (Nat.le_of_ble_eq_true rfl) dX7_jump_2 ?_
  rintro _ _ rfl
  show V X (wM k b μ ν) [(0, .ref (b 20)), (1, .int p), (2, .int h)] [.int (bI (inS p 0 (μ 0 4 - 1)))] 5
  refine V.if_eq_b (P := inS p 0 (μ 0 4 - 1)) (pc := 5) 16 hC dX7_jump_5 (by decide) (fun c_5 => ?_) (fun c_5 => ?_)
  · refine V.aload_n (pc := 16) 0 hC dX7_jump_16 rfl ?_
    refine V.ldc (pc := 17) (v := (-1000000001)) hC cn_X7_55 dX7_jump_17 ?_
    refine V.callV0 (pc := 19) (as := [.int (-1000000001)]) hC (c_X7_error μ ν 1 (-1000000001) (by omega) (by decide)) mu_X7_error ml_X7_56 (by decide) ⟨0, 7, TX7, 20, _, rfl, gm_0⟩ rfl (Nat.le_of_ble_eq_true rfl) dX7_jump_19 ?_
    rintro _ _ rfl
    show V X (wM k b (va_up μ 3 (upd (μ 3) 1 (μ 3 1 + 1))) ν) [(0, .ref (b 20)), (1, .int p), (2, .int h)] [.int (-1000000001)] 22
    exact hR (-1000000001) ((va_up μ 3 (upd (μ 3) 1 (μ 3 1 + 1))), ν 10, ν 11) _ _ dX7_jump_22 rfl (opr (by simp only [op_jump, c_5, inS, hndS, homS, prsS, shtS, if_true, if_false, not_true_eq_false, not_false_eq_true, true_and, and_true, false_and, and_false, true_or, or_true, or_false, false_or, er_1, er_2, er_3, er_4, er_5, er_6] <;> rfl))
  · have hh_p := inS_n c_5 hI.pn (by omega)
    refine V.aload_n (pc := 8) 0 hC dX7_jump_8 rfl ?_
    refine V.iload_n (pc := 9) 2 hC dX7_jump_9 rfl ?_
    refine V.callV0 (pc := 10) (as := [.int h]) hC (c_X7_isHome μ ν h ) mu_X7_isHome ml_X7_75 (by decide) ⟨0, 7, TX7, 20, _, rfl, gm_0⟩ rfl (Nat.le_of_ble_eq_true rfl) dX7_jump_10 ?_
    rintro _ _ rfl
    show V X (wM k b μ ν) [(0, .ref (b 20)), (1, .int p), (2, .int h)] [.int (bI (inS h 0 (μ 0 3 - 1)))] 13
    refine V.if_ne_b (P := inS h 0 (μ 0 3 - 1)) (pc := 13) 23 hC dX7_jump_13 (by decide) (fun c_13 => ?_) (fun c_13 => ?_)
    · have hh_h := inS_n c_13 hI.mn (by omega)
      refine V.aload_n (pc := 23) 0 hC dX7_jump_23 rfl ?_
      refine V.iload_n (pc := 24) 1 hC dX7_jump_24 rfl ?_
      refine V.iconst (pc := 25) 2 hC dX7_jump_25 (by decide) ?_
      refine V.sts (st' := [.int (nI 2), .int (nI (nN p)), .ref (b 20)]) (stc (nl 2) (stc hh_p.1 (stk rfl))) ?_
      refine V.callV0 (pc := 26) (as := [.int (nI (nN p)), .int (nI 2)]) hC (c_X7_of μ ν (nN p) 2 (by have := hh_p.2; omega) (by omega)) mu_X7_of ml_X7_72 (by decide) ⟨0, 7, TX7, 20, _, rfl, gm_0⟩ rfl (Nat.le_of_ble_eq_true rfl) dX7_jump_26 ?_
      rintro _ _ rfl
      show V X (wM k b μ ν) [(0, .ref (b 20)), (1, .int p), (2, .int h)] [.int (μ 0 (31 + 3 * (nN p) + 2))] 29
      refine V.eqi (y := μ 0 (33 + 3 * nN p)) (congrArg (μ 0) (by omega)) ?_
      refine V.iload_n (pc := 29) 2 hC dX7_jump_29 rfl ?_
      refine V.icmp_eq (pc := 30) 54 hC dX7_jump_30 (by decide) (fun c_30 => ?_) (fun c_30 => ?_)
      · refine V.iconst (pc := 54) 1 hC dX7_jump_54 (by decide) ?_
        refine V.goto (pc := 55) 59 hC dX7_jump_55 (by decide) ?_
        refine V.istore_n (pc := 59) [(3, .int 1), (0, .ref (b 20)), (1, .int p), (2, .int h)] hC dX7_jump_59 (by decide) rfl ?_
        refine V.iload_n (pc := 60) 0 hC dX7_jump_60 rfl ?_
        refine V.if_eq (pc := 61) 80 hC dX7_jump_61 (by decide) (fun c_61 => ?_) (fun c_61 => ?_)
        · have nc_61 : 1 = 0 := (neq (nl 1) (nl 0) (by omega) (by omega)).mp c_61
          exact absurd c_61 (by decide)
        · have nc_61 : ¬ (1 = 0) := fun z => c_61 ((neq (nl 1) (nl 0) (by omega) (by omega)).mpr z)
          refine V.aload_n (pc := 64) 1 hC dX7_jump_64 rfl ?_
          refine V.bipush (pc := 65) 31 hC dX7_jump_65 (by decide) ?_
          refine V.iconst (pc := 67) 3 hC dX7_jump_67 (by decide) ?_
          refine V.iload_n (pc := 68) 2 hC dX7_jump_68 rfl ?_
          refine V.imul (pc := 69) hC dX7_jump_69 ?_
          refine V.iadd (pc := 70) hC dX7_jump_70 ?_
          refine V.iconst (pc := 71) 2 hC dX7_jump_71 (by decide) ?_
          refine V.iadd (pc := 72) hC dX7_jump_72 ?_
          refine V.iload_n (pc := 73) 3 hC dX7_jump_73 rfl ?_
          refine V.sts (st' := [.int h, .int (nI (33 + 3 * nN p)), .ref (b 20)]) (stk (stc (ncast (b := 33 + 3 * nN p) (nadd (nadd (nl 31) (nmul (nl 3) hh_p.1)) (nl 2)) (by omega)) (stk rfl))) ?_
          refine V.callV0 (pc := 74) (as := [.int (nI (33 + 3 * nN p)), .int h]) hC (c_X7_becomes μ ν (33 + 3 * nN p) h (by have := hh_p.2; omega)) mu_X7_becomes ml_X7_110 (by decide) ⟨0, 7, TX7, 20, _, rfl, gm_0⟩ rfl (Nat.le_of_ble_eq_true rfl) dX7_jump_74 ?_
          rintro _ _ rfl
          show V X (wM k b (va_up μ 0 (upd (μ 0) (33 + 3 * nN p) h)) ν) [(3, .int 1), (0, .ref (b 20)), (1, .int p), (2, .int h)] [.int (μ 0 (33 + 3 * nN p))] 77
          refine V.goto (pc := 77) 86 hC dX7_jump_77 (by decide) ?_
          exact hR (μ 0 (33 + 3 * nN p)) ((va_up μ 0 (upd (μ 0) (33 + 3 * nN p) h)), ν 10, ν 11) _ _ dX7_jump_86 rfl (opr (by rw [op_jump, if_neg (not_not_intro c_5), if_neg (not_not_intro c_13), if_pos (by first | exact Or.inl c_30 | exact Or.inr c_51)]))
      · refine V.aload_n (pc := 33) 0 hC dX7_jump_33 rfl ?_
        refine V.iload_n (pc := 34) 1 hC dX7_jump_34 rfl ?_
        refine V.aload_n (pc := 35) 0 hC dX7_jump_35 rfl ?_
        refine V.iload_n (pc := 36) 1 hC dX7_jump_36 rfl ?_
        refine V.iconst (pc := 37) 2 hC dX7_jump_37 (by decide) ?_
        refine V.sts (st' := [.int (nI 2), .int (nI (nN p)), .ref (b 20), .int p, .ref (b 20)]) (stc (nl 2) (stc hh_p.1 (stk (stk (stk rfl))))) ?_
        refine V.callV0 (pc := 38) (as := [.int (nI (nN p)), .int (nI 2)]) hC (c_X7_of μ ν (nN p) 2 (by have := hh_p.2; omega) (by omega)) mu_X7_of ml_X7_72 (by decide) ⟨0, 7, TX7, 20, _, rfl, gm_0⟩ rfl (Nat.le_of_ble_eq_true rfl) dX7_jump_38 ?_
        rintro _ _ rfl
        show V X (wM k b μ ν) [(0, .ref (b 20)), (1, .int p), (2, .int h)] [.int (μ 0 (31 + 3 * (nN p) + 2)), .int p, .ref (b 20)] 41
        refine V.eqi (y := μ 0 (33 + 3 * nN p)) (congrArg (μ 0) (by omega)) ?_
        refine V.iload_n (pc := 41) 2 hC dX7_jump_41 rfl ?_
        refine V.aload_n (pc := 42) 0 hC dX7_jump_42 rfl ?_
        refine V.get (pc := 43) (v := .ref (b 0)) hC cf_X7 0 0 fl_X7_9 (by decide) gm_0 rfl dX7_jump_43 ?_
        refine V.iconst (pc := 46) 0 hC dX7_jump_46 (by decide) ?_
        refine V.iald (pc := 47) (f := μ 0) hC 1 0 gm_1 (nl 0) (by omega) (by decide) dX7_jump_47 ?_
        refine V.sts (st' := [.int (μ 0 0), .int (nI (nN h)), .int (nI (nN (μ 0 (33 + 3 * nN p)))), .int (nI (nN p)), .ref (b 20)]) (stk (stc hh_h.1 (stc (hI.an hh_p.2) (stc hh_p.1 (stk rfl))))) ?_
        refine V.callV0 (pc := 48) (as := [.int (nI (nN p)), .int (nI (nN (μ 0 (33 + 3 * nN p)))), .int (nI (nN h)), .int (μ 0 0)]) hC (c_X7_doesGet μ ν (nN p) (nN (μ 0 (33 + 3 * nN p))) (nN h) (μ 0 0) hI (by have := hh_p.2; omega) (hI.ab hh_p.2) hh_h.2) mu_X7_doesGet ml_X7_114 (by decide) ⟨0, 7, TX7, 20, _, rfl, gm_0⟩ rfl (Nat.le_of_ble_eq_true rfl) dX7_jump_48 ?_
        rintro _ ⟨f48_0, f48_1⟩ rfl
        show V X (wM k b μ (va_up (va_up ν 10 f48_0) 11 f48_1)) [(0, .ref (b 20)), (1, .int p), (2, .int h)] [.int (bI (getsS (μ 0) (nN p) (nN (μ 0 (33 + 3 * nN p))) (nN h) (μ 0 0)))] 51
        refine V.if_eq_b (P := getsS (μ 0) (nN p) (nN (μ 0 (33 + 3 * nN p))) (nN h) (μ 0 0)) (pc := 51) 58 hC dX7_jump_51 (by decide) (fun c_51 => ?_) (fun c_51 => ?_)
        · refine V.iconst (pc := 58) 0 hC dX7_jump_58 (by decide) ?_
          refine V.istore_n (pc := 59) [(3, .int 0), (0, .ref (b 20)), (1, .int p), (2, .int h)] hC dX7_jump_59 (by decide) rfl ?_
          refine V.iload_n (pc := 60) 0 hC dX7_jump_60 rfl ?_
          refine V.if_eq (pc := 61) 80 hC dX7_jump_61 (by decide) (fun c_61 => ?_) (fun c_61 => ?_)
          · have nc_61 : 0 = 0 := (neq (nl 0) (nl 0) (by omega) (by omega)).mp c_61
            refine V.aload_n (pc := 80) 1 hC dX7_jump_80 rfl ?_
            refine V.ldc (pc := 81) (v := (-1000000003)) hC cn_X7_118 dX7_jump_81 ?_
            refine V.callV0 (pc := 83) (as := [.int (-1000000003)]) hC (c_X7_error μ (va_up (va_up ν 10 f48_0) 11 f48_1) 3 (-1000000003) (by omega) (by decide)) mu_X7_error ml_X7_56 (by decide) ⟨0, 7, TX7, 20, _, rfl, gm_0⟩ rfl (Nat.le_of_ble_eq_true rfl) dX7_jump_83 ?_
            rintro _ _ rfl
            show V X (wM k b (va_up μ 3 (upd (μ 3) 3 (μ 3 3 + 1))) (va_up (va_up ν 10 f48_0) 11 f48_1)) [(3, .int 0), (0, .ref (b 20)), (1, .int p), (2, .int h)] [.int (-1000000003)] 86
            exact hR (-1000000003) ((va_up μ 3 (upd (μ 3) 3 (μ 3 3 + 1))), f48_0, f48_1) _ _ dX7_jump_86 rfl (opr (by rw [op_jump, if_neg (not_not_intro c_5), if_neg (not_not_intro c_13), if_neg (fun q => q.elim c_30 c_51), er_3]))
          · have nc_61 : ¬ (0 = 0) := fun z => c_61 ((neq (nl 0) (nl 0) (by omega) (by omega)).mpr z)
            exact absurd c_61 (by decide)
        · refine V.iconst (pc := 54) 1 hC dX7_jump_54 (by decide) ?_
          refine V.goto (pc := 55) 59 hC dX7_jump_55 (by decide) ?_
          refine V.istore_n (pc := 59) [(3, .int 1), (0, .ref (b 20)), (1, .int p), (2, .int h)] hC dX7_jump_59 (by decide) rfl ?_
          refine V.iload_n (pc := 60) 0 hC dX7_jump_60 rfl ?_
          refine V.if_eq (pc := 61) 80 hC dX7_jump_61 (by decide) (fun c_61 => ?_) (fun c_61 => ?_)
          · have nc_61 : 1 = 0 := (neq (nl 1) (nl 0) (by omega) (by omega)).mp c_61
            exact absurd c_61 (by decide)
          · have nc_61 : ¬ (1 = 0) := fun z => c_61 ((neq (nl 1) (nl 0) (by omega) (by omega)).mpr z)
            refine V.aload_n (pc := 64) 1 hC dX7_jump_64 rfl ?_
            refine V.bipush (pc := 65) 31 hC dX7_jump_65 (by decide) ?_
            refine V.iconst (pc := 67) 3 hC dX7_jump_67 (by decide) ?_
            refine V.iload_n (pc := 68) 2 hC dX7_jump_68 rfl ?_
            refine V.imul (pc := 69) hC dX7_jump_69 ?_
            refine V.iadd (pc := 70) hC dX7_jump_70 ?_
            refine V.iconst (pc := 71) 2 hC dX7_jump_71 (by decide) ?_
            refine V.iadd (pc := 72) hC dX7_jump_72 ?_
            refine V.iload_n (pc := 73) 3 hC dX7_jump_73 rfl ?_
            refine V.sts (st' := [.int h, .int (nI (33 + 3 * nN p)), .ref (b 20)]) (stk (stc (ncast (b := 33 + 3 * nN p) (nadd (nadd (nl 31) (nmul (nl 3) hh_p.1)) (nl 2)) (by omega)) (stk rfl))) ?_
            refine V.callV0 (pc := 74) (as := [.int (nI (33 + 3 * nN p)), .int h]) hC (c_X7_becomes μ (va_up (va_up ν 10 f48_0) 11 f48_1) (33 + 3 * nN p) h (by have := hh_p.2; omega)) mu_X7_becomes ml_X7_110 (by decide) ⟨0, 7, TX7, 20, _, rfl, gm_0⟩ rfl (Nat.le_of_ble_eq_true rfl) dX7_jump_74 ?_
            rintro _ _ rfl
            show V X (wM k b (va_up μ 0 (upd (μ 0) (33 + 3 * nN p) h)) (va_up (va_up ν 10 f48_0) 11 f48_1)) [(3, .int 1), (0, .ref (b 20)), (1, .int p), (2, .int h)] [.int (μ 0 (33 + 3 * nN p))] 77
            refine V.goto (pc := 77) 86 hC dX7_jump_77 (by decide) ?_
            exact hR (μ 0 (33 + 3 * nN p)) ((va_up μ 0 (upd (μ 0) (33 + 3 * nN p) h)), f48_0, f48_1) _ _ dX7_jump_86 rfl (opr (by rw [op_jump, if_neg (not_not_intro c_5), if_neg (not_not_intro c_13), if_pos (by first | exact Or.inl c_30 | exact Or.inr c_51)]))
    · refine V.aload_n (pc := 16) 0 hC dX7_jump_16 rfl ?_
      refine V.ldc (pc := 17) (v := (-1000000001)) hC cn_X7_55 dX7_jump_17 ?_
      refine V.callV0 (pc := 19) (as := [.int (-1000000001)]) hC (c_X7_error μ ν 1 (-1000000001) (by omega) (by decide)) mu_X7_error ml_X7_56 (by decide) ⟨0, 7, TX7, 20, _, rfl, gm_0⟩ rfl (Nat.le_of_ble_eq_true rfl) dX7_jump_19 ?_
      rintro _ _ rfl
      show V X (wM k b (va_up μ 3 (upd (μ 3) 1 (μ 3 1 + 1))) ν) [(0, .ref (b 20)), (1, .int p), (2, .int h)] [.int (-1000000001)] 22
      exact hR (-1000000001) ((va_up μ 3 (upd (μ 3) 1 (μ 3 1 + 1))), ν 10, ν 11) _ _ dX7_jump_22 rfl (opr (by simp only [op_jump, c_5, c_13, inS, hndS, homS, prsS, shtS, if_true, if_false, not_true_eq_false, not_false_eq_true, true_and, and_true, false_and, and_false, true_or, or_true, or_false, false_or, er_1, er_2, er_3, er_4, er_5, er_6] <;> rfl))
set_option maxHeartbeats 4000000 in
set_option maxRecDepth 100000 in
theorem c_X7_feed {l : Launch} {D : va_G} {k : Nat → ClassId} {g b : Nat → Nat} (μ ν : St) (w : Int64) (m : Int32) (hI : Inv (μ 0)) : Ct l D k g yX7_feed cX7_feed 5 (some .int) 1 22 [.ref (b 20), .long w, .int m] (S := St) (wM k b μ ν) (fun uu => wM k b uu ν) (fun vv uu => vv = some (.int ((op_feed w m μ).1)) ∧ uu = (op_feed w m μ).2) := by
  refine Ct.ofI RX7 rfl (by decide +kernel) (Nat.le_of_ble_eq_true rfl) (fun X hC hR => ?_)
  have hb4 := hI.hb; have hb8 := hI.mb; have hb6 := hI.pb; have hbm := hI.ob0; have hbt := hI.bb; have hbw := hI.wb
  show V X (wM k b μ ν) [(0, .ref (b 20)), (1, .long w), (3, .int m)] [] 0
  refine V.iload_n (pc := 0) 2 hC dX7_feed_0 rfl ?_
  refine V.iconst (pc := 1) 1 hC dX7_feed_1 (by decide) ?_
  refine V.bipush (pc := 2) 8 hC dX7_feed_2 (by decide) ?_
  refine V.callS0 (pc := 4) (as := [.int m, .int 1, .int 8]) hC (c_X7_in m 1 8 ) ms_X7_in ml_X7_47 (by decide) rfl (Nat.le_of_ble_eq_true rfl) dX7_feed_4 ?_
  rintro _ _ rfl
  show V X (wM k b μ ν) [(0, .ref (b 20)), (1, .long w), (3, .int m)] [.int (bI (inS m 1 8))] 7
  refine V.if_ne_b (P := inS m 1 8) (pc := 7) 17 hC dX7_feed_7 (by decide) (fun c_7 => ?_) (fun c_7 => ?_)
  · have hh_m := inS_1 c_7 (nl 1) (nl 8) (by omega) (by omega)
    refine V.aload_n (pc := 17) 0 hC dX7_feed_17 rfl ?_
    refine V.get (pc := 18) (v := .ref (b 0)) hC cf_X7 0 0 fl_X7_9 (by decide) gm_0 rfl dX7_feed_18 ?_
    refine V.iconst (pc := 21) 5 hC dX7_feed_21 (by decide) ?_
    refine V.iald (pc := 22) (f := μ 0) hC 1 5 gm_1 (nl 5) (by omega) (by decide) dX7_feed_22 ?_
    refine V.iload_n (pc := 23) 2 hC dX7_feed_23 rfl ?_
    refine V.iadd (pc := 24) hC dX7_feed_24 ?_
    refine V.bipush (pc := 25) 60 hC dX7_feed_25 (by decide) ?_
    refine V.icmp_le (pc := 27) 37 hC dX7_feed_27 (by decide) (fun c_27 => ?_) (fun c_27 => ?_)
    · have nc_27 : nN (μ 0 5) + nN m ≤ 60 := (nle (ncast (b := nN (μ 0 5) + nN m) (nadd hI.bn hh_m.1) (by omega)) (nl 60) (by omega) (by omega)).mp c_27
      refine V.iconst (pc := 37) 0 hC dX7_feed_37 (by decide) ?_
      refine V.istore (pc := 38) [(4, .int 0), (0, .ref (b 20)), (1, .long w), (3, .int m)] hC dX7_feed_38 (by decide) rfl ?_
      have loop_40 : ∀ (n : Nat) (i q : Nat) (f : Rw), i + n = nN m → f 5 = nI q → q + n ≤ 60 → feedS w (nN m) 0 (μ 0) = feedS w n i f → V X (wM k b (va_up μ 0 f) ν) [(4, .int (nI i)), (0, .ref (b 20)), (1, .long w), (3, .int m)] [] 40 := by
        intro n
        induction n with
        | zero =>
          intro i q f hi he hq hv
          refine V.iload (pc := 40) 0 hC dX7_feed_40 rfl ?_
          refine V.iload_n (pc := 42) 3 hC dX7_feed_42 rfl ?_
          refine V.icmp_ge (pc := 43) 88 hC dX7_feed_43 (by decide) (fun c_43 => ?_) (fun c_43 => ?_)
          · have nc_43 : nN m ≤ i := (nle hh_m.1 rfl (by omega) (by omega)).mp c_43
            refine V.aload_n (pc := 88) 1 hC dX7_feed_88 rfl ?_
            refine V.get (pc := 89) (v := .ref (b 0)) hC cf_X7 0 0 fl_X7_9 (by decide) gm_0 rfl dX7_feed_89 ?_
            refine V.iconst (pc := 92) 5 hC dX7_feed_92 (by decide) ?_
            refine V.iald (pc := 93) (f := f) hC 1 5 gm_1 (nl 5) (by omega) (by decide) dX7_feed_93 ?_
            exact hR (f 5) ((va_up μ 0 f)) _ _ dX7_feed_94 rfl (opr (by rw [op_feed, if_neg (not_not_intro c_7), if_neg (i_ge c_27), hv]; rfl))
          · have nc_43 : ¬ (nN m ≤ i) := fun z => c_43 ((nle hh_m.1 rfl (by omega) (by omega)).mpr z)
            exfalso; omega
        | succ n ih =>
          intro i q f hi he hq hv
          refine V.iload (pc := 40) 0 hC dX7_feed_40 rfl ?_
          refine V.iload_n (pc := 42) 3 hC dX7_feed_42 rfl ?_
          refine V.icmp_ge (pc := 43) 88 hC dX7_feed_43 (by decide) (fun c_43 => ?_) (fun c_43 => ?_)
          · have nc_43 : nN m ≤ i := (nle hh_m.1 rfl (by omega) (by omega)).mp c_43
            exfalso; omega
          · have nc_43 : ¬ (nN m ≤ i) := fun z => c_43 ((nle hh_m.1 rfl (by omega) (by omega)).mpr z)
            refine V.aload_n (pc := 46) 1 hC dX7_feed_46 rfl ?_
            refine V.get (pc := 47) (v := .ref (b 0)) hC cf_X7 0 0 fl_X7_9 (by decide) gm_0 rfl dX7_feed_47 ?_
            refine V.bipush (pc := 50) 49 hC dX7_feed_50 (by decide) ?_
            refine V.aload_n (pc := 52) 1 hC dX7_feed_52 rfl ?_
            refine V.get (pc := 53) (v := .ref (b 0)) hC cf_X7 0 0 fl_X7_9 (by decide) gm_0 rfl dX7_feed_53 ?_
            refine V.iconst (pc := 56) 5 hC dX7_feed_56 (by decide) ?_
            refine V.iald (pc := 57) (f := f) hC 1 5 gm_1 (nl 5) (by omega) (by decide) dX7_feed_57 ?_
            refine V.iadd (pc := 58) hC dX7_feed_58 ?_
            refine V.lload_n (pc := 59) 2 hC dX7_feed_59 rfl ?_
            refine V.bipush (pc := 60) 8 hC dX7_feed_60 (by decide) ?_
            refine V.iload (pc := 62) 0 hC dX7_feed_62 rfl ?_
            refine V.imul (pc := 64) hC dX7_feed_64 ?_
            refine V.lshr (pc := 65) hC dX7_feed_65 ?_
            refine V.ldc2 (pc := 66) (v := 255) hC cl_X7_119 dX7_feed_66 ?_
            refine V.land (pc := 69) hC dX7_feed_69 ?_
            refine V.l2i (pc := 70) hC dX7_feed_70 ?_
            refine V.iast (pc := 71) (f := f) hC 1 (q + 49) (wM k b (va_up μ 0 (upd f (q + 49) (((w >>> ((8 * (nI i)).toInt64 &&& 63)) &&& 255).toInt32))) ν) gm_1 (ncast (b := q + 49) (nadd (nl 49) he) (by omega)) (by omega) (by decide) rfl dX7_feed_71 ?_
            refine V.aload_n (pc := 72) 1 hC dX7_feed_72 rfl ?_
            refine V.get (pc := 73) (v := .ref (b 0)) hC cf_X7 0 0 fl_X7_9 (by decide) gm_0 rfl dX7_feed_73 ?_
            refine V.iconst (pc := 76) 5 hC dX7_feed_76 (by decide) ?_
            refine V.dup2 (pc := 77) hC dX7_feed_77 rfl rfl ?_
            refine V.iald (pc := 78) (f := upd f (q + 49) (((w >>> ((8 * (nI i)).toInt64 &&& 63)) &&& 255).toInt32)) hC 1 5 gm_1 (nl 5) (by omega) (by decide) dX7_feed_78 ?_
            refine V.eqi (y := f 5) (upd_ne (show 5 ≠ q + 49 by omega)) ?_
            refine V.iconst (pc := 79) 1 hC dX7_feed_79 (by decide) ?_
            refine V.iadd (pc := 80) hC dX7_feed_80 ?_
            refine V.iast (pc := 81) (f := upd f (q + 49) (((w >>> ((8 * (nI i)).toInt64 &&& 63)) &&& 255).toInt32)) hC 1 5 (wM k b (va_up μ 0 (upd (upd f (q + 49) (((w >>> ((8 * (nI i)).toInt64 &&& 63)) &&& 255).toInt32)) 5 ((f 5) + 1))) ν) gm_1 (nl 5) (by omega) (by decide) rfl dX7_feed_81 ?_
            refine V.iinc (pc := 82) 0 (nI (i + 1)) [(4, .int (nI (i + 1))), (0, .ref (b 20)), (1, .long w), (3, .int m)] hC dX7_feed_82 rfl (ncast (nadd rfl (nl 1)) (by omega)) (by decide) rfl ?_
            refine V.goto (pc := 85) 40 hC dX7_feed_85 (by decide) ?_
            exact V.sub [0, 1, 2, 3] rfl (ih (i + 1) (q + 1) (upd (upd f (q + 49) (((w >>> ((8 * (nI i)).toInt64 &&& 63)) &&& 255).toInt32)) 5 ((f 5) + 1)) (by omega) (by rw [upd_eq, he]; exact nI_1 q) (by omega) (hv.trans (by simp only [feedS, bytS, nN_of he (by omega), Nat.add_comm 49 q])))
      exact V.sub [0, 1, 2, 3] rfl (loop_40 (nN m) 0 (nN (μ 0 5)) (μ 0) (by omega) hI.bn (by omega) rfl)
    · have nc_27 : ¬ (nN (μ 0 5) + nN m ≤ 60) := fun z => c_27 ((nle (ncast (b := nN (μ 0 5) + nN m) (nadd hI.bn hh_m.1) (by omega)) (nl 60) (by omega) (by omega)).mpr z)
      refine V.aload_n (pc := 30) 0 hC dX7_feed_30 rfl ?_
      refine V.ldc (pc := 31) (v := (-1000000004)) hC cn_X7_60 dX7_feed_31 ?_
      refine V.callV0 (pc := 33) (as := [.int (-1000000004)]) hC (c_X7_error μ ν 4 (-1000000004) (by omega) (by decide)) mu_X7_error ml_X7_56 (by decide) ⟨0, 7, TX7, 20, _, rfl, gm_0⟩ rfl (Nat.le_of_ble_eq_true rfl) dX7_feed_33 ?_
      rintro _ _ rfl
      show V X (wM k b (va_up μ 3 (upd (μ 3) 4 (μ 3 4 + 1))) ν) [(0, .ref (b 20)), (1, .long w), (3, .int m)] [.int (-1000000004)] 36
      exact hR (-1000000004) ((va_up μ 3 (upd (μ 3) 4 (μ 3 4 + 1)))) _ _ dX7_feed_36 rfl (opr (by simp only [op_feed, c_7, c_27, i_nle c_27, inS, hndS, homS, prsS, shtS, if_true, if_false, not_true_eq_false, not_false_eq_true, true_and, and_true, false_and, and_false, true_or, or_true, or_false, false_or, er_1, er_2, er_3, er_4, er_5, er_6] <;> rfl))
  · refine V.aload_n (pc := 10) 0 hC dX7_feed_10 rfl ?_
    refine V.ldc (pc := 11) (v := (-1000000001)) hC cn_X7_55 dX7_feed_11 ?_
    refine V.callV0 (pc := 13) (as := [.int (-1000000001)]) hC (c_X7_error μ ν 1 (-1000000001) (by omega) (by decide)) mu_X7_error ml_X7_56 (by decide) ⟨0, 7, TX7, 20, _, rfl, gm_0⟩ rfl (Nat.le_of_ble_eq_true rfl) dX7_feed_13 ?_
    rintro _ _ rfl
    show V X (wM k b (va_up μ 3 (upd (μ 3) 1 (μ 3 1 + 1))) ν) [(0, .ref (b 20)), (1, .long w), (3, .int m)] [.int (-1000000001)] 16
    exact hR (-1000000001) ((va_up μ 3 (upd (μ 3) 1 (μ 3 1 + 1)))) _ _ dX7_feed_16 rfl (opr (by simp only [op_feed, c_7, inS, hndS, homS, prsS, shtS, if_true, if_false, not_true_eq_false, not_false_eq_true, true_and, and_true, false_and, and_false, true_or, or_true, or_false, false_or, er_1, er_2, er_3, er_4, er_5, er_6] <;> rfl))
