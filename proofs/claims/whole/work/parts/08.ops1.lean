theorem sub_sub_i (x y : Int32) : x - (x - y) = y := by
  apply Int32.toBitVec_inj.mp
  simp only [Int32.toBitVec_sub]
  bv_omega
set_option maxHeartbeats 4000000 in
set_option maxRecDepth 100000 in
theorem c_X7_error {l : Launch} {D : va_G} {k : Nat → ClassId} {g b : Nat → Nat} (μ ν : St) (e : Nat) (v : Int32) (he : e < 7) (hv : v = lowE e) : Ct l D k g yX7_error cX7_error 2 (some .int) 0 0 [.ref (b 20), .int v] (S := Unit) (wM k b μ ν) (fun _ => wM k b (va_up μ 3 (upd (μ 3) e (μ 3 e + 1))) ν) (fun vv _ => vv = some (.int v)) := by
  refine Ct.ofI RX7 rfl (by decide +kernel) (Nat.le_of_ble_eq_true rfl) (fun X hC hR => ?_)
  show V X (wM k b μ ν) [(0, .ref (b 20)), (1, .int v)] [] 0
  refine V.aload_n (pc := 0) 0 hC dX7_error_0 rfl ?_
  refine V.get (pc := 1) (v := .ref (b 3)) hC cf_X7 0 3 fl_X7_16 (by decide) gm_0 rfl dX7_error_1 ?_
  refine V.ldc (pc := 4) (v := (-1000000000)) hC cn_X7_46 dX7_error_4 ?_
  refine V.iload_n (pc := 6) 1 hC dX7_error_6 rfl ?_
  refine V.isub (pc := 7) hC dX7_error_7 ?_
  refine V.dup2 (pc := 8) hC dX7_error_8 rfl rfl ?_
  refine V.iald (pc := 9) (f := μ 3) hC 3 e gm_3 (show -1000000000 - v = nI e by rw [hv, lowE]; exact sub_sub_i _ _) he (by decide) dX7_error_9 ?_
  refine V.iconst (pc := 10) 1 hC dX7_error_10 (by decide) ?_
  refine V.iadd (pc := 11) hC dX7_error_11 ?_
  refine V.iast (pc := 12) (f := μ 3) hC 3 e (wM k b (va_up μ 3 (upd (μ 3) e ((μ 3 e) + 1))) ν) gm_3 (show -1000000000 - v = nI e by rw [hv, lowE]; exact sub_sub_i _ _) he (by decide) rfl dX7_error_12 ?_
  refine V.iload_n (pc := 13) 1 hC dX7_error_13 rfl ?_
  exact hR v () _ _ dX7_error_14 rfl rfl
set_option maxHeartbeats 4000000 in
set_option maxRecDepth 100000 in
theorem c_X7_becomes {l : Launch} {D : va_G} {k : Nat → ClassId} {g b : Nat → Nat} (μ ν : St) (q : Nat) (v : Int32) (hq : q < 375) : Ct l D k g yX7_becomes cX7_becomes 4 (some .int) 0 0 [.ref (b 20), .int (nI q), .int v] (S := Unit) (wM k b μ ν) (fun _ => wM k b (va_up μ 0 (upd (μ 0) q v)) ν) (fun vv _ => vv = some (.int (μ 0 q))) := by
  refine Ct.ofI RX7 rfl (by decide +kernel) (Nat.le_of_ble_eq_true rfl) (fun X hC hR => ?_)
  show V X (wM k b μ ν) [(0, .ref (b 20)), (1, .int (nI q)), (2, .int v)] [] 0
  refine V.aload_n (pc := 0) 0 hC dX7_becomes_0 rfl ?_
  refine V.get (pc := 1) (v := .ref (b 0)) hC cf_X7 0 0 fl_X7_9 (by decide) gm_0 rfl dX7_becomes_1 ?_
  refine V.iload_n (pc := 4) 1 hC dX7_becomes_4 rfl ?_
  refine V.iald (pc := 5) (f := μ 0) hC 1 q gm_1 rfl (by omega) (by decide) dX7_becomes_5 ?_
  refine V.istore_n (pc := 6) [(3, .int (μ 0 q)), (0, .ref (b 20)), (1, .int (nI q)), (2, .int v)] hC dX7_becomes_6 (by decide) rfl ?_
  refine V.aload_n (pc := 7) 1 hC dX7_becomes_7 rfl ?_
  refine V.get (pc := 8) (v := .ref (b 0)) hC cf_X7 0 0 fl_X7_9 (by decide) gm_0 rfl dX7_becomes_8 ?_
  refine V.iload_n (pc := 11) 2 hC dX7_becomes_11 rfl ?_
  refine V.iload_n (pc := 12) 3 hC dX7_becomes_12 rfl ?_
  refine V.iast (pc := 13) (f := μ 0) hC 1 q (wM k b (va_up μ 0 (upd (μ 0) q v)) ν) gm_1 rfl (by omega) (by decide) rfl dX7_becomes_13 ?_
  refine V.iload_n (pc := 14) 0 hC dX7_becomes_14 rfl ?_
  exact hR (μ 0 q) () _ _ dX7_becomes_15 rfl rfl
set_option maxHeartbeats 4000000 in
set_option maxRecDepth 100000 in
theorem c_X7_bits {l : Launch} {D : va_G} {k : Nat → ClassId} {g : Nat → Nat} (c : Nat) (hc : c < 256) : Ct l D k g yX7_bits cX7_bits 3 (some .int) 0 0 [.int (nI c)] (S := Unit) ([]) (fun _ => []) (fun vv _ => vv = some (.int (nI (pc8 c)))) := by
  refine Ct.ofI RX7 rfl (by decide +kernel) (Nat.le_of_ble_eq_true rfl) (fun X hC hR => ?_)
  show V X ([]) [(0, .int (nI c))] [] 0
  refine V.iconst (pc := 0) 0 hC dX7_bits_0 (by decide) ?_
  refine V.istore_n (pc := 1) [(1, .int 0), (0, .int (nI c))] hC dX7_bits_1 (by decide) rfl ?_
  refine V.iload_n (pc := 2) 1 hC dX7_bits_2 rfl ?_
  refine V.istore_n (pc := 3) [(2, .int (nI c)), (1, .int 0), (0, .int (nI c))] hC dX7_bits_3 (by decide) rfl ?_
  have loop_4 : ∀ (n : Nat) (r j : Nat), r ≤ n → r < 256 → j + pc8 r = pc8 c → V X ([]) [(1, .int (nI j)), (2, .int (nI r))] [] 4 := by
    intro n
    induction n with
    | zero =>
      intro r j hr hs hj
      refine V.iload_n (pc := 4) 1 hC dX7_bits_4 rfl ?_
      refine V.if_eq (pc := 5) 20 hC dX7_bits_5 (by decide) (fun c_5 => ?_) (fun c_5 => ?_)
      · have nc_5 : r = 0 := (neq rfl (nl 0) (by omega) (by omega)).mp c_5
        refine V.iload_n (pc := 20) 0 hC dX7_bits_20 rfl ?_
        exact hR (nI j) () _ _ dX7_bits_21 rfl (ri (by rw [show pc8 c = j by have e : r = 0 := nc_5; subst e; exact hj.symm]))
      · have nc_5 : ¬ (r = 0) := fun z => c_5 ((neq rfl (nl 0) (by omega) (by omega)).mpr z)
        exfalso; omega
    | succ n ih =>
      intro r j hr hs hj
      refine V.iload_n (pc := 4) 1 hC dX7_bits_4 rfl ?_
      refine V.if_eq (pc := 5) 20 hC dX7_bits_5 (by decide) (fun c_5 => ?_) (fun c_5 => ?_)
      · have nc_5 : r = 0 := (neq rfl (nl 0) (by omega) (by omega)).mp c_5
        refine V.iload_n (pc := 20) 0 hC dX7_bits_20 rfl ?_
        exact hR (nI j) () _ _ dX7_bits_21 rfl (ri (by rw [show pc8 c = j by have e : r = 0 := nc_5; subst e; exact hj.symm]))
      · have nc_5 : ¬ (r = 0) := fun z => c_5 ((neq rfl (nl 0) (by omega) (by omega)).mpr z)
        refine V.iinc (pc := 8) 0 (nI (j + 1)) [(1, .int (nI (j + 1))), (2, .int (nI r))] hC dX7_bits_8 rfl (ncast (nadd rfl (nl 1)) (by omega)) (by decide) rfl ?_
        refine V.iload_n (pc := 11) 1 hC dX7_bits_11 rfl ?_
        refine V.iload_n (pc := 12) 1 hC dX7_bits_12 rfl ?_
        refine V.iconst (pc := 13) 1 hC dX7_bits_13 (by decide) ?_
        refine V.isub (pc := 14) hC dX7_bits_14 ?_
        refine V.iand (pc := 15) hC dX7_bits_15 ?_
        refine V.eqi (y := nI (r &&& (r - 1))) (pc8_s hs (by omega)).1 ?_
        refine V.istore_n (pc := 16) [(2, .int (nI (r &&& (r - 1)))), (1, .int (nI (j + 1)))] hC dX7_bits_16 (by decide) rfl ?_
        refine V.goto (pc := 17) 4 hC dX7_bits_17 (by decide) ?_
        exact V.sub [1, 0] rfl (ih (r &&& (r - 1)) (j + 1) (by have := (pc8_s hs (by omega)).2.1; omega) (by have := (pc8_s hs (by omega)).2.1; omega) (by have := (pc8_s hs (by omega)).2.2; omega))
  exact V.sub [1, 0] rfl (loop_4 c c 0 (Nat.le_refl c) hc (by omega))
set_option maxHeartbeats 4000000 in
set_option maxRecDepth 100000 in
theorem c_X7_findReach {l : Launch} {D : va_G} {k : Nat → ClassId} {g b : Nat → Nat} (μ ν : St) (p m : Nat) (hI : Inv (μ 0)) (hp : p < 6) (hm : m ≤ 60) : Ct l D k g yX7_findReach cX7_findReach 9 none 4 96 [.ref (b 20), .int (nI p), .int (nI m)] (S := Rw × Rw × Rw) (wM k b μ ν) (fun u => wM k b μ (va_up (va_up (va_up ν 7 u.1) 10 u.2.1) 11 u.2.2)) (fun vv u => vv = none ∧ (∀ i x, i < m → x < nN (μ 0 3) → u.1 (8 * i + x) = wayS (μ 0) p x (μ 0 0 + nI i))) := by
  refine Ct.ofV RX7 rfl (by decide +kernel) (Nat.le_of_ble_eq_true rfl) (fun X hC hR => ?_)
  have hb8 := hI.mb
  show V X (wM k b μ ν) [(0, .ref (b 20)), (1, .int (nI p)), (2, .int (nI m))] [] 0
  refine V.iconst (pc := 0) 0 hC dX7_findReach_0 (by decide) ?_
  refine V.istore_n (pc := 1) [(3, .int 0), (0, .ref (b 20)), (1, .int (nI p)), (2, .int (nI m))] hC dX7_findReach_1 (by decide) rfl ?_
  have loop_2 : ∀ (n : Nat) (i : Nat) (f7 f10 f11 : Rw), i + n = m → (∀ i2 x2, i2 < i → x2 < nN (μ 0 3) → f7 (8 * i2 + x2) = (wayS (μ 0) p x2 (μ 0 0 + nI i2))) → V X (wM k b μ (va_up (va_up (va_up ν 7 f7) 10 f10) 11 f11)) [(3, .int (nI i)), (0, .ref (b 20)), (1, .int (nI p)), (2, .int (nI m))] [] 2 := by
    intro n
    induction n with
    | zero =>
      intro i f7 f10 f11 hi hq
      refine V.iload_n (pc := 2) 0 hC dX7_findReach_2 rfl ?_
      refine V.iload_n (pc := 3) 3 hC dX7_findReach_3 rfl ?_
      refine V.icmp_ge (pc := 4) 118 hC dX7_findReach_4 (by decide) (fun c_4 => ?_) (fun c_4 => ?_)
      · have nc_4 : m ≤ i := (nle rfl rfl (by omega) (by omega)).mp c_4
        exact hR (f7, f10, f11) _ _ dX7_findReach_118 ⟨rfl, fun i2 x2 h1 h2 => hq i2 x2 (by omega) h2⟩
      · have nc_4 : ¬ (m ≤ i) := fun z => c_4 ((nle rfl rfl (by omega) (by omega)).mpr z)
        exfalso; omega
    | succ n ih =>
      intro i f7 f10 f11 hi hq
      refine V.iload_n (pc := 2) 0 hC dX7_findReach_2 rfl ?_
      refine V.iload_n (pc := 3) 3 hC dX7_findReach_3 rfl ?_
      refine V.icmp_ge (pc := 4) 118 hC dX7_findReach_4 (by decide) (fun c_4 => ?_) (fun c_4 => ?_)
      · have nc_4 : m ≤ i := (nle rfl rfl (by omega) (by omega)).mp c_4
        exfalso; omega
      · have nc_4 : ¬ (m ≤ i) := fun z => c_4 ((nle rfl rfl (by omega) (by omega)).mpr z)
        refine V.aload_n (pc := 7) 1 hC dX7_findReach_7 rfl ?_
        refine V.get (pc := 8) (v := .ref (b 0)) hC cf_X7 0 0 fl_X7_9 (by decide) gm_0 rfl dX7_findReach_8 ?_
        refine V.iconst (pc := 11) 0 hC dX7_findReach_11 (by decide) ?_
        refine V.iald (pc := 12) (f := μ 0) hC 1 0 gm_1 (nl 0) (by omega) (by decide) dX7_findReach_12 ?_
        refine V.iload_n (pc := 13) 0 hC dX7_findReach_13 rfl ?_
        refine V.iadd (pc := 14) hC dX7_findReach_14 ?_
        refine V.istore (pc := 15) [(4, .int ((μ 0 0) + (nI i))), (3, .int (nI i)), (0, .ref (b 20)), (1, .int (nI p)), (2, .int (nI m))] hC dX7_findReach_15 (by decide) rfl ?_
        refine V.aload_n (pc := 17) 2 hC dX7_findReach_17 rfl ?_
        refine V.iload_n (pc := 18) 3 hC dX7_findReach_18 rfl ?_
        refine V.iload (pc := 19) 0 hC dX7_findReach_19 rfl ?_
        refine V.callV0 (pc := 21) (as := [.int (nI p), .int ((μ 0 0) + (nI i))]) hC (c_X7_leapsOf μ (va_up (va_up (va_up ν 7 f7) 10 f10) 11 f11) p ((μ 0 0) + (nI i)) hI hp) mu_X7_leapsOf ml_X7_94 (by decide) ⟨0, 7, TX7, 20, _, rfl, gm_0⟩ rfl (Nat.le_of_ble_eq_true rfl) dX7_findReach_21 ?_
        rintro _ ⟨f21_0, f21_1⟩ rfl
        show V X (wM k b μ (va_up (va_up (va_up ν 7 f7) 10 f21_0) 11 f21_1)) [(4, .int ((μ 0 0) + (nI i))), (3, .int (nI i)), (0, .ref (b 20)), (1, .int (nI p)), (2, .int (nI m))] [.int (leapsS (μ 0) p ((μ 0 0) + (nI i)))] 24
        refine V.istore (pc := 24) [(5, .int (leapsS (μ 0) p ((μ 0 0) + (nI i)))), (4, .int ((μ 0 0) + (nI i))), (3, .int (nI i)), (0, .ref (b 20)), (1, .int (nI p)), (2, .int (nI m))] hC dX7_findReach_24 (by decide) rfl ?_
        refine V.iconst (pc := 26) 0 hC dX7_findReach_26 (by decide) ?_
        refine V.istore (pc := 27) [(6, .int 0), (5, .int (leapsS (μ 0) p ((μ 0 0) + (nI i)))), (4, .int ((μ 0 0) + (nI i))), (3, .int (nI i)), (0, .ref (b 20)), (1, .int (nI p)), (2, .int (nI m))] hC dX7_findReach_27 (by decide) rfl ?_
        have loop_29 : ∀ (n : Nat) (x : Nat) (g7 : Rw), x + n = nN (μ 0 3) → (∀ i2 x2, (i2 < i ∧ x2 < nN (μ 0 3)) ∨ (i2 = i ∧ x2 < x) → g7 (8 * i2 + x2) = (wayS (μ 0) p x2 (μ 0 0 + nI i2))) → V X (wM k b μ (va_up (va_up (va_up ν 7 g7) 10 f21_0) 11 f21_1)) [(5, .int (leapsS (μ 0) p ((μ 0 0) + (nI i)))), (4, .int ((μ 0 0) + (nI i))), (3, .int (nI i)), (0, .ref (b 20)), (1, .int (nI p)), (2, .int (nI m)), (6, .int (nI x))] [] 29 := by
          intro n
          induction n with
          | zero =>
            intro x g7 hx hr
            refine V.iload (pc := 29) 6 hC dX7_findReach_29 rfl ?_
            refine V.aload_n (pc := 31) 3 hC dX7_findReach_31 rfl ?_
            refine V.get (pc := 32) (v := .ref (b 0)) hC cf_X7 0 0 fl_X7_9 (by decide) gm_0 rfl dX7_findReach_32 ?_
            refine V.iconst (pc := 35) 3 hC dX7_findReach_35 (by decide) ?_
            refine V.iald (pc := 36) (f := μ 0) hC 1 3 gm_1 (nl 3) (by omega) (by decide) dX7_findReach_36 ?_
            refine V.icmp_ge (pc := 37) 112 hC dX7_findReach_37 (by decide) (fun c_37 => ?_) (fun c_37 => ?_)
            · have nc_37 : nN (μ 0 3) ≤ x := (nle hI.mn rfl (by omega) (by omega)).mp c_37
              refine V.iinc (pc := 112) 2 (nI (i + 1)) [(3, .int (nI (i + 1))), (5, .int (leapsS (μ 0) p ((μ 0 0) + (nI i)))), (4, .int ((μ 0 0) + (nI i))), (0, .ref (b 20)), (1, .int (nI p)), (2, .int (nI m)), (6, .int (nI x))] hC dX7_findReach_112 rfl (ncast (nadd rfl (nl 1)) (by omega)) (by decide) rfl ?_
              refine V.goto (pc := 115) 2 hC dX7_findReach_115 (by decide) ?_
              exact V.sub [0, 3, 4, 5] rfl (ih (i + 1) g7 f21_0 f21_1 (by omega) (fun i2 x2 h1 h2 => hr i2 x2 (by omega)))
            · have nc_37 : ¬ (nN (μ 0 3) ≤ x) := fun z => c_37 ((nle hI.mn rfl (by omega) (by omega)).mpr z)
              exfalso; omega
          | succ n ih =>
            intro x g7 hx hr
            refine V.iload (pc := 29) 6 hC dX7_findReach_29 rfl ?_
            refine V.aload_n (pc := 31) 3 hC dX7_findReach_31 rfl ?_
            refine V.get (pc := 32) (v := .ref (b 0)) hC cf_X7 0 0 fl_X7_9 (by decide) gm_0 rfl dX7_findReach_32 ?_
            refine V.iconst (pc := 35) 3 hC dX7_findReach_35 (by decide) ?_
            refine V.iald (pc := 36) (f := μ 0) hC 1 3 gm_1 (nl 3) (by omega) (by decide) dX7_findReach_36 ?_
            refine V.icmp_ge (pc := 37) 112 hC dX7_findReach_37 (by decide) (fun c_37 => ?_) (fun c_37 => ?_)
            · have nc_37 : nN (μ 0 3) ≤ x := (nle hI.mn rfl (by omega) (by omega)).mp c_37
              exfalso; omega
            · have nc_37 : ¬ (nN (μ 0 3) ≤ x) := fun z => c_37 ((nle hI.mn rfl (by omega) (by omega)).mpr z)
              refine V.iconst (pc := 40) 0 hC dX7_findReach_40 (by decide) ?_
              refine V.istore (pc := 41) [(7, .int 0), (5, .int (leapsS (μ 0) p ((μ 0 0) + (nI i)))), (4, .int ((μ 0 0) + (nI i))), (3, .int (nI i)), (0, .ref (b 20)), (1, .int (nI p)), (2, .int (nI m)), (6, .int (nI x))] hC dX7_findReach_41 (by decide) rfl ?_
              refine V.iconst (pc := 43) 0 hC dX7_findReach_43 (by decide) ?_
              refine V.istore (pc := 44) [(8, .int 0), (7, .int 0), (5, .int (leapsS (μ 0) p ((μ 0 0) + (nI i)))), (4, .int ((μ 0 0) + (nI i))), (3, .int (nI i)), (0, .ref (b 20)), (1, .int (nI p)), (2, .int (nI m)), (6, .int (nI x))] hC dX7_findReach_44 (by decide) rfl ?_
              have loop_46 : ∀ (n : Nat) (j : Nat) (r : Int32), j + n = nN (μ 0 3) → (wayS (μ 0) p x (μ 0 0 + nI i)) = run (fun y s => s ||| (if reachS (μ 0) p x y (μ 0 0 + nI i) (leapsS (μ 0) p (μ 0 0 + nI i)) then b1 (nI y) else 0)) n j r → V X (wM k b μ (va_up (va_up (va_up ν 7 g7) 10 f21_0) 11 f21_1)) [(5, .int (leapsS (μ 0) p ((μ 0 0) + (nI i)))), (4, .int ((μ 0 0) + (nI i))), (3, .int (nI i)), (0, .ref (b 20)), (1, .int (nI p)), (2, .int (nI m)), (6, .int (nI x)), (7, .int r), (8, .int (nI j))] [] 46 := by
                intro n
                induction n with
                | zero =>
                  intro j r hj hw
                  refine V.iload (pc := 46) 8 hC dX7_findReach_46 rfl ?_
                  refine V.aload_n (pc := 48) 3 hC dX7_findReach_48 rfl ?_
                  refine V.get (pc := 49) (v := .ref (b 0)) hC cf_X7 0 0 fl_X7_9 (by decide) gm_0 rfl dX7_findReach_49 ?_
                  refine V.iconst (pc := 52) 3 hC dX7_findReach_52 (by decide) ?_
                  refine V.iald (pc := 53) (f := μ 0) hC 1 3 gm_1 (nl 3) (by omega) (by decide) dX7_findReach_53 ?_
                  refine V.icmp_ge (pc := 54) 92 hC dX7_findReach_54 (by decide) (fun c_54 => ?_) (fun c_54 => ?_)
                  · have nc_54 : nN (μ 0 3) ≤ j := (nle hI.mn rfl (by omega) (by omega)).mp c_54
                    refine V.aload_n (pc := 92) 3 hC dX7_findReach_92 rfl ?_
                    refine V.get (pc := 93) (v := .ref (b 7)) hC cf_X7 0 7 fl_X7_28 (by decide) gm_0 rfl dX7_findReach_93 ?_
                    refine V.bipush (pc := 96) 8 hC dX7_findReach_96 (by decide) ?_
                    refine V.iload_n (pc := 98) 2 hC dX7_findReach_98 rfl ?_
                    refine V.imul (pc := 99) hC dX7_findReach_99 ?_
                    refine V.iload (pc := 100) 6 hC dX7_findReach_100 rfl ?_
                    refine V.iadd (pc := 102) hC dX7_findReach_102 ?_
                    refine V.iload (pc := 103) 7 hC dX7_findReach_103 rfl ?_
                    refine V.iast (pc := 105) (f := g7) hC 7 (8 * i + x) (wM k b μ (va_up (va_up (va_up ν 7 (upd g7 (8 * i + x) r)) 10 f21_0) 11 f21_1)) gm_7 (ncast (b := 8 * i + x) (nadd (nmul (nl 8) rfl) rfl) (by omega)) (by omega) (by decide) rfl dX7_findReach_105 ?_
                    refine V.iinc (pc := 106) 6 (nI (x + 1)) [(6, .int (nI (x + 1))), (5, .int (leapsS (μ 0) p ((μ 0 0) + (nI i)))), (4, .int ((μ 0 0) + (nI i))), (3, .int (nI i)), (0, .ref (b 20)), (1, .int (nI p)), (2, .int (nI m)), (7, .int r), (8, .int (nI j))] hC dX7_findReach_106 rfl (ncast (nadd rfl (nl 1)) (by omega)) (by decide) rfl ?_
                    refine V.goto (pc := 109) 29 hC dX7_findReach_109 (by decide) ?_
                    exact V.sub [1, 2, 3, 4, 5, 6, 0] rfl (ih (x + 1) (upd g7 (8 * i + x) r) (by omega) (fun i2 x2 h => by
          by_cases e : 8 * i2 + x2 = 8 * i + x
          · have e1 : i2 = i := by omega
            have e2 : x2 = x := by omega
            subst e1; subst e2; simp only [upd, if_true]; exact hw.symm
          · simp only [upd, if_neg e]; exact hr i2 x2 (by omega)))
                  · have nc_54 : ¬ (nN (μ 0 3) ≤ j) := fun z => c_54 ((nle hI.mn rfl (by omega) (by omega)).mpr z)
                    exfalso; omega
                | succ n ih =>
                  intro j r hj hw
                  refine V.iload (pc := 46) 8 hC dX7_findReach_46 rfl ?_
                  refine V.aload_n (pc := 48) 3 hC dX7_findReach_48 rfl ?_
                  refine V.get (pc := 49) (v := .ref (b 0)) hC cf_X7 0 0 fl_X7_9 (by decide) gm_0 rfl dX7_findReach_49 ?_
                  refine V.iconst (pc := 52) 3 hC dX7_findReach_52 (by decide) ?_
                  refine V.iald (pc := 53) (f := μ 0) hC 1 3 gm_1 (nl 3) (by omega) (by decide) dX7_findReach_53 ?_
                  refine V.icmp_ge (pc := 54) 92 hC dX7_findReach_54 (by decide) (fun c_54 => ?_) (fun c_54 => ?_)
                  · have nc_54 : nN (μ 0 3) ≤ j := (nle hI.mn rfl (by omega) (by omega)).mp c_54
                    exfalso; omega
                  · have nc_54 : ¬ (nN (μ 0 3) ≤ j) := fun z => c_54 ((nle hI.mn rfl (by omega) (by omega)).mpr z)
                    refine V.iload (pc := 57) 7 hC dX7_findReach_57 rfl ?_
                    refine V.aload_n (pc := 59) 3 hC dX7_findReach_59 rfl ?_
                    refine V.iload_n (pc := 60) 4 hC dX7_findReach_60 rfl ?_
                    refine V.iload (pc := 61) 6 hC dX7_findReach_61 rfl ?_
                    refine V.iload (pc := 63) 8 hC dX7_findReach_63 rfl ?_
                    refine V.iload (pc := 65) 1 hC dX7_findReach_65 rfl ?_
                    refine V.iload (pc := 67) 0 hC dX7_findReach_67 rfl ?_
                    refine V.callV0 (pc := 69) (as := [.int (nI p), .int (nI x), .int (nI j), .int ((μ 0 0) + (nI i)), .int (leapsS (μ 0) p ((μ 0 0) + (nI i)))]) hC (c_X7_isInReach μ (va_up (va_up (va_up ν 7 g7) 10 f21_0) 11 f21_1) p x j ((μ 0 0) + (nI i)) (leapsS (μ 0) p ((μ 0 0) + (nI i))) hI hp (by omega) (by omega)) mu_X7_isInReach ml_X7_97 (by decide) ⟨0, 7, TX7, 20, _, rfl, gm_0⟩ rfl (Nat.le_of_ble_eq_true rfl) dX7_findReach_69 ?_
                    rintro _ _ rfl
                    show V X (wM k b μ (va_up (va_up (va_up ν 7 g7) 10 f21_0) 11 f21_1)) [(5, .int (leapsS (μ 0) p ((μ 0 0) + (nI i)))), (4, .int ((μ 0 0) + (nI i))), (3, .int (nI i)), (0, .ref (b 20)), (1, .int (nI p)), (2, .int (nI m)), (6, .int (nI x)), (7, .int r), (8, .int (nI j))] [.int (bI (reachS (μ 0) p x j ((μ 0 0) + (nI i)) (leapsS (μ 0) p ((μ 0 0) + (nI i))))), .int r] 72
                    refine V.if_eq_b (P := reachS (μ 0) p x j ((μ 0 0) + (nI i)) (leapsS (μ 0) p ((μ 0 0) + (nI i)))) (pc := 72) 82 hC dX7_findReach_72 (by decide) (fun c_72 => ?_) (fun c_72 => ?_)
                    · refine V.iconst (pc := 82) 0 hC dX7_findReach_82 (by decide) ?_
                      refine V.ior (pc := 83) hC dX7_findReach_83 ?_
                      refine V.istore (pc := 84) [(7, .int (r ||| 0)), (5, .int (leapsS (μ 0) p ((μ 0 0) + (nI i)))), (4, .int ((μ 0 0) + (nI i))), (3, .int (nI i)), (0, .ref (b 20)), (1, .int (nI p)), (2, .int (nI m)), (6, .int (nI x)), (8, .int (nI j))] hC dX7_findReach_84 (by decide) rfl ?_
                      refine V.iinc (pc := 86) 8 (nI (j + 1)) [(8, .int (nI (j + 1))), (7, .int (r ||| 0)), (5, .int (leapsS (μ 0) p ((μ 0 0) + (nI i)))), (4, .int ((μ 0 0) + (nI i))), (3, .int (nI i)), (0, .ref (b 20)), (1, .int (nI p)), (2, .int (nI m)), (6, .int (nI x))] hC dX7_findReach_86 rfl (ncast (nadd rfl (nl 1)) (by omega)) (by decide) rfl ?_
                      refine V.goto (pc := 89) 46 hC dX7_findReach_89 (by decide) ?_
                      exact V.sub [2, 3, 4, 5, 6, 7, 8, 1, 0] rfl (ih (j + 1) (r ||| 0) (by omega) (run_next hw (by show r ||| _ = _; rw [if_neg c_72] <;> rfl)))
                    · refine V.iconst (pc := 75) 1 hC dX7_findReach_75 (by decide) ?_
                      refine V.iload (pc := 76) 8 hC dX7_findReach_76 rfl ?_
                      refine V.ishl (pc := 78) hC dX7_findReach_78 ?_
                      refine V.goto (pc := 79) 83 hC dX7_findReach_79 (by decide) ?_
                      refine V.ior (pc := 83) hC dX7_findReach_83 ?_
                      refine V.istore (pc := 84) [(7, .int (r ||| (1 <<< ((nI j) &&& 31)))), (5, .int (leapsS (μ 0) p ((μ 0 0) + (nI i)))), (4, .int ((μ 0 0) + (nI i))), (3, .int (nI i)), (0, .ref (b 20)), (1, .int (nI p)), (2, .int (nI m)), (6, .int (nI x)), (8, .int (nI j))] hC dX7_findReach_84 (by decide) rfl ?_
                      refine V.iinc (pc := 86) 8 (nI (j + 1)) [(8, .int (nI (j + 1))), (7, .int (r ||| (1 <<< ((nI j) &&& 31)))), (5, .int (leapsS (μ 0) p ((μ 0 0) + (nI i)))), (4, .int ((μ 0 0) + (nI i))), (3, .int (nI i)), (0, .ref (b 20)), (1, .int (nI p)), (2, .int (nI m)), (6, .int (nI x))] hC dX7_findReach_86 rfl (ncast (nadd rfl (nl 1)) (by omega)) (by decide) rfl ?_
                      refine V.goto (pc := 89) 46 hC dX7_findReach_89 (by decide) ?_
                      exact V.sub [2, 3, 4, 5, 6, 7, 8, 1, 0] rfl (ih (j + 1) (r ||| (1 <<< ((nI j) &&& 31))) (by omega) (run_next hw (by show r ||| _ = _; rw [if_pos c_72] <;> rfl)))
              exact V.sub [2, 3, 4, 5, 6, 7, 8, 1, 0] rfl (loop_46 (nN (μ 0 3)) 0 0 (by omega) rfl)
        exact V.sub [1, 2, 3, 4, 5, 6, 0] rfl (loop_29 (nN (μ 0 3)) 0 f7 (by omega) (fun i2 x2 h => hq i2 x2 (by omega) (by omega)))
  exact V.sub [0, 1, 2, 3] rfl (loop_2 m 0 (ν 7) (ν 10) (ν 11) (by omega) (fun i2 x2 h => absurd h (Nat.not_lt_zero i2)))
set_option maxHeartbeats 4000000 in
set_option maxRecDepth 100000 in
theorem c_X7_roomsBut {l : Launch} {D : va_G} {k : Nat → ClassId} {g b : Nat → Nat} (μ ν : St) (p m : Nat) (shut : Int32) (hI : Inv (μ 0)) (hp : p < 6) (hm : m ≤ 60) : Ct l D k g yX7_roomsBut cX7_roomsBut 8 (some .int) 1 22 [.ref (b 20), .int (nI p), .int (nI m), .int shut] (S := Unit) (wM k b μ ν) (fun _ => wM k b μ ν) (fun vv _ => vv = some (.int (roomsButS (μ 0) (ν 7) p m shut))) := by
  refine Ct.ofI RX7 rfl (by decide +kernel) (Nat.le_of_ble_eq_true rfl) (fun X hC hR => ?_)
  have hb8 := hI.mb
  show V X (wM k b μ ν) [(0, .ref (b 20)), (1, .int (nI p)), (2, .int (nI m)), (3, .int shut)] [] 0
  refine V.iconst (pc := 0) 1 hC dX7_roomsBut_0 (by decide) ?_
  refine V.aload_n (pc := 1) 0 hC dX7_roomsBut_1 rfl ?_
  refine V.iload_n (pc := 2) 1 hC dX7_roomsBut_2 rfl ?_
  refine V.iconst (pc := 3) 2 hC dX7_roomsBut_3 (by decide) ?_
  refine V.sts (st' := [.int (nI 2), .int (nI p), .ref (b 20), .int 1]) (stc (nl 2) (stk (stk (stk rfl)))) ?_
  refine V.callV0 (pc := 4) (as := [.int (nI p), .int (nI 2)]) hC (c_X7_of μ ν p 2 hp (by omega)) mu_X7_of ml_X7_72 (by decide) ⟨0, 7, TX7, 20, _, rfl, gm_0⟩ rfl (Nat.le_of_ble_eq_true rfl) dX7_roomsBut_4 ?_
  rintro _ _ rfl
  show V X (wM k b μ ν) [(0, .ref (b 20)), (1, .int (nI p)), (2, .int (nI m)), (3, .int shut)] [.int (μ 0 (31 + 3 * p + 2)), .int 1] 7
  refine V.eqi (y := μ 0 (33 + 3 * p)) (congrArg (μ 0) (by omega)) ?_
  refine V.ishl (pc := 7) hC dX7_roomsBut_7 ?_
  refine V.istore (pc := 8) [(4, .int (1 <<< ((μ 0 (33 + 3 * p)) &&& 31))), (0, .ref (b 20)), (1, .int (nI p)), (2, .int (nI m)), (3, .int shut)] hC dX7_roomsBut_8 (by decide) rfl ?_
  refine V.iconst (pc := 10) 0 hC dX7_roomsBut_10 (by decide) ?_
  refine V.istore (pc := 11) [(5, .int 0), (4, .int (1 <<< ((μ 0 (33 + 3 * p)) &&& 31))), (0, .ref (b 20)), (1, .int (nI p)), (2, .int (nI m)), (3, .int shut)] hC dX7_roomsBut_11 (by decide) rfl ?_
  have loop_13 : ∀ (n : Nat) (i : Nat) (s : Int32), i + n = m → roomsButS (μ 0) (ν 7) p m shut = run (fun i s => run (butF (μ 0) (ν 7) i shut s) (nN (μ 0 3)) 0 s) n i s → V X (wM k b μ ν) [(0, .ref (b 20)), (1, .int (nI p)), (2, .int (nI m)), (3, .int shut), (4, .int s), (5, .int (nI i))] [] 13 := by
    intro n
    induction n with
    | zero =>
      intro i s hi hv
      refine V.iload (pc := 13) 5 hC dX7_roomsBut_13 rfl ?_
      refine V.iload_n (pc := 15) 2 hC dX7_roomsBut_15 rfl ?_
      refine V.icmp_ge (pc := 16) 90 hC dX7_roomsBut_16 (by decide) (fun c_16 => ?_) (fun c_16 => ?_)
      · have nc_16 : m ≤ i := (nle rfl rfl (by omega) (by omega)).mp c_16
        refine V.iload (pc := 90) 4 hC dX7_roomsBut_90 rfl ?_
        exact hR s () _ _ dX7_roomsBut_92 rfl (ri hv.symm)
      · have nc_16 : ¬ (m ≤ i) := fun z => c_16 ((nle rfl rfl (by omega) (by omega)).mpr z)
        exfalso; omega
    | succ n ih =>
      intro i s hi hv
      refine V.iload (pc := 13) 5 hC dX7_roomsBut_13 rfl ?_
      refine V.iload_n (pc := 15) 2 hC dX7_roomsBut_15 rfl ?_
      refine V.icmp_ge (pc := 16) 90 hC dX7_roomsBut_16 (by decide) (fun c_16 => ?_) (fun c_16 => ?_)
      · have nc_16 : m ≤ i := (nle rfl rfl (by omega) (by omega)).mp c_16
        exfalso; omega
      · have nc_16 : ¬ (m ≤ i) := fun z => c_16 ((nle rfl rfl (by omega) (by omega)).mpr z)
        refine V.iload (pc := 19) 4 hC dX7_roomsBut_19 rfl ?_
        refine V.istore (pc := 21) [(6, .int s), (0, .ref (b 20)), (1, .int (nI p)), (2, .int (nI m)), (3, .int shut), (4, .int s), (5, .int (nI i))] hC dX7_roomsBut_21 (by decide) rfl ?_
        refine V.iconst (pc := 23) 0 hC dX7_roomsBut_23 (by decide) ?_
        refine V.istore (pc := 24) [(7, .int 0), (6, .int s), (0, .ref (b 20)), (1, .int (nI p)), (2, .int (nI m)), (3, .int shut), (4, .int s), (5, .int (nI i))] hC dX7_roomsBut_24 (by decide) rfl ?_
        have loop_26 : ∀ (n : Nat) (j : Nat) (r : Int32), j + n = nN (μ 0 3) → run (butF (μ 0) (ν 7) i shut s) (nN (μ 0 3)) 0 s = run (butF (μ 0) (ν 7) i shut s) n j r → V X (wM k b μ ν) [(0, .ref (b 20)), (1, .int (nI p)), (2, .int (nI m)), (3, .int shut), (4, .int s), (5, .int (nI i)), (6, .int r), (7, .int (nI j))] [] 26 := by
          intro n
          induction n with
          | zero =>
            intro j r hj hw
            refine V.iload (pc := 26) 7 hC dX7_roomsBut_26 rfl ?_
            refine V.aload_n (pc := 28) 0 hC dX7_roomsBut_28 rfl ?_
            refine V.get (pc := 29) (v := .ref (b 0)) hC cf_X7 0 0 fl_X7_9 (by decide) gm_0 rfl dX7_roomsBut_29 ?_
            refine V.iconst (pc := 32) 3 hC dX7_roomsBut_32 (by decide) ?_
            refine V.iald (pc := 33) (f := μ 0) hC 1 3 gm_1 (nl 3) (by omega) (by decide) dX7_roomsBut_33 ?_
            refine V.icmp_ge (pc := 34) 80 hC dX7_roomsBut_34 (by decide) (fun c_34 => ?_) (fun c_34 => ?_)
            · have nc_34 : nN (μ 0 3) ≤ j := (nle hI.mn rfl (by omega) (by omega)).mp c_34
              refine V.iload (pc := 80) 6 hC dX7_roomsBut_80 rfl ?_
              refine V.istore (pc := 82) [(4, .int r), (0, .ref (b 20)), (1, .int (nI p)), (2, .int (nI m)), (3, .int shut), (5, .int (nI i)), (6, .int r), (7, .int (nI j))] hC dX7_roomsBut_82 (by decide) rfl ?_
              refine V.iinc (pc := 84) 5 (nI (i + 1)) [(5, .int (nI (i + 1))), (4, .int r), (0, .ref (b 20)), (1, .int (nI p)), (2, .int (nI m)), (3, .int shut), (6, .int r), (7, .int (nI j))] hC dX7_roomsBut_84 rfl (ncast (nadd rfl (nl 1)) (by omega)) (by decide) rfl ?_
              refine V.goto (pc := 87) 13 hC dX7_roomsBut_87 (by decide) ?_
              exact V.sub [2, 3, 4, 5, 1, 0] rfl (ih (i + 1) r (by omega) (run_next hv hw))
            · have nc_34 : ¬ (nN (μ 0 3) ≤ j) := fun z => c_34 ((nle hI.mn rfl (by omega) (by omega)).mpr z)
              exfalso; omega
          | succ n ih =>
            intro j r hj hw
            refine V.iload (pc := 26) 7 hC dX7_roomsBut_26 rfl ?_
            refine V.aload_n (pc := 28) 0 hC dX7_roomsBut_28 rfl ?_
            refine V.get (pc := 29) (v := .ref (b 0)) hC cf_X7 0 0 fl_X7_9 (by decide) gm_0 rfl dX7_roomsBut_29 ?_
            refine V.iconst (pc := 32) 3 hC dX7_roomsBut_32 (by decide) ?_
            refine V.iald (pc := 33) (f := μ 0) hC 1 3 gm_1 (nl 3) (by omega) (by decide) dX7_roomsBut_33 ?_
            refine V.icmp_ge (pc := 34) 80 hC dX7_roomsBut_34 (by decide) (fun c_34 => ?_) (fun c_34 => ?_)
            · have nc_34 : nN (μ 0 3) ≤ j := (nle hI.mn rfl (by omega) (by omega)).mp c_34
              exfalso; omega
            · have nc_34 : ¬ (nN (μ 0 3) ≤ j) := fun z => c_34 ((nle hI.mn rfl (by omega) (by omega)).mpr z)
              refine V.iload (pc := 37) 6 hC dX7_roomsBut_37 rfl ?_
              refine V.iload (pc := 39) 4 hC dX7_roomsBut_39 rfl ?_
              refine V.iload (pc := 41) 7 hC dX7_roomsBut_41 rfl ?_
              refine V.ishr (pc := 43) hC dX7_roomsBut_43 ?_
              refine V.iconst (pc := 44) 1 hC dX7_roomsBut_44 (by decide) ?_
              refine V.iand (pc := 45) hC dX7_roomsBut_45 ?_
              refine V.iconst (pc := 46) 1 hC dX7_roomsBut_46 (by decide) ?_
              refine V.icmp_ne (pc := 47) 70 hC dX7_roomsBut_47 (by decide) (fun c_47 => ?_) (fun c_47 => ?_)
              · refine V.iconst (pc := 70) 0 hC dX7_roomsBut_70 (by decide) ?_
                refine V.ior (pc := 71) hC dX7_roomsBut_71 ?_
                refine V.istore (pc := 72) [(6, .int (r ||| 0)), (0, .ref (b 20)), (1, .int (nI p)), (2, .int (nI m)), (3, .int shut), (4, .int s), (5, .int (nI i)), (7, .int (nI j))] hC dX7_roomsBut_72 (by decide) rfl ?_
                refine V.iinc (pc := 74) 7 (nI (j + 1)) [(7, .int (nI (j + 1))), (6, .int (r ||| 0)), (0, .ref (b 20)), (1, .int (nI p)), (2, .int (nI m)), (3, .int shut), (4, .int s), (5, .int (nI i))] hC dX7_roomsBut_74 rfl (ncast (nadd rfl (nl 1)) (by omega)) (by decide) rfl ?_
                refine V.goto (pc := 77) 26 hC dX7_roomsBut_77 (by decide) ?_
                exact V.sub [2, 3, 4, 5, 6, 7, 1, 0] rfl (ih (j + 1) (r ||| 0) (by omega) (run_next hw (by show r ||| _ = _; rw [if_neg (show ¬ bitS s (nI j) = 1 from c_47)] <;> rfl)))
              · refine V.aload_n (pc := 50) 0 hC dX7_roomsBut_50 rfl ?_
                refine V.get (pc := 51) (v := .ref (b 7)) hC cf_X7 0 7 fl_X7_28 (by decide) gm_0 rfl dX7_roomsBut_51 ?_
                refine V.bipush (pc := 54) 8 hC dX7_roomsBut_54 (by decide) ?_
                refine V.iload (pc := 56) 5 hC dX7_roomsBut_56 rfl ?_
                refine V.imul (pc := 58) hC dX7_roomsBut_58 ?_
                refine V.iload (pc := 59) 7 hC dX7_roomsBut_59 rfl ?_
                refine V.iadd (pc := 61) hC dX7_roomsBut_61 ?_
                refine V.iald (pc := 62) (f := ν 7) hC 7 (8 * i + j) gm_7 (ncast (b := 8 * i + j) (nadd (nmul (nl 8) rfl) rfl) (by omega)) (by omega) (by decide) dX7_roomsBut_62 ?_
                refine V.iload_n (pc := 63) 3 hC dX7_roomsBut_63 rfl ?_
                refine V.iconst (pc := 64) (-1) hC dX7_roomsBut_64 (by decide) ?_
                refine V.ixor (pc := 65) hC dX7_roomsBut_65 ?_
                refine V.iand (pc := 66) hC dX7_roomsBut_66 ?_
                refine V.goto (pc := 67) 71 hC dX7_roomsBut_67 (by decide) ?_
                refine V.ior (pc := 71) hC dX7_roomsBut_71 ?_
                refine V.istore (pc := 72) [(6, .int (r ||| ((ν 7 (8 * i + j)) &&& (shut ^^^ (-1))))), (0, .ref (b 20)), (1, .int (nI p)), (2, .int (nI m)), (3, .int shut), (4, .int s), (5, .int (nI i)), (7, .int (nI j))] hC dX7_roomsBut_72 (by decide) rfl ?_
                refine V.iinc (pc := 74) 7 (nI (j + 1)) [(7, .int (nI (j + 1))), (6, .int (r ||| ((ν 7 (8 * i + j)) &&& (shut ^^^ (-1))))), (0, .ref (b 20)), (1, .int (nI p)), (2, .int (nI m)), (3, .int shut), (4, .int s), (5, .int (nI i))] hC dX7_roomsBut_74 rfl (ncast (nadd rfl (nl 1)) (by omega)) (by decide) rfl ?_
                refine V.goto (pc := 77) 26 hC dX7_roomsBut_77 (by decide) ?_
                exact V.sub [2, 3, 4, 5, 6, 7, 1, 0] rfl (ih (j + 1) (r ||| ((ν 7 (8 * i + j)) &&& (shut ^^^ (-1)))) (by omega) (run_next hw (by show r ||| _ = _; rw [if_pos (show bitS s (nI j) = 1 from c_47)] <;> rfl)))
        exact V.sub [2, 3, 4, 5, 6, 7, 1, 0] rfl (loop_26 (nN (μ 0 3)) 0 s (by omega) rfl)
  exact V.sub [2, 3, 4, 5, 1, 0] rfl (loop_13 m 0 _ (by omega) rfl)
set_option maxHeartbeats 4000000 in
set_option maxRecDepth 100000 in
theorem c_X7_hand {l : Launch} {D : va_G} {k : Nat → ClassId} {g b : Nat → Nat} (μ ν : St) (t o : Int32) (hI : Inv (μ 0)) : Ct l D k g yX7_hand cX7_hand 4 (some .int) 1 22 [.ref (b 20), .int t, .int o] (S := St) (wM k b μ ν) (fun u => wM k b u ν) (fun vv u => vv = some (.int ((op_hand t o μ).1)) ∧ u = (op_hand t o μ).2) := by
  refine Ct.ofI RX7 rfl (by decide +kernel) (Nat.le_of_ble_eq_true rfl) (fun X hC hR => ?_)
  have hb4 := hI.hb; have hb8 := hI.mb; have hb6 := hI.pb; have hbm := hI.ob0; have hbt := hI.bb; have hbw := hI.wb
  show V X (wM k b μ ν) [(0, .ref (b 20)), (1, .int t), (2, .int o)] [] 0
  refine V.iload_n (pc := 0) 1 hC dX7_hand_0 rfl ?_
  refine V.iconst (pc := 1) 1 hC dX7_hand_1 (by decide) ?_
  refine V.sipush (pc := 2) 1440 hC dX7_hand_2 (by decide) ?_
  refine V.callS0 (pc := 5) (as := [.int t, .int 1, .int 1440]) hC (c_X7_in t 1 1440 ) ms_X7_in ml_X7_47 (by decide) rfl (Nat.le_of_ble_eq_true rfl) dX7_hand_5 ?_
  rintro _ _ rfl
  show V X (wM k b μ ν) [(0, .ref (b 20)), (1, .int t), (2, .int o)] [.int (bI (inS t 1 1440))] 8
  refine V.if_eq_b (P := inS t 1 1440) (pc := 8) 22 hC dX7_hand_8 (by decide) (fun c_8 => ?_) (fun c_8 => ?_)
  · refine V.aload_n (pc := 22) 0 hC dX7_hand_22 rfl ?_
    refine V.ldc (pc := 23) (v := (-1000000001)) hC cn_X7_55 dX7_hand_23 ?_
    refine V.callV0 (pc := 25) (as := [.int (-1000000001)]) hC (c_X7_error μ ν 1 (-1000000001) (by omega) (by decide)) mu_X7_error ml_X7_56 (by decide) ⟨0, 7, TX7, 20, _, rfl, gm_0⟩ rfl (Nat.le_of_ble_eq_true rfl) dX7_hand_25 ?_
    rintro _ _ rfl
    show V X (wM k b (va_up μ 3 (upd (μ 3) 1 (μ 3 1 + 1))) ν) [(0, .ref (b 20)), (1, .int t), (2, .int o)] [.int (-1000000001)] 28
    exact hR (-1000000001) ((va_up μ 3 (upd (μ 3) 1 (μ 3 1 + 1)))) _ _ dX7_hand_28 rfl (opr (by simp only [op_hand, c_8, inS, hndS, homS, prsS, shtS, if_true, if_false, not_true_eq_false, not_false_eq_true, true_and, and_true, false_and, and_false, true_or, or_true, or_false, false_or, er_1, er_2, er_3, er_4, er_5, er_6] <;> rfl))
  · refine V.iload_n (pc := 11) 2 hC dX7_hand_11 rfl ?_
    refine V.iconst (pc := 12) 0 hC dX7_hand_12 (by decide) ?_
    refine V.sipush (pc := 13) 1439 hC dX7_hand_13 (by decide) ?_
    refine V.callS0 (pc := 16) (as := [.int o, .int 0, .int 1439]) hC (c_X7_in o 0 1439 ) ms_X7_in ml_X7_47 (by decide) rfl (Nat.le_of_ble_eq_true rfl) dX7_hand_16 ?_
    rintro _ _ rfl
    show V X (wM k b μ ν) [(0, .ref (b 20)), (1, .int t), (2, .int o)] [.int (bI (inS o 0 1439))] 19
    refine V.if_ne_b (P := inS o 0 1439) (pc := 19) 29 hC dX7_hand_19 (by decide) (fun c_19 => ?_) (fun c_19 => ?_)
    · refine V.aload_n (pc := 29) 0 hC dX7_hand_29 rfl ?_
      refine V.get (pc := 30) (v := .ref (b 0)) hC cf_X7 0 0 fl_X7_9 (by decide) gm_0 rfl dX7_hand_30 ?_
      refine V.iconst (pc := 33) 2 hC dX7_hand_33 (by decide) ?_
      refine V.iald (pc := 34) (f := μ 0) hC 1 2 gm_1 (nl 2) (by omega) (by decide) dX7_hand_34 ?_
      refine V.istore_n (pc := 35) [(3, .int (μ 0 2)), (0, .ref (b 20)), (1, .int t), (2, .int o)] hC dX7_hand_35 (by decide) rfl ?_
      refine V.iload_n (pc := 36) 0 hC dX7_hand_36 rfl ?_
      refine V.iconst (pc := 37) 4 hC dX7_hand_37 (by decide) ?_
      refine V.icmp_ne (pc := 38) 48 hC dX7_hand_38 (by decide) (fun c_38 => ?_) (fun c_38 => ?_)
      · have nc_38 : ¬ (nN (μ 0 2) = 4) := fun z => c_38 ((neq hI.hn (nl 4) (by omega) (by omega)).mpr z)
        refine V.aload_n (pc := 48) 1 hC dX7_hand_48 rfl ?_
        refine V.get (pc := 49) (v := .ref (b 0)) hC cf_X7 0 0 fl_X7_9 (by decide) gm_0 rfl dX7_hand_49 ?_
        refine V.iconst (pc := 52) 2 hC dX7_hand_52 (by decide) ?_
        refine V.dup2 (pc := 53) hC dX7_hand_53 rfl rfl ?_
        refine V.iald (pc := 54) (f := μ 0) hC 1 2 gm_1 (nl 2) (by omega) (by decide) dX7_hand_54 ?_
        refine V.iconst (pc := 55) 1 hC dX7_hand_55 (by decide) ?_
        refine V.iadd (pc := 56) hC dX7_hand_56 ?_
        refine V.iast (pc := 57) (f := μ 0) hC 1 2 (wM k b (va_up μ 0 (upd (μ 0) 2 ((μ 0 2) + 1))) ν) gm_1 (nl 2) (by omega) (by decide) rfl dX7_hand_57 ?_
        refine V.aload_n (pc := 58) 1 hC dX7_hand_58 rfl ?_
        refine V.get (pc := 59) (v := .ref (b 0)) hC cf_X7 0 0 fl_X7_9 (by decide) gm_0 rfl dX7_hand_59 ?_
        refine V.bipush (pc := 62) 7 hC dX7_hand_62 (by decide) ?_
        refine V.iconst (pc := 64) 2 hC dX7_hand_64 (by decide) ?_
        refine V.iload_n (pc := 65) 0 hC dX7_hand_65 rfl ?_
        refine V.imul (pc := 66) hC dX7_hand_66 ?_
        refine V.iadd (pc := 67) hC dX7_hand_67 ?_
        refine V.iload_n (pc := 68) 2 hC dX7_hand_68 rfl ?_
        refine V.iast (pc := 69) (f := upd (μ 0) 2 ((μ 0 2) + 1)) hC 1 (7 + 2 * (nN (μ 0 2))) (wM k b (va_up μ 0 (upd (upd (μ 0) 2 ((μ 0 2) + 1)) (7 + 2 * (nN (μ 0 2))) t)) ν) gm_1 (ncast (b := 7 + 2 * (nN (μ 0 2))) (nadd (nl 7) (nmul (nl 2) hI.hn)) (by omega)) (by omega) (by decide) rfl dX7_hand_69 ?_
        refine V.aload_n (pc := 70) 1 hC dX7_hand_70 rfl ?_
        refine V.get (pc := 71) (v := .ref (b 0)) hC cf_X7 0 0 fl_X7_9 (by decide) gm_0 rfl dX7_hand_71 ?_
        refine V.bipush (pc := 74) 7 hC dX7_hand_74 (by decide) ?_
        refine V.iconst (pc := 76) 2 hC dX7_hand_76 (by decide) ?_
        refine V.iload_n (pc := 77) 0 hC dX7_hand_77 rfl ?_
        refine V.imul (pc := 78) hC dX7_hand_78 ?_
        refine V.iadd (pc := 79) hC dX7_hand_79 ?_
        refine V.iconst (pc := 80) 1 hC dX7_hand_80 (by decide) ?_
        refine V.iadd (pc := 81) hC dX7_hand_81 ?_
        refine V.iload_n (pc := 82) 3 hC dX7_hand_82 rfl ?_
        refine V.iast (pc := 83) (f := upd (upd (μ 0) 2 ((μ 0 2) + 1)) (7 + 2 * (nN (μ 0 2))) t) hC 1 (8 + 2 * (nN (μ 0 2))) (wM k b (va_up μ 0 (upd (upd (upd (μ 0) 2 ((μ 0 2) + 1)) (7 + 2 * (nN (μ 0 2))) t) (8 + 2 * (nN (μ 0 2))) o)) ν) gm_1 (ncast (b := 8 + 2 * (nN (μ 0 2))) (nadd (nadd (nl 7) (nmul (nl 2) hI.hn)) (nl 1)) (by omega)) (by omega) (by decide) rfl dX7_hand_83 ?_
        refine V.iload_n (pc := 84) 0 hC dX7_hand_84 rfl ?_
        exact hR (μ 0 2) ((va_up μ 0 (upd (upd (upd (μ 0) 2 ((μ 0 2) + 1)) (7 + 2 * (nN (μ 0 2))) t) (8 + 2 * (nN (μ 0 2))) o))) _ _ dX7_hand_85 rfl (opr (by simp only [op_hand, c_8, c_19, c_38, inS, hndS, homS, prsS, shtS, if_true, if_false, not_true_eq_false, not_false_eq_true, true_and, and_true, false_and, and_false, true_or, or_true, or_false, false_or, er_1, er_2, er_3, er_4, er_5, er_6] <;> rfl))
      · have nc_38 : nN (μ 0 2) = 4 := (neq hI.hn (nl 4) (by omega) (by omega)).mp c_38
        refine V.aload_n (pc := 41) 1 hC dX7_hand_41 rfl ?_
        refine V.ldc (pc := 42) (v := (-1000000004)) hC cn_X7_60 dX7_hand_42 ?_
        refine V.callV0 (pc := 44) (as := [.int (-1000000004)]) hC (c_X7_error μ ν 4 (-1000000004) (by omega) (by decide)) mu_X7_error ml_X7_56 (by decide) ⟨0, 7, TX7, 20, _, rfl, gm_0⟩ rfl (Nat.le_of_ble_eq_true rfl) dX7_hand_44 ?_
        rintro _ _ rfl
        show V X (wM k b (va_up μ 3 (upd (μ 3) 4 (μ 3 4 + 1))) ν) [(3, .int (μ 0 2)), (0, .ref (b 20)), (1, .int t), (2, .int o)] [.int (-1000000004)] 47
        exact hR (-1000000004) ((va_up μ 3 (upd (μ 3) 4 (μ 3 4 + 1)))) _ _ dX7_hand_47 rfl (opr (by simp only [op_hand, c_8, c_19, c_38, inS, hndS, homS, prsS, shtS, if_true, if_false, not_true_eq_false, not_false_eq_true, true_and, and_true, false_and, and_false, true_or, or_true, or_false, false_or, er_1, er_2, er_3, er_4, er_5, er_6] <;> rfl))
    · refine V.aload_n (pc := 22) 0 hC dX7_hand_22 rfl ?_
      refine V.ldc (pc := 23) (v := (-1000000001)) hC cn_X7_55 dX7_hand_23 ?_
      refine V.callV0 (pc := 25) (as := [.int (-1000000001)]) hC (c_X7_error μ ν 1 (-1000000001) (by omega) (by decide)) mu_X7_error ml_X7_56 (by decide) ⟨0, 7, TX7, 20, _, rfl, gm_0⟩ rfl (Nat.le_of_ble_eq_true rfl) dX7_hand_25 ?_
      rintro _ _ rfl
      show V X (wM k b (va_up μ 3 (upd (μ 3) 1 (μ 3 1 + 1))) ν) [(0, .ref (b 20)), (1, .int t), (2, .int o)] [.int (-1000000001)] 28
      exact hR (-1000000001) ((va_up μ 3 (upd (μ 3) 1 (μ 3 1 + 1)))) _ _ dX7_hand_28 rfl (opr (by simp only [op_hand, c_8, c_19, inS, hndS, homS, prsS, shtS, if_true, if_false, not_true_eq_false, not_false_eq_true, true_and, and_true, false_and, and_false, true_or, or_true, or_false, false_or, er_1, er_2, er_3, er_4, er_5, er_6] <;> rfl))
set_option maxHeartbeats 4000000 in
set_option maxRecDepth 100000 in
theorem c_X7_handIs {l : Launch} {D : va_G} {k : Nat → ClassId} {g b : Nat → Nat} (μ ν : St) (h w : Int32) (hI : Inv (μ 0)) : Ct l D k g yX7_handIs cX7_handIs 3 (some .int) 2 43 [.ref (b 20), .int h, .int w] (S := St) (wM k b μ ν) (fun u => wM k b u ν) (fun vv u => vv = some (.int ((op_handIs h w μ).1)) ∧ u = (op_handIs h w μ).2) := by
  refine Ct.ofI RX7 rfl (by decide +kernel) (Nat.le_of_ble_eq_true rfl) (fun X hC hR => ?_)
  have hb4 := hI.hb; have hb8 := hI.mb; have hb6 := hI.pb; have hbm := hI.ob0; have hbt := hI.bb; have hbw := hI.wb
  show V X (wM k b μ ν) [(0, .ref (b 20)), (1, .int h), (2, .int w)] [] 0
  refine V.aload_n (pc := 0) 0 hC dX7_handIs_0 rfl ?_
  refine V.iload_n (pc := 1) 1 hC dX7_handIs_1 rfl ?_
  refine V.callV0 (pc := 2) (as := [.int h]) hC (c_X7_isHand μ ν h ) mu_X7_isHand ml_X7_61 (by decide) ⟨0, 7, TX7, 20, _, rfl, gm_0⟩ rfl (Nat.le_of_ble_eq_true rfl) dX7_handIs_2 ?_
  rintro _ _ rfl
  show V X (wM k b μ ν) [(0, .ref (b 20)), (1, .int h), (2, .int w)] [.int (bI (inS h 0 (μ 0 2 - 1)))] 5
  refine V.if_eq_b (P := inS h 0 (μ 0 2 - 1)) (pc := 5) 17 hC dX7_handIs_5 (by decide) (fun c_5 => ?_) (fun c_5 => ?_)
  · refine V.aload_n (pc := 17) 0 hC dX7_handIs_17 rfl ?_
    refine V.ldc (pc := 18) (v := (-1000000001)) hC cn_X7_55 dX7_handIs_18 ?_
    refine V.callV0 (pc := 20) (as := [.int (-1000000001)]) hC (c_X7_error μ ν 1 (-1000000001) (by omega) (by decide)) mu_X7_error ml_X7_56 (by decide) ⟨0, 7, TX7, 20, _, rfl, gm_0⟩ rfl (Nat.le_of_ble_eq_true rfl) dX7_handIs_20 ?_
    rintro _ _ rfl
    show V X (wM k b (va_up μ 3 (upd (μ 3) 1 (μ 3 1 + 1))) ν) [(0, .ref (b 20)), (1, .int h), (2, .int w)] [.int (-1000000001)] 23
    exact hR (-1000000001) ((va_up μ 3 (upd (μ 3) 1 (μ 3 1 + 1)))) _ _ dX7_handIs_23 rfl (opr (by simp only [op_handIs, c_5, inS, hndS, homS, prsS, shtS, if_true, if_false, not_true_eq_false, not_false_eq_true, true_and, and_true, false_and, and_false, true_or, or_true, or_false, false_or, er_1, er_2, er_3, er_4, er_5, er_6] <;> rfl))
  · have hh_h := inS_n c_5 hI.hn (by omega)
    refine V.iload_n (pc := 8) 2 hC dX7_handIs_8 rfl ?_
    refine V.iconst (pc := 9) 0 hC dX7_handIs_9 (by decide) ?_
    refine V.iconst (pc := 10) 3 hC dX7_handIs_10 (by decide) ?_
    refine V.callS0 (pc := 11) (as := [.int w, .int 0, .int 3]) hC (c_X7_in w 0 3 ) ms_X7_in ml_X7_47 (by decide) rfl (Nat.le_of_ble_eq_true rfl) dX7_handIs_11 ?_
    rintro _ _ rfl
    show V X (wM k b μ ν) [(0, .ref (b 20)), (1, .int h), (2, .int w)] [.int (bI (inS w 0 3))] 14
    refine V.if_ne_b (P := inS w 0 3) (pc := 14) 24 hC dX7_handIs_14 (by decide) (fun c_14 => ?_) (fun c_14 => ?_)
    · have hh_w := inS_c c_14 (nl 3) (by omega)
      refine V.iload_n (pc := 24) 2 hC dX7_handIs_24 rfl ?_
      refine V.iconst (pc := 25) 2 hC dX7_handIs_25 (by decide) ?_
      refine V.icmp_ge (pc := 26) 45 hC dX7_handIs_26 (by decide) (fun c_26 => ?_) (fun c_26 => ?_)
      · have nc_26 : 2 ≤ nN w := (nle (nl 2) hh_w.1 (by omega) (by omega)).mp c_26
        refine V.iload_n (pc := 45) 2 hC dX7_handIs_45 rfl ?_
        refine V.iconst (pc := 46) 2 hC dX7_handIs_46 (by decide) ?_
        refine V.icmp_ne (pc := 47) 64 hC dX7_handIs_47 (by decide) (fun c_47 => ?_) (fun c_47 => ?_)
        · have nc_47 : ¬ (nN w = 2) := fun z => c_47 ((neq hh_w.1 (nl 2) (by omega) (by omega)).mpr z)
          refine V.aload_n (pc := 64) 0 hC dX7_handIs_64 rfl ?_
          refine V.iload_n (pc := 65) 1 hC dX7_handIs_65 rfl ?_
          refine V.callV0 (pc := 66) (as := [.int h]) hC (c_X7_homesOn μ ν h hI) mu_X7_homesOn ml_X7_65 (by decide) ⟨0, 7, TX7, 20, _, rfl, gm_0⟩ rfl (Nat.le_of_ble_eq_true rfl) dX7_handIs_66 ?_
          rintro _ _ rfl
          show V X (wM k b μ ν) [(0, .ref (b 20)), (1, .int h), (2, .int w)] [.int (homesOnS (μ 0) h)] 69
          exact hR (homesOnS (μ 0) h) (μ) _ _ dX7_handIs_69 rfl (opr (by simp only [op_handIs, c_5, c_14, inS, hndS, homS, prsS, shtS, if_true, if_false, not_true_eq_false, not_false_eq_true, true_and, and_true, false_and, and_false, true_or, or_true, or_false, false_or]; rw [if_neg (show ¬ w = 0 from fun e => by rw [e] at c_26; exact absurd c_26 (by decide)), if_neg (show ¬ w = 1 from fun e => by rw [e] at c_26; exact absurd c_26 (by decide)), if_neg c_47]))
        · have nc_47 : nN w = 2 := (neq hh_w.1 (nl 2) (by omega) (by omega)).mp c_47
          refine V.aload_n (pc := 50) 0 hC dX7_handIs_50 rfl ?_
          refine V.iload_n (pc := 51) 1 hC dX7_handIs_51 rfl ?_
          refine V.aload_n (pc := 52) 0 hC dX7_handIs_52 rfl ?_
          refine V.get (pc := 53) (v := .ref (b 0)) hC cf_X7 0 0 fl_X7_9 (by decide) gm_0 rfl dX7_handIs_53 ?_
          refine V.iconst (pc := 56) 0 hC dX7_handIs_56 (by decide) ?_
          refine V.iald (pc := 57) (f := μ 0) hC 1 0 gm_1 (nl 0) (by omega) (by decide) dX7_handIs_57 ?_
          refine V.sts (st' := [.int (μ 0 0), .int (nI (nN h)), .ref (b 20)]) (stk (stc hh_h.1 (stk rfl))) ?_
          refine V.callV0 (pc := 58) (as := [.int (nI (nN h)), .int (μ 0 0)]) hC (c_X7_markOf μ ν (nN h) (μ 0 0) hI hh_h.2) mu_X7_markOf ml_X7_51 (by decide) ⟨0, 7, TX7, 20, _, rfl, gm_0⟩ rfl (Nat.le_of_ble_eq_true rfl) dX7_handIs_58 ?_
          rintro _ _ rfl
          show V X (wM k b μ ν) [(0, .ref (b 20)), (1, .int h), (2, .int w)] [.int (markS (μ 0) (nN h) (μ 0 0))] 61
          refine V.goto (pc := 61) 69 hC dX7_handIs_61 (by decide) ?_
          exact hR (markS (μ 0) (nN h) (μ 0 0)) (μ) _ _ dX7_handIs_69 rfl (opr (by simp only [op_handIs, c_5, c_14, inS, hndS, homS, prsS, shtS, if_true, if_false, not_true_eq_false, not_false_eq_true, true_and, and_true, false_and, and_false, true_or, or_true, or_false, false_or]; rw [if_neg (show ¬ w = 0 from fun e => by rw [e] at c_26; exact absurd c_26 (by decide)), if_neg (show ¬ w = 1 from fun e => by rw [e] at c_26; exact absurd c_26 (by decide)), if_pos c_47]))
      · have nc_26 : ¬ (2 ≤ nN w) := fun z => c_26 ((nle (nl 2) hh_w.1 (by omega) (by omega)).mpr z)
        refine V.aload_n (pc := 29) 0 hC dX7_handIs_29 rfl ?_
        refine V.get (pc := 30) (v := .ref (b 0)) hC cf_X7 0 0 fl_X7_9 (by decide) gm_0 rfl dX7_handIs_30 ?_
        refine V.bipush (pc := 33) 7 hC dX7_handIs_33 (by decide) ?_
        refine V.iconst (pc := 35) 2 hC dX7_handIs_35 (by decide) ?_
        refine V.iload_n (pc := 36) 1 hC dX7_handIs_36 rfl ?_
        refine V.imul (pc := 37) hC dX7_handIs_37 ?_
        refine V.iadd (pc := 38) hC dX7_handIs_38 ?_
        refine V.iload_n (pc := 39) 2 hC dX7_handIs_39 rfl ?_
        refine V.iadd (pc := 40) hC dX7_handIs_40 ?_
        refine V.iald (pc := 41) (f := μ 0) hC 1 (7 + 2 * (nN h) + nN w) gm_1 (ncast (b := 7 + 2 * (nN h) + nN w) (nadd (nadd (nl 7) (nmul (nl 2) hh_h.1)) hh_w.1) (by omega)) (by omega) (by decide) dX7_handIs_41 ?_
        refine V.goto (pc := 42) 69 hC dX7_handIs_42 (by decide) ?_
        exact hR (μ 0 (7 + 2 * (nN h) + nN w)) (μ) _ _ dX7_handIs_69 rfl (opr (by
        simp only [op_handIs, c_5, c_14, inS, hndS, homS, prsS, shtS, if_true, if_false, not_true_eq_false, not_false_eq_true, true_and, and_true, false_and, and_false, true_or, or_true, or_false, false_or]
        rcases (show nN w = 0 ∨ nN w = 1 by have := nc_26; omega) with e | e
        · rw [if_pos (show w = 0 by rw [hh_w.1, e]; rfl), e, Nat.add_zero]
        · rw [if_neg (show ¬ w = 0 by rw [hh_w.1, e]; decide), if_pos (show w = 1 by rw [hh_w.1, e]; rfl), e, show 7 + 2 * nN h + 1 = 8 + 2 * nN h by omega]))
    · refine V.aload_n (pc := 17) 0 hC dX7_handIs_17 rfl ?_
      refine V.ldc (pc := 18) (v := (-1000000001)) hC cn_X7_55 dX7_handIs_18 ?_
      refine V.callV0 (pc := 20) (as := [.int (-1000000001)]) hC (c_X7_error μ ν 1 (-1000000001) (by omega) (by decide)) mu_X7_error ml_X7_56 (by decide) ⟨0, 7, TX7, 20, _, rfl, gm_0⟩ rfl (Nat.le_of_ble_eq_true rfl) dX7_handIs_20 ?_
      rintro _ _ rfl
      show V X (wM k b (va_up μ 3 (upd (μ 3) 1 (μ 3 1 + 1))) ν) [(0, .ref (b 20)), (1, .int h), (2, .int w)] [.int (-1000000001)] 23
      exact hR (-1000000001) ((va_up μ 3 (upd (μ 3) 1 (μ 3 1 + 1)))) _ _ dX7_handIs_23 rfl (opr (by simp only [op_handIs, c_5, c_14, inS, hndS, homS, prsS, shtS, if_true, if_false, not_true_eq_false, not_false_eq_true, true_and, and_true, false_and, and_false, true_or, or_true, or_false, false_or, er_1, er_2, er_3, er_4, er_5, er_6] <;> rfl))
