set_option maxHeartbeats 4000000 in
set_option maxRecDepth 100000 in
theorem c_X7_in {l : Launch} {D : va_G} {k : Nat → ClassId} {g a b : Nat → Nat} (v p q : Int32)  : Ct l D k g yX7_in cX7_in 3 (some .boolean) 0 0 [.int v, .int p, .int q] (S := Unit) ([]) (fun _ => []) (fun vv _ => vv = some (.int (bI (inS v p q)))) := by
  refine Ct.ofI RX7 rfl (by decide +kernel) (Nat.le_of_ble_eq_true rfl) (fun X hC hR => ?_)
  show V X ([]) [(0, .int v), (1, .int p), (2, .int q)] [] 0
  refine V.iload_n (pc := 0) 0 hC dX7_in_0 rfl ?_
  refine V.iload_n (pc := 1) 1 hC dX7_in_1 rfl ?_
  refine V.icmp_lt (pc := 2) 14 hC dX7_in_2 (by decide) (fun c_2 => ?_) (fun c_2 => ?_)
  · refine V.iconst (pc := 14) 0 hC dX7_in_14 (by decide) ?_
    exact hR 0 () _ _ dX7_in_15 (by first | rfl | exact bI_n _) (rb0 (fun h => i_ge h.1 c_2))
  · refine V.iload_n (pc := 5) 0 hC dX7_in_5 rfl ?_
    refine V.iload_n (pc := 6) 2 hC dX7_in_6 rfl ?_
    refine V.icmp_gt (pc := 7) 14 hC dX7_in_7 (by decide) (fun c_7 => ?_) (fun c_7 => ?_)
    · refine V.iconst (pc := 14) 0 hC dX7_in_14 (by decide) ?_
      exact hR 0 () _ _ dX7_in_15 (by first | rfl | exact bI_n _) (rb0 (fun h => i_ge h.2 c_7))
    · refine V.iconst (pc := 10) 1 hC dX7_in_10 (by decide) ?_
      refine V.goto (pc := 11) 15 hC dX7_in_11 (by decide) ?_
      exact hR 1 () _ _ dX7_in_15 (by first | rfl | exact bI_n _) (rb1 ⟨i_nlt c_2, i_nlt c_7⟩)
set_option maxHeartbeats 4000000 in
set_option maxRecDepth 100000 in
theorem c_X7_held {l : Launch} {D : va_G} {k : Nat → ClassId} {g a b : Nat → Nat} (v p q : Int32)  : Ct l D k g yX7_held cX7_held 3 (some .int) 0 0 [.int v, .int p, .int q] (S := Unit) ([]) (fun _ => []) (fun vv _ => vv = some (.int (heldS v p q))) := by
  refine Ct.ofI RX7 rfl (by decide +kernel) (Nat.le_of_ble_eq_true rfl) (fun X hC hR => ?_)
  show V X ([]) [(0, .int v), (1, .int p), (2, .int q)] [] 0
  refine V.iload_n (pc := 0) 0 hC dX7_held_0 rfl ?_
  refine V.iload_n (pc := 1) 1 hC dX7_held_1 rfl ?_
  refine V.icmp_ge (pc := 2) 9 hC dX7_held_2 (by decide) (fun c_2 => ?_) (fun c_2 => ?_)
  · refine V.iload_n (pc := 9) 0 hC dX7_held_9 rfl ?_
    refine V.iload_n (pc := 10) 2 hC dX7_held_10 rfl ?_
    refine V.icmp_le (pc := 11) 18 hC dX7_held_11 (by decide) (fun c_11 => ?_) (fun c_11 => ?_)
    · refine V.iload_n (pc := 18) 0 hC dX7_held_18 rfl ?_
      exact hR v () _ _ dX7_held_19 rfl (ri (by simp [heldS, c_2, i_ge c_2, c_11, i_ge c_11]))
    · refine V.iload_n (pc := 14) 2 hC dX7_held_14 rfl ?_
      refine V.goto (pc := 15) 19 hC dX7_held_15 (by decide) ?_
      exact hR q () _ _ dX7_held_19 rfl (ri (by simp [heldS, c_2, i_ge c_2, c_11, i_nle c_11]))
  · refine V.iload_n (pc := 5) 1 hC dX7_held_5 rfl ?_
    refine V.goto (pc := 6) 19 hC dX7_held_6 (by decide) ?_
    exact hR p () _ _ dX7_held_19 rfl (ri (by simp [heldS, c_2, i_nle c_2]))
set_option maxHeartbeats 4000000 in
set_option maxRecDepth 100000 in
theorem c_J9_floorMod_7cf53 {l : Launch} {D : va_G} {k : Nat → ClassId} {g a b : Nat → Nat} (x y : Int32) (hy : ¬ y = 0) : Ct l D k g yJ9_floorMod_7cf53 cJ9_floorMod_7cf53 3 (some .int) 0 0 [.int x, .int y] (S := Unit) ([]) (fun _ => []) (fun vv _ => vv = some (.int (fmodS x y))) := by
  refine Ct.ofI RJ9 rfl (by decide +kernel) (Nat.le_of_ble_eq_true rfl) (fun X hC hR => ?_)
  show V X ([]) [(0, .int x), (1, .int y)] [] 0
  refine V.iload_n (pc := 0) 0 hC dJ9_floorMod_7cf53_0 rfl ?_
  refine V.iload_n (pc := 1) 1 hC dJ9_floorMod_7cf53_1 rfl ?_
  refine V.irem (pc := 2) hC dJ9_floorMod_7cf53_2 hy ?_
  refine V.istore_n (pc := 3) [(2, .int (x - x / y * y)), (0, .int x), (1, .int y)] hC dJ9_floorMod_7cf53_3 (by decide) rfl ?_
  refine V.iload_n (pc := 4) 1 hC dJ9_floorMod_7cf53_4 rfl ?_
  refine V.iload_n (pc := 5) 2 hC dJ9_floorMod_7cf53_5 rfl ?_
  refine V.ixor (pc := 6) hC dJ9_floorMod_7cf53_6 ?_
  refine V.if_ge (pc := 7) 18 hC dJ9_floorMod_7cf53_7 (by decide) (fun c_7 => ?_) (fun c_7 => ?_)
  · refine V.iload_n (pc := 18) 0 hC dJ9_floorMod_7cf53_18 rfl ?_
    exact hR (x - x / y * y) () _ _ dJ9_floorMod_7cf53_19 rfl (ri (by simp [fmodS, irm, c_7, i_ge c_7]))
  · refine V.iload_n (pc := 10) 0 hC dJ9_floorMod_7cf53_10 rfl ?_
    refine V.if_eq (pc := 11) 18 hC dJ9_floorMod_7cf53_11 (by decide) (fun c_11 => ?_) (fun c_11 => ?_)
    · refine V.iload_n (pc := 18) 0 hC dJ9_floorMod_7cf53_18 rfl ?_
      exact hR (x - x / y * y) () _ _ dJ9_floorMod_7cf53_19 rfl (ri (by simp [fmodS, irm, c_7, i_nle c_7, c_11]))
    · refine V.iload_n (pc := 14) 0 hC dJ9_floorMod_7cf53_14 rfl ?_
      refine V.iload_n (pc := 15) 2 hC dJ9_floorMod_7cf53_15 rfl ?_
      refine V.iadd (pc := 16) hC dJ9_floorMod_7cf53_16 ?_
      exact hR ((x - x / y * y) + y) () _ _ dJ9_floorMod_7cf53_17 rfl (ri (by simp [fmodS, irm, c_7, i_nle c_7, c_11]))
set_option maxHeartbeats 4000000 in
set_option maxRecDepth 100000 in
theorem c_X6_within {l : Launch} {D : va_G} {k : Nat → ClassId} {g a b : Nat → Nat} (v p q : Int32)  : Ct l D k g yX6_within cX6_within 3 (some .boolean) 0 0 [.int v, .int p, .int q] (S := Unit) ([]) (fun _ => []) (fun vv _ => vv = some (.int (bI (inS v p q)))) := by
  refine Ct.ofI RX6 rfl (by decide +kernel) (Nat.le_of_ble_eq_true rfl) (fun X hC hR => ?_)
  show V X ([]) [(0, .int v), (1, .int p), (2, .int q)] [] 0
  refine V.iload_n (pc := 0) 0 hC dX6_within_0 rfl ?_
  refine V.iload_n (pc := 1) 1 hC dX6_within_1 rfl ?_
  refine V.icmp_lt (pc := 2) 14 hC dX6_within_2 (by decide) (fun c_2 => ?_) (fun c_2 => ?_)
  · refine V.iconst (pc := 14) 0 hC dX6_within_14 (by decide) ?_
    exact hR 0 () _ _ dX6_within_15 (by first | rfl | exact bI_n _) (rb0 (fun h => i_ge h.1 c_2))
  · refine V.iload_n (pc := 5) 0 hC dX6_within_5 rfl ?_
    refine V.iload_n (pc := 6) 2 hC dX6_within_6 rfl ?_
    refine V.icmp_gt (pc := 7) 14 hC dX6_within_7 (by decide) (fun c_7 => ?_) (fun c_7 => ?_)
    · refine V.iconst (pc := 14) 0 hC dX6_within_14 (by decide) ?_
      exact hR 0 () _ _ dX6_within_15 (by first | rfl | exact bI_n _) (rb0 (fun h => i_ge h.2 c_7))
    · refine V.iconst (pc := 10) 1 hC dX6_within_10 (by decide) ?_
      refine V.goto (pc := 11) 15 hC dX6_within_11 (by decide) ?_
      exact hR 1 () _ _ dX6_within_15 (by first | rfl | exact bI_n _) (rb1 ⟨i_nlt c_2, i_nlt c_7⟩)
set_option maxHeartbeats 4000000 in
set_option maxRecDepth 100000 in
theorem c_X7_of {l : Launch} {D : va_G} {k : Nat → ClassId} {g a b : Nat → Nat} (μ ν : St) (p w : Nat) (hp : p < 6) (hw : w < 3) : Ct l D k g yX7_of cX7_of 3 (some .int) 0 0 [.ref (b 20), .int (nI p), .int (nI w)] (S := Unit) (wM k b μ ν) (fun _ => wM k b μ ν) (fun vv _ => vv = some (.int (μ 0 (31 + 3 * p + w)))) := by
  refine Ct.ofI RX7 rfl (by decide +kernel) (Nat.le_of_ble_eq_true rfl) (fun X hC hR => ?_)
  show V X (wM k b μ ν) [(0, .ref (b 20)), (1, .int (nI p)), (2, .int (nI w))] [] 0
  refine V.aload_n (pc := 0) 0 hC dX7_of_0 rfl ?_
  refine V.get (pc := 1) (v := .ref (b 0)) hC cf_X7 0 0 fl_X7_9 (by decide) gm_0 rfl dX7_of_1 ?_
  refine V.bipush (pc := 4) 31 hC dX7_of_4 (by decide) ?_
  refine V.iconst (pc := 6) 3 hC dX7_of_6 (by decide) ?_
  refine V.iload_n (pc := 7) 1 hC dX7_of_7 rfl ?_
  refine V.imul (pc := 8) hC dX7_of_8 ?_
  refine V.iadd (pc := 9) hC dX7_of_9 ?_
  refine V.iload_n (pc := 10) 2 hC dX7_of_10 rfl ?_
  refine V.iadd (pc := 11) hC dX7_of_11 ?_
  refine V.iald (pc := 12) (f := μ 0) hC 1 (31 + 3 * p + w) gm_1 (ncast (b := 31 + 3 * p + w) (nadd (nadd (nl 31) (nmul (nl 3) rfl)) rfl) (by omega)) (by omega) (by decide) dX7_of_12 ?_
  exact hR (μ 0 (31 + 3 * p + w)) () _ _ dX7_of_13 rfl rfl
set_option maxHeartbeats 4000000 in
set_option maxRecDepth 100000 in
theorem c_X7_markOf {l : Launch} {D : va_G} {k : Nat → ClassId} {g a b : Nat → Nat} (μ ν : St) (h : Nat) (t : Int32) (hh : h < 4) (ht : ¬ μ 0 (7 + 2 * h) = 0) : Ct l D k g yX7_markOf cX7_markOf 4 (some .int) 0 0 [.ref (b 20), .int (nI h), .int t] (S := Unit) (wM k b μ ν) (fun _ => wM k b μ ν) (fun vv _ => vv = some (.int (markS (μ 0) h t))) := by
  refine Ct.ofI RX7 rfl (by decide +kernel) (Nat.le_of_ble_eq_true rfl) (fun X hC hR => ?_)
  show V X (wM k b μ ν) [(0, .ref (b 20)), (1, .int (nI h)), (2, .int t)] [] 0
  refine V.aload_n (pc := 0) 0 hC dX7_markOf_0 rfl ?_
  refine V.get (pc := 1) (v := .ref (b 0)) hC cf_X7 0 0 fl_X7_9 (by decide) gm_0 rfl dX7_markOf_1 ?_
  refine V.bipush (pc := 4) 7 hC dX7_markOf_4 (by decide) ?_
  refine V.iconst (pc := 6) 2 hC dX7_markOf_6 (by decide) ?_
  refine V.iload_n (pc := 7) 1 hC dX7_markOf_7 rfl ?_
  refine V.imul (pc := 8) hC dX7_markOf_8 ?_
  refine V.iadd (pc := 9) hC dX7_markOf_9 ?_
  refine V.iald (pc := 10) (f := μ 0) hC 1 (7 + 2 * h) gm_1 (ncast (b := 7 + 2 * h) (nadd (nl 7) (nmul (nl 2) rfl)) (by omega)) (by omega) (by decide) dX7_markOf_10 ?_
  refine V.istore_n (pc := 11) [(3, .int (μ 0 (7 + 2 * h))), (0, .ref (b 20)), (1, .int (nI h)), (2, .int t)] hC dX7_markOf_11 (by decide) rfl ?_
  refine V.iload_n (pc := 12) 3 hC dX7_markOf_12 rfl ?_
  refine V.aload_n (pc := 13) 1 hC dX7_markOf_13 rfl ?_
  refine V.get (pc := 14) (v := .ref (b 0)) hC cf_X7 0 0 fl_X7_9 (by decide) gm_0 rfl dX7_markOf_14 ?_
  refine V.bipush (pc := 17) 7 hC dX7_markOf_17 (by decide) ?_
  refine V.iconst (pc := 19) 2 hC dX7_markOf_19 (by decide) ?_
  refine V.iload_n (pc := 20) 2 hC dX7_markOf_20 rfl ?_
  refine V.imul (pc := 21) hC dX7_markOf_21 ?_
  refine V.iadd (pc := 22) hC dX7_markOf_22 ?_
  refine V.iconst (pc := 23) 1 hC dX7_markOf_23 (by decide) ?_
  refine V.iadd (pc := 24) hC dX7_markOf_24 ?_
  refine V.iald (pc := 25) (f := μ 0) hC 1 (8 + 2 * h) gm_1 (ncast (b := 8 + 2 * h) (nadd (nadd (nl 7) (nmul (nl 2) rfl)) (nl 1)) (by omega)) (by omega) (by decide) dX7_markOf_25 ?_
  refine V.iadd (pc := 26) hC dX7_markOf_26 ?_
  refine V.iload_n (pc := 27) 0 hC dX7_markOf_27 rfl ?_
  refine V.irem (pc := 28) hC dX7_markOf_28 ht ?_
  refine V.bipush (pc := 29) 60 hC dX7_markOf_29 (by decide) ?_
  refine V.imul (pc := 31) hC dX7_markOf_31 ?_
  refine V.iload_n (pc := 32) 0 hC dX7_markOf_32 rfl ?_
  refine V.idiv (pc := 33) hC dX7_markOf_33 ht ?_
  exact hR ((((t + (μ 0 (8 + 2 * h))) - (t + (μ 0 (8 + 2 * h))) / (μ 0 (7 + 2 * h)) * (μ 0 (7 + 2 * h))) * 60) / (μ 0 (7 + 2 * h))) () _ _ dX7_markOf_34 rfl rfl
