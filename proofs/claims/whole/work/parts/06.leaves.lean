set_option maxHeartbeats 4000000 in
set_option maxRecDepth 100000 in
theorem c_X7_in {l : Launch} {D : va_G} {k : Nat → ClassId} {g : Nat → Nat} (v p q : Int32)  : Ct l D k g yX7_in cX7_in 3 (some .boolean) 0 0 [.int v, .int p, .int q] (S := Unit) ([]) (fun _ => []) (fun vv _ => vv = some (.int (bI (inS v p q)))) := by
  refine Ct.ofI RX7 rfl (by decide +kernel) (Nat.le_of_ble_eq_true rfl) (fun X hC hR => ?_)
  show V X ([]) [(0, .int v), (1, .int p), (2, .int q)] [] 0
  refine V.iload_n (pc := 0) 0 hC dX7_in_0 rfl ?_
  refine V.iload_n (pc := 1) 1 hC dX7_in_1 rfl ?_
  refine V.icmp_lt (pc := 2) 14 hC dX7_in_2 (by decide) (fun c_2 => ?_) (fun c_2 => ?_)
  · refine V.iconst (pc := 14) 0 hC dX7_in_14 (by decide) ?_
    exact hR 0 () _ _ dX7_in_15 (by first | rfl | exact bI_n _) (rb0 (fun h => i_ge h.1 c_2))
  · refine V.iload_n (pc := 5) 0 hC dX7_in_5 rfl ?_
    refine V.iload_n (pc := 6) 2 hC dX7_in_6 rfl ?_
    refine V.icmp_gt (pc := 7) 14 hC dX7_in_7 (by decide) (fun c_7 => ?_) (fun c_7 => ?_)
    · refine V.iconst (pc := 14) 0 hC dX7_in_14 (by decide) ?_
      exact hR 0 () _ _ dX7_in_15 (by first | rfl | exact bI_n _) (rb0 (fun h => i_ge h.2 c_7))
    · refine V.iconst (pc := 10) 1 hC dX7_in_10 (by decide) ?_
      refine V.goto (pc := 11) 15 hC dX7_in_11 (by decide) ?_
      exact hR 1 () _ _ dX7_in_15 (by first | rfl | exact bI_n _) (rb1 ⟨i_nlt c_2, i_nlt c_7⟩)
set_option maxHeartbeats 4000000 in
set_option maxRecDepth 100000 in
theorem c_X7_held {l : Launch} {D : va_G} {k : Nat → ClassId} {g : Nat → Nat} (v p q : Int32)  : Ct l D k g yX7_held cX7_held 3 (some .int) 0 0 [.int v, .int p, .int q] (S := Unit) ([]) (fun _ => []) (fun vv _ => vv = some (.int (heldS v p q))) := by
  refine Ct.ofI RX7 rfl (by decide +kernel) (Nat.le_of_ble_eq_true rfl) (fun X hC hR => ?_)
  show V X ([]) [(0, .int v), (1, .int p), (2, .int q)] [] 0
  refine V.iload_n (pc := 0) 0 hC dX7_held_0 rfl ?_
  refine V.iload_n (pc := 1) 1 hC dX7_held_1 rfl ?_
  refine V.icmp_ge (pc := 2) 9 hC dX7_held_2 (by decide) (fun c_2 => ?_) (fun c_2 => ?_)
  · refine V.iload_n (pc := 9) 0 hC dX7_held_9 rfl ?_
    refine V.iload_n (pc := 10) 2 hC dX7_held_10 rfl ?_
    refine V.icmp_le (pc := 11) 18 hC dX7_held_11 (by decide) (fun c_11 => ?_) (fun c_11 => ?_)
    · refine V.iload_n (pc := 18) 0 hC dX7_held_18 rfl ?_
      exact hR v () _ _ dX7_held_19 rfl (ri (by simp [heldS, c_2, i_ge c_2, c_11, i_ge c_11]))
    · refine V.iload_n (pc := 14) 2 hC dX7_held_14 rfl ?_
      refine V.goto (pc := 15) 19 hC dX7_held_15 (by decide) ?_
      exact hR q () _ _ dX7_held_19 rfl (ri (by simp [heldS, c_2, i_ge c_2, c_11, i_nle c_11]))
  · refine V.iload_n (pc := 5) 1 hC dX7_held_5 rfl ?_
    refine V.goto (pc := 6) 19 hC dX7_held_6 (by decide) ?_
    exact hR p () _ _ dX7_held_19 rfl (ri (by simp [heldS, c_2, i_nle c_2]))
set_option maxHeartbeats 4000000 in
set_option maxRecDepth 100000 in
theorem c_J9_floorMod_7cf53 {l : Launch} {D : va_G} {k : Nat → ClassId} {g : Nat → Nat} (x y : Int32) (hy : ¬ y = 0) : Ct l D k g yJ9_floorMod_7cf53 cJ9_floorMod_7cf53 3 (some .int) 0 0 [.int x, .int y] (S := Unit) ([]) (fun _ => []) (fun vv _ => vv = some (.int (fmodS x y))) := by
  refine Ct.ofI RJ9 rfl (by decide +kernel) (Nat.le_of_ble_eq_true rfl) (fun X hC hR => ?_)
  show V X ([]) [(0, .int x), (1, .int y)] [] 0
  refine V.iload_n (pc := 0) 0 hC dJ9_floorMod_7cf53_0 rfl ?_
  refine V.iload_n (pc := 1) 1 hC dJ9_floorMod_7cf53_1 rfl ?_
  refine V.irem (pc := 2) hC dJ9_floorMod_7cf53_2 hy ?_
  refine V.istore_n (pc := 3) [(2, .int (x - x / y * y)), (0, .int x), (1, .int y)] hC dJ9_floorMod_7cf53_3 (by decide) rfl ?_
  refine V.iload_n (pc := 4) 1 hC dJ9_floorMod_7cf53_4 rfl ?_
  refine V.iload_n (pc := 5) 2 hC dJ9_floorMod_7cf53_5 rfl ?_
  refine V.ixor (pc := 6) hC dJ9_floorMod_7cf53_6 ?_
  refine V.if_ge (pc := 7) 18 hC dJ9_floorMod_7cf53_7 (by decide) (fun c_7 => ?_) (fun c_7 => ?_)
  · refine V.iload_n (pc := 18) 0 hC dJ9_floorMod_7cf53_18 rfl ?_
    exact hR (x - x / y * y) () _ _ dJ9_floorMod_7cf53_19 rfl (ri (by simp [fmodS, irm, c_7, i_ge c_7]))
  · refine V.iload_n (pc := 10) 0 hC dJ9_floorMod_7cf53_10 rfl ?_
    refine V.if_eq (pc := 11) 18 hC dJ9_floorMod_7cf53_11 (by decide) (fun c_11 => ?_) (fun c_11 => ?_)
    · refine V.iload_n (pc := 18) 0 hC dJ9_floorMod_7cf53_18 rfl ?_
      exact hR (x - x / y * y) () _ _ dJ9_floorMod_7cf53_19 rfl (ri (by simp [fmodS, irm, c_7, i_nle c_7, c_11]))
    · refine V.iload_n (pc := 14) 0 hC dJ9_floorMod_7cf53_14 rfl ?_
      refine V.iload_n (pc := 15) 2 hC dJ9_floorMod_7cf53_15 rfl ?_
      refine V.iadd (pc := 16) hC dJ9_floorMod_7cf53_16 ?_
      exact hR ((x - x / y * y) + y) () _ _ dJ9_floorMod_7cf53_17 rfl (ri (by simp [fmodS, irm, c_7, i_nle c_7, c_11]))
set_option maxHeartbeats 4000000 in
set_option maxRecDepth 100000 in
theorem c_X6_within {l : Launch} {D : va_G} {k : Nat → ClassId} {g : Nat → Nat} (v p q : Int32)  : Ct l D k g yX6_within cX6_within 3 (some .boolean) 0 0 [.int v, .int p, .int q] (S := Unit) ([]) (fun _ => []) (fun vv _ => vv = some (.int (bI (inS v p q)))) := by
  refine Ct.ofI RX6 rfl (by decide +kernel) (Nat.le_of_ble_eq_true rfl) (fun X hC hR => ?_)
  show V X ([]) [(0, .int v), (1, .int p), (2, .int q)] [] 0
  refine V.iload_n (pc := 0) 0 hC dX6_within_0 rfl ?_
  refine V.iload_n (pc := 1) 1 hC dX6_within_1 rfl ?_
  refine V.icmp_lt (pc := 2) 14 hC dX6_within_2 (by decide) (fun c_2 => ?_) (fun c_2 => ?_)
  · refine V.iconst (pc := 14) 0 hC dX6_within_14 (by decide) ?_
    exact hR 0 () _ _ dX6_within_15 (by first | rfl | exact bI_n _) (rb0 (fun h => i_ge h.1 c_2))
  · refine V.iload_n (pc := 5) 0 hC dX6_within_5 rfl ?_
    refine V.iload_n (pc := 6) 2 hC dX6_within_6 rfl ?_
    refine V.icmp_gt (pc := 7) 14 hC dX6_within_7 (by decide) (fun c_7 => ?_) (fun c_7 => ?_)
    · refine V.iconst (pc := 14) 0 hC dX6_within_14 (by decide) ?_
      exact hR 0 () _ _ dX6_within_15 (by first | rfl | exact bI_n _) (rb0 (fun h => i_ge h.2 c_7))
    · refine V.iconst (pc := 10) 1 hC dX6_within_10 (by decide) ?_
      refine V.goto (pc := 11) 15 hC dX6_within_11 (by decide) ?_
      exact hR 1 () _ _ dX6_within_15 (by first | rfl | exact bI_n _) (rb1 ⟨i_nlt c_2, i_nlt c_7⟩)
set_option maxHeartbeats 4000000 in
set_option maxRecDepth 100000 in
theorem c_X7_isKm {l : Launch} {D : va_G} {k : Nat → ClassId} {g : Nat → Nat} (v : Int32)  : Ct l D k g yX7_isKm cX7_isKm 1 (some .boolean) 1 22 [.int v] (S := Unit) ([]) (fun _ => []) (fun vv _ => vv = some (.int (bI (inS v 0 69)))) := by
  refine Ct.ofI RX7 rfl (by decide +kernel) (Nat.le_of_ble_eq_true rfl) (fun X hC hR => ?_)
  show V X ([]) [(0, .int v)] [] 0
  refine V.iload_n (pc := 0) 0 hC dX7_isKm_0 rfl ?_
  refine V.iconst (pc := 1) 0 hC dX7_isKm_1 (by decide) ?_
  refine V.bipush (pc := 2) 69 hC dX7_isKm_2 (by decide) ?_
  refine V.callS0 (pc := 4) (as := [.int v, .int 0, .int 69]) hC (c_X7_in v 0 69 ) ms_X7_in ml_X7_47 (by decide) rfl (Nat.le_of_ble_eq_true rfl) dX7_isKm_4 ?_
  rintro _ _ rfl
  show V X ([]) [(0, .int v)] [.int (bI (inS v 0 69))] 7
  exact hR (bI (inS v 0 69)) () _ _ dX7_isKm_7 (by first | rfl | exact bI_n _) rfl
set_option maxHeartbeats 4000000 in
set_option maxRecDepth 100000 in
theorem c_X7_isSheet {l : Launch} {D : va_G} {k : Nat → ClassId} {g : Nat → Nat} (v : Int32)  : Ct l D k g yX7_isSheet cX7_isSheet 1 (some .boolean) 1 22 [.int v] (S := Unit) ([]) (fun _ => []) (fun vv _ => vv = some (.int (bI (inS v 0 3)))) := by
  refine Ct.ofI RX7 rfl (by decide +kernel) (Nat.le_of_ble_eq_true rfl) (fun X hC hR => ?_)
  show V X ([]) [(0, .int v)] [] 0
  refine V.iload_n (pc := 0) 0 hC dX7_isSheet_0 rfl ?_
  refine V.iconst (pc := 1) 0 hC dX7_isSheet_1 (by decide) ?_
  refine V.iconst (pc := 2) 3 hC dX7_isSheet_2 (by decide) ?_
  refine V.callS0 (pc := 3) (as := [.int v, .int 0, .int 3]) hC (c_X7_in v 0 3 ) ms_X7_in ml_X7_47 (by decide) rfl (Nat.le_of_ble_eq_true rfl) dX7_isSheet_3 ?_
  rintro _ _ rfl
  show V X ([]) [(0, .int v)] [.int (bI (inS v 0 3))] 6
  exact hR (bI (inS v 0 3)) () _ _ dX7_isSheet_6 (by first | rfl | exact bI_n _) rfl
set_option maxHeartbeats 4000000 in
set_option maxRecDepth 100000 in
theorem c_X7_of {l : Launch} {D : va_G} {k : Nat → ClassId} {g b : Nat → Nat} (μ ν : St) (p w : Nat) (hp : p < 6) (hw : w < 3) : Ct l D k g yX7_of cX7_of 3 (some .int) 0 0 [.ref (b 20), .int (nI p), .int (nI w)] (S := Unit) (wM k b μ ν) (fun _ => wM k b μ ν) (fun vv _ => vv = some (.int (μ 0 (31 + 3 * p + w)))) := by
  refine Ct.ofI RX7 rfl (by decide +kernel) (Nat.le_of_ble_eq_true rfl) (fun X hC hR => ?_)
  show V X (wM k b μ ν) [(0, .ref (b 20)), (1, .int (nI p)), (2, .int (nI w))] [] 0
  refine V.aload_n (pc := 0) 0 hC dX7_of_0 rfl ?_
  refine V.get (pc := 1) (v := .ref (b 0)) hC cf_X7 0 0 fl_X7_9 (by decide) gm_0 rfl dX7_of_1 ?_
  refine V.bipush (pc := 4) 31 hC dX7_of_4 (by decide) ?_
  refine V.iconst (pc := 6) 3 hC dX7_of_6 (by decide) ?_
  refine V.iload_n (pc := 7) 1 hC dX7_of_7 rfl ?_
  refine V.imul (pc := 8) hC dX7_of_8 ?_
  refine V.iadd (pc := 9) hC dX7_of_9 ?_
  refine V.iload_n (pc := 10) 2 hC dX7_of_10 rfl ?_
  refine V.iadd (pc := 11) hC dX7_of_11 ?_
  refine V.iald (pc := 12) (f := μ 0) hC 1 (31 + 3 * p + w) gm_1 (ncast (b := 31 + 3 * p + w) (nadd (nadd (nl 31) (nmul (nl 3) rfl)) rfl) (by omega)) (by omega) (by decide) dX7_of_12 ?_
  exact hR (μ 0 (31 + 3 * p + w)) () _ _ dX7_of_13 rfl rfl
set_option maxHeartbeats 4000000 in
set_option maxRecDepth 100000 in
theorem c_X7_markOf {l : Launch} {D : va_G} {k : Nat → ClassId} {g b : Nat → Nat} (μ ν : St) (h : Nat) (t : Int32) (hI : Inv (μ 0)) (hh : h < nN (μ 0 2)) : Ct l D k g yX7_markOf cX7_markOf 4 (some .int) 0 0 [.ref (b 20), .int (nI h), .int t] (S := Unit) (wM k b μ ν) (fun _ => wM k b μ ν) (fun vv _ => vv = some (.int (markS (μ 0) h t))) := by
  refine Ct.ofI RX7 rfl (by decide +kernel) (Nat.le_of_ble_eq_true rfl) (fun X hC hR => ?_)
  have hb4 := hI.hb
  show V X (wM k b μ ν) [(0, .ref (b 20)), (1, .int (nI h)), (2, .int t)] [] 0
  refine V.aload_n (pc := 0) 0 hC dX7_markOf_0 rfl ?_
  refine V.get (pc := 1) (v := .ref (b 0)) hC cf_X7 0 0 fl_X7_9 (by decide) gm_0 rfl dX7_markOf_1 ?_
  refine V.bipush (pc := 4) 7 hC dX7_markOf_4 (by decide) ?_
  refine V.iconst (pc := 6) 2 hC dX7_markOf_6 (by decide) ?_
  refine V.iload_n (pc := 7) 1 hC dX7_markOf_7 rfl ?_
  refine V.imul (pc := 8) hC dX7_markOf_8 ?_
  refine V.iadd (pc := 9) hC dX7_markOf_9 ?_
  refine V.iald (pc := 10) (f := μ 0) hC 1 (7 + 2 * h) gm_1 (ncast (b := 7 + 2 * h) (nadd (nl 7) (nmul (nl 2) rfl)) (by omega)) (by omega) (by decide) dX7_markOf_10 ?_
  refine V.istore_n (pc := 11) [(3, .int (μ 0 (7 + 2 * h))), (0, .ref (b 20)), (1, .int (nI h)), (2, .int t)] hC dX7_markOf_11 (by decide) rfl ?_
  refine V.iload_n (pc := 12) 3 hC dX7_markOf_12 rfl ?_
  refine V.aload_n (pc := 13) 1 hC dX7_markOf_13 rfl ?_
  refine V.get (pc := 14) (v := .ref (b 0)) hC cf_X7 0 0 fl_X7_9 (by decide) gm_0 rfl dX7_markOf_14 ?_
  refine V.bipush (pc := 17) 7 hC dX7_markOf_17 (by decide) ?_
  refine V.iconst (pc := 19) 2 hC dX7_markOf_19 (by decide) ?_
  refine V.iload_n (pc := 20) 2 hC dX7_markOf_20 rfl ?_
  refine V.imul (pc := 21) hC dX7_markOf_21 ?_
  refine V.iadd (pc := 22) hC dX7_markOf_22 ?_
  refine V.iconst (pc := 23) 1 hC dX7_markOf_23 (by decide) ?_
  refine V.iadd (pc := 24) hC dX7_markOf_24 ?_
  refine V.iald (pc := 25) (f := μ 0) hC 1 (8 + 2 * h) gm_1 (ncast (b := 8 + 2 * h) (nadd (nadd (nl 7) (nmul (nl 2) rfl)) (nl 1)) (by omega)) (by omega) (by decide) dX7_markOf_25 ?_
  refine V.iadd (pc := 26) hC dX7_markOf_26 ?_
  refine V.iload_n (pc := 27) 0 hC dX7_markOf_27 rfl ?_
  refine V.irem (pc := 28) hC dX7_markOf_28 (hI.t0 hh) ?_
  refine V.bipush (pc := 29) 60 hC dX7_markOf_29 (by decide) ?_
  refine V.imul (pc := 31) hC dX7_markOf_31 ?_
  refine V.iload_n (pc := 32) 0 hC dX7_markOf_32 rfl ?_
  refine V.idiv (pc := 33) hC dX7_markOf_33 (hI.t0 hh) ?_
  exact hR ((((t + (μ 0 (8 + 2 * h))) - (t + (μ 0 (8 + 2 * h))) / (μ 0 (7 + 2 * h)) * (μ 0 (7 + 2 * h))) * 60) / (μ 0 (7 + 2 * h))) () _ _ dX7_markOf_34 rfl rfl
set_option maxHeartbeats 4000000 in
set_option maxRecDepth 100000 in
theorem c_X7_apart {l : Launch} {D : va_G} {k : Nat → ClassId} {g b : Nat → Nat} (μ ν : St) (x y : Nat) (t : Int32) (hI : Inv (μ 0)) (hx : x < nN (μ 0 2)) (hy : y < nN (μ 0 2)) : Ct l D k g yX7_apart cX7_apart 5 (some .int) 1 23 [.ref (b 20), .int (nI x), .int (nI y), .int t] (S := Unit) (wM k b μ ν) (fun _ => wM k b μ ν) (fun vv _ => vv = some (.int (apartS (μ 0) x y t))) := by
  refine Ct.ofI RX7 rfl (by decide +kernel) (Nat.le_of_ble_eq_true rfl) (fun X hC hR => ?_)
  show V X (wM k b μ ν) [(0, .ref (b 20)), (1, .int (nI x)), (2, .int (nI y)), (3, .int t)] [] 0
  refine V.aload_n (pc := 0) 0 hC dX7_apart_0 rfl ?_
  refine V.iload_n (pc := 1) 1 hC dX7_apart_1 rfl ?_
  refine V.iload_n (pc := 2) 3 hC dX7_apart_2 rfl ?_
  refine V.callV0 (pc := 3) (as := [.int (nI x), .int t]) hC (c_X7_markOf μ ν x t hI hx) mu_X7_markOf ml_X7_51 (by decide) ⟨0, 7, TX7, 20, _, rfl, gm_0⟩ rfl (Nat.le_of_ble_eq_true rfl) dX7_apart_3 ?_
  rintro _ _ rfl
  show V X (wM k b μ ν) [(0, .ref (b 20)), (1, .int (nI x)), (2, .int (nI y)), (3, .int t)] [.int (markS (μ 0) x t)] 6
  refine V.aload_n (pc := 6) 0 hC dX7_apart_6 rfl ?_
  refine V.iload_n (pc := 7) 2 hC dX7_apart_7 rfl ?_
  refine V.iload_n (pc := 8) 3 hC dX7_apart_8 rfl ?_
  refine V.callV0 (pc := 9) (as := [.int (nI y), .int t]) hC (c_X7_markOf μ ν y t hI hy) mu_X7_markOf ml_X7_51 (by decide) ⟨0, 7, TX7, 20, _, rfl, gm_0⟩ rfl (Nat.le_of_ble_eq_true rfl) dX7_apart_9 ?_
  rintro _ _ rfl
  show V X (wM k b μ ν) [(0, .ref (b 20)), (1, .int (nI x)), (2, .int (nI y)), (3, .int t)] [.int (markS (μ 0) y t), .int (markS (μ 0) x t)] 12
  refine V.isub (pc := 12) hC dX7_apart_12 ?_
  refine V.istore (pc := 13) [(4, .int ((markS (μ 0) x t) - (markS (μ 0) y t))), (0, .ref (b 20)), (1, .int (nI x)), (2, .int (nI y)), (3, .int t)] hC dX7_apart_13 (by decide) rfl ?_
  refine V.iload (pc := 15) 0 hC dX7_apart_15 rfl ?_
  refine V.if_ge (pc := 17) 26 hC dX7_apart_17 (by decide) (fun c_17 => ?_) (fun c_17 => ?_)
  · refine V.iload (pc := 26) 0 hC dX7_apart_26 rfl ?_
    refine V.istore (pc := 28) [(4, .int ((markS (μ 0) x t) - (markS (μ 0) y t))), (0, .ref (b 20)), (1, .int (nI x)), (2, .int (nI y)), (3, .int t)] hC dX7_apart_28 (by decide) rfl ?_
    refine V.iload (pc := 30) 0 hC dX7_apart_30 rfl ?_
    refine V.bipush (pc := 32) 60 hC dX7_apart_32 (by decide) ?_
    refine V.iload (pc := 34) 0 hC dX7_apart_34 rfl ?_
    refine V.isub (pc := 36) hC dX7_apart_36 ?_
    refine V.icmp_ge (pc := 37) 45 hC dX7_apart_37 (by decide) (fun c_37 => ?_) (fun c_37 => ?_)
    · refine V.bipush (pc := 45) 60 hC dX7_apart_45 (by decide) ?_
      refine V.iload (pc := 47) 0 hC dX7_apart_47 rfl ?_
      refine V.isub (pc := 49) hC dX7_apart_49 ?_
      exact hR (60 - ((markS (μ 0) x t) - (markS (μ 0) y t))) () _ _ dX7_apart_50 rfl (ri (by rw [apartS, absS, if_neg (i_ge c_17), minS, if_neg (i_ge c_37)]))
    · refine V.iload (pc := 40) 0 hC dX7_apart_40 rfl ?_
      refine V.goto (pc := 42) 50 hC dX7_apart_42 (by decide) ?_
      exact hR ((markS (μ 0) x t) - (markS (μ 0) y t)) () _ _ dX7_apart_50 rfl (ri (by rw [apartS, absS, if_neg (i_ge c_17), minS, if_pos (i_nle c_37)]))
  · refine V.iload (pc := 20) 0 hC dX7_apart_20 rfl ?_
    refine V.ineg (pc := 22) hC dX7_apart_22 ?_
    refine V.goto (pc := 23) 28 hC dX7_apart_23 (by decide) ?_
    refine V.istore (pc := 28) [(4, .int (-((markS (μ 0) x t) - (markS (μ 0) y t)))), (0, .ref (b 20)), (1, .int (nI x)), (2, .int (nI y)), (3, .int t)] hC dX7_apart_28 (by decide) rfl ?_
    refine V.iload (pc := 30) 0 hC dX7_apart_30 rfl ?_
    refine V.bipush (pc := 32) 60 hC dX7_apart_32 (by decide) ?_
    refine V.iload (pc := 34) 0 hC dX7_apart_34 rfl ?_
    refine V.isub (pc := 36) hC dX7_apart_36 ?_
    refine V.icmp_ge (pc := 37) 45 hC dX7_apart_37 (by decide) (fun c_37 => ?_) (fun c_37 => ?_)
    · refine V.bipush (pc := 45) 60 hC dX7_apart_45 (by decide) ?_
      refine V.iload (pc := 47) 0 hC dX7_apart_47 rfl ?_
      refine V.isub (pc := 49) hC dX7_apart_49 ?_
      exact hR (60 - (-((markS (μ 0) x t) - (markS (μ 0) y t)))) () _ _ dX7_apart_50 rfl (ri (by rw [apartS, absS, if_pos (i_nle c_17), minS, if_neg (i_ge c_37)]))
    · refine V.iload (pc := 40) 0 hC dX7_apart_40 rfl ?_
      refine V.goto (pc := 42) 50 hC dX7_apart_42 (by decide) ?_
      exact hR (-((markS (μ 0) x t) - (markS (μ 0) y t))) () _ _ dX7_apart_50 rfl (ri (by rw [apartS, absS, if_pos (i_nle c_17), minS, if_pos (i_nle c_37)]))
set_option maxHeartbeats 4000000 in
set_option maxRecDepth 100000 in
theorem c_X7_isHand {l : Launch} {D : va_G} {k : Nat → ClassId} {g b : Nat → Nat} (μ ν : St) (v : Int32)  : Ct l D k g yX7_isHand cX7_isHand 2 (some .boolean) 1 22 [.ref (b 20), .int v] (S := Unit) (wM k b μ ν) (fun _ => wM k b μ ν) (fun vv _ => vv = some (.int (bI (inS v 0 (μ 0 2 - 1))))) := by
  refine Ct.ofI RX7 rfl (by decide +kernel) (Nat.le_of_ble_eq_true rfl) (fun X hC hR => ?_)
  show V X (wM k b μ ν) [(0, .ref (b 20)), (1, .int v)] [] 0
  refine V.iload_n (pc := 0) 1 hC dX7_isHand_0 rfl ?_
  refine V.iconst (pc := 1) 0 hC dX7_isHand_1 (by decide) ?_
  refine V.aload_n (pc := 2) 0 hC dX7_isHand_2 rfl ?_
  refine V.get (pc := 3) (v := .ref (b 0)) hC cf_X7 0 0 fl_X7_9 (by decide) gm_0 rfl dX7_isHand_3 ?_
  refine V.iconst (pc := 6) 2 hC dX7_isHand_6 (by decide) ?_
  refine V.iald (pc := 7) (f := μ 0) hC 1 2 gm_1 (nl 2) (by omega) (by decide) dX7_isHand_7 ?_
  refine V.iconst (pc := 8) 1 hC dX7_isHand_8 (by decide) ?_
  refine V.isub (pc := 9) hC dX7_isHand_9 ?_
  refine V.callS0 (pc := 10) (as := [.int v, .int 0, .int ((μ 0 2) - 1)]) hC (c_X7_in v 0 ((μ 0 2) - 1) ) ms_X7_in ml_X7_47 (by decide) rfl (Nat.le_of_ble_eq_true rfl) dX7_isHand_10 ?_
  rintro _ _ rfl
  show V X (wM k b μ ν) [(0, .ref (b 20)), (1, .int v)] [.int (bI (inS v 0 ((μ 0 2) - 1)))] 13
  exact hR (bI (inS v 0 ((μ 0 2) - 1))) () _ _ dX7_isHand_13 (by first | rfl | exact bI_n _) rfl
set_option maxHeartbeats 4000000 in
set_option maxRecDepth 100000 in
theorem c_X7_isHome {l : Launch} {D : va_G} {k : Nat → ClassId} {g b : Nat → Nat} (μ ν : St) (v : Int32)  : Ct l D k g yX7_isHome cX7_isHome 2 (some .boolean) 1 22 [.ref (b 20), .int v] (S := Unit) (wM k b μ ν) (fun _ => wM k b μ ν) (fun vv _ => vv = some (.int (bI (inS v 0 (μ 0 3 - 1))))) := by
  refine Ct.ofI RX7 rfl (by decide +kernel) (Nat.le_of_ble_eq_true rfl) (fun X hC hR => ?_)
  show V X (wM k b μ ν) [(0, .ref (b 20)), (1, .int v)] [] 0
  refine V.iload_n (pc := 0) 1 hC dX7_isHome_0 rfl ?_
  refine V.iconst (pc := 1) 0 hC dX7_isHome_1 (by decide) ?_
  refine V.aload_n (pc := 2) 0 hC dX7_isHome_2 rfl ?_
  refine V.get (pc := 3) (v := .ref (b 0)) hC cf_X7 0 0 fl_X7_9 (by decide) gm_0 rfl dX7_isHome_3 ?_
  refine V.iconst (pc := 6) 3 hC dX7_isHome_6 (by decide) ?_
  refine V.iald (pc := 7) (f := μ 0) hC 1 3 gm_1 (nl 3) (by omega) (by decide) dX7_isHome_7 ?_
  refine V.iconst (pc := 8) 1 hC dX7_isHome_8 (by decide) ?_
  refine V.isub (pc := 9) hC dX7_isHome_9 ?_
  refine V.callS0 (pc := 10) (as := [.int v, .int 0, .int ((μ 0 3) - 1)]) hC (c_X7_in v 0 ((μ 0 3) - 1) ) ms_X7_in ml_X7_47 (by decide) rfl (Nat.le_of_ble_eq_true rfl) dX7_isHome_10 ?_
  rintro _ _ rfl
  show V X (wM k b μ ν) [(0, .ref (b 20)), (1, .int v)] [.int (bI (inS v 0 ((μ 0 3) - 1)))] 13
  exact hR (bI (inS v 0 ((μ 0 3) - 1))) () _ _ dX7_isHome_13 (by first | rfl | exact bI_n _) rfl
set_option maxHeartbeats 4000000 in
set_option maxRecDepth 100000 in
theorem c_X7_isPerson {l : Launch} {D : va_G} {k : Nat → ClassId} {g b : Nat → Nat} (μ ν : St) (v : Int32)  : Ct l D k g yX7_isPerson cX7_isPerson 2 (some .boolean) 1 22 [.ref (b 20), .int v] (S := Unit) (wM k b μ ν) (fun _ => wM k b μ ν) (fun vv _ => vv = some (.int (bI (inS v 0 (μ 0 4 - 1))))) := by
  refine Ct.ofI RX7 rfl (by decide +kernel) (Nat.le_of_ble_eq_true rfl) (fun X hC hR => ?_)
  show V X (wM k b μ ν) [(0, .ref (b 20)), (1, .int v)] [] 0
  refine V.iload_n (pc := 0) 1 hC dX7_isPerson_0 rfl ?_
  refine V.iconst (pc := 1) 0 hC dX7_isPerson_1 (by decide) ?_
  refine V.aload_n (pc := 2) 0 hC dX7_isPerson_2 rfl ?_
  refine V.get (pc := 3) (v := .ref (b 0)) hC cf_X7 0 0 fl_X7_9 (by decide) gm_0 rfl dX7_isPerson_3 ?_
  refine V.iconst (pc := 6) 4 hC dX7_isPerson_6 (by decide) ?_
  refine V.iald (pc := 7) (f := μ 0) hC 1 4 gm_1 (nl 4) (by omega) (by decide) dX7_isPerson_7 ?_
  refine V.iconst (pc := 8) 1 hC dX7_isPerson_8 (by decide) ?_
  refine V.isub (pc := 9) hC dX7_isPerson_9 ?_
  refine V.callS0 (pc := 10) (as := [.int v, .int 0, .int ((μ 0 4) - 1)]) hC (c_X7_in v 0 ((μ 0 4) - 1) ) ms_X7_in ml_X7_47 (by decide) rfl (Nat.le_of_ble_eq_true rfl) dX7_isPerson_10 ?_
  rintro _ _ rfl
  show V X (wM k b μ ν) [(0, .ref (b 20)), (1, .int v)] [.int (bI (inS v 0 ((μ 0 4) - 1)))] 13
  exact hR (bI (inS v 0 ((μ 0 4) - 1))) () _ _ dX7_isPerson_13 (by first | rfl | exact bI_n _) rfl
set_option maxHeartbeats 4000000 in
set_option maxRecDepth 100000 in
theorem c_X7_homesOn {l : Launch} {D : va_G} {k : Nat → ClassId} {g b : Nat → Nat} (μ ν : St) (h : Int32) (hI : Inv (μ 0)) : Ct l D k g yX7_homesOn cX7_homesOn 4 (some .int) 0 0 [.ref (b 20), .int h] (S := Unit) (wM k b μ ν) (fun _ => wM k b μ ν) (fun vv _ => vv = some (.int (homesOnS (μ 0) h))) := by
  refine Ct.ofI RX7 rfl (by decide +kernel) (Nat.le_of_ble_eq_true rfl) (fun X hC hR => ?_)
  have hb8 := hI.mb
  show V X (wM k b μ ν) [(0, .ref (b 20)), (1, .int h)] [] 0
  refine V.iconst (pc := 0) 0 hC dX7_homesOn_0 (by decide) ?_
  refine V.istore_n (pc := 1) [(2, .int 0), (0, .ref (b 20)), (1, .int h)] hC dX7_homesOn_1 (by decide) rfl ?_
  refine V.iconst (pc := 2) 0 hC dX7_homesOn_2 (by decide) ?_
  refine V.istore_n (pc := 3) [(3, .int 0), (2, .int 0), (0, .ref (b 20)), (1, .int h)] hC dX7_homesOn_3 (by decide) rfl ?_
  have loop_4 : ∀ (n : Nat) (i : Nat) (s : Int32), i + n = nN (μ 0 3) → homesOnS (μ 0) h = run (fun i s => s ||| (if μ 0 (15 + 2 * i) = h then b1 (nI i) else 0)) n i s → V X (wM k b μ ν) [(3, .int (nI i)), (2, .int s), (0, .ref (b 20)), (1, .int h)] [] 4 := by
    intro n
    induction n with
    | zero =>
      intro i s hi hv
      refine V.iload_n (pc := 4) 0 hC dX7_homesOn_4 rfl ?_
      refine V.aload_n (pc := 5) 2 hC dX7_homesOn_5 rfl ?_
      refine V.get (pc := 6) (v := .ref (b 0)) hC cf_X7 0 0 fl_X7_9 (by decide) gm_0 rfl dX7_homesOn_6 ?_
      refine V.iconst (pc := 9) 3 hC dX7_homesOn_9 (by decide) ?_
      refine V.iald (pc := 10) (f := μ 0) hC 1 3 gm_1 (nl 3) (by omega) (by decide) dX7_homesOn_10 ?_
      refine V.icmp_ge (pc := 11) 45 hC dX7_homesOn_11 (by decide) (fun c_11 => ?_) (fun c_11 => ?_)
      · have nc_11 : nN (μ 0 3) ≤ i := (nle hI.mn rfl (by omega) (by omega)).mp c_11
        refine V.iload_n (pc := 45) 1 hC dX7_homesOn_45 rfl ?_
        exact hR s () _ _ dX7_homesOn_46 rfl (ri hv.symm)
      · have nc_11 : ¬ (nN (μ 0 3) ≤ i) := fun z => c_11 ((nle hI.mn rfl (by omega) (by omega)).mpr z)
        exfalso; omega
    | succ n ih =>
      intro i s hi hv
      refine V.iload_n (pc := 4) 0 hC dX7_homesOn_4 rfl ?_
      refine V.aload_n (pc := 5) 2 hC dX7_homesOn_5 rfl ?_
      refine V.get (pc := 6) (v := .ref (b 0)) hC cf_X7 0 0 fl_X7_9 (by decide) gm_0 rfl dX7_homesOn_6 ?_
      refine V.iconst (pc := 9) 3 hC dX7_homesOn_9 (by decide) ?_
      refine V.iald (pc := 10) (f := μ 0) hC 1 3 gm_1 (nl 3) (by omega) (by decide) dX7_homesOn_10 ?_
      refine V.icmp_ge (pc := 11) 45 hC dX7_homesOn_11 (by decide) (fun c_11 => ?_) (fun c_11 => ?_)
      · have nc_11 : nN (μ 0 3) ≤ i := (nle hI.mn rfl (by omega) (by omega)).mp c_11
        exfalso; omega
      · have nc_11 : ¬ (nN (μ 0 3) ≤ i) := fun z => c_11 ((nle hI.mn rfl (by omega) (by omega)).mpr z)
        refine V.iload_n (pc := 14) 1 hC dX7_homesOn_14 rfl ?_
        refine V.aload_n (pc := 15) 2 hC dX7_homesOn_15 rfl ?_
        refine V.get (pc := 16) (v := .ref (b 0)) hC cf_X7 0 0 fl_X7_9 (by decide) gm_0 rfl dX7_homesOn_16 ?_
        refine V.bipush (pc := 19) 15 hC dX7_homesOn_19 (by decide) ?_
        refine V.iconst (pc := 21) 2 hC dX7_homesOn_21 (by decide) ?_
        refine V.iload_n (pc := 22) 0 hC dX7_homesOn_22 rfl ?_
        refine V.imul (pc := 23) hC dX7_homesOn_23 ?_
        refine V.iadd (pc := 24) hC dX7_homesOn_24 ?_
        refine V.iald (pc := 25) (f := μ 0) hC 1 (15 + 2 * i) gm_1 (ncast (b := 15 + 2 * i) (nadd (nl 15) (nmul (nl 2) rfl)) (by omega)) (by omega) (by decide) dX7_homesOn_25 ?_
        refine V.iload_n (pc := 26) 3 hC dX7_homesOn_26 rfl ?_
        refine V.icmp_ne (pc := 27) 36 hC dX7_homesOn_27 (by decide) (fun c_27 => ?_) (fun c_27 => ?_)
        · refine V.iconst (pc := 36) 0 hC dX7_homesOn_36 (by decide) ?_
          refine V.ior (pc := 37) hC dX7_homesOn_37 ?_
          refine V.istore_n (pc := 38) [(2, .int (s ||| 0)), (3, .int (nI i)), (0, .ref (b 20)), (1, .int h)] hC dX7_homesOn_38 (by decide) rfl ?_
          refine V.iinc (pc := 39) 1 (nI (i + 1)) [(3, .int (nI (i + 1))), (2, .int (s ||| 0)), (0, .ref (b 20)), (1, .int h)] hC dX7_homesOn_39 rfl (ncast (nadd rfl (nl 1)) (by omega)) (by decide) rfl ?_
          refine V.goto (pc := 42) 4 hC dX7_homesOn_42 (by decide) ?_
          exact V.sub [0, 1, 2, 3] rfl (ih (i + 1) (s ||| 0) (by omega) (run_next hv (by simp [b1, c_11, i_nle c_11, c_27])))
        · refine V.iconst (pc := 30) 1 hC dX7_homesOn_30 (by decide) ?_
          refine V.iload_n (pc := 31) 0 hC dX7_homesOn_31 rfl ?_
          refine V.ishl (pc := 32) hC dX7_homesOn_32 ?_
          refine V.goto (pc := 33) 37 hC dX7_homesOn_33 (by decide) ?_
          refine V.ior (pc := 37) hC dX7_homesOn_37 ?_
          refine V.istore_n (pc := 38) [(2, .int (s ||| (1 <<< ((nI i) &&& 31)))), (3, .int (nI i)), (0, .ref (b 20)), (1, .int h)] hC dX7_homesOn_38 (by decide) rfl ?_
          refine V.iinc (pc := 39) 1 (nI (i + 1)) [(3, .int (nI (i + 1))), (2, .int (s ||| (1 <<< ((nI i) &&& 31)))), (0, .ref (b 20)), (1, .int h)] hC dX7_homesOn_39 rfl (ncast (nadd rfl (nl 1)) (by omega)) (by decide) rfl ?_
          refine V.goto (pc := 42) 4 hC dX7_homesOn_42 (by decide) ?_
          exact V.sub [0, 1, 2, 3] rfl (ih (i + 1) (s ||| (1 <<< ((nI i) &&& 31))) (by omega) (run_next hv (by simp [b1, c_11, i_nle c_11, c_27])))
  exact V.sub [0, 1, 2, 3] rfl (loop_4 (nN (μ 0 3)) 0 0 (by omega) rfl)
set_option maxHeartbeats 4000000 in
set_option maxRecDepth 100000 in
theorem c_X7_whoIn {l : Launch} {D : va_G} {k : Nat → ClassId} {g b : Nat → Nat} (μ ν : St) (h : Int32) (hI : Inv (μ 0)) : Ct l D k g yX7_whoIn cX7_whoIn 4 (some .int) 1 22 [.ref (b 20), .int h] (S := Unit) (wM k b μ ν) (fun _ => wM k b μ ν) (fun vv _ => vv = some (.int (whoInS (μ 0) h))) := by
  refine Ct.ofI RX7 rfl (by decide +kernel) (Nat.le_of_ble_eq_true rfl) (fun X hC hR => ?_)
  have hb6 := hI.pb
  show V X (wM k b μ ν) [(0, .ref (b 20)), (1, .int h)] [] 0
  refine V.iconst (pc := 0) 0 hC dX7_whoIn_0 (by decide) ?_
  refine V.istore_n (pc := 1) [(2, .int 0), (0, .ref (b 20)), (1, .int h)] hC dX7_whoIn_1 (by decide) rfl ?_
  refine V.iconst (pc := 2) 0 hC dX7_whoIn_2 (by decide) ?_
  refine V.istore_n (pc := 3) [(3, .int 0), (2, .int 0), (0, .ref (b 20)), (1, .int h)] hC dX7_whoIn_3 (by decide) rfl ?_
  have loop_4 : ∀ (n : Nat) (i : Nat) (s : Int32), i + n = nN (μ 0 4) → whoInS (μ 0) h = run (fun i s => s ||| (if μ 0 (33 + 3 * i) = h then b1 (nI i) else 0)) n i s → V X (wM k b μ ν) [(3, .int (nI i)), (2, .int s), (0, .ref (b 20)), (1, .int h)] [] 4 := by
    intro n
    induction n with
    | zero =>
      intro i s hi hv
      refine V.iload_n (pc := 4) 0 hC dX7_whoIn_4 rfl ?_
      refine V.aload_n (pc := 5) 2 hC dX7_whoIn_5 rfl ?_
      refine V.get (pc := 6) (v := .ref (b 0)) hC cf_X7 0 0 fl_X7_9 (by decide) gm_0 rfl dX7_whoIn_6 ?_
      refine V.iconst (pc := 9) 4 hC dX7_whoIn_9 (by decide) ?_
      refine V.iald (pc := 10) (f := μ 0) hC 1 4 gm_1 (nl 4) (by omega) (by decide) dX7_whoIn_10 ?_
      refine V.icmp_ge (pc := 11) 40 hC dX7_whoIn_11 (by decide) (fun c_11 => ?_) (fun c_11 => ?_)
      · have nc_11 : nN (μ 0 4) ≤ i := (nle hI.pn rfl (by omega) (by omega)).mp c_11
        refine V.iload_n (pc := 40) 1 hC dX7_whoIn_40 rfl ?_
        exact hR s () _ _ dX7_whoIn_41 rfl (ri hv.symm)
      · have nc_11 : ¬ (nN (μ 0 4) ≤ i) := fun z => c_11 ((nle hI.pn rfl (by omega) (by omega)).mpr z)
        exfalso; omega
    | succ n ih =>
      intro i s hi hv
      refine V.iload_n (pc := 4) 0 hC dX7_whoIn_4 rfl ?_
      refine V.aload_n (pc := 5) 2 hC dX7_whoIn_5 rfl ?_
      refine V.get (pc := 6) (v := .ref (b 0)) hC cf_X7 0 0 fl_X7_9 (by decide) gm_0 rfl dX7_whoIn_6 ?_
      refine V.iconst (pc := 9) 4 hC dX7_whoIn_9 (by decide) ?_
      refine V.iald (pc := 10) (f := μ 0) hC 1 4 gm_1 (nl 4) (by omega) (by decide) dX7_whoIn_10 ?_
      refine V.icmp_ge (pc := 11) 40 hC dX7_whoIn_11 (by decide) (fun c_11 => ?_) (fun c_11 => ?_)
      · have nc_11 : nN (μ 0 4) ≤ i := (nle hI.pn rfl (by omega) (by omega)).mp c_11
        exfalso; omega
      · have nc_11 : ¬ (nN (μ 0 4) ≤ i) := fun z => c_11 ((nle hI.pn rfl (by omega) (by omega)).mpr z)
        refine V.iload_n (pc := 14) 1 hC dX7_whoIn_14 rfl ?_
        refine V.aload_n (pc := 15) 2 hC dX7_whoIn_15 rfl ?_
        refine V.iload_n (pc := 16) 0 hC dX7_whoIn_16 rfl ?_
        refine V.iconst (pc := 17) 2 hC dX7_whoIn_17 (by decide) ?_
        refine V.sts (st' := [.int (nI 2), .int (nI i), .ref (b 20), .int s]) (stc (nl 2) (stk (stk (stk rfl)))) ?_
        refine V.callV0 (pc := 18) (as := [.int (nI i), .int (nI 2)]) hC (c_X7_of μ ν i 2 (by omega) (by omega)) mu_X7_of ml_X7_72 (by decide) ⟨0, 7, TX7, 20, _, rfl, gm_0⟩ rfl (Nat.le_of_ble_eq_true rfl) dX7_whoIn_18 ?_
        rintro _ _ rfl
        show V X (wM k b μ ν) [(3, .int (nI i)), (2, .int s), (0, .ref (b 20)), (1, .int h)] [.int (μ 0 (31 + 3 * i + 2)), .int s] 21
        refine V.eqi (y := μ 0 (33 + 3 * i)) (congrArg (μ 0) (by omega)) ?_
        refine V.iload_n (pc := 21) 3 hC dX7_whoIn_21 rfl ?_
        refine V.icmp_ne (pc := 22) 31 hC dX7_whoIn_22 (by decide) (fun c_22 => ?_) (fun c_22 => ?_)
        · refine V.iconst (pc := 31) 0 hC dX7_whoIn_31 (by decide) ?_
          refine V.ior (pc := 32) hC dX7_whoIn_32 ?_
          refine V.istore_n (pc := 33) [(2, .int (s ||| 0)), (3, .int (nI i)), (0, .ref (b 20)), (1, .int h)] hC dX7_whoIn_33 (by decide) rfl ?_
          refine V.iinc (pc := 34) 1 (nI (i + 1)) [(3, .int (nI (i + 1))), (2, .int (s ||| 0)), (0, .ref (b 20)), (1, .int h)] hC dX7_whoIn_34 rfl (ncast (nadd rfl (nl 1)) (by omega)) (by decide) rfl ?_
          refine V.goto (pc := 37) 4 hC dX7_whoIn_37 (by decide) ?_
          exact V.sub [0, 1, 2, 3] rfl (ih (i + 1) (s ||| 0) (by omega) (run_next hv (by simp [b1, c_11, i_nle c_11, c_22])))
        · refine V.iconst (pc := 25) 1 hC dX7_whoIn_25 (by decide) ?_
          refine V.iload_n (pc := 26) 0 hC dX7_whoIn_26 rfl ?_
          refine V.ishl (pc := 27) hC dX7_whoIn_27 ?_
          refine V.goto (pc := 28) 32 hC dX7_whoIn_28 (by decide) ?_
          refine V.ior (pc := 32) hC dX7_whoIn_32 ?_
          refine V.istore_n (pc := 33) [(2, .int (s ||| (1 <<< ((nI i) &&& 31)))), (3, .int (nI i)), (0, .ref (b 20)), (1, .int h)] hC dX7_whoIn_33 (by decide) rfl ?_
          refine V.iinc (pc := 34) 1 (nI (i + 1)) [(3, .int (nI (i + 1))), (2, .int (s ||| (1 <<< ((nI i) &&& 31)))), (0, .ref (b 20)), (1, .int h)] hC dX7_whoIn_34 rfl (ncast (nadd rfl (nl 1)) (by omega)) (by decide) rfl ?_
          refine V.goto (pc := 37) 4 hC dX7_whoIn_37 (by decide) ?_
          exact V.sub [0, 1, 2, 3] rfl (ih (i + 1) (s ||| (1 <<< ((nI i) &&& 31))) (by omega) (run_next hv (by simp [b1, c_11, i_nle c_11, c_22])))
  exact V.sub [0, 1, 2, 3] rfl (loop_4 (nN (μ 0 4)) 0 0 (by omega) rfl)
set_option maxHeartbeats 4000000 in
set_option maxRecDepth 100000 in
theorem c_X7_twoOf {l : Launch} {D : va_G} {k : Nat → ClassId} {g : Nat → Nat} (w x y : Int32) (hw : isOp w) : Ct l D k g yX7_twoOf cX7_twoOf 3 (some .int) 0 0 [.int w, .int x, .int y] (S := Unit) ([]) (fun _ => []) (fun vv _ => vv = some (.int (twoS w x y))) := by
  refine Ct.ofI RX7 rfl (by decide +kernel) (Nat.le_of_ble_eq_true rfl) (fun X hC hR => ?_)
  show V X ([]) [(0, .int w), (1, .int x), (2, .int y)] [] 0
  refine V.iload_n (pc := 0) 0 hC dX7_twoOf_0 rfl ?_
  by_cases s_1_37 : w = 37
  · refine V.tableIn (pc := 1) 144 hC dX7_twoOf_1 (by rw [s_1_37]; decide) (by rw [s_1_37]; decide) (by rw [s_1_37]; rfl) (by decide) ?_
    refine V.iload_n (pc := 144) 2 hC dX7_twoOf_144 rfl ?_
    refine V.if_ne (pc := 145) 152 hC dX7_twoOf_145 (by decide) (fun c_145 => ?_) (fun c_145 => ?_)
    · refine V.iload_n (pc := 152) 1 hC dX7_twoOf_152 rfl ?_
      refine V.iload_n (pc := 153) 2 hC dX7_twoOf_153 rfl ?_
      refine V.irem (pc := 154) hC dX7_twoOf_154 c_145 ?_
      exact hR (x - x / y * y) () _ _ dX7_twoOf_155 rfl (ri (by simp [twoS, irm, s_1_37, c_145]))
    · refine V.iconst (pc := 148) 0 hC dX7_twoOf_148 (by decide) ?_
      refine V.goto (pc := 149) 155 hC dX7_twoOf_149 (by decide) ?_
      exact hR 0 () _ _ dX7_twoOf_155 rfl (ri (by simp [twoS, irm, s_1_37, c_145]))
  by_cases s_1_38 : w = 38
  · refine V.tableIn (pc := 1) 189 hC dX7_twoOf_1 (by rw [s_1_38]; decide) (by rw [s_1_38]; decide) (by rw [s_1_38]; rfl) (by decide) ?_
    refine V.iload_n (pc := 189) 1 hC dX7_twoOf_189 rfl ?_
    refine V.if_eq (pc := 190) 201 hC dX7_twoOf_190 (by decide) (fun c_190 => ?_) (fun c_190 => ?_)
    · refine V.iconst (pc := 201) 0 hC dX7_twoOf_201 (by decide) ?_
      exact hR 0 () _ _ dX7_twoOf_202 rfl (ri (by simp [twoS, irm, s_1_38, c_190]))
    · refine V.iload_n (pc := 193) 2 hC dX7_twoOf_193 rfl ?_
      refine V.if_eq (pc := 194) 201 hC dX7_twoOf_194 (by decide) (fun c_194 => ?_) (fun c_194 => ?_)
      · refine V.iconst (pc := 201) 0 hC dX7_twoOf_201 (by decide) ?_
        exact hR 0 () _ _ dX7_twoOf_202 rfl (ri (by simp [twoS, irm, s_1_38, c_190, c_194]))
      · refine V.iconst (pc := 197) 1 hC dX7_twoOf_197 (by decide) ?_
        refine V.goto (pc := 198) 202 hC dX7_twoOf_198 (by decide) ?_
        exact hR 1 () _ _ dX7_twoOf_202 rfl (ri (by simp [twoS, irm, s_1_38, c_190, c_194]))
  by_cases s_1_42 : w = 42
  · refine V.tableIn (pc := 1) 128 hC dX7_twoOf_1 (by rw [s_1_42]; decide) (by rw [s_1_42]; decide) (by rw [s_1_42]; rfl) (by decide) ?_
    refine V.iload_n (pc := 128) 1 hC dX7_twoOf_128 rfl ?_
    refine V.iload_n (pc := 129) 2 hC dX7_twoOf_129 rfl ?_
    refine V.imul (pc := 130) hC dX7_twoOf_130 ?_
    exact hR (x * y) () _ _ dX7_twoOf_131 rfl (ri (by simp [twoS, irm, s_1_42]))
  by_cases s_1_43 : w = 43
  · refine V.tableIn (pc := 1) 120 hC dX7_twoOf_1 (by rw [s_1_43]; decide) (by rw [s_1_43]; decide) (by rw [s_1_43]; rfl) (by decide) ?_
    refine V.iload_n (pc := 120) 1 hC dX7_twoOf_120 rfl ?_
    refine V.iload_n (pc := 121) 2 hC dX7_twoOf_121 rfl ?_
    refine V.iadd (pc := 122) hC dX7_twoOf_122 ?_
    exact hR (x + y) () _ _ dX7_twoOf_123 rfl (ri (by simp [twoS, irm, s_1_43]))
  by_cases s_1_45 : w = 45
  · refine V.tableIn (pc := 1) 124 hC dX7_twoOf_1 (by rw [s_1_45]; decide) (by rw [s_1_45]; decide) (by rw [s_1_45]; rfl) (by decide) ?_
    refine V.iload_n (pc := 124) 1 hC dX7_twoOf_124 rfl ?_
    refine V.iload_n (pc := 125) 2 hC dX7_twoOf_125 rfl ?_
    refine V.isub (pc := 126) hC dX7_twoOf_126 ?_
    exact hR (x - y) () _ _ dX7_twoOf_127 rfl (ri (by simp [twoS, irm, s_1_45]))
  by_cases s_1_47 : w = 47
  · refine V.tableIn (pc := 1) 132 hC dX7_twoOf_1 (by rw [s_1_47]; decide) (by rw [s_1_47]; decide) (by rw [s_1_47]; rfl) (by decide) ?_
    refine V.iload_n (pc := 132) 2 hC dX7_twoOf_132 rfl ?_
    refine V.if_ne (pc := 133) 140 hC dX7_twoOf_133 (by decide) (fun c_133 => ?_) (fun c_133 => ?_)
    · refine V.iload_n (pc := 140) 1 hC dX7_twoOf_140 rfl ?_
      refine V.iload_n (pc := 141) 2 hC dX7_twoOf_141 rfl ?_
      refine V.idiv (pc := 142) hC dX7_twoOf_142 c_133 ?_
      exact hR (x / y) () _ _ dX7_twoOf_143 rfl (ri (by simp [twoS, irm, s_1_47, c_133]))
    · refine V.iconst (pc := 136) 0 hC dX7_twoOf_136 (by decide) ?_
      refine V.goto (pc := 137) 143 hC dX7_twoOf_137 (by decide) ?_
      exact hR 0 () _ _ dX7_twoOf_143 rfl (ri (by simp [twoS, irm, s_1_47, c_133]))
  by_cases s_1_60 : w = 60
  · refine V.tableIn (pc := 1) 156 hC dX7_twoOf_1 (by rw [s_1_60]; decide) (by rw [s_1_60]; decide) (by rw [s_1_60]; rfl) (by decide) ?_
    refine V.iload_n (pc := 156) 1 hC dX7_twoOf_156 rfl ?_
    refine V.iload_n (pc := 157) 2 hC dX7_twoOf_157 rfl ?_
    refine V.icmp_ge (pc := 158) 165 hC dX7_twoOf_158 (by decide) (fun c_158 => ?_) (fun c_158 => ?_)
    · refine V.iconst (pc := 165) 0 hC dX7_twoOf_165 (by decide) ?_
      exact hR 0 () _ _ dX7_twoOf_166 rfl (ri (by simp [twoS, irm, s_1_60, c_158, i_ge c_158]))
    · refine V.iconst (pc := 161) 1 hC dX7_twoOf_161 (by decide) ?_
      refine V.goto (pc := 162) 166 hC dX7_twoOf_162 (by decide) ?_
      exact hR 1 () _ _ dX7_twoOf_166 rfl (ri (by simp [twoS, irm, s_1_60, c_158, i_nle c_158]))
  by_cases s_1_61 : w = 61
  · refine V.tableIn (pc := 1) 167 hC dX7_twoOf_1 (by rw [s_1_61]; decide) (by rw [s_1_61]; decide) (by rw [s_1_61]; rfl) (by decide) ?_
    refine V.iload_n (pc := 167) 1 hC dX7_twoOf_167 rfl ?_
    refine V.iload_n (pc := 168) 2 hC dX7_twoOf_168 rfl ?_
    refine V.icmp_ne (pc := 169) 176 hC dX7_twoOf_169 (by decide) (fun c_169 => ?_) (fun c_169 => ?_)
    · refine V.iconst (pc := 176) 0 hC dX7_twoOf_176 (by decide) ?_
      exact hR 0 () _ _ dX7_twoOf_177 rfl (ri (by simp [twoS, irm, s_1_61, c_169]))
    · refine V.iconst (pc := 172) 1 hC dX7_twoOf_172 (by decide) ?_
      refine V.goto (pc := 173) 177 hC dX7_twoOf_173 (by decide) ?_
      exact hR 1 () _ _ dX7_twoOf_177 rfl (ri (by simp [twoS, irm, s_1_61, c_169]))
  by_cases s_1_62 : w = 62
  · refine V.tableIn (pc := 1) 178 hC dX7_twoOf_1 (by rw [s_1_62]; decide) (by rw [s_1_62]; decide) (by rw [s_1_62]; rfl) (by decide) ?_
    refine V.iload_n (pc := 178) 1 hC dX7_twoOf_178 rfl ?_
    refine V.iload_n (pc := 179) 2 hC dX7_twoOf_179 rfl ?_
    refine V.icmp_le (pc := 180) 187 hC dX7_twoOf_180 (by decide) (fun c_180 => ?_) (fun c_180 => ?_)
    · refine V.iconst (pc := 187) 0 hC dX7_twoOf_187 (by decide) ?_
      exact hR 0 () _ _ dX7_twoOf_188 rfl (ri (by simp [twoS, irm, s_1_62, c_180, i_ge c_180]))
    · refine V.iconst (pc := 183) 1 hC dX7_twoOf_183 (by decide) ?_
      refine V.goto (pc := 184) 188 hC dX7_twoOf_184 (by decide) ?_
      exact hR 1 () _ _ dX7_twoOf_188 rfl (ri (by simp [twoS, irm, s_1_62, c_180, i_nle c_180]))
  refine V.tableOut (pc := 1) 203 hC dX7_twoOf_1 (by have e : w = 124 := by { simp only [isOp] at hw; simp_all }; rw [e]; decide) (by decide) ?_
  refine V.iload_n (pc := 203) 1 hC dX7_twoOf_203 rfl ?_
  refine V.if_ne (pc := 204) 211 hC dX7_twoOf_204 (by decide) (fun c_204 => ?_) (fun c_204 => ?_)
  · refine V.iconst (pc := 211) 1 hC dX7_twoOf_211 (by decide) ?_
    refine V.goto (pc := 212) 216 hC dX7_twoOf_212 (by decide) ?_
    exact hR 1 () _ _ dX7_twoOf_216 rfl (ri (by simp [twoS, irm, s_1_37, s_1_38, s_1_42, s_1_43, s_1_45, s_1_47, s_1_60, s_1_61, s_1_62, c_204]))
  · refine V.iload_n (pc := 207) 2 hC dX7_twoOf_207 rfl ?_
    refine V.if_eq (pc := 208) 215 hC dX7_twoOf_208 (by decide) (fun c_208 => ?_) (fun c_208 => ?_)
    · refine V.iconst (pc := 215) 0 hC dX7_twoOf_215 (by decide) ?_
      exact hR 0 () _ _ dX7_twoOf_216 rfl (ri (by simp [twoS, irm, s_1_37, s_1_38, s_1_42, s_1_43, s_1_45, s_1_47, s_1_60, s_1_61, s_1_62, c_204, c_208]))
    · refine V.iconst (pc := 211) 1 hC dX7_twoOf_211 (by decide) ?_
      refine V.goto (pc := 212) 216 hC dX7_twoOf_212 (by decide) ?_
      exact hR 1 () _ _ dX7_twoOf_216 rfl (ri (by simp [twoS, irm, s_1_37, s_1_38, s_1_42, s_1_43, s_1_45, s_1_47, s_1_60, s_1_61, s_1_62, c_204, c_208]))
set_option maxHeartbeats 4000000 in
set_option maxRecDepth 100000 in
theorem c_X7_spansOf {l : Launch} {D : va_G} {k : Nat → ClassId} {g b : Nat → Nat} (μ ν : St) (p : Nat) (hp : p < 6) : Ct l D k g yX7_spansOf cX7_spansOf 3 (some .int) 1 22 [.ref (b 20), .int (nI p)] (S := Unit) (wM k b μ ν) (fun _ => wM k b μ ν) (fun vv _ => vv = some (.int (spansS (μ 0) p))) := by
  refine Ct.ofI RX7 rfl (by decide +kernel) (Nat.le_of_ble_eq_true rfl) (fun X hC hR => ?_)
  show V X (wM k b μ ν) [(0, .ref (b 20)), (1, .int (nI p))] [] 0
  refine V.aload_n (pc := 0) 0 hC dX7_spansOf_0 rfl ?_
  refine V.iload_n (pc := 1) 1 hC dX7_spansOf_1 rfl ?_
  refine V.iconst (pc := 2) 1 hC dX7_spansOf_2 (by decide) ?_
  refine V.sts (st' := [.int (nI 1), .int (nI p), .ref (b 20)]) (stc (nl 1) (stk (stk rfl))) ?_
  refine V.callV0 (pc := 3) (as := [.int (nI p), .int (nI 1)]) hC (c_X7_of μ ν p 1 hp (by omega)) mu_X7_of ml_X7_72 (by decide) ⟨0, 7, TX7, 20, _, rfl, gm_0⟩ rfl (Nat.le_of_ble_eq_true rfl) dX7_spansOf_3 ?_
  rintro _ _ rfl
  show V X (wM k b μ ν) [(0, .ref (b 20)), (1, .int (nI p))] [.int (μ 0 (31 + 3 * p + 1))] 6
  refine V.eqi (y := μ 0 (32 + 3 * p)) (congrArg (μ 0) (by omega)) ?_
  refine V.istore_n (pc := 6) [(2, .int (μ 0 (32 + 3 * p))), (0, .ref (b 20)), (1, .int (nI p))] hC dX7_spansOf_6 (by decide) rfl ?_
  refine V.aload_n (pc := 7) 1 hC dX7_spansOf_7 rfl ?_
  refine V.iload_n (pc := 8) 2 hC dX7_spansOf_8 rfl ?_
  refine V.iconst (pc := 9) 0 hC dX7_spansOf_9 (by decide) ?_
  refine V.sts (st' := [.int (nI 0), .int (nI p), .ref (b 20)]) (stc (nl 0) (stk (stk rfl))) ?_
  refine V.callV0 (pc := 10) (as := [.int (nI p), .int (nI 0)]) hC (c_X7_of μ ν p 0 hp (by omega)) mu_X7_of ml_X7_72 (by decide) ⟨0, 7, TX7, 20, _, rfl, gm_0⟩ rfl (Nat.le_of_ble_eq_true rfl) dX7_spansOf_10 ?_
  rintro _ _ rfl
  show V X (wM k b μ ν) [(2, .int (μ 0 (32 + 3 * p))), (0, .ref (b 20)), (1, .int (nI p))] [.int (μ 0 (31 + 3 * p + 0))] 13
  refine V.eqi (y := μ 0 (31 + 3 * p)) (congrArg (μ 0) (by omega)) ?_
  by_cases s_13_1 : μ 0 (31 + 3 * p) = 1
  · refine V.tableIn (pc := 13) 52 hC dX7_spansOf_13 (by rw [s_13_1]; decide) (by rw [s_13_1]; decide) (by rw [s_13_1]; rfl) (by decide) ?_
    refine V.iconst (pc := 52) 1 hC dX7_spansOf_52 (by decide) ?_
    refine V.iload_n (pc := 53) 0 hC dX7_spansOf_53 rfl ?_
    refine V.iconst (pc := 54) 3 hC dX7_spansOf_54 (by decide) ?_
    refine V.irem (pc := 55) hC dX7_spansOf_55 (by decide) ?_
    refine V.iadd (pc := 56) hC dX7_spansOf_56 ?_
    exact hR (1 + ((μ 0 (32 + 3 * p)) - (μ 0 (32 + 3 * p)) / 3 * 3)) () _ _ dX7_spansOf_57 rfl (ri (by simp [spansS, spanV, irm, s_13_1]))
  by_cases s_13_2 : μ 0 (31 + 3 * p) = 2
  · refine V.tableIn (pc := 13) 58 hC dX7_spansOf_13 (by rw [s_13_2]; decide) (by rw [s_13_2]; decide) (by rw [s_13_2]; rfl) (by decide) ?_
    refine V.iconst (pc := 58) 0 hC dX7_spansOf_58 (by decide) ?_
    exact hR 0 () _ _ dX7_spansOf_59 rfl (ri (by simp [spansS, spanV, irm, s_13_2]))
  by_cases s_13_3 : μ 0 (31 + 3 * p) = 3
  · refine V.tableIn (pc := 13) 65 hC dX7_spansOf_13 (by rw [s_13_3]; decide) (by rw [s_13_3]; decide) (by rw [s_13_3]; rfl) (by decide) ?_
    refine V.iconst (pc := 65) 1 hC dX7_spansOf_65 (by decide) ?_
    exact hR 1 () _ _ dX7_spansOf_66 rfl (ri (by simp [spansS, spanV, irm, s_13_3]))
  by_cases s_13_4 : μ 0 (31 + 3 * p) = 4
  · refine V.tableIn (pc := 13) 52 hC dX7_spansOf_13 (by rw [s_13_4]; decide) (by rw [s_13_4]; decide) (by rw [s_13_4]; rfl) (by decide) ?_
    refine V.iconst (pc := 52) 1 hC dX7_spansOf_52 (by decide) ?_
    refine V.iload_n (pc := 53) 0 hC dX7_spansOf_53 rfl ?_
    refine V.iconst (pc := 54) 3 hC dX7_spansOf_54 (by decide) ?_
    refine V.irem (pc := 55) hC dX7_spansOf_55 (by decide) ?_
    refine V.iadd (pc := 56) hC dX7_spansOf_56 ?_
    exact hR (1 + ((μ 0 (32 + 3 * p)) - (μ 0 (32 + 3 * p)) / 3 * 3)) () _ _ dX7_spansOf_57 rfl (ri (by simp [spansS, spanV, irm, s_13_4]))
  by_cases s_13_5 : μ 0 (31 + 3 * p) = 5
  · refine V.tableIn (pc := 13) 60 hC dX7_spansOf_13 (by rw [s_13_5]; decide) (by rw [s_13_5]; decide) (by rw [s_13_5]; rfl) (by decide) ?_
    refine V.iload_n (pc := 60) 0 hC dX7_spansOf_60 rfl ?_
    exact hR (μ 0 (32 + 3 * p)) () _ _ dX7_spansOf_61 rfl (ri (by simp [spansS, spanV, irm, s_13_5]))
  by_cases s_13_6 : μ 0 (31 + 3 * p) = 6
  · refine V.tableIn (pc := 13) 62 hC dX7_spansOf_13 (by rw [s_13_6]; decide) (by rw [s_13_6]; decide) (by rw [s_13_6]; rfl) (by decide) ?_
    refine V.bipush (pc := 62) 9 hC dX7_spansOf_62 (by decide) ?_
    exact hR 9 () _ _ dX7_spansOf_64 rfl (ri (by simp [spansS, spanV, irm, s_13_6]))
  refine V.tableOut (pc := 13) 65 hC dX7_spansOf_13 (by have ts_13_1 : ¬ (μ 0 (31 + 3 * p)).toInt = 1 := fun q => s_13_1 (Int32.toInt_inj.mp q); have ts_13_2 : ¬ (μ 0 (31 + 3 * p)).toInt = 2 := fun q => s_13_2 (Int32.toInt_inj.mp q); have ts_13_3 : ¬ (μ 0 (31 + 3 * p)).toInt = 3 := fun q => s_13_3 (Int32.toInt_inj.mp q); have ts_13_4 : ¬ (μ 0 (31 + 3 * p)).toInt = 4 := fun q => s_13_4 (Int32.toInt_inj.mp q); have ts_13_5 : ¬ (μ 0 (31 + 3 * p)).toInt = 5 := fun q => s_13_5 (Int32.toInt_inj.mp q); have ts_13_6 : ¬ (μ 0 (31 + 3 * p)).toInt = 6 := fun q => s_13_6 (Int32.toInt_inj.mp q); omega) (by decide) ?_
  refine V.iconst (pc := 65) 1 hC dX7_spansOf_65 (by decide) ?_
  exact hR 1 () _ _ dX7_spansOf_66 rfl (ri (by simp [spansS, spanV, irm, s_13_1, s_13_2, s_13_3, s_13_4, s_13_5, s_13_6]))
