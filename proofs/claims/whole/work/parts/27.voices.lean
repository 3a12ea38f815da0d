theorem V.lenAbove {X : Cx} {l : Launch} {D : va_G} {k : Nat → ClassId} {g : Nat → Nat} {cc : ByteArray} {own : String} {n fr lo : Nat} {ws : va_W} {lv : List (Nat × Value)} {st : List Value} {pc : Nat} (hC : Ok X l D k g cc own n fr lo) (hd : decode cc pc = .ok (.arraylength, 1)) (kk : V X ws lv (.int 7 :: st) (pc + 1)) : V X ws lv (.ref (g 0) :: st) pc := by
  obtain ⟨p, l, e, R, s, m, args, below, meth, c, Q, D, A, nL, cells, slots⟩ := X
  obtain ⟨rfl, rfl, rfl, hx, hb, hml, hown, hts, hK, hAm, hA, hfr, hlo, hce, hsl⟩ := hC
  intro H locs ls hP hD hS hl
  exact va_tlen hx hb hAm.2.2.1 hS rfl hd (kk H locs ls hP hD hS hl)
theorem sub_0 {x y : Int32} : x - y = 0 ↔ x = y := by
  constructor
  · intro h
    have : x - y + y = 0 + y := by rw [h]
    apply Int32.toBitVec_inj.mp
    have h2 := congrArg Int32.toBitVec h
    simp only [Int32.toBitVec_sub] at h2
    have h3 : (0 : Int32).toBitVec = 0#32 := rfl
    rw [h3] at h2
    bv_omega
  · intro h; rw [h]; simp

set_option maxHeartbeats 4000000 in
set_option maxRecDepth 100000 in
theorem c_find_0_0 {l : Launch} {D : va_G} {k : Nat → ClassId} {g : Nat → Nat}   : Ct l D k g yX4_find cX4_find 5 (some .int) 0 0 [.int 0, .int 0] (S := Unit) ([]) (fun _ => []) (fun vv _ => vv = some (.int 10)) := by
  refine Ct.ofI RX4 rfl (by decide +kernel) (Nat.le_of_ble_eq_true rfl) (fun X hC hR => ?_)
  show V X ([]) [(0, .int 0), (1, .int 0)] [] 0
  refine V.iload_n (pc := 0) 1 hC dX4_find_0 rfl ?_
  refine V.istore_n (pc := 1) [(2, .int 0), (0, .int 0), (1, .int 0)] hC dX4_find_1 (by decide) rfl ?_
  refine V.iconst (pc := 2) 0 hC dX4_find_2 (by decide) ?_
  refine V.istore_n (pc := 3) [(3, .int 0), (2, .int 0), (0, .int 0), (1, .int 0)] hC dX4_find_3 (by decide) rfl ?_
  refine V.iload_n (pc := 4) 0 hC dX4_find_4 rfl ?_
  refine V.getAboveN (pc := 5) hC dX4_find_5 rfl ?_
  refine V.lenAbove (pc := 8) hC dX4_find_8 ?_
  refine V.icmp_ge (pc := 9) 47 hC dX4_find_9 (by decide) (fun c_9 => ?_) (fun c_9 => ?_)
  · have nc_9 : 7 ≤ 0 := (nle (nl 7) (nl 0) (by omega) (by omega)).mp c_9
    exact absurd c_9 (by decide)
  · have nc_9 : ¬ (7 ≤ 0) := fun z => c_9 ((nle (nl 7) (nl 0) (by omega) (by omega)).mpr z)
    refine V.iload_n (pc := 12) 1 hC dX4_find_12 rfl ?_
    refine V.if_le (pc := 13) 47 hC dX4_find_13 (by decide) (fun c_13 => ?_) (fun c_13 => ?_)
    · have nc_13 : 0 ≤ 0 := (nle (nl 0) (nl 0) (by omega) (by omega)).mp c_13
      refine V.getBodies (pc := 47) hC fl_X4_46 dX4_find_47 ?_
      refine V.iconst (pc := 50) 0 hC dX4_find_50 (by decide) ?_
      refine V.iload_n (pc := 51) 2 hC dX4_find_51 rfl ?_
      refine V.iadd (pc := 52) hC dX4_find_52 ?_
      refine V.eqi (y := 0) (by decide) ?_
      refine V.ldBodies (pc := 53) hC 0 10 (nl 0) (by decide) rfl dX4_find_53 ?_
      exact hR 10 () _ _ dX4_find_54 rfl rfl
    · have nc_13 : ¬ (0 ≤ 0) := fun z => c_13 ((nle (nl 0) (nl 0) (by omega) (by omega)).mpr z)
      exact absurd c_13 (by decide)
set_option maxHeartbeats 4000000 in
set_option maxRecDepth 100000 in
theorem c_find_0_1 {l : Launch} {D : va_G} {k : Nat → ClassId} {g : Nat → Nat}   : Ct l D k g yX4_find cX4_find 5 (some .int) 0 0 [.int 0, .int 1] (S := Unit) ([]) (fun _ => []) (fun vv _ => vv = some (.int 20)) := by
  refine Ct.ofI RX4 rfl (by decide +kernel) (Nat.le_of_ble_eq_true rfl) (fun X hC hR => ?_)
  show V X ([]) [(0, .int 0), (1, .int 1)] [] 0
  refine V.iload_n (pc := 0) 1 hC dX4_find_0 rfl ?_
  refine V.istore_n (pc := 1) [(2, .int 1), (0, .int 0), (1, .int 1)] hC dX4_find_1 (by decide) rfl ?_
  refine V.iconst (pc := 2) 0 hC dX4_find_2 (by decide) ?_
  refine V.istore_n (pc := 3) [(3, .int 0), (2, .int 1), (0, .int 0), (1, .int 1)] hC dX4_find_3 (by decide) rfl ?_
  refine V.iload_n (pc := 4) 0 hC dX4_find_4 rfl ?_
  refine V.getAboveN (pc := 5) hC dX4_find_5 rfl ?_
  refine V.lenAbove (pc := 8) hC dX4_find_8 ?_
  refine V.icmp_ge (pc := 9) 47 hC dX4_find_9 (by decide) (fun c_9 => ?_) (fun c_9 => ?_)
  · have nc_9 : 7 ≤ 0 := (nle (nl 7) (nl 0) (by omega) (by omega)).mp c_9
    exact absurd c_9 (by decide)
  · have nc_9 : ¬ (7 ≤ 0) := fun z => c_9 ((nle (nl 7) (nl 0) (by omega) (by omega)).mpr z)
    refine V.iload_n (pc := 12) 1 hC dX4_find_12 rfl ?_
    refine V.if_le (pc := 13) 47 hC dX4_find_13 (by decide) (fun c_13 => ?_) (fun c_13 => ?_)
    · have nc_13 : 1 ≤ 0 := (nle (nl 1) (nl 0) (by omega) (by omega)).mp c_13
      exact absurd c_13 (by decide)
    · have nc_13 : ¬ (1 ≤ 0) := fun z => c_13 ((nle (nl 1) (nl 0) (by omega) (by omega)).mpr z)
      refine V.getBodies (pc := 16) hC fl_X4_46 dX4_find_16 ?_
      refine V.iload_n (pc := 19) 1 hC dX4_find_19 rfl ?_
      refine V.iconst (pc := 20) 4 hC dX4_find_20 (by decide) ?_
      refine V.imul (pc := 21) hC dX4_find_21 ?_
      refine V.eqi (y := 4) (by decide) ?_
      refine V.iload_n (pc := 22) 2 hC dX4_find_22 rfl ?_
      refine V.iadd (pc := 23) hC dX4_find_23 ?_
      refine V.eqi (y := 4) (by decide) ?_
      refine V.ldBodies (pc := 24) hC 4 20 (nl 4) (by decide) rfl dX4_find_24 ?_
      refine V.istore (pc := 25) [(4, .int 20), (3, .int 0), (2, .int 1), (0, .int 0), (1, .int 1)] hC dX4_find_25 (by decide) rfl ?_
      refine V.iload (pc := 27) 0 hC dX4_find_27 rfl ?_
      refine V.if_eq (pc := 29) 35 hC dX4_find_29 (by decide) (fun c_29 => ?_) (fun c_29 => ?_)
      · have nc_29 : 20 = 0 := (neq (nl 20) (nl 0) (by omega) (by omega)).mp c_29
        exact absurd c_29 (by decide)
      · have nc_29 : ¬ (20 = 0) := fun z => c_29 ((neq (nl 20) (nl 0) (by omega) (by omega)).mpr z)
        refine V.iload (pc := 32) 0 hC dX4_find_32 rfl ?_
        exact hR 20 () _ _ dX4_find_34 rfl rfl
set_option maxHeartbeats 4000000 in
set_option maxRecDepth 100000 in
theorem c_find_0_2 {l : Launch} {D : va_G} {k : Nat → ClassId} {g : Nat → Nat}   : Ct l D k g yX4_find cX4_find 5 (some .int) 0 0 [.int 0, .int 2] (S := Unit) ([]) (fun _ => []) (fun vv _ => vv = some (.int 10)) := by
  refine Ct.ofI RX4 rfl (by decide +kernel) (Nat.le_of_ble_eq_true rfl) (fun X hC hR => ?_)
  show V X ([]) [(0, .int 0), (1, .int 2)] [] 0
  refine V.iload_n (pc := 0) 1 hC dX4_find_0 rfl ?_
  refine V.istore_n (pc := 1) [(2, .int 2), (0, .int 0), (1, .int 2)] hC dX4_find_1 (by decide) rfl ?_
  refine V.iconst (pc := 2) 0 hC dX4_find_2 (by decide) ?_
  refine V.istore_n (pc := 3) [(3, .int 0), (2, .int 2), (0, .int 0), (1, .int 2)] hC dX4_find_3 (by decide) rfl ?_
  refine V.iload_n (pc := 4) 0 hC dX4_find_4 rfl ?_
  refine V.getAboveN (pc := 5) hC dX4_find_5 rfl ?_
  refine V.lenAbove (pc := 8) hC dX4_find_8 ?_
  refine V.icmp_ge (pc := 9) 47 hC dX4_find_9 (by decide) (fun c_9 => ?_) (fun c_9 => ?_)
  · have nc_9 : 7 ≤ 0 := (nle (nl 7) (nl 0) (by omega) (by omega)).mp c_9
    exact absurd c_9 (by decide)
  · have nc_9 : ¬ (7 ≤ 0) := fun z => c_9 ((nle (nl 7) (nl 0) (by omega) (by omega)).mpr z)
    refine V.iload_n (pc := 12) 1 hC dX4_find_12 rfl ?_
    refine V.if_le (pc := 13) 47 hC dX4_find_13 (by decide) (fun c_13 => ?_) (fun c_13 => ?_)
    · have nc_13 : 2 ≤ 0 := (nle (nl 2) (nl 0) (by omega) (by omega)).mp c_13
      exact absurd c_13 (by decide)
    · have nc_13 : ¬ (2 ≤ 0) := fun z => c_13 ((nle (nl 2) (nl 0) (by omega) (by omega)).mpr z)
      refine V.getBodies (pc := 16) hC fl_X4_46 dX4_find_16 ?_
      refine V.iload_n (pc := 19) 1 hC dX4_find_19 rfl ?_
      refine V.iconst (pc := 20) 4 hC dX4_find_20 (by decide) ?_
      refine V.imul (pc := 21) hC dX4_find_21 ?_
      refine V.eqi (y := 8) (by decide) ?_
      refine V.iload_n (pc := 22) 2 hC dX4_find_22 rfl ?_
      refine V.iadd (pc := 23) hC dX4_find_23 ?_
      refine V.eqi (y := 8) (by decide) ?_
      refine V.ldBodies (pc := 24) hC 8 0 (nl 8) (by decide) rfl dX4_find_24 ?_
      refine V.istore (pc := 25) [(4, .int 0), (3, .int 0), (2, .int 2), (0, .int 0), (1, .int 2)] hC dX4_find_25 (by decide) rfl ?_
      refine V.iload (pc := 27) 0 hC dX4_find_27 rfl ?_
      refine V.if_eq (pc := 29) 35 hC dX4_find_29 (by decide) (fun c_29 => ?_) (fun c_29 => ?_)
      · have nc_29 : 0 = 0 := (neq (nl 0) (nl 0) (by omega) (by omega)).mp c_29
        refine V.getAboveN (pc := 35) hC dX4_find_35 rfl ?_
        refine V.iload_n (pc := 38) 2 hC dX4_find_38 rfl ?_
        refine V.ldAbove (pc := 39) hC 2 0 (nl 2) (by decide) rfl dX4_find_39 ?_
        refine V.istore_n (pc := 40) [(2, .int 0), (4, .int 0), (3, .int 0), (0, .int 0), (1, .int 2)] hC dX4_find_40 (by decide) rfl ?_
        refine V.iinc (pc := 41) 2 (nI 1) [(3, .int (nI 1)), (2, .int 0), (4, .int 0), (0, .int 0), (1, .int 2)] hC dX4_find_41 rfl (ncast (nadd (nl 0) (nl 1)) (by omega)) (by decide) rfl ?_
        refine V.goto (pc := 44) 4 hC dX4_find_44 (by decide) ?_
        refine V.iload_n (pc := 4) 0 hC dX4_find_4 rfl ?_
        refine V.getAboveN (pc := 5) hC dX4_find_5 rfl ?_
        refine V.lenAbove (pc := 8) hC dX4_find_8 ?_
        refine V.icmp_ge (pc := 9) 47 hC dX4_find_9 (by decide) (fun c_9_2 => ?_) (fun c_9_2 => ?_)
        · have nc_9_2 : 7 ≤ 1 := (nle (nl 7) rfl (by omega) (by omega)).mp c_9_2
          exact absurd c_9_2 (by decide)
        · have nc_9_2 : ¬ (7 ≤ 1) := fun z => c_9_2 ((nle (nl 7) rfl (by omega) (by omega)).mpr z)
          refine V.iload_n (pc := 12) 1 hC dX4_find_12 rfl ?_
          refine V.if_le (pc := 13) 47 hC dX4_find_13 (by decide) (fun c_13_2 => ?_) (fun c_13_2 => ?_)
          · have nc_13_2 : 0 ≤ 0 := (nle (nl 0) (nl 0) (by omega) (by omega)).mp c_13_2
            refine V.getBodies (pc := 47) hC fl_X4_46 dX4_find_47 ?_
            refine V.iconst (pc := 50) 0 hC dX4_find_50 (by decide) ?_
            refine V.iload_n (pc := 51) 3 hC dX4_find_51 rfl ?_
            refine V.iadd (pc := 52) hC dX4_find_52 ?_
            refine V.eqi (y := 0) (by decide) ?_
            refine V.ldBodies (pc := 53) hC 0 10 (nl 0) (by decide) rfl dX4_find_53 ?_
            exact hR 10 () _ _ dX4_find_54 rfl rfl
          · have nc_13_2 : ¬ (0 ≤ 0) := fun z => c_13_2 ((nle (nl 0) (nl 0) (by omega) (by omega)).mpr z)
            exact absurd c_13_2 (by decide)
      · have nc_29 : ¬ (0 = 0) := fun z => c_29 ((neq (nl 0) (nl 0) (by omega) (by omega)).mpr z)
        exact absurd c_29 (by decide)
set_option maxHeartbeats 4000000 in
set_option maxRecDepth 100000 in
theorem c_find_0_3 {l : Launch} {D : va_G} {k : Nat → ClassId} {g : Nat → Nat}   : Ct l D k g yX4_find cX4_find 5 (some .int) 0 0 [.int 0, .int 3] (S := Unit) ([]) (fun _ => []) (fun vv _ => vv = some (.int 10)) := by
  refine Ct.ofI RX4 rfl (by decide +kernel) (Nat.le_of_ble_eq_true rfl) (fun X hC hR => ?_)
  show V X ([]) [(0, .int 0), (1, .int 3)] [] 0
  refine V.iload_n (pc := 0) 1 hC dX4_find_0 rfl ?_
  refine V.istore_n (pc := 1) [(2, .int 3), (0, .int 0), (1, .int 3)] hC dX4_find_1 (by decide) rfl ?_
  refine V.iconst (pc := 2) 0 hC dX4_find_2 (by decide) ?_
  refine V.istore_n (pc := 3) [(3, .int 0), (2, .int 3), (0, .int 0), (1, .int 3)] hC dX4_find_3 (by decide) rfl ?_
  refine V.iload_n (pc := 4) 0 hC dX4_find_4 rfl ?_
  refine V.getAboveN (pc := 5) hC dX4_find_5 rfl ?_
  refine V.lenAbove (pc := 8) hC dX4_find_8 ?_
  refine V.icmp_ge (pc := 9) 47 hC dX4_find_9 (by decide) (fun c_9 => ?_) (fun c_9 => ?_)
  · have nc_9 : 7 ≤ 0 := (nle (nl 7) (nl 0) (by omega) (by omega)).mp c_9
    exact absurd c_9 (by decide)
  · have nc_9 : ¬ (7 ≤ 0) := fun z => c_9 ((nle (nl 7) (nl 0) (by omega) (by omega)).mpr z)
    refine V.iload_n (pc := 12) 1 hC dX4_find_12 rfl ?_
    refine V.if_le (pc := 13) 47 hC dX4_find_13 (by decide) (fun c_13 => ?_) (fun c_13 => ?_)
    · have nc_13 : 3 ≤ 0 := (nle (nl 3) (nl 0) (by omega) (by omega)).mp c_13
      exact absurd c_13 (by decide)
    · have nc_13 : ¬ (3 ≤ 0) := fun z => c_13 ((nle (nl 3) (nl 0) (by omega) (by omega)).mpr z)
      refine V.getBodies (pc := 16) hC fl_X4_46 dX4_find_16 ?_
      refine V.iload_n (pc := 19) 1 hC dX4_find_19 rfl ?_
      refine V.iconst (pc := 20) 4 hC dX4_find_20 (by decide) ?_
      refine V.imul (pc := 21) hC dX4_find_21 ?_
      refine V.eqi (y := 12) (by decide) ?_
      refine V.iload_n (pc := 22) 2 hC dX4_find_22 rfl ?_
      refine V.iadd (pc := 23) hC dX4_find_23 ?_
      refine V.eqi (y := 12) (by decide) ?_
      refine V.ldBodies (pc := 24) hC 12 0 (nl 12) (by decide) rfl dX4_find_24 ?_
      refine V.istore (pc := 25) [(4, .int 0), (3, .int 0), (2, .int 3), (0, .int 0), (1, .int 3)] hC dX4_find_25 (by decide) rfl ?_
      refine V.iload (pc := 27) 0 hC dX4_find_27 rfl ?_
      refine V.if_eq (pc := 29) 35 hC dX4_find_29 (by decide) (fun c_29 => ?_) (fun c_29 => ?_)
      · have nc_29 : 0 = 0 := (neq (nl 0) (nl 0) (by omega) (by omega)).mp c_29
        refine V.getAboveN (pc := 35) hC dX4_find_35 rfl ?_
        refine V.iload_n (pc := 38) 2 hC dX4_find_38 rfl ?_
        refine V.ldAbove (pc := 39) hC 3 0 (nl 3) (by decide) rfl dX4_find_39 ?_
        refine V.istore_n (pc := 40) [(2, .int 0), (4, .int 0), (3, .int 0), (0, .int 0), (1, .int 3)] hC dX4_find_40 (by decide) rfl ?_
        refine V.iinc (pc := 41) 2 (nI 1) [(3, .int (nI 1)), (2, .int 0), (4, .int 0), (0, .int 0), (1, .int 3)] hC dX4_find_41 rfl (ncast (nadd (nl 0) (nl 1)) (by omega)) (by decide) rfl ?_
        refine V.goto (pc := 44) 4 hC dX4_find_44 (by decide) ?_
        refine V.iload_n (pc := 4) 0 hC dX4_find_4 rfl ?_
        refine V.getAboveN (pc := 5) hC dX4_find_5 rfl ?_
        refine V.lenAbove (pc := 8) hC dX4_find_8 ?_
        refine V.icmp_ge (pc := 9) 47 hC dX4_find_9 (by decide) (fun c_9_2 => ?_) (fun c_9_2 => ?_)
        · have nc_9_2 : 7 ≤ 1 := (nle (nl 7) rfl (by omega) (by omega)).mp c_9_2
          exact absurd c_9_2 (by decide)
        · have nc_9_2 : ¬ (7 ≤ 1) := fun z => c_9_2 ((nle (nl 7) rfl (by omega) (by omega)).mpr z)
          refine V.iload_n (pc := 12) 1 hC dX4_find_12 rfl ?_
          refine V.if_le (pc := 13) 47 hC dX4_find_13 (by decide) (fun c_13_2 => ?_) (fun c_13_2 => ?_)
          · have nc_13_2 : 0 ≤ 0 := (nle (nl 0) (nl 0) (by omega) (by omega)).mp c_13_2
            refine V.getBodies (pc := 47) hC fl_X4_46 dX4_find_47 ?_
            refine V.iconst (pc := 50) 0 hC dX4_find_50 (by decide) ?_
            refine V.iload_n (pc := 51) 3 hC dX4_find_51 rfl ?_
            refine V.iadd (pc := 52) hC dX4_find_52 ?_
            refine V.eqi (y := 0) (by decide) ?_
            refine V.ldBodies (pc := 53) hC 0 10 (nl 0) (by decide) rfl dX4_find_53 ?_
            exact hR 10 () _ _ dX4_find_54 rfl rfl
          · have nc_13_2 : ¬ (0 ≤ 0) := fun z => c_13_2 ((nle (nl 0) (nl 0) (by omega) (by omega)).mpr z)
            exact absurd c_13_2 (by decide)
      · have nc_29 : ¬ (0 = 0) := fun z => c_29 ((neq (nl 0) (nl 0) (by omega) (by omega)).mpr z)
        exact absurd c_29 (by decide)
set_option maxHeartbeats 4000000 in
set_option maxRecDepth 100000 in
theorem c_find_0_4 {l : Launch} {D : va_G} {k : Nat → ClassId} {g : Nat → Nat}   : Ct l D k g yX4_find cX4_find 5 (some .int) 0 0 [.int 0, .int 4] (S := Unit) ([]) (fun _ => []) (fun vv _ => vv = some (.int 50)) := by
  refine Ct.ofI RX4 rfl (by decide +kernel) (Nat.le_of_ble_eq_true rfl) (fun X hC hR => ?_)
  show V X ([]) [(0, .int 0), (1, .int 4)] [] 0
  refine V.iload_n (pc := 0) 1 hC dX4_find_0 rfl ?_
  refine V.istore_n (pc := 1) [(2, .int 4), (0, .int 0), (1, .int 4)] hC dX4_find_1 (by decide) rfl ?_
  refine V.iconst (pc := 2) 0 hC dX4_find_2 (by decide) ?_
  refine V.istore_n (pc := 3) [(3, .int 0), (2, .int 4), (0, .int 0), (1, .int 4)] hC dX4_find_3 (by decide) rfl ?_
  refine V.iload_n (pc := 4) 0 hC dX4_find_4 rfl ?_
  refine V.getAboveN (pc := 5) hC dX4_find_5 rfl ?_
  refine V.lenAbove (pc := 8) hC dX4_find_8 ?_
  refine V.icmp_ge (pc := 9) 47 hC dX4_find_9 (by decide) (fun c_9 => ?_) (fun c_9 => ?_)
  · have nc_9 : 7 ≤ 0 := (nle (nl 7) (nl 0) (by omega) (by omega)).mp c_9
    exact absurd c_9 (by decide)
  · have nc_9 : ¬ (7 ≤ 0) := fun z => c_9 ((nle (nl 7) (nl 0) (by omega) (by omega)).mpr z)
    refine V.iload_n (pc := 12) 1 hC dX4_find_12 rfl ?_
    refine V.if_le (pc := 13) 47 hC dX4_find_13 (by decide) (fun c_13 => ?_) (fun c_13 => ?_)
    · have nc_13 : 4 ≤ 0 := (nle (nl 4) (nl 0) (by omega) (by omega)).mp c_13
      exact absurd c_13 (by decide)
    · have nc_13 : ¬ (4 ≤ 0) := fun z => c_13 ((nle (nl 4) (nl 0) (by omega) (by omega)).mpr z)
      refine V.getBodies (pc := 16) hC fl_X4_46 dX4_find_16 ?_
      refine V.iload_n (pc := 19) 1 hC dX4_find_19 rfl ?_
      refine V.iconst (pc := 20) 4 hC dX4_find_20 (by decide) ?_
      refine V.imul (pc := 21) hC dX4_find_21 ?_
      refine V.eqi (y := 16) (by decide) ?_
      refine V.iload_n (pc := 22) 2 hC dX4_find_22 rfl ?_
      refine V.iadd (pc := 23) hC dX4_find_23 ?_
      refine V.eqi (y := 16) (by decide) ?_
      refine V.ldBodies (pc := 24) hC 16 50 (nl 16) (by decide) rfl dX4_find_24 ?_
      refine V.istore (pc := 25) [(4, .int 50), (3, .int 0), (2, .int 4), (0, .int 0), (1, .int 4)] hC dX4_find_25 (by decide) rfl ?_
      refine V.iload (pc := 27) 0 hC dX4_find_27 rfl ?_
      refine V.if_eq (pc := 29) 35 hC dX4_find_29 (by decide) (fun c_29 => ?_) (fun c_29 => ?_)
      · have nc_29 : 50 = 0 := (neq (nl 50) (nl 0) (by omega) (by omega)).mp c_29
        exact absurd c_29 (by decide)
      · have nc_29 : ¬ (50 = 0) := fun z => c_29 ((neq (nl 50) (nl 0) (by omega) (by omega)).mpr z)
        refine V.iload (pc := 32) 0 hC dX4_find_32 rfl ?_
        exact hR 50 () _ _ dX4_find_34 rfl rfl
set_option maxHeartbeats 4000000 in
set_option maxRecDepth 100000 in
theorem c_find_0_5 {l : Launch} {D : va_G} {k : Nat → ClassId} {g : Nat → Nat}   : Ct l D k g yX4_find cX4_find 5 (some .int) 0 0 [.int 0, .int 5] (S := Unit) ([]) (fun _ => []) (fun vv _ => vv = some (.int 10)) := by
  refine Ct.ofI RX4 rfl (by decide +kernel) (Nat.le_of_ble_eq_true rfl) (fun X hC hR => ?_)
  show V X ([]) [(0, .int 0), (1, .int 5)] [] 0
  refine V.iload_n (pc := 0) 1 hC dX4_find_0 rfl ?_
  refine V.istore_n (pc := 1) [(2, .int 5), (0, .int 0), (1, .int 5)] hC dX4_find_1 (by decide) rfl ?_
  refine V.iconst (pc := 2) 0 hC dX4_find_2 (by decide) ?_
  refine V.istore_n (pc := 3) [(3, .int 0), (2, .int 5), (0, .int 0), (1, .int 5)] hC dX4_find_3 (by decide) rfl ?_
  refine V.iload_n (pc := 4) 0 hC dX4_find_4 rfl ?_
  refine V.getAboveN (pc := 5) hC dX4_find_5 rfl ?_
  refine V.lenAbove (pc := 8) hC dX4_find_8 ?_
  refine V.icmp_ge (pc := 9) 47 hC dX4_find_9 (by decide) (fun c_9 => ?_) (fun c_9 => ?_)
  · have nc_9 : 7 ≤ 0 := (nle (nl 7) (nl 0) (by omega) (by omega)).mp c_9
    exact absurd c_9 (by decide)
  · have nc_9 : ¬ (7 ≤ 0) := fun z => c_9 ((nle (nl 7) (nl 0) (by omega) (by omega)).mpr z)
    refine V.iload_n (pc := 12) 1 hC dX4_find_12 rfl ?_
    refine V.if_le (pc := 13) 47 hC dX4_find_13 (by decide) (fun c_13 => ?_) (fun c_13 => ?_)
    · have nc_13 : 5 ≤ 0 := (nle (nl 5) (nl 0) (by omega) (by omega)).mp c_13
      exact absurd c_13 (by decide)
    · have nc_13 : ¬ (5 ≤ 0) := fun z => c_13 ((nle (nl 5) (nl 0) (by omega) (by omega)).mpr z)
      refine V.getBodies (pc := 16) hC fl_X4_46 dX4_find_16 ?_
      refine V.iload_n (pc := 19) 1 hC dX4_find_19 rfl ?_
      refine V.iconst (pc := 20) 4 hC dX4_find_20 (by decide) ?_
      refine V.imul (pc := 21) hC dX4_find_21 ?_
      refine V.eqi (y := 20) (by decide) ?_
      refine V.iload_n (pc := 22) 2 hC dX4_find_22 rfl ?_
      refine V.iadd (pc := 23) hC dX4_find_23 ?_
      refine V.eqi (y := 20) (by decide) ?_
      refine V.ldBodies (pc := 24) hC 20 0 (nl 20) (by decide) rfl dX4_find_24 ?_
      refine V.istore (pc := 25) [(4, .int 0), (3, .int 0), (2, .int 5), (0, .int 0), (1, .int 5)] hC dX4_find_25 (by decide) rfl ?_
      refine V.iload (pc := 27) 0 hC dX4_find_27 rfl ?_
      refine V.if_eq (pc := 29) 35 hC dX4_find_29 (by decide) (fun c_29 => ?_) (fun c_29 => ?_)
      · have nc_29 : 0 = 0 := (neq (nl 0) (nl 0) (by omega) (by omega)).mp c_29
        refine V.getAboveN (pc := 35) hC dX4_find_35 rfl ?_
        refine V.iload_n (pc := 38) 2 hC dX4_find_38 rfl ?_
        refine V.ldAbove (pc := 39) hC 5 2 (nl 5) (by decide) rfl dX4_find_39 ?_
        refine V.istore_n (pc := 40) [(2, .int 2), (4, .int 0), (3, .int 0), (0, .int 0), (1, .int 5)] hC dX4_find_40 (by decide) rfl ?_
        refine V.iinc (pc := 41) 2 (nI 1) [(3, .int (nI 1)), (2, .int 2), (4, .int 0), (0, .int 0), (1, .int 5)] hC dX4_find_41 rfl (ncast (nadd (nl 0) (nl 1)) (by omega)) (by decide) rfl ?_
        refine V.goto (pc := 44) 4 hC dX4_find_44 (by decide) ?_
        refine V.iload_n (pc := 4) 0 hC dX4_find_4 rfl ?_
        refine V.getAboveN (pc := 5) hC dX4_find_5 rfl ?_
        refine V.lenAbove (pc := 8) hC dX4_find_8 ?_
        refine V.icmp_ge (pc := 9) 47 hC dX4_find_9 (by decide) (fun c_9_2 => ?_) (fun c_9_2 => ?_)
        · have nc_9_2 : 7 ≤ 1 := (nle (nl 7) rfl (by omega) (by omega)).mp c_9_2
          exact absurd c_9_2 (by decide)
        · have nc_9_2 : ¬ (7 ≤ 1) := fun z => c_9_2 ((nle (nl 7) rfl (by omega) (by omega)).mpr z)
          refine V.iload_n (pc := 12) 1 hC dX4_find_12 rfl ?_
          refine V.if_le (pc := 13) 47 hC dX4_find_13 (by decide) (fun c_13_2 => ?_) (fun c_13_2 => ?_)
          · have nc_13_2 : 2 ≤ 0 := (nle (nl 2) (nl 0) (by omega) (by omega)).mp c_13_2
            exact absurd c_13_2 (by decide)
          · have nc_13_2 : ¬ (2 ≤ 0) := fun z => c_13_2 ((nle (nl 2) (nl 0) (by omega) (by omega)).mpr z)
            refine V.getBodies (pc := 16) hC fl_X4_46 dX4_find_16 ?_
            refine V.iload_n (pc := 19) 1 hC dX4_find_19 rfl ?_
            refine V.iconst (pc := 20) 4 hC dX4_find_20 (by decide) ?_
            refine V.imul (pc := 21) hC dX4_find_21 ?_
            refine V.eqi (y := 8) (by decide) ?_
            refine V.iload_n (pc := 22) 3 hC dX4_find_22 rfl ?_
            refine V.iadd (pc := 23) hC dX4_find_23 ?_
            refine V.eqi (y := 8) (by decide) ?_
            refine V.ldBodies (pc := 24) hC 8 0 (nl 8) (by decide) rfl dX4_find_24 ?_
            refine V.istore (pc := 25) [(4, .int 0), (3, .int (nI 1)), (2, .int 2), (0, .int 0), (1, .int 5)] hC dX4_find_25 (by decide) rfl ?_
            refine V.iload (pc := 27) 0 hC dX4_find_27 rfl ?_
            refine V.if_eq (pc := 29) 35 hC dX4_find_29 (by decide) (fun c_29_2 => ?_) (fun c_29_2 => ?_)
            · have nc_29_2 : 0 = 0 := (neq (nl 0) (nl 0) (by omega) (by omega)).mp c_29_2
              refine V.getAboveN (pc := 35) hC dX4_find_35 rfl ?_
              refine V.iload_n (pc := 38) 2 hC dX4_find_38 rfl ?_
              refine V.ldAbove (pc := 39) hC 2 0 (nl 2) (by decide) rfl dX4_find_39 ?_
              refine V.istore_n (pc := 40) [(2, .int 0), (4, .int 0), (3, .int (nI 1)), (0, .int 0), (1, .int 5)] hC dX4_find_40 (by decide) rfl ?_
              refine V.iinc (pc := 41) 2 (nI 2) [(3, .int (nI 2)), (2, .int 0), (4, .int 0), (0, .int 0), (1, .int 5)] hC dX4_find_41 rfl (ncast (nadd rfl (nl 1)) (by omega)) (by decide) rfl ?_
              refine V.goto (pc := 44) 4 hC dX4_find_44 (by decide) ?_
              refine V.iload_n (pc := 4) 0 hC dX4_find_4 rfl ?_
              refine V.getAboveN (pc := 5) hC dX4_find_5 rfl ?_
              refine V.lenAbove (pc := 8) hC dX4_find_8 ?_
              refine V.icmp_ge (pc := 9) 47 hC dX4_find_9 (by decide) (fun c_9_3 => ?_) (fun c_9_3 => ?_)
              · have nc_9_3 : 7 ≤ 2 := (nle (nl 7) rfl (by omega) (by omega)).mp c_9_3
                exact absurd c_9_3 (by decide)
              · have nc_9_3 : ¬ (7 ≤ 2) := fun z => c_9_3 ((nle (nl 7) rfl (by omega) (by omega)).mpr z)
                refine V.iload_n (pc := 12) 1 hC dX4_find_12 rfl ?_
                refine V.if_le (pc := 13) 47 hC dX4_find_13 (by decide) (fun c_13_3 => ?_) (fun c_13_3 => ?_)
                · have nc_13_3 : 0 ≤ 0 := (nle (nl 0) (nl 0) (by omega) (by omega)).mp c_13_3
                  refine V.getBodies (pc := 47) hC fl_X4_46 dX4_find_47 ?_
                  refine V.iconst (pc := 50) 0 hC dX4_find_50 (by decide) ?_
                  refine V.iload_n (pc := 51) 3 hC dX4_find_51 rfl ?_
                  refine V.iadd (pc := 52) hC dX4_find_52 ?_
                  refine V.eqi (y := 0) (by decide) ?_
                  refine V.ldBodies (pc := 53) hC 0 10 (nl 0) (by decide) rfl dX4_find_53 ?_
                  exact hR 10 () _ _ dX4_find_54 rfl rfl
                · have nc_13_3 : ¬ (0 ≤ 0) := fun z => c_13_3 ((nle (nl 0) (nl 0) (by omega) (by omega)).mpr z)
                  exact absurd c_13_3 (by decide)
            · have nc_29_2 : ¬ (0 = 0) := fun z => c_29_2 ((neq (nl 0) (nl 0) (by omega) (by omega)).mpr z)
              exact absurd c_29_2 (by decide)
      · have nc_29 : ¬ (0 = 0) := fun z => c_29 ((neq (nl 0) (nl 0) (by omega) (by omega)).mpr z)
        exact absurd c_29 (by decide)
set_option maxHeartbeats 4000000 in
set_option maxRecDepth 100000 in
theorem c_find_0_6 {l : Launch} {D : va_G} {k : Nat → ClassId} {g : Nat → Nat}   : Ct l D k g yX4_find cX4_find 5 (some .int) 0 0 [.int 0, .int 6] (S := Unit) ([]) (fun _ => []) (fun vv _ => vv = some (.int 70)) := by
  refine Ct.ofI RX4 rfl (by decide +kernel) (Nat.le_of_ble_eq_true rfl) (fun X hC hR => ?_)
  show V X ([]) [(0, .int 0), (1, .int 6)] [] 0
  refine V.iload_n (pc := 0) 1 hC dX4_find_0 rfl ?_
  refine V.istore_n (pc := 1) [(2, .int 6), (0, .int 0), (1, .int 6)] hC dX4_find_1 (by decide) rfl ?_
  refine V.iconst (pc := 2) 0 hC dX4_find_2 (by decide) ?_
  refine V.istore_n (pc := 3) [(3, .int 0), (2, .int 6), (0, .int 0), (1, .int 6)] hC dX4_find_3 (by decide) rfl ?_
  refine V.iload_n (pc := 4) 0 hC dX4_find_4 rfl ?_
  refine V.getAboveN (pc := 5) hC dX4_find_5 rfl ?_
  refine V.lenAbove (pc := 8) hC dX4_find_8 ?_
  refine V.icmp_ge (pc := 9) 47 hC dX4_find_9 (by decide) (fun c_9 => ?_) (fun c_9 => ?_)
  · have nc_9 : 7 ≤ 0 := (nle (nl 7) (nl 0) (by omega) (by omega)).mp c_9
    exact absurd c_9 (by decide)
  · have nc_9 : ¬ (7 ≤ 0) := fun z => c_9 ((nle (nl 7) (nl 0) (by omega) (by omega)).mpr z)
    refine V.iload_n (pc := 12) 1 hC dX4_find_12 rfl ?_
    refine V.if_le (pc := 13) 47 hC dX4_find_13 (by decide) (fun c_13 => ?_) (fun c_13 => ?_)
    · have nc_13 : 6 ≤ 0 := (nle (nl 6) (nl 0) (by omega) (by omega)).mp c_13
      exact absurd c_13 (by decide)
    · have nc_13 : ¬ (6 ≤ 0) := fun z => c_13 ((nle (nl 6) (nl 0) (by omega) (by omega)).mpr z)
      refine V.getBodies (pc := 16) hC fl_X4_46 dX4_find_16 ?_
      refine V.iload_n (pc := 19) 1 hC dX4_find_19 rfl ?_
      refine V.iconst (pc := 20) 4 hC dX4_find_20 (by decide) ?_
      refine V.imul (pc := 21) hC dX4_find_21 ?_
      refine V.eqi (y := 24) (by decide) ?_
      refine V.iload_n (pc := 22) 2 hC dX4_find_22 rfl ?_
      refine V.iadd (pc := 23) hC dX4_find_23 ?_
      refine V.eqi (y := 24) (by decide) ?_
      refine V.ldBodies (pc := 24) hC 24 70 (nl 24) (by decide) rfl dX4_find_24 ?_
      refine V.istore (pc := 25) [(4, .int 70), (3, .int 0), (2, .int 6), (0, .int 0), (1, .int 6)] hC dX4_find_25 (by decide) rfl ?_
      refine V.iload (pc := 27) 0 hC dX4_find_27 rfl ?_
      refine V.if_eq (pc := 29) 35 hC dX4_find_29 (by decide) (fun c_29 => ?_) (fun c_29 => ?_)
      · have nc_29 : 70 = 0 := (neq (nl 70) (nl 0) (by omega) (by omega)).mp c_29
        exact absurd c_29 (by decide)
      · have nc_29 : ¬ (70 = 0) := fun z => c_29 ((neq (nl 70) (nl 0) (by omega) (by omega)).mpr z)
        refine V.iload (pc := 32) 0 hC dX4_find_32 rfl ?_
        exact hR 70 () _ _ dX4_find_34 rfl rfl
set_option maxHeartbeats 4000000 in
set_option maxRecDepth 100000 in
theorem c_find_1_0 {l : Launch} {D : va_G} {k : Nat → ClassId} {g : Nat → Nat}   : Ct l D k g yX4_find cX4_find 5 (some .int) 0 0 [.int 1, .int 0] (S := Unit) ([]) (fun _ => []) (fun vv _ => vv = some (.int 11)) := by
  refine Ct.ofI RX4 rfl (by decide +kernel) (Nat.le_of_ble_eq_true rfl) (fun X hC hR => ?_)
  show V X ([]) [(0, .int 1), (1, .int 0)] [] 0
  refine V.iload_n (pc := 0) 1 hC dX4_find_0 rfl ?_
  refine V.istore_n (pc := 1) [(2, .int 0), (0, .int 1), (1, .int 0)] hC dX4_find_1 (by decide) rfl ?_
  refine V.iconst (pc := 2) 0 hC dX4_find_2 (by decide) ?_
  refine V.istore_n (pc := 3) [(3, .int 0), (2, .int 0), (0, .int 1), (1, .int 0)] hC dX4_find_3 (by decide) rfl ?_
  refine V.iload_n (pc := 4) 0 hC dX4_find_4 rfl ?_
  refine V.getAboveN (pc := 5) hC dX4_find_5 rfl ?_
  refine V.lenAbove (pc := 8) hC dX4_find_8 ?_
  refine V.icmp_ge (pc := 9) 47 hC dX4_find_9 (by decide) (fun c_9 => ?_) (fun c_9 => ?_)
  · have nc_9 : 7 ≤ 0 := (nle (nl 7) (nl 0) (by omega) (by omega)).mp c_9
    exact absurd c_9 (by decide)
  · have nc_9 : ¬ (7 ≤ 0) := fun z => c_9 ((nle (nl 7) (nl 0) (by omega) (by omega)).mpr z)
    refine V.iload_n (pc := 12) 1 hC dX4_find_12 rfl ?_
    refine V.if_le (pc := 13) 47 hC dX4_find_13 (by decide) (fun c_13 => ?_) (fun c_13 => ?_)
    · have nc_13 : 0 ≤ 0 := (nle (nl 0) (nl 0) (by omega) (by omega)).mp c_13
      refine V.getBodies (pc := 47) hC fl_X4_46 dX4_find_47 ?_
      refine V.iconst (pc := 50) 0 hC dX4_find_50 (by decide) ?_
      refine V.iload_n (pc := 51) 2 hC dX4_find_51 rfl ?_
      refine V.iadd (pc := 52) hC dX4_find_52 ?_
      refine V.eqi (y := 1) (by decide) ?_
      refine V.ldBodies (pc := 53) hC 1 11 (nl 1) (by decide) rfl dX4_find_53 ?_
      exact hR 11 () _ _ dX4_find_54 rfl rfl
    · have nc_13 : ¬ (0 ≤ 0) := fun z => c_13 ((nle (nl 0) (nl 0) (by omega) (by omega)).mpr z)
      exact absurd c_13 (by decide)
set_option maxHeartbeats 4000000 in
set_option maxRecDepth 100000 in
theorem c_find_1_1 {l : Launch} {D : va_G} {k : Nat → ClassId} {g : Nat → Nat}   : Ct l D k g yX4_find cX4_find 5 (some .int) 0 0 [.int 1, .int 1] (S := Unit) ([]) (fun _ => []) (fun vv _ => vv = some (.int 11)) := by
  refine Ct.ofI RX4 rfl (by decide +kernel) (Nat.le_of_ble_eq_true rfl) (fun X hC hR => ?_)
  show V X ([]) [(0, .int 1), (1, .int 1)] [] 0
  refine V.iload_n (pc := 0) 1 hC dX4_find_0 rfl ?_
  refine V.istore_n (pc := 1) [(2, .int 1), (0, .int 1), (1, .int 1)] hC dX4_find_1 (by decide) rfl ?_
  refine V.iconst (pc := 2) 0 hC dX4_find_2 (by decide) ?_
  refine V.istore_n (pc := 3) [(3, .int 0), (2, .int 1), (0, .int 1), (1, .int 1)] hC dX4_find_3 (by decide) rfl ?_
  refine V.iload_n (pc := 4) 0 hC dX4_find_4 rfl ?_
  refine V.getAboveN (pc := 5) hC dX4_find_5 rfl ?_
  refine V.lenAbove (pc := 8) hC dX4_find_8 ?_
  refine V.icmp_ge (pc := 9) 47 hC dX4_find_9 (by decide) (fun c_9 => ?_) (fun c_9 => ?_)
  · have nc_9 : 7 ≤ 0 := (nle (nl 7) (nl 0) (by omega) (by omega)).mp c_9
    exact absurd c_9 (by decide)
  · have nc_9 : ¬ (7 ≤ 0) := fun z => c_9 ((nle (nl 7) (nl 0) (by omega) (by omega)).mpr z)
    refine V.iload_n (pc := 12) 1 hC dX4_find_12 rfl ?_
    refine V.if_le (pc := 13) 47 hC dX4_find_13 (by decide) (fun c_13 => ?_) (fun c_13 => ?_)
    · have nc_13 : 1 ≤ 0 := (nle (nl 1) (nl 0) (by omega) (by omega)).mp c_13
      exact absurd c_13 (by decide)
    · have nc_13 : ¬ (1 ≤ 0) := fun z => c_13 ((nle (nl 1) (nl 0) (by omega) (by omega)).mpr z)
      refine V.getBodies (pc := 16) hC fl_X4_46 dX4_find_16 ?_
      refine V.iload_n (pc := 19) 1 hC dX4_find_19 rfl ?_
      refine V.iconst (pc := 20) 4 hC dX4_find_20 (by decide) ?_
      refine V.imul (pc := 21) hC dX4_find_21 ?_
      refine V.eqi (y := 4) (by decide) ?_
      refine V.iload_n (pc := 22) 2 hC dX4_find_22 rfl ?_
      refine V.iadd (pc := 23) hC dX4_find_23 ?_
      refine V.eqi (y := 5) (by decide) ?_
      refine V.ldBodies (pc := 24) hC 5 0 (nl 5) (by decide) rfl dX4_find_24 ?_
      refine V.istore (pc := 25) [(4, .int 0), (3, .int 0), (2, .int 1), (0, .int 1), (1, .int 1)] hC dX4_find_25 (by decide) rfl ?_
      refine V.iload (pc := 27) 0 hC dX4_find_27 rfl ?_
      refine V.if_eq (pc := 29) 35 hC dX4_find_29 (by decide) (fun c_29 => ?_) (fun c_29 => ?_)
      · have nc_29 : 0 = 0 := (neq (nl 0) (nl 0) (by omega) (by omega)).mp c_29
        refine V.getAboveN (pc := 35) hC dX4_find_35 rfl ?_
        refine V.iload_n (pc := 38) 2 hC dX4_find_38 rfl ?_
        refine V.ldAbove (pc := 39) hC 1 0 (nl 1) (by decide) rfl dX4_find_39 ?_
        refine V.istore_n (pc := 40) [(2, .int 0), (4, .int 0), (3, .int 0), (0, .int 1), (1, .int 1)] hC dX4_find_40 (by decide) rfl ?_
        refine V.iinc (pc := 41) 2 (nI 1) [(3, .int (nI 1)), (2, .int 0), (4, .int 0), (0, .int 1), (1, .int 1)] hC dX4_find_41 rfl (ncast (nadd (nl 0) (nl 1)) (by omega)) (by decide) rfl ?_
        refine V.goto (pc := 44) 4 hC dX4_find_44 (by decide) ?_
        refine V.iload_n (pc := 4) 0 hC dX4_find_4 rfl ?_
        refine V.getAboveN (pc := 5) hC dX4_find_5 rfl ?_
        refine V.lenAbove (pc := 8) hC dX4_find_8 ?_
        refine V.icmp_ge (pc := 9) 47 hC dX4_find_9 (by decide) (fun c_9_2 => ?_) (fun c_9_2 => ?_)
        · have nc_9_2 : 7 ≤ 1 := (nle (nl 7) rfl (by omega) (by omega)).mp c_9_2
          exact absurd c_9_2 (by decide)
        · have nc_9_2 : ¬ (7 ≤ 1) := fun z => c_9_2 ((nle (nl 7) rfl (by omega) (by omega)).mpr z)
          refine V.iload_n (pc := 12) 1 hC dX4_find_12 rfl ?_
          refine V.if_le (pc := 13) 47 hC dX4_find_13 (by decide) (fun c_13_2 => ?_) (fun c_13_2 => ?_)
          · have nc_13_2 : 0 ≤ 0 := (nle (nl 0) (nl 0) (by omega) (by omega)).mp c_13_2
            refine V.getBodies (pc := 47) hC fl_X4_46 dX4_find_47 ?_
            refine V.iconst (pc := 50) 0 hC dX4_find_50 (by decide) ?_
            refine V.iload_n (pc := 51) 3 hC dX4_find_51 rfl ?_
            refine V.iadd (pc := 52) hC dX4_find_52 ?_
            refine V.eqi (y := 1) (by decide) ?_
            refine V.ldBodies (pc := 53) hC 1 11 (nl 1) (by decide) rfl dX4_find_53 ?_
            exact hR 11 () _ _ dX4_find_54 rfl rfl
          · have nc_13_2 : ¬ (0 ≤ 0) := fun z => c_13_2 ((nle (nl 0) (nl 0) (by omega) (by omega)).mpr z)
            exact absurd c_13_2 (by decide)
      · have nc_29 : ¬ (0 = 0) := fun z => c_29 ((neq (nl 0) (nl 0) (by omega) (by omega)).mpr z)
        exact absurd c_29 (by decide)
set_option maxHeartbeats 4000000 in
set_option maxRecDepth 100000 in
theorem c_find_1_2 {l : Launch} {D : va_G} {k : Nat → ClassId} {g : Nat → Nat}   : Ct l D k g yX4_find cX4_find 5 (some .int) 0 0 [.int 1, .int 2] (S := Unit) ([]) (fun _ => []) (fun vv _ => vv = some (.int 30)) := by
  refine Ct.ofI RX4 rfl (by decide +kernel) (Nat.le_of_ble_eq_true rfl) (fun X hC hR => ?_)
  show V X ([]) [(0, .int 1), (1, .int 2)] [] 0
  refine V.iload_n (pc := 0) 1 hC dX4_find_0 rfl ?_
  refine V.istore_n (pc := 1) [(2, .int 2), (0, .int 1), (1, .int 2)] hC dX4_find_1 (by decide) rfl ?_
  refine V.iconst (pc := 2) 0 hC dX4_find_2 (by decide) ?_
  refine V.istore_n (pc := 3) [(3, .int 0), (2, .int 2), (0, .int 1), (1, .int 2)] hC dX4_find_3 (by decide) rfl ?_
  refine V.iload_n (pc := 4) 0 hC dX4_find_4 rfl ?_
  refine V.getAboveN (pc := 5) hC dX4_find_5 rfl ?_
  refine V.lenAbove (pc := 8) hC dX4_find_8 ?_
  refine V.icmp_ge (pc := 9) 47 hC dX4_find_9 (by decide) (fun c_9 => ?_) (fun c_9 => ?_)
  · have nc_9 : 7 ≤ 0 := (nle (nl 7) (nl 0) (by omega) (by omega)).mp c_9
    exact absurd c_9 (by decide)
  · have nc_9 : ¬ (7 ≤ 0) := fun z => c_9 ((nle (nl 7) (nl 0) (by omega) (by omega)).mpr z)
    refine V.iload_n (pc := 12) 1 hC dX4_find_12 rfl ?_
    refine V.if_le (pc := 13) 47 hC dX4_find_13 (by decide) (fun c_13 => ?_) (fun c_13 => ?_)
    · have nc_13 : 2 ≤ 0 := (nle (nl 2) (nl 0) (by omega) (by omega)).mp c_13
      exact absurd c_13 (by decide)
    · have nc_13 : ¬ (2 ≤ 0) := fun z => c_13 ((nle (nl 2) (nl 0) (by omega) (by omega)).mpr z)
      refine V.getBodies (pc := 16) hC fl_X4_46 dX4_find_16 ?_
      refine V.iload_n (pc := 19) 1 hC dX4_find_19 rfl ?_
      refine V.iconst (pc := 20) 4 hC dX4_find_20 (by decide) ?_
      refine V.imul (pc := 21) hC dX4_find_21 ?_
      refine V.eqi (y := 8) (by decide) ?_
      refine V.iload_n (pc := 22) 2 hC dX4_find_22 rfl ?_
      refine V.iadd (pc := 23) hC dX4_find_23 ?_
      refine V.eqi (y := 9) (by decide) ?_
      refine V.ldBodies (pc := 24) hC 9 30 (nl 9) (by decide) rfl dX4_find_24 ?_
      refine V.istore (pc := 25) [(4, .int 30), (3, .int 0), (2, .int 2), (0, .int 1), (1, .int 2)] hC dX4_find_25 (by decide) rfl ?_
      refine V.iload (pc := 27) 0 hC dX4_find_27 rfl ?_
      refine V.if_eq (pc := 29) 35 hC dX4_find_29 (by decide) (fun c_29 => ?_) (fun c_29 => ?_)
      · have nc_29 : 30 = 0 := (neq (nl 30) (nl 0) (by omega) (by omega)).mp c_29
        exact absurd c_29 (by decide)
      · have nc_29 : ¬ (30 = 0) := fun z => c_29 ((neq (nl 30) (nl 0) (by omega) (by omega)).mpr z)
        refine V.iload (pc := 32) 0 hC dX4_find_32 rfl ?_
        exact hR 30 () _ _ dX4_find_34 rfl rfl
set_option maxHeartbeats 4000000 in
set_option maxRecDepth 100000 in
theorem c_find_1_3 {l : Launch} {D : va_G} {k : Nat → ClassId} {g : Nat → Nat}   : Ct l D k g yX4_find cX4_find 5 (some .int) 0 0 [.int 1, .int 3] (S := Unit) ([]) (fun _ => []) (fun vv _ => vv = some (.int 11)) := by
  refine Ct.ofI RX4 rfl (by decide +kernel) (Nat.le_of_ble_eq_true rfl) (fun X hC hR => ?_)
  show V X ([]) [(0, .int 1), (1, .int 3)] [] 0
  refine V.iload_n (pc := 0) 1 hC dX4_find_0 rfl ?_
  refine V.istore_n (pc := 1) [(2, .int 3), (0, .int 1), (1, .int 3)] hC dX4_find_1 (by decide) rfl ?_
  refine V.iconst (pc := 2) 0 hC dX4_find_2 (by decide) ?_
  refine V.istore_n (pc := 3) [(3, .int 0), (2, .int 3), (0, .int 1), (1, .int 3)] hC dX4_find_3 (by decide) rfl ?_
  refine V.iload_n (pc := 4) 0 hC dX4_find_4 rfl ?_
  refine V.getAboveN (pc := 5) hC dX4_find_5 rfl ?_
  refine V.lenAbove (pc := 8) hC dX4_find_8 ?_
  refine V.icmp_ge (pc := 9) 47 hC dX4_find_9 (by decide) (fun c_9 => ?_) (fun c_9 => ?_)
  · have nc_9 : 7 ≤ 0 := (nle (nl 7) (nl 0) (by omega) (by omega)).mp c_9
    exact absurd c_9 (by decide)
  · have nc_9 : ¬ (7 ≤ 0) := fun z => c_9 ((nle (nl 7) (nl 0) (by omega) (by omega)).mpr z)
    refine V.iload_n (pc := 12) 1 hC dX4_find_12 rfl ?_
    refine V.if_le (pc := 13) 47 hC dX4_find_13 (by decide) (fun c_13 => ?_) (fun c_13 => ?_)
    · have nc_13 : 3 ≤ 0 := (nle (nl 3) (nl 0) (by omega) (by omega)).mp c_13
      exact absurd c_13 (by decide)
    · have nc_13 : ¬ (3 ≤ 0) := fun z => c_13 ((nle (nl 3) (nl 0) (by omega) (by omega)).mpr z)
      refine V.getBodies (pc := 16) hC fl_X4_46 dX4_find_16 ?_
      refine V.iload_n (pc := 19) 1 hC dX4_find_19 rfl ?_
      refine V.iconst (pc := 20) 4 hC dX4_find_20 (by decide) ?_
      refine V.imul (pc := 21) hC dX4_find_21 ?_
      refine V.eqi (y := 12) (by decide) ?_
      refine V.iload_n (pc := 22) 2 hC dX4_find_22 rfl ?_
      refine V.iadd (pc := 23) hC dX4_find_23 ?_
      refine V.eqi (y := 13) (by decide) ?_
      refine V.ldBodies (pc := 24) hC 13 0 (nl 13) (by decide) rfl dX4_find_24 ?_
      refine V.istore (pc := 25) [(4, .int 0), (3, .int 0), (2, .int 3), (0, .int 1), (1, .int 3)] hC dX4_find_25 (by decide) rfl ?_
      refine V.iload (pc := 27) 0 hC dX4_find_27 rfl ?_
      refine V.if_eq (pc := 29) 35 hC dX4_find_29 (by decide) (fun c_29 => ?_) (fun c_29 => ?_)
      · have nc_29 : 0 = 0 := (neq (nl 0) (nl 0) (by omega) (by omega)).mp c_29
        refine V.getAboveN (pc := 35) hC dX4_find_35 rfl ?_
        refine V.iload_n (pc := 38) 2 hC dX4_find_38 rfl ?_
        refine V.ldAbove (pc := 39) hC 3 0 (nl 3) (by decide) rfl dX4_find_39 ?_
        refine V.istore_n (pc := 40) [(2, .int 0), (4, .int 0), (3, .int 0), (0, .int 1), (1, .int 3)] hC dX4_find_40 (by decide) rfl ?_
        refine V.iinc (pc := 41) 2 (nI 1) [(3, .int (nI 1)), (2, .int 0), (4, .int 0), (0, .int 1), (1, .int 3)] hC dX4_find_41 rfl (ncast (nadd (nl 0) (nl 1)) (by omega)) (by decide) rfl ?_
        refine V.goto (pc := 44) 4 hC dX4_find_44 (by decide) ?_
        refine V.iload_n (pc := 4) 0 hC dX4_find_4 rfl ?_
        refine V.getAboveN (pc := 5) hC dX4_find_5 rfl ?_
        refine V.lenAbove (pc := 8) hC dX4_find_8 ?_
        refine V.icmp_ge (pc := 9) 47 hC dX4_find_9 (by decide) (fun c_9_2 => ?_) (fun c_9_2 => ?_)
        · have nc_9_2 : 7 ≤ 1 := (nle (nl 7) rfl (by omega) (by omega)).mp c_9_2
          exact absurd c_9_2 (by decide)
        · have nc_9_2 : ¬ (7 ≤ 1) := fun z => c_9_2 ((nle (nl 7) rfl (by omega) (by omega)).mpr z)
          refine V.iload_n (pc := 12) 1 hC dX4_find_12 rfl ?_
          refine V.if_le (pc := 13) 47 hC dX4_find_13 (by decide) (fun c_13_2 => ?_) (fun c_13_2 => ?_)
          · have nc_13_2 : 0 ≤ 0 := (nle (nl 0) (nl 0) (by omega) (by omega)).mp c_13_2
            refine V.getBodies (pc := 47) hC fl_X4_46 dX4_find_47 ?_
            refine V.iconst (pc := 50) 0 hC dX4_find_50 (by decide) ?_
            refine V.iload_n (pc := 51) 3 hC dX4_find_51 rfl ?_
            refine V.iadd (pc := 52) hC dX4_find_52 ?_
            refine V.eqi (y := 1) (by decide) ?_
            refine V.ldBodies (pc := 53) hC 1 11 (nl 1) (by decide) rfl dX4_find_53 ?_
            exact hR 11 () _ _ dX4_find_54 rfl rfl
          · have nc_13_2 : ¬ (0 ≤ 0) := fun z => c_13_2 ((nle (nl 0) (nl 0) (by omega) (by omega)).mpr z)
            exact absurd c_13_2 (by decide)
      · have nc_29 : ¬ (0 = 0) := fun z => c_29 ((neq (nl 0) (nl 0) (by omega) (by omega)).mpr z)
        exact absurd c_29 (by decide)
set_option maxHeartbeats 4000000 in
set_option maxRecDepth 100000 in
theorem c_find_1_4 {l : Launch} {D : va_G} {k : Nat → ClassId} {g : Nat → Nat}   : Ct l D k g yX4_find cX4_find 5 (some .int) 0 0 [.int 1, .int 4] (S := Unit) ([]) (fun _ => []) (fun vv _ => vv = some (.int 11)) := by
  refine Ct.ofI RX4 rfl (by decide +kernel) (Nat.le_of_ble_eq_true rfl) (fun X hC hR => ?_)
  show V X ([]) [(0, .int 1), (1, .int 4)] [] 0
  refine V.iload_n (pc := 0) 1 hC dX4_find_0 rfl ?_
  refine V.istore_n (pc := 1) [(2, .int 4), (0, .int 1), (1, .int 4)] hC dX4_find_1 (by decide) rfl ?_
  refine V.iconst (pc := 2) 0 hC dX4_find_2 (by decide) ?_
  refine V.istore_n (pc := 3) [(3, .int 0), (2, .int 4), (0, .int 1), (1, .int 4)] hC dX4_find_3 (by decide) rfl ?_
  refine V.iload_n (pc := 4) 0 hC dX4_find_4 rfl ?_
  refine V.getAboveN (pc := 5) hC dX4_find_5 rfl ?_
  refine V.lenAbove (pc := 8) hC dX4_find_8 ?_
  refine V.icmp_ge (pc := 9) 47 hC dX4_find_9 (by decide) (fun c_9 => ?_) (fun c_9 => ?_)
  · have nc_9 : 7 ≤ 0 := (nle (nl 7) (nl 0) (by omega) (by omega)).mp c_9
    exact absurd c_9 (by decide)
  · have nc_9 : ¬ (7 ≤ 0) := fun z => c_9 ((nle (nl 7) (nl 0) (by omega) (by omega)).mpr z)
    refine V.iload_n (pc := 12) 1 hC dX4_find_12 rfl ?_
    refine V.if_le (pc := 13) 47 hC dX4_find_13 (by decide) (fun c_13 => ?_) (fun c_13 => ?_)
    · have nc_13 : 4 ≤ 0 := (nle (nl 4) (nl 0) (by omega) (by omega)).mp c_13
      exact absurd c_13 (by decide)
    · have nc_13 : ¬ (4 ≤ 0) := fun z => c_13 ((nle (nl 4) (nl 0) (by omega) (by omega)).mpr z)
      refine V.getBodies (pc := 16) hC fl_X4_46 dX4_find_16 ?_
      refine V.iload_n (pc := 19) 1 hC dX4_find_19 rfl ?_
      refine V.iconst (pc := 20) 4 hC dX4_find_20 (by decide) ?_
      refine V.imul (pc := 21) hC dX4_find_21 ?_
      refine V.eqi (y := 16) (by decide) ?_
      refine V.iload_n (pc := 22) 2 hC dX4_find_22 rfl ?_
      refine V.iadd (pc := 23) hC dX4_find_23 ?_
      refine V.eqi (y := 17) (by decide) ?_
      refine V.ldBodies (pc := 24) hC 17 0 (nl 17) (by decide) rfl dX4_find_24 ?_
      refine V.istore (pc := 25) [(4, .int 0), (3, .int 0), (2, .int 4), (0, .int 1), (1, .int 4)] hC dX4_find_25 (by decide) rfl ?_
      refine V.iload (pc := 27) 0 hC dX4_find_27 rfl ?_
      refine V.if_eq (pc := 29) 35 hC dX4_find_29 (by decide) (fun c_29 => ?_) (fun c_29 => ?_)
      · have nc_29 : 0 = 0 := (neq (nl 0) (nl 0) (by omega) (by omega)).mp c_29
        refine V.getAboveN (pc := 35) hC dX4_find_35 rfl ?_
        refine V.iload_n (pc := 38) 2 hC dX4_find_38 rfl ?_
        refine V.ldAbove (pc := 39) hC 4 1 (nl 4) (by decide) rfl dX4_find_39 ?_
        refine V.istore_n (pc := 40) [(2, .int 1), (4, .int 0), (3, .int 0), (0, .int 1), (1, .int 4)] hC dX4_find_40 (by decide) rfl ?_
        refine V.iinc (pc := 41) 2 (nI 1) [(3, .int (nI 1)), (2, .int 1), (4, .int 0), (0, .int 1), (1, .int 4)] hC dX4_find_41 rfl (ncast (nadd (nl 0) (nl 1)) (by omega)) (by decide) rfl ?_
        refine V.goto (pc := 44) 4 hC dX4_find_44 (by decide) ?_
        refine V.iload_n (pc := 4) 0 hC dX4_find_4 rfl ?_
        refine V.getAboveN (pc := 5) hC dX4_find_5 rfl ?_
        refine V.lenAbove (pc := 8) hC dX4_find_8 ?_
        refine V.icmp_ge (pc := 9) 47 hC dX4_find_9 (by decide) (fun c_9_2 => ?_) (fun c_9_2 => ?_)
        · have nc_9_2 : 7 ≤ 1 := (nle (nl 7) rfl (by omega) (by omega)).mp c_9_2
          exact absurd c_9_2 (by decide)
        · have nc_9_2 : ¬ (7 ≤ 1) := fun z => c_9_2 ((nle (nl 7) rfl (by omega) (by omega)).mpr z)
          refine V.iload_n (pc := 12) 1 hC dX4_find_12 rfl ?_
          refine V.if_le (pc := 13) 47 hC dX4_find_13 (by decide) (fun c_13_2 => ?_) (fun c_13_2 => ?_)
          · have nc_13_2 : 1 ≤ 0 := (nle (nl 1) (nl 0) (by omega) (by omega)).mp c_13_2
            exact absurd c_13_2 (by decide)
          · have nc_13_2 : ¬ (1 ≤ 0) := fun z => c_13_2 ((nle (nl 1) (nl 0) (by omega) (by omega)).mpr z)
            refine V.getBodies (pc := 16) hC fl_X4_46 dX4_find_16 ?_
            refine V.iload_n (pc := 19) 1 hC dX4_find_19 rfl ?_
            refine V.iconst (pc := 20) 4 hC dX4_find_20 (by decide) ?_
            refine V.imul (pc := 21) hC dX4_find_21 ?_
            refine V.eqi (y := 4) (by decide) ?_
            refine V.iload_n (pc := 22) 3 hC dX4_find_22 rfl ?_
            refine V.iadd (pc := 23) hC dX4_find_23 ?_
            refine V.eqi (y := 5) (by decide) ?_
            refine V.ldBodies (pc := 24) hC 5 0 (nl 5) (by decide) rfl dX4_find_24 ?_
            refine V.istore (pc := 25) [(4, .int 0), (3, .int (nI 1)), (2, .int 1), (0, .int 1), (1, .int 4)] hC dX4_find_25 (by decide) rfl ?_
            refine V.iload (pc := 27) 0 hC dX4_find_27 rfl ?_
            refine V.if_eq (pc := 29) 35 hC dX4_find_29 (by decide) (fun c_29_2 => ?_) (fun c_29_2 => ?_)
            · have nc_29_2 : 0 = 0 := (neq (nl 0) (nl 0) (by omega) (by omega)).mp c_29_2
              refine V.getAboveN (pc := 35) hC dX4_find_35 rfl ?_
              refine V.iload_n (pc := 38) 2 hC dX4_find_38 rfl ?_
              refine V.ldAbove (pc := 39) hC 1 0 (nl 1) (by decide) rfl dX4_find_39 ?_
              refine V.istore_n (pc := 40) [(2, .int 0), (4, .int 0), (3, .int (nI 1)), (0, .int 1), (1, .int 4)] hC dX4_find_40 (by decide) rfl ?_
              refine V.iinc (pc := 41) 2 (nI 2) [(3, .int (nI 2)), (2, .int 0), (4, .int 0), (0, .int 1), (1, .int 4)] hC dX4_find_41 rfl (ncast (nadd rfl (nl 1)) (by omega)) (by decide) rfl ?_
              refine V.goto (pc := 44) 4 hC dX4_find_44 (by decide) ?_
              refine V.iload_n (pc := 4) 0 hC dX4_find_4 rfl ?_
              refine V.getAboveN (pc := 5) hC dX4_find_5 rfl ?_
              refine V.lenAbove (pc := 8) hC dX4_find_8 ?_
              refine V.icmp_ge (pc := 9) 47 hC dX4_find_9 (by decide) (fun c_9_3 => ?_) (fun c_9_3 => ?_)
              · have nc_9_3 : 7 ≤ 2 := (nle (nl 7) rfl (by omega) (by omega)).mp c_9_3
                exact absurd c_9_3 (by decide)
              · have nc_9_3 : ¬ (7 ≤ 2) := fun z => c_9_3 ((nle (nl 7) rfl (by omega) (by omega)).mpr z)
                refine V.iload_n (pc := 12) 1 hC dX4_find_12 rfl ?_
                refine V.if_le (pc := 13) 47 hC dX4_find_13 (by decide) (fun c_13_3 => ?_) (fun c_13_3 => ?_)
                · have nc_13_3 : 0 ≤ 0 := (nle (nl 0) (nl 0) (by omega) (by omega)).mp c_13_3
                  refine V.getBodies (pc := 47) hC fl_X4_46 dX4_find_47 ?_
                  refine V.iconst (pc := 50) 0 hC dX4_find_50 (by decide) ?_
                  refine V.iload_n (pc := 51) 3 hC dX4_find_51 rfl ?_
                  refine V.iadd (pc := 52) hC dX4_find_52 ?_
                  refine V.eqi (y := 1) (by decide) ?_
                  refine V.ldBodies (pc := 53) hC 1 11 (nl 1) (by decide) rfl dX4_find_53 ?_
                  exact hR 11 () _ _ dX4_find_54 rfl rfl
                · have nc_13_3 : ¬ (0 ≤ 0) := fun z => c_13_3 ((nle (nl 0) (nl 0) (by omega) (by omega)).mpr z)
                  exact absurd c_13_3 (by decide)
            · have nc_29_2 : ¬ (0 = 0) := fun z => c_29_2 ((neq (nl 0) (nl 0) (by omega) (by omega)).mpr z)
              exact absurd c_29_2 (by decide)
      · have nc_29 : ¬ (0 = 0) := fun z => c_29 ((neq (nl 0) (nl 0) (by omega) (by omega)).mpr z)
        exact absurd c_29 (by decide)
set_option maxHeartbeats 4000000 in
set_option maxRecDepth 100000 in
theorem c_find_1_5 {l : Launch} {D : va_G} {k : Nat → ClassId} {g : Nat → Nat}   : Ct l D k g yX4_find cX4_find 5 (some .int) 0 0 [.int 1, .int 5] (S := Unit) ([]) (fun _ => []) (fun vv _ => vv = some (.int 60)) := by
  refine Ct.ofI RX4 rfl (by decide +kernel) (Nat.le_of_ble_eq_true rfl) (fun X hC hR => ?_)
  show V X ([]) [(0, .int 1), (1, .int 5)] [] 0
  refine V.iload_n (pc := 0) 1 hC dX4_find_0 rfl ?_
  refine V.istore_n (pc := 1) [(2, .int 5), (0, .int 1), (1, .int 5)] hC dX4_find_1 (by decide) rfl ?_
  refine V.iconst (pc := 2) 0 hC dX4_find_2 (by decide) ?_
  refine V.istore_n (pc := 3) [(3, .int 0), (2, .int 5), (0, .int 1), (1, .int 5)] hC dX4_find_3 (by decide) rfl ?_
  refine V.iload_n (pc := 4) 0 hC dX4_find_4 rfl ?_
  refine V.getAboveN (pc := 5) hC dX4_find_5 rfl ?_
  refine V.lenAbove (pc := 8) hC dX4_find_8 ?_
  refine V.icmp_ge (pc := 9) 47 hC dX4_find_9 (by decide) (fun c_9 => ?_) (fun c_9 => ?_)
  · have nc_9 : 7 ≤ 0 := (nle (nl 7) (nl 0) (by omega) (by omega)).mp c_9
    exact absurd c_9 (by decide)
  · have nc_9 : ¬ (7 ≤ 0) := fun z => c_9 ((nle (nl 7) (nl 0) (by omega) (by omega)).mpr z)
    refine V.iload_n (pc := 12) 1 hC dX4_find_12 rfl ?_
    refine V.if_le (pc := 13) 47 hC dX4_find_13 (by decide) (fun c_13 => ?_) (fun c_13 => ?_)
    · have nc_13 : 5 ≤ 0 := (nle (nl 5) (nl 0) (by omega) (by omega)).mp c_13
      exact absurd c_13 (by decide)
    · have nc_13 : ¬ (5 ≤ 0) := fun z => c_13 ((nle (nl 5) (nl 0) (by omega) (by omega)).mpr z)
      refine V.getBodies (pc := 16) hC fl_X4_46 dX4_find_16 ?_
      refine V.iload_n (pc := 19) 1 hC dX4_find_19 rfl ?_
      refine V.iconst (pc := 20) 4 hC dX4_find_20 (by decide) ?_
      refine V.imul (pc := 21) hC dX4_find_21 ?_
      refine V.eqi (y := 20) (by decide) ?_
      refine V.iload_n (pc := 22) 2 hC dX4_find_22 rfl ?_
      refine V.iadd (pc := 23) hC dX4_find_23 ?_
      refine V.eqi (y := 21) (by decide) ?_
      refine V.ldBodies (pc := 24) hC 21 60 (nl 21) (by decide) rfl dX4_find_24 ?_
      refine V.istore (pc := 25) [(4, .int 60), (3, .int 0), (2, .int 5), (0, .int 1), (1, .int 5)] hC dX4_find_25 (by decide) rfl ?_
      refine V.iload (pc := 27) 0 hC dX4_find_27 rfl ?_
      refine V.if_eq (pc := 29) 35 hC dX4_find_29 (by decide) (fun c_29 => ?_) (fun c_29 => ?_)
      · have nc_29 : 60 = 0 := (neq (nl 60) (nl 0) (by omega) (by omega)).mp c_29
        exact absurd c_29 (by decide)
      · have nc_29 : ¬ (60 = 0) := fun z => c_29 ((neq (nl 60) (nl 0) (by omega) (by omega)).mpr z)
        refine V.iload (pc := 32) 0 hC dX4_find_32 rfl ?_
        exact hR 60 () _ _ dX4_find_34 rfl rfl
set_option maxHeartbeats 4000000 in
set_option maxRecDepth 100000 in
theorem c_find_1_6 {l : Launch} {D : va_G} {k : Nat → ClassId} {g : Nat → Nat}   : Ct l D k g yX4_find cX4_find 5 (some .int) 0 0 [.int 1, .int 6] (S := Unit) ([]) (fun _ => []) (fun vv _ => vv = some (.int 71)) := by
  refine Ct.ofI RX4 rfl (by decide +kernel) (Nat.le_of_ble_eq_true rfl) (fun X hC hR => ?_)
  show V X ([]) [(0, .int 1), (1, .int 6)] [] 0
  refine V.iload_n (pc := 0) 1 hC dX4_find_0 rfl ?_
  refine V.istore_n (pc := 1) [(2, .int 6), (0, .int 1), (1, .int 6)] hC dX4_find_1 (by decide) rfl ?_
  refine V.iconst (pc := 2) 0 hC dX4_find_2 (by decide) ?_
  refine V.istore_n (pc := 3) [(3, .int 0), (2, .int 6), (0, .int 1), (1, .int 6)] hC dX4_find_3 (by decide) rfl ?_
  refine V.iload_n (pc := 4) 0 hC dX4_find_4 rfl ?_
  refine V.getAboveN (pc := 5) hC dX4_find_5 rfl ?_
  refine V.lenAbove (pc := 8) hC dX4_find_8 ?_
  refine V.icmp_ge (pc := 9) 47 hC dX4_find_9 (by decide) (fun c_9 => ?_) (fun c_9 => ?_)
  · have nc_9 : 7 ≤ 0 := (nle (nl 7) (nl 0) (by omega) (by omega)).mp c_9
    exact absurd c_9 (by decide)
  · have nc_9 : ¬ (7 ≤ 0) := fun z => c_9 ((nle (nl 7) (nl 0) (by omega) (by omega)).mpr z)
    refine V.iload_n (pc := 12) 1 hC dX4_find_12 rfl ?_
    refine V.if_le (pc := 13) 47 hC dX4_find_13 (by decide) (fun c_13 => ?_) (fun c_13 => ?_)
    · have nc_13 : 6 ≤ 0 := (nle (nl 6) (nl 0) (by omega) (by omega)).mp c_13
      exact absurd c_13 (by decide)
    · have nc_13 : ¬ (6 ≤ 0) := fun z => c_13 ((nle (nl 6) (nl 0) (by omega) (by omega)).mpr z)
      refine V.getBodies (pc := 16) hC fl_X4_46 dX4_find_16 ?_
      refine V.iload_n (pc := 19) 1 hC dX4_find_19 rfl ?_
      refine V.iconst (pc := 20) 4 hC dX4_find_20 (by decide) ?_
      refine V.imul (pc := 21) hC dX4_find_21 ?_
      refine V.eqi (y := 24) (by decide) ?_
      refine V.iload_n (pc := 22) 2 hC dX4_find_22 rfl ?_
      refine V.iadd (pc := 23) hC dX4_find_23 ?_
      refine V.eqi (y := 25) (by decide) ?_
      refine V.ldBodies (pc := 24) hC 25 71 (nl 25) (by decide) rfl dX4_find_24 ?_
      refine V.istore (pc := 25) [(4, .int 71), (3, .int 0), (2, .int 6), (0, .int 1), (1, .int 6)] hC dX4_find_25 (by decide) rfl ?_
      refine V.iload (pc := 27) 0 hC dX4_find_27 rfl ?_
      refine V.if_eq (pc := 29) 35 hC dX4_find_29 (by decide) (fun c_29 => ?_) (fun c_29 => ?_)
      · have nc_29 : 71 = 0 := (neq (nl 71) (nl 0) (by omega) (by omega)).mp c_29
        exact absurd c_29 (by decide)
      · have nc_29 : ¬ (71 = 0) := fun z => c_29 ((neq (nl 71) (nl 0) (by omega) (by omega)).mpr z)
        refine V.iload (pc := 32) 0 hC dX4_find_32 rfl ?_
        exact hR 71 () _ _ dX4_find_34 rfl rfl
set_option maxHeartbeats 4000000 in
set_option maxRecDepth 100000 in
theorem c_find_2_0 {l : Launch} {D : va_G} {k : Nat → ClassId} {g : Nat → Nat}   : Ct l D k g yX4_find cX4_find 5 (some .int) 0 0 [.int 2, .int 0] (S := Unit) ([]) (fun _ => []) (fun vv _ => vv = some (.int 12)) := by
  refine Ct.ofI RX4 rfl (by decide +kernel) (Nat.le_of_ble_eq_true rfl) (fun X hC hR => ?_)
  show V X ([]) [(0, .int 2), (1, .int 0)] [] 0
  refine V.iload_n (pc := 0) 1 hC dX4_find_0 rfl ?_
  refine V.istore_n (pc := 1) [(2, .int 0), (0, .int 2), (1, .int 0)] hC dX4_find_1 (by decide) rfl ?_
  refine V.iconst (pc := 2) 0 hC dX4_find_2 (by decide) ?_
  refine V.istore_n (pc := 3) [(3, .int 0), (2, .int 0), (0, .int 2), (1, .int 0)] hC dX4_find_3 (by decide) rfl ?_
  refine V.iload_n (pc := 4) 0 hC dX4_find_4 rfl ?_
  refine V.getAboveN (pc := 5) hC dX4_find_5 rfl ?_
  refine V.lenAbove (pc := 8) hC dX4_find_8 ?_
  refine V.icmp_ge (pc := 9) 47 hC dX4_find_9 (by decide) (fun c_9 => ?_) (fun c_9 => ?_)
  · have nc_9 : 7 ≤ 0 := (nle (nl 7) (nl 0) (by omega) (by omega)).mp c_9
    exact absurd c_9 (by decide)
  · have nc_9 : ¬ (7 ≤ 0) := fun z => c_9 ((nle (nl 7) (nl 0) (by omega) (by omega)).mpr z)
    refine V.iload_n (pc := 12) 1 hC dX4_find_12 rfl ?_
    refine V.if_le (pc := 13) 47 hC dX4_find_13 (by decide) (fun c_13 => ?_) (fun c_13 => ?_)
    · have nc_13 : 0 ≤ 0 := (nle (nl 0) (nl 0) (by omega) (by omega)).mp c_13
      refine V.getBodies (pc := 47) hC fl_X4_46 dX4_find_47 ?_
      refine V.iconst (pc := 50) 0 hC dX4_find_50 (by decide) ?_
      refine V.iload_n (pc := 51) 2 hC dX4_find_51 rfl ?_
      refine V.iadd (pc := 52) hC dX4_find_52 ?_
      refine V.eqi (y := 2) (by decide) ?_
      refine V.ldBodies (pc := 53) hC 2 12 (nl 2) (by decide) rfl dX4_find_53 ?_
      exact hR 12 () _ _ dX4_find_54 rfl rfl
    · have nc_13 : ¬ (0 ≤ 0) := fun z => c_13 ((nle (nl 0) (nl 0) (by omega) (by omega)).mpr z)
      exact absurd c_13 (by decide)
set_option maxHeartbeats 4000000 in
set_option maxRecDepth 100000 in
theorem c_find_2_1 {l : Launch} {D : va_G} {k : Nat → ClassId} {g : Nat → Nat}   : Ct l D k g yX4_find cX4_find 5 (some .int) 0 0 [.int 2, .int 1] (S := Unit) ([]) (fun _ => []) (fun vv _ => vv = some (.int 12)) := by
  refine Ct.ofI RX4 rfl (by decide +kernel) (Nat.le_of_ble_eq_true rfl) (fun X hC hR => ?_)
  show V X ([]) [(0, .int 2), (1, .int 1)] [] 0
  refine V.iload_n (pc := 0) 1 hC dX4_find_0 rfl ?_
  refine V.istore_n (pc := 1) [(2, .int 1), (0, .int 2), (1, .int 1)] hC dX4_find_1 (by decide) rfl ?_
  refine V.iconst (pc := 2) 0 hC dX4_find_2 (by decide) ?_
  refine V.istore_n (pc := 3) [(3, .int 0), (2, .int 1), (0, .int 2), (1, .int 1)] hC dX4_find_3 (by decide) rfl ?_
  refine V.iload_n (pc := 4) 0 hC dX4_find_4 rfl ?_
  refine V.getAboveN (pc := 5) hC dX4_find_5 rfl ?_
  refine V.lenAbove (pc := 8) hC dX4_find_8 ?_
  refine V.icmp_ge (pc := 9) 47 hC dX4_find_9 (by decide) (fun c_9 => ?_) (fun c_9 => ?_)
  · have nc_9 : 7 ≤ 0 := (nle (nl 7) (nl 0) (by omega) (by omega)).mp c_9
    exact absurd c_9 (by decide)
  · have nc_9 : ¬ (7 ≤ 0) := fun z => c_9 ((nle (nl 7) (nl 0) (by omega) (by omega)).mpr z)
    refine V.iload_n (pc := 12) 1 hC dX4_find_12 rfl ?_
    refine V.if_le (pc := 13) 47 hC dX4_find_13 (by decide) (fun c_13 => ?_) (fun c_13 => ?_)
    · have nc_13 : 1 ≤ 0 := (nle (nl 1) (nl 0) (by omega) (by omega)).mp c_13
      exact absurd c_13 (by decide)
    · have nc_13 : ¬ (1 ≤ 0) := fun z => c_13 ((nle (nl 1) (nl 0) (by omega) (by omega)).mpr z)
      refine V.getBodies (pc := 16) hC fl_X4_46 dX4_find_16 ?_
      refine V.iload_n (pc := 19) 1 hC dX4_find_19 rfl ?_
      refine V.iconst (pc := 20) 4 hC dX4_find_20 (by decide) ?_
      refine V.imul (pc := 21) hC dX4_find_21 ?_
      refine V.eqi (y := 4) (by decide) ?_
      refine V.iload_n (pc := 22) 2 hC dX4_find_22 rfl ?_
      refine V.iadd (pc := 23) hC dX4_find_23 ?_
      refine V.eqi (y := 6) (by decide) ?_
      refine V.ldBodies (pc := 24) hC 6 0 (nl 6) (by decide) rfl dX4_find_24 ?_
      refine V.istore (pc := 25) [(4, .int 0), (3, .int 0), (2, .int 1), (0, .int 2), (1, .int 1)] hC dX4_find_25 (by decide) rfl ?_
      refine V.iload (pc := 27) 0 hC dX4_find_27 rfl ?_
      refine V.if_eq (pc := 29) 35 hC dX4_find_29 (by decide) (fun c_29 => ?_) (fun c_29 => ?_)
      · have nc_29 : 0 = 0 := (neq (nl 0) (nl 0) (by omega) (by omega)).mp c_29
        refine V.getAboveN (pc := 35) hC dX4_find_35 rfl ?_
        refine V.iload_n (pc := 38) 2 hC dX4_find_38 rfl ?_
        refine V.ldAbove (pc := 39) hC 1 0 (nl 1) (by decide) rfl dX4_find_39 ?_
        refine V.istore_n (pc := 40) [(2, .int 0), (4, .int 0), (3, .int 0), (0, .int 2), (1, .int 1)] hC dX4_find_40 (by decide) rfl ?_
        refine V.iinc (pc := 41) 2 (nI 1) [(3, .int (nI 1)), (2, .int 0), (4, .int 0), (0, .int 2), (1, .int 1)] hC dX4_find_41 rfl (ncast (nadd (nl 0) (nl 1)) (by omega)) (by decide) rfl ?_
        refine V.goto (pc := 44) 4 hC dX4_find_44 (by decide) ?_
        refine V.iload_n (pc := 4) 0 hC dX4_find_4 rfl ?_
        refine V.getAboveN (pc := 5) hC dX4_find_5 rfl ?_
        refine V.lenAbove (pc := 8) hC dX4_find_8 ?_
        refine V.icmp_ge (pc := 9) 47 hC dX4_find_9 (by decide) (fun c_9_2 => ?_) (fun c_9_2 => ?_)
        · have nc_9_2 : 7 ≤ 1 := (nle (nl 7) rfl (by omega) (by omega)).mp c_9_2
          exact absurd c_9_2 (by decide)
        · have nc_9_2 : ¬ (7 ≤ 1) := fun z => c_9_2 ((nle (nl 7) rfl (by omega) (by omega)).mpr z)
          refine V.iload_n (pc := 12) 1 hC dX4_find_12 rfl ?_
          refine V.if_le (pc := 13) 47 hC dX4_find_13 (by decide) (fun c_13_2 => ?_) (fun c_13_2 => ?_)
          · have nc_13_2 : 0 ≤ 0 := (nle (nl 0) (nl 0) (by omega) (by omega)).mp c_13_2
            refine V.getBodies (pc := 47) hC fl_X4_46 dX4_find_47 ?_
            refine V.iconst (pc := 50) 0 hC dX4_find_50 (by decide) ?_
            refine V.iload_n (pc := 51) 3 hC dX4_find_51 rfl ?_
            refine V.iadd (pc := 52) hC dX4_find_52 ?_
            refine V.eqi (y := 2) (by decide) ?_
            refine V.ldBodies (pc := 53) hC 2 12 (nl 2) (by decide) rfl dX4_find_53 ?_
            exact hR 12 () _ _ dX4_find_54 rfl rfl
          · have nc_13_2 : ¬ (0 ≤ 0) := fun z => c_13_2 ((nle (nl 0) (nl 0) (by omega) (by omega)).mpr z)
            exact absurd c_13_2 (by decide)
      · have nc_29 : ¬ (0 = 0) := fun z => c_29 ((neq (nl 0) (nl 0) (by omega) (by omega)).mpr z)
        exact absurd c_29 (by decide)
set_option maxHeartbeats 4000000 in
set_option maxRecDepth 100000 in
theorem c_find_2_2 {l : Launch} {D : va_G} {k : Nat → ClassId} {g : Nat → Nat}   : Ct l D k g yX4_find cX4_find 5 (some .int) 0 0 [.int 2, .int 2] (S := Unit) ([]) (fun _ => []) (fun vv _ => vv = some (.int 12)) := by
  refine Ct.ofI RX4 rfl (by decide +kernel) (Nat.le_of_ble_eq_true rfl) (fun X hC hR => ?_)
  show V X ([]) [(0, .int 2), (1, .int 2)] [] 0
  refine V.iload_n (pc := 0) 1 hC dX4_find_0 rfl ?_
  refine V.istore_n (pc := 1) [(2, .int 2), (0, .int 2), (1, .int 2)] hC dX4_find_1 (by decide) rfl ?_
  refine V.iconst (pc := 2) 0 hC dX4_find_2 (by decide) ?_
  refine V.istore_n (pc := 3) [(3, .int 0), (2, .int 2), (0, .int 2), (1, .int 2)] hC dX4_find_3 (by decide) rfl ?_
  refine V.iload_n (pc := 4) 0 hC dX4_find_4 rfl ?_
  refine V.getAboveN (pc := 5) hC dX4_find_5 rfl ?_
  refine V.lenAbove (pc := 8) hC dX4_find_8 ?_
  refine V.icmp_ge (pc := 9) 47 hC dX4_find_9 (by decide) (fun c_9 => ?_) (fun c_9 => ?_)
  · have nc_9 : 7 ≤ 0 := (nle (nl 7) (nl 0) (by omega) (by omega)).mp c_9
    exact absurd c_9 (by decide)
  · have nc_9 : ¬ (7 ≤ 0) := fun z => c_9 ((nle (nl 7) (nl 0) (by omega) (by omega)).mpr z)
    refine V.iload_n (pc := 12) 1 hC dX4_find_12 rfl ?_
    refine V.if_le (pc := 13) 47 hC dX4_find_13 (by decide) (fun c_13 => ?_) (fun c_13 => ?_)
    · have nc_13 : 2 ≤ 0 := (nle (nl 2) (nl 0) (by omega) (by omega)).mp c_13
      exact absurd c_13 (by decide)
    · have nc_13 : ¬ (2 ≤ 0) := fun z => c_13 ((nle (nl 2) (nl 0) (by omega) (by omega)).mpr z)
      refine V.getBodies (pc := 16) hC fl_X4_46 dX4_find_16 ?_
      refine V.iload_n (pc := 19) 1 hC dX4_find_19 rfl ?_
      refine V.iconst (pc := 20) 4 hC dX4_find_20 (by decide) ?_
      refine V.imul (pc := 21) hC dX4_find_21 ?_
      refine V.eqi (y := 8) (by decide) ?_
      refine V.iload_n (pc := 22) 2 hC dX4_find_22 rfl ?_
      refine V.iadd (pc := 23) hC dX4_find_23 ?_
      refine V.eqi (y := 10) (by decide) ?_
      refine V.ldBodies (pc := 24) hC 10 0 (nl 10) (by decide) rfl dX4_find_24 ?_
      refine V.istore (pc := 25) [(4, .int 0), (3, .int 0), (2, .int 2), (0, .int 2), (1, .int 2)] hC dX4_find_25 (by decide) rfl ?_
      refine V.iload (pc := 27) 0 hC dX4_find_27 rfl ?_
      refine V.if_eq (pc := 29) 35 hC dX4_find_29 (by decide) (fun c_29 => ?_) (fun c_29 => ?_)
      · have nc_29 : 0 = 0 := (neq (nl 0) (nl 0) (by omega) (by omega)).mp c_29
        refine V.getAboveN (pc := 35) hC dX4_find_35 rfl ?_
        refine V.iload_n (pc := 38) 2 hC dX4_find_38 rfl ?_
        refine V.ldAbove (pc := 39) hC 2 0 (nl 2) (by decide) rfl dX4_find_39 ?_
        refine V.istore_n (pc := 40) [(2, .int 0), (4, .int 0), (3, .int 0), (0, .int 2), (1, .int 2)] hC dX4_find_40 (by decide) rfl ?_
        refine V.iinc (pc := 41) 2 (nI 1) [(3, .int (nI 1)), (2, .int 0), (4, .int 0), (0, .int 2), (1, .int 2)] hC dX4_find_41 rfl (ncast (nadd (nl 0) (nl 1)) (by omega)) (by decide) rfl ?_
        refine V.goto (pc := 44) 4 hC dX4_find_44 (by decide) ?_
        refine V.iload_n (pc := 4) 0 hC dX4_find_4 rfl ?_
        refine V.getAboveN (pc := 5) hC dX4_find_5 rfl ?_
        refine V.lenAbove (pc := 8) hC dX4_find_8 ?_
        refine V.icmp_ge (pc := 9) 47 hC dX4_find_9 (by decide) (fun c_9_2 => ?_) (fun c_9_2 => ?_)
        · have nc_9_2 : 7 ≤ 1 := (nle (nl 7) rfl (by omega) (by omega)).mp c_9_2
          exact absurd c_9_2 (by decide)
        · have nc_9_2 : ¬ (7 ≤ 1) := fun z => c_9_2 ((nle (nl 7) rfl (by omega) (by omega)).mpr z)
          refine V.iload_n (pc := 12) 1 hC dX4_find_12 rfl ?_
          refine V.if_le (pc := 13) 47 hC dX4_find_13 (by decide) (fun c_13_2 => ?_) (fun c_13_2 => ?_)
          · have nc_13_2 : 0 ≤ 0 := (nle (nl 0) (nl 0) (by omega) (by omega)).mp c_13_2
            refine V.getBodies (pc := 47) hC fl_X4_46 dX4_find_47 ?_
            refine V.iconst (pc := 50) 0 hC dX4_find_50 (by decide) ?_
            refine V.iload_n (pc := 51) 3 hC dX4_find_51 rfl ?_
            refine V.iadd (pc := 52) hC dX4_find_52 ?_
            refine V.eqi (y := 2) (by decide) ?_
            refine V.ldBodies (pc := 53) hC 2 12 (nl 2) (by decide) rfl dX4_find_53 ?_
            exact hR 12 () _ _ dX4_find_54 rfl rfl
          · have nc_13_2 : ¬ (0 ≤ 0) := fun z => c_13_2 ((nle (nl 0) (nl 0) (by omega) (by omega)).mpr z)
            exact absurd c_13_2 (by decide)
      · have nc_29 : ¬ (0 = 0) := fun z => c_29 ((neq (nl 0) (nl 0) (by omega) (by omega)).mpr z)
        exact absurd c_29 (by decide)
set_option maxHeartbeats 4000000 in
set_option maxRecDepth 100000 in
theorem c_find_2_3 {l : Launch} {D : va_G} {k : Nat → ClassId} {g : Nat → Nat}   : Ct l D k g yX4_find cX4_find 5 (some .int) 0 0 [.int 2, .int 3] (S := Unit) ([]) (fun _ => []) (fun vv _ => vv = some (.int 40)) := by
  refine Ct.ofI RX4 rfl (by decide +kernel) (Nat.le_of_ble_eq_true rfl) (fun X hC hR => ?_)
  show V X ([]) [(0, .int 2), (1, .int 3)] [] 0
  refine V.iload_n (pc := 0) 1 hC dX4_find_0 rfl ?_
  refine V.istore_n (pc := 1) [(2, .int 3), (0, .int 2), (1, .int 3)] hC dX4_find_1 (by decide) rfl ?_
  refine V.iconst (pc := 2) 0 hC dX4_find_2 (by decide) ?_
  refine V.istore_n (pc := 3) [(3, .int 0), (2, .int 3), (0, .int 2), (1, .int 3)] hC dX4_find_3 (by decide) rfl ?_
  refine V.iload_n (pc := 4) 0 hC dX4_find_4 rfl ?_
  refine V.getAboveN (pc := 5) hC dX4_find_5 rfl ?_
  refine V.lenAbove (pc := 8) hC dX4_find_8 ?_
  refine V.icmp_ge (pc := 9) 47 hC dX4_find_9 (by decide) (fun c_9 => ?_) (fun c_9 => ?_)
  · have nc_9 : 7 ≤ 0 := (nle (nl 7) (nl 0) (by omega) (by omega)).mp c_9
    exact absurd c_9 (by decide)
  · have nc_9 : ¬ (7 ≤ 0) := fun z => c_9 ((nle (nl 7) (nl 0) (by omega) (by omega)).mpr z)
    refine V.iload_n (pc := 12) 1 hC dX4_find_12 rfl ?_
    refine V.if_le (pc := 13) 47 hC dX4_find_13 (by decide) (fun c_13 => ?_) (fun c_13 => ?_)
    · have nc_13 : 3 ≤ 0 := (nle (nl 3) (nl 0) (by omega) (by omega)).mp c_13
      exact absurd c_13 (by decide)
    · have nc_13 : ¬ (3 ≤ 0) := fun z => c_13 ((nle (nl 3) (nl 0) (by omega) (by omega)).mpr z)
      refine V.getBodies (pc := 16) hC fl_X4_46 dX4_find_16 ?_
      refine V.iload_n (pc := 19) 1 hC dX4_find_19 rfl ?_
      refine V.iconst (pc := 20) 4 hC dX4_find_20 (by decide) ?_
      refine V.imul (pc := 21) hC dX4_find_21 ?_
      refine V.eqi (y := 12) (by decide) ?_
      refine V.iload_n (pc := 22) 2 hC dX4_find_22 rfl ?_
      refine V.iadd (pc := 23) hC dX4_find_23 ?_
      refine V.eqi (y := 14) (by decide) ?_
      refine V.ldBodies (pc := 24) hC 14 40 (nl 14) (by decide) rfl dX4_find_24 ?_
      refine V.istore (pc := 25) [(4, .int 40), (3, .int 0), (2, .int 3), (0, .int 2), (1, .int 3)] hC dX4_find_25 (by decide) rfl ?_
      refine V.iload (pc := 27) 0 hC dX4_find_27 rfl ?_
      refine V.if_eq (pc := 29) 35 hC dX4_find_29 (by decide) (fun c_29 => ?_) (fun c_29 => ?_)
      · have nc_29 : 40 = 0 := (neq (nl 40) (nl 0) (by omega) (by omega)).mp c_29
        exact absurd c_29 (by decide)
      · have nc_29 : ¬ (40 = 0) := fun z => c_29 ((neq (nl 40) (nl 0) (by omega) (by omega)).mpr z)
        refine V.iload (pc := 32) 0 hC dX4_find_32 rfl ?_
        exact hR 40 () _ _ dX4_find_34 rfl rfl
set_option maxHeartbeats 4000000 in
set_option maxRecDepth 100000 in
theorem c_find_2_4 {l : Launch} {D : va_G} {k : Nat → ClassId} {g : Nat → Nat}   : Ct l D k g yX4_find cX4_find 5 (some .int) 0 0 [.int 2, .int 4] (S := Unit) ([]) (fun _ => []) (fun vv _ => vv = some (.int 51)) := by
  refine Ct.ofI RX4 rfl (by decide +kernel) (Nat.le_of_ble_eq_true rfl) (fun X hC hR => ?_)
  show V X ([]) [(0, .int 2), (1, .int 4)] [] 0
  refine V.iload_n (pc := 0) 1 hC dX4_find_0 rfl ?_
  refine V.istore_n (pc := 1) [(2, .int 4), (0, .int 2), (1, .int 4)] hC dX4_find_1 (by decide) rfl ?_
  refine V.iconst (pc := 2) 0 hC dX4_find_2 (by decide) ?_
  refine V.istore_n (pc := 3) [(3, .int 0), (2, .int 4), (0, .int 2), (1, .int 4)] hC dX4_find_3 (by decide) rfl ?_
  refine V.iload_n (pc := 4) 0 hC dX4_find_4 rfl ?_
  refine V.getAboveN (pc := 5) hC dX4_find_5 rfl ?_
  refine V.lenAbove (pc := 8) hC dX4_find_8 ?_
  refine V.icmp_ge (pc := 9) 47 hC dX4_find_9 (by decide) (fun c_9 => ?_) (fun c_9 => ?_)
  · have nc_9 : 7 ≤ 0 := (nle (nl 7) (nl 0) (by omega) (by omega)).mp c_9
    exact absurd c_9 (by decide)
  · have nc_9 : ¬ (7 ≤ 0) := fun z => c_9 ((nle (nl 7) (nl 0) (by omega) (by omega)).mpr z)
    refine V.iload_n (pc := 12) 1 hC dX4_find_12 rfl ?_
    refine V.if_le (pc := 13) 47 hC dX4_find_13 (by decide) (fun c_13 => ?_) (fun c_13 => ?_)
    · have nc_13 : 4 ≤ 0 := (nle (nl 4) (nl 0) (by omega) (by omega)).mp c_13
      exact absurd c_13 (by decide)
    · have nc_13 : ¬ (4 ≤ 0) := fun z => c_13 ((nle (nl 4) (nl 0) (by omega) (by omega)).mpr z)
      refine V.getBodies (pc := 16) hC fl_X4_46 dX4_find_16 ?_
      refine V.iload_n (pc := 19) 1 hC dX4_find_19 rfl ?_
      refine V.iconst (pc := 20) 4 hC dX4_find_20 (by decide) ?_
      refine V.imul (pc := 21) hC dX4_find_21 ?_
      refine V.eqi (y := 16) (by decide) ?_
      refine V.iload_n (pc := 22) 2 hC dX4_find_22 rfl ?_
      refine V.iadd (pc := 23) hC dX4_find_23 ?_
      refine V.eqi (y := 18) (by decide) ?_
      refine V.ldBodies (pc := 24) hC 18 51 (nl 18) (by decide) rfl dX4_find_24 ?_
      refine V.istore (pc := 25) [(4, .int 51), (3, .int 0), (2, .int 4), (0, .int 2), (1, .int 4)] hC dX4_find_25 (by decide) rfl ?_
      refine V.iload (pc := 27) 0 hC dX4_find_27 rfl ?_
      refine V.if_eq (pc := 29) 35 hC dX4_find_29 (by decide) (fun c_29 => ?_) (fun c_29 => ?_)
      · have nc_29 : 51 = 0 := (neq (nl 51) (nl 0) (by omega) (by omega)).mp c_29
        exact absurd c_29 (by decide)
      · have nc_29 : ¬ (51 = 0) := fun z => c_29 ((neq (nl 51) (nl 0) (by omega) (by omega)).mpr z)
        refine V.iload (pc := 32) 0 hC dX4_find_32 rfl ?_
        exact hR 51 () _ _ dX4_find_34 rfl rfl
set_option maxHeartbeats 4000000 in
set_option maxRecDepth 100000 in
theorem c_find_2_5 {l : Launch} {D : va_G} {k : Nat → ClassId} {g : Nat → Nat}   : Ct l D k g yX4_find cX4_find 5 (some .int) 0 0 [.int 2, .int 5] (S := Unit) ([]) (fun _ => []) (fun vv _ => vv = some (.int 12)) := by
  refine Ct.ofI RX4 rfl (by decide +kernel) (Nat.le_of_ble_eq_true rfl) (fun X hC hR => ?_)
  show V X ([]) [(0, .int 2), (1, .int 5)] [] 0
  refine V.iload_n (pc := 0) 1 hC dX4_find_0 rfl ?_
  refine V.istore_n (pc := 1) [(2, .int 5), (0, .int 2), (1, .int 5)] hC dX4_find_1 (by decide) rfl ?_
  refine V.iconst (pc := 2) 0 hC dX4_find_2 (by decide) ?_
  refine V.istore_n (pc := 3) [(3, .int 0), (2, .int 5), (0, .int 2), (1, .int 5)] hC dX4_find_3 (by decide) rfl ?_
  refine V.iload_n (pc := 4) 0 hC dX4_find_4 rfl ?_
  refine V.getAboveN (pc := 5) hC dX4_find_5 rfl ?_
  refine V.lenAbove (pc := 8) hC dX4_find_8 ?_
  refine V.icmp_ge (pc := 9) 47 hC dX4_find_9 (by decide) (fun c_9 => ?_) (fun c_9 => ?_)
  · have nc_9 : 7 ≤ 0 := (nle (nl 7) (nl 0) (by omega) (by omega)).mp c_9
    exact absurd c_9 (by decide)
  · have nc_9 : ¬ (7 ≤ 0) := fun z => c_9 ((nle (nl 7) (nl 0) (by omega) (by omega)).mpr z)
    refine V.iload_n (pc := 12) 1 hC dX4_find_12 rfl ?_
    refine V.if_le (pc := 13) 47 hC dX4_find_13 (by decide) (fun c_13 => ?_) (fun c_13 => ?_)
    · have nc_13 : 5 ≤ 0 := (nle (nl 5) (nl 0) (by omega) (by omega)).mp c_13
      exact absurd c_13 (by decide)
    · have nc_13 : ¬ (5 ≤ 0) := fun z => c_13 ((nle (nl 5) (nl 0) (by omega) (by omega)).mpr z)
      refine V.getBodies (pc := 16) hC fl_X4_46 dX4_find_16 ?_
      refine V.iload_n (pc := 19) 1 hC dX4_find_19 rfl ?_
      refine V.iconst (pc := 20) 4 hC dX4_find_20 (by decide) ?_
      refine V.imul (pc := 21) hC dX4_find_21 ?_
      refine V.eqi (y := 20) (by decide) ?_
      refine V.iload_n (pc := 22) 2 hC dX4_find_22 rfl ?_
      refine V.iadd (pc := 23) hC dX4_find_23 ?_
      refine V.eqi (y := 22) (by decide) ?_
      refine V.ldBodies (pc := 24) hC 22 0 (nl 22) (by decide) rfl dX4_find_24 ?_
      refine V.istore (pc := 25) [(4, .int 0), (3, .int 0), (2, .int 5), (0, .int 2), (1, .int 5)] hC dX4_find_25 (by decide) rfl ?_
      refine V.iload (pc := 27) 0 hC dX4_find_27 rfl ?_
      refine V.if_eq (pc := 29) 35 hC dX4_find_29 (by decide) (fun c_29 => ?_) (fun c_29 => ?_)
      · have nc_29 : 0 = 0 := (neq (nl 0) (nl 0) (by omega) (by omega)).mp c_29
        refine V.getAboveN (pc := 35) hC dX4_find_35 rfl ?_
        refine V.iload_n (pc := 38) 2 hC dX4_find_38 rfl ?_
        refine V.ldAbove (pc := 39) hC 5 2 (nl 5) (by decide) rfl dX4_find_39 ?_
        refine V.istore_n (pc := 40) [(2, .int 2), (4, .int 0), (3, .int 0), (0, .int 2), (1, .int 5)] hC dX4_find_40 (by decide) rfl ?_
        refine V.iinc (pc := 41) 2 (nI 1) [(3, .int (nI 1)), (2, .int 2), (4, .int 0), (0, .int 2), (1, .int 5)] hC dX4_find_41 rfl (ncast (nadd (nl 0) (nl 1)) (by omega)) (by decide) rfl ?_
        refine V.goto (pc := 44) 4 hC dX4_find_44 (by decide) ?_
        refine V.iload_n (pc := 4) 0 hC dX4_find_4 rfl ?_
        refine V.getAboveN (pc := 5) hC dX4_find_5 rfl ?_
        refine V.lenAbove (pc := 8) hC dX4_find_8 ?_
        refine V.icmp_ge (pc := 9) 47 hC dX4_find_9 (by decide) (fun c_9_2 => ?_) (fun c_9_2 => ?_)
        · have nc_9_2 : 7 ≤ 1 := (nle (nl 7) rfl (by omega) (by omega)).mp c_9_2
          exact absurd c_9_2 (by decide)
        · have nc_9_2 : ¬ (7 ≤ 1) := fun z => c_9_2 ((nle (nl 7) rfl (by omega) (by omega)).mpr z)
          refine V.iload_n (pc := 12) 1 hC dX4_find_12 rfl ?_
          refine V.if_le (pc := 13) 47 hC dX4_find_13 (by decide) (fun c_13_2 => ?_) (fun c_13_2 => ?_)
          · have nc_13_2 : 2 ≤ 0 := (nle (nl 2) (nl 0) (by omega) (by omega)).mp c_13_2
            exact absurd c_13_2 (by decide)
          · have nc_13_2 : ¬ (2 ≤ 0) := fun z => c_13_2 ((nle (nl 2) (nl 0) (by omega) (by omega)).mpr z)
            refine V.getBodies (pc := 16) hC fl_X4_46 dX4_find_16 ?_
            refine V.iload_n (pc := 19) 1 hC dX4_find_19 rfl ?_
            refine V.iconst (pc := 20) 4 hC dX4_find_20 (by decide) ?_
            refine V.imul (pc := 21) hC dX4_find_21 ?_
            refine V.eqi (y := 8) (by decide) ?_
            refine V.iload_n (pc := 22) 3 hC dX4_find_22 rfl ?_
            refine V.iadd (pc := 23) hC dX4_find_23 ?_
            refine V.eqi (y := 10) (by decide) ?_
            refine V.ldBodies (pc := 24) hC 10 0 (nl 10) (by decide) rfl dX4_find_24 ?_
            refine V.istore (pc := 25) [(4, .int 0), (3, .int (nI 1)), (2, .int 2), (0, .int 2), (1, .int 5)] hC dX4_find_25 (by decide) rfl ?_
            refine V.iload (pc := 27) 0 hC dX4_find_27 rfl ?_
            refine V.if_eq (pc := 29) 35 hC dX4_find_29 (by decide) (fun c_29_2 => ?_) (fun c_29_2 => ?_)
            · have nc_29_2 : 0 = 0 := (neq (nl 0) (nl 0) (by omega) (by omega)).mp c_29_2
              refine V.getAboveN (pc := 35) hC dX4_find_35 rfl ?_
              refine V.iload_n (pc := 38) 2 hC dX4_find_38 rfl ?_
              refine V.ldAbove (pc := 39) hC 2 0 (nl 2) (by decide) rfl dX4_find_39 ?_
              refine V.istore_n (pc := 40) [(2, .int 0), (4, .int 0), (3, .int (nI 1)), (0, .int 2), (1, .int 5)] hC dX4_find_40 (by decide) rfl ?_
              refine V.iinc (pc := 41) 2 (nI 2) [(3, .int (nI 2)), (2, .int 0), (4, .int 0), (0, .int 2), (1, .int 5)] hC dX4_find_41 rfl (ncast (nadd rfl (nl 1)) (by omega)) (by decide) rfl ?_
              refine V.goto (pc := 44) 4 hC dX4_find_44 (by decide) ?_
              refine V.iload_n (pc := 4) 0 hC dX4_find_4 rfl ?_
              refine V.getAboveN (pc := 5) hC dX4_find_5 rfl ?_
              refine V.lenAbove (pc := 8) hC dX4_find_8 ?_
              refine V.icmp_ge (pc := 9) 47 hC dX4_find_9 (by decide) (fun c_9_3 => ?_) (fun c_9_3 => ?_)
              · have nc_9_3 : 7 ≤ 2 := (nle (nl 7) rfl (by omega) (by omega)).mp c_9_3
                exact absurd c_9_3 (by decide)
              · have nc_9_3 : ¬ (7 ≤ 2) := fun z => c_9_3 ((nle (nl 7) rfl (by omega) (by omega)).mpr z)
                refine V.iload_n (pc := 12) 1 hC dX4_find_12 rfl ?_
                refine V.if_le (pc := 13) 47 hC dX4_find_13 (by decide) (fun c_13_3 => ?_) (fun c_13_3 => ?_)
                · have nc_13_3 : 0 ≤ 0 := (nle (nl 0) (nl 0) (by omega) (by omega)).mp c_13_3
                  refine V.getBodies (pc := 47) hC fl_X4_46 dX4_find_47 ?_
                  refine V.iconst (pc := 50) 0 hC dX4_find_50 (by decide) ?_
                  refine V.iload_n (pc := 51) 3 hC dX4_find_51 rfl ?_
                  refine V.iadd (pc := 52) hC dX4_find_52 ?_
                  refine V.eqi (y := 2) (by decide) ?_
                  refine V.ldBodies (pc := 53) hC 2 12 (nl 2) (by decide) rfl dX4_find_53 ?_
                  exact hR 12 () _ _ dX4_find_54 rfl rfl
                · have nc_13_3 : ¬ (0 ≤ 0) := fun z => c_13_3 ((nle (nl 0) (nl 0) (by omega) (by omega)).mpr z)
                  exact absurd c_13_3 (by decide)
            · have nc_29_2 : ¬ (0 = 0) := fun z => c_29_2 ((neq (nl 0) (nl 0) (by omega) (by omega)).mpr z)
              exact absurd c_29_2 (by decide)
      · have nc_29 : ¬ (0 = 0) := fun z => c_29 ((neq (nl 0) (nl 0) (by omega) (by omega)).mpr z)
        exact absurd c_29 (by decide)
set_option maxHeartbeats 4000000 in
set_option maxRecDepth 100000 in
theorem c_find_2_6 {l : Launch} {D : va_G} {k : Nat → ClassId} {g : Nat → Nat}   : Ct l D k g yX4_find cX4_find 5 (some .int) 0 0 [.int 2, .int 6] (S := Unit) ([]) (fun _ => []) (fun vv _ => vv = some (.int 12)) := by
  refine Ct.ofI RX4 rfl (by decide +kernel) (Nat.le_of_ble_eq_true rfl) (fun X hC hR => ?_)
  show V X ([]) [(0, .int 2), (1, .int 6)] [] 0
  refine V.iload_n (pc := 0) 1 hC dX4_find_0 rfl ?_
  refine V.istore_n (pc := 1) [(2, .int 6), (0, .int 2), (1, .int 6)] hC dX4_find_1 (by decide) rfl ?_
  refine V.iconst (pc := 2) 0 hC dX4_find_2 (by decide) ?_
  refine V.istore_n (pc := 3) [(3, .int 0), (2, .int 6), (0, .int 2), (1, .int 6)] hC dX4_find_3 (by decide) rfl ?_
  refine V.iload_n (pc := 4) 0 hC dX4_find_4 rfl ?_
  refine V.getAboveN (pc := 5) hC dX4_find_5 rfl ?_
  refine V.lenAbove (pc := 8) hC dX4_find_8 ?_
  refine V.icmp_ge (pc := 9) 47 hC dX4_find_9 (by decide) (fun c_9 => ?_) (fun c_9 => ?_)
  · have nc_9 : 7 ≤ 0 := (nle (nl 7) (nl 0) (by omega) (by omega)).mp c_9
    exact absurd c_9 (by decide)
  · have nc_9 : ¬ (7 ≤ 0) := fun z => c_9 ((nle (nl 7) (nl 0) (by omega) (by omega)).mpr z)
    refine V.iload_n (pc := 12) 1 hC dX4_find_12 rfl ?_
    refine V.if_le (pc := 13) 47 hC dX4_find_13 (by decide) (fun c_13 => ?_) (fun c_13 => ?_)
    · have nc_13 : 6 ≤ 0 := (nle (nl 6) (nl 0) (by omega) (by omega)).mp c_13
      exact absurd c_13 (by decide)
    · have nc_13 : ¬ (6 ≤ 0) := fun z => c_13 ((nle (nl 6) (nl 0) (by omega) (by omega)).mpr z)
      refine V.getBodies (pc := 16) hC fl_X4_46 dX4_find_16 ?_
      refine V.iload_n (pc := 19) 1 hC dX4_find_19 rfl ?_
      refine V.iconst (pc := 20) 4 hC dX4_find_20 (by decide) ?_
      refine V.imul (pc := 21) hC dX4_find_21 ?_
      refine V.eqi (y := 24) (by decide) ?_
      refine V.iload_n (pc := 22) 2 hC dX4_find_22 rfl ?_
      refine V.iadd (pc := 23) hC dX4_find_23 ?_
      refine V.eqi (y := 26) (by decide) ?_
      refine V.ldBodies (pc := 24) hC 26 0 (nl 26) (by decide) rfl dX4_find_24 ?_
      refine V.istore (pc := 25) [(4, .int 0), (3, .int 0), (2, .int 6), (0, .int 2), (1, .int 6)] hC dX4_find_25 (by decide) rfl ?_
      refine V.iload (pc := 27) 0 hC dX4_find_27 rfl ?_
      refine V.if_eq (pc := 29) 35 hC dX4_find_29 (by decide) (fun c_29 => ?_) (fun c_29 => ?_)
      · have nc_29 : 0 = 0 := (neq (nl 0) (nl 0) (by omega) (by omega)).mp c_29
        refine V.getAboveN (pc := 35) hC dX4_find_35 rfl ?_
        refine V.iload_n (pc := 38) 2 hC dX4_find_38 rfl ?_
        refine V.ldAbove (pc := 39) hC 6 0 (nl 6) (by decide) rfl dX4_find_39 ?_
        refine V.istore_n (pc := 40) [(2, .int 0), (4, .int 0), (3, .int 0), (0, .int 2), (1, .int 6)] hC dX4_find_40 (by decide) rfl ?_
        refine V.iinc (pc := 41) 2 (nI 1) [(3, .int (nI 1)), (2, .int 0), (4, .int 0), (0, .int 2), (1, .int 6)] hC dX4_find_41 rfl (ncast (nadd (nl 0) (nl 1)) (by omega)) (by decide) rfl ?_
        refine V.goto (pc := 44) 4 hC dX4_find_44 (by decide) ?_
        refine V.iload_n (pc := 4) 0 hC dX4_find_4 rfl ?_
        refine V.getAboveN (pc := 5) hC dX4_find_5 rfl ?_
        refine V.lenAbove (pc := 8) hC dX4_find_8 ?_
        refine V.icmp_ge (pc := 9) 47 hC dX4_find_9 (by decide) (fun c_9_2 => ?_) (fun c_9_2 => ?_)
        · have nc_9_2 : 7 ≤ 1 := (nle (nl 7) rfl (by omega) (by omega)).mp c_9_2
          exact absurd c_9_2 (by decide)
        · have nc_9_2 : ¬ (7 ≤ 1) := fun z => c_9_2 ((nle (nl 7) rfl (by omega) (by omega)).mpr z)
          refine V.iload_n (pc := 12) 1 hC dX4_find_12 rfl ?_
          refine V.if_le (pc := 13) 47 hC dX4_find_13 (by decide) (fun c_13_2 => ?_) (fun c_13_2 => ?_)
          · have nc_13_2 : 0 ≤ 0 := (nle (nl 0) (nl 0) (by omega) (by omega)).mp c_13_2
            refine V.getBodies (pc := 47) hC fl_X4_46 dX4_find_47 ?_
            refine V.iconst (pc := 50) 0 hC dX4_find_50 (by decide) ?_
            refine V.iload_n (pc := 51) 3 hC dX4_find_51 rfl ?_
            refine V.iadd (pc := 52) hC dX4_find_52 ?_
            refine V.eqi (y := 2) (by decide) ?_
            refine V.ldBodies (pc := 53) hC 2 12 (nl 2) (by decide) rfl dX4_find_53 ?_
            exact hR 12 () _ _ dX4_find_54 rfl rfl
          · have nc_13_2 : ¬ (0 ≤ 0) := fun z => c_13_2 ((nle (nl 0) (nl 0) (by omega) (by omega)).mpr z)
            exact absurd c_13_2 (by decide)
      · have nc_29 : ¬ (0 = 0) := fun z => c_29 ((neq (nl 0) (nl 0) (by omega) (by omega)).mpr z)
        exact absurd c_29 (by decide)
set_option maxHeartbeats 4000000 in
set_option maxRecDepth 100000 in
theorem c_find_3_0 {l : Launch} {D : va_G} {k : Nat → ClassId} {g : Nat → Nat}   : Ct l D k g yX4_find cX4_find 5 (some .int) 0 0 [.int 3, .int 0] (S := Unit) ([]) (fun _ => []) (fun vv _ => vv = some (.int 13)) := by
  refine Ct.ofI RX4 rfl (by decide +kernel) (Nat.le_of_ble_eq_true rfl) (fun X hC hR => ?_)
  show V X ([]) [(0, .int 3), (1, .int 0)] [] 0
  refine V.iload_n (pc := 0) 1 hC dX4_find_0 rfl ?_
  refine V.istore_n (pc := 1) [(2, .int 0), (0, .int 3), (1, .int 0)] hC dX4_find_1 (by decide) rfl ?_
  refine V.iconst (pc := 2) 0 hC dX4_find_2 (by decide) ?_
  refine V.istore_n (pc := 3) [(3, .int 0), (2, .int 0), (0, .int 3), (1, .int 0)] hC dX4_find_3 (by decide) rfl ?_
  refine V.iload_n (pc := 4) 0 hC dX4_find_4 rfl ?_
  refine V.getAboveN (pc := 5) hC dX4_find_5 rfl ?_
  refine V.lenAbove (pc := 8) hC dX4_find_8 ?_
  refine V.icmp_ge (pc := 9) 47 hC dX4_find_9 (by decide) (fun c_9 => ?_) (fun c_9 => ?_)
  · have nc_9 : 7 ≤ 0 := (nle (nl 7) (nl 0) (by omega) (by omega)).mp c_9
    exact absurd c_9 (by decide)
  · have nc_9 : ¬ (7 ≤ 0) := fun z => c_9 ((nle (nl 7) (nl 0) (by omega) (by omega)).mpr z)
    refine V.iload_n (pc := 12) 1 hC dX4_find_12 rfl ?_
    refine V.if_le (pc := 13) 47 hC dX4_find_13 (by decide) (fun c_13 => ?_) (fun c_13 => ?_)
    · have nc_13 : 0 ≤ 0 := (nle (nl 0) (nl 0) (by omega) (by omega)).mp c_13
      refine V.getBodies (pc := 47) hC fl_X4_46 dX4_find_47 ?_
      refine V.iconst (pc := 50) 0 hC dX4_find_50 (by decide) ?_
      refine V.iload_n (pc := 51) 2 hC dX4_find_51 rfl ?_
      refine V.iadd (pc := 52) hC dX4_find_52 ?_
      refine V.eqi (y := 3) (by decide) ?_
      refine V.ldBodies (pc := 53) hC 3 13 (nl 3) (by decide) rfl dX4_find_53 ?_
      exact hR 13 () _ _ dX4_find_54 rfl rfl
    · have nc_13 : ¬ (0 ≤ 0) := fun z => c_13 ((nle (nl 0) (nl 0) (by omega) (by omega)).mpr z)
      exact absurd c_13 (by decide)
set_option maxHeartbeats 4000000 in
set_option maxRecDepth 100000 in
theorem c_find_3_1 {l : Launch} {D : va_G} {k : Nat → ClassId} {g : Nat → Nat}   : Ct l D k g yX4_find cX4_find 5 (some .int) 0 0 [.int 3, .int 1] (S := Unit) ([]) (fun _ => []) (fun vv _ => vv = some (.int 21)) := by
  refine Ct.ofI RX4 rfl (by decide +kernel) (Nat.le_of_ble_eq_true rfl) (fun X hC hR => ?_)
  show V X ([]) [(0, .int 3), (1, .int 1)] [] 0
  refine V.iload_n (pc := 0) 1 hC dX4_find_0 rfl ?_
  refine V.istore_n (pc := 1) [(2, .int 1), (0, .int 3), (1, .int 1)] hC dX4_find_1 (by decide) rfl ?_
  refine V.iconst (pc := 2) 0 hC dX4_find_2 (by decide) ?_
  refine V.istore_n (pc := 3) [(3, .int 0), (2, .int 1), (0, .int 3), (1, .int 1)] hC dX4_find_3 (by decide) rfl ?_
  refine V.iload_n (pc := 4) 0 hC dX4_find_4 rfl ?_
  refine V.getAboveN (pc := 5) hC dX4_find_5 rfl ?_
  refine V.lenAbove (pc := 8) hC dX4_find_8 ?_
  refine V.icmp_ge (pc := 9) 47 hC dX4_find_9 (by decide) (fun c_9 => ?_) (fun c_9 => ?_)
  · have nc_9 : 7 ≤ 0 := (nle (nl 7) (nl 0) (by omega) (by omega)).mp c_9
    exact absurd c_9 (by decide)
  · have nc_9 : ¬ (7 ≤ 0) := fun z => c_9 ((nle (nl 7) (nl 0) (by omega) (by omega)).mpr z)
    refine V.iload_n (pc := 12) 1 hC dX4_find_12 rfl ?_
    refine V.if_le (pc := 13) 47 hC dX4_find_13 (by decide) (fun c_13 => ?_) (fun c_13 => ?_)
    · have nc_13 : 1 ≤ 0 := (nle (nl 1) (nl 0) (by omega) (by omega)).mp c_13
      exact absurd c_13 (by decide)
    · have nc_13 : ¬ (1 ≤ 0) := fun z => c_13 ((nle (nl 1) (nl 0) (by omega) (by omega)).mpr z)
      refine V.getBodies (pc := 16) hC fl_X4_46 dX4_find_16 ?_
      refine V.iload_n (pc := 19) 1 hC dX4_find_19 rfl ?_
      refine V.iconst (pc := 20) 4 hC dX4_find_20 (by decide) ?_
      refine V.imul (pc := 21) hC dX4_find_21 ?_
      refine V.eqi (y := 4) (by decide) ?_
      refine V.iload_n (pc := 22) 2 hC dX4_find_22 rfl ?_
      refine V.iadd (pc := 23) hC dX4_find_23 ?_
      refine V.eqi (y := 7) (by decide) ?_
      refine V.ldBodies (pc := 24) hC 7 21 (nl 7) (by decide) rfl dX4_find_24 ?_
      refine V.istore (pc := 25) [(4, .int 21), (3, .int 0), (2, .int 1), (0, .int 3), (1, .int 1)] hC dX4_find_25 (by decide) rfl ?_
      refine V.iload (pc := 27) 0 hC dX4_find_27 rfl ?_
      refine V.if_eq (pc := 29) 35 hC dX4_find_29 (by decide) (fun c_29 => ?_) (fun c_29 => ?_)
      · have nc_29 : 21 = 0 := (neq (nl 21) (nl 0) (by omega) (by omega)).mp c_29
        exact absurd c_29 (by decide)
      · have nc_29 : ¬ (21 = 0) := fun z => c_29 ((neq (nl 21) (nl 0) (by omega) (by omega)).mpr z)
        refine V.iload (pc := 32) 0 hC dX4_find_32 rfl ?_
        exact hR 21 () _ _ dX4_find_34 rfl rfl
set_option maxHeartbeats 4000000 in
set_option maxRecDepth 100000 in
theorem c_find_3_2 {l : Launch} {D : va_G} {k : Nat → ClassId} {g : Nat → Nat}   : Ct l D k g yX4_find cX4_find 5 (some .int) 0 0 [.int 3, .int 2] (S := Unit) ([]) (fun _ => []) (fun vv _ => vv = some (.int 13)) := by
  refine Ct.ofI RX4 rfl (by decide +kernel) (Nat.le_of_ble_eq_true rfl) (fun X hC hR => ?_)
  show V X ([]) [(0, .int 3), (1, .int 2)] [] 0
  refine V.iload_n (pc := 0) 1 hC dX4_find_0 rfl ?_
  refine V.istore_n (pc := 1) [(2, .int 2), (0, .int 3), (1, .int 2)] hC dX4_find_1 (by decide) rfl ?_
  refine V.iconst (pc := 2) 0 hC dX4_find_2 (by decide) ?_
  refine V.istore_n (pc := 3) [(3, .int 0), (2, .int 2), (0, .int 3), (1, .int 2)] hC dX4_find_3 (by decide) rfl ?_
  refine V.iload_n (pc := 4) 0 hC dX4_find_4 rfl ?_
  refine V.getAboveN (pc := 5) hC dX4_find_5 rfl ?_
  refine V.lenAbove (pc := 8) hC dX4_find_8 ?_
  refine V.icmp_ge (pc := 9) 47 hC dX4_find_9 (by decide) (fun c_9 => ?_) (fun c_9 => ?_)
  · have nc_9 : 7 ≤ 0 := (nle (nl 7) (nl 0) (by omega) (by omega)).mp c_9
    exact absurd c_9 (by decide)
  · have nc_9 : ¬ (7 ≤ 0) := fun z => c_9 ((nle (nl 7) (nl 0) (by omega) (by omega)).mpr z)
    refine V.iload_n (pc := 12) 1 hC dX4_find_12 rfl ?_
    refine V.if_le (pc := 13) 47 hC dX4_find_13 (by decide) (fun c_13 => ?_) (fun c_13 => ?_)
    · have nc_13 : 2 ≤ 0 := (nle (nl 2) (nl 0) (by omega) (by omega)).mp c_13
      exact absurd c_13 (by decide)
    · have nc_13 : ¬ (2 ≤ 0) := fun z => c_13 ((nle (nl 2) (nl 0) (by omega) (by omega)).mpr z)
      refine V.getBodies (pc := 16) hC fl_X4_46 dX4_find_16 ?_
      refine V.iload_n (pc := 19) 1 hC dX4_find_19 rfl ?_
      refine V.iconst (pc := 20) 4 hC dX4_find_20 (by decide) ?_
      refine V.imul (pc := 21) hC dX4_find_21 ?_
      refine V.eqi (y := 8) (by decide) ?_
      refine V.iload_n (pc := 22) 2 hC dX4_find_22 rfl ?_
      refine V.iadd (pc := 23) hC dX4_find_23 ?_
      refine V.eqi (y := 11) (by decide) ?_
      refine V.ldBodies (pc := 24) hC 11 0 (nl 11) (by decide) rfl dX4_find_24 ?_
      refine V.istore (pc := 25) [(4, .int 0), (3, .int 0), (2, .int 2), (0, .int 3), (1, .int 2)] hC dX4_find_25 (by decide) rfl ?_
      refine V.iload (pc := 27) 0 hC dX4_find_27 rfl ?_
      refine V.if_eq (pc := 29) 35 hC dX4_find_29 (by decide) (fun c_29 => ?_) (fun c_29 => ?_)
      · have nc_29 : 0 = 0 := (neq (nl 0) (nl 0) (by omega) (by omega)).mp c_29
        refine V.getAboveN (pc := 35) hC dX4_find_35 rfl ?_
        refine V.iload_n (pc := 38) 2 hC dX4_find_38 rfl ?_
        refine V.ldAbove (pc := 39) hC 2 0 (nl 2) (by decide) rfl dX4_find_39 ?_
        refine V.istore_n (pc := 40) [(2, .int 0), (4, .int 0), (3, .int 0), (0, .int 3), (1, .int 2)] hC dX4_find_40 (by decide) rfl ?_
        refine V.iinc (pc := 41) 2 (nI 1) [(3, .int (nI 1)), (2, .int 0), (4, .int 0), (0, .int 3), (1, .int 2)] hC dX4_find_41 rfl (ncast (nadd (nl 0) (nl 1)) (by omega)) (by decide) rfl ?_
        refine V.goto (pc := 44) 4 hC dX4_find_44 (by decide) ?_
        refine V.iload_n (pc := 4) 0 hC dX4_find_4 rfl ?_
        refine V.getAboveN (pc := 5) hC dX4_find_5 rfl ?_
        refine V.lenAbove (pc := 8) hC dX4_find_8 ?_
        refine V.icmp_ge (pc := 9) 47 hC dX4_find_9 (by decide) (fun c_9_2 => ?_) (fun c_9_2 => ?_)
        · have nc_9_2 : 7 ≤ 1 := (nle (nl 7) rfl (by omega) (by omega)).mp c_9_2
          exact absurd c_9_2 (by decide)
        · have nc_9_2 : ¬ (7 ≤ 1) := fun z => c_9_2 ((nle (nl 7) rfl (by omega) (by omega)).mpr z)
          refine V.iload_n (pc := 12) 1 hC dX4_find_12 rfl ?_
          refine V.if_le (pc := 13) 47 hC dX4_find_13 (by decide) (fun c_13_2 => ?_) (fun c_13_2 => ?_)
          · have nc_13_2 : 0 ≤ 0 := (nle (nl 0) (nl 0) (by omega) (by omega)).mp c_13_2
            refine V.getBodies (pc := 47) hC fl_X4_46 dX4_find_47 ?_
            refine V.iconst (pc := 50) 0 hC dX4_find_50 (by decide) ?_
            refine V.iload_n (pc := 51) 3 hC dX4_find_51 rfl ?_
            refine V.iadd (pc := 52) hC dX4_find_52 ?_
            refine V.eqi (y := 3) (by decide) ?_
            refine V.ldBodies (pc := 53) hC 3 13 (nl 3) (by decide) rfl dX4_find_53 ?_
            exact hR 13 () _ _ dX4_find_54 rfl rfl
          · have nc_13_2 : ¬ (0 ≤ 0) := fun z => c_13_2 ((nle (nl 0) (nl 0) (by omega) (by omega)).mpr z)
            exact absurd c_13_2 (by decide)
      · have nc_29 : ¬ (0 = 0) := fun z => c_29 ((neq (nl 0) (nl 0) (by omega) (by omega)).mpr z)
        exact absurd c_29 (by decide)
set_option maxHeartbeats 4000000 in
set_option maxRecDepth 100000 in
theorem c_find_3_3 {l : Launch} {D : va_G} {k : Nat → ClassId} {g : Nat → Nat}   : Ct l D k g yX4_find cX4_find 5 (some .int) 0 0 [.int 3, .int 3] (S := Unit) ([]) (fun _ => []) (fun vv _ => vv = some (.int 13)) := by
  refine Ct.ofI RX4 rfl (by decide +kernel) (Nat.le_of_ble_eq_true rfl) (fun X hC hR => ?_)
  show V X ([]) [(0, .int 3), (1, .int 3)] [] 0
  refine V.iload_n (pc := 0) 1 hC dX4_find_0 rfl ?_
  refine V.istore_n (pc := 1) [(2, .int 3), (0, .int 3), (1, .int 3)] hC dX4_find_1 (by decide) rfl ?_
  refine V.iconst (pc := 2) 0 hC dX4_find_2 (by decide) ?_
  refine V.istore_n (pc := 3) [(3, .int 0), (2, .int 3), (0, .int 3), (1, .int 3)] hC dX4_find_3 (by decide) rfl ?_
  refine V.iload_n (pc := 4) 0 hC dX4_find_4 rfl ?_
  refine V.getAboveN (pc := 5) hC dX4_find_5 rfl ?_
  refine V.lenAbove (pc := 8) hC dX4_find_8 ?_
  refine V.icmp_ge (pc := 9) 47 hC dX4_find_9 (by decide) (fun c_9 => ?_) (fun c_9 => ?_)
  · have nc_9 : 7 ≤ 0 := (nle (nl 7) (nl 0) (by omega) (by omega)).mp c_9
    exact absurd c_9 (by decide)
  · have nc_9 : ¬ (7 ≤ 0) := fun z => c_9 ((nle (nl 7) (nl 0) (by omega) (by omega)).mpr z)
    refine V.iload_n (pc := 12) 1 hC dX4_find_12 rfl ?_
    refine V.if_le (pc := 13) 47 hC dX4_find_13 (by decide) (fun c_13 => ?_) (fun c_13 => ?_)
    · have nc_13 : 3 ≤ 0 := (nle (nl 3) (nl 0) (by omega) (by omega)).mp c_13
      exact absurd c_13 (by decide)
    · have nc_13 : ¬ (3 ≤ 0) := fun z => c_13 ((nle (nl 3) (nl 0) (by omega) (by omega)).mpr z)
      refine V.getBodies (pc := 16) hC fl_X4_46 dX4_find_16 ?_
      refine V.iload_n (pc := 19) 1 hC dX4_find_19 rfl ?_
      refine V.iconst (pc := 20) 4 hC dX4_find_20 (by decide) ?_
      refine V.imul (pc := 21) hC dX4_find_21 ?_
      refine V.eqi (y := 12) (by decide) ?_
      refine V.iload_n (pc := 22) 2 hC dX4_find_22 rfl ?_
      refine V.iadd (pc := 23) hC dX4_find_23 ?_
      refine V.eqi (y := 15) (by decide) ?_
      refine V.ldBodies (pc := 24) hC 15 0 (nl 15) (by decide) rfl dX4_find_24 ?_
      refine V.istore (pc := 25) [(4, .int 0), (3, .int 0), (2, .int 3), (0, .int 3), (1, .int 3)] hC dX4_find_25 (by decide) rfl ?_
      refine V.iload (pc := 27) 0 hC dX4_find_27 rfl ?_
      refine V.if_eq (pc := 29) 35 hC dX4_find_29 (by decide) (fun c_29 => ?_) (fun c_29 => ?_)
      · have nc_29 : 0 = 0 := (neq (nl 0) (nl 0) (by omega) (by omega)).mp c_29
        refine V.getAboveN (pc := 35) hC dX4_find_35 rfl ?_
        refine V.iload_n (pc := 38) 2 hC dX4_find_38 rfl ?_
        refine V.ldAbove (pc := 39) hC 3 0 (nl 3) (by decide) rfl dX4_find_39 ?_
        refine V.istore_n (pc := 40) [(2, .int 0), (4, .int 0), (3, .int 0), (0, .int 3), (1, .int 3)] hC dX4_find_40 (by decide) rfl ?_
        refine V.iinc (pc := 41) 2 (nI 1) [(3, .int (nI 1)), (2, .int 0), (4, .int 0), (0, .int 3), (1, .int 3)] hC dX4_find_41 rfl (ncast (nadd (nl 0) (nl 1)) (by omega)) (by decide) rfl ?_
        refine V.goto (pc := 44) 4 hC dX4_find_44 (by decide) ?_
        refine V.iload_n (pc := 4) 0 hC dX4_find_4 rfl ?_
        refine V.getAboveN (pc := 5) hC dX4_find_5 rfl ?_
        refine V.lenAbove (pc := 8) hC dX4_find_8 ?_
        refine V.icmp_ge (pc := 9) 47 hC dX4_find_9 (by decide) (fun c_9_2 => ?_) (fun c_9_2 => ?_)
        · have nc_9_2 : 7 ≤ 1 := (nle (nl 7) rfl (by omega) (by omega)).mp c_9_2
          exact absurd c_9_2 (by decide)
        · have nc_9_2 : ¬ (7 ≤ 1) := fun z => c_9_2 ((nle (nl 7) rfl (by omega) (by omega)).mpr z)
          refine V.iload_n (pc := 12) 1 hC dX4_find_12 rfl ?_
          refine V.if_le (pc := 13) 47 hC dX4_find_13 (by decide) (fun c_13_2 => ?_) (fun c_13_2 => ?_)
          · have nc_13_2 : 0 ≤ 0 := (nle (nl 0) (nl 0) (by omega) (by omega)).mp c_13_2
            refine V.getBodies (pc := 47) hC fl_X4_46 dX4_find_47 ?_
            refine V.iconst (pc := 50) 0 hC dX4_find_50 (by decide) ?_
            refine V.iload_n (pc := 51) 3 hC dX4_find_51 rfl ?_
            refine V.iadd (pc := 52) hC dX4_find_52 ?_
            refine V.eqi (y := 3) (by decide) ?_
            refine V.ldBodies (pc := 53) hC 3 13 (nl 3) (by decide) rfl dX4_find_53 ?_
            exact hR 13 () _ _ dX4_find_54 rfl rfl
          · have nc_13_2 : ¬ (0 ≤ 0) := fun z => c_13_2 ((nle (nl 0) (nl 0) (by omega) (by omega)).mpr z)
            exact absurd c_13_2 (by decide)
      · have nc_29 : ¬ (0 = 0) := fun z => c_29 ((neq (nl 0) (nl 0) (by omega) (by omega)).mpr z)
        exact absurd c_29 (by decide)
set_option maxHeartbeats 4000000 in
set_option maxRecDepth 100000 in
theorem c_find_3_4 {l : Launch} {D : va_G} {k : Nat → ClassId} {g : Nat → Nat}   : Ct l D k g yX4_find cX4_find 5 (some .int) 0 0 [.int 3, .int 4] (S := Unit) ([]) (fun _ => []) (fun vv _ => vv = some (.int 21)) := by
  refine Ct.ofI RX4 rfl (by decide +kernel) (Nat.le_of_ble_eq_true rfl) (fun X hC hR => ?_)
  show V X ([]) [(0, .int 3), (1, .int 4)] [] 0
  refine V.iload_n (pc := 0) 1 hC dX4_find_0 rfl ?_
  refine V.istore_n (pc := 1) [(2, .int 4), (0, .int 3), (1, .int 4)] hC dX4_find_1 (by decide) rfl ?_
  refine V.iconst (pc := 2) 0 hC dX4_find_2 (by decide) ?_
  refine V.istore_n (pc := 3) [(3, .int 0), (2, .int 4), (0, .int 3), (1, .int 4)] hC dX4_find_3 (by decide) rfl ?_
  refine V.iload_n (pc := 4) 0 hC dX4_find_4 rfl ?_
  refine V.getAboveN (pc := 5) hC dX4_find_5 rfl ?_
  refine V.lenAbove (pc := 8) hC dX4_find_8 ?_
  refine V.icmp_ge (pc := 9) 47 hC dX4_find_9 (by decide) (fun c_9 => ?_) (fun c_9 => ?_)
  · have nc_9 : 7 ≤ 0 := (nle (nl 7) (nl 0) (by omega) (by omega)).mp c_9
    exact absurd c_9 (by decide)
  · have nc_9 : ¬ (7 ≤ 0) := fun z => c_9 ((nle (nl 7) (nl 0) (by omega) (by omega)).mpr z)
    refine V.iload_n (pc := 12) 1 hC dX4_find_12 rfl ?_
    refine V.if_le (pc := 13) 47 hC dX4_find_13 (by decide) (fun c_13 => ?_) (fun c_13 => ?_)
    · have nc_13 : 4 ≤ 0 := (nle (nl 4) (nl 0) (by omega) (by omega)).mp c_13
      exact absurd c_13 (by decide)
    · have nc_13 : ¬ (4 ≤ 0) := fun z => c_13 ((nle (nl 4) (nl 0) (by omega) (by omega)).mpr z)
      refine V.getBodies (pc := 16) hC fl_X4_46 dX4_find_16 ?_
      refine V.iload_n (pc := 19) 1 hC dX4_find_19 rfl ?_
      refine V.iconst (pc := 20) 4 hC dX4_find_20 (by decide) ?_
      refine V.imul (pc := 21) hC dX4_find_21 ?_
      refine V.eqi (y := 16) (by decide) ?_
      refine V.iload_n (pc := 22) 2 hC dX4_find_22 rfl ?_
      refine V.iadd (pc := 23) hC dX4_find_23 ?_
      refine V.eqi (y := 19) (by decide) ?_
      refine V.ldBodies (pc := 24) hC 19 0 (nl 19) (by decide) rfl dX4_find_24 ?_
      refine V.istore (pc := 25) [(4, .int 0), (3, .int 0), (2, .int 4), (0, .int 3), (1, .int 4)] hC dX4_find_25 (by decide) rfl ?_
      refine V.iload (pc := 27) 0 hC dX4_find_27 rfl ?_
      refine V.if_eq (pc := 29) 35 hC dX4_find_29 (by decide) (fun c_29 => ?_) (fun c_29 => ?_)
      · have nc_29 : 0 = 0 := (neq (nl 0) (nl 0) (by omega) (by omega)).mp c_29
        refine V.getAboveN (pc := 35) hC dX4_find_35 rfl ?_
        refine V.iload_n (pc := 38) 2 hC dX4_find_38 rfl ?_
        refine V.ldAbove (pc := 39) hC 4 1 (nl 4) (by decide) rfl dX4_find_39 ?_
        refine V.istore_n (pc := 40) [(2, .int 1), (4, .int 0), (3, .int 0), (0, .int 3), (1, .int 4)] hC dX4_find_40 (by decide) rfl ?_
        refine V.iinc (pc := 41) 2 (nI 1) [(3, .int (nI 1)), (2, .int 1), (4, .int 0), (0, .int 3), (1, .int 4)] hC dX4_find_41 rfl (ncast (nadd (nl 0) (nl 1)) (by omega)) (by decide) rfl ?_
        refine V.goto (pc := 44) 4 hC dX4_find_44 (by decide) ?_
        refine V.iload_n (pc := 4) 0 hC dX4_find_4 rfl ?_
        refine V.getAboveN (pc := 5) hC dX4_find_5 rfl ?_
        refine V.lenAbove (pc := 8) hC dX4_find_8 ?_
        refine V.icmp_ge (pc := 9) 47 hC dX4_find_9 (by decide) (fun c_9_2 => ?_) (fun c_9_2 => ?_)
        · have nc_9_2 : 7 ≤ 1 := (nle (nl 7) rfl (by omega) (by omega)).mp c_9_2
          exact absurd c_9_2 (by decide)
        · have nc_9_2 : ¬ (7 ≤ 1) := fun z => c_9_2 ((nle (nl 7) rfl (by omega) (by omega)).mpr z)
          refine V.iload_n (pc := 12) 1 hC dX4_find_12 rfl ?_
          refine V.if_le (pc := 13) 47 hC dX4_find_13 (by decide) (fun c_13_2 => ?_) (fun c_13_2 => ?_)
          · have nc_13_2 : 1 ≤ 0 := (nle (nl 1) (nl 0) (by omega) (by omega)).mp c_13_2
            exact absurd c_13_2 (by decide)
          · have nc_13_2 : ¬ (1 ≤ 0) := fun z => c_13_2 ((nle (nl 1) (nl 0) (by omega) (by omega)).mpr z)
            refine V.getBodies (pc := 16) hC fl_X4_46 dX4_find_16 ?_
            refine V.iload_n (pc := 19) 1 hC dX4_find_19 rfl ?_
            refine V.iconst (pc := 20) 4 hC dX4_find_20 (by decide) ?_
            refine V.imul (pc := 21) hC dX4_find_21 ?_
            refine V.eqi (y := 4) (by decide) ?_
            refine V.iload_n (pc := 22) 3 hC dX4_find_22 rfl ?_
            refine V.iadd (pc := 23) hC dX4_find_23 ?_
            refine V.eqi (y := 7) (by decide) ?_
            refine V.ldBodies (pc := 24) hC 7 21 (nl 7) (by decide) rfl dX4_find_24 ?_
            refine V.istore (pc := 25) [(4, .int 21), (3, .int (nI 1)), (2, .int 1), (0, .int 3), (1, .int 4)] hC dX4_find_25 (by decide) rfl ?_
            refine V.iload (pc := 27) 0 hC dX4_find_27 rfl ?_
            refine V.if_eq (pc := 29) 35 hC dX4_find_29 (by decide) (fun c_29_2 => ?_) (fun c_29_2 => ?_)
            · have nc_29_2 : 21 = 0 := (neq (nl 21) (nl 0) (by omega) (by omega)).mp c_29_2
              exact absurd c_29_2 (by decide)
            · have nc_29_2 : ¬ (21 = 0) := fun z => c_29_2 ((neq (nl 21) (nl 0) (by omega) (by omega)).mpr z)
              refine V.iload (pc := 32) 0 hC dX4_find_32 rfl ?_
              exact hR 21 () _ _ dX4_find_34 rfl rfl
      · have nc_29 : ¬ (0 = 0) := fun z => c_29 ((neq (nl 0) (nl 0) (by omega) (by omega)).mpr z)
        exact absurd c_29 (by decide)
set_option maxHeartbeats 4000000 in
set_option maxRecDepth 100000 in
theorem c_find_3_5 {l : Launch} {D : va_G} {k : Nat → ClassId} {g : Nat → Nat}   : Ct l D k g yX4_find cX4_find 5 (some .int) 0 0 [.int 3, .int 5] (S := Unit) ([]) (fun _ => []) (fun vv _ => vv = some (.int 13)) := by
  refine Ct.ofI RX4 rfl (by decide +kernel) (Nat.le_of_ble_eq_true rfl) (fun X hC hR => ?_)
  show V X ([]) [(0, .int 3), (1, .int 5)] [] 0
  refine V.iload_n (pc := 0) 1 hC dX4_find_0 rfl ?_
  refine V.istore_n (pc := 1) [(2, .int 5), (0, .int 3), (1, .int 5)] hC dX4_find_1 (by decide) rfl ?_
  refine V.iconst (pc := 2) 0 hC dX4_find_2 (by decide) ?_
  refine V.istore_n (pc := 3) [(3, .int 0), (2, .int 5), (0, .int 3), (1, .int 5)] hC dX4_find_3 (by decide) rfl ?_
  refine V.iload_n (pc := 4) 0 hC dX4_find_4 rfl ?_
  refine V.getAboveN (pc := 5) hC dX4_find_5 rfl ?_
  refine V.lenAbove (pc := 8) hC dX4_find_8 ?_
  refine V.icmp_ge (pc := 9) 47 hC dX4_find_9 (by decide) (fun c_9 => ?_) (fun c_9 => ?_)
  · have nc_9 : 7 ≤ 0 := (nle (nl 7) (nl 0) (by omega) (by omega)).mp c_9
    exact absurd c_9 (by decide)
  · have nc_9 : ¬ (7 ≤ 0) := fun z => c_9 ((nle (nl 7) (nl 0) (by omega) (by omega)).mpr z)
    refine V.iload_n (pc := 12) 1 hC dX4_find_12 rfl ?_
    refine V.if_le (pc := 13) 47 hC dX4_find_13 (by decide) (fun c_13 => ?_) (fun c_13 => ?_)
    · have nc_13 : 5 ≤ 0 := (nle (nl 5) (nl 0) (by omega) (by omega)).mp c_13
      exact absurd c_13 (by decide)
    · have nc_13 : ¬ (5 ≤ 0) := fun z => c_13 ((nle (nl 5) (nl 0) (by omega) (by omega)).mpr z)
      refine V.getBodies (pc := 16) hC fl_X4_46 dX4_find_16 ?_
      refine V.iload_n (pc := 19) 1 hC dX4_find_19 rfl ?_
      refine V.iconst (pc := 20) 4 hC dX4_find_20 (by decide) ?_
      refine V.imul (pc := 21) hC dX4_find_21 ?_
      refine V.eqi (y := 20) (by decide) ?_
      refine V.iload_n (pc := 22) 2 hC dX4_find_22 rfl ?_
      refine V.iadd (pc := 23) hC dX4_find_23 ?_
      refine V.eqi (y := 23) (by decide) ?_
      refine V.ldBodies (pc := 24) hC 23 0 (nl 23) (by decide) rfl dX4_find_24 ?_
      refine V.istore (pc := 25) [(4, .int 0), (3, .int 0), (2, .int 5), (0, .int 3), (1, .int 5)] hC dX4_find_25 (by decide) rfl ?_
      refine V.iload (pc := 27) 0 hC dX4_find_27 rfl ?_
      refine V.if_eq (pc := 29) 35 hC dX4_find_29 (by decide) (fun c_29 => ?_) (fun c_29 => ?_)
      · have nc_29 : 0 = 0 := (neq (nl 0) (nl 0) (by omega) (by omega)).mp c_29
        refine V.getAboveN (pc := 35) hC dX4_find_35 rfl ?_
        refine V.iload_n (pc := 38) 2 hC dX4_find_38 rfl ?_
        refine V.ldAbove (pc := 39) hC 5 2 (nl 5) (by decide) rfl dX4_find_39 ?_
        refine V.istore_n (pc := 40) [(2, .int 2), (4, .int 0), (3, .int 0), (0, .int 3), (1, .int 5)] hC dX4_find_40 (by decide) rfl ?_
        refine V.iinc (pc := 41) 2 (nI 1) [(3, .int (nI 1)), (2, .int 2), (4, .int 0), (0, .int 3), (1, .int 5)] hC dX4_find_41 rfl (ncast (nadd (nl 0) (nl 1)) (by omega)) (by decide) rfl ?_
        refine V.goto (pc := 44) 4 hC dX4_find_44 (by decide) ?_
        refine V.iload_n (pc := 4) 0 hC dX4_find_4 rfl ?_
        refine V.getAboveN (pc := 5) hC dX4_find_5 rfl ?_
        refine V.lenAbove (pc := 8) hC dX4_find_8 ?_
        refine V.icmp_ge (pc := 9) 47 hC dX4_find_9 (by decide) (fun c_9_2 => ?_) (fun c_9_2 => ?_)
        · have nc_9_2 : 7 ≤ 1 := (nle (nl 7) rfl (by omega) (by omega)).mp c_9_2
          exact absurd c_9_2 (by decide)
        · have nc_9_2 : ¬ (7 ≤ 1) := fun z => c_9_2 ((nle (nl 7) rfl (by omega) (by omega)).mpr z)
          refine V.iload_n (pc := 12) 1 hC dX4_find_12 rfl ?_
          refine V.if_le (pc := 13) 47 hC dX4_find_13 (by decide) (fun c_13_2 => ?_) (fun c_13_2 => ?_)
          · have nc_13_2 : 2 ≤ 0 := (nle (nl 2) (nl 0) (by omega) (by omega)).mp c_13_2
            exact absurd c_13_2 (by decide)
          · have nc_13_2 : ¬ (2 ≤ 0) := fun z => c_13_2 ((nle (nl 2) (nl 0) (by omega) (by omega)).mpr z)
            refine V.getBodies (pc := 16) hC fl_X4_46 dX4_find_16 ?_
            refine V.iload_n (pc := 19) 1 hC dX4_find_19 rfl ?_
            refine V.iconst (pc := 20) 4 hC dX4_find_20 (by decide) ?_
            refine V.imul (pc := 21) hC dX4_find_21 ?_
            refine V.eqi (y := 8) (by decide) ?_
            refine V.iload_n (pc := 22) 3 hC dX4_find_22 rfl ?_
            refine V.iadd (pc := 23) hC dX4_find_23 ?_
            refine V.eqi (y := 11) (by decide) ?_
            refine V.ldBodies (pc := 24) hC 11 0 (nl 11) (by decide) rfl dX4_find_24 ?_
            refine V.istore (pc := 25) [(4, .int 0), (3, .int (nI 1)), (2, .int 2), (0, .int 3), (1, .int 5)] hC dX4_find_25 (by decide) rfl ?_
            refine V.iload (pc := 27) 0 hC dX4_find_27 rfl ?_
            refine V.if_eq (pc := 29) 35 hC dX4_find_29 (by decide) (fun c_29_2 => ?_) (fun c_29_2 => ?_)
            · have nc_29_2 : 0 = 0 := (neq (nl 0) (nl 0) (by omega) (by omega)).mp c_29_2
              refine V.getAboveN (pc := 35) hC dX4_find_35 rfl ?_
              refine V.iload_n (pc := 38) 2 hC dX4_find_38 rfl ?_
              refine V.ldAbove (pc := 39) hC 2 0 (nl 2) (by decide) rfl dX4_find_39 ?_
              refine V.istore_n (pc := 40) [(2, .int 0), (4, .int 0), (3, .int (nI 1)), (0, .int 3), (1, .int 5)] hC dX4_find_40 (by decide) rfl ?_
              refine V.iinc (pc := 41) 2 (nI 2) [(3, .int (nI 2)), (2, .int 0), (4, .int 0), (0, .int 3), (1, .int 5)] hC dX4_find_41 rfl (ncast (nadd rfl (nl 1)) (by omega)) (by decide) rfl ?_
              refine V.goto (pc := 44) 4 hC dX4_find_44 (by decide) ?_
              refine V.iload_n (pc := 4) 0 hC dX4_find_4 rfl ?_
              refine V.getAboveN (pc := 5) hC dX4_find_5 rfl ?_
              refine V.lenAbove (pc := 8) hC dX4_find_8 ?_
              refine V.icmp_ge (pc := 9) 47 hC dX4_find_9 (by decide) (fun c_9_3 => ?_) (fun c_9_3 => ?_)
              · have nc_9_3 : 7 ≤ 2 := (nle (nl 7) rfl (by omega) (by omega)).mp c_9_3
                exact absurd c_9_3 (by decide)
              · have nc_9_3 : ¬ (7 ≤ 2) := fun z => c_9_3 ((nle (nl 7) rfl (by omega) (by omega)).mpr z)
                refine V.iload_n (pc := 12) 1 hC dX4_find_12 rfl ?_
                refine V.if_le (pc := 13) 47 hC dX4_find_13 (by decide) (fun c_13_3 => ?_) (fun c_13_3 => ?_)
                · have nc_13_3 : 0 ≤ 0 := (nle (nl 0) (nl 0) (by omega) (by omega)).mp c_13_3
                  refine V.getBodies (pc := 47) hC fl_X4_46 dX4_find_47 ?_
                  refine V.iconst (pc := 50) 0 hC dX4_find_50 (by decide) ?_
                  refine V.iload_n (pc := 51) 3 hC dX4_find_51 rfl ?_
                  refine V.iadd (pc := 52) hC dX4_find_52 ?_
                  refine V.eqi (y := 3) (by decide) ?_
                  refine V.ldBodies (pc := 53) hC 3 13 (nl 3) (by decide) rfl dX4_find_53 ?_
                  exact hR 13 () _ _ dX4_find_54 rfl rfl
                · have nc_13_3 : ¬ (0 ≤ 0) := fun z => c_13_3 ((nle (nl 0) (nl 0) (by omega) (by omega)).mpr z)
                  exact absurd c_13_3 (by decide)
            · have nc_29_2 : ¬ (0 = 0) := fun z => c_29_2 ((neq (nl 0) (nl 0) (by omega) (by omega)).mpr z)
              exact absurd c_29_2 (by decide)
      · have nc_29 : ¬ (0 = 0) := fun z => c_29 ((neq (nl 0) (nl 0) (by omega) (by omega)).mpr z)
        exact absurd c_29 (by decide)
set_option maxHeartbeats 4000000 in
set_option maxRecDepth 100000 in
theorem c_find_3_6 {l : Launch} {D : va_G} {k : Nat → ClassId} {g : Nat → Nat}   : Ct l D k g yX4_find cX4_find 5 (some .int) 0 0 [.int 3, .int 6] (S := Unit) ([]) (fun _ => []) (fun vv _ => vv = some (.int 13)) := by
  refine Ct.ofI RX4 rfl (by decide +kernel) (Nat.le_of_ble_eq_true rfl) (fun X hC hR => ?_)
  show V X ([]) [(0, .int 3), (1, .int 6)] [] 0
  refine V.iload_n (pc := 0) 1 hC dX4_find_0 rfl ?_
  refine V.istore_n (pc := 1) [(2, .int 6), (0, .int 3), (1, .int 6)] hC dX4_find_1 (by decide) rfl ?_
  refine V.iconst (pc := 2) 0 hC dX4_find_2 (by decide) ?_
  refine V.istore_n (pc := 3) [(3, .int 0), (2, .int 6), (0, .int 3), (1, .int 6)] hC dX4_find_3 (by decide) rfl ?_
  refine V.iload_n (pc := 4) 0 hC dX4_find_4 rfl ?_
  refine V.getAboveN (pc := 5) hC dX4_find_5 rfl ?_
  refine V.lenAbove (pc := 8) hC dX4_find_8 ?_
  refine V.icmp_ge (pc := 9) 47 hC dX4_find_9 (by decide) (fun c_9 => ?_) (fun c_9 => ?_)
  · have nc_9 : 7 ≤ 0 := (nle (nl 7) (nl 0) (by omega) (by omega)).mp c_9
    exact absurd c_9 (by decide)
  · have nc_9 : ¬ (7 ≤ 0) := fun z => c_9 ((nle (nl 7) (nl 0) (by omega) (by omega)).mpr z)
    refine V.iload_n (pc := 12) 1 hC dX4_find_12 rfl ?_
    refine V.if_le (pc := 13) 47 hC dX4_find_13 (by decide) (fun c_13 => ?_) (fun c_13 => ?_)
    · have nc_13 : 6 ≤ 0 := (nle (nl 6) (nl 0) (by omega) (by omega)).mp c_13
      exact absurd c_13 (by decide)
    · have nc_13 : ¬ (6 ≤ 0) := fun z => c_13 ((nle (nl 6) (nl 0) (by omega) (by omega)).mpr z)
      refine V.getBodies (pc := 16) hC fl_X4_46 dX4_find_16 ?_
      refine V.iload_n (pc := 19) 1 hC dX4_find_19 rfl ?_
      refine V.iconst (pc := 20) 4 hC dX4_find_20 (by decide) ?_
      refine V.imul (pc := 21) hC dX4_find_21 ?_
      refine V.eqi (y := 24) (by decide) ?_
      refine V.iload_n (pc := 22) 2 hC dX4_find_22 rfl ?_
      refine V.iadd (pc := 23) hC dX4_find_23 ?_
      refine V.eqi (y := 27) (by decide) ?_
      refine V.ldBodies (pc := 24) hC 27 0 (nl 27) (by decide) rfl dX4_find_24 ?_
      refine V.istore (pc := 25) [(4, .int 0), (3, .int 0), (2, .int 6), (0, .int 3), (1, .int 6)] hC dX4_find_25 (by decide) rfl ?_
      refine V.iload (pc := 27) 0 hC dX4_find_27 rfl ?_
      refine V.if_eq (pc := 29) 35 hC dX4_find_29 (by decide) (fun c_29 => ?_) (fun c_29 => ?_)
      · have nc_29 : 0 = 0 := (neq (nl 0) (nl 0) (by omega) (by omega)).mp c_29
        refine V.getAboveN (pc := 35) hC dX4_find_35 rfl ?_
        refine V.iload_n (pc := 38) 2 hC dX4_find_38 rfl ?_
        refine V.ldAbove (pc := 39) hC 6 0 (nl 6) (by decide) rfl dX4_find_39 ?_
        refine V.istore_n (pc := 40) [(2, .int 0), (4, .int 0), (3, .int 0), (0, .int 3), (1, .int 6)] hC dX4_find_40 (by decide) rfl ?_
        refine V.iinc (pc := 41) 2 (nI 1) [(3, .int (nI 1)), (2, .int 0), (4, .int 0), (0, .int 3), (1, .int 6)] hC dX4_find_41 rfl (ncast (nadd (nl 0) (nl 1)) (by omega)) (by decide) rfl ?_
        refine V.goto (pc := 44) 4 hC dX4_find_44 (by decide) ?_
        refine V.iload_n (pc := 4) 0 hC dX4_find_4 rfl ?_
        refine V.getAboveN (pc := 5) hC dX4_find_5 rfl ?_
        refine V.lenAbove (pc := 8) hC dX4_find_8 ?_
        refine V.icmp_ge (pc := 9) 47 hC dX4_find_9 (by decide) (fun c_9_2 => ?_) (fun c_9_2 => ?_)
        · have nc_9_2 : 7 ≤ 1 := (nle (nl 7) rfl (by omega) (by omega)).mp c_9_2
          exact absurd c_9_2 (by decide)
        · have nc_9_2 : ¬ (7 ≤ 1) := fun z => c_9_2 ((nle (nl 7) rfl (by omega) (by omega)).mpr z)
          refine V.iload_n (pc := 12) 1 hC dX4_find_12 rfl ?_
          refine V.if_le (pc := 13) 47 hC dX4_find_13 (by decide) (fun c_13_2 => ?_) (fun c_13_2 => ?_)
          · have nc_13_2 : 0 ≤ 0 := (nle (nl 0) (nl 0) (by omega) (by omega)).mp c_13_2
            refine V.getBodies (pc := 47) hC fl_X4_46 dX4_find_47 ?_
            refine V.iconst (pc := 50) 0 hC dX4_find_50 (by decide) ?_
            refine V.iload_n (pc := 51) 3 hC dX4_find_51 rfl ?_
            refine V.iadd (pc := 52) hC dX4_find_52 ?_
            refine V.eqi (y := 3) (by decide) ?_
            refine V.ldBodies (pc := 53) hC 3 13 (nl 3) (by decide) rfl dX4_find_53 ?_
            exact hR 13 () _ _ dX4_find_54 rfl rfl
          · have nc_13_2 : ¬ (0 ≤ 0) := fun z => c_13_2 ((nle (nl 0) (nl 0) (by omega) (by omega)).mpr z)
            exact absurd c_13_2 (by decide)
      · have nc_29 : ¬ (0 = 0) := fun z => c_29 ((neq (nl 0) (nl 0) (by omega) (by omega)).mpr z)
        exact absurd c_29 (by decide)
set_option maxHeartbeats 4000000 in
set_option maxRecDepth 100000 in
theorem c_X4_part {l : Launch} {D : va_G} {k : Nat → ClassId} {g a : Nat → Nat} (σ ν : St) (x : Int32) (h82 : ν 82 0 = 0) : Ct l D k g yX4_part cX4_part 2 (some .int) 0 0 [.ref (a 5), .int x] (S := Int32) (wX k g a σ ν) (fun uu => wX k g a σ (va_up ν 82 (fun _ => uu))) (fun vv uu => vv = some (.int (if ν 84 0 - ν 85 0 = 0 then 0 else x / (ν 84 0 - ν 85 0))) ∧ uu = bI (ν 84 0 - ν 85 0 = 0)) := by
  refine Ct.ofI RX4 rfl (by decide +kernel) (Nat.le_of_ble_eq_true rfl) (fun X hC hR => ?_)
  show V X (wX k g a σ ν) [(0, .ref (a 5)), (1, .int x)] [] 0
  refine V.aload_n (pc := 0) 0 hC dX4_part_0 rfl ?_
  refine V.get (pc := 1) (v := .int (ν 84 0)) hC cf_X4 5 4 fl_X4_33 (by decide) gx_5 rfl dX4_part_1 ?_
  refine V.aload_n (pc := 4) 0 hC dX4_part_4 rfl ?_
  refine V.get (pc := 5) (v := .int (ν 85 0)) hC cf_X4 5 5 fl_X4_36 (by decide) gx_5 rfl dX4_part_5 ?_
  refine V.icmp_ne (pc := 8) 18 hC dX4_part_8 (by decide) (fun c_8 => ?_) (fun c_8 => ?_)
  · refine V.iload_n (pc := 18) 1 hC dX4_part_18 rfl ?_
    refine V.aload_n (pc := 19) 0 hC dX4_part_19 rfl ?_
    refine V.get (pc := 20) (v := .int (ν 84 0)) hC cf_X4 5 4 fl_X4_33 (by decide) gx_5 rfl dX4_part_20 ?_
    refine V.aload_n (pc := 23) 0 hC dX4_part_23 rfl ?_
    refine V.get (pc := 24) (v := .int (ν 85 0)) hC cf_X4 5 5 fl_X4_36 (by decide) gx_5 rfl dX4_part_24 ?_
    refine V.isub (pc := 27) hC dX4_part_27 ?_
    refine V.idiv (pc := 28) hC dX4_part_28 (fun z => c_8 (sub_0.mp z)) ?_
    exact hR (x / ((ν 84 0) - (ν 85 0))) (ν 82 0) _ _ dX4_part_29 rfl ⟨by rw [if_neg (fun z => c_8 (sub_0.mp z))], h82.trans (bI_f (fun z => c_8 (sub_0.mp z))).symm⟩
  · refine V.aload_n (pc := 11) 0 hC dX4_part_11 rfl ?_
    refine V.iconst (pc := 12) 1 hC dX4_part_12 (by decide) ?_
    refine V.put (pc := 13) (v := .int 1) hC cf_X4 5 2 (wX k g a σ (va_up ν 82 (fun _ => 1))) fl_X4_19 (by decide) gx_5 rfl rfl rfl (Nat.le_of_ble_eq_true rfl) rfl dX4_part_13 ?_
    refine V.iconst (pc := 16) 0 hC dX4_part_16 (by decide) ?_
    exact hR 0 (1) _ _ dX4_part_17 rfl ⟨by rw [if_pos (sub_0.mpr c_8)], (bI_t (sub_0.mpr c_8)).symm⟩
set_option maxHeartbeats 4000000 in
set_option maxRecDepth 100000 in
theorem c_call_p {l : Launch} {D : va_G} {k : Nat → ClassId} {g a : Nat → Nat} (σ ν : St) (v f x d : Int32) (h82 : ν 82 0 = 1) : Ct l D k g yX4_call cX4_call 6 (some .int) 0 0 [.ref (a 5), .int v, .int f, .int x, .int d] (S := Unit) (wX k g a σ ν) (fun _ => wX k g a σ ν) (fun vv _ => vv = some (.int 0)) := by
  refine Ct.ofI RX4 rfl (by decide +kernel) (Nat.le_of_ble_eq_true rfl) (fun X hC hR => ?_)
  show V X (wX k g a σ ν) [(0, .ref (a 5)), (1, .int v), (2, .int f), (3, .int x), (4, .int d)] [] 0
  refine V.aload_n (pc := 0) 0 hC dX4_call_0 rfl ?_
  refine V.get (pc := 1) (v := .int (ν 82 0)) hC cf_X4 5 2 fl_X4_19 (by decide) gx_5 rfl dX4_call_1 ?_
  refine V.eqi (y := 1) (h82) ?_
  refine V.if_ne (pc := 4) 14 hC dX4_call_4 (by decide) (fun c_4 => ?_) (fun c_4 => ?_)
  · have nc_4 : ¬ (1 = 0) := fun z => c_4 ((neq (nl 1) (nl 0) (by omega) (by omega)).mpr z)
    refine V.iconst (pc := 14) 0 hC dX4_call_14 (by decide) ?_
    exact hR 0 () _ _ dX4_call_15 rfl rfl
  · have nc_4 : 1 = 0 := (neq (nl 1) (nl 0) (by omega) (by omega)).mp c_4
    exact absurd c_4 (by decide)
set_option maxHeartbeats 4000000 in
set_option maxRecDepth 100000 in
theorem c_work_0_10 {l : Launch} {D : va_G} {k : Nat → ClassId} {g a : Nat → Nat} (σ ν : St) (x : Int32) (q : Nat) (h82 : ν 82 0 = 0) (h83 : ν 83 0 = 0) (hTn : isN (σ 81 0) 30) (hq : q + 0 ≤ 20) : Ct l D k g yX4_work cX4_work 5 (some .int) 0 0 [.ref (a 5), .int 10, .int x, .int (nI q)] (S := Rw × Int32) (wX k g a σ ν) (fun uu => wX k g a (va_up (va_up σ 80 uu.1) 81 (fun _ => uu.2)) ν) (fun vv uu => vv = some (.int (x + ν 85 0)) ∧ (uu.1, uu.2) = bgs [] (σ 80, σ 81 0) ∧ isN uu.2 30) := by
  refine Ct.ofI RX4 rfl (by decide +kernel) (Nat.le_of_ble_eq_true rfl) (fun X hC hR => ?_)
  show V X (wX k g a σ ν) [(0, .ref (a 5)), (1, .int 10), (2, .int x), (3, .int (nI q))] [] 0
  refine V.getAboveN (pc := 0) hC dX4_work_0 rfl ?_
  refine V.iload_n (pc := 3) 1 hC dX4_work_3 rfl ?_
  refine V.bipush (pc := 4) 10 hC dX4_work_4 (by decide) ?_
  refine V.idiv (pc := 6) hC dX4_work_6 (by decide) ?_
  refine V.eqi (y := 1) (by decide) ?_
  refine V.iconst (pc := 7) 1 hC dX4_work_7 (by decide) ?_
  refine V.isub (pc := 8) hC dX4_work_8 ?_
  refine V.eqi (y := 0) (by decide) ?_
  refine V.ldAbove (pc := 9) hC 0 (-1) (nl 0) (by decide) rfl dX4_work_9 ?_
  refine V.istore (pc := 10) [(4, .int (-1)), (0, .ref (a 5)), (1, .int 10), (2, .int x), (3, .int (nI q))] hC dX4_work_10 (by decide) rfl ?_
  refine V.iload_n (pc := 12) 2 hC dX4_work_12 rfl ?_
  refine V.lookup (pc := 13) 128 hC dX4_work_13 (by decide) rfl (by decide) ?_
  refine V.iload_n (pc := 128) 3 hC dX4_work_128 rfl ?_
  refine V.aload_n (pc := 129) 1 hC dX4_work_129 rfl ?_
  refine V.get (pc := 130) (v := .int (ν 85 0)) hC cf_X4 5 5 fl_X4_36 (by decide) gx_5 rfl dX4_work_130 ?_
  refine V.iadd (pc := 133) hC dX4_work_133 ?_
  exact hR (x + (ν 85 0)) (σ 80, σ 81 0) _ _ dX4_work_134 rfl ⟨rfl, rfl, hTn⟩
set_option maxHeartbeats 4000000 in
set_option maxRecDepth 100000 in
theorem c_call_0_0_0 {l : Launch} {D : va_G} {k : Nat → ClassId} {g a : Nat → Nat} (σ ν : St) (x : Int32) (q : Nat) (h82 : ν 82 0 = 0) (h83 : ν 83 0 = 0) (hTn : isN (σ 81 0) 30) (hq : q + 1 ≤ 20) : Ct l D k g yX4_call cX4_call 6 (some .int) 1 24 [.ref (a 5), .int 0, .int 0, .int x, .int (nI q)] (S := Rw × Int32) (wX k g a σ ν) (fun uu => wX k g a (va_up (va_up σ 80 uu.1) 81 (fun _ => uu.2)) ν) (fun vv uu => vv = some (.int (x + ν 85 0)) ∧ (uu.1, uu.2) = bgs [10] (σ 80, σ 81 0) ∧ isN uu.2 30) := by
  refine Ct.ofI RX4 rfl (by decide +kernel) (Nat.le_of_ble_eq_true rfl) (fun X hC hR => ?_)
  have hTb := hTn.2
  show V X (wX k g a σ ν) [(0, .ref (a 5)), (1, .int 0), (2, .int 0), (3, .int x), (4, .int (nI q))] [] 0
  refine V.aload_n (pc := 0) 0 hC dX4_call_0 rfl ?_
  refine V.get (pc := 1) (v := .int (ν 82 0)) hC cf_X4 5 2 fl_X4_19 (by decide) gx_5 rfl dX4_call_1 ?_
  refine V.eqi (y := 0) (h82) ?_
  refine V.if_ne (pc := 4) 14 hC dX4_call_4 (by decide) (fun c_4 => ?_) (fun c_4 => ?_)
  · have nc_4 : ¬ (0 = 0) := fun z => c_4 ((neq (nl 0) (nl 0) (by omega) (by omega)).mpr z)
    exact absurd c_4 (by decide)
  · have nc_4 : 0 = 0 := (neq (nl 0) (nl 0) (by omega) (by omega)).mp c_4
    refine V.iload (pc := 7) 4 hC dX4_call_7 rfl ?_
    refine V.bipush (pc := 9) 20 hC dX4_call_9 (by decide) ?_
    refine V.icmp_le (pc := 11) 16 hC dX4_call_11 (by decide) (fun c_11 => ?_) (fun c_11 => ?_)
    · have nc_11 : q ≤ 20 := (nle rfl (nl 20) (by omega) (by omega)).mp c_11
      refine V.iload_n (pc := 16) 1 hC dX4_call_16 rfl ?_
      refine V.iload_n (pc := 17) 2 hC dX4_call_17 rfl ?_
      refine V.callS0 (pc := 18) (as := [.int 0, .int 0]) hC (c_find_0_0  ) ms_X4_find ml_X4_49 (by decide) rfl (Nat.le_of_ble_eq_true rfl) dX4_call_18 ?_
      rintro _ _ rfl
      show V X (wX k g a σ ν) [(0, .ref (a 5)), (1, .int 0), (2, .int 0), (3, .int x), (4, .int (nI q))] [.int 10] 21
      refine V.istore (pc := 21) [(5, .int 10), (0, .ref (a 5)), (1, .int 0), (2, .int 0), (3, .int x), (4, .int (nI q))] hC dX4_call_21 (by decide) rfl ?_
      refine V.aload_n (pc := 23) 1 hC dX4_call_23 rfl ?_
      refine V.get (pc := 24) (v := .int (σ 81 0)) hC cf_X4 5 1 fl_X4_15 (by decide) gx_5 rfl dX4_call_24 ?_
      refine V.bipush (pc := 27) 30 hC dX4_call_27 (by decide) ?_
      refine V.icmp_ge (pc := 29) 53 hC dX4_call_29 (by decide) (fun c_29 => ?_) (fun c_29 => ?_)
      · have nc_29 : 30 ≤ nN (σ 81 0) := (nle (nl 30) hTn.1 (by omega) (by omega)).mp c_29
        refine V.aload_n (pc := 53) 1 hC dX4_call_53 rfl ?_
        refine V.iload (pc := 54) 0 hC dX4_call_54 rfl ?_
        refine V.iload_n (pc := 56) 4 hC dX4_call_56 rfl ?_
        refine V.iload (pc := 57) 5 hC dX4_call_57 rfl ?_
        refine V.iconst (pc := 59) 1 hC dX4_call_59 (by decide) ?_
        refine V.iadd (pc := 60) hC dX4_call_60 ?_
        refine V.sts (st' := [.int (nI (q + 1)), .int x, .int 10, .ref (a 5)]) (stc (ncast (b := q + 1) (nadd rfl (nl 1)) (by omega)) (stk (stk (stk rfl)))) ?_
        refine V.callV0 (pc := 61) (as := [.int 10, .int x, .int (nI (q + 1))]) hC (c_work_0_10 σ ν x (q + 1) h82 h83 hTn (by omega)) mu_X4_work ml_X4_53 (by decide) ⟨5, 4, TX4, 6, _, rfl, gx_5⟩ rfl (Nat.le_of_ble_eq_true rfl) dX4_call_61 ?_
        rintro _ ⟨f61_0, i61_1⟩ ⟨rfl, hu61_0, hu61_1⟩
        have hu61_0 : (f61_0, i61_1) = bgs [] (σ 80, σ 81 0) := hu61_0
        have hu61_1 : isN i61_1 30 := hu61_1
        show V X (wX k g a (va_up (va_up σ 80 f61_0) 81 (fun _ => i61_1)) ν) [(5, .int 10), (0, .ref (a 5)), (1, .int 0), (2, .int 0), (3, .int x), (4, .int (nI q))] [.int (x + ν 85 0)] 64
        exact hR (x + ν 85 0) (f61_0, i61_1) _ _ dX4_call_64 rfl ⟨rfl, by rw [hu61_0]; exact congrArg (bgs []) (show (σ 80, σ 81 0) = bgS 10 (σ 80, σ 81 0) from (if_neg (i_ge c_29)).symm), hu61_1⟩
      · have nc_29 : ¬ (30 ≤ nN (σ 81 0)) := fun z => c_29 ((nle (nl 30) hTn.1 (by omega) (by omega)).mpr z)
        refine V.aload_n (pc := 32) 1 hC dX4_call_32 rfl ?_
        refine V.get (pc := 33) (v := .ref (a 80)) hC cf_X4 5 0 fl_X4_9 (by decide) gx_5 rfl dX4_call_33 ?_
        refine V.aload_n (pc := 36) 1 hC dX4_call_36 rfl ?_
        refine V.get (pc := 37) (v := .int (σ 81 0)) hC cf_X4 5 1 fl_X4_15 (by decide) gx_5 rfl dX4_call_37 ?_
        refine V.iload (pc := 40) 0 hC dX4_call_40 rfl ?_
        refine V.iast (pc := 42) (f := σ 80) hC 46 (nN (σ 81 0)) (wX k g a (va_up σ 80 (upd (σ 80) (nN (σ 81 0)) 10)) ν) gx_46 hTn.1 (by omega) (by decide) rfl dX4_call_42 ?_
        refine V.aload_n (pc := 43) 1 hC dX4_call_43 rfl ?_
        refine V.dup (pc := 44) hC dX4_call_44 rfl ?_
        refine V.get (pc := 45) (v := .int (σ 81 0)) hC cf_X4 5 1 fl_X4_15 (by decide) gx_5 rfl dX4_call_45 ?_
        refine V.iconst (pc := 48) 1 hC dX4_call_48 (by decide) ?_
        refine V.iadd (pc := 49) hC dX4_call_49 ?_
        refine V.put (pc := 50) (v := .int ((σ 81 0) + 1)) hC cf_X4 5 1 (wX k g a (va_up (va_up σ 80 (upd (σ 80) (nN (σ 81 0)) 10)) 81 (fun _ => (σ 81 0) + 1)) ν) fl_X4_15 (by decide) gx_5 rfl rfl rfl (Nat.le_of_ble_eq_true rfl) rfl dX4_call_50 ?_
        refine V.aload_n (pc := 53) 1 hC dX4_call_53 rfl ?_
        refine V.iload (pc := 54) 0 hC dX4_call_54 rfl ?_
        refine V.iload_n (pc := 56) 4 hC dX4_call_56 rfl ?_
        refine V.iload (pc := 57) 5 hC dX4_call_57 rfl ?_
        refine V.iconst (pc := 59) 1 hC dX4_call_59 (by decide) ?_
        refine V.iadd (pc := 60) hC dX4_call_60 ?_
        refine V.sts (st' := [.int (nI (q + 1)), .int x, .int 10, .ref (a 5)]) (stc (ncast (b := q + 1) (nadd rfl (nl 1)) (by omega)) (stk (stk (stk rfl)))) ?_
        refine V.callV0 (pc := 61) (as := [.int 10, .int x, .int (nI (q + 1))]) hC (c_work_0_10 (va_up (va_up σ 80 (upd (σ 80) (nN (σ 81 0)) 10)) 81 (fun _ => (σ 81 0) + 1)) ν x (q + 1) h82 h83 (isN.mk (nadd hTn.1 (nl 1)) (by omega) (by omega)) (by omega)) mu_X4_work ml_X4_53 (by decide) ⟨5, 4, TX4, 6, _, rfl, gx_5⟩ rfl (Nat.le_of_ble_eq_true rfl) dX4_call_61 ?_
        rintro _ ⟨f61_0, i61_1⟩ ⟨rfl, hu61_0, hu61_1⟩
        have hu61_0 : (f61_0, i61_1) = bgs [] ((upd (σ 80) (nN (σ 81 0)) 10), ((σ 81 0) + 1)) := hu61_0
        have hu61_1 : isN i61_1 30 := hu61_1
        show V X (wX k g a (va_up (va_up σ 80 f61_0) 81 (fun _ => i61_1)) ν) [(5, .int 10), (0, .ref (a 5)), (1, .int 0), (2, .int 0), (3, .int x), (4, .int (nI q))] [.int (x + ν 85 0)] 64
        exact hR (x + ν 85 0) (f61_0, i61_1) _ _ dX4_call_64 rfl ⟨rfl, by rw [hu61_0]; exact congrArg (bgs []) (show (upd (σ 80) (nN (σ 81 0)) 10, σ 81 0 + 1) = bgS 10 (σ 80, σ 81 0) from (if_pos (i_nle c_29)).symm), hu61_1⟩
    · have nc_11 : ¬ (q ≤ 20) := fun z => c_11 ((nle rfl (nl 20) (by omega) (by omega)).mpr z)
      exfalso; omega
set_option maxHeartbeats 4000000 in
set_option maxRecDepth 100000 in
theorem c_work_0_11 {l : Launch} {D : va_G} {k : Nat → ClassId} {g a : Nat → Nat} (σ ν : St) (x : Int32) (q : Nat) (h82 : ν 82 0 = 0) (h83 : ν 83 0 = 0) (hTn : isN (σ 81 0) 30) (hq : q + 1 ≤ 20) : Ct l D k g yX4_work cX4_work 5 (some .int) 2 49 [.ref (a 5), .int 11, .int x, .int (nI q)] (S := Rw × Int32) (wX k g a σ ν) (fun uu => wX k g a (va_up (va_up σ 80 uu.1) 81 (fun _ => uu.2)) ν) (fun vv uu => vv = some (.int ((x + ν 85 0) * 2)) ∧ (uu.1, uu.2) = bgs [10] (σ 80, σ 81 0) ∧ isN uu.2 30) := by
  refine Ct.ofI RX4 rfl (by decide +kernel) (Nat.le_of_ble_eq_true rfl) (fun X hC hR => ?_)
  show V X (wX k g a σ ν) [(0, .ref (a 5)), (1, .int 11), (2, .int x), (3, .int (nI q))] [] 0
  refine V.getAboveN (pc := 0) hC dX4_work_0 rfl ?_
  refine V.iload_n (pc := 3) 1 hC dX4_work_3 rfl ?_
  refine V.bipush (pc := 4) 10 hC dX4_work_4 (by decide) ?_
  refine V.idiv (pc := 6) hC dX4_work_6 (by decide) ?_
  refine V.eqi (y := 1) (by decide) ?_
  refine V.iconst (pc := 7) 1 hC dX4_work_7 (by decide) ?_
  refine V.isub (pc := 8) hC dX4_work_8 ?_
  refine V.eqi (y := 0) (by decide) ?_
  refine V.ldAbove (pc := 9) hC 0 (-1) (nl 0) (by decide) rfl dX4_work_9 ?_
  refine V.istore (pc := 10) [(4, .int (-1)), (0, .ref (a 5)), (1, .int 11), (2, .int x), (3, .int (nI q))] hC dX4_work_10 (by decide) rfl ?_
  refine V.iload_n (pc := 12) 2 hC dX4_work_12 rfl ?_
  refine V.lookup (pc := 13) 135 hC dX4_work_13 (by decide) rfl (by decide) ?_
  refine V.aload_n (pc := 135) 1 hC dX4_work_135 rfl ?_
  refine V.iconst (pc := 136) 0 hC dX4_work_136 (by decide) ?_
  refine V.aload_n (pc := 137) 1 hC dX4_work_137 rfl ?_
  refine V.get (pc := 138) (v := .int (ν 83 0)) hC cf_X4 5 3 fl_X4_28 (by decide) gx_5 rfl dX4_work_138 ?_
  refine V.eqi (y := 0) (h83) ?_
  refine V.iload_n (pc := 141) 3 hC dX4_work_141 rfl ?_
  refine V.iload_n (pc := 142) 4 hC dX4_work_142 rfl ?_
  refine V.callV0 (pc := 143) (as := [.int 0, .int 0, .int x, .int (nI q)]) hC (c_call_0_0_0 σ ν x q h82 h83 hTn (by omega)) mu_X4_call ml_X4_39 (by decide) ⟨5, 4, TX4, 6, _, rfl, gx_5⟩ rfl (Nat.le_of_ble_eq_true rfl) dX4_work_143 ?_
  rintro _ ⟨f143_0, i143_1⟩ ⟨rfl, hu143_0, hu143_1⟩
  have hu143_0 : (f143_0, i143_1) = bgs [10] (σ 80, σ 81 0) := hu143_0
  have hu143_1 : isN i143_1 30 := hu143_1
  show V X (wX k g a (va_up (va_up σ 80 f143_0) 81 (fun _ => i143_1)) ν) [(4, .int (-1)), (0, .ref (a 5)), (1, .int 11), (2, .int x), (3, .int (nI q))] [.int (x + ν 85 0)] 146
  refine V.iconst (pc := 146) 2 hC dX4_work_146 (by decide) ?_
  refine V.imul (pc := 147) hC dX4_work_147 ?_
  exact hR ((x + ν 85 0) * 2) (f143_0, i143_1) _ _ dX4_work_148 rfl ⟨rfl, hu143_0, hu143_1⟩
set_option maxHeartbeats 4000000 in
set_option maxRecDepth 100000 in
theorem c_call_0_1_0 {l : Launch} {D : va_G} {k : Nat → ClassId} {g a : Nat → Nat} (σ ν : St) (x : Int32) (q : Nat) (h82 : ν 82 0 = 0) (h83 : ν 83 0 = 0) (hTn : isN (σ 81 0) 30) (hq : q + 2 ≤ 20) : Ct l D k g yX4_call cX4_call 6 (some .int) 3 73 [.ref (a 5), .int 1, .int 0, .int x, .int (nI q)] (S := Rw × Int32) (wX k g a σ ν) (fun uu => wX k g a (va_up (va_up σ 80 uu.1) 81 (fun _ => uu.2)) ν) (fun vv uu => vv = some (.int ((x + ν 85 0) * 2)) ∧ (uu.1, uu.2) = bgs [11, 10] (σ 80, σ 81 0) ∧ isN uu.2 30) := by
  refine Ct.ofI RX4 rfl (by decide +kernel) (Nat.le_of_ble_eq_true rfl) (fun X hC hR => ?_)
  have hTb := hTn.2
  show V X (wX k g a σ ν) [(0, .ref (a 5)), (1, .int 1), (2, .int 0), (3, .int x), (4, .int (nI q))] [] 0
  refine V.aload_n (pc := 0) 0 hC dX4_call_0 rfl ?_
  refine V.get (pc := 1) (v := .int (ν 82 0)) hC cf_X4 5 2 fl_X4_19 (by decide) gx_5 rfl dX4_call_1 ?_
  refine V.eqi (y := 0) (h82) ?_
  refine V.if_ne (pc := 4) 14 hC dX4_call_4 (by decide) (fun c_4 => ?_) (fun c_4 => ?_)
  · have nc_4 : ¬ (0 = 0) := fun z => c_4 ((neq (nl 0) (nl 0) (by omega) (by omega)).mpr z)
    exact absurd c_4 (by decide)
  · have nc_4 : 0 = 0 := (neq (nl 0) (nl 0) (by omega) (by omega)).mp c_4
    refine V.iload (pc := 7) 4 hC dX4_call_7 rfl ?_
    refine V.bipush (pc := 9) 20 hC dX4_call_9 (by decide) ?_
    refine V.icmp_le (pc := 11) 16 hC dX4_call_11 (by decide) (fun c_11 => ?_) (fun c_11 => ?_)
    · have nc_11 : q ≤ 20 := (nle rfl (nl 20) (by omega) (by omega)).mp c_11
      refine V.iload_n (pc := 16) 1 hC dX4_call_16 rfl ?_
      refine V.iload_n (pc := 17) 2 hC dX4_call_17 rfl ?_
      refine V.callS0 (pc := 18) (as := [.int 1, .int 0]) hC (c_find_1_0  ) ms_X4_find ml_X4_49 (by decide) rfl (Nat.le_of_ble_eq_true rfl) dX4_call_18 ?_
      rintro _ _ rfl
      show V X (wX k g a σ ν) [(0, .ref (a 5)), (1, .int 1), (2, .int 0), (3, .int x), (4, .int (nI q))] [.int 11] 21
      refine V.istore (pc := 21) [(5, .int 11), (0, .ref (a 5)), (1, .int 1), (2, .int 0), (3, .int x), (4, .int (nI q))] hC dX4_call_21 (by decide) rfl ?_
      refine V.aload_n (pc := 23) 1 hC dX4_call_23 rfl ?_
      refine V.get (pc := 24) (v := .int (σ 81 0)) hC cf_X4 5 1 fl_X4_15 (by decide) gx_5 rfl dX4_call_24 ?_
      refine V.bipush (pc := 27) 30 hC dX4_call_27 (by decide) ?_
      refine V.icmp_ge (pc := 29) 53 hC dX4_call_29 (by decide) (fun c_29 => ?_) (fun c_29 => ?_)
      · have nc_29 : 30 ≤ nN (σ 81 0) := (nle (nl 30) hTn.1 (by omega) (by omega)).mp c_29
        refine V.aload_n (pc := 53) 1 hC dX4_call_53 rfl ?_
        refine V.iload (pc := 54) 0 hC dX4_call_54 rfl ?_
        refine V.iload_n (pc := 56) 4 hC dX4_call_56 rfl ?_
        refine V.iload (pc := 57) 5 hC dX4_call_57 rfl ?_
        refine V.iconst (pc := 59) 1 hC dX4_call_59 (by decide) ?_
        refine V.iadd (pc := 60) hC dX4_call_60 ?_
        refine V.sts (st' := [.int (nI (q + 1)), .int x, .int 11, .ref (a 5)]) (stc (ncast (b := q + 1) (nadd rfl (nl 1)) (by omega)) (stk (stk (stk rfl)))) ?_
        refine V.callV0 (pc := 61) (as := [.int 11, .int x, .int (nI (q + 1))]) hC (c_work_0_11 σ ν x (q + 1) h82 h83 hTn (by omega)) mu_X4_work ml_X4_53 (by decide) ⟨5, 4, TX4, 6, _, rfl, gx_5⟩ rfl (Nat.le_of_ble_eq_true rfl) dX4_call_61 ?_
        rintro _ ⟨f61_0, i61_1⟩ ⟨rfl, hu61_0, hu61_1⟩
        have hu61_0 : (f61_0, i61_1) = bgs [10] (σ 80, σ 81 0) := hu61_0
        have hu61_1 : isN i61_1 30 := hu61_1
        show V X (wX k g a (va_up (va_up σ 80 f61_0) 81 (fun _ => i61_1)) ν) [(5, .int 11), (0, .ref (a 5)), (1, .int 1), (2, .int 0), (3, .int x), (4, .int (nI q))] [.int ((x + ν 85 0) * 2)] 64
        exact hR ((x + ν 85 0) * 2) (f61_0, i61_1) _ _ dX4_call_64 rfl ⟨rfl, by rw [hu61_0]; exact congrArg (bgs [10]) (show (σ 80, σ 81 0) = bgS 11 (σ 80, σ 81 0) from (if_neg (i_ge c_29)).symm), hu61_1⟩
      · have nc_29 : ¬ (30 ≤ nN (σ 81 0)) := fun z => c_29 ((nle (nl 30) hTn.1 (by omega) (by omega)).mpr z)
        refine V.aload_n (pc := 32) 1 hC dX4_call_32 rfl ?_
        refine V.get (pc := 33) (v := .ref (a 80)) hC cf_X4 5 0 fl_X4_9 (by decide) gx_5 rfl dX4_call_33 ?_
        refine V.aload_n (pc := 36) 1 hC dX4_call_36 rfl ?_
        refine V.get (pc := 37) (v := .int (σ 81 0)) hC cf_X4 5 1 fl_X4_15 (by decide) gx_5 rfl dX4_call_37 ?_
        refine V.iload (pc := 40) 0 hC dX4_call_40 rfl ?_
        refine V.iast (pc := 42) (f := σ 80) hC 46 (nN (σ 81 0)) (wX k g a (va_up σ 80 (upd (σ 80) (nN (σ 81 0)) 11)) ν) gx_46 hTn.1 (by omega) (by decide) rfl dX4_call_42 ?_
        refine V.aload_n (pc := 43) 1 hC dX4_call_43 rfl ?_
        refine V.dup (pc := 44) hC dX4_call_44 rfl ?_
        refine V.get (pc := 45) (v := .int (σ 81 0)) hC cf_X4 5 1 fl_X4_15 (by decide) gx_5 rfl dX4_call_45 ?_
        refine V.iconst (pc := 48) 1 hC dX4_call_48 (by decide) ?_
        refine V.iadd (pc := 49) hC dX4_call_49 ?_
        refine V.put (pc := 50) (v := .int ((σ 81 0) + 1)) hC cf_X4 5 1 (wX k g a (va_up (va_up σ 80 (upd (σ 80) (nN (σ 81 0)) 11)) 81 (fun _ => (σ 81 0) + 1)) ν) fl_X4_15 (by decide) gx_5 rfl rfl rfl (Nat.le_of_ble_eq_true rfl) rfl dX4_call_50 ?_
        refine V.aload_n (pc := 53) 1 hC dX4_call_53 rfl ?_
        refine V.iload (pc := 54) 0 hC dX4_call_54 rfl ?_
        refine V.iload_n (pc := 56) 4 hC dX4_call_56 rfl ?_
        refine V.iload (pc := 57) 5 hC dX4_call_57 rfl ?_
        refine V.iconst (pc := 59) 1 hC dX4_call_59 (by decide) ?_
        refine V.iadd (pc := 60) hC dX4_call_60 ?_
        refine V.sts (st' := [.int (nI (q + 1)), .int x, .int 11, .ref (a 5)]) (stc (ncast (b := q + 1) (nadd rfl (nl 1)) (by omega)) (stk (stk (stk rfl)))) ?_
        refine V.callV0 (pc := 61) (as := [.int 11, .int x, .int (nI (q + 1))]) hC (c_work_0_11 (va_up (va_up σ 80 (upd (σ 80) (nN (σ 81 0)) 11)) 81 (fun _ => (σ 81 0) + 1)) ν x (q + 1) h82 h83 (isN.mk (nadd hTn.1 (nl 1)) (by omega) (by omega)) (by omega)) mu_X4_work ml_X4_53 (by decide) ⟨5, 4, TX4, 6, _, rfl, gx_5⟩ rfl (Nat.le_of_ble_eq_true rfl) dX4_call_61 ?_
        rintro _ ⟨f61_0, i61_1⟩ ⟨rfl, hu61_0, hu61_1⟩
        have hu61_0 : (f61_0, i61_1) = bgs [10] ((upd (σ 80) (nN (σ 81 0)) 11), ((σ 81 0) + 1)) := hu61_0
        have hu61_1 : isN i61_1 30 := hu61_1
        show V X (wX k g a (va_up (va_up σ 80 f61_0) 81 (fun _ => i61_1)) ν) [(5, .int 11), (0, .ref (a 5)), (1, .int 1), (2, .int 0), (3, .int x), (4, .int (nI q))] [.int ((x + ν 85 0) * 2)] 64
        exact hR ((x + ν 85 0) * 2) (f61_0, i61_1) _ _ dX4_call_64 rfl ⟨rfl, by rw [hu61_0]; exact congrArg (bgs [10]) (show (upd (σ 80) (nN (σ 81 0)) 11, σ 81 0 + 1) = bgS 11 (σ 80, σ 81 0) from (if_pos (i_nle c_29)).symm), hu61_1⟩
    · have nc_11 : ¬ (q ≤ 20) := fun z => c_11 ((nle rfl (nl 20) (by omega) (by omega)).mpr z)
      exfalso; omega
set_option maxHeartbeats 4000000 in
set_option maxRecDepth 100000 in
theorem c_work_0_12 {l : Launch} {D : va_G} {k : Nat → ClassId} {g a : Nat → Nat} (σ ν : St) (x : Int32) (q : Nat) (h82 : ν 82 0 = 0) (h83 : ν 83 0 = 0) (hTn : isN (σ 81 0) 30) (hq : q + 2 ≤ 20) : Ct l D k g yX4_work cX4_work 5 (some .int) 4 98 [.ref (a 5), .int 12, .int x, .int (nI q)] (S := Rw × Int32) (wX k g a σ ν) (fun uu => wX k g a (va_up (va_up σ 80 uu.1) 81 (fun _ => uu.2)) ν) (fun vv uu => vv = some (.int (((x + ν 85 0) * 2) - ν 84 0)) ∧ (uu.1, uu.2) = bgs [11, 10] (σ 80, σ 81 0) ∧ isN uu.2 30) := by
  refine Ct.ofI RX4 rfl (by decide +kernel) (Nat.le_of_ble_eq_true rfl) (fun X hC hR => ?_)
  show V X (wX k g a σ ν) [(0, .ref (a 5)), (1, .int 12), (2, .int x), (3, .int (nI q))] [] 0
  refine V.getAboveN (pc := 0) hC dX4_work_0 rfl ?_
  refine V.iload_n (pc := 3) 1 hC dX4_work_3 rfl ?_
  refine V.bipush (pc := 4) 10 hC dX4_work_4 (by decide) ?_
  refine V.idiv (pc := 6) hC dX4_work_6 (by decide) ?_
  refine V.eqi (y := 1) (by decide) ?_
  refine V.iconst (pc := 7) 1 hC dX4_work_7 (by decide) ?_
  refine V.isub (pc := 8) hC dX4_work_8 ?_
  refine V.eqi (y := 0) (by decide) ?_
  refine V.ldAbove (pc := 9) hC 0 (-1) (nl 0) (by decide) rfl dX4_work_9 ?_
  refine V.istore (pc := 10) [(4, .int (-1)), (0, .ref (a 5)), (1, .int 12), (2, .int x), (3, .int (nI q))] hC dX4_work_10 (by decide) rfl ?_
  refine V.iload_n (pc := 12) 2 hC dX4_work_12 rfl ?_
  refine V.lookup (pc := 13) 149 hC dX4_work_13 (by decide) rfl (by decide) ?_
  refine V.aload_n (pc := 149) 1 hC dX4_work_149 rfl ?_
  refine V.iconst (pc := 150) 1 hC dX4_work_150 (by decide) ?_
  refine V.aload_n (pc := 151) 1 hC dX4_work_151 rfl ?_
  refine V.get (pc := 152) (v := .int (ν 83 0)) hC cf_X4 5 3 fl_X4_28 (by decide) gx_5 rfl dX4_work_152 ?_
  refine V.eqi (y := 0) (h83) ?_
  refine V.iload_n (pc := 155) 3 hC dX4_work_155 rfl ?_
  refine V.iload_n (pc := 156) 4 hC dX4_work_156 rfl ?_
  refine V.callV0 (pc := 157) (as := [.int 1, .int 0, .int x, .int (nI q)]) hC (c_call_0_1_0 σ ν x q h82 h83 hTn (by omega)) mu_X4_call ml_X4_39 (by decide) ⟨5, 4, TX4, 6, _, rfl, gx_5⟩ rfl (Nat.le_of_ble_eq_true rfl) dX4_work_157 ?_
  rintro _ ⟨f157_0, i157_1⟩ ⟨rfl, hu157_0, hu157_1⟩
  have hu157_0 : (f157_0, i157_1) = bgs [11, 10] (σ 80, σ 81 0) := hu157_0
  have hu157_1 : isN i157_1 30 := hu157_1
  show V X (wX k g a (va_up (va_up σ 80 f157_0) 81 (fun _ => i157_1)) ν) [(4, .int (-1)), (0, .ref (a 5)), (1, .int 12), (2, .int x), (3, .int (nI q))] [.int ((x + ν 85 0) * 2)] 160
  refine V.aload_n (pc := 160) 1 hC dX4_work_160 rfl ?_
  refine V.get (pc := 161) (v := .int (ν 84 0)) hC cf_X4 5 4 fl_X4_33 (by decide) gx_5 rfl dX4_work_161 ?_
  refine V.isub (pc := 164) hC dX4_work_164 ?_
  exact hR (((x + ν 85 0) * 2) - (ν 84 0)) (f157_0, i157_1) _ _ dX4_work_165 rfl ⟨rfl, hu157_0, hu157_1⟩
set_option maxHeartbeats 4000000 in
set_option maxRecDepth 100000 in
theorem c_call_0_2_0 {l : Launch} {D : va_G} {k : Nat → ClassId} {g a : Nat → Nat} (σ ν : St) (x : Int32) (q : Nat) (h82 : ν 82 0 = 0) (h83 : ν 83 0 = 0) (hTn : isN (σ 81 0) 30) (hq : q + 3 ≤ 20) : Ct l D k g yX4_call cX4_call 6 (some .int) 5 122 [.ref (a 5), .int 2, .int 0, .int x, .int (nI q)] (S := Rw × Int32) (wX k g a σ ν) (fun uu => wX k g a (va_up (va_up σ 80 uu.1) 81 (fun _ => uu.2)) ν) (fun vv uu => vv = some (.int (((x + ν 85 0) * 2) - ν 84 0)) ∧ (uu.1, uu.2) = bgs [12, 11, 10] (σ 80, σ 81 0) ∧ isN uu.2 30) := by
  refine Ct.ofI RX4 rfl (by decide +kernel) (Nat.le_of_ble_eq_true rfl) (fun X hC hR => ?_)
  have hTb := hTn.2
  show V X (wX k g a σ ν) [(0, .ref (a 5)), (1, .int 2), (2, .int 0), (3, .int x), (4, .int (nI q))] [] 0
  refine V.aload_n (pc := 0) 0 hC dX4_call_0 rfl ?_
  refine V.get (pc := 1) (v := .int (ν 82 0)) hC cf_X4 5 2 fl_X4_19 (by decide) gx_5 rfl dX4_call_1 ?_
  refine V.eqi (y := 0) (h82) ?_
  refine V.if_ne (pc := 4) 14 hC dX4_call_4 (by decide) (fun c_4 => ?_) (fun c_4 => ?_)
  · have nc_4 : ¬ (0 = 0) := fun z => c_4 ((neq (nl 0) (nl 0) (by omega) (by omega)).mpr z)
    exact absurd c_4 (by decide)
  · have nc_4 : 0 = 0 := (neq (nl 0) (nl 0) (by omega) (by omega)).mp c_4
    refine V.iload (pc := 7) 4 hC dX4_call_7 rfl ?_
    refine V.bipush (pc := 9) 20 hC dX4_call_9 (by decide) ?_
    refine V.icmp_le (pc := 11) 16 hC dX4_call_11 (by decide) (fun c_11 => ?_) (fun c_11 => ?_)
    · have nc_11 : q ≤ 20 := (nle rfl (nl 20) (by omega) (by omega)).mp c_11
      refine V.iload_n (pc := 16) 1 hC dX4_call_16 rfl ?_
      refine V.iload_n (pc := 17) 2 hC dX4_call_17 rfl ?_
      refine V.callS0 (pc := 18) (as := [.int 2, .int 0]) hC (c_find_2_0  ) ms_X4_find ml_X4_49 (by decide) rfl (Nat.le_of_ble_eq_true rfl) dX4_call_18 ?_
      rintro _ _ rfl
      show V X (wX k g a σ ν) [(0, .ref (a 5)), (1, .int 2), (2, .int 0), (3, .int x), (4, .int (nI q))] [.int 12] 21
      refine V.istore (pc := 21) [(5, .int 12), (0, .ref (a 5)), (1, .int 2), (2, .int 0), (3, .int x), (4, .int (nI q))] hC dX4_call_21 (by decide) rfl ?_
      refine V.aload_n (pc := 23) 1 hC dX4_call_23 rfl ?_
      refine V.get (pc := 24) (v := .int (σ 81 0)) hC cf_X4 5 1 fl_X4_15 (by decide) gx_5 rfl dX4_call_24 ?_
      refine V.bipush (pc := 27) 30 hC dX4_call_27 (by decide) ?_
      refine V.icmp_ge (pc := 29) 53 hC dX4_call_29 (by decide) (fun c_29 => ?_) (fun c_29 => ?_)
      · have nc_29 : 30 ≤ nN (σ 81 0) := (nle (nl 30) hTn.1 (by omega) (by omega)).mp c_29
        refine V.aload_n (pc := 53) 1 hC dX4_call_53 rfl ?_
        refine V.iload (pc := 54) 0 hC dX4_call_54 rfl ?_
        refine V.iload_n (pc := 56) 4 hC dX4_call_56 rfl ?_
        refine V.iload (pc := 57) 5 hC dX4_call_57 rfl ?_
        refine V.iconst (pc := 59) 1 hC dX4_call_59 (by decide) ?_
        refine V.iadd (pc := 60) hC dX4_call_60 ?_
        refine V.sts (st' := [.int (nI (q + 1)), .int x, .int 12, .ref (a 5)]) (stc (ncast (b := q + 1) (nadd rfl (nl 1)) (by omega)) (stk (stk (stk rfl)))) ?_
        refine V.callV0 (pc := 61) (as := [.int 12, .int x, .int (nI (q + 1))]) hC (c_work_0_12 σ ν x (q + 1) h82 h83 hTn (by omega)) mu_X4_work ml_X4_53 (by decide) ⟨5, 4, TX4, 6, _, rfl, gx_5⟩ rfl (Nat.le_of_ble_eq_true rfl) dX4_call_61 ?_
        rintro _ ⟨f61_0, i61_1⟩ ⟨rfl, hu61_0, hu61_1⟩
        have hu61_0 : (f61_0, i61_1) = bgs [11, 10] (σ 80, σ 81 0) := hu61_0
        have hu61_1 : isN i61_1 30 := hu61_1
        show V X (wX k g a (va_up (va_up σ 80 f61_0) 81 (fun _ => i61_1)) ν) [(5, .int 12), (0, .ref (a 5)), (1, .int 2), (2, .int 0), (3, .int x), (4, .int (nI q))] [.int (((x + ν 85 0) * 2) - ν 84 0)] 64
        exact hR (((x + ν 85 0) * 2) - ν 84 0) (f61_0, i61_1) _ _ dX4_call_64 rfl ⟨rfl, by rw [hu61_0]; exact congrArg (bgs [11, 10]) (show (σ 80, σ 81 0) = bgS 12 (σ 80, σ 81 0) from (if_neg (i_ge c_29)).symm), hu61_1⟩
      · have nc_29 : ¬ (30 ≤ nN (σ 81 0)) := fun z => c_29 ((nle (nl 30) hTn.1 (by omega) (by omega)).mpr z)
        refine V.aload_n (pc := 32) 1 hC dX4_call_32 rfl ?_
        refine V.get (pc := 33) (v := .ref (a 80)) hC cf_X4 5 0 fl_X4_9 (by decide) gx_5 rfl dX4_call_33 ?_
        refine V.aload_n (pc := 36) 1 hC dX4_call_36 rfl ?_
        refine V.get (pc := 37) (v := .int (σ 81 0)) hC cf_X4 5 1 fl_X4_15 (by decide) gx_5 rfl dX4_call_37 ?_
        refine V.iload (pc := 40) 0 hC dX4_call_40 rfl ?_
        refine V.iast (pc := 42) (f := σ 80) hC 46 (nN (σ 81 0)) (wX k g a (va_up σ 80 (upd (σ 80) (nN (σ 81 0)) 12)) ν) gx_46 hTn.1 (by omega) (by decide) rfl dX4_call_42 ?_
        refine V.aload_n (pc := 43) 1 hC dX4_call_43 rfl ?_
        refine V.dup (pc := 44) hC dX4_call_44 rfl ?_
        refine V.get (pc := 45) (v := .int (σ 81 0)) hC cf_X4 5 1 fl_X4_15 (by decide) gx_5 rfl dX4_call_45 ?_
        refine V.iconst (pc := 48) 1 hC dX4_call_48 (by decide) ?_
        refine V.iadd (pc := 49) hC dX4_call_49 ?_
        refine V.put (pc := 50) (v := .int ((σ 81 0) + 1)) hC cf_X4 5 1 (wX k g a (va_up (va_up σ 80 (upd (σ 80) (nN (σ 81 0)) 12)) 81 (fun _ => (σ 81 0) + 1)) ν) fl_X4_15 (by decide) gx_5 rfl rfl rfl (Nat.le_of_ble_eq_true rfl) rfl dX4_call_50 ?_
        refine V.aload_n (pc := 53) 1 hC dX4_call_53 rfl ?_
        refine V.iload (pc := 54) 0 hC dX4_call_54 rfl ?_
        refine V.iload_n (pc := 56) 4 hC dX4_call_56 rfl ?_
        refine V.iload (pc := 57) 5 hC dX4_call_57 rfl ?_
        refine V.iconst (pc := 59) 1 hC dX4_call_59 (by decide) ?_
        refine V.iadd (pc := 60) hC dX4_call_60 ?_
        refine V.sts (st' := [.int (nI (q + 1)), .int x, .int 12, .ref (a 5)]) (stc (ncast (b := q + 1) (nadd rfl (nl 1)) (by omega)) (stk (stk (stk rfl)))) ?_
        refine V.callV0 (pc := 61) (as := [.int 12, .int x, .int (nI (q + 1))]) hC (c_work_0_12 (va_up (va_up σ 80 (upd (σ 80) (nN (σ 81 0)) 12)) 81 (fun _ => (σ 81 0) + 1)) ν x (q + 1) h82 h83 (isN.mk (nadd hTn.1 (nl 1)) (by omega) (by omega)) (by omega)) mu_X4_work ml_X4_53 (by decide) ⟨5, 4, TX4, 6, _, rfl, gx_5⟩ rfl (Nat.le_of_ble_eq_true rfl) dX4_call_61 ?_
        rintro _ ⟨f61_0, i61_1⟩ ⟨rfl, hu61_0, hu61_1⟩
        have hu61_0 : (f61_0, i61_1) = bgs [11, 10] ((upd (σ 80) (nN (σ 81 0)) 12), ((σ 81 0) + 1)) := hu61_0
        have hu61_1 : isN i61_1 30 := hu61_1
        show V X (wX k g a (va_up (va_up σ 80 f61_0) 81 (fun _ => i61_1)) ν) [(5, .int 12), (0, .ref (a 5)), (1, .int 2), (2, .int 0), (3, .int x), (4, .int (nI q))] [.int (((x + ν 85 0) * 2) - ν 84 0)] 64
        exact hR (((x + ν 85 0) * 2) - ν 84 0) (f61_0, i61_1) _ _ dX4_call_64 rfl ⟨rfl, by rw [hu61_0]; exact congrArg (bgs [11, 10]) (show (upd (σ 80) (nN (σ 81 0)) 12, σ 81 0 + 1) = bgS 12 (σ 80, σ 81 0) from (if_pos (i_nle c_29)).symm), hu61_1⟩
    · have nc_11 : ¬ (q ≤ 20) := fun z => c_11 ((nle rfl (nl 20) (by omega) (by omega)).mpr z)
      exfalso; omega
set_option maxHeartbeats 4000000 in
set_option maxRecDepth 100000 in
theorem c_work_0_13 {l : Launch} {D : va_G} {k : Nat → ClassId} {g a : Nat → Nat} (σ ν : St) (x : Int32) (q : Nat) (h82 : ν 82 0 = 0) (h83 : ν 83 0 = 0) (hTn : isN (σ 81 0) 30) (hq : q + 0 ≤ 20) : Ct l D k g yX4_work cX4_work 5 (some .int) 1 21 [.ref (a 5), .int 13, .int x, .int (nI q)] (S := Rw × Int32 × Int32) (wX k g a σ ν) (fun uu => wX k g a (va_up (va_up σ 80 uu.1) 81 (fun _ => uu.2.1)) (va_up ν 82 (fun _ => uu.2.2))) (fun vv uu => vv = some (.int (if ν 84 0 - ν 85 0 = 0 then 0 else x / (ν 84 0 - ν 85 0))) ∧ (uu.1, uu.2.1) = bgs [] (σ 80, σ 81 0) ∧ isN uu.2.1 30 ∧ uu.2.2 = bI (ν 84 0 - ν 85 0 = 0)) := by
  refine Ct.ofI RX4 rfl (by decide +kernel) (Nat.le_of_ble_eq_true rfl) (fun X hC hR => ?_)
  show V X (wX k g a σ ν) [(0, .ref (a 5)), (1, .int 13), (2, .int x), (3, .int (nI q))] [] 0
  refine V.getAboveN (pc := 0) hC dX4_work_0 rfl ?_
  refine V.iload_n (pc := 3) 1 hC dX4_work_3 rfl ?_
  refine V.bipush (pc := 4) 10 hC dX4_work_4 (by decide) ?_
  refine V.idiv (pc := 6) hC dX4_work_6 (by decide) ?_
  refine V.eqi (y := 1) (by decide) ?_
  refine V.iconst (pc := 7) 1 hC dX4_work_7 (by decide) ?_
  refine V.isub (pc := 8) hC dX4_work_8 ?_
  refine V.eqi (y := 0) (by decide) ?_
  refine V.ldAbove (pc := 9) hC 0 (-1) (nl 0) (by decide) rfl dX4_work_9 ?_
  refine V.istore (pc := 10) [(4, .int (-1)), (0, .ref (a 5)), (1, .int 13), (2, .int x), (3, .int (nI q))] hC dX4_work_10 (by decide) rfl ?_
  refine V.iload_n (pc := 12) 2 hC dX4_work_12 rfl ?_
  refine V.lookup (pc := 13) 166 hC dX4_work_13 (by decide) rfl (by decide) ?_
  refine V.aload_n (pc := 166) 1 hC dX4_work_166 rfl ?_
  refine V.iload_n (pc := 167) 3 hC dX4_work_167 rfl ?_
  refine V.callV0 (pc := 168) (as := [.int x]) hC (c_X4_part σ ν x h82) mu_X4_part ml_X4_57 (by decide) ⟨5, 4, TX4, 6, _, rfl, gx_5⟩ rfl (Nat.le_of_ble_eq_true rfl) dX4_work_168 ?_
  rintro _ i168_0 ⟨rfl, hu168_0⟩
  have hu168_0 : i168_0 = bI (ν 84 0 - ν 85 0 = 0) := hu168_0
  show V X (wX k g a σ (va_up ν 82 (fun _ => i168_0))) [(4, .int (-1)), (0, .ref (a 5)), (1, .int 13), (2, .int x), (3, .int (nI q))] [.int (if ν 84 0 - ν 85 0 = 0 then 0 else x / (ν 84 0 - ν 85 0))] 171
  exact hR (if ν 84 0 - ν 85 0 = 0 then 0 else x / (ν 84 0 - ν 85 0)) (σ 80, σ 81 0, i168_0) _ _ dX4_work_171 rfl ⟨rfl, rfl, hTn, hu168_0⟩
set_option maxHeartbeats 4000000 in
set_option maxRecDepth 100000 in
theorem c_call_0_3_0 {l : Launch} {D : va_G} {k : Nat → ClassId} {g a : Nat → Nat} (σ ν : St) (x : Int32) (q : Nat) (h82 : ν 82 0 = 0) (h83 : ν 83 0 = 0) (hTn : isN (σ 81 0) 30) (hq : q + 1 ≤ 20) : Ct l D k g yX4_call cX4_call 6 (some .int) 2 45 [.ref (a 5), .int 3, .int 0, .int x, .int (nI q)] (S := Rw × Int32 × Int32) (wX k g a σ ν) (fun uu => wX k g a (va_up (va_up σ 80 uu.1) 81 (fun _ => uu.2.1)) (va_up ν 82 (fun _ => uu.2.2))) (fun vv uu => vv = some (.int (if ν 84 0 - ν 85 0 = 0 then 0 else x / (ν 84 0 - ν 85 0))) ∧ (uu.1, uu.2.1) = bgs [13] (σ 80, σ 81 0) ∧ isN uu.2.1 30 ∧ uu.2.2 = bI (ν 84 0 - ν 85 0 = 0)) := by
  refine Ct.ofI RX4 rfl (by decide +kernel) (Nat.le_of_ble_eq_true rfl) (fun X hC hR => ?_)
  have hTb := hTn.2
  show V X (wX k g a σ ν) [(0, .ref (a 5)), (1, .int 3), (2, .int 0), (3, .int x), (4, .int (nI q))] [] 0
  refine V.aload_n (pc := 0) 0 hC dX4_call_0 rfl ?_
  refine V.get (pc := 1) (v := .int (ν 82 0)) hC cf_X4 5 2 fl_X4_19 (by decide) gx_5 rfl dX4_call_1 ?_
  refine V.eqi (y := 0) (h82) ?_
  refine V.if_ne (pc := 4) 14 hC dX4_call_4 (by decide) (fun c_4 => ?_) (fun c_4 => ?_)
  · have nc_4 : ¬ (0 = 0) := fun z => c_4 ((neq (nl 0) (nl 0) (by omega) (by omega)).mpr z)
    exact absurd c_4 (by decide)
  · have nc_4 : 0 = 0 := (neq (nl 0) (nl 0) (by omega) (by omega)).mp c_4
    refine V.iload (pc := 7) 4 hC dX4_call_7 rfl ?_
    refine V.bipush (pc := 9) 20 hC dX4_call_9 (by decide) ?_
    refine V.icmp_le (pc := 11) 16 hC dX4_call_11 (by decide) (fun c_11 => ?_) (fun c_11 => ?_)
    · have nc_11 : q ≤ 20 := (nle rfl (nl 20) (by omega) (by omega)).mp c_11
      refine V.iload_n (pc := 16) 1 hC dX4_call_16 rfl ?_
      refine V.iload_n (pc := 17) 2 hC dX4_call_17 rfl ?_
      refine V.callS0 (pc := 18) (as := [.int 3, .int 0]) hC (c_find_3_0  ) ms_X4_find ml_X4_49 (by decide) rfl (Nat.le_of_ble_eq_true rfl) dX4_call_18 ?_
      rintro _ _ rfl
      show V X (wX k g a σ ν) [(0, .ref (a 5)), (1, .int 3), (2, .int 0), (3, .int x), (4, .int (nI q))] [.int 13] 21
      refine V.istore (pc := 21) [(5, .int 13), (0, .ref (a 5)), (1, .int 3), (2, .int 0), (3, .int x), (4, .int (nI q))] hC dX4_call_21 (by decide) rfl ?_
      refine V.aload_n (pc := 23) 1 hC dX4_call_23 rfl ?_
      refine V.get (pc := 24) (v := .int (σ 81 0)) hC cf_X4 5 1 fl_X4_15 (by decide) gx_5 rfl dX4_call_24 ?_
      refine V.bipush (pc := 27) 30 hC dX4_call_27 (by decide) ?_
      refine V.icmp_ge (pc := 29) 53 hC dX4_call_29 (by decide) (fun c_29 => ?_) (fun c_29 => ?_)
      · have nc_29 : 30 ≤ nN (σ 81 0) := (nle (nl 30) hTn.1 (by omega) (by omega)).mp c_29
        refine V.aload_n (pc := 53) 1 hC dX4_call_53 rfl ?_
        refine V.iload (pc := 54) 0 hC dX4_call_54 rfl ?_
        refine V.iload_n (pc := 56) 4 hC dX4_call_56 rfl ?_
        refine V.iload (pc := 57) 5 hC dX4_call_57 rfl ?_
        refine V.iconst (pc := 59) 1 hC dX4_call_59 (by decide) ?_
        refine V.iadd (pc := 60) hC dX4_call_60 ?_
        refine V.sts (st' := [.int (nI (q + 1)), .int x, .int 13, .ref (a 5)]) (stc (ncast (b := q + 1) (nadd rfl (nl 1)) (by omega)) (stk (stk (stk rfl)))) ?_
        refine V.callV0 (pc := 61) (as := [.int 13, .int x, .int (nI (q + 1))]) hC (c_work_0_13 σ ν x (q + 1) h82 h83 hTn (by omega)) mu_X4_work ml_X4_53 (by decide) ⟨5, 4, TX4, 6, _, rfl, gx_5⟩ rfl (Nat.le_of_ble_eq_true rfl) dX4_call_61 ?_
        rintro _ ⟨f61_0, i61_1, i61_2⟩ ⟨rfl, hu61_0, hu61_1, hu61_2⟩
        have hu61_0 : (f61_0, i61_1) = bgs [] (σ 80, σ 81 0) := hu61_0
        have hu61_1 : isN i61_1 30 := hu61_1
        have hu61_2 : i61_2 = bI (ν 84 0 - ν 85 0 = 0) := hu61_2
        show V X (wX k g a (va_up (va_up σ 80 f61_0) 81 (fun _ => i61_1)) (va_up ν 82 (fun _ => i61_2))) [(5, .int 13), (0, .ref (a 5)), (1, .int 3), (2, .int 0), (3, .int x), (4, .int (nI q))] [.int (if ν 84 0 - ν 85 0 = 0 then 0 else x / (ν 84 0 - ν 85 0))] 64
        exact hR (if ν 84 0 - ν 85 0 = 0 then 0 else x / (ν 84 0 - ν 85 0)) (f61_0, i61_1, i61_2) _ _ dX4_call_64 rfl ⟨rfl, by rw [hu61_0]; exact congrArg (bgs []) (show (σ 80, σ 81 0) = bgS 13 (σ 80, σ 81 0) from (if_neg (i_ge c_29)).symm), hu61_1, hu61_2⟩
      · have nc_29 : ¬ (30 ≤ nN (σ 81 0)) := fun z => c_29 ((nle (nl 30) hTn.1 (by omega) (by omega)).mpr z)
        refine V.aload_n (pc := 32) 1 hC dX4_call_32 rfl ?_
        refine V.get (pc := 33) (v := .ref (a 80)) hC cf_X4 5 0 fl_X4_9 (by decide) gx_5 rfl dX4_call_33 ?_
        refine V.aload_n (pc := 36) 1 hC dX4_call_36 rfl ?_
        refine V.get (pc := 37) (v := .int (σ 81 0)) hC cf_X4 5 1 fl_X4_15 (by decide) gx_5 rfl dX4_call_37 ?_
        refine V.iload (pc := 40) 0 hC dX4_call_40 rfl ?_
        refine V.iast (pc := 42) (f := σ 80) hC 46 (nN (σ 81 0)) (wX k g a (va_up σ 80 (upd (σ 80) (nN (σ 81 0)) 13)) ν) gx_46 hTn.1 (by omega) (by decide) rfl dX4_call_42 ?_
        refine V.aload_n (pc := 43) 1 hC dX4_call_43 rfl ?_
        refine V.dup (pc := 44) hC dX4_call_44 rfl ?_
        refine V.get (pc := 45) (v := .int (σ 81 0)) hC cf_X4 5 1 fl_X4_15 (by decide) gx_5 rfl dX4_call_45 ?_
        refine V.iconst (pc := 48) 1 hC dX4_call_48 (by decide) ?_
        refine V.iadd (pc := 49) hC dX4_call_49 ?_
        refine V.put (pc := 50) (v := .int ((σ 81 0) + 1)) hC cf_X4 5 1 (wX k g a (va_up (va_up σ 80 (upd (σ 80) (nN (σ 81 0)) 13)) 81 (fun _ => (σ 81 0) + 1)) ν) fl_X4_15 (by decide) gx_5 rfl rfl rfl (Nat.le_of_ble_eq_true rfl) rfl dX4_call_50 ?_
        refine V.aload_n (pc := 53) 1 hC dX4_call_53 rfl ?_
        refine V.iload (pc := 54) 0 hC dX4_call_54 rfl ?_
        refine V.iload_n (pc := 56) 4 hC dX4_call_56 rfl ?_
        refine V.iload (pc := 57) 5 hC dX4_call_57 rfl ?_
        refine V.iconst (pc := 59) 1 hC dX4_call_59 (by decide) ?_
        refine V.iadd (pc := 60) hC dX4_call_60 ?_
        refine V.sts (st' := [.int (nI (q + 1)), .int x, .int 13, .ref (a 5)]) (stc (ncast (b := q + 1) (nadd rfl (nl 1)) (by omega)) (stk (stk (stk rfl)))) ?_
        refine V.callV0 (pc := 61) (as := [.int 13, .int x, .int (nI (q + 1))]) hC (c_work_0_13 (va_up (va_up σ 80 (upd (σ 80) (nN (σ 81 0)) 13)) 81 (fun _ => (σ 81 0) + 1)) ν x (q + 1) h82 h83 (isN.mk (nadd hTn.1 (nl 1)) (by omega) (by omega)) (by omega)) mu_X4_work ml_X4_53 (by decide) ⟨5, 4, TX4, 6, _, rfl, gx_5⟩ rfl (Nat.le_of_ble_eq_true rfl) dX4_call_61 ?_
        rintro _ ⟨f61_0, i61_1, i61_2⟩ ⟨rfl, hu61_0, hu61_1, hu61_2⟩
        have hu61_0 : (f61_0, i61_1) = bgs [] ((upd (σ 80) (nN (σ 81 0)) 13), ((σ 81 0) + 1)) := hu61_0
        have hu61_1 : isN i61_1 30 := hu61_1
        have hu61_2 : i61_2 = bI (ν 84 0 - ν 85 0 = 0) := hu61_2
        show V X (wX k g a (va_up (va_up σ 80 f61_0) 81 (fun _ => i61_1)) (va_up ν 82 (fun _ => i61_2))) [(5, .int 13), (0, .ref (a 5)), (1, .int 3), (2, .int 0), (3, .int x), (4, .int (nI q))] [.int (if ν 84 0 - ν 85 0 = 0 then 0 else x / (ν 84 0 - ν 85 0))] 64
        exact hR (if ν 84 0 - ν 85 0 = 0 then 0 else x / (ν 84 0 - ν 85 0)) (f61_0, i61_1, i61_2) _ _ dX4_call_64 rfl ⟨rfl, by rw [hu61_0]; exact congrArg (bgs []) (show (upd (σ 80) (nN (σ 81 0)) 13, σ 81 0 + 1) = bgS 13 (σ 80, σ 81 0) from (if_pos (i_nle c_29)).symm), hu61_1, hu61_2⟩
    · have nc_11 : ¬ (q ≤ 20) := fun z => c_11 ((nle rfl (nl 20) (by omega) (by omega)).mpr z)
      exfalso; omega
set_option maxHeartbeats 4000000 in
set_option maxRecDepth 100000 in
theorem c_work_1_10 {l : Launch} {D : va_G} {k : Nat → ClassId} {g a : Nat → Nat} (σ ν : St) (x : Int32) (q : Nat) (h82 : ν 82 0 = 0) (h83 : ν 83 0 = 1) (hTn : isN (σ 81 0) 30) (hq : q + 0 ≤ 20) : Ct l D k g yX4_work cX4_work 5 (some .int) 0 0 [.ref (a 5), .int 10, .int x, .int (nI q)] (S := Rw × Int32) (wX k g a σ ν) (fun uu => wX k g a (va_up (va_up σ 80 uu.1) 81 (fun _ => uu.2)) ν) (fun vv uu => vv = some (.int (x + ν 85 0)) ∧ (uu.1, uu.2) = bgs [] (σ 80, σ 81 0) ∧ isN uu.2 30) := by
  refine Ct.ofI RX4 rfl (by decide +kernel) (Nat.le_of_ble_eq_true rfl) (fun X hC hR => ?_)
  show V X (wX k g a σ ν) [(0, .ref (a 5)), (1, .int 10), (2, .int x), (3, .int (nI q))] [] 0
  refine V.getAboveN (pc := 0) hC dX4_work_0 rfl ?_
  refine V.iload_n (pc := 3) 1 hC dX4_work_3 rfl ?_
  refine V.bipush (pc := 4) 10 hC dX4_work_4 (by decide) ?_
  refine V.idiv (pc := 6) hC dX4_work_6 (by decide) ?_
  refine V.eqi (y := 1) (by decide) ?_
  refine V.iconst (pc := 7) 1 hC dX4_work_7 (by decide) ?_
  refine V.isub (pc := 8) hC dX4_work_8 ?_
  refine V.eqi (y := 0) (by decide) ?_
  refine V.ldAbove (pc := 9) hC 0 (-1) (nl 0) (by decide) rfl dX4_work_9 ?_
  refine V.istore (pc := 10) [(4, .int (-1)), (0, .ref (a 5)), (1, .int 10), (2, .int x), (3, .int (nI q))] hC dX4_work_10 (by decide) rfl ?_
  refine V.iload_n (pc := 12) 2 hC dX4_work_12 rfl ?_
  refine V.lookup (pc := 13) 128 hC dX4_work_13 (by decide) rfl (by decide) ?_
  refine V.iload_n (pc := 128) 3 hC dX4_work_128 rfl ?_
  refine V.aload_n (pc := 129) 1 hC dX4_work_129 rfl ?_
  refine V.get (pc := 130) (v := .int (ν 85 0)) hC cf_X4 5 5 fl_X4_36 (by decide) gx_5 rfl dX4_work_130 ?_
  refine V.iadd (pc := 133) hC dX4_work_133 ?_
  exact hR (x + (ν 85 0)) (σ 80, σ 81 0) _ _ dX4_work_134 rfl ⟨rfl, rfl, hTn⟩
set_option maxHeartbeats 4000000 in
set_option maxRecDepth 100000 in
theorem c_call_1_0_0 {l : Launch} {D : va_G} {k : Nat → ClassId} {g a : Nat → Nat} (σ ν : St) (x : Int32) (q : Nat) (h82 : ν 82 0 = 0) (h83 : ν 83 0 = 1) (hTn : isN (σ 81 0) 30) (hq : q + 1 ≤ 20) : Ct l D k g yX4_call cX4_call 6 (some .int) 1 24 [.ref (a 5), .int 0, .int 0, .int x, .int (nI q)] (S := Rw × Int32) (wX k g a σ ν) (fun uu => wX k g a (va_up (va_up σ 80 uu.1) 81 (fun _ => uu.2)) ν) (fun vv uu => vv = some (.int (x + ν 85 0)) ∧ (uu.1, uu.2) = bgs [10] (σ 80, σ 81 0) ∧ isN uu.2 30) := by
  refine Ct.ofI RX4 rfl (by decide +kernel) (Nat.le_of_ble_eq_true rfl) (fun X hC hR => ?_)
  have hTb := hTn.2
  show V X (wX k g a σ ν) [(0, .ref (a 5)), (1, .int 0), (2, .int 0), (3, .int x), (4, .int (nI q))] [] 0
  refine V.aload_n (pc := 0) 0 hC dX4_call_0 rfl ?_
  refine V.get (pc := 1) (v := .int (ν 82 0)) hC cf_X4 5 2 fl_X4_19 (by decide) gx_5 rfl dX4_call_1 ?_
  refine V.eqi (y := 0) (h82) ?_
  refine V.if_ne (pc := 4) 14 hC dX4_call_4 (by decide) (fun c_4 => ?_) (fun c_4 => ?_)
  · have nc_4 : ¬ (0 = 0) := fun z => c_4 ((neq (nl 0) (nl 0) (by omega) (by omega)).mpr z)
    exact absurd c_4 (by decide)
  · have nc_4 : 0 = 0 := (neq (nl 0) (nl 0) (by omega) (by omega)).mp c_4
    refine V.iload (pc := 7) 4 hC dX4_call_7 rfl ?_
    refine V.bipush (pc := 9) 20 hC dX4_call_9 (by decide) ?_
    refine V.icmp_le (pc := 11) 16 hC dX4_call_11 (by decide) (fun c_11 => ?_) (fun c_11 => ?_)
    · have nc_11 : q ≤ 20 := (nle rfl (nl 20) (by omega) (by omega)).mp c_11
      refine V.iload_n (pc := 16) 1 hC dX4_call_16 rfl ?_
      refine V.iload_n (pc := 17) 2 hC dX4_call_17 rfl ?_
      refine V.callS0 (pc := 18) (as := [.int 0, .int 0]) hC (c_find_0_0  ) ms_X4_find ml_X4_49 (by decide) rfl (Nat.le_of_ble_eq_true rfl) dX4_call_18 ?_
      rintro _ _ rfl
      show V X (wX k g a σ ν) [(0, .ref (a 5)), (1, .int 0), (2, .int 0), (3, .int x), (4, .int (nI q))] [.int 10] 21
      refine V.istore (pc := 21) [(5, .int 10), (0, .ref (a 5)), (1, .int 0), (2, .int 0), (3, .int x), (4, .int (nI q))] hC dX4_call_21 (by decide) rfl ?_
      refine V.aload_n (pc := 23) 1 hC dX4_call_23 rfl ?_
      refine V.get (pc := 24) (v := .int (σ 81 0)) hC cf_X4 5 1 fl_X4_15 (by decide) gx_5 rfl dX4_call_24 ?_
      refine V.bipush (pc := 27) 30 hC dX4_call_27 (by decide) ?_
      refine V.icmp_ge (pc := 29) 53 hC dX4_call_29 (by decide) (fun c_29 => ?_) (fun c_29 => ?_)
      · have nc_29 : 30 ≤ nN (σ 81 0) := (nle (nl 30) hTn.1 (by omega) (by omega)).mp c_29
        refine V.aload_n (pc := 53) 1 hC dX4_call_53 rfl ?_
        refine V.iload (pc := 54) 0 hC dX4_call_54 rfl ?_
        refine V.iload_n (pc := 56) 4 hC dX4_call_56 rfl ?_
        refine V.iload (pc := 57) 5 hC dX4_call_57 rfl ?_
        refine V.iconst (pc := 59) 1 hC dX4_call_59 (by decide) ?_
        refine V.iadd (pc := 60) hC dX4_call_60 ?_
        refine V.sts (st' := [.int (nI (q + 1)), .int x, .int 10, .ref (a 5)]) (stc (ncast (b := q + 1) (nadd rfl (nl 1)) (by omega)) (stk (stk (stk rfl)))) ?_
        refine V.callV0 (pc := 61) (as := [.int 10, .int x, .int (nI (q + 1))]) hC (c_work_1_10 σ ν x (q + 1) h82 h83 hTn (by omega)) mu_X4_work ml_X4_53 (by decide) ⟨5, 4, TX4, 6, _, rfl, gx_5⟩ rfl (Nat.le_of_ble_eq_true rfl) dX4_call_61 ?_
        rintro _ ⟨f61_0, i61_1⟩ ⟨rfl, hu61_0, hu61_1⟩
        have hu61_0 : (f61_0, i61_1) = bgs [] (σ 80, σ 81 0) := hu61_0
        have hu61_1 : isN i61_1 30 := hu61_1
        show V X (wX k g a (va_up (va_up σ 80 f61_0) 81 (fun _ => i61_1)) ν) [(5, .int 10), (0, .ref (a 5)), (1, .int 0), (2, .int 0), (3, .int x), (4, .int (nI q))] [.int (x + ν 85 0)] 64
        exact hR (x + ν 85 0) (f61_0, i61_1) _ _ dX4_call_64 rfl ⟨rfl, by rw [hu61_0]; exact congrArg (bgs []) (show (σ 80, σ 81 0) = bgS 10 (σ 80, σ 81 0) from (if_neg (i_ge c_29)).symm), hu61_1⟩
      · have nc_29 : ¬ (30 ≤ nN (σ 81 0)) := fun z => c_29 ((nle (nl 30) hTn.1 (by omega) (by omega)).mpr z)
        refine V.aload_n (pc := 32) 1 hC dX4_call_32 rfl ?_
        refine V.get (pc := 33) (v := .ref (a 80)) hC cf_X4 5 0 fl_X4_9 (by decide) gx_5 rfl dX4_call_33 ?_
        refine V.aload_n (pc := 36) 1 hC dX4_call_36 rfl ?_
        refine V.get (pc := 37) (v := .int (σ 81 0)) hC cf_X4 5 1 fl_X4_15 (by decide) gx_5 rfl dX4_call_37 ?_
        refine V.iload (pc := 40) 0 hC dX4_call_40 rfl ?_
        refine V.iast (pc := 42) (f := σ 80) hC 46 (nN (σ 81 0)) (wX k g a (va_up σ 80 (upd (σ 80) (nN (σ 81 0)) 10)) ν) gx_46 hTn.1 (by omega) (by decide) rfl dX4_call_42 ?_
        refine V.aload_n (pc := 43) 1 hC dX4_call_43 rfl ?_
        refine V.dup (pc := 44) hC dX4_call_44 rfl ?_
        refine V.get (pc := 45) (v := .int (σ 81 0)) hC cf_X4 5 1 fl_X4_15 (by decide) gx_5 rfl dX4_call_45 ?_
        refine V.iconst (pc := 48) 1 hC dX4_call_48 (by decide) ?_
        refine V.iadd (pc := 49) hC dX4_call_49 ?_
        refine V.put (pc := 50) (v := .int ((σ 81 0) + 1)) hC cf_X4 5 1 (wX k g a (va_up (va_up σ 80 (upd (σ 80) (nN (σ 81 0)) 10)) 81 (fun _ => (σ 81 0) + 1)) ν) fl_X4_15 (by decide) gx_5 rfl rfl rfl (Nat.le_of_ble_eq_true rfl) rfl dX4_call_50 ?_
        refine V.aload_n (pc := 53) 1 hC dX4_call_53 rfl ?_
        refine V.iload (pc := 54) 0 hC dX4_call_54 rfl ?_
        refine V.iload_n (pc := 56) 4 hC dX4_call_56 rfl ?_
        refine V.iload (pc := 57) 5 hC dX4_call_57 rfl ?_
        refine V.iconst (pc := 59) 1 hC dX4_call_59 (by decide) ?_
        refine V.iadd (pc := 60) hC dX4_call_60 ?_
        refine V.sts (st' := [.int (nI (q + 1)), .int x, .int 10, .ref (a 5)]) (stc (ncast (b := q + 1) (nadd rfl (nl 1)) (by omega)) (stk (stk (stk rfl)))) ?_
        refine V.callV0 (pc := 61) (as := [.int 10, .int x, .int (nI (q + 1))]) hC (c_work_1_10 (va_up (va_up σ 80 (upd (σ 80) (nN (σ 81 0)) 10)) 81 (fun _ => (σ 81 0) + 1)) ν x (q + 1) h82 h83 (isN.mk (nadd hTn.1 (nl 1)) (by omega) (by omega)) (by omega)) mu_X4_work ml_X4_53 (by decide) ⟨5, 4, TX4, 6, _, rfl, gx_5⟩ rfl (Nat.le_of_ble_eq_true rfl) dX4_call_61 ?_
        rintro _ ⟨f61_0, i61_1⟩ ⟨rfl, hu61_0, hu61_1⟩
        have hu61_0 : (f61_0, i61_1) = bgs [] ((upd (σ 80) (nN (σ 81 0)) 10), ((σ 81 0) + 1)) := hu61_0
        have hu61_1 : isN i61_1 30 := hu61_1
        show V X (wX k g a (va_up (va_up σ 80 f61_0) 81 (fun _ => i61_1)) ν) [(5, .int 10), (0, .ref (a 5)), (1, .int 0), (2, .int 0), (3, .int x), (4, .int (nI q))] [.int (x + ν 85 0)] 64
        exact hR (x + ν 85 0) (f61_0, i61_1) _ _ dX4_call_64 rfl ⟨rfl, by rw [hu61_0]; exact congrArg (bgs []) (show (upd (σ 80) (nN (σ 81 0)) 10, σ 81 0 + 1) = bgS 10 (σ 80, σ 81 0) from (if_pos (i_nle c_29)).symm), hu61_1⟩
    · have nc_11 : ¬ (q ≤ 20) := fun z => c_11 ((nle rfl (nl 20) (by omega) (by omega)).mpr z)
      exfalso; omega
set_option maxHeartbeats 4000000 in
set_option maxRecDepth 100000 in
theorem c_work_1_20 {l : Launch} {D : va_G} {k : Nat → ClassId} {g a : Nat → Nat} (σ ν : St) (x : Int32) (q : Nat) (h82 : ν 82 0 = 0) (h83 : ν 83 0 = 1) (hTn : isN (σ 81 0) 30) (hq : q + 1 ≤ 20) : Ct l D k g yX4_work cX4_work 5 (some .int) 2 49 [.ref (a 5), .int 20, .int x, .int (nI q)] (S := Rw × Int32) (wX k g a σ ν) (fun uu => wX k g a (va_up (va_up σ 80 uu.1) 81 (fun _ => uu.2)) ν) (fun vv uu => vv = some (.int ((x + ν 85 0) - 4)) ∧ (uu.1, uu.2) = bgs [10] (σ 80, σ 81 0) ∧ isN uu.2 30) := by
  refine Ct.ofI RX4 rfl (by decide +kernel) (Nat.le_of_ble_eq_true rfl) (fun X hC hR => ?_)
  show V X (wX k g a σ ν) [(0, .ref (a 5)), (1, .int 20), (2, .int x), (3, .int (nI q))] [] 0
  refine V.getAboveN (pc := 0) hC dX4_work_0 rfl ?_
  refine V.iload_n (pc := 3) 1 hC dX4_work_3 rfl ?_
  refine V.bipush (pc := 4) 10 hC dX4_work_4 (by decide) ?_
  refine V.idiv (pc := 6) hC dX4_work_6 (by decide) ?_
  refine V.eqi (y := 2) (by decide) ?_
  refine V.iconst (pc := 7) 1 hC dX4_work_7 (by decide) ?_
  refine V.isub (pc := 8) hC dX4_work_8 ?_
  refine V.eqi (y := 1) (by decide) ?_
  refine V.ldAbove (pc := 9) hC 1 0 (nl 1) (by decide) rfl dX4_work_9 ?_
  refine V.istore (pc := 10) [(4, .int 0), (0, .ref (a 5)), (1, .int 20), (2, .int x), (3, .int (nI q))] hC dX4_work_10 (by decide) rfl ?_
  refine V.iload_n (pc := 12) 2 hC dX4_work_12 rfl ?_
  refine V.lookup (pc := 13) 172 hC dX4_work_13 (by decide) rfl (by decide) ?_
  refine V.aload_n (pc := 172) 1 hC dX4_work_172 rfl ?_
  refine V.iconst (pc := 173) 0 hC dX4_work_173 (by decide) ?_
  refine V.iload (pc := 174) 0 hC dX4_work_174 rfl ?_
  refine V.iload_n (pc := 176) 3 hC dX4_work_176 rfl ?_
  refine V.iload_n (pc := 177) 4 hC dX4_work_177 rfl ?_
  refine V.callV0 (pc := 178) (as := [.int 0, .int 0, .int x, .int (nI q)]) hC (c_call_1_0_0 σ ν x q h82 h83 hTn (by omega)) mu_X4_call ml_X4_39 (by decide) ⟨5, 4, TX4, 6, _, rfl, gx_5⟩ rfl (Nat.le_of_ble_eq_true rfl) dX4_work_178 ?_
  rintro _ ⟨f178_0, i178_1⟩ ⟨rfl, hu178_0, hu178_1⟩
  have hu178_0 : (f178_0, i178_1) = bgs [10] (σ 80, σ 81 0) := hu178_0
  have hu178_1 : isN i178_1 30 := hu178_1
  show V X (wX k g a (va_up (va_up σ 80 f178_0) 81 (fun _ => i178_1)) ν) [(4, .int 0), (0, .ref (a 5)), (1, .int 20), (2, .int x), (3, .int (nI q))] [.int (x + ν 85 0)] 181
  refine V.iconst (pc := 181) 4 hC dX4_work_181 (by decide) ?_
  refine V.isub (pc := 182) hC dX4_work_182 ?_
  exact hR ((x + ν 85 0) - 4) (f178_0, i178_1) _ _ dX4_work_183 rfl ⟨rfl, hu178_0, hu178_1⟩
set_option maxHeartbeats 4000000 in
set_option maxRecDepth 100000 in
theorem c_call_1_0_1 {l : Launch} {D : va_G} {k : Nat → ClassId} {g a : Nat → Nat} (σ ν : St) (x : Int32) (q : Nat) (h82 : ν 82 0 = 0) (h83 : ν 83 0 = 1) (hTn : isN (σ 81 0) 30) (hq : q + 2 ≤ 20) : Ct l D k g yX4_call cX4_call 6 (some .int) 3 73 [.ref (a 5), .int 0, .int 1, .int x, .int (nI q)] (S := Rw × Int32) (wX k g a σ ν) (fun uu => wX k g a (va_up (va_up σ 80 uu.1) 81 (fun _ => uu.2)) ν) (fun vv uu => vv = some (.int ((x + ν 85 0) - 4)) ∧ (uu.1, uu.2) = bgs [20, 10] (σ 80, σ 81 0) ∧ isN uu.2 30) := by
  refine Ct.ofI RX4 rfl (by decide +kernel) (Nat.le_of_ble_eq_true rfl) (fun X hC hR => ?_)
  have hTb := hTn.2
  show V X (wX k g a σ ν) [(0, .ref (a 5)), (1, .int 0), (2, .int 1), (3, .int x), (4, .int (nI q))] [] 0
  refine V.aload_n (pc := 0) 0 hC dX4_call_0 rfl ?_
  refine V.get (pc := 1) (v := .int (ν 82 0)) hC cf_X4 5 2 fl_X4_19 (by decide) gx_5 rfl dX4_call_1 ?_
  refine V.eqi (y := 0) (h82) ?_
  refine V.if_ne (pc := 4) 14 hC dX4_call_4 (by decide) (fun c_4 => ?_) (fun c_4 => ?_)
  · have nc_4 : ¬ (0 = 0) := fun z => c_4 ((neq (nl 0) (nl 0) (by omega) (by omega)).mpr z)
    exact absurd c_4 (by decide)
  · have nc_4 : 0 = 0 := (neq (nl 0) (nl 0) (by omega) (by omega)).mp c_4
    refine V.iload (pc := 7) 4 hC dX4_call_7 rfl ?_
    refine V.bipush (pc := 9) 20 hC dX4_call_9 (by decide) ?_
    refine V.icmp_le (pc := 11) 16 hC dX4_call_11 (by decide) (fun c_11 => ?_) (fun c_11 => ?_)
    · have nc_11 : q ≤ 20 := (nle rfl (nl 20) (by omega) (by omega)).mp c_11
      refine V.iload_n (pc := 16) 1 hC dX4_call_16 rfl ?_
      refine V.iload_n (pc := 17) 2 hC dX4_call_17 rfl ?_
      refine V.callS0 (pc := 18) (as := [.int 0, .int 1]) hC (c_find_0_1  ) ms_X4_find ml_X4_49 (by decide) rfl (Nat.le_of_ble_eq_true rfl) dX4_call_18 ?_
      rintro _ _ rfl
      show V X (wX k g a σ ν) [(0, .ref (a 5)), (1, .int 0), (2, .int 1), (3, .int x), (4, .int (nI q))] [.int 20] 21
      refine V.istore (pc := 21) [(5, .int 20), (0, .ref (a 5)), (1, .int 0), (2, .int 1), (3, .int x), (4, .int (nI q))] hC dX4_call_21 (by decide) rfl ?_
      refine V.aload_n (pc := 23) 1 hC dX4_call_23 rfl ?_
      refine V.get (pc := 24) (v := .int (σ 81 0)) hC cf_X4 5 1 fl_X4_15 (by decide) gx_5 rfl dX4_call_24 ?_
      refine V.bipush (pc := 27) 30 hC dX4_call_27 (by decide) ?_
      refine V.icmp_ge (pc := 29) 53 hC dX4_call_29 (by decide) (fun c_29 => ?_) (fun c_29 => ?_)
      · have nc_29 : 30 ≤ nN (σ 81 0) := (nle (nl 30) hTn.1 (by omega) (by omega)).mp c_29
        refine V.aload_n (pc := 53) 1 hC dX4_call_53 rfl ?_
        refine V.iload (pc := 54) 0 hC dX4_call_54 rfl ?_
        refine V.iload_n (pc := 56) 4 hC dX4_call_56 rfl ?_
        refine V.iload (pc := 57) 5 hC dX4_call_57 rfl ?_
        refine V.iconst (pc := 59) 1 hC dX4_call_59 (by decide) ?_
        refine V.iadd (pc := 60) hC dX4_call_60 ?_
        refine V.sts (st' := [.int (nI (q + 1)), .int x, .int 20, .ref (a 5)]) (stc (ncast (b := q + 1) (nadd rfl (nl 1)) (by omega)) (stk (stk (stk rfl)))) ?_
        refine V.callV0 (pc := 61) (as := [.int 20, .int x, .int (nI (q + 1))]) hC (c_work_1_20 σ ν x (q + 1) h82 h83 hTn (by omega)) mu_X4_work ml_X4_53 (by decide) ⟨5, 4, TX4, 6, _, rfl, gx_5⟩ rfl (Nat.le_of_ble_eq_true rfl) dX4_call_61 ?_
        rintro _ ⟨f61_0, i61_1⟩ ⟨rfl, hu61_0, hu61_1⟩
        have hu61_0 : (f61_0, i61_1) = bgs [10] (σ 80, σ 81 0) := hu61_0
        have hu61_1 : isN i61_1 30 := hu61_1
        show V X (wX k g a (va_up (va_up σ 80 f61_0) 81 (fun _ => i61_1)) ν) [(5, .int 20), (0, .ref (a 5)), (1, .int 0), (2, .int 1), (3, .int x), (4, .int (nI q))] [.int ((x + ν 85 0) - 4)] 64
        exact hR ((x + ν 85 0) - 4) (f61_0, i61_1) _ _ dX4_call_64 rfl ⟨rfl, by rw [hu61_0]; exact congrArg (bgs [10]) (show (σ 80, σ 81 0) = bgS 20 (σ 80, σ 81 0) from (if_neg (i_ge c_29)).symm), hu61_1⟩
      · have nc_29 : ¬ (30 ≤ nN (σ 81 0)) := fun z => c_29 ((nle (nl 30) hTn.1 (by omega) (by omega)).mpr z)
        refine V.aload_n (pc := 32) 1 hC dX4_call_32 rfl ?_
        refine V.get (pc := 33) (v := .ref (a 80)) hC cf_X4 5 0 fl_X4_9 (by decide) gx_5 rfl dX4_call_33 ?_
        refine V.aload_n (pc := 36) 1 hC dX4_call_36 rfl ?_
        refine V.get (pc := 37) (v := .int (σ 81 0)) hC cf_X4 5 1 fl_X4_15 (by decide) gx_5 rfl dX4_call_37 ?_
        refine V.iload (pc := 40) 0 hC dX4_call_40 rfl ?_
        refine V.iast (pc := 42) (f := σ 80) hC 46 (nN (σ 81 0)) (wX k g a (va_up σ 80 (upd (σ 80) (nN (σ 81 0)) 20)) ν) gx_46 hTn.1 (by omega) (by decide) rfl dX4_call_42 ?_
        refine V.aload_n (pc := 43) 1 hC dX4_call_43 rfl ?_
        refine V.dup (pc := 44) hC dX4_call_44 rfl ?_
        refine V.get (pc := 45) (v := .int (σ 81 0)) hC cf_X4 5 1 fl_X4_15 (by decide) gx_5 rfl dX4_call_45 ?_
        refine V.iconst (pc := 48) 1 hC dX4_call_48 (by decide) ?_
        refine V.iadd (pc := 49) hC dX4_call_49 ?_
        refine V.put (pc := 50) (v := .int ((σ 81 0) + 1)) hC cf_X4 5 1 (wX k g a (va_up (va_up σ 80 (upd (σ 80) (nN (σ 81 0)) 20)) 81 (fun _ => (σ 81 0) + 1)) ν) fl_X4_15 (by decide) gx_5 rfl rfl rfl (Nat.le_of_ble_eq_true rfl) rfl dX4_call_50 ?_
        refine V.aload_n (pc := 53) 1 hC dX4_call_53 rfl ?_
        refine V.iload (pc := 54) 0 hC dX4_call_54 rfl ?_
        refine V.iload_n (pc := 56) 4 hC dX4_call_56 rfl ?_
        refine V.iload (pc := 57) 5 hC dX4_call_57 rfl ?_
        refine V.iconst (pc := 59) 1 hC dX4_call_59 (by decide) ?_
        refine V.iadd (pc := 60) hC dX4_call_60 ?_
        refine V.sts (st' := [.int (nI (q + 1)), .int x, .int 20, .ref (a 5)]) (stc (ncast (b := q + 1) (nadd rfl (nl 1)) (by omega)) (stk (stk (stk rfl)))) ?_
        refine V.callV0 (pc := 61) (as := [.int 20, .int x, .int (nI (q + 1))]) hC (c_work_1_20 (va_up (va_up σ 80 (upd (σ 80) (nN (σ 81 0)) 20)) 81 (fun _ => (σ 81 0) + 1)) ν x (q + 1) h82 h83 (isN.mk (nadd hTn.1 (nl 1)) (by omega) (by omega)) (by omega)) mu_X4_work ml_X4_53 (by decide) ⟨5, 4, TX4, 6, _, rfl, gx_5⟩ rfl (Nat.le_of_ble_eq_true rfl) dX4_call_61 ?_
        rintro _ ⟨f61_0, i61_1⟩ ⟨rfl, hu61_0, hu61_1⟩
        have hu61_0 : (f61_0, i61_1) = bgs [10] ((upd (σ 80) (nN (σ 81 0)) 20), ((σ 81 0) + 1)) := hu61_0
        have hu61_1 : isN i61_1 30 := hu61_1
        show V X (wX k g a (va_up (va_up σ 80 f61_0) 81 (fun _ => i61_1)) ν) [(5, .int 20), (0, .ref (a 5)), (1, .int 0), (2, .int 1), (3, .int x), (4, .int (nI q))] [.int ((x + ν 85 0) - 4)] 64
        exact hR ((x + ν 85 0) - 4) (f61_0, i61_1) _ _ dX4_call_64 rfl ⟨rfl, by rw [hu61_0]; exact congrArg (bgs [10]) (show (upd (σ 80) (nN (σ 81 0)) 20, σ 81 0 + 1) = bgS 20 (σ 80, σ 81 0) from (if_pos (i_nle c_29)).symm), hu61_1⟩
    · have nc_11 : ¬ (q ≤ 20) := fun z => c_11 ((nle rfl (nl 20) (by omega) (by omega)).mpr z)
      exfalso; omega
set_option maxHeartbeats 4000000 in
set_option maxRecDepth 100000 in
theorem c_work_1_11 {l : Launch} {D : va_G} {k : Nat → ClassId} {g a : Nat → Nat} (σ ν : St) (x : Int32) (q : Nat) (h82 : ν 82 0 = 0) (h83 : ν 83 0 = 1) (hTn : isN (σ 81 0) 30) (hq : q + 2 ≤ 20) : Ct l D k g yX4_work cX4_work 5 (some .int) 4 98 [.ref (a 5), .int 11, .int x, .int (nI q)] (S := Rw × Int32) (wX k g a σ ν) (fun uu => wX k g a (va_up (va_up σ 80 uu.1) 81 (fun _ => uu.2)) ν) (fun vv uu => vv = some (.int (((x + ν 85 0) - 4) * 2)) ∧ (uu.1, uu.2) = bgs [20, 10] (σ 80, σ 81 0) ∧ isN uu.2 30) := by
  refine Ct.ofI RX4 rfl (by decide +kernel) (Nat.le_of_ble_eq_true rfl) (fun X hC hR => ?_)
  show V X (wX k g a σ ν) [(0, .ref (a 5)), (1, .int 11), (2, .int x), (3, .int (nI q))] [] 0
  refine V.getAboveN (pc := 0) hC dX4_work_0 rfl ?_
  refine V.iload_n (pc := 3) 1 hC dX4_work_3 rfl ?_
  refine V.bipush (pc := 4) 10 hC dX4_work_4 (by decide) ?_
  refine V.idiv (pc := 6) hC dX4_work_6 (by decide) ?_
  refine V.eqi (y := 1) (by decide) ?_
  refine V.iconst (pc := 7) 1 hC dX4_work_7 (by decide) ?_
  refine V.isub (pc := 8) hC dX4_work_8 ?_
  refine V.eqi (y := 0) (by decide) ?_
  refine V.ldAbove (pc := 9) hC 0 (-1) (nl 0) (by decide) rfl dX4_work_9 ?_
  refine V.istore (pc := 10) [(4, .int (-1)), (0, .ref (a 5)), (1, .int 11), (2, .int x), (3, .int (nI q))] hC dX4_work_10 (by decide) rfl ?_
  refine V.iload_n (pc := 12) 2 hC dX4_work_12 rfl ?_
  refine V.lookup (pc := 13) 135 hC dX4_work_13 (by decide) rfl (by decide) ?_
  refine V.aload_n (pc := 135) 1 hC dX4_work_135 rfl ?_
  refine V.iconst (pc := 136) 0 hC dX4_work_136 (by decide) ?_
  refine V.aload_n (pc := 137) 1 hC dX4_work_137 rfl ?_
  refine V.get (pc := 138) (v := .int (ν 83 0)) hC cf_X4 5 3 fl_X4_28 (by decide) gx_5 rfl dX4_work_138 ?_
  refine V.eqi (y := 1) (h83) ?_
  refine V.iload_n (pc := 141) 3 hC dX4_work_141 rfl ?_
  refine V.iload_n (pc := 142) 4 hC dX4_work_142 rfl ?_
  refine V.callV0 (pc := 143) (as := [.int 0, .int 1, .int x, .int (nI q)]) hC (c_call_1_0_1 σ ν x q h82 h83 hTn (by omega)) mu_X4_call ml_X4_39 (by decide) ⟨5, 4, TX4, 6, _, rfl, gx_5⟩ rfl (Nat.le_of_ble_eq_true rfl) dX4_work_143 ?_
  rintro _ ⟨f143_0, i143_1⟩ ⟨rfl, hu143_0, hu143_1⟩
  have hu143_0 : (f143_0, i143_1) = bgs [20, 10] (σ 80, σ 81 0) := hu143_0
  have hu143_1 : isN i143_1 30 := hu143_1
  show V X (wX k g a (va_up (va_up σ 80 f143_0) 81 (fun _ => i143_1)) ν) [(4, .int (-1)), (0, .ref (a 5)), (1, .int 11), (2, .int x), (3, .int (nI q))] [.int ((x + ν 85 0) - 4)] 146
  refine V.iconst (pc := 146) 2 hC dX4_work_146 (by decide) ?_
  refine V.imul (pc := 147) hC dX4_work_147 ?_
  exact hR (((x + ν 85 0) - 4) * 2) (f143_0, i143_1) _ _ dX4_work_148 rfl ⟨rfl, hu143_0, hu143_1⟩
set_option maxHeartbeats 4000000 in
set_option maxRecDepth 100000 in
theorem c_call_1_1_1 {l : Launch} {D : va_G} {k : Nat → ClassId} {g a : Nat → Nat} (σ ν : St) (x : Int32) (q : Nat) (h82 : ν 82 0 = 0) (h83 : ν 83 0 = 1) (hTn : isN (σ 81 0) 30) (hq : q + 3 ≤ 20) : Ct l D k g yX4_call cX4_call 6 (some .int) 5 122 [.ref (a 5), .int 1, .int 1, .int x, .int (nI q)] (S := Rw × Int32) (wX k g a σ ν) (fun uu => wX k g a (va_up (va_up σ 80 uu.1) 81 (fun _ => uu.2)) ν) (fun vv uu => vv = some (.int (((x + ν 85 0) - 4) * 2)) ∧ (uu.1, uu.2) = bgs [11, 20, 10] (σ 80, σ 81 0) ∧ isN uu.2 30) := by
  refine Ct.ofI RX4 rfl (by decide +kernel) (Nat.le_of_ble_eq_true rfl) (fun X hC hR => ?_)
  have hTb := hTn.2
  show V X (wX k g a σ ν) [(0, .ref (a 5)), (1, .int 1), (2, .int 1), (3, .int x), (4, .int (nI q))] [] 0
  refine V.aload_n (pc := 0) 0 hC dX4_call_0 rfl ?_
  refine V.get (pc := 1) (v := .int (ν 82 0)) hC cf_X4 5 2 fl_X4_19 (by decide) gx_5 rfl dX4_call_1 ?_
  refine V.eqi (y := 0) (h82) ?_
  refine V.if_ne (pc := 4) 14 hC dX4_call_4 (by decide) (fun c_4 => ?_) (fun c_4 => ?_)
  · have nc_4 : ¬ (0 = 0) := fun z => c_4 ((neq (nl 0) (nl 0) (by omega) (by omega)).mpr z)
    exact absurd c_4 (by decide)
  · have nc_4 : 0 = 0 := (neq (nl 0) (nl 0) (by omega) (by omega)).mp c_4
    refine V.iload (pc := 7) 4 hC dX4_call_7 rfl ?_
    refine V.bipush (pc := 9) 20 hC dX4_call_9 (by decide) ?_
    refine V.icmp_le (pc := 11) 16 hC dX4_call_11 (by decide) (fun c_11 => ?_) (fun c_11 => ?_)
    · have nc_11 : q ≤ 20 := (nle rfl (nl 20) (by omega) (by omega)).mp c_11
      refine V.iload_n (pc := 16) 1 hC dX4_call_16 rfl ?_
      refine V.iload_n (pc := 17) 2 hC dX4_call_17 rfl ?_
      refine V.callS0 (pc := 18) (as := [.int 1, .int 1]) hC (c_find_1_1  ) ms_X4_find ml_X4_49 (by decide) rfl (Nat.le_of_ble_eq_true rfl) dX4_call_18 ?_
      rintro _ _ rfl
      show V X (wX k g a σ ν) [(0, .ref (a 5)), (1, .int 1), (2, .int 1), (3, .int x), (4, .int (nI q))] [.int 11] 21
      refine V.istore (pc := 21) [(5, .int 11), (0, .ref (a 5)), (1, .int 1), (2, .int 1), (3, .int x), (4, .int (nI q))] hC dX4_call_21 (by decide) rfl ?_
      refine V.aload_n (pc := 23) 1 hC dX4_call_23 rfl ?_
      refine V.get (pc := 24) (v := .int (σ 81 0)) hC cf_X4 5 1 fl_X4_15 (by decide) gx_5 rfl dX4_call_24 ?_
      refine V.bipush (pc := 27) 30 hC dX4_call_27 (by decide) ?_
      refine V.icmp_ge (pc := 29) 53 hC dX4_call_29 (by decide) (fun c_29 => ?_) (fun c_29 => ?_)
      · have nc_29 : 30 ≤ nN (σ 81 0) := (nle (nl 30) hTn.1 (by omega) (by omega)).mp c_29
        refine V.aload_n (pc := 53) 1 hC dX4_call_53 rfl ?_
        refine V.iload (pc := 54) 0 hC dX4_call_54 rfl ?_
        refine V.iload_n (pc := 56) 4 hC dX4_call_56 rfl ?_
        refine V.iload (pc := 57) 5 hC dX4_call_57 rfl ?_
        refine V.iconst (pc := 59) 1 hC dX4_call_59 (by decide) ?_
        refine V.iadd (pc := 60) hC dX4_call_60 ?_
        refine V.sts (st' := [.int (nI (q + 1)), .int x, .int 11, .ref (a 5)]) (stc (ncast (b := q + 1) (nadd rfl (nl 1)) (by omega)) (stk (stk (stk rfl)))) ?_
        refine V.callV0 (pc := 61) (as := [.int 11, .int x, .int (nI (q + 1))]) hC (c_work_1_11 σ ν x (q + 1) h82 h83 hTn (by omega)) mu_X4_work ml_X4_53 (by decide) ⟨5, 4, TX4, 6, _, rfl, gx_5⟩ rfl (Nat.le_of_ble_eq_true rfl) dX4_call_61 ?_
        rintro _ ⟨f61_0, i61_1⟩ ⟨rfl, hu61_0, hu61_1⟩
        have hu61_0 : (f61_0, i61_1) = bgs [20, 10] (σ 80, σ 81 0) := hu61_0
        have hu61_1 : isN i61_1 30 := hu61_1
        show V X (wX k g a (va_up (va_up σ 80 f61_0) 81 (fun _ => i61_1)) ν) [(5, .int 11), (0, .ref (a 5)), (1, .int 1), (2, .int 1), (3, .int x), (4, .int (nI q))] [.int (((x + ν 85 0) - 4) * 2)] 64
        exact hR (((x + ν 85 0) - 4) * 2) (f61_0, i61_1) _ _ dX4_call_64 rfl ⟨rfl, by rw [hu61_0]; exact congrArg (bgs [20, 10]) (show (σ 80, σ 81 0) = bgS 11 (σ 80, σ 81 0) from (if_neg (i_ge c_29)).symm), hu61_1⟩
      · have nc_29 : ¬ (30 ≤ nN (σ 81 0)) := fun z => c_29 ((nle (nl 30) hTn.1 (by omega) (by omega)).mpr z)
        refine V.aload_n (pc := 32) 1 hC dX4_call_32 rfl ?_
        refine V.get (pc := 33) (v := .ref (a 80)) hC cf_X4 5 0 fl_X4_9 (by decide) gx_5 rfl dX4_call_33 ?_
        refine V.aload_n (pc := 36) 1 hC dX4_call_36 rfl ?_
        refine V.get (pc := 37) (v := .int (σ 81 0)) hC cf_X4 5 1 fl_X4_15 (by decide) gx_5 rfl dX4_call_37 ?_
        refine V.iload (pc := 40) 0 hC dX4_call_40 rfl ?_
        refine V.iast (pc := 42) (f := σ 80) hC 46 (nN (σ 81 0)) (wX k g a (va_up σ 80 (upd (σ 80) (nN (σ 81 0)) 11)) ν) gx_46 hTn.1 (by omega) (by decide) rfl dX4_call_42 ?_
        refine V.aload_n (pc := 43) 1 hC dX4_call_43 rfl ?_
        refine V.dup (pc := 44) hC dX4_call_44 rfl ?_
        refine V.get (pc := 45) (v := .int (σ 81 0)) hC cf_X4 5 1 fl_X4_15 (by decide) gx_5 rfl dX4_call_45 ?_
        refine V.iconst (pc := 48) 1 hC dX4_call_48 (by decide) ?_
        refine V.iadd (pc := 49) hC dX4_call_49 ?_
        refine V.put (pc := 50) (v := .int ((σ 81 0) + 1)) hC cf_X4 5 1 (wX k g a (va_up (va_up σ 80 (upd (σ 80) (nN (σ 81 0)) 11)) 81 (fun _ => (σ 81 0) + 1)) ν) fl_X4_15 (by decide) gx_5 rfl rfl rfl (Nat.le_of_ble_eq_true rfl) rfl dX4_call_50 ?_
        refine V.aload_n (pc := 53) 1 hC dX4_call_53 rfl ?_
        refine V.iload (pc := 54) 0 hC dX4_call_54 rfl ?_
        refine V.iload_n (pc := 56) 4 hC dX4_call_56 rfl ?_
        refine V.iload (pc := 57) 5 hC dX4_call_57 rfl ?_
        refine V.iconst (pc := 59) 1 hC dX4_call_59 (by decide) ?_
        refine V.iadd (pc := 60) hC dX4_call_60 ?_
        refine V.sts (st' := [.int (nI (q + 1)), .int x, .int 11, .ref (a 5)]) (stc (ncast (b := q + 1) (nadd rfl (nl 1)) (by omega)) (stk (stk (stk rfl)))) ?_
        refine V.callV0 (pc := 61) (as := [.int 11, .int x, .int (nI (q + 1))]) hC (c_work_1_11 (va_up (va_up σ 80 (upd (σ 80) (nN (σ 81 0)) 11)) 81 (fun _ => (σ 81 0) + 1)) ν x (q + 1) h82 h83 (isN.mk (nadd hTn.1 (nl 1)) (by omega) (by omega)) (by omega)) mu_X4_work ml_X4_53 (by decide) ⟨5, 4, TX4, 6, _, rfl, gx_5⟩ rfl (Nat.le_of_ble_eq_true rfl) dX4_call_61 ?_
        rintro _ ⟨f61_0, i61_1⟩ ⟨rfl, hu61_0, hu61_1⟩
        have hu61_0 : (f61_0, i61_1) = bgs [20, 10] ((upd (σ 80) (nN (σ 81 0)) 11), ((σ 81 0) + 1)) := hu61_0
        have hu61_1 : isN i61_1 30 := hu61_1
        show V X (wX k g a (va_up (va_up σ 80 f61_0) 81 (fun _ => i61_1)) ν) [(5, .int 11), (0, .ref (a 5)), (1, .int 1), (2, .int 1), (3, .int x), (4, .int (nI q))] [.int (((x + ν 85 0) - 4) * 2)] 64
        exact hR (((x + ν 85 0) - 4) * 2) (f61_0, i61_1) _ _ dX4_call_64 rfl ⟨rfl, by rw [hu61_0]; exact congrArg (bgs [20, 10]) (show (upd (σ 80) (nN (σ 81 0)) 11, σ 81 0 + 1) = bgS 11 (σ 80, σ 81 0) from (if_pos (i_nle c_29)).symm), hu61_1⟩
    · have nc_11 : ¬ (q ≤ 20) := fun z => c_11 ((nle rfl (nl 20) (by omega) (by omega)).mpr z)
      exfalso; omega
set_option maxHeartbeats 4000000 in
set_option maxRecDepth 100000 in
theorem c_work_1_12 {l : Launch} {D : va_G} {k : Nat → ClassId} {g a : Nat → Nat} (σ ν : St) (x : Int32) (q : Nat) (h82 : ν 82 0 = 0) (h83 : ν 83 0 = 1) (hTn : isN (σ 81 0) 30) (hq : q + 3 ≤ 20) : Ct l D k g yX4_work cX4_work 5 (some .int) 6 147 [.ref (a 5), .int 12, .int x, .int (nI q)] (S := Rw × Int32) (wX k g a σ ν) (fun uu => wX k g a (va_up (va_up σ 80 uu.1) 81 (fun _ => uu.2)) ν) (fun vv uu => vv = some (.int ((((x + ν 85 0) - 4) * 2) - ν 84 0)) ∧ (uu.1, uu.2) = bgs [11, 20, 10] (σ 80, σ 81 0) ∧ isN uu.2 30) := by
  refine Ct.ofI RX4 rfl (by decide +kernel) (Nat.le_of_ble_eq_true rfl) (fun X hC hR => ?_)
  show V X (wX k g a σ ν) [(0, .ref (a 5)), (1, .int 12), (2, .int x), (3, .int (nI q))] [] 0
  refine V.getAboveN (pc := 0) hC dX4_work_0 rfl ?_
  refine V.iload_n (pc := 3) 1 hC dX4_work_3 rfl ?_
  refine V.bipush (pc := 4) 10 hC dX4_work_4 (by decide) ?_
  refine V.idiv (pc := 6) hC dX4_work_6 (by decide) ?_
  refine V.eqi (y := 1) (by decide) ?_
  refine V.iconst (pc := 7) 1 hC dX4_work_7 (by decide) ?_
  refine V.isub (pc := 8) hC dX4_work_8 ?_
  refine V.eqi (y := 0) (by decide) ?_
  refine V.ldAbove (pc := 9) hC 0 (-1) (nl 0) (by decide) rfl dX4_work_9 ?_
  refine V.istore (pc := 10) [(4, .int (-1)), (0, .ref (a 5)), (1, .int 12), (2, .int x), (3, .int (nI q))] hC dX4_work_10 (by decide) rfl ?_
  refine V.iload_n (pc := 12) 2 hC dX4_work_12 rfl ?_
  refine V.lookup (pc := 13) 149 hC dX4_work_13 (by decide) rfl (by decide) ?_
  refine V.aload_n (pc := 149) 1 hC dX4_work_149 rfl ?_
  refine V.iconst (pc := 150) 1 hC dX4_work_150 (by decide) ?_
  refine V.aload_n (pc := 151) 1 hC dX4_work_151 rfl ?_
  refine V.get (pc := 152) (v := .int (ν 83 0)) hC cf_X4 5 3 fl_X4_28 (by decide) gx_5 rfl dX4_work_152 ?_
  refine V.eqi (y := 1) (h83) ?_
  refine V.iload_n (pc := 155) 3 hC dX4_work_155 rfl ?_
  refine V.iload_n (pc := 156) 4 hC dX4_work_156 rfl ?_
  refine V.callV0 (pc := 157) (as := [.int 1, .int 1, .int x, .int (nI q)]) hC (c_call_1_1_1 σ ν x q h82 h83 hTn (by omega)) mu_X4_call ml_X4_39 (by decide) ⟨5, 4, TX4, 6, _, rfl, gx_5⟩ rfl (Nat.le_of_ble_eq_true rfl) dX4_work_157 ?_
  rintro _ ⟨f157_0, i157_1⟩ ⟨rfl, hu157_0, hu157_1⟩
  have hu157_0 : (f157_0, i157_1) = bgs [11, 20, 10] (σ 80, σ 81 0) := hu157_0
  have hu157_1 : isN i157_1 30 := hu157_1
  show V X (wX k g a (va_up (va_up σ 80 f157_0) 81 (fun _ => i157_1)) ν) [(4, .int (-1)), (0, .ref (a 5)), (1, .int 12), (2, .int x), (3, .int (nI q))] [.int (((x + ν 85 0) - 4) * 2)] 160
  refine V.aload_n (pc := 160) 1 hC dX4_work_160 rfl ?_
  refine V.get (pc := 161) (v := .int (ν 84 0)) hC cf_X4 5 4 fl_X4_33 (by decide) gx_5 rfl dX4_work_161 ?_
  refine V.isub (pc := 164) hC dX4_work_164 ?_
  exact hR ((((x + ν 85 0) - 4) * 2) - (ν 84 0)) (f157_0, i157_1) _ _ dX4_work_165 rfl ⟨rfl, hu157_0, hu157_1⟩
set_option maxHeartbeats 4000000 in
set_option maxRecDepth 100000 in
theorem c_call_1_2_1 {l : Launch} {D : va_G} {k : Nat → ClassId} {g a : Nat → Nat} (σ ν : St) (x : Int32) (q : Nat) (h82 : ν 82 0 = 0) (h83 : ν 83 0 = 1) (hTn : isN (σ 81 0) 30) (hq : q + 4 ≤ 20) : Ct l D k g yX4_call cX4_call 6 (some .int) 7 171 [.ref (a 5), .int 2, .int 1, .int x, .int (nI q)] (S := Rw × Int32) (wX k g a σ ν) (fun uu => wX k g a (va_up (va_up σ 80 uu.1) 81 (fun _ => uu.2)) ν) (fun vv uu => vv = some (.int ((((x + ν 85 0) - 4) * 2) - ν 84 0)) ∧ (uu.1, uu.2) = bgs [12, 11, 20, 10] (σ 80, σ 81 0) ∧ isN uu.2 30) := by
  refine Ct.ofI RX4 rfl (by decide +kernel) (Nat.le_of_ble_eq_true rfl) (fun X hC hR => ?_)
  have hTb := hTn.2
  show V X (wX k g a σ ν) [(0, .ref (a 5)), (1, .int 2), (2, .int 1), (3, .int x), (4, .int (nI q))] [] 0
  refine V.aload_n (pc := 0) 0 hC dX4_call_0 rfl ?_
  refine V.get (pc := 1) (v := .int (ν 82 0)) hC cf_X4 5 2 fl_X4_19 (by decide) gx_5 rfl dX4_call_1 ?_
  refine V.eqi (y := 0) (h82) ?_
  refine V.if_ne (pc := 4) 14 hC dX4_call_4 (by decide) (fun c_4 => ?_) (fun c_4 => ?_)
  · have nc_4 : ¬ (0 = 0) := fun z => c_4 ((neq (nl 0) (nl 0) (by omega) (by omega)).mpr z)
    exact absurd c_4 (by decide)
  · have nc_4 : 0 = 0 := (neq (nl 0) (nl 0) (by omega) (by omega)).mp c_4
    refine V.iload (pc := 7) 4 hC dX4_call_7 rfl ?_
    refine V.bipush (pc := 9) 20 hC dX4_call_9 (by decide) ?_
    refine V.icmp_le (pc := 11) 16 hC dX4_call_11 (by decide) (fun c_11 => ?_) (fun c_11 => ?_)
    · have nc_11 : q ≤ 20 := (nle rfl (nl 20) (by omega) (by omega)).mp c_11
      refine V.iload_n (pc := 16) 1 hC dX4_call_16 rfl ?_
      refine V.iload_n (pc := 17) 2 hC dX4_call_17 rfl ?_
      refine V.callS0 (pc := 18) (as := [.int 2, .int 1]) hC (c_find_2_1  ) ms_X4_find ml_X4_49 (by decide) rfl (Nat.le_of_ble_eq_true rfl) dX4_call_18 ?_
      rintro _ _ rfl
      show V X (wX k g a σ ν) [(0, .ref (a 5)), (1, .int 2), (2, .int 1), (3, .int x), (4, .int (nI q))] [.int 12] 21
      refine V.istore (pc := 21) [(5, .int 12), (0, .ref (a 5)), (1, .int 2), (2, .int 1), (3, .int x), (4, .int (nI q))] hC dX4_call_21 (by decide) rfl ?_
      refine V.aload_n (pc := 23) 1 hC dX4_call_23 rfl ?_
      refine V.get (pc := 24) (v := .int (σ 81 0)) hC cf_X4 5 1 fl_X4_15 (by decide) gx_5 rfl dX4_call_24 ?_
      refine V.bipush (pc := 27) 30 hC dX4_call_27 (by decide) ?_
      refine V.icmp_ge (pc := 29) 53 hC dX4_call_29 (by decide) (fun c_29 => ?_) (fun c_29 => ?_)
      · have nc_29 : 30 ≤ nN (σ 81 0) := (nle (nl 30) hTn.1 (by omega) (by omega)).mp c_29
        refine V.aload_n (pc := 53) 1 hC dX4_call_53 rfl ?_
        refine V.iload (pc := 54) 0 hC dX4_call_54 rfl ?_
        refine V.iload_n (pc := 56) 4 hC dX4_call_56 rfl ?_
        refine V.iload (pc := 57) 5 hC dX4_call_57 rfl ?_
        refine V.iconst (pc := 59) 1 hC dX4_call_59 (by decide) ?_
        refine V.iadd (pc := 60) hC dX4_call_60 ?_
        refine V.sts (st' := [.int (nI (q + 1)), .int x, .int 12, .ref (a 5)]) (stc (ncast (b := q + 1) (nadd rfl (nl 1)) (by omega)) (stk (stk (stk rfl)))) ?_
        refine V.callV0 (pc := 61) (as := [.int 12, .int x, .int (nI (q + 1))]) hC (c_work_1_12 σ ν x (q + 1) h82 h83 hTn (by omega)) mu_X4_work ml_X4_53 (by decide) ⟨5, 4, TX4, 6, _, rfl, gx_5⟩ rfl (Nat.le_of_ble_eq_true rfl) dX4_call_61 ?_
        rintro _ ⟨f61_0, i61_1⟩ ⟨rfl, hu61_0, hu61_1⟩
        have hu61_0 : (f61_0, i61_1) = bgs [11, 20, 10] (σ 80, σ 81 0) := hu61_0
        have hu61_1 : isN i61_1 30 := hu61_1
        show V X (wX k g a (va_up (va_up σ 80 f61_0) 81 (fun _ => i61_1)) ν) [(5, .int 12), (0, .ref (a 5)), (1, .int 2), (2, .int 1), (3, .int x), (4, .int (nI q))] [.int ((((x + ν 85 0) - 4) * 2) - ν 84 0)] 64
        exact hR ((((x + ν 85 0) - 4) * 2) - ν 84 0) (f61_0, i61_1) _ _ dX4_call_64 rfl ⟨rfl, by rw [hu61_0]; exact congrArg (bgs [11, 20, 10]) (show (σ 80, σ 81 0) = bgS 12 (σ 80, σ 81 0) from (if_neg (i_ge c_29)).symm), hu61_1⟩
      · have nc_29 : ¬ (30 ≤ nN (σ 81 0)) := fun z => c_29 ((nle (nl 30) hTn.1 (by omega) (by omega)).mpr z)
        refine V.aload_n (pc := 32) 1 hC dX4_call_32 rfl ?_
        refine V.get (pc := 33) (v := .ref (a 80)) hC cf_X4 5 0 fl_X4_9 (by decide) gx_5 rfl dX4_call_33 ?_
        refine V.aload_n (pc := 36) 1 hC dX4_call_36 rfl ?_
        refine V.get (pc := 37) (v := .int (σ 81 0)) hC cf_X4 5 1 fl_X4_15 (by decide) gx_5 rfl dX4_call_37 ?_
        refine V.iload (pc := 40) 0 hC dX4_call_40 rfl ?_
        refine V.iast (pc := 42) (f := σ 80) hC 46 (nN (σ 81 0)) (wX k g a (va_up σ 80 (upd (σ 80) (nN (σ 81 0)) 12)) ν) gx_46 hTn.1 (by omega) (by decide) rfl dX4_call_42 ?_
        refine V.aload_n (pc := 43) 1 hC dX4_call_43 rfl ?_
        refine V.dup (pc := 44) hC dX4_call_44 rfl ?_
        refine V.get (pc := 45) (v := .int (σ 81 0)) hC cf_X4 5 1 fl_X4_15 (by decide) gx_5 rfl dX4_call_45 ?_
        refine V.iconst (pc := 48) 1 hC dX4_call_48 (by decide) ?_
        refine V.iadd (pc := 49) hC dX4_call_49 ?_
        refine V.put (pc := 50) (v := .int ((σ 81 0) + 1)) hC cf_X4 5 1 (wX k g a (va_up (va_up σ 80 (upd (σ 80) (nN (σ 81 0)) 12)) 81 (fun _ => (σ 81 0) + 1)) ν) fl_X4_15 (by decide) gx_5 rfl rfl rfl (Nat.le_of_ble_eq_true rfl) rfl dX4_call_50 ?_
        refine V.aload_n (pc := 53) 1 hC dX4_call_53 rfl ?_
        refine V.iload (pc := 54) 0 hC dX4_call_54 rfl ?_
        refine V.iload_n (pc := 56) 4 hC dX4_call_56 rfl ?_
        refine V.iload (pc := 57) 5 hC dX4_call_57 rfl ?_
        refine V.iconst (pc := 59) 1 hC dX4_call_59 (by decide) ?_
        refine V.iadd (pc := 60) hC dX4_call_60 ?_
        refine V.sts (st' := [.int (nI (q + 1)), .int x, .int 12, .ref (a 5)]) (stc (ncast (b := q + 1) (nadd rfl (nl 1)) (by omega)) (stk (stk (stk rfl)))) ?_
        refine V.callV0 (pc := 61) (as := [.int 12, .int x, .int (nI (q + 1))]) hC (c_work_1_12 (va_up (va_up σ 80 (upd (σ 80) (nN (σ 81 0)) 12)) 81 (fun _ => (σ 81 0) + 1)) ν x (q + 1) h82 h83 (isN.mk (nadd hTn.1 (nl 1)) (by omega) (by omega)) (by omega)) mu_X4_work ml_X4_53 (by decide) ⟨5, 4, TX4, 6, _, rfl, gx_5⟩ rfl (Nat.le_of_ble_eq_true rfl) dX4_call_61 ?_
        rintro _ ⟨f61_0, i61_1⟩ ⟨rfl, hu61_0, hu61_1⟩
        have hu61_0 : (f61_0, i61_1) = bgs [11, 20, 10] ((upd (σ 80) (nN (σ 81 0)) 12), ((σ 81 0) + 1)) := hu61_0
        have hu61_1 : isN i61_1 30 := hu61_1
        show V X (wX k g a (va_up (va_up σ 80 f61_0) 81 (fun _ => i61_1)) ν) [(5, .int 12), (0, .ref (a 5)), (1, .int 2), (2, .int 1), (3, .int x), (4, .int (nI q))] [.int ((((x + ν 85 0) - 4) * 2) - ν 84 0)] 64
        exact hR ((((x + ν 85 0) - 4) * 2) - ν 84 0) (f61_0, i61_1) _ _ dX4_call_64 rfl ⟨rfl, by rw [hu61_0]; exact congrArg (bgs [11, 20, 10]) (show (upd (σ 80) (nN (σ 81 0)) 12, σ 81 0 + 1) = bgS 12 (σ 80, σ 81 0) from (if_pos (i_nle c_29)).symm), hu61_1⟩
    · have nc_11 : ¬ (q ≤ 20) := fun z => c_11 ((nle rfl (nl 20) (by omega) (by omega)).mpr z)
      exfalso; omega
set_option maxHeartbeats 4000000 in
set_option maxRecDepth 100000 in
theorem c_work_1_13 {l : Launch} {D : va_G} {k : Nat → ClassId} {g a : Nat → Nat} (σ ν : St) (x : Int32) (q : Nat) (h82 : ν 82 0 = 0) (h83 : ν 83 0 = 1) (hTn : isN (σ 81 0) 30) (hq : q + 0 ≤ 20) : Ct l D k g yX4_work cX4_work 5 (some .int) 1 21 [.ref (a 5), .int 13, .int x, .int (nI q)] (S := Rw × Int32 × Int32) (wX k g a σ ν) (fun uu => wX k g a (va_up (va_up σ 80 uu.1) 81 (fun _ => uu.2.1)) (va_up ν 82 (fun _ => uu.2.2))) (fun vv uu => vv = some (.int (if ν 84 0 - ν 85 0 = 0 then 0 else x / (ν 84 0 - ν 85 0))) ∧ (uu.1, uu.2.1) = bgs [] (σ 80, σ 81 0) ∧ isN uu.2.1 30 ∧ uu.2.2 = bI (ν 84 0 - ν 85 0 = 0)) := by
  refine Ct.ofI RX4 rfl (by decide +kernel) (Nat.le_of_ble_eq_true rfl) (fun X hC hR => ?_)
  show V X (wX k g a σ ν) [(0, .ref (a 5)), (1, .int 13), (2, .int x), (3, .int (nI q))] [] 0
  refine V.getAboveN (pc := 0) hC dX4_work_0 rfl ?_
  refine V.iload_n (pc := 3) 1 hC dX4_work_3 rfl ?_
  refine V.bipush (pc := 4) 10 hC dX4_work_4 (by decide) ?_
  refine V.idiv (pc := 6) hC dX4_work_6 (by decide) ?_
  refine V.eqi (y := 1) (by decide) ?_
  refine V.iconst (pc := 7) 1 hC dX4_work_7 (by decide) ?_
  refine V.isub (pc := 8) hC dX4_work_8 ?_
  refine V.eqi (y := 0) (by decide) ?_
  refine V.ldAbove (pc := 9) hC 0 (-1) (nl 0) (by decide) rfl dX4_work_9 ?_
  refine V.istore (pc := 10) [(4, .int (-1)), (0, .ref (a 5)), (1, .int 13), (2, .int x), (3, .int (nI q))] hC dX4_work_10 (by decide) rfl ?_
  refine V.iload_n (pc := 12) 2 hC dX4_work_12 rfl ?_
  refine V.lookup (pc := 13) 166 hC dX4_work_13 (by decide) rfl (by decide) ?_
  refine V.aload_n (pc := 166) 1 hC dX4_work_166 rfl ?_
  refine V.iload_n (pc := 167) 3 hC dX4_work_167 rfl ?_
  refine V.callV0 (pc := 168) (as := [.int x]) hC (c_X4_part σ ν x h82) mu_X4_part ml_X4_57 (by decide) ⟨5, 4, TX4, 6, _, rfl, gx_5⟩ rfl (Nat.le_of_ble_eq_true rfl) dX4_work_168 ?_
  rintro _ i168_0 ⟨rfl, hu168_0⟩
  have hu168_0 : i168_0 = bI (ν 84 0 - ν 85 0 = 0) := hu168_0
  show V X (wX k g a σ (va_up ν 82 (fun _ => i168_0))) [(4, .int (-1)), (0, .ref (a 5)), (1, .int 13), (2, .int x), (3, .int (nI q))] [.int (if ν 84 0 - ν 85 0 = 0 then 0 else x / (ν 84 0 - ν 85 0))] 171
  exact hR (if ν 84 0 - ν 85 0 = 0 then 0 else x / (ν 84 0 - ν 85 0)) (σ 80, σ 81 0, i168_0) _ _ dX4_work_171 rfl ⟨rfl, rfl, hTn, hu168_0⟩
set_option maxHeartbeats 4000000 in
set_option maxRecDepth 100000 in
theorem c_call_1_3_0 {l : Launch} {D : va_G} {k : Nat → ClassId} {g a : Nat → Nat} (σ ν : St) (x : Int32) (q : Nat) (h82 : ν 82 0 = 0) (h83 : ν 83 0 = 1) (hTn : isN (σ 81 0) 30) (hq : q + 1 ≤ 20) : Ct l D k g yX4_call cX4_call 6 (some .int) 2 45 [.ref (a 5), .int 3, .int 0, .int x, .int (nI q)] (S := Rw × Int32 × Int32) (wX k g a σ ν) (fun uu => wX k g a (va_up (va_up σ 80 uu.1) 81 (fun _ => uu.2.1)) (va_up ν 82 (fun _ => uu.2.2))) (fun vv uu => vv = some (.int (if ν 84 0 - ν 85 0 = 0 then 0 else x / (ν 84 0 - ν 85 0))) ∧ (uu.1, uu.2.1) = bgs [13] (σ 80, σ 81 0) ∧ isN uu.2.1 30 ∧ uu.2.2 = bI (ν 84 0 - ν 85 0 = 0)) := by
  refine Ct.ofI RX4 rfl (by decide +kernel) (Nat.le_of_ble_eq_true rfl) (fun X hC hR => ?_)
  have hTb := hTn.2
  show V X (wX k g a σ ν) [(0, .ref (a 5)), (1, .int 3), (2, .int 0), (3, .int x), (4, .int (nI q))] [] 0
  refine V.aload_n (pc := 0) 0 hC dX4_call_0 rfl ?_
  refine V.get (pc := 1) (v := .int (ν 82 0)) hC cf_X4 5 2 fl_X4_19 (by decide) gx_5 rfl dX4_call_1 ?_
  refine V.eqi (y := 0) (h82) ?_
  refine V.if_ne (pc := 4) 14 hC dX4_call_4 (by decide) (fun c_4 => ?_) (fun c_4 => ?_)
  · have nc_4 : ¬ (0 = 0) := fun z => c_4 ((neq (nl 0) (nl 0) (by omega) (by omega)).mpr z)
    exact absurd c_4 (by decide)
  · have nc_4 : 0 = 0 := (neq (nl 0) (nl 0) (by omega) (by omega)).mp c_4
    refine V.iload (pc := 7) 4 hC dX4_call_7 rfl ?_
    refine V.bipush (pc := 9) 20 hC dX4_call_9 (by decide) ?_
    refine V.icmp_le (pc := 11) 16 hC dX4_call_11 (by decide) (fun c_11 => ?_) (fun c_11 => ?_)
    · have nc_11 : q ≤ 20 := (nle rfl (nl 20) (by omega) (by omega)).mp c_11
      refine V.iload_n (pc := 16) 1 hC dX4_call_16 rfl ?_
      refine V.iload_n (pc := 17) 2 hC dX4_call_17 rfl ?_
      refine V.callS0 (pc := 18) (as := [.int 3, .int 0]) hC (c_find_3_0  ) ms_X4_find ml_X4_49 (by decide) rfl (Nat.le_of_ble_eq_true rfl) dX4_call_18 ?_
      rintro _ _ rfl
      show V X (wX k g a σ ν) [(0, .ref (a 5)), (1, .int 3), (2, .int 0), (3, .int x), (4, .int (nI q))] [.int 13] 21
      refine V.istore (pc := 21) [(5, .int 13), (0, .ref (a 5)), (1, .int 3), (2, .int 0), (3, .int x), (4, .int (nI q))] hC dX4_call_21 (by decide) rfl ?_
      refine V.aload_n (pc := 23) 1 hC dX4_call_23 rfl ?_
      refine V.get (pc := 24) (v := .int (σ 81 0)) hC cf_X4 5 1 fl_X4_15 (by decide) gx_5 rfl dX4_call_24 ?_
      refine V.bipush (pc := 27) 30 hC dX4_call_27 (by decide) ?_
      refine V.icmp_ge (pc := 29) 53 hC dX4_call_29 (by decide) (fun c_29 => ?_) (fun c_29 => ?_)
      · have nc_29 : 30 ≤ nN (σ 81 0) := (nle (nl 30) hTn.1 (by omega) (by omega)).mp c_29
        refine V.aload_n (pc := 53) 1 hC dX4_call_53 rfl ?_
        refine V.iload (pc := 54) 0 hC dX4_call_54 rfl ?_
        refine V.iload_n (pc := 56) 4 hC dX4_call_56 rfl ?_
        refine V.iload (pc := 57) 5 hC dX4_call_57 rfl ?_
        refine V.iconst (pc := 59) 1 hC dX4_call_59 (by decide) ?_
        refine V.iadd (pc := 60) hC dX4_call_60 ?_
        refine V.sts (st' := [.int (nI (q + 1)), .int x, .int 13, .ref (a 5)]) (stc (ncast (b := q + 1) (nadd rfl (nl 1)) (by omega)) (stk (stk (stk rfl)))) ?_
        refine V.callV0 (pc := 61) (as := [.int 13, .int x, .int (nI (q + 1))]) hC (c_work_1_13 σ ν x (q + 1) h82 h83 hTn (by omega)) mu_X4_work ml_X4_53 (by decide) ⟨5, 4, TX4, 6, _, rfl, gx_5⟩ rfl (Nat.le_of_ble_eq_true rfl) dX4_call_61 ?_
        rintro _ ⟨f61_0, i61_1, i61_2⟩ ⟨rfl, hu61_0, hu61_1, hu61_2⟩
        have hu61_0 : (f61_0, i61_1) = bgs [] (σ 80, σ 81 0) := hu61_0
        have hu61_1 : isN i61_1 30 := hu61_1
        have hu61_2 : i61_2 = bI (ν 84 0 - ν 85 0 = 0) := hu61_2
        show V X (wX k g a (va_up (va_up σ 80 f61_0) 81 (fun _ => i61_1)) (va_up ν 82 (fun _ => i61_2))) [(5, .int 13), (0, .ref (a 5)), (1, .int 3), (2, .int 0), (3, .int x), (4, .int (nI q))] [.int (if ν 84 0 - ν 85 0 = 0 then 0 else x / (ν 84 0 - ν 85 0))] 64
        exact hR (if ν 84 0 - ν 85 0 = 0 then 0 else x / (ν 84 0 - ν 85 0)) (f61_0, i61_1, i61_2) _ _ dX4_call_64 rfl ⟨rfl, by rw [hu61_0]; exact congrArg (bgs []) (show (σ 80, σ 81 0) = bgS 13 (σ 80, σ 81 0) from (if_neg (i_ge c_29)).symm), hu61_1, hu61_2⟩
      · have nc_29 : ¬ (30 ≤ nN (σ 81 0)) := fun z => c_29 ((nle (nl 30) hTn.1 (by omega) (by omega)).mpr z)
        refine V.aload_n (pc := 32) 1 hC dX4_call_32 rfl ?_
        refine V.get (pc := 33) (v := .ref (a 80)) hC cf_X4 5 0 fl_X4_9 (by decide) gx_5 rfl dX4_call_33 ?_
        refine V.aload_n (pc := 36) 1 hC dX4_call_36 rfl ?_
        refine V.get (pc := 37) (v := .int (σ 81 0)) hC cf_X4 5 1 fl_X4_15 (by decide) gx_5 rfl dX4_call_37 ?_
        refine V.iload (pc := 40) 0 hC dX4_call_40 rfl ?_
        refine V.iast (pc := 42) (f := σ 80) hC 46 (nN (σ 81 0)) (wX k g a (va_up σ 80 (upd (σ 80) (nN (σ 81 0)) 13)) ν) gx_46 hTn.1 (by omega) (by decide) rfl dX4_call_42 ?_
        refine V.aload_n (pc := 43) 1 hC dX4_call_43 rfl ?_
        refine V.dup (pc := 44) hC dX4_call_44 rfl ?_
        refine V.get (pc := 45) (v := .int (σ 81 0)) hC cf_X4 5 1 fl_X4_15 (by decide) gx_5 rfl dX4_call_45 ?_
        refine V.iconst (pc := 48) 1 hC dX4_call_48 (by decide) ?_
        refine V.iadd (pc := 49) hC dX4_call_49 ?_
        refine V.put (pc := 50) (v := .int ((σ 81 0) + 1)) hC cf_X4 5 1 (wX k g a (va_up (va_up σ 80 (upd (σ 80) (nN (σ 81 0)) 13)) 81 (fun _ => (σ 81 0) + 1)) ν) fl_X4_15 (by decide) gx_5 rfl rfl rfl (Nat.le_of_ble_eq_true rfl) rfl dX4_call_50 ?_
        refine V.aload_n (pc := 53) 1 hC dX4_call_53 rfl ?_
        refine V.iload (pc := 54) 0 hC dX4_call_54 rfl ?_
        refine V.iload_n (pc := 56) 4 hC dX4_call_56 rfl ?_
        refine V.iload (pc := 57) 5 hC dX4_call_57 rfl ?_
        refine V.iconst (pc := 59) 1 hC dX4_call_59 (by decide) ?_
        refine V.iadd (pc := 60) hC dX4_call_60 ?_
        refine V.sts (st' := [.int (nI (q + 1)), .int x, .int 13, .ref (a 5)]) (stc (ncast (b := q + 1) (nadd rfl (nl 1)) (by omega)) (stk (stk (stk rfl)))) ?_
        refine V.callV0 (pc := 61) (as := [.int 13, .int x, .int (nI (q + 1))]) hC (c_work_1_13 (va_up (va_up σ 80 (upd (σ 80) (nN (σ 81 0)) 13)) 81 (fun _ => (σ 81 0) + 1)) ν x (q + 1) h82 h83 (isN.mk (nadd hTn.1 (nl 1)) (by omega) (by omega)) (by omega)) mu_X4_work ml_X4_53 (by decide) ⟨5, 4, TX4, 6, _, rfl, gx_5⟩ rfl (Nat.le_of_ble_eq_true rfl) dX4_call_61 ?_
        rintro _ ⟨f61_0, i61_1, i61_2⟩ ⟨rfl, hu61_0, hu61_1, hu61_2⟩
        have hu61_0 : (f61_0, i61_1) = bgs [] ((upd (σ 80) (nN (σ 81 0)) 13), ((σ 81 0) + 1)) := hu61_0
        have hu61_1 : isN i61_1 30 := hu61_1
        have hu61_2 : i61_2 = bI (ν 84 0 - ν 85 0 = 0) := hu61_2
        show V X (wX k g a (va_up (va_up σ 80 f61_0) 81 (fun _ => i61_1)) (va_up ν 82 (fun _ => i61_2))) [(5, .int 13), (0, .ref (a 5)), (1, .int 3), (2, .int 0), (3, .int x), (4, .int (nI q))] [.int (if ν 84 0 - ν 85 0 = 0 then 0 else x / (ν 84 0 - ν 85 0))] 64
        exact hR (if ν 84 0 - ν 85 0 = 0 then 0 else x / (ν 84 0 - ν 85 0)) (f61_0, i61_1, i61_2) _ _ dX4_call_64 rfl ⟨rfl, by rw [hu61_0]; exact congrArg (bgs []) (show (upd (σ 80) (nN (σ 81 0)) 13, σ 81 0 + 1) = bgS 13 (σ 80, σ 81 0) from (if_pos (i_nle c_29)).symm), hu61_1, hu61_2⟩
    · have nc_11 : ¬ (q ≤ 20) := fun z => c_11 ((nle rfl (nl 20) (by omega) (by omega)).mpr z)
      exfalso; omega
set_option maxHeartbeats 4000000 in
set_option maxRecDepth 100000 in
theorem c_work_1_21 {l : Launch} {D : va_G} {k : Nat → ClassId} {g a : Nat → Nat} (σ ν : St) (x : Int32) (q : Nat) (h82 : ν 82 0 = 0) (h83 : ν 83 0 = 1) (hTn : isN (σ 81 0) 30) (hq : q + 3 ≤ 20) : Ct l D k g yX4_work cX4_work 5 (some .int) 6 147 [.ref (a 5), .int 21, .int x, .int (nI q)] (S := Rw × Int32 × Int32) (wX k g a σ ν) (fun uu => wX k g a (va_up (va_up σ 80 uu.1) 81 (fun _ => uu.2.1)) (va_up ν 82 (fun _ => uu.2.2))) (fun vv uu => vv = some (.int (if ν 84 0 - ν 85 0 = 0 then 0 else x / (ν 84 0 - ν 85 0) + (((1 + ν 85 0) - 4) * 2))) ∧ (uu.1, uu.2.1) = bgs (if ν 84 0 - ν 85 0 = 0 then [13] else [13, 11, 20, 10]) (σ 80, σ 81 0) ∧ isN uu.2.1 30 ∧ uu.2.2 = bI (ν 84 0 - ν 85 0 = 0)) := by
  refine Ct.ofI RX4 rfl (by decide +kernel) (Nat.le_of_ble_eq_true rfl) (fun X hC hR => ?_)
  show V X (wX k g a σ ν) [(0, .ref (a 5)), (1, .int 21), (2, .int x), (3, .int (nI q))] [] 0
  refine V.getAboveN (pc := 0) hC dX4_work_0 rfl ?_
  refine V.iload_n (pc := 3) 1 hC dX4_work_3 rfl ?_
  refine V.bipush (pc := 4) 10 hC dX4_work_4 (by decide) ?_
  refine V.idiv (pc := 6) hC dX4_work_6 (by decide) ?_
  refine V.eqi (y := 2) (by decide) ?_
  refine V.iconst (pc := 7) 1 hC dX4_work_7 (by decide) ?_
  refine V.isub (pc := 8) hC dX4_work_8 ?_
  refine V.eqi (y := 1) (by decide) ?_
  refine V.ldAbove (pc := 9) hC 1 0 (nl 1) (by decide) rfl dX4_work_9 ?_
  refine V.istore (pc := 10) [(4, .int 0), (0, .ref (a 5)), (1, .int 21), (2, .int x), (3, .int (nI q))] hC dX4_work_10 (by decide) rfl ?_
  refine V.iload_n (pc := 12) 2 hC dX4_work_12 rfl ?_
  refine V.lookup (pc := 13) 184 hC dX4_work_13 (by decide) rfl (by decide) ?_
  refine V.aload_n (pc := 184) 1 hC dX4_work_184 rfl ?_
  refine V.iconst (pc := 185) 3 hC dX4_work_185 (by decide) ?_
  refine V.iload (pc := 186) 0 hC dX4_work_186 rfl ?_
  refine V.iload_n (pc := 188) 3 hC dX4_work_188 rfl ?_
  refine V.iload_n (pc := 189) 4 hC dX4_work_189 rfl ?_
  refine V.callV0 (pc := 190) (as := [.int 3, .int 0, .int x, .int (nI q)]) hC (c_call_1_3_0 σ ν x q h82 h83 hTn (by omega)) mu_X4_call ml_X4_39 (by decide) ⟨5, 4, TX4, 6, _, rfl, gx_5⟩ rfl (Nat.le_of_ble_eq_true rfl) dX4_work_190 ?_
  rintro _ ⟨f190_0, i190_1, i190_2⟩ ⟨rfl, hu190_0, hu190_1, hu190_2⟩
  replace hu190_0 : (f190_0, i190_1) = bgs [13] (σ 80, σ 81 0) := hu190_0
  replace hu190_1 : isN i190_1 30 := hu190_1
  replace hu190_2 : i190_2 = bI (ν 84 0 - ν 85 0 = 0) := hu190_2
  show V X (wX k g a (va_up (va_up σ 80 f190_0) 81 (fun _ => i190_1)) (va_up ν 82 (fun _ => i190_2))) [(4, .int 0), (0, .ref (a 5)), (1, .int 21), (2, .int x), (3, .int (nI q))] [.int (if ν 84 0 - ν 85 0 = 0 then 0 else x / (ν 84 0 - ν 85 0))] 193
  by_cases sP : ν 84 0 - ν 85 0 = 0
  · obtain rfl : i190_2 = 1 := hu190_2.trans (bI_t sP)
    refine V.eqi (y := 0) (if_pos sP) ?_
    refine V.aload_n (pc := 193) 1 hC dX4_work_193 rfl ?_
    refine V.iconst (pc := 194) 1 hC dX4_work_194 (by decide) ?_
    refine V.aload_n (pc := 195) 1 hC dX4_work_195 rfl ?_
    refine V.get (pc := 196) (v := .int (ν 83 0)) hC cf_X4 5 3 fl_X4_28 (by decide) gx_5 rfl dX4_work_196 ?_
    refine V.eqi (y := 1) (h83) ?_
    refine V.iconst (pc := 199) 1 hC dX4_work_199 (by decide) ?_
    refine V.iload_n (pc := 200) 4 hC dX4_work_200 rfl ?_
    refine V.callV0 (pc := 201) (as := [.int 1, .int 1, .int 1, .int (nI q)]) hC (c_call_p (va_up (va_up σ 80 f190_0) 81 (fun _ => i190_1)) (va_up ν 82 (fun _ => 1)) 1 1 1 (nI q) rfl) mu_X4_call ml_X4_39 (by decide) ⟨5, 4, TX4, 6, _, rfl, gx_5⟩ rfl (Nat.le_of_ble_eq_true rfl) dX4_work_201 ?_
    rintro _ _ rfl
    show V X (wX k g a (va_up (va_up σ 80 f190_0) 81 (fun _ => i190_1)) (va_up ν 82 (fun _ => 1))) [(4, .int 0), (0, .ref (a 5)), (1, .int 21), (2, .int x), (3, .int (nI q))] [.int 0, .int 0] 204
    refine V.iadd (pc := 204) hC dX4_work_204 ?_
    refine V.eqi (y := 0) (by decide) ?_
    exact hR 0 (f190_0, i190_1, 1) _ _ dX4_work_205 rfl ⟨by rw [if_pos sP] <;> rfl, by rw [hu190_0, if_pos sP], hu190_1, (bI_t sP).symm⟩
  · obtain rfl : i190_2 = 0 := hu190_2.trans (bI_f sP)
    refine V.eqi (y := x / (ν 84 0 - ν 85 0)) (if_neg sP) ?_
    refine V.aload_n (pc := 193) 1 hC dX4_work_193 rfl ?_
    refine V.iconst (pc := 194) 1 hC dX4_work_194 (by decide) ?_
    refine V.aload_n (pc := 195) 1 hC dX4_work_195 rfl ?_
    refine V.get (pc := 196) (v := .int (ν 83 0)) hC cf_X4 5 3 fl_X4_28 (by decide) gx_5 rfl dX4_work_196 ?_
    refine V.eqi (y := 1) (h83) ?_
    refine V.iconst (pc := 199) 1 hC dX4_work_199 (by decide) ?_
    refine V.iload_n (pc := 200) 4 hC dX4_work_200 rfl ?_
    refine V.callV0 (pc := 201) (as := [.int 1, .int 1, .int 1, .int (nI q)]) hC (c_call_1_1_1 (va_up (va_up σ 80 f190_0) 81 (fun _ => i190_1)) (va_up ν 82 (fun _ => 0)) 1 q rfl h83 hu190_1 (by omega)) mu_X4_call ml_X4_39 (by decide) ⟨5, 4, TX4, 6, _, rfl, gx_5⟩ rfl (Nat.le_of_ble_eq_true rfl) dX4_work_201 ?_
    rintro _ ⟨f201_0, i201_1⟩ ⟨rfl, hu201_0, hu201_1⟩
    replace hu201_0 : (f201_0, i201_1) = bgs [11, 20, 10] (f190_0, i190_1) := hu201_0
    replace hu201_1 : isN i201_1 30 := hu201_1
    show V X (wX k g a (va_up (va_up σ 80 f201_0) 81 (fun _ => i201_1)) (va_up ν 82 (fun _ => 0))) [(4, .int 0), (0, .ref (a 5)), (1, .int 21), (2, .int x), (3, .int (nI q))] [.int (((1 + (ν 85 0)) - 4) * 2), .int (x / (ν 84 0 - ν 85 0))] 204
    refine V.iadd (pc := 204) hC dX4_work_204 ?_
    exact hR ((x / (ν 84 0 - ν 85 0)) + (((1 + (ν 85 0)) - 4) * 2)) (f201_0, i201_1, 0) _ _ dX4_work_205 rfl ⟨by rw [if_neg sP], by rw [hu201_0, hu190_0, if_neg sP]; rfl, hu201_1, (bI_f sP).symm⟩
set_option maxHeartbeats 4000000 in
set_option maxRecDepth 100000 in
theorem c_call_1_3_1 {l : Launch} {D : va_G} {k : Nat → ClassId} {g a : Nat → Nat} (σ ν : St) (x : Int32) (q : Nat) (h82 : ν 82 0 = 0) (h83 : ν 83 0 = 1) (hTn : isN (σ 81 0) 30) (hq : q + 4 ≤ 20) : Ct l D k g yX4_call cX4_call 6 (some .int) 7 171 [.ref (a 5), .int 3, .int 1, .int x, .int (nI q)] (S := Rw × Int32 × Int32) (wX k g a σ ν) (fun uu => wX k g a (va_up (va_up σ 80 uu.1) 81 (fun _ => uu.2.1)) (va_up ν 82 (fun _ => uu.2.2))) (fun vv uu => vv = some (.int (if ν 84 0 - ν 85 0 = 0 then 0 else x / (ν 84 0 - ν 85 0) + (((1 + ν 85 0) - 4) * 2))) ∧ (uu.1, uu.2.1) = bgs (if ν 84 0 - ν 85 0 = 0 then [21, 13] else [21, 13, 11, 20, 10]) (σ 80, σ 81 0) ∧ isN uu.2.1 30 ∧ uu.2.2 = bI (ν 84 0 - ν 85 0 = 0)) := by
  refine Ct.ofI RX4 rfl (by decide +kernel) (Nat.le_of_ble_eq_true rfl) (fun X hC hR => ?_)
  have hTb := hTn.2
  show V X (wX k g a σ ν) [(0, .ref (a 5)), (1, .int 3), (2, .int 1), (3, .int x), (4, .int (nI q))] [] 0
  refine V.aload_n (pc := 0) 0 hC dX4_call_0 rfl ?_
  refine V.get (pc := 1) (v := .int (ν 82 0)) hC cf_X4 5 2 fl_X4_19 (by decide) gx_5 rfl dX4_call_1 ?_
  refine V.eqi (y := 0) (h82) ?_
  refine V.if_ne (pc := 4) 14 hC dX4_call_4 (by decide) (fun c_4 => ?_) (fun c_4 => ?_)
  · have nc_4 : ¬ (0 = 0) := fun z => c_4 ((neq (nl 0) (nl 0) (by omega) (by omega)).mpr z)
    exact absurd c_4 (by decide)
  · have nc_4 : 0 = 0 := (neq (nl 0) (nl 0) (by omega) (by omega)).mp c_4
    refine V.iload (pc := 7) 4 hC dX4_call_7 rfl ?_
    refine V.bipush (pc := 9) 20 hC dX4_call_9 (by decide) ?_
    refine V.icmp_le (pc := 11) 16 hC dX4_call_11 (by decide) (fun c_11 => ?_) (fun c_11 => ?_)
    · have nc_11 : q ≤ 20 := (nle rfl (nl 20) (by omega) (by omega)).mp c_11
      refine V.iload_n (pc := 16) 1 hC dX4_call_16 rfl ?_
      refine V.iload_n (pc := 17) 2 hC dX4_call_17 rfl ?_
      refine V.callS0 (pc := 18) (as := [.int 3, .int 1]) hC (c_find_3_1  ) ms_X4_find ml_X4_49 (by decide) rfl (Nat.le_of_ble_eq_true rfl) dX4_call_18 ?_
      rintro _ _ rfl
      show V X (wX k g a σ ν) [(0, .ref (a 5)), (1, .int 3), (2, .int 1), (3, .int x), (4, .int (nI q))] [.int 21] 21
      refine V.istore (pc := 21) [(5, .int 21), (0, .ref (a 5)), (1, .int 3), (2, .int 1), (3, .int x), (4, .int (nI q))] hC dX4_call_21 (by decide) rfl ?_
      refine V.aload_n (pc := 23) 1 hC dX4_call_23 rfl ?_
      refine V.get (pc := 24) (v := .int (σ 81 0)) hC cf_X4 5 1 fl_X4_15 (by decide) gx_5 rfl dX4_call_24 ?_
      refine V.bipush (pc := 27) 30 hC dX4_call_27 (by decide) ?_
      refine V.icmp_ge (pc := 29) 53 hC dX4_call_29 (by decide) (fun c_29 => ?_) (fun c_29 => ?_)
      · have nc_29 : 30 ≤ nN (σ 81 0) := (nle (nl 30) hTn.1 (by omega) (by omega)).mp c_29
        refine V.aload_n (pc := 53) 1 hC dX4_call_53 rfl ?_
        refine V.iload (pc := 54) 0 hC dX4_call_54 rfl ?_
        refine V.iload_n (pc := 56) 4 hC dX4_call_56 rfl ?_
        refine V.iload (pc := 57) 5 hC dX4_call_57 rfl ?_
        refine V.iconst (pc := 59) 1 hC dX4_call_59 (by decide) ?_
        refine V.iadd (pc := 60) hC dX4_call_60 ?_
        refine V.sts (st' := [.int (nI (q + 1)), .int x, .int 21, .ref (a 5)]) (stc (ncast (b := q + 1) (nadd rfl (nl 1)) (by omega)) (stk (stk (stk rfl)))) ?_
        refine V.callV0 (pc := 61) (as := [.int 21, .int x, .int (nI (q + 1))]) hC (c_work_1_21 σ ν x (q + 1) h82 h83 hTn (by omega)) mu_X4_work ml_X4_53 (by decide) ⟨5, 4, TX4, 6, _, rfl, gx_5⟩ rfl (Nat.le_of_ble_eq_true rfl) dX4_call_61 ?_
        rintro _ ⟨f61_0, i61_1, i61_2⟩ ⟨rfl, hu61_0, hu61_1, hu61_2⟩
        have hu61_0 : (f61_0, i61_1) = bgs (if ν 84 0 - ν 85 0 = 0 then [13] else [13, 11, 20, 10]) (σ 80, σ 81 0) := hu61_0
        have hu61_1 : isN i61_1 30 := hu61_1
        have hu61_2 : i61_2 = bI (ν 84 0 - ν 85 0 = 0) := hu61_2
        show V X (wX k g a (va_up (va_up σ 80 f61_0) 81 (fun _ => i61_1)) (va_up ν 82 (fun _ => i61_2))) [(5, .int 21), (0, .ref (a 5)), (1, .int 3), (2, .int 1), (3, .int x), (4, .int (nI q))] [.int (if ν 84 0 - ν 85 0 = 0 then 0 else x / (ν 84 0 - ν 85 0) + (((1 + ν 85 0) - 4) * 2))] 64
        exact hR (if ν 84 0 - ν 85 0 = 0 then 0 else x / (ν 84 0 - ν 85 0) + (((1 + ν 85 0) - 4) * 2)) (f61_0, i61_1, i61_2) _ _ dX4_call_64 rfl ⟨rfl, by rw [hu61_0]; exact (Decidable.em (ν 84 0 - ν 85 0 = 0)).elim (fun z => by rw [if_pos z, if_pos z]; exact congrArg (bgs [13]) (show (σ 80, σ 81 0) = bgS 21 (σ 80, σ 81 0) from (if_neg (i_ge c_29)).symm)) (fun z => by rw [if_neg z, if_neg z]; exact congrArg (bgs [13, 11, 20, 10]) (show (σ 80, σ 81 0) = bgS 21 (σ 80, σ 81 0) from (if_neg (i_ge c_29)).symm)), hu61_1, hu61_2⟩
      · have nc_29 : ¬ (30 ≤ nN (σ 81 0)) := fun z => c_29 ((nle (nl 30) hTn.1 (by omega) (by omega)).mpr z)
        refine V.aload_n (pc := 32) 1 hC dX4_call_32 rfl ?_
        refine V.get (pc := 33) (v := .ref (a 80)) hC cf_X4 5 0 fl_X4_9 (by decide) gx_5 rfl dX4_call_33 ?_
        refine V.aload_n (pc := 36) 1 hC dX4_call_36 rfl ?_
        refine V.get (pc := 37) (v := .int (σ 81 0)) hC cf_X4 5 1 fl_X4_15 (by decide) gx_5 rfl dX4_call_37 ?_
        refine V.iload (pc := 40) 0 hC dX4_call_40 rfl ?_
        refine V.iast (pc := 42) (f := σ 80) hC 46 (nN (σ 81 0)) (wX k g a (va_up σ 80 (upd (σ 80) (nN (σ 81 0)) 21)) ν) gx_46 hTn.1 (by omega) (by decide) rfl dX4_call_42 ?_
        refine V.aload_n (pc := 43) 1 hC dX4_call_43 rfl ?_
        refine V.dup (pc := 44) hC dX4_call_44 rfl ?_
        refine V.get (pc := 45) (v := .int (σ 81 0)) hC cf_X4 5 1 fl_X4_15 (by decide) gx_5 rfl dX4_call_45 ?_
        refine V.iconst (pc := 48) 1 hC dX4_call_48 (by decide) ?_
        refine V.iadd (pc := 49) hC dX4_call_49 ?_
        refine V.put (pc := 50) (v := .int ((σ 81 0) + 1)) hC cf_X4 5 1 (wX k g a (va_up (va_up σ 80 (upd (σ 80) (nN (σ 81 0)) 21)) 81 (fun _ => (σ 81 0) + 1)) ν) fl_X4_15 (by decide) gx_5 rfl rfl rfl (Nat.le_of_ble_eq_true rfl) rfl dX4_call_50 ?_
        refine V.aload_n (pc := 53) 1 hC dX4_call_53 rfl ?_
        refine V.iload (pc := 54) 0 hC dX4_call_54 rfl ?_
        refine V.iload_n (pc := 56) 4 hC dX4_call_56 rfl ?_
        refine V.iload (pc := 57) 5 hC dX4_call_57 rfl ?_
        refine V.iconst (pc := 59) 1 hC dX4_call_59 (by decide) ?_
        refine V.iadd (pc := 60) hC dX4_call_60 ?_
        refine V.sts (st' := [.int (nI (q + 1)), .int x, .int 21, .ref (a 5)]) (stc (ncast (b := q + 1) (nadd rfl (nl 1)) (by omega)) (stk (stk (stk rfl)))) ?_
        refine V.callV0 (pc := 61) (as := [.int 21, .int x, .int (nI (q + 1))]) hC (c_work_1_21 (va_up (va_up σ 80 (upd (σ 80) (nN (σ 81 0)) 21)) 81 (fun _ => (σ 81 0) + 1)) ν x (q + 1) h82 h83 (isN.mk (nadd hTn.1 (nl 1)) (by omega) (by omega)) (by omega)) mu_X4_work ml_X4_53 (by decide) ⟨5, 4, TX4, 6, _, rfl, gx_5⟩ rfl (Nat.le_of_ble_eq_true rfl) dX4_call_61 ?_
        rintro _ ⟨f61_0, i61_1, i61_2⟩ ⟨rfl, hu61_0, hu61_1, hu61_2⟩
        have hu61_0 : (f61_0, i61_1) = bgs (if ν 84 0 - ν 85 0 = 0 then [13] else [13, 11, 20, 10]) ((upd (σ 80) (nN (σ 81 0)) 21), ((σ 81 0) + 1)) := hu61_0
        have hu61_1 : isN i61_1 30 := hu61_1
        have hu61_2 : i61_2 = bI (ν 84 0 - ν 85 0 = 0) := hu61_2
        show V X (wX k g a (va_up (va_up σ 80 f61_0) 81 (fun _ => i61_1)) (va_up ν 82 (fun _ => i61_2))) [(5, .int 21), (0, .ref (a 5)), (1, .int 3), (2, .int 1), (3, .int x), (4, .int (nI q))] [.int (if ν 84 0 - ν 85 0 = 0 then 0 else x / (ν 84 0 - ν 85 0) + (((1 + ν 85 0) - 4) * 2))] 64
        exact hR (if ν 84 0 - ν 85 0 = 0 then 0 else x / (ν 84 0 - ν 85 0) + (((1 + ν 85 0) - 4) * 2)) (f61_0, i61_1, i61_2) _ _ dX4_call_64 rfl ⟨rfl, by rw [hu61_0]; exact (Decidable.em (ν 84 0 - ν 85 0 = 0)).elim (fun z => by rw [if_pos z, if_pos z]; exact congrArg (bgs [13]) (show (upd (σ 80) (nN (σ 81 0)) 21, σ 81 0 + 1) = bgS 21 (σ 80, σ 81 0) from (if_pos (i_nle c_29)).symm)) (fun z => by rw [if_neg z, if_neg z]; exact congrArg (bgs [13, 11, 20, 10]) (show (upd (σ 80) (nN (σ 81 0)) 21, σ 81 0 + 1) = bgS 21 (σ 80, σ 81 0) from (if_pos (i_nle c_29)).symm)), hu61_1, hu61_2⟩
    · have nc_11 : ¬ (q ≤ 20) := fun z => c_11 ((nle rfl (nl 20) (by omega) (by omega)).mpr z)
      exfalso; omega
set_option maxHeartbeats 4000000 in
set_option maxRecDepth 100000 in
theorem c_work_2_10 {l : Launch} {D : va_G} {k : Nat → ClassId} {g a : Nat → Nat} (σ ν : St) (x : Int32) (q : Nat) (h82 : ν 82 0 = 0) (h83 : ν 83 0 = 2) (hTn : isN (σ 81 0) 30) (hq : q + 0 ≤ 20) : Ct l D k g yX4_work cX4_work 5 (some .int) 0 0 [.ref (a 5), .int 10, .int x, .int (nI q)] (S := Rw × Int32) (wX k g a σ ν) (fun uu => wX k g a (va_up (va_up σ 80 uu.1) 81 (fun _ => uu.2)) ν) (fun vv uu => vv = some (.int (x + ν 85 0)) ∧ (uu.1, uu.2) = bgs [] (σ 80, σ 81 0) ∧ isN uu.2 30) := by
  refine Ct.ofI RX4 rfl (by decide +kernel) (Nat.le_of_ble_eq_true rfl) (fun X hC hR => ?_)
  show V X (wX k g a σ ν) [(0, .ref (a 5)), (1, .int 10), (2, .int x), (3, .int (nI q))] [] 0
  refine V.getAboveN (pc := 0) hC dX4_work_0 rfl ?_
  refine V.iload_n (pc := 3) 1 hC dX4_work_3 rfl ?_
  refine V.bipush (pc := 4) 10 hC dX4_work_4 (by decide) ?_
  refine V.idiv (pc := 6) hC dX4_work_6 (by decide) ?_
  refine V.eqi (y := 1) (by decide) ?_
  refine V.iconst (pc := 7) 1 hC dX4_work_7 (by decide) ?_
  refine V.isub (pc := 8) hC dX4_work_8 ?_
  refine V.eqi (y := 0) (by decide) ?_
  refine V.ldAbove (pc := 9) hC 0 (-1) (nl 0) (by decide) rfl dX4_work_9 ?_
  refine V.istore (pc := 10) [(4, .int (-1)), (0, .ref (a 5)), (1, .int 10), (2, .int x), (3, .int (nI q))] hC dX4_work_10 (by decide) rfl ?_
  refine V.iload_n (pc := 12) 2 hC dX4_work_12 rfl ?_
  refine V.lookup (pc := 13) 128 hC dX4_work_13 (by decide) rfl (by decide) ?_
  refine V.iload_n (pc := 128) 3 hC dX4_work_128 rfl ?_
  refine V.aload_n (pc := 129) 1 hC dX4_work_129 rfl ?_
  refine V.get (pc := 130) (v := .int (ν 85 0)) hC cf_X4 5 5 fl_X4_36 (by decide) gx_5 rfl dX4_work_130 ?_
  refine V.iadd (pc := 133) hC dX4_work_133 ?_
  exact hR (x + (ν 85 0)) (σ 80, σ 81 0) _ _ dX4_work_134 rfl ⟨rfl, rfl, hTn⟩
set_option maxHeartbeats 4000000 in
set_option maxRecDepth 100000 in
theorem c_call_2_0_2 {l : Launch} {D : va_G} {k : Nat → ClassId} {g a : Nat → Nat} (σ ν : St) (x : Int32) (q : Nat) (h82 : ν 82 0 = 0) (h83 : ν 83 0 = 2) (hTn : isN (σ 81 0) 30) (hq : q + 1 ≤ 20) : Ct l D k g yX4_call cX4_call 6 (some .int) 1 24 [.ref (a 5), .int 0, .int 2, .int x, .int (nI q)] (S := Rw × Int32) (wX k g a σ ν) (fun uu => wX k g a (va_up (va_up σ 80 uu.1) 81 (fun _ => uu.2)) ν) (fun vv uu => vv = some (.int (x + ν 85 0)) ∧ (uu.1, uu.2) = bgs [10] (σ 80, σ 81 0) ∧ isN uu.2 30) := by
  refine Ct.ofI RX4 rfl (by decide +kernel) (Nat.le_of_ble_eq_true rfl) (fun X hC hR => ?_)
  have hTb := hTn.2
  show V X (wX k g a σ ν) [(0, .ref (a 5)), (1, .int 0), (2, .int 2), (3, .int x), (4, .int (nI q))] [] 0
  refine V.aload_n (pc := 0) 0 hC dX4_call_0 rfl ?_
  refine V.get (pc := 1) (v := .int (ν 82 0)) hC cf_X4 5 2 fl_X4_19 (by decide) gx_5 rfl dX4_call_1 ?_
  refine V.eqi (y := 0) (h82) ?_
  refine V.if_ne (pc := 4) 14 hC dX4_call_4 (by decide) (fun c_4 => ?_) (fun c_4 => ?_)
  · have nc_4 : ¬ (0 = 0) := fun z => c_4 ((neq (nl 0) (nl 0) (by omega) (by omega)).mpr z)
    exact absurd c_4 (by decide)
  · have nc_4 : 0 = 0 := (neq (nl 0) (nl 0) (by omega) (by omega)).mp c_4
    refine V.iload (pc := 7) 4 hC dX4_call_7 rfl ?_
    refine V.bipush (pc := 9) 20 hC dX4_call_9 (by decide) ?_
    refine V.icmp_le (pc := 11) 16 hC dX4_call_11 (by decide) (fun c_11 => ?_) (fun c_11 => ?_)
    · have nc_11 : q ≤ 20 := (nle rfl (nl 20) (by omega) (by omega)).mp c_11
      refine V.iload_n (pc := 16) 1 hC dX4_call_16 rfl ?_
      refine V.iload_n (pc := 17) 2 hC dX4_call_17 rfl ?_
      refine V.callS0 (pc := 18) (as := [.int 0, .int 2]) hC (c_find_0_2  ) ms_X4_find ml_X4_49 (by decide) rfl (Nat.le_of_ble_eq_true rfl) dX4_call_18 ?_
      rintro _ _ rfl
      show V X (wX k g a σ ν) [(0, .ref (a 5)), (1, .int 0), (2, .int 2), (3, .int x), (4, .int (nI q))] [.int 10] 21
      refine V.istore (pc := 21) [(5, .int 10), (0, .ref (a 5)), (1, .int 0), (2, .int 2), (3, .int x), (4, .int (nI q))] hC dX4_call_21 (by decide) rfl ?_
      refine V.aload_n (pc := 23) 1 hC dX4_call_23 rfl ?_
      refine V.get (pc := 24) (v := .int (σ 81 0)) hC cf_X4 5 1 fl_X4_15 (by decide) gx_5 rfl dX4_call_24 ?_
      refine V.bipush (pc := 27) 30 hC dX4_call_27 (by decide) ?_
      refine V.icmp_ge (pc := 29) 53 hC dX4_call_29 (by decide) (fun c_29 => ?_) (fun c_29 => ?_)
      · have nc_29 : 30 ≤ nN (σ 81 0) := (nle (nl 30) hTn.1 (by omega) (by omega)).mp c_29
        refine V.aload_n (pc := 53) 1 hC dX4_call_53 rfl ?_
        refine V.iload (pc := 54) 0 hC dX4_call_54 rfl ?_
        refine V.iload_n (pc := 56) 4 hC dX4_call_56 rfl ?_
        refine V.iload (pc := 57) 5 hC dX4_call_57 rfl ?_
        refine V.iconst (pc := 59) 1 hC dX4_call_59 (by decide) ?_
        refine V.iadd (pc := 60) hC dX4_call_60 ?_
        refine V.sts (st' := [.int (nI (q + 1)), .int x, .int 10, .ref (a 5)]) (stc (ncast (b := q + 1) (nadd rfl (nl 1)) (by omega)) (stk (stk (stk rfl)))) ?_
        refine V.callV0 (pc := 61) (as := [.int 10, .int x, .int (nI (q + 1))]) hC (c_work_2_10 σ ν x (q + 1) h82 h83 hTn (by omega)) mu_X4_work ml_X4_53 (by decide) ⟨5, 4, TX4, 6, _, rfl, gx_5⟩ rfl (Nat.le_of_ble_eq_true rfl) dX4_call_61 ?_
        rintro _ ⟨f61_0, i61_1⟩ ⟨rfl, hu61_0, hu61_1⟩
        have hu61_0 : (f61_0, i61_1) = bgs [] (σ 80, σ 81 0) := hu61_0
        have hu61_1 : isN i61_1 30 := hu61_1
        show V X (wX k g a (va_up (va_up σ 80 f61_0) 81 (fun _ => i61_1)) ν) [(5, .int 10), (0, .ref (a 5)), (1, .int 0), (2, .int 2), (3, .int x), (4, .int (nI q))] [.int (x + ν 85 0)] 64
        exact hR (x + ν 85 0) (f61_0, i61_1) _ _ dX4_call_64 rfl ⟨rfl, by rw [hu61_0]; exact congrArg (bgs []) (show (σ 80, σ 81 0) = bgS 10 (σ 80, σ 81 0) from (if_neg (i_ge c_29)).symm), hu61_1⟩
      · have nc_29 : ¬ (30 ≤ nN (σ 81 0)) := fun z => c_29 ((nle (nl 30) hTn.1 (by omega) (by omega)).mpr z)
        refine V.aload_n (pc := 32) 1 hC dX4_call_32 rfl ?_
        refine V.get (pc := 33) (v := .ref (a 80)) hC cf_X4 5 0 fl_X4_9 (by decide) gx_5 rfl dX4_call_33 ?_
        refine V.aload_n (pc := 36) 1 hC dX4_call_36 rfl ?_
        refine V.get (pc := 37) (v := .int (σ 81 0)) hC cf_X4 5 1 fl_X4_15 (by decide) gx_5 rfl dX4_call_37 ?_
        refine V.iload (pc := 40) 0 hC dX4_call_40 rfl ?_
        refine V.iast (pc := 42) (f := σ 80) hC 46 (nN (σ 81 0)) (wX k g a (va_up σ 80 (upd (σ 80) (nN (σ 81 0)) 10)) ν) gx_46 hTn.1 (by omega) (by decide) rfl dX4_call_42 ?_
        refine V.aload_n (pc := 43) 1 hC dX4_call_43 rfl ?_
        refine V.dup (pc := 44) hC dX4_call_44 rfl ?_
        refine V.get (pc := 45) (v := .int (σ 81 0)) hC cf_X4 5 1 fl_X4_15 (by decide) gx_5 rfl dX4_call_45 ?_
        refine V.iconst (pc := 48) 1 hC dX4_call_48 (by decide) ?_
        refine V.iadd (pc := 49) hC dX4_call_49 ?_
        refine V.put (pc := 50) (v := .int ((σ 81 0) + 1)) hC cf_X4 5 1 (wX k g a (va_up (va_up σ 80 (upd (σ 80) (nN (σ 81 0)) 10)) 81 (fun _ => (σ 81 0) + 1)) ν) fl_X4_15 (by decide) gx_5 rfl rfl rfl (Nat.le_of_ble_eq_true rfl) rfl dX4_call_50 ?_
        refine V.aload_n (pc := 53) 1 hC dX4_call_53 rfl ?_
        refine V.iload (pc := 54) 0 hC dX4_call_54 rfl ?_
        refine V.iload_n (pc := 56) 4 hC dX4_call_56 rfl ?_
        refine V.iload (pc := 57) 5 hC dX4_call_57 rfl ?_
        refine V.iconst (pc := 59) 1 hC dX4_call_59 (by decide) ?_
        refine V.iadd (pc := 60) hC dX4_call_60 ?_
        refine V.sts (st' := [.int (nI (q + 1)), .int x, .int 10, .ref (a 5)]) (stc (ncast (b := q + 1) (nadd rfl (nl 1)) (by omega)) (stk (stk (stk rfl)))) ?_
        refine V.callV0 (pc := 61) (as := [.int 10, .int x, .int (nI (q + 1))]) hC (c_work_2_10 (va_up (va_up σ 80 (upd (σ 80) (nN (σ 81 0)) 10)) 81 (fun _ => (σ 81 0) + 1)) ν x (q + 1) h82 h83 (isN.mk (nadd hTn.1 (nl 1)) (by omega) (by omega)) (by omega)) mu_X4_work ml_X4_53 (by decide) ⟨5, 4, TX4, 6, _, rfl, gx_5⟩ rfl (Nat.le_of_ble_eq_true rfl) dX4_call_61 ?_
        rintro _ ⟨f61_0, i61_1⟩ ⟨rfl, hu61_0, hu61_1⟩
        have hu61_0 : (f61_0, i61_1) = bgs [] ((upd (σ 80) (nN (σ 81 0)) 10), ((σ 81 0) + 1)) := hu61_0
        have hu61_1 : isN i61_1 30 := hu61_1
        show V X (wX k g a (va_up (va_up σ 80 f61_0) 81 (fun _ => i61_1)) ν) [(5, .int 10), (0, .ref (a 5)), (1, .int 0), (2, .int 2), (3, .int x), (4, .int (nI q))] [.int (x + ν 85 0)] 64
        exact hR (x + ν 85 0) (f61_0, i61_1) _ _ dX4_call_64 rfl ⟨rfl, by rw [hu61_0]; exact congrArg (bgs []) (show (upd (σ 80) (nN (σ 81 0)) 10, σ 81 0 + 1) = bgS 10 (σ 80, σ 81 0) from (if_pos (i_nle c_29)).symm), hu61_1⟩
    · have nc_11 : ¬ (q ≤ 20) := fun z => c_11 ((nle rfl (nl 20) (by omega) (by omega)).mpr z)
      exfalso; omega
set_option maxHeartbeats 4000000 in
set_option maxRecDepth 100000 in
theorem c_work_2_11 {l : Launch} {D : va_G} {k : Nat → ClassId} {g a : Nat → Nat} (σ ν : St) (x : Int32) (q : Nat) (h82 : ν 82 0 = 0) (h83 : ν 83 0 = 2) (hTn : isN (σ 81 0) 30) (hq : q + 1 ≤ 20) : Ct l D k g yX4_work cX4_work 5 (some .int) 2 49 [.ref (a 5), .int 11, .int x, .int (nI q)] (S := Rw × Int32) (wX k g a σ ν) (fun uu => wX k g a (va_up (va_up σ 80 uu.1) 81 (fun _ => uu.2)) ν) (fun vv uu => vv = some (.int ((x + ν 85 0) * 2)) ∧ (uu.1, uu.2) = bgs [10] (σ 80, σ 81 0) ∧ isN uu.2 30) := by
  refine Ct.ofI RX4 rfl (by decide +kernel) (Nat.le_of_ble_eq_true rfl) (fun X hC hR => ?_)
  show V X (wX k g a σ ν) [(0, .ref (a 5)), (1, .int 11), (2, .int x), (3, .int (nI q))] [] 0
  refine V.getAboveN (pc := 0) hC dX4_work_0 rfl ?_
  refine V.iload_n (pc := 3) 1 hC dX4_work_3 rfl ?_
  refine V.bipush (pc := 4) 10 hC dX4_work_4 (by decide) ?_
  refine V.idiv (pc := 6) hC dX4_work_6 (by decide) ?_
  refine V.eqi (y := 1) (by decide) ?_
  refine V.iconst (pc := 7) 1 hC dX4_work_7 (by decide) ?_
  refine V.isub (pc := 8) hC dX4_work_8 ?_
  refine V.eqi (y := 0) (by decide) ?_
  refine V.ldAbove (pc := 9) hC 0 (-1) (nl 0) (by decide) rfl dX4_work_9 ?_
  refine V.istore (pc := 10) [(4, .int (-1)), (0, .ref (a 5)), (1, .int 11), (2, .int x), (3, .int (nI q))] hC dX4_work_10 (by decide) rfl ?_
  refine V.iload_n (pc := 12) 2 hC dX4_work_12 rfl ?_
  refine V.lookup (pc := 13) 135 hC dX4_work_13 (by decide) rfl (by decide) ?_
  refine V.aload_n (pc := 135) 1 hC dX4_work_135 rfl ?_
  refine V.iconst (pc := 136) 0 hC dX4_work_136 (by decide) ?_
  refine V.aload_n (pc := 137) 1 hC dX4_work_137 rfl ?_
  refine V.get (pc := 138) (v := .int (ν 83 0)) hC cf_X4 5 3 fl_X4_28 (by decide) gx_5 rfl dX4_work_138 ?_
  refine V.eqi (y := 2) (h83) ?_
  refine V.iload_n (pc := 141) 3 hC dX4_work_141 rfl ?_
  refine V.iload_n (pc := 142) 4 hC dX4_work_142 rfl ?_
  refine V.callV0 (pc := 143) (as := [.int 0, .int 2, .int x, .int (nI q)]) hC (c_call_2_0_2 σ ν x q h82 h83 hTn (by omega)) mu_X4_call ml_X4_39 (by decide) ⟨5, 4, TX4, 6, _, rfl, gx_5⟩ rfl (Nat.le_of_ble_eq_true rfl) dX4_work_143 ?_
  rintro _ ⟨f143_0, i143_1⟩ ⟨rfl, hu143_0, hu143_1⟩
  have hu143_0 : (f143_0, i143_1) = bgs [10] (σ 80, σ 81 0) := hu143_0
  have hu143_1 : isN i143_1 30 := hu143_1
  show V X (wX k g a (va_up (va_up σ 80 f143_0) 81 (fun _ => i143_1)) ν) [(4, .int (-1)), (0, .ref (a 5)), (1, .int 11), (2, .int x), (3, .int (nI q))] [.int (x + ν 85 0)] 146
  refine V.iconst (pc := 146) 2 hC dX4_work_146 (by decide) ?_
  refine V.imul (pc := 147) hC dX4_work_147 ?_
  exact hR ((x + ν 85 0) * 2) (f143_0, i143_1) _ _ dX4_work_148 rfl ⟨rfl, hu143_0, hu143_1⟩
set_option maxHeartbeats 4000000 in
set_option maxRecDepth 100000 in
theorem c_call_2_1_0 {l : Launch} {D : va_G} {k : Nat → ClassId} {g a : Nat → Nat} (σ ν : St) (x : Int32) (q : Nat) (h82 : ν 82 0 = 0) (h83 : ν 83 0 = 2) (hTn : isN (σ 81 0) 30) (hq : q + 2 ≤ 20) : Ct l D k g yX4_call cX4_call 6 (some .int) 3 73 [.ref (a 5), .int 1, .int 0, .int x, .int (nI q)] (S := Rw × Int32) (wX k g a σ ν) (fun uu => wX k g a (va_up (va_up σ 80 uu.1) 81 (fun _ => uu.2)) ν) (fun vv uu => vv = some (.int ((x + ν 85 0) * 2)) ∧ (uu.1, uu.2) = bgs [11, 10] (σ 80, σ 81 0) ∧ isN uu.2 30) := by
  refine Ct.ofI RX4 rfl (by decide +kernel) (Nat.le_of_ble_eq_true rfl) (fun X hC hR => ?_)
  have hTb := hTn.2
  show V X (wX k g a σ ν) [(0, .ref (a 5)), (1, .int 1), (2, .int 0), (3, .int x), (4, .int (nI q))] [] 0
  refine V.aload_n (pc := 0) 0 hC dX4_call_0 rfl ?_
  refine V.get (pc := 1) (v := .int (ν 82 0)) hC cf_X4 5 2 fl_X4_19 (by decide) gx_5 rfl dX4_call_1 ?_
  refine V.eqi (y := 0) (h82) ?_
  refine V.if_ne (pc := 4) 14 hC dX4_call_4 (by decide) (fun c_4 => ?_) (fun c_4 => ?_)
  · have nc_4 : ¬ (0 = 0) := fun z => c_4 ((neq (nl 0) (nl 0) (by omega) (by omega)).mpr z)
    exact absurd c_4 (by decide)
  · have nc_4 : 0 = 0 := (neq (nl 0) (nl 0) (by omega) (by omega)).mp c_4
    refine V.iload (pc := 7) 4 hC dX4_call_7 rfl ?_
    refine V.bipush (pc := 9) 20 hC dX4_call_9 (by decide) ?_
    refine V.icmp_le (pc := 11) 16 hC dX4_call_11 (by decide) (fun c_11 => ?_) (fun c_11 => ?_)
    · have nc_11 : q ≤ 20 := (nle rfl (nl 20) (by omega) (by omega)).mp c_11
      refine V.iload_n (pc := 16) 1 hC dX4_call_16 rfl ?_
      refine V.iload_n (pc := 17) 2 hC dX4_call_17 rfl ?_
      refine V.callS0 (pc := 18) (as := [.int 1, .int 0]) hC (c_find_1_0  ) ms_X4_find ml_X4_49 (by decide) rfl (Nat.le_of_ble_eq_true rfl) dX4_call_18 ?_
      rintro _ _ rfl
      show V X (wX k g a σ ν) [(0, .ref (a 5)), (1, .int 1), (2, .int 0), (3, .int x), (4, .int (nI q))] [.int 11] 21
      refine V.istore (pc := 21) [(5, .int 11), (0, .ref (a 5)), (1, .int 1), (2, .int 0), (3, .int x), (4, .int (nI q))] hC dX4_call_21 (by decide) rfl ?_
      refine V.aload_n (pc := 23) 1 hC dX4_call_23 rfl ?_
      refine V.get (pc := 24) (v := .int (σ 81 0)) hC cf_X4 5 1 fl_X4_15 (by decide) gx_5 rfl dX4_call_24 ?_
      refine V.bipush (pc := 27) 30 hC dX4_call_27 (by decide) ?_
      refine V.icmp_ge (pc := 29) 53 hC dX4_call_29 (by decide) (fun c_29 => ?_) (fun c_29 => ?_)
      · have nc_29 : 30 ≤ nN (σ 81 0) := (nle (nl 30) hTn.1 (by omega) (by omega)).mp c_29
        refine V.aload_n (pc := 53) 1 hC dX4_call_53 rfl ?_
        refine V.iload (pc := 54) 0 hC dX4_call_54 rfl ?_
        refine V.iload_n (pc := 56) 4 hC dX4_call_56 rfl ?_
        refine V.iload (pc := 57) 5 hC dX4_call_57 rfl ?_
        refine V.iconst (pc := 59) 1 hC dX4_call_59 (by decide) ?_
        refine V.iadd (pc := 60) hC dX4_call_60 ?_
        refine V.sts (st' := [.int (nI (q + 1)), .int x, .int 11, .ref (a 5)]) (stc (ncast (b := q + 1) (nadd rfl (nl 1)) (by omega)) (stk (stk (stk rfl)))) ?_
        refine V.callV0 (pc := 61) (as := [.int 11, .int x, .int (nI (q + 1))]) hC (c_work_2_11 σ ν x (q + 1) h82 h83 hTn (by omega)) mu_X4_work ml_X4_53 (by decide) ⟨5, 4, TX4, 6, _, rfl, gx_5⟩ rfl (Nat.le_of_ble_eq_true rfl) dX4_call_61 ?_
        rintro _ ⟨f61_0, i61_1⟩ ⟨rfl, hu61_0, hu61_1⟩
        have hu61_0 : (f61_0, i61_1) = bgs [10] (σ 80, σ 81 0) := hu61_0
        have hu61_1 : isN i61_1 30 := hu61_1
        show V X (wX k g a (va_up (va_up σ 80 f61_0) 81 (fun _ => i61_1)) ν) [(5, .int 11), (0, .ref (a 5)), (1, .int 1), (2, .int 0), (3, .int x), (4, .int (nI q))] [.int ((x + ν 85 0) * 2)] 64
        exact hR ((x + ν 85 0) * 2) (f61_0, i61_1) _ _ dX4_call_64 rfl ⟨rfl, by rw [hu61_0]; exact congrArg (bgs [10]) (show (σ 80, σ 81 0) = bgS 11 (σ 80, σ 81 0) from (if_neg (i_ge c_29)).symm), hu61_1⟩
      · have nc_29 : ¬ (30 ≤ nN (σ 81 0)) := fun z => c_29 ((nle (nl 30) hTn.1 (by omega) (by omega)).mpr z)
        refine V.aload_n (pc := 32) 1 hC dX4_call_32 rfl ?_
        refine V.get (pc := 33) (v := .ref (a 80)) hC cf_X4 5 0 fl_X4_9 (by decide) gx_5 rfl dX4_call_33 ?_
        refine V.aload_n (pc := 36) 1 hC dX4_call_36 rfl ?_
        refine V.get (pc := 37) (v := .int (σ 81 0)) hC cf_X4 5 1 fl_X4_15 (by decide) gx_5 rfl dX4_call_37 ?_
        refine V.iload (pc := 40) 0 hC dX4_call_40 rfl ?_
        refine V.iast (pc := 42) (f := σ 80) hC 46 (nN (σ 81 0)) (wX k g a (va_up σ 80 (upd (σ 80) (nN (σ 81 0)) 11)) ν) gx_46 hTn.1 (by omega) (by decide) rfl dX4_call_42 ?_
        refine V.aload_n (pc := 43) 1 hC dX4_call_43 rfl ?_
        refine V.dup (pc := 44) hC dX4_call_44 rfl ?_
        refine V.get (pc := 45) (v := .int (σ 81 0)) hC cf_X4 5 1 fl_X4_15 (by decide) gx_5 rfl dX4_call_45 ?_
        refine V.iconst (pc := 48) 1 hC dX4_call_48 (by decide) ?_
        refine V.iadd (pc := 49) hC dX4_call_49 ?_
        refine V.put (pc := 50) (v := .int ((σ 81 0) + 1)) hC cf_X4 5 1 (wX k g a (va_up (va_up σ 80 (upd (σ 80) (nN (σ 81 0)) 11)) 81 (fun _ => (σ 81 0) + 1)) ν) fl_X4_15 (by decide) gx_5 rfl rfl rfl (Nat.le_of_ble_eq_true rfl) rfl dX4_call_50 ?_
        refine V.aload_n (pc := 53) 1 hC dX4_call_53 rfl ?_
        refine V.iload (pc := 54) 0 hC dX4_call_54 rfl ?_
        refine V.iload_n (pc := 56) 4 hC dX4_call_56 rfl ?_
        refine V.iload (pc := 57) 5 hC dX4_call_57 rfl ?_
        refine V.iconst (pc := 59) 1 hC dX4_call_59 (by decide) ?_
        refine V.iadd (pc := 60) hC dX4_call_60 ?_
        refine V.sts (st' := [.int (nI (q + 1)), .int x, .int 11, .ref (a 5)]) (stc (ncast (b := q + 1) (nadd rfl (nl 1)) (by omega)) (stk (stk (stk rfl)))) ?_
        refine V.callV0 (pc := 61) (as := [.int 11, .int x, .int (nI (q + 1))]) hC (c_work_2_11 (va_up (va_up σ 80 (upd (σ 80) (nN (σ 81 0)) 11)) 81 (fun _ => (σ 81 0) + 1)) ν x (q + 1) h82 h83 (isN.mk (nadd hTn.1 (nl 1)) (by omega) (by omega)) (by omega)) mu_X4_work ml_X4_53 (by decide) ⟨5, 4, TX4, 6, _, rfl, gx_5⟩ rfl (Nat.le_of_ble_eq_true rfl) dX4_call_61 ?_
        rintro _ ⟨f61_0, i61_1⟩ ⟨rfl, hu61_0, hu61_1⟩
        have hu61_0 : (f61_0, i61_1) = bgs [10] ((upd (σ 80) (nN (σ 81 0)) 11), ((σ 81 0) + 1)) := hu61_0
        have hu61_1 : isN i61_1 30 := hu61_1
        show V X (wX k g a (va_up (va_up σ 80 f61_0) 81 (fun _ => i61_1)) ν) [(5, .int 11), (0, .ref (a 5)), (1, .int 1), (2, .int 0), (3, .int x), (4, .int (nI q))] [.int ((x + ν 85 0) * 2)] 64
        exact hR ((x + ν 85 0) * 2) (f61_0, i61_1) _ _ dX4_call_64 rfl ⟨rfl, by rw [hu61_0]; exact congrArg (bgs [10]) (show (upd (σ 80) (nN (σ 81 0)) 11, σ 81 0 + 1) = bgS 11 (σ 80, σ 81 0) from (if_pos (i_nle c_29)).symm), hu61_1⟩
    · have nc_11 : ¬ (q ≤ 20) := fun z => c_11 ((nle rfl (nl 20) (by omega) (by omega)).mpr z)
      exfalso; omega
set_option maxHeartbeats 4000000 in
set_option maxRecDepth 100000 in
theorem c_work_2_30 {l : Launch} {D : va_G} {k : Nat → ClassId} {g a : Nat → Nat} (σ ν : St) (x : Int32) (q : Nat) (h82 : ν 82 0 = 0) (h83 : ν 83 0 = 2) (hTn : isN (σ 81 0) 30) (hq : q + 2 ≤ 20) : Ct l D k g yX4_work cX4_work 5 (some .int) 4 98 [.ref (a 5), .int 30, .int x, .int (nI q)] (S := Rw × Int32) (wX k g a σ ν) (fun uu => wX k g a (va_up (va_up σ 80 uu.1) 81 (fun _ => uu.2)) ν) (fun vv uu => vv = some (.int (-((x + ν 85 0) * 2))) ∧ (uu.1, uu.2) = bgs [11, 10] (σ 80, σ 81 0) ∧ isN uu.2 30) := by
  refine Ct.ofI RX4 rfl (by decide +kernel) (Nat.le_of_ble_eq_true rfl) (fun X hC hR => ?_)
  show V X (wX k g a σ ν) [(0, .ref (a 5)), (1, .int 30), (2, .int x), (3, .int (nI q))] [] 0
  refine V.getAboveN (pc := 0) hC dX4_work_0 rfl ?_
  refine V.iload_n (pc := 3) 1 hC dX4_work_3 rfl ?_
  refine V.bipush (pc := 4) 10 hC dX4_work_4 (by decide) ?_
  refine V.idiv (pc := 6) hC dX4_work_6 (by decide) ?_
  refine V.eqi (y := 3) (by decide) ?_
  refine V.iconst (pc := 7) 1 hC dX4_work_7 (by decide) ?_
  refine V.isub (pc := 8) hC dX4_work_8 ?_
  refine V.eqi (y := 2) (by decide) ?_
  refine V.ldAbove (pc := 9) hC 2 0 (nl 2) (by decide) rfl dX4_work_9 ?_
  refine V.istore (pc := 10) [(4, .int 0), (0, .ref (a 5)), (1, .int 30), (2, .int x), (3, .int (nI q))] hC dX4_work_10 (by decide) rfl ?_
  refine V.iload_n (pc := 12) 2 hC dX4_work_12 rfl ?_
  refine V.lookup (pc := 13) 206 hC dX4_work_13 (by decide) rfl (by decide) ?_
  refine V.aload_n (pc := 206) 1 hC dX4_work_206 rfl ?_
  refine V.iconst (pc := 207) 1 hC dX4_work_207 (by decide) ?_
  refine V.iload (pc := 208) 0 hC dX4_work_208 rfl ?_
  refine V.iload_n (pc := 210) 3 hC dX4_work_210 rfl ?_
  refine V.iload_n (pc := 211) 4 hC dX4_work_211 rfl ?_
  refine V.callV0 (pc := 212) (as := [.int 1, .int 0, .int x, .int (nI q)]) hC (c_call_2_1_0 σ ν x q h82 h83 hTn (by omega)) mu_X4_call ml_X4_39 (by decide) ⟨5, 4, TX4, 6, _, rfl, gx_5⟩ rfl (Nat.le_of_ble_eq_true rfl) dX4_work_212 ?_
  rintro _ ⟨f212_0, i212_1⟩ ⟨rfl, hu212_0, hu212_1⟩
  have hu212_0 : (f212_0, i212_1) = bgs [11, 10] (σ 80, σ 81 0) := hu212_0
  have hu212_1 : isN i212_1 30 := hu212_1
  show V X (wX k g a (va_up (va_up σ 80 f212_0) 81 (fun _ => i212_1)) ν) [(4, .int 0), (0, .ref (a 5)), (1, .int 30), (2, .int x), (3, .int (nI q))] [.int ((x + ν 85 0) * 2)] 215
  refine V.ineg (pc := 215) hC dX4_work_215 ?_
  exact hR (-((x + ν 85 0) * 2)) (f212_0, i212_1) _ _ dX4_work_216 rfl ⟨rfl, hu212_0, hu212_1⟩
set_option maxHeartbeats 4000000 in
set_option maxRecDepth 100000 in
theorem c_call_2_1_2 {l : Launch} {D : va_G} {k : Nat → ClassId} {g a : Nat → Nat} (σ ν : St) (x : Int32) (q : Nat) (h82 : ν 82 0 = 0) (h83 : ν 83 0 = 2) (hTn : isN (σ 81 0) 30) (hq : q + 3 ≤ 20) : Ct l D k g yX4_call cX4_call 6 (some .int) 5 122 [.ref (a 5), .int 1, .int 2, .int x, .int (nI q)] (S := Rw × Int32) (wX k g a σ ν) (fun uu => wX k g a (va_up (va_up σ 80 uu.1) 81 (fun _ => uu.2)) ν) (fun vv uu => vv = some (.int (-((x + ν 85 0) * 2))) ∧ (uu.1, uu.2) = bgs [30, 11, 10] (σ 80, σ 81 0) ∧ isN uu.2 30) := by
  refine Ct.ofI RX4 rfl (by decide +kernel) (Nat.le_of_ble_eq_true rfl) (fun X hC hR => ?_)
  have hTb := hTn.2
  show V X (wX k g a σ ν) [(0, .ref (a 5)), (1, .int 1), (2, .int 2), (3, .int x), (4, .int (nI q))] [] 0
  refine V.aload_n (pc := 0) 0 hC dX4_call_0 rfl ?_
  refine V.get (pc := 1) (v := .int (ν 82 0)) hC cf_X4 5 2 fl_X4_19 (by decide) gx_5 rfl dX4_call_1 ?_
  refine V.eqi (y := 0) (h82) ?_
  refine V.if_ne (pc := 4) 14 hC dX4_call_4 (by decide) (fun c_4 => ?_) (fun c_4 => ?_)
  · have nc_4 : ¬ (0 = 0) := fun z => c_4 ((neq (nl 0) (nl 0) (by omega) (by omega)).mpr z)
    exact absurd c_4 (by decide)
  · have nc_4 : 0 = 0 := (neq (nl 0) (nl 0) (by omega) (by omega)).mp c_4
    refine V.iload (pc := 7) 4 hC dX4_call_7 rfl ?_
    refine V.bipush (pc := 9) 20 hC dX4_call_9 (by decide) ?_
    refine V.icmp_le (pc := 11) 16 hC dX4_call_11 (by decide) (fun c_11 => ?_) (fun c_11 => ?_)
    · have nc_11 : q ≤ 20 := (nle rfl (nl 20) (by omega) (by omega)).mp c_11
      refine V.iload_n (pc := 16) 1 hC dX4_call_16 rfl ?_
      refine V.iload_n (pc := 17) 2 hC dX4_call_17 rfl ?_
      refine V.callS0 (pc := 18) (as := [.int 1, .int 2]) hC (c_find_1_2  ) ms_X4_find ml_X4_49 (by decide) rfl (Nat.le_of_ble_eq_true rfl) dX4_call_18 ?_
      rintro _ _ rfl
      show V X (wX k g a σ ν) [(0, .ref (a 5)), (1, .int 1), (2, .int 2), (3, .int x), (4, .int (nI q))] [.int 30] 21
      refine V.istore (pc := 21) [(5, .int 30), (0, .ref (a 5)), (1, .int 1), (2, .int 2), (3, .int x), (4, .int (nI q))] hC dX4_call_21 (by decide) rfl ?_
      refine V.aload_n (pc := 23) 1 hC dX4_call_23 rfl ?_
      refine V.get (pc := 24) (v := .int (σ 81 0)) hC cf_X4 5 1 fl_X4_15 (by decide) gx_5 rfl dX4_call_24 ?_
      refine V.bipush (pc := 27) 30 hC dX4_call_27 (by decide) ?_
      refine V.icmp_ge (pc := 29) 53 hC dX4_call_29 (by decide) (fun c_29 => ?_) (fun c_29 => ?_)
      · have nc_29 : 30 ≤ nN (σ 81 0) := (nle (nl 30) hTn.1 (by omega) (by omega)).mp c_29
        refine V.aload_n (pc := 53) 1 hC dX4_call_53 rfl ?_
        refine V.iload (pc := 54) 0 hC dX4_call_54 rfl ?_
        refine V.iload_n (pc := 56) 4 hC dX4_call_56 rfl ?_
        refine V.iload (pc := 57) 5 hC dX4_call_57 rfl ?_
        refine V.iconst (pc := 59) 1 hC dX4_call_59 (by decide) ?_
        refine V.iadd (pc := 60) hC dX4_call_60 ?_
        refine V.sts (st' := [.int (nI (q + 1)), .int x, .int 30, .ref (a 5)]) (stc (ncast (b := q + 1) (nadd rfl (nl 1)) (by omega)) (stk (stk (stk rfl)))) ?_
        refine V.callV0 (pc := 61) (as := [.int 30, .int x, .int (nI (q + 1))]) hC (c_work_2_30 σ ν x (q + 1) h82 h83 hTn (by omega)) mu_X4_work ml_X4_53 (by decide) ⟨5, 4, TX4, 6, _, rfl, gx_5⟩ rfl (Nat.le_of_ble_eq_true rfl) dX4_call_61 ?_
        rintro _ ⟨f61_0, i61_1⟩ ⟨rfl, hu61_0, hu61_1⟩
        have hu61_0 : (f61_0, i61_1) = bgs [11, 10] (σ 80, σ 81 0) := hu61_0
        have hu61_1 : isN i61_1 30 := hu61_1
        show V X (wX k g a (va_up (va_up σ 80 f61_0) 81 (fun _ => i61_1)) ν) [(5, .int 30), (0, .ref (a 5)), (1, .int 1), (2, .int 2), (3, .int x), (4, .int (nI q))] [.int (-((x + ν 85 0) * 2))] 64
        exact hR (-((x + ν 85 0) * 2)) (f61_0, i61_1) _ _ dX4_call_64 rfl ⟨rfl, by rw [hu61_0]; exact congrArg (bgs [11, 10]) (show (σ 80, σ 81 0) = bgS 30 (σ 80, σ 81 0) from (if_neg (i_ge c_29)).symm), hu61_1⟩
      · have nc_29 : ¬ (30 ≤ nN (σ 81 0)) := fun z => c_29 ((nle (nl 30) hTn.1 (by omega) (by omega)).mpr z)
        refine V.aload_n (pc := 32) 1 hC dX4_call_32 rfl ?_
        refine V.get (pc := 33) (v := .ref (a 80)) hC cf_X4 5 0 fl_X4_9 (by decide) gx_5 rfl dX4_call_33 ?_
        refine V.aload_n (pc := 36) 1 hC dX4_call_36 rfl ?_
        refine V.get (pc := 37) (v := .int (σ 81 0)) hC cf_X4 5 1 fl_X4_15 (by decide) gx_5 rfl dX4_call_37 ?_
        refine V.iload (pc := 40) 0 hC dX4_call_40 rfl ?_
        refine V.iast (pc := 42) (f := σ 80) hC 46 (nN (σ 81 0)) (wX k g a (va_up σ 80 (upd (σ 80) (nN (σ 81 0)) 30)) ν) gx_46 hTn.1 (by omega) (by decide) rfl dX4_call_42 ?_
        refine V.aload_n (pc := 43) 1 hC dX4_call_43 rfl ?_
        refine V.dup (pc := 44) hC dX4_call_44 rfl ?_
        refine V.get (pc := 45) (v := .int (σ 81 0)) hC cf_X4 5 1 fl_X4_15 (by decide) gx_5 rfl dX4_call_45 ?_
        refine V.iconst (pc := 48) 1 hC dX4_call_48 (by decide) ?_
        refine V.iadd (pc := 49) hC dX4_call_49 ?_
        refine V.put (pc := 50) (v := .int ((σ 81 0) + 1)) hC cf_X4 5 1 (wX k g a (va_up (va_up σ 80 (upd (σ 80) (nN (σ 81 0)) 30)) 81 (fun _ => (σ 81 0) + 1)) ν) fl_X4_15 (by decide) gx_5 rfl rfl rfl (Nat.le_of_ble_eq_true rfl) rfl dX4_call_50 ?_
        refine V.aload_n (pc := 53) 1 hC dX4_call_53 rfl ?_
        refine V.iload (pc := 54) 0 hC dX4_call_54 rfl ?_
        refine V.iload_n (pc := 56) 4 hC dX4_call_56 rfl ?_
        refine V.iload (pc := 57) 5 hC dX4_call_57 rfl ?_
        refine V.iconst (pc := 59) 1 hC dX4_call_59 (by decide) ?_
        refine V.iadd (pc := 60) hC dX4_call_60 ?_
        refine V.sts (st' := [.int (nI (q + 1)), .int x, .int 30, .ref (a 5)]) (stc (ncast (b := q + 1) (nadd rfl (nl 1)) (by omega)) (stk (stk (stk rfl)))) ?_
        refine V.callV0 (pc := 61) (as := [.int 30, .int x, .int (nI (q + 1))]) hC (c_work_2_30 (va_up (va_up σ 80 (upd (σ 80) (nN (σ 81 0)) 30)) 81 (fun _ => (σ 81 0) + 1)) ν x (q + 1) h82 h83 (isN.mk (nadd hTn.1 (nl 1)) (by omega) (by omega)) (by omega)) mu_X4_work ml_X4_53 (by decide) ⟨5, 4, TX4, 6, _, rfl, gx_5⟩ rfl (Nat.le_of_ble_eq_true rfl) dX4_call_61 ?_
        rintro _ ⟨f61_0, i61_1⟩ ⟨rfl, hu61_0, hu61_1⟩
        have hu61_0 : (f61_0, i61_1) = bgs [11, 10] ((upd (σ 80) (nN (σ 81 0)) 30), ((σ 81 0) + 1)) := hu61_0
        have hu61_1 : isN i61_1 30 := hu61_1
        show V X (wX k g a (va_up (va_up σ 80 f61_0) 81 (fun _ => i61_1)) ν) [(5, .int 30), (0, .ref (a 5)), (1, .int 1), (2, .int 2), (3, .int x), (4, .int (nI q))] [.int (-((x + ν 85 0) * 2))] 64
        exact hR (-((x + ν 85 0) * 2)) (f61_0, i61_1) _ _ dX4_call_64 rfl ⟨rfl, by rw [hu61_0]; exact congrArg (bgs [11, 10]) (show (upd (σ 80) (nN (σ 81 0)) 30, σ 81 0 + 1) = bgS 30 (σ 80, σ 81 0) from (if_pos (i_nle c_29)).symm), hu61_1⟩
    · have nc_11 : ¬ (q ≤ 20) := fun z => c_11 ((nle rfl (nl 20) (by omega) (by omega)).mpr z)
      exfalso; omega
set_option maxHeartbeats 4000000 in
set_option maxRecDepth 100000 in
theorem c_work_2_12 {l : Launch} {D : va_G} {k : Nat → ClassId} {g a : Nat → Nat} (σ ν : St) (x : Int32) (q : Nat) (h82 : ν 82 0 = 0) (h83 : ν 83 0 = 2) (hTn : isN (σ 81 0) 30) (hq : q + 3 ≤ 20) : Ct l D k g yX4_work cX4_work 5 (some .int) 6 147 [.ref (a 5), .int 12, .int x, .int (nI q)] (S := Rw × Int32) (wX k g a σ ν) (fun uu => wX k g a (va_up (va_up σ 80 uu.1) 81 (fun _ => uu.2)) ν) (fun vv uu => vv = some (.int ((-((x + ν 85 0) * 2)) - ν 84 0)) ∧ (uu.1, uu.2) = bgs [30, 11, 10] (σ 80, σ 81 0) ∧ isN uu.2 30) := by
  refine Ct.ofI RX4 rfl (by decide +kernel) (Nat.le_of_ble_eq_true rfl) (fun X hC hR => ?_)
  show V X (wX k g a σ ν) [(0, .ref (a 5)), (1, .int 12), (2, .int x), (3, .int (nI q))] [] 0
  refine V.getAboveN (pc := 0) hC dX4_work_0 rfl ?_
  refine V.iload_n (pc := 3) 1 hC dX4_work_3 rfl ?_
  refine V.bipush (pc := 4) 10 hC dX4_work_4 (by decide) ?_
  refine V.idiv (pc := 6) hC dX4_work_6 (by decide) ?_
  refine V.eqi (y := 1) (by decide) ?_
  refine V.iconst (pc := 7) 1 hC dX4_work_7 (by decide) ?_
  refine V.isub (pc := 8) hC dX4_work_8 ?_
  refine V.eqi (y := 0) (by decide) ?_
  refine V.ldAbove (pc := 9) hC 0 (-1) (nl 0) (by decide) rfl dX4_work_9 ?_
  refine V.istore (pc := 10) [(4, .int (-1)), (0, .ref (a 5)), (1, .int 12), (2, .int x), (3, .int (nI q))] hC dX4_work_10 (by decide) rfl ?_
  refine V.iload_n (pc := 12) 2 hC dX4_work_12 rfl ?_
  refine V.lookup (pc := 13) 149 hC dX4_work_13 (by decide) rfl (by decide) ?_
  refine V.aload_n (pc := 149) 1 hC dX4_work_149 rfl ?_
  refine V.iconst (pc := 150) 1 hC dX4_work_150 (by decide) ?_
  refine V.aload_n (pc := 151) 1 hC dX4_work_151 rfl ?_
  refine V.get (pc := 152) (v := .int (ν 83 0)) hC cf_X4 5 3 fl_X4_28 (by decide) gx_5 rfl dX4_work_152 ?_
  refine V.eqi (y := 2) (h83) ?_
  refine V.iload_n (pc := 155) 3 hC dX4_work_155 rfl ?_
  refine V.iload_n (pc := 156) 4 hC dX4_work_156 rfl ?_
  refine V.callV0 (pc := 157) (as := [.int 1, .int 2, .int x, .int (nI q)]) hC (c_call_2_1_2 σ ν x q h82 h83 hTn (by omega)) mu_X4_call ml_X4_39 (by decide) ⟨5, 4, TX4, 6, _, rfl, gx_5⟩ rfl (Nat.le_of_ble_eq_true rfl) dX4_work_157 ?_
  rintro _ ⟨f157_0, i157_1⟩ ⟨rfl, hu157_0, hu157_1⟩
  have hu157_0 : (f157_0, i157_1) = bgs [30, 11, 10] (σ 80, σ 81 0) := hu157_0
  have hu157_1 : isN i157_1 30 := hu157_1
  show V X (wX k g a (va_up (va_up σ 80 f157_0) 81 (fun _ => i157_1)) ν) [(4, .int (-1)), (0, .ref (a 5)), (1, .int 12), (2, .int x), (3, .int (nI q))] [.int (-((x + ν 85 0) * 2))] 160
  refine V.aload_n (pc := 160) 1 hC dX4_work_160 rfl ?_
  refine V.get (pc := 161) (v := .int (ν 84 0)) hC cf_X4 5 4 fl_X4_33 (by decide) gx_5 rfl dX4_work_161 ?_
  refine V.isub (pc := 164) hC dX4_work_164 ?_
  exact hR ((-((x + ν 85 0) * 2)) - (ν 84 0)) (f157_0, i157_1) _ _ dX4_work_165 rfl ⟨rfl, hu157_0, hu157_1⟩
set_option maxHeartbeats 4000000 in
set_option maxRecDepth 100000 in
theorem c_call_2_2_2 {l : Launch} {D : va_G} {k : Nat → ClassId} {g a : Nat → Nat} (σ ν : St) (x : Int32) (q : Nat) (h82 : ν 82 0 = 0) (h83 : ν 83 0 = 2) (hTn : isN (σ 81 0) 30) (hq : q + 4 ≤ 20) : Ct l D k g yX4_call cX4_call 6 (some .int) 7 171 [.ref (a 5), .int 2, .int 2, .int x, .int (nI q)] (S := Rw × Int32) (wX k g a σ ν) (fun uu => wX k g a (va_up (va_up σ 80 uu.1) 81 (fun _ => uu.2)) ν) (fun vv uu => vv = some (.int ((-((x + ν 85 0) * 2)) - ν 84 0)) ∧ (uu.1, uu.2) = bgs [12, 30, 11, 10] (σ 80, σ 81 0) ∧ isN uu.2 30) := by
  refine Ct.ofI RX4 rfl (by decide +kernel) (Nat.le_of_ble_eq_true rfl) (fun X hC hR => ?_)
  have hTb := hTn.2
  show V X (wX k g a σ ν) [(0, .ref (a 5)), (1, .int 2), (2, .int 2), (3, .int x), (4, .int (nI q))] [] 0
  refine V.aload_n (pc := 0) 0 hC dX4_call_0 rfl ?_
  refine V.get (pc := 1) (v := .int (ν 82 0)) hC cf_X4 5 2 fl_X4_19 (by decide) gx_5 rfl dX4_call_1 ?_
  refine V.eqi (y := 0) (h82) ?_
  refine V.if_ne (pc := 4) 14 hC dX4_call_4 (by decide) (fun c_4 => ?_) (fun c_4 => ?_)
  · have nc_4 : ¬ (0 = 0) := fun z => c_4 ((neq (nl 0) (nl 0) (by omega) (by omega)).mpr z)
    exact absurd c_4 (by decide)
  · have nc_4 : 0 = 0 := (neq (nl 0) (nl 0) (by omega) (by omega)).mp c_4
    refine V.iload (pc := 7) 4 hC dX4_call_7 rfl ?_
    refine V.bipush (pc := 9) 20 hC dX4_call_9 (by decide) ?_
    refine V.icmp_le (pc := 11) 16 hC dX4_call_11 (by decide) (fun c_11 => ?_) (fun c_11 => ?_)
    · have nc_11 : q ≤ 20 := (nle rfl (nl 20) (by omega) (by omega)).mp c_11
      refine V.iload_n (pc := 16) 1 hC dX4_call_16 rfl ?_
      refine V.iload_n (pc := 17) 2 hC dX4_call_17 rfl ?_
      refine V.callS0 (pc := 18) (as := [.int 2, .int 2]) hC (c_find_2_2  ) ms_X4_find ml_X4_49 (by decide) rfl (Nat.le_of_ble_eq_true rfl) dX4_call_18 ?_
      rintro _ _ rfl
      show V X (wX k g a σ ν) [(0, .ref (a 5)), (1, .int 2), (2, .int 2), (3, .int x), (4, .int (nI q))] [.int 12] 21
      refine V.istore (pc := 21) [(5, .int 12), (0, .ref (a 5)), (1, .int 2), (2, .int 2), (3, .int x), (4, .int (nI q))] hC dX4_call_21 (by decide) rfl ?_
      refine V.aload_n (pc := 23) 1 hC dX4_call_23 rfl ?_
      refine V.get (pc := 24) (v := .int (σ 81 0)) hC cf_X4 5 1 fl_X4_15 (by decide) gx_5 rfl dX4_call_24 ?_
      refine V.bipush (pc := 27) 30 hC dX4_call_27 (by decide) ?_
      refine V.icmp_ge (pc := 29) 53 hC dX4_call_29 (by decide) (fun c_29 => ?_) (fun c_29 => ?_)
      · have nc_29 : 30 ≤ nN (σ 81 0) := (nle (nl 30) hTn.1 (by omega) (by omega)).mp c_29
        refine V.aload_n (pc := 53) 1 hC dX4_call_53 rfl ?_
        refine V.iload (pc := 54) 0 hC dX4_call_54 rfl ?_
        refine V.iload_n (pc := 56) 4 hC dX4_call_56 rfl ?_
        refine V.iload (pc := 57) 5 hC dX4_call_57 rfl ?_
        refine V.iconst (pc := 59) 1 hC dX4_call_59 (by decide) ?_
        refine V.iadd (pc := 60) hC dX4_call_60 ?_
        refine V.sts (st' := [.int (nI (q + 1)), .int x, .int 12, .ref (a 5)]) (stc (ncast (b := q + 1) (nadd rfl (nl 1)) (by omega)) (stk (stk (stk rfl)))) ?_
        refine V.callV0 (pc := 61) (as := [.int 12, .int x, .int (nI (q + 1))]) hC (c_work_2_12 σ ν x (q + 1) h82 h83 hTn (by omega)) mu_X4_work ml_X4_53 (by decide) ⟨5, 4, TX4, 6, _, rfl, gx_5⟩ rfl (Nat.le_of_ble_eq_true rfl) dX4_call_61 ?_
        rintro _ ⟨f61_0, i61_1⟩ ⟨rfl, hu61_0, hu61_1⟩
        have hu61_0 : (f61_0, i61_1) = bgs [30, 11, 10] (σ 80, σ 81 0) := hu61_0
        have hu61_1 : isN i61_1 30 := hu61_1
        show V X (wX k g a (va_up (va_up σ 80 f61_0) 81 (fun _ => i61_1)) ν) [(5, .int 12), (0, .ref (a 5)), (1, .int 2), (2, .int 2), (3, .int x), (4, .int (nI q))] [.int ((-((x + ν 85 0) * 2)) - ν 84 0)] 64
        exact hR ((-((x + ν 85 0) * 2)) - ν 84 0) (f61_0, i61_1) _ _ dX4_call_64 rfl ⟨rfl, by rw [hu61_0]; exact congrArg (bgs [30, 11, 10]) (show (σ 80, σ 81 0) = bgS 12 (σ 80, σ 81 0) from (if_neg (i_ge c_29)).symm), hu61_1⟩
      · have nc_29 : ¬ (30 ≤ nN (σ 81 0)) := fun z => c_29 ((nle (nl 30) hTn.1 (by omega) (by omega)).mpr z)
        refine V.aload_n (pc := 32) 1 hC dX4_call_32 rfl ?_
        refine V.get (pc := 33) (v := .ref (a 80)) hC cf_X4 5 0 fl_X4_9 (by decide) gx_5 rfl dX4_call_33 ?_
        refine V.aload_n (pc := 36) 1 hC dX4_call_36 rfl ?_
        refine V.get (pc := 37) (v := .int (σ 81 0)) hC cf_X4 5 1 fl_X4_15 (by decide) gx_5 rfl dX4_call_37 ?_
        refine V.iload (pc := 40) 0 hC dX4_call_40 rfl ?_
        refine V.iast (pc := 42) (f := σ 80) hC 46 (nN (σ 81 0)) (wX k g a (va_up σ 80 (upd (σ 80) (nN (σ 81 0)) 12)) ν) gx_46 hTn.1 (by omega) (by decide) rfl dX4_call_42 ?_
        refine V.aload_n (pc := 43) 1 hC dX4_call_43 rfl ?_
        refine V.dup (pc := 44) hC dX4_call_44 rfl ?_
        refine V.get (pc := 45) (v := .int (σ 81 0)) hC cf_X4 5 1 fl_X4_15 (by decide) gx_5 rfl dX4_call_45 ?_
        refine V.iconst (pc := 48) 1 hC dX4_call_48 (by decide) ?_
        refine V.iadd (pc := 49) hC dX4_call_49 ?_
        refine V.put (pc := 50) (v := .int ((σ 81 0) + 1)) hC cf_X4 5 1 (wX k g a (va_up (va_up σ 80 (upd (σ 80) (nN (σ 81 0)) 12)) 81 (fun _ => (σ 81 0) + 1)) ν) fl_X4_15 (by decide) gx_5 rfl rfl rfl (Nat.le_of_ble_eq_true rfl) rfl dX4_call_50 ?_
        refine V.aload_n (pc := 53) 1 hC dX4_call_53 rfl ?_
        refine V.iload (pc := 54) 0 hC dX4_call_54 rfl ?_
        refine V.iload_n (pc := 56) 4 hC dX4_call_56 rfl ?_
        refine V.iload (pc := 57) 5 hC dX4_call_57 rfl ?_
        refine V.iconst (pc := 59) 1 hC dX4_call_59 (by decide) ?_
        refine V.iadd (pc := 60) hC dX4_call_60 ?_
        refine V.sts (st' := [.int (nI (q + 1)), .int x, .int 12, .ref (a 5)]) (stc (ncast (b := q + 1) (nadd rfl (nl 1)) (by omega)) (stk (stk (stk rfl)))) ?_
        refine V.callV0 (pc := 61) (as := [.int 12, .int x, .int (nI (q + 1))]) hC (c_work_2_12 (va_up (va_up σ 80 (upd (σ 80) (nN (σ 81 0)) 12)) 81 (fun _ => (σ 81 0) + 1)) ν x (q + 1) h82 h83 (isN.mk (nadd hTn.1 (nl 1)) (by omega) (by omega)) (by omega)) mu_X4_work ml_X4_53 (by decide) ⟨5, 4, TX4, 6, _, rfl, gx_5⟩ rfl (Nat.le_of_ble_eq_true rfl) dX4_call_61 ?_
        rintro _ ⟨f61_0, i61_1⟩ ⟨rfl, hu61_0, hu61_1⟩
        have hu61_0 : (f61_0, i61_1) = bgs [30, 11, 10] ((upd (σ 80) (nN (σ 81 0)) 12), ((σ 81 0) + 1)) := hu61_0
        have hu61_1 : isN i61_1 30 := hu61_1
        show V X (wX k g a (va_up (va_up σ 80 f61_0) 81 (fun _ => i61_1)) ν) [(5, .int 12), (0, .ref (a 5)), (1, .int 2), (2, .int 2), (3, .int x), (4, .int (nI q))] [.int ((-((x + ν 85 0) * 2)) - ν 84 0)] 64
        exact hR ((-((x + ν 85 0) * 2)) - ν 84 0) (f61_0, i61_1) _ _ dX4_call_64 rfl ⟨rfl, by rw [hu61_0]; exact congrArg (bgs [30, 11, 10]) (show (upd (σ 80) (nN (σ 81 0)) 12, σ 81 0 + 1) = bgS 12 (σ 80, σ 81 0) from (if_pos (i_nle c_29)).symm), hu61_1⟩
    · have nc_11 : ¬ (q ≤ 20) := fun z => c_11 ((nle rfl (nl 20) (by omega) (by omega)).mpr z)
      exfalso; omega
set_option maxHeartbeats 4000000 in
set_option maxRecDepth 100000 in
theorem c_work_2_13 {l : Launch} {D : va_G} {k : Nat → ClassId} {g a : Nat → Nat} (σ ν : St) (x : Int32) (q : Nat) (h82 : ν 82 0 = 0) (h83 : ν 83 0 = 2) (hTn : isN (σ 81 0) 30) (hq : q + 0 ≤ 20) : Ct l D k g yX4_work cX4_work 5 (some .int) 1 21 [.ref (a 5), .int 13, .int x, .int (nI q)] (S := Rw × Int32 × Int32) (wX k g a σ ν) (fun uu => wX k g a (va_up (va_up σ 80 uu.1) 81 (fun _ => uu.2.1)) (va_up ν 82 (fun _ => uu.2.2))) (fun vv uu => vv = some (.int (if ν 84 0 - ν 85 0 = 0 then 0 else x / (ν 84 0 - ν 85 0))) ∧ (uu.1, uu.2.1) = bgs [] (σ 80, σ 81 0) ∧ isN uu.2.1 30 ∧ uu.2.2 = bI (ν 84 0 - ν 85 0 = 0)) := by
  refine Ct.ofI RX4 rfl (by decide +kernel) (Nat.le_of_ble_eq_true rfl) (fun X hC hR => ?_)
  show V X (wX k g a σ ν) [(0, .ref (a 5)), (1, .int 13), (2, .int x), (3, .int (nI q))] [] 0
  refine V.getAboveN (pc := 0) hC dX4_work_0 rfl ?_
  refine V.iload_n (pc := 3) 1 hC dX4_work_3 rfl ?_
  refine V.bipush (pc := 4) 10 hC dX4_work_4 (by decide) ?_
  refine V.idiv (pc := 6) hC dX4_work_6 (by decide) ?_
  refine V.eqi (y := 1) (by decide) ?_
  refine V.iconst (pc := 7) 1 hC dX4_work_7 (by decide) ?_
  refine V.isub (pc := 8) hC dX4_work_8 ?_
  refine V.eqi (y := 0) (by decide) ?_
  refine V.ldAbove (pc := 9) hC 0 (-1) (nl 0) (by decide) rfl dX4_work_9 ?_
  refine V.istore (pc := 10) [(4, .int (-1)), (0, .ref (a 5)), (1, .int 13), (2, .int x), (3, .int (nI q))] hC dX4_work_10 (by decide) rfl ?_
  refine V.iload_n (pc := 12) 2 hC dX4_work_12 rfl ?_
  refine V.lookup (pc := 13) 166 hC dX4_work_13 (by decide) rfl (by decide) ?_
  refine V.aload_n (pc := 166) 1 hC dX4_work_166 rfl ?_
  refine V.iload_n (pc := 167) 3 hC dX4_work_167 rfl ?_
  refine V.callV0 (pc := 168) (as := [.int x]) hC (c_X4_part σ ν x h82) mu_X4_part ml_X4_57 (by decide) ⟨5, 4, TX4, 6, _, rfl, gx_5⟩ rfl (Nat.le_of_ble_eq_true rfl) dX4_work_168 ?_
  rintro _ i168_0 ⟨rfl, hu168_0⟩
  have hu168_0 : i168_0 = bI (ν 84 0 - ν 85 0 = 0) := hu168_0
  show V X (wX k g a σ (va_up ν 82 (fun _ => i168_0))) [(4, .int (-1)), (0, .ref (a 5)), (1, .int 13), (2, .int x), (3, .int (nI q))] [.int (if ν 84 0 - ν 85 0 = 0 then 0 else x / (ν 84 0 - ν 85 0))] 171
  exact hR (if ν 84 0 - ν 85 0 = 0 then 0 else x / (ν 84 0 - ν 85 0)) (σ 80, σ 81 0, i168_0) _ _ dX4_work_171 rfl ⟨rfl, rfl, hTn, hu168_0⟩
set_option maxHeartbeats 4000000 in
set_option maxRecDepth 100000 in
theorem c_call_2_3_2 {l : Launch} {D : va_G} {k : Nat → ClassId} {g a : Nat → Nat} (σ ν : St) (x : Int32) (q : Nat) (h82 : ν 82 0 = 0) (h83 : ν 83 0 = 2) (hTn : isN (σ 81 0) 30) (hq : q + 1 ≤ 20) : Ct l D k g yX4_call cX4_call 6 (some .int) 2 45 [.ref (a 5), .int 3, .int 2, .int x, .int (nI q)] (S := Rw × Int32 × Int32) (wX k g a σ ν) (fun uu => wX k g a (va_up (va_up σ 80 uu.1) 81 (fun _ => uu.2.1)) (va_up ν 82 (fun _ => uu.2.2))) (fun vv uu => vv = some (.int (if ν 84 0 - ν 85 0 = 0 then 0 else x / (ν 84 0 - ν 85 0))) ∧ (uu.1, uu.2.1) = bgs [13] (σ 80, σ 81 0) ∧ isN uu.2.1 30 ∧ uu.2.2 = bI (ν 84 0 - ν 85 0 = 0)) := by
  refine Ct.ofI RX4 rfl (by decide +kernel) (Nat.le_of_ble_eq_true rfl) (fun X hC hR => ?_)
  have hTb := hTn.2
  show V X (wX k g a σ ν) [(0, .ref (a 5)), (1, .int 3), (2, .int 2), (3, .int x), (4, .int (nI q))] [] 0
  refine V.aload_n (pc := 0) 0 hC dX4_call_0 rfl ?_
  refine V.get (pc := 1) (v := .int (ν 82 0)) hC cf_X4 5 2 fl_X4_19 (by decide) gx_5 rfl dX4_call_1 ?_
  refine V.eqi (y := 0) (h82) ?_
  refine V.if_ne (pc := 4) 14 hC dX4_call_4 (by decide) (fun c_4 => ?_) (fun c_4 => ?_)
  · have nc_4 : ¬ (0 = 0) := fun z => c_4 ((neq (nl 0) (nl 0) (by omega) (by omega)).mpr z)
    exact absurd c_4 (by decide)
  · have nc_4 : 0 = 0 := (neq (nl 0) (nl 0) (by omega) (by omega)).mp c_4
    refine V.iload (pc := 7) 4 hC dX4_call_7 rfl ?_
    refine V.bipush (pc := 9) 20 hC dX4_call_9 (by decide) ?_
    refine V.icmp_le (pc := 11) 16 hC dX4_call_11 (by decide) (fun c_11 => ?_) (fun c_11 => ?_)
    · have nc_11 : q ≤ 20 := (nle rfl (nl 20) (by omega) (by omega)).mp c_11
      refine V.iload_n (pc := 16) 1 hC dX4_call_16 rfl ?_
      refine V.iload_n (pc := 17) 2 hC dX4_call_17 rfl ?_
      refine V.callS0 (pc := 18) (as := [.int 3, .int 2]) hC (c_find_3_2  ) ms_X4_find ml_X4_49 (by decide) rfl (Nat.le_of_ble_eq_true rfl) dX4_call_18 ?_
      rintro _ _ rfl
      show V X (wX k g a σ ν) [(0, .ref (a 5)), (1, .int 3), (2, .int 2), (3, .int x), (4, .int (nI q))] [.int 13] 21
      refine V.istore (pc := 21) [(5, .int 13), (0, .ref (a 5)), (1, .int 3), (2, .int 2), (3, .int x), (4, .int (nI q))] hC dX4_call_21 (by decide) rfl ?_
      refine V.aload_n (pc := 23) 1 hC dX4_call_23 rfl ?_
      refine V.get (pc := 24) (v := .int (σ 81 0)) hC cf_X4 5 1 fl_X4_15 (by decide) gx_5 rfl dX4_call_24 ?_
      refine V.bipush (pc := 27) 30 hC dX4_call_27 (by decide) ?_
      refine V.icmp_ge (pc := 29) 53 hC dX4_call_29 (by decide) (fun c_29 => ?_) (fun c_29 => ?_)
      · have nc_29 : 30 ≤ nN (σ 81 0) := (nle (nl 30) hTn.1 (by omega) (by omega)).mp c_29
        refine V.aload_n (pc := 53) 1 hC dX4_call_53 rfl ?_
        refine V.iload (pc := 54) 0 hC dX4_call_54 rfl ?_
        refine V.iload_n (pc := 56) 4 hC dX4_call_56 rfl ?_
        refine V.iload (pc := 57) 5 hC dX4_call_57 rfl ?_
        refine V.iconst (pc := 59) 1 hC dX4_call_59 (by decide) ?_
        refine V.iadd (pc := 60) hC dX4_call_60 ?_
        refine V.sts (st' := [.int (nI (q + 1)), .int x, .int 13, .ref (a 5)]) (stc (ncast (b := q + 1) (nadd rfl (nl 1)) (by omega)) (stk (stk (stk rfl)))) ?_
        refine V.callV0 (pc := 61) (as := [.int 13, .int x, .int (nI (q + 1))]) hC (c_work_2_13 σ ν x (q + 1) h82 h83 hTn (by omega)) mu_X4_work ml_X4_53 (by decide) ⟨5, 4, TX4, 6, _, rfl, gx_5⟩ rfl (Nat.le_of_ble_eq_true rfl) dX4_call_61 ?_
        rintro _ ⟨f61_0, i61_1, i61_2⟩ ⟨rfl, hu61_0, hu61_1, hu61_2⟩
        have hu61_0 : (f61_0, i61_1) = bgs [] (σ 80, σ 81 0) := hu61_0
        have hu61_1 : isN i61_1 30 := hu61_1
        have hu61_2 : i61_2 = bI (ν 84 0 - ν 85 0 = 0) := hu61_2
        show V X (wX k g a (va_up (va_up σ 80 f61_0) 81 (fun _ => i61_1)) (va_up ν 82 (fun _ => i61_2))) [(5, .int 13), (0, .ref (a 5)), (1, .int 3), (2, .int 2), (3, .int x), (4, .int (nI q))] [.int (if ν 84 0 - ν 85 0 = 0 then 0 else x / (ν 84 0 - ν 85 0))] 64
        exact hR (if ν 84 0 - ν 85 0 = 0 then 0 else x / (ν 84 0 - ν 85 0)) (f61_0, i61_1, i61_2) _ _ dX4_call_64 rfl ⟨rfl, by rw [hu61_0]; exact congrArg (bgs []) (show (σ 80, σ 81 0) = bgS 13 (σ 80, σ 81 0) from (if_neg (i_ge c_29)).symm), hu61_1, hu61_2⟩
      · have nc_29 : ¬ (30 ≤ nN (σ 81 0)) := fun z => c_29 ((nle (nl 30) hTn.1 (by omega) (by omega)).mpr z)
        refine V.aload_n (pc := 32) 1 hC dX4_call_32 rfl ?_
        refine V.get (pc := 33) (v := .ref (a 80)) hC cf_X4 5 0 fl_X4_9 (by decide) gx_5 rfl dX4_call_33 ?_
        refine V.aload_n (pc := 36) 1 hC dX4_call_36 rfl ?_
        refine V.get (pc := 37) (v := .int (σ 81 0)) hC cf_X4 5 1 fl_X4_15 (by decide) gx_5 rfl dX4_call_37 ?_
        refine V.iload (pc := 40) 0 hC dX4_call_40 rfl ?_
        refine V.iast (pc := 42) (f := σ 80) hC 46 (nN (σ 81 0)) (wX k g a (va_up σ 80 (upd (σ 80) (nN (σ 81 0)) 13)) ν) gx_46 hTn.1 (by omega) (by decide) rfl dX4_call_42 ?_
        refine V.aload_n (pc := 43) 1 hC dX4_call_43 rfl ?_
        refine V.dup (pc := 44) hC dX4_call_44 rfl ?_
        refine V.get (pc := 45) (v := .int (σ 81 0)) hC cf_X4 5 1 fl_X4_15 (by decide) gx_5 rfl dX4_call_45 ?_
        refine V.iconst (pc := 48) 1 hC dX4_call_48 (by decide) ?_
        refine V.iadd (pc := 49) hC dX4_call_49 ?_
        refine V.put (pc := 50) (v := .int ((σ 81 0) + 1)) hC cf_X4 5 1 (wX k g a (va_up (va_up σ 80 (upd (σ 80) (nN (σ 81 0)) 13)) 81 (fun _ => (σ 81 0) + 1)) ν) fl_X4_15 (by decide) gx_5 rfl rfl rfl (Nat.le_of_ble_eq_true rfl) rfl dX4_call_50 ?_
        refine V.aload_n (pc := 53) 1 hC dX4_call_53 rfl ?_
        refine V.iload (pc := 54) 0 hC dX4_call_54 rfl ?_
        refine V.iload_n (pc := 56) 4 hC dX4_call_56 rfl ?_
        refine V.iload (pc := 57) 5 hC dX4_call_57 rfl ?_
        refine V.iconst (pc := 59) 1 hC dX4_call_59 (by decide) ?_
        refine V.iadd (pc := 60) hC dX4_call_60 ?_
        refine V.sts (st' := [.int (nI (q + 1)), .int x, .int 13, .ref (a 5)]) (stc (ncast (b := q + 1) (nadd rfl (nl 1)) (by omega)) (stk (stk (stk rfl)))) ?_
        refine V.callV0 (pc := 61) (as := [.int 13, .int x, .int (nI (q + 1))]) hC (c_work_2_13 (va_up (va_up σ 80 (upd (σ 80) (nN (σ 81 0)) 13)) 81 (fun _ => (σ 81 0) + 1)) ν x (q + 1) h82 h83 (isN.mk (nadd hTn.1 (nl 1)) (by omega) (by omega)) (by omega)) mu_X4_work ml_X4_53 (by decide) ⟨5, 4, TX4, 6, _, rfl, gx_5⟩ rfl (Nat.le_of_ble_eq_true rfl) dX4_call_61 ?_
        rintro _ ⟨f61_0, i61_1, i61_2⟩ ⟨rfl, hu61_0, hu61_1, hu61_2⟩
        have hu61_0 : (f61_0, i61_1) = bgs [] ((upd (σ 80) (nN (σ 81 0)) 13), ((σ 81 0) + 1)) := hu61_0
        have hu61_1 : isN i61_1 30 := hu61_1
        have hu61_2 : i61_2 = bI (ν 84 0 - ν 85 0 = 0) := hu61_2
        show V X (wX k g a (va_up (va_up σ 80 f61_0) 81 (fun _ => i61_1)) (va_up ν 82 (fun _ => i61_2))) [(5, .int 13), (0, .ref (a 5)), (1, .int 3), (2, .int 2), (3, .int x), (4, .int (nI q))] [.int (if ν 84 0 - ν 85 0 = 0 then 0 else x / (ν 84 0 - ν 85 0))] 64
        exact hR (if ν 84 0 - ν 85 0 = 0 then 0 else x / (ν 84 0 - ν 85 0)) (f61_0, i61_1, i61_2) _ _ dX4_call_64 rfl ⟨rfl, by rw [hu61_0]; exact congrArg (bgs []) (show (upd (σ 80) (nN (σ 81 0)) 13, σ 81 0 + 1) = bgS 13 (σ 80, σ 81 0) from (if_pos (i_nle c_29)).symm), hu61_1, hu61_2⟩
    · have nc_11 : ¬ (q ≤ 20) := fun z => c_11 ((nle rfl (nl 20) (by omega) (by omega)).mpr z)
      exfalso; omega
set_option maxHeartbeats 4000000 in
set_option maxRecDepth 100000 in
theorem c_work_3_10 {l : Launch} {D : va_G} {k : Nat → ClassId} {g a : Nat → Nat} (σ ν : St) (x : Int32) (q : Nat) (h82 : ν 82 0 = 0) (h83 : ν 83 0 = 3) (hTn : isN (σ 81 0) 30) (hq : q + 0 ≤ 20) : Ct l D k g yX4_work cX4_work 5 (some .int) 0 0 [.ref (a 5), .int 10, .int x, .int (nI q)] (S := Rw × Int32) (wX k g a σ ν) (fun uu => wX k g a (va_up (va_up σ 80 uu.1) 81 (fun _ => uu.2)) ν) (fun vv uu => vv = some (.int (x + ν 85 0)) ∧ (uu.1, uu.2) = bgs [] (σ 80, σ 81 0) ∧ isN uu.2 30) := by
  refine Ct.ofI RX4 rfl (by decide +kernel) (Nat.le_of_ble_eq_true rfl) (fun X hC hR => ?_)
  show V X (wX k g a σ ν) [(0, .ref (a 5)), (1, .int 10), (2, .int x), (3, .int (nI q))] [] 0
  refine V.getAboveN (pc := 0) hC dX4_work_0 rfl ?_
  refine V.iload_n (pc := 3) 1 hC dX4_work_3 rfl ?_
  refine V.bipush (pc := 4) 10 hC dX4_work_4 (by decide) ?_
  refine V.idiv (pc := 6) hC dX4_work_6 (by decide) ?_
  refine V.eqi (y := 1) (by decide) ?_
  refine V.iconst (pc := 7) 1 hC dX4_work_7 (by decide) ?_
  refine V.isub (pc := 8) hC dX4_work_8 ?_
  refine V.eqi (y := 0) (by decide) ?_
  refine V.ldAbove (pc := 9) hC 0 (-1) (nl 0) (by decide) rfl dX4_work_9 ?_
  refine V.istore (pc := 10) [(4, .int (-1)), (0, .ref (a 5)), (1, .int 10), (2, .int x), (3, .int (nI q))] hC dX4_work_10 (by decide) rfl ?_
  refine V.iload_n (pc := 12) 2 hC dX4_work_12 rfl ?_
  refine V.lookup (pc := 13) 128 hC dX4_work_13 (by decide) rfl (by decide) ?_
  refine V.iload_n (pc := 128) 3 hC dX4_work_128 rfl ?_
  refine V.aload_n (pc := 129) 1 hC dX4_work_129 rfl ?_
  refine V.get (pc := 130) (v := .int (ν 85 0)) hC cf_X4 5 5 fl_X4_36 (by decide) gx_5 rfl dX4_work_130 ?_
  refine V.iadd (pc := 133) hC dX4_work_133 ?_
  exact hR (x + (ν 85 0)) (σ 80, σ 81 0) _ _ dX4_work_134 rfl ⟨rfl, rfl, hTn⟩
set_option maxHeartbeats 4000000 in
set_option maxRecDepth 100000 in
theorem c_call_3_0_3 {l : Launch} {D : va_G} {k : Nat → ClassId} {g a : Nat → Nat} (σ ν : St) (x : Int32) (q : Nat) (h82 : ν 82 0 = 0) (h83 : ν 83 0 = 3) (hTn : isN (σ 81 0) 30) (hq : q + 1 ≤ 20) : Ct l D k g yX4_call cX4_call 6 (some .int) 1 24 [.ref (a 5), .int 0, .int 3, .int x, .int (nI q)] (S := Rw × Int32) (wX k g a σ ν) (fun uu => wX k g a (va_up (va_up σ 80 uu.1) 81 (fun _ => uu.2)) ν) (fun vv uu => vv = some (.int (x + ν 85 0)) ∧ (uu.1, uu.2) = bgs [10] (σ 80, σ 81 0) ∧ isN uu.2 30) := by
  refine Ct.ofI RX4 rfl (by decide +kernel) (Nat.le_of_ble_eq_true rfl) (fun X hC hR => ?_)
  have hTb := hTn.2
  show V X (wX k g a σ ν) [(0, .ref (a 5)), (1, .int 0), (2, .int 3), (3, .int x), (4, .int (nI q))] [] 0
  refine V.aload_n (pc := 0) 0 hC dX4_call_0 rfl ?_
  refine V.get (pc := 1) (v := .int (ν 82 0)) hC cf_X4 5 2 fl_X4_19 (by decide) gx_5 rfl dX4_call_1 ?_
  refine V.eqi (y := 0) (h82) ?_
  refine V.if_ne (pc := 4) 14 hC dX4_call_4 (by decide) (fun c_4 => ?_) (fun c_4 => ?_)
  · have nc_4 : ¬ (0 = 0) := fun z => c_4 ((neq (nl 0) (nl 0) (by omega) (by omega)).mpr z)
    exact absurd c_4 (by decide)
  · have nc_4 : 0 = 0 := (neq (nl 0) (nl 0) (by omega) (by omega)).mp c_4
    refine V.iload (pc := 7) 4 hC dX4_call_7 rfl ?_
    refine V.bipush (pc := 9) 20 hC dX4_call_9 (by decide) ?_
    refine V.icmp_le (pc := 11) 16 hC dX4_call_11 (by decide) (fun c_11 => ?_) (fun c_11 => ?_)
    · have nc_11 : q ≤ 20 := (nle rfl (nl 20) (by omega) (by omega)).mp c_11
      refine V.iload_n (pc := 16) 1 hC dX4_call_16 rfl ?_
      refine V.iload_n (pc := 17) 2 hC dX4_call_17 rfl ?_
      refine V.callS0 (pc := 18) (as := [.int 0, .int 3]) hC (c_find_0_3  ) ms_X4_find ml_X4_49 (by decide) rfl (Nat.le_of_ble_eq_true rfl) dX4_call_18 ?_
      rintro _ _ rfl
      show V X (wX k g a σ ν) [(0, .ref (a 5)), (1, .int 0), (2, .int 3), (3, .int x), (4, .int (nI q))] [.int 10] 21
      refine V.istore (pc := 21) [(5, .int 10), (0, .ref (a 5)), (1, .int 0), (2, .int 3), (3, .int x), (4, .int (nI q))] hC dX4_call_21 (by decide) rfl ?_
      refine V.aload_n (pc := 23) 1 hC dX4_call_23 rfl ?_
      refine V.get (pc := 24) (v := .int (σ 81 0)) hC cf_X4 5 1 fl_X4_15 (by decide) gx_5 rfl dX4_call_24 ?_
      refine V.bipush (pc := 27) 30 hC dX4_call_27 (by decide) ?_
      refine V.icmp_ge (pc := 29) 53 hC dX4_call_29 (by decide) (fun c_29 => ?_) (fun c_29 => ?_)
      · have nc_29 : 30 ≤ nN (σ 81 0) := (nle (nl 30) hTn.1 (by omega) (by omega)).mp c_29
        refine V.aload_n (pc := 53) 1 hC dX4_call_53 rfl ?_
        refine V.iload (pc := 54) 0 hC dX4_call_54 rfl ?_
        refine V.iload_n (pc := 56) 4 hC dX4_call_56 rfl ?_
        refine V.iload (pc := 57) 5 hC dX4_call_57 rfl ?_
        refine V.iconst (pc := 59) 1 hC dX4_call_59 (by decide) ?_
        refine V.iadd (pc := 60) hC dX4_call_60 ?_
        refine V.sts (st' := [.int (nI (q + 1)), .int x, .int 10, .ref (a 5)]) (stc (ncast (b := q + 1) (nadd rfl (nl 1)) (by omega)) (stk (stk (stk rfl)))) ?_
        refine V.callV0 (pc := 61) (as := [.int 10, .int x, .int (nI (q + 1))]) hC (c_work_3_10 σ ν x (q + 1) h82 h83 hTn (by omega)) mu_X4_work ml_X4_53 (by decide) ⟨5, 4, TX4, 6, _, rfl, gx_5⟩ rfl (Nat.le_of_ble_eq_true rfl) dX4_call_61 ?_
        rintro _ ⟨f61_0, i61_1⟩ ⟨rfl, hu61_0, hu61_1⟩
        have hu61_0 : (f61_0, i61_1) = bgs [] (σ 80, σ 81 0) := hu61_0
        have hu61_1 : isN i61_1 30 := hu61_1
        show V X (wX k g a (va_up (va_up σ 80 f61_0) 81 (fun _ => i61_1)) ν) [(5, .int 10), (0, .ref (a 5)), (1, .int 0), (2, .int 3), (3, .int x), (4, .int (nI q))] [.int (x + ν 85 0)] 64
        exact hR (x + ν 85 0) (f61_0, i61_1) _ _ dX4_call_64 rfl ⟨rfl, by rw [hu61_0]; exact congrArg (bgs []) (show (σ 80, σ 81 0) = bgS 10 (σ 80, σ 81 0) from (if_neg (i_ge c_29)).symm), hu61_1⟩
      · have nc_29 : ¬ (30 ≤ nN (σ 81 0)) := fun z => c_29 ((nle (nl 30) hTn.1 (by omega) (by omega)).mpr z)
        refine V.aload_n (pc := 32) 1 hC dX4_call_32 rfl ?_
        refine V.get (pc := 33) (v := .ref (a 80)) hC cf_X4 5 0 fl_X4_9 (by decide) gx_5 rfl dX4_call_33 ?_
        refine V.aload_n (pc := 36) 1 hC dX4_call_36 rfl ?_
        refine V.get (pc := 37) (v := .int (σ 81 0)) hC cf_X4 5 1 fl_X4_15 (by decide) gx_5 rfl dX4_call_37 ?_
        refine V.iload (pc := 40) 0 hC dX4_call_40 rfl ?_
        refine V.iast (pc := 42) (f := σ 80) hC 46 (nN (σ 81 0)) (wX k g a (va_up σ 80 (upd (σ 80) (nN (σ 81 0)) 10)) ν) gx_46 hTn.1 (by omega) (by decide) rfl dX4_call_42 ?_
        refine V.aload_n (pc := 43) 1 hC dX4_call_43 rfl ?_
        refine V.dup (pc := 44) hC dX4_call_44 rfl ?_
        refine V.get (pc := 45) (v := .int (σ 81 0)) hC cf_X4 5 1 fl_X4_15 (by decide) gx_5 rfl dX4_call_45 ?_
        refine V.iconst (pc := 48) 1 hC dX4_call_48 (by decide) ?_
        refine V.iadd (pc := 49) hC dX4_call_49 ?_
        refine V.put (pc := 50) (v := .int ((σ 81 0) + 1)) hC cf_X4 5 1 (wX k g a (va_up (va_up σ 80 (upd (σ 80) (nN (σ 81 0)) 10)) 81 (fun _ => (σ 81 0) + 1)) ν) fl_X4_15 (by decide) gx_5 rfl rfl rfl (Nat.le_of_ble_eq_true rfl) rfl dX4_call_50 ?_
        refine V.aload_n (pc := 53) 1 hC dX4_call_53 rfl ?_
        refine V.iload (pc := 54) 0 hC dX4_call_54 rfl ?_
        refine V.iload_n (pc := 56) 4 hC dX4_call_56 rfl ?_
        refine V.iload (pc := 57) 5 hC dX4_call_57 rfl ?_
        refine V.iconst (pc := 59) 1 hC dX4_call_59 (by decide) ?_
        refine V.iadd (pc := 60) hC dX4_call_60 ?_
        refine V.sts (st' := [.int (nI (q + 1)), .int x, .int 10, .ref (a 5)]) (stc (ncast (b := q + 1) (nadd rfl (nl 1)) (by omega)) (stk (stk (stk rfl)))) ?_
        refine V.callV0 (pc := 61) (as := [.int 10, .int x, .int (nI (q + 1))]) hC (c_work_3_10 (va_up (va_up σ 80 (upd (σ 80) (nN (σ 81 0)) 10)) 81 (fun _ => (σ 81 0) + 1)) ν x (q + 1) h82 h83 (isN.mk (nadd hTn.1 (nl 1)) (by omega) (by omega)) (by omega)) mu_X4_work ml_X4_53 (by decide) ⟨5, 4, TX4, 6, _, rfl, gx_5⟩ rfl (Nat.le_of_ble_eq_true rfl) dX4_call_61 ?_
        rintro _ ⟨f61_0, i61_1⟩ ⟨rfl, hu61_0, hu61_1⟩
        have hu61_0 : (f61_0, i61_1) = bgs [] ((upd (σ 80) (nN (σ 81 0)) 10), ((σ 81 0) + 1)) := hu61_0
        have hu61_1 : isN i61_1 30 := hu61_1
        show V X (wX k g a (va_up (va_up σ 80 f61_0) 81 (fun _ => i61_1)) ν) [(5, .int 10), (0, .ref (a 5)), (1, .int 0), (2, .int 3), (3, .int x), (4, .int (nI q))] [.int (x + ν 85 0)] 64
        exact hR (x + ν 85 0) (f61_0, i61_1) _ _ dX4_call_64 rfl ⟨rfl, by rw [hu61_0]; exact congrArg (bgs []) (show (upd (σ 80) (nN (σ 81 0)) 10, σ 81 0 + 1) = bgS 10 (σ 80, σ 81 0) from (if_pos (i_nle c_29)).symm), hu61_1⟩
    · have nc_11 : ¬ (q ≤ 20) := fun z => c_11 ((nle rfl (nl 20) (by omega) (by omega)).mpr z)
      exfalso; omega
set_option maxHeartbeats 4000000 in
set_option maxRecDepth 100000 in
theorem c_work_3_11 {l : Launch} {D : va_G} {k : Nat → ClassId} {g a : Nat → Nat} (σ ν : St) (x : Int32) (q : Nat) (h82 : ν 82 0 = 0) (h83 : ν 83 0 = 3) (hTn : isN (σ 81 0) 30) (hq : q + 1 ≤ 20) : Ct l D k g yX4_work cX4_work 5 (some .int) 2 49 [.ref (a 5), .int 11, .int x, .int (nI q)] (S := Rw × Int32) (wX k g a σ ν) (fun uu => wX k g a (va_up (va_up σ 80 uu.1) 81 (fun _ => uu.2)) ν) (fun vv uu => vv = some (.int ((x + ν 85 0) * 2)) ∧ (uu.1, uu.2) = bgs [10] (σ 80, σ 81 0) ∧ isN uu.2 30) := by
  refine Ct.ofI RX4 rfl (by decide +kernel) (Nat.le_of_ble_eq_true rfl) (fun X hC hR => ?_)
  show V X (wX k g a σ ν) [(0, .ref (a 5)), (1, .int 11), (2, .int x), (3, .int (nI q))] [] 0
  refine V.getAboveN (pc := 0) hC dX4_work_0 rfl ?_
  refine V.iload_n (pc := 3) 1 hC dX4_work_3 rfl ?_
  refine V.bipush (pc := 4) 10 hC dX4_work_4 (by decide) ?_
  refine V.idiv (pc := 6) hC dX4_work_6 (by decide) ?_
  refine V.eqi (y := 1) (by decide) ?_
  refine V.iconst (pc := 7) 1 hC dX4_work_7 (by decide) ?_
  refine V.isub (pc := 8) hC dX4_work_8 ?_
  refine V.eqi (y := 0) (by decide) ?_
  refine V.ldAbove (pc := 9) hC 0 (-1) (nl 0) (by decide) rfl dX4_work_9 ?_
  refine V.istore (pc := 10) [(4, .int (-1)), (0, .ref (a 5)), (1, .int 11), (2, .int x), (3, .int (nI q))] hC dX4_work_10 (by decide) rfl ?_
  refine V.iload_n (pc := 12) 2 hC dX4_work_12 rfl ?_
  refine V.lookup (pc := 13) 135 hC dX4_work_13 (by decide) rfl (by decide) ?_
  refine V.aload_n (pc := 135) 1 hC dX4_work_135 rfl ?_
  refine V.iconst (pc := 136) 0 hC dX4_work_136 (by decide) ?_
  refine V.aload_n (pc := 137) 1 hC dX4_work_137 rfl ?_
  refine V.get (pc := 138) (v := .int (ν 83 0)) hC cf_X4 5 3 fl_X4_28 (by decide) gx_5 rfl dX4_work_138 ?_
  refine V.eqi (y := 3) (h83) ?_
  refine V.iload_n (pc := 141) 3 hC dX4_work_141 rfl ?_
  refine V.iload_n (pc := 142) 4 hC dX4_work_142 rfl ?_
  refine V.callV0 (pc := 143) (as := [.int 0, .int 3, .int x, .int (nI q)]) hC (c_call_3_0_3 σ ν x q h82 h83 hTn (by omega)) mu_X4_call ml_X4_39 (by decide) ⟨5, 4, TX4, 6, _, rfl, gx_5⟩ rfl (Nat.le_of_ble_eq_true rfl) dX4_work_143 ?_
  rintro _ ⟨f143_0, i143_1⟩ ⟨rfl, hu143_0, hu143_1⟩
  have hu143_0 : (f143_0, i143_1) = bgs [10] (σ 80, σ 81 0) := hu143_0
  have hu143_1 : isN i143_1 30 := hu143_1
  show V X (wX k g a (va_up (va_up σ 80 f143_0) 81 (fun _ => i143_1)) ν) [(4, .int (-1)), (0, .ref (a 5)), (1, .int 11), (2, .int x), (3, .int (nI q))] [.int (x + ν 85 0)] 146
  refine V.iconst (pc := 146) 2 hC dX4_work_146 (by decide) ?_
  refine V.imul (pc := 147) hC dX4_work_147 ?_
  exact hR ((x + ν 85 0) * 2) (f143_0, i143_1) _ _ dX4_work_148 rfl ⟨rfl, hu143_0, hu143_1⟩
set_option maxHeartbeats 4000000 in
set_option maxRecDepth 100000 in
theorem c_call_3_1_3 {l : Launch} {D : va_G} {k : Nat → ClassId} {g a : Nat → Nat} (σ ν : St) (x : Int32) (q : Nat) (h82 : ν 82 0 = 0) (h83 : ν 83 0 = 3) (hTn : isN (σ 81 0) 30) (hq : q + 2 ≤ 20) : Ct l D k g yX4_call cX4_call 6 (some .int) 3 73 [.ref (a 5), .int 1, .int 3, .int x, .int (nI q)] (S := Rw × Int32) (wX k g a σ ν) (fun uu => wX k g a (va_up (va_up σ 80 uu.1) 81 (fun _ => uu.2)) ν) (fun vv uu => vv = some (.int ((x + ν 85 0) * 2)) ∧ (uu.1, uu.2) = bgs [11, 10] (σ 80, σ 81 0) ∧ isN uu.2 30) := by
  refine Ct.ofI RX4 rfl (by decide +kernel) (Nat.le_of_ble_eq_true rfl) (fun X hC hR => ?_)
  have hTb := hTn.2
  show V X (wX k g a σ ν) [(0, .ref (a 5)), (1, .int 1), (2, .int 3), (3, .int x), (4, .int (nI q))] [] 0
  refine V.aload_n (pc := 0) 0 hC dX4_call_0 rfl ?_
  refine V.get (pc := 1) (v := .int (ν 82 0)) hC cf_X4 5 2 fl_X4_19 (by decide) gx_5 rfl dX4_call_1 ?_
  refine V.eqi (y := 0) (h82) ?_
  refine V.if_ne (pc := 4) 14 hC dX4_call_4 (by decide) (fun c_4 => ?_) (fun c_4 => ?_)
  · have nc_4 : ¬ (0 = 0) := fun z => c_4 ((neq (nl 0) (nl 0) (by omega) (by omega)).mpr z)
    exact absurd c_4 (by decide)
  · have nc_4 : 0 = 0 := (neq (nl 0) (nl 0) (by omega) (by omega)).mp c_4
    refine V.iload (pc := 7) 4 hC dX4_call_7 rfl ?_
    refine V.bipush (pc := 9) 20 hC dX4_call_9 (by decide) ?_
    refine V.icmp_le (pc := 11) 16 hC dX4_call_11 (by decide) (fun c_11 => ?_) (fun c_11 => ?_)
    · have nc_11 : q ≤ 20 := (nle rfl (nl 20) (by omega) (by omega)).mp c_11
      refine V.iload_n (pc := 16) 1 hC dX4_call_16 rfl ?_
      refine V.iload_n (pc := 17) 2 hC dX4_call_17 rfl ?_
      refine V.callS0 (pc := 18) (as := [.int 1, .int 3]) hC (c_find_1_3  ) ms_X4_find ml_X4_49 (by decide) rfl (Nat.le_of_ble_eq_true rfl) dX4_call_18 ?_
      rintro _ _ rfl
      show V X (wX k g a σ ν) [(0, .ref (a 5)), (1, .int 1), (2, .int 3), (3, .int x), (4, .int (nI q))] [.int 11] 21
      refine V.istore (pc := 21) [(5, .int 11), (0, .ref (a 5)), (1, .int 1), (2, .int 3), (3, .int x), (4, .int (nI q))] hC dX4_call_21 (by decide) rfl ?_
      refine V.aload_n (pc := 23) 1 hC dX4_call_23 rfl ?_
      refine V.get (pc := 24) (v := .int (σ 81 0)) hC cf_X4 5 1 fl_X4_15 (by decide) gx_5 rfl dX4_call_24 ?_
      refine V.bipush (pc := 27) 30 hC dX4_call_27 (by decide) ?_
      refine V.icmp_ge (pc := 29) 53 hC dX4_call_29 (by decide) (fun c_29 => ?_) (fun c_29 => ?_)
      · have nc_29 : 30 ≤ nN (σ 81 0) := (nle (nl 30) hTn.1 (by omega) (by omega)).mp c_29
        refine V.aload_n (pc := 53) 1 hC dX4_call_53 rfl ?_
        refine V.iload (pc := 54) 0 hC dX4_call_54 rfl ?_
        refine V.iload_n (pc := 56) 4 hC dX4_call_56 rfl ?_
        refine V.iload (pc := 57) 5 hC dX4_call_57 rfl ?_
        refine V.iconst (pc := 59) 1 hC dX4_call_59 (by decide) ?_
        refine V.iadd (pc := 60) hC dX4_call_60 ?_
        refine V.sts (st' := [.int (nI (q + 1)), .int x, .int 11, .ref (a 5)]) (stc (ncast (b := q + 1) (nadd rfl (nl 1)) (by omega)) (stk (stk (stk rfl)))) ?_
        refine V.callV0 (pc := 61) (as := [.int 11, .int x, .int (nI (q + 1))]) hC (c_work_3_11 σ ν x (q + 1) h82 h83 hTn (by omega)) mu_X4_work ml_X4_53 (by decide) ⟨5, 4, TX4, 6, _, rfl, gx_5⟩ rfl (Nat.le_of_ble_eq_true rfl) dX4_call_61 ?_
        rintro _ ⟨f61_0, i61_1⟩ ⟨rfl, hu61_0, hu61_1⟩
        have hu61_0 : (f61_0, i61_1) = bgs [10] (σ 80, σ 81 0) := hu61_0
        have hu61_1 : isN i61_1 30 := hu61_1
        show V X (wX k g a (va_up (va_up σ 80 f61_0) 81 (fun _ => i61_1)) ν) [(5, .int 11), (0, .ref (a 5)), (1, .int 1), (2, .int 3), (3, .int x), (4, .int (nI q))] [.int ((x + ν 85 0) * 2)] 64
        exact hR ((x + ν 85 0) * 2) (f61_0, i61_1) _ _ dX4_call_64 rfl ⟨rfl, by rw [hu61_0]; exact congrArg (bgs [10]) (show (σ 80, σ 81 0) = bgS 11 (σ 80, σ 81 0) from (if_neg (i_ge c_29)).symm), hu61_1⟩
      · have nc_29 : ¬ (30 ≤ nN (σ 81 0)) := fun z => c_29 ((nle (nl 30) hTn.1 (by omega) (by omega)).mpr z)
        refine V.aload_n (pc := 32) 1 hC dX4_call_32 rfl ?_
        refine V.get (pc := 33) (v := .ref (a 80)) hC cf_X4 5 0 fl_X4_9 (by decide) gx_5 rfl dX4_call_33 ?_
        refine V.aload_n (pc := 36) 1 hC dX4_call_36 rfl ?_
        refine V.get (pc := 37) (v := .int (σ 81 0)) hC cf_X4 5 1 fl_X4_15 (by decide) gx_5 rfl dX4_call_37 ?_
        refine V.iload (pc := 40) 0 hC dX4_call_40 rfl ?_
        refine V.iast (pc := 42) (f := σ 80) hC 46 (nN (σ 81 0)) (wX k g a (va_up σ 80 (upd (σ 80) (nN (σ 81 0)) 11)) ν) gx_46 hTn.1 (by omega) (by decide) rfl dX4_call_42 ?_
        refine V.aload_n (pc := 43) 1 hC dX4_call_43 rfl ?_
        refine V.dup (pc := 44) hC dX4_call_44 rfl ?_
        refine V.get (pc := 45) (v := .int (σ 81 0)) hC cf_X4 5 1 fl_X4_15 (by decide) gx_5 rfl dX4_call_45 ?_
        refine V.iconst (pc := 48) 1 hC dX4_call_48 (by decide) ?_
        refine V.iadd (pc := 49) hC dX4_call_49 ?_
        refine V.put (pc := 50) (v := .int ((σ 81 0) + 1)) hC cf_X4 5 1 (wX k g a (va_up (va_up σ 80 (upd (σ 80) (nN (σ 81 0)) 11)) 81 (fun _ => (σ 81 0) + 1)) ν) fl_X4_15 (by decide) gx_5 rfl rfl rfl (Nat.le_of_ble_eq_true rfl) rfl dX4_call_50 ?_
        refine V.aload_n (pc := 53) 1 hC dX4_call_53 rfl ?_
        refine V.iload (pc := 54) 0 hC dX4_call_54 rfl ?_
        refine V.iload_n (pc := 56) 4 hC dX4_call_56 rfl ?_
        refine V.iload (pc := 57) 5 hC dX4_call_57 rfl ?_
        refine V.iconst (pc := 59) 1 hC dX4_call_59 (by decide) ?_
        refine V.iadd (pc := 60) hC dX4_call_60 ?_
        refine V.sts (st' := [.int (nI (q + 1)), .int x, .int 11, .ref (a 5)]) (stc (ncast (b := q + 1) (nadd rfl (nl 1)) (by omega)) (stk (stk (stk rfl)))) ?_
        refine V.callV0 (pc := 61) (as := [.int 11, .int x, .int (nI (q + 1))]) hC (c_work_3_11 (va_up (va_up σ 80 (upd (σ 80) (nN (σ 81 0)) 11)) 81 (fun _ => (σ 81 0) + 1)) ν x (q + 1) h82 h83 (isN.mk (nadd hTn.1 (nl 1)) (by omega) (by omega)) (by omega)) mu_X4_work ml_X4_53 (by decide) ⟨5, 4, TX4, 6, _, rfl, gx_5⟩ rfl (Nat.le_of_ble_eq_true rfl) dX4_call_61 ?_
        rintro _ ⟨f61_0, i61_1⟩ ⟨rfl, hu61_0, hu61_1⟩
        have hu61_0 : (f61_0, i61_1) = bgs [10] ((upd (σ 80) (nN (σ 81 0)) 11), ((σ 81 0) + 1)) := hu61_0
        have hu61_1 : isN i61_1 30 := hu61_1
        show V X (wX k g a (va_up (va_up σ 80 f61_0) 81 (fun _ => i61_1)) ν) [(5, .int 11), (0, .ref (a 5)), (1, .int 1), (2, .int 3), (3, .int x), (4, .int (nI q))] [.int ((x + ν 85 0) * 2)] 64
        exact hR ((x + ν 85 0) * 2) (f61_0, i61_1) _ _ dX4_call_64 rfl ⟨rfl, by rw [hu61_0]; exact congrArg (bgs [10]) (show (upd (σ 80) (nN (σ 81 0)) 11, σ 81 0 + 1) = bgS 11 (σ 80, σ 81 0) from (if_pos (i_nle c_29)).symm), hu61_1⟩
    · have nc_11 : ¬ (q ≤ 20) := fun z => c_11 ((nle rfl (nl 20) (by omega) (by omega)).mpr z)
      exfalso; omega
set_option maxHeartbeats 4000000 in
set_option maxRecDepth 100000 in
theorem c_work_3_12 {l : Launch} {D : va_G} {k : Nat → ClassId} {g a : Nat → Nat} (σ ν : St) (x : Int32) (q : Nat) (h82 : ν 82 0 = 0) (h83 : ν 83 0 = 3) (hTn : isN (σ 81 0) 30) (hq : q + 2 ≤ 20) : Ct l D k g yX4_work cX4_work 5 (some .int) 4 98 [.ref (a 5), .int 12, .int x, .int (nI q)] (S := Rw × Int32) (wX k g a σ ν) (fun uu => wX k g a (va_up (va_up σ 80 uu.1) 81 (fun _ => uu.2)) ν) (fun vv uu => vv = some (.int (((x + ν 85 0) * 2) - ν 84 0)) ∧ (uu.1, uu.2) = bgs [11, 10] (σ 80, σ 81 0) ∧ isN uu.2 30) := by
  refine Ct.ofI RX4 rfl (by decide +kernel) (Nat.le_of_ble_eq_true rfl) (fun X hC hR => ?_)
  show V X (wX k g a σ ν) [(0, .ref (a 5)), (1, .int 12), (2, .int x), (3, .int (nI q))] [] 0
  refine V.getAboveN (pc := 0) hC dX4_work_0 rfl ?_
  refine V.iload_n (pc := 3) 1 hC dX4_work_3 rfl ?_
  refine V.bipush (pc := 4) 10 hC dX4_work_4 (by decide) ?_
  refine V.idiv (pc := 6) hC dX4_work_6 (by decide) ?_
  refine V.eqi (y := 1) (by decide) ?_
  refine V.iconst (pc := 7) 1 hC dX4_work_7 (by decide) ?_
  refine V.isub (pc := 8) hC dX4_work_8 ?_
  refine V.eqi (y := 0) (by decide) ?_
  refine V.ldAbove (pc := 9) hC 0 (-1) (nl 0) (by decide) rfl dX4_work_9 ?_
  refine V.istore (pc := 10) [(4, .int (-1)), (0, .ref (a 5)), (1, .int 12), (2, .int x), (3, .int (nI q))] hC dX4_work_10 (by decide) rfl ?_
  refine V.iload_n (pc := 12) 2 hC dX4_work_12 rfl ?_
  refine V.lookup (pc := 13) 149 hC dX4_work_13 (by decide) rfl (by decide) ?_
  refine V.aload_n (pc := 149) 1 hC dX4_work_149 rfl ?_
  refine V.iconst (pc := 150) 1 hC dX4_work_150 (by decide) ?_
  refine V.aload_n (pc := 151) 1 hC dX4_work_151 rfl ?_
  refine V.get (pc := 152) (v := .int (ν 83 0)) hC cf_X4 5 3 fl_X4_28 (by decide) gx_5 rfl dX4_work_152 ?_
  refine V.eqi (y := 3) (h83) ?_
  refine V.iload_n (pc := 155) 3 hC dX4_work_155 rfl ?_
  refine V.iload_n (pc := 156) 4 hC dX4_work_156 rfl ?_
  refine V.callV0 (pc := 157) (as := [.int 1, .int 3, .int x, .int (nI q)]) hC (c_call_3_1_3 σ ν x q h82 h83 hTn (by omega)) mu_X4_call ml_X4_39 (by decide) ⟨5, 4, TX4, 6, _, rfl, gx_5⟩ rfl (Nat.le_of_ble_eq_true rfl) dX4_work_157 ?_
  rintro _ ⟨f157_0, i157_1⟩ ⟨rfl, hu157_0, hu157_1⟩
  have hu157_0 : (f157_0, i157_1) = bgs [11, 10] (σ 80, σ 81 0) := hu157_0
  have hu157_1 : isN i157_1 30 := hu157_1
  show V X (wX k g a (va_up (va_up σ 80 f157_0) 81 (fun _ => i157_1)) ν) [(4, .int (-1)), (0, .ref (a 5)), (1, .int 12), (2, .int x), (3, .int (nI q))] [.int ((x + ν 85 0) * 2)] 160
  refine V.aload_n (pc := 160) 1 hC dX4_work_160 rfl ?_
  refine V.get (pc := 161) (v := .int (ν 84 0)) hC cf_X4 5 4 fl_X4_33 (by decide) gx_5 rfl dX4_work_161 ?_
  refine V.isub (pc := 164) hC dX4_work_164 ?_
  exact hR (((x + ν 85 0) * 2) - (ν 84 0)) (f157_0, i157_1) _ _ dX4_work_165 rfl ⟨rfl, hu157_0, hu157_1⟩
set_option maxHeartbeats 4000000 in
set_option maxRecDepth 100000 in
theorem c_call_3_2_0 {l : Launch} {D : va_G} {k : Nat → ClassId} {g a : Nat → Nat} (σ ν : St) (x : Int32) (q : Nat) (h82 : ν 82 0 = 0) (h83 : ν 83 0 = 3) (hTn : isN (σ 81 0) 30) (hq : q + 3 ≤ 20) : Ct l D k g yX4_call cX4_call 6 (some .int) 5 122 [.ref (a 5), .int 2, .int 0, .int x, .int (nI q)] (S := Rw × Int32) (wX k g a σ ν) (fun uu => wX k g a (va_up (va_up σ 80 uu.1) 81 (fun _ => uu.2)) ν) (fun vv uu => vv = some (.int (((x + ν 85 0) * 2) - ν 84 0)) ∧ (uu.1, uu.2) = bgs [12, 11, 10] (σ 80, σ 81 0) ∧ isN uu.2 30) := by
  refine Ct.ofI RX4 rfl (by decide +kernel) (Nat.le_of_ble_eq_true rfl) (fun X hC hR => ?_)
  have hTb := hTn.2
  show V X (wX k g a σ ν) [(0, .ref (a 5)), (1, .int 2), (2, .int 0), (3, .int x), (4, .int (nI q))] [] 0
  refine V.aload_n (pc := 0) 0 hC dX4_call_0 rfl ?_
  refine V.get (pc := 1) (v := .int (ν 82 0)) hC cf_X4 5 2 fl_X4_19 (by decide) gx_5 rfl dX4_call_1 ?_
  refine V.eqi (y := 0) (h82) ?_
  refine V.if_ne (pc := 4) 14 hC dX4_call_4 (by decide) (fun c_4 => ?_) (fun c_4 => ?_)
  · have nc_4 : ¬ (0 = 0) := fun z => c_4 ((neq (nl 0) (nl 0) (by omega) (by omega)).mpr z)
    exact absurd c_4 (by decide)
  · have nc_4 : 0 = 0 := (neq (nl 0) (nl 0) (by omega) (by omega)).mp c_4
    refine V.iload (pc := 7) 4 hC dX4_call_7 rfl ?_
    refine V.bipush (pc := 9) 20 hC dX4_call_9 (by decide) ?_
    refine V.icmp_le (pc := 11) 16 hC dX4_call_11 (by decide) (fun c_11 => ?_) (fun c_11 => ?_)
    · have nc_11 : q ≤ 20 := (nle rfl (nl 20) (by omega) (by omega)).mp c_11
      refine V.iload_n (pc := 16) 1 hC dX4_call_16 rfl ?_
      refine V.iload_n (pc := 17) 2 hC dX4_call_17 rfl ?_
      refine V.callS0 (pc := 18) (as := [.int 2, .int 0]) hC (c_find_2_0  ) ms_X4_find ml_X4_49 (by decide) rfl (Nat.le_of_ble_eq_true rfl) dX4_call_18 ?_
      rintro _ _ rfl
      show V X (wX k g a σ ν) [(0, .ref (a 5)), (1, .int 2), (2, .int 0), (3, .int x), (4, .int (nI q))] [.int 12] 21
      refine V.istore (pc := 21) [(5, .int 12), (0, .ref (a 5)), (1, .int 2), (2, .int 0), (3, .int x), (4, .int (nI q))] hC dX4_call_21 (by decide) rfl ?_
      refine V.aload_n (pc := 23) 1 hC dX4_call_23 rfl ?_
      refine V.get (pc := 24) (v := .int (σ 81 0)) hC cf_X4 5 1 fl_X4_15 (by decide) gx_5 rfl dX4_call_24 ?_
      refine V.bipush (pc := 27) 30 hC dX4_call_27 (by decide) ?_
      refine V.icmp_ge (pc := 29) 53 hC dX4_call_29 (by decide) (fun c_29 => ?_) (fun c_29 => ?_)
      · have nc_29 : 30 ≤ nN (σ 81 0) := (nle (nl 30) hTn.1 (by omega) (by omega)).mp c_29
        refine V.aload_n (pc := 53) 1 hC dX4_call_53 rfl ?_
        refine V.iload (pc := 54) 0 hC dX4_call_54 rfl ?_
        refine V.iload_n (pc := 56) 4 hC dX4_call_56 rfl ?_
        refine V.iload (pc := 57) 5 hC dX4_call_57 rfl ?_
        refine V.iconst (pc := 59) 1 hC dX4_call_59 (by decide) ?_
        refine V.iadd (pc := 60) hC dX4_call_60 ?_
        refine V.sts (st' := [.int (nI (q + 1)), .int x, .int 12, .ref (a 5)]) (stc (ncast (b := q + 1) (nadd rfl (nl 1)) (by omega)) (stk (stk (stk rfl)))) ?_
        refine V.callV0 (pc := 61) (as := [.int 12, .int x, .int (nI (q + 1))]) hC (c_work_3_12 σ ν x (q + 1) h82 h83 hTn (by omega)) mu_X4_work ml_X4_53 (by decide) ⟨5, 4, TX4, 6, _, rfl, gx_5⟩ rfl (Nat.le_of_ble_eq_true rfl) dX4_call_61 ?_
        rintro _ ⟨f61_0, i61_1⟩ ⟨rfl, hu61_0, hu61_1⟩
        have hu61_0 : (f61_0, i61_1) = bgs [11, 10] (σ 80, σ 81 0) := hu61_0
        have hu61_1 : isN i61_1 30 := hu61_1
        show V X (wX k g a (va_up (va_up σ 80 f61_0) 81 (fun _ => i61_1)) ν) [(5, .int 12), (0, .ref (a 5)), (1, .int 2), (2, .int 0), (3, .int x), (4, .int (nI q))] [.int (((x + ν 85 0) * 2) - ν 84 0)] 64
        exact hR (((x + ν 85 0) * 2) - ν 84 0) (f61_0, i61_1) _ _ dX4_call_64 rfl ⟨rfl, by rw [hu61_0]; exact congrArg (bgs [11, 10]) (show (σ 80, σ 81 0) = bgS 12 (σ 80, σ 81 0) from (if_neg (i_ge c_29)).symm), hu61_1⟩
      · have nc_29 : ¬ (30 ≤ nN (σ 81 0)) := fun z => c_29 ((nle (nl 30) hTn.1 (by omega) (by omega)).mpr z)
        refine V.aload_n (pc := 32) 1 hC dX4_call_32 rfl ?_
        refine V.get (pc := 33) (v := .ref (a 80)) hC cf_X4 5 0 fl_X4_9 (by decide) gx_5 rfl dX4_call_33 ?_
        refine V.aload_n (pc := 36) 1 hC dX4_call_36 rfl ?_
        refine V.get (pc := 37) (v := .int (σ 81 0)) hC cf_X4 5 1 fl_X4_15 (by decide) gx_5 rfl dX4_call_37 ?_
        refine V.iload (pc := 40) 0 hC dX4_call_40 rfl ?_
        refine V.iast (pc := 42) (f := σ 80) hC 46 (nN (σ 81 0)) (wX k g a (va_up σ 80 (upd (σ 80) (nN (σ 81 0)) 12)) ν) gx_46 hTn.1 (by omega) (by decide) rfl dX4_call_42 ?_
        refine V.aload_n (pc := 43) 1 hC dX4_call_43 rfl ?_
        refine V.dup (pc := 44) hC dX4_call_44 rfl ?_
        refine V.get (pc := 45) (v := .int (σ 81 0)) hC cf_X4 5 1 fl_X4_15 (by decide) gx_5 rfl dX4_call_45 ?_
        refine V.iconst (pc := 48) 1 hC dX4_call_48 (by decide) ?_
        refine V.iadd (pc := 49) hC dX4_call_49 ?_
        refine V.put (pc := 50) (v := .int ((σ 81 0) + 1)) hC cf_X4 5 1 (wX k g a (va_up (va_up σ 80 (upd (σ 80) (nN (σ 81 0)) 12)) 81 (fun _ => (σ 81 0) + 1)) ν) fl_X4_15 (by decide) gx_5 rfl rfl rfl (Nat.le_of_ble_eq_true rfl) rfl dX4_call_50 ?_
        refine V.aload_n (pc := 53) 1 hC dX4_call_53 rfl ?_
        refine V.iload (pc := 54) 0 hC dX4_call_54 rfl ?_
        refine V.iload_n (pc := 56) 4 hC dX4_call_56 rfl ?_
        refine V.iload (pc := 57) 5 hC dX4_call_57 rfl ?_
        refine V.iconst (pc := 59) 1 hC dX4_call_59 (by decide) ?_
        refine V.iadd (pc := 60) hC dX4_call_60 ?_
        refine V.sts (st' := [.int (nI (q + 1)), .int x, .int 12, .ref (a 5)]) (stc (ncast (b := q + 1) (nadd rfl (nl 1)) (by omega)) (stk (stk (stk rfl)))) ?_
        refine V.callV0 (pc := 61) (as := [.int 12, .int x, .int (nI (q + 1))]) hC (c_work_3_12 (va_up (va_up σ 80 (upd (σ 80) (nN (σ 81 0)) 12)) 81 (fun _ => (σ 81 0) + 1)) ν x (q + 1) h82 h83 (isN.mk (nadd hTn.1 (nl 1)) (by omega) (by omega)) (by omega)) mu_X4_work ml_X4_53 (by decide) ⟨5, 4, TX4, 6, _, rfl, gx_5⟩ rfl (Nat.le_of_ble_eq_true rfl) dX4_call_61 ?_
        rintro _ ⟨f61_0, i61_1⟩ ⟨rfl, hu61_0, hu61_1⟩
        have hu61_0 : (f61_0, i61_1) = bgs [11, 10] ((upd (σ 80) (nN (σ 81 0)) 12), ((σ 81 0) + 1)) := hu61_0
        have hu61_1 : isN i61_1 30 := hu61_1
        show V X (wX k g a (va_up (va_up σ 80 f61_0) 81 (fun _ => i61_1)) ν) [(5, .int 12), (0, .ref (a 5)), (1, .int 2), (2, .int 0), (3, .int x), (4, .int (nI q))] [.int (((x + ν 85 0) * 2) - ν 84 0)] 64
        exact hR (((x + ν 85 0) * 2) - ν 84 0) (f61_0, i61_1) _ _ dX4_call_64 rfl ⟨rfl, by rw [hu61_0]; exact congrArg (bgs [11, 10]) (show (upd (σ 80) (nN (σ 81 0)) 12, σ 81 0 + 1) = bgS 12 (σ 80, σ 81 0) from (if_pos (i_nle c_29)).symm), hu61_1⟩
    · have nc_11 : ¬ (q ≤ 20) := fun z => c_11 ((nle rfl (nl 20) (by omega) (by omega)).mpr z)
      exfalso; omega
set_option maxHeartbeats 4000000 in
set_option maxRecDepth 100000 in
theorem c_work_3_40 {l : Launch} {D : va_G} {k : Nat → ClassId} {g a : Nat → Nat} (σ ν : St) (x : Int32) (q : Nat) (h82 : ν 82 0 = 0) (h83 : ν 83 0 = 3) (hTn : isN (σ 81 0) 30) (hq : q + 3 ≤ 20) : Ct l D k g yX4_work cX4_work 5 (some .int) 6 147 [.ref (a 5), .int 40, .int x, .int (nI q)] (S := Rw × Int32) (wX k g a σ ν) (fun uu => wX k g a (va_up (va_up σ 80 uu.1) 81 (fun _ => uu.2)) ν) (fun vv uu => vv = some (.int ((((x / 2) + ν 85 0) * 2) - ν 84 0)) ∧ (uu.1, uu.2) = bgs [12, 11, 10] (σ 80, σ 81 0) ∧ isN uu.2 30) := by
  refine Ct.ofI RX4 rfl (by decide +kernel) (Nat.le_of_ble_eq_true rfl) (fun X hC hR => ?_)
  show V X (wX k g a σ ν) [(0, .ref (a 5)), (1, .int 40), (2, .int x), (3, .int (nI q))] [] 0
  refine V.getAboveN (pc := 0) hC dX4_work_0 rfl ?_
  refine V.iload_n (pc := 3) 1 hC dX4_work_3 rfl ?_
  refine V.bipush (pc := 4) 10 hC dX4_work_4 (by decide) ?_
  refine V.idiv (pc := 6) hC dX4_work_6 (by decide) ?_
  refine V.eqi (y := 4) (by decide) ?_
  refine V.iconst (pc := 7) 1 hC dX4_work_7 (by decide) ?_
  refine V.isub (pc := 8) hC dX4_work_8 ?_
  refine V.eqi (y := 3) (by decide) ?_
  refine V.ldAbove (pc := 9) hC 3 0 (nl 3) (by decide) rfl dX4_work_9 ?_
  refine V.istore (pc := 10) [(4, .int 0), (0, .ref (a 5)), (1, .int 40), (2, .int x), (3, .int (nI q))] hC dX4_work_10 (by decide) rfl ?_
  refine V.iload_n (pc := 12) 2 hC dX4_work_12 rfl ?_
  refine V.lookup (pc := 13) 217 hC dX4_work_13 (by decide) rfl (by decide) ?_
  refine V.aload_n (pc := 217) 1 hC dX4_work_217 rfl ?_
  refine V.iconst (pc := 218) 2 hC dX4_work_218 (by decide) ?_
  refine V.iload (pc := 219) 0 hC dX4_work_219 rfl ?_
  refine V.iload_n (pc := 221) 3 hC dX4_work_221 rfl ?_
  refine V.iconst (pc := 222) 2 hC dX4_work_222 (by decide) ?_
  refine V.idiv (pc := 223) hC dX4_work_223 (by decide) ?_
  refine V.iload_n (pc := 224) 4 hC dX4_work_224 rfl ?_
  refine V.callV0 (pc := 225) (as := [.int 2, .int 0, .int (x / 2), .int (nI q)]) hC (c_call_3_2_0 σ ν (x / 2) q h82 h83 hTn (by omega)) mu_X4_call ml_X4_39 (by decide) ⟨5, 4, TX4, 6, _, rfl, gx_5⟩ rfl (Nat.le_of_ble_eq_true rfl) dX4_work_225 ?_
  rintro _ ⟨f225_0, i225_1⟩ ⟨rfl, hu225_0, hu225_1⟩
  have hu225_0 : (f225_0, i225_1) = bgs [12, 11, 10] (σ 80, σ 81 0) := hu225_0
  have hu225_1 : isN i225_1 30 := hu225_1
  show V X (wX k g a (va_up (va_up σ 80 f225_0) 81 (fun _ => i225_1)) ν) [(4, .int 0), (0, .ref (a 5)), (1, .int 40), (2, .int x), (3, .int (nI q))] [.int ((((x / 2) + ν 85 0) * 2) - ν 84 0)] 228
  exact hR ((((x / 2) + ν 85 0) * 2) - ν 84 0) (f225_0, i225_1) _ _ dX4_work_228 rfl ⟨rfl, hu225_0, hu225_1⟩
set_option maxHeartbeats 4000000 in
set_option maxRecDepth 100000 in
theorem c_call_3_2_3 {l : Launch} {D : va_G} {k : Nat → ClassId} {g a : Nat → Nat} (σ ν : St) (x : Int32) (q : Nat) (h82 : ν 82 0 = 0) (h83 : ν 83 0 = 3) (hTn : isN (σ 81 0) 30) (hq : q + 4 ≤ 20) : Ct l D k g yX4_call cX4_call 6 (some .int) 7 171 [.ref (a 5), .int 2, .int 3, .int x, .int (nI q)] (S := Rw × Int32) (wX k g a σ ν) (fun uu => wX k g a (va_up (va_up σ 80 uu.1) 81 (fun _ => uu.2)) ν) (fun vv uu => vv = some (.int ((((x / 2) + ν 85 0) * 2) - ν 84 0)) ∧ (uu.1, uu.2) = bgs [40, 12, 11, 10] (σ 80, σ 81 0) ∧ isN uu.2 30) := by
  refine Ct.ofI RX4 rfl (by decide +kernel) (Nat.le_of_ble_eq_true rfl) (fun X hC hR => ?_)
  have hTb := hTn.2
  show V X (wX k g a σ ν) [(0, .ref (a 5)), (1, .int 2), (2, .int 3), (3, .int x), (4, .int (nI q))] [] 0
  refine V.aload_n (pc := 0) 0 hC dX4_call_0 rfl ?_
  refine V.get (pc := 1) (v := .int (ν 82 0)) hC cf_X4 5 2 fl_X4_19 (by decide) gx_5 rfl dX4_call_1 ?_
  refine V.eqi (y := 0) (h82) ?_
  refine V.if_ne (pc := 4) 14 hC dX4_call_4 (by decide) (fun c_4 => ?_) (fun c_4 => ?_)
  · have nc_4 : ¬ (0 = 0) := fun z => c_4 ((neq (nl 0) (nl 0) (by omega) (by omega)).mpr z)
    exact absurd c_4 (by decide)
  · have nc_4 : 0 = 0 := (neq (nl 0) (nl 0) (by omega) (by omega)).mp c_4
    refine V.iload (pc := 7) 4 hC dX4_call_7 rfl ?_
    refine V.bipush (pc := 9) 20 hC dX4_call_9 (by decide) ?_
    refine V.icmp_le (pc := 11) 16 hC dX4_call_11 (by decide) (fun c_11 => ?_) (fun c_11 => ?_)
    · have nc_11 : q ≤ 20 := (nle rfl (nl 20) (by omega) (by omega)).mp c_11
      refine V.iload_n (pc := 16) 1 hC dX4_call_16 rfl ?_
      refine V.iload_n (pc := 17) 2 hC dX4_call_17 rfl ?_
      refine V.callS0 (pc := 18) (as := [.int 2, .int 3]) hC (c_find_2_3  ) ms_X4_find ml_X4_49 (by decide) rfl (Nat.le_of_ble_eq_true rfl) dX4_call_18 ?_
      rintro _ _ rfl
      show V X (wX k g a σ ν) [(0, .ref (a 5)), (1, .int 2), (2, .int 3), (3, .int x), (4, .int (nI q))] [.int 40] 21
      refine V.istore (pc := 21) [(5, .int 40), (0, .ref (a 5)), (1, .int 2), (2, .int 3), (3, .int x), (4, .int (nI q))] hC dX4_call_21 (by decide) rfl ?_
      refine V.aload_n (pc := 23) 1 hC dX4_call_23 rfl ?_
      refine V.get (pc := 24) (v := .int (σ 81 0)) hC cf_X4 5 1 fl_X4_15 (by decide) gx_5 rfl dX4_call_24 ?_
      refine V.bipush (pc := 27) 30 hC dX4_call_27 (by decide) ?_
      refine V.icmp_ge (pc := 29) 53 hC dX4_call_29 (by decide) (fun c_29 => ?_) (fun c_29 => ?_)
      · have nc_29 : 30 ≤ nN (σ 81 0) := (nle (nl 30) hTn.1 (by omega) (by omega)).mp c_29
        refine V.aload_n (pc := 53) 1 hC dX4_call_53 rfl ?_
        refine V.iload (pc := 54) 0 hC dX4_call_54 rfl ?_
        refine V.iload_n (pc := 56) 4 hC dX4_call_56 rfl ?_
        refine V.iload (pc := 57) 5 hC dX4_call_57 rfl ?_
        refine V.iconst (pc := 59) 1 hC dX4_call_59 (by decide) ?_
        refine V.iadd (pc := 60) hC dX4_call_60 ?_
        refine V.sts (st' := [.int (nI (q + 1)), .int x, .int 40, .ref (a 5)]) (stc (ncast (b := q + 1) (nadd rfl (nl 1)) (by omega)) (stk (stk (stk rfl)))) ?_
        refine V.callV0 (pc := 61) (as := [.int 40, .int x, .int (nI (q + 1))]) hC (c_work_3_40 σ ν x (q + 1) h82 h83 hTn (by omega)) mu_X4_work ml_X4_53 (by decide) ⟨5, 4, TX4, 6, _, rfl, gx_5⟩ rfl (Nat.le_of_ble_eq_true rfl) dX4_call_61 ?_
        rintro _ ⟨f61_0, i61_1⟩ ⟨rfl, hu61_0, hu61_1⟩
        have hu61_0 : (f61_0, i61_1) = bgs [12, 11, 10] (σ 80, σ 81 0) := hu61_0
        have hu61_1 : isN i61_1 30 := hu61_1
        show V X (wX k g a (va_up (va_up σ 80 f61_0) 81 (fun _ => i61_1)) ν) [(5, .int 40), (0, .ref (a 5)), (1, .int 2), (2, .int 3), (3, .int x), (4, .int (nI q))] [.int ((((x / 2) + ν 85 0) * 2) - ν 84 0)] 64
        exact hR ((((x / 2) + ν 85 0) * 2) - ν 84 0) (f61_0, i61_1) _ _ dX4_call_64 rfl ⟨rfl, by rw [hu61_0]; exact congrArg (bgs [12, 11, 10]) (show (σ 80, σ 81 0) = bgS 40 (σ 80, σ 81 0) from (if_neg (i_ge c_29)).symm), hu61_1⟩
      · have nc_29 : ¬ (30 ≤ nN (σ 81 0)) := fun z => c_29 ((nle (nl 30) hTn.1 (by omega) (by omega)).mpr z)
        refine V.aload_n (pc := 32) 1 hC dX4_call_32 rfl ?_
        refine V.get (pc := 33) (v := .ref (a 80)) hC cf_X4 5 0 fl_X4_9 (by decide) gx_5 rfl dX4_call_33 ?_
        refine V.aload_n (pc := 36) 1 hC dX4_call_36 rfl ?_
        refine V.get (pc := 37) (v := .int (σ 81 0)) hC cf_X4 5 1 fl_X4_15 (by decide) gx_5 rfl dX4_call_37 ?_
        refine V.iload (pc := 40) 0 hC dX4_call_40 rfl ?_
        refine V.iast (pc := 42) (f := σ 80) hC 46 (nN (σ 81 0)) (wX k g a (va_up σ 80 (upd (σ 80) (nN (σ 81 0)) 40)) ν) gx_46 hTn.1 (by omega) (by decide) rfl dX4_call_42 ?_
        refine V.aload_n (pc := 43) 1 hC dX4_call_43 rfl ?_
        refine V.dup (pc := 44) hC dX4_call_44 rfl ?_
        refine V.get (pc := 45) (v := .int (σ 81 0)) hC cf_X4 5 1 fl_X4_15 (by decide) gx_5 rfl dX4_call_45 ?_
        refine V.iconst (pc := 48) 1 hC dX4_call_48 (by decide) ?_
        refine V.iadd (pc := 49) hC dX4_call_49 ?_
        refine V.put (pc := 50) (v := .int ((σ 81 0) + 1)) hC cf_X4 5 1 (wX k g a (va_up (va_up σ 80 (upd (σ 80) (nN (σ 81 0)) 40)) 81 (fun _ => (σ 81 0) + 1)) ν) fl_X4_15 (by decide) gx_5 rfl rfl rfl (Nat.le_of_ble_eq_true rfl) rfl dX4_call_50 ?_
        refine V.aload_n (pc := 53) 1 hC dX4_call_53 rfl ?_
        refine V.iload (pc := 54) 0 hC dX4_call_54 rfl ?_
        refine V.iload_n (pc := 56) 4 hC dX4_call_56 rfl ?_
        refine V.iload (pc := 57) 5 hC dX4_call_57 rfl ?_
        refine V.iconst (pc := 59) 1 hC dX4_call_59 (by decide) ?_
        refine V.iadd (pc := 60) hC dX4_call_60 ?_
        refine V.sts (st' := [.int (nI (q + 1)), .int x, .int 40, .ref (a 5)]) (stc (ncast (b := q + 1) (nadd rfl (nl 1)) (by omega)) (stk (stk (stk rfl)))) ?_
        refine V.callV0 (pc := 61) (as := [.int 40, .int x, .int (nI (q + 1))]) hC (c_work_3_40 (va_up (va_up σ 80 (upd (σ 80) (nN (σ 81 0)) 40)) 81 (fun _ => (σ 81 0) + 1)) ν x (q + 1) h82 h83 (isN.mk (nadd hTn.1 (nl 1)) (by omega) (by omega)) (by omega)) mu_X4_work ml_X4_53 (by decide) ⟨5, 4, TX4, 6, _, rfl, gx_5⟩ rfl (Nat.le_of_ble_eq_true rfl) dX4_call_61 ?_
        rintro _ ⟨f61_0, i61_1⟩ ⟨rfl, hu61_0, hu61_1⟩
        have hu61_0 : (f61_0, i61_1) = bgs [12, 11, 10] ((upd (σ 80) (nN (σ 81 0)) 40), ((σ 81 0) + 1)) := hu61_0
        have hu61_1 : isN i61_1 30 := hu61_1
        show V X (wX k g a (va_up (va_up σ 80 f61_0) 81 (fun _ => i61_1)) ν) [(5, .int 40), (0, .ref (a 5)), (1, .int 2), (2, .int 3), (3, .int x), (4, .int (nI q))] [.int ((((x / 2) + ν 85 0) * 2) - ν 84 0)] 64
        exact hR ((((x / 2) + ν 85 0) * 2) - ν 84 0) (f61_0, i61_1) _ _ dX4_call_64 rfl ⟨rfl, by rw [hu61_0]; exact congrArg (bgs [12, 11, 10]) (show (upd (σ 80) (nN (σ 81 0)) 40, σ 81 0 + 1) = bgS 40 (σ 80, σ 81 0) from (if_pos (i_nle c_29)).symm), hu61_1⟩
    · have nc_11 : ¬ (q ≤ 20) := fun z => c_11 ((nle rfl (nl 20) (by omega) (by omega)).mpr z)
      exfalso; omega
set_option maxHeartbeats 4000000 in
set_option maxRecDepth 100000 in
theorem c_work_3_13 {l : Launch} {D : va_G} {k : Nat → ClassId} {g a : Nat → Nat} (σ ν : St) (x : Int32) (q : Nat) (h82 : ν 82 0 = 0) (h83 : ν 83 0 = 3) (hTn : isN (σ 81 0) 30) (hq : q + 0 ≤ 20) : Ct l D k g yX4_work cX4_work 5 (some .int) 1 21 [.ref (a 5), .int 13, .int x, .int (nI q)] (S := Rw × Int32 × Int32) (wX k g a σ ν) (fun uu => wX k g a (va_up (va_up σ 80 uu.1) 81 (fun _ => uu.2.1)) (va_up ν 82 (fun _ => uu.2.2))) (fun vv uu => vv = some (.int (if ν 84 0 - ν 85 0 = 0 then 0 else x / (ν 84 0 - ν 85 0))) ∧ (uu.1, uu.2.1) = bgs [] (σ 80, σ 81 0) ∧ isN uu.2.1 30 ∧ uu.2.2 = bI (ν 84 0 - ν 85 0 = 0)) := by
  refine Ct.ofI RX4 rfl (by decide +kernel) (Nat.le_of_ble_eq_true rfl) (fun X hC hR => ?_)
  show V X (wX k g a σ ν) [(0, .ref (a 5)), (1, .int 13), (2, .int x), (3, .int (nI q))] [] 0
  refine V.getAboveN (pc := 0) hC dX4_work_0 rfl ?_
  refine V.iload_n (pc := 3) 1 hC dX4_work_3 rfl ?_
  refine V.bipush (pc := 4) 10 hC dX4_work_4 (by decide) ?_
  refine V.idiv (pc := 6) hC dX4_work_6 (by decide) ?_
  refine V.eqi (y := 1) (by decide) ?_
  refine V.iconst (pc := 7) 1 hC dX4_work_7 (by decide) ?_
  refine V.isub (pc := 8) hC dX4_work_8 ?_
  refine V.eqi (y := 0) (by decide) ?_
  refine V.ldAbove (pc := 9) hC 0 (-1) (nl 0) (by decide) rfl dX4_work_9 ?_
  refine V.istore (pc := 10) [(4, .int (-1)), (0, .ref (a 5)), (1, .int 13), (2, .int x), (3, .int (nI q))] hC dX4_work_10 (by decide) rfl ?_
  refine V.iload_n (pc := 12) 2 hC dX4_work_12 rfl ?_
  refine V.lookup (pc := 13) 166 hC dX4_work_13 (by decide) rfl (by decide) ?_
  refine V.aload_n (pc := 166) 1 hC dX4_work_166 rfl ?_
  refine V.iload_n (pc := 167) 3 hC dX4_work_167 rfl ?_
  refine V.callV0 (pc := 168) (as := [.int x]) hC (c_X4_part σ ν x h82) mu_X4_part ml_X4_57 (by decide) ⟨5, 4, TX4, 6, _, rfl, gx_5⟩ rfl (Nat.le_of_ble_eq_true rfl) dX4_work_168 ?_
  rintro _ i168_0 ⟨rfl, hu168_0⟩
  have hu168_0 : i168_0 = bI (ν 84 0 - ν 85 0 = 0) := hu168_0
  show V X (wX k g a σ (va_up ν 82 (fun _ => i168_0))) [(4, .int (-1)), (0, .ref (a 5)), (1, .int 13), (2, .int x), (3, .int (nI q))] [.int (if ν 84 0 - ν 85 0 = 0 then 0 else x / (ν 84 0 - ν 85 0))] 171
  exact hR (if ν 84 0 - ν 85 0 = 0 then 0 else x / (ν 84 0 - ν 85 0)) (σ 80, σ 81 0, i168_0) _ _ dX4_work_171 rfl ⟨rfl, rfl, hTn, hu168_0⟩
set_option maxHeartbeats 4000000 in
set_option maxRecDepth 100000 in
theorem c_call_3_3_3 {l : Launch} {D : va_G} {k : Nat → ClassId} {g a : Nat → Nat} (σ ν : St) (x : Int32) (q : Nat) (h82 : ν 82 0 = 0) (h83 : ν 83 0 = 3) (hTn : isN (σ 81 0) 30) (hq : q + 1 ≤ 20) : Ct l D k g yX4_call cX4_call 6 (some .int) 2 45 [.ref (a 5), .int 3, .int 3, .int x, .int (nI q)] (S := Rw × Int32 × Int32) (wX k g a σ ν) (fun uu => wX k g a (va_up (va_up σ 80 uu.1) 81 (fun _ => uu.2.1)) (va_up ν 82 (fun _ => uu.2.2))) (fun vv uu => vv = some (.int (if ν 84 0 - ν 85 0 = 0 then 0 else x / (ν 84 0 - ν 85 0))) ∧ (uu.1, uu.2.1) = bgs [13] (σ 80, σ 81 0) ∧ isN uu.2.1 30 ∧ uu.2.2 = bI (ν 84 0 - ν 85 0 = 0)) := by
  refine Ct.ofI RX4 rfl (by decide +kernel) (Nat.le_of_ble_eq_true rfl) (fun X hC hR => ?_)
  have hTb := hTn.2
  show V X (wX k g a σ ν) [(0, .ref (a 5)), (1, .int 3), (2, .int 3), (3, .int x), (4, .int (nI q))] [] 0
  refine V.aload_n (pc := 0) 0 hC dX4_call_0 rfl ?_
  refine V.get (pc := 1) (v := .int (ν 82 0)) hC cf_X4 5 2 fl_X4_19 (by decide) gx_5 rfl dX4_call_1 ?_
  refine V.eqi (y := 0) (h82) ?_
  refine V.if_ne (pc := 4) 14 hC dX4_call_4 (by decide) (fun c_4 => ?_) (fun c_4 => ?_)
  · have nc_4 : ¬ (0 = 0) := fun z => c_4 ((neq (nl 0) (nl 0) (by omega) (by omega)).mpr z)
    exact absurd c_4 (by decide)
  · have nc_4 : 0 = 0 := (neq (nl 0) (nl 0) (by omega) (by omega)).mp c_4
    refine V.iload (pc := 7) 4 hC dX4_call_7 rfl ?_
    refine V.bipush (pc := 9) 20 hC dX4_call_9 (by decide) ?_
    refine V.icmp_le (pc := 11) 16 hC dX4_call_11 (by decide) (fun c_11 => ?_) (fun c_11 => ?_)
    · have nc_11 : q ≤ 20 := (nle rfl (nl 20) (by omega) (by omega)).mp c_11
      refine V.iload_n (pc := 16) 1 hC dX4_call_16 rfl ?_
      refine V.iload_n (pc := 17) 2 hC dX4_call_17 rfl ?_
      refine V.callS0 (pc := 18) (as := [.int 3, .int 3]) hC (c_find_3_3  ) ms_X4_find ml_X4_49 (by decide) rfl (Nat.le_of_ble_eq_true rfl) dX4_call_18 ?_
      rintro _ _ rfl
      show V X (wX k g a σ ν) [(0, .ref (a 5)), (1, .int 3), (2, .int 3), (3, .int x), (4, .int (nI q))] [.int 13] 21
      refine V.istore (pc := 21) [(5, .int 13), (0, .ref (a 5)), (1, .int 3), (2, .int 3), (3, .int x), (4, .int (nI q))] hC dX4_call_21 (by decide) rfl ?_
      refine V.aload_n (pc := 23) 1 hC dX4_call_23 rfl ?_
      refine V.get (pc := 24) (v := .int (σ 81 0)) hC cf_X4 5 1 fl_X4_15 (by decide) gx_5 rfl dX4_call_24 ?_
      refine V.bipush (pc := 27) 30 hC dX4_call_27 (by decide) ?_
      refine V.icmp_ge (pc := 29) 53 hC dX4_call_29 (by decide) (fun c_29 => ?_) (fun c_29 => ?_)
      · have nc_29 : 30 ≤ nN (σ 81 0) := (nle (nl 30) hTn.1 (by omega) (by omega)).mp c_29
        refine V.aload_n (pc := 53) 1 hC dX4_call_53 rfl ?_
        refine V.iload (pc := 54) 0 hC dX4_call_54 rfl ?_
        refine V.iload_n (pc := 56) 4 hC dX4_call_56 rfl ?_
        refine V.iload (pc := 57) 5 hC dX4_call_57 rfl ?_
        refine V.iconst (pc := 59) 1 hC dX4_call_59 (by decide) ?_
        refine V.iadd (pc := 60) hC dX4_call_60 ?_
        refine V.sts (st' := [.int (nI (q + 1)), .int x, .int 13, .ref (a 5)]) (stc (ncast (b := q + 1) (nadd rfl (nl 1)) (by omega)) (stk (stk (stk rfl)))) ?_
        refine V.callV0 (pc := 61) (as := [.int 13, .int x, .int (nI (q + 1))]) hC (c_work_3_13 σ ν x (q + 1) h82 h83 hTn (by omega)) mu_X4_work ml_X4_53 (by decide) ⟨5, 4, TX4, 6, _, rfl, gx_5⟩ rfl (Nat.le_of_ble_eq_true rfl) dX4_call_61 ?_
        rintro _ ⟨f61_0, i61_1, i61_2⟩ ⟨rfl, hu61_0, hu61_1, hu61_2⟩
        have hu61_0 : (f61_0, i61_1) = bgs [] (σ 80, σ 81 0) := hu61_0
        have hu61_1 : isN i61_1 30 := hu61_1
        have hu61_2 : i61_2 = bI (ν 84 0 - ν 85 0 = 0) := hu61_2
        show V X (wX k g a (va_up (va_up σ 80 f61_0) 81 (fun _ => i61_1)) (va_up ν 82 (fun _ => i61_2))) [(5, .int 13), (0, .ref (a 5)), (1, .int 3), (2, .int 3), (3, .int x), (4, .int (nI q))] [.int (if ν 84 0 - ν 85 0 = 0 then 0 else x / (ν 84 0 - ν 85 0))] 64
        exact hR (if ν 84 0 - ν 85 0 = 0 then 0 else x / (ν 84 0 - ν 85 0)) (f61_0, i61_1, i61_2) _ _ dX4_call_64 rfl ⟨rfl, by rw [hu61_0]; exact congrArg (bgs []) (show (σ 80, σ 81 0) = bgS 13 (σ 80, σ 81 0) from (if_neg (i_ge c_29)).symm), hu61_1, hu61_2⟩
      · have nc_29 : ¬ (30 ≤ nN (σ 81 0)) := fun z => c_29 ((nle (nl 30) hTn.1 (by omega) (by omega)).mpr z)
        refine V.aload_n (pc := 32) 1 hC dX4_call_32 rfl ?_
        refine V.get (pc := 33) (v := .ref (a 80)) hC cf_X4 5 0 fl_X4_9 (by decide) gx_5 rfl dX4_call_33 ?_
        refine V.aload_n (pc := 36) 1 hC dX4_call_36 rfl ?_
        refine V.get (pc := 37) (v := .int (σ 81 0)) hC cf_X4 5 1 fl_X4_15 (by decide) gx_5 rfl dX4_call_37 ?_
        refine V.iload (pc := 40) 0 hC dX4_call_40 rfl ?_
        refine V.iast (pc := 42) (f := σ 80) hC 46 (nN (σ 81 0)) (wX k g a (va_up σ 80 (upd (σ 80) (nN (σ 81 0)) 13)) ν) gx_46 hTn.1 (by omega) (by decide) rfl dX4_call_42 ?_
        refine V.aload_n (pc := 43) 1 hC dX4_call_43 rfl ?_
        refine V.dup (pc := 44) hC dX4_call_44 rfl ?_
        refine V.get (pc := 45) (v := .int (σ 81 0)) hC cf_X4 5 1 fl_X4_15 (by decide) gx_5 rfl dX4_call_45 ?_
        refine V.iconst (pc := 48) 1 hC dX4_call_48 (by decide) ?_
        refine V.iadd (pc := 49) hC dX4_call_49 ?_
        refine V.put (pc := 50) (v := .int ((σ 81 0) + 1)) hC cf_X4 5 1 (wX k g a (va_up (va_up σ 80 (upd (σ 80) (nN (σ 81 0)) 13)) 81 (fun _ => (σ 81 0) + 1)) ν) fl_X4_15 (by decide) gx_5 rfl rfl rfl (Nat.le_of_ble_eq_true rfl) rfl dX4_call_50 ?_
        refine V.aload_n (pc := 53) 1 hC dX4_call_53 rfl ?_
        refine V.iload (pc := 54) 0 hC dX4_call_54 rfl ?_
        refine V.iload_n (pc := 56) 4 hC dX4_call_56 rfl ?_
        refine V.iload (pc := 57) 5 hC dX4_call_57 rfl ?_
        refine V.iconst (pc := 59) 1 hC dX4_call_59 (by decide) ?_
        refine V.iadd (pc := 60) hC dX4_call_60 ?_
        refine V.sts (st' := [.int (nI (q + 1)), .int x, .int 13, .ref (a 5)]) (stc (ncast (b := q + 1) (nadd rfl (nl 1)) (by omega)) (stk (stk (stk rfl)))) ?_
        refine V.callV0 (pc := 61) (as := [.int 13, .int x, .int (nI (q + 1))]) hC (c_work_3_13 (va_up (va_up σ 80 (upd (σ 80) (nN (σ 81 0)) 13)) 81 (fun _ => (σ 81 0) + 1)) ν x (q + 1) h82 h83 (isN.mk (nadd hTn.1 (nl 1)) (by omega) (by omega)) (by omega)) mu_X4_work ml_X4_53 (by decide) ⟨5, 4, TX4, 6, _, rfl, gx_5⟩ rfl (Nat.le_of_ble_eq_true rfl) dX4_call_61 ?_
        rintro _ ⟨f61_0, i61_1, i61_2⟩ ⟨rfl, hu61_0, hu61_1, hu61_2⟩
        have hu61_0 : (f61_0, i61_1) = bgs [] ((upd (σ 80) (nN (σ 81 0)) 13), ((σ 81 0) + 1)) := hu61_0
        have hu61_1 : isN i61_1 30 := hu61_1
        have hu61_2 : i61_2 = bI (ν 84 0 - ν 85 0 = 0) := hu61_2
        show V X (wX k g a (va_up (va_up σ 80 f61_0) 81 (fun _ => i61_1)) (va_up ν 82 (fun _ => i61_2))) [(5, .int 13), (0, .ref (a 5)), (1, .int 3), (2, .int 3), (3, .int x), (4, .int (nI q))] [.int (if ν 84 0 - ν 85 0 = 0 then 0 else x / (ν 84 0 - ν 85 0))] 64
        exact hR (if ν 84 0 - ν 85 0 = 0 then 0 else x / (ν 84 0 - ν 85 0)) (f61_0, i61_1, i61_2) _ _ dX4_call_64 rfl ⟨rfl, by rw [hu61_0]; exact congrArg (bgs []) (show (upd (σ 80) (nN (σ 81 0)) 13, σ 81 0 + 1) = bgS 13 (σ 80, σ 81 0) from (if_pos (i_nle c_29)).symm), hu61_1, hu61_2⟩
    · have nc_11 : ¬ (q ≤ 20) := fun z => c_11 ((nle rfl (nl 20) (by omega) (by omega)).mpr z)
      exfalso; omega
set_option maxHeartbeats 4000000 in
set_option maxRecDepth 100000 in
theorem c_work_4_10 {l : Launch} {D : va_G} {k : Nat → ClassId} {g a : Nat → Nat} (σ ν : St) (x : Int32) (q : Nat) (h82 : ν 82 0 = 0) (h83 : ν 83 0 = 4) (hTn : isN (σ 81 0) 30) (hq : q + 0 ≤ 20) : Ct l D k g yX4_work cX4_work 5 (some .int) 0 0 [.ref (a 5), .int 10, .int x, .int (nI q)] (S := Rw × Int32) (wX k g a σ ν) (fun uu => wX k g a (va_up (va_up σ 80 uu.1) 81 (fun _ => uu.2)) ν) (fun vv uu => vv = some (.int (x + ν 85 0)) ∧ (uu.1, uu.2) = bgs [] (σ 80, σ 81 0) ∧ isN uu.2 30) := by
  refine Ct.ofI RX4 rfl (by decide +kernel) (Nat.le_of_ble_eq_true rfl) (fun X hC hR => ?_)
  show V X (wX k g a σ ν) [(0, .ref (a 5)), (1, .int 10), (2, .int x), (3, .int (nI q))] [] 0
  refine V.getAboveN (pc := 0) hC dX4_work_0 rfl ?_
  refine V.iload_n (pc := 3) 1 hC dX4_work_3 rfl ?_
  refine V.bipush (pc := 4) 10 hC dX4_work_4 (by decide) ?_
  refine V.idiv (pc := 6) hC dX4_work_6 (by decide) ?_
  refine V.eqi (y := 1) (by decide) ?_
  refine V.iconst (pc := 7) 1 hC dX4_work_7 (by decide) ?_
  refine V.isub (pc := 8) hC dX4_work_8 ?_
  refine V.eqi (y := 0) (by decide) ?_
  refine V.ldAbove (pc := 9) hC 0 (-1) (nl 0) (by decide) rfl dX4_work_9 ?_
  refine V.istore (pc := 10) [(4, .int (-1)), (0, .ref (a 5)), (1, .int 10), (2, .int x), (3, .int (nI q))] hC dX4_work_10 (by decide) rfl ?_
  refine V.iload_n (pc := 12) 2 hC dX4_work_12 rfl ?_
  refine V.lookup (pc := 13) 128 hC dX4_work_13 (by decide) rfl (by decide) ?_
  refine V.iload_n (pc := 128) 3 hC dX4_work_128 rfl ?_
  refine V.aload_n (pc := 129) 1 hC dX4_work_129 rfl ?_
  refine V.get (pc := 130) (v := .int (ν 85 0)) hC cf_X4 5 5 fl_X4_36 (by decide) gx_5 rfl dX4_work_130 ?_
  refine V.iadd (pc := 133) hC dX4_work_133 ?_
  exact hR (x + (ν 85 0)) (σ 80, σ 81 0) _ _ dX4_work_134 rfl ⟨rfl, rfl, hTn⟩
set_option maxHeartbeats 4000000 in
set_option maxRecDepth 100000 in
theorem c_call_4_0_0 {l : Launch} {D : va_G} {k : Nat → ClassId} {g a : Nat → Nat} (σ ν : St) (x : Int32) (q : Nat) (h82 : ν 82 0 = 0) (h83 : ν 83 0 = 4) (hTn : isN (σ 81 0) 30) (hq : q + 1 ≤ 20) : Ct l D k g yX4_call cX4_call 6 (some .int) 1 24 [.ref (a 5), .int 0, .int 0, .int x, .int (nI q)] (S := Rw × Int32) (wX k g a σ ν) (fun uu => wX k g a (va_up (va_up σ 80 uu.1) 81 (fun _ => uu.2)) ν) (fun vv uu => vv = some (.int (x + ν 85 0)) ∧ (uu.1, uu.2) = bgs [10] (σ 80, σ 81 0) ∧ isN uu.2 30) := by
  refine Ct.ofI RX4 rfl (by decide +kernel) (Nat.le_of_ble_eq_true rfl) (fun X hC hR => ?_)
  have hTb := hTn.2
  show V X (wX k g a σ ν) [(0, .ref (a 5)), (1, .int 0), (2, .int 0), (3, .int x), (4, .int (nI q))] [] 0
  refine V.aload_n (pc := 0) 0 hC dX4_call_0 rfl ?_
  refine V.get (pc := 1) (v := .int (ν 82 0)) hC cf_X4 5 2 fl_X4_19 (by decide) gx_5 rfl dX4_call_1 ?_
  refine V.eqi (y := 0) (h82) ?_
  refine V.if_ne (pc := 4) 14 hC dX4_call_4 (by decide) (fun c_4 => ?_) (fun c_4 => ?_)
  · have nc_4 : ¬ (0 = 0) := fun z => c_4 ((neq (nl 0) (nl 0) (by omega) (by omega)).mpr z)
    exact absurd c_4 (by decide)
  · have nc_4 : 0 = 0 := (neq (nl 0) (nl 0) (by omega) (by omega)).mp c_4
    refine V.iload (pc := 7) 4 hC dX4_call_7 rfl ?_
    refine V.bipush (pc := 9) 20 hC dX4_call_9 (by decide) ?_
    refine V.icmp_le (pc := 11) 16 hC dX4_call_11 (by decide) (fun c_11 => ?_) (fun c_11 => ?_)
    · have nc_11 : q ≤ 20 := (nle rfl (nl 20) (by omega) (by omega)).mp c_11
      refine V.iload_n (pc := 16) 1 hC dX4_call_16 rfl ?_
      refine V.iload_n (pc := 17) 2 hC dX4_call_17 rfl ?_
      refine V.callS0 (pc := 18) (as := [.int 0, .int 0]) hC (c_find_0_0  ) ms_X4_find ml_X4_49 (by decide) rfl (Nat.le_of_ble_eq_true rfl) dX4_call_18 ?_
      rintro _ _ rfl
      show V X (wX k g a σ ν) [(0, .ref (a 5)), (1, .int 0), (2, .int 0), (3, .int x), (4, .int (nI q))] [.int 10] 21
      refine V.istore (pc := 21) [(5, .int 10), (0, .ref (a 5)), (1, .int 0), (2, .int 0), (3, .int x), (4, .int (nI q))] hC dX4_call_21 (by decide) rfl ?_
      refine V.aload_n (pc := 23) 1 hC dX4_call_23 rfl ?_
      refine V.get (pc := 24) (v := .int (σ 81 0)) hC cf_X4 5 1 fl_X4_15 (by decide) gx_5 rfl dX4_call_24 ?_
      refine V.bipush (pc := 27) 30 hC dX4_call_27 (by decide) ?_
      refine V.icmp_ge (pc := 29) 53 hC dX4_call_29 (by decide) (fun c_29 => ?_) (fun c_29 => ?_)
      · have nc_29 : 30 ≤ nN (σ 81 0) := (nle (nl 30) hTn.1 (by omega) (by omega)).mp c_29
        refine V.aload_n (pc := 53) 1 hC dX4_call_53 rfl ?_
        refine V.iload (pc := 54) 0 hC dX4_call_54 rfl ?_
        refine V.iload_n (pc := 56) 4 hC dX4_call_56 rfl ?_
        refine V.iload (pc := 57) 5 hC dX4_call_57 rfl ?_
        refine V.iconst (pc := 59) 1 hC dX4_call_59 (by decide) ?_
        refine V.iadd (pc := 60) hC dX4_call_60 ?_
        refine V.sts (st' := [.int (nI (q + 1)), .int x, .int 10, .ref (a 5)]) (stc (ncast (b := q + 1) (nadd rfl (nl 1)) (by omega)) (stk (stk (stk rfl)))) ?_
        refine V.callV0 (pc := 61) (as := [.int 10, .int x, .int (nI (q + 1))]) hC (c_work_4_10 σ ν x (q + 1) h82 h83 hTn (by omega)) mu_X4_work ml_X4_53 (by decide) ⟨5, 4, TX4, 6, _, rfl, gx_5⟩ rfl (Nat.le_of_ble_eq_true rfl) dX4_call_61 ?_
        rintro _ ⟨f61_0, i61_1⟩ ⟨rfl, hu61_0, hu61_1⟩
        have hu61_0 : (f61_0, i61_1) = bgs [] (σ 80, σ 81 0) := hu61_0
        have hu61_1 : isN i61_1 30 := hu61_1
        show V X (wX k g a (va_up (va_up σ 80 f61_0) 81 (fun _ => i61_1)) ν) [(5, .int 10), (0, .ref (a 5)), (1, .int 0), (2, .int 0), (3, .int x), (4, .int (nI q))] [.int (x + ν 85 0)] 64
        exact hR (x + ν 85 0) (f61_0, i61_1) _ _ dX4_call_64 rfl ⟨rfl, by rw [hu61_0]; exact congrArg (bgs []) (show (σ 80, σ 81 0) = bgS 10 (σ 80, σ 81 0) from (if_neg (i_ge c_29)).symm), hu61_1⟩
      · have nc_29 : ¬ (30 ≤ nN (σ 81 0)) := fun z => c_29 ((nle (nl 30) hTn.1 (by omega) (by omega)).mpr z)
        refine V.aload_n (pc := 32) 1 hC dX4_call_32 rfl ?_
        refine V.get (pc := 33) (v := .ref (a 80)) hC cf_X4 5 0 fl_X4_9 (by decide) gx_5 rfl dX4_call_33 ?_
        refine V.aload_n (pc := 36) 1 hC dX4_call_36 rfl ?_
        refine V.get (pc := 37) (v := .int (σ 81 0)) hC cf_X4 5 1 fl_X4_15 (by decide) gx_5 rfl dX4_call_37 ?_
        refine V.iload (pc := 40) 0 hC dX4_call_40 rfl ?_
        refine V.iast (pc := 42) (f := σ 80) hC 46 (nN (σ 81 0)) (wX k g a (va_up σ 80 (upd (σ 80) (nN (σ 81 0)) 10)) ν) gx_46 hTn.1 (by omega) (by decide) rfl dX4_call_42 ?_
        refine V.aload_n (pc := 43) 1 hC dX4_call_43 rfl ?_
        refine V.dup (pc := 44) hC dX4_call_44 rfl ?_
        refine V.get (pc := 45) (v := .int (σ 81 0)) hC cf_X4 5 1 fl_X4_15 (by decide) gx_5 rfl dX4_call_45 ?_
        refine V.iconst (pc := 48) 1 hC dX4_call_48 (by decide) ?_
        refine V.iadd (pc := 49) hC dX4_call_49 ?_
        refine V.put (pc := 50) (v := .int ((σ 81 0) + 1)) hC cf_X4 5 1 (wX k g a (va_up (va_up σ 80 (upd (σ 80) (nN (σ 81 0)) 10)) 81 (fun _ => (σ 81 0) + 1)) ν) fl_X4_15 (by decide) gx_5 rfl rfl rfl (Nat.le_of_ble_eq_true rfl) rfl dX4_call_50 ?_
        refine V.aload_n (pc := 53) 1 hC dX4_call_53 rfl ?_
        refine V.iload (pc := 54) 0 hC dX4_call_54 rfl ?_
        refine V.iload_n (pc := 56) 4 hC dX4_call_56 rfl ?_
        refine V.iload (pc := 57) 5 hC dX4_call_57 rfl ?_
        refine V.iconst (pc := 59) 1 hC dX4_call_59 (by decide) ?_
        refine V.iadd (pc := 60) hC dX4_call_60 ?_
        refine V.sts (st' := [.int (nI (q + 1)), .int x, .int 10, .ref (a 5)]) (stc (ncast (b := q + 1) (nadd rfl (nl 1)) (by omega)) (stk (stk (stk rfl)))) ?_
        refine V.callV0 (pc := 61) (as := [.int 10, .int x, .int (nI (q + 1))]) hC (c_work_4_10 (va_up (va_up σ 80 (upd (σ 80) (nN (σ 81 0)) 10)) 81 (fun _ => (σ 81 0) + 1)) ν x (q + 1) h82 h83 (isN.mk (nadd hTn.1 (nl 1)) (by omega) (by omega)) (by omega)) mu_X4_work ml_X4_53 (by decide) ⟨5, 4, TX4, 6, _, rfl, gx_5⟩ rfl (Nat.le_of_ble_eq_true rfl) dX4_call_61 ?_
        rintro _ ⟨f61_0, i61_1⟩ ⟨rfl, hu61_0, hu61_1⟩
        have hu61_0 : (f61_0, i61_1) = bgs [] ((upd (σ 80) (nN (σ 81 0)) 10), ((σ 81 0) + 1)) := hu61_0
        have hu61_1 : isN i61_1 30 := hu61_1
        show V X (wX k g a (va_up (va_up σ 80 f61_0) 81 (fun _ => i61_1)) ν) [(5, .int 10), (0, .ref (a 5)), (1, .int 0), (2, .int 0), (3, .int x), (4, .int (nI q))] [.int (x + ν 85 0)] 64
        exact hR (x + ν 85 0) (f61_0, i61_1) _ _ dX4_call_64 rfl ⟨rfl, by rw [hu61_0]; exact congrArg (bgs []) (show (upd (σ 80) (nN (σ 81 0)) 10, σ 81 0 + 1) = bgS 10 (σ 80, σ 81 0) from (if_pos (i_nle c_29)).symm), hu61_1⟩
    · have nc_11 : ¬ (q ≤ 20) := fun z => c_11 ((nle rfl (nl 20) (by omega) (by omega)).mpr z)
      exfalso; omega
set_option maxHeartbeats 4000000 in
set_option maxRecDepth 100000 in
theorem c_work_4_20 {l : Launch} {D : va_G} {k : Nat → ClassId} {g a : Nat → Nat} (σ ν : St) (x : Int32) (q : Nat) (h82 : ν 82 0 = 0) (h83 : ν 83 0 = 4) (hTn : isN (σ 81 0) 30) (hq : q + 1 ≤ 20) : Ct l D k g yX4_work cX4_work 5 (some .int) 2 49 [.ref (a 5), .int 20, .int x, .int (nI q)] (S := Rw × Int32) (wX k g a σ ν) (fun uu => wX k g a (va_up (va_up σ 80 uu.1) 81 (fun _ => uu.2)) ν) (fun vv uu => vv = some (.int ((x + ν 85 0) - 4)) ∧ (uu.1, uu.2) = bgs [10] (σ 80, σ 81 0) ∧ isN uu.2 30) := by
  refine Ct.ofI RX4 rfl (by decide +kernel) (Nat.le_of_ble_eq_true rfl) (fun X hC hR => ?_)
  show V X (wX k g a σ ν) [(0, .ref (a 5)), (1, .int 20), (2, .int x), (3, .int (nI q))] [] 0
  refine V.getAboveN (pc := 0) hC dX4_work_0 rfl ?_
  refine V.iload_n (pc := 3) 1 hC dX4_work_3 rfl ?_
  refine V.bipush (pc := 4) 10 hC dX4_work_4 (by decide) ?_
  refine V.idiv (pc := 6) hC dX4_work_6 (by decide) ?_
  refine V.eqi (y := 2) (by decide) ?_
  refine V.iconst (pc := 7) 1 hC dX4_work_7 (by decide) ?_
  refine V.isub (pc := 8) hC dX4_work_8 ?_
  refine V.eqi (y := 1) (by decide) ?_
  refine V.ldAbove (pc := 9) hC 1 0 (nl 1) (by decide) rfl dX4_work_9 ?_
  refine V.istore (pc := 10) [(4, .int 0), (0, .ref (a 5)), (1, .int 20), (2, .int x), (3, .int (nI q))] hC dX4_work_10 (by decide) rfl ?_
  refine V.iload_n (pc := 12) 2 hC dX4_work_12 rfl ?_
  refine V.lookup (pc := 13) 172 hC dX4_work_13 (by decide) rfl (by decide) ?_
  refine V.aload_n (pc := 172) 1 hC dX4_work_172 rfl ?_
  refine V.iconst (pc := 173) 0 hC dX4_work_173 (by decide) ?_
  refine V.iload (pc := 174) 0 hC dX4_work_174 rfl ?_
  refine V.iload_n (pc := 176) 3 hC dX4_work_176 rfl ?_
  refine V.iload_n (pc := 177) 4 hC dX4_work_177 rfl ?_
  refine V.callV0 (pc := 178) (as := [.int 0, .int 0, .int x, .int (nI q)]) hC (c_call_4_0_0 σ ν x q h82 h83 hTn (by omega)) mu_X4_call ml_X4_39 (by decide) ⟨5, 4, TX4, 6, _, rfl, gx_5⟩ rfl (Nat.le_of_ble_eq_true rfl) dX4_work_178 ?_
  rintro _ ⟨f178_0, i178_1⟩ ⟨rfl, hu178_0, hu178_1⟩
  have hu178_0 : (f178_0, i178_1) = bgs [10] (σ 80, σ 81 0) := hu178_0
  have hu178_1 : isN i178_1 30 := hu178_1
  show V X (wX k g a (va_up (va_up σ 80 f178_0) 81 (fun _ => i178_1)) ν) [(4, .int 0), (0, .ref (a 5)), (1, .int 20), (2, .int x), (3, .int (nI q))] [.int (x + ν 85 0)] 181
  refine V.iconst (pc := 181) 4 hC dX4_work_181 (by decide) ?_
  refine V.isub (pc := 182) hC dX4_work_182 ?_
  exact hR ((x + ν 85 0) - 4) (f178_0, i178_1) _ _ dX4_work_183 rfl ⟨rfl, hu178_0, hu178_1⟩
set_option maxHeartbeats 4000000 in
set_option maxRecDepth 100000 in
theorem c_call_4_0_1 {l : Launch} {D : va_G} {k : Nat → ClassId} {g a : Nat → Nat} (σ ν : St) (x : Int32) (q : Nat) (h82 : ν 82 0 = 0) (h83 : ν 83 0 = 4) (hTn : isN (σ 81 0) 30) (hq : q + 2 ≤ 20) : Ct l D k g yX4_call cX4_call 6 (some .int) 3 73 [.ref (a 5), .int 0, .int 1, .int x, .int (nI q)] (S := Rw × Int32) (wX k g a σ ν) (fun uu => wX k g a (va_up (va_up σ 80 uu.1) 81 (fun _ => uu.2)) ν) (fun vv uu => vv = some (.int ((x + ν 85 0) - 4)) ∧ (uu.1, uu.2) = bgs [20, 10] (σ 80, σ 81 0) ∧ isN uu.2 30) := by
  refine Ct.ofI RX4 rfl (by decide +kernel) (Nat.le_of_ble_eq_true rfl) (fun X hC hR => ?_)
  have hTb := hTn.2
  show V X (wX k g a σ ν) [(0, .ref (a 5)), (1, .int 0), (2, .int 1), (3, .int x), (4, .int (nI q))] [] 0
  refine V.aload_n (pc := 0) 0 hC dX4_call_0 rfl ?_
  refine V.get (pc := 1) (v := .int (ν 82 0)) hC cf_X4 5 2 fl_X4_19 (by decide) gx_5 rfl dX4_call_1 ?_
  refine V.eqi (y := 0) (h82) ?_
  refine V.if_ne (pc := 4) 14 hC dX4_call_4 (by decide) (fun c_4 => ?_) (fun c_4 => ?_)
  · have nc_4 : ¬ (0 = 0) := fun z => c_4 ((neq (nl 0) (nl 0) (by omega) (by omega)).mpr z)
    exact absurd c_4 (by decide)
  · have nc_4 : 0 = 0 := (neq (nl 0) (nl 0) (by omega) (by omega)).mp c_4
    refine V.iload (pc := 7) 4 hC dX4_call_7 rfl ?_
    refine V.bipush (pc := 9) 20 hC dX4_call_9 (by decide) ?_
    refine V.icmp_le (pc := 11) 16 hC dX4_call_11 (by decide) (fun c_11 => ?_) (fun c_11 => ?_)
    · have nc_11 : q ≤ 20 := (nle rfl (nl 20) (by omega) (by omega)).mp c_11
      refine V.iload_n (pc := 16) 1 hC dX4_call_16 rfl ?_
      refine V.iload_n (pc := 17) 2 hC dX4_call_17 rfl ?_
      refine V.callS0 (pc := 18) (as := [.int 0, .int 1]) hC (c_find_0_1  ) ms_X4_find ml_X4_49 (by decide) rfl (Nat.le_of_ble_eq_true rfl) dX4_call_18 ?_
      rintro _ _ rfl
      show V X (wX k g a σ ν) [(0, .ref (a 5)), (1, .int 0), (2, .int 1), (3, .int x), (4, .int (nI q))] [.int 20] 21
      refine V.istore (pc := 21) [(5, .int 20), (0, .ref (a 5)), (1, .int 0), (2, .int 1), (3, .int x), (4, .int (nI q))] hC dX4_call_21 (by decide) rfl ?_
      refine V.aload_n (pc := 23) 1 hC dX4_call_23 rfl ?_
      refine V.get (pc := 24) (v := .int (σ 81 0)) hC cf_X4 5 1 fl_X4_15 (by decide) gx_5 rfl dX4_call_24 ?_
      refine V.bipush (pc := 27) 30 hC dX4_call_27 (by decide) ?_
      refine V.icmp_ge (pc := 29) 53 hC dX4_call_29 (by decide) (fun c_29 => ?_) (fun c_29 => ?_)
      · have nc_29 : 30 ≤ nN (σ 81 0) := (nle (nl 30) hTn.1 (by omega) (by omega)).mp c_29
        refine V.aload_n (pc := 53) 1 hC dX4_call_53 rfl ?_
        refine V.iload (pc := 54) 0 hC dX4_call_54 rfl ?_
        refine V.iload_n (pc := 56) 4 hC dX4_call_56 rfl ?_
        refine V.iload (pc := 57) 5 hC dX4_call_57 rfl ?_
        refine V.iconst (pc := 59) 1 hC dX4_call_59 (by decide) ?_
        refine V.iadd (pc := 60) hC dX4_call_60 ?_
        refine V.sts (st' := [.int (nI (q + 1)), .int x, .int 20, .ref (a 5)]) (stc (ncast (b := q + 1) (nadd rfl (nl 1)) (by omega)) (stk (stk (stk rfl)))) ?_
        refine V.callV0 (pc := 61) (as := [.int 20, .int x, .int (nI (q + 1))]) hC (c_work_4_20 σ ν x (q + 1) h82 h83 hTn (by omega)) mu_X4_work ml_X4_53 (by decide) ⟨5, 4, TX4, 6, _, rfl, gx_5⟩ rfl (Nat.le_of_ble_eq_true rfl) dX4_call_61 ?_
        rintro _ ⟨f61_0, i61_1⟩ ⟨rfl, hu61_0, hu61_1⟩
        have hu61_0 : (f61_0, i61_1) = bgs [10] (σ 80, σ 81 0) := hu61_0
        have hu61_1 : isN i61_1 30 := hu61_1
        show V X (wX k g a (va_up (va_up σ 80 f61_0) 81 (fun _ => i61_1)) ν) [(5, .int 20), (0, .ref (a 5)), (1, .int 0), (2, .int 1), (3, .int x), (4, .int (nI q))] [.int ((x + ν 85 0) - 4)] 64
        exact hR ((x + ν 85 0) - 4) (f61_0, i61_1) _ _ dX4_call_64 rfl ⟨rfl, by rw [hu61_0]; exact congrArg (bgs [10]) (show (σ 80, σ 81 0) = bgS 20 (σ 80, σ 81 0) from (if_neg (i_ge c_29)).symm), hu61_1⟩
      · have nc_29 : ¬ (30 ≤ nN (σ 81 0)) := fun z => c_29 ((nle (nl 30) hTn.1 (by omega) (by omega)).mpr z)
        refine V.aload_n (pc := 32) 1 hC dX4_call_32 rfl ?_
        refine V.get (pc := 33) (v := .ref (a 80)) hC cf_X4 5 0 fl_X4_9 (by decide) gx_5 rfl dX4_call_33 ?_
        refine V.aload_n (pc := 36) 1 hC dX4_call_36 rfl ?_
        refine V.get (pc := 37) (v := .int (σ 81 0)) hC cf_X4 5 1 fl_X4_15 (by decide) gx_5 rfl dX4_call_37 ?_
        refine V.iload (pc := 40) 0 hC dX4_call_40 rfl ?_
        refine V.iast (pc := 42) (f := σ 80) hC 46 (nN (σ 81 0)) (wX k g a (va_up σ 80 (upd (σ 80) (nN (σ 81 0)) 20)) ν) gx_46 hTn.1 (by omega) (by decide) rfl dX4_call_42 ?_
        refine V.aload_n (pc := 43) 1 hC dX4_call_43 rfl ?_
        refine V.dup (pc := 44) hC dX4_call_44 rfl ?_
        refine V.get (pc := 45) (v := .int (σ 81 0)) hC cf_X4 5 1 fl_X4_15 (by decide) gx_5 rfl dX4_call_45 ?_
        refine V.iconst (pc := 48) 1 hC dX4_call_48 (by decide) ?_
        refine V.iadd (pc := 49) hC dX4_call_49 ?_
        refine V.put (pc := 50) (v := .int ((σ 81 0) + 1)) hC cf_X4 5 1 (wX k g a (va_up (va_up σ 80 (upd (σ 80) (nN (σ 81 0)) 20)) 81 (fun _ => (σ 81 0) + 1)) ν) fl_X4_15 (by decide) gx_5 rfl rfl rfl (Nat.le_of_ble_eq_true rfl) rfl dX4_call_50 ?_
        refine V.aload_n (pc := 53) 1 hC dX4_call_53 rfl ?_
        refine V.iload (pc := 54) 0 hC dX4_call_54 rfl ?_
        refine V.iload_n (pc := 56) 4 hC dX4_call_56 rfl ?_
        refine V.iload (pc := 57) 5 hC dX4_call_57 rfl ?_
        refine V.iconst (pc := 59) 1 hC dX4_call_59 (by decide) ?_
        refine V.iadd (pc := 60) hC dX4_call_60 ?_
        refine V.sts (st' := [.int (nI (q + 1)), .int x, .int 20, .ref (a 5)]) (stc (ncast (b := q + 1) (nadd rfl (nl 1)) (by omega)) (stk (stk (stk rfl)))) ?_
        refine V.callV0 (pc := 61) (as := [.int 20, .int x, .int (nI (q + 1))]) hC (c_work_4_20 (va_up (va_up σ 80 (upd (σ 80) (nN (σ 81 0)) 20)) 81 (fun _ => (σ 81 0) + 1)) ν x (q + 1) h82 h83 (isN.mk (nadd hTn.1 (nl 1)) (by omega) (by omega)) (by omega)) mu_X4_work ml_X4_53 (by decide) ⟨5, 4, TX4, 6, _, rfl, gx_5⟩ rfl (Nat.le_of_ble_eq_true rfl) dX4_call_61 ?_
        rintro _ ⟨f61_0, i61_1⟩ ⟨rfl, hu61_0, hu61_1⟩
        have hu61_0 : (f61_0, i61_1) = bgs [10] ((upd (σ 80) (nN (σ 81 0)) 20), ((σ 81 0) + 1)) := hu61_0
        have hu61_1 : isN i61_1 30 := hu61_1
        show V X (wX k g a (va_up (va_up σ 80 f61_0) 81 (fun _ => i61_1)) ν) [(5, .int 20), (0, .ref (a 5)), (1, .int 0), (2, .int 1), (3, .int x), (4, .int (nI q))] [.int ((x + ν 85 0) - 4)] 64
        exact hR ((x + ν 85 0) - 4) (f61_0, i61_1) _ _ dX4_call_64 rfl ⟨rfl, by rw [hu61_0]; exact congrArg (bgs [10]) (show (upd (σ 80) (nN (σ 81 0)) 20, σ 81 0 + 1) = bgS 20 (σ 80, σ 81 0) from (if_pos (i_nle c_29)).symm), hu61_1⟩
    · have nc_11 : ¬ (q ≤ 20) := fun z => c_11 ((nle rfl (nl 20) (by omega) (by omega)).mpr z)
      exfalso; omega
set_option maxHeartbeats 4000000 in
set_option maxRecDepth 100000 in
theorem c_work_4_50 {l : Launch} {D : va_G} {k : Nat → ClassId} {g a : Nat → Nat} (σ ν : St) (x : Int32) (q : Nat) (h82 : ν 82 0 = 0) (h83 : ν 83 0 = 4) (hTn : isN (σ 81 0) 30) (hq : q + 2 ≤ 20) : Ct l D k g yX4_work cX4_work 5 (some .int) 4 98 [.ref (a 5), .int 50, .int x, .int (nI q)] (S := Rw × Int32) (wX k g a σ ν) (fun uu => wX k g a (va_up (va_up σ 80 uu.1) 81 (fun _ => uu.2)) ν) (fun vv uu => vv = some (.int (((x + ν 85 0) - 4) * 3)) ∧ (uu.1, uu.2) = bgs [20, 10] (σ 80, σ 81 0) ∧ isN uu.2 30) := by
  refine Ct.ofI RX4 rfl (by decide +kernel) (Nat.le_of_ble_eq_true rfl) (fun X hC hR => ?_)
  show V X (wX k g a σ ν) [(0, .ref (a 5)), (1, .int 50), (2, .int x), (3, .int (nI q))] [] 0
  refine V.getAboveN (pc := 0) hC dX4_work_0 rfl ?_
  refine V.iload_n (pc := 3) 1 hC dX4_work_3 rfl ?_
  refine V.bipush (pc := 4) 10 hC dX4_work_4 (by decide) ?_
  refine V.idiv (pc := 6) hC dX4_work_6 (by decide) ?_
  refine V.eqi (y := 5) (by decide) ?_
  refine V.iconst (pc := 7) 1 hC dX4_work_7 (by decide) ?_
  refine V.isub (pc := 8) hC dX4_work_8 ?_
  refine V.eqi (y := 4) (by decide) ?_
  refine V.ldAbove (pc := 9) hC 4 1 (nl 4) (by decide) rfl dX4_work_9 ?_
  refine V.istore (pc := 10) [(4, .int 1), (0, .ref (a 5)), (1, .int 50), (2, .int x), (3, .int (nI q))] hC dX4_work_10 (by decide) rfl ?_
  refine V.iload_n (pc := 12) 2 hC dX4_work_12 rfl ?_
  refine V.lookup (pc := 13) 229 hC dX4_work_13 (by decide) rfl (by decide) ?_
  refine V.aload_n (pc := 229) 1 hC dX4_work_229 rfl ?_
  refine V.iconst (pc := 230) 0 hC dX4_work_230 (by decide) ?_
  refine V.iload (pc := 231) 0 hC dX4_work_231 rfl ?_
  refine V.iload_n (pc := 233) 3 hC dX4_work_233 rfl ?_
  refine V.iload_n (pc := 234) 4 hC dX4_work_234 rfl ?_
  refine V.callV0 (pc := 235) (as := [.int 0, .int 1, .int x, .int (nI q)]) hC (c_call_4_0_1 σ ν x q h82 h83 hTn (by omega)) mu_X4_call ml_X4_39 (by decide) ⟨5, 4, TX4, 6, _, rfl, gx_5⟩ rfl (Nat.le_of_ble_eq_true rfl) dX4_work_235 ?_
  rintro _ ⟨f235_0, i235_1⟩ ⟨rfl, hu235_0, hu235_1⟩
  have hu235_0 : (f235_0, i235_1) = bgs [20, 10] (σ 80, σ 81 0) := hu235_0
  have hu235_1 : isN i235_1 30 := hu235_1
  show V X (wX k g a (va_up (va_up σ 80 f235_0) 81 (fun _ => i235_1)) ν) [(4, .int 1), (0, .ref (a 5)), (1, .int 50), (2, .int x), (3, .int (nI q))] [.int ((x + ν 85 0) - 4)] 238
  refine V.iconst (pc := 238) 3 hC dX4_work_238 (by decide) ?_
  refine V.imul (pc := 239) hC dX4_work_239 ?_
  exact hR (((x + ν 85 0) - 4) * 3) (f235_0, i235_1) _ _ dX4_work_240 rfl ⟨rfl, hu235_0, hu235_1⟩
set_option maxHeartbeats 4000000 in
set_option maxRecDepth 100000 in
theorem c_call_4_0_4 {l : Launch} {D : va_G} {k : Nat → ClassId} {g a : Nat → Nat} (σ ν : St) (x : Int32) (q : Nat) (h82 : ν 82 0 = 0) (h83 : ν 83 0 = 4) (hTn : isN (σ 81 0) 30) (hq : q + 3 ≤ 20) : Ct l D k g yX4_call cX4_call 6 (some .int) 5 122 [.ref (a 5), .int 0, .int 4, .int x, .int (nI q)] (S := Rw × Int32) (wX k g a σ ν) (fun uu => wX k g a (va_up (va_up σ 80 uu.1) 81 (fun _ => uu.2)) ν) (fun vv uu => vv = some (.int (((x + ν 85 0) - 4) * 3)) ∧ (uu.1, uu.2) = bgs [50, 20, 10] (σ 80, σ 81 0) ∧ isN uu.2 30) := by
  refine Ct.ofI RX4 rfl (by decide +kernel) (Nat.le_of_ble_eq_true rfl) (fun X hC hR => ?_)
  have hTb := hTn.2
  show V X (wX k g a σ ν) [(0, .ref (a 5)), (1, .int 0), (2, .int 4), (3, .int x), (4, .int (nI q))] [] 0
  refine V.aload_n (pc := 0) 0 hC dX4_call_0 rfl ?_
  refine V.get (pc := 1) (v := .int (ν 82 0)) hC cf_X4 5 2 fl_X4_19 (by decide) gx_5 rfl dX4_call_1 ?_
  refine V.eqi (y := 0) (h82) ?_
  refine V.if_ne (pc := 4) 14 hC dX4_call_4 (by decide) (fun c_4 => ?_) (fun c_4 => ?_)
  · have nc_4 : ¬ (0 = 0) := fun z => c_4 ((neq (nl 0) (nl 0) (by omega) (by omega)).mpr z)
    exact absurd c_4 (by decide)
  · have nc_4 : 0 = 0 := (neq (nl 0) (nl 0) (by omega) (by omega)).mp c_4
    refine V.iload (pc := 7) 4 hC dX4_call_7 rfl ?_
    refine V.bipush (pc := 9) 20 hC dX4_call_9 (by decide) ?_
    refine V.icmp_le (pc := 11) 16 hC dX4_call_11 (by decide) (fun c_11 => ?_) (fun c_11 => ?_)
    · have nc_11 : q ≤ 20 := (nle rfl (nl 20) (by omega) (by omega)).mp c_11
      refine V.iload_n (pc := 16) 1 hC dX4_call_16 rfl ?_
      refine V.iload_n (pc := 17) 2 hC dX4_call_17 rfl ?_
      refine V.callS0 (pc := 18) (as := [.int 0, .int 4]) hC (c_find_0_4  ) ms_X4_find ml_X4_49 (by decide) rfl (Nat.le_of_ble_eq_true rfl) dX4_call_18 ?_
      rintro _ _ rfl
      show V X (wX k g a σ ν) [(0, .ref (a 5)), (1, .int 0), (2, .int 4), (3, .int x), (4, .int (nI q))] [.int 50] 21
      refine V.istore (pc := 21) [(5, .int 50), (0, .ref (a 5)), (1, .int 0), (2, .int 4), (3, .int x), (4, .int (nI q))] hC dX4_call_21 (by decide) rfl ?_
      refine V.aload_n (pc := 23) 1 hC dX4_call_23 rfl ?_
      refine V.get (pc := 24) (v := .int (σ 81 0)) hC cf_X4 5 1 fl_X4_15 (by decide) gx_5 rfl dX4_call_24 ?_
      refine V.bipush (pc := 27) 30 hC dX4_call_27 (by decide) ?_
      refine V.icmp_ge (pc := 29) 53 hC dX4_call_29 (by decide) (fun c_29 => ?_) (fun c_29 => ?_)
      · have nc_29 : 30 ≤ nN (σ 81 0) := (nle (nl 30) hTn.1 (by omega) (by omega)).mp c_29
        refine V.aload_n (pc := 53) 1 hC dX4_call_53 rfl ?_
        refine V.iload (pc := 54) 0 hC dX4_call_54 rfl ?_
        refine V.iload_n (pc := 56) 4 hC dX4_call_56 rfl ?_
        refine V.iload (pc := 57) 5 hC dX4_call_57 rfl ?_
        refine V.iconst (pc := 59) 1 hC dX4_call_59 (by decide) ?_
        refine V.iadd (pc := 60) hC dX4_call_60 ?_
        refine V.sts (st' := [.int (nI (q + 1)), .int x, .int 50, .ref (a 5)]) (stc (ncast (b := q + 1) (nadd rfl (nl 1)) (by omega)) (stk (stk (stk rfl)))) ?_
        refine V.callV0 (pc := 61) (as := [.int 50, .int x, .int (nI (q + 1))]) hC (c_work_4_50 σ ν x (q + 1) h82 h83 hTn (by omega)) mu_X4_work ml_X4_53 (by decide) ⟨5, 4, TX4, 6, _, rfl, gx_5⟩ rfl (Nat.le_of_ble_eq_true rfl) dX4_call_61 ?_
        rintro _ ⟨f61_0, i61_1⟩ ⟨rfl, hu61_0, hu61_1⟩
        have hu61_0 : (f61_0, i61_1) = bgs [20, 10] (σ 80, σ 81 0) := hu61_0
        have hu61_1 : isN i61_1 30 := hu61_1
        show V X (wX k g a (va_up (va_up σ 80 f61_0) 81 (fun _ => i61_1)) ν) [(5, .int 50), (0, .ref (a 5)), (1, .int 0), (2, .int 4), (3, .int x), (4, .int (nI q))] [.int (((x + ν 85 0) - 4) * 3)] 64
        exact hR (((x + ν 85 0) - 4) * 3) (f61_0, i61_1) _ _ dX4_call_64 rfl ⟨rfl, by rw [hu61_0]; exact congrArg (bgs [20, 10]) (show (σ 80, σ 81 0) = bgS 50 (σ 80, σ 81 0) from (if_neg (i_ge c_29)).symm), hu61_1⟩
      · have nc_29 : ¬ (30 ≤ nN (σ 81 0)) := fun z => c_29 ((nle (nl 30) hTn.1 (by omega) (by omega)).mpr z)
        refine V.aload_n (pc := 32) 1 hC dX4_call_32 rfl ?_
        refine V.get (pc := 33) (v := .ref (a 80)) hC cf_X4 5 0 fl_X4_9 (by decide) gx_5 rfl dX4_call_33 ?_
        refine V.aload_n (pc := 36) 1 hC dX4_call_36 rfl ?_
        refine V.get (pc := 37) (v := .int (σ 81 0)) hC cf_X4 5 1 fl_X4_15 (by decide) gx_5 rfl dX4_call_37 ?_
        refine V.iload (pc := 40) 0 hC dX4_call_40 rfl ?_
        refine V.iast (pc := 42) (f := σ 80) hC 46 (nN (σ 81 0)) (wX k g a (va_up σ 80 (upd (σ 80) (nN (σ 81 0)) 50)) ν) gx_46 hTn.1 (by omega) (by decide) rfl dX4_call_42 ?_
        refine V.aload_n (pc := 43) 1 hC dX4_call_43 rfl ?_
        refine V.dup (pc := 44) hC dX4_call_44 rfl ?_
        refine V.get (pc := 45) (v := .int (σ 81 0)) hC cf_X4 5 1 fl_X4_15 (by decide) gx_5 rfl dX4_call_45 ?_
        refine V.iconst (pc := 48) 1 hC dX4_call_48 (by decide) ?_
        refine V.iadd (pc := 49) hC dX4_call_49 ?_
        refine V.put (pc := 50) (v := .int ((σ 81 0) + 1)) hC cf_X4 5 1 (wX k g a (va_up (va_up σ 80 (upd (σ 80) (nN (σ 81 0)) 50)) 81 (fun _ => (σ 81 0) + 1)) ν) fl_X4_15 (by decide) gx_5 rfl rfl rfl (Nat.le_of_ble_eq_true rfl) rfl dX4_call_50 ?_
        refine V.aload_n (pc := 53) 1 hC dX4_call_53 rfl ?_
        refine V.iload (pc := 54) 0 hC dX4_call_54 rfl ?_
        refine V.iload_n (pc := 56) 4 hC dX4_call_56 rfl ?_
        refine V.iload (pc := 57) 5 hC dX4_call_57 rfl ?_
        refine V.iconst (pc := 59) 1 hC dX4_call_59 (by decide) ?_
        refine V.iadd (pc := 60) hC dX4_call_60 ?_
        refine V.sts (st' := [.int (nI (q + 1)), .int x, .int 50, .ref (a 5)]) (stc (ncast (b := q + 1) (nadd rfl (nl 1)) (by omega)) (stk (stk (stk rfl)))) ?_
        refine V.callV0 (pc := 61) (as := [.int 50, .int x, .int (nI (q + 1))]) hC (c_work_4_50 (va_up (va_up σ 80 (upd (σ 80) (nN (σ 81 0)) 50)) 81 (fun _ => (σ 81 0) + 1)) ν x (q + 1) h82 h83 (isN.mk (nadd hTn.1 (nl 1)) (by omega) (by omega)) (by omega)) mu_X4_work ml_X4_53 (by decide) ⟨5, 4, TX4, 6, _, rfl, gx_5⟩ rfl (Nat.le_of_ble_eq_true rfl) dX4_call_61 ?_
        rintro _ ⟨f61_0, i61_1⟩ ⟨rfl, hu61_0, hu61_1⟩
        have hu61_0 : (f61_0, i61_1) = bgs [20, 10] ((upd (σ 80) (nN (σ 81 0)) 50), ((σ 81 0) + 1)) := hu61_0
        have hu61_1 : isN i61_1 30 := hu61_1
        show V X (wX k g a (va_up (va_up σ 80 f61_0) 81 (fun _ => i61_1)) ν) [(5, .int 50), (0, .ref (a 5)), (1, .int 0), (2, .int 4), (3, .int x), (4, .int (nI q))] [.int (((x + ν 85 0) - 4) * 3)] 64
        exact hR (((x + ν 85 0) - 4) * 3) (f61_0, i61_1) _ _ dX4_call_64 rfl ⟨rfl, by rw [hu61_0]; exact congrArg (bgs [20, 10]) (show (upd (σ 80) (nN (σ 81 0)) 50, σ 81 0 + 1) = bgS 50 (σ 80, σ 81 0) from (if_pos (i_nle c_29)).symm), hu61_1⟩
    · have nc_11 : ¬ (q ≤ 20) := fun z => c_11 ((nle rfl (nl 20) (by omega) (by omega)).mpr z)
      exfalso; omega
set_option maxHeartbeats 4000000 in
set_option maxRecDepth 100000 in
theorem c_work_4_11 {l : Launch} {D : va_G} {k : Nat → ClassId} {g a : Nat → Nat} (σ ν : St) (x : Int32) (q : Nat) (h82 : ν 82 0 = 0) (h83 : ν 83 0 = 4) (hTn : isN (σ 81 0) 30) (hq : q + 3 ≤ 20) : Ct l D k g yX4_work cX4_work 5 (some .int) 6 147 [.ref (a 5), .int 11, .int x, .int (nI q)] (S := Rw × Int32) (wX k g a σ ν) (fun uu => wX k g a (va_up (va_up σ 80 uu.1) 81 (fun _ => uu.2)) ν) (fun vv uu => vv = some (.int ((((x + ν 85 0) - 4) * 3) * 2)) ∧ (uu.1, uu.2) = bgs [50, 20, 10] (σ 80, σ 81 0) ∧ isN uu.2 30) := by
  refine Ct.ofI RX4 rfl (by decide +kernel) (Nat.le_of_ble_eq_true rfl) (fun X hC hR => ?_)
  show V X (wX k g a σ ν) [(0, .ref (a 5)), (1, .int 11), (2, .int x), (3, .int (nI q))] [] 0
  refine V.getAboveN (pc := 0) hC dX4_work_0 rfl ?_
  refine V.iload_n (pc := 3) 1 hC dX4_work_3 rfl ?_
  refine V.bipush (pc := 4) 10 hC dX4_work_4 (by decide) ?_
  refine V.idiv (pc := 6) hC dX4_work_6 (by decide) ?_
  refine V.eqi (y := 1) (by decide) ?_
  refine V.iconst (pc := 7) 1 hC dX4_work_7 (by decide) ?_
  refine V.isub (pc := 8) hC dX4_work_8 ?_
  refine V.eqi (y := 0) (by decide) ?_
  refine V.ldAbove (pc := 9) hC 0 (-1) (nl 0) (by decide) rfl dX4_work_9 ?_
  refine V.istore (pc := 10) [(4, .int (-1)), (0, .ref (a 5)), (1, .int 11), (2, .int x), (3, .int (nI q))] hC dX4_work_10 (by decide) rfl ?_
  refine V.iload_n (pc := 12) 2 hC dX4_work_12 rfl ?_
  refine V.lookup (pc := 13) 135 hC dX4_work_13 (by decide) rfl (by decide) ?_
  refine V.aload_n (pc := 135) 1 hC dX4_work_135 rfl ?_
  refine V.iconst (pc := 136) 0 hC dX4_work_136 (by decide) ?_
  refine V.aload_n (pc := 137) 1 hC dX4_work_137 rfl ?_
  refine V.get (pc := 138) (v := .int (ν 83 0)) hC cf_X4 5 3 fl_X4_28 (by decide) gx_5 rfl dX4_work_138 ?_
  refine V.eqi (y := 4) (h83) ?_
  refine V.iload_n (pc := 141) 3 hC dX4_work_141 rfl ?_
  refine V.iload_n (pc := 142) 4 hC dX4_work_142 rfl ?_
  refine V.callV0 (pc := 143) (as := [.int 0, .int 4, .int x, .int (nI q)]) hC (c_call_4_0_4 σ ν x q h82 h83 hTn (by omega)) mu_X4_call ml_X4_39 (by decide) ⟨5, 4, TX4, 6, _, rfl, gx_5⟩ rfl (Nat.le_of_ble_eq_true rfl) dX4_work_143 ?_
  rintro _ ⟨f143_0, i143_1⟩ ⟨rfl, hu143_0, hu143_1⟩
  have hu143_0 : (f143_0, i143_1) = bgs [50, 20, 10] (σ 80, σ 81 0) := hu143_0
  have hu143_1 : isN i143_1 30 := hu143_1
  show V X (wX k g a (va_up (va_up σ 80 f143_0) 81 (fun _ => i143_1)) ν) [(4, .int (-1)), (0, .ref (a 5)), (1, .int 11), (2, .int x), (3, .int (nI q))] [.int (((x + ν 85 0) - 4) * 3)] 146
  refine V.iconst (pc := 146) 2 hC dX4_work_146 (by decide) ?_
  refine V.imul (pc := 147) hC dX4_work_147 ?_
  exact hR ((((x + ν 85 0) - 4) * 3) * 2) (f143_0, i143_1) _ _ dX4_work_148 rfl ⟨rfl, hu143_0, hu143_1⟩
set_option maxHeartbeats 4000000 in
set_option maxRecDepth 100000 in
theorem c_call_4_1_4 {l : Launch} {D : va_G} {k : Nat → ClassId} {g a : Nat → Nat} (σ ν : St) (x : Int32) (q : Nat) (h82 : ν 82 0 = 0) (h83 : ν 83 0 = 4) (hTn : isN (σ 81 0) 30) (hq : q + 4 ≤ 20) : Ct l D k g yX4_call cX4_call 6 (some .int) 7 171 [.ref (a 5), .int 1, .int 4, .int x, .int (nI q)] (S := Rw × Int32) (wX k g a σ ν) (fun uu => wX k g a (va_up (va_up σ 80 uu.1) 81 (fun _ => uu.2)) ν) (fun vv uu => vv = some (.int ((((x + ν 85 0) - 4) * 3) * 2)) ∧ (uu.1, uu.2) = bgs [11, 50, 20, 10] (σ 80, σ 81 0) ∧ isN uu.2 30) := by
  refine Ct.ofI RX4 rfl (by decide +kernel) (Nat.le_of_ble_eq_true rfl) (fun X hC hR => ?_)
  have hTb := hTn.2
  show V X (wX k g a σ ν) [(0, .ref (a 5)), (1, .int 1), (2, .int 4), (3, .int x), (4, .int (nI q))] [] 0
  refine V.aload_n (pc := 0) 0 hC dX4_call_0 rfl ?_
  refine V.get (pc := 1) (v := .int (ν 82 0)) hC cf_X4 5 2 fl_X4_19 (by decide) gx_5 rfl dX4_call_1 ?_
  refine V.eqi (y := 0) (h82) ?_
  refine V.if_ne (pc := 4) 14 hC dX4_call_4 (by decide) (fun c_4 => ?_) (fun c_4 => ?_)
  · have nc_4 : ¬ (0 = 0) := fun z => c_4 ((neq (nl 0) (nl 0) (by omega) (by omega)).mpr z)
    exact absurd c_4 (by decide)
  · have nc_4 : 0 = 0 := (neq (nl 0) (nl 0) (by omega) (by omega)).mp c_4
    refine V.iload (pc := 7) 4 hC dX4_call_7 rfl ?_
    refine V.bipush (pc := 9) 20 hC dX4_call_9 (by decide) ?_
    refine V.icmp_le (pc := 11) 16 hC dX4_call_11 (by decide) (fun c_11 => ?_) (fun c_11 => ?_)
    · have nc_11 : q ≤ 20 := (nle rfl (nl 20) (by omega) (by omega)).mp c_11
      refine V.iload_n (pc := 16) 1 hC dX4_call_16 rfl ?_
      refine V.iload_n (pc := 17) 2 hC dX4_call_17 rfl ?_
      refine V.callS0 (pc := 18) (as := [.int 1, .int 4]) hC (c_find_1_4  ) ms_X4_find ml_X4_49 (by decide) rfl (Nat.le_of_ble_eq_true rfl) dX4_call_18 ?_
      rintro _ _ rfl
      show V X (wX k g a σ ν) [(0, .ref (a 5)), (1, .int 1), (2, .int 4), (3, .int x), (4, .int (nI q))] [.int 11] 21
      refine V.istore (pc := 21) [(5, .int 11), (0, .ref (a 5)), (1, .int 1), (2, .int 4), (3, .int x), (4, .int (nI q))] hC dX4_call_21 (by decide) rfl ?_
      refine V.aload_n (pc := 23) 1 hC dX4_call_23 rfl ?_
      refine V.get (pc := 24) (v := .int (σ 81 0)) hC cf_X4 5 1 fl_X4_15 (by decide) gx_5 rfl dX4_call_24 ?_
      refine V.bipush (pc := 27) 30 hC dX4_call_27 (by decide) ?_
      refine V.icmp_ge (pc := 29) 53 hC dX4_call_29 (by decide) (fun c_29 => ?_) (fun c_29 => ?_)
      · have nc_29 : 30 ≤ nN (σ 81 0) := (nle (nl 30) hTn.1 (by omega) (by omega)).mp c_29
        refine V.aload_n (pc := 53) 1 hC dX4_call_53 rfl ?_
        refine V.iload (pc := 54) 0 hC dX4_call_54 rfl ?_
        refine V.iload_n (pc := 56) 4 hC dX4_call_56 rfl ?_
        refine V.iload (pc := 57) 5 hC dX4_call_57 rfl ?_
        refine V.iconst (pc := 59) 1 hC dX4_call_59 (by decide) ?_
        refine V.iadd (pc := 60) hC dX4_call_60 ?_
        refine V.sts (st' := [.int (nI (q + 1)), .int x, .int 11, .ref (a 5)]) (stc (ncast (b := q + 1) (nadd rfl (nl 1)) (by omega)) (stk (stk (stk rfl)))) ?_
        refine V.callV0 (pc := 61) (as := [.int 11, .int x, .int (nI (q + 1))]) hC (c_work_4_11 σ ν x (q + 1) h82 h83 hTn (by omega)) mu_X4_work ml_X4_53 (by decide) ⟨5, 4, TX4, 6, _, rfl, gx_5⟩ rfl (Nat.le_of_ble_eq_true rfl) dX4_call_61 ?_
        rintro _ ⟨f61_0, i61_1⟩ ⟨rfl, hu61_0, hu61_1⟩
        have hu61_0 : (f61_0, i61_1) = bgs [50, 20, 10] (σ 80, σ 81 0) := hu61_0
        have hu61_1 : isN i61_1 30 := hu61_1
        show V X (wX k g a (va_up (va_up σ 80 f61_0) 81 (fun _ => i61_1)) ν) [(5, .int 11), (0, .ref (a 5)), (1, .int 1), (2, .int 4), (3, .int x), (4, .int (nI q))] [.int ((((x + ν 85 0) - 4) * 3) * 2)] 64
        exact hR ((((x + ν 85 0) - 4) * 3) * 2) (f61_0, i61_1) _ _ dX4_call_64 rfl ⟨rfl, by rw [hu61_0]; exact congrArg (bgs [50, 20, 10]) (show (σ 80, σ 81 0) = bgS 11 (σ 80, σ 81 0) from (if_neg (i_ge c_29)).symm), hu61_1⟩
      · have nc_29 : ¬ (30 ≤ nN (σ 81 0)) := fun z => c_29 ((nle (nl 30) hTn.1 (by omega) (by omega)).mpr z)
        refine V.aload_n (pc := 32) 1 hC dX4_call_32 rfl ?_
        refine V.get (pc := 33) (v := .ref (a 80)) hC cf_X4 5 0 fl_X4_9 (by decide) gx_5 rfl dX4_call_33 ?_
        refine V.aload_n (pc := 36) 1 hC dX4_call_36 rfl ?_
        refine V.get (pc := 37) (v := .int (σ 81 0)) hC cf_X4 5 1 fl_X4_15 (by decide) gx_5 rfl dX4_call_37 ?_
        refine V.iload (pc := 40) 0 hC dX4_call_40 rfl ?_
        refine V.iast (pc := 42) (f := σ 80) hC 46 (nN (σ 81 0)) (wX k g a (va_up σ 80 (upd (σ 80) (nN (σ 81 0)) 11)) ν) gx_46 hTn.1 (by omega) (by decide) rfl dX4_call_42 ?_
        refine V.aload_n (pc := 43) 1 hC dX4_call_43 rfl ?_
        refine V.dup (pc := 44) hC dX4_call_44 rfl ?_
        refine V.get (pc := 45) (v := .int (σ 81 0)) hC cf_X4 5 1 fl_X4_15 (by decide) gx_5 rfl dX4_call_45 ?_
        refine V.iconst (pc := 48) 1 hC dX4_call_48 (by decide) ?_
        refine V.iadd (pc := 49) hC dX4_call_49 ?_
        refine V.put (pc := 50) (v := .int ((σ 81 0) + 1)) hC cf_X4 5 1 (wX k g a (va_up (va_up σ 80 (upd (σ 80) (nN (σ 81 0)) 11)) 81 (fun _ => (σ 81 0) + 1)) ν) fl_X4_15 (by decide) gx_5 rfl rfl rfl (Nat.le_of_ble_eq_true rfl) rfl dX4_call_50 ?_
        refine V.aload_n (pc := 53) 1 hC dX4_call_53 rfl ?_
        refine V.iload (pc := 54) 0 hC dX4_call_54 rfl ?_
        refine V.iload_n (pc := 56) 4 hC dX4_call_56 rfl ?_
        refine V.iload (pc := 57) 5 hC dX4_call_57 rfl ?_
        refine V.iconst (pc := 59) 1 hC dX4_call_59 (by decide) ?_
        refine V.iadd (pc := 60) hC dX4_call_60 ?_
        refine V.sts (st' := [.int (nI (q + 1)), .int x, .int 11, .ref (a 5)]) (stc (ncast (b := q + 1) (nadd rfl (nl 1)) (by omega)) (stk (stk (stk rfl)))) ?_
        refine V.callV0 (pc := 61) (as := [.int 11, .int x, .int (nI (q + 1))]) hC (c_work_4_11 (va_up (va_up σ 80 (upd (σ 80) (nN (σ 81 0)) 11)) 81 (fun _ => (σ 81 0) + 1)) ν x (q + 1) h82 h83 (isN.mk (nadd hTn.1 (nl 1)) (by omega) (by omega)) (by omega)) mu_X4_work ml_X4_53 (by decide) ⟨5, 4, TX4, 6, _, rfl, gx_5⟩ rfl (Nat.le_of_ble_eq_true rfl) dX4_call_61 ?_
        rintro _ ⟨f61_0, i61_1⟩ ⟨rfl, hu61_0, hu61_1⟩
        have hu61_0 : (f61_0, i61_1) = bgs [50, 20, 10] ((upd (σ 80) (nN (σ 81 0)) 11), ((σ 81 0) + 1)) := hu61_0
        have hu61_1 : isN i61_1 30 := hu61_1
        show V X (wX k g a (va_up (va_up σ 80 f61_0) 81 (fun _ => i61_1)) ν) [(5, .int 11), (0, .ref (a 5)), (1, .int 1), (2, .int 4), (3, .int x), (4, .int (nI q))] [.int ((((x + ν 85 0) - 4) * 3) * 2)] 64
        exact hR ((((x + ν 85 0) - 4) * 3) * 2) (f61_0, i61_1) _ _ dX4_call_64 rfl ⟨rfl, by rw [hu61_0]; exact congrArg (bgs [50, 20, 10]) (show (upd (σ 80) (nN (σ 81 0)) 11, σ 81 0 + 1) = bgS 11 (σ 80, σ 81 0) from (if_pos (i_nle c_29)).symm), hu61_1⟩
    · have nc_11 : ¬ (q ≤ 20) := fun z => c_11 ((nle rfl (nl 20) (by omega) (by omega)).mpr z)
      exfalso; omega
set_option maxHeartbeats 4000000 in
set_option maxRecDepth 100000 in
theorem c_work_4_12 {l : Launch} {D : va_G} {k : Nat → ClassId} {g a : Nat → Nat} (σ ν : St) (x : Int32) (q : Nat) (h82 : ν 82 0 = 0) (h83 : ν 83 0 = 4) (hTn : isN (σ 81 0) 30) (hq : q + 4 ≤ 20) : Ct l D k g yX4_work cX4_work 5 (some .int) 8 196 [.ref (a 5), .int 12, .int x, .int (nI q)] (S := Rw × Int32) (wX k g a σ ν) (fun uu => wX k g a (va_up (va_up σ 80 uu.1) 81 (fun _ => uu.2)) ν) (fun vv uu => vv = some (.int (((((x + ν 85 0) - 4) * 3) * 2) - ν 84 0)) ∧ (uu.1, uu.2) = bgs [11, 50, 20, 10] (σ 80, σ 81 0) ∧ isN uu.2 30) := by
  refine Ct.ofI RX4 rfl (by decide +kernel) (Nat.le_of_ble_eq_true rfl) (fun X hC hR => ?_)
  show V X (wX k g a σ ν) [(0, .ref (a 5)), (1, .int 12), (2, .int x), (3, .int (nI q))] [] 0
  refine V.getAboveN (pc := 0) hC dX4_work_0 rfl ?_
  refine V.iload_n (pc := 3) 1 hC dX4_work_3 rfl ?_
  refine V.bipush (pc := 4) 10 hC dX4_work_4 (by decide) ?_
  refine V.idiv (pc := 6) hC dX4_work_6 (by decide) ?_
  refine V.eqi (y := 1) (by decide) ?_
  refine V.iconst (pc := 7) 1 hC dX4_work_7 (by decide) ?_
  refine V.isub (pc := 8) hC dX4_work_8 ?_
  refine V.eqi (y := 0) (by decide) ?_
  refine V.ldAbove (pc := 9) hC 0 (-1) (nl 0) (by decide) rfl dX4_work_9 ?_
  refine V.istore (pc := 10) [(4, .int (-1)), (0, .ref (a 5)), (1, .int 12), (2, .int x), (3, .int (nI q))] hC dX4_work_10 (by decide) rfl ?_
  refine V.iload_n (pc := 12) 2 hC dX4_work_12 rfl ?_
  refine V.lookup (pc := 13) 149 hC dX4_work_13 (by decide) rfl (by decide) ?_
  refine V.aload_n (pc := 149) 1 hC dX4_work_149 rfl ?_
  refine V.iconst (pc := 150) 1 hC dX4_work_150 (by decide) ?_
  refine V.aload_n (pc := 151) 1 hC dX4_work_151 rfl ?_
  refine V.get (pc := 152) (v := .int (ν 83 0)) hC cf_X4 5 3 fl_X4_28 (by decide) gx_5 rfl dX4_work_152 ?_
  refine V.eqi (y := 4) (h83) ?_
  refine V.iload_n (pc := 155) 3 hC dX4_work_155 rfl ?_
  refine V.iload_n (pc := 156) 4 hC dX4_work_156 rfl ?_
  refine V.callV0 (pc := 157) (as := [.int 1, .int 4, .int x, .int (nI q)]) hC (c_call_4_1_4 σ ν x q h82 h83 hTn (by omega)) mu_X4_call ml_X4_39 (by decide) ⟨5, 4, TX4, 6, _, rfl, gx_5⟩ rfl (Nat.le_of_ble_eq_true rfl) dX4_work_157 ?_
  rintro _ ⟨f157_0, i157_1⟩ ⟨rfl, hu157_0, hu157_1⟩
  have hu157_0 : (f157_0, i157_1) = bgs [11, 50, 20, 10] (σ 80, σ 81 0) := hu157_0
  have hu157_1 : isN i157_1 30 := hu157_1
  show V X (wX k g a (va_up (va_up σ 80 f157_0) 81 (fun _ => i157_1)) ν) [(4, .int (-1)), (0, .ref (a 5)), (1, .int 12), (2, .int x), (3, .int (nI q))] [.int ((((x + ν 85 0) - 4) * 3) * 2)] 160
  refine V.aload_n (pc := 160) 1 hC dX4_work_160 rfl ?_
  refine V.get (pc := 161) (v := .int (ν 84 0)) hC cf_X4 5 4 fl_X4_33 (by decide) gx_5 rfl dX4_work_161 ?_
  refine V.isub (pc := 164) hC dX4_work_164 ?_
  exact hR (((((x + ν 85 0) - 4) * 3) * 2) - (ν 84 0)) (f157_0, i157_1) _ _ dX4_work_165 rfl ⟨rfl, hu157_0, hu157_1⟩
set_option maxHeartbeats 4000000 in
set_option maxRecDepth 100000 in
theorem c_call_4_2_1 {l : Launch} {D : va_G} {k : Nat → ClassId} {g a : Nat → Nat} (σ ν : St) (x : Int32) (q : Nat) (h82 : ν 82 0 = 0) (h83 : ν 83 0 = 4) (hTn : isN (σ 81 0) 30) (hq : q + 5 ≤ 20) : Ct l D k g yX4_call cX4_call 6 (some .int) 9 220 [.ref (a 5), .int 2, .int 1, .int x, .int (nI q)] (S := Rw × Int32) (wX k g a σ ν) (fun uu => wX k g a (va_up (va_up σ 80 uu.1) 81 (fun _ => uu.2)) ν) (fun vv uu => vv = some (.int (((((x + ν 85 0) - 4) * 3) * 2) - ν 84 0)) ∧ (uu.1, uu.2) = bgs [12, 11, 50, 20, 10] (σ 80, σ 81 0) ∧ isN uu.2 30) := by
  refine Ct.ofI RX4 rfl (by decide +kernel) (Nat.le_of_ble_eq_true rfl) (fun X hC hR => ?_)
  have hTb := hTn.2
  show V X (wX k g a σ ν) [(0, .ref (a 5)), (1, .int 2), (2, .int 1), (3, .int x), (4, .int (nI q))] [] 0
  refine V.aload_n (pc := 0) 0 hC dX4_call_0 rfl ?_
  refine V.get (pc := 1) (v := .int (ν 82 0)) hC cf_X4 5 2 fl_X4_19 (by decide) gx_5 rfl dX4_call_1 ?_
  refine V.eqi (y := 0) (h82) ?_
  refine V.if_ne (pc := 4) 14 hC dX4_call_4 (by decide) (fun c_4 => ?_) (fun c_4 => ?_)
  · have nc_4 : ¬ (0 = 0) := fun z => c_4 ((neq (nl 0) (nl 0) (by omega) (by omega)).mpr z)
    exact absurd c_4 (by decide)
  · have nc_4 : 0 = 0 := (neq (nl 0) (nl 0) (by omega) (by omega)).mp c_4
    refine V.iload (pc := 7) 4 hC dX4_call_7 rfl ?_
    refine V.bipush (pc := 9) 20 hC dX4_call_9 (by decide) ?_
    refine V.icmp_le (pc := 11) 16 hC dX4_call_11 (by decide) (fun c_11 => ?_) (fun c_11 => ?_)
    · have nc_11 : q ≤ 20 := (nle rfl (nl 20) (by omega) (by omega)).mp c_11
      refine V.iload_n (pc := 16) 1 hC dX4_call_16 rfl ?_
      refine V.iload_n (pc := 17) 2 hC dX4_call_17 rfl ?_
      refine V.callS0 (pc := 18) (as := [.int 2, .int 1]) hC (c_find_2_1  ) ms_X4_find ml_X4_49 (by decide) rfl (Nat.le_of_ble_eq_true rfl) dX4_call_18 ?_
      rintro _ _ rfl
      show V X (wX k g a σ ν) [(0, .ref (a 5)), (1, .int 2), (2, .int 1), (3, .int x), (4, .int (nI q))] [.int 12] 21
      refine V.istore (pc := 21) [(5, .int 12), (0, .ref (a 5)), (1, .int 2), (2, .int 1), (3, .int x), (4, .int (nI q))] hC dX4_call_21 (by decide) rfl ?_
      refine V.aload_n (pc := 23) 1 hC dX4_call_23 rfl ?_
      refine V.get (pc := 24) (v := .int (σ 81 0)) hC cf_X4 5 1 fl_X4_15 (by decide) gx_5 rfl dX4_call_24 ?_
      refine V.bipush (pc := 27) 30 hC dX4_call_27 (by decide) ?_
      refine V.icmp_ge (pc := 29) 53 hC dX4_call_29 (by decide) (fun c_29 => ?_) (fun c_29 => ?_)
      · have nc_29 : 30 ≤ nN (σ 81 0) := (nle (nl 30) hTn.1 (by omega) (by omega)).mp c_29
        refine V.aload_n (pc := 53) 1 hC dX4_call_53 rfl ?_
        refine V.iload (pc := 54) 0 hC dX4_call_54 rfl ?_
        refine V.iload_n (pc := 56) 4 hC dX4_call_56 rfl ?_
        refine V.iload (pc := 57) 5 hC dX4_call_57 rfl ?_
        refine V.iconst (pc := 59) 1 hC dX4_call_59 (by decide) ?_
        refine V.iadd (pc := 60) hC dX4_call_60 ?_
        refine V.sts (st' := [.int (nI (q + 1)), .int x, .int 12, .ref (a 5)]) (stc (ncast (b := q + 1) (nadd rfl (nl 1)) (by omega)) (stk (stk (stk rfl)))) ?_
        refine V.callV0 (pc := 61) (as := [.int 12, .int x, .int (nI (q + 1))]) hC (c_work_4_12 σ ν x (q + 1) h82 h83 hTn (by omega)) mu_X4_work ml_X4_53 (by decide) ⟨5, 4, TX4, 6, _, rfl, gx_5⟩ rfl (Nat.le_of_ble_eq_true rfl) dX4_call_61 ?_
        rintro _ ⟨f61_0, i61_1⟩ ⟨rfl, hu61_0, hu61_1⟩
        have hu61_0 : (f61_0, i61_1) = bgs [11, 50, 20, 10] (σ 80, σ 81 0) := hu61_0
        have hu61_1 : isN i61_1 30 := hu61_1
        show V X (wX k g a (va_up (va_up σ 80 f61_0) 81 (fun _ => i61_1)) ν) [(5, .int 12), (0, .ref (a 5)), (1, .int 2), (2, .int 1), (3, .int x), (4, .int (nI q))] [.int (((((x + ν 85 0) - 4) * 3) * 2) - ν 84 0)] 64
        exact hR (((((x + ν 85 0) - 4) * 3) * 2) - ν 84 0) (f61_0, i61_1) _ _ dX4_call_64 rfl ⟨rfl, by rw [hu61_0]; exact congrArg (bgs [11, 50, 20, 10]) (show (σ 80, σ 81 0) = bgS 12 (σ 80, σ 81 0) from (if_neg (i_ge c_29)).symm), hu61_1⟩
      · have nc_29 : ¬ (30 ≤ nN (σ 81 0)) := fun z => c_29 ((nle (nl 30) hTn.1 (by omega) (by omega)).mpr z)
        refine V.aload_n (pc := 32) 1 hC dX4_call_32 rfl ?_
        refine V.get (pc := 33) (v := .ref (a 80)) hC cf_X4 5 0 fl_X4_9 (by decide) gx_5 rfl dX4_call_33 ?_
        refine V.aload_n (pc := 36) 1 hC dX4_call_36 rfl ?_
        refine V.get (pc := 37) (v := .int (σ 81 0)) hC cf_X4 5 1 fl_X4_15 (by decide) gx_5 rfl dX4_call_37 ?_
        refine V.iload (pc := 40) 0 hC dX4_call_40 rfl ?_
        refine V.iast (pc := 42) (f := σ 80) hC 46 (nN (σ 81 0)) (wX k g a (va_up σ 80 (upd (σ 80) (nN (σ 81 0)) 12)) ν) gx_46 hTn.1 (by omega) (by decide) rfl dX4_call_42 ?_
        refine V.aload_n (pc := 43) 1 hC dX4_call_43 rfl ?_
        refine V.dup (pc := 44) hC dX4_call_44 rfl ?_
        refine V.get (pc := 45) (v := .int (σ 81 0)) hC cf_X4 5 1 fl_X4_15 (by decide) gx_5 rfl dX4_call_45 ?_
        refine V.iconst (pc := 48) 1 hC dX4_call_48 (by decide) ?_
        refine V.iadd (pc := 49) hC dX4_call_49 ?_
        refine V.put (pc := 50) (v := .int ((σ 81 0) + 1)) hC cf_X4 5 1 (wX k g a (va_up (va_up σ 80 (upd (σ 80) (nN (σ 81 0)) 12)) 81 (fun _ => (σ 81 0) + 1)) ν) fl_X4_15 (by decide) gx_5 rfl rfl rfl (Nat.le_of_ble_eq_true rfl) rfl dX4_call_50 ?_
        refine V.aload_n (pc := 53) 1 hC dX4_call_53 rfl ?_
        refine V.iload (pc := 54) 0 hC dX4_call_54 rfl ?_
        refine V.iload_n (pc := 56) 4 hC dX4_call_56 rfl ?_
        refine V.iload (pc := 57) 5 hC dX4_call_57 rfl ?_
        refine V.iconst (pc := 59) 1 hC dX4_call_59 (by decide) ?_
        refine V.iadd (pc := 60) hC dX4_call_60 ?_
        refine V.sts (st' := [.int (nI (q + 1)), .int x, .int 12, .ref (a 5)]) (stc (ncast (b := q + 1) (nadd rfl (nl 1)) (by omega)) (stk (stk (stk rfl)))) ?_
        refine V.callV0 (pc := 61) (as := [.int 12, .int x, .int (nI (q + 1))]) hC (c_work_4_12 (va_up (va_up σ 80 (upd (σ 80) (nN (σ 81 0)) 12)) 81 (fun _ => (σ 81 0) + 1)) ν x (q + 1) h82 h83 (isN.mk (nadd hTn.1 (nl 1)) (by omega) (by omega)) (by omega)) mu_X4_work ml_X4_53 (by decide) ⟨5, 4, TX4, 6, _, rfl, gx_5⟩ rfl (Nat.le_of_ble_eq_true rfl) dX4_call_61 ?_
        rintro _ ⟨f61_0, i61_1⟩ ⟨rfl, hu61_0, hu61_1⟩
        have hu61_0 : (f61_0, i61_1) = bgs [11, 50, 20, 10] ((upd (σ 80) (nN (σ 81 0)) 12), ((σ 81 0) + 1)) := hu61_0
        have hu61_1 : isN i61_1 30 := hu61_1
        show V X (wX k g a (va_up (va_up σ 80 f61_0) 81 (fun _ => i61_1)) ν) [(5, .int 12), (0, .ref (a 5)), (1, .int 2), (2, .int 1), (3, .int x), (4, .int (nI q))] [.int (((((x + ν 85 0) - 4) * 3) * 2) - ν 84 0)] 64
        exact hR (((((x + ν 85 0) - 4) * 3) * 2) - ν 84 0) (f61_0, i61_1) _ _ dX4_call_64 rfl ⟨rfl, by rw [hu61_0]; exact congrArg (bgs [11, 50, 20, 10]) (show (upd (σ 80) (nN (σ 81 0)) 12, σ 81 0 + 1) = bgS 12 (σ 80, σ 81 0) from (if_pos (i_nle c_29)).symm), hu61_1⟩
    · have nc_11 : ¬ (q ≤ 20) := fun z => c_11 ((nle rfl (nl 20) (by omega) (by omega)).mpr z)
      exfalso; omega
set_option maxHeartbeats 4000000 in
set_option maxRecDepth 100000 in
theorem c_work_4_51 {l : Launch} {D : va_G} {k : Nat → ClassId} {g a : Nat → Nat} (σ ν : St) (x : Int32) (q : Nat) (h82 : ν 82 0 = 0) (h83 : ν 83 0 = 4) (hTn : isN (σ 81 0) 30) (hq : q + 5 ≤ 20) : Ct l D k g yX4_work cX4_work 5 (some .int) 10 245 [.ref (a 5), .int 51, .int x, .int (nI q)] (S := Rw × Int32) (wX k g a σ ν) (fun uu => wX k g a (va_up (va_up σ 80 uu.1) 81 (fun _ => uu.2)) ν) (fun vv uu => vv = some (.int ((((((x + ν 85 0) - 4) * 3) * 2) - ν 84 0) ^^^ ν 85 0)) ∧ (uu.1, uu.2) = bgs [12, 11, 50, 20, 10] (σ 80, σ 81 0) ∧ isN uu.2 30) := by
  refine Ct.ofI RX4 rfl (by decide +kernel) (Nat.le_of_ble_eq_true rfl) (fun X hC hR => ?_)
  show V X (wX k g a σ ν) [(0, .ref (a 5)), (1, .int 51), (2, .int x), (3, .int (nI q))] [] 0
  refine V.getAboveN (pc := 0) hC dX4_work_0 rfl ?_
  refine V.iload_n (pc := 3) 1 hC dX4_work_3 rfl ?_
  refine V.bipush (pc := 4) 10 hC dX4_work_4 (by decide) ?_
  refine V.idiv (pc := 6) hC dX4_work_6 (by decide) ?_
  refine V.eqi (y := 5) (by decide) ?_
  refine V.iconst (pc := 7) 1 hC dX4_work_7 (by decide) ?_
  refine V.isub (pc := 8) hC dX4_work_8 ?_
  refine V.eqi (y := 4) (by decide) ?_
  refine V.ldAbove (pc := 9) hC 4 1 (nl 4) (by decide) rfl dX4_work_9 ?_
  refine V.istore (pc := 10) [(4, .int 1), (0, .ref (a 5)), (1, .int 51), (2, .int x), (3, .int (nI q))] hC dX4_work_10 (by decide) rfl ?_
  refine V.iload_n (pc := 12) 2 hC dX4_work_12 rfl ?_
  refine V.lookup (pc := 13) 241 hC dX4_work_13 (by decide) rfl (by decide) ?_
  refine V.aload_n (pc := 241) 1 hC dX4_work_241 rfl ?_
  refine V.iconst (pc := 242) 2 hC dX4_work_242 (by decide) ?_
  refine V.iload (pc := 243) 0 hC dX4_work_243 rfl ?_
  refine V.iload_n (pc := 245) 3 hC dX4_work_245 rfl ?_
  refine V.iload_n (pc := 246) 4 hC dX4_work_246 rfl ?_
  refine V.callV0 (pc := 247) (as := [.int 2, .int 1, .int x, .int (nI q)]) hC (c_call_4_2_1 σ ν x q h82 h83 hTn (by omega)) mu_X4_call ml_X4_39 (by decide) ⟨5, 4, TX4, 6, _, rfl, gx_5⟩ rfl (Nat.le_of_ble_eq_true rfl) dX4_work_247 ?_
  rintro _ ⟨f247_0, i247_1⟩ ⟨rfl, hu247_0, hu247_1⟩
  have hu247_0 : (f247_0, i247_1) = bgs [12, 11, 50, 20, 10] (σ 80, σ 81 0) := hu247_0
  have hu247_1 : isN i247_1 30 := hu247_1
  show V X (wX k g a (va_up (va_up σ 80 f247_0) 81 (fun _ => i247_1)) ν) [(4, .int 1), (0, .ref (a 5)), (1, .int 51), (2, .int x), (3, .int (nI q))] [.int (((((x + ν 85 0) - 4) * 3) * 2) - ν 84 0)] 250
  refine V.aload_n (pc := 250) 1 hC dX4_work_250 rfl ?_
  refine V.get (pc := 251) (v := .int (ν 85 0)) hC cf_X4 5 5 fl_X4_36 (by decide) gx_5 rfl dX4_work_251 ?_
  refine V.ixor (pc := 254) hC dX4_work_254 ?_
  exact hR ((((((x + ν 85 0) - 4) * 3) * 2) - ν 84 0) ^^^ (ν 85 0)) (f247_0, i247_1) _ _ dX4_work_255 rfl ⟨rfl, hu247_0, hu247_1⟩
set_option maxHeartbeats 4000000 in
set_option maxRecDepth 100000 in
theorem c_call_4_2_4 {l : Launch} {D : va_G} {k : Nat → ClassId} {g a : Nat → Nat} (σ ν : St) (x : Int32) (q : Nat) (h82 : ν 82 0 = 0) (h83 : ν 83 0 = 4) (hTn : isN (σ 81 0) 30) (hq : q + 6 ≤ 20) : Ct l D k g yX4_call cX4_call 6 (some .int) 11 269 [.ref (a 5), .int 2, .int 4, .int x, .int (nI q)] (S := Rw × Int32) (wX k g a σ ν) (fun uu => wX k g a (va_up (va_up σ 80 uu.1) 81 (fun _ => uu.2)) ν) (fun vv uu => vv = some (.int ((((((x + ν 85 0) - 4) * 3) * 2) - ν 84 0) ^^^ ν 85 0)) ∧ (uu.1, uu.2) = bgs [51, 12, 11, 50, 20, 10] (σ 80, σ 81 0) ∧ isN uu.2 30) := by
  refine Ct.ofI RX4 rfl (by decide +kernel) (Nat.le_of_ble_eq_true rfl) (fun X hC hR => ?_)
  have hTb := hTn.2
  show V X (wX k g a σ ν) [(0, .ref (a 5)), (1, .int 2), (2, .int 4), (3, .int x), (4, .int (nI q))] [] 0
  refine V.aload_n (pc := 0) 0 hC dX4_call_0 rfl ?_
  refine V.get (pc := 1) (v := .int (ν 82 0)) hC cf_X4 5 2 fl_X4_19 (by decide) gx_5 rfl dX4_call_1 ?_
  refine V.eqi (y := 0) (h82) ?_
  refine V.if_ne (pc := 4) 14 hC dX4_call_4 (by decide) (fun c_4 => ?_) (fun c_4 => ?_)
  · have nc_4 : ¬ (0 = 0) := fun z => c_4 ((neq (nl 0) (nl 0) (by omega) (by omega)).mpr z)
    exact absurd c_4 (by decide)
  · have nc_4 : 0 = 0 := (neq (nl 0) (nl 0) (by omega) (by omega)).mp c_4
    refine V.iload (pc := 7) 4 hC dX4_call_7 rfl ?_
    refine V.bipush (pc := 9) 20 hC dX4_call_9 (by decide) ?_
    refine V.icmp_le (pc := 11) 16 hC dX4_call_11 (by decide) (fun c_11 => ?_) (fun c_11 => ?_)
    · have nc_11 : q ≤ 20 := (nle rfl (nl 20) (by omega) (by omega)).mp c_11
      refine V.iload_n (pc := 16) 1 hC dX4_call_16 rfl ?_
      refine V.iload_n (pc := 17) 2 hC dX4_call_17 rfl ?_
      refine V.callS0 (pc := 18) (as := [.int 2, .int 4]) hC (c_find_2_4  ) ms_X4_find ml_X4_49 (by decide) rfl (Nat.le_of_ble_eq_true rfl) dX4_call_18 ?_
      rintro _ _ rfl
      show V X (wX k g a σ ν) [(0, .ref (a 5)), (1, .int 2), (2, .int 4), (3, .int x), (4, .int (nI q))] [.int 51] 21
      refine V.istore (pc := 21) [(5, .int 51), (0, .ref (a 5)), (1, .int 2), (2, .int 4), (3, .int x), (4, .int (nI q))] hC dX4_call_21 (by decide) rfl ?_
      refine V.aload_n (pc := 23) 1 hC dX4_call_23 rfl ?_
      refine V.get (pc := 24) (v := .int (σ 81 0)) hC cf_X4 5 1 fl_X4_15 (by decide) gx_5 rfl dX4_call_24 ?_
      refine V.bipush (pc := 27) 30 hC dX4_call_27 (by decide) ?_
      refine V.icmp_ge (pc := 29) 53 hC dX4_call_29 (by decide) (fun c_29 => ?_) (fun c_29 => ?_)
      · have nc_29 : 30 ≤ nN (σ 81 0) := (nle (nl 30) hTn.1 (by omega) (by omega)).mp c_29
        refine V.aload_n (pc := 53) 1 hC dX4_call_53 rfl ?_
        refine V.iload (pc := 54) 0 hC dX4_call_54 rfl ?_
        refine V.iload_n (pc := 56) 4 hC dX4_call_56 rfl ?_
        refine V.iload (pc := 57) 5 hC dX4_call_57 rfl ?_
        refine V.iconst (pc := 59) 1 hC dX4_call_59 (by decide) ?_
        refine V.iadd (pc := 60) hC dX4_call_60 ?_
        refine V.sts (st' := [.int (nI (q + 1)), .int x, .int 51, .ref (a 5)]) (stc (ncast (b := q + 1) (nadd rfl (nl 1)) (by omega)) (stk (stk (stk rfl)))) ?_
        refine V.callV0 (pc := 61) (as := [.int 51, .int x, .int (nI (q + 1))]) hC (c_work_4_51 σ ν x (q + 1) h82 h83 hTn (by omega)) mu_X4_work ml_X4_53 (by decide) ⟨5, 4, TX4, 6, _, rfl, gx_5⟩ rfl (Nat.le_of_ble_eq_true rfl) dX4_call_61 ?_
        rintro _ ⟨f61_0, i61_1⟩ ⟨rfl, hu61_0, hu61_1⟩
        have hu61_0 : (f61_0, i61_1) = bgs [12, 11, 50, 20, 10] (σ 80, σ 81 0) := hu61_0
        have hu61_1 : isN i61_1 30 := hu61_1
        show V X (wX k g a (va_up (va_up σ 80 f61_0) 81 (fun _ => i61_1)) ν) [(5, .int 51), (0, .ref (a 5)), (1, .int 2), (2, .int 4), (3, .int x), (4, .int (nI q))] [.int ((((((x + ν 85 0) - 4) * 3) * 2) - ν 84 0) ^^^ ν 85 0)] 64
        exact hR ((((((x + ν 85 0) - 4) * 3) * 2) - ν 84 0) ^^^ ν 85 0) (f61_0, i61_1) _ _ dX4_call_64 rfl ⟨rfl, by rw [hu61_0]; exact congrArg (bgs [12, 11, 50, 20, 10]) (show (σ 80, σ 81 0) = bgS 51 (σ 80, σ 81 0) from (if_neg (i_ge c_29)).symm), hu61_1⟩
      · have nc_29 : ¬ (30 ≤ nN (σ 81 0)) := fun z => c_29 ((nle (nl 30) hTn.1 (by omega) (by omega)).mpr z)
        refine V.aload_n (pc := 32) 1 hC dX4_call_32 rfl ?_
        refine V.get (pc := 33) (v := .ref (a 80)) hC cf_X4 5 0 fl_X4_9 (by decide) gx_5 rfl dX4_call_33 ?_
        refine V.aload_n (pc := 36) 1 hC dX4_call_36 rfl ?_
        refine V.get (pc := 37) (v := .int (σ 81 0)) hC cf_X4 5 1 fl_X4_15 (by decide) gx_5 rfl dX4_call_37 ?_
        refine V.iload (pc := 40) 0 hC dX4_call_40 rfl ?_
        refine V.iast (pc := 42) (f := σ 80) hC 46 (nN (σ 81 0)) (wX k g a (va_up σ 80 (upd (σ 80) (nN (σ 81 0)) 51)) ν) gx_46 hTn.1 (by omega) (by decide) rfl dX4_call_42 ?_
        refine V.aload_n (pc := 43) 1 hC dX4_call_43 rfl ?_
        refine V.dup (pc := 44) hC dX4_call_44 rfl ?_
        refine V.get (pc := 45) (v := .int (σ 81 0)) hC cf_X4 5 1 fl_X4_15 (by decide) gx_5 rfl dX4_call_45 ?_
        refine V.iconst (pc := 48) 1 hC dX4_call_48 (by decide) ?_
        refine V.iadd (pc := 49) hC dX4_call_49 ?_
        refine V.put (pc := 50) (v := .int ((σ 81 0) + 1)) hC cf_X4 5 1 (wX k g a (va_up (va_up σ 80 (upd (σ 80) (nN (σ 81 0)) 51)) 81 (fun _ => (σ 81 0) + 1)) ν) fl_X4_15 (by decide) gx_5 rfl rfl rfl (Nat.le_of_ble_eq_true rfl) rfl dX4_call_50 ?_
        refine V.aload_n (pc := 53) 1 hC dX4_call_53 rfl ?_
        refine V.iload (pc := 54) 0 hC dX4_call_54 rfl ?_
        refine V.iload_n (pc := 56) 4 hC dX4_call_56 rfl ?_
        refine V.iload (pc := 57) 5 hC dX4_call_57 rfl ?_
        refine V.iconst (pc := 59) 1 hC dX4_call_59 (by decide) ?_
        refine V.iadd (pc := 60) hC dX4_call_60 ?_
        refine V.sts (st' := [.int (nI (q + 1)), .int x, .int 51, .ref (a 5)]) (stc (ncast (b := q + 1) (nadd rfl (nl 1)) (by omega)) (stk (stk (stk rfl)))) ?_
        refine V.callV0 (pc := 61) (as := [.int 51, .int x, .int (nI (q + 1))]) hC (c_work_4_51 (va_up (va_up σ 80 (upd (σ 80) (nN (σ 81 0)) 51)) 81 (fun _ => (σ 81 0) + 1)) ν x (q + 1) h82 h83 (isN.mk (nadd hTn.1 (nl 1)) (by omega) (by omega)) (by omega)) mu_X4_work ml_X4_53 (by decide) ⟨5, 4, TX4, 6, _, rfl, gx_5⟩ rfl (Nat.le_of_ble_eq_true rfl) dX4_call_61 ?_
        rintro _ ⟨f61_0, i61_1⟩ ⟨rfl, hu61_0, hu61_1⟩
        have hu61_0 : (f61_0, i61_1) = bgs [12, 11, 50, 20, 10] ((upd (σ 80) (nN (σ 81 0)) 51), ((σ 81 0) + 1)) := hu61_0
        have hu61_1 : isN i61_1 30 := hu61_1
        show V X (wX k g a (va_up (va_up σ 80 f61_0) 81 (fun _ => i61_1)) ν) [(5, .int 51), (0, .ref (a 5)), (1, .int 2), (2, .int 4), (3, .int x), (4, .int (nI q))] [.int ((((((x + ν 85 0) - 4) * 3) * 2) - ν 84 0) ^^^ ν 85 0)] 64
        exact hR ((((((x + ν 85 0) - 4) * 3) * 2) - ν 84 0) ^^^ ν 85 0) (f61_0, i61_1) _ _ dX4_call_64 rfl ⟨rfl, by rw [hu61_0]; exact congrArg (bgs [12, 11, 50, 20, 10]) (show (upd (σ 80) (nN (σ 81 0)) 51, σ 81 0 + 1) = bgS 51 (σ 80, σ 81 0) from (if_pos (i_nle c_29)).symm), hu61_1⟩
    · have nc_11 : ¬ (q ≤ 20) := fun z => c_11 ((nle rfl (nl 20) (by omega) (by omega)).mpr z)
      exfalso; omega
set_option maxHeartbeats 4000000 in
set_option maxRecDepth 100000 in
theorem c_work_4_13 {l : Launch} {D : va_G} {k : Nat → ClassId} {g a : Nat → Nat} (σ ν : St) (x : Int32) (q : Nat) (h82 : ν 82 0 = 0) (h83 : ν 83 0 = 4) (hTn : isN (σ 81 0) 30) (hq : q + 0 ≤ 20) : Ct l D k g yX4_work cX4_work 5 (some .int) 1 21 [.ref (a 5), .int 13, .int x, .int (nI q)] (S := Rw × Int32 × Int32) (wX k g a σ ν) (fun uu => wX k g a (va_up (va_up σ 80 uu.1) 81 (fun _ => uu.2.1)) (va_up ν 82 (fun _ => uu.2.2))) (fun vv uu => vv = some (.int (if ν 84 0 - ν 85 0 = 0 then 0 else x / (ν 84 0 - ν 85 0))) ∧ (uu.1, uu.2.1) = bgs [] (σ 80, σ 81 0) ∧ isN uu.2.1 30 ∧ uu.2.2 = bI (ν 84 0 - ν 85 0 = 0)) := by
  refine Ct.ofI RX4 rfl (by decide +kernel) (Nat.le_of_ble_eq_true rfl) (fun X hC hR => ?_)
  show V X (wX k g a σ ν) [(0, .ref (a 5)), (1, .int 13), (2, .int x), (3, .int (nI q))] [] 0
  refine V.getAboveN (pc := 0) hC dX4_work_0 rfl ?_
  refine V.iload_n (pc := 3) 1 hC dX4_work_3 rfl ?_
  refine V.bipush (pc := 4) 10 hC dX4_work_4 (by decide) ?_
  refine V.idiv (pc := 6) hC dX4_work_6 (by decide) ?_
  refine V.eqi (y := 1) (by decide) ?_
  refine V.iconst (pc := 7) 1 hC dX4_work_7 (by decide) ?_
  refine V.isub (pc := 8) hC dX4_work_8 ?_
  refine V.eqi (y := 0) (by decide) ?_
  refine V.ldAbove (pc := 9) hC 0 (-1) (nl 0) (by decide) rfl dX4_work_9 ?_
  refine V.istore (pc := 10) [(4, .int (-1)), (0, .ref (a 5)), (1, .int 13), (2, .int x), (3, .int (nI q))] hC dX4_work_10 (by decide) rfl ?_
  refine V.iload_n (pc := 12) 2 hC dX4_work_12 rfl ?_
  refine V.lookup (pc := 13) 166 hC dX4_work_13 (by decide) rfl (by decide) ?_
  refine V.aload_n (pc := 166) 1 hC dX4_work_166 rfl ?_
  refine V.iload_n (pc := 167) 3 hC dX4_work_167 rfl ?_
  refine V.callV0 (pc := 168) (as := [.int x]) hC (c_X4_part σ ν x h82) mu_X4_part ml_X4_57 (by decide) ⟨5, 4, TX4, 6, _, rfl, gx_5⟩ rfl (Nat.le_of_ble_eq_true rfl) dX4_work_168 ?_
  rintro _ i168_0 ⟨rfl, hu168_0⟩
  have hu168_0 : i168_0 = bI (ν 84 0 - ν 85 0 = 0) := hu168_0
  show V X (wX k g a σ (va_up ν 82 (fun _ => i168_0))) [(4, .int (-1)), (0, .ref (a 5)), (1, .int 13), (2, .int x), (3, .int (nI q))] [.int (if ν 84 0 - ν 85 0 = 0 then 0 else x / (ν 84 0 - ν 85 0))] 171
  exact hR (if ν 84 0 - ν 85 0 = 0 then 0 else x / (ν 84 0 - ν 85 0)) (σ 80, σ 81 0, i168_0) _ _ dX4_work_171 rfl ⟨rfl, rfl, hTn, hu168_0⟩
set_option maxHeartbeats 4000000 in
set_option maxRecDepth 100000 in
theorem c_call_4_3_0 {l : Launch} {D : va_G} {k : Nat → ClassId} {g a : Nat → Nat} (σ ν : St) (x : Int32) (q : Nat) (h82 : ν 82 0 = 0) (h83 : ν 83 0 = 4) (hTn : isN (σ 81 0) 30) (hq : q + 1 ≤ 20) : Ct l D k g yX4_call cX4_call 6 (some .int) 2 45 [.ref (a 5), .int 3, .int 0, .int x, .int (nI q)] (S := Rw × Int32 × Int32) (wX k g a σ ν) (fun uu => wX k g a (va_up (va_up σ 80 uu.1) 81 (fun _ => uu.2.1)) (va_up ν 82 (fun _ => uu.2.2))) (fun vv uu => vv = some (.int (if ν 84 0 - ν 85 0 = 0 then 0 else x / (ν 84 0 - ν 85 0))) ∧ (uu.1, uu.2.1) = bgs [13] (σ 80, σ 81 0) ∧ isN uu.2.1 30 ∧ uu.2.2 = bI (ν 84 0 - ν 85 0 = 0)) := by
  refine Ct.ofI RX4 rfl (by decide +kernel) (Nat.le_of_ble_eq_true rfl) (fun X hC hR => ?_)
  have hTb := hTn.2
  show V X (wX k g a σ ν) [(0, .ref (a 5)), (1, .int 3), (2, .int 0), (3, .int x), (4, .int (nI q))] [] 0
  refine V.aload_n (pc := 0) 0 hC dX4_call_0 rfl ?_
  refine V.get (pc := 1) (v := .int (ν 82 0)) hC cf_X4 5 2 fl_X4_19 (by decide) gx_5 rfl dX4_call_1 ?_
  refine V.eqi (y := 0) (h82) ?_
  refine V.if_ne (pc := 4) 14 hC dX4_call_4 (by decide) (fun c_4 => ?_) (fun c_4 => ?_)
  · have nc_4 : ¬ (0 = 0) := fun z => c_4 ((neq (nl 0) (nl 0) (by omega) (by omega)).mpr z)
    exact absurd c_4 (by decide)
  · have nc_4 : 0 = 0 := (neq (nl 0) (nl 0) (by omega) (by omega)).mp c_4
    refine V.iload (pc := 7) 4 hC dX4_call_7 rfl ?_
    refine V.bipush (pc := 9) 20 hC dX4_call_9 (by decide) ?_
    refine V.icmp_le (pc := 11) 16 hC dX4_call_11 (by decide) (fun c_11 => ?_) (fun c_11 => ?_)
    · have nc_11 : q ≤ 20 := (nle rfl (nl 20) (by omega) (by omega)).mp c_11
      refine V.iload_n (pc := 16) 1 hC dX4_call_16 rfl ?_
      refine V.iload_n (pc := 17) 2 hC dX4_call_17 rfl ?_
      refine V.callS0 (pc := 18) (as := [.int 3, .int 0]) hC (c_find_3_0  ) ms_X4_find ml_X4_49 (by decide) rfl (Nat.le_of_ble_eq_true rfl) dX4_call_18 ?_
      rintro _ _ rfl
      show V X (wX k g a σ ν) [(0, .ref (a 5)), (1, .int 3), (2, .int 0), (3, .int x), (4, .int (nI q))] [.int 13] 21
      refine V.istore (pc := 21) [(5, .int 13), (0, .ref (a 5)), (1, .int 3), (2, .int 0), (3, .int x), (4, .int (nI q))] hC dX4_call_21 (by decide) rfl ?_
      refine V.aload_n (pc := 23) 1 hC dX4_call_23 rfl ?_
      refine V.get (pc := 24) (v := .int (σ 81 0)) hC cf_X4 5 1 fl_X4_15 (by decide) gx_5 rfl dX4_call_24 ?_
      refine V.bipush (pc := 27) 30 hC dX4_call_27 (by decide) ?_
      refine V.icmp_ge (pc := 29) 53 hC dX4_call_29 (by decide) (fun c_29 => ?_) (fun c_29 => ?_)
      · have nc_29 : 30 ≤ nN (σ 81 0) := (nle (nl 30) hTn.1 (by omega) (by omega)).mp c_29
        refine V.aload_n (pc := 53) 1 hC dX4_call_53 rfl ?_
        refine V.iload (pc := 54) 0 hC dX4_call_54 rfl ?_
        refine V.iload_n (pc := 56) 4 hC dX4_call_56 rfl ?_
        refine V.iload (pc := 57) 5 hC dX4_call_57 rfl ?_
        refine V.iconst (pc := 59) 1 hC dX4_call_59 (by decide) ?_
        refine V.iadd (pc := 60) hC dX4_call_60 ?_
        refine V.sts (st' := [.int (nI (q + 1)), .int x, .int 13, .ref (a 5)]) (stc (ncast (b := q + 1) (nadd rfl (nl 1)) (by omega)) (stk (stk (stk rfl)))) ?_
        refine V.callV0 (pc := 61) (as := [.int 13, .int x, .int (nI (q + 1))]) hC (c_work_4_13 σ ν x (q + 1) h82 h83 hTn (by omega)) mu_X4_work ml_X4_53 (by decide) ⟨5, 4, TX4, 6, _, rfl, gx_5⟩ rfl (Nat.le_of_ble_eq_true rfl) dX4_call_61 ?_
        rintro _ ⟨f61_0, i61_1, i61_2⟩ ⟨rfl, hu61_0, hu61_1, hu61_2⟩
        have hu61_0 : (f61_0, i61_1) = bgs [] (σ 80, σ 81 0) := hu61_0
        have hu61_1 : isN i61_1 30 := hu61_1
        have hu61_2 : i61_2 = bI (ν 84 0 - ν 85 0 = 0) := hu61_2
        show V X (wX k g a (va_up (va_up σ 80 f61_0) 81 (fun _ => i61_1)) (va_up ν 82 (fun _ => i61_2))) [(5, .int 13), (0, .ref (a 5)), (1, .int 3), (2, .int 0), (3, .int x), (4, .int (nI q))] [.int (if ν 84 0 - ν 85 0 = 0 then 0 else x / (ν 84 0 - ν 85 0))] 64
        exact hR (if ν 84 0 - ν 85 0 = 0 then 0 else x / (ν 84 0 - ν 85 0)) (f61_0, i61_1, i61_2) _ _ dX4_call_64 rfl ⟨rfl, by rw [hu61_0]; exact congrArg (bgs []) (show (σ 80, σ 81 0) = bgS 13 (σ 80, σ 81 0) from (if_neg (i_ge c_29)).symm), hu61_1, hu61_2⟩
      · have nc_29 : ¬ (30 ≤ nN (σ 81 0)) := fun z => c_29 ((nle (nl 30) hTn.1 (by omega) (by omega)).mpr z)
        refine V.aload_n (pc := 32) 1 hC dX4_call_32 rfl ?_
        refine V.get (pc := 33) (v := .ref (a 80)) hC cf_X4 5 0 fl_X4_9 (by decide) gx_5 rfl dX4_call_33 ?_
        refine V.aload_n (pc := 36) 1 hC dX4_call_36 rfl ?_
        refine V.get (pc := 37) (v := .int (σ 81 0)) hC cf_X4 5 1 fl_X4_15 (by decide) gx_5 rfl dX4_call_37 ?_
        refine V.iload (pc := 40) 0 hC dX4_call_40 rfl ?_
        refine V.iast (pc := 42) (f := σ 80) hC 46 (nN (σ 81 0)) (wX k g a (va_up σ 80 (upd (σ 80) (nN (σ 81 0)) 13)) ν) gx_46 hTn.1 (by omega) (by decide) rfl dX4_call_42 ?_
        refine V.aload_n (pc := 43) 1 hC dX4_call_43 rfl ?_
        refine V.dup (pc := 44) hC dX4_call_44 rfl ?_
        refine V.get (pc := 45) (v := .int (σ 81 0)) hC cf_X4 5 1 fl_X4_15 (by decide) gx_5 rfl dX4_call_45 ?_
        refine V.iconst (pc := 48) 1 hC dX4_call_48 (by decide) ?_
        refine V.iadd (pc := 49) hC dX4_call_49 ?_
        refine V.put (pc := 50) (v := .int ((σ 81 0) + 1)) hC cf_X4 5 1 (wX k g a (va_up (va_up σ 80 (upd (σ 80) (nN (σ 81 0)) 13)) 81 (fun _ => (σ 81 0) + 1)) ν) fl_X4_15 (by decide) gx_5 rfl rfl rfl (Nat.le_of_ble_eq_true rfl) rfl dX4_call_50 ?_
        refine V.aload_n (pc := 53) 1 hC dX4_call_53 rfl ?_
        refine V.iload (pc := 54) 0 hC dX4_call_54 rfl ?_
        refine V.iload_n (pc := 56) 4 hC dX4_call_56 rfl ?_
        refine V.iload (pc := 57) 5 hC dX4_call_57 rfl ?_
        refine V.iconst (pc := 59) 1 hC dX4_call_59 (by decide) ?_
        refine V.iadd (pc := 60) hC dX4_call_60 ?_
        refine V.sts (st' := [.int (nI (q + 1)), .int x, .int 13, .ref (a 5)]) (stc (ncast (b := q + 1) (nadd rfl (nl 1)) (by omega)) (stk (stk (stk rfl)))) ?_
        refine V.callV0 (pc := 61) (as := [.int 13, .int x, .int (nI (q + 1))]) hC (c_work_4_13 (va_up (va_up σ 80 (upd (σ 80) (nN (σ 81 0)) 13)) 81 (fun _ => (σ 81 0) + 1)) ν x (q + 1) h82 h83 (isN.mk (nadd hTn.1 (nl 1)) (by omega) (by omega)) (by omega)) mu_X4_work ml_X4_53 (by decide) ⟨5, 4, TX4, 6, _, rfl, gx_5⟩ rfl (Nat.le_of_ble_eq_true rfl) dX4_call_61 ?_
        rintro _ ⟨f61_0, i61_1, i61_2⟩ ⟨rfl, hu61_0, hu61_1, hu61_2⟩
        have hu61_0 : (f61_0, i61_1) = bgs [] ((upd (σ 80) (nN (σ 81 0)) 13), ((σ 81 0) + 1)) := hu61_0
        have hu61_1 : isN i61_1 30 := hu61_1
        have hu61_2 : i61_2 = bI (ν 84 0 - ν 85 0 = 0) := hu61_2
        show V X (wX k g a (va_up (va_up σ 80 f61_0) 81 (fun _ => i61_1)) (va_up ν 82 (fun _ => i61_2))) [(5, .int 13), (0, .ref (a 5)), (1, .int 3), (2, .int 0), (3, .int x), (4, .int (nI q))] [.int (if ν 84 0 - ν 85 0 = 0 then 0 else x / (ν 84 0 - ν 85 0))] 64
        exact hR (if ν 84 0 - ν 85 0 = 0 then 0 else x / (ν 84 0 - ν 85 0)) (f61_0, i61_1, i61_2) _ _ dX4_call_64 rfl ⟨rfl, by rw [hu61_0]; exact congrArg (bgs []) (show (upd (σ 80) (nN (σ 81 0)) 13, σ 81 0 + 1) = bgS 13 (σ 80, σ 81 0) from (if_pos (i_nle c_29)).symm), hu61_1, hu61_2⟩
    · have nc_11 : ¬ (q ≤ 20) := fun z => c_11 ((nle rfl (nl 20) (by omega) (by omega)).mpr z)
      exfalso; omega
set_option maxHeartbeats 4000000 in
set_option maxRecDepth 100000 in
theorem c_work_4_21 {l : Launch} {D : va_G} {k : Nat → ClassId} {g a : Nat → Nat} (σ ν : St) (x : Int32) (q : Nat) (h82 : ν 82 0 = 0) (h83 : ν 83 0 = 4) (hTn : isN (σ 81 0) 30) (hq : q + 4 ≤ 20) : Ct l D k g yX4_work cX4_work 5 (some .int) 8 196 [.ref (a 5), .int 21, .int x, .int (nI q)] (S := Rw × Int32 × Int32) (wX k g a σ ν) (fun uu => wX k g a (va_up (va_up σ 80 uu.1) 81 (fun _ => uu.2.1)) (va_up ν 82 (fun _ => uu.2.2))) (fun vv uu => vv = some (.int (if ν 84 0 - ν 85 0 = 0 then 0 else x / (ν 84 0 - ν 85 0) + ((((1 + ν 85 0) - 4) * 3) * 2))) ∧ (uu.1, uu.2.1) = bgs (if ν 84 0 - ν 85 0 = 0 then [13] else [13, 11, 50, 20, 10]) (σ 80, σ 81 0) ∧ isN uu.2.1 30 ∧ uu.2.2 = bI (ν 84 0 - ν 85 0 = 0)) := by
  refine Ct.ofI RX4 rfl (by decide +kernel) (Nat.le_of_ble_eq_true rfl) (fun X hC hR => ?_)
  show V X (wX k g a σ ν) [(0, .ref (a 5)), (1, .int 21), (2, .int x), (3, .int (nI q))] [] 0
  refine V.getAboveN (pc := 0) hC dX4_work_0 rfl ?_
  refine V.iload_n (pc := 3) 1 hC dX4_work_3 rfl ?_
  refine V.bipush (pc := 4) 10 hC dX4_work_4 (by decide) ?_
  refine V.idiv (pc := 6) hC dX4_work_6 (by decide) ?_
  refine V.eqi (y := 2) (by decide) ?_
  refine V.iconst (pc := 7) 1 hC dX4_work_7 (by decide) ?_
  refine V.isub (pc := 8) hC dX4_work_8 ?_
  refine V.eqi (y := 1) (by decide) ?_
  refine V.ldAbove (pc := 9) hC 1 0 (nl 1) (by decide) rfl dX4_work_9 ?_
  refine V.istore (pc := 10) [(4, .int 0), (0, .ref (a 5)), (1, .int 21), (2, .int x), (3, .int (nI q))] hC dX4_work_10 (by decide) rfl ?_
  refine V.iload_n (pc := 12) 2 hC dX4_work_12 rfl ?_
  refine V.lookup (pc := 13) 184 hC dX4_work_13 (by decide) rfl (by decide) ?_
  refine V.aload_n (pc := 184) 1 hC dX4_work_184 rfl ?_
  refine V.iconst (pc := 185) 3 hC dX4_work_185 (by decide) ?_
  refine V.iload (pc := 186) 0 hC dX4_work_186 rfl ?_
  refine V.iload_n (pc := 188) 3 hC dX4_work_188 rfl ?_
  refine V.iload_n (pc := 189) 4 hC dX4_work_189 rfl ?_
  refine V.callV0 (pc := 190) (as := [.int 3, .int 0, .int x, .int (nI q)]) hC (c_call_4_3_0 σ ν x q h82 h83 hTn (by omega)) mu_X4_call ml_X4_39 (by decide) ⟨5, 4, TX4, 6, _, rfl, gx_5⟩ rfl (Nat.le_of_ble_eq_true rfl) dX4_work_190 ?_
  rintro _ ⟨f190_0, i190_1, i190_2⟩ ⟨rfl, hu190_0, hu190_1, hu190_2⟩
  replace hu190_0 : (f190_0, i190_1) = bgs [13] (σ 80, σ 81 0) := hu190_0
  replace hu190_1 : isN i190_1 30 := hu190_1
  replace hu190_2 : i190_2 = bI (ν 84 0 - ν 85 0 = 0) := hu190_2
  show V X (wX k g a (va_up (va_up σ 80 f190_0) 81 (fun _ => i190_1)) (va_up ν 82 (fun _ => i190_2))) [(4, .int 0), (0, .ref (a 5)), (1, .int 21), (2, .int x), (3, .int (nI q))] [.int (if ν 84 0 - ν 85 0 = 0 then 0 else x / (ν 84 0 - ν 85 0))] 193
  by_cases sP : ν 84 0 - ν 85 0 = 0
  · obtain rfl : i190_2 = 1 := hu190_2.trans (bI_t sP)
    refine V.eqi (y := 0) (if_pos sP) ?_
    refine V.aload_n (pc := 193) 1 hC dX4_work_193 rfl ?_
    refine V.iconst (pc := 194) 1 hC dX4_work_194 (by decide) ?_
    refine V.aload_n (pc := 195) 1 hC dX4_work_195 rfl ?_
    refine V.get (pc := 196) (v := .int (ν 83 0)) hC cf_X4 5 3 fl_X4_28 (by decide) gx_5 rfl dX4_work_196 ?_
    refine V.eqi (y := 4) (h83) ?_
    refine V.iconst (pc := 199) 1 hC dX4_work_199 (by decide) ?_
    refine V.iload_n (pc := 200) 4 hC dX4_work_200 rfl ?_
    refine V.callV0 (pc := 201) (as := [.int 1, .int 4, .int 1, .int (nI q)]) hC (c_call_p (va_up (va_up σ 80 f190_0) 81 (fun _ => i190_1)) (va_up ν 82 (fun _ => 1)) 1 4 1 (nI q) rfl) mu_X4_call ml_X4_39 (by decide) ⟨5, 4, TX4, 6, _, rfl, gx_5⟩ rfl (Nat.le_of_ble_eq_true rfl) dX4_work_201 ?_
    rintro _ _ rfl
    show V X (wX k g a (va_up (va_up σ 80 f190_0) 81 (fun _ => i190_1)) (va_up ν 82 (fun _ => 1))) [(4, .int 0), (0, .ref (a 5)), (1, .int 21), (2, .int x), (3, .int (nI q))] [.int 0, .int 0] 204
    refine V.iadd (pc := 204) hC dX4_work_204 ?_
    refine V.eqi (y := 0) (by decide) ?_
    exact hR 0 (f190_0, i190_1, 1) _ _ dX4_work_205 rfl ⟨by rw [if_pos sP] <;> rfl, by rw [hu190_0, if_pos sP], hu190_1, (bI_t sP).symm⟩
  · obtain rfl : i190_2 = 0 := hu190_2.trans (bI_f sP)
    refine V.eqi (y := x / (ν 84 0 - ν 85 0)) (if_neg sP) ?_
    refine V.aload_n (pc := 193) 1 hC dX4_work_193 rfl ?_
    refine V.iconst (pc := 194) 1 hC dX4_work_194 (by decide) ?_
    refine V.aload_n (pc := 195) 1 hC dX4_work_195 rfl ?_
    refine V.get (pc := 196) (v := .int (ν 83 0)) hC cf_X4 5 3 fl_X4_28 (by decide) gx_5 rfl dX4_work_196 ?_
    refine V.eqi (y := 4) (h83) ?_
    refine V.iconst (pc := 199) 1 hC dX4_work_199 (by decide) ?_
    refine V.iload_n (pc := 200) 4 hC dX4_work_200 rfl ?_
    refine V.callV0 (pc := 201) (as := [.int 1, .int 4, .int 1, .int (nI q)]) hC (c_call_4_1_4 (va_up (va_up σ 80 f190_0) 81 (fun _ => i190_1)) (va_up ν 82 (fun _ => 0)) 1 q rfl h83 hu190_1 (by omega)) mu_X4_call ml_X4_39 (by decide) ⟨5, 4, TX4, 6, _, rfl, gx_5⟩ rfl (Nat.le_of_ble_eq_true rfl) dX4_work_201 ?_
    rintro _ ⟨f201_0, i201_1⟩ ⟨rfl, hu201_0, hu201_1⟩
    replace hu201_0 : (f201_0, i201_1) = bgs [11, 50, 20, 10] (f190_0, i190_1) := hu201_0
    replace hu201_1 : isN i201_1 30 := hu201_1
    show V X (wX k g a (va_up (va_up σ 80 f201_0) 81 (fun _ => i201_1)) (va_up ν 82 (fun _ => 0))) [(4, .int 0), (0, .ref (a 5)), (1, .int 21), (2, .int x), (3, .int (nI q))] [.int ((((1 + (ν 85 0)) - 4) * 3) * 2), .int (x / (ν 84 0 - ν 85 0))] 204
    refine V.iadd (pc := 204) hC dX4_work_204 ?_
    exact hR ((x / (ν 84 0 - ν 85 0)) + ((((1 + (ν 85 0)) - 4) * 3) * 2)) (f201_0, i201_1, 0) _ _ dX4_work_205 rfl ⟨by rw [if_neg sP], by rw [hu201_0, hu190_0, if_neg sP]; rfl, hu201_1, (bI_f sP).symm⟩
set_option maxHeartbeats 4000000 in
set_option maxRecDepth 100000 in
theorem c_call_4_3_4 {l : Launch} {D : va_G} {k : Nat → ClassId} {g a : Nat → Nat} (σ ν : St) (x : Int32) (q : Nat) (h82 : ν 82 0 = 0) (h83 : ν 83 0 = 4) (hTn : isN (σ 81 0) 30) (hq : q + 5 ≤ 20) : Ct l D k g yX4_call cX4_call 6 (some .int) 9 220 [.ref (a 5), .int 3, .int 4, .int x, .int (nI q)] (S := Rw × Int32 × Int32) (wX k g a σ ν) (fun uu => wX k g a (va_up (va_up σ 80 uu.1) 81 (fun _ => uu.2.1)) (va_up ν 82 (fun _ => uu.2.2))) (fun vv uu => vv = some (.int (if ν 84 0 - ν 85 0 = 0 then 0 else x / (ν 84 0 - ν 85 0) + ((((1 + ν 85 0) - 4) * 3) * 2))) ∧ (uu.1, uu.2.1) = bgs (if ν 84 0 - ν 85 0 = 0 then [21, 13] else [21, 13, 11, 50, 20, 10]) (σ 80, σ 81 0) ∧ isN uu.2.1 30 ∧ uu.2.2 = bI (ν 84 0 - ν 85 0 = 0)) := by
  refine Ct.ofI RX4 rfl (by decide +kernel) (Nat.le_of_ble_eq_true rfl) (fun X hC hR => ?_)
  have hTb := hTn.2
  show V X (wX k g a σ ν) [(0, .ref (a 5)), (1, .int 3), (2, .int 4), (3, .int x), (4, .int (nI q))] [] 0
  refine V.aload_n (pc := 0) 0 hC dX4_call_0 rfl ?_
  refine V.get (pc := 1) (v := .int (ν 82 0)) hC cf_X4 5 2 fl_X4_19 (by decide) gx_5 rfl dX4_call_1 ?_
  refine V.eqi (y := 0) (h82) ?_
  refine V.if_ne (pc := 4) 14 hC dX4_call_4 (by decide) (fun c_4 => ?_) (fun c_4 => ?_)
  · have nc_4 : ¬ (0 = 0) := fun z => c_4 ((neq (nl 0) (nl 0) (by omega) (by omega)).mpr z)
    exact absurd c_4 (by decide)
  · have nc_4 : 0 = 0 := (neq (nl 0) (nl 0) (by omega) (by omega)).mp c_4
    refine V.iload (pc := 7) 4 hC dX4_call_7 rfl ?_
    refine V.bipush (pc := 9) 20 hC dX4_call_9 (by decide) ?_
    refine V.icmp_le (pc := 11) 16 hC dX4_call_11 (by decide) (fun c_11 => ?_) (fun c_11 => ?_)
    · have nc_11 : q ≤ 20 := (nle rfl (nl 20) (by omega) (by omega)).mp c_11
      refine V.iload_n (pc := 16) 1 hC dX4_call_16 rfl ?_
      refine V.iload_n (pc := 17) 2 hC dX4_call_17 rfl ?_
      refine V.callS0 (pc := 18) (as := [.int 3, .int 4]) hC (c_find_3_4  ) ms_X4_find ml_X4_49 (by decide) rfl (Nat.le_of_ble_eq_true rfl) dX4_call_18 ?_
      rintro _ _ rfl
      show V X (wX k g a σ ν) [(0, .ref (a 5)), (1, .int 3), (2, .int 4), (3, .int x), (4, .int (nI q))] [.int 21] 21
      refine V.istore (pc := 21) [(5, .int 21), (0, .ref (a 5)), (1, .int 3), (2, .int 4), (3, .int x), (4, .int (nI q))] hC dX4_call_21 (by decide) rfl ?_
      refine V.aload_n (pc := 23) 1 hC dX4_call_23 rfl ?_
      refine V.get (pc := 24) (v := .int (σ 81 0)) hC cf_X4 5 1 fl_X4_15 (by decide) gx_5 rfl dX4_call_24 ?_
      refine V.bipush (pc := 27) 30 hC dX4_call_27 (by decide) ?_
      refine V.icmp_ge (pc := 29) 53 hC dX4_call_29 (by decide) (fun c_29 => ?_) (fun c_29 => ?_)
      · have nc_29 : 30 ≤ nN (σ 81 0) := (nle (nl 30) hTn.1 (by omega) (by omega)).mp c_29
        refine V.aload_n (pc := 53) 1 hC dX4_call_53 rfl ?_
        refine V.iload (pc := 54) 0 hC dX4_call_54 rfl ?_
        refine V.iload_n (pc := 56) 4 hC dX4_call_56 rfl ?_
        refine V.iload (pc := 57) 5 hC dX4_call_57 rfl ?_
        refine V.iconst (pc := 59) 1 hC dX4_call_59 (by decide) ?_
        refine V.iadd (pc := 60) hC dX4_call_60 ?_
        refine V.sts (st' := [.int (nI (q + 1)), .int x, .int 21, .ref (a 5)]) (stc (ncast (b := q + 1) (nadd rfl (nl 1)) (by omega)) (stk (stk (stk rfl)))) ?_
        refine V.callV0 (pc := 61) (as := [.int 21, .int x, .int (nI (q + 1))]) hC (c_work_4_21 σ ν x (q + 1) h82 h83 hTn (by omega)) mu_X4_work ml_X4_53 (by decide) ⟨5, 4, TX4, 6, _, rfl, gx_5⟩ rfl (Nat.le_of_ble_eq_true rfl) dX4_call_61 ?_
        rintro _ ⟨f61_0, i61_1, i61_2⟩ ⟨rfl, hu61_0, hu61_1, hu61_2⟩
        have hu61_0 : (f61_0, i61_1) = bgs (if ν 84 0 - ν 85 0 = 0 then [13] else [13, 11, 50, 20, 10]) (σ 80, σ 81 0) := hu61_0
        have hu61_1 : isN i61_1 30 := hu61_1
        have hu61_2 : i61_2 = bI (ν 84 0 - ν 85 0 = 0) := hu61_2
        show V X (wX k g a (va_up (va_up σ 80 f61_0) 81 (fun _ => i61_1)) (va_up ν 82 (fun _ => i61_2))) [(5, .int 21), (0, .ref (a 5)), (1, .int 3), (2, .int 4), (3, .int x), (4, .int (nI q))] [.int (if ν 84 0 - ν 85 0 = 0 then 0 else x / (ν 84 0 - ν 85 0) + ((((1 + ν 85 0) - 4) * 3) * 2))] 64
        exact hR (if ν 84 0 - ν 85 0 = 0 then 0 else x / (ν 84 0 - ν 85 0) + ((((1 + ν 85 0) - 4) * 3) * 2)) (f61_0, i61_1, i61_2) _ _ dX4_call_64 rfl ⟨rfl, by rw [hu61_0]; exact (Decidable.em (ν 84 0 - ν 85 0 = 0)).elim (fun z => by rw [if_pos z, if_pos z]; exact congrArg (bgs [13]) (show (σ 80, σ 81 0) = bgS 21 (σ 80, σ 81 0) from (if_neg (i_ge c_29)).symm)) (fun z => by rw [if_neg z, if_neg z]; exact congrArg (bgs [13, 11, 50, 20, 10]) (show (σ 80, σ 81 0) = bgS 21 (σ 80, σ 81 0) from (if_neg (i_ge c_29)).symm)), hu61_1, hu61_2⟩
      · have nc_29 : ¬ (30 ≤ nN (σ 81 0)) := fun z => c_29 ((nle (nl 30) hTn.1 (by omega) (by omega)).mpr z)
        refine V.aload_n (pc := 32) 1 hC dX4_call_32 rfl ?_
        refine V.get (pc := 33) (v := .ref (a 80)) hC cf_X4 5 0 fl_X4_9 (by decide) gx_5 rfl dX4_call_33 ?_
        refine V.aload_n (pc := 36) 1 hC dX4_call_36 rfl ?_
        refine V.get (pc := 37) (v := .int (σ 81 0)) hC cf_X4 5 1 fl_X4_15 (by decide) gx_5 rfl dX4_call_37 ?_
        refine V.iload (pc := 40) 0 hC dX4_call_40 rfl ?_
        refine V.iast (pc := 42) (f := σ 80) hC 46 (nN (σ 81 0)) (wX k g a (va_up σ 80 (upd (σ 80) (nN (σ 81 0)) 21)) ν) gx_46 hTn.1 (by omega) (by decide) rfl dX4_call_42 ?_
        refine V.aload_n (pc := 43) 1 hC dX4_call_43 rfl ?_
        refine V.dup (pc := 44) hC dX4_call_44 rfl ?_
        refine V.get (pc := 45) (v := .int (σ 81 0)) hC cf_X4 5 1 fl_X4_15 (by decide) gx_5 rfl dX4_call_45 ?_
        refine V.iconst (pc := 48) 1 hC dX4_call_48 (by decide) ?_
        refine V.iadd (pc := 49) hC dX4_call_49 ?_
        refine V.put (pc := 50) (v := .int ((σ 81 0) + 1)) hC cf_X4 5 1 (wX k g a (va_up (va_up σ 80 (upd (σ 80) (nN (σ 81 0)) 21)) 81 (fun _ => (σ 81 0) + 1)) ν) fl_X4_15 (by decide) gx_5 rfl rfl rfl (Nat.le_of_ble_eq_true rfl) rfl dX4_call_50 ?_
        refine V.aload_n (pc := 53) 1 hC dX4_call_53 rfl ?_
        refine V.iload (pc := 54) 0 hC dX4_call_54 rfl ?_
        refine V.iload_n (pc := 56) 4 hC dX4_call_56 rfl ?_
        refine V.iload (pc := 57) 5 hC dX4_call_57 rfl ?_
        refine V.iconst (pc := 59) 1 hC dX4_call_59 (by decide) ?_
        refine V.iadd (pc := 60) hC dX4_call_60 ?_
        refine V.sts (st' := [.int (nI (q + 1)), .int x, .int 21, .ref (a 5)]) (stc (ncast (b := q + 1) (nadd rfl (nl 1)) (by omega)) (stk (stk (stk rfl)))) ?_
        refine V.callV0 (pc := 61) (as := [.int 21, .int x, .int (nI (q + 1))]) hC (c_work_4_21 (va_up (va_up σ 80 (upd (σ 80) (nN (σ 81 0)) 21)) 81 (fun _ => (σ 81 0) + 1)) ν x (q + 1) h82 h83 (isN.mk (nadd hTn.1 (nl 1)) (by omega) (by omega)) (by omega)) mu_X4_work ml_X4_53 (by decide) ⟨5, 4, TX4, 6, _, rfl, gx_5⟩ rfl (Nat.le_of_ble_eq_true rfl) dX4_call_61 ?_
        rintro _ ⟨f61_0, i61_1, i61_2⟩ ⟨rfl, hu61_0, hu61_1, hu61_2⟩
        have hu61_0 : (f61_0, i61_1) = bgs (if ν 84 0 - ν 85 0 = 0 then [13] else [13, 11, 50, 20, 10]) ((upd (σ 80) (nN (σ 81 0)) 21), ((σ 81 0) + 1)) := hu61_0
        have hu61_1 : isN i61_1 30 := hu61_1
        have hu61_2 : i61_2 = bI (ν 84 0 - ν 85 0 = 0) := hu61_2
        show V X (wX k g a (va_up (va_up σ 80 f61_0) 81 (fun _ => i61_1)) (va_up ν 82 (fun _ => i61_2))) [(5, .int 21), (0, .ref (a 5)), (1, .int 3), (2, .int 4), (3, .int x), (4, .int (nI q))] [.int (if ν 84 0 - ν 85 0 = 0 then 0 else x / (ν 84 0 - ν 85 0) + ((((1 + ν 85 0) - 4) * 3) * 2))] 64
        exact hR (if ν 84 0 - ν 85 0 = 0 then 0 else x / (ν 84 0 - ν 85 0) + ((((1 + ν 85 0) - 4) * 3) * 2)) (f61_0, i61_1, i61_2) _ _ dX4_call_64 rfl ⟨rfl, by rw [hu61_0]; exact (Decidable.em (ν 84 0 - ν 85 0 = 0)).elim (fun z => by rw [if_pos z, if_pos z]; exact congrArg (bgs [13]) (show (upd (σ 80) (nN (σ 81 0)) 21, σ 81 0 + 1) = bgS 21 (σ 80, σ 81 0) from (if_pos (i_nle c_29)).symm)) (fun z => by rw [if_neg z, if_neg z]; exact congrArg (bgs [13, 11, 50, 20, 10]) (show (upd (σ 80) (nN (σ 81 0)) 21, σ 81 0 + 1) = bgS 21 (σ 80, σ 81 0) from (if_pos (i_nle c_29)).symm)), hu61_1, hu61_2⟩
    · have nc_11 : ¬ (q ≤ 20) := fun z => c_11 ((nle rfl (nl 20) (by omega) (by omega)).mpr z)
      exfalso; omega
set_option maxHeartbeats 4000000 in
set_option maxRecDepth 100000 in
theorem c_work_5_10 {l : Launch} {D : va_G} {k : Nat → ClassId} {g a : Nat → Nat} (σ ν : St) (x : Int32) (q : Nat) (h82 : ν 82 0 = 0) (h83 : ν 83 0 = 5) (hTn : isN (σ 81 0) 30) (hq : q + 0 ≤ 20) : Ct l D k g yX4_work cX4_work 5 (some .int) 0 0 [.ref (a 5), .int 10, .int x, .int (nI q)] (S := Rw × Int32) (wX k g a σ ν) (fun uu => wX k g a (va_up (va_up σ 80 uu.1) 81 (fun _ => uu.2)) ν) (fun vv uu => vv = some (.int (x + ν 85 0)) ∧ (uu.1, uu.2) = bgs [] (σ 80, σ 81 0) ∧ isN uu.2 30) := by
  refine Ct.ofI RX4 rfl (by decide +kernel) (Nat.le_of_ble_eq_true rfl) (fun X hC hR => ?_)
  show V X (wX k g a σ ν) [(0, .ref (a 5)), (1, .int 10), (2, .int x), (3, .int (nI q))] [] 0
  refine V.getAboveN (pc := 0) hC dX4_work_0 rfl ?_
  refine V.iload_n (pc := 3) 1 hC dX4_work_3 rfl ?_
  refine V.bipush (pc := 4) 10 hC dX4_work_4 (by decide) ?_
  refine V.idiv (pc := 6) hC dX4_work_6 (by decide) ?_
  refine V.eqi (y := 1) (by decide) ?_
  refine V.iconst (pc := 7) 1 hC dX4_work_7 (by decide) ?_
  refine V.isub (pc := 8) hC dX4_work_8 ?_
  refine V.eqi (y := 0) (by decide) ?_
  refine V.ldAbove (pc := 9) hC 0 (-1) (nl 0) (by decide) rfl dX4_work_9 ?_
  refine V.istore (pc := 10) [(4, .int (-1)), (0, .ref (a 5)), (1, .int 10), (2, .int x), (3, .int (nI q))] hC dX4_work_10 (by decide) rfl ?_
  refine V.iload_n (pc := 12) 2 hC dX4_work_12 rfl ?_
  refine V.lookup (pc := 13) 128 hC dX4_work_13 (by decide) rfl (by decide) ?_
  refine V.iload_n (pc := 128) 3 hC dX4_work_128 rfl ?_
  refine V.aload_n (pc := 129) 1 hC dX4_work_129 rfl ?_
  refine V.get (pc := 130) (v := .int (ν 85 0)) hC cf_X4 5 5 fl_X4_36 (by decide) gx_5 rfl dX4_work_130 ?_
  refine V.iadd (pc := 133) hC dX4_work_133 ?_
  exact hR (x + (ν 85 0)) (σ 80, σ 81 0) _ _ dX4_work_134 rfl ⟨rfl, rfl, hTn⟩
set_option maxHeartbeats 4000000 in
set_option maxRecDepth 100000 in
theorem c_call_5_0_5 {l : Launch} {D : va_G} {k : Nat → ClassId} {g a : Nat → Nat} (σ ν : St) (x : Int32) (q : Nat) (h82 : ν 82 0 = 0) (h83 : ν 83 0 = 5) (hTn : isN (σ 81 0) 30) (hq : q + 1 ≤ 20) : Ct l D k g yX4_call cX4_call 6 (some .int) 1 24 [.ref (a 5), .int 0, .int 5, .int x, .int (nI q)] (S := Rw × Int32) (wX k g a σ ν) (fun uu => wX k g a (va_up (va_up σ 80 uu.1) 81 (fun _ => uu.2)) ν) (fun vv uu => vv = some (.int (x + ν 85 0)) ∧ (uu.1, uu.2) = bgs [10] (σ 80, σ 81 0) ∧ isN uu.2 30) := by
  refine Ct.ofI RX4 rfl (by decide +kernel) (Nat.le_of_ble_eq_true rfl) (fun X hC hR => ?_)
  have hTb := hTn.2
  show V X (wX k g a σ ν) [(0, .ref (a 5)), (1, .int 0), (2, .int 5), (3, .int x), (4, .int (nI q))] [] 0
  refine V.aload_n (pc := 0) 0 hC dX4_call_0 rfl ?_
  refine V.get (pc := 1) (v := .int (ν 82 0)) hC cf_X4 5 2 fl_X4_19 (by decide) gx_5 rfl dX4_call_1 ?_
  refine V.eqi (y := 0) (h82) ?_
  refine V.if_ne (pc := 4) 14 hC dX4_call_4 (by decide) (fun c_4 => ?_) (fun c_4 => ?_)
  · have nc_4 : ¬ (0 = 0) := fun z => c_4 ((neq (nl 0) (nl 0) (by omega) (by omega)).mpr z)
    exact absurd c_4 (by decide)
  · have nc_4 : 0 = 0 := (neq (nl 0) (nl 0) (by omega) (by omega)).mp c_4
    refine V.iload (pc := 7) 4 hC dX4_call_7 rfl ?_
    refine V.bipush (pc := 9) 20 hC dX4_call_9 (by decide) ?_
    refine V.icmp_le (pc := 11) 16 hC dX4_call_11 (by decide) (fun c_11 => ?_) (fun c_11 => ?_)
    · have nc_11 : q ≤ 20 := (nle rfl (nl 20) (by omega) (by omega)).mp c_11
      refine V.iload_n (pc := 16) 1 hC dX4_call_16 rfl ?_
      refine V.iload_n (pc := 17) 2 hC dX4_call_17 rfl ?_
      refine V.callS0 (pc := 18) (as := [.int 0, .int 5]) hC (c_find_0_5  ) ms_X4_find ml_X4_49 (by decide) rfl (Nat.le_of_ble_eq_true rfl) dX4_call_18 ?_
      rintro _ _ rfl
      show V X (wX k g a σ ν) [(0, .ref (a 5)), (1, .int 0), (2, .int 5), (3, .int x), (4, .int (nI q))] [.int 10] 21
      refine V.istore (pc := 21) [(5, .int 10), (0, .ref (a 5)), (1, .int 0), (2, .int 5), (3, .int x), (4, .int (nI q))] hC dX4_call_21 (by decide) rfl ?_
      refine V.aload_n (pc := 23) 1 hC dX4_call_23 rfl ?_
      refine V.get (pc := 24) (v := .int (σ 81 0)) hC cf_X4 5 1 fl_X4_15 (by decide) gx_5 rfl dX4_call_24 ?_
      refine V.bipush (pc := 27) 30 hC dX4_call_27 (by decide) ?_
      refine V.icmp_ge (pc := 29) 53 hC dX4_call_29 (by decide) (fun c_29 => ?_) (fun c_29 => ?_)
      · have nc_29 : 30 ≤ nN (σ 81 0) := (nle (nl 30) hTn.1 (by omega) (by omega)).mp c_29
        refine V.aload_n (pc := 53) 1 hC dX4_call_53 rfl ?_
        refine V.iload (pc := 54) 0 hC dX4_call_54 rfl ?_
        refine V.iload_n (pc := 56) 4 hC dX4_call_56 rfl ?_
        refine V.iload (pc := 57) 5 hC dX4_call_57 rfl ?_
        refine V.iconst (pc := 59) 1 hC dX4_call_59 (by decide) ?_
        refine V.iadd (pc := 60) hC dX4_call_60 ?_
        refine V.sts (st' := [.int (nI (q + 1)), .int x, .int 10, .ref (a 5)]) (stc (ncast (b := q + 1) (nadd rfl (nl 1)) (by omega)) (stk (stk (stk rfl)))) ?_
        refine V.callV0 (pc := 61) (as := [.int 10, .int x, .int (nI (q + 1))]) hC (c_work_5_10 σ ν x (q + 1) h82 h83 hTn (by omega)) mu_X4_work ml_X4_53 (by decide) ⟨5, 4, TX4, 6, _, rfl, gx_5⟩ rfl (Nat.le_of_ble_eq_true rfl) dX4_call_61 ?_
        rintro _ ⟨f61_0, i61_1⟩ ⟨rfl, hu61_0, hu61_1⟩
        have hu61_0 : (f61_0, i61_1) = bgs [] (σ 80, σ 81 0) := hu61_0
        have hu61_1 : isN i61_1 30 := hu61_1
        show V X (wX k g a (va_up (va_up σ 80 f61_0) 81 (fun _ => i61_1)) ν) [(5, .int 10), (0, .ref (a 5)), (1, .int 0), (2, .int 5), (3, .int x), (4, .int (nI q))] [.int (x + ν 85 0)] 64
        exact hR (x + ν 85 0) (f61_0, i61_1) _ _ dX4_call_64 rfl ⟨rfl, by rw [hu61_0]; exact congrArg (bgs []) (show (σ 80, σ 81 0) = bgS 10 (σ 80, σ 81 0) from (if_neg (i_ge c_29)).symm), hu61_1⟩
      · have nc_29 : ¬ (30 ≤ nN (σ 81 0)) := fun z => c_29 ((nle (nl 30) hTn.1 (by omega) (by omega)).mpr z)
        refine V.aload_n (pc := 32) 1 hC dX4_call_32 rfl ?_
        refine V.get (pc := 33) (v := .ref (a 80)) hC cf_X4 5 0 fl_X4_9 (by decide) gx_5 rfl dX4_call_33 ?_
        refine V.aload_n (pc := 36) 1 hC dX4_call_36 rfl ?_
        refine V.get (pc := 37) (v := .int (σ 81 0)) hC cf_X4 5 1 fl_X4_15 (by decide) gx_5 rfl dX4_call_37 ?_
        refine V.iload (pc := 40) 0 hC dX4_call_40 rfl ?_
        refine V.iast (pc := 42) (f := σ 80) hC 46 (nN (σ 81 0)) (wX k g a (va_up σ 80 (upd (σ 80) (nN (σ 81 0)) 10)) ν) gx_46 hTn.1 (by omega) (by decide) rfl dX4_call_42 ?_
        refine V.aload_n (pc := 43) 1 hC dX4_call_43 rfl ?_
        refine V.dup (pc := 44) hC dX4_call_44 rfl ?_
        refine V.get (pc := 45) (v := .int (σ 81 0)) hC cf_X4 5 1 fl_X4_15 (by decide) gx_5 rfl dX4_call_45 ?_
        refine V.iconst (pc := 48) 1 hC dX4_call_48 (by decide) ?_
        refine V.iadd (pc := 49) hC dX4_call_49 ?_
        refine V.put (pc := 50) (v := .int ((σ 81 0) + 1)) hC cf_X4 5 1 (wX k g a (va_up (va_up σ 80 (upd (σ 80) (nN (σ 81 0)) 10)) 81 (fun _ => (σ 81 0) + 1)) ν) fl_X4_15 (by decide) gx_5 rfl rfl rfl (Nat.le_of_ble_eq_true rfl) rfl dX4_call_50 ?_
        refine V.aload_n (pc := 53) 1 hC dX4_call_53 rfl ?_
        refine V.iload (pc := 54) 0 hC dX4_call_54 rfl ?_
        refine V.iload_n (pc := 56) 4 hC dX4_call_56 rfl ?_
        refine V.iload (pc := 57) 5 hC dX4_call_57 rfl ?_
        refine V.iconst (pc := 59) 1 hC dX4_call_59 (by decide) ?_
        refine V.iadd (pc := 60) hC dX4_call_60 ?_
        refine V.sts (st' := [.int (nI (q + 1)), .int x, .int 10, .ref (a 5)]) (stc (ncast (b := q + 1) (nadd rfl (nl 1)) (by omega)) (stk (stk (stk rfl)))) ?_
        refine V.callV0 (pc := 61) (as := [.int 10, .int x, .int (nI (q + 1))]) hC (c_work_5_10 (va_up (va_up σ 80 (upd (σ 80) (nN (σ 81 0)) 10)) 81 (fun _ => (σ 81 0) + 1)) ν x (q + 1) h82 h83 (isN.mk (nadd hTn.1 (nl 1)) (by omega) (by omega)) (by omega)) mu_X4_work ml_X4_53 (by decide) ⟨5, 4, TX4, 6, _, rfl, gx_5⟩ rfl (Nat.le_of_ble_eq_true rfl) dX4_call_61 ?_
        rintro _ ⟨f61_0, i61_1⟩ ⟨rfl, hu61_0, hu61_1⟩
        have hu61_0 : (f61_0, i61_1) = bgs [] ((upd (σ 80) (nN (σ 81 0)) 10), ((σ 81 0) + 1)) := hu61_0
        have hu61_1 : isN i61_1 30 := hu61_1
        show V X (wX k g a (va_up (va_up σ 80 f61_0) 81 (fun _ => i61_1)) ν) [(5, .int 10), (0, .ref (a 5)), (1, .int 0), (2, .int 5), (3, .int x), (4, .int (nI q))] [.int (x + ν 85 0)] 64
        exact hR (x + ν 85 0) (f61_0, i61_1) _ _ dX4_call_64 rfl ⟨rfl, by rw [hu61_0]; exact congrArg (bgs []) (show (upd (σ 80) (nN (σ 81 0)) 10, σ 81 0 + 1) = bgS 10 (σ 80, σ 81 0) from (if_pos (i_nle c_29)).symm), hu61_1⟩
    · have nc_11 : ¬ (q ≤ 20) := fun z => c_11 ((nle rfl (nl 20) (by omega) (by omega)).mpr z)
      exfalso; omega
set_option maxHeartbeats 4000000 in
set_option maxRecDepth 100000 in
theorem c_work_5_11 {l : Launch} {D : va_G} {k : Nat → ClassId} {g a : Nat → Nat} (σ ν : St) (x : Int32) (q : Nat) (h82 : ν 82 0 = 0) (h83 : ν 83 0 = 5) (hTn : isN (σ 81 0) 30) (hq : q + 1 ≤ 20) : Ct l D k g yX4_work cX4_work 5 (some .int) 2 49 [.ref (a 5), .int 11, .int x, .int (nI q)] (S := Rw × Int32) (wX k g a σ ν) (fun uu => wX k g a (va_up (va_up σ 80 uu.1) 81 (fun _ => uu.2)) ν) (fun vv uu => vv = some (.int ((x + ν 85 0) * 2)) ∧ (uu.1, uu.2) = bgs [10] (σ 80, σ 81 0) ∧ isN uu.2 30) := by
  refine Ct.ofI RX4 rfl (by decide +kernel) (Nat.le_of_ble_eq_true rfl) (fun X hC hR => ?_)
  show V X (wX k g a σ ν) [(0, .ref (a 5)), (1, .int 11), (2, .int x), (3, .int (nI q))] [] 0
  refine V.getAboveN (pc := 0) hC dX4_work_0 rfl ?_
  refine V.iload_n (pc := 3) 1 hC dX4_work_3 rfl ?_
  refine V.bipush (pc := 4) 10 hC dX4_work_4 (by decide) ?_
  refine V.idiv (pc := 6) hC dX4_work_6 (by decide) ?_
  refine V.eqi (y := 1) (by decide) ?_
  refine V.iconst (pc := 7) 1 hC dX4_work_7 (by decide) ?_
  refine V.isub (pc := 8) hC dX4_work_8 ?_
  refine V.eqi (y := 0) (by decide) ?_
  refine V.ldAbove (pc := 9) hC 0 (-1) (nl 0) (by decide) rfl dX4_work_9 ?_
  refine V.istore (pc := 10) [(4, .int (-1)), (0, .ref (a 5)), (1, .int 11), (2, .int x), (3, .int (nI q))] hC dX4_work_10 (by decide) rfl ?_
  refine V.iload_n (pc := 12) 2 hC dX4_work_12 rfl ?_
  refine V.lookup (pc := 13) 135 hC dX4_work_13 (by decide) rfl (by decide) ?_
  refine V.aload_n (pc := 135) 1 hC dX4_work_135 rfl ?_
  refine V.iconst (pc := 136) 0 hC dX4_work_136 (by decide) ?_
  refine V.aload_n (pc := 137) 1 hC dX4_work_137 rfl ?_
  refine V.get (pc := 138) (v := .int (ν 83 0)) hC cf_X4 5 3 fl_X4_28 (by decide) gx_5 rfl dX4_work_138 ?_
  refine V.eqi (y := 5) (h83) ?_
  refine V.iload_n (pc := 141) 3 hC dX4_work_141 rfl ?_
  refine V.iload_n (pc := 142) 4 hC dX4_work_142 rfl ?_
  refine V.callV0 (pc := 143) (as := [.int 0, .int 5, .int x, .int (nI q)]) hC (c_call_5_0_5 σ ν x q h82 h83 hTn (by omega)) mu_X4_call ml_X4_39 (by decide) ⟨5, 4, TX4, 6, _, rfl, gx_5⟩ rfl (Nat.le_of_ble_eq_true rfl) dX4_work_143 ?_
  rintro _ ⟨f143_0, i143_1⟩ ⟨rfl, hu143_0, hu143_1⟩
  have hu143_0 : (f143_0, i143_1) = bgs [10] (σ 80, σ 81 0) := hu143_0
  have hu143_1 : isN i143_1 30 := hu143_1
  show V X (wX k g a (va_up (va_up σ 80 f143_0) 81 (fun _ => i143_1)) ν) [(4, .int (-1)), (0, .ref (a 5)), (1, .int 11), (2, .int x), (3, .int (nI q))] [.int (x + ν 85 0)] 146
  refine V.iconst (pc := 146) 2 hC dX4_work_146 (by decide) ?_
  refine V.imul (pc := 147) hC dX4_work_147 ?_
  exact hR ((x + ν 85 0) * 2) (f143_0, i143_1) _ _ dX4_work_148 rfl ⟨rfl, hu143_0, hu143_1⟩
set_option maxHeartbeats 4000000 in
set_option maxRecDepth 100000 in
theorem c_call_5_1_0 {l : Launch} {D : va_G} {k : Nat → ClassId} {g a : Nat → Nat} (σ ν : St) (x : Int32) (q : Nat) (h82 : ν 82 0 = 0) (h83 : ν 83 0 = 5) (hTn : isN (σ 81 0) 30) (hq : q + 2 ≤ 20) : Ct l D k g yX4_call cX4_call 6 (some .int) 3 73 [.ref (a 5), .int 1, .int 0, .int x, .int (nI q)] (S := Rw × Int32) (wX k g a σ ν) (fun uu => wX k g a (va_up (va_up σ 80 uu.1) 81 (fun _ => uu.2)) ν) (fun vv uu => vv = some (.int ((x + ν 85 0) * 2)) ∧ (uu.1, uu.2) = bgs [11, 10] (σ 80, σ 81 0) ∧ isN uu.2 30) := by
  refine Ct.ofI RX4 rfl (by decide +kernel) (Nat.le_of_ble_eq_true rfl) (fun X hC hR => ?_)
  have hTb := hTn.2
  show V X (wX k g a σ ν) [(0, .ref (a 5)), (1, .int 1), (2, .int 0), (3, .int x), (4, .int (nI q))] [] 0
  refine V.aload_n (pc := 0) 0 hC dX4_call_0 rfl ?_
  refine V.get (pc := 1) (v := .int (ν 82 0)) hC cf_X4 5 2 fl_X4_19 (by decide) gx_5 rfl dX4_call_1 ?_
  refine V.eqi (y := 0) (h82) ?_
  refine V.if_ne (pc := 4) 14 hC dX4_call_4 (by decide) (fun c_4 => ?_) (fun c_4 => ?_)
  · have nc_4 : ¬ (0 = 0) := fun z => c_4 ((neq (nl 0) (nl 0) (by omega) (by omega)).mpr z)
    exact absurd c_4 (by decide)
  · have nc_4 : 0 = 0 := (neq (nl 0) (nl 0) (by omega) (by omega)).mp c_4
    refine V.iload (pc := 7) 4 hC dX4_call_7 rfl ?_
    refine V.bipush (pc := 9) 20 hC dX4_call_9 (by decide) ?_
    refine V.icmp_le (pc := 11) 16 hC dX4_call_11 (by decide) (fun c_11 => ?_) (fun c_11 => ?_)
    · have nc_11 : q ≤ 20 := (nle rfl (nl 20) (by omega) (by omega)).mp c_11
      refine V.iload_n (pc := 16) 1 hC dX4_call_16 rfl ?_
      refine V.iload_n (pc := 17) 2 hC dX4_call_17 rfl ?_
      refine V.callS0 (pc := 18) (as := [.int 1, .int 0]) hC (c_find_1_0  ) ms_X4_find ml_X4_49 (by decide) rfl (Nat.le_of_ble_eq_true rfl) dX4_call_18 ?_
      rintro _ _ rfl
      show V X (wX k g a σ ν) [(0, .ref (a 5)), (1, .int 1), (2, .int 0), (3, .int x), (4, .int (nI q))] [.int 11] 21
      refine V.istore (pc := 21) [(5, .int 11), (0, .ref (a 5)), (1, .int 1), (2, .int 0), (3, .int x), (4, .int (nI q))] hC dX4_call_21 (by decide) rfl ?_
      refine V.aload_n (pc := 23) 1 hC dX4_call_23 rfl ?_
      refine V.get (pc := 24) (v := .int (σ 81 0)) hC cf_X4 5 1 fl_X4_15 (by decide) gx_5 rfl dX4_call_24 ?_
      refine V.bipush (pc := 27) 30 hC dX4_call_27 (by decide) ?_
      refine V.icmp_ge (pc := 29) 53 hC dX4_call_29 (by decide) (fun c_29 => ?_) (fun c_29 => ?_)
      · have nc_29 : 30 ≤ nN (σ 81 0) := (nle (nl 30) hTn.1 (by omega) (by omega)).mp c_29
        refine V.aload_n (pc := 53) 1 hC dX4_call_53 rfl ?_
        refine V.iload (pc := 54) 0 hC dX4_call_54 rfl ?_
        refine V.iload_n (pc := 56) 4 hC dX4_call_56 rfl ?_
        refine V.iload (pc := 57) 5 hC dX4_call_57 rfl ?_
        refine V.iconst (pc := 59) 1 hC dX4_call_59 (by decide) ?_
        refine V.iadd (pc := 60) hC dX4_call_60 ?_
        refine V.sts (st' := [.int (nI (q + 1)), .int x, .int 11, .ref (a 5)]) (stc (ncast (b := q + 1) (nadd rfl (nl 1)) (by omega)) (stk (stk (stk rfl)))) ?_
        refine V.callV0 (pc := 61) (as := [.int 11, .int x, .int (nI (q + 1))]) hC (c_work_5_11 σ ν x (q + 1) h82 h83 hTn (by omega)) mu_X4_work ml_X4_53 (by decide) ⟨5, 4, TX4, 6, _, rfl, gx_5⟩ rfl (Nat.le_of_ble_eq_true rfl) dX4_call_61 ?_
        rintro _ ⟨f61_0, i61_1⟩ ⟨rfl, hu61_0, hu61_1⟩
        have hu61_0 : (f61_0, i61_1) = bgs [10] (σ 80, σ 81 0) := hu61_0
        have hu61_1 : isN i61_1 30 := hu61_1
        show V X (wX k g a (va_up (va_up σ 80 f61_0) 81 (fun _ => i61_1)) ν) [(5, .int 11), (0, .ref (a 5)), (1, .int 1), (2, .int 0), (3, .int x), (4, .int (nI q))] [.int ((x + ν 85 0) * 2)] 64
        exact hR ((x + ν 85 0) * 2) (f61_0, i61_1) _ _ dX4_call_64 rfl ⟨rfl, by rw [hu61_0]; exact congrArg (bgs [10]) (show (σ 80, σ 81 0) = bgS 11 (σ 80, σ 81 0) from (if_neg (i_ge c_29)).symm), hu61_1⟩
      · have nc_29 : ¬ (30 ≤ nN (σ 81 0)) := fun z => c_29 ((nle (nl 30) hTn.1 (by omega) (by omega)).mpr z)
        refine V.aload_n (pc := 32) 1 hC dX4_call_32 rfl ?_
        refine V.get (pc := 33) (v := .ref (a 80)) hC cf_X4 5 0 fl_X4_9 (by decide) gx_5 rfl dX4_call_33 ?_
        refine V.aload_n (pc := 36) 1 hC dX4_call_36 rfl ?_
        refine V.get (pc := 37) (v := .int (σ 81 0)) hC cf_X4 5 1 fl_X4_15 (by decide) gx_5 rfl dX4_call_37 ?_
        refine V.iload (pc := 40) 0 hC dX4_call_40 rfl ?_
        refine V.iast (pc := 42) (f := σ 80) hC 46 (nN (σ 81 0)) (wX k g a (va_up σ 80 (upd (σ 80) (nN (σ 81 0)) 11)) ν) gx_46 hTn.1 (by omega) (by decide) rfl dX4_call_42 ?_
        refine V.aload_n (pc := 43) 1 hC dX4_call_43 rfl ?_
        refine V.dup (pc := 44) hC dX4_call_44 rfl ?_
        refine V.get (pc := 45) (v := .int (σ 81 0)) hC cf_X4 5 1 fl_X4_15 (by decide) gx_5 rfl dX4_call_45 ?_
        refine V.iconst (pc := 48) 1 hC dX4_call_48 (by decide) ?_
        refine V.iadd (pc := 49) hC dX4_call_49 ?_
        refine V.put (pc := 50) (v := .int ((σ 81 0) + 1)) hC cf_X4 5 1 (wX k g a (va_up (va_up σ 80 (upd (σ 80) (nN (σ 81 0)) 11)) 81 (fun _ => (σ 81 0) + 1)) ν) fl_X4_15 (by decide) gx_5 rfl rfl rfl (Nat.le_of_ble_eq_true rfl) rfl dX4_call_50 ?_
        refine V.aload_n (pc := 53) 1 hC dX4_call_53 rfl ?_
        refine V.iload (pc := 54) 0 hC dX4_call_54 rfl ?_
        refine V.iload_n (pc := 56) 4 hC dX4_call_56 rfl ?_
        refine V.iload (pc := 57) 5 hC dX4_call_57 rfl ?_
        refine V.iconst (pc := 59) 1 hC dX4_call_59 (by decide) ?_
        refine V.iadd (pc := 60) hC dX4_call_60 ?_
        refine V.sts (st' := [.int (nI (q + 1)), .int x, .int 11, .ref (a 5)]) (stc (ncast (b := q + 1) (nadd rfl (nl 1)) (by omega)) (stk (stk (stk rfl)))) ?_
        refine V.callV0 (pc := 61) (as := [.int 11, .int x, .int (nI (q + 1))]) hC (c_work_5_11 (va_up (va_up σ 80 (upd (σ 80) (nN (σ 81 0)) 11)) 81 (fun _ => (σ 81 0) + 1)) ν x (q + 1) h82 h83 (isN.mk (nadd hTn.1 (nl 1)) (by omega) (by omega)) (by omega)) mu_X4_work ml_X4_53 (by decide) ⟨5, 4, TX4, 6, _, rfl, gx_5⟩ rfl (Nat.le_of_ble_eq_true rfl) dX4_call_61 ?_
        rintro _ ⟨f61_0, i61_1⟩ ⟨rfl, hu61_0, hu61_1⟩
        have hu61_0 : (f61_0, i61_1) = bgs [10] ((upd (σ 80) (nN (σ 81 0)) 11), ((σ 81 0) + 1)) := hu61_0
        have hu61_1 : isN i61_1 30 := hu61_1
        show V X (wX k g a (va_up (va_up σ 80 f61_0) 81 (fun _ => i61_1)) ν) [(5, .int 11), (0, .ref (a 5)), (1, .int 1), (2, .int 0), (3, .int x), (4, .int (nI q))] [.int ((x + ν 85 0) * 2)] 64
        exact hR ((x + ν 85 0) * 2) (f61_0, i61_1) _ _ dX4_call_64 rfl ⟨rfl, by rw [hu61_0]; exact congrArg (bgs [10]) (show (upd (σ 80) (nN (σ 81 0)) 11, σ 81 0 + 1) = bgS 11 (σ 80, σ 81 0) from (if_pos (i_nle c_29)).symm), hu61_1⟩
    · have nc_11 : ¬ (q ≤ 20) := fun z => c_11 ((nle rfl (nl 20) (by omega) (by omega)).mpr z)
      exfalso; omega
set_option maxHeartbeats 4000000 in
set_option maxRecDepth 100000 in
theorem c_work_5_30 {l : Launch} {D : va_G} {k : Nat → ClassId} {g a : Nat → Nat} (σ ν : St) (x : Int32) (q : Nat) (h82 : ν 82 0 = 0) (h83 : ν 83 0 = 5) (hTn : isN (σ 81 0) 30) (hq : q + 2 ≤ 20) : Ct l D k g yX4_work cX4_work 5 (some .int) 4 98 [.ref (a 5), .int 30, .int x, .int (nI q)] (S := Rw × Int32) (wX k g a σ ν) (fun uu => wX k g a (va_up (va_up σ 80 uu.1) 81 (fun _ => uu.2)) ν) (fun vv uu => vv = some (.int (-((x + ν 85 0) * 2))) ∧ (uu.1, uu.2) = bgs [11, 10] (σ 80, σ 81 0) ∧ isN uu.2 30) := by
  refine Ct.ofI RX4 rfl (by decide +kernel) (Nat.le_of_ble_eq_true rfl) (fun X hC hR => ?_)
  show V X (wX k g a σ ν) [(0, .ref (a 5)), (1, .int 30), (2, .int x), (3, .int (nI q))] [] 0
  refine V.getAboveN (pc := 0) hC dX4_work_0 rfl ?_
  refine V.iload_n (pc := 3) 1 hC dX4_work_3 rfl ?_
  refine V.bipush (pc := 4) 10 hC dX4_work_4 (by decide) ?_
  refine V.idiv (pc := 6) hC dX4_work_6 (by decide) ?_
  refine V.eqi (y := 3) (by decide) ?_
  refine V.iconst (pc := 7) 1 hC dX4_work_7 (by decide) ?_
  refine V.isub (pc := 8) hC dX4_work_8 ?_
  refine V.eqi (y := 2) (by decide) ?_
  refine V.ldAbove (pc := 9) hC 2 0 (nl 2) (by decide) rfl dX4_work_9 ?_
  refine V.istore (pc := 10) [(4, .int 0), (0, .ref (a 5)), (1, .int 30), (2, .int x), (3, .int (nI q))] hC dX4_work_10 (by decide) rfl ?_
  refine V.iload_n (pc := 12) 2 hC dX4_work_12 rfl ?_
  refine V.lookup (pc := 13) 206 hC dX4_work_13 (by decide) rfl (by decide) ?_
  refine V.aload_n (pc := 206) 1 hC dX4_work_206 rfl ?_
  refine V.iconst (pc := 207) 1 hC dX4_work_207 (by decide) ?_
  refine V.iload (pc := 208) 0 hC dX4_work_208 rfl ?_
  refine V.iload_n (pc := 210) 3 hC dX4_work_210 rfl ?_
  refine V.iload_n (pc := 211) 4 hC dX4_work_211 rfl ?_
  refine V.callV0 (pc := 212) (as := [.int 1, .int 0, .int x, .int (nI q)]) hC (c_call_5_1_0 σ ν x q h82 h83 hTn (by omega)) mu_X4_call ml_X4_39 (by decide) ⟨5, 4, TX4, 6, _, rfl, gx_5⟩ rfl (Nat.le_of_ble_eq_true rfl) dX4_work_212 ?_
  rintro _ ⟨f212_0, i212_1⟩ ⟨rfl, hu212_0, hu212_1⟩
  have hu212_0 : (f212_0, i212_1) = bgs [11, 10] (σ 80, σ 81 0) := hu212_0
  have hu212_1 : isN i212_1 30 := hu212_1
  show V X (wX k g a (va_up (va_up σ 80 f212_0) 81 (fun _ => i212_1)) ν) [(4, .int 0), (0, .ref (a 5)), (1, .int 30), (2, .int x), (3, .int (nI q))] [.int ((x + ν 85 0) * 2)] 215
  refine V.ineg (pc := 215) hC dX4_work_215 ?_
  exact hR (-((x + ν 85 0) * 2)) (f212_0, i212_1) _ _ dX4_work_216 rfl ⟨rfl, hu212_0, hu212_1⟩
set_option maxHeartbeats 4000000 in
set_option maxRecDepth 100000 in
theorem c_call_5_1_2 {l : Launch} {D : va_G} {k : Nat → ClassId} {g a : Nat → Nat} (σ ν : St) (x : Int32) (q : Nat) (h82 : ν 82 0 = 0) (h83 : ν 83 0 = 5) (hTn : isN (σ 81 0) 30) (hq : q + 3 ≤ 20) : Ct l D k g yX4_call cX4_call 6 (some .int) 5 122 [.ref (a 5), .int 1, .int 2, .int x, .int (nI q)] (S := Rw × Int32) (wX k g a σ ν) (fun uu => wX k g a (va_up (va_up σ 80 uu.1) 81 (fun _ => uu.2)) ν) (fun vv uu => vv = some (.int (-((x + ν 85 0) * 2))) ∧ (uu.1, uu.2) = bgs [30, 11, 10] (σ 80, σ 81 0) ∧ isN uu.2 30) := by
  refine Ct.ofI RX4 rfl (by decide +kernel) (Nat.le_of_ble_eq_true rfl) (fun X hC hR => ?_)
  have hTb := hTn.2
  show V X (wX k g a σ ν) [(0, .ref (a 5)), (1, .int 1), (2, .int 2), (3, .int x), (4, .int (nI q))] [] 0
  refine V.aload_n (pc := 0) 0 hC dX4_call_0 rfl ?_
  refine V.get (pc := 1) (v := .int (ν 82 0)) hC cf_X4 5 2 fl_X4_19 (by decide) gx_5 rfl dX4_call_1 ?_
  refine V.eqi (y := 0) (h82) ?_
  refine V.if_ne (pc := 4) 14 hC dX4_call_4 (by decide) (fun c_4 => ?_) (fun c_4 => ?_)
  · have nc_4 : ¬ (0 = 0) := fun z => c_4 ((neq (nl 0) (nl 0) (by omega) (by omega)).mpr z)
    exact absurd c_4 (by decide)
  · have nc_4 : 0 = 0 := (neq (nl 0) (nl 0) (by omega) (by omega)).mp c_4
    refine V.iload (pc := 7) 4 hC dX4_call_7 rfl ?_
    refine V.bipush (pc := 9) 20 hC dX4_call_9 (by decide) ?_
    refine V.icmp_le (pc := 11) 16 hC dX4_call_11 (by decide) (fun c_11 => ?_) (fun c_11 => ?_)
    · have nc_11 : q ≤ 20 := (nle rfl (nl 20) (by omega) (by omega)).mp c_11
      refine V.iload_n (pc := 16) 1 hC dX4_call_16 rfl ?_
      refine V.iload_n (pc := 17) 2 hC dX4_call_17 rfl ?_
      refine V.callS0 (pc := 18) (as := [.int 1, .int 2]) hC (c_find_1_2  ) ms_X4_find ml_X4_49 (by decide) rfl (Nat.le_of_ble_eq_true rfl) dX4_call_18 ?_
      rintro _ _ rfl
      show V X (wX k g a σ ν) [(0, .ref (a 5)), (1, .int 1), (2, .int 2), (3, .int x), (4, .int (nI q))] [.int 30] 21
      refine V.istore (pc := 21) [(5, .int 30), (0, .ref (a 5)), (1, .int 1), (2, .int 2), (3, .int x), (4, .int (nI q))] hC dX4_call_21 (by decide) rfl ?_
      refine V.aload_n (pc := 23) 1 hC dX4_call_23 rfl ?_
      refine V.get (pc := 24) (v := .int (σ 81 0)) hC cf_X4 5 1 fl_X4_15 (by decide) gx_5 rfl dX4_call_24 ?_
      refine V.bipush (pc := 27) 30 hC dX4_call_27 (by decide) ?_
      refine V.icmp_ge (pc := 29) 53 hC dX4_call_29 (by decide) (fun c_29 => ?_) (fun c_29 => ?_)
      · have nc_29 : 30 ≤ nN (σ 81 0) := (nle (nl 30) hTn.1 (by omega) (by omega)).mp c_29
        refine V.aload_n (pc := 53) 1 hC dX4_call_53 rfl ?_
        refine V.iload (pc := 54) 0 hC dX4_call_54 rfl ?_
        refine V.iload_n (pc := 56) 4 hC dX4_call_56 rfl ?_
        refine V.iload (pc := 57) 5 hC dX4_call_57 rfl ?_
        refine V.iconst (pc := 59) 1 hC dX4_call_59 (by decide) ?_
        refine V.iadd (pc := 60) hC dX4_call_60 ?_
        refine V.sts (st' := [.int (nI (q + 1)), .int x, .int 30, .ref (a 5)]) (stc (ncast (b := q + 1) (nadd rfl (nl 1)) (by omega)) (stk (stk (stk rfl)))) ?_
        refine V.callV0 (pc := 61) (as := [.int 30, .int x, .int (nI (q + 1))]) hC (c_work_5_30 σ ν x (q + 1) h82 h83 hTn (by omega)) mu_X4_work ml_X4_53 (by decide) ⟨5, 4, TX4, 6, _, rfl, gx_5⟩ rfl (Nat.le_of_ble_eq_true rfl) dX4_call_61 ?_
        rintro _ ⟨f61_0, i61_1⟩ ⟨rfl, hu61_0, hu61_1⟩
        have hu61_0 : (f61_0, i61_1) = bgs [11, 10] (σ 80, σ 81 0) := hu61_0
        have hu61_1 : isN i61_1 30 := hu61_1
        show V X (wX k g a (va_up (va_up σ 80 f61_0) 81 (fun _ => i61_1)) ν) [(5, .int 30), (0, .ref (a 5)), (1, .int 1), (2, .int 2), (3, .int x), (4, .int (nI q))] [.int (-((x + ν 85 0) * 2))] 64
        exact hR (-((x + ν 85 0) * 2)) (f61_0, i61_1) _ _ dX4_call_64 rfl ⟨rfl, by rw [hu61_0]; exact congrArg (bgs [11, 10]) (show (σ 80, σ 81 0) = bgS 30 (σ 80, σ 81 0) from (if_neg (i_ge c_29)).symm), hu61_1⟩
      · have nc_29 : ¬ (30 ≤ nN (σ 81 0)) := fun z => c_29 ((nle (nl 30) hTn.1 (by omega) (by omega)).mpr z)
        refine V.aload_n (pc := 32) 1 hC dX4_call_32 rfl ?_
        refine V.get (pc := 33) (v := .ref (a 80)) hC cf_X4 5 0 fl_X4_9 (by decide) gx_5 rfl dX4_call_33 ?_
        refine V.aload_n (pc := 36) 1 hC dX4_call_36 rfl ?_
        refine V.get (pc := 37) (v := .int (σ 81 0)) hC cf_X4 5 1 fl_X4_15 (by decide) gx_5 rfl dX4_call_37 ?_
        refine V.iload (pc := 40) 0 hC dX4_call_40 rfl ?_
        refine V.iast (pc := 42) (f := σ 80) hC 46 (nN (σ 81 0)) (wX k g a (va_up σ 80 (upd (σ 80) (nN (σ 81 0)) 30)) ν) gx_46 hTn.1 (by omega) (by decide) rfl dX4_call_42 ?_
        refine V.aload_n (pc := 43) 1 hC dX4_call_43 rfl ?_
        refine V.dup (pc := 44) hC dX4_call_44 rfl ?_
        refine V.get (pc := 45) (v := .int (σ 81 0)) hC cf_X4 5 1 fl_X4_15 (by decide) gx_5 rfl dX4_call_45 ?_
        refine V.iconst (pc := 48) 1 hC dX4_call_48 (by decide) ?_
        refine V.iadd (pc := 49) hC dX4_call_49 ?_
        refine V.put (pc := 50) (v := .int ((σ 81 0) + 1)) hC cf_X4 5 1 (wX k g a (va_up (va_up σ 80 (upd (σ 80) (nN (σ 81 0)) 30)) 81 (fun _ => (σ 81 0) + 1)) ν) fl_X4_15 (by decide) gx_5 rfl rfl rfl (Nat.le_of_ble_eq_true rfl) rfl dX4_call_50 ?_
        refine V.aload_n (pc := 53) 1 hC dX4_call_53 rfl ?_
        refine V.iload (pc := 54) 0 hC dX4_call_54 rfl ?_
        refine V.iload_n (pc := 56) 4 hC dX4_call_56 rfl ?_
        refine V.iload (pc := 57) 5 hC dX4_call_57 rfl ?_
        refine V.iconst (pc := 59) 1 hC dX4_call_59 (by decide) ?_
        refine V.iadd (pc := 60) hC dX4_call_60 ?_
        refine V.sts (st' := [.int (nI (q + 1)), .int x, .int 30, .ref (a 5)]) (stc (ncast (b := q + 1) (nadd rfl (nl 1)) (by omega)) (stk (stk (stk rfl)))) ?_
        refine V.callV0 (pc := 61) (as := [.int 30, .int x, .int (nI (q + 1))]) hC (c_work_5_30 (va_up (va_up σ 80 (upd (σ 80) (nN (σ 81 0)) 30)) 81 (fun _ => (σ 81 0) + 1)) ν x (q + 1) h82 h83 (isN.mk (nadd hTn.1 (nl 1)) (by omega) (by omega)) (by omega)) mu_X4_work ml_X4_53 (by decide) ⟨5, 4, TX4, 6, _, rfl, gx_5⟩ rfl (Nat.le_of_ble_eq_true rfl) dX4_call_61 ?_
        rintro _ ⟨f61_0, i61_1⟩ ⟨rfl, hu61_0, hu61_1⟩
        have hu61_0 : (f61_0, i61_1) = bgs [11, 10] ((upd (σ 80) (nN (σ 81 0)) 30), ((σ 81 0) + 1)) := hu61_0
        have hu61_1 : isN i61_1 30 := hu61_1
        show V X (wX k g a (va_up (va_up σ 80 f61_0) 81 (fun _ => i61_1)) ν) [(5, .int 30), (0, .ref (a 5)), (1, .int 1), (2, .int 2), (3, .int x), (4, .int (nI q))] [.int (-((x + ν 85 0) * 2))] 64
        exact hR (-((x + ν 85 0) * 2)) (f61_0, i61_1) _ _ dX4_call_64 rfl ⟨rfl, by rw [hu61_0]; exact congrArg (bgs [11, 10]) (show (upd (σ 80) (nN (σ 81 0)) 30, σ 81 0 + 1) = bgS 30 (σ 80, σ 81 0) from (if_pos (i_nle c_29)).symm), hu61_1⟩
    · have nc_11 : ¬ (q ≤ 20) := fun z => c_11 ((nle rfl (nl 20) (by omega) (by omega)).mpr z)
      exfalso; omega
set_option maxHeartbeats 4000000 in
set_option maxRecDepth 100000 in
theorem c_work_5_60 {l : Launch} {D : va_G} {k : Nat → ClassId} {g a : Nat → Nat} (σ ν : St) (x : Int32) (q : Nat) (h82 : ν 82 0 = 0) (h83 : ν 83 0 = 5) (hTn : isN (σ 81 0) 30) (hq : q + 3 ≤ 20) : Ct l D k g yX4_work cX4_work 5 (some .int) 6 147 [.ref (a 5), .int 60, .int x, .int (nI q)] (S := Rw × Int32) (wX k g a σ ν) (fun uu => wX k g a (va_up (va_up σ 80 uu.1) 81 (fun _ => uu.2)) ν) (fun vv uu => vv = some (.int (-(((x + 1) + ν 85 0) * 2))) ∧ (uu.1, uu.2) = bgs [30, 11, 10] (σ 80, σ 81 0) ∧ isN uu.2 30) := by
  refine Ct.ofI RX4 rfl (by decide +kernel) (Nat.le_of_ble_eq_true rfl) (fun X hC hR => ?_)
  show V X (wX k g a σ ν) [(0, .ref (a 5)), (1, .int 60), (2, .int x), (3, .int (nI q))] [] 0
  refine V.getAboveN (pc := 0) hC dX4_work_0 rfl ?_
  refine V.iload_n (pc := 3) 1 hC dX4_work_3 rfl ?_
  refine V.bipush (pc := 4) 10 hC dX4_work_4 (by decide) ?_
  refine V.idiv (pc := 6) hC dX4_work_6 (by decide) ?_
  refine V.eqi (y := 6) (by decide) ?_
  refine V.iconst (pc := 7) 1 hC dX4_work_7 (by decide) ?_
  refine V.isub (pc := 8) hC dX4_work_8 ?_
  refine V.eqi (y := 5) (by decide) ?_
  refine V.ldAbove (pc := 9) hC 5 2 (nl 5) (by decide) rfl dX4_work_9 ?_
  refine V.istore (pc := 10) [(4, .int 2), (0, .ref (a 5)), (1, .int 60), (2, .int x), (3, .int (nI q))] hC dX4_work_10 (by decide) rfl ?_
  refine V.iload_n (pc := 12) 2 hC dX4_work_12 rfl ?_
  refine V.lookup (pc := 13) 256 hC dX4_work_13 (by decide) rfl (by decide) ?_
  refine V.aload_n (pc := 256) 1 hC dX4_work_256 rfl ?_
  refine V.iconst (pc := 257) 1 hC dX4_work_257 (by decide) ?_
  refine V.iload (pc := 258) 0 hC dX4_work_258 rfl ?_
  refine V.iload_n (pc := 260) 3 hC dX4_work_260 rfl ?_
  refine V.iconst (pc := 261) 1 hC dX4_work_261 (by decide) ?_
  refine V.iadd (pc := 262) hC dX4_work_262 ?_
  refine V.iload_n (pc := 263) 4 hC dX4_work_263 rfl ?_
  refine V.callV0 (pc := 264) (as := [.int 1, .int 2, .int (x + 1), .int (nI q)]) hC (c_call_5_1_2 σ ν (x + 1) q h82 h83 hTn (by omega)) mu_X4_call ml_X4_39 (by decide) ⟨5, 4, TX4, 6, _, rfl, gx_5⟩ rfl (Nat.le_of_ble_eq_true rfl) dX4_work_264 ?_
  rintro _ ⟨f264_0, i264_1⟩ ⟨rfl, hu264_0, hu264_1⟩
  have hu264_0 : (f264_0, i264_1) = bgs [30, 11, 10] (σ 80, σ 81 0) := hu264_0
  have hu264_1 : isN i264_1 30 := hu264_1
  show V X (wX k g a (va_up (va_up σ 80 f264_0) 81 (fun _ => i264_1)) ν) [(4, .int 2), (0, .ref (a 5)), (1, .int 60), (2, .int x), (3, .int (nI q))] [.int (-(((x + 1) + ν 85 0) * 2))] 267
  exact hR (-(((x + 1) + ν 85 0) * 2)) (f264_0, i264_1) _ _ dX4_work_267 rfl ⟨rfl, hu264_0, hu264_1⟩
set_option maxHeartbeats 4000000 in
set_option maxRecDepth 100000 in
theorem c_call_5_1_5 {l : Launch} {D : va_G} {k : Nat → ClassId} {g a : Nat → Nat} (σ ν : St) (x : Int32) (q : Nat) (h82 : ν 82 0 = 0) (h83 : ν 83 0 = 5) (hTn : isN (σ 81 0) 30) (hq : q + 4 ≤ 20) : Ct l D k g yX4_call cX4_call 6 (some .int) 7 171 [.ref (a 5), .int 1, .int 5, .int x, .int (nI q)] (S := Rw × Int32) (wX k g a σ ν) (fun uu => wX k g a (va_up (va_up σ 80 uu.1) 81 (fun _ => uu.2)) ν) (fun vv uu => vv = some (.int (-(((x + 1) + ν 85 0) * 2))) ∧ (uu.1, uu.2) = bgs [60, 30, 11, 10] (σ 80, σ 81 0) ∧ isN uu.2 30) := by
  refine Ct.ofI RX4 rfl (by decide +kernel) (Nat.le_of_ble_eq_true rfl) (fun X hC hR => ?_)
  have hTb := hTn.2
  show V X (wX k g a σ ν) [(0, .ref (a 5)), (1, .int 1), (2, .int 5), (3, .int x), (4, .int (nI q))] [] 0
  refine V.aload_n (pc := 0) 0 hC dX4_call_0 rfl ?_
  refine V.get (pc := 1) (v := .int (ν 82 0)) hC cf_X4 5 2 fl_X4_19 (by decide) gx_5 rfl dX4_call_1 ?_
  refine V.eqi (y := 0) (h82) ?_
  refine V.if_ne (pc := 4) 14 hC dX4_call_4 (by decide) (fun c_4 => ?_) (fun c_4 => ?_)
  · have nc_4 : ¬ (0 = 0) := fun z => c_4 ((neq (nl 0) (nl 0) (by omega) (by omega)).mpr z)
    exact absurd c_4 (by decide)
  · have nc_4 : 0 = 0 := (neq (nl 0) (nl 0) (by omega) (by omega)).mp c_4
    refine V.iload (pc := 7) 4 hC dX4_call_7 rfl ?_
    refine V.bipush (pc := 9) 20 hC dX4_call_9 (by decide) ?_
    refine V.icmp_le (pc := 11) 16 hC dX4_call_11 (by decide) (fun c_11 => ?_) (fun c_11 => ?_)
    · have nc_11 : q ≤ 20 := (nle rfl (nl 20) (by omega) (by omega)).mp c_11
      refine V.iload_n (pc := 16) 1 hC dX4_call_16 rfl ?_
      refine V.iload_n (pc := 17) 2 hC dX4_call_17 rfl ?_
      refine V.callS0 (pc := 18) (as := [.int 1, .int 5]) hC (c_find_1_5  ) ms_X4_find ml_X4_49 (by decide) rfl (Nat.le_of_ble_eq_true rfl) dX4_call_18 ?_
      rintro _ _ rfl
      show V X (wX k g a σ ν) [(0, .ref (a 5)), (1, .int 1), (2, .int 5), (3, .int x), (4, .int (nI q))] [.int 60] 21
      refine V.istore (pc := 21) [(5, .int 60), (0, .ref (a 5)), (1, .int 1), (2, .int 5), (3, .int x), (4, .int (nI q))] hC dX4_call_21 (by decide) rfl ?_
      refine V.aload_n (pc := 23) 1 hC dX4_call_23 rfl ?_
      refine V.get (pc := 24) (v := .int (σ 81 0)) hC cf_X4 5 1 fl_X4_15 (by decide) gx_5 rfl dX4_call_24 ?_
      refine V.bipush (pc := 27) 30 hC dX4_call_27 (by decide) ?_
      refine V.icmp_ge (pc := 29) 53 hC dX4_call_29 (by decide) (fun c_29 => ?_) (fun c_29 => ?_)
      · have nc_29 : 30 ≤ nN (σ 81 0) := (nle (nl 30) hTn.1 (by omega) (by omega)).mp c_29
        refine V.aload_n (pc := 53) 1 hC dX4_call_53 rfl ?_
        refine V.iload (pc := 54) 0 hC dX4_call_54 rfl ?_
        refine V.iload_n (pc := 56) 4 hC dX4_call_56 rfl ?_
        refine V.iload (pc := 57) 5 hC dX4_call_57 rfl ?_
        refine V.iconst (pc := 59) 1 hC dX4_call_59 (by decide) ?_
        refine V.iadd (pc := 60) hC dX4_call_60 ?_
        refine V.sts (st' := [.int (nI (q + 1)), .int x, .int 60, .ref (a 5)]) (stc (ncast (b := q + 1) (nadd rfl (nl 1)) (by omega)) (stk (stk (stk rfl)))) ?_
        refine V.callV0 (pc := 61) (as := [.int 60, .int x, .int (nI (q + 1))]) hC (c_work_5_60 σ ν x (q + 1) h82 h83 hTn (by omega)) mu_X4_work ml_X4_53 (by decide) ⟨5, 4, TX4, 6, _, rfl, gx_5⟩ rfl (Nat.le_of_ble_eq_true rfl) dX4_call_61 ?_
        rintro _ ⟨f61_0, i61_1⟩ ⟨rfl, hu61_0, hu61_1⟩
        have hu61_0 : (f61_0, i61_1) = bgs [30, 11, 10] (σ 80, σ 81 0) := hu61_0
        have hu61_1 : isN i61_1 30 := hu61_1
        show V X (wX k g a (va_up (va_up σ 80 f61_0) 81 (fun _ => i61_1)) ν) [(5, .int 60), (0, .ref (a 5)), (1, .int 1), (2, .int 5), (3, .int x), (4, .int (nI q))] [.int (-(((x + 1) + ν 85 0) * 2))] 64
        exact hR (-(((x + 1) + ν 85 0) * 2)) (f61_0, i61_1) _ _ dX4_call_64 rfl ⟨rfl, by rw [hu61_0]; exact congrArg (bgs [30, 11, 10]) (show (σ 80, σ 81 0) = bgS 60 (σ 80, σ 81 0) from (if_neg (i_ge c_29)).symm), hu61_1⟩
      · have nc_29 : ¬ (30 ≤ nN (σ 81 0)) := fun z => c_29 ((nle (nl 30) hTn.1 (by omega) (by omega)).mpr z)
        refine V.aload_n (pc := 32) 1 hC dX4_call_32 rfl ?_
        refine V.get (pc := 33) (v := .ref (a 80)) hC cf_X4 5 0 fl_X4_9 (by decide) gx_5 rfl dX4_call_33 ?_
        refine V.aload_n (pc := 36) 1 hC dX4_call_36 rfl ?_
        refine V.get (pc := 37) (v := .int (σ 81 0)) hC cf_X4 5 1 fl_X4_15 (by decide) gx_5 rfl dX4_call_37 ?_
        refine V.iload (pc := 40) 0 hC dX4_call_40 rfl ?_
        refine V.iast (pc := 42) (f := σ 80) hC 46 (nN (σ 81 0)) (wX k g a (va_up σ 80 (upd (σ 80) (nN (σ 81 0)) 60)) ν) gx_46 hTn.1 (by omega) (by decide) rfl dX4_call_42 ?_
        refine V.aload_n (pc := 43) 1 hC dX4_call_43 rfl ?_
        refine V.dup (pc := 44) hC dX4_call_44 rfl ?_
        refine V.get (pc := 45) (v := .int (σ 81 0)) hC cf_X4 5 1 fl_X4_15 (by decide) gx_5 rfl dX4_call_45 ?_
        refine V.iconst (pc := 48) 1 hC dX4_call_48 (by decide) ?_
        refine V.iadd (pc := 49) hC dX4_call_49 ?_
        refine V.put (pc := 50) (v := .int ((σ 81 0) + 1)) hC cf_X4 5 1 (wX k g a (va_up (va_up σ 80 (upd (σ 80) (nN (σ 81 0)) 60)) 81 (fun _ => (σ 81 0) + 1)) ν) fl_X4_15 (by decide) gx_5 rfl rfl rfl (Nat.le_of_ble_eq_true rfl) rfl dX4_call_50 ?_
        refine V.aload_n (pc := 53) 1 hC dX4_call_53 rfl ?_
        refine V.iload (pc := 54) 0 hC dX4_call_54 rfl ?_
        refine V.iload_n (pc := 56) 4 hC dX4_call_56 rfl ?_
        refine V.iload (pc := 57) 5 hC dX4_call_57 rfl ?_
        refine V.iconst (pc := 59) 1 hC dX4_call_59 (by decide) ?_
        refine V.iadd (pc := 60) hC dX4_call_60 ?_
        refine V.sts (st' := [.int (nI (q + 1)), .int x, .int 60, .ref (a 5)]) (stc (ncast (b := q + 1) (nadd rfl (nl 1)) (by omega)) (stk (stk (stk rfl)))) ?_
        refine V.callV0 (pc := 61) (as := [.int 60, .int x, .int (nI (q + 1))]) hC (c_work_5_60 (va_up (va_up σ 80 (upd (σ 80) (nN (σ 81 0)) 60)) 81 (fun _ => (σ 81 0) + 1)) ν x (q + 1) h82 h83 (isN.mk (nadd hTn.1 (nl 1)) (by omega) (by omega)) (by omega)) mu_X4_work ml_X4_53 (by decide) ⟨5, 4, TX4, 6, _, rfl, gx_5⟩ rfl (Nat.le_of_ble_eq_true rfl) dX4_call_61 ?_
        rintro _ ⟨f61_0, i61_1⟩ ⟨rfl, hu61_0, hu61_1⟩
        have hu61_0 : (f61_0, i61_1) = bgs [30, 11, 10] ((upd (σ 80) (nN (σ 81 0)) 60), ((σ 81 0) + 1)) := hu61_0
        have hu61_1 : isN i61_1 30 := hu61_1
        show V X (wX k g a (va_up (va_up σ 80 f61_0) 81 (fun _ => i61_1)) ν) [(5, .int 60), (0, .ref (a 5)), (1, .int 1), (2, .int 5), (3, .int x), (4, .int (nI q))] [.int (-(((x + 1) + ν 85 0) * 2))] 64
        exact hR (-(((x + 1) + ν 85 0) * 2)) (f61_0, i61_1) _ _ dX4_call_64 rfl ⟨rfl, by rw [hu61_0]; exact congrArg (bgs [30, 11, 10]) (show (upd (σ 80) (nN (σ 81 0)) 60, σ 81 0 + 1) = bgS 60 (σ 80, σ 81 0) from (if_pos (i_nle c_29)).symm), hu61_1⟩
    · have nc_11 : ¬ (q ≤ 20) := fun z => c_11 ((nle rfl (nl 20) (by omega) (by omega)).mpr z)
      exfalso; omega
set_option maxHeartbeats 4000000 in
set_option maxRecDepth 100000 in
theorem c_work_5_12 {l : Launch} {D : va_G} {k : Nat → ClassId} {g a : Nat → Nat} (σ ν : St) (x : Int32) (q : Nat) (h82 : ν 82 0 = 0) (h83 : ν 83 0 = 5) (hTn : isN (σ 81 0) 30) (hq : q + 4 ≤ 20) : Ct l D k g yX4_work cX4_work 5 (some .int) 8 196 [.ref (a 5), .int 12, .int x, .int (nI q)] (S := Rw × Int32) (wX k g a σ ν) (fun uu => wX k g a (va_up (va_up σ 80 uu.1) 81 (fun _ => uu.2)) ν) (fun vv uu => vv = some (.int ((-(((x + 1) + ν 85 0) * 2)) - ν 84 0)) ∧ (uu.1, uu.2) = bgs [60, 30, 11, 10] (σ 80, σ 81 0) ∧ isN uu.2 30) := by
  refine Ct.ofI RX4 rfl (by decide +kernel) (Nat.le_of_ble_eq_true rfl) (fun X hC hR => ?_)
  show V X (wX k g a σ ν) [(0, .ref (a 5)), (1, .int 12), (2, .int x), (3, .int (nI q))] [] 0
  refine V.getAboveN (pc := 0) hC dX4_work_0 rfl ?_
  refine V.iload_n (pc := 3) 1 hC dX4_work_3 rfl ?_
  refine V.bipush (pc := 4) 10 hC dX4_work_4 (by decide) ?_
  refine V.idiv (pc := 6) hC dX4_work_6 (by decide) ?_
  refine V.eqi (y := 1) (by decide) ?_
  refine V.iconst (pc := 7) 1 hC dX4_work_7 (by decide) ?_
  refine V.isub (pc := 8) hC dX4_work_8 ?_
  refine V.eqi (y := 0) (by decide) ?_
  refine V.ldAbove (pc := 9) hC 0 (-1) (nl 0) (by decide) rfl dX4_work_9 ?_
  refine V.istore (pc := 10) [(4, .int (-1)), (0, .ref (a 5)), (1, .int 12), (2, .int x), (3, .int (nI q))] hC dX4_work_10 (by decide) rfl ?_
  refine V.iload_n (pc := 12) 2 hC dX4_work_12 rfl ?_
  refine V.lookup (pc := 13) 149 hC dX4_work_13 (by decide) rfl (by decide) ?_
  refine V.aload_n (pc := 149) 1 hC dX4_work_149 rfl ?_
  refine V.iconst (pc := 150) 1 hC dX4_work_150 (by decide) ?_
  refine V.aload_n (pc := 151) 1 hC dX4_work_151 rfl ?_
  refine V.get (pc := 152) (v := .int (ν 83 0)) hC cf_X4 5 3 fl_X4_28 (by decide) gx_5 rfl dX4_work_152 ?_
  refine V.eqi (y := 5) (h83) ?_
  refine V.iload_n (pc := 155) 3 hC dX4_work_155 rfl ?_
  refine V.iload_n (pc := 156) 4 hC dX4_work_156 rfl ?_
  refine V.callV0 (pc := 157) (as := [.int 1, .int 5, .int x, .int (nI q)]) hC (c_call_5_1_5 σ ν x q h82 h83 hTn (by omega)) mu_X4_call ml_X4_39 (by decide) ⟨5, 4, TX4, 6, _, rfl, gx_5⟩ rfl (Nat.le_of_ble_eq_true rfl) dX4_work_157 ?_
  rintro _ ⟨f157_0, i157_1⟩ ⟨rfl, hu157_0, hu157_1⟩
  have hu157_0 : (f157_0, i157_1) = bgs [60, 30, 11, 10] (σ 80, σ 81 0) := hu157_0
  have hu157_1 : isN i157_1 30 := hu157_1
  show V X (wX k g a (va_up (va_up σ 80 f157_0) 81 (fun _ => i157_1)) ν) [(4, .int (-1)), (0, .ref (a 5)), (1, .int 12), (2, .int x), (3, .int (nI q))] [.int (-(((x + 1) + ν 85 0) * 2))] 160
  refine V.aload_n (pc := 160) 1 hC dX4_work_160 rfl ?_
  refine V.get (pc := 161) (v := .int (ν 84 0)) hC cf_X4 5 4 fl_X4_33 (by decide) gx_5 rfl dX4_work_161 ?_
  refine V.isub (pc := 164) hC dX4_work_164 ?_
  exact hR ((-(((x + 1) + ν 85 0) * 2)) - (ν 84 0)) (f157_0, i157_1) _ _ dX4_work_165 rfl ⟨rfl, hu157_0, hu157_1⟩
set_option maxHeartbeats 4000000 in
set_option maxRecDepth 100000 in
theorem c_call_5_2_5 {l : Launch} {D : va_G} {k : Nat → ClassId} {g a : Nat → Nat} (σ ν : St) (x : Int32) (q : Nat) (h82 : ν 82 0 = 0) (h83 : ν 83 0 = 5) (hTn : isN (σ 81 0) 30) (hq : q + 5 ≤ 20) : Ct l D k g yX4_call cX4_call 6 (some .int) 9 220 [.ref (a 5), .int 2, .int 5, .int x, .int (nI q)] (S := Rw × Int32) (wX k g a σ ν) (fun uu => wX k g a (va_up (va_up σ 80 uu.1) 81 (fun _ => uu.2)) ν) (fun vv uu => vv = some (.int ((-(((x + 1) + ν 85 0) * 2)) - ν 84 0)) ∧ (uu.1, uu.2) = bgs [12, 60, 30, 11, 10] (σ 80, σ 81 0) ∧ isN uu.2 30) := by
  refine Ct.ofI RX4 rfl (by decide +kernel) (Nat.le_of_ble_eq_true rfl) (fun X hC hR => ?_)
  have hTb := hTn.2
  show V X (wX k g a σ ν) [(0, .ref (a 5)), (1, .int 2), (2, .int 5), (3, .int x), (4, .int (nI q))] [] 0
  refine V.aload_n (pc := 0) 0 hC dX4_call_0 rfl ?_
  refine V.get (pc := 1) (v := .int (ν 82 0)) hC cf_X4 5 2 fl_X4_19 (by decide) gx_5 rfl dX4_call_1 ?_
  refine V.eqi (y := 0) (h82) ?_
  refine V.if_ne (pc := 4) 14 hC dX4_call_4 (by decide) (fun c_4 => ?_) (fun c_4 => ?_)
  · have nc_4 : ¬ (0 = 0) := fun z => c_4 ((neq (nl 0) (nl 0) (by omega) (by omega)).mpr z)
    exact absurd c_4 (by decide)
  · have nc_4 : 0 = 0 := (neq (nl 0) (nl 0) (by omega) (by omega)).mp c_4
    refine V.iload (pc := 7) 4 hC dX4_call_7 rfl ?_
    refine V.bipush (pc := 9) 20 hC dX4_call_9 (by decide) ?_
    refine V.icmp_le (pc := 11) 16 hC dX4_call_11 (by decide) (fun c_11 => ?_) (fun c_11 => ?_)
    · have nc_11 : q ≤ 20 := (nle rfl (nl 20) (by omega) (by omega)).mp c_11
      refine V.iload_n (pc := 16) 1 hC dX4_call_16 rfl ?_
      refine V.iload_n (pc := 17) 2 hC dX4_call_17 rfl ?_
      refine V.callS0 (pc := 18) (as := [.int 2, .int 5]) hC (c_find_2_5  ) ms_X4_find ml_X4_49 (by decide) rfl (Nat.le_of_ble_eq_true rfl) dX4_call_18 ?_
      rintro _ _ rfl
      show V X (wX k g a σ ν) [(0, .ref (a 5)), (1, .int 2), (2, .int 5), (3, .int x), (4, .int (nI q))] [.int 12] 21
      refine V.istore (pc := 21) [(5, .int 12), (0, .ref (a 5)), (1, .int 2), (2, .int 5), (3, .int x), (4, .int (nI q))] hC dX4_call_21 (by decide) rfl ?_
      refine V.aload_n (pc := 23) 1 hC dX4_call_23 rfl ?_
      refine V.get (pc := 24) (v := .int (σ 81 0)) hC cf_X4 5 1 fl_X4_15 (by decide) gx_5 rfl dX4_call_24 ?_
      refine V.bipush (pc := 27) 30 hC dX4_call_27 (by decide) ?_
      refine V.icmp_ge (pc := 29) 53 hC dX4_call_29 (by decide) (fun c_29 => ?_) (fun c_29 => ?_)
      · have nc_29 : 30 ≤ nN (σ 81 0) := (nle (nl 30) hTn.1 (by omega) (by omega)).mp c_29
        refine V.aload_n (pc := 53) 1 hC dX4_call_53 rfl ?_
        refine V.iload (pc := 54) 0 hC dX4_call_54 rfl ?_
        refine V.iload_n (pc := 56) 4 hC dX4_call_56 rfl ?_
        refine V.iload (pc := 57) 5 hC dX4_call_57 rfl ?_
        refine V.iconst (pc := 59) 1 hC dX4_call_59 (by decide) ?_
        refine V.iadd (pc := 60) hC dX4_call_60 ?_
        refine V.sts (st' := [.int (nI (q + 1)), .int x, .int 12, .ref (a 5)]) (stc (ncast (b := q + 1) (nadd rfl (nl 1)) (by omega)) (stk (stk (stk rfl)))) ?_
        refine V.callV0 (pc := 61) (as := [.int 12, .int x, .int (nI (q + 1))]) hC (c_work_5_12 σ ν x (q + 1) h82 h83 hTn (by omega)) mu_X4_work ml_X4_53 (by decide) ⟨5, 4, TX4, 6, _, rfl, gx_5⟩ rfl (Nat.le_of_ble_eq_true rfl) dX4_call_61 ?_
        rintro _ ⟨f61_0, i61_1⟩ ⟨rfl, hu61_0, hu61_1⟩
        have hu61_0 : (f61_0, i61_1) = bgs [60, 30, 11, 10] (σ 80, σ 81 0) := hu61_0
        have hu61_1 : isN i61_1 30 := hu61_1
        show V X (wX k g a (va_up (va_up σ 80 f61_0) 81 (fun _ => i61_1)) ν) [(5, .int 12), (0, .ref (a 5)), (1, .int 2), (2, .int 5), (3, .int x), (4, .int (nI q))] [.int ((-(((x + 1) + ν 85 0) * 2)) - ν 84 0)] 64
        exact hR ((-(((x + 1) + ν 85 0) * 2)) - ν 84 0) (f61_0, i61_1) _ _ dX4_call_64 rfl ⟨rfl, by rw [hu61_0]; exact congrArg (bgs [60, 30, 11, 10]) (show (σ 80, σ 81 0) = bgS 12 (σ 80, σ 81 0) from (if_neg (i_ge c_29)).symm), hu61_1⟩
      · have nc_29 : ¬ (30 ≤ nN (σ 81 0)) := fun z => c_29 ((nle (nl 30) hTn.1 (by omega) (by omega)).mpr z)
        refine V.aload_n (pc := 32) 1 hC dX4_call_32 rfl ?_
        refine V.get (pc := 33) (v := .ref (a 80)) hC cf_X4 5 0 fl_X4_9 (by decide) gx_5 rfl dX4_call_33 ?_
        refine V.aload_n (pc := 36) 1 hC dX4_call_36 rfl ?_
        refine V.get (pc := 37) (v := .int (σ 81 0)) hC cf_X4 5 1 fl_X4_15 (by decide) gx_5 rfl dX4_call_37 ?_
        refine V.iload (pc := 40) 0 hC dX4_call_40 rfl ?_
        refine V.iast (pc := 42) (f := σ 80) hC 46 (nN (σ 81 0)) (wX k g a (va_up σ 80 (upd (σ 80) (nN (σ 81 0)) 12)) ν) gx_46 hTn.1 (by omega) (by decide) rfl dX4_call_42 ?_
        refine V.aload_n (pc := 43) 1 hC dX4_call_43 rfl ?_
        refine V.dup (pc := 44) hC dX4_call_44 rfl ?_
        refine V.get (pc := 45) (v := .int (σ 81 0)) hC cf_X4 5 1 fl_X4_15 (by decide) gx_5 rfl dX4_call_45 ?_
        refine V.iconst (pc := 48) 1 hC dX4_call_48 (by decide) ?_
        refine V.iadd (pc := 49) hC dX4_call_49 ?_
        refine V.put (pc := 50) (v := .int ((σ 81 0) + 1)) hC cf_X4 5 1 (wX k g a (va_up (va_up σ 80 (upd (σ 80) (nN (σ 81 0)) 12)) 81 (fun _ => (σ 81 0) + 1)) ν) fl_X4_15 (by decide) gx_5 rfl rfl rfl (Nat.le_of_ble_eq_true rfl) rfl dX4_call_50 ?_
        refine V.aload_n (pc := 53) 1 hC dX4_call_53 rfl ?_
        refine V.iload (pc := 54) 0 hC dX4_call_54 rfl ?_
        refine V.iload_n (pc := 56) 4 hC dX4_call_56 rfl ?_
        refine V.iload (pc := 57) 5 hC dX4_call_57 rfl ?_
        refine V.iconst (pc := 59) 1 hC dX4_call_59 (by decide) ?_
        refine V.iadd (pc := 60) hC dX4_call_60 ?_
        refine V.sts (st' := [.int (nI (q + 1)), .int x, .int 12, .ref (a 5)]) (stc (ncast (b := q + 1) (nadd rfl (nl 1)) (by omega)) (stk (stk (stk rfl)))) ?_
        refine V.callV0 (pc := 61) (as := [.int 12, .int x, .int (nI (q + 1))]) hC (c_work_5_12 (va_up (va_up σ 80 (upd (σ 80) (nN (σ 81 0)) 12)) 81 (fun _ => (σ 81 0) + 1)) ν x (q + 1) h82 h83 (isN.mk (nadd hTn.1 (nl 1)) (by omega) (by omega)) (by omega)) mu_X4_work ml_X4_53 (by decide) ⟨5, 4, TX4, 6, _, rfl, gx_5⟩ rfl (Nat.le_of_ble_eq_true rfl) dX4_call_61 ?_
        rintro _ ⟨f61_0, i61_1⟩ ⟨rfl, hu61_0, hu61_1⟩
        have hu61_0 : (f61_0, i61_1) = bgs [60, 30, 11, 10] ((upd (σ 80) (nN (σ 81 0)) 12), ((σ 81 0) + 1)) := hu61_0
        have hu61_1 : isN i61_1 30 := hu61_1
        show V X (wX k g a (va_up (va_up σ 80 f61_0) 81 (fun _ => i61_1)) ν) [(5, .int 12), (0, .ref (a 5)), (1, .int 2), (2, .int 5), (3, .int x), (4, .int (nI q))] [.int ((-(((x + 1) + ν 85 0) * 2)) - ν 84 0)] 64
        exact hR ((-(((x + 1) + ν 85 0) * 2)) - ν 84 0) (f61_0, i61_1) _ _ dX4_call_64 rfl ⟨rfl, by rw [hu61_0]; exact congrArg (bgs [60, 30, 11, 10]) (show (upd (σ 80) (nN (σ 81 0)) 12, σ 81 0 + 1) = bgS 12 (σ 80, σ 81 0) from (if_pos (i_nle c_29)).symm), hu61_1⟩
    · have nc_11 : ¬ (q ≤ 20) := fun z => c_11 ((nle rfl (nl 20) (by omega) (by omega)).mpr z)
      exfalso; omega
set_option maxHeartbeats 4000000 in
set_option maxRecDepth 100000 in
theorem c_work_5_13 {l : Launch} {D : va_G} {k : Nat → ClassId} {g a : Nat → Nat} (σ ν : St) (x : Int32) (q : Nat) (h82 : ν 82 0 = 0) (h83 : ν 83 0 = 5) (hTn : isN (σ 81 0) 30) (hq : q + 0 ≤ 20) : Ct l D k g yX4_work cX4_work 5 (some .int) 1 21 [.ref (a 5), .int 13, .int x, .int (nI q)] (S := Rw × Int32 × Int32) (wX k g a σ ν) (fun uu => wX k g a (va_up (va_up σ 80 uu.1) 81 (fun _ => uu.2.1)) (va_up ν 82 (fun _ => uu.2.2))) (fun vv uu => vv = some (.int (if ν 84 0 - ν 85 0 = 0 then 0 else x / (ν 84 0 - ν 85 0))) ∧ (uu.1, uu.2.1) = bgs [] (σ 80, σ 81 0) ∧ isN uu.2.1 30 ∧ uu.2.2 = bI (ν 84 0 - ν 85 0 = 0)) := by
  refine Ct.ofI RX4 rfl (by decide +kernel) (Nat.le_of_ble_eq_true rfl) (fun X hC hR => ?_)
  show V X (wX k g a σ ν) [(0, .ref (a 5)), (1, .int 13), (2, .int x), (3, .int (nI q))] [] 0
  refine V.getAboveN (pc := 0) hC dX4_work_0 rfl ?_
  refine V.iload_n (pc := 3) 1 hC dX4_work_3 rfl ?_
  refine V.bipush (pc := 4) 10 hC dX4_work_4 (by decide) ?_
  refine V.idiv (pc := 6) hC dX4_work_6 (by decide) ?_
  refine V.eqi (y := 1) (by decide) ?_
  refine V.iconst (pc := 7) 1 hC dX4_work_7 (by decide) ?_
  refine V.isub (pc := 8) hC dX4_work_8 ?_
  refine V.eqi (y := 0) (by decide) ?_
  refine V.ldAbove (pc := 9) hC 0 (-1) (nl 0) (by decide) rfl dX4_work_9 ?_
  refine V.istore (pc := 10) [(4, .int (-1)), (0, .ref (a 5)), (1, .int 13), (2, .int x), (3, .int (nI q))] hC dX4_work_10 (by decide) rfl ?_
  refine V.iload_n (pc := 12) 2 hC dX4_work_12 rfl ?_
  refine V.lookup (pc := 13) 166 hC dX4_work_13 (by decide) rfl (by decide) ?_
  refine V.aload_n (pc := 166) 1 hC dX4_work_166 rfl ?_
  refine V.iload_n (pc := 167) 3 hC dX4_work_167 rfl ?_
  refine V.callV0 (pc := 168) (as := [.int x]) hC (c_X4_part σ ν x h82) mu_X4_part ml_X4_57 (by decide) ⟨5, 4, TX4, 6, _, rfl, gx_5⟩ rfl (Nat.le_of_ble_eq_true rfl) dX4_work_168 ?_
  rintro _ i168_0 ⟨rfl, hu168_0⟩
  have hu168_0 : i168_0 = bI (ν 84 0 - ν 85 0 = 0) := hu168_0
  show V X (wX k g a σ (va_up ν 82 (fun _ => i168_0))) [(4, .int (-1)), (0, .ref (a 5)), (1, .int 13), (2, .int x), (3, .int (nI q))] [.int (if ν 84 0 - ν 85 0 = 0 then 0 else x / (ν 84 0 - ν 85 0))] 171
  exact hR (if ν 84 0 - ν 85 0 = 0 then 0 else x / (ν 84 0 - ν 85 0)) (σ 80, σ 81 0, i168_0) _ _ dX4_work_171 rfl ⟨rfl, rfl, hTn, hu168_0⟩
set_option maxHeartbeats 4000000 in
set_option maxRecDepth 100000 in
theorem c_call_5_3_5 {l : Launch} {D : va_G} {k : Nat → ClassId} {g a : Nat → Nat} (σ ν : St) (x : Int32) (q : Nat) (h82 : ν 82 0 = 0) (h83 : ν 83 0 = 5) (hTn : isN (σ 81 0) 30) (hq : q + 1 ≤ 20) : Ct l D k g yX4_call cX4_call 6 (some .int) 2 45 [.ref (a 5), .int 3, .int 5, .int x, .int (nI q)] (S := Rw × Int32 × Int32) (wX k g a σ ν) (fun uu => wX k g a (va_up (va_up σ 80 uu.1) 81 (fun _ => uu.2.1)) (va_up ν 82 (fun _ => uu.2.2))) (fun vv uu => vv = some (.int (if ν 84 0 - ν 85 0 = 0 then 0 else x / (ν 84 0 - ν 85 0))) ∧ (uu.1, uu.2.1) = bgs [13] (σ 80, σ 81 0) ∧ isN uu.2.1 30 ∧ uu.2.2 = bI (ν 84 0 - ν 85 0 = 0)) := by
  refine Ct.ofI RX4 rfl (by decide +kernel) (Nat.le_of_ble_eq_true rfl) (fun X hC hR => ?_)
  have hTb := hTn.2
  show V X (wX k g a σ ν) [(0, .ref (a 5)), (1, .int 3), (2, .int 5), (3, .int x), (4, .int (nI q))] [] 0
  refine V.aload_n (pc := 0) 0 hC dX4_call_0 rfl ?_
  refine V.get (pc := 1) (v := .int (ν 82 0)) hC cf_X4 5 2 fl_X4_19 (by decide) gx_5 rfl dX4_call_1 ?_
  refine V.eqi (y := 0) (h82) ?_
  refine V.if_ne (pc := 4) 14 hC dX4_call_4 (by decide) (fun c_4 => ?_) (fun c_4 => ?_)
  · have nc_4 : ¬ (0 = 0) := fun z => c_4 ((neq (nl 0) (nl 0) (by omega) (by omega)).mpr z)
    exact absurd c_4 (by decide)
  · have nc_4 : 0 = 0 := (neq (nl 0) (nl 0) (by omega) (by omega)).mp c_4
    refine V.iload (pc := 7) 4 hC dX4_call_7 rfl ?_
    refine V.bipush (pc := 9) 20 hC dX4_call_9 (by decide) ?_
    refine V.icmp_le (pc := 11) 16 hC dX4_call_11 (by decide) (fun c_11 => ?_) (fun c_11 => ?_)
    · have nc_11 : q ≤ 20 := (nle rfl (nl 20) (by omega) (by omega)).mp c_11
      refine V.iload_n (pc := 16) 1 hC dX4_call_16 rfl ?_
      refine V.iload_n (pc := 17) 2 hC dX4_call_17 rfl ?_
      refine V.callS0 (pc := 18) (as := [.int 3, .int 5]) hC (c_find_3_5  ) ms_X4_find ml_X4_49 (by decide) rfl (Nat.le_of_ble_eq_true rfl) dX4_call_18 ?_
      rintro _ _ rfl
      show V X (wX k g a σ ν) [(0, .ref (a 5)), (1, .int 3), (2, .int 5), (3, .int x), (4, .int (nI q))] [.int 13] 21
      refine V.istore (pc := 21) [(5, .int 13), (0, .ref (a 5)), (1, .int 3), (2, .int 5), (3, .int x), (4, .int (nI q))] hC dX4_call_21 (by decide) rfl ?_
      refine V.aload_n (pc := 23) 1 hC dX4_call_23 rfl ?_
      refine V.get (pc := 24) (v := .int (σ 81 0)) hC cf_X4 5 1 fl_X4_15 (by decide) gx_5 rfl dX4_call_24 ?_
      refine V.bipush (pc := 27) 30 hC dX4_call_27 (by decide) ?_
      refine V.icmp_ge (pc := 29) 53 hC dX4_call_29 (by decide) (fun c_29 => ?_) (fun c_29 => ?_)
      · have nc_29 : 30 ≤ nN (σ 81 0) := (nle (nl 30) hTn.1 (by omega) (by omega)).mp c_29
        refine V.aload_n (pc := 53) 1 hC dX4_call_53 rfl ?_
        refine V.iload (pc := 54) 0 hC dX4_call_54 rfl ?_
        refine V.iload_n (pc := 56) 4 hC dX4_call_56 rfl ?_
        refine V.iload (pc := 57) 5 hC dX4_call_57 rfl ?_
        refine V.iconst (pc := 59) 1 hC dX4_call_59 (by decide) ?_
        refine V.iadd (pc := 60) hC dX4_call_60 ?_
        refine V.sts (st' := [.int (nI (q + 1)), .int x, .int 13, .ref (a 5)]) (stc (ncast (b := q + 1) (nadd rfl (nl 1)) (by omega)) (stk (stk (stk rfl)))) ?_
        refine V.callV0 (pc := 61) (as := [.int 13, .int x, .int (nI (q + 1))]) hC (c_work_5_13 σ ν x (q + 1) h82 h83 hTn (by omega)) mu_X4_work ml_X4_53 (by decide) ⟨5, 4, TX4, 6, _, rfl, gx_5⟩ rfl (Nat.le_of_ble_eq_true rfl) dX4_call_61 ?_
        rintro _ ⟨f61_0, i61_1, i61_2⟩ ⟨rfl, hu61_0, hu61_1, hu61_2⟩
        have hu61_0 : (f61_0, i61_1) = bgs [] (σ 80, σ 81 0) := hu61_0
        have hu61_1 : isN i61_1 30 := hu61_1
        have hu61_2 : i61_2 = bI (ν 84 0 - ν 85 0 = 0) := hu61_2
        show V X (wX k g a (va_up (va_up σ 80 f61_0) 81 (fun _ => i61_1)) (va_up ν 82 (fun _ => i61_2))) [(5, .int 13), (0, .ref (a 5)), (1, .int 3), (2, .int 5), (3, .int x), (4, .int (nI q))] [.int (if ν 84 0 - ν 85 0 = 0 then 0 else x / (ν 84 0 - ν 85 0))] 64
        exact hR (if ν 84 0 - ν 85 0 = 0 then 0 else x / (ν 84 0 - ν 85 0)) (f61_0, i61_1, i61_2) _ _ dX4_call_64 rfl ⟨rfl, by rw [hu61_0]; exact congrArg (bgs []) (show (σ 80, σ 81 0) = bgS 13 (σ 80, σ 81 0) from (if_neg (i_ge c_29)).symm), hu61_1, hu61_2⟩
      · have nc_29 : ¬ (30 ≤ nN (σ 81 0)) := fun z => c_29 ((nle (nl 30) hTn.1 (by omega) (by omega)).mpr z)
        refine V.aload_n (pc := 32) 1 hC dX4_call_32 rfl ?_
        refine V.get (pc := 33) (v := .ref (a 80)) hC cf_X4 5 0 fl_X4_9 (by decide) gx_5 rfl dX4_call_33 ?_
        refine V.aload_n (pc := 36) 1 hC dX4_call_36 rfl ?_
        refine V.get (pc := 37) (v := .int (σ 81 0)) hC cf_X4 5 1 fl_X4_15 (by decide) gx_5 rfl dX4_call_37 ?_
        refine V.iload (pc := 40) 0 hC dX4_call_40 rfl ?_
        refine V.iast (pc := 42) (f := σ 80) hC 46 (nN (σ 81 0)) (wX k g a (va_up σ 80 (upd (σ 80) (nN (σ 81 0)) 13)) ν) gx_46 hTn.1 (by omega) (by decide) rfl dX4_call_42 ?_
        refine V.aload_n (pc := 43) 1 hC dX4_call_43 rfl ?_
        refine V.dup (pc := 44) hC dX4_call_44 rfl ?_
        refine V.get (pc := 45) (v := .int (σ 81 0)) hC cf_X4 5 1 fl_X4_15 (by decide) gx_5 rfl dX4_call_45 ?_
        refine V.iconst (pc := 48) 1 hC dX4_call_48 (by decide) ?_
        refine V.iadd (pc := 49) hC dX4_call_49 ?_
        refine V.put (pc := 50) (v := .int ((σ 81 0) + 1)) hC cf_X4 5 1 (wX k g a (va_up (va_up σ 80 (upd (σ 80) (nN (σ 81 0)) 13)) 81 (fun _ => (σ 81 0) + 1)) ν) fl_X4_15 (by decide) gx_5 rfl rfl rfl (Nat.le_of_ble_eq_true rfl) rfl dX4_call_50 ?_
        refine V.aload_n (pc := 53) 1 hC dX4_call_53 rfl ?_
        refine V.iload (pc := 54) 0 hC dX4_call_54 rfl ?_
        refine V.iload_n (pc := 56) 4 hC dX4_call_56 rfl ?_
        refine V.iload (pc := 57) 5 hC dX4_call_57 rfl ?_
        refine V.iconst (pc := 59) 1 hC dX4_call_59 (by decide) ?_
        refine V.iadd (pc := 60) hC dX4_call_60 ?_
        refine V.sts (st' := [.int (nI (q + 1)), .int x, .int 13, .ref (a 5)]) (stc (ncast (b := q + 1) (nadd rfl (nl 1)) (by omega)) (stk (stk (stk rfl)))) ?_
        refine V.callV0 (pc := 61) (as := [.int 13, .int x, .int (nI (q + 1))]) hC (c_work_5_13 (va_up (va_up σ 80 (upd (σ 80) (nN (σ 81 0)) 13)) 81 (fun _ => (σ 81 0) + 1)) ν x (q + 1) h82 h83 (isN.mk (nadd hTn.1 (nl 1)) (by omega) (by omega)) (by omega)) mu_X4_work ml_X4_53 (by decide) ⟨5, 4, TX4, 6, _, rfl, gx_5⟩ rfl (Nat.le_of_ble_eq_true rfl) dX4_call_61 ?_
        rintro _ ⟨f61_0, i61_1, i61_2⟩ ⟨rfl, hu61_0, hu61_1, hu61_2⟩
        have hu61_0 : (f61_0, i61_1) = bgs [] ((upd (σ 80) (nN (σ 81 0)) 13), ((σ 81 0) + 1)) := hu61_0
        have hu61_1 : isN i61_1 30 := hu61_1
        have hu61_2 : i61_2 = bI (ν 84 0 - ν 85 0 = 0) := hu61_2
        show V X (wX k g a (va_up (va_up σ 80 f61_0) 81 (fun _ => i61_1)) (va_up ν 82 (fun _ => i61_2))) [(5, .int 13), (0, .ref (a 5)), (1, .int 3), (2, .int 5), (3, .int x), (4, .int (nI q))] [.int (if ν 84 0 - ν 85 0 = 0 then 0 else x / (ν 84 0 - ν 85 0))] 64
        exact hR (if ν 84 0 - ν 85 0 = 0 then 0 else x / (ν 84 0 - ν 85 0)) (f61_0, i61_1, i61_2) _ _ dX4_call_64 rfl ⟨rfl, by rw [hu61_0]; exact congrArg (bgs []) (show (upd (σ 80) (nN (σ 81 0)) 13, σ 81 0 + 1) = bgS 13 (σ 80, σ 81 0) from (if_pos (i_nle c_29)).symm), hu61_1, hu61_2⟩
    · have nc_11 : ¬ (q ≤ 20) := fun z => c_11 ((nle rfl (nl 20) (by omega) (by omega)).mpr z)
      exfalso; omega
set_option maxHeartbeats 4000000 in
set_option maxRecDepth 100000 in
theorem c_work_6_70 {l : Launch} {D : va_G} {k : Nat → ClassId} {g a : Nat → Nat} (σ ν : St) (x : Int32) (q : Nat) (h82 : ν 82 0 = 0) (h83 : ν 83 0 = 6) (hTn : isN (σ 81 0) 30) (hq : q + 0 ≤ 20) : Ct l D k g yX4_work cX4_work 5 (some .int) 0 0 [.ref (a 5), .int 70, .int x, .int (nI q)] (S := Rw × Int32) (wX k g a σ ν) (fun uu => wX k g a (va_up (va_up σ 80 uu.1) 81 (fun _ => uu.2)) ν) (fun vv uu => vv = some (.int 9) ∧ (uu.1, uu.2) = bgs [] (σ 80, σ 81 0) ∧ isN uu.2 30) := by
  refine Ct.ofI RX4 rfl (by decide +kernel) (Nat.le_of_ble_eq_true rfl) (fun X hC hR => ?_)
  show V X (wX k g a σ ν) [(0, .ref (a 5)), (1, .int 70), (2, .int x), (3, .int (nI q))] [] 0
  refine V.getAboveN (pc := 0) hC dX4_work_0 rfl ?_
  refine V.iload_n (pc := 3) 1 hC dX4_work_3 rfl ?_
  refine V.bipush (pc := 4) 10 hC dX4_work_4 (by decide) ?_
  refine V.idiv (pc := 6) hC dX4_work_6 (by decide) ?_
  refine V.eqi (y := 7) (by decide) ?_
  refine V.iconst (pc := 7) 1 hC dX4_work_7 (by decide) ?_
  refine V.isub (pc := 8) hC dX4_work_8 ?_
  refine V.eqi (y := 6) (by decide) ?_
  refine V.ldAbove (pc := 9) hC 6 0 (nl 6) (by decide) rfl dX4_work_9 ?_
  refine V.istore (pc := 10) [(4, .int 0), (0, .ref (a 5)), (1, .int 70), (2, .int x), (3, .int (nI q))] hC dX4_work_10 (by decide) rfl ?_
  refine V.iload_n (pc := 12) 2 hC dX4_work_12 rfl ?_
  refine V.lookup (pc := 13) 268 hC dX4_work_13 (by decide) rfl (by decide) ?_
  refine V.bipush (pc := 268) 9 hC dX4_work_268 (by decide) ?_
  exact hR 9 (σ 80, σ 81 0) _ _ dX4_work_270 rfl ⟨rfl, rfl, hTn⟩
set_option maxHeartbeats 4000000 in
set_option maxRecDepth 100000 in
theorem c_call_6_0_6 {l : Launch} {D : va_G} {k : Nat → ClassId} {g a : Nat → Nat} (σ ν : St) (x : Int32) (q : Nat) (h82 : ν 82 0 = 0) (h83 : ν 83 0 = 6) (hTn : isN (σ 81 0) 30) (hq : q + 1 ≤ 20) : Ct l D k g yX4_call cX4_call 6 (some .int) 1 24 [.ref (a 5), .int 0, .int 6, .int x, .int (nI q)] (S := Rw × Int32) (wX k g a σ ν) (fun uu => wX k g a (va_up (va_up σ 80 uu.1) 81 (fun _ => uu.2)) ν) (fun vv uu => vv = some (.int 9) ∧ (uu.1, uu.2) = bgs [70] (σ 80, σ 81 0) ∧ isN uu.2 30) := by
  refine Ct.ofI RX4 rfl (by decide +kernel) (Nat.le_of_ble_eq_true rfl) (fun X hC hR => ?_)
  have hTb := hTn.2
  show V X (wX k g a σ ν) [(0, .ref (a 5)), (1, .int 0), (2, .int 6), (3, .int x), (4, .int (nI q))] [] 0
  refine V.aload_n (pc := 0) 0 hC dX4_call_0 rfl ?_
  refine V.get (pc := 1) (v := .int (ν 82 0)) hC cf_X4 5 2 fl_X4_19 (by decide) gx_5 rfl dX4_call_1 ?_
  refine V.eqi (y := 0) (h82) ?_
  refine V.if_ne (pc := 4) 14 hC dX4_call_4 (by decide) (fun c_4 => ?_) (fun c_4 => ?_)
  · have nc_4 : ¬ (0 = 0) := fun z => c_4 ((neq (nl 0) (nl 0) (by omega) (by omega)).mpr z)
    exact absurd c_4 (by decide)
  · have nc_4 : 0 = 0 := (neq (nl 0) (nl 0) (by omega) (by omega)).mp c_4
    refine V.iload (pc := 7) 4 hC dX4_call_7 rfl ?_
    refine V.bipush (pc := 9) 20 hC dX4_call_9 (by decide) ?_
    refine V.icmp_le (pc := 11) 16 hC dX4_call_11 (by decide) (fun c_11 => ?_) (fun c_11 => ?_)
    · have nc_11 : q ≤ 20 := (nle rfl (nl 20) (by omega) (by omega)).mp c_11
      refine V.iload_n (pc := 16) 1 hC dX4_call_16 rfl ?_
      refine V.iload_n (pc := 17) 2 hC dX4_call_17 rfl ?_
      refine V.callS0 (pc := 18) (as := [.int 0, .int 6]) hC (c_find_0_6  ) ms_X4_find ml_X4_49 (by decide) rfl (Nat.le_of_ble_eq_true rfl) dX4_call_18 ?_
      rintro _ _ rfl
      show V X (wX k g a σ ν) [(0, .ref (a 5)), (1, .int 0), (2, .int 6), (3, .int x), (4, .int (nI q))] [.int 70] 21
      refine V.istore (pc := 21) [(5, .int 70), (0, .ref (a 5)), (1, .int 0), (2, .int 6), (3, .int x), (4, .int (nI q))] hC dX4_call_21 (by decide) rfl ?_
      refine V.aload_n (pc := 23) 1 hC dX4_call_23 rfl ?_
      refine V.get (pc := 24) (v := .int (σ 81 0)) hC cf_X4 5 1 fl_X4_15 (by decide) gx_5 rfl dX4_call_24 ?_
      refine V.bipush (pc := 27) 30 hC dX4_call_27 (by decide) ?_
      refine V.icmp_ge (pc := 29) 53 hC dX4_call_29 (by decide) (fun c_29 => ?_) (fun c_29 => ?_)
      · have nc_29 : 30 ≤ nN (σ 81 0) := (nle (nl 30) hTn.1 (by omega) (by omega)).mp c_29
        refine V.aload_n (pc := 53) 1 hC dX4_call_53 rfl ?_
        refine V.iload (pc := 54) 0 hC dX4_call_54 rfl ?_
        refine V.iload_n (pc := 56) 4 hC dX4_call_56 rfl ?_
        refine V.iload (pc := 57) 5 hC dX4_call_57 rfl ?_
        refine V.iconst (pc := 59) 1 hC dX4_call_59 (by decide) ?_
        refine V.iadd (pc := 60) hC dX4_call_60 ?_
        refine V.sts (st' := [.int (nI (q + 1)), .int x, .int 70, .ref (a 5)]) (stc (ncast (b := q + 1) (nadd rfl (nl 1)) (by omega)) (stk (stk (stk rfl)))) ?_
        refine V.callV0 (pc := 61) (as := [.int 70, .int x, .int (nI (q + 1))]) hC (c_work_6_70 σ ν x (q + 1) h82 h83 hTn (by omega)) mu_X4_work ml_X4_53 (by decide) ⟨5, 4, TX4, 6, _, rfl, gx_5⟩ rfl (Nat.le_of_ble_eq_true rfl) dX4_call_61 ?_
        rintro _ ⟨f61_0, i61_1⟩ ⟨rfl, hu61_0, hu61_1⟩
        have hu61_0 : (f61_0, i61_1) = bgs [] (σ 80, σ 81 0) := hu61_0
        have hu61_1 : isN i61_1 30 := hu61_1
        show V X (wX k g a (va_up (va_up σ 80 f61_0) 81 (fun _ => i61_1)) ν) [(5, .int 70), (0, .ref (a 5)), (1, .int 0), (2, .int 6), (3, .int x), (4, .int (nI q))] [.int 9] 64
        exact hR 9 (f61_0, i61_1) _ _ dX4_call_64 rfl ⟨rfl, by rw [hu61_0]; exact congrArg (bgs []) (show (σ 80, σ 81 0) = bgS 70 (σ 80, σ 81 0) from (if_neg (i_ge c_29)).symm), hu61_1⟩
      · have nc_29 : ¬ (30 ≤ nN (σ 81 0)) := fun z => c_29 ((nle (nl 30) hTn.1 (by omega) (by omega)).mpr z)
        refine V.aload_n (pc := 32) 1 hC dX4_call_32 rfl ?_
        refine V.get (pc := 33) (v := .ref (a 80)) hC cf_X4 5 0 fl_X4_9 (by decide) gx_5 rfl dX4_call_33 ?_
        refine V.aload_n (pc := 36) 1 hC dX4_call_36 rfl ?_
        refine V.get (pc := 37) (v := .int (σ 81 0)) hC cf_X4 5 1 fl_X4_15 (by decide) gx_5 rfl dX4_call_37 ?_
        refine V.iload (pc := 40) 0 hC dX4_call_40 rfl ?_
        refine V.iast (pc := 42) (f := σ 80) hC 46 (nN (σ 81 0)) (wX k g a (va_up σ 80 (upd (σ 80) (nN (σ 81 0)) 70)) ν) gx_46 hTn.1 (by omega) (by decide) rfl dX4_call_42 ?_
        refine V.aload_n (pc := 43) 1 hC dX4_call_43 rfl ?_
        refine V.dup (pc := 44) hC dX4_call_44 rfl ?_
        refine V.get (pc := 45) (v := .int (σ 81 0)) hC cf_X4 5 1 fl_X4_15 (by decide) gx_5 rfl dX4_call_45 ?_
        refine V.iconst (pc := 48) 1 hC dX4_call_48 (by decide) ?_
        refine V.iadd (pc := 49) hC dX4_call_49 ?_
        refine V.put (pc := 50) (v := .int ((σ 81 0) + 1)) hC cf_X4 5 1 (wX k g a (va_up (va_up σ 80 (upd (σ 80) (nN (σ 81 0)) 70)) 81 (fun _ => (σ 81 0) + 1)) ν) fl_X4_15 (by decide) gx_5 rfl rfl rfl (Nat.le_of_ble_eq_true rfl) rfl dX4_call_50 ?_
        refine V.aload_n (pc := 53) 1 hC dX4_call_53 rfl ?_
        refine V.iload (pc := 54) 0 hC dX4_call_54 rfl ?_
        refine V.iload_n (pc := 56) 4 hC dX4_call_56 rfl ?_
        refine V.iload (pc := 57) 5 hC dX4_call_57 rfl ?_
        refine V.iconst (pc := 59) 1 hC dX4_call_59 (by decide) ?_
        refine V.iadd (pc := 60) hC dX4_call_60 ?_
        refine V.sts (st' := [.int (nI (q + 1)), .int x, .int 70, .ref (a 5)]) (stc (ncast (b := q + 1) (nadd rfl (nl 1)) (by omega)) (stk (stk (stk rfl)))) ?_
        refine V.callV0 (pc := 61) (as := [.int 70, .int x, .int (nI (q + 1))]) hC (c_work_6_70 (va_up (va_up σ 80 (upd (σ 80) (nN (σ 81 0)) 70)) 81 (fun _ => (σ 81 0) + 1)) ν x (q + 1) h82 h83 (isN.mk (nadd hTn.1 (nl 1)) (by omega) (by omega)) (by omega)) mu_X4_work ml_X4_53 (by decide) ⟨5, 4, TX4, 6, _, rfl, gx_5⟩ rfl (Nat.le_of_ble_eq_true rfl) dX4_call_61 ?_
        rintro _ ⟨f61_0, i61_1⟩ ⟨rfl, hu61_0, hu61_1⟩
        have hu61_0 : (f61_0, i61_1) = bgs [] ((upd (σ 80) (nN (σ 81 0)) 70), ((σ 81 0) + 1)) := hu61_0
        have hu61_1 : isN i61_1 30 := hu61_1
        show V X (wX k g a (va_up (va_up σ 80 f61_0) 81 (fun _ => i61_1)) ν) [(5, .int 70), (0, .ref (a 5)), (1, .int 0), (2, .int 6), (3, .int x), (4, .int (nI q))] [.int 9] 64
        exact hR 9 (f61_0, i61_1) _ _ dX4_call_64 rfl ⟨rfl, by rw [hu61_0]; exact congrArg (bgs []) (show (upd (σ 80) (nN (σ 81 0)) 70, σ 81 0 + 1) = bgS 70 (σ 80, σ 81 0) from (if_pos (i_nle c_29)).symm), hu61_1⟩
    · have nc_11 : ¬ (q ≤ 20) := fun z => c_11 ((nle rfl (nl 20) (by omega) (by omega)).mpr z)
      exfalso; omega
set_option maxHeartbeats 4000000 in
set_option maxRecDepth 100000 in
theorem c_work_6_11 {l : Launch} {D : va_G} {k : Nat → ClassId} {g a : Nat → Nat} (σ ν : St) (x : Int32) (q : Nat) (h82 : ν 82 0 = 0) (h83 : ν 83 0 = 6) (hTn : isN (σ 81 0) 30) (hq : q + 1 ≤ 20) : Ct l D k g yX4_work cX4_work 5 (some .int) 2 49 [.ref (a 5), .int 11, .int x, .int (nI q)] (S := Rw × Int32) (wX k g a σ ν) (fun uu => wX k g a (va_up (va_up σ 80 uu.1) 81 (fun _ => uu.2)) ν) (fun vv uu => vv = some (.int (9 * 2)) ∧ (uu.1, uu.2) = bgs [70] (σ 80, σ 81 0) ∧ isN uu.2 30) := by
  refine Ct.ofI RX4 rfl (by decide +kernel) (Nat.le_of_ble_eq_true rfl) (fun X hC hR => ?_)
  show V X (wX k g a σ ν) [(0, .ref (a 5)), (1, .int 11), (2, .int x), (3, .int (nI q))] [] 0
  refine V.getAboveN (pc := 0) hC dX4_work_0 rfl ?_
  refine V.iload_n (pc := 3) 1 hC dX4_work_3 rfl ?_
  refine V.bipush (pc := 4) 10 hC dX4_work_4 (by decide) ?_
  refine V.idiv (pc := 6) hC dX4_work_6 (by decide) ?_
  refine V.eqi (y := 1) (by decide) ?_
  refine V.iconst (pc := 7) 1 hC dX4_work_7 (by decide) ?_
  refine V.isub (pc := 8) hC dX4_work_8 ?_
  refine V.eqi (y := 0) (by decide) ?_
  refine V.ldAbove (pc := 9) hC 0 (-1) (nl 0) (by decide) rfl dX4_work_9 ?_
  refine V.istore (pc := 10) [(4, .int (-1)), (0, .ref (a 5)), (1, .int 11), (2, .int x), (3, .int (nI q))] hC dX4_work_10 (by decide) rfl ?_
  refine V.iload_n (pc := 12) 2 hC dX4_work_12 rfl ?_
  refine V.lookup (pc := 13) 135 hC dX4_work_13 (by decide) rfl (by decide) ?_
  refine V.aload_n (pc := 135) 1 hC dX4_work_135 rfl ?_
  refine V.iconst (pc := 136) 0 hC dX4_work_136 (by decide) ?_
  refine V.aload_n (pc := 137) 1 hC dX4_work_137 rfl ?_
  refine V.get (pc := 138) (v := .int (ν 83 0)) hC cf_X4 5 3 fl_X4_28 (by decide) gx_5 rfl dX4_work_138 ?_
  refine V.eqi (y := 6) (h83) ?_
  refine V.iload_n (pc := 141) 3 hC dX4_work_141 rfl ?_
  refine V.iload_n (pc := 142) 4 hC dX4_work_142 rfl ?_
  refine V.callV0 (pc := 143) (as := [.int 0, .int 6, .int x, .int (nI q)]) hC (c_call_6_0_6 σ ν x q h82 h83 hTn (by omega)) mu_X4_call ml_X4_39 (by decide) ⟨5, 4, TX4, 6, _, rfl, gx_5⟩ rfl (Nat.le_of_ble_eq_true rfl) dX4_work_143 ?_
  rintro _ ⟨f143_0, i143_1⟩ ⟨rfl, hu143_0, hu143_1⟩
  have hu143_0 : (f143_0, i143_1) = bgs [70] (σ 80, σ 81 0) := hu143_0
  have hu143_1 : isN i143_1 30 := hu143_1
  show V X (wX k g a (va_up (va_up σ 80 f143_0) 81 (fun _ => i143_1)) ν) [(4, .int (-1)), (0, .ref (a 5)), (1, .int 11), (2, .int x), (3, .int (nI q))] [.int 9] 146
  refine V.iconst (pc := 146) 2 hC dX4_work_146 (by decide) ?_
  refine V.imul (pc := 147) hC dX4_work_147 ?_
  refine V.eqi (y := 18) (by decide) ?_
  exact hR 18 (f143_0, i143_1) _ _ dX4_work_148 rfl ⟨rfl, hu143_0, hu143_1⟩
set_option maxHeartbeats 4000000 in
set_option maxRecDepth 100000 in
theorem c_call_6_1_0 {l : Launch} {D : va_G} {k : Nat → ClassId} {g a : Nat → Nat} (σ ν : St) (x : Int32) (q : Nat) (h82 : ν 82 0 = 0) (h83 : ν 83 0 = 6) (hTn : isN (σ 81 0) 30) (hq : q + 2 ≤ 20) : Ct l D k g yX4_call cX4_call 6 (some .int) 3 73 [.ref (a 5), .int 1, .int 0, .int x, .int (nI q)] (S := Rw × Int32) (wX k g a σ ν) (fun uu => wX k g a (va_up (va_up σ 80 uu.1) 81 (fun _ => uu.2)) ν) (fun vv uu => vv = some (.int (9 * 2)) ∧ (uu.1, uu.2) = bgs [11, 70] (σ 80, σ 81 0) ∧ isN uu.2 30) := by
  refine Ct.ofI RX4 rfl (by decide +kernel) (Nat.le_of_ble_eq_true rfl) (fun X hC hR => ?_)
  have hTb := hTn.2
  show V X (wX k g a σ ν) [(0, .ref (a 5)), (1, .int 1), (2, .int 0), (3, .int x), (4, .int (nI q))] [] 0
  refine V.aload_n (pc := 0) 0 hC dX4_call_0 rfl ?_
  refine V.get (pc := 1) (v := .int (ν 82 0)) hC cf_X4 5 2 fl_X4_19 (by decide) gx_5 rfl dX4_call_1 ?_
  refine V.eqi (y := 0) (h82) ?_
  refine V.if_ne (pc := 4) 14 hC dX4_call_4 (by decide) (fun c_4 => ?_) (fun c_4 => ?_)
  · have nc_4 : ¬ (0 = 0) := fun z => c_4 ((neq (nl 0) (nl 0) (by omega) (by omega)).mpr z)
    exact absurd c_4 (by decide)
  · have nc_4 : 0 = 0 := (neq (nl 0) (nl 0) (by omega) (by omega)).mp c_4
    refine V.iload (pc := 7) 4 hC dX4_call_7 rfl ?_
    refine V.bipush (pc := 9) 20 hC dX4_call_9 (by decide) ?_
    refine V.icmp_le (pc := 11) 16 hC dX4_call_11 (by decide) (fun c_11 => ?_) (fun c_11 => ?_)
    · have nc_11 : q ≤ 20 := (nle rfl (nl 20) (by omega) (by omega)).mp c_11
      refine V.iload_n (pc := 16) 1 hC dX4_call_16 rfl ?_
      refine V.iload_n (pc := 17) 2 hC dX4_call_17 rfl ?_
      refine V.callS0 (pc := 18) (as := [.int 1, .int 0]) hC (c_find_1_0  ) ms_X4_find ml_X4_49 (by decide) rfl (Nat.le_of_ble_eq_true rfl) dX4_call_18 ?_
      rintro _ _ rfl
      show V X (wX k g a σ ν) [(0, .ref (a 5)), (1, .int 1), (2, .int 0), (3, .int x), (4, .int (nI q))] [.int 11] 21
      refine V.istore (pc := 21) [(5, .int 11), (0, .ref (a 5)), (1, .int 1), (2, .int 0), (3, .int x), (4, .int (nI q))] hC dX4_call_21 (by decide) rfl ?_
      refine V.aload_n (pc := 23) 1 hC dX4_call_23 rfl ?_
      refine V.get (pc := 24) (v := .int (σ 81 0)) hC cf_X4 5 1 fl_X4_15 (by decide) gx_5 rfl dX4_call_24 ?_
      refine V.bipush (pc := 27) 30 hC dX4_call_27 (by decide) ?_
      refine V.icmp_ge (pc := 29) 53 hC dX4_call_29 (by decide) (fun c_29 => ?_) (fun c_29 => ?_)
      · have nc_29 : 30 ≤ nN (σ 81 0) := (nle (nl 30) hTn.1 (by omega) (by omega)).mp c_29
        refine V.aload_n (pc := 53) 1 hC dX4_call_53 rfl ?_
        refine V.iload (pc := 54) 0 hC dX4_call_54 rfl ?_
        refine V.iload_n (pc := 56) 4 hC dX4_call_56 rfl ?_
        refine V.iload (pc := 57) 5 hC dX4_call_57 rfl ?_
        refine V.iconst (pc := 59) 1 hC dX4_call_59 (by decide) ?_
        refine V.iadd (pc := 60) hC dX4_call_60 ?_
        refine V.sts (st' := [.int (nI (q + 1)), .int x, .int 11, .ref (a 5)]) (stc (ncast (b := q + 1) (nadd rfl (nl 1)) (by omega)) (stk (stk (stk rfl)))) ?_
        refine V.callV0 (pc := 61) (as := [.int 11, .int x, .int (nI (q + 1))]) hC (c_work_6_11 σ ν x (q + 1) h82 h83 hTn (by omega)) mu_X4_work ml_X4_53 (by decide) ⟨5, 4, TX4, 6, _, rfl, gx_5⟩ rfl (Nat.le_of_ble_eq_true rfl) dX4_call_61 ?_
        rintro _ ⟨f61_0, i61_1⟩ ⟨rfl, hu61_0, hu61_1⟩
        have hu61_0 : (f61_0, i61_1) = bgs [70] (σ 80, σ 81 0) := hu61_0
        have hu61_1 : isN i61_1 30 := hu61_1
        show V X (wX k g a (va_up (va_up σ 80 f61_0) 81 (fun _ => i61_1)) ν) [(5, .int 11), (0, .ref (a 5)), (1, .int 1), (2, .int 0), (3, .int x), (4, .int (nI q))] [.int (9 * 2)] 64
        exact hR (9 * 2) (f61_0, i61_1) _ _ dX4_call_64 rfl ⟨rfl, by rw [hu61_0]; exact congrArg (bgs [70]) (show (σ 80, σ 81 0) = bgS 11 (σ 80, σ 81 0) from (if_neg (i_ge c_29)).symm), hu61_1⟩
      · have nc_29 : ¬ (30 ≤ nN (σ 81 0)) := fun z => c_29 ((nle (nl 30) hTn.1 (by omega) (by omega)).mpr z)
        refine V.aload_n (pc := 32) 1 hC dX4_call_32 rfl ?_
        refine V.get (pc := 33) (v := .ref (a 80)) hC cf_X4 5 0 fl_X4_9 (by decide) gx_5 rfl dX4_call_33 ?_
        refine V.aload_n (pc := 36) 1 hC dX4_call_36 rfl ?_
        refine V.get (pc := 37) (v := .int (σ 81 0)) hC cf_X4 5 1 fl_X4_15 (by decide) gx_5 rfl dX4_call_37 ?_
        refine V.iload (pc := 40) 0 hC dX4_call_40 rfl ?_
        refine V.iast (pc := 42) (f := σ 80) hC 46 (nN (σ 81 0)) (wX k g a (va_up σ 80 (upd (σ 80) (nN (σ 81 0)) 11)) ν) gx_46 hTn.1 (by omega) (by decide) rfl dX4_call_42 ?_
        refine V.aload_n (pc := 43) 1 hC dX4_call_43 rfl ?_
        refine V.dup (pc := 44) hC dX4_call_44 rfl ?_
        refine V.get (pc := 45) (v := .int (σ 81 0)) hC cf_X4 5 1 fl_X4_15 (by decide) gx_5 rfl dX4_call_45 ?_
        refine V.iconst (pc := 48) 1 hC dX4_call_48 (by decide) ?_
        refine V.iadd (pc := 49) hC dX4_call_49 ?_
        refine V.put (pc := 50) (v := .int ((σ 81 0) + 1)) hC cf_X4 5 1 (wX k g a (va_up (va_up σ 80 (upd (σ 80) (nN (σ 81 0)) 11)) 81 (fun _ => (σ 81 0) + 1)) ν) fl_X4_15 (by decide) gx_5 rfl rfl rfl (Nat.le_of_ble_eq_true rfl) rfl dX4_call_50 ?_
        refine V.aload_n (pc := 53) 1 hC dX4_call_53 rfl ?_
        refine V.iload (pc := 54) 0 hC dX4_call_54 rfl ?_
        refine V.iload_n (pc := 56) 4 hC dX4_call_56 rfl ?_
        refine V.iload (pc := 57) 5 hC dX4_call_57 rfl ?_
        refine V.iconst (pc := 59) 1 hC dX4_call_59 (by decide) ?_
        refine V.iadd (pc := 60) hC dX4_call_60 ?_
        refine V.sts (st' := [.int (nI (q + 1)), .int x, .int 11, .ref (a 5)]) (stc (ncast (b := q + 1) (nadd rfl (nl 1)) (by omega)) (stk (stk (stk rfl)))) ?_
        refine V.callV0 (pc := 61) (as := [.int 11, .int x, .int (nI (q + 1))]) hC (c_work_6_11 (va_up (va_up σ 80 (upd (σ 80) (nN (σ 81 0)) 11)) 81 (fun _ => (σ 81 0) + 1)) ν x (q + 1) h82 h83 (isN.mk (nadd hTn.1 (nl 1)) (by omega) (by omega)) (by omega)) mu_X4_work ml_X4_53 (by decide) ⟨5, 4, TX4, 6, _, rfl, gx_5⟩ rfl (Nat.le_of_ble_eq_true rfl) dX4_call_61 ?_
        rintro _ ⟨f61_0, i61_1⟩ ⟨rfl, hu61_0, hu61_1⟩
        have hu61_0 : (f61_0, i61_1) = bgs [70] ((upd (σ 80) (nN (σ 81 0)) 11), ((σ 81 0) + 1)) := hu61_0
        have hu61_1 : isN i61_1 30 := hu61_1
        show V X (wX k g a (va_up (va_up σ 80 f61_0) 81 (fun _ => i61_1)) ν) [(5, .int 11), (0, .ref (a 5)), (1, .int 1), (2, .int 0), (3, .int x), (4, .int (nI q))] [.int (9 * 2)] 64
        exact hR (9 * 2) (f61_0, i61_1) _ _ dX4_call_64 rfl ⟨rfl, by rw [hu61_0]; exact congrArg (bgs [70]) (show (upd (σ 80) (nN (σ 81 0)) 11, σ 81 0 + 1) = bgS 11 (σ 80, σ 81 0) from (if_pos (i_nle c_29)).symm), hu61_1⟩
    · have nc_11 : ¬ (q ≤ 20) := fun z => c_11 ((nle rfl (nl 20) (by omega) (by omega)).mpr z)
      exfalso; omega
set_option maxHeartbeats 4000000 in
set_option maxRecDepth 100000 in
theorem c_work_6_71 {l : Launch} {D : va_G} {k : Nat → ClassId} {g a : Nat → Nat} (σ ν : St) (x : Int32) (q : Nat) (h82 : ν 82 0 = 0) (h83 : ν 83 0 = 6) (hTn : isN (σ 81 0) 30) (hq : q + 2 ≤ 20) : Ct l D k g yX4_work cX4_work 5 (some .int) 4 98 [.ref (a 5), .int 71, .int x, .int (nI q)] (S := Rw × Int32) (wX k g a σ ν) (fun uu => wX k g a (va_up (va_up σ 80 uu.1) 81 (fun _ => uu.2)) ν) (fun vv uu => vv = some (.int ((9 * 2) + ν 84 0)) ∧ (uu.1, uu.2) = bgs [11, 70] (σ 80, σ 81 0) ∧ isN uu.2 30) := by
  refine Ct.ofI RX4 rfl (by decide +kernel) (Nat.le_of_ble_eq_true rfl) (fun X hC hR => ?_)
  show V X (wX k g a σ ν) [(0, .ref (a 5)), (1, .int 71), (2, .int x), (3, .int (nI q))] [] 0
  refine V.getAboveN (pc := 0) hC dX4_work_0 rfl ?_
  refine V.iload_n (pc := 3) 1 hC dX4_work_3 rfl ?_
  refine V.bipush (pc := 4) 10 hC dX4_work_4 (by decide) ?_
  refine V.idiv (pc := 6) hC dX4_work_6 (by decide) ?_
  refine V.eqi (y := 7) (by decide) ?_
  refine V.iconst (pc := 7) 1 hC dX4_work_7 (by decide) ?_
  refine V.isub (pc := 8) hC dX4_work_8 ?_
  refine V.eqi (y := 6) (by decide) ?_
  refine V.ldAbove (pc := 9) hC 6 0 (nl 6) (by decide) rfl dX4_work_9 ?_
  refine V.istore (pc := 10) [(4, .int 0), (0, .ref (a 5)), (1, .int 71), (2, .int x), (3, .int (nI q))] hC dX4_work_10 (by decide) rfl ?_
  refine V.iload_n (pc := 12) 2 hC dX4_work_12 rfl ?_
  refine V.lookup (pc := 13) 271 hC dX4_work_13 (by decide) rfl (by decide) ?_
  refine V.aload_n (pc := 271) 1 hC dX4_work_271 rfl ?_
  refine V.iconst (pc := 272) 1 hC dX4_work_272 (by decide) ?_
  refine V.iload (pc := 273) 0 hC dX4_work_273 rfl ?_
  refine V.iload_n (pc := 275) 3 hC dX4_work_275 rfl ?_
  refine V.iload_n (pc := 276) 4 hC dX4_work_276 rfl ?_
  refine V.callV0 (pc := 277) (as := [.int 1, .int 0, .int x, .int (nI q)]) hC (c_call_6_1_0 σ ν x q h82 h83 hTn (by omega)) mu_X4_call ml_X4_39 (by decide) ⟨5, 4, TX4, 6, _, rfl, gx_5⟩ rfl (Nat.le_of_ble_eq_true rfl) dX4_work_277 ?_
  rintro _ ⟨f277_0, i277_1⟩ ⟨rfl, hu277_0, hu277_1⟩
  have hu277_0 : (f277_0, i277_1) = bgs [11, 70] (σ 80, σ 81 0) := hu277_0
  have hu277_1 : isN i277_1 30 := hu277_1
  show V X (wX k g a (va_up (va_up σ 80 f277_0) 81 (fun _ => i277_1)) ν) [(4, .int 0), (0, .ref (a 5)), (1, .int 71), (2, .int x), (3, .int (nI q))] [.int (9 * 2)] 280
  refine V.aload_n (pc := 280) 1 hC dX4_work_280 rfl ?_
  refine V.get (pc := 281) (v := .int (ν 84 0)) hC cf_X4 5 4 fl_X4_33 (by decide) gx_5 rfl dX4_work_281 ?_
  refine V.iadd (pc := 284) hC dX4_work_284 ?_
  exact hR ((9 * 2) + (ν 84 0)) (f277_0, i277_1) _ _ dX4_work_285 rfl ⟨rfl, hu277_0, hu277_1⟩
set_option maxHeartbeats 4000000 in
set_option maxRecDepth 100000 in
theorem c_call_6_1_6 {l : Launch} {D : va_G} {k : Nat → ClassId} {g a : Nat → Nat} (σ ν : St) (x : Int32) (q : Nat) (h82 : ν 82 0 = 0) (h83 : ν 83 0 = 6) (hTn : isN (σ 81 0) 30) (hq : q + 3 ≤ 20) : Ct l D k g yX4_call cX4_call 6 (some .int) 5 122 [.ref (a 5), .int 1, .int 6, .int x, .int (nI q)] (S := Rw × Int32) (wX k g a σ ν) (fun uu => wX k g a (va_up (va_up σ 80 uu.1) 81 (fun _ => uu.2)) ν) (fun vv uu => vv = some (.int ((9 * 2) + ν 84 0)) ∧ (uu.1, uu.2) = bgs [71, 11, 70] (σ 80, σ 81 0) ∧ isN uu.2 30) := by
  refine Ct.ofI RX4 rfl (by decide +kernel) (Nat.le_of_ble_eq_true rfl) (fun X hC hR => ?_)
  have hTb := hTn.2
  show V X (wX k g a σ ν) [(0, .ref (a 5)), (1, .int 1), (2, .int 6), (3, .int x), (4, .int (nI q))] [] 0
  refine V.aload_n (pc := 0) 0 hC dX4_call_0 rfl ?_
  refine V.get (pc := 1) (v := .int (ν 82 0)) hC cf_X4 5 2 fl_X4_19 (by decide) gx_5 rfl dX4_call_1 ?_
  refine V.eqi (y := 0) (h82) ?_
  refine V.if_ne (pc := 4) 14 hC dX4_call_4 (by decide) (fun c_4 => ?_) (fun c_4 => ?_)
  · have nc_4 : ¬ (0 = 0) := fun z => c_4 ((neq (nl 0) (nl 0) (by omega) (by omega)).mpr z)
    exact absurd c_4 (by decide)
  · have nc_4 : 0 = 0 := (neq (nl 0) (nl 0) (by omega) (by omega)).mp c_4
    refine V.iload (pc := 7) 4 hC dX4_call_7 rfl ?_
    refine V.bipush (pc := 9) 20 hC dX4_call_9 (by decide) ?_
    refine V.icmp_le (pc := 11) 16 hC dX4_call_11 (by decide) (fun c_11 => ?_) (fun c_11 => ?_)
    · have nc_11 : q ≤ 20 := (nle rfl (nl 20) (by omega) (by omega)).mp c_11
      refine V.iload_n (pc := 16) 1 hC dX4_call_16 rfl ?_
      refine V.iload_n (pc := 17) 2 hC dX4_call_17 rfl ?_
      refine V.callS0 (pc := 18) (as := [.int 1, .int 6]) hC (c_find_1_6  ) ms_X4_find ml_X4_49 (by decide) rfl (Nat.le_of_ble_eq_true rfl) dX4_call_18 ?_
      rintro _ _ rfl
      show V X (wX k g a σ ν) [(0, .ref (a 5)), (1, .int 1), (2, .int 6), (3, .int x), (4, .int (nI q))] [.int 71] 21
      refine V.istore (pc := 21) [(5, .int 71), (0, .ref (a 5)), (1, .int 1), (2, .int 6), (3, .int x), (4, .int (nI q))] hC dX4_call_21 (by decide) rfl ?_
      refine V.aload_n (pc := 23) 1 hC dX4_call_23 rfl ?_
      refine V.get (pc := 24) (v := .int (σ 81 0)) hC cf_X4 5 1 fl_X4_15 (by decide) gx_5 rfl dX4_call_24 ?_
      refine V.bipush (pc := 27) 30 hC dX4_call_27 (by decide) ?_
      refine V.icmp_ge (pc := 29) 53 hC dX4_call_29 (by decide) (fun c_29 => ?_) (fun c_29 => ?_)
      · have nc_29 : 30 ≤ nN (σ 81 0) := (nle (nl 30) hTn.1 (by omega) (by omega)).mp c_29
        refine V.aload_n (pc := 53) 1 hC dX4_call_53 rfl ?_
        refine V.iload (pc := 54) 0 hC dX4_call_54 rfl ?_
        refine V.iload_n (pc := 56) 4 hC dX4_call_56 rfl ?_
        refine V.iload (pc := 57) 5 hC dX4_call_57 rfl ?_
        refine V.iconst (pc := 59) 1 hC dX4_call_59 (by decide) ?_
        refine V.iadd (pc := 60) hC dX4_call_60 ?_
        refine V.sts (st' := [.int (nI (q + 1)), .int x, .int 71, .ref (a 5)]) (stc (ncast (b := q + 1) (nadd rfl (nl 1)) (by omega)) (stk (stk (stk rfl)))) ?_
        refine V.callV0 (pc := 61) (as := [.int 71, .int x, .int (nI (q + 1))]) hC (c_work_6_71 σ ν x (q + 1) h82 h83 hTn (by omega)) mu_X4_work ml_X4_53 (by decide) ⟨5, 4, TX4, 6, _, rfl, gx_5⟩ rfl (Nat.le_of_ble_eq_true rfl) dX4_call_61 ?_
        rintro _ ⟨f61_0, i61_1⟩ ⟨rfl, hu61_0, hu61_1⟩
        have hu61_0 : (f61_0, i61_1) = bgs [11, 70] (σ 80, σ 81 0) := hu61_0
        have hu61_1 : isN i61_1 30 := hu61_1
        show V X (wX k g a (va_up (va_up σ 80 f61_0) 81 (fun _ => i61_1)) ν) [(5, .int 71), (0, .ref (a 5)), (1, .int 1), (2, .int 6), (3, .int x), (4, .int (nI q))] [.int ((9 * 2) + ν 84 0)] 64
        exact hR ((9 * 2) + ν 84 0) (f61_0, i61_1) _ _ dX4_call_64 rfl ⟨rfl, by rw [hu61_0]; exact congrArg (bgs [11, 70]) (show (σ 80, σ 81 0) = bgS 71 (σ 80, σ 81 0) from (if_neg (i_ge c_29)).symm), hu61_1⟩
      · have nc_29 : ¬ (30 ≤ nN (σ 81 0)) := fun z => c_29 ((nle (nl 30) hTn.1 (by omega) (by omega)).mpr z)
        refine V.aload_n (pc := 32) 1 hC dX4_call_32 rfl ?_
        refine V.get (pc := 33) (v := .ref (a 80)) hC cf_X4 5 0 fl_X4_9 (by decide) gx_5 rfl dX4_call_33 ?_
        refine V.aload_n (pc := 36) 1 hC dX4_call_36 rfl ?_
        refine V.get (pc := 37) (v := .int (σ 81 0)) hC cf_X4 5 1 fl_X4_15 (by decide) gx_5 rfl dX4_call_37 ?_
        refine V.iload (pc := 40) 0 hC dX4_call_40 rfl ?_
        refine V.iast (pc := 42) (f := σ 80) hC 46 (nN (σ 81 0)) (wX k g a (va_up σ 80 (upd (σ 80) (nN (σ 81 0)) 71)) ν) gx_46 hTn.1 (by omega) (by decide) rfl dX4_call_42 ?_
        refine V.aload_n (pc := 43) 1 hC dX4_call_43 rfl ?_
        refine V.dup (pc := 44) hC dX4_call_44 rfl ?_
        refine V.get (pc := 45) (v := .int (σ 81 0)) hC cf_X4 5 1 fl_X4_15 (by decide) gx_5 rfl dX4_call_45 ?_
        refine V.iconst (pc := 48) 1 hC dX4_call_48 (by decide) ?_
        refine V.iadd (pc := 49) hC dX4_call_49 ?_
        refine V.put (pc := 50) (v := .int ((σ 81 0) + 1)) hC cf_X4 5 1 (wX k g a (va_up (va_up σ 80 (upd (σ 80) (nN (σ 81 0)) 71)) 81 (fun _ => (σ 81 0) + 1)) ν) fl_X4_15 (by decide) gx_5 rfl rfl rfl (Nat.le_of_ble_eq_true rfl) rfl dX4_call_50 ?_
        refine V.aload_n (pc := 53) 1 hC dX4_call_53 rfl ?_
        refine V.iload (pc := 54) 0 hC dX4_call_54 rfl ?_
        refine V.iload_n (pc := 56) 4 hC dX4_call_56 rfl ?_
        refine V.iload (pc := 57) 5 hC dX4_call_57 rfl ?_
        refine V.iconst (pc := 59) 1 hC dX4_call_59 (by decide) ?_
        refine V.iadd (pc := 60) hC dX4_call_60 ?_
        refine V.sts (st' := [.int (nI (q + 1)), .int x, .int 71, .ref (a 5)]) (stc (ncast (b := q + 1) (nadd rfl (nl 1)) (by omega)) (stk (stk (stk rfl)))) ?_
        refine V.callV0 (pc := 61) (as := [.int 71, .int x, .int (nI (q + 1))]) hC (c_work_6_71 (va_up (va_up σ 80 (upd (σ 80) (nN (σ 81 0)) 71)) 81 (fun _ => (σ 81 0) + 1)) ν x (q + 1) h82 h83 (isN.mk (nadd hTn.1 (nl 1)) (by omega) (by omega)) (by omega)) mu_X4_work ml_X4_53 (by decide) ⟨5, 4, TX4, 6, _, rfl, gx_5⟩ rfl (Nat.le_of_ble_eq_true rfl) dX4_call_61 ?_
        rintro _ ⟨f61_0, i61_1⟩ ⟨rfl, hu61_0, hu61_1⟩
        have hu61_0 : (f61_0, i61_1) = bgs [11, 70] ((upd (σ 80) (nN (σ 81 0)) 71), ((σ 81 0) + 1)) := hu61_0
        have hu61_1 : isN i61_1 30 := hu61_1
        show V X (wX k g a (va_up (va_up σ 80 f61_0) 81 (fun _ => i61_1)) ν) [(5, .int 71), (0, .ref (a 5)), (1, .int 1), (2, .int 6), (3, .int x), (4, .int (nI q))] [.int ((9 * 2) + ν 84 0)] 64
        exact hR ((9 * 2) + ν 84 0) (f61_0, i61_1) _ _ dX4_call_64 rfl ⟨rfl, by rw [hu61_0]; exact congrArg (bgs [11, 70]) (show (upd (σ 80) (nN (σ 81 0)) 71, σ 81 0 + 1) = bgS 71 (σ 80, σ 81 0) from (if_pos (i_nle c_29)).symm), hu61_1⟩
    · have nc_11 : ¬ (q ≤ 20) := fun z => c_11 ((nle rfl (nl 20) (by omega) (by omega)).mpr z)
      exfalso; omega
set_option maxHeartbeats 4000000 in
set_option maxRecDepth 100000 in
theorem c_work_6_12 {l : Launch} {D : va_G} {k : Nat → ClassId} {g a : Nat → Nat} (σ ν : St) (x : Int32) (q : Nat) (h82 : ν 82 0 = 0) (h83 : ν 83 0 = 6) (hTn : isN (σ 81 0) 30) (hq : q + 3 ≤ 20) : Ct l D k g yX4_work cX4_work 5 (some .int) 6 147 [.ref (a 5), .int 12, .int x, .int (nI q)] (S := Rw × Int32) (wX k g a σ ν) (fun uu => wX k g a (va_up (va_up σ 80 uu.1) 81 (fun _ => uu.2)) ν) (fun vv uu => vv = some (.int (((9 * 2) + ν 84 0) - ν 84 0)) ∧ (uu.1, uu.2) = bgs [71, 11, 70] (σ 80, σ 81 0) ∧ isN uu.2 30) := by
  refine Ct.ofI RX4 rfl (by decide +kernel) (Nat.le_of_ble_eq_true rfl) (fun X hC hR => ?_)
  show V X (wX k g a σ ν) [(0, .ref (a 5)), (1, .int 12), (2, .int x), (3, .int (nI q))] [] 0
  refine V.getAboveN (pc := 0) hC dX4_work_0 rfl ?_
  refine V.iload_n (pc := 3) 1 hC dX4_work_3 rfl ?_
  refine V.bipush (pc := 4) 10 hC dX4_work_4 (by decide) ?_
  refine V.idiv (pc := 6) hC dX4_work_6 (by decide) ?_
  refine V.eqi (y := 1) (by decide) ?_
  refine V.iconst (pc := 7) 1 hC dX4_work_7 (by decide) ?_
  refine V.isub (pc := 8) hC dX4_work_8 ?_
  refine V.eqi (y := 0) (by decide) ?_
  refine V.ldAbove (pc := 9) hC 0 (-1) (nl 0) (by decide) rfl dX4_work_9 ?_
  refine V.istore (pc := 10) [(4, .int (-1)), (0, .ref (a 5)), (1, .int 12), (2, .int x), (3, .int (nI q))] hC dX4_work_10 (by decide) rfl ?_
  refine V.iload_n (pc := 12) 2 hC dX4_work_12 rfl ?_
  refine V.lookup (pc := 13) 149 hC dX4_work_13 (by decide) rfl (by decide) ?_
  refine V.aload_n (pc := 149) 1 hC dX4_work_149 rfl ?_
  refine V.iconst (pc := 150) 1 hC dX4_work_150 (by decide) ?_
  refine V.aload_n (pc := 151) 1 hC dX4_work_151 rfl ?_
  refine V.get (pc := 152) (v := .int (ν 83 0)) hC cf_X4 5 3 fl_X4_28 (by decide) gx_5 rfl dX4_work_152 ?_
  refine V.eqi (y := 6) (h83) ?_
  refine V.iload_n (pc := 155) 3 hC dX4_work_155 rfl ?_
  refine V.iload_n (pc := 156) 4 hC dX4_work_156 rfl ?_
  refine V.callV0 (pc := 157) (as := [.int 1, .int 6, .int x, .int (nI q)]) hC (c_call_6_1_6 σ ν x q h82 h83 hTn (by omega)) mu_X4_call ml_X4_39 (by decide) ⟨5, 4, TX4, 6, _, rfl, gx_5⟩ rfl (Nat.le_of_ble_eq_true rfl) dX4_work_157 ?_
  rintro _ ⟨f157_0, i157_1⟩ ⟨rfl, hu157_0, hu157_1⟩
  have hu157_0 : (f157_0, i157_1) = bgs [71, 11, 70] (σ 80, σ 81 0) := hu157_0
  have hu157_1 : isN i157_1 30 := hu157_1
  show V X (wX k g a (va_up (va_up σ 80 f157_0) 81 (fun _ => i157_1)) ν) [(4, .int (-1)), (0, .ref (a 5)), (1, .int 12), (2, .int x), (3, .int (nI q))] [.int ((9 * 2) + ν 84 0)] 160
  refine V.aload_n (pc := 160) 1 hC dX4_work_160 rfl ?_
  refine V.get (pc := 161) (v := .int (ν 84 0)) hC cf_X4 5 4 fl_X4_33 (by decide) gx_5 rfl dX4_work_161 ?_
  refine V.isub (pc := 164) hC dX4_work_164 ?_
  exact hR (((9 * 2) + ν 84 0) - (ν 84 0)) (f157_0, i157_1) _ _ dX4_work_165 rfl ⟨rfl, hu157_0, hu157_1⟩
set_option maxHeartbeats 4000000 in
set_option maxRecDepth 100000 in
theorem c_call_6_2_6 {l : Launch} {D : va_G} {k : Nat → ClassId} {g a : Nat → Nat} (σ ν : St) (x : Int32) (q : Nat) (h82 : ν 82 0 = 0) (h83 : ν 83 0 = 6) (hTn : isN (σ 81 0) 30) (hq : q + 4 ≤ 20) : Ct l D k g yX4_call cX4_call 6 (some .int) 7 171 [.ref (a 5), .int 2, .int 6, .int x, .int (nI q)] (S := Rw × Int32) (wX k g a σ ν) (fun uu => wX k g a (va_up (va_up σ 80 uu.1) 81 (fun _ => uu.2)) ν) (fun vv uu => vv = some (.int (((9 * 2) + ν 84 0) - ν 84 0)) ∧ (uu.1, uu.2) = bgs [12, 71, 11, 70] (σ 80, σ 81 0) ∧ isN uu.2 30) := by
  refine Ct.ofI RX4 rfl (by decide +kernel) (Nat.le_of_ble_eq_true rfl) (fun X hC hR => ?_)
  have hTb := hTn.2
  show V X (wX k g a σ ν) [(0, .ref (a 5)), (1, .int 2), (2, .int 6), (3, .int x), (4, .int (nI q))] [] 0
  refine V.aload_n (pc := 0) 0 hC dX4_call_0 rfl ?_
  refine V.get (pc := 1) (v := .int (ν 82 0)) hC cf_X4 5 2 fl_X4_19 (by decide) gx_5 rfl dX4_call_1 ?_
  refine V.eqi (y := 0) (h82) ?_
  refine V.if_ne (pc := 4) 14 hC dX4_call_4 (by decide) (fun c_4 => ?_) (fun c_4 => ?_)
  · have nc_4 : ¬ (0 = 0) := fun z => c_4 ((neq (nl 0) (nl 0) (by omega) (by omega)).mpr z)
    exact absurd c_4 (by decide)
  · have nc_4 : 0 = 0 := (neq (nl 0) (nl 0) (by omega) (by omega)).mp c_4
    refine V.iload (pc := 7) 4 hC dX4_call_7 rfl ?_
    refine V.bipush (pc := 9) 20 hC dX4_call_9 (by decide) ?_
    refine V.icmp_le (pc := 11) 16 hC dX4_call_11 (by decide) (fun c_11 => ?_) (fun c_11 => ?_)
    · have nc_11 : q ≤ 20 := (nle rfl (nl 20) (by omega) (by omega)).mp c_11
      refine V.iload_n (pc := 16) 1 hC dX4_call_16 rfl ?_
      refine V.iload_n (pc := 17) 2 hC dX4_call_17 rfl ?_
      refine V.callS0 (pc := 18) (as := [.int 2, .int 6]) hC (c_find_2_6  ) ms_X4_find ml_X4_49 (by decide) rfl (Nat.le_of_ble_eq_true rfl) dX4_call_18 ?_
      rintro _ _ rfl
      show V X (wX k g a σ ν) [(0, .ref (a 5)), (1, .int 2), (2, .int 6), (3, .int x), (4, .int (nI q))] [.int 12] 21
      refine V.istore (pc := 21) [(5, .int 12), (0, .ref (a 5)), (1, .int 2), (2, .int 6), (3, .int x), (4, .int (nI q))] hC dX4_call_21 (by decide) rfl ?_
      refine V.aload_n (pc := 23) 1 hC dX4_call_23 rfl ?_
      refine V.get (pc := 24) (v := .int (σ 81 0)) hC cf_X4 5 1 fl_X4_15 (by decide) gx_5 rfl dX4_call_24 ?_
      refine V.bipush (pc := 27) 30 hC dX4_call_27 (by decide) ?_
      refine V.icmp_ge (pc := 29) 53 hC dX4_call_29 (by decide) (fun c_29 => ?_) (fun c_29 => ?_)
      · have nc_29 : 30 ≤ nN (σ 81 0) := (nle (nl 30) hTn.1 (by omega) (by omega)).mp c_29
        refine V.aload_n (pc := 53) 1 hC dX4_call_53 rfl ?_
        refine V.iload (pc := 54) 0 hC dX4_call_54 rfl ?_
        refine V.iload_n (pc := 56) 4 hC dX4_call_56 rfl ?_
        refine V.iload (pc := 57) 5 hC dX4_call_57 rfl ?_
        refine V.iconst (pc := 59) 1 hC dX4_call_59 (by decide) ?_
        refine V.iadd (pc := 60) hC dX4_call_60 ?_
        refine V.sts (st' := [.int (nI (q + 1)), .int x, .int 12, .ref (a 5)]) (stc (ncast (b := q + 1) (nadd rfl (nl 1)) (by omega)) (stk (stk (stk rfl)))) ?_
        refine V.callV0 (pc := 61) (as := [.int 12, .int x, .int (nI (q + 1))]) hC (c_work_6_12 σ ν x (q + 1) h82 h83 hTn (by omega)) mu_X4_work ml_X4_53 (by decide) ⟨5, 4, TX4, 6, _, rfl, gx_5⟩ rfl (Nat.le_of_ble_eq_true rfl) dX4_call_61 ?_
        rintro _ ⟨f61_0, i61_1⟩ ⟨rfl, hu61_0, hu61_1⟩
        have hu61_0 : (f61_0, i61_1) = bgs [71, 11, 70] (σ 80, σ 81 0) := hu61_0
        have hu61_1 : isN i61_1 30 := hu61_1
        show V X (wX k g a (va_up (va_up σ 80 f61_0) 81 (fun _ => i61_1)) ν) [(5, .int 12), (0, .ref (a 5)), (1, .int 2), (2, .int 6), (3, .int x), (4, .int (nI q))] [.int (((9 * 2) + ν 84 0) - ν 84 0)] 64
        exact hR (((9 * 2) + ν 84 0) - ν 84 0) (f61_0, i61_1) _ _ dX4_call_64 rfl ⟨rfl, by rw [hu61_0]; exact congrArg (bgs [71, 11, 70]) (show (σ 80, σ 81 0) = bgS 12 (σ 80, σ 81 0) from (if_neg (i_ge c_29)).symm), hu61_1⟩
      · have nc_29 : ¬ (30 ≤ nN (σ 81 0)) := fun z => c_29 ((nle (nl 30) hTn.1 (by omega) (by omega)).mpr z)
        refine V.aload_n (pc := 32) 1 hC dX4_call_32 rfl ?_
        refine V.get (pc := 33) (v := .ref (a 80)) hC cf_X4 5 0 fl_X4_9 (by decide) gx_5 rfl dX4_call_33 ?_
        refine V.aload_n (pc := 36) 1 hC dX4_call_36 rfl ?_
        refine V.get (pc := 37) (v := .int (σ 81 0)) hC cf_X4 5 1 fl_X4_15 (by decide) gx_5 rfl dX4_call_37 ?_
        refine V.iload (pc := 40) 0 hC dX4_call_40 rfl ?_
        refine V.iast (pc := 42) (f := σ 80) hC 46 (nN (σ 81 0)) (wX k g a (va_up σ 80 (upd (σ 80) (nN (σ 81 0)) 12)) ν) gx_46 hTn.1 (by omega) (by decide) rfl dX4_call_42 ?_
        refine V.aload_n (pc := 43) 1 hC dX4_call_43 rfl ?_
        refine V.dup (pc := 44) hC dX4_call_44 rfl ?_
        refine V.get (pc := 45) (v := .int (σ 81 0)) hC cf_X4 5 1 fl_X4_15 (by decide) gx_5 rfl dX4_call_45 ?_
        refine V.iconst (pc := 48) 1 hC dX4_call_48 (by decide) ?_
        refine V.iadd (pc := 49) hC dX4_call_49 ?_
        refine V.put (pc := 50) (v := .int ((σ 81 0) + 1)) hC cf_X4 5 1 (wX k g a (va_up (va_up σ 80 (upd (σ 80) (nN (σ 81 0)) 12)) 81 (fun _ => (σ 81 0) + 1)) ν) fl_X4_15 (by decide) gx_5 rfl rfl rfl (Nat.le_of_ble_eq_true rfl) rfl dX4_call_50 ?_
        refine V.aload_n (pc := 53) 1 hC dX4_call_53 rfl ?_
        refine V.iload (pc := 54) 0 hC dX4_call_54 rfl ?_
        refine V.iload_n (pc := 56) 4 hC dX4_call_56 rfl ?_
        refine V.iload (pc := 57) 5 hC dX4_call_57 rfl ?_
        refine V.iconst (pc := 59) 1 hC dX4_call_59 (by decide) ?_
        refine V.iadd (pc := 60) hC dX4_call_60 ?_
        refine V.sts (st' := [.int (nI (q + 1)), .int x, .int 12, .ref (a 5)]) (stc (ncast (b := q + 1) (nadd rfl (nl 1)) (by omega)) (stk (stk (stk rfl)))) ?_
        refine V.callV0 (pc := 61) (as := [.int 12, .int x, .int (nI (q + 1))]) hC (c_work_6_12 (va_up (va_up σ 80 (upd (σ 80) (nN (σ 81 0)) 12)) 81 (fun _ => (σ 81 0) + 1)) ν x (q + 1) h82 h83 (isN.mk (nadd hTn.1 (nl 1)) (by omega) (by omega)) (by omega)) mu_X4_work ml_X4_53 (by decide) ⟨5, 4, TX4, 6, _, rfl, gx_5⟩ rfl (Nat.le_of_ble_eq_true rfl) dX4_call_61 ?_
        rintro _ ⟨f61_0, i61_1⟩ ⟨rfl, hu61_0, hu61_1⟩
        have hu61_0 : (f61_0, i61_1) = bgs [71, 11, 70] ((upd (σ 80) (nN (σ 81 0)) 12), ((σ 81 0) + 1)) := hu61_0
        have hu61_1 : isN i61_1 30 := hu61_1
        show V X (wX k g a (va_up (va_up σ 80 f61_0) 81 (fun _ => i61_1)) ν) [(5, .int 12), (0, .ref (a 5)), (1, .int 2), (2, .int 6), (3, .int x), (4, .int (nI q))] [.int (((9 * 2) + ν 84 0) - ν 84 0)] 64
        exact hR (((9 * 2) + ν 84 0) - ν 84 0) (f61_0, i61_1) _ _ dX4_call_64 rfl ⟨rfl, by rw [hu61_0]; exact congrArg (bgs [71, 11, 70]) (show (upd (σ 80) (nN (σ 81 0)) 12, σ 81 0 + 1) = bgS 12 (σ 80, σ 81 0) from (if_pos (i_nle c_29)).symm), hu61_1⟩
    · have nc_11 : ¬ (q ≤ 20) := fun z => c_11 ((nle rfl (nl 20) (by omega) (by omega)).mpr z)
      exfalso; omega
set_option maxHeartbeats 4000000 in
set_option maxRecDepth 100000 in
theorem c_work_6_13 {l : Launch} {D : va_G} {k : Nat → ClassId} {g a : Nat → Nat} (σ ν : St) (x : Int32) (q : Nat) (h82 : ν 82 0 = 0) (h83 : ν 83 0 = 6) (hTn : isN (σ 81 0) 30) (hq : q + 0 ≤ 20) : Ct l D k g yX4_work cX4_work 5 (some .int) 1 21 [.ref (a 5), .int 13, .int x, .int (nI q)] (S := Rw × Int32 × Int32) (wX k g a σ ν) (fun uu => wX k g a (va_up (va_up σ 80 uu.1) 81 (fun _ => uu.2.1)) (va_up ν 82 (fun _ => uu.2.2))) (fun vv uu => vv = some (.int (if ν 84 0 - ν 85 0 = 0 then 0 else x / (ν 84 0 - ν 85 0))) ∧ (uu.1, uu.2.1) = bgs [] (σ 80, σ 81 0) ∧ isN uu.2.1 30 ∧ uu.2.2 = bI (ν 84 0 - ν 85 0 = 0)) := by
  refine Ct.ofI RX4 rfl (by decide +kernel) (Nat.le_of_ble_eq_true rfl) (fun X hC hR => ?_)
  show V X (wX k g a σ ν) [(0, .ref (a 5)), (1, .int 13), (2, .int x), (3, .int (nI q))] [] 0
  refine V.getAboveN (pc := 0) hC dX4_work_0 rfl ?_
  refine V.iload_n (pc := 3) 1 hC dX4_work_3 rfl ?_
  refine V.bipush (pc := 4) 10 hC dX4_work_4 (by decide) ?_
  refine V.idiv (pc := 6) hC dX4_work_6 (by decide) ?_
  refine V.eqi (y := 1) (by decide) ?_
  refine V.iconst (pc := 7) 1 hC dX4_work_7 (by decide) ?_
  refine V.isub (pc := 8) hC dX4_work_8 ?_
  refine V.eqi (y := 0) (by decide) ?_
  refine V.ldAbove (pc := 9) hC 0 (-1) (nl 0) (by decide) rfl dX4_work_9 ?_
  refine V.istore (pc := 10) [(4, .int (-1)), (0, .ref (a 5)), (1, .int 13), (2, .int x), (3, .int (nI q))] hC dX4_work_10 (by decide) rfl ?_
  refine V.iload_n (pc := 12) 2 hC dX4_work_12 rfl ?_
  refine V.lookup (pc := 13) 166 hC dX4_work_13 (by decide) rfl (by decide) ?_
  refine V.aload_n (pc := 166) 1 hC dX4_work_166 rfl ?_
  refine V.iload_n (pc := 167) 3 hC dX4_work_167 rfl ?_
  refine V.callV0 (pc := 168) (as := [.int x]) hC (c_X4_part σ ν x h82) mu_X4_part ml_X4_57 (by decide) ⟨5, 4, TX4, 6, _, rfl, gx_5⟩ rfl (Nat.le_of_ble_eq_true rfl) dX4_work_168 ?_
  rintro _ i168_0 ⟨rfl, hu168_0⟩
  have hu168_0 : i168_0 = bI (ν 84 0 - ν 85 0 = 0) := hu168_0
  show V X (wX k g a σ (va_up ν 82 (fun _ => i168_0))) [(4, .int (-1)), (0, .ref (a 5)), (1, .int 13), (2, .int x), (3, .int (nI q))] [.int (if ν 84 0 - ν 85 0 = 0 then 0 else x / (ν 84 0 - ν 85 0))] 171
  exact hR (if ν 84 0 - ν 85 0 = 0 then 0 else x / (ν 84 0 - ν 85 0)) (σ 80, σ 81 0, i168_0) _ _ dX4_work_171 rfl ⟨rfl, rfl, hTn, hu168_0⟩
set_option maxHeartbeats 4000000 in
set_option maxRecDepth 100000 in
theorem c_call_6_3_6 {l : Launch} {D : va_G} {k : Nat → ClassId} {g a : Nat → Nat} (σ ν : St) (x : Int32) (q : Nat) (h82 : ν 82 0 = 0) (h83 : ν 83 0 = 6) (hTn : isN (σ 81 0) 30) (hq : q + 1 ≤ 20) : Ct l D k g yX4_call cX4_call 6 (some .int) 2 45 [.ref (a 5), .int 3, .int 6, .int x, .int (nI q)] (S := Rw × Int32 × Int32) (wX k g a σ ν) (fun uu => wX k g a (va_up (va_up σ 80 uu.1) 81 (fun _ => uu.2.1)) (va_up ν 82 (fun _ => uu.2.2))) (fun vv uu => vv = some (.int (if ν 84 0 - ν 85 0 = 0 then 0 else x / (ν 84 0 - ν 85 0))) ∧ (uu.1, uu.2.1) = bgs [13] (σ 80, σ 81 0) ∧ isN uu.2.1 30 ∧ uu.2.2 = bI (ν 84 0 - ν 85 0 = 0)) := by
  refine Ct.ofI RX4 rfl (by decide +kernel) (Nat.le_of_ble_eq_true rfl) (fun X hC hR => ?_)
  have hTb := hTn.2
  show V X (wX k g a σ ν) [(0, .ref (a 5)), (1, .int 3), (2, .int 6), (3, .int x), (4, .int (nI q))] [] 0
  refine V.aload_n (pc := 0) 0 hC dX4_call_0 rfl ?_
  refine V.get (pc := 1) (v := .int (ν 82 0)) hC cf_X4 5 2 fl_X4_19 (by decide) gx_5 rfl dX4_call_1 ?_
  refine V.eqi (y := 0) (h82) ?_
  refine V.if_ne (pc := 4) 14 hC dX4_call_4 (by decide) (fun c_4 => ?_) (fun c_4 => ?_)
  · have nc_4 : ¬ (0 = 0) := fun z => c_4 ((neq (nl 0) (nl 0) (by omega) (by omega)).mpr z)
    exact absurd c_4 (by decide)
  · have nc_4 : 0 = 0 := (neq (nl 0) (nl 0) (by omega) (by omega)).mp c_4
    refine V.iload (pc := 7) 4 hC dX4_call_7 rfl ?_
    refine V.bipush (pc := 9) 20 hC dX4_call_9 (by decide) ?_
    refine V.icmp_le (pc := 11) 16 hC dX4_call_11 (by decide) (fun c_11 => ?_) (fun c_11 => ?_)
    · have nc_11 : q ≤ 20 := (nle rfl (nl 20) (by omega) (by omega)).mp c_11
      refine V.iload_n (pc := 16) 1 hC dX4_call_16 rfl ?_
      refine V.iload_n (pc := 17) 2 hC dX4_call_17 rfl ?_
      refine V.callS0 (pc := 18) (as := [.int 3, .int 6]) hC (c_find_3_6  ) ms_X4_find ml_X4_49 (by decide) rfl (Nat.le_of_ble_eq_true rfl) dX4_call_18 ?_
      rintro _ _ rfl
      show V X (wX k g a σ ν) [(0, .ref (a 5)), (1, .int 3), (2, .int 6), (3, .int x), (4, .int (nI q))] [.int 13] 21
      refine V.istore (pc := 21) [(5, .int 13), (0, .ref (a 5)), (1, .int 3), (2, .int 6), (3, .int x), (4, .int (nI q))] hC dX4_call_21 (by decide) rfl ?_
      refine V.aload_n (pc := 23) 1 hC dX4_call_23 rfl ?_
      refine V.get (pc := 24) (v := .int (σ 81 0)) hC cf_X4 5 1 fl_X4_15 (by decide) gx_5 rfl dX4_call_24 ?_
      refine V.bipush (pc := 27) 30 hC dX4_call_27 (by decide) ?_
      refine V.icmp_ge (pc := 29) 53 hC dX4_call_29 (by decide) (fun c_29 => ?_) (fun c_29 => ?_)
      · have nc_29 : 30 ≤ nN (σ 81 0) := (nle (nl 30) hTn.1 (by omega) (by omega)).mp c_29
        refine V.aload_n (pc := 53) 1 hC dX4_call_53 rfl ?_
        refine V.iload (pc := 54) 0 hC dX4_call_54 rfl ?_
        refine V.iload_n (pc := 56) 4 hC dX4_call_56 rfl ?_
        refine V.iload (pc := 57) 5 hC dX4_call_57 rfl ?_
        refine V.iconst (pc := 59) 1 hC dX4_call_59 (by decide) ?_
        refine V.iadd (pc := 60) hC dX4_call_60 ?_
        refine V.sts (st' := [.int (nI (q + 1)), .int x, .int 13, .ref (a 5)]) (stc (ncast (b := q + 1) (nadd rfl (nl 1)) (by omega)) (stk (stk (stk rfl)))) ?_
        refine V.callV0 (pc := 61) (as := [.int 13, .int x, .int (nI (q + 1))]) hC (c_work_6_13 σ ν x (q + 1) h82 h83 hTn (by omega)) mu_X4_work ml_X4_53 (by decide) ⟨5, 4, TX4, 6, _, rfl, gx_5⟩ rfl (Nat.le_of_ble_eq_true rfl) dX4_call_61 ?_
        rintro _ ⟨f61_0, i61_1, i61_2⟩ ⟨rfl, hu61_0, hu61_1, hu61_2⟩
        have hu61_0 : (f61_0, i61_1) = bgs [] (σ 80, σ 81 0) := hu61_0
        have hu61_1 : isN i61_1 30 := hu61_1
        have hu61_2 : i61_2 = bI (ν 84 0 - ν 85 0 = 0) := hu61_2
        show V X (wX k g a (va_up (va_up σ 80 f61_0) 81 (fun _ => i61_1)) (va_up ν 82 (fun _ => i61_2))) [(5, .int 13), (0, .ref (a 5)), (1, .int 3), (2, .int 6), (3, .int x), (4, .int (nI q))] [.int (if ν 84 0 - ν 85 0 = 0 then 0 else x / (ν 84 0 - ν 85 0))] 64
        exact hR (if ν 84 0 - ν 85 0 = 0 then 0 else x / (ν 84 0 - ν 85 0)) (f61_0, i61_1, i61_2) _ _ dX4_call_64 rfl ⟨rfl, by rw [hu61_0]; exact congrArg (bgs []) (show (σ 80, σ 81 0) = bgS 13 (σ 80, σ 81 0) from (if_neg (i_ge c_29)).symm), hu61_1, hu61_2⟩
      · have nc_29 : ¬ (30 ≤ nN (σ 81 0)) := fun z => c_29 ((nle (nl 30) hTn.1 (by omega) (by omega)).mpr z)
        refine V.aload_n (pc := 32) 1 hC dX4_call_32 rfl ?_
        refine V.get (pc := 33) (v := .ref (a 80)) hC cf_X4 5 0 fl_X4_9 (by decide) gx_5 rfl dX4_call_33 ?_
        refine V.aload_n (pc := 36) 1 hC dX4_call_36 rfl ?_
        refine V.get (pc := 37) (v := .int (σ 81 0)) hC cf_X4 5 1 fl_X4_15 (by decide) gx_5 rfl dX4_call_37 ?_
        refine V.iload (pc := 40) 0 hC dX4_call_40 rfl ?_
        refine V.iast (pc := 42) (f := σ 80) hC 46 (nN (σ 81 0)) (wX k g a (va_up σ 80 (upd (σ 80) (nN (σ 81 0)) 13)) ν) gx_46 hTn.1 (by omega) (by decide) rfl dX4_call_42 ?_
        refine V.aload_n (pc := 43) 1 hC dX4_call_43 rfl ?_
        refine V.dup (pc := 44) hC dX4_call_44 rfl ?_
        refine V.get (pc := 45) (v := .int (σ 81 0)) hC cf_X4 5 1 fl_X4_15 (by decide) gx_5 rfl dX4_call_45 ?_
        refine V.iconst (pc := 48) 1 hC dX4_call_48 (by decide) ?_
        refine V.iadd (pc := 49) hC dX4_call_49 ?_
        refine V.put (pc := 50) (v := .int ((σ 81 0) + 1)) hC cf_X4 5 1 (wX k g a (va_up (va_up σ 80 (upd (σ 80) (nN (σ 81 0)) 13)) 81 (fun _ => (σ 81 0) + 1)) ν) fl_X4_15 (by decide) gx_5 rfl rfl rfl (Nat.le_of_ble_eq_true rfl) rfl dX4_call_50 ?_
        refine V.aload_n (pc := 53) 1 hC dX4_call_53 rfl ?_
        refine V.iload (pc := 54) 0 hC dX4_call_54 rfl ?_
        refine V.iload_n (pc := 56) 4 hC dX4_call_56 rfl ?_
        refine V.iload (pc := 57) 5 hC dX4_call_57 rfl ?_
        refine V.iconst (pc := 59) 1 hC dX4_call_59 (by decide) ?_
        refine V.iadd (pc := 60) hC dX4_call_60 ?_
        refine V.sts (st' := [.int (nI (q + 1)), .int x, .int 13, .ref (a 5)]) (stc (ncast (b := q + 1) (nadd rfl (nl 1)) (by omega)) (stk (stk (stk rfl)))) ?_
        refine V.callV0 (pc := 61) (as := [.int 13, .int x, .int (nI (q + 1))]) hC (c_work_6_13 (va_up (va_up σ 80 (upd (σ 80) (nN (σ 81 0)) 13)) 81 (fun _ => (σ 81 0) + 1)) ν x (q + 1) h82 h83 (isN.mk (nadd hTn.1 (nl 1)) (by omega) (by omega)) (by omega)) mu_X4_work ml_X4_53 (by decide) ⟨5, 4, TX4, 6, _, rfl, gx_5⟩ rfl (Nat.le_of_ble_eq_true rfl) dX4_call_61 ?_
        rintro _ ⟨f61_0, i61_1, i61_2⟩ ⟨rfl, hu61_0, hu61_1, hu61_2⟩
        have hu61_0 : (f61_0, i61_1) = bgs [] ((upd (σ 80) (nN (σ 81 0)) 13), ((σ 81 0) + 1)) := hu61_0
        have hu61_1 : isN i61_1 30 := hu61_1
        have hu61_2 : i61_2 = bI (ν 84 0 - ν 85 0 = 0) := hu61_2
        show V X (wX k g a (va_up (va_up σ 80 f61_0) 81 (fun _ => i61_1)) (va_up ν 82 (fun _ => i61_2))) [(5, .int 13), (0, .ref (a 5)), (1, .int 3), (2, .int 6), (3, .int x), (4, .int (nI q))] [.int (if ν 84 0 - ν 85 0 = 0 then 0 else x / (ν 84 0 - ν 85 0))] 64
        exact hR (if ν 84 0 - ν 85 0 = 0 then 0 else x / (ν 84 0 - ν 85 0)) (f61_0, i61_1, i61_2) _ _ dX4_call_64 rfl ⟨rfl, by rw [hu61_0]; exact congrArg (bgs []) (show (upd (σ 80) (nN (σ 81 0)) 13, σ 81 0 + 1) = bgS 13 (σ 80, σ 81 0) from (if_pos (i_nle c_29)).symm), hu61_1, hu61_2⟩
    · have nc_11 : ¬ (q ≤ 20) := fun z => c_11 ((nle rfl (nl 20) (by omega) (by omega)).mpr z)
      exfalso; omega
theorem bI_c {P Q : Prop} [Decidable P] [Decidable Q] (h : P ↔ Q) : bI P = bI Q := by
  by_cases z : P
  · rw [bI_t z, bI_t (h.mp z)]
  · rw [bI_f z, bI_f (fun y => z (h.mpr y))]

set_option maxHeartbeats 4000000 in
set_option maxRecDepth 100000 in
theorem c_X4_hear {l : Launch} {D : va_G} {k : Nat → ClassId} {g a : Nat → Nat} (σ ν : St) (ρ : Rw) (p : Nat) (v x : Int32) (hT : RT σ ρ) (hI : Inv ρ) (hp : p < nN (ρ 4)) (hv : inS v 0 3) : Ct l D k g yX4_hear cX4_hear 5 (some .int) 12 294 [.ref (a 5), .ref (a 1), .int (nI p), .int v, .int x] (S := Rw × Int32 × Int32 × Int32 × Int32 × Int32 × Int32) (wX k g a σ ν) (fun uu => wX k g a (va_up (va_up σ 80 uu.1) 81 (fun _ => uu.2.1)) (va_up (va_up (va_up (va_up ν 82 (fun _ => uu.2.2.1)) 83 (fun _ => uu.2.2.2.1)) 84 (fun _ => uu.2.2.2.2.1)) 85 (fun _ => uu.2.2.2.2.2.1))) (fun vv uu => vv = some (.int uu.2.2.2.2.2.2) ∧ (uu.1, uu.2.1) = bgs (voL v (ρ (31 + 3 * p)) (ρ (32 + 3 * p)) (nI p)) (σ 80, 0) ∧ isN uu.2.1 30 ∧ uu.2.2.1 = bI (v = 3 ∧ (ρ (32 + 3 * p)) - nI p = 0) ∧ (¬ (v = 3 ∧ (ρ (32 + 3 * p)) - nI p = 0) → uu.2.2.2.2.2.2 = voV v (ρ (31 + 3 * p)) (ρ (32 + 3 * p)) (nI p) x)) := by
  refine Ct.ofI RX4 rfl (by decide +kernel) (Nat.le_of_ble_eq_true rfl) (fun X hC hR => ?_)
  have hb6 := hI.pb
  show V X (wX k g a σ ν) [(0, .ref (a 5)), (1, .ref (a 1)), (2, .int (nI p)), (3, .int v), (4, .int x)] [] 0
  by_cases v0 : v = 0
  · subst v0
    refine V.aload_n (pc := 0) 0 hC dX4_hear_0 rfl ?_
    refine V.iconst (pc := 1) 0 hC dX4_hear_1 (by decide) ?_
    refine V.put (pc := 2) (v := .int 0) hC cf_X4 5 1 (wX k g a (va_up σ 81 (fun _ => 0)) ν) fl_X4_15 (by decide) gx_5 rfl rfl rfl (Nat.le_of_ble_eq_true rfl) rfl dX4_hear_2 ?_
    refine V.aload_n (pc := 5) 0 hC dX4_hear_5 rfl ?_
    refine V.iconst (pc := 6) 0 hC dX4_hear_6 (by decide) ?_
    refine V.put (pc := 7) (v := .int 0) hC cf_X4 5 2 (wX k g a (va_up σ 81 (fun _ => 0)) (va_up ν 82 (fun _ => 0))) fl_X4_19 (by decide) gx_5 rfl rfl rfl (Nat.le_of_ble_eq_true rfl) rfl dX4_hear_7 ?_
    refine V.aload_n (pc := 10) 0 hC dX4_hear_10 rfl ?_
    refine V.aload_n (pc := 11) 1 hC dX4_hear_11 rfl ?_
    refine V.get (pc := 12) (v := .ref (a 17)) hC cf_X3 1 7 fl_X4_23 (by decide) gx_1 rfl dX4_hear_12 ?_
    refine V.iload_n (pc := 15) 2 hC dX4_hear_15 rfl ?_
    refine V.iald (pc := 16) (f := σ 17) hC 12 p gx_12 rfl (by omega) (by decide) dX4_hear_16 ?_
    refine V.eqi (y := ρ (31 + 3 * p)) (hT.2.2.1.2.1 p (by omega)) ?_
    by_cases e0 : ρ (31 + 3 * p) = 0
    · refine V.eqi (y := 0) e0 ?_
      refine V.put (pc := 17) (v := .int 0) hC cf_X4 5 3 (wX k g a (va_up σ 81 (fun _ => 0)) (va_up (va_up ν 82 (fun _ => 0)) 83 (fun _ => 0))) fl_X4_28 (by decide) gx_5 rfl rfl rfl (Nat.le_of_ble_eq_true rfl) rfl dX4_hear_17 ?_
      refine V.aload_n (pc := 20) 0 hC dX4_hear_20 rfl ?_
      refine V.aload_n (pc := 21) 1 hC dX4_hear_21 rfl ?_
      refine V.get (pc := 22) (v := .ref (a 18)) hC cf_X3 1 8 fl_X4_30 (by decide) gx_1 rfl dX4_hear_22 ?_
      refine V.iload_n (pc := 25) 2 hC dX4_hear_25 rfl ?_
      refine V.iald (pc := 26) (f := σ 18) hC 13 p gx_13 rfl (by omega) (by decide) dX4_hear_26 ?_
      refine V.eqi (y := ρ (32 + 3 * p)) (hT.2.2.1.2.2.1 p (by omega)) ?_
      refine V.put (pc := 27) (v := .int (ρ (32 + 3 * p))) hC cf_X4 5 4 (wX k g a (va_up σ 81 (fun _ => 0)) (va_up (va_up (va_up ν 82 (fun _ => 0)) 83 (fun _ => 0)) 84 (fun _ => ρ (32 + 3 * p)))) fl_X4_33 (by decide) gx_5 rfl rfl rfl (Nat.le_of_ble_eq_true rfl) rfl dX4_hear_27 ?_
      refine V.aload_n (pc := 30) 0 hC dX4_hear_30 rfl ?_
      refine V.iload_n (pc := 31) 2 hC dX4_hear_31 rfl ?_
      refine V.put (pc := 32) (v := .int (nI p)) hC cf_X4 5 5 (wX k g a (va_up σ 81 (fun _ => 0)) (va_up (va_up (va_up (va_up ν 82 (fun _ => 0)) 83 (fun _ => 0)) 84 (fun _ => ρ (32 + 3 * p))) 85 (fun _ => nI p))) fl_X4_36 (by decide) gx_5 rfl rfl rfl (Nat.le_of_ble_eq_true rfl) rfl dX4_hear_32 ?_
      refine V.aload_n (pc := 35) 0 hC dX4_hear_35 rfl ?_
      refine V.iload_n (pc := 36) 3 hC dX4_hear_36 rfl ?_
      refine V.aload_n (pc := 37) 0 hC dX4_hear_37 rfl ?_
      refine V.get (pc := 38) (v := .int 0) hC cf_X4 5 3 fl_X4_28 (by decide) gx_5 rfl dX4_hear_38 ?_
      refine V.iload (pc := 41) 4 hC dX4_hear_41 rfl ?_
      refine V.iconst (pc := 43) 0 hC dX4_hear_43 (by decide) ?_
      refine V.sts (st' := [.int (nI 0), .int x, .int 0, .int 0, .ref (a 5)]) (stc (nl 0) (stk (stk (stk (stk rfl))))) ?_
      refine V.callV0 (pc := 44) (as := [.int 0, .int 0, .int x, .int (nI 0)]) hC (c_call_0_0_0 (va_up σ 81 (fun _ => 0)) (va_up (va_up (va_up (va_up ν 82 (fun _ => 0)) 83 (fun _ => 0)) 84 (fun _ => ρ (32 + 3 * p))) 85 (fun _ => nI p)) x 0 rfl rfl (isN.mk (n := 0) rfl (by omega) (by omega)) (by omega)) mu_X4_call ml_X4_39 (by decide) ⟨5, 4, TX4, 6, _, rfl, gx_5⟩ rfl (Nat.le_of_ble_eq_true rfl) dX4_hear_44 ?_
      rintro _ ⟨f44_0, i44_1⟩ ⟨rfl, hu44_0, hu44_1⟩
      have hu44_0 : (f44_0, i44_1) = bgs [10] ((σ 80), 0) := hu44_0
      have hu44_1 : isN i44_1 30 := hu44_1
      show V X (wX k g a (va_up (va_up σ 81 (fun _ => i44_1)) 80 f44_0) (va_up (va_up (va_up (va_up ν 82 (fun _ => 0)) 83 (fun _ => 0)) 84 (fun _ => ρ (32 + 3 * p))) 85 (fun _ => nI p))) [(0, .ref (a 5)), (1, .ref (a 1)), (2, .int (nI p)), (3, .int 0), (4, .int x)] [.int (x + (nI p))] 47
      exact hR (x + (nI p)) (f44_0, i44_1, 0, 0, ρ (32 + 3 * p), nI p, x + (nI p)) _ _ dX4_hear_47 rfl ⟨rfl, by rw [hu44_0, e0] <;> rfl, hu44_1, (bI_f (fun q => absurd q.1 (by decide))).symm, fun _ => by rw [e0] <;> rfl⟩
    · by_cases e1 : ρ (31 + 3 * p) = 1
      · refine V.eqi (y := 1) e1 ?_
        refine V.put (pc := 17) (v := .int 1) hC cf_X4 5 3 (wX k g a (va_up σ 81 (fun _ => 0)) (va_up (va_up ν 82 (fun _ => 0)) 83 (fun _ => 1))) fl_X4_28 (by decide) gx_5 rfl rfl rfl (Nat.le_of_ble_eq_true rfl) rfl dX4_hear_17 ?_
        refine V.aload_n (pc := 20) 0 hC dX4_hear_20 rfl ?_
        refine V.aload_n (pc := 21) 1 hC dX4_hear_21 rfl ?_
        refine V.get (pc := 22) (v := .ref (a 18)) hC cf_X3 1 8 fl_X4_30 (by decide) gx_1 rfl dX4_hear_22 ?_
        refine V.iload_n (pc := 25) 2 hC dX4_hear_25 rfl ?_
        refine V.iald (pc := 26) (f := σ 18) hC 13 p gx_13 rfl (by omega) (by decide) dX4_hear_26 ?_
        refine V.eqi (y := ρ (32 + 3 * p)) (hT.2.2.1.2.2.1 p (by omega)) ?_
        refine V.put (pc := 27) (v := .int (ρ (32 + 3 * p))) hC cf_X4 5 4 (wX k g a (va_up σ 81 (fun _ => 0)) (va_up (va_up (va_up ν 82 (fun _ => 0)) 83 (fun _ => 1)) 84 (fun _ => ρ (32 + 3 * p)))) fl_X4_33 (by decide) gx_5 rfl rfl rfl (Nat.le_of_ble_eq_true rfl) rfl dX4_hear_27 ?_
        refine V.aload_n (pc := 30) 0 hC dX4_hear_30 rfl ?_
        refine V.iload_n (pc := 31) 2 hC dX4_hear_31 rfl ?_
        refine V.put (pc := 32) (v := .int (nI p)) hC cf_X4 5 5 (wX k g a (va_up σ 81 (fun _ => 0)) (va_up (va_up (va_up (va_up ν 82 (fun _ => 0)) 83 (fun _ => 1)) 84 (fun _ => ρ (32 + 3 * p))) 85 (fun _ => nI p))) fl_X4_36 (by decide) gx_5 rfl rfl rfl (Nat.le_of_ble_eq_true rfl) rfl dX4_hear_32 ?_
        refine V.aload_n (pc := 35) 0 hC dX4_hear_35 rfl ?_
        refine V.iload_n (pc := 36) 3 hC dX4_hear_36 rfl ?_
        refine V.aload_n (pc := 37) 0 hC dX4_hear_37 rfl ?_
        refine V.get (pc := 38) (v := .int 1) hC cf_X4 5 3 fl_X4_28 (by decide) gx_5 rfl dX4_hear_38 ?_
        refine V.iload (pc := 41) 4 hC dX4_hear_41 rfl ?_
        refine V.iconst (pc := 43) 0 hC dX4_hear_43 (by decide) ?_
        refine V.sts (st' := [.int (nI 0), .int x, .int 1, .int 0, .ref (a 5)]) (stc (nl 0) (stk (stk (stk (stk rfl))))) ?_
        refine V.callV0 (pc := 44) (as := [.int 0, .int 1, .int x, .int (nI 0)]) hC (c_call_1_0_1 (va_up σ 81 (fun _ => 0)) (va_up (va_up (va_up (va_up ν 82 (fun _ => 0)) 83 (fun _ => 1)) 84 (fun _ => ρ (32 + 3 * p))) 85 (fun _ => nI p)) x 0 rfl rfl (isN.mk (n := 0) rfl (by omega) (by omega)) (by omega)) mu_X4_call ml_X4_39 (by decide) ⟨5, 4, TX4, 6, _, rfl, gx_5⟩ rfl (Nat.le_of_ble_eq_true rfl) dX4_hear_44 ?_
        rintro _ ⟨f44_0, i44_1⟩ ⟨rfl, hu44_0, hu44_1⟩
        have hu44_0 : (f44_0, i44_1) = bgs [20, 10] ((σ 80), 0) := hu44_0
        have hu44_1 : isN i44_1 30 := hu44_1
        show V X (wX k g a (va_up (va_up σ 81 (fun _ => i44_1)) 80 f44_0) (va_up (va_up (va_up (va_up ν 82 (fun _ => 0)) 83 (fun _ => 1)) 84 (fun _ => ρ (32 + 3 * p))) 85 (fun _ => nI p))) [(0, .ref (a 5)), (1, .ref (a 1)), (2, .int (nI p)), (3, .int 0), (4, .int x)] [.int ((x + (nI p)) - 4)] 47
        exact hR ((x + (nI p)) - 4) (f44_0, i44_1, 0, 1, ρ (32 + 3 * p), nI p, (x + (nI p)) - 4) _ _ dX4_hear_47 rfl ⟨rfl, by rw [hu44_0, e1] <;> rfl, hu44_1, (bI_f (fun q => absurd q.1 (by decide))).symm, fun _ => by rw [e1] <;> rfl⟩
      · by_cases e2 : ρ (31 + 3 * p) = 2
        · refine V.eqi (y := 2) e2 ?_
          refine V.put (pc := 17) (v := .int 2) hC cf_X4 5 3 (wX k g a (va_up σ 81 (fun _ => 0)) (va_up (va_up ν 82 (fun _ => 0)) 83 (fun _ => 2))) fl_X4_28 (by decide) gx_5 rfl rfl rfl (Nat.le_of_ble_eq_true rfl) rfl dX4_hear_17 ?_
          refine V.aload_n (pc := 20) 0 hC dX4_hear_20 rfl ?_
          refine V.aload_n (pc := 21) 1 hC dX4_hear_21 rfl ?_
          refine V.get (pc := 22) (v := .ref (a 18)) hC cf_X3 1 8 fl_X4_30 (by decide) gx_1 rfl dX4_hear_22 ?_
          refine V.iload_n (pc := 25) 2 hC dX4_hear_25 rfl ?_
          refine V.iald (pc := 26) (f := σ 18) hC 13 p gx_13 rfl (by omega) (by decide) dX4_hear_26 ?_
          refine V.eqi (y := ρ (32 + 3 * p)) (hT.2.2.1.2.2.1 p (by omega)) ?_
          refine V.put (pc := 27) (v := .int (ρ (32 + 3 * p))) hC cf_X4 5 4 (wX k g a (va_up σ 81 (fun _ => 0)) (va_up (va_up (va_up ν 82 (fun _ => 0)) 83 (fun _ => 2)) 84 (fun _ => ρ (32 + 3 * p)))) fl_X4_33 (by decide) gx_5 rfl rfl rfl (Nat.le_of_ble_eq_true rfl) rfl dX4_hear_27 ?_
          refine V.aload_n (pc := 30) 0 hC dX4_hear_30 rfl ?_
          refine V.iload_n (pc := 31) 2 hC dX4_hear_31 rfl ?_
          refine V.put (pc := 32) (v := .int (nI p)) hC cf_X4 5 5 (wX k g a (va_up σ 81 (fun _ => 0)) (va_up (va_up (va_up (va_up ν 82 (fun _ => 0)) 83 (fun _ => 2)) 84 (fun _ => ρ (32 + 3 * p))) 85 (fun _ => nI p))) fl_X4_36 (by decide) gx_5 rfl rfl rfl (Nat.le_of_ble_eq_true rfl) rfl dX4_hear_32 ?_
          refine V.aload_n (pc := 35) 0 hC dX4_hear_35 rfl ?_
          refine V.iload_n (pc := 36) 3 hC dX4_hear_36 rfl ?_
          refine V.aload_n (pc := 37) 0 hC dX4_hear_37 rfl ?_
          refine V.get (pc := 38) (v := .int 2) hC cf_X4 5 3 fl_X4_28 (by decide) gx_5 rfl dX4_hear_38 ?_
          refine V.iload (pc := 41) 4 hC dX4_hear_41 rfl ?_
          refine V.iconst (pc := 43) 0 hC dX4_hear_43 (by decide) ?_
          refine V.sts (st' := [.int (nI 0), .int x, .int 2, .int 0, .ref (a 5)]) (stc (nl 0) (stk (stk (stk (stk rfl))))) ?_
          refine V.callV0 (pc := 44) (as := [.int 0, .int 2, .int x, .int (nI 0)]) hC (c_call_2_0_2 (va_up σ 81 (fun _ => 0)) (va_up (va_up (va_up (va_up ν 82 (fun _ => 0)) 83 (fun _ => 2)) 84 (fun _ => ρ (32 + 3 * p))) 85 (fun _ => nI p)) x 0 rfl rfl (isN.mk (n := 0) rfl (by omega) (by omega)) (by omega)) mu_X4_call ml_X4_39 (by decide) ⟨5, 4, TX4, 6, _, rfl, gx_5⟩ rfl (Nat.le_of_ble_eq_true rfl) dX4_hear_44 ?_
          rintro _ ⟨f44_0, i44_1⟩ ⟨rfl, hu44_0, hu44_1⟩
          have hu44_0 : (f44_0, i44_1) = bgs [10] ((σ 80), 0) := hu44_0
          have hu44_1 : isN i44_1 30 := hu44_1
          show V X (wX k g a (va_up (va_up σ 81 (fun _ => i44_1)) 80 f44_0) (va_up (va_up (va_up (va_up ν 82 (fun _ => 0)) 83 (fun _ => 2)) 84 (fun _ => ρ (32 + 3 * p))) 85 (fun _ => nI p))) [(0, .ref (a 5)), (1, .ref (a 1)), (2, .int (nI p)), (3, .int 0), (4, .int x)] [.int (x + (nI p))] 47
          exact hR (x + (nI p)) (f44_0, i44_1, 0, 2, ρ (32 + 3 * p), nI p, x + (nI p)) _ _ dX4_hear_47 rfl ⟨rfl, by rw [hu44_0, e2] <;> rfl, hu44_1, (bI_f (fun q => absurd q.1 (by decide))).symm, fun _ => by rw [e2] <;> rfl⟩
        · by_cases e3 : ρ (31 + 3 * p) = 3
          · refine V.eqi (y := 3) e3 ?_
            refine V.put (pc := 17) (v := .int 3) hC cf_X4 5 3 (wX k g a (va_up σ 81 (fun _ => 0)) (va_up (va_up ν 82 (fun _ => 0)) 83 (fun _ => 3))) fl_X4_28 (by decide) gx_5 rfl rfl rfl (Nat.le_of_ble_eq_true rfl) rfl dX4_hear_17 ?_
            refine V.aload_n (pc := 20) 0 hC dX4_hear_20 rfl ?_
            refine V.aload_n (pc := 21) 1 hC dX4_hear_21 rfl ?_
            refine V.get (pc := 22) (v := .ref (a 18)) hC cf_X3 1 8 fl_X4_30 (by decide) gx_1 rfl dX4_hear_22 ?_
            refine V.iload_n (pc := 25) 2 hC dX4_hear_25 rfl ?_
            refine V.iald (pc := 26) (f := σ 18) hC 13 p gx_13 rfl (by omega) (by decide) dX4_hear_26 ?_
            refine V.eqi (y := ρ (32 + 3 * p)) (hT.2.2.1.2.2.1 p (by omega)) ?_
            refine V.put (pc := 27) (v := .int (ρ (32 + 3 * p))) hC cf_X4 5 4 (wX k g a (va_up σ 81 (fun _ => 0)) (va_up (va_up (va_up ν 82 (fun _ => 0)) 83 (fun _ => 3)) 84 (fun _ => ρ (32 + 3 * p)))) fl_X4_33 (by decide) gx_5 rfl rfl rfl (Nat.le_of_ble_eq_true rfl) rfl dX4_hear_27 ?_
            refine V.aload_n (pc := 30) 0 hC dX4_hear_30 rfl ?_
            refine V.iload_n (pc := 31) 2 hC dX4_hear_31 rfl ?_
            refine V.put (pc := 32) (v := .int (nI p)) hC cf_X4 5 5 (wX k g a (va_up σ 81 (fun _ => 0)) (va_up (va_up (va_up (va_up ν 82 (fun _ => 0)) 83 (fun _ => 3)) 84 (fun _ => ρ (32 + 3 * p))) 85 (fun _ => nI p))) fl_X4_36 (by decide) gx_5 rfl rfl rfl (Nat.le_of_ble_eq_true rfl) rfl dX4_hear_32 ?_
            refine V.aload_n (pc := 35) 0 hC dX4_hear_35 rfl ?_
            refine V.iload_n (pc := 36) 3 hC dX4_hear_36 rfl ?_
            refine V.aload_n (pc := 37) 0 hC dX4_hear_37 rfl ?_
            refine V.get (pc := 38) (v := .int 3) hC cf_X4 5 3 fl_X4_28 (by decide) gx_5 rfl dX4_hear_38 ?_
            refine V.iload (pc := 41) 4 hC dX4_hear_41 rfl ?_
            refine V.iconst (pc := 43) 0 hC dX4_hear_43 (by decide) ?_
            refine V.sts (st' := [.int (nI 0), .int x, .int 3, .int 0, .ref (a 5)]) (stc (nl 0) (stk (stk (stk (stk rfl))))) ?_
            refine V.callV0 (pc := 44) (as := [.int 0, .int 3, .int x, .int (nI 0)]) hC (c_call_3_0_3 (va_up σ 81 (fun _ => 0)) (va_up (va_up (va_up (va_up ν 82 (fun _ => 0)) 83 (fun _ => 3)) 84 (fun _ => ρ (32 + 3 * p))) 85 (fun _ => nI p)) x 0 rfl rfl (isN.mk (n := 0) rfl (by omega) (by omega)) (by omega)) mu_X4_call ml_X4_39 (by decide) ⟨5, 4, TX4, 6, _, rfl, gx_5⟩ rfl (Nat.le_of_ble_eq_true rfl) dX4_hear_44 ?_
            rintro _ ⟨f44_0, i44_1⟩ ⟨rfl, hu44_0, hu44_1⟩
            have hu44_0 : (f44_0, i44_1) = bgs [10] ((σ 80), 0) := hu44_0
            have hu44_1 : isN i44_1 30 := hu44_1
            show V X (wX k g a (va_up (va_up σ 81 (fun _ => i44_1)) 80 f44_0) (va_up (va_up (va_up (va_up ν 82 (fun _ => 0)) 83 (fun _ => 3)) 84 (fun _ => ρ (32 + 3 * p))) 85 (fun _ => nI p))) [(0, .ref (a 5)), (1, .ref (a 1)), (2, .int (nI p)), (3, .int 0), (4, .int x)] [.int (x + (nI p))] 47
            exact hR (x + (nI p)) (f44_0, i44_1, 0, 3, ρ (32 + 3 * p), nI p, x + (nI p)) _ _ dX4_hear_47 rfl ⟨rfl, by rw [hu44_0, e3] <;> rfl, hu44_1, (bI_f (fun q => absurd q.1 (by decide))).symm, fun _ => by rw [e3] <;> rfl⟩
          · by_cases e4 : ρ (31 + 3 * p) = 4
            · refine V.eqi (y := 4) e4 ?_
              refine V.put (pc := 17) (v := .int 4) hC cf_X4 5 3 (wX k g a (va_up σ 81 (fun _ => 0)) (va_up (va_up ν 82 (fun _ => 0)) 83 (fun _ => 4))) fl_X4_28 (by decide) gx_5 rfl rfl rfl (Nat.le_of_ble_eq_true rfl) rfl dX4_hear_17 ?_
              refine V.aload_n (pc := 20) 0 hC dX4_hear_20 rfl ?_
              refine V.aload_n (pc := 21) 1 hC dX4_hear_21 rfl ?_
              refine V.get (pc := 22) (v := .ref (a 18)) hC cf_X3 1 8 fl_X4_30 (by decide) gx_1 rfl dX4_hear_22 ?_
              refine V.iload_n (pc := 25) 2 hC dX4_hear_25 rfl ?_
              refine V.iald (pc := 26) (f := σ 18) hC 13 p gx_13 rfl (by omega) (by decide) dX4_hear_26 ?_
              refine V.eqi (y := ρ (32 + 3 * p)) (hT.2.2.1.2.2.1 p (by omega)) ?_
              refine V.put (pc := 27) (v := .int (ρ (32 + 3 * p))) hC cf_X4 5 4 (wX k g a (va_up σ 81 (fun _ => 0)) (va_up (va_up (va_up ν 82 (fun _ => 0)) 83 (fun _ => 4)) 84 (fun _ => ρ (32 + 3 * p)))) fl_X4_33 (by decide) gx_5 rfl rfl rfl (Nat.le_of_ble_eq_true rfl) rfl dX4_hear_27 ?_
              refine V.aload_n (pc := 30) 0 hC dX4_hear_30 rfl ?_
              refine V.iload_n (pc := 31) 2 hC dX4_hear_31 rfl ?_
              refine V.put (pc := 32) (v := .int (nI p)) hC cf_X4 5 5 (wX k g a (va_up σ 81 (fun _ => 0)) (va_up (va_up (va_up (va_up ν 82 (fun _ => 0)) 83 (fun _ => 4)) 84 (fun _ => ρ (32 + 3 * p))) 85 (fun _ => nI p))) fl_X4_36 (by decide) gx_5 rfl rfl rfl (Nat.le_of_ble_eq_true rfl) rfl dX4_hear_32 ?_
              refine V.aload_n (pc := 35) 0 hC dX4_hear_35 rfl ?_
              refine V.iload_n (pc := 36) 3 hC dX4_hear_36 rfl ?_
              refine V.aload_n (pc := 37) 0 hC dX4_hear_37 rfl ?_
              refine V.get (pc := 38) (v := .int 4) hC cf_X4 5 3 fl_X4_28 (by decide) gx_5 rfl dX4_hear_38 ?_
              refine V.iload (pc := 41) 4 hC dX4_hear_41 rfl ?_
              refine V.iconst (pc := 43) 0 hC dX4_hear_43 (by decide) ?_
              refine V.sts (st' := [.int (nI 0), .int x, .int 4, .int 0, .ref (a 5)]) (stc (nl 0) (stk (stk (stk (stk rfl))))) ?_
              refine V.callV0 (pc := 44) (as := [.int 0, .int 4, .int x, .int (nI 0)]) hC (c_call_4_0_4 (va_up σ 81 (fun _ => 0)) (va_up (va_up (va_up (va_up ν 82 (fun _ => 0)) 83 (fun _ => 4)) 84 (fun _ => ρ (32 + 3 * p))) 85 (fun _ => nI p)) x 0 rfl rfl (isN.mk (n := 0) rfl (by omega) (by omega)) (by omega)) mu_X4_call ml_X4_39 (by decide) ⟨5, 4, TX4, 6, _, rfl, gx_5⟩ rfl (Nat.le_of_ble_eq_true rfl) dX4_hear_44 ?_
              rintro _ ⟨f44_0, i44_1⟩ ⟨rfl, hu44_0, hu44_1⟩
              have hu44_0 : (f44_0, i44_1) = bgs [50, 20, 10] ((σ 80), 0) := hu44_0
              have hu44_1 : isN i44_1 30 := hu44_1
              show V X (wX k g a (va_up (va_up σ 81 (fun _ => i44_1)) 80 f44_0) (va_up (va_up (va_up (va_up ν 82 (fun _ => 0)) 83 (fun _ => 4)) 84 (fun _ => ρ (32 + 3 * p))) 85 (fun _ => nI p))) [(0, .ref (a 5)), (1, .ref (a 1)), (2, .int (nI p)), (3, .int 0), (4, .int x)] [.int (((x + (nI p)) - 4) * 3)] 47
              exact hR (((x + (nI p)) - 4) * 3) (f44_0, i44_1, 0, 4, ρ (32 + 3 * p), nI p, ((x + (nI p)) - 4) * 3) _ _ dX4_hear_47 rfl ⟨rfl, by rw [hu44_0, e4] <;> rfl, hu44_1, (bI_f (fun q => absurd q.1 (by decide))).symm, fun _ => by rw [e4] <;> rfl⟩
            · by_cases e5 : ρ (31 + 3 * p) = 5
              · refine V.eqi (y := 5) e5 ?_
                refine V.put (pc := 17) (v := .int 5) hC cf_X4 5 3 (wX k g a (va_up σ 81 (fun _ => 0)) (va_up (va_up ν 82 (fun _ => 0)) 83 (fun _ => 5))) fl_X4_28 (by decide) gx_5 rfl rfl rfl (Nat.le_of_ble_eq_true rfl) rfl dX4_hear_17 ?_
                refine V.aload_n (pc := 20) 0 hC dX4_hear_20 rfl ?_
                refine V.aload_n (pc := 21) 1 hC dX4_hear_21 rfl ?_
                refine V.get (pc := 22) (v := .ref (a 18)) hC cf_X3 1 8 fl_X4_30 (by decide) gx_1 rfl dX4_hear_22 ?_
                refine V.iload_n (pc := 25) 2 hC dX4_hear_25 rfl ?_
                refine V.iald (pc := 26) (f := σ 18) hC 13 p gx_13 rfl (by omega) (by decide) dX4_hear_26 ?_
                refine V.eqi (y := ρ (32 + 3 * p)) (hT.2.2.1.2.2.1 p (by omega)) ?_
                refine V.put (pc := 27) (v := .int (ρ (32 + 3 * p))) hC cf_X4 5 4 (wX k g a (va_up σ 81 (fun _ => 0)) (va_up (va_up (va_up ν 82 (fun _ => 0)) 83 (fun _ => 5)) 84 (fun _ => ρ (32 + 3 * p)))) fl_X4_33 (by decide) gx_5 rfl rfl rfl (Nat.le_of_ble_eq_true rfl) rfl dX4_hear_27 ?_
                refine V.aload_n (pc := 30) 0 hC dX4_hear_30 rfl ?_
                refine V.iload_n (pc := 31) 2 hC dX4_hear_31 rfl ?_
                refine V.put (pc := 32) (v := .int (nI p)) hC cf_X4 5 5 (wX k g a (va_up σ 81 (fun _ => 0)) (va_up (va_up (va_up (va_up ν 82 (fun _ => 0)) 83 (fun _ => 5)) 84 (fun _ => ρ (32 + 3 * p))) 85 (fun _ => nI p))) fl_X4_36 (by decide) gx_5 rfl rfl rfl (Nat.le_of_ble_eq_true rfl) rfl dX4_hear_32 ?_
                refine V.aload_n (pc := 35) 0 hC dX4_hear_35 rfl ?_
                refine V.iload_n (pc := 36) 3 hC dX4_hear_36 rfl ?_
                refine V.aload_n (pc := 37) 0 hC dX4_hear_37 rfl ?_
                refine V.get (pc := 38) (v := .int 5) hC cf_X4 5 3 fl_X4_28 (by decide) gx_5 rfl dX4_hear_38 ?_
                refine V.iload (pc := 41) 4 hC dX4_hear_41 rfl ?_
                refine V.iconst (pc := 43) 0 hC dX4_hear_43 (by decide) ?_
                refine V.sts (st' := [.int (nI 0), .int x, .int 5, .int 0, .ref (a 5)]) (stc (nl 0) (stk (stk (stk (stk rfl))))) ?_
                refine V.callV0 (pc := 44) (as := [.int 0, .int 5, .int x, .int (nI 0)]) hC (c_call_5_0_5 (va_up σ 81 (fun _ => 0)) (va_up (va_up (va_up (va_up ν 82 (fun _ => 0)) 83 (fun _ => 5)) 84 (fun _ => ρ (32 + 3 * p))) 85 (fun _ => nI p)) x 0 rfl rfl (isN.mk (n := 0) rfl (by omega) (by omega)) (by omega)) mu_X4_call ml_X4_39 (by decide) ⟨5, 4, TX4, 6, _, rfl, gx_5⟩ rfl (Nat.le_of_ble_eq_true rfl) dX4_hear_44 ?_
                rintro _ ⟨f44_0, i44_1⟩ ⟨rfl, hu44_0, hu44_1⟩
                have hu44_0 : (f44_0, i44_1) = bgs [10] ((σ 80), 0) := hu44_0
                have hu44_1 : isN i44_1 30 := hu44_1
                show V X (wX k g a (va_up (va_up σ 81 (fun _ => i44_1)) 80 f44_0) (va_up (va_up (va_up (va_up ν 82 (fun _ => 0)) 83 (fun _ => 5)) 84 (fun _ => ρ (32 + 3 * p))) 85 (fun _ => nI p))) [(0, .ref (a 5)), (1, .ref (a 1)), (2, .int (nI p)), (3, .int 0), (4, .int x)] [.int (x + (nI p))] 47
                exact hR (x + (nI p)) (f44_0, i44_1, 0, 5, ρ (32 + 3 * p), nI p, x + (nI p)) _ _ dX4_hear_47 rfl ⟨rfl, by rw [hu44_0, e5] <;> rfl, hu44_1, (bI_f (fun q => absurd q.1 (by decide))).symm, fun _ => by rw [e5] <;> rfl⟩
              · have e6 : ρ (31 + 3 * p) = 6 := by have h := hI.kn hp; have hb := hI.kb hp; have g0 : ¬ nN (ρ (31 + 3 * p)) = 0 := fun q => e0 (by rw [h, q]; rfl); have g1 : ¬ nN (ρ (31 + 3 * p)) = 1 := fun q => e1 (by rw [h, q]; rfl); have g2 : ¬ nN (ρ (31 + 3 * p)) = 2 := fun q => e2 (by rw [h, q]; rfl); have g3 : ¬ nN (ρ (31 + 3 * p)) = 3 := fun q => e3 (by rw [h, q]; rfl); have g4 : ¬ nN (ρ (31 + 3 * p)) = 4 := fun q => e4 (by rw [h, q]; rfl); have g5 : ¬ nN (ρ (31 + 3 * p)) = 5 := fun q => e5 (by rw [h, q]; rfl); rw [h, show nN (ρ (31 + 3 * p)) = 6 by omega]; rfl
                refine V.eqi (y := 6) e6 ?_
                refine V.put (pc := 17) (v := .int 6) hC cf_X4 5 3 (wX k g a (va_up σ 81 (fun _ => 0)) (va_up (va_up ν 82 (fun _ => 0)) 83 (fun _ => 6))) fl_X4_28 (by decide) gx_5 rfl rfl rfl (Nat.le_of_ble_eq_true rfl) rfl dX4_hear_17 ?_
                refine V.aload_n (pc := 20) 0 hC dX4_hear_20 rfl ?_
                refine V.aload_n (pc := 21) 1 hC dX4_hear_21 rfl ?_
                refine V.get (pc := 22) (v := .ref (a 18)) hC cf_X3 1 8 fl_X4_30 (by decide) gx_1 rfl dX4_hear_22 ?_
                refine V.iload_n (pc := 25) 2 hC dX4_hear_25 rfl ?_
                refine V.iald (pc := 26) (f := σ 18) hC 13 p gx_13 rfl (by omega) (by decide) dX4_hear_26 ?_
                refine V.eqi (y := ρ (32 + 3 * p)) (hT.2.2.1.2.2.1 p (by omega)) ?_
                refine V.put (pc := 27) (v := .int (ρ (32 + 3 * p))) hC cf_X4 5 4 (wX k g a (va_up σ 81 (fun _ => 0)) (va_up (va_up (va_up ν 82 (fun _ => 0)) 83 (fun _ => 6)) 84 (fun _ => ρ (32 + 3 * p)))) fl_X4_33 (by decide) gx_5 rfl rfl rfl (Nat.le_of_ble_eq_true rfl) rfl dX4_hear_27 ?_
                refine V.aload_n (pc := 30) 0 hC dX4_hear_30 rfl ?_
                refine V.iload_n (pc := 31) 2 hC dX4_hear_31 rfl ?_
                refine V.put (pc := 32) (v := .int (nI p)) hC cf_X4 5 5 (wX k g a (va_up σ 81 (fun _ => 0)) (va_up (va_up (va_up (va_up ν 82 (fun _ => 0)) 83 (fun _ => 6)) 84 (fun _ => ρ (32 + 3 * p))) 85 (fun _ => nI p))) fl_X4_36 (by decide) gx_5 rfl rfl rfl (Nat.le_of_ble_eq_true rfl) rfl dX4_hear_32 ?_
                refine V.aload_n (pc := 35) 0 hC dX4_hear_35 rfl ?_
                refine V.iload_n (pc := 36) 3 hC dX4_hear_36 rfl ?_
                refine V.aload_n (pc := 37) 0 hC dX4_hear_37 rfl ?_
                refine V.get (pc := 38) (v := .int 6) hC cf_X4 5 3 fl_X4_28 (by decide) gx_5 rfl dX4_hear_38 ?_
                refine V.iload (pc := 41) 4 hC dX4_hear_41 rfl ?_
                refine V.iconst (pc := 43) 0 hC dX4_hear_43 (by decide) ?_
                refine V.sts (st' := [.int (nI 0), .int x, .int 6, .int 0, .ref (a 5)]) (stc (nl 0) (stk (stk (stk (stk rfl))))) ?_
                refine V.callV0 (pc := 44) (as := [.int 0, .int 6, .int x, .int (nI 0)]) hC (c_call_6_0_6 (va_up σ 81 (fun _ => 0)) (va_up (va_up (va_up (va_up ν 82 (fun _ => 0)) 83 (fun _ => 6)) 84 (fun _ => ρ (32 + 3 * p))) 85 (fun _ => nI p)) x 0 rfl rfl (isN.mk (n := 0) rfl (by omega) (by omega)) (by omega)) mu_X4_call ml_X4_39 (by decide) ⟨5, 4, TX4, 6, _, rfl, gx_5⟩ rfl (Nat.le_of_ble_eq_true rfl) dX4_hear_44 ?_
                rintro _ ⟨f44_0, i44_1⟩ ⟨rfl, hu44_0, hu44_1⟩
                have hu44_0 : (f44_0, i44_1) = bgs [70] ((σ 80), 0) := hu44_0
                have hu44_1 : isN i44_1 30 := hu44_1
                show V X (wX k g a (va_up (va_up σ 81 (fun _ => i44_1)) 80 f44_0) (va_up (va_up (va_up (va_up ν 82 (fun _ => 0)) 83 (fun _ => 6)) 84 (fun _ => ρ (32 + 3 * p))) 85 (fun _ => nI p))) [(0, .ref (a 5)), (1, .ref (a 1)), (2, .int (nI p)), (3, .int 0), (4, .int x)] [.int 9] 47
                exact hR 9 (f44_0, i44_1, 0, 6, ρ (32 + 3 * p), nI p, 9) _ _ dX4_hear_47 rfl ⟨rfl, by rw [hu44_0, e6] <;> rfl, hu44_1, (bI_f (fun q => absurd q.1 (by decide))).symm, fun _ => by rw [e6] <;> rfl⟩
  · by_cases v1 : v = 1
    · subst v1
      refine V.aload_n (pc := 0) 0 hC dX4_hear_0 rfl ?_
      refine V.iconst (pc := 1) 0 hC dX4_hear_1 (by decide) ?_
      refine V.put (pc := 2) (v := .int 0) hC cf_X4 5 1 (wX k g a (va_up σ 81 (fun _ => 0)) ν) fl_X4_15 (by decide) gx_5 rfl rfl rfl (Nat.le_of_ble_eq_true rfl) rfl dX4_hear_2 ?_
      refine V.aload_n (pc := 5) 0 hC dX4_hear_5 rfl ?_
      refine V.iconst (pc := 6) 0 hC dX4_hear_6 (by decide) ?_
      refine V.put (pc := 7) (v := .int 0) hC cf_X4 5 2 (wX k g a (va_up σ 81 (fun _ => 0)) (va_up ν 82 (fun _ => 0))) fl_X4_19 (by decide) gx_5 rfl rfl rfl (Nat.le_of_ble_eq_true rfl) rfl dX4_hear_7 ?_
      refine V.aload_n (pc := 10) 0 hC dX4_hear_10 rfl ?_
      refine V.aload_n (pc := 11) 1 hC dX4_hear_11 rfl ?_
      refine V.get (pc := 12) (v := .ref (a 17)) hC cf_X3 1 7 fl_X4_23 (by decide) gx_1 rfl dX4_hear_12 ?_
      refine V.iload_n (pc := 15) 2 hC dX4_hear_15 rfl ?_
      refine V.iald (pc := 16) (f := σ 17) hC 12 p gx_12 rfl (by omega) (by decide) dX4_hear_16 ?_
      refine V.eqi (y := ρ (31 + 3 * p)) (hT.2.2.1.2.1 p (by omega)) ?_
      by_cases e0 : ρ (31 + 3 * p) = 0
      · refine V.eqi (y := 0) e0 ?_
        refine V.put (pc := 17) (v := .int 0) hC cf_X4 5 3 (wX k g a (va_up σ 81 (fun _ => 0)) (va_up (va_up ν 82 (fun _ => 0)) 83 (fun _ => 0))) fl_X4_28 (by decide) gx_5 rfl rfl rfl (Nat.le_of_ble_eq_true rfl) rfl dX4_hear_17 ?_
        refine V.aload_n (pc := 20) 0 hC dX4_hear_20 rfl ?_
        refine V.aload_n (pc := 21) 1 hC dX4_hear_21 rfl ?_
        refine V.get (pc := 22) (v := .ref (a 18)) hC cf_X3 1 8 fl_X4_30 (by decide) gx_1 rfl dX4_hear_22 ?_
        refine V.iload_n (pc := 25) 2 hC dX4_hear_25 rfl ?_
        refine V.iald (pc := 26) (f := σ 18) hC 13 p gx_13 rfl (by omega) (by decide) dX4_hear_26 ?_
        refine V.eqi (y := ρ (32 + 3 * p)) (hT.2.2.1.2.2.1 p (by omega)) ?_
        refine V.put (pc := 27) (v := .int (ρ (32 + 3 * p))) hC cf_X4 5 4 (wX k g a (va_up σ 81 (fun _ => 0)) (va_up (va_up (va_up ν 82 (fun _ => 0)) 83 (fun _ => 0)) 84 (fun _ => ρ (32 + 3 * p)))) fl_X4_33 (by decide) gx_5 rfl rfl rfl (Nat.le_of_ble_eq_true rfl) rfl dX4_hear_27 ?_
        refine V.aload_n (pc := 30) 0 hC dX4_hear_30 rfl ?_
        refine V.iload_n (pc := 31) 2 hC dX4_hear_31 rfl ?_
        refine V.put (pc := 32) (v := .int (nI p)) hC cf_X4 5 5 (wX k g a (va_up σ 81 (fun _ => 0)) (va_up (va_up (va_up (va_up ν 82 (fun _ => 0)) 83 (fun _ => 0)) 84 (fun _ => ρ (32 + 3 * p))) 85 (fun _ => nI p))) fl_X4_36 (by decide) gx_5 rfl rfl rfl (Nat.le_of_ble_eq_true rfl) rfl dX4_hear_32 ?_
        refine V.aload_n (pc := 35) 0 hC dX4_hear_35 rfl ?_
        refine V.iload_n (pc := 36) 3 hC dX4_hear_36 rfl ?_
        refine V.aload_n (pc := 37) 0 hC dX4_hear_37 rfl ?_
        refine V.get (pc := 38) (v := .int 0) hC cf_X4 5 3 fl_X4_28 (by decide) gx_5 rfl dX4_hear_38 ?_
        refine V.iload (pc := 41) 4 hC dX4_hear_41 rfl ?_
        refine V.iconst (pc := 43) 0 hC dX4_hear_43 (by decide) ?_
        refine V.sts (st' := [.int (nI 0), .int x, .int 0, .int 1, .ref (a 5)]) (stc (nl 0) (stk (stk (stk (stk rfl))))) ?_
        refine V.callV0 (pc := 44) (as := [.int 1, .int 0, .int x, .int (nI 0)]) hC (c_call_0_1_0 (va_up σ 81 (fun _ => 0)) (va_up (va_up (va_up (va_up ν 82 (fun _ => 0)) 83 (fun _ => 0)) 84 (fun _ => ρ (32 + 3 * p))) 85 (fun _ => nI p)) x 0 rfl rfl (isN.mk (n := 0) rfl (by omega) (by omega)) (by omega)) mu_X4_call ml_X4_39 (by decide) ⟨5, 4, TX4, 6, _, rfl, gx_5⟩ rfl (Nat.le_of_ble_eq_true rfl) dX4_hear_44 ?_
        rintro _ ⟨f44_0, i44_1⟩ ⟨rfl, hu44_0, hu44_1⟩
        have hu44_0 : (f44_0, i44_1) = bgs [11, 10] ((σ 80), 0) := hu44_0
        have hu44_1 : isN i44_1 30 := hu44_1
        show V X (wX k g a (va_up (va_up σ 81 (fun _ => i44_1)) 80 f44_0) (va_up (va_up (va_up (va_up ν 82 (fun _ => 0)) 83 (fun _ => 0)) 84 (fun _ => ρ (32 + 3 * p))) 85 (fun _ => nI p))) [(0, .ref (a 5)), (1, .ref (a 1)), (2, .int (nI p)), (3, .int 1), (4, .int x)] [.int ((x + (nI p)) * 2)] 47
        exact hR ((x + (nI p)) * 2) (f44_0, i44_1, 0, 0, ρ (32 + 3 * p), nI p, (x + (nI p)) * 2) _ _ dX4_hear_47 rfl ⟨rfl, by rw [hu44_0, e0] <;> rfl, hu44_1, (bI_f (fun q => absurd q.1 (by decide))).symm, fun _ => by rw [e0] <;> rfl⟩
      · by_cases e1 : ρ (31 + 3 * p) = 1
        · refine V.eqi (y := 1) e1 ?_
          refine V.put (pc := 17) (v := .int 1) hC cf_X4 5 3 (wX k g a (va_up σ 81 (fun _ => 0)) (va_up (va_up ν 82 (fun _ => 0)) 83 (fun _ => 1))) fl_X4_28 (by decide) gx_5 rfl rfl rfl (Nat.le_of_ble_eq_true rfl) rfl dX4_hear_17 ?_
          refine V.aload_n (pc := 20) 0 hC dX4_hear_20 rfl ?_
          refine V.aload_n (pc := 21) 1 hC dX4_hear_21 rfl ?_
          refine V.get (pc := 22) (v := .ref (a 18)) hC cf_X3 1 8 fl_X4_30 (by decide) gx_1 rfl dX4_hear_22 ?_
          refine V.iload_n (pc := 25) 2 hC dX4_hear_25 rfl ?_
          refine V.iald (pc := 26) (f := σ 18) hC 13 p gx_13 rfl (by omega) (by decide) dX4_hear_26 ?_
          refine V.eqi (y := ρ (32 + 3 * p)) (hT.2.2.1.2.2.1 p (by omega)) ?_
          refine V.put (pc := 27) (v := .int (ρ (32 + 3 * p))) hC cf_X4 5 4 (wX k g a (va_up σ 81 (fun _ => 0)) (va_up (va_up (va_up ν 82 (fun _ => 0)) 83 (fun _ => 1)) 84 (fun _ => ρ (32 + 3 * p)))) fl_X4_33 (by decide) gx_5 rfl rfl rfl (Nat.le_of_ble_eq_true rfl) rfl dX4_hear_27 ?_
          refine V.aload_n (pc := 30) 0 hC dX4_hear_30 rfl ?_
          refine V.iload_n (pc := 31) 2 hC dX4_hear_31 rfl ?_
          refine V.put (pc := 32) (v := .int (nI p)) hC cf_X4 5 5 (wX k g a (va_up σ 81 (fun _ => 0)) (va_up (va_up (va_up (va_up ν 82 (fun _ => 0)) 83 (fun _ => 1)) 84 (fun _ => ρ (32 + 3 * p))) 85 (fun _ => nI p))) fl_X4_36 (by decide) gx_5 rfl rfl rfl (Nat.le_of_ble_eq_true rfl) rfl dX4_hear_32 ?_
          refine V.aload_n (pc := 35) 0 hC dX4_hear_35 rfl ?_
          refine V.iload_n (pc := 36) 3 hC dX4_hear_36 rfl ?_
          refine V.aload_n (pc := 37) 0 hC dX4_hear_37 rfl ?_
          refine V.get (pc := 38) (v := .int 1) hC cf_X4 5 3 fl_X4_28 (by decide) gx_5 rfl dX4_hear_38 ?_
          refine V.iload (pc := 41) 4 hC dX4_hear_41 rfl ?_
          refine V.iconst (pc := 43) 0 hC dX4_hear_43 (by decide) ?_
          refine V.sts (st' := [.int (nI 0), .int x, .int 1, .int 1, .ref (a 5)]) (stc (nl 0) (stk (stk (stk (stk rfl))))) ?_
          refine V.callV0 (pc := 44) (as := [.int 1, .int 1, .int x, .int (nI 0)]) hC (c_call_1_1_1 (va_up σ 81 (fun _ => 0)) (va_up (va_up (va_up (va_up ν 82 (fun _ => 0)) 83 (fun _ => 1)) 84 (fun _ => ρ (32 + 3 * p))) 85 (fun _ => nI p)) x 0 rfl rfl (isN.mk (n := 0) rfl (by omega) (by omega)) (by omega)) mu_X4_call ml_X4_39 (by decide) ⟨5, 4, TX4, 6, _, rfl, gx_5⟩ rfl (Nat.le_of_ble_eq_true rfl) dX4_hear_44 ?_
          rintro _ ⟨f44_0, i44_1⟩ ⟨rfl, hu44_0, hu44_1⟩
          have hu44_0 : (f44_0, i44_1) = bgs [11, 20, 10] ((σ 80), 0) := hu44_0
          have hu44_1 : isN i44_1 30 := hu44_1
          show V X (wX k g a (va_up (va_up σ 81 (fun _ => i44_1)) 80 f44_0) (va_up (va_up (va_up (va_up ν 82 (fun _ => 0)) 83 (fun _ => 1)) 84 (fun _ => ρ (32 + 3 * p))) 85 (fun _ => nI p))) [(0, .ref (a 5)), (1, .ref (a 1)), (2, .int (nI p)), (3, .int 1), (4, .int x)] [.int (((x + (nI p)) - 4) * 2)] 47
          exact hR (((x + (nI p)) - 4) * 2) (f44_0, i44_1, 0, 1, ρ (32 + 3 * p), nI p, ((x + (nI p)) - 4) * 2) _ _ dX4_hear_47 rfl ⟨rfl, by rw [hu44_0, e1] <;> rfl, hu44_1, (bI_f (fun q => absurd q.1 (by decide))).symm, fun _ => by rw [e1] <;> rfl⟩
        · by_cases e2 : ρ (31 + 3 * p) = 2
          · refine V.eqi (y := 2) e2 ?_
            refine V.put (pc := 17) (v := .int 2) hC cf_X4 5 3 (wX k g a (va_up σ 81 (fun _ => 0)) (va_up (va_up ν 82 (fun _ => 0)) 83 (fun _ => 2))) fl_X4_28 (by decide) gx_5 rfl rfl rfl (Nat.le_of_ble_eq_true rfl) rfl dX4_hear_17 ?_
            refine V.aload_n (pc := 20) 0 hC dX4_hear_20 rfl ?_
            refine V.aload_n (pc := 21) 1 hC dX4_hear_21 rfl ?_
            refine V.get (pc := 22) (v := .ref (a 18)) hC cf_X3 1 8 fl_X4_30 (by decide) gx_1 rfl dX4_hear_22 ?_
            refine V.iload_n (pc := 25) 2 hC dX4_hear_25 rfl ?_
            refine V.iald (pc := 26) (f := σ 18) hC 13 p gx_13 rfl (by omega) (by decide) dX4_hear_26 ?_
            refine V.eqi (y := ρ (32 + 3 * p)) (hT.2.2.1.2.2.1 p (by omega)) ?_
            refine V.put (pc := 27) (v := .int (ρ (32 + 3 * p))) hC cf_X4 5 4 (wX k g a (va_up σ 81 (fun _ => 0)) (va_up (va_up (va_up ν 82 (fun _ => 0)) 83 (fun _ => 2)) 84 (fun _ => ρ (32 + 3 * p)))) fl_X4_33 (by decide) gx_5 rfl rfl rfl (Nat.le_of_ble_eq_true rfl) rfl dX4_hear_27 ?_
            refine V.aload_n (pc := 30) 0 hC dX4_hear_30 rfl ?_
            refine V.iload_n (pc := 31) 2 hC dX4_hear_31 rfl ?_
            refine V.put (pc := 32) (v := .int (nI p)) hC cf_X4 5 5 (wX k g a (va_up σ 81 (fun _ => 0)) (va_up (va_up (va_up (va_up ν 82 (fun _ => 0)) 83 (fun _ => 2)) 84 (fun _ => ρ (32 + 3 * p))) 85 (fun _ => nI p))) fl_X4_36 (by decide) gx_5 rfl rfl rfl (Nat.le_of_ble_eq_true rfl) rfl dX4_hear_32 ?_
            refine V.aload_n (pc := 35) 0 hC dX4_hear_35 rfl ?_
            refine V.iload_n (pc := 36) 3 hC dX4_hear_36 rfl ?_
            refine V.aload_n (pc := 37) 0 hC dX4_hear_37 rfl ?_
            refine V.get (pc := 38) (v := .int 2) hC cf_X4 5 3 fl_X4_28 (by decide) gx_5 rfl dX4_hear_38 ?_
            refine V.iload (pc := 41) 4 hC dX4_hear_41 rfl ?_
            refine V.iconst (pc := 43) 0 hC dX4_hear_43 (by decide) ?_
            refine V.sts (st' := [.int (nI 0), .int x, .int 2, .int 1, .ref (a 5)]) (stc (nl 0) (stk (stk (stk (stk rfl))))) ?_
            refine V.callV0 (pc := 44) (as := [.int 1, .int 2, .int x, .int (nI 0)]) hC (c_call_2_1_2 (va_up σ 81 (fun _ => 0)) (va_up (va_up (va_up (va_up ν 82 (fun _ => 0)) 83 (fun _ => 2)) 84 (fun _ => ρ (32 + 3 * p))) 85 (fun _ => nI p)) x 0 rfl rfl (isN.mk (n := 0) rfl (by omega) (by omega)) (by omega)) mu_X4_call ml_X4_39 (by decide) ⟨5, 4, TX4, 6, _, rfl, gx_5⟩ rfl (Nat.le_of_ble_eq_true rfl) dX4_hear_44 ?_
            rintro _ ⟨f44_0, i44_1⟩ ⟨rfl, hu44_0, hu44_1⟩
            have hu44_0 : (f44_0, i44_1) = bgs [30, 11, 10] ((σ 80), 0) := hu44_0
            have hu44_1 : isN i44_1 30 := hu44_1
            show V X (wX k g a (va_up (va_up σ 81 (fun _ => i44_1)) 80 f44_0) (va_up (va_up (va_up (va_up ν 82 (fun _ => 0)) 83 (fun _ => 2)) 84 (fun _ => ρ (32 + 3 * p))) 85 (fun _ => nI p))) [(0, .ref (a 5)), (1, .ref (a 1)), (2, .int (nI p)), (3, .int 1), (4, .int x)] [.int (-((x + (nI p)) * 2))] 47
            exact hR (-((x + (nI p)) * 2)) (f44_0, i44_1, 0, 2, ρ (32 + 3 * p), nI p, -((x + (nI p)) * 2)) _ _ dX4_hear_47 rfl ⟨rfl, by rw [hu44_0, e2] <;> rfl, hu44_1, (bI_f (fun q => absurd q.1 (by decide))).symm, fun _ => by rw [e2] <;> rfl⟩
          · by_cases e3 : ρ (31 + 3 * p) = 3
            · refine V.eqi (y := 3) e3 ?_
              refine V.put (pc := 17) (v := .int 3) hC cf_X4 5 3 (wX k g a (va_up σ 81 (fun _ => 0)) (va_up (va_up ν 82 (fun _ => 0)) 83 (fun _ => 3))) fl_X4_28 (by decide) gx_5 rfl rfl rfl (Nat.le_of_ble_eq_true rfl) rfl dX4_hear_17 ?_
              refine V.aload_n (pc := 20) 0 hC dX4_hear_20 rfl ?_
              refine V.aload_n (pc := 21) 1 hC dX4_hear_21 rfl ?_
              refine V.get (pc := 22) (v := .ref (a 18)) hC cf_X3 1 8 fl_X4_30 (by decide) gx_1 rfl dX4_hear_22 ?_
              refine V.iload_n (pc := 25) 2 hC dX4_hear_25 rfl ?_
              refine V.iald (pc := 26) (f := σ 18) hC 13 p gx_13 rfl (by omega) (by decide) dX4_hear_26 ?_
              refine V.eqi (y := ρ (32 + 3 * p)) (hT.2.2.1.2.2.1 p (by omega)) ?_
              refine V.put (pc := 27) (v := .int (ρ (32 + 3 * p))) hC cf_X4 5 4 (wX k g a (va_up σ 81 (fun _ => 0)) (va_up (va_up (va_up ν 82 (fun _ => 0)) 83 (fun _ => 3)) 84 (fun _ => ρ (32 + 3 * p)))) fl_X4_33 (by decide) gx_5 rfl rfl rfl (Nat.le_of_ble_eq_true rfl) rfl dX4_hear_27 ?_
              refine V.aload_n (pc := 30) 0 hC dX4_hear_30 rfl ?_
              refine V.iload_n (pc := 31) 2 hC dX4_hear_31 rfl ?_
              refine V.put (pc := 32) (v := .int (nI p)) hC cf_X4 5 5 (wX k g a (va_up σ 81 (fun _ => 0)) (va_up (va_up (va_up (va_up ν 82 (fun _ => 0)) 83 (fun _ => 3)) 84 (fun _ => ρ (32 + 3 * p))) 85 (fun _ => nI p))) fl_X4_36 (by decide) gx_5 rfl rfl rfl (Nat.le_of_ble_eq_true rfl) rfl dX4_hear_32 ?_
              refine V.aload_n (pc := 35) 0 hC dX4_hear_35 rfl ?_
              refine V.iload_n (pc := 36) 3 hC dX4_hear_36 rfl ?_
              refine V.aload_n (pc := 37) 0 hC dX4_hear_37 rfl ?_
              refine V.get (pc := 38) (v := .int 3) hC cf_X4 5 3 fl_X4_28 (by decide) gx_5 rfl dX4_hear_38 ?_
              refine V.iload (pc := 41) 4 hC dX4_hear_41 rfl ?_
              refine V.iconst (pc := 43) 0 hC dX4_hear_43 (by decide) ?_
              refine V.sts (st' := [.int (nI 0), .int x, .int 3, .int 1, .ref (a 5)]) (stc (nl 0) (stk (stk (stk (stk rfl))))) ?_
              refine V.callV0 (pc := 44) (as := [.int 1, .int 3, .int x, .int (nI 0)]) hC (c_call_3_1_3 (va_up σ 81 (fun _ => 0)) (va_up (va_up (va_up (va_up ν 82 (fun _ => 0)) 83 (fun _ => 3)) 84 (fun _ => ρ (32 + 3 * p))) 85 (fun _ => nI p)) x 0 rfl rfl (isN.mk (n := 0) rfl (by omega) (by omega)) (by omega)) mu_X4_call ml_X4_39 (by decide) ⟨5, 4, TX4, 6, _, rfl, gx_5⟩ rfl (Nat.le_of_ble_eq_true rfl) dX4_hear_44 ?_
              rintro _ ⟨f44_0, i44_1⟩ ⟨rfl, hu44_0, hu44_1⟩
              have hu44_0 : (f44_0, i44_1) = bgs [11, 10] ((σ 80), 0) := hu44_0
              have hu44_1 : isN i44_1 30 := hu44_1
              show V X (wX k g a (va_up (va_up σ 81 (fun _ => i44_1)) 80 f44_0) (va_up (va_up (va_up (va_up ν 82 (fun _ => 0)) 83 (fun _ => 3)) 84 (fun _ => ρ (32 + 3 * p))) 85 (fun _ => nI p))) [(0, .ref (a 5)), (1, .ref (a 1)), (2, .int (nI p)), (3, .int 1), (4, .int x)] [.int ((x + (nI p)) * 2)] 47
              exact hR ((x + (nI p)) * 2) (f44_0, i44_1, 0, 3, ρ (32 + 3 * p), nI p, (x + (nI p)) * 2) _ _ dX4_hear_47 rfl ⟨rfl, by rw [hu44_0, e3] <;> rfl, hu44_1, (bI_f (fun q => absurd q.1 (by decide))).symm, fun _ => by rw [e3] <;> rfl⟩
            · by_cases e4 : ρ (31 + 3 * p) = 4
              · refine V.eqi (y := 4) e4 ?_
                refine V.put (pc := 17) (v := .int 4) hC cf_X4 5 3 (wX k g a (va_up σ 81 (fun _ => 0)) (va_up (va_up ν 82 (fun _ => 0)) 83 (fun _ => 4))) fl_X4_28 (by decide) gx_5 rfl rfl rfl (Nat.le_of_ble_eq_true rfl) rfl dX4_hear_17 ?_
                refine V.aload_n (pc := 20) 0 hC dX4_hear_20 rfl ?_
                refine V.aload_n (pc := 21) 1 hC dX4_hear_21 rfl ?_
                refine V.get (pc := 22) (v := .ref (a 18)) hC cf_X3 1 8 fl_X4_30 (by decide) gx_1 rfl dX4_hear_22 ?_
                refine V.iload_n (pc := 25) 2 hC dX4_hear_25 rfl ?_
                refine V.iald (pc := 26) (f := σ 18) hC 13 p gx_13 rfl (by omega) (by decide) dX4_hear_26 ?_
                refine V.eqi (y := ρ (32 + 3 * p)) (hT.2.2.1.2.2.1 p (by omega)) ?_
                refine V.put (pc := 27) (v := .int (ρ (32 + 3 * p))) hC cf_X4 5 4 (wX k g a (va_up σ 81 (fun _ => 0)) (va_up (va_up (va_up ν 82 (fun _ => 0)) 83 (fun _ => 4)) 84 (fun _ => ρ (32 + 3 * p)))) fl_X4_33 (by decide) gx_5 rfl rfl rfl (Nat.le_of_ble_eq_true rfl) rfl dX4_hear_27 ?_
                refine V.aload_n (pc := 30) 0 hC dX4_hear_30 rfl ?_
                refine V.iload_n (pc := 31) 2 hC dX4_hear_31 rfl ?_
                refine V.put (pc := 32) (v := .int (nI p)) hC cf_X4 5 5 (wX k g a (va_up σ 81 (fun _ => 0)) (va_up (va_up (va_up (va_up ν 82 (fun _ => 0)) 83 (fun _ => 4)) 84 (fun _ => ρ (32 + 3 * p))) 85 (fun _ => nI p))) fl_X4_36 (by decide) gx_5 rfl rfl rfl (Nat.le_of_ble_eq_true rfl) rfl dX4_hear_32 ?_
                refine V.aload_n (pc := 35) 0 hC dX4_hear_35 rfl ?_
                refine V.iload_n (pc := 36) 3 hC dX4_hear_36 rfl ?_
                refine V.aload_n (pc := 37) 0 hC dX4_hear_37 rfl ?_
                refine V.get (pc := 38) (v := .int 4) hC cf_X4 5 3 fl_X4_28 (by decide) gx_5 rfl dX4_hear_38 ?_
                refine V.iload (pc := 41) 4 hC dX4_hear_41 rfl ?_
                refine V.iconst (pc := 43) 0 hC dX4_hear_43 (by decide) ?_
                refine V.sts (st' := [.int (nI 0), .int x, .int 4, .int 1, .ref (a 5)]) (stc (nl 0) (stk (stk (stk (stk rfl))))) ?_
                refine V.callV0 (pc := 44) (as := [.int 1, .int 4, .int x, .int (nI 0)]) hC (c_call_4_1_4 (va_up σ 81 (fun _ => 0)) (va_up (va_up (va_up (va_up ν 82 (fun _ => 0)) 83 (fun _ => 4)) 84 (fun _ => ρ (32 + 3 * p))) 85 (fun _ => nI p)) x 0 rfl rfl (isN.mk (n := 0) rfl (by omega) (by omega)) (by omega)) mu_X4_call ml_X4_39 (by decide) ⟨5, 4, TX4, 6, _, rfl, gx_5⟩ rfl (Nat.le_of_ble_eq_true rfl) dX4_hear_44 ?_
                rintro _ ⟨f44_0, i44_1⟩ ⟨rfl, hu44_0, hu44_1⟩
                have hu44_0 : (f44_0, i44_1) = bgs [11, 50, 20, 10] ((σ 80), 0) := hu44_0
                have hu44_1 : isN i44_1 30 := hu44_1
                show V X (wX k g a (va_up (va_up σ 81 (fun _ => i44_1)) 80 f44_0) (va_up (va_up (va_up (va_up ν 82 (fun _ => 0)) 83 (fun _ => 4)) 84 (fun _ => ρ (32 + 3 * p))) 85 (fun _ => nI p))) [(0, .ref (a 5)), (1, .ref (a 1)), (2, .int (nI p)), (3, .int 1), (4, .int x)] [.int ((((x + (nI p)) - 4) * 3) * 2)] 47
                exact hR ((((x + (nI p)) - 4) * 3) * 2) (f44_0, i44_1, 0, 4, ρ (32 + 3 * p), nI p, (((x + (nI p)) - 4) * 3) * 2) _ _ dX4_hear_47 rfl ⟨rfl, by rw [hu44_0, e4] <;> rfl, hu44_1, (bI_f (fun q => absurd q.1 (by decide))).symm, fun _ => by rw [e4] <;> rfl⟩
              · by_cases e5 : ρ (31 + 3 * p) = 5
                · refine V.eqi (y := 5) e5 ?_
                  refine V.put (pc := 17) (v := .int 5) hC cf_X4 5 3 (wX k g a (va_up σ 81 (fun _ => 0)) (va_up (va_up ν 82 (fun _ => 0)) 83 (fun _ => 5))) fl_X4_28 (by decide) gx_5 rfl rfl rfl (Nat.le_of_ble_eq_true rfl) rfl dX4_hear_17 ?_
                  refine V.aload_n (pc := 20) 0 hC dX4_hear_20 rfl ?_
                  refine V.aload_n (pc := 21) 1 hC dX4_hear_21 rfl ?_
                  refine V.get (pc := 22) (v := .ref (a 18)) hC cf_X3 1 8 fl_X4_30 (by decide) gx_1 rfl dX4_hear_22 ?_
                  refine V.iload_n (pc := 25) 2 hC dX4_hear_25 rfl ?_
                  refine V.iald (pc := 26) (f := σ 18) hC 13 p gx_13 rfl (by omega) (by decide) dX4_hear_26 ?_
                  refine V.eqi (y := ρ (32 + 3 * p)) (hT.2.2.1.2.2.1 p (by omega)) ?_
                  refine V.put (pc := 27) (v := .int (ρ (32 + 3 * p))) hC cf_X4 5 4 (wX k g a (va_up σ 81 (fun _ => 0)) (va_up (va_up (va_up ν 82 (fun _ => 0)) 83 (fun _ => 5)) 84 (fun _ => ρ (32 + 3 * p)))) fl_X4_33 (by decide) gx_5 rfl rfl rfl (Nat.le_of_ble_eq_true rfl) rfl dX4_hear_27 ?_
                  refine V.aload_n (pc := 30) 0 hC dX4_hear_30 rfl ?_
                  refine V.iload_n (pc := 31) 2 hC dX4_hear_31 rfl ?_
                  refine V.put (pc := 32) (v := .int (nI p)) hC cf_X4 5 5 (wX k g a (va_up σ 81 (fun _ => 0)) (va_up (va_up (va_up (va_up ν 82 (fun _ => 0)) 83 (fun _ => 5)) 84 (fun _ => ρ (32 + 3 * p))) 85 (fun _ => nI p))) fl_X4_36 (by decide) gx_5 rfl rfl rfl (Nat.le_of_ble_eq_true rfl) rfl dX4_hear_32 ?_
                  refine V.aload_n (pc := 35) 0 hC dX4_hear_35 rfl ?_
                  refine V.iload_n (pc := 36) 3 hC dX4_hear_36 rfl ?_
                  refine V.aload_n (pc := 37) 0 hC dX4_hear_37 rfl ?_
                  refine V.get (pc := 38) (v := .int 5) hC cf_X4 5 3 fl_X4_28 (by decide) gx_5 rfl dX4_hear_38 ?_
                  refine V.iload (pc := 41) 4 hC dX4_hear_41 rfl ?_
                  refine V.iconst (pc := 43) 0 hC dX4_hear_43 (by decide) ?_
                  refine V.sts (st' := [.int (nI 0), .int x, .int 5, .int 1, .ref (a 5)]) (stc (nl 0) (stk (stk (stk (stk rfl))))) ?_
                  refine V.callV0 (pc := 44) (as := [.int 1, .int 5, .int x, .int (nI 0)]) hC (c_call_5_1_5 (va_up σ 81 (fun _ => 0)) (va_up (va_up (va_up (va_up ν 82 (fun _ => 0)) 83 (fun _ => 5)) 84 (fun _ => ρ (32 + 3 * p))) 85 (fun _ => nI p)) x 0 rfl rfl (isN.mk (n := 0) rfl (by omega) (by omega)) (by omega)) mu_X4_call ml_X4_39 (by decide) ⟨5, 4, TX4, 6, _, rfl, gx_5⟩ rfl (Nat.le_of_ble_eq_true rfl) dX4_hear_44 ?_
                  rintro _ ⟨f44_0, i44_1⟩ ⟨rfl, hu44_0, hu44_1⟩
                  have hu44_0 : (f44_0, i44_1) = bgs [60, 30, 11, 10] ((σ 80), 0) := hu44_0
                  have hu44_1 : isN i44_1 30 := hu44_1
                  show V X (wX k g a (va_up (va_up σ 81 (fun _ => i44_1)) 80 f44_0) (va_up (va_up (va_up (va_up ν 82 (fun _ => 0)) 83 (fun _ => 5)) 84 (fun _ => ρ (32 + 3 * p))) 85 (fun _ => nI p))) [(0, .ref (a 5)), (1, .ref (a 1)), (2, .int (nI p)), (3, .int 1), (4, .int x)] [.int (-(((x + 1) + (nI p)) * 2))] 47
                  exact hR (-(((x + 1) + (nI p)) * 2)) (f44_0, i44_1, 0, 5, ρ (32 + 3 * p), nI p, -(((x + 1) + (nI p)) * 2)) _ _ dX4_hear_47 rfl ⟨rfl, by rw [hu44_0, e5] <;> rfl, hu44_1, (bI_f (fun q => absurd q.1 (by decide))).symm, fun _ => by rw [e5] <;> rfl⟩
                · have e6 : ρ (31 + 3 * p) = 6 := by have h := hI.kn hp; have hb := hI.kb hp; have g0 : ¬ nN (ρ (31 + 3 * p)) = 0 := fun q => e0 (by rw [h, q]; rfl); have g1 : ¬ nN (ρ (31 + 3 * p)) = 1 := fun q => e1 (by rw [h, q]; rfl); have g2 : ¬ nN (ρ (31 + 3 * p)) = 2 := fun q => e2 (by rw [h, q]; rfl); have g3 : ¬ nN (ρ (31 + 3 * p)) = 3 := fun q => e3 (by rw [h, q]; rfl); have g4 : ¬ nN (ρ (31 + 3 * p)) = 4 := fun q => e4 (by rw [h, q]; rfl); have g5 : ¬ nN (ρ (31 + 3 * p)) = 5 := fun q => e5 (by rw [h, q]; rfl); rw [h, show nN (ρ (31 + 3 * p)) = 6 by omega]; rfl
                  refine V.eqi (y := 6) e6 ?_
                  refine V.put (pc := 17) (v := .int 6) hC cf_X4 5 3 (wX k g a (va_up σ 81 (fun _ => 0)) (va_up (va_up ν 82 (fun _ => 0)) 83 (fun _ => 6))) fl_X4_28 (by decide) gx_5 rfl rfl rfl (Nat.le_of_ble_eq_true rfl) rfl dX4_hear_17 ?_
                  refine V.aload_n (pc := 20) 0 hC dX4_hear_20 rfl ?_
                  refine V.aload_n (pc := 21) 1 hC dX4_hear_21 rfl ?_
                  refine V.get (pc := 22) (v := .ref (a 18)) hC cf_X3 1 8 fl_X4_30 (by decide) gx_1 rfl dX4_hear_22 ?_
                  refine V.iload_n (pc := 25) 2 hC dX4_hear_25 rfl ?_
                  refine V.iald (pc := 26) (f := σ 18) hC 13 p gx_13 rfl (by omega) (by decide) dX4_hear_26 ?_
                  refine V.eqi (y := ρ (32 + 3 * p)) (hT.2.2.1.2.2.1 p (by omega)) ?_
                  refine V.put (pc := 27) (v := .int (ρ (32 + 3 * p))) hC cf_X4 5 4 (wX k g a (va_up σ 81 (fun _ => 0)) (va_up (va_up (va_up ν 82 (fun _ => 0)) 83 (fun _ => 6)) 84 (fun _ => ρ (32 + 3 * p)))) fl_X4_33 (by decide) gx_5 rfl rfl rfl (Nat.le_of_ble_eq_true rfl) rfl dX4_hear_27 ?_
                  refine V.aload_n (pc := 30) 0 hC dX4_hear_30 rfl ?_
                  refine V.iload_n (pc := 31) 2 hC dX4_hear_31 rfl ?_
                  refine V.put (pc := 32) (v := .int (nI p)) hC cf_X4 5 5 (wX k g a (va_up σ 81 (fun _ => 0)) (va_up (va_up (va_up (va_up ν 82 (fun _ => 0)) 83 (fun _ => 6)) 84 (fun _ => ρ (32 + 3 * p))) 85 (fun _ => nI p))) fl_X4_36 (by decide) gx_5 rfl rfl rfl (Nat.le_of_ble_eq_true rfl) rfl dX4_hear_32 ?_
                  refine V.aload_n (pc := 35) 0 hC dX4_hear_35 rfl ?_
                  refine V.iload_n (pc := 36) 3 hC dX4_hear_36 rfl ?_
                  refine V.aload_n (pc := 37) 0 hC dX4_hear_37 rfl ?_
                  refine V.get (pc := 38) (v := .int 6) hC cf_X4 5 3 fl_X4_28 (by decide) gx_5 rfl dX4_hear_38 ?_
                  refine V.iload (pc := 41) 4 hC dX4_hear_41 rfl ?_
                  refine V.iconst (pc := 43) 0 hC dX4_hear_43 (by decide) ?_
                  refine V.sts (st' := [.int (nI 0), .int x, .int 6, .int 1, .ref (a 5)]) (stc (nl 0) (stk (stk (stk (stk rfl))))) ?_
                  refine V.callV0 (pc := 44) (as := [.int 1, .int 6, .int x, .int (nI 0)]) hC (c_call_6_1_6 (va_up σ 81 (fun _ => 0)) (va_up (va_up (va_up (va_up ν 82 (fun _ => 0)) 83 (fun _ => 6)) 84 (fun _ => ρ (32 + 3 * p))) 85 (fun _ => nI p)) x 0 rfl rfl (isN.mk (n := 0) rfl (by omega) (by omega)) (by omega)) mu_X4_call ml_X4_39 (by decide) ⟨5, 4, TX4, 6, _, rfl, gx_5⟩ rfl (Nat.le_of_ble_eq_true rfl) dX4_hear_44 ?_
                  rintro _ ⟨f44_0, i44_1⟩ ⟨rfl, hu44_0, hu44_1⟩
                  have hu44_0 : (f44_0, i44_1) = bgs [71, 11, 70] ((σ 80), 0) := hu44_0
                  have hu44_1 : isN i44_1 30 := hu44_1
                  show V X (wX k g a (va_up (va_up σ 81 (fun _ => i44_1)) 80 f44_0) (va_up (va_up (va_up (va_up ν 82 (fun _ => 0)) 83 (fun _ => 6)) 84 (fun _ => ρ (32 + 3 * p))) 85 (fun _ => nI p))) [(0, .ref (a 5)), (1, .ref (a 1)), (2, .int (nI p)), (3, .int 1), (4, .int x)] [.int ((9 * 2) + (ρ (32 + 3 * p)))] 47
                  exact hR ((9 * 2) + (ρ (32 + 3 * p))) (f44_0, i44_1, 0, 6, ρ (32 + 3 * p), nI p, (9 * 2) + (ρ (32 + 3 * p))) _ _ dX4_hear_47 rfl ⟨rfl, by rw [hu44_0, e6] <;> rfl, hu44_1, (bI_f (fun q => absurd q.1 (by decide))).symm, fun _ => by rw [e6] <;> rfl⟩
    · by_cases v2 : v = 2
      · subst v2
        refine V.aload_n (pc := 0) 0 hC dX4_hear_0 rfl ?_
        refine V.iconst (pc := 1) 0 hC dX4_hear_1 (by decide) ?_
        refine V.put (pc := 2) (v := .int 0) hC cf_X4 5 1 (wX k g a (va_up σ 81 (fun _ => 0)) ν) fl_X4_15 (by decide) gx_5 rfl rfl rfl (Nat.le_of_ble_eq_true rfl) rfl dX4_hear_2 ?_
        refine V.aload_n (pc := 5) 0 hC dX4_hear_5 rfl ?_
        refine V.iconst (pc := 6) 0 hC dX4_hear_6 (by decide) ?_
        refine V.put (pc := 7) (v := .int 0) hC cf_X4 5 2 (wX k g a (va_up σ 81 (fun _ => 0)) (va_up ν 82 (fun _ => 0))) fl_X4_19 (by decide) gx_5 rfl rfl rfl (Nat.le_of_ble_eq_true rfl) rfl dX4_hear_7 ?_
        refine V.aload_n (pc := 10) 0 hC dX4_hear_10 rfl ?_
        refine V.aload_n (pc := 11) 1 hC dX4_hear_11 rfl ?_
        refine V.get (pc := 12) (v := .ref (a 17)) hC cf_X3 1 7 fl_X4_23 (by decide) gx_1 rfl dX4_hear_12 ?_
        refine V.iload_n (pc := 15) 2 hC dX4_hear_15 rfl ?_
        refine V.iald (pc := 16) (f := σ 17) hC 12 p gx_12 rfl (by omega) (by decide) dX4_hear_16 ?_
        refine V.eqi (y := ρ (31 + 3 * p)) (hT.2.2.1.2.1 p (by omega)) ?_
        by_cases e0 : ρ (31 + 3 * p) = 0
        · refine V.eqi (y := 0) e0 ?_
          refine V.put (pc := 17) (v := .int 0) hC cf_X4 5 3 (wX k g a (va_up σ 81 (fun _ => 0)) (va_up (va_up ν 82 (fun _ => 0)) 83 (fun _ => 0))) fl_X4_28 (by decide) gx_5 rfl rfl rfl (Nat.le_of_ble_eq_true rfl) rfl dX4_hear_17 ?_
          refine V.aload_n (pc := 20) 0 hC dX4_hear_20 rfl ?_
          refine V.aload_n (pc := 21) 1 hC dX4_hear_21 rfl ?_
          refine V.get (pc := 22) (v := .ref (a 18)) hC cf_X3 1 8 fl_X4_30 (by decide) gx_1 rfl dX4_hear_22 ?_
          refine V.iload_n (pc := 25) 2 hC dX4_hear_25 rfl ?_
          refine V.iald (pc := 26) (f := σ 18) hC 13 p gx_13 rfl (by omega) (by decide) dX4_hear_26 ?_
          refine V.eqi (y := ρ (32 + 3 * p)) (hT.2.2.1.2.2.1 p (by omega)) ?_
          refine V.put (pc := 27) (v := .int (ρ (32 + 3 * p))) hC cf_X4 5 4 (wX k g a (va_up σ 81 (fun _ => 0)) (va_up (va_up (va_up ν 82 (fun _ => 0)) 83 (fun _ => 0)) 84 (fun _ => ρ (32 + 3 * p)))) fl_X4_33 (by decide) gx_5 rfl rfl rfl (Nat.le_of_ble_eq_true rfl) rfl dX4_hear_27 ?_
          refine V.aload_n (pc := 30) 0 hC dX4_hear_30 rfl ?_
          refine V.iload_n (pc := 31) 2 hC dX4_hear_31 rfl ?_
          refine V.put (pc := 32) (v := .int (nI p)) hC cf_X4 5 5 (wX k g a (va_up σ 81 (fun _ => 0)) (va_up (va_up (va_up (va_up ν 82 (fun _ => 0)) 83 (fun _ => 0)) 84 (fun _ => ρ (32 + 3 * p))) 85 (fun _ => nI p))) fl_X4_36 (by decide) gx_5 rfl rfl rfl (Nat.le_of_ble_eq_true rfl) rfl dX4_hear_32 ?_
          refine V.aload_n (pc := 35) 0 hC dX4_hear_35 rfl ?_
          refine V.iload_n (pc := 36) 3 hC dX4_hear_36 rfl ?_
          refine V.aload_n (pc := 37) 0 hC dX4_hear_37 rfl ?_
          refine V.get (pc := 38) (v := .int 0) hC cf_X4 5 3 fl_X4_28 (by decide) gx_5 rfl dX4_hear_38 ?_
          refine V.iload (pc := 41) 4 hC dX4_hear_41 rfl ?_
          refine V.iconst (pc := 43) 0 hC dX4_hear_43 (by decide) ?_
          refine V.sts (st' := [.int (nI 0), .int x, .int 0, .int 2, .ref (a 5)]) (stc (nl 0) (stk (stk (stk (stk rfl))))) ?_
          refine V.callV0 (pc := 44) (as := [.int 2, .int 0, .int x, .int (nI 0)]) hC (c_call_0_2_0 (va_up σ 81 (fun _ => 0)) (va_up (va_up (va_up (va_up ν 82 (fun _ => 0)) 83 (fun _ => 0)) 84 (fun _ => ρ (32 + 3 * p))) 85 (fun _ => nI p)) x 0 rfl rfl (isN.mk (n := 0) rfl (by omega) (by omega)) (by omega)) mu_X4_call ml_X4_39 (by decide) ⟨5, 4, TX4, 6, _, rfl, gx_5⟩ rfl (Nat.le_of_ble_eq_true rfl) dX4_hear_44 ?_
          rintro _ ⟨f44_0, i44_1⟩ ⟨rfl, hu44_0, hu44_1⟩
          have hu44_0 : (f44_0, i44_1) = bgs [12, 11, 10] ((σ 80), 0) := hu44_0
          have hu44_1 : isN i44_1 30 := hu44_1
          show V X (wX k g a (va_up (va_up σ 81 (fun _ => i44_1)) 80 f44_0) (va_up (va_up (va_up (va_up ν 82 (fun _ => 0)) 83 (fun _ => 0)) 84 (fun _ => ρ (32 + 3 * p))) 85 (fun _ => nI p))) [(0, .ref (a 5)), (1, .ref (a 1)), (2, .int (nI p)), (3, .int 2), (4, .int x)] [.int (((x + (nI p)) * 2) - (ρ (32 + 3 * p)))] 47
          exact hR (((x + (nI p)) * 2) - (ρ (32 + 3 * p))) (f44_0, i44_1, 0, 0, ρ (32 + 3 * p), nI p, ((x + (nI p)) * 2) - (ρ (32 + 3 * p))) _ _ dX4_hear_47 rfl ⟨rfl, by rw [hu44_0, e0] <;> rfl, hu44_1, (bI_f (fun q => absurd q.1 (by decide))).symm, fun _ => by rw [e0] <;> rfl⟩
        · by_cases e1 : ρ (31 + 3 * p) = 1
          · refine V.eqi (y := 1) e1 ?_
            refine V.put (pc := 17) (v := .int 1) hC cf_X4 5 3 (wX k g a (va_up σ 81 (fun _ => 0)) (va_up (va_up ν 82 (fun _ => 0)) 83 (fun _ => 1))) fl_X4_28 (by decide) gx_5 rfl rfl rfl (Nat.le_of_ble_eq_true rfl) rfl dX4_hear_17 ?_
            refine V.aload_n (pc := 20) 0 hC dX4_hear_20 rfl ?_
            refine V.aload_n (pc := 21) 1 hC dX4_hear_21 rfl ?_
            refine V.get (pc := 22) (v := .ref (a 18)) hC cf_X3 1 8 fl_X4_30 (by decide) gx_1 rfl dX4_hear_22 ?_
            refine V.iload_n (pc := 25) 2 hC dX4_hear_25 rfl ?_
            refine V.iald (pc := 26) (f := σ 18) hC 13 p gx_13 rfl (by omega) (by decide) dX4_hear_26 ?_
            refine V.eqi (y := ρ (32 + 3 * p)) (hT.2.2.1.2.2.1 p (by omega)) ?_
            refine V.put (pc := 27) (v := .int (ρ (32 + 3 * p))) hC cf_X4 5 4 (wX k g a (va_up σ 81 (fun _ => 0)) (va_up (va_up (va_up ν 82 (fun _ => 0)) 83 (fun _ => 1)) 84 (fun _ => ρ (32 + 3 * p)))) fl_X4_33 (by decide) gx_5 rfl rfl rfl (Nat.le_of_ble_eq_true rfl) rfl dX4_hear_27 ?_
            refine V.aload_n (pc := 30) 0 hC dX4_hear_30 rfl ?_
            refine V.iload_n (pc := 31) 2 hC dX4_hear_31 rfl ?_
            refine V.put (pc := 32) (v := .int (nI p)) hC cf_X4 5 5 (wX k g a (va_up σ 81 (fun _ => 0)) (va_up (va_up (va_up (va_up ν 82 (fun _ => 0)) 83 (fun _ => 1)) 84 (fun _ => ρ (32 + 3 * p))) 85 (fun _ => nI p))) fl_X4_36 (by decide) gx_5 rfl rfl rfl (Nat.le_of_ble_eq_true rfl) rfl dX4_hear_32 ?_
            refine V.aload_n (pc := 35) 0 hC dX4_hear_35 rfl ?_
            refine V.iload_n (pc := 36) 3 hC dX4_hear_36 rfl ?_
            refine V.aload_n (pc := 37) 0 hC dX4_hear_37 rfl ?_
            refine V.get (pc := 38) (v := .int 1) hC cf_X4 5 3 fl_X4_28 (by decide) gx_5 rfl dX4_hear_38 ?_
            refine V.iload (pc := 41) 4 hC dX4_hear_41 rfl ?_
            refine V.iconst (pc := 43) 0 hC dX4_hear_43 (by decide) ?_
            refine V.sts (st' := [.int (nI 0), .int x, .int 1, .int 2, .ref (a 5)]) (stc (nl 0) (stk (stk (stk (stk rfl))))) ?_
            refine V.callV0 (pc := 44) (as := [.int 2, .int 1, .int x, .int (nI 0)]) hC (c_call_1_2_1 (va_up σ 81 (fun _ => 0)) (va_up (va_up (va_up (va_up ν 82 (fun _ => 0)) 83 (fun _ => 1)) 84 (fun _ => ρ (32 + 3 * p))) 85 (fun _ => nI p)) x 0 rfl rfl (isN.mk (n := 0) rfl (by omega) (by omega)) (by omega)) mu_X4_call ml_X4_39 (by decide) ⟨5, 4, TX4, 6, _, rfl, gx_5⟩ rfl (Nat.le_of_ble_eq_true rfl) dX4_hear_44 ?_
            rintro _ ⟨f44_0, i44_1⟩ ⟨rfl, hu44_0, hu44_1⟩
            have hu44_0 : (f44_0, i44_1) = bgs [12, 11, 20, 10] ((σ 80), 0) := hu44_0
            have hu44_1 : isN i44_1 30 := hu44_1
            show V X (wX k g a (va_up (va_up σ 81 (fun _ => i44_1)) 80 f44_0) (va_up (va_up (va_up (va_up ν 82 (fun _ => 0)) 83 (fun _ => 1)) 84 (fun _ => ρ (32 + 3 * p))) 85 (fun _ => nI p))) [(0, .ref (a 5)), (1, .ref (a 1)), (2, .int (nI p)), (3, .int 2), (4, .int x)] [.int ((((x + (nI p)) - 4) * 2) - (ρ (32 + 3 * p)))] 47
            exact hR ((((x + (nI p)) - 4) * 2) - (ρ (32 + 3 * p))) (f44_0, i44_1, 0, 1, ρ (32 + 3 * p), nI p, (((x + (nI p)) - 4) * 2) - (ρ (32 + 3 * p))) _ _ dX4_hear_47 rfl ⟨rfl, by rw [hu44_0, e1] <;> rfl, hu44_1, (bI_f (fun q => absurd q.1 (by decide))).symm, fun _ => by rw [e1] <;> rfl⟩
          · by_cases e2 : ρ (31 + 3 * p) = 2
            · refine V.eqi (y := 2) e2 ?_
              refine V.put (pc := 17) (v := .int 2) hC cf_X4 5 3 (wX k g a (va_up σ 81 (fun _ => 0)) (va_up (va_up ν 82 (fun _ => 0)) 83 (fun _ => 2))) fl_X4_28 (by decide) gx_5 rfl rfl rfl (Nat.le_of_ble_eq_true rfl) rfl dX4_hear_17 ?_
              refine V.aload_n (pc := 20) 0 hC dX4_hear_20 rfl ?_
              refine V.aload_n (pc := 21) 1 hC dX4_hear_21 rfl ?_
              refine V.get (pc := 22) (v := .ref (a 18)) hC cf_X3 1 8 fl_X4_30 (by decide) gx_1 rfl dX4_hear_22 ?_
              refine V.iload_n (pc := 25) 2 hC dX4_hear_25 rfl ?_
              refine V.iald (pc := 26) (f := σ 18) hC 13 p gx_13 rfl (by omega) (by decide) dX4_hear_26 ?_
              refine V.eqi (y := ρ (32 + 3 * p)) (hT.2.2.1.2.2.1 p (by omega)) ?_
              refine V.put (pc := 27) (v := .int (ρ (32 + 3 * p))) hC cf_X4 5 4 (wX k g a (va_up σ 81 (fun _ => 0)) (va_up (va_up (va_up ν 82 (fun _ => 0)) 83 (fun _ => 2)) 84 (fun _ => ρ (32 + 3 * p)))) fl_X4_33 (by decide) gx_5 rfl rfl rfl (Nat.le_of_ble_eq_true rfl) rfl dX4_hear_27 ?_
              refine V.aload_n (pc := 30) 0 hC dX4_hear_30 rfl ?_
              refine V.iload_n (pc := 31) 2 hC dX4_hear_31 rfl ?_
              refine V.put (pc := 32) (v := .int (nI p)) hC cf_X4 5 5 (wX k g a (va_up σ 81 (fun _ => 0)) (va_up (va_up (va_up (va_up ν 82 (fun _ => 0)) 83 (fun _ => 2)) 84 (fun _ => ρ (32 + 3 * p))) 85 (fun _ => nI p))) fl_X4_36 (by decide) gx_5 rfl rfl rfl (Nat.le_of_ble_eq_true rfl) rfl dX4_hear_32 ?_
              refine V.aload_n (pc := 35) 0 hC dX4_hear_35 rfl ?_
              refine V.iload_n (pc := 36) 3 hC dX4_hear_36 rfl ?_
              refine V.aload_n (pc := 37) 0 hC dX4_hear_37 rfl ?_
              refine V.get (pc := 38) (v := .int 2) hC cf_X4 5 3 fl_X4_28 (by decide) gx_5 rfl dX4_hear_38 ?_
              refine V.iload (pc := 41) 4 hC dX4_hear_41 rfl ?_
              refine V.iconst (pc := 43) 0 hC dX4_hear_43 (by decide) ?_
              refine V.sts (st' := [.int (nI 0), .int x, .int 2, .int 2, .ref (a 5)]) (stc (nl 0) (stk (stk (stk (stk rfl))))) ?_
              refine V.callV0 (pc := 44) (as := [.int 2, .int 2, .int x, .int (nI 0)]) hC (c_call_2_2_2 (va_up σ 81 (fun _ => 0)) (va_up (va_up (va_up (va_up ν 82 (fun _ => 0)) 83 (fun _ => 2)) 84 (fun _ => ρ (32 + 3 * p))) 85 (fun _ => nI p)) x 0 rfl rfl (isN.mk (n := 0) rfl (by omega) (by omega)) (by omega)) mu_X4_call ml_X4_39 (by decide) ⟨5, 4, TX4, 6, _, rfl, gx_5⟩ rfl (Nat.le_of_ble_eq_true rfl) dX4_hear_44 ?_
              rintro _ ⟨f44_0, i44_1⟩ ⟨rfl, hu44_0, hu44_1⟩
              have hu44_0 : (f44_0, i44_1) = bgs [12, 30, 11, 10] ((σ 80), 0) := hu44_0
              have hu44_1 : isN i44_1 30 := hu44_1
              show V X (wX k g a (va_up (va_up σ 81 (fun _ => i44_1)) 80 f44_0) (va_up (va_up (va_up (va_up ν 82 (fun _ => 0)) 83 (fun _ => 2)) 84 (fun _ => ρ (32 + 3 * p))) 85 (fun _ => nI p))) [(0, .ref (a 5)), (1, .ref (a 1)), (2, .int (nI p)), (3, .int 2), (4, .int x)] [.int ((-((x + (nI p)) * 2)) - (ρ (32 + 3 * p)))] 47
              exact hR ((-((x + (nI p)) * 2)) - (ρ (32 + 3 * p))) (f44_0, i44_1, 0, 2, ρ (32 + 3 * p), nI p, (-((x + (nI p)) * 2)) - (ρ (32 + 3 * p))) _ _ dX4_hear_47 rfl ⟨rfl, by rw [hu44_0, e2] <;> rfl, hu44_1, (bI_f (fun q => absurd q.1 (by decide))).symm, fun _ => by rw [e2] <;> rfl⟩
            · by_cases e3 : ρ (31 + 3 * p) = 3
              · refine V.eqi (y := 3) e3 ?_
                refine V.put (pc := 17) (v := .int 3) hC cf_X4 5 3 (wX k g a (va_up σ 81 (fun _ => 0)) (va_up (va_up ν 82 (fun _ => 0)) 83 (fun _ => 3))) fl_X4_28 (by decide) gx_5 rfl rfl rfl (Nat.le_of_ble_eq_true rfl) rfl dX4_hear_17 ?_
                refine V.aload_n (pc := 20) 0 hC dX4_hear_20 rfl ?_
                refine V.aload_n (pc := 21) 1 hC dX4_hear_21 rfl ?_
                refine V.get (pc := 22) (v := .ref (a 18)) hC cf_X3 1 8 fl_X4_30 (by decide) gx_1 rfl dX4_hear_22 ?_
                refine V.iload_n (pc := 25) 2 hC dX4_hear_25 rfl ?_
                refine V.iald (pc := 26) (f := σ 18) hC 13 p gx_13 rfl (by omega) (by decide) dX4_hear_26 ?_
                refine V.eqi (y := ρ (32 + 3 * p)) (hT.2.2.1.2.2.1 p (by omega)) ?_
                refine V.put (pc := 27) (v := .int (ρ (32 + 3 * p))) hC cf_X4 5 4 (wX k g a (va_up σ 81 (fun _ => 0)) (va_up (va_up (va_up ν 82 (fun _ => 0)) 83 (fun _ => 3)) 84 (fun _ => ρ (32 + 3 * p)))) fl_X4_33 (by decide) gx_5 rfl rfl rfl (Nat.le_of_ble_eq_true rfl) rfl dX4_hear_27 ?_
                refine V.aload_n (pc := 30) 0 hC dX4_hear_30 rfl ?_
                refine V.iload_n (pc := 31) 2 hC dX4_hear_31 rfl ?_
                refine V.put (pc := 32) (v := .int (nI p)) hC cf_X4 5 5 (wX k g a (va_up σ 81 (fun _ => 0)) (va_up (va_up (va_up (va_up ν 82 (fun _ => 0)) 83 (fun _ => 3)) 84 (fun _ => ρ (32 + 3 * p))) 85 (fun _ => nI p))) fl_X4_36 (by decide) gx_5 rfl rfl rfl (Nat.le_of_ble_eq_true rfl) rfl dX4_hear_32 ?_
                refine V.aload_n (pc := 35) 0 hC dX4_hear_35 rfl ?_
                refine V.iload_n (pc := 36) 3 hC dX4_hear_36 rfl ?_
                refine V.aload_n (pc := 37) 0 hC dX4_hear_37 rfl ?_
                refine V.get (pc := 38) (v := .int 3) hC cf_X4 5 3 fl_X4_28 (by decide) gx_5 rfl dX4_hear_38 ?_
                refine V.iload (pc := 41) 4 hC dX4_hear_41 rfl ?_
                refine V.iconst (pc := 43) 0 hC dX4_hear_43 (by decide) ?_
                refine V.sts (st' := [.int (nI 0), .int x, .int 3, .int 2, .ref (a 5)]) (stc (nl 0) (stk (stk (stk (stk rfl))))) ?_
                refine V.callV0 (pc := 44) (as := [.int 2, .int 3, .int x, .int (nI 0)]) hC (c_call_3_2_3 (va_up σ 81 (fun _ => 0)) (va_up (va_up (va_up (va_up ν 82 (fun _ => 0)) 83 (fun _ => 3)) 84 (fun _ => ρ (32 + 3 * p))) 85 (fun _ => nI p)) x 0 rfl rfl (isN.mk (n := 0) rfl (by omega) (by omega)) (by omega)) mu_X4_call ml_X4_39 (by decide) ⟨5, 4, TX4, 6, _, rfl, gx_5⟩ rfl (Nat.le_of_ble_eq_true rfl) dX4_hear_44 ?_
                rintro _ ⟨f44_0, i44_1⟩ ⟨rfl, hu44_0, hu44_1⟩
                have hu44_0 : (f44_0, i44_1) = bgs [40, 12, 11, 10] ((σ 80), 0) := hu44_0
                have hu44_1 : isN i44_1 30 := hu44_1
                show V X (wX k g a (va_up (va_up σ 81 (fun _ => i44_1)) 80 f44_0) (va_up (va_up (va_up (va_up ν 82 (fun _ => 0)) 83 (fun _ => 3)) 84 (fun _ => ρ (32 + 3 * p))) 85 (fun _ => nI p))) [(0, .ref (a 5)), (1, .ref (a 1)), (2, .int (nI p)), (3, .int 2), (4, .int x)] [.int ((((x / 2) + (nI p)) * 2) - (ρ (32 + 3 * p)))] 47
                exact hR ((((x / 2) + (nI p)) * 2) - (ρ (32 + 3 * p))) (f44_0, i44_1, 0, 3, ρ (32 + 3 * p), nI p, (((x / 2) + (nI p)) * 2) - (ρ (32 + 3 * p))) _ _ dX4_hear_47 rfl ⟨rfl, by rw [hu44_0, e3] <;> rfl, hu44_1, (bI_f (fun q => absurd q.1 (by decide))).symm, fun _ => by rw [e3] <;> rfl⟩
              · by_cases e4 : ρ (31 + 3 * p) = 4
                · refine V.eqi (y := 4) e4 ?_
                  refine V.put (pc := 17) (v := .int 4) hC cf_X4 5 3 (wX k g a (va_up σ 81 (fun _ => 0)) (va_up (va_up ν 82 (fun _ => 0)) 83 (fun _ => 4))) fl_X4_28 (by decide) gx_5 rfl rfl rfl (Nat.le_of_ble_eq_true rfl) rfl dX4_hear_17 ?_
                  refine V.aload_n (pc := 20) 0 hC dX4_hear_20 rfl ?_
                  refine V.aload_n (pc := 21) 1 hC dX4_hear_21 rfl ?_
                  refine V.get (pc := 22) (v := .ref (a 18)) hC cf_X3 1 8 fl_X4_30 (by decide) gx_1 rfl dX4_hear_22 ?_
                  refine V.iload_n (pc := 25) 2 hC dX4_hear_25 rfl ?_
                  refine V.iald (pc := 26) (f := σ 18) hC 13 p gx_13 rfl (by omega) (by decide) dX4_hear_26 ?_
                  refine V.eqi (y := ρ (32 + 3 * p)) (hT.2.2.1.2.2.1 p (by omega)) ?_
                  refine V.put (pc := 27) (v := .int (ρ (32 + 3 * p))) hC cf_X4 5 4 (wX k g a (va_up σ 81 (fun _ => 0)) (va_up (va_up (va_up ν 82 (fun _ => 0)) 83 (fun _ => 4)) 84 (fun _ => ρ (32 + 3 * p)))) fl_X4_33 (by decide) gx_5 rfl rfl rfl (Nat.le_of_ble_eq_true rfl) rfl dX4_hear_27 ?_
                  refine V.aload_n (pc := 30) 0 hC dX4_hear_30 rfl ?_
                  refine V.iload_n (pc := 31) 2 hC dX4_hear_31 rfl ?_
                  refine V.put (pc := 32) (v := .int (nI p)) hC cf_X4 5 5 (wX k g a (va_up σ 81 (fun _ => 0)) (va_up (va_up (va_up (va_up ν 82 (fun _ => 0)) 83 (fun _ => 4)) 84 (fun _ => ρ (32 + 3 * p))) 85 (fun _ => nI p))) fl_X4_36 (by decide) gx_5 rfl rfl rfl (Nat.le_of_ble_eq_true rfl) rfl dX4_hear_32 ?_
                  refine V.aload_n (pc := 35) 0 hC dX4_hear_35 rfl ?_
                  refine V.iload_n (pc := 36) 3 hC dX4_hear_36 rfl ?_
                  refine V.aload_n (pc := 37) 0 hC dX4_hear_37 rfl ?_
                  refine V.get (pc := 38) (v := .int 4) hC cf_X4 5 3 fl_X4_28 (by decide) gx_5 rfl dX4_hear_38 ?_
                  refine V.iload (pc := 41) 4 hC dX4_hear_41 rfl ?_
                  refine V.iconst (pc := 43) 0 hC dX4_hear_43 (by decide) ?_
                  refine V.sts (st' := [.int (nI 0), .int x, .int 4, .int 2, .ref (a 5)]) (stc (nl 0) (stk (stk (stk (stk rfl))))) ?_
                  refine V.callV0 (pc := 44) (as := [.int 2, .int 4, .int x, .int (nI 0)]) hC (c_call_4_2_4 (va_up σ 81 (fun _ => 0)) (va_up (va_up (va_up (va_up ν 82 (fun _ => 0)) 83 (fun _ => 4)) 84 (fun _ => ρ (32 + 3 * p))) 85 (fun _ => nI p)) x 0 rfl rfl (isN.mk (n := 0) rfl (by omega) (by omega)) (by omega)) mu_X4_call ml_X4_39 (by decide) ⟨5, 4, TX4, 6, _, rfl, gx_5⟩ rfl (Nat.le_of_ble_eq_true rfl) dX4_hear_44 ?_
                  rintro _ ⟨f44_0, i44_1⟩ ⟨rfl, hu44_0, hu44_1⟩
                  have hu44_0 : (f44_0, i44_1) = bgs [51, 12, 11, 50, 20, 10] ((σ 80), 0) := hu44_0
                  have hu44_1 : isN i44_1 30 := hu44_1
                  show V X (wX k g a (va_up (va_up σ 81 (fun _ => i44_1)) 80 f44_0) (va_up (va_up (va_up (va_up ν 82 (fun _ => 0)) 83 (fun _ => 4)) 84 (fun _ => ρ (32 + 3 * p))) 85 (fun _ => nI p))) [(0, .ref (a 5)), (1, .ref (a 1)), (2, .int (nI p)), (3, .int 2), (4, .int x)] [.int ((((((x + (nI p)) - 4) * 3) * 2) - (ρ (32 + 3 * p))) ^^^ (nI p))] 47
                  exact hR ((((((x + (nI p)) - 4) * 3) * 2) - (ρ (32 + 3 * p))) ^^^ (nI p)) (f44_0, i44_1, 0, 4, ρ (32 + 3 * p), nI p, (((((x + (nI p)) - 4) * 3) * 2) - (ρ (32 + 3 * p))) ^^^ (nI p)) _ _ dX4_hear_47 rfl ⟨rfl, by rw [hu44_0, e4] <;> rfl, hu44_1, (bI_f (fun q => absurd q.1 (by decide))).symm, fun _ => by rw [e4] <;> rfl⟩
                · by_cases e5 : ρ (31 + 3 * p) = 5
                  · refine V.eqi (y := 5) e5 ?_
                    refine V.put (pc := 17) (v := .int 5) hC cf_X4 5 3 (wX k g a (va_up σ 81 (fun _ => 0)) (va_up (va_up ν 82 (fun _ => 0)) 83 (fun _ => 5))) fl_X4_28 (by decide) gx_5 rfl rfl rfl (Nat.le_of_ble_eq_true rfl) rfl dX4_hear_17 ?_
                    refine V.aload_n (pc := 20) 0 hC dX4_hear_20 rfl ?_
                    refine V.aload_n (pc := 21) 1 hC dX4_hear_21 rfl ?_
                    refine V.get (pc := 22) (v := .ref (a 18)) hC cf_X3 1 8 fl_X4_30 (by decide) gx_1 rfl dX4_hear_22 ?_
                    refine V.iload_n (pc := 25) 2 hC dX4_hear_25 rfl ?_
                    refine V.iald (pc := 26) (f := σ 18) hC 13 p gx_13 rfl (by omega) (by decide) dX4_hear_26 ?_
                    refine V.eqi (y := ρ (32 + 3 * p)) (hT.2.2.1.2.2.1 p (by omega)) ?_
                    refine V.put (pc := 27) (v := .int (ρ (32 + 3 * p))) hC cf_X4 5 4 (wX k g a (va_up σ 81 (fun _ => 0)) (va_up (va_up (va_up ν 82 (fun _ => 0)) 83 (fun _ => 5)) 84 (fun _ => ρ (32 + 3 * p)))) fl_X4_33 (by decide) gx_5 rfl rfl rfl (Nat.le_of_ble_eq_true rfl) rfl dX4_hear_27 ?_
                    refine V.aload_n (pc := 30) 0 hC dX4_hear_30 rfl ?_
                    refine V.iload_n (pc := 31) 2 hC dX4_hear_31 rfl ?_
                    refine V.put (pc := 32) (v := .int (nI p)) hC cf_X4 5 5 (wX k g a (va_up σ 81 (fun _ => 0)) (va_up (va_up (va_up (va_up ν 82 (fun _ => 0)) 83 (fun _ => 5)) 84 (fun _ => ρ (32 + 3 * p))) 85 (fun _ => nI p))) fl_X4_36 (by decide) gx_5 rfl rfl rfl (Nat.le_of_ble_eq_true rfl) rfl dX4_hear_32 ?_
                    refine V.aload_n (pc := 35) 0 hC dX4_hear_35 rfl ?_
                    refine V.iload_n (pc := 36) 3 hC dX4_hear_36 rfl ?_
                    refine V.aload_n (pc := 37) 0 hC dX4_hear_37 rfl ?_
                    refine V.get (pc := 38) (v := .int 5) hC cf_X4 5 3 fl_X4_28 (by decide) gx_5 rfl dX4_hear_38 ?_
                    refine V.iload (pc := 41) 4 hC dX4_hear_41 rfl ?_
                    refine V.iconst (pc := 43) 0 hC dX4_hear_43 (by decide) ?_
                    refine V.sts (st' := [.int (nI 0), .int x, .int 5, .int 2, .ref (a 5)]) (stc (nl 0) (stk (stk (stk (stk rfl))))) ?_
                    refine V.callV0 (pc := 44) (as := [.int 2, .int 5, .int x, .int (nI 0)]) hC (c_call_5_2_5 (va_up σ 81 (fun _ => 0)) (va_up (va_up (va_up (va_up ν 82 (fun _ => 0)) 83 (fun _ => 5)) 84 (fun _ => ρ (32 + 3 * p))) 85 (fun _ => nI p)) x 0 rfl rfl (isN.mk (n := 0) rfl (by omega) (by omega)) (by omega)) mu_X4_call ml_X4_39 (by decide) ⟨5, 4, TX4, 6, _, rfl, gx_5⟩ rfl (Nat.le_of_ble_eq_true rfl) dX4_hear_44 ?_
                    rintro _ ⟨f44_0, i44_1⟩ ⟨rfl, hu44_0, hu44_1⟩
                    have hu44_0 : (f44_0, i44_1) = bgs [12, 60, 30, 11, 10] ((σ 80), 0) := hu44_0
                    have hu44_1 : isN i44_1 30 := hu44_1
                    show V X (wX k g a (va_up (va_up σ 81 (fun _ => i44_1)) 80 f44_0) (va_up (va_up (va_up (va_up ν 82 (fun _ => 0)) 83 (fun _ => 5)) 84 (fun _ => ρ (32 + 3 * p))) 85 (fun _ => nI p))) [(0, .ref (a 5)), (1, .ref (a 1)), (2, .int (nI p)), (3, .int 2), (4, .int x)] [.int ((-(((x + 1) + (nI p)) * 2)) - (ρ (32 + 3 * p)))] 47
                    exact hR ((-(((x + 1) + (nI p)) * 2)) - (ρ (32 + 3 * p))) (f44_0, i44_1, 0, 5, ρ (32 + 3 * p), nI p, (-(((x + 1) + (nI p)) * 2)) - (ρ (32 + 3 * p))) _ _ dX4_hear_47 rfl ⟨rfl, by rw [hu44_0, e5] <;> rfl, hu44_1, (bI_f (fun q => absurd q.1 (by decide))).symm, fun _ => by rw [e5] <;> rfl⟩
                  · have e6 : ρ (31 + 3 * p) = 6 := by have h := hI.kn hp; have hb := hI.kb hp; have g0 : ¬ nN (ρ (31 + 3 * p)) = 0 := fun q => e0 (by rw [h, q]; rfl); have g1 : ¬ nN (ρ (31 + 3 * p)) = 1 := fun q => e1 (by rw [h, q]; rfl); have g2 : ¬ nN (ρ (31 + 3 * p)) = 2 := fun q => e2 (by rw [h, q]; rfl); have g3 : ¬ nN (ρ (31 + 3 * p)) = 3 := fun q => e3 (by rw [h, q]; rfl); have g4 : ¬ nN (ρ (31 + 3 * p)) = 4 := fun q => e4 (by rw [h, q]; rfl); have g5 : ¬ nN (ρ (31 + 3 * p)) = 5 := fun q => e5 (by rw [h, q]; rfl); rw [h, show nN (ρ (31 + 3 * p)) = 6 by omega]; rfl
                    refine V.eqi (y := 6) e6 ?_
                    refine V.put (pc := 17) (v := .int 6) hC cf_X4 5 3 (wX k g a (va_up σ 81 (fun _ => 0)) (va_up (va_up ν 82 (fun _ => 0)) 83 (fun _ => 6))) fl_X4_28 (by decide) gx_5 rfl rfl rfl (Nat.le_of_ble_eq_true rfl) rfl dX4_hear_17 ?_
                    refine V.aload_n (pc := 20) 0 hC dX4_hear_20 rfl ?_
                    refine V.aload_n (pc := 21) 1 hC dX4_hear_21 rfl ?_
                    refine V.get (pc := 22) (v := .ref (a 18)) hC cf_X3 1 8 fl_X4_30 (by decide) gx_1 rfl dX4_hear_22 ?_
                    refine V.iload_n (pc := 25) 2 hC dX4_hear_25 rfl ?_
                    refine V.iald (pc := 26) (f := σ 18) hC 13 p gx_13 rfl (by omega) (by decide) dX4_hear_26 ?_
                    refine V.eqi (y := ρ (32 + 3 * p)) (hT.2.2.1.2.2.1 p (by omega)) ?_
                    refine V.put (pc := 27) (v := .int (ρ (32 + 3 * p))) hC cf_X4 5 4 (wX k g a (va_up σ 81 (fun _ => 0)) (va_up (va_up (va_up ν 82 (fun _ => 0)) 83 (fun _ => 6)) 84 (fun _ => ρ (32 + 3 * p)))) fl_X4_33 (by decide) gx_5 rfl rfl rfl (Nat.le_of_ble_eq_true rfl) rfl dX4_hear_27 ?_
                    refine V.aload_n (pc := 30) 0 hC dX4_hear_30 rfl ?_
                    refine V.iload_n (pc := 31) 2 hC dX4_hear_31 rfl ?_
                    refine V.put (pc := 32) (v := .int (nI p)) hC cf_X4 5 5 (wX k g a (va_up σ 81 (fun _ => 0)) (va_up (va_up (va_up (va_up ν 82 (fun _ => 0)) 83 (fun _ => 6)) 84 (fun _ => ρ (32 + 3 * p))) 85 (fun _ => nI p))) fl_X4_36 (by decide) gx_5 rfl rfl rfl (Nat.le_of_ble_eq_true rfl) rfl dX4_hear_32 ?_
                    refine V.aload_n (pc := 35) 0 hC dX4_hear_35 rfl ?_
                    refine V.iload_n (pc := 36) 3 hC dX4_hear_36 rfl ?_
                    refine V.aload_n (pc := 37) 0 hC dX4_hear_37 rfl ?_
                    refine V.get (pc := 38) (v := .int 6) hC cf_X4 5 3 fl_X4_28 (by decide) gx_5 rfl dX4_hear_38 ?_
                    refine V.iload (pc := 41) 4 hC dX4_hear_41 rfl ?_
                    refine V.iconst (pc := 43) 0 hC dX4_hear_43 (by decide) ?_
                    refine V.sts (st' := [.int (nI 0), .int x, .int 6, .int 2, .ref (a 5)]) (stc (nl 0) (stk (stk (stk (stk rfl))))) ?_
                    refine V.callV0 (pc := 44) (as := [.int 2, .int 6, .int x, .int (nI 0)]) hC (c_call_6_2_6 (va_up σ 81 (fun _ => 0)) (va_up (va_up (va_up (va_up ν 82 (fun _ => 0)) 83 (fun _ => 6)) 84 (fun _ => ρ (32 + 3 * p))) 85 (fun _ => nI p)) x 0 rfl rfl (isN.mk (n := 0) rfl (by omega) (by omega)) (by omega)) mu_X4_call ml_X4_39 (by decide) ⟨5, 4, TX4, 6, _, rfl, gx_5⟩ rfl (Nat.le_of_ble_eq_true rfl) dX4_hear_44 ?_
                    rintro _ ⟨f44_0, i44_1⟩ ⟨rfl, hu44_0, hu44_1⟩
                    have hu44_0 : (f44_0, i44_1) = bgs [12, 71, 11, 70] ((σ 80), 0) := hu44_0
                    have hu44_1 : isN i44_1 30 := hu44_1
                    show V X (wX k g a (va_up (va_up σ 81 (fun _ => i44_1)) 80 f44_0) (va_up (va_up (va_up (va_up ν 82 (fun _ => 0)) 83 (fun _ => 6)) 84 (fun _ => ρ (32 + 3 * p))) 85 (fun _ => nI p))) [(0, .ref (a 5)), (1, .ref (a 1)), (2, .int (nI p)), (3, .int 2), (4, .int x)] [.int (((9 * 2) + (ρ (32 + 3 * p))) - (ρ (32 + 3 * p)))] 47
                    exact hR (((9 * 2) + (ρ (32 + 3 * p))) - (ρ (32 + 3 * p))) (f44_0, i44_1, 0, 6, ρ (32 + 3 * p), nI p, ((9 * 2) + (ρ (32 + 3 * p))) - (ρ (32 + 3 * p))) _ _ dX4_hear_47 rfl ⟨rfl, by rw [hu44_0, e6] <;> rfl, hu44_1, (bI_f (fun q => absurd q.1 (by decide))).symm, fun _ => by rw [e6] <;> rfl⟩
      · have v3 : v = 3 := by have h := inS_c hv (nl 3) (by omega); have g0 : ¬ nN v = 0 := fun q => v0 (by rw [h.1, q]; rfl); have g1 : ¬ nN v = 1 := fun q => v1 (by rw [h.1, q]; rfl); have g2 : ¬ nN v = 2 := fun q => v2 (by rw [h.1, q]; rfl); rw [h.1, show nN v = 3 by have := h.2; omega]; rfl
        subst v3
        refine V.aload_n (pc := 0) 0 hC dX4_hear_0 rfl ?_
        refine V.iconst (pc := 1) 0 hC dX4_hear_1 (by decide) ?_
        refine V.put (pc := 2) (v := .int 0) hC cf_X4 5 1 (wX k g a (va_up σ 81 (fun _ => 0)) ν) fl_X4_15 (by decide) gx_5 rfl rfl rfl (Nat.le_of_ble_eq_true rfl) rfl dX4_hear_2 ?_
        refine V.aload_n (pc := 5) 0 hC dX4_hear_5 rfl ?_
        refine V.iconst (pc := 6) 0 hC dX4_hear_6 (by decide) ?_
        refine V.put (pc := 7) (v := .int 0) hC cf_X4 5 2 (wX k g a (va_up σ 81 (fun _ => 0)) (va_up ν 82 (fun _ => 0))) fl_X4_19 (by decide) gx_5 rfl rfl rfl (Nat.le_of_ble_eq_true rfl) rfl dX4_hear_7 ?_
        refine V.aload_n (pc := 10) 0 hC dX4_hear_10 rfl ?_
        refine V.aload_n (pc := 11) 1 hC dX4_hear_11 rfl ?_
        refine V.get (pc := 12) (v := .ref (a 17)) hC cf_X3 1 7 fl_X4_23 (by decide) gx_1 rfl dX4_hear_12 ?_
        refine V.iload_n (pc := 15) 2 hC dX4_hear_15 rfl ?_
        refine V.iald (pc := 16) (f := σ 17) hC 12 p gx_12 rfl (by omega) (by decide) dX4_hear_16 ?_
        refine V.eqi (y := ρ (31 + 3 * p)) (hT.2.2.1.2.1 p (by omega)) ?_
        by_cases e0 : ρ (31 + 3 * p) = 0
        · refine V.eqi (y := 0) e0 ?_
          refine V.put (pc := 17) (v := .int 0) hC cf_X4 5 3 (wX k g a (va_up σ 81 (fun _ => 0)) (va_up (va_up ν 82 (fun _ => 0)) 83 (fun _ => 0))) fl_X4_28 (by decide) gx_5 rfl rfl rfl (Nat.le_of_ble_eq_true rfl) rfl dX4_hear_17 ?_
          refine V.aload_n (pc := 20) 0 hC dX4_hear_20 rfl ?_
          refine V.aload_n (pc := 21) 1 hC dX4_hear_21 rfl ?_
          refine V.get (pc := 22) (v := .ref (a 18)) hC cf_X3 1 8 fl_X4_30 (by decide) gx_1 rfl dX4_hear_22 ?_
          refine V.iload_n (pc := 25) 2 hC dX4_hear_25 rfl ?_
          refine V.iald (pc := 26) (f := σ 18) hC 13 p gx_13 rfl (by omega) (by decide) dX4_hear_26 ?_
          refine V.eqi (y := ρ (32 + 3 * p)) (hT.2.2.1.2.2.1 p (by omega)) ?_
          refine V.put (pc := 27) (v := .int (ρ (32 + 3 * p))) hC cf_X4 5 4 (wX k g a (va_up σ 81 (fun _ => 0)) (va_up (va_up (va_up ν 82 (fun _ => 0)) 83 (fun _ => 0)) 84 (fun _ => ρ (32 + 3 * p)))) fl_X4_33 (by decide) gx_5 rfl rfl rfl (Nat.le_of_ble_eq_true rfl) rfl dX4_hear_27 ?_
          refine V.aload_n (pc := 30) 0 hC dX4_hear_30 rfl ?_
          refine V.iload_n (pc := 31) 2 hC dX4_hear_31 rfl ?_
          refine V.put (pc := 32) (v := .int (nI p)) hC cf_X4 5 5 (wX k g a (va_up σ 81 (fun _ => 0)) (va_up (va_up (va_up (va_up ν 82 (fun _ => 0)) 83 (fun _ => 0)) 84 (fun _ => ρ (32 + 3 * p))) 85 (fun _ => nI p))) fl_X4_36 (by decide) gx_5 rfl rfl rfl (Nat.le_of_ble_eq_true rfl) rfl dX4_hear_32 ?_
          refine V.aload_n (pc := 35) 0 hC dX4_hear_35 rfl ?_
          refine V.iload_n (pc := 36) 3 hC dX4_hear_36 rfl ?_
          refine V.aload_n (pc := 37) 0 hC dX4_hear_37 rfl ?_
          refine V.get (pc := 38) (v := .int 0) hC cf_X4 5 3 fl_X4_28 (by decide) gx_5 rfl dX4_hear_38 ?_
          refine V.iload (pc := 41) 4 hC dX4_hear_41 rfl ?_
          refine V.iconst (pc := 43) 0 hC dX4_hear_43 (by decide) ?_
          refine V.sts (st' := [.int (nI 0), .int x, .int 0, .int 3, .ref (a 5)]) (stc (nl 0) (stk (stk (stk (stk rfl))))) ?_
          refine V.callV0 (pc := 44) (as := [.int 3, .int 0, .int x, .int (nI 0)]) hC (c_call_0_3_0 (va_up σ 81 (fun _ => 0)) (va_up (va_up (va_up (va_up ν 82 (fun _ => 0)) 83 (fun _ => 0)) 84 (fun _ => ρ (32 + 3 * p))) 85 (fun _ => nI p)) x 0 rfl rfl (isN.mk (n := 0) rfl (by omega) (by omega)) (by omega)) mu_X4_call ml_X4_39 (by decide) ⟨5, 4, TX4, 6, _, rfl, gx_5⟩ rfl (Nat.le_of_ble_eq_true rfl) dX4_hear_44 ?_
          rintro _ ⟨f44_0, i44_1, i44_2⟩ ⟨rfl, hu44_0, hu44_1, hu44_2⟩
          have hu44_0 : (f44_0, i44_1) = bgs [13] ((σ 80), 0) := hu44_0
          have hu44_1 : isN i44_1 30 := hu44_1
          have hu44_2 : i44_2 = bI ((ρ (32 + 3 * p)) - (nI p) = 0) := hu44_2
          show V X (wX k g a (va_up (va_up σ 81 (fun _ => i44_1)) 80 f44_0) (va_up (va_up (va_up (va_up ν 82 (fun _ => i44_2)) 83 (fun _ => 0)) 84 (fun _ => ρ (32 + 3 * p))) 85 (fun _ => nI p))) [(0, .ref (a 5)), (1, .ref (a 1)), (2, .int (nI p)), (3, .int 3), (4, .int x)] [.int (if (ρ (32 + 3 * p)) - (nI p) = 0 then 0 else x / ((ρ (32 + 3 * p)) - (nI p)))] 47
          exact hR (if (ρ (32 + 3 * p)) - (nI p) = 0 then 0 else x / ((ρ (32 + 3 * p)) - (nI p))) (f44_0, i44_1, i44_2, 0, ρ (32 + 3 * p), nI p, if (ρ (32 + 3 * p)) - (nI p) = 0 then 0 else x / ((ρ (32 + 3 * p)) - (nI p))) _ _ dX4_hear_47 rfl ⟨rfl, by rw [hu44_0, e0] <;> rfl, hu44_1, hu44_2.trans (bI_c ⟨fun z => ⟨rfl, z⟩, fun z => z.2⟩), fun _ => by rw [e0] <;> rfl⟩
        · by_cases e1 : ρ (31 + 3 * p) = 1
          · refine V.eqi (y := 1) e1 ?_
            refine V.put (pc := 17) (v := .int 1) hC cf_X4 5 3 (wX k g a (va_up σ 81 (fun _ => 0)) (va_up (va_up ν 82 (fun _ => 0)) 83 (fun _ => 1))) fl_X4_28 (by decide) gx_5 rfl rfl rfl (Nat.le_of_ble_eq_true rfl) rfl dX4_hear_17 ?_
            refine V.aload_n (pc := 20) 0 hC dX4_hear_20 rfl ?_
            refine V.aload_n (pc := 21) 1 hC dX4_hear_21 rfl ?_
            refine V.get (pc := 22) (v := .ref (a 18)) hC cf_X3 1 8 fl_X4_30 (by decide) gx_1 rfl dX4_hear_22 ?_
            refine V.iload_n (pc := 25) 2 hC dX4_hear_25 rfl ?_
            refine V.iald (pc := 26) (f := σ 18) hC 13 p gx_13 rfl (by omega) (by decide) dX4_hear_26 ?_
            refine V.eqi (y := ρ (32 + 3 * p)) (hT.2.2.1.2.2.1 p (by omega)) ?_
            refine V.put (pc := 27) (v := .int (ρ (32 + 3 * p))) hC cf_X4 5 4 (wX k g a (va_up σ 81 (fun _ => 0)) (va_up (va_up (va_up ν 82 (fun _ => 0)) 83 (fun _ => 1)) 84 (fun _ => ρ (32 + 3 * p)))) fl_X4_33 (by decide) gx_5 rfl rfl rfl (Nat.le_of_ble_eq_true rfl) rfl dX4_hear_27 ?_
            refine V.aload_n (pc := 30) 0 hC dX4_hear_30 rfl ?_
            refine V.iload_n (pc := 31) 2 hC dX4_hear_31 rfl ?_
            refine V.put (pc := 32) (v := .int (nI p)) hC cf_X4 5 5 (wX k g a (va_up σ 81 (fun _ => 0)) (va_up (va_up (va_up (va_up ν 82 (fun _ => 0)) 83 (fun _ => 1)) 84 (fun _ => ρ (32 + 3 * p))) 85 (fun _ => nI p))) fl_X4_36 (by decide) gx_5 rfl rfl rfl (Nat.le_of_ble_eq_true rfl) rfl dX4_hear_32 ?_
            refine V.aload_n (pc := 35) 0 hC dX4_hear_35 rfl ?_
            refine V.iload_n (pc := 36) 3 hC dX4_hear_36 rfl ?_
            refine V.aload_n (pc := 37) 0 hC dX4_hear_37 rfl ?_
            refine V.get (pc := 38) (v := .int 1) hC cf_X4 5 3 fl_X4_28 (by decide) gx_5 rfl dX4_hear_38 ?_
            refine V.iload (pc := 41) 4 hC dX4_hear_41 rfl ?_
            refine V.iconst (pc := 43) 0 hC dX4_hear_43 (by decide) ?_
            refine V.sts (st' := [.int (nI 0), .int x, .int 1, .int 3, .ref (a 5)]) (stc (nl 0) (stk (stk (stk (stk rfl))))) ?_
            refine V.callV0 (pc := 44) (as := [.int 3, .int 1, .int x, .int (nI 0)]) hC (c_call_1_3_1 (va_up σ 81 (fun _ => 0)) (va_up (va_up (va_up (va_up ν 82 (fun _ => 0)) 83 (fun _ => 1)) 84 (fun _ => ρ (32 + 3 * p))) 85 (fun _ => nI p)) x 0 rfl rfl (isN.mk (n := 0) rfl (by omega) (by omega)) (by omega)) mu_X4_call ml_X4_39 (by decide) ⟨5, 4, TX4, 6, _, rfl, gx_5⟩ rfl (Nat.le_of_ble_eq_true rfl) dX4_hear_44 ?_
            rintro _ ⟨f44_0, i44_1, i44_2⟩ ⟨rfl, hu44_0, hu44_1, hu44_2⟩
            have hu44_0 : (f44_0, i44_1) = bgs (if (ρ (32 + 3 * p)) - (nI p) = 0 then [21, 13] else [21, 13, 11, 20, 10]) ((σ 80), 0) := hu44_0
            have hu44_1 : isN i44_1 30 := hu44_1
            have hu44_2 : i44_2 = bI ((ρ (32 + 3 * p)) - (nI p) = 0) := hu44_2
            show V X (wX k g a (va_up (va_up σ 81 (fun _ => i44_1)) 80 f44_0) (va_up (va_up (va_up (va_up ν 82 (fun _ => i44_2)) 83 (fun _ => 1)) 84 (fun _ => ρ (32 + 3 * p))) 85 (fun _ => nI p))) [(0, .ref (a 5)), (1, .ref (a 1)), (2, .int (nI p)), (3, .int 3), (4, .int x)] [.int (if (ρ (32 + 3 * p)) - (nI p) = 0 then 0 else x / ((ρ (32 + 3 * p)) - (nI p)) + (((1 + (nI p)) - 4) * 2))] 47
            exact hR (if (ρ (32 + 3 * p)) - (nI p) = 0 then 0 else x / ((ρ (32 + 3 * p)) - (nI p)) + (((1 + (nI p)) - 4) * 2)) (f44_0, i44_1, i44_2, 1, ρ (32 + 3 * p), nI p, if (ρ (32 + 3 * p)) - (nI p) = 0 then 0 else x / ((ρ (32 + 3 * p)) - (nI p)) + (((1 + (nI p)) - 4) * 2)) _ _ dX4_hear_47 rfl ⟨rfl, by rw [hu44_0, e1] <;> rfl, hu44_1, hu44_2.trans (bI_c ⟨fun z => ⟨rfl, z⟩, fun z => z.2⟩), fun _ => by rw [e1] <;> rfl⟩
          · by_cases e2 : ρ (31 + 3 * p) = 2
            · refine V.eqi (y := 2) e2 ?_
              refine V.put (pc := 17) (v := .int 2) hC cf_X4 5 3 (wX k g a (va_up σ 81 (fun _ => 0)) (va_up (va_up ν 82 (fun _ => 0)) 83 (fun _ => 2))) fl_X4_28 (by decide) gx_5 rfl rfl rfl (Nat.le_of_ble_eq_true rfl) rfl dX4_hear_17 ?_
              refine V.aload_n (pc := 20) 0 hC dX4_hear_20 rfl ?_
              refine V.aload_n (pc := 21) 1 hC dX4_hear_21 rfl ?_
              refine V.get (pc := 22) (v := .ref (a 18)) hC cf_X3 1 8 fl_X4_30 (by decide) gx_1 rfl dX4_hear_22 ?_
              refine V.iload_n (pc := 25) 2 hC dX4_hear_25 rfl ?_
              refine V.iald (pc := 26) (f := σ 18) hC 13 p gx_13 rfl (by omega) (by decide) dX4_hear_26 ?_
              refine V.eqi (y := ρ (32 + 3 * p)) (hT.2.2.1.2.2.1 p (by omega)) ?_
              refine V.put (pc := 27) (v := .int (ρ (32 + 3 * p))) hC cf_X4 5 4 (wX k g a (va_up σ 81 (fun _ => 0)) (va_up (va_up (va_up ν 82 (fun _ => 0)) 83 (fun _ => 2)) 84 (fun _ => ρ (32 + 3 * p)))) fl_X4_33 (by decide) gx_5 rfl rfl rfl (Nat.le_of_ble_eq_true rfl) rfl dX4_hear_27 ?_
              refine V.aload_n (pc := 30) 0 hC dX4_hear_30 rfl ?_
              refine V.iload_n (pc := 31) 2 hC dX4_hear_31 rfl ?_
              refine V.put (pc := 32) (v := .int (nI p)) hC cf_X4 5 5 (wX k g a (va_up σ 81 (fun _ => 0)) (va_up (va_up (va_up (va_up ν 82 (fun _ => 0)) 83 (fun _ => 2)) 84 (fun _ => ρ (32 + 3 * p))) 85 (fun _ => nI p))) fl_X4_36 (by decide) gx_5 rfl rfl rfl (Nat.le_of_ble_eq_true rfl) rfl dX4_hear_32 ?_
              refine V.aload_n (pc := 35) 0 hC dX4_hear_35 rfl ?_
              refine V.iload_n (pc := 36) 3 hC dX4_hear_36 rfl ?_
              refine V.aload_n (pc := 37) 0 hC dX4_hear_37 rfl ?_
              refine V.get (pc := 38) (v := .int 2) hC cf_X4 5 3 fl_X4_28 (by decide) gx_5 rfl dX4_hear_38 ?_
              refine V.iload (pc := 41) 4 hC dX4_hear_41 rfl ?_
              refine V.iconst (pc := 43) 0 hC dX4_hear_43 (by decide) ?_
              refine V.sts (st' := [.int (nI 0), .int x, .int 2, .int 3, .ref (a 5)]) (stc (nl 0) (stk (stk (stk (stk rfl))))) ?_
              refine V.callV0 (pc := 44) (as := [.int 3, .int 2, .int x, .int (nI 0)]) hC (c_call_2_3_2 (va_up σ 81 (fun _ => 0)) (va_up (va_up (va_up (va_up ν 82 (fun _ => 0)) 83 (fun _ => 2)) 84 (fun _ => ρ (32 + 3 * p))) 85 (fun _ => nI p)) x 0 rfl rfl (isN.mk (n := 0) rfl (by omega) (by omega)) (by omega)) mu_X4_call ml_X4_39 (by decide) ⟨5, 4, TX4, 6, _, rfl, gx_5⟩ rfl (Nat.le_of_ble_eq_true rfl) dX4_hear_44 ?_
              rintro _ ⟨f44_0, i44_1, i44_2⟩ ⟨rfl, hu44_0, hu44_1, hu44_2⟩
              have hu44_0 : (f44_0, i44_1) = bgs [13] ((σ 80), 0) := hu44_0
              have hu44_1 : isN i44_1 30 := hu44_1
              have hu44_2 : i44_2 = bI ((ρ (32 + 3 * p)) - (nI p) = 0) := hu44_2
              show V X (wX k g a (va_up (va_up σ 81 (fun _ => i44_1)) 80 f44_0) (va_up (va_up (va_up (va_up ν 82 (fun _ => i44_2)) 83 (fun _ => 2)) 84 (fun _ => ρ (32 + 3 * p))) 85 (fun _ => nI p))) [(0, .ref (a 5)), (1, .ref (a 1)), (2, .int (nI p)), (3, .int 3), (4, .int x)] [.int (if (ρ (32 + 3 * p)) - (nI p) = 0 then 0 else x / ((ρ (32 + 3 * p)) - (nI p)))] 47
              exact hR (if (ρ (32 + 3 * p)) - (nI p) = 0 then 0 else x / ((ρ (32 + 3 * p)) - (nI p))) (f44_0, i44_1, i44_2, 2, ρ (32 + 3 * p), nI p, if (ρ (32 + 3 * p)) - (nI p) = 0 then 0 else x / ((ρ (32 + 3 * p)) - (nI p))) _ _ dX4_hear_47 rfl ⟨rfl, by rw [hu44_0, e2] <;> rfl, hu44_1, hu44_2.trans (bI_c ⟨fun z => ⟨rfl, z⟩, fun z => z.2⟩), fun _ => by rw [e2] <;> rfl⟩
            · by_cases e3 : ρ (31 + 3 * p) = 3
              · refine V.eqi (y := 3) e3 ?_
                refine V.put (pc := 17) (v := .int 3) hC cf_X4 5 3 (wX k g a (va_up σ 81 (fun _ => 0)) (va_up (va_up ν 82 (fun _ => 0)) 83 (fun _ => 3))) fl_X4_28 (by decide) gx_5 rfl rfl rfl (Nat.le_of_ble_eq_true rfl) rfl dX4_hear_17 ?_
                refine V.aload_n (pc := 20) 0 hC dX4_hear_20 rfl ?_
                refine V.aload_n (pc := 21) 1 hC dX4_hear_21 rfl ?_
                refine V.get (pc := 22) (v := .ref (a 18)) hC cf_X3 1 8 fl_X4_30 (by decide) gx_1 rfl dX4_hear_22 ?_
                refine V.iload_n (pc := 25) 2 hC dX4_hear_25 rfl ?_
                refine V.iald (pc := 26) (f := σ 18) hC 13 p gx_13 rfl (by omega) (by decide) dX4_hear_26 ?_
                refine V.eqi (y := ρ (32 + 3 * p)) (hT.2.2.1.2.2.1 p (by omega)) ?_
                refine V.put (pc := 27) (v := .int (ρ (32 + 3 * p))) hC cf_X4 5 4 (wX k g a (va_up σ 81 (fun _ => 0)) (va_up (va_up (va_up ν 82 (fun _ => 0)) 83 (fun _ => 3)) 84 (fun _ => ρ (32 + 3 * p)))) fl_X4_33 (by decide) gx_5 rfl rfl rfl (Nat.le_of_ble_eq_true rfl) rfl dX4_hear_27 ?_
                refine V.aload_n (pc := 30) 0 hC dX4_hear_30 rfl ?_
                refine V.iload_n (pc := 31) 2 hC dX4_hear_31 rfl ?_
                refine V.put (pc := 32) (v := .int (nI p)) hC cf_X4 5 5 (wX k g a (va_up σ 81 (fun _ => 0)) (va_up (va_up (va_up (va_up ν 82 (fun _ => 0)) 83 (fun _ => 3)) 84 (fun _ => ρ (32 + 3 * p))) 85 (fun _ => nI p))) fl_X4_36 (by decide) gx_5 rfl rfl rfl (Nat.le_of_ble_eq_true rfl) rfl dX4_hear_32 ?_
                refine V.aload_n (pc := 35) 0 hC dX4_hear_35 rfl ?_
                refine V.iload_n (pc := 36) 3 hC dX4_hear_36 rfl ?_
                refine V.aload_n (pc := 37) 0 hC dX4_hear_37 rfl ?_
                refine V.get (pc := 38) (v := .int 3) hC cf_X4 5 3 fl_X4_28 (by decide) gx_5 rfl dX4_hear_38 ?_
                refine V.iload (pc := 41) 4 hC dX4_hear_41 rfl ?_
                refine V.iconst (pc := 43) 0 hC dX4_hear_43 (by decide) ?_
                refine V.sts (st' := [.int (nI 0), .int x, .int 3, .int 3, .ref (a 5)]) (stc (nl 0) (stk (stk (stk (stk rfl))))) ?_
                refine V.callV0 (pc := 44) (as := [.int 3, .int 3, .int x, .int (nI 0)]) hC (c_call_3_3_3 (va_up σ 81 (fun _ => 0)) (va_up (va_up (va_up (va_up ν 82 (fun _ => 0)) 83 (fun _ => 3)) 84 (fun _ => ρ (32 + 3 * p))) 85 (fun _ => nI p)) x 0 rfl rfl (isN.mk (n := 0) rfl (by omega) (by omega)) (by omega)) mu_X4_call ml_X4_39 (by decide) ⟨5, 4, TX4, 6, _, rfl, gx_5⟩ rfl (Nat.le_of_ble_eq_true rfl) dX4_hear_44 ?_
                rintro _ ⟨f44_0, i44_1, i44_2⟩ ⟨rfl, hu44_0, hu44_1, hu44_2⟩
                have hu44_0 : (f44_0, i44_1) = bgs [13] ((σ 80), 0) := hu44_0
                have hu44_1 : isN i44_1 30 := hu44_1
                have hu44_2 : i44_2 = bI ((ρ (32 + 3 * p)) - (nI p) = 0) := hu44_2
                show V X (wX k g a (va_up (va_up σ 81 (fun _ => i44_1)) 80 f44_0) (va_up (va_up (va_up (va_up ν 82 (fun _ => i44_2)) 83 (fun _ => 3)) 84 (fun _ => ρ (32 + 3 * p))) 85 (fun _ => nI p))) [(0, .ref (a 5)), (1, .ref (a 1)), (2, .int (nI p)), (3, .int 3), (4, .int x)] [.int (if (ρ (32 + 3 * p)) - (nI p) = 0 then 0 else x / ((ρ (32 + 3 * p)) - (nI p)))] 47
                exact hR (if (ρ (32 + 3 * p)) - (nI p) = 0 then 0 else x / ((ρ (32 + 3 * p)) - (nI p))) (f44_0, i44_1, i44_2, 3, ρ (32 + 3 * p), nI p, if (ρ (32 + 3 * p)) - (nI p) = 0 then 0 else x / ((ρ (32 + 3 * p)) - (nI p))) _ _ dX4_hear_47 rfl ⟨rfl, by rw [hu44_0, e3] <;> rfl, hu44_1, hu44_2.trans (bI_c ⟨fun z => ⟨rfl, z⟩, fun z => z.2⟩), fun _ => by rw [e3] <;> rfl⟩
              · by_cases e4 : ρ (31 + 3 * p) = 4
                · refine V.eqi (y := 4) e4 ?_
                  refine V.put (pc := 17) (v := .int 4) hC cf_X4 5 3 (wX k g a (va_up σ 81 (fun _ => 0)) (va_up (va_up ν 82 (fun _ => 0)) 83 (fun _ => 4))) fl_X4_28 (by decide) gx_5 rfl rfl rfl (Nat.le_of_ble_eq_true rfl) rfl dX4_hear_17 ?_
                  refine V.aload_n (pc := 20) 0 hC dX4_hear_20 rfl ?_
                  refine V.aload_n (pc := 21) 1 hC dX4_hear_21 rfl ?_
                  refine V.get (pc := 22) (v := .ref (a 18)) hC cf_X3 1 8 fl_X4_30 (by decide) gx_1 rfl dX4_hear_22 ?_
                  refine V.iload_n (pc := 25) 2 hC dX4_hear_25 rfl ?_
                  refine V.iald (pc := 26) (f := σ 18) hC 13 p gx_13 rfl (by omega) (by decide) dX4_hear_26 ?_
                  refine V.eqi (y := ρ (32 + 3 * p)) (hT.2.2.1.2.2.1 p (by omega)) ?_
                  refine V.put (pc := 27) (v := .int (ρ (32 + 3 * p))) hC cf_X4 5 4 (wX k g a (va_up σ 81 (fun _ => 0)) (va_up (va_up (va_up ν 82 (fun _ => 0)) 83 (fun _ => 4)) 84 (fun _ => ρ (32 + 3 * p)))) fl_X4_33 (by decide) gx_5 rfl rfl rfl (Nat.le_of_ble_eq_true rfl) rfl dX4_hear_27 ?_
                  refine V.aload_n (pc := 30) 0 hC dX4_hear_30 rfl ?_
                  refine V.iload_n (pc := 31) 2 hC dX4_hear_31 rfl ?_
                  refine V.put (pc := 32) (v := .int (nI p)) hC cf_X4 5 5 (wX k g a (va_up σ 81 (fun _ => 0)) (va_up (va_up (va_up (va_up ν 82 (fun _ => 0)) 83 (fun _ => 4)) 84 (fun _ => ρ (32 + 3 * p))) 85 (fun _ => nI p))) fl_X4_36 (by decide) gx_5 rfl rfl rfl (Nat.le_of_ble_eq_true rfl) rfl dX4_hear_32 ?_
                  refine V.aload_n (pc := 35) 0 hC dX4_hear_35 rfl ?_
                  refine V.iload_n (pc := 36) 3 hC dX4_hear_36 rfl ?_
                  refine V.aload_n (pc := 37) 0 hC dX4_hear_37 rfl ?_
                  refine V.get (pc := 38) (v := .int 4) hC cf_X4 5 3 fl_X4_28 (by decide) gx_5 rfl dX4_hear_38 ?_
                  refine V.iload (pc := 41) 4 hC dX4_hear_41 rfl ?_
                  refine V.iconst (pc := 43) 0 hC dX4_hear_43 (by decide) ?_
                  refine V.sts (st' := [.int (nI 0), .int x, .int 4, .int 3, .ref (a 5)]) (stc (nl 0) (stk (stk (stk (stk rfl))))) ?_
                  refine V.callV0 (pc := 44) (as := [.int 3, .int 4, .int x, .int (nI 0)]) hC (c_call_4_3_4 (va_up σ 81 (fun _ => 0)) (va_up (va_up (va_up (va_up ν 82 (fun _ => 0)) 83 (fun _ => 4)) 84 (fun _ => ρ (32 + 3 * p))) 85 (fun _ => nI p)) x 0 rfl rfl (isN.mk (n := 0) rfl (by omega) (by omega)) (by omega)) mu_X4_call ml_X4_39 (by decide) ⟨5, 4, TX4, 6, _, rfl, gx_5⟩ rfl (Nat.le_of_ble_eq_true rfl) dX4_hear_44 ?_
                  rintro _ ⟨f44_0, i44_1, i44_2⟩ ⟨rfl, hu44_0, hu44_1, hu44_2⟩
                  have hu44_0 : (f44_0, i44_1) = bgs (if (ρ (32 + 3 * p)) - (nI p) = 0 then [21, 13] else [21, 13, 11, 50, 20, 10]) ((σ 80), 0) := hu44_0
                  have hu44_1 : isN i44_1 30 := hu44_1
                  have hu44_2 : i44_2 = bI ((ρ (32 + 3 * p)) - (nI p) = 0) := hu44_2
                  show V X (wX k g a (va_up (va_up σ 81 (fun _ => i44_1)) 80 f44_0) (va_up (va_up (va_up (va_up ν 82 (fun _ => i44_2)) 83 (fun _ => 4)) 84 (fun _ => ρ (32 + 3 * p))) 85 (fun _ => nI p))) [(0, .ref (a 5)), (1, .ref (a 1)), (2, .int (nI p)), (3, .int 3), (4, .int x)] [.int (if (ρ (32 + 3 * p)) - (nI p) = 0 then 0 else x / ((ρ (32 + 3 * p)) - (nI p)) + ((((1 + (nI p)) - 4) * 3) * 2))] 47
                  exact hR (if (ρ (32 + 3 * p)) - (nI p) = 0 then 0 else x / ((ρ (32 + 3 * p)) - (nI p)) + ((((1 + (nI p)) - 4) * 3) * 2)) (f44_0, i44_1, i44_2, 4, ρ (32 + 3 * p), nI p, if (ρ (32 + 3 * p)) - (nI p) = 0 then 0 else x / ((ρ (32 + 3 * p)) - (nI p)) + ((((1 + (nI p)) - 4) * 3) * 2)) _ _ dX4_hear_47 rfl ⟨rfl, by rw [hu44_0, e4] <;> rfl, hu44_1, hu44_2.trans (bI_c ⟨fun z => ⟨rfl, z⟩, fun z => z.2⟩), fun _ => by rw [e4] <;> rfl⟩
                · by_cases e5 : ρ (31 + 3 * p) = 5
                  · refine V.eqi (y := 5) e5 ?_
                    refine V.put (pc := 17) (v := .int 5) hC cf_X4 5 3 (wX k g a (va_up σ 81 (fun _ => 0)) (va_up (va_up ν 82 (fun _ => 0)) 83 (fun _ => 5))) fl_X4_28 (by decide) gx_5 rfl rfl rfl (Nat.le_of_ble_eq_true rfl) rfl dX4_hear_17 ?_
                    refine V.aload_n (pc := 20) 0 hC dX4_hear_20 rfl ?_
                    refine V.aload_n (pc := 21) 1 hC dX4_hear_21 rfl ?_
                    refine V.get (pc := 22) (v := .ref (a 18)) hC cf_X3 1 8 fl_X4_30 (by decide) gx_1 rfl dX4_hear_22 ?_
                    refine V.iload_n (pc := 25) 2 hC dX4_hear_25 rfl ?_
                    refine V.iald (pc := 26) (f := σ 18) hC 13 p gx_13 rfl (by omega) (by decide) dX4_hear_26 ?_
                    refine V.eqi (y := ρ (32 + 3 * p)) (hT.2.2.1.2.2.1 p (by omega)) ?_
                    refine V.put (pc := 27) (v := .int (ρ (32 + 3 * p))) hC cf_X4 5 4 (wX k g a (va_up σ 81 (fun _ => 0)) (va_up (va_up (va_up ν 82 (fun _ => 0)) 83 (fun _ => 5)) 84 (fun _ => ρ (32 + 3 * p)))) fl_X4_33 (by decide) gx_5 rfl rfl rfl (Nat.le_of_ble_eq_true rfl) rfl dX4_hear_27 ?_
                    refine V.aload_n (pc := 30) 0 hC dX4_hear_30 rfl ?_
                    refine V.iload_n (pc := 31) 2 hC dX4_hear_31 rfl ?_
                    refine V.put (pc := 32) (v := .int (nI p)) hC cf_X4 5 5 (wX k g a (va_up σ 81 (fun _ => 0)) (va_up (va_up (va_up (va_up ν 82 (fun _ => 0)) 83 (fun _ => 5)) 84 (fun _ => ρ (32 + 3 * p))) 85 (fun _ => nI p))) fl_X4_36 (by decide) gx_5 rfl rfl rfl (Nat.le_of_ble_eq_true rfl) rfl dX4_hear_32 ?_
                    refine V.aload_n (pc := 35) 0 hC dX4_hear_35 rfl ?_
                    refine V.iload_n (pc := 36) 3 hC dX4_hear_36 rfl ?_
                    refine V.aload_n (pc := 37) 0 hC dX4_hear_37 rfl ?_
                    refine V.get (pc := 38) (v := .int 5) hC cf_X4 5 3 fl_X4_28 (by decide) gx_5 rfl dX4_hear_38 ?_
                    refine V.iload (pc := 41) 4 hC dX4_hear_41 rfl ?_
                    refine V.iconst (pc := 43) 0 hC dX4_hear_43 (by decide) ?_
                    refine V.sts (st' := [.int (nI 0), .int x, .int 5, .int 3, .ref (a 5)]) (stc (nl 0) (stk (stk (stk (stk rfl))))) ?_
                    refine V.callV0 (pc := 44) (as := [.int 3, .int 5, .int x, .int (nI 0)]) hC (c_call_5_3_5 (va_up σ 81 (fun _ => 0)) (va_up (va_up (va_up (va_up ν 82 (fun _ => 0)) 83 (fun _ => 5)) 84 (fun _ => ρ (32 + 3 * p))) 85 (fun _ => nI p)) x 0 rfl rfl (isN.mk (n := 0) rfl (by omega) (by omega)) (by omega)) mu_X4_call ml_X4_39 (by decide) ⟨5, 4, TX4, 6, _, rfl, gx_5⟩ rfl (Nat.le_of_ble_eq_true rfl) dX4_hear_44 ?_
                    rintro _ ⟨f44_0, i44_1, i44_2⟩ ⟨rfl, hu44_0, hu44_1, hu44_2⟩
                    have hu44_0 : (f44_0, i44_1) = bgs [13] ((σ 80), 0) := hu44_0
                    have hu44_1 : isN i44_1 30 := hu44_1
                    have hu44_2 : i44_2 = bI ((ρ (32 + 3 * p)) - (nI p) = 0) := hu44_2
                    show V X (wX k g a (va_up (va_up σ 81 (fun _ => i44_1)) 80 f44_0) (va_up (va_up (va_up (va_up ν 82 (fun _ => i44_2)) 83 (fun _ => 5)) 84 (fun _ => ρ (32 + 3 * p))) 85 (fun _ => nI p))) [(0, .ref (a 5)), (1, .ref (a 1)), (2, .int (nI p)), (3, .int 3), (4, .int x)] [.int (if (ρ (32 + 3 * p)) - (nI p) = 0 then 0 else x / ((ρ (32 + 3 * p)) - (nI p)))] 47
                    exact hR (if (ρ (32 + 3 * p)) - (nI p) = 0 then 0 else x / ((ρ (32 + 3 * p)) - (nI p))) (f44_0, i44_1, i44_2, 5, ρ (32 + 3 * p), nI p, if (ρ (32 + 3 * p)) - (nI p) = 0 then 0 else x / ((ρ (32 + 3 * p)) - (nI p))) _ _ dX4_hear_47 rfl ⟨rfl, by rw [hu44_0, e5] <;> rfl, hu44_1, hu44_2.trans (bI_c ⟨fun z => ⟨rfl, z⟩, fun z => z.2⟩), fun _ => by rw [e5] <;> rfl⟩
                  · have e6 : ρ (31 + 3 * p) = 6 := by have h := hI.kn hp; have hb := hI.kb hp; have g0 : ¬ nN (ρ (31 + 3 * p)) = 0 := fun q => e0 (by rw [h, q]; rfl); have g1 : ¬ nN (ρ (31 + 3 * p)) = 1 := fun q => e1 (by rw [h, q]; rfl); have g2 : ¬ nN (ρ (31 + 3 * p)) = 2 := fun q => e2 (by rw [h, q]; rfl); have g3 : ¬ nN (ρ (31 + 3 * p)) = 3 := fun q => e3 (by rw [h, q]; rfl); have g4 : ¬ nN (ρ (31 + 3 * p)) = 4 := fun q => e4 (by rw [h, q]; rfl); have g5 : ¬ nN (ρ (31 + 3 * p)) = 5 := fun q => e5 (by rw [h, q]; rfl); rw [h, show nN (ρ (31 + 3 * p)) = 6 by omega]; rfl
                    refine V.eqi (y := 6) e6 ?_
                    refine V.put (pc := 17) (v := .int 6) hC cf_X4 5 3 (wX k g a (va_up σ 81 (fun _ => 0)) (va_up (va_up ν 82 (fun _ => 0)) 83 (fun _ => 6))) fl_X4_28 (by decide) gx_5 rfl rfl rfl (Nat.le_of_ble_eq_true rfl) rfl dX4_hear_17 ?_
                    refine V.aload_n (pc := 20) 0 hC dX4_hear_20 rfl ?_
                    refine V.aload_n (pc := 21) 1 hC dX4_hear_21 rfl ?_
                    refine V.get (pc := 22) (v := .ref (a 18)) hC cf_X3 1 8 fl_X4_30 (by decide) gx_1 rfl dX4_hear_22 ?_
                    refine V.iload_n (pc := 25) 2 hC dX4_hear_25 rfl ?_
                    refine V.iald (pc := 26) (f := σ 18) hC 13 p gx_13 rfl (by omega) (by decide) dX4_hear_26 ?_
                    refine V.eqi (y := ρ (32 + 3 * p)) (hT.2.2.1.2.2.1 p (by omega)) ?_
                    refine V.put (pc := 27) (v := .int (ρ (32 + 3 * p))) hC cf_X4 5 4 (wX k g a (va_up σ 81 (fun _ => 0)) (va_up (va_up (va_up ν 82 (fun _ => 0)) 83 (fun _ => 6)) 84 (fun _ => ρ (32 + 3 * p)))) fl_X4_33 (by decide) gx_5 rfl rfl rfl (Nat.le_of_ble_eq_true rfl) rfl dX4_hear_27 ?_
                    refine V.aload_n (pc := 30) 0 hC dX4_hear_30 rfl ?_
                    refine V.iload_n (pc := 31) 2 hC dX4_hear_31 rfl ?_
                    refine V.put (pc := 32) (v := .int (nI p)) hC cf_X4 5 5 (wX k g a (va_up σ 81 (fun _ => 0)) (va_up (va_up (va_up (va_up ν 82 (fun _ => 0)) 83 (fun _ => 6)) 84 (fun _ => ρ (32 + 3 * p))) 85 (fun _ => nI p))) fl_X4_36 (by decide) gx_5 rfl rfl rfl (Nat.le_of_ble_eq_true rfl) rfl dX4_hear_32 ?_
                    refine V.aload_n (pc := 35) 0 hC dX4_hear_35 rfl ?_
                    refine V.iload_n (pc := 36) 3 hC dX4_hear_36 rfl ?_
                    refine V.aload_n (pc := 37) 0 hC dX4_hear_37 rfl ?_
                    refine V.get (pc := 38) (v := .int 6) hC cf_X4 5 3 fl_X4_28 (by decide) gx_5 rfl dX4_hear_38 ?_
                    refine V.iload (pc := 41) 4 hC dX4_hear_41 rfl ?_
                    refine V.iconst (pc := 43) 0 hC dX4_hear_43 (by decide) ?_
                    refine V.sts (st' := [.int (nI 0), .int x, .int 6, .int 3, .ref (a 5)]) (stc (nl 0) (stk (stk (stk (stk rfl))))) ?_
                    refine V.callV0 (pc := 44) (as := [.int 3, .int 6, .int x, .int (nI 0)]) hC (c_call_6_3_6 (va_up σ 81 (fun _ => 0)) (va_up (va_up (va_up (va_up ν 82 (fun _ => 0)) 83 (fun _ => 6)) 84 (fun _ => ρ (32 + 3 * p))) 85 (fun _ => nI p)) x 0 rfl rfl (isN.mk (n := 0) rfl (by omega) (by omega)) (by omega)) mu_X4_call ml_X4_39 (by decide) ⟨5, 4, TX4, 6, _, rfl, gx_5⟩ rfl (Nat.le_of_ble_eq_true rfl) dX4_hear_44 ?_
                    rintro _ ⟨f44_0, i44_1, i44_2⟩ ⟨rfl, hu44_0, hu44_1, hu44_2⟩
                    have hu44_0 : (f44_0, i44_1) = bgs [13] ((σ 80), 0) := hu44_0
                    have hu44_1 : isN i44_1 30 := hu44_1
                    have hu44_2 : i44_2 = bI ((ρ (32 + 3 * p)) - (nI p) = 0) := hu44_2
                    show V X (wX k g a (va_up (va_up σ 81 (fun _ => i44_1)) 80 f44_0) (va_up (va_up (va_up (va_up ν 82 (fun _ => i44_2)) 83 (fun _ => 6)) 84 (fun _ => ρ (32 + 3 * p))) 85 (fun _ => nI p))) [(0, .ref (a 5)), (1, .ref (a 1)), (2, .int (nI p)), (3, .int 3), (4, .int x)] [.int (if (ρ (32 + 3 * p)) - (nI p) = 0 then 0 else x / ((ρ (32 + 3 * p)) - (nI p)))] 47
                    exact hR (if (ρ (32 + 3 * p)) - (nI p) = 0 then 0 else x / ((ρ (32 + 3 * p)) - (nI p))) (f44_0, i44_1, i44_2, 6, ρ (32 + 3 * p), nI p, if (ρ (32 + 3 * p)) - (nI p) = 0 then 0 else x / ((ρ (32 + 3 * p)) - (nI p))) _ _ dX4_hear_47 rfl ⟨rfl, by rw [hu44_0, e6] <;> rfl, hu44_1, hu44_2.trans (bI_c ⟨fun z => ⟨rfl, z⟩, fun z => z.2⟩), fun _ => by rw [e6] <;> rfl⟩
