theorem V.ldcE {X : Cx} {l : Launch} {D : va_G} {k : Nat → ClassId} {g : Nat → Nat} {cc : ByteArray} {own : String} {n fr lo : Nat} {ws : va_W} {lv : List (Nat × Value)} {st : List Value} {pc : Nat} (hC : Ok X l D k g cc own n fr lo) (ho : own = RX1) (hd : decode cc pc = .ok (.ldc 15, 2)) (kk : V X ws lv (.ref (g 2) :: st) (pc + 2)) : V X ws lv st pc := by
  subst ho
  obtain ⟨p, l, e, R, s, m, args, below, meth, c, Q, D, A, nL, cells, slots⟩ := X
  obtain ⟨rfl, rfl, rfl, hx, hb, hml, hown, hts, hK, hAm, hA, hfr, hlo, hce, hsl⟩ := hC
  intro H locs ls hP hD hS hl
  exact va_ldcS hx hb hown hAm.2.2.2.2.2.2.1 hd (kk H locs ls hP hD hS hl)
set_option maxHeartbeats 4000000 in
set_option maxRecDepth 100000 in
theorem n_X2_init {l : Launch} {D : va_G} {k : Nat → ClassId} {g : Nat → Nat} (h : Nat) : CtN l D k g yX2_init cX2_init 1 1 12 1 24 [.ref h] (S := Nat) ([(h, .inr (2, [.int 0, .int 0, .null]))]) (fun uu => [(h, .inr (2, [.int 0, .int 0, .ref uu])), (uu, .inl (k 0, 24, .inl (fun _ => 0)))]) (fun _ => True) := by
  refine CtN.of RX2 rfl (by decide +kernel) rfl (Nat.le_of_ble_eq_true rfl) (fun X hC hKx hr hR => ?_)
  have hs : Sm X X := Sm.rf
  show V X ([(h, .inr (2, [.int 0, .int 0, .null]))]) [(0, .ref h)] [] 0
  refine V.aload_n (pc := 0) 0 hC dX2_init_0 rfl ?_
  refine V.objInit (pc := 1) hC ml_X2_3 ⟨Nat.le_of_ble_eq_true rfl, Nat.le_of_ble_eq_true rfl⟩ dX2_init_1 ?_
  refine V.aload_n (pc := 4) 0 hC dX2_init_4 rfl ?_
  refine V.bipush (pc := 5) 24 hC dX2_init_5 (by decide) ?_
  refine V.newi (pc := 7) 24 hC (hr.le (by decide) (by decide)) mw_ar_int (nl 24) (by omega) dX2_init_7 (fun q1 => ?_)
  replace hC := hC.bmp (hr.le (c2 := 1) (s2 := 24) (by decide) (by decide)); replace hKx := hKx.bmp (cn := 1) (sn := 24); replace hs := hs.bmp (cn := 1) (sn := 24)
  replace hr := Rm.bmp (c1 := 1) (s1 := 24) (c2 := 0) (s2 := 0) hr
  show V (bmp X 1 24) [(h, .inr (2, [.int 0, .int 0, .null])), (q1, .inl (k 0, 24, .inl (fun _ => 0)))] [(0, .ref h)] [.ref q1, .ref h] 9
  refine V.putF (pc := 9) (v := .ref q1) hC hKx cf_X2 0 2 ([(h, .inr (2, [.int 0, .int 0, .ref q1])), (q1, .inl (k 0, 24, .inl (fun _ => 0)))]) fl_X2_9 (by decide) rfl rfl rfl rfl rfl (Nat.le_of_ble_eq_true rfl) rfl dX2_init_9 ?_
  exact hR _ q1 _ _ hs (hr.le (by decide) (by decide)) dX2_init_12 trivial
set_option maxHeartbeats 4000000 in
set_option maxRecDepth 100000 in
theorem n_X0_init {l : Launch} {D : va_G} {k : Nat → ClassId} {g : Nat → Nat} (h : Nat) : CtN l D k g yX0_init cX0_init 1 1 12 2 120 [.ref h] (S := Nat × Nat) ([(h, .inr (0, [.null, .null, .int 0]))]) (fun uu => [(h, .inr (0, [.ref uu.1, .ref uu.2, .int 0])), (uu.1, .inl (k 0, 60, .inl (fun _ => 0))), (uu.2, .inl (k 0, 60, .inl (fun _ => 0)))]) (fun _ => True) := by
  refine CtN.of RX0 rfl (by decide +kernel) rfl (Nat.le_of_ble_eq_true rfl) (fun X hC hKx hr hR => ?_)
  have hs : Sm X X := Sm.rf
  show V X ([(h, .inr (0, [.null, .null, .int 0]))]) [(0, .ref h)] [] 0
  refine V.aload_n (pc := 0) 0 hC dX0_init_0 rfl ?_
  refine V.objInit (pc := 1) hC ml_X0_3 ⟨Nat.le_of_ble_eq_true rfl, Nat.le_of_ble_eq_true rfl⟩ dX0_init_1 ?_
  refine V.aload_n (pc := 4) 0 hC dX0_init_4 rfl ?_
  refine V.bipush (pc := 5) 60 hC dX0_init_5 (by decide) ?_
  refine V.newi (pc := 7) 60 hC (hr.le (by decide) (by decide)) mw_ar_int (nl 60) (by omega) dX0_init_7 (fun q1 => ?_)
  replace hC := hC.bmp (hr.le (c2 := 1) (s2 := 60) (by decide) (by decide)); replace hKx := hKx.bmp (cn := 1) (sn := 60); replace hs := hs.bmp (cn := 1) (sn := 60)
  replace hr := Rm.bmp (c1 := 1) (s1 := 60) (c2 := 1) (s2 := 60) hr
  show V (bmp X 1 60) [(h, .inr (0, [.null, .null, .int 0])), (q1, .inl (k 0, 60, .inl (fun _ => 0)))] [(0, .ref h)] [.ref q1, .ref h] 9
  refine V.putF (pc := 9) (v := .ref q1) hC hKx cf_X0 0 0 ([(h, .inr (0, [.ref q1, .null, .int 0])), (q1, .inl (k 0, 60, .inl (fun _ => 0)))]) fl_X0_9 (by decide) rfl rfl rfl rfl rfl (Nat.le_of_ble_eq_true rfl) rfl dX0_init_9 ?_
  refine V.aload_n (pc := 12) 0 hC dX0_init_12 rfl ?_
  refine V.bipush (pc := 13) 60 hC dX0_init_13 (by decide) ?_
  refine V.newi (pc := 15) 60 hC (hr.le (by decide) (by decide)) mw_ar_int (nl 60) (by omega) dX0_init_15 (fun q2 => ?_)
  replace hC := hC.bmp (hr.le (c2 := 1) (s2 := 60) (by decide) (by decide)); replace hKx := hKx.bmp (cn := 1) (sn := 60); replace hs := hs.bmp (cn := 1) (sn := 60)
  replace hr := Rm.bmp (c1 := 1) (s1 := 60) (c2 := 0) (s2 := 0) hr
  show V (bmp (bmp X 1 60) 1 60) [(h, .inr (0, [.ref q1, .null, .int 0])), (q1, .inl (k 0, 60, .inl (fun _ => 0))), (q2, .inl (k 0, 60, .inl (fun _ => 0)))] [(0, .ref h)] [.ref q2, .ref h] 17
  refine V.putF (pc := 17) (v := .ref q2) hC hKx cf_X0 0 1 ([(h, .inr (0, [.ref q1, .ref q2, .int 0])), (q1, .inl (k 0, 60, .inl (fun _ => 0))), (q2, .inl (k 0, 60, .inl (fun _ => 0)))]) fl_X0_15 (by decide) rfl rfl rfl rfl rfl (Nat.le_of_ble_eq_true rfl) rfl dX0_init_17 ?_
  exact hR _ (q1, q2) _ _ hs (hr.le (by decide) (by decide)) dX0_init_20 trivial
set_option maxHeartbeats 4000000 in
set_option maxRecDepth 100000 in
theorem n_X4_init {l : Launch} {D : va_G} {k : Nat → ClassId} {g : Nat → Nat} (h : Nat) : CtN l D k g yX4_init cX4_init 1 1 12 1 30 [.ref h] (S := Nat) ([(h, .inr (4, [.null, .int 0, .int 0, .int 0, .int 0, .int 0]))]) (fun uu => [(h, .inr (4, [.ref uu, .int 0, .int 0, .int 0, .int 0, .int 0])), (uu, .inl (k 0, 30, .inl (fun _ => 0)))]) (fun _ => True) := by
  refine CtN.of RX4 rfl (by decide +kernel) rfl (Nat.le_of_ble_eq_true rfl) (fun X hC hKx hr hR => ?_)
  have hs : Sm X X := Sm.rf
  show V X ([(h, .inr (4, [.null, .int 0, .int 0, .int 0, .int 0, .int 0]))]) [(0, .ref h)] [] 0
  refine V.aload_n (pc := 0) 0 hC dX4_init_0 rfl ?_
  refine V.objInit (pc := 1) hC ml_X4_3 ⟨Nat.le_of_ble_eq_true rfl, Nat.le_of_ble_eq_true rfl⟩ dX4_init_1 ?_
  refine V.aload_n (pc := 4) 0 hC dX4_init_4 rfl ?_
  refine V.bipush (pc := 5) 30 hC dX4_init_5 (by decide) ?_
  refine V.newi (pc := 7) 30 hC (hr.le (by decide) (by decide)) mw_ar_int (nl 30) (by omega) dX4_init_7 (fun q1 => ?_)
  replace hC := hC.bmp (hr.le (c2 := 1) (s2 := 30) (by decide) (by decide)); replace hKx := hKx.bmp (cn := 1) (sn := 30); replace hs := hs.bmp (cn := 1) (sn := 30)
  replace hr := Rm.bmp (c1 := 1) (s1 := 30) (c2 := 0) (s2 := 0) hr
  show V (bmp X 1 30) [(h, .inr (4, [.null, .int 0, .int 0, .int 0, .int 0, .int 0])), (q1, .inl (k 0, 30, .inl (fun _ => 0)))] [(0, .ref h)] [.ref q1, .ref h] 9
  refine V.putF (pc := 9) (v := .ref q1) hC hKx cf_X4 0 0 ([(h, .inr (4, [.ref q1, .int 0, .int 0, .int 0, .int 0, .int 0])), (q1, .inl (k 0, 30, .inl (fun _ => 0)))]) fl_X4_9 (by decide) rfl rfl rfl rfl rfl (Nat.le_of_ble_eq_true rfl) rfl dX4_init_9 ?_
  exact hR _ q1 _ _ hs (hr.le (by decide) (by decide)) dX4_init_12 trivial
set_option maxHeartbeats 4000000 in
set_option maxRecDepth 100000 in
theorem n_X5_init {l : Launch} {D : va_G} {k : Nat → ClassId} {g : Nat → Nat} (h t : Nat) : CtN l D k g yX5_init cX5_init 2 1 12 5 500 [.ref h, .ref t] (S := Nat × Nat × Nat × Nat × Nat) ([(h, .inr (5, [.null, .null, .null, .null, .null, .null]))]) (fun uu => [(h, .inr (5, [.ref t, .ref uu.1, .ref uu.2.1, .ref uu.2.2.1, .ref uu.2.2.2.1, .ref uu.2.2.2.2])), (uu.1, .inl (k 0, 4, .inl (fun _ => 0))), (uu.2.1, .inl (k 0, 4, .inl (fun _ => 0))), (uu.2.2.1, .inl (k 0, 4, .inl (fun _ => 0))), (uu.2.2.2.1, .inl (k 0, 8, .inl (fun _ => 0))), (uu.2.2.2.2, .inl (k 0, 480, .inl (fun _ => 0)))]) (fun _ => True) := by
  refine CtN.of RX5 rfl (by decide +kernel) rfl (Nat.le_of_ble_eq_true rfl) (fun X hC hKx hr hR => ?_)
  have hs : Sm X X := Sm.rf
  show V X ([(h, .inr (5, [.null, .null, .null, .null, .null, .null]))]) [(0, .ref h), (1, .ref t)] [] 0
  refine V.aload_n (pc := 0) 0 hC dX5_init_0 rfl ?_
  refine V.objInit (pc := 1) hC ml_X5_3 ⟨Nat.le_of_ble_eq_true rfl, Nat.le_of_ble_eq_true rfl⟩ dX5_init_1 ?_
  refine V.aload_n (pc := 4) 0 hC dX5_init_4 rfl ?_
  refine V.iconst (pc := 5) 4 hC dX5_init_5 (by decide) ?_
  refine V.newi (pc := 6) 4 hC (hr.le (by decide) (by decide)) mw_ar_int (nl 4) (by omega) dX5_init_6 (fun q1 => ?_)
  replace hC := hC.bmp (hr.le (c2 := 1) (s2 := 4) (by decide) (by decide)); replace hKx := hKx.bmp (cn := 1) (sn := 4); replace hs := hs.bmp (cn := 1) (sn := 4)
  replace hr := Rm.bmp (c1 := 1) (s1 := 4) (c2 := 4) (s2 := 496) hr
  show V (bmp X 1 4) [(h, .inr (5, [.null, .null, .null, .null, .null, .null])), (q1, .inl (k 0, 4, .inl (fun _ => 0)))] [(0, .ref h), (1, .ref t)] [.ref q1, .ref h] 8
  refine V.putF (pc := 8) (v := .ref q1) hC hKx cf_X5 0 1 ([(h, .inr (5, [.null, .ref q1, .null, .null, .null, .null])), (q1, .inl (k 0, 4, .inl (fun _ => 0)))]) fl_X5_9 (by decide) rfl rfl rfl rfl rfl (Nat.le_of_ble_eq_true rfl) rfl dX5_init_8 ?_
  refine V.aload_n (pc := 11) 0 hC dX5_init_11 rfl ?_
  refine V.iconst (pc := 12) 4 hC dX5_init_12 (by decide) ?_
  refine V.newi (pc := 13) 4 hC (hr.le (by decide) (by decide)) mw_ar_int (nl 4) (by omega) dX5_init_13 (fun q2 => ?_)
  replace hC := hC.bmp (hr.le (c2 := 1) (s2 := 4) (by decide) (by decide)); replace hKx := hKx.bmp (cn := 1) (sn := 4); replace hs := hs.bmp (cn := 1) (sn := 4)
  replace hr := Rm.bmp (c1 := 1) (s1 := 4) (c2 := 3) (s2 := 492) hr
  show V (bmp (bmp X 1 4) 1 4) [(h, .inr (5, [.null, .ref q1, .null, .null, .null, .null])), (q1, .inl (k 0, 4, .inl (fun _ => 0))), (q2, .inl (k 0, 4, .inl (fun _ => 0)))] [(0, .ref h), (1, .ref t)] [.ref q2, .ref h] 15
  refine V.putF (pc := 15) (v := .ref q2) hC hKx cf_X5 0 2 ([(h, .inr (5, [.null, .ref q1, .ref q2, .null, .null, .null])), (q1, .inl (k 0, 4, .inl (fun _ => 0))), (q2, .inl (k 0, 4, .inl (fun _ => 0)))]) fl_X5_15 (by decide) rfl rfl rfl rfl rfl (Nat.le_of_ble_eq_true rfl) rfl dX5_init_15 ?_
  refine V.aload_n (pc := 18) 0 hC dX5_init_18 rfl ?_
  refine V.iconst (pc := 19) 4 hC dX5_init_19 (by decide) ?_
  refine V.newi (pc := 20) 4 hC (hr.le (by decide) (by decide)) mw_ar_int (nl 4) (by omega) dX5_init_20 (fun q3 => ?_)
  replace hC := hC.bmp (hr.le (c2 := 1) (s2 := 4) (by decide) (by decide)); replace hKx := hKx.bmp (cn := 1) (sn := 4); replace hs := hs.bmp (cn := 1) (sn := 4)
  replace hr := Rm.bmp (c1 := 1) (s1 := 4) (c2 := 2) (s2 := 488) hr
  show V (bmp (bmp (bmp X 1 4) 1 4) 1 4) [(h, .inr (5, [.null, .ref q1, .ref q2, .null, .null, .null])), (q1, .inl (k 0, 4, .inl (fun _ => 0))), (q2, .inl (k 0, 4, .inl (fun _ => 0))), (q3, .inl (k 0, 4, .inl (fun _ => 0)))] [(0, .ref h), (1, .ref t)] [.ref q3, .ref h] 22
  refine V.putF (pc := 22) (v := .ref q3) hC hKx cf_X5 0 3 ([(h, .inr (5, [.null, .ref q1, .ref q2, .ref q3, .null, .null])), (q1, .inl (k 0, 4, .inl (fun _ => 0))), (q2, .inl (k 0, 4, .inl (fun _ => 0))), (q3, .inl (k 0, 4, .inl (fun _ => 0)))]) fl_X5_18 (by decide) rfl rfl rfl rfl rfl (Nat.le_of_ble_eq_true rfl) rfl dX5_init_22 ?_
  refine V.aload_n (pc := 25) 0 hC dX5_init_25 rfl ?_
  refine V.bipush (pc := 26) 8 hC dX5_init_26 (by decide) ?_
  refine V.newi (pc := 28) 8 hC (hr.le (by decide) (by decide)) mw_ar_int (nl 8) (by omega) dX5_init_28 (fun q4 => ?_)
  replace hC := hC.bmp (hr.le (c2 := 1) (s2 := 8) (by decide) (by decide)); replace hKx := hKx.bmp (cn := 1) (sn := 8); replace hs := hs.bmp (cn := 1) (sn := 8)
  replace hr := Rm.bmp (c1 := 1) (s1 := 8) (c2 := 1) (s2 := 480) hr
  show V (bmp (bmp (bmp (bmp X 1 4) 1 4) 1 4) 1 8) [(h, .inr (5, [.null, .ref q1, .ref q2, .ref q3, .null, .null])), (q1, .inl (k 0, 4, .inl (fun _ => 0))), (q2, .inl (k 0, 4, .inl (fun _ => 0))), (q3, .inl (k 0, 4, .inl (fun _ => 0))), (q4, .inl (k 0, 8, .inl (fun _ => 0)))] [(0, .ref h), (1, .ref t)] [.ref q4, .ref h] 30
  refine V.putF (pc := 30) (v := .ref q4) hC hKx cf_X5 0 4 ([(h, .inr (5, [.null, .ref q1, .ref q2, .ref q3, .ref q4, .null])), (q1, .inl (k 0, 4, .inl (fun _ => 0))), (q2, .inl (k 0, 4, .inl (fun _ => 0))), (q3, .inl (k 0, 4, .inl (fun _ => 0))), (q4, .inl (k 0, 8, .inl (fun _ => 0)))]) fl_X5_21 (by decide) rfl rfl rfl rfl rfl (Nat.le_of_ble_eq_true rfl) rfl dX5_init_30 ?_
  refine V.aload_n (pc := 33) 0 hC dX5_init_33 rfl ?_
  refine V.sipush (pc := 34) 480 hC dX5_init_34 (by decide) ?_
  refine V.newi (pc := 37) 480 hC (hr.le (by decide) (by decide)) mw_ar_int (nl 480) (by omega) dX5_init_37 (fun q5 => ?_)
  replace hC := hC.bmp (hr.le (c2 := 1) (s2 := 480) (by decide) (by decide)); replace hKx := hKx.bmp (cn := 1) (sn := 480); replace hs := hs.bmp (cn := 1) (sn := 480)
  replace hr := Rm.bmp (c1 := 1) (s1 := 480) (c2 := 0) (s2 := 0) hr
  show V (bmp (bmp (bmp (bmp (bmp X 1 4) 1 4) 1 4) 1 8) 1 480) [(h, .inr (5, [.null, .ref q1, .ref q2, .ref q3, .ref q4, .null])), (q1, .inl (k 0, 4, .inl (fun _ => 0))), (q2, .inl (k 0, 4, .inl (fun _ => 0))), (q3, .inl (k 0, 4, .inl (fun _ => 0))), (q4, .inl (k 0, 8, .inl (fun _ => 0))), (q5, .inl (k 0, 480, .inl (fun _ => 0)))] [(0, .ref h), (1, .ref t)] [.ref q5, .ref h] 39
  refine V.putF (pc := 39) (v := .ref q5) hC hKx cf_X5 0 5 ([(h, .inr (5, [.null, .ref q1, .ref q2, .ref q3, .ref q4, .ref q5])), (q1, .inl (k 0, 4, .inl (fun _ => 0))), (q2, .inl (k 0, 4, .inl (fun _ => 0))), (q3, .inl (k 0, 4, .inl (fun _ => 0))), (q4, .inl (k 0, 8, .inl (fun _ => 0))), (q5, .inl (k 0, 480, .inl (fun _ => 0)))]) fl_X5_24 (by decide) rfl rfl rfl rfl rfl (Nat.le_of_ble_eq_true rfl) rfl dX5_init_39 ?_
  refine V.aload_n (pc := 42) 0 hC dX5_init_42 rfl ?_
  refine V.aload_n (pc := 43) 1 hC dX5_init_43 rfl ?_
  refine V.putF (pc := 44) (v := .ref t) hC hKx cf_X5 0 0 ([(h, .inr (5, [.ref t, .ref q1, .ref q2, .ref q3, .ref q4, .ref q5])), (q1, .inl (k 0, 4, .inl (fun _ => 0))), (q2, .inl (k 0, 4, .inl (fun _ => 0))), (q3, .inl (k 0, 4, .inl (fun _ => 0))), (q4, .inl (k 0, 8, .inl (fun _ => 0))), (q5, .inl (k 0, 480, .inl (fun _ => 0)))]) fl_X5_27 (by decide) rfl rfl rfl rfl rfl (Nat.le_of_ble_eq_true rfl) rfl dX5_init_44 ?_
  exact hR _ (q1, q2, q3, q4, q5) _ _ hs (hr.le (by decide) (by decide)) dX5_init_47 trivial
set_option maxHeartbeats 4000000 in
set_option maxRecDepth 100000 in
theorem n_X1_init {l : Launch} {D : va_G} {k : Nat → ClassId} {g : Nat → Nat} (h t : Nat) : CtN l D k g yX1_init cX1_init 2 1 12 1 60 [.ref h, .ref t] (S := Nat) ([(h, .inr (1, [.null, .null, .int 0, .int 0, .null]))]) (fun uu => [(h, .inr (1, [.ref t, .ref uu, .int 0, .int 0, .ref (g 2)])), (uu, .inl (k 0, 60, .inl (fun _ => 0)))]) (fun _ => True) := by
  refine CtN.of RX1 rfl (by decide +kernel) rfl (Nat.le_of_ble_eq_true rfl) (fun X hC hKx hr hR => ?_)
  have hs : Sm X X := Sm.rf
  show V X ([(h, .inr (1, [.null, .null, .int 0, .int 0, .null]))]) [(0, .ref h), (1, .ref t)] [] 0
  refine V.aload_n (pc := 0) 0 hC dX1_init_0 rfl ?_
  refine V.objInit (pc := 1) hC ml_X1_3 ⟨Nat.le_of_ble_eq_true rfl, Nat.le_of_ble_eq_true rfl⟩ dX1_init_1 ?_
  refine V.aload_n (pc := 4) 0 hC dX1_init_4 rfl ?_
  refine V.bipush (pc := 5) 60 hC dX1_init_5 (by decide) ?_
  refine V.newi (pc := 7) 60 hC (hr.le (by decide) (by decide)) mw_ar_int (nl 60) (by omega) dX1_init_7 (fun q1 => ?_)
  replace hC := hC.bmp (hr.le (c2 := 1) (s2 := 60) (by decide) (by decide)); replace hKx := hKx.bmp (cn := 1) (sn := 60); replace hs := hs.bmp (cn := 1) (sn := 60)
  replace hr := Rm.bmp (c1 := 1) (s1 := 60) (c2 := 0) (s2 := 0) hr
  show V (bmp X 1 60) [(h, .inr (1, [.null, .null, .int 0, .int 0, .null])), (q1, .inl (k 0, 60, .inl (fun _ => 0)))] [(0, .ref h), (1, .ref t)] [.ref q1, .ref h] 9
  refine V.putF (pc := 9) (v := .ref q1) hC hKx cf_X1 0 1 ([(h, .inr (1, [.null, .ref q1, .int 0, .int 0, .null])), (q1, .inl (k 0, 60, .inl (fun _ => 0)))]) fl_X1_9 (by decide) rfl rfl rfl rfl rfl (Nat.le_of_ble_eq_true rfl) rfl dX1_init_9 ?_
  refine V.aload_n (pc := 12) 0 hC dX1_init_12 rfl ?_
  refine V.ldcE (pc := 13) hC rfl dX1_init_13 ?_
  refine V.put (pc := 15) (v := .ref (g 2)) hC cf_X1 0 4 ([(h, .inr (1, [.null, .ref q1, .int 0, .int 0, .ref (g 2)])), (q1, .inl (k 0, 60, .inl (fun _ => 0)))]) fl_X1_17 (by decide) rfl rfl rfl rfl (Nat.le_of_ble_eq_true rfl) rfl dX1_init_15 ?_
  refine V.aload_n (pc := 18) 0 hC dX1_init_18 rfl ?_
  refine V.aload_n (pc := 19) 1 hC dX1_init_19 rfl ?_
  refine V.putF (pc := 20) (v := .ref t) hC hKx cf_X1 0 0 ([(h, .inr (1, [.ref t, .ref q1, .int 0, .int 0, .ref (g 2)])), (q1, .inl (k 0, 60, .inl (fun _ => 0)))]) fl_X1_21 (by decide) rfl rfl rfl rfl rfl (Nat.le_of_ble_eq_true rfl) rfl dX1_init_20 ?_
  exact hR _ q1 _ _ hs (hr.le (by decide) (by decide)) dX1_init_23 trivial
