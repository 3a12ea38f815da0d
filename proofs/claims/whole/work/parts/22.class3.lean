theorem p1m1 (x : Int32) : x + 1 - 1 = x := by
  apply Int32.toBitVec_inj.mp
  simp only [Int32.toBitVec_sub, Int32.toBitVec_add]
  bv_omega
theorem bytC {w : Int64} {i : Nat} (hi : i < 8) : vp_nar .byte (((w.toUInt64 >>> ((8 * nI i).toInt64.toUInt64 &&& Int64.toUInt64 63)).toInt64.toInt32).toInt8.toInt32) &&& 255 = bytS w i := by
  have hL : ∀ i, i < 8 → ((8 * nI i).toInt64.toUInt64 &&& Int64.toUInt64 63).toNat % 64 = 8 * i := by decide +kernel
  have hR : ∀ i, i < 8 → (((8 * nI i).toInt64 &&& 63).toBitVec.smod 64).toNat = 8 * i := by decide +kernel
  have h255 : ∀ j, j < 32 → bt 255 j = decide (j < 8) := by decide +kernel
  have h255b : ∀ j, j < 64 → (255 : Int64).toBitVec.getLsbD j = decide (j < 8) := by decide +kernel
  apply b_ext
  intro j hj
  rw [b_and, h255 j hj]
  have hl := hL i hi
  have hr := hR i hi
  show (((((w.toUInt64 >>> ((8 * nI i).toInt64.toUInt64 &&& Int64.toUInt64 63)).toInt64.toInt32).toInt8.toInt32).toInt8.toInt32).toBitVec.getLsbD j && decide (j < 8)) = (bytS w i).toBitVec.getLsbD j
  unfold bytS
  simp only [Int8.toBitVec_toInt32, Int32.toBitVec_toInt8, Int64.toBitVec_toInt32, Int64.toBitVec_and, Int64.toBitVec_shiftRight, BitVec.getLsbD_setWidth, BitVec.getLsbD_and, BitVec.getLsbD_signExtend]
  rw [h255b j (by omega)]
  simp only [Int64.toBitVec_and] at hr
  by_cases h8 : j < 8
  · simp only [h8, hj, show j < 64 by omega, show j < 16 by omega, decide_true, Bool.and_true, Bool.true_and, if_true]
    show (w.toBitVec >>> (((8 * nI i).toInt64.toUInt64 &&& Int64.toUInt64 63).toBitVec % 64)).getLsbD j = (w.toBitVec.sshiftRight _).getLsbD j
    rw [hr, BitVec.getLsbD_sshiftRight, if_pos (by omega)]
    show (w.toBitVec >>> (((8 * nI i).toInt64.toUInt64 &&& Int64.toUInt64 63).toBitVec % 64).toNat).getLsbD j = _
    rw [show (((8 * nI i).toInt64.toUInt64 &&& Int64.toUInt64 63).toBitVec % 64).toNat = 8 * i from hl, BitVec.getLsbD_ushiftRight]
    simp [show j < 64 by omega]
  · simp only [h8, hj, show j < 64 by omega, decide_true, decide_false, Bool.and_false, Bool.true_and, if_true]
theorem XB_s {bs : Int32} {f r : Rw} {q : Nat} {v x : Int32} (h : XB (fun _ => bs) f r) (hq : bs = nI q) (hb : q < 60) (hv : v &&& 255 = x) : XB (fun _ => bs + 1) (upd f q v) (upd (upd r (49 + nN (r 5)) x) 5 (r 5 + 1)) := by
  have e5 : r 5 = nI q := h.1.symm.trans hq
  have e5n : nN (r 5) = q := nN_of e5 (by omega)
  have e6 : nN (r 5 + 1) = q + 1 := nN_of (nadd e5 (nl 1)) (by omega)
  refine ⟨by rw [upd_eq, ← h.1], fun i hi => ?_⟩
  rw [upd_eq, e6] at hi
  show upd f q v i &&& 255 = upd (upd r (49 + nN (r 5)) x) 5 (r 5 + 1) (49 + i)
  rw [e5n, upd_ne (f := upd r (49 + q) x) (show 49 + i ≠ 5 by omega)]
  by_cases e : i = q
  · subst e; rw [upd_eq, upd_eq]; exact hv
  · rw [upd_ne e, upd_ne (by omega)]; exact h.2 i (by omega)
theorem RT.z {σ : St} {ρ : Rw} (h : RT σ ρ) (hI : Inv ρ) (v : Int32) : RT (va_up σ 21 (fun _ => v)) (upd ρ 1 v) := by
  obtain ⟨gH, gM, gP, gT, gB, gW, g0, g1⟩ := Rx_iff.mp h
  exact Rx_iff.mpr ⟨gH.c (fun j hj => upd_ne (by omega)), gM.c (fun j hj => upd_ne (by omega)), gP.c (fun j hj => upd_ne (by omega)), ⟨gT.1.trans (upd_ne (by omega)).symm, upd_eq.symm⟩, gB.c hI.bb (fun j hj => upd_ne (by omega)), gW.c (fun j hj => upd_ne (by omega)), g0.c (hI.lb (by omega)) (fun j hj => upd_ne (by omega)), g1.c (hI.lb (by omega)) (fun j hj => upd_ne (by omega))⟩
theorem RT.room {σ : St} {ρ : Rw} (h : RT σ ρ) (hI : Inv ρ) {p : Nat} (hp : p < 6) (v : Int32) : RT (va_up σ 19 (upd (σ 19) p v)) (upd ρ (33 + 3 * p) v) := by
  obtain ⟨gH, gM, gP, gT, gB, gW, g0, g1⟩ := Rx_iff.mp h
  refine Rx_iff.mpr ⟨gH.c (fun j hj => upd_ne (by omega)), gM.c (fun j hj => upd_ne (by omega)), ⟨gP.1.trans (upd_ne (by omega)).symm, fun i hi => (gP.2.1 i hi).trans (upd_ne (by omega)).symm, fun i hi => (gP.2.2.1 i hi).trans (upd_ne (by omega)).symm, fun i hi => ?_⟩, gT.c (fun j hj => upd_ne (by omega)), gB.c hI.bb (fun j hj => upd_ne (by omega)), gW.c (fun j hj => upd_ne (by omega)), g0.c (hI.lb (by omega)) (fun j hj => upd_ne (by omega)), g1.c (hI.lb (by omega)) (fun j hj => upd_ne (by omega))⟩
  show upd (σ 19) p v i = _
  by_cases e : i = p
  · subst e; rw [upd_eq, upd_eq]
  · rw [upd_ne e, upd_ne (by omega)]; exact gP.2.2.2 i hi
theorem dp_r {ρ : Rw} (h : Inv ρ) (h0 : 0 < nN (ρ 4)) : restS (dvS ρ) (ρ 4) = nI (dpS ρ) := by
  obtain ⟨q, hq, e⟩ := ush8 (ρ 1 * 1103515245 + 12345)
  have hb := h.pb
  rw [rest_n (v := dvS ρ) e h.pn (by omega) (by omega) (by omega)]
  exact (dp_n h h0).1
theorem dh_r {ρ : Rw} (h : Inv ρ) (h0 : 0 < nN (ρ 3)) : restS (dvS (drwS ρ)) (ρ 3) = dhS ρ := by
  obtain ⟨q, hq, e⟩ := ush8 (drwS ρ 1 * 1103515245 + 12345)
  have hb := h.mb
  rw [rest_n (v := dvS (drwS ρ)) e h.mn (by omega) (by omega) (by omega)]
  rfl
theorem mx_0 {x : Int32} {q : Nat} (h : x = nI q) (hq : q < 2147483648) : (if x < 0 then 0 else x) = x := if_neg (by rw [h]; exact nI_pos hq)
/-- a tape holds bytes -/
def BF (f : Rw) : Prop := ∀ i, i < 60 → fits .byte (.int (f i)) = true
theorem bf_nar (x : Int32) : fits .byte (.int (vp_nar .byte x)) = true := by
  show (decide (-128 ≤ x.toInt8.toInt32) && decide (x.toInt8.toInt32 ≤ 127)) = true
  have h1 : (-128 : Int32) ≤ x.toInt8.toInt32 := by
    rw [le_i, Int8.toInt_toInt32, show (-128 : Int32).toInt = -128 by decide]
    exact x.toInt8.le_toInt
  have h2 : x.toInt8.toInt32 ≤ (127 : Int32) := by
    rw [le_i, Int8.toInt_toInt32, show (127 : Int32).toInt = 127 by decide]
    have := x.toInt8.toInt_lt
    omega
  rw [decide_eq_true h1, decide_eq_true h2]; rfl
theorem BF.upd {f : Rw} (h : BF f) (q : Nat) (x : Int32) : BF (upd f q (vp_nar .byte x)) := fun i hi => by
  by_cases e : i = q
  · rw [e, upd_eq]; exact bf_nar x
  · rw [upd_ne e]; exact h i hi

set_option maxHeartbeats 4000000 in
set_option maxRecDepth 100000 in
theorem c_X3_addHand {l : Launch} {D : va_G} {k : Nat → ClassId} {g a : Nat → Nat} (σ ν : St) (ρ : Rw) (x y : Int32) (hT : RT σ ρ) (hI : Inv ρ) (hn : nN (ρ 2) < 4) : Ct l D k g yX3_addHand cX3_addHand 3 (some .int) 0 0 [.ref (a 1), .int x, .int y] (S := Rw × Rw × Int32) (wX k g a σ ν) (fun uu => wX k g a (va_up (va_up (va_up σ 11 uu.1) 12 uu.2.1) 10 (fun _ => uu.2.2)) ν) (fun vv uu => vv = some (.int (ρ 2)) ∧ uu.1 = upd (σ 11) (nN (ρ 2)) x ∧ uu.2.1 = upd (σ 12) (nN (ρ 2)) y ∧ uu.2.2 = ρ 2 + 1) := by
  refine Ct.ofI RX3 rfl (by decide +kernel) (Nat.le_of_ble_eq_true rfl) (fun X hC hR => ?_)
  have hb4 := hI.hb; have hb8 := hI.mb; have hb6 := hI.pb; have hbm := hI.ob0; have hbt := hI.bb; have hbw := hI.wb
  show V X (wX k g a σ ν) [(0, .ref (a 1)), (1, .int x), (2, .int y)] [] 0
  refine V.aload_n (pc := 0) 0 hC dX3_addHand_0 rfl ?_
  refine V.get (pc := 1) (v := .ref (a 11)) hC cf_X3 1 1 fl_X3_9 (by decide) gx_1 rfl dX3_addHand_1 ?_
  refine V.aload_n (pc := 4) 0 hC dX3_addHand_4 rfl ?_
  refine V.get (pc := 5) (v := .int (σ 10 0)) hC cf_X3 1 0 fl_X3_51 (by decide) gx_1 rfl dX3_addHand_5 ?_
  refine V.eqi (y := ρ 2) (hT.1.1) ?_
  refine V.iload_n (pc := 8) 1 hC dX3_addHand_8 rfl ?_
  refine V.iast (pc := 9) (f := σ 11) hC 8 (nN (ρ 2)) (wX k g a (va_up σ 11 (upd (σ 11) (nN (ρ 2)) x)) ν) gx_8 hI.hn (by omega) (by decide) rfl dX3_addHand_9 ?_
  refine V.aload_n (pc := 10) 0 hC dX3_addHand_10 rfl ?_
  refine V.get (pc := 11) (v := .ref (a 12)) hC cf_X3 1 2 fl_X3_15 (by decide) gx_1 rfl dX3_addHand_11 ?_
  refine V.aload_n (pc := 14) 0 hC dX3_addHand_14 rfl ?_
  refine V.get (pc := 15) (v := .int (σ 10 0)) hC cf_X3 1 0 fl_X3_51 (by decide) gx_1 rfl dX3_addHand_15 ?_
  refine V.eqi (y := ρ 2) (hT.1.1) ?_
  refine V.iload_n (pc := 18) 2 hC dX3_addHand_18 rfl ?_
  refine V.iast (pc := 19) (f := σ 12) hC 9 (nN (ρ 2)) (wX k g a (va_up (va_up σ 11 (upd (σ 11) (nN (ρ 2)) x)) 12 (upd (σ 12) (nN (ρ 2)) y)) ν) gx_9 hI.hn (by omega) (by decide) rfl dX3_addHand_19 ?_
  refine V.aload_n (pc := 20) 0 hC dX3_addHand_20 rfl ?_
  refine V.dup (pc := 21) hC dX3_addHand_21 rfl ?_
  refine V.get (pc := 22) (v := .int (σ 10 0)) hC cf_X3 1 0 fl_X3_51 (by decide) gx_1 rfl dX3_addHand_22 ?_
  refine V.eqi (y := ρ 2) (hT.1.1) ?_
  refine V.iconst (pc := 25) 1 hC dX3_addHand_25 (by decide) ?_
  refine V.iadd (pc := 26) hC dX3_addHand_26 ?_
  refine V.put (pc := 27) (v := .int ((ρ 2) + 1)) hC cf_X3 1 0 (wX k g a (va_up (va_up (va_up σ 11 (upd (σ 11) (nN (ρ 2)) x)) 12 (upd (σ 12) (nN (ρ 2)) y)) 10 (fun _ => (ρ 2) + 1)) ν) fl_X3_51 (by decide) gx_1 rfl rfl rfl (Nat.le_of_ble_eq_true rfl) rfl dX3_addHand_27 ?_
  refine V.aload_n (pc := 30) 0 hC dX3_addHand_30 rfl ?_
  refine V.get (pc := 31) (v := .int ((ρ 2) + 1)) hC cf_X3 1 0 fl_X3_51 (by decide) gx_1 rfl dX3_addHand_31 ?_
  refine V.iconst (pc := 34) 1 hC dX3_addHand_34 (by decide) ?_
  refine V.isub (pc := 35) hC dX3_addHand_35 ?_
  exact hR (((ρ 2) + 1) - 1) (upd (σ 11) (nN (ρ 2)) x, upd (σ 12) (nN (ρ 2)) y, (ρ 2) + 1) _ _ dX3_addHand_36 rfl ⟨by rw [p1m1], rfl, rfl, rfl⟩
set_option maxHeartbeats 4000000 in
set_option maxRecDepth 100000 in
theorem c_X3_addHome {l : Launch} {D : va_G} {k : Nat → ClassId} {g a : Nat → Nat} (σ ν : St) (ρ : Rw) (x y : Int32) (hT : RT σ ρ) (hI : Inv ρ) (hn : nN (ρ 3) < 8) : Ct l D k g yX3_addHome cX3_addHome 3 (some .int) 0 0 [.ref (a 1), .int x, .int y] (S := Rw × Rw × Int32) (wX k g a σ ν) (fun uu => wX k g a (va_up (va_up (va_up σ 14 uu.1) 15 uu.2.1) 13 (fun _ => uu.2.2)) ν) (fun vv uu => vv = some (.int (ρ 3)) ∧ uu.1 = upd (σ 14) (nN (ρ 3)) x ∧ uu.2.1 = upd (σ 15) (nN (ρ 3)) y ∧ uu.2.2 = ρ 3 + 1) := by
  refine Ct.ofI RX3 rfl (by decide +kernel) (Nat.le_of_ble_eq_true rfl) (fun X hC hR => ?_)
  have hb4 := hI.hb; have hb8 := hI.mb; have hb6 := hI.pb; have hbm := hI.ob0; have hbt := hI.bb; have hbw := hI.wb
  show V X (wX k g a σ ν) [(0, .ref (a 1)), (1, .int x), (2, .int y)] [] 0
  refine V.aload_n (pc := 0) 0 hC dX3_addHome_0 rfl ?_
  refine V.get (pc := 1) (v := .ref (a 14)) hC cf_X3 1 4 fl_X3_18 (by decide) gx_1 rfl dX3_addHome_1 ?_
  refine V.aload_n (pc := 4) 0 hC dX3_addHome_4 rfl ?_
  refine V.get (pc := 5) (v := .int (σ 13 0)) hC cf_X3 1 3 fl_X3_60 (by decide) gx_1 rfl dX3_addHome_5 ?_
  refine V.eqi (y := ρ 3) (hT.2.1.1) ?_
  refine V.iload_n (pc := 8) 1 hC dX3_addHome_8 rfl ?_
  refine V.iast (pc := 9) (f := σ 14) hC 10 (nN (ρ 3)) (wX k g a (va_up σ 14 (upd (σ 14) (nN (ρ 3)) x)) ν) gx_10 hI.mn (by omega) (by decide) rfl dX3_addHome_9 ?_
  refine V.aload_n (pc := 10) 0 hC dX3_addHome_10 rfl ?_
  refine V.get (pc := 11) (v := .ref (a 15)) hC cf_X3 1 5 fl_X3_21 (by decide) gx_1 rfl dX3_addHome_11 ?_
  refine V.aload_n (pc := 14) 0 hC dX3_addHome_14 rfl ?_
  refine V.get (pc := 15) (v := .int (σ 13 0)) hC cf_X3 1 3 fl_X3_60 (by decide) gx_1 rfl dX3_addHome_15 ?_
  refine V.eqi (y := ρ 3) (hT.2.1.1) ?_
  refine V.iload_n (pc := 18) 2 hC dX3_addHome_18 rfl ?_
  refine V.iast (pc := 19) (f := σ 15) hC 11 (nN (ρ 3)) (wX k g a (va_up (va_up σ 14 (upd (σ 14) (nN (ρ 3)) x)) 15 (upd (σ 15) (nN (ρ 3)) y)) ν) gx_11 hI.mn (by omega) (by decide) rfl dX3_addHome_19 ?_
  refine V.aload_n (pc := 20) 0 hC dX3_addHome_20 rfl ?_
  refine V.dup (pc := 21) hC dX3_addHome_21 rfl ?_
  refine V.get (pc := 22) (v := .int (σ 13 0)) hC cf_X3 1 3 fl_X3_60 (by decide) gx_1 rfl dX3_addHome_22 ?_
  refine V.eqi (y := ρ 3) (hT.2.1.1) ?_
  refine V.iconst (pc := 25) 1 hC dX3_addHome_25 (by decide) ?_
  refine V.iadd (pc := 26) hC dX3_addHome_26 ?_
  refine V.put (pc := 27) (v := .int ((ρ 3) + 1)) hC cf_X3 1 3 (wX k g a (va_up (va_up (va_up σ 14 (upd (σ 14) (nN (ρ 3)) x)) 15 (upd (σ 15) (nN (ρ 3)) y)) 13 (fun _ => (ρ 3) + 1)) ν) fl_X3_60 (by decide) gx_1 rfl rfl rfl (Nat.le_of_ble_eq_true rfl) rfl dX3_addHome_27 ?_
  refine V.aload_n (pc := 30) 0 hC dX3_addHome_30 rfl ?_
  refine V.get (pc := 31) (v := .int ((ρ 3) + 1)) hC cf_X3 1 3 fl_X3_60 (by decide) gx_1 rfl dX3_addHome_31 ?_
  refine V.iconst (pc := 34) 1 hC dX3_addHome_34 (by decide) ?_
  refine V.isub (pc := 35) hC dX3_addHome_35 ?_
  exact hR (((ρ 3) + 1) - 1) (upd (σ 14) (nN (ρ 3)) x, upd (σ 15) (nN (ρ 3)) y, (ρ 3) + 1) _ _ dX3_addHome_36 rfl ⟨by rw [p1m1], rfl, rfl, rfl⟩
set_option maxHeartbeats 4000000 in
set_option maxRecDepth 100000 in
theorem c_X3_setKind {l : Launch} {D : va_G} {k : Nat → ClassId} {g a : Nat → Nat} (σ ν : St) (ρ : Rw) (p : Nat) (x : Int32) (hT : RT σ ρ) (hI : Inv ρ) (hp : p < 6) : Ct l D k g yX3_setKind cX3_setKind 3 none 0 0 [.ref (a 1), .int (nI p), .int x] (S := Rw × Rw) (wX k g a σ ν) (fun uu => wX k g a (va_up (va_up σ 17 uu.1) 18 uu.2) ν) (fun vv uu => vv = none ∧ uu.1 = upd (σ 17) p (x / 10) ∧ uu.2 = upd (σ 18) p (irm x 10)) := by
  refine Ct.ofV RX3 rfl (by decide +kernel) (Nat.le_of_ble_eq_true rfl) (fun X hC hR => ?_)
  have hb4 := hI.hb; have hb8 := hI.mb; have hb6 := hI.pb; have hbm := hI.ob0; have hbt := hI.bb; have hbw := hI.wb
  show V X (wX k g a σ ν) [(0, .ref (a 1)), (1, .int (nI p)), (2, .int x)] [] 0
  refine V.aload_n (pc := 0) 0 hC dX3_setKind_0 rfl ?_
  refine V.get (pc := 1) (v := .ref (a 17)) hC cf_X3 1 7 fl_X3_24 (by decide) gx_1 rfl dX3_setKind_1 ?_
  refine V.iload_n (pc := 4) 1 hC dX3_setKind_4 rfl ?_
  refine V.iload_n (pc := 5) 2 hC dX3_setKind_5 rfl ?_
  refine V.bipush (pc := 6) 10 hC dX3_setKind_6 (by decide) ?_
  refine V.idiv (pc := 8) hC dX3_setKind_8 (by decide) ?_
  refine V.iast (pc := 9) (f := σ 17) hC 12 p (wX k g a (va_up σ 17 (upd (σ 17) p (x / 10))) ν) gx_12 rfl (by omega) (by decide) rfl dX3_setKind_9 ?_
  refine V.aload_n (pc := 10) 0 hC dX3_setKind_10 rfl ?_
  refine V.get (pc := 11) (v := .ref (a 18)) hC cf_X3 1 8 fl_X3_27 (by decide) gx_1 rfl dX3_setKind_11 ?_
  refine V.iload_n (pc := 14) 1 hC dX3_setKind_14 rfl ?_
  refine V.iload_n (pc := 15) 2 hC dX3_setKind_15 rfl ?_
  refine V.bipush (pc := 16) 10 hC dX3_setKind_16 (by decide) ?_
  refine V.irem (pc := 18) hC dX3_setKind_18 (by decide) ?_
  refine V.iast (pc := 19) (f := σ 18) hC 13 p (wX k g a (va_up (va_up σ 17 (upd (σ 17) p (x / 10))) 18 (upd (σ 18) p (x - x / 10 * 10))) ν) gx_13 rfl (by omega) (by decide) rfl dX3_setKind_19 ?_
  exact hR (upd (σ 17) p (x / 10), upd (σ 18) p (x - x / 10 * 10)) _ _ dX3_setKind_20 ⟨rfl, rfl, rfl⟩
set_option maxHeartbeats 4000000 in
set_option maxRecDepth 100000 in
theorem c_X3_addPerson {l : Launch} {D : va_G} {k : Nat → ClassId} {g a : Nat → Nat} (σ ν : St) (ρ : Rw) (x y : Int32) (hT : RT σ ρ) (hI : Inv ρ) (hn : nN (ρ 4) < 6) : Ct l D k g yX3_addPerson cX3_addPerson 3 (some .int) 1 22 [.ref (a 1), .int x, .int y] (S := Rw × Rw × Rw × Int32) (wX k g a σ ν) (fun uu => wX k g a (va_up (va_up (va_up (va_up σ 17 uu.1) 18 uu.2.1) 19 uu.2.2.1) 16 (fun _ => uu.2.2.2)) ν) (fun vv uu => vv = some (.int (ρ 4)) ∧ uu.1 = upd (σ 17) (nN (ρ 4)) (x / 10) ∧ uu.2.1 = upd (σ 18) (nN (ρ 4)) (irm x 10) ∧ uu.2.2.1 = upd (σ 19) (nN (ρ 4)) y ∧ uu.2.2.2 = ρ 4 + 1) := by
  refine Ct.ofI RX3 rfl (by decide +kernel) (Nat.le_of_ble_eq_true rfl) (fun X hC hR => ?_)
  have hb4 := hI.hb; have hb8 := hI.mb; have hb6 := hI.pb; have hbm := hI.ob0; have hbt := hI.bb; have hbw := hI.wb
  show V X (wX k g a σ ν) [(0, .ref (a 1)), (1, .int x), (2, .int y)] [] 0
  refine V.aload_n (pc := 0) 0 hC dX3_addPerson_0 rfl ?_
  refine V.aload_n (pc := 1) 0 hC dX3_addPerson_1 rfl ?_
  refine V.get (pc := 2) (v := .int (σ 16 0)) hC cf_X3 1 6 fl_X3_63 (by decide) gx_1 rfl dX3_addPerson_2 ?_
  refine V.eqi (y := ρ 4) (hT.2.2.1.1) ?_
  refine V.iload_n (pc := 5) 1 hC dX3_addPerson_5 rfl ?_
  refine V.sts (st' := [.int x, .int (nI (nN (ρ 4))), .ref (a 1)]) (stk (stc hI.pn (stk rfl))) ?_
  refine V.callV0 (pc := 6) (as := [.int (nI (nN (ρ 4))), .int x]) hC (c_X3_setKind σ ν ρ (nN (ρ 4)) x hT hI hn) mu_X3_setKind ml_X3_89 (by decide) ⟨1, 3, TX3, 17, _, rfl, gx_1⟩ rfl (Nat.le_of_ble_eq_true rfl) dX3_addPerson_6 ?_
  rintro _ ⟨f6_0, f6_1⟩ ⟨rfl, hu6_0, hu6_1⟩
  have hu6_0 : f6_0 = upd (σ 17) (nN (ρ 4)) (x / 10) := hu6_0
  have hu6_1 : f6_1 = upd (σ 18) (nN (ρ 4)) (irm x 10) := hu6_1
  show V X (wX k g a (va_up (va_up σ 17 f6_0) 18 f6_1) ν) [(0, .ref (a 1)), (1, .int x), (2, .int y)] [] 9
  refine V.aload_n (pc := 9) 0 hC dX3_addPerson_9 rfl ?_
  refine V.get (pc := 10) (v := .ref (a 19)) hC cf_X3 1 9 fl_X3_30 (by decide) gx_1 rfl dX3_addPerson_10 ?_
  refine V.aload_n (pc := 13) 0 hC dX3_addPerson_13 rfl ?_
  refine V.get (pc := 14) (v := .int (σ 16 0)) hC cf_X3 1 6 fl_X3_63 (by decide) gx_1 rfl dX3_addPerson_14 ?_
  refine V.eqi (y := ρ 4) (hT.2.2.1.1) ?_
  refine V.iload_n (pc := 17) 2 hC dX3_addPerson_17 rfl ?_
  refine V.iast (pc := 18) (f := σ 19) hC 14 (nN (ρ 4)) (wX k g a (va_up (va_up (va_up σ 17 f6_0) 18 f6_1) 19 (upd (σ 19) (nN (ρ 4)) y)) ν) gx_14 hI.pn (by omega) (by decide) rfl dX3_addPerson_18 ?_
  refine V.aload_n (pc := 19) 0 hC dX3_addPerson_19 rfl ?_
  refine V.dup (pc := 20) hC dX3_addPerson_20 rfl ?_
  refine V.get (pc := 21) (v := .int (σ 16 0)) hC cf_X3 1 6 fl_X3_63 (by decide) gx_1 rfl dX3_addPerson_21 ?_
  refine V.eqi (y := ρ 4) (hT.2.2.1.1) ?_
  refine V.iconst (pc := 24) 1 hC dX3_addPerson_24 (by decide) ?_
  refine V.iadd (pc := 25) hC dX3_addPerson_25 ?_
  refine V.put (pc := 26) (v := .int ((ρ 4) + 1)) hC cf_X3 1 6 (wX k g a (va_up (va_up (va_up (va_up σ 17 f6_0) 18 f6_1) 19 (upd (σ 19) (nN (ρ 4)) y)) 16 (fun _ => (ρ 4) + 1)) ν) fl_X3_63 (by decide) gx_1 rfl rfl rfl (Nat.le_of_ble_eq_true rfl) rfl dX3_addPerson_26 ?_
  refine V.aload_n (pc := 29) 0 hC dX3_addPerson_29 rfl ?_
  refine V.get (pc := 30) (v := .int ((ρ 4) + 1)) hC cf_X3 1 6 fl_X3_63 (by decide) gx_1 rfl dX3_addPerson_30 ?_
  refine V.iconst (pc := 33) 1 hC dX3_addPerson_33 (by decide) ?_
  refine V.isub (pc := 34) hC dX3_addPerson_34 ?_
  exact hR (((ρ 4) + 1) - 1) (f6_0, f6_1, upd (σ 19) (nN (ρ 4)) y, (ρ 4) + 1) _ _ dX3_addPerson_35 rfl ⟨by rw [p1m1], hu6_0, hu6_1, rfl, rfl⟩
set_option maxHeartbeats 4000000 in
set_option maxRecDepth 100000 in
theorem c_X3_addBytes {l : Launch} {D : va_G} {k : Nat → ClassId} {g a : Nat → Nat} (σ ν : St) (ρ : Rw) (w : Int64) (m : Nat) (hT : RT σ ρ) (hI : Inv ρ) (hm : m ≤ 8) (hmb : nN (ρ 5) + m ≤ 60) (hbf : BF (σ 23)) : Ct l D k g yX3_addBytes cX3_addBytes 5 none 0 0 [.ref (a 1), .long w, .int (nI m)] (S := Rw × Int32) (wX k g a σ ν) (fun uu => wX k g a (va_up (va_up σ 23 uu.1) 22 (fun _ => uu.2)) ν) (fun vv uu => vv = none ∧ XB (fun _ => uu.2) uu.1 (feedS w m 0 ρ) ∧ BF uu.1) := by
  refine Ct.ofV RX3 rfl (by decide +kernel) (Nat.le_of_ble_eq_true rfl) (fun X hC hR => ?_)
  have hb4 := hI.hb; have hb8 := hI.mb; have hb6 := hI.pb; have hbm := hI.ob0; have hbt := hI.bb; have hbw := hI.wb
  show V X (wX k g a σ ν) [(0, .ref (a 1)), (1, .long w), (3, .int (nI m))] [] 0
  refine V.iconst (pc := 0) 0 hC dX3_addBytes_0 (by decide) ?_
  refine V.istore (pc := 1) [(4, .int 0), (0, .ref (a 1)), (1, .long w), (3, .int (nI m))] hC dX3_addBytes_1 (by decide) rfl ?_
  have loop_3 : ∀ (n : Nat) (i q : Nat) (f r : Rw) (bs : Int32), i + n = m → BF f → bs = nI q → q + n ≤ 60 → XB (fun _ => bs) f r → feedS w m 0 ρ = feedS w n i r → V X (wX k g a (va_up (va_up σ 23 f) 22 (fun _ => bs)) ν) [(0, .ref (a 1)), (1, .long w), (3, .int (nI m)), (4, .int (nI i))] [] 3 := by
    intro n
    induction n with
    | zero =>
      intro i q f r bs hi hbg hq hqn hx hv
      refine V.iload (pc := 3) 3 hC dX3_addBytes_3 rfl ?_
      refine V.iload_n (pc := 5) 2 hC dX3_addBytes_5 rfl ?_
      refine V.icmp_ge (pc := 6) 43 hC dX3_addBytes_6 (by decide) (fun c_6 => ?_) (fun c_6 => ?_)
      · have nc_6 : m ≤ i := (nle rfl rfl (by omega) (by omega)).mp c_6
        exact hR (f, bs) _ _ dX3_addBytes_43 ⟨rfl, by rw [show feedS w m 0 ρ = r from hv]; exact hx, hbg⟩
      · have nc_6 : ¬ (m ≤ i) := fun z => c_6 ((nle rfl rfl (by omega) (by omega)).mpr z)
        exfalso; omega
    | succ n ih =>
      intro i q f r bs hi hbg hq hqn hx hv
      refine V.iload (pc := 3) 3 hC dX3_addBytes_3 rfl ?_
      refine V.iload_n (pc := 5) 2 hC dX3_addBytes_5 rfl ?_
      refine V.icmp_ge (pc := 6) 43 hC dX3_addBytes_6 (by decide) (fun c_6 => ?_) (fun c_6 => ?_)
      · have nc_6 : m ≤ i := (nle rfl rfl (by omega) (by omega)).mp c_6
        exfalso; omega
      · have nc_6 : ¬ (m ≤ i) := fun z => c_6 ((nle rfl rfl (by omega) (by omega)).mpr z)
        refine V.aload_n (pc := 9) 0 hC dX3_addBytes_9 rfl ?_
        refine V.get (pc := 10) (v := .ref (a 23)) hC cf_X3 1 13 fl_X3_37 (by decide) gx_1 rfl dX3_addBytes_10 ?_
        refine V.aload_n (pc := 13) 0 hC dX3_addBytes_13 rfl ?_
        refine V.get (pc := 14) (v := .int bs) hC cf_X3 1 12 fl_X3_69 (by decide) gx_1 rfl dX3_addBytes_14 ?_
        refine V.lload_n (pc := 17) 1 hC dX3_addBytes_17 rfl ?_
        refine V.bipush (pc := 18) 8 hC dX3_addBytes_18 (by decide) ?_
        refine V.iload (pc := 20) 3 hC dX3_addBytes_20 rfl ?_
        refine V.imul (pc := 22) hC dX3_addBytes_22 ?_
        refine V.lushr (pc := 23) hC dX3_addBytes_23 ?_
        refine V.l2i (pc := 24) hC dX3_addBytes_24 ?_
        refine V.i2b (pc := 25) hC dX3_addBytes_25 ?_
        refine V.bast (pc := 26) (f := f) hC 15 q (wX k g a (va_up (va_up σ 23 (upd f q (vp_nar .byte ((((w.toUInt64 >>> ((8 * (nI i)).toInt64.toUInt64 &&& Int64.toUInt64 63)).toInt64).toInt32).toInt8.toInt32)))) 22 (fun _ => bs)) ν) gx_15 hq (by omega) (by decide) rfl dX3_addBytes_26 ?_
        refine V.aload_n (pc := 27) 0 hC dX3_addBytes_27 rfl ?_
        refine V.dup (pc := 28) hC dX3_addBytes_28 rfl ?_
        refine V.get (pc := 29) (v := .int bs) hC cf_X3 1 12 fl_X3_69 (by decide) gx_1 rfl dX3_addBytes_29 ?_
        refine V.iconst (pc := 32) 1 hC dX3_addBytes_32 (by decide) ?_
        refine V.iadd (pc := 33) hC dX3_addBytes_33 ?_
        refine V.put (pc := 34) (v := .int (bs + 1)) hC cf_X3 1 12 (wX k g a (va_up (va_up σ 23 (upd f q (vp_nar .byte ((((w.toUInt64 >>> ((8 * (nI i)).toInt64.toUInt64 &&& Int64.toUInt64 63)).toInt64).toInt32).toInt8.toInt32)))) 22 (fun _ => bs + 1)) ν) fl_X3_69 (by decide) gx_1 rfl rfl rfl (Nat.le_of_ble_eq_true rfl) rfl dX3_addBytes_34 ?_
        refine V.iinc (pc := 37) 3 (nI (i + 1)) [(4, .int (nI (i + 1))), (0, .ref (a 1)), (1, .long w), (3, .int (nI m))] hC dX3_addBytes_37 rfl (ncast (nadd rfl (nl 1)) (by omega)) (by decide) rfl ?_
        refine V.goto (pc := 40) 3 hC dX3_addBytes_40 (by decide) ?_
        exact V.sub [1, 2, 3, 0] rfl (ih (i + 1) (q + 1) (upd f q (vp_nar .byte ((((w.toUInt64 >>> ((8 * (nI i)).toInt64.toUInt64 &&& Int64.toUInt64 63)).toInt64).toInt32).toInt8.toInt32))) _ (bs + 1) (by omega) (hbg.upd _ _) (nadd hq (nl 1)) (by omega) (XB_s hx hq (by omega) (bytC (w := w) (i := i) (by omega))) (hv.trans rfl))
  exact V.sub [1, 2, 3, 0] rfl (loop_3 m 0 (nN (ρ 5)) (σ 23) ρ (σ 22 0) (by omega) hbf (hT.2.2.2.2.1.1.trans hI.bn) (by omega) hT.2.2.2.2.1 rfl)
set_option maxHeartbeats 4000000 in
set_option maxRecDepth 100000 in
theorem c_X3_draw {l : Launch} {D : va_G} {k : Nat → ClassId} {g a : Nat → Nat} (σ ν : St) (ρ : Rw) (hT : RT σ ρ) (hI : Inv ρ) : Ct l D k g yX3_draw cX3_draw 1 (some .int) 0 0 [.ref (a 1)] (S := Int32) (wX k g a σ ν) (fun uu => wX k g a (va_up σ 21 (fun _ => uu)) ν) (fun vv uu => vv = some (.int (dvS ρ)) ∧ uu = ρ 1 * 1103515245 + 12345) := by
  refine Ct.ofI RX3 rfl (by decide +kernel) (Nat.le_of_ble_eq_true rfl) (fun X hC hR => ?_)
  have hb4 := hI.hb; have hb8 := hI.mb; have hb6 := hI.pb; have hbm := hI.ob0; have hbt := hI.bb; have hbw := hI.wb
  show V X (wX k g a σ ν) [(0, .ref (a 1))] [] 0
  refine V.aload_n (pc := 0) 0 hC dX3_draw_0 rfl ?_
  refine V.aload_n (pc := 1) 0 hC dX3_draw_1 rfl ?_
  refine V.get (pc := 2) (v := .int (σ 21 0)) hC cf_X3 1 11 fl_X3_33 (by decide) gx_1 rfl dX3_draw_2 ?_
  refine V.eqi (y := ρ 1) (hT.2.2.2.1.2) ?_
  refine V.ldc (pc := 5) (v := 1103515245) hC cn_X3_141 dX3_draw_5 ?_
  refine V.imul (pc := 7) hC dX3_draw_7 ?_
  refine V.sipush (pc := 8) 12345 hC dX3_draw_8 (by decide) ?_
  refine V.iadd (pc := 11) hC dX3_draw_11 ?_
  refine V.put (pc := 12) (v := .int (((ρ 1) * 1103515245) + 12345)) hC cf_X3 1 11 (wX k g a (va_up σ 21 (fun _ => ((ρ 1) * 1103515245) + 12345)) ν) fl_X3_33 (by decide) gx_1 rfl rfl rfl (Nat.le_of_ble_eq_true rfl) rfl dX3_draw_12 ?_
  refine V.aload_n (pc := 15) 0 hC dX3_draw_15 rfl ?_
  refine V.get (pc := 16) (v := .int (((ρ 1) * 1103515245) + 12345)) hC cf_X3 1 11 fl_X3_33 (by decide) gx_1 rfl dX3_draw_16 ?_
  refine V.bipush (pc := 19) 8 hC dX3_draw_19 (by decide) ?_
  refine V.iushr (pc := 21) hC dX3_draw_21 ?_
  exact hR (((((ρ 1) * 1103515245) + 12345).toUInt32 >>> ((8 : Int32).toUInt32 &&& Int32.toUInt32 31)).toInt32) (((ρ 1) * 1103515245) + 12345) _ _ dX3_draw_22 rfl ⟨rfl, rfl⟩
set_option maxHeartbeats 4000000 in
set_option maxRecDepth 100000 in
theorem c_X3_jumpsByDraws {l : Launch} {D : va_G} {k : Nat → ClassId} {g a : Nat → Nat} (σ ν : St) (ρ : Rw) (hT : RT σ ρ) (hI : Inv ρ) : Ct l D k g yX3_jumpsByDraws cX3_jumpsByDraws 3 (some .boolean) 5 120 [.ref (a 1)] (S := St × Rw) (wX k g a σ ν) (fun uu => wX k g a uu.1 (va_up ν 31 uu.2)) (fun vv uu => vv = some (.int (bI ((lstS ρ).1 = 1))) ∧ RT uu.1 (lstS ρ).2 ∧ ∀ j, (j < 10 ∨ 31 ≤ j) → uu.1 j = σ j) := by
  refine Ct.ofI RX3 rfl (by decide +kernel) (Nat.le_of_ble_eq_true rfl) (fun X hC hR => ?_)
  have hb4 := hI.hb; have hb8 := hI.mb; have hb6 := hI.pb; have hbm := hI.ob0; have hbt := hI.bb; have hbw := hI.wb
  show V X (wX k g a σ ν) [(0, .ref (a 1))] [] 0
  refine V.aload_n (pc := 0) 0 hC dX3_jumpsByDraws_0 rfl ?_
  refine V.get (pc := 1) (v := .int (σ 16 0)) hC cf_X3 1 6 fl_X3_63 (by decide) gx_1 rfl dX3_jumpsByDraws_1 ?_
  refine V.eqi (y := ρ 4) (hT.2.2.1.1) ?_
  refine V.if_ne (pc := 4) 9 hC dX3_jumpsByDraws_4 (by decide) (fun c_4 => ?_) (fun c_4 => ?_)
  · have hp0 : 0 < nN (ρ 4) := Nat.pos_of_ne_zero (fun q => c_4 (by rw [hI.pn, q]; rfl))
    have hm0 := hI.home0 hp0
    have hdp := dp_n hI hp0
    have hdh := dh_n hI hm0
    have hls : lstS ρ = drnS ρ := by unfold lstS; rw [if_pos]; rw [hI.pn]; exact (nI_ltI (a := 0) (by omega) (by omega)).mpr hp0
    refine V.aload_n (pc := 9) 0 hC dX3_jumpsByDraws_9 rfl ?_
    refine V.callV0 (pc := 10) (as := []) hC (c_X3_draw σ ν ρ hT hI) mu_X3_draw ml_X3_142 (by decide) ⟨1, 3, TX3, 17, _, rfl, gx_1⟩ rfl (Nat.le_of_ble_eq_true rfl) dX3_jumpsByDraws_10 ?_
    rintro _ i10_0 ⟨rfl, hu10_0⟩
    have hu10_0 : i10_0 = ρ 1 * 1103515245 + 12345 := hu10_0
    show V X (wX k g a (va_up σ 21 (fun _ => i10_0)) ν) [(0, .ref (a 1))] [.int (dvS ρ)] 13
    have hT1 : RT (va_up σ 21 (fun _ => i10_0)) (drwS ρ) := by rw [hu10_0]; exact hT.z hI _
    have hI1 := hI.drw
    refine V.aload_n (pc := 13) 0 hC dX3_jumpsByDraws_13 rfl ?_
    refine V.get (pc := 14) (v := .int (σ 16 0)) hC cf_X3 1 6 fl_X3_63 (by decide) gx_1 rfl dX3_jumpsByDraws_14 ?_
    refine V.eqi (y := ρ 4) (hT.2.2.1.1) ?_
    refine V.callN0 (pc := 17) (as := [.int (dvS ρ), .int (ρ 4)]) hC (c_X6_rest (dvS ρ) (ρ 4) ) ms_X6_rest (host := RX6) (by simp [nstW]) (by decide) rfl (Nat.le_of_ble_eq_true rfl) dX3_jumpsByDraws_17 ?_
    rintro _ _ rfl
    show V X (wX k g a (va_up σ 21 (fun _ => i10_0)) ν) [(0, .ref (a 1))] [.int (restS (dvS ρ) (ρ 4))] 20
    refine V.eqi (y := nI (dpS ρ)) (dp_r hI hp0) ?_
    refine V.istore_n (pc := 20) [(1, .int (nI (dpS ρ))), (0, .ref (a 1))] hC dX3_jumpsByDraws_20 (by decide) rfl ?_
    refine V.aload_n (pc := 21) 1 hC dX3_jumpsByDraws_21 rfl ?_
    refine V.callV0 (pc := 22) (as := []) hC (c_X3_draw (va_up σ 21 (fun _ => i10_0)) ν (drwS ρ) hT1 hI1) mu_X3_draw ml_X3_142 (by decide) ⟨1, 3, TX3, 17, _, rfl, gx_1⟩ rfl (Nat.le_of_ble_eq_true rfl) dX3_jumpsByDraws_22 ?_
    rintro _ i22_0 ⟨rfl, hu22_0⟩
    have hu22_0 : i22_0 = (drwS ρ) 1 * 1103515245 + 12345 := hu22_0
    show V X (wX k g a (va_up σ 21 (fun _ => i22_0)) ν) [(1, .int (nI (dpS ρ))), (0, .ref (a 1))] [.int (dvS (drwS ρ))] 25
    have hT2 : RT (va_up σ 21 (fun _ => i22_0)) (drwS (drwS ρ)) := by rw [hu22_0]; exact hT1.z hI1 _
    obtain ⟨f, hf⟩ : ∃ f, f = drwS (drwS ρ) := ⟨_, rfl⟩
    rw [← hf] at hT2
    have hI2 : Inv f := by rw [hf]; exact hI1.drw
    have hfe : ∀ j, j ≠ 1 → f j = ρ j := fun j hj => by rw [hf]; exact drw2_ne hj
    refine V.aload_n (pc := 25) 1 hC dX3_jumpsByDraws_25 rfl ?_
    refine V.get (pc := 26) (v := .int (σ 13 0)) hC cf_X3 1 3 fl_X3_60 (by decide) gx_1 rfl dX3_jumpsByDraws_26 ?_
    refine V.eqi (y := ρ 3) (hT.2.1.1) ?_
    refine V.callN0 (pc := 29) (as := [.int (dvS (drwS ρ)), .int (ρ 3)]) hC (c_X6_rest (dvS (drwS ρ)) (ρ 3) ) ms_X6_rest (host := RX6) (by simp [nstW]) (by decide) rfl (Nat.le_of_ble_eq_true rfl) dX3_jumpsByDraws_29 ?_
    rintro _ _ rfl
    show V X (wX k g a (va_up σ 21 (fun _ => i22_0)) ν) [(1, .int (nI (dpS ρ))), (0, .ref (a 1))] [.int (restS (dvS (drwS ρ)) (ρ 3))] 32
    refine V.eqi (y := dhS ρ) (dh_r hI hm0) ?_
    refine V.istore_n (pc := 32) [(2, .int (dhS ρ)), (1, .int (nI (dpS ρ))), (0, .ref (a 1))] hC dX3_jumpsByDraws_32 (by decide) rfl ?_
    refine V.iload_n (pc := 33) 0 hC dX3_jumpsByDraws_33 rfl ?_
    refine V.aload_n (pc := 34) 2 hC dX3_jumpsByDraws_34 rfl ?_
    refine V.get (pc := 35) (v := .ref (a 19)) hC cf_X3 1 9 fl_X3_30 (by decide) gx_1 rfl dX3_jumpsByDraws_35 ?_
    refine V.iload_n (pc := 38) 1 hC dX3_jumpsByDraws_38 rfl ?_
    refine V.iald (pc := 39) (f := σ 19) hC 14 (dpS ρ) gx_14 rfl (by omega) (by decide) dX3_jumpsByDraws_39 ?_
    refine V.eqi (y := ρ (33 + 3 * (dpS ρ))) (hT.2.2.1.2.2.2 (dpS ρ) (by omega)) ?_
    refine V.icmp_eq (pc := 40) 56 hC dX3_jumpsByDraws_40 (by decide) (fun c_40 => ?_) (fun c_40 => ?_)
    · refine V.iconst (pc := 56) 0 hC dX3_jumpsByDraws_56 (by decide) ?_
      exact hR 0 ((va_up σ 21 (fun _ => i22_0)), ν 31) _ _ dX3_jumpsByDraws_57 (by first | rfl | exact bI_n _) ⟨rb0 (by rw [hls, drn_t (Or.inl c_40)]; exact fun q => absurd (show (0 : Int32) = 1 from q) (by decide)), by rw [hls, drn_t (Or.inl c_40)]; exact hf ▸ hT2, fun j hj => va_up_ne _ _ (by omega)⟩
    · refine V.aload_n (pc := 43) 2 hC dX3_jumpsByDraws_43 rfl ?_
      refine V.iload_n (pc := 44) 1 hC dX3_jumpsByDraws_44 rfl ?_
      refine V.iload_n (pc := 45) 0 hC dX3_jumpsByDraws_45 rfl ?_
      refine V.aload_n (pc := 46) 2 hC dX3_jumpsByDraws_46 rfl ?_
      refine V.get (pc := 47) (v := .int (σ 20 0)) hC cf_X3 1 10 fl_X3_66 (by decide) gx_1 rfl dX3_jumpsByDraws_47 ?_
      refine V.eqi (y := ρ 0) (hT.2.2.2.1.1) ?_
      refine V.sts (st' := [.int (ρ 0), .int (nI (nN (dhS ρ))), .int (nI (dpS ρ)), .ref (a 1)]) (stk (stc hdh.1 (stk (stk rfl)))) ?_
      refine V.callV0 (pc := 50) (as := [.int (nI (dpS ρ)), .int (nI (nN (dhS ρ))), .int (ρ 0)]) hC (c_X3_gets (va_up σ 21 (fun _ => i22_0)) ν f (dpS ρ) (nN (dhS ρ)) (ρ 0) hT2 hI2 (by rw [hfe 4 (by omega)]; exact hdp.2) (by rw [hfe 3 (by omega)]; exact hdh.2) (isN.mk hI.on0 (by omega) (by omega))) mu_X3_gets ml_X3_146 (by decide) ⟨1, 3, TX3, 17, _, rfl, gx_1⟩ rfl (Nat.le_of_ble_eq_true rfl) dX3_jumpsByDraws_50 ?_
      rintro _ f50_0 rfl
      show V X (wX k g a (va_up σ 21 (fun _ => i22_0)) (va_up ν 31 f50_0)) [(2, .int (dhS ρ)), (1, .int (nI (dpS ρ))), (0, .ref (a 1))] [.int (bI (getsS f (dpS ρ) (nN (f (33 + 3 * (dpS ρ)))) (nN (dhS ρ)) (ρ 0)))] 53
      refine V.if_ne_b (P := getsS f (dpS ρ) (nN (f (33 + 3 * (dpS ρ)))) (nN (dhS ρ)) (ρ 0)) (pc := 53) 58 hC dX3_jumpsByDraws_53 (by decide) (fun c_53 => ?_) (fun c_53 => ?_)
      · have hg : getsS (drwS (drwS ρ)) (dpS ρ) (nN (ρ (33 + 3 * dpS ρ))) (nN (dhS ρ)) (ρ 0) := by rw [← hf, ← hfe (33 + 3 * dpS ρ) (by omega)]; exact c_53
        refine V.aload_n (pc := 58) 2 hC dX3_jumpsByDraws_58 rfl ?_
        refine V.get (pc := 59) (v := .ref (a 19)) hC cf_X3 1 9 fl_X3_30 (by decide) gx_1 rfl dX3_jumpsByDraws_59 ?_
        refine V.iload_n (pc := 62) 1 hC dX3_jumpsByDraws_62 rfl ?_
        refine V.iload_n (pc := 63) 0 hC dX3_jumpsByDraws_63 rfl ?_
        refine V.iast (pc := 64) (f := σ 19) hC 14 (dpS ρ) (wX k g a (va_up (va_up σ 21 (fun _ => i22_0)) 19 (upd (σ 19) (dpS ρ) (dhS ρ))) (va_up ν 31 f50_0)) gx_14 rfl (by omega) (by decide) rfl dX3_jumpsByDraws_64 ?_
        refine V.iconst (pc := 65) 1 hC dX3_jumpsByDraws_65 (by decide) ?_
        exact hR 1 ((va_up (va_up σ 21 (fun _ => i22_0)) 19 (upd (σ 19) (dpS ρ) (dhS ρ))), f50_0) _ _ dX3_jumpsByDraws_66 (by first | rfl | exact bI_n _) ⟨rb1 (by rw [hls, drn_f (fun q => q.elim c_40 (fun r => r hg))]), by rw [hls, drn_f (fun q => q.elim c_40 (fun r => r hg)), ← hf]; exact hT2.room hI2 (by omega) _, fun j hj => (va_up_ne _ _ (by omega)).trans (va_up_ne _ _ (by omega))⟩
      · have hng : ¬ getsS (drwS (drwS ρ)) (dpS ρ) (nN (ρ (33 + 3 * dpS ρ))) (nN (dhS ρ)) (ρ 0) := by rw [← hf, ← hfe (33 + 3 * dpS ρ) (by omega)]; exact c_53
        refine V.iconst (pc := 56) 0 hC dX3_jumpsByDraws_56 (by decide) ?_
        exact hR 0 ((va_up σ 21 (fun _ => i22_0)), f50_0) _ _ dX3_jumpsByDraws_57 (by first | rfl | exact bI_n _) ⟨rb0 (by rw [hls, drn_t (Or.inr hng)]; exact fun q => absurd (show (0 : Int32) = 1 from q) (by decide)), by rw [hls, drn_t (Or.inr hng)]; exact hf ▸ hT2, fun j hj => va_up_ne _ _ (by omega)⟩
  · refine V.iconst (pc := 7) 0 hC dX3_jumpsByDraws_7 (by decide) ?_
    exact hR 0 (σ, ν 31) _ _ dX3_jumpsByDraws_8 (by first | rfl | exact bI_n _) ⟨rb0 (by rw [(lst_f (ρ := ρ) (by rw [c_4]; decide)).1]; decide), by rw [(lst_f (ρ := ρ) (by rw [c_4]; decide)).2]; exact hT, fun j hj => rfl⟩
