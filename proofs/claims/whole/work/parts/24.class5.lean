theorem BF.cpy {f g : Rw} (h : BF f) : BF (va_cpy f g 0 0 60) := fun i hi => by rw [cpy_v hi]; exact h i hi

set_option maxHeartbeats 4000000 in
set_option maxRecDepth 100000 in
theorem c_X0_take_27_59 {l : Launch} {D : va_G} {k : Nat → ClassId} {g a : Nat → Nat} (σ ν : St) (m : Nat) (hm : m ≤ 60) : Ct l D k g yX0_take cX0_take 3 none 1 200 [.ref (a 27), .ref (a 59), .int (nI m)] (S := Rw × Int32) (wX k g a σ ν) (fun uu => wX k g a (va_up (va_up σ 29 uu.1) 27 (fun _ => uu.2)) ν) (fun vv uu => vv = none ∧ uu.1 = va_cpy (σ 59) (σ 29) 0 0 m ∧ uu.2 = nI m) := by
  refine Ct.ofV RX0 rfl (by decide +kernel) (Nat.le_of_ble_eq_true rfl) (fun X hC hR => ?_)
  show V X (wX k g a σ ν) [(0, .ref (a 27)), (1, .ref (a 59)), (2, .int (nI m))] [] 0
  refine V.aload_n (pc := 0) 1 hC dX0_take_0 rfl ?_
  refine V.iconst (pc := 1) 0 hC dX0_take_1 (by decide) ?_
  refine V.aload_n (pc := 2) 0 hC dX0_take_2 rfl ?_
  refine V.get (pc := 3) (v := .ref (a 29)) hC cf_X0 18 0 fl_X0_9 (by decide) gx_18 rfl dX0_take_3 ?_
  refine V.iconst (pc := 6) 0 hC dX0_take_6 (by decide) ?_
  refine V.iload_n (pc := 7) 2 hC dX0_take_7 rfl ?_
  refine V.copyi (pc := 8) (f := σ 59) (gg := σ 29) hC 36 20 0 0 m (wX k g a (va_up σ 29 (va_cpy (σ 59) (σ 29) 0 0 m)) ν) 0 .int (k 0) ml_X0_18 gx_36 gx_20 rfl rfl (nl 0) (nl 0) rfl (by omega) (by omega) (by decide) (by decide) (fun _ _ => rfl) ⟨Nat.le_of_ble_eq_true rfl, Nat.le_of_ble_eq_true rfl⟩ rfl dX0_take_8 ?_
  show V X (wX k g a (va_up σ 29 (va_cpy (σ 59) (σ 29) 0 0 m)) ν) [(0, .ref (a 27)), (1, .ref (a 59)), (2, .int (nI m))] [] 11
  refine V.aload_n (pc := 11) 0 hC dX0_take_11 rfl ?_
  refine V.iload_n (pc := 12) 2 hC dX0_take_12 rfl ?_
  refine V.put (pc := 13) (v := .int (nI m)) hC cf_X0 18 2 (wX k g a (va_up (va_up σ 29 (va_cpy (σ 59) (σ 29) 0 0 m)) 27 (fun _ => nI m)) ν) fl_X0_24 (by decide) gx_18 rfl rfl rfl (Nat.le_of_ble_eq_true rfl) rfl dX0_take_13 ?_
  exact hR (va_cpy (σ 59) (σ 29) 0 0 m, nI m) _ _ dX0_take_16 ⟨rfl, rfl, rfl⟩
set_option maxHeartbeats 4000000 in
set_option maxRecDepth 100000 in
theorem c_X0_take_28_60 {l : Launch} {D : va_G} {k : Nat → ClassId} {g a : Nat → Nat} (σ ν : St) (m : Nat) (hm : m ≤ 60) : Ct l D k g yX0_take cX0_take 3 none 1 200 [.ref (a 28), .ref (a 60), .int (nI m)] (S := Rw × Int32) (wX k g a σ ν) (fun uu => wX k g a (va_up (va_up σ 30 uu.1) 28 (fun _ => uu.2)) ν) (fun vv uu => vv = none ∧ uu.1 = va_cpy (σ 60) (σ 30) 0 0 m ∧ uu.2 = nI m) := by
  refine Ct.ofV RX0 rfl (by decide +kernel) (Nat.le_of_ble_eq_true rfl) (fun X hC hR => ?_)
  show V X (wX k g a σ ν) [(0, .ref (a 28)), (1, .ref (a 60)), (2, .int (nI m))] [] 0
  refine V.aload_n (pc := 0) 1 hC dX0_take_0 rfl ?_
  refine V.iconst (pc := 1) 0 hC dX0_take_1 (by decide) ?_
  refine V.aload_n (pc := 2) 0 hC dX0_take_2 rfl ?_
  refine V.get (pc := 3) (v := .ref (a 30)) hC cf_X0 19 0 fl_X0_9 (by decide) gx_19 rfl dX0_take_3 ?_
  refine V.iconst (pc := 6) 0 hC dX0_take_6 (by decide) ?_
  refine V.iload_n (pc := 7) 2 hC dX0_take_7 rfl ?_
  refine V.copyi (pc := 8) (f := σ 60) (gg := σ 30) hC 37 21 0 0 m (wX k g a (va_up σ 30 (va_cpy (σ 60) (σ 30) 0 0 m)) ν) 0 .int (k 0) ml_X0_18 gx_37 gx_21 rfl rfl (nl 0) (nl 0) rfl (by omega) (by omega) (by decide) (by decide) (fun _ _ => rfl) ⟨Nat.le_of_ble_eq_true rfl, Nat.le_of_ble_eq_true rfl⟩ rfl dX0_take_8 ?_
  show V X (wX k g a (va_up σ 30 (va_cpy (σ 60) (σ 30) 0 0 m)) ν) [(0, .ref (a 28)), (1, .ref (a 60)), (2, .int (nI m))] [] 11
  refine V.aload_n (pc := 11) 0 hC dX0_take_11 rfl ?_
  refine V.iload_n (pc := 12) 2 hC dX0_take_12 rfl ?_
  refine V.put (pc := 13) (v := .int (nI m)) hC cf_X0 19 2 (wX k g a (va_up (va_up σ 30 (va_cpy (σ 60) (σ 30) 0 0 m)) 28 (fun _ => nI m)) ν) fl_X0_24 (by decide) gx_19 rfl rfl rfl (Nat.le_of_ble_eq_true rfl) rfl dX0_take_13 ?_
  exact hR (va_cpy (σ 60) (σ 30) 0 0 m, nI m) _ _ dX0_take_16 ⟨rfl, rfl, rfl⟩
set_option maxHeartbeats 4000000 in
set_option maxRecDepth 100000 in
theorem c_X0_take_57_29 {l : Launch} {D : va_G} {k : Nat → ClassId} {g a : Nat → Nat} (σ ν : St) (m : Nat) (hm : m ≤ 60) : Ct l D k g yX0_take cX0_take 3 none 1 200 [.ref (a 57), .ref (a 29), .int (nI m)] (S := Rw × Int32) (wX k g a σ ν) (fun uu => wX k g a (va_up (va_up σ 59 uu.1) 57 (fun _ => uu.2)) ν) (fun vv uu => vv = none ∧ uu.1 = va_cpy (σ 29) (σ 59) 0 0 m ∧ uu.2 = nI m) := by
  refine Ct.ofV RX0 rfl (by decide +kernel) (Nat.le_of_ble_eq_true rfl) (fun X hC hR => ?_)
  show V X (wX k g a σ ν) [(0, .ref (a 57)), (1, .ref (a 29)), (2, .int (nI m))] [] 0
  refine V.aload_n (pc := 0) 1 hC dX0_take_0 rfl ?_
  refine V.iconst (pc := 1) 0 hC dX0_take_1 (by decide) ?_
  refine V.aload_n (pc := 2) 0 hC dX0_take_2 rfl ?_
  refine V.get (pc := 3) (v := .ref (a 59)) hC cf_X0 34 0 fl_X0_9 (by decide) gx_34 rfl dX0_take_3 ?_
  refine V.iconst (pc := 6) 0 hC dX0_take_6 (by decide) ?_
  refine V.iload_n (pc := 7) 2 hC dX0_take_7 rfl ?_
  refine V.copyi (pc := 8) (f := σ 29) (gg := σ 59) hC 20 36 0 0 m (wX k g a (va_up σ 59 (va_cpy (σ 29) (σ 59) 0 0 m)) ν) 0 .int (k 0) ml_X0_18 gx_20 gx_36 rfl rfl (nl 0) (nl 0) rfl (by omega) (by omega) (by decide) (by decide) (fun _ _ => rfl) ⟨Nat.le_of_ble_eq_true rfl, Nat.le_of_ble_eq_true rfl⟩ rfl dX0_take_8 ?_
  show V X (wX k g a (va_up σ 59 (va_cpy (σ 29) (σ 59) 0 0 m)) ν) [(0, .ref (a 57)), (1, .ref (a 29)), (2, .int (nI m))] [] 11
  refine V.aload_n (pc := 11) 0 hC dX0_take_11 rfl ?_
  refine V.iload_n (pc := 12) 2 hC dX0_take_12 rfl ?_
  refine V.put (pc := 13) (v := .int (nI m)) hC cf_X0 34 2 (wX k g a (va_up (va_up σ 59 (va_cpy (σ 29) (σ 59) 0 0 m)) 57 (fun _ => nI m)) ν) fl_X0_24 (by decide) gx_34 rfl rfl rfl (Nat.le_of_ble_eq_true rfl) rfl dX0_take_13 ?_
  exact hR (va_cpy (σ 29) (σ 59) 0 0 m, nI m) _ _ dX0_take_16 ⟨rfl, rfl, rfl⟩
set_option maxHeartbeats 4000000 in
set_option maxRecDepth 100000 in
theorem c_X0_take_58_30 {l : Launch} {D : va_G} {k : Nat → ClassId} {g a : Nat → Nat} (σ ν : St) (m : Nat) (hm : m ≤ 60) : Ct l D k g yX0_take cX0_take 3 none 1 200 [.ref (a 58), .ref (a 30), .int (nI m)] (S := Rw × Int32) (wX k g a σ ν) (fun uu => wX k g a (va_up (va_up σ 60 uu.1) 58 (fun _ => uu.2)) ν) (fun vv uu => vv = none ∧ uu.1 = va_cpy (σ 30) (σ 60) 0 0 m ∧ uu.2 = nI m) := by
  refine Ct.ofV RX0 rfl (by decide +kernel) (Nat.le_of_ble_eq_true rfl) (fun X hC hR => ?_)
  show V X (wX k g a σ ν) [(0, .ref (a 58)), (1, .ref (a 30)), (2, .int (nI m))] [] 0
  refine V.aload_n (pc := 0) 1 hC dX0_take_0 rfl ?_
  refine V.iconst (pc := 1) 0 hC dX0_take_1 (by decide) ?_
  refine V.aload_n (pc := 2) 0 hC dX0_take_2 rfl ?_
  refine V.get (pc := 3) (v := .ref (a 60)) hC cf_X0 35 0 fl_X0_9 (by decide) gx_35 rfl dX0_take_3 ?_
  refine V.iconst (pc := 6) 0 hC dX0_take_6 (by decide) ?_
  refine V.iload_n (pc := 7) 2 hC dX0_take_7 rfl ?_
  refine V.copyi (pc := 8) (f := σ 30) (gg := σ 60) hC 21 37 0 0 m (wX k g a (va_up σ 60 (va_cpy (σ 30) (σ 60) 0 0 m)) ν) 0 .int (k 0) ml_X0_18 gx_21 gx_37 rfl rfl (nl 0) (nl 0) rfl (by omega) (by omega) (by decide) (by decide) (fun _ _ => rfl) ⟨Nat.le_of_ble_eq_true rfl, Nat.le_of_ble_eq_true rfl⟩ rfl dX0_take_8 ?_
  show V X (wX k g a (va_up σ 60 (va_cpy (σ 30) (σ 60) 0 0 m)) ν) [(0, .ref (a 58)), (1, .ref (a 30)), (2, .int (nI m))] [] 11
  refine V.aload_n (pc := 11) 0 hC dX0_take_11 rfl ?_
  refine V.iload_n (pc := 12) 2 hC dX0_take_12 rfl ?_
  refine V.put (pc := 13) (v := .int (nI m)) hC cf_X0 35 2 (wX k g a (va_up (va_up σ 60 (va_cpy (σ 30) (σ 60) 0 0 m)) 58 (fun _ => nI m)) ν) fl_X0_24 (by decide) gx_35 rfl rfl rfl (Nat.le_of_ble_eq_true rfl) rfl dX0_take_13 ?_
  exact hR (va_cpy (σ 30) (σ 60) 0 0 m, nI m) _ _ dX0_take_16 ⟨rfl, rfl, rfl⟩
set_option maxHeartbeats 4000000 in
set_option maxRecDepth 100000 in
theorem c_X0_take_27_70 {l : Launch} {D : va_G} {k : Nat → ClassId} {g a : Nat → Nat} (σ ν : St) (m : Nat) (hm : m ≤ 60) : Ct l D k g yX0_take cX0_take 3 none 1 200 [.ref (a 27), .ref (a 70), .int (nI m)] (S := Rw × Int32) (wX k g a σ ν) (fun uu => wX k g a (va_up (va_up σ 29 uu.1) 27 (fun _ => uu.2)) ν) (fun vv uu => vv = none ∧ uu.1 = va_cpy (ν 70) (σ 29) 0 0 m ∧ uu.2 = nI m) := by
  refine Ct.ofV RX0 rfl (by decide +kernel) (Nat.le_of_ble_eq_true rfl) (fun X hC hR => ?_)
  show V X (wX k g a σ ν) [(0, .ref (a 27)), (1, .ref (a 70)), (2, .int (nI m))] [] 0
  refine V.aload_n (pc := 0) 1 hC dX0_take_0 rfl ?_
  refine V.iconst (pc := 1) 0 hC dX0_take_1 (by decide) ?_
  refine V.aload_n (pc := 2) 0 hC dX0_take_2 rfl ?_
  refine V.get (pc := 3) (v := .ref (a 29)) hC cf_X0 18 0 fl_X0_9 (by decide) gx_18 rfl dX0_take_3 ?_
  refine V.iconst (pc := 6) 0 hC dX0_take_6 (by decide) ?_
  refine V.iload_n (pc := 7) 2 hC dX0_take_7 rfl ?_
  refine V.copyi (pc := 8) (f := ν 70) (gg := σ 29) hC 40 20 0 0 m (wX k g a (va_up σ 29 (va_cpy (ν 70) (σ 29) 0 0 m)) ν) 0 .int (k 0) ml_X0_18 gx_40 gx_20 rfl rfl (nl 0) (nl 0) rfl (by omega) (by omega) (by decide) (by decide) (fun _ _ => rfl) ⟨Nat.le_of_ble_eq_true rfl, Nat.le_of_ble_eq_true rfl⟩ rfl dX0_take_8 ?_
  show V X (wX k g a (va_up σ 29 (va_cpy (ν 70) (σ 29) 0 0 m)) ν) [(0, .ref (a 27)), (1, .ref (a 70)), (2, .int (nI m))] [] 11
  refine V.aload_n (pc := 11) 0 hC dX0_take_11 rfl ?_
  refine V.iload_n (pc := 12) 2 hC dX0_take_12 rfl ?_
  refine V.put (pc := 13) (v := .int (nI m)) hC cf_X0 18 2 (wX k g a (va_up (va_up σ 29 (va_cpy (ν 70) (σ 29) 0 0 m)) 27 (fun _ => nI m)) ν) fl_X0_24 (by decide) gx_18 rfl rfl rfl (Nat.le_of_ble_eq_true rfl) rfl dX0_take_13 ?_
  exact hR (va_cpy (ν 70) (σ 29) 0 0 m, nI m) _ _ dX0_take_16 ⟨rfl, rfl, rfl⟩
set_option maxHeartbeats 4000000 in
set_option maxRecDepth 100000 in
theorem c_X0_take_28_70 {l : Launch} {D : va_G} {k : Nat → ClassId} {g a : Nat → Nat} (σ ν : St) (m : Nat) (hm : m ≤ 60) : Ct l D k g yX0_take cX0_take 3 none 1 200 [.ref (a 28), .ref (a 70), .int (nI m)] (S := Rw × Int32) (wX k g a σ ν) (fun uu => wX k g a (va_up (va_up σ 30 uu.1) 28 (fun _ => uu.2)) ν) (fun vv uu => vv = none ∧ uu.1 = va_cpy (ν 70) (σ 30) 0 0 m ∧ uu.2 = nI m) := by
  refine Ct.ofV RX0 rfl (by decide +kernel) (Nat.le_of_ble_eq_true rfl) (fun X hC hR => ?_)
  show V X (wX k g a σ ν) [(0, .ref (a 28)), (1, .ref (a 70)), (2, .int (nI m))] [] 0
  refine V.aload_n (pc := 0) 1 hC dX0_take_0 rfl ?_
  refine V.iconst (pc := 1) 0 hC dX0_take_1 (by decide) ?_
  refine V.aload_n (pc := 2) 0 hC dX0_take_2 rfl ?_
  refine V.get (pc := 3) (v := .ref (a 30)) hC cf_X0 19 0 fl_X0_9 (by decide) gx_19 rfl dX0_take_3 ?_
  refine V.iconst (pc := 6) 0 hC dX0_take_6 (by decide) ?_
  refine V.iload_n (pc := 7) 2 hC dX0_take_7 rfl ?_
  refine V.copyi (pc := 8) (f := ν 70) (gg := σ 30) hC 40 21 0 0 m (wX k g a (va_up σ 30 (va_cpy (ν 70) (σ 30) 0 0 m)) ν) 0 .int (k 0) ml_X0_18 gx_40 gx_21 rfl rfl (nl 0) (nl 0) rfl (by omega) (by omega) (by decide) (by decide) (fun _ _ => rfl) ⟨Nat.le_of_ble_eq_true rfl, Nat.le_of_ble_eq_true rfl⟩ rfl dX0_take_8 ?_
  show V X (wX k g a (va_up σ 30 (va_cpy (ν 70) (σ 30) 0 0 m)) ν) [(0, .ref (a 28)), (1, .ref (a 70)), (2, .int (nI m))] [] 11
  refine V.aload_n (pc := 11) 0 hC dX0_take_11 rfl ?_
  refine V.iload_n (pc := 12) 2 hC dX0_take_12 rfl ?_
  refine V.put (pc := 13) (v := .int (nI m)) hC cf_X0 19 2 (wX k g a (va_up (va_up σ 30 (va_cpy (ν 70) (σ 30) 0 0 m)) 28 (fun _ => nI m)) ν) fl_X0_24 (by decide) gx_19 rfl rfl rfl (Nat.le_of_ble_eq_true rfl) rfl dX0_take_13 ?_
  exact hR (va_cpy (ν 70) (σ 30) 0 0 m, nI m) _ _ dX0_take_16 ⟨rfl, rfl, rfl⟩
set_option maxHeartbeats 4000000 in
set_option maxRecDepth 100000 in
theorem c_take_keep {l : Launch} {D : va_G} {k : Nat → ClassId} {g a : Nat → Nat} (σ ν : St) (ρ : Rw) (hT : RT σ ρ) (hI : Inv ρ) (hbf : BF (σ 23)) : Ct l D k g yX3_take cX3_take 3 none 2 222 [.ref (a 2), .ref (a 1)] (S := St) (wX k g a σ ν) (fun uu => wX k g a uu ν) (fun vv uu => vv = none ∧ RK uu ρ ∧ (∀ j, (j < 40 ∨ 61 ≤ j) → uu j = σ j) ∧ BF (uu 53)) := by
  refine Ct.ofV RX3 rfl (by decide +kernel) (Nat.le_of_ble_eq_true rfl) (fun X hC hR => ?_)
  have hbb := hI.bb; have hl0 : nN (ρ 133) ≤ 60 := hI.lb (u := 0) (by omega); have hl1 : nN (ρ 254) ≤ 60 := hI.lb (u := 1) (by omega)
  obtain ⟨gH, gM, gP, gT, gB, gW, g0, g1⟩ := Rx_iff.mp hT
  have hw0 : σ 27 0 = nI (nN (ρ 133)) := g0.1.trans (hI.ln (u := 0) (by omega)); have hw1 : σ 28 0 = nI (nN (ρ 254)) := g1.1.trans (hI.ln (u := 1) (by omega))
  show V X (wX k g a σ ν) [(0, .ref (a 2)), (1, .ref (a 1))] [] 0
  refine V.aload_n (pc := 0) 0 hC dX3_take_0 rfl ?_
  refine V.aload_n (pc := 1) 1 hC dX3_take_1 rfl ?_
  refine V.get (pc := 2) (v := .int (σ 10 0)) hC cf_X3 1 0 fl_X3_51 (by decide) gx_1 rfl dX3_take_2 ?_
  refine V.put (pc := 5) (v := .int (σ 10 0)) hC cf_X3 2 0 (wX k g a (va_up σ 40 (fun _ => σ 10 0)) ν) fl_X3_51 (by decide) gx_2 rfl rfl rfl (Nat.le_of_ble_eq_true rfl) rfl dX3_take_5 ?_
  refine V.aload_n (pc := 8) 1 hC dX3_take_8 rfl ?_
  refine V.get (pc := 9) (v := .ref (a 11)) hC cf_X3 1 1 fl_X3_9 (by decide) gx_1 rfl dX3_take_9 ?_
  refine V.iconst (pc := 12) 0 hC dX3_take_12 (by decide) ?_
  refine V.aload_n (pc := 13) 0 hC dX3_take_13 rfl ?_
  refine V.get (pc := 14) (v := .ref (a 41)) hC cf_X3 2 1 fl_X3_9 (by decide) gx_2 rfl dX3_take_14 ?_
  refine V.iconst (pc := 17) 0 hC dX3_take_17 (by decide) ?_
  refine V.iconst (pc := 18) 4 hC dX3_take_18 (by decide) ?_
  refine V.copyi (pc := 19) (f := σ 11) (gg := σ 41) hC 8 24 0 0 4 (wX k g a (va_up (va_up σ 40 (fun _ => σ 10 0)) 41 (va_cpy (σ 11) (σ 41) 0 0 4)) ν) 0 .int (k 0) ml_X3_54 gx_8 gx_24 rfl rfl (nl 0) (nl 0) (nl 4) (by omega) (by omega) (by decide) (by decide) (fun _ _ => rfl) ⟨Nat.le_of_ble_eq_true rfl, Nat.le_of_ble_eq_true rfl⟩ rfl dX3_take_19 ?_
  show V X (wX k g a (va_up (va_up σ 40 (fun _ => σ 10 0)) 41 (va_cpy (σ 11) (σ 41) 0 0 4)) ν) [(0, .ref (a 2)), (1, .ref (a 1))] [] 22
  refine V.aload_n (pc := 22) 1 hC dX3_take_22 rfl ?_
  refine V.get (pc := 23) (v := .ref (a 12)) hC cf_X3 1 2 fl_X3_15 (by decide) gx_1 rfl dX3_take_23 ?_
  refine V.iconst (pc := 26) 0 hC dX3_take_26 (by decide) ?_
  refine V.aload_n (pc := 27) 0 hC dX3_take_27 rfl ?_
  refine V.get (pc := 28) (v := .ref (a 42)) hC cf_X3 2 2 fl_X3_15 (by decide) gx_2 rfl dX3_take_28 ?_
  refine V.iconst (pc := 31) 0 hC dX3_take_31 (by decide) ?_
  refine V.iconst (pc := 32) 4 hC dX3_take_32 (by decide) ?_
  refine V.copyi (pc := 33) (f := σ 12) (gg := σ 42) hC 9 25 0 0 4 (wX k g a (va_up (va_up (va_up σ 40 (fun _ => σ 10 0)) 41 (va_cpy (σ 11) (σ 41) 0 0 4)) 42 (va_cpy (σ 12) (σ 42) 0 0 4)) ν) 0 .int (k 0) ml_X3_54 gx_9 gx_25 rfl rfl (nl 0) (nl 0) (nl 4) (by omega) (by omega) (by decide) (by decide) (fun _ _ => rfl) ⟨Nat.le_of_ble_eq_true rfl, Nat.le_of_ble_eq_true rfl⟩ rfl dX3_take_33 ?_
  show V X (wX k g a (va_up (va_up (va_up σ 40 (fun _ => σ 10 0)) 41 (va_cpy (σ 11) (σ 41) 0 0 4)) 42 (va_cpy (σ 12) (σ 42) 0 0 4)) ν) [(0, .ref (a 2)), (1, .ref (a 1))] [] 36
  refine V.aload_n (pc := 36) 0 hC dX3_take_36 rfl ?_
  refine V.aload_n (pc := 37) 1 hC dX3_take_37 rfl ?_
  refine V.get (pc := 38) (v := .int (σ 13 0)) hC cf_X3 1 3 fl_X3_60 (by decide) gx_1 rfl dX3_take_38 ?_
  refine V.put (pc := 41) (v := .int (σ 13 0)) hC cf_X3 2 3 (wX k g a (va_up (va_up (va_up (va_up σ 40 (fun _ => σ 10 0)) 41 (va_cpy (σ 11) (σ 41) 0 0 4)) 42 (va_cpy (σ 12) (σ 42) 0 0 4)) 43 (fun _ => σ 13 0)) ν) fl_X3_60 (by decide) gx_2 rfl rfl rfl (Nat.le_of_ble_eq_true rfl) rfl dX3_take_41 ?_
  refine V.aload_n (pc := 44) 1 hC dX3_take_44 rfl ?_
  refine V.get (pc := 45) (v := .ref (a 14)) hC cf_X3 1 4 fl_X3_18 (by decide) gx_1 rfl dX3_take_45 ?_
  refine V.iconst (pc := 48) 0 hC dX3_take_48 (by decide) ?_
  refine V.aload_n (pc := 49) 0 hC dX3_take_49 rfl ?_
  refine V.get (pc := 50) (v := .ref (a 44)) hC cf_X3 2 4 fl_X3_18 (by decide) gx_2 rfl dX3_take_50 ?_
  refine V.iconst (pc := 53) 0 hC dX3_take_53 (by decide) ?_
  refine V.bipush (pc := 54) 8 hC dX3_take_54 (by decide) ?_
  refine V.copyi (pc := 56) (f := σ 14) (gg := σ 44) hC 10 26 0 0 8 (wX k g a (va_up (va_up (va_up (va_up (va_up σ 40 (fun _ => σ 10 0)) 41 (va_cpy (σ 11) (σ 41) 0 0 4)) 42 (va_cpy (σ 12) (σ 42) 0 0 4)) 43 (fun _ => σ 13 0)) 44 (va_cpy (σ 14) (σ 44) 0 0 8)) ν) 0 .int (k 0) ml_X3_54 gx_10 gx_26 rfl rfl (nl 0) (nl 0) (nl 8) (by omega) (by omega) (by decide) (by decide) (fun _ _ => rfl) ⟨Nat.le_of_ble_eq_true rfl, Nat.le_of_ble_eq_true rfl⟩ rfl dX3_take_56 ?_
  show V X (wX k g a (va_up (va_up (va_up (va_up (va_up σ 40 (fun _ => σ 10 0)) 41 (va_cpy (σ 11) (σ 41) 0 0 4)) 42 (va_cpy (σ 12) (σ 42) 0 0 4)) 43 (fun _ => σ 13 0)) 44 (va_cpy (σ 14) (σ 44) 0 0 8)) ν) [(0, .ref (a 2)), (1, .ref (a 1))] [] 59
  refine V.aload_n (pc := 59) 1 hC dX3_take_59 rfl ?_
  refine V.get (pc := 60) (v := .ref (a 15)) hC cf_X3 1 5 fl_X3_21 (by decide) gx_1 rfl dX3_take_60 ?_
  refine V.iconst (pc := 63) 0 hC dX3_take_63 (by decide) ?_
  refine V.aload_n (pc := 64) 0 hC dX3_take_64 rfl ?_
  refine V.get (pc := 65) (v := .ref (a 45)) hC cf_X3 2 5 fl_X3_21 (by decide) gx_2 rfl dX3_take_65 ?_
  refine V.iconst (pc := 68) 0 hC dX3_take_68 (by decide) ?_
  refine V.bipush (pc := 69) 8 hC dX3_take_69 (by decide) ?_
  refine V.copyi (pc := 71) (f := σ 15) (gg := σ 45) hC 11 27 0 0 8 (wX k g a (va_up (va_up (va_up (va_up (va_up (va_up σ 40 (fun _ => σ 10 0)) 41 (va_cpy (σ 11) (σ 41) 0 0 4)) 42 (va_cpy (σ 12) (σ 42) 0 0 4)) 43 (fun _ => σ 13 0)) 44 (va_cpy (σ 14) (σ 44) 0 0 8)) 45 (va_cpy (σ 15) (σ 45) 0 0 8)) ν) 0 .int (k 0) ml_X3_54 gx_11 gx_27 rfl rfl (nl 0) (nl 0) (nl 8) (by omega) (by omega) (by decide) (by decide) (fun _ _ => rfl) ⟨Nat.le_of_ble_eq_true rfl, Nat.le_of_ble_eq_true rfl⟩ rfl dX3_take_71 ?_
  show V X (wX k g a (va_up (va_up (va_up (va_up (va_up (va_up σ 40 (fun _ => σ 10 0)) 41 (va_cpy (σ 11) (σ 41) 0 0 4)) 42 (va_cpy (σ 12) (σ 42) 0 0 4)) 43 (fun _ => σ 13 0)) 44 (va_cpy (σ 14) (σ 44) 0 0 8)) 45 (va_cpy (σ 15) (σ 45) 0 0 8)) ν) [(0, .ref (a 2)), (1, .ref (a 1))] [] 74
  refine V.aload_n (pc := 74) 0 hC dX3_take_74 rfl ?_
  refine V.aload_n (pc := 75) 1 hC dX3_take_75 rfl ?_
  refine V.get (pc := 76) (v := .int (σ 16 0)) hC cf_X3 1 6 fl_X3_63 (by decide) gx_1 rfl dX3_take_76 ?_
  refine V.put (pc := 79) (v := .int (σ 16 0)) hC cf_X3 2 6 (wX k g a (va_up (va_up (va_up (va_up (va_up (va_up (va_up σ 40 (fun _ => σ 10 0)) 41 (va_cpy (σ 11) (σ 41) 0 0 4)) 42 (va_cpy (σ 12) (σ 42) 0 0 4)) 43 (fun _ => σ 13 0)) 44 (va_cpy (σ 14) (σ 44) 0 0 8)) 45 (va_cpy (σ 15) (σ 45) 0 0 8)) 46 (fun _ => σ 16 0)) ν) fl_X3_63 (by decide) gx_2 rfl rfl rfl (Nat.le_of_ble_eq_true rfl) rfl dX3_take_79 ?_
  refine V.aload_n (pc := 82) 1 hC dX3_take_82 rfl ?_
  refine V.get (pc := 83) (v := .ref (a 17)) hC cf_X3 1 7 fl_X3_24 (by decide) gx_1 rfl dX3_take_83 ?_
  refine V.iconst (pc := 86) 0 hC dX3_take_86 (by decide) ?_
  refine V.aload_n (pc := 87) 0 hC dX3_take_87 rfl ?_
  refine V.get (pc := 88) (v := .ref (a 47)) hC cf_X3 2 7 fl_X3_24 (by decide) gx_2 rfl dX3_take_88 ?_
  refine V.iconst (pc := 91) 0 hC dX3_take_91 (by decide) ?_
  refine V.bipush (pc := 92) 6 hC dX3_take_92 (by decide) ?_
  refine V.copyi (pc := 94) (f := σ 17) (gg := σ 47) hC 12 28 0 0 6 (wX k g a (va_up (va_up (va_up (va_up (va_up (va_up (va_up (va_up σ 40 (fun _ => σ 10 0)) 41 (va_cpy (σ 11) (σ 41) 0 0 4)) 42 (va_cpy (σ 12) (σ 42) 0 0 4)) 43 (fun _ => σ 13 0)) 44 (va_cpy (σ 14) (σ 44) 0 0 8)) 45 (va_cpy (σ 15) (σ 45) 0 0 8)) 46 (fun _ => σ 16 0)) 47 (va_cpy (σ 17) (σ 47) 0 0 6)) ν) 0 .int (k 0) ml_X3_54 gx_12 gx_28 rfl rfl (nl 0) (nl 0) (nl 6) (by omega) (by omega) (by decide) (by decide) (fun _ _ => rfl) ⟨Nat.le_of_ble_eq_true rfl, Nat.le_of_ble_eq_true rfl⟩ rfl dX3_take_94 ?_
  show V X (wX k g a (va_up (va_up (va_up (va_up (va_up (va_up (va_up (va_up σ 40 (fun _ => σ 10 0)) 41 (va_cpy (σ 11) (σ 41) 0 0 4)) 42 (va_cpy (σ 12) (σ 42) 0 0 4)) 43 (fun _ => σ 13 0)) 44 (va_cpy (σ 14) (σ 44) 0 0 8)) 45 (va_cpy (σ 15) (σ 45) 0 0 8)) 46 (fun _ => σ 16 0)) 47 (va_cpy (σ 17) (σ 47) 0 0 6)) ν) [(0, .ref (a 2)), (1, .ref (a 1))] [] 97
  refine V.aload_n (pc := 97) 1 hC dX3_take_97 rfl ?_
  refine V.get (pc := 98) (v := .ref (a 18)) hC cf_X3 1 8 fl_X3_27 (by decide) gx_1 rfl dX3_take_98 ?_
  refine V.iconst (pc := 101) 0 hC dX3_take_101 (by decide) ?_
  refine V.aload_n (pc := 102) 0 hC dX3_take_102 rfl ?_
  refine V.get (pc := 103) (v := .ref (a 48)) hC cf_X3 2 8 fl_X3_27 (by decide) gx_2 rfl dX3_take_103 ?_
  refine V.iconst (pc := 106) 0 hC dX3_take_106 (by decide) ?_
  refine V.bipush (pc := 107) 6 hC dX3_take_107 (by decide) ?_
  refine V.copyi (pc := 109) (f := σ 18) (gg := σ 48) hC 13 29 0 0 6 (wX k g a (va_up (va_up (va_up (va_up (va_up (va_up (va_up (va_up (va_up σ 40 (fun _ => σ 10 0)) 41 (va_cpy (σ 11) (σ 41) 0 0 4)) 42 (va_cpy (σ 12) (σ 42) 0 0 4)) 43 (fun _ => σ 13 0)) 44 (va_cpy (σ 14) (σ 44) 0 0 8)) 45 (va_cpy (σ 15) (σ 45) 0 0 8)) 46 (fun _ => σ 16 0)) 47 (va_cpy (σ 17) (σ 47) 0 0 6)) 48 (va_cpy (σ 18) (σ 48) 0 0 6)) ν) 0 .int (k 0) ml_X3_54 gx_13 gx_29 rfl rfl (nl 0) (nl 0) (nl 6) (by omega) (by omega) (by decide) (by decide) (fun _ _ => rfl) ⟨Nat.le_of_ble_eq_true rfl, Nat.le_of_ble_eq_true rfl⟩ rfl dX3_take_109 ?_
  show V X (wX k g a (va_up (va_up (va_up (va_up (va_up (va_up (va_up (va_up (va_up σ 40 (fun _ => σ 10 0)) 41 (va_cpy (σ 11) (σ 41) 0 0 4)) 42 (va_cpy (σ 12) (σ 42) 0 0 4)) 43 (fun _ => σ 13 0)) 44 (va_cpy (σ 14) (σ 44) 0 0 8)) 45 (va_cpy (σ 15) (σ 45) 0 0 8)) 46 (fun _ => σ 16 0)) 47 (va_cpy (σ 17) (σ 47) 0 0 6)) 48 (va_cpy (σ 18) (σ 48) 0 0 6)) ν) [(0, .ref (a 2)), (1, .ref (a 1))] [] 112
  refine V.aload_n (pc := 112) 1 hC dX3_take_112 rfl ?_
  refine V.get (pc := 113) (v := .ref (a 19)) hC cf_X3 1 9 fl_X3_30 (by decide) gx_1 rfl dX3_take_113 ?_
  refine V.iconst (pc := 116) 0 hC dX3_take_116 (by decide) ?_
  refine V.aload_n (pc := 117) 0 hC dX3_take_117 rfl ?_
  refine V.get (pc := 118) (v := .ref (a 49)) hC cf_X3 2 9 fl_X3_30 (by decide) gx_2 rfl dX3_take_118 ?_
  refine V.iconst (pc := 121) 0 hC dX3_take_121 (by decide) ?_
  refine V.bipush (pc := 122) 6 hC dX3_take_122 (by decide) ?_
  refine V.copyi (pc := 124) (f := σ 19) (gg := σ 49) hC 14 30 0 0 6 (wX k g a (va_up (va_up (va_up (va_up (va_up (va_up (va_up (va_up (va_up (va_up σ 40 (fun _ => σ 10 0)) 41 (va_cpy (σ 11) (σ 41) 0 0 4)) 42 (va_cpy (σ 12) (σ 42) 0 0 4)) 43 (fun _ => σ 13 0)) 44 (va_cpy (σ 14) (σ 44) 0 0 8)) 45 (va_cpy (σ 15) (σ 45) 0 0 8)) 46 (fun _ => σ 16 0)) 47 (va_cpy (σ 17) (σ 47) 0 0 6)) 48 (va_cpy (σ 18) (σ 48) 0 0 6)) 49 (va_cpy (σ 19) (σ 49) 0 0 6)) ν) 0 .int (k 0) ml_X3_54 gx_14 gx_30 rfl rfl (nl 0) (nl 0) (nl 6) (by omega) (by omega) (by decide) (by decide) (fun _ _ => rfl) ⟨Nat.le_of_ble_eq_true rfl, Nat.le_of_ble_eq_true rfl⟩ rfl dX3_take_124 ?_
  show V X (wX k g a (va_up (va_up (va_up (va_up (va_up (va_up (va_up (va_up (va_up (va_up σ 40 (fun _ => σ 10 0)) 41 (va_cpy (σ 11) (σ 41) 0 0 4)) 42 (va_cpy (σ 12) (σ 42) 0 0 4)) 43 (fun _ => σ 13 0)) 44 (va_cpy (σ 14) (σ 44) 0 0 8)) 45 (va_cpy (σ 15) (σ 45) 0 0 8)) 46 (fun _ => σ 16 0)) 47 (va_cpy (σ 17) (σ 47) 0 0 6)) 48 (va_cpy (σ 18) (σ 48) 0 0 6)) 49 (va_cpy (σ 19) (σ 49) 0 0 6)) ν) [(0, .ref (a 2)), (1, .ref (a 1))] [] 127
  refine V.aload_n (pc := 127) 0 hC dX3_take_127 rfl ?_
  refine V.aload_n (pc := 128) 1 hC dX3_take_128 rfl ?_
  refine V.get (pc := 129) (v := .int (σ 20 0)) hC cf_X3 1 10 fl_X3_66 (by decide) gx_1 rfl dX3_take_129 ?_
  refine V.put (pc := 132) (v := .int (σ 20 0)) hC cf_X3 2 10 (wX k g a (va_up (va_up (va_up (va_up (va_up (va_up (va_up (va_up (va_up (va_up (va_up σ 40 (fun _ => σ 10 0)) 41 (va_cpy (σ 11) (σ 41) 0 0 4)) 42 (va_cpy (σ 12) (σ 42) 0 0 4)) 43 (fun _ => σ 13 0)) 44 (va_cpy (σ 14) (σ 44) 0 0 8)) 45 (va_cpy (σ 15) (σ 45) 0 0 8)) 46 (fun _ => σ 16 0)) 47 (va_cpy (σ 17) (σ 47) 0 0 6)) 48 (va_cpy (σ 18) (σ 48) 0 0 6)) 49 (va_cpy (σ 19) (σ 49) 0 0 6)) 50 (fun _ => σ 20 0)) ν) fl_X3_66 (by decide) gx_2 rfl rfl rfl (Nat.le_of_ble_eq_true rfl) rfl dX3_take_132 ?_
  refine V.aload_n (pc := 135) 0 hC dX3_take_135 rfl ?_
  refine V.aload_n (pc := 136) 1 hC dX3_take_136 rfl ?_
  refine V.get (pc := 137) (v := .int (σ 21 0)) hC cf_X3 1 11 fl_X3_33 (by decide) gx_1 rfl dX3_take_137 ?_
  refine V.put (pc := 140) (v := .int (σ 21 0)) hC cf_X3 2 11 (wX k g a (va_up (va_up (va_up (va_up (va_up (va_up (va_up (va_up (va_up (va_up (va_up (va_up σ 40 (fun _ => σ 10 0)) 41 (va_cpy (σ 11) (σ 41) 0 0 4)) 42 (va_cpy (σ 12) (σ 42) 0 0 4)) 43 (fun _ => σ 13 0)) 44 (va_cpy (σ 14) (σ 44) 0 0 8)) 45 (va_cpy (σ 15) (σ 45) 0 0 8)) 46 (fun _ => σ 16 0)) 47 (va_cpy (σ 17) (σ 47) 0 0 6)) 48 (va_cpy (σ 18) (σ 48) 0 0 6)) 49 (va_cpy (σ 19) (σ 49) 0 0 6)) 50 (fun _ => σ 20 0)) 51 (fun _ => σ 21 0)) ν) fl_X3_33 (by decide) gx_2 rfl rfl rfl (Nat.le_of_ble_eq_true rfl) rfl dX3_take_140 ?_
  refine V.aload_n (pc := 143) 0 hC dX3_take_143 rfl ?_
  refine V.aload_n (pc := 144) 1 hC dX3_take_144 rfl ?_
  refine V.get (pc := 145) (v := .int (σ 22 0)) hC cf_X3 1 12 fl_X3_69 (by decide) gx_1 rfl dX3_take_145 ?_
  refine V.put (pc := 148) (v := .int (σ 22 0)) hC cf_X3 2 12 (wX k g a (va_up (va_up (va_up (va_up (va_up (va_up (va_up (va_up (va_up (va_up (va_up (va_up (va_up σ 40 (fun _ => σ 10 0)) 41 (va_cpy (σ 11) (σ 41) 0 0 4)) 42 (va_cpy (σ 12) (σ 42) 0 0 4)) 43 (fun _ => σ 13 0)) 44 (va_cpy (σ 14) (σ 44) 0 0 8)) 45 (va_cpy (σ 15) (σ 45) 0 0 8)) 46 (fun _ => σ 16 0)) 47 (va_cpy (σ 17) (σ 47) 0 0 6)) 48 (va_cpy (σ 18) (σ 48) 0 0 6)) 49 (va_cpy (σ 19) (σ 49) 0 0 6)) 50 (fun _ => σ 20 0)) 51 (fun _ => σ 21 0)) 52 (fun _ => σ 22 0)) ν) fl_X3_69 (by decide) gx_2 rfl rfl rfl (Nat.le_of_ble_eq_true rfl) rfl dX3_take_148 ?_
  refine V.aload_n (pc := 151) 1 hC dX3_take_151 rfl ?_
  refine V.get (pc := 152) (v := .ref (a 23)) hC cf_X3 1 13 fl_X3_37 (by decide) gx_1 rfl dX3_take_152 ?_
  refine V.iconst (pc := 155) 0 hC dX3_take_155 (by decide) ?_
  refine V.aload_n (pc := 156) 0 hC dX3_take_156 rfl ?_
  refine V.get (pc := 157) (v := .ref (a 53)) hC cf_X3 2 13 fl_X3_37 (by decide) gx_2 rfl dX3_take_157 ?_
  refine V.iconst (pc := 160) 0 hC dX3_take_160 (by decide) ?_
  refine V.bipush (pc := 161) 60 hC dX3_take_161 (by decide) ?_
  refine V.copyi (pc := 163) (f := σ 23) (gg := σ 53) hC 15 31 0 0 60 (wX k g a (va_up (va_up (va_up (va_up (va_up (va_up (va_up (va_up (va_up (va_up (va_up (va_up (va_up (va_up σ 40 (fun _ => σ 10 0)) 41 (va_cpy (σ 11) (σ 41) 0 0 4)) 42 (va_cpy (σ 12) (σ 42) 0 0 4)) 43 (fun _ => σ 13 0)) 44 (va_cpy (σ 14) (σ 44) 0 0 8)) 45 (va_cpy (σ 15) (σ 45) 0 0 8)) 46 (fun _ => σ 16 0)) 47 (va_cpy (σ 17) (σ 47) 0 0 6)) 48 (va_cpy (σ 18) (σ 48) 0 0 6)) 49 (va_cpy (σ 19) (σ 49) 0 0 6)) 50 (fun _ => σ 20 0)) 51 (fun _ => σ 21 0)) 52 (fun _ => σ 22 0)) 53 (va_cpy (σ 23) (σ 53) 0 0 60)) ν) 1 .byte (k 1) ml_X3_54 gx_15 gx_31 rfl rfl (nl 0) (nl 0) (nl 60) (by omega) (by omega) (by decide) (by decide) (fun i hi => by rw [Nat.zero_add]; exact hbf i hi) ⟨Nat.le_of_ble_eq_true rfl, Nat.le_of_ble_eq_true rfl⟩ rfl dX3_take_163 ?_
  show V X (wX k g a (va_up (va_up (va_up (va_up (va_up (va_up (va_up (va_up (va_up (va_up (va_up (va_up (va_up (va_up σ 40 (fun _ => σ 10 0)) 41 (va_cpy (σ 11) (σ 41) 0 0 4)) 42 (va_cpy (σ 12) (σ 42) 0 0 4)) 43 (fun _ => σ 13 0)) 44 (va_cpy (σ 14) (σ 44) 0 0 8)) 45 (va_cpy (σ 15) (σ 45) 0 0 8)) 46 (fun _ => σ 16 0)) 47 (va_cpy (σ 17) (σ 47) 0 0 6)) 48 (va_cpy (σ 18) (σ 48) 0 0 6)) 49 (va_cpy (σ 19) (σ 49) 0 0 6)) 50 (fun _ => σ 20 0)) 51 (fun _ => σ 21 0)) 52 (fun _ => σ 22 0)) 53 (va_cpy (σ 23) (σ 53) 0 0 60)) ν) [(0, .ref (a 2)), (1, .ref (a 1))] [] 166
  refine V.aload_n (pc := 166) 0 hC dX3_take_166 rfl ?_
  refine V.aload_n (pc := 167) 1 hC dX3_take_167 rfl ?_
  refine V.get (pc := 168) (v := .int (σ 24 0)) hC cf_X3 1 14 fl_X3_72 (by decide) gx_1 rfl dX3_take_168 ?_
  refine V.put (pc := 171) (v := .int (σ 24 0)) hC cf_X3 2 14 (wX k g a (va_up (va_up (va_up (va_up (va_up (va_up (va_up (va_up (va_up (va_up (va_up (va_up (va_up (va_up (va_up σ 40 (fun _ => σ 10 0)) 41 (va_cpy (σ 11) (σ 41) 0 0 4)) 42 (va_cpy (σ 12) (σ 42) 0 0 4)) 43 (fun _ => σ 13 0)) 44 (va_cpy (σ 14) (σ 44) 0 0 8)) 45 (va_cpy (σ 15) (σ 45) 0 0 8)) 46 (fun _ => σ 16 0)) 47 (va_cpy (σ 17) (σ 47) 0 0 6)) 48 (va_cpy (σ 18) (σ 48) 0 0 6)) 49 (va_cpy (σ 19) (σ 49) 0 0 6)) 50 (fun _ => σ 20 0)) 51 (fun _ => σ 21 0)) 52 (fun _ => σ 22 0)) 53 (va_cpy (σ 23) (σ 53) 0 0 60)) 54 (fun _ => σ 24 0)) ν) fl_X3_72 (by decide) gx_2 rfl rfl rfl (Nat.le_of_ble_eq_true rfl) rfl dX3_take_171 ?_
  refine V.aload_n (pc := 174) 1 hC dX3_take_174 rfl ?_
  refine V.get (pc := 175) (v := .ref (a 25)) hC cf_X3 1 15 fl_X3_41 (by decide) gx_1 rfl dX3_take_175 ?_
  refine V.iconst (pc := 178) 0 hC dX3_take_178 (by decide) ?_
  refine V.aload_n (pc := 179) 0 hC dX3_take_179 rfl ?_
  refine V.get (pc := 180) (v := .ref (a 55)) hC cf_X3 2 15 fl_X3_41 (by decide) gx_2 rfl dX3_take_180 ?_
  refine V.iconst (pc := 183) 0 hC dX3_take_183 (by decide) ?_
  refine V.bipush (pc := 184) 24 hC dX3_take_184 (by decide) ?_
  refine V.copyi (pc := 186) (f := σ 25) (gg := σ 55) hC 16 32 0 0 24 (wX k g a (va_up (va_up (va_up (va_up (va_up (va_up (va_up (va_up (va_up (va_up (va_up (va_up (va_up (va_up (va_up (va_up σ 40 (fun _ => σ 10 0)) 41 (va_cpy (σ 11) (σ 41) 0 0 4)) 42 (va_cpy (σ 12) (σ 42) 0 0 4)) 43 (fun _ => σ 13 0)) 44 (va_cpy (σ 14) (σ 44) 0 0 8)) 45 (va_cpy (σ 15) (σ 45) 0 0 8)) 46 (fun _ => σ 16 0)) 47 (va_cpy (σ 17) (σ 47) 0 0 6)) 48 (va_cpy (σ 18) (σ 48) 0 0 6)) 49 (va_cpy (σ 19) (σ 49) 0 0 6)) 50 (fun _ => σ 20 0)) 51 (fun _ => σ 21 0)) 52 (fun _ => σ 22 0)) 53 (va_cpy (σ 23) (σ 53) 0 0 60)) 54 (fun _ => σ 24 0)) 55 (va_cpy (σ 25) (σ 55) 0 0 24)) ν) 0 .int (k 0) ml_X3_54 gx_16 gx_32 rfl rfl (nl 0) (nl 0) (nl 24) (by omega) (by omega) (by decide) (by decide) (fun _ _ => rfl) ⟨Nat.le_of_ble_eq_true rfl, Nat.le_of_ble_eq_true rfl⟩ rfl dX3_take_186 ?_
  show V X (wX k g a (va_up (va_up (va_up (va_up (va_up (va_up (va_up (va_up (va_up (va_up (va_up (va_up (va_up (va_up (va_up (va_up σ 40 (fun _ => σ 10 0)) 41 (va_cpy (σ 11) (σ 41) 0 0 4)) 42 (va_cpy (σ 12) (σ 42) 0 0 4)) 43 (fun _ => σ 13 0)) 44 (va_cpy (σ 14) (σ 44) 0 0 8)) 45 (va_cpy (σ 15) (σ 45) 0 0 8)) 46 (fun _ => σ 16 0)) 47 (va_cpy (σ 17) (σ 47) 0 0 6)) 48 (va_cpy (σ 18) (σ 48) 0 0 6)) 49 (va_cpy (σ 19) (σ 49) 0 0 6)) 50 (fun _ => σ 20 0)) 51 (fun _ => σ 21 0)) 52 (fun _ => σ 22 0)) 53 (va_cpy (σ 23) (σ 53) 0 0 60)) 54 (fun _ => σ 24 0)) 55 (va_cpy (σ 25) (σ 55) 0 0 24)) ν) [(0, .ref (a 2)), (1, .ref (a 1))] [] 189
  refine V.iconst (pc := 189) 0 hC dX3_take_189 (by decide) ?_
  refine V.istore_n (pc := 190) [(2, .int 0), (0, .ref (a 2)), (1, .ref (a 1))] hC dX3_take_190 (by decide) rfl ?_
  refine V.iload_n (pc := 191) 0 hC dX3_take_191 rfl ?_
  refine V.iconst (pc := 192) 1 hC dX3_take_192 (by decide) ?_
  refine V.icmp_gt (pc := 193) 229 hC dX3_take_193 (by decide) (fun c_193 => ?_) (fun c_193 => ?_)
  · have nc_193 : 1 < 0 := (nlt (nl 1) (nl 0) (by omega) (by omega)).mp c_193
    exact absurd c_193 (by decide)
  · have nc_193 : ¬ (1 < 0) := fun z => c_193 ((nlt (nl 1) (nl 0) (by omega) (by omega)).mpr z)
    refine V.aload_n (pc := 196) 1 hC dX3_take_196 rfl ?_
    refine V.get (pc := 197) (v := .ref (a 56)) hC cf_X3 2 16 fl_X3_47 (by decide) gx_2 rfl dX3_take_197 ?_
    refine V.iload_n (pc := 200) 0 hC dX3_take_200 rfl ?_
    refine V.aldL (pc := 201) hC 33 0 (a 57) gx_33 (nl 0) (by omega) (by decide) rfl dX3_take_201 ?_
    refine V.aload_n (pc := 202) 2 hC dX3_take_202 rfl ?_
    refine V.get (pc := 203) (v := .ref (a 26)) hC cf_X3 1 16 fl_X3_47 (by decide) gx_1 rfl dX3_take_203 ?_
    refine V.iload_n (pc := 206) 0 hC dX3_take_206 rfl ?_
    refine V.aldL (pc := 207) hC 17 0 (a 27) gx_17 (nl 0) (by omega) (by decide) rfl dX3_take_207 ?_
    refine V.get (pc := 208) (v := .ref (a 29)) hC cf_X0 18 0 fl_X3_75 (by decide) gx_18 rfl dX3_take_208 ?_
    refine V.aload_n (pc := 211) 2 hC dX3_take_211 rfl ?_
    refine V.get (pc := 212) (v := .ref (a 26)) hC cf_X3 1 16 fl_X3_47 (by decide) gx_1 rfl dX3_take_212 ?_
    refine V.iload_n (pc := 215) 0 hC dX3_take_215 rfl ?_
    refine V.aldL (pc := 216) hC 17 0 (a 27) gx_17 (nl 0) (by omega) (by decide) rfl dX3_take_216 ?_
    refine V.get (pc := 217) (v := .int (σ 27 0)) hC cf_X0 18 2 fl_X3_78 (by decide) gx_18 rfl dX3_take_217 ?_
    refine V.sts (st' := [.int (nI (nN (ρ 133))), .ref (a 29), .ref (a 57)]) (stc hw0 (stk (stk rfl))) ?_
    refine V.callV0 (pc := 220) (as := [.ref (a 29), .int (nI (nN (ρ 133)))]) hC (c_X0_take_57_29 (va_up (va_up (va_up (va_up (va_up (va_up (va_up (va_up (va_up (va_up (va_up (va_up (va_up (va_up (va_up (va_up σ 40 (fun _ => σ 10 0)) 41 (va_cpy (σ 11) (σ 41) 0 0 4)) 42 (va_cpy (σ 12) (σ 42) 0 0 4)) 43 (fun _ => σ 13 0)) 44 (va_cpy (σ 14) (σ 44) 0 0 8)) 45 (va_cpy (σ 15) (σ 45) 0 0 8)) 46 (fun _ => σ 16 0)) 47 (va_cpy (σ 17) (σ 47) 0 0 6)) 48 (va_cpy (σ 18) (σ 48) 0 0 6)) 49 (va_cpy (σ 19) (σ 49) 0 0 6)) 50 (fun _ => σ 20 0)) 51 (fun _ => σ 21 0)) 52 (fun _ => σ 22 0)) 53 (va_cpy (σ 23) (σ 53) 0 0 60)) 54 (fun _ => σ 24 0)) 55 (va_cpy (σ 25) (σ 55) 0 0 24)) ν (nN (ρ 133)) hl0) mu_X0_take ml_X3_81 (by decide) ⟨34, 0, TX0, 3, _, rfl, gx_34⟩ rfl (Nat.le_of_ble_eq_true rfl) dX3_take_220 ?_
    rintro _ ⟨f2200_0, i2200_1⟩ ⟨rfl, hu2200_0, hu2200_1⟩
    have hu2200_0 : f2200_0 = va_cpy ((σ 29)) ((σ 59)) 0 0 (nN (ρ 133)) := hu2200_0
    have hu2200_1 : i2200_1 = nI (nN (ρ 133)) := hu2200_1
    show V X (wX k g a (va_up (va_up (va_up (va_up (va_up (va_up (va_up (va_up (va_up (va_up (va_up (va_up (va_up (va_up (va_up (va_up (va_up (va_up σ 40 (fun _ => σ 10 0)) 41 (va_cpy (σ 11) (σ 41) 0 0 4)) 42 (va_cpy (σ 12) (σ 42) 0 0 4)) 43 (fun _ => σ 13 0)) 44 (va_cpy (σ 14) (σ 44) 0 0 8)) 45 (va_cpy (σ 15) (σ 45) 0 0 8)) 46 (fun _ => σ 16 0)) 47 (va_cpy (σ 17) (σ 47) 0 0 6)) 48 (va_cpy (σ 18) (σ 48) 0 0 6)) 49 (va_cpy (σ 19) (σ 49) 0 0 6)) 50 (fun _ => σ 20 0)) 51 (fun _ => σ 21 0)) 52 (fun _ => σ 22 0)) 53 (va_cpy (σ 23) (σ 53) 0 0 60)) 54 (fun _ => σ 24 0)) 55 (va_cpy (σ 25) (σ 55) 0 0 24)) 59 f2200_0) 57 (fun _ => i2200_1)) ν) [(2, .int 0), (0, .ref (a 2)), (1, .ref (a 1))] [] 223
    refine V.iinc (pc := 223) 0 (nI 1) [(2, .int (nI 1)), (0, .ref (a 2)), (1, .ref (a 1))] hC dX3_take_223 rfl (ncast (nadd (nl 0) (nl 1)) (by omega)) (by decide) rfl ?_
    refine V.goto (pc := 226) 191 hC dX3_take_226 (by decide) ?_
    refine V.iload_n (pc := 191) 0 hC dX3_take_191 rfl ?_
    refine V.iconst (pc := 192) 1 hC dX3_take_192 (by decide) ?_
    refine V.icmp_gt (pc := 193) 229 hC dX3_take_193 (by decide) (fun c_193_2 => ?_) (fun c_193_2 => ?_)
    · have nc_193_2 : 1 < 1 := (nlt (nl 1) rfl (by omega) (by omega)).mp c_193_2
      exact absurd c_193_2 (by decide)
    · have nc_193_2 : ¬ (1 < 1) := fun z => c_193_2 ((nlt (nl 1) rfl (by omega) (by omega)).mpr z)
      refine V.aload_n (pc := 196) 1 hC dX3_take_196 rfl ?_
      refine V.get (pc := 197) (v := .ref (a 56)) hC cf_X3 2 16 fl_X3_47 (by decide) gx_2 rfl dX3_take_197 ?_
      refine V.iload_n (pc := 200) 0 hC dX3_take_200 rfl ?_
      refine V.aldL (pc := 201) hC 33 1 (a 58) gx_33 rfl (by omega) (by decide) rfl dX3_take_201 ?_
      refine V.aload_n (pc := 202) 2 hC dX3_take_202 rfl ?_
      refine V.get (pc := 203) (v := .ref (a 26)) hC cf_X3 1 16 fl_X3_47 (by decide) gx_1 rfl dX3_take_203 ?_
      refine V.iload_n (pc := 206) 0 hC dX3_take_206 rfl ?_
      refine V.aldL (pc := 207) hC 17 1 (a 28) gx_17 rfl (by omega) (by decide) rfl dX3_take_207 ?_
      refine V.get (pc := 208) (v := .ref (a 30)) hC cf_X0 19 0 fl_X3_75 (by decide) gx_19 rfl dX3_take_208 ?_
      refine V.aload_n (pc := 211) 2 hC dX3_take_211 rfl ?_
      refine V.get (pc := 212) (v := .ref (a 26)) hC cf_X3 1 16 fl_X3_47 (by decide) gx_1 rfl dX3_take_212 ?_
      refine V.iload_n (pc := 215) 0 hC dX3_take_215 rfl ?_
      refine V.aldL (pc := 216) hC 17 1 (a 28) gx_17 rfl (by omega) (by decide) rfl dX3_take_216 ?_
      refine V.get (pc := 217) (v := .int (σ 28 0)) hC cf_X0 19 2 fl_X3_78 (by decide) gx_19 rfl dX3_take_217 ?_
      refine V.sts (st' := [.int (nI (nN (ρ 254))), .ref (a 30), .ref (a 58)]) (stc hw1 (stk (stk rfl))) ?_
      refine V.callV0 (pc := 220) (as := [.ref (a 30), .int (nI (nN (ρ 254)))]) hC (c_X0_take_58_30 (va_up (va_up (va_up (va_up (va_up (va_up (va_up (va_up (va_up (va_up (va_up (va_up (va_up (va_up (va_up (va_up (va_up (va_up σ 40 (fun _ => σ 10 0)) 41 (va_cpy (σ 11) (σ 41) 0 0 4)) 42 (va_cpy (σ 12) (σ 42) 0 0 4)) 43 (fun _ => σ 13 0)) 44 (va_cpy (σ 14) (σ 44) 0 0 8)) 45 (va_cpy (σ 15) (σ 45) 0 0 8)) 46 (fun _ => σ 16 0)) 47 (va_cpy (σ 17) (σ 47) 0 0 6)) 48 (va_cpy (σ 18) (σ 48) 0 0 6)) 49 (va_cpy (σ 19) (σ 49) 0 0 6)) 50 (fun _ => σ 20 0)) 51 (fun _ => σ 21 0)) 52 (fun _ => σ 22 0)) 53 (va_cpy (σ 23) (σ 53) 0 0 60)) 54 (fun _ => σ 24 0)) 55 (va_cpy (σ 25) (σ 55) 0 0 24)) 59 f2200_0) 57 (fun _ => i2200_1)) ν (nN (ρ 254)) hl1) mu_X0_take ml_X3_81 (by decide) ⟨35, 0, TX0, 3, _, rfl, gx_35⟩ rfl (Nat.le_of_ble_eq_true rfl) dX3_take_220 ?_
      rintro _ ⟨f2201_0, i2201_1⟩ ⟨rfl, hu2201_0, hu2201_1⟩
      have hu2201_0 : f2201_0 = va_cpy ((σ 30)) ((σ 60)) 0 0 (nN (ρ 254)) := hu2201_0
      have hu2201_1 : i2201_1 = nI (nN (ρ 254)) := hu2201_1
      show V X (wX k g a (va_up (va_up (va_up (va_up (va_up (va_up (va_up (va_up (va_up (va_up (va_up (va_up (va_up (va_up (va_up (va_up (va_up (va_up (va_up (va_up σ 40 (fun _ => σ 10 0)) 41 (va_cpy (σ 11) (σ 41) 0 0 4)) 42 (va_cpy (σ 12) (σ 42) 0 0 4)) 43 (fun _ => σ 13 0)) 44 (va_cpy (σ 14) (σ 44) 0 0 8)) 45 (va_cpy (σ 15) (σ 45) 0 0 8)) 46 (fun _ => σ 16 0)) 47 (va_cpy (σ 17) (σ 47) 0 0 6)) 48 (va_cpy (σ 18) (σ 48) 0 0 6)) 49 (va_cpy (σ 19) (σ 49) 0 0 6)) 50 (fun _ => σ 20 0)) 51 (fun _ => σ 21 0)) 52 (fun _ => σ 22 0)) 53 (va_cpy (σ 23) (σ 53) 0 0 60)) 54 (fun _ => σ 24 0)) 55 (va_cpy (σ 25) (σ 55) 0 0 24)) 59 f2200_0) 57 (fun _ => i2200_1)) 60 f2201_0) 58 (fun _ => i2201_1)) ν) [(2, .int (nI 1)), (0, .ref (a 2)), (1, .ref (a 1))] [] 223
      refine V.iinc (pc := 223) 0 (nI 2) [(2, .int (nI 2)), (0, .ref (a 2)), (1, .ref (a 1))] hC dX3_take_223 rfl (ncast (nadd rfl (nl 1)) (by omega)) (by decide) rfl ?_
      refine V.goto (pc := 226) 191 hC dX3_take_226 (by decide) ?_
      refine V.iload_n (pc := 191) 0 hC dX3_take_191 rfl ?_
      refine V.iconst (pc := 192) 1 hC dX3_take_192 (by decide) ?_
      refine V.icmp_gt (pc := 193) 229 hC dX3_take_193 (by decide) (fun c_193_3 => ?_) (fun c_193_3 => ?_)
      · have nc_193_3 : 1 < 2 := (nlt (nl 1) rfl (by omega) (by omega)).mp c_193_3
        exact hR ((va_up (va_up (va_up (va_up (va_up (va_up (va_up (va_up (va_up (va_up (va_up (va_up (va_up (va_up (va_up (va_up (va_up (va_up (va_up (va_up σ 40 (fun _ => σ 10 0)) 41 (va_cpy (σ 11) (σ 41) 0 0 4)) 42 (va_cpy (σ 12) (σ 42) 0 0 4)) 43 (fun _ => σ 13 0)) 44 (va_cpy (σ 14) (σ 44) 0 0 8)) 45 (va_cpy (σ 15) (σ 45) 0 0 8)) 46 (fun _ => σ 16 0)) 47 (va_cpy (σ 17) (σ 47) 0 0 6)) 48 (va_cpy (σ 18) (σ 48) 0 0 6)) 49 (va_cpy (σ 19) (σ 49) 0 0 6)) 50 (fun _ => σ 20 0)) 51 (fun _ => σ 21 0)) 52 (fun _ => σ 22 0)) 53 (va_cpy (σ 23) (σ 53) 0 0 60)) 54 (fun _ => σ 24 0)) 55 (va_cpy (σ 25) (σ 55) 0 0 24)) 59 f2200_0) 57 (fun _ => i2200_1)) 60 f2201_0) 58 (fun _ => i2201_1))) _ _ dX3_take_229 ⟨rfl, Rx_iff.mpr ⟨⟨gH.1, fun i hi => (cpy_v hi).trans (gH.2.1 i hi), fun i hi => (cpy_v hi).trans (gH.2.2 i hi)⟩, ⟨gM.1, fun i hi => (cpy_v hi).trans (gM.2.1 i hi), fun i hi => (cpy_v hi).trans (gM.2.2 i hi)⟩, ⟨gP.1, fun i hi => (cpy_v hi).trans (gP.2.1 i hi), fun i hi => (cpy_v hi).trans (gP.2.2.1 i hi), fun i hi => (cpy_v hi).trans (gP.2.2.2 i hi)⟩, ⟨gT.1, gT.2⟩, ⟨gB.1, fun i hi => (congrArg (· &&& 255) (cpy_v (by omega))).trans (gB.2 i hi)⟩, ⟨gW.1, fun i hi => (cpy_v hi).trans (gW.2 i hi)⟩, ⟨hu2200_1.trans (hI.ln (u := 0) (by omega)).symm, fun i hi => by show cdR (f2200_0 i) _ _; rw [hu2200_0, cpy_v hi]; exact g0.2 i hi⟩, ⟨hu2201_1.trans (hI.ln (u := 1) (by omega)).symm, fun i hi => by show cdR (f2201_0 i) _ _; rw [hu2201_0, cpy_v hi]; exact g1.2 i hi⟩⟩, fun j hj => by unfold va_up; repeat rw [if_neg (by omega)], BF.cpy hbf⟩
      · have nc_193_3 : ¬ (1 < 2) := fun z => c_193_3 ((nlt (nl 1) rfl (by omega) (by omega)).mpr z)
        exact absurd c_193_3 (by decide)
set_option maxHeartbeats 4000000 in
set_option maxRecDepth 100000 in
theorem c_take_back {l : Launch} {D : va_G} {k : Nat → ClassId} {g a : Nat → Nat} (σ ν : St) (ρ : Rw) (hT : RK σ ρ) (hI : Inv ρ) (hbf : BF (σ 53)) : Ct l D k g yX3_take cX3_take 3 none 2 222 [.ref (a 1), .ref (a 2)] (S := St) (wX k g a σ ν) (fun uu => wX k g a uu ν) (fun vv uu => vv = none ∧ RT uu ρ ∧ (∀ j, (j < 10 ∨ 31 ≤ j) → uu j = σ j) ∧ BF (uu 23)) := by
  refine Ct.ofV RX3 rfl (by decide +kernel) (Nat.le_of_ble_eq_true rfl) (fun X hC hR => ?_)
  have hbb := hI.bb; have hl0 : nN (ρ 133) ≤ 60 := hI.lb (u := 0) (by omega); have hl1 : nN (ρ 254) ≤ 60 := hI.lb (u := 1) (by omega)
  obtain ⟨gH, gM, gP, gT, gB, gW, g0, g1⟩ := Rx_iff.mp hT
  have hw0 : σ 57 0 = nI (nN (ρ 133)) := g0.1.trans (hI.ln (u := 0) (by omega)); have hw1 : σ 58 0 = nI (nN (ρ 254)) := g1.1.trans (hI.ln (u := 1) (by omega))
  show V X (wX k g a σ ν) [(0, .ref (a 1)), (1, .ref (a 2))] [] 0
  refine V.aload_n (pc := 0) 0 hC dX3_take_0 rfl ?_
  refine V.aload_n (pc := 1) 1 hC dX3_take_1 rfl ?_
  refine V.get (pc := 2) (v := .int (σ 40 0)) hC cf_X3 2 0 fl_X3_51 (by decide) gx_2 rfl dX3_take_2 ?_
  refine V.put (pc := 5) (v := .int (σ 40 0)) hC cf_X3 1 0 (wX k g a (va_up σ 10 (fun _ => σ 40 0)) ν) fl_X3_51 (by decide) gx_1 rfl rfl rfl (Nat.le_of_ble_eq_true rfl) rfl dX3_take_5 ?_
  refine V.aload_n (pc := 8) 1 hC dX3_take_8 rfl ?_
  refine V.get (pc := 9) (v := .ref (a 41)) hC cf_X3 2 1 fl_X3_9 (by decide) gx_2 rfl dX3_take_9 ?_
  refine V.iconst (pc := 12) 0 hC dX3_take_12 (by decide) ?_
  refine V.aload_n (pc := 13) 0 hC dX3_take_13 rfl ?_
  refine V.get (pc := 14) (v := .ref (a 11)) hC cf_X3 1 1 fl_X3_9 (by decide) gx_1 rfl dX3_take_14 ?_
  refine V.iconst (pc := 17) 0 hC dX3_take_17 (by decide) ?_
  refine V.iconst (pc := 18) 4 hC dX3_take_18 (by decide) ?_
  refine V.copyi (pc := 19) (f := σ 41) (gg := σ 11) hC 24 8 0 0 4 (wX k g a (va_up (va_up σ 10 (fun _ => σ 40 0)) 11 (va_cpy (σ 41) (σ 11) 0 0 4)) ν) 0 .int (k 0) ml_X3_54 gx_24 gx_8 rfl rfl (nl 0) (nl 0) (nl 4) (by omega) (by omega) (by decide) (by decide) (fun _ _ => rfl) ⟨Nat.le_of_ble_eq_true rfl, Nat.le_of_ble_eq_true rfl⟩ rfl dX3_take_19 ?_
  show V X (wX k g a (va_up (va_up σ 10 (fun _ => σ 40 0)) 11 (va_cpy (σ 41) (σ 11) 0 0 4)) ν) [(0, .ref (a 1)), (1, .ref (a 2))] [] 22
  refine V.aload_n (pc := 22) 1 hC dX3_take_22 rfl ?_
  refine V.get (pc := 23) (v := .ref (a 42)) hC cf_X3 2 2 fl_X3_15 (by decide) gx_2 rfl dX3_take_23 ?_
  refine V.iconst (pc := 26) 0 hC dX3_take_26 (by decide) ?_
  refine V.aload_n (pc := 27) 0 hC dX3_take_27 rfl ?_
  refine V.get (pc := 28) (v := .ref (a 12)) hC cf_X3 1 2 fl_X3_15 (by decide) gx_1 rfl dX3_take_28 ?_
  refine V.iconst (pc := 31) 0 hC dX3_take_31 (by decide) ?_
  refine V.iconst (pc := 32) 4 hC dX3_take_32 (by decide) ?_
  refine V.copyi (pc := 33) (f := σ 42) (gg := σ 12) hC 25 9 0 0 4 (wX k g a (va_up (va_up (va_up σ 10 (fun _ => σ 40 0)) 11 (va_cpy (σ 41) (σ 11) 0 0 4)) 12 (va_cpy (σ 42) (σ 12) 0 0 4)) ν) 0 .int (k 0) ml_X3_54 gx_25 gx_9 rfl rfl (nl 0) (nl 0) (nl 4) (by omega) (by omega) (by decide) (by decide) (fun _ _ => rfl) ⟨Nat.le_of_ble_eq_true rfl, Nat.le_of_ble_eq_true rfl⟩ rfl dX3_take_33 ?_
  show V X (wX k g a (va_up (va_up (va_up σ 10 (fun _ => σ 40 0)) 11 (va_cpy (σ 41) (σ 11) 0 0 4)) 12 (va_cpy (σ 42) (σ 12) 0 0 4)) ν) [(0, .ref (a 1)), (1, .ref (a 2))] [] 36
  refine V.aload_n (pc := 36) 0 hC dX3_take_36 rfl ?_
  refine V.aload_n (pc := 37) 1 hC dX3_take_37 rfl ?_
  refine V.get (pc := 38) (v := .int (σ 43 0)) hC cf_X3 2 3 fl_X3_60 (by decide) gx_2 rfl dX3_take_38 ?_
  refine V.put (pc := 41) (v := .int (σ 43 0)) hC cf_X3 1 3 (wX k g a (va_up (va_up (va_up (va_up σ 10 (fun _ => σ 40 0)) 11 (va_cpy (σ 41) (σ 11) 0 0 4)) 12 (va_cpy (σ 42) (σ 12) 0 0 4)) 13 (fun _ => σ 43 0)) ν) fl_X3_60 (by decide) gx_1 rfl rfl rfl (Nat.le_of_ble_eq_true rfl) rfl dX3_take_41 ?_
  refine V.aload_n (pc := 44) 1 hC dX3_take_44 rfl ?_
  refine V.get (pc := 45) (v := .ref (a 44)) hC cf_X3 2 4 fl_X3_18 (by decide) gx_2 rfl dX3_take_45 ?_
  refine V.iconst (pc := 48) 0 hC dX3_take_48 (by decide) ?_
  refine V.aload_n (pc := 49) 0 hC dX3_take_49 rfl ?_
  refine V.get (pc := 50) (v := .ref (a 14)) hC cf_X3 1 4 fl_X3_18 (by decide) gx_1 rfl dX3_take_50 ?_
  refine V.iconst (pc := 53) 0 hC dX3_take_53 (by decide) ?_
  refine V.bipush (pc := 54) 8 hC dX3_take_54 (by decide) ?_
  refine V.copyi (pc := 56) (f := σ 44) (gg := σ 14) hC 26 10 0 0 8 (wX k g a (va_up (va_up (va_up (va_up (va_up σ 10 (fun _ => σ 40 0)) 11 (va_cpy (σ 41) (σ 11) 0 0 4)) 12 (va_cpy (σ 42) (σ 12) 0 0 4)) 13 (fun _ => σ 43 0)) 14 (va_cpy (σ 44) (σ 14) 0 0 8)) ν) 0 .int (k 0) ml_X3_54 gx_26 gx_10 rfl rfl (nl 0) (nl 0) (nl 8) (by omega) (by omega) (by decide) (by decide) (fun _ _ => rfl) ⟨Nat.le_of_ble_eq_true rfl, Nat.le_of_ble_eq_true rfl⟩ rfl dX3_take_56 ?_
  show V X (wX k g a (va_up (va_up (va_up (va_up (va_up σ 10 (fun _ => σ 40 0)) 11 (va_cpy (σ 41) (σ 11) 0 0 4)) 12 (va_cpy (σ 42) (σ 12) 0 0 4)) 13 (fun _ => σ 43 0)) 14 (va_cpy (σ 44) (σ 14) 0 0 8)) ν) [(0, .ref (a 1)), (1, .ref (a 2))] [] 59
  refine V.aload_n (pc := 59) 1 hC dX3_take_59 rfl ?_
  refine V.get (pc := 60) (v := .ref (a 45)) hC cf_X3 2 5 fl_X3_21 (by decide) gx_2 rfl dX3_take_60 ?_
  refine V.iconst (pc := 63) 0 hC dX3_take_63 (by decide) ?_
  refine V.aload_n (pc := 64) 0 hC dX3_take_64 rfl ?_
  refine V.get (pc := 65) (v := .ref (a 15)) hC cf_X3 1 5 fl_X3_21 (by decide) gx_1 rfl dX3_take_65 ?_
  refine V.iconst (pc := 68) 0 hC dX3_take_68 (by decide) ?_
  refine V.bipush (pc := 69) 8 hC dX3_take_69 (by decide) ?_
  refine V.copyi (pc := 71) (f := σ 45) (gg := σ 15) hC 27 11 0 0 8 (wX k g a (va_up (va_up (va_up (va_up (va_up (va_up σ 10 (fun _ => σ 40 0)) 11 (va_cpy (σ 41) (σ 11) 0 0 4)) 12 (va_cpy (σ 42) (σ 12) 0 0 4)) 13 (fun _ => σ 43 0)) 14 (va_cpy (σ 44) (σ 14) 0 0 8)) 15 (va_cpy (σ 45) (σ 15) 0 0 8)) ν) 0 .int (k 0) ml_X3_54 gx_27 gx_11 rfl rfl (nl 0) (nl 0) (nl 8) (by omega) (by omega) (by decide) (by decide) (fun _ _ => rfl) ⟨Nat.le_of_ble_eq_true rfl, Nat.le_of_ble_eq_true rfl⟩ rfl dX3_take_71 ?_
  show V X (wX k g a (va_up (va_up (va_up (va_up (va_up (va_up σ 10 (fun _ => σ 40 0)) 11 (va_cpy (σ 41) (σ 11) 0 0 4)) 12 (va_cpy (σ 42) (σ 12) 0 0 4)) 13 (fun _ => σ 43 0)) 14 (va_cpy (σ 44) (σ 14) 0 0 8)) 15 (va_cpy (σ 45) (σ 15) 0 0 8)) ν) [(0, .ref (a 1)), (1, .ref (a 2))] [] 74
  refine V.aload_n (pc := 74) 0 hC dX3_take_74 rfl ?_
  refine V.aload_n (pc := 75) 1 hC dX3_take_75 rfl ?_
  refine V.get (pc := 76) (v := .int (σ 46 0)) hC cf_X3 2 6 fl_X3_63 (by decide) gx_2 rfl dX3_take_76 ?_
  refine V.put (pc := 79) (v := .int (σ 46 0)) hC cf_X3 1 6 (wX k g a (va_up (va_up (va_up (va_up (va_up (va_up (va_up σ 10 (fun _ => σ 40 0)) 11 (va_cpy (σ 41) (σ 11) 0 0 4)) 12 (va_cpy (σ 42) (σ 12) 0 0 4)) 13 (fun _ => σ 43 0)) 14 (va_cpy (σ 44) (σ 14) 0 0 8)) 15 (va_cpy (σ 45) (σ 15) 0 0 8)) 16 (fun _ => σ 46 0)) ν) fl_X3_63 (by decide) gx_1 rfl rfl rfl (Nat.le_of_ble_eq_true rfl) rfl dX3_take_79 ?_
  refine V.aload_n (pc := 82) 1 hC dX3_take_82 rfl ?_
  refine V.get (pc := 83) (v := .ref (a 47)) hC cf_X3 2 7 fl_X3_24 (by decide) gx_2 rfl dX3_take_83 ?_
  refine V.iconst (pc := 86) 0 hC dX3_take_86 (by decide) ?_
  refine V.aload_n (pc := 87) 0 hC dX3_take_87 rfl ?_
  refine V.get (pc := 88) (v := .ref (a 17)) hC cf_X3 1 7 fl_X3_24 (by decide) gx_1 rfl dX3_take_88 ?_
  refine V.iconst (pc := 91) 0 hC dX3_take_91 (by decide) ?_
  refine V.bipush (pc := 92) 6 hC dX3_take_92 (by decide) ?_
  refine V.copyi (pc := 94) (f := σ 47) (gg := σ 17) hC 28 12 0 0 6 (wX k g a (va_up (va_up (va_up (va_up (va_up (va_up (va_up (va_up σ 10 (fun _ => σ 40 0)) 11 (va_cpy (σ 41) (σ 11) 0 0 4)) 12 (va_cpy (σ 42) (σ 12) 0 0 4)) 13 (fun _ => σ 43 0)) 14 (va_cpy (σ 44) (σ 14) 0 0 8)) 15 (va_cpy (σ 45) (σ 15) 0 0 8)) 16 (fun _ => σ 46 0)) 17 (va_cpy (σ 47) (σ 17) 0 0 6)) ν) 0 .int (k 0) ml_X3_54 gx_28 gx_12 rfl rfl (nl 0) (nl 0) (nl 6) (by omega) (by omega) (by decide) (by decide) (fun _ _ => rfl) ⟨Nat.le_of_ble_eq_true rfl, Nat.le_of_ble_eq_true rfl⟩ rfl dX3_take_94 ?_
  show V X (wX k g a (va_up (va_up (va_up (va_up (va_up (va_up (va_up (va_up σ 10 (fun _ => σ 40 0)) 11 (va_cpy (σ 41) (σ 11) 0 0 4)) 12 (va_cpy (σ 42) (σ 12) 0 0 4)) 13 (fun _ => σ 43 0)) 14 (va_cpy (σ 44) (σ 14) 0 0 8)) 15 (va_cpy (σ 45) (σ 15) 0 0 8)) 16 (fun _ => σ 46 0)) 17 (va_cpy (σ 47) (σ 17) 0 0 6)) ν) [(0, .ref (a 1)), (1, .ref (a 2))] [] 97
  refine V.aload_n (pc := 97) 1 hC dX3_take_97 rfl ?_
  refine V.get (pc := 98) (v := .ref (a 48)) hC cf_X3 2 8 fl_X3_27 (by decide) gx_2 rfl dX3_take_98 ?_
  refine V.iconst (pc := 101) 0 hC dX3_take_101 (by decide) ?_
  refine V.aload_n (pc := 102) 0 hC dX3_take_102 rfl ?_
  refine V.get (pc := 103) (v := .ref (a 18)) hC cf_X3 1 8 fl_X3_27 (by decide) gx_1 rfl dX3_take_103 ?_
  refine V.iconst (pc := 106) 0 hC dX3_take_106 (by decide) ?_
  refine V.bipush (pc := 107) 6 hC dX3_take_107 (by decide) ?_
  refine V.copyi (pc := 109) (f := σ 48) (gg := σ 18) hC 29 13 0 0 6 (wX k g a (va_up (va_up (va_up (va_up (va_up (va_up (va_up (va_up (va_up σ 10 (fun _ => σ 40 0)) 11 (va_cpy (σ 41) (σ 11) 0 0 4)) 12 (va_cpy (σ 42) (σ 12) 0 0 4)) 13 (fun _ => σ 43 0)) 14 (va_cpy (σ 44) (σ 14) 0 0 8)) 15 (va_cpy (σ 45) (σ 15) 0 0 8)) 16 (fun _ => σ 46 0)) 17 (va_cpy (σ 47) (σ 17) 0 0 6)) 18 (va_cpy (σ 48) (σ 18) 0 0 6)) ν) 0 .int (k 0) ml_X3_54 gx_29 gx_13 rfl rfl (nl 0) (nl 0) (nl 6) (by omega) (by omega) (by decide) (by decide) (fun _ _ => rfl) ⟨Nat.le_of_ble_eq_true rfl, Nat.le_of_ble_eq_true rfl⟩ rfl dX3_take_109 ?_
  show V X (wX k g a (va_up (va_up (va_up (va_up (va_up (va_up (va_up (va_up (va_up σ 10 (fun _ => σ 40 0)) 11 (va_cpy (σ 41) (σ 11) 0 0 4)) 12 (va_cpy (σ 42) (σ 12) 0 0 4)) 13 (fun _ => σ 43 0)) 14 (va_cpy (σ 44) (σ 14) 0 0 8)) 15 (va_cpy (σ 45) (σ 15) 0 0 8)) 16 (fun _ => σ 46 0)) 17 (va_cpy (σ 47) (σ 17) 0 0 6)) 18 (va_cpy (σ 48) (σ 18) 0 0 6)) ν) [(0, .ref (a 1)), (1, .ref (a 2))] [] 112
  refine V.aload_n (pc := 112) 1 hC dX3_take_112 rfl ?_
  refine V.get (pc := 113) (v := .ref (a 49)) hC cf_X3 2 9 fl_X3_30 (by decide) gx_2 rfl dX3_take_113 ?_
  refine V.iconst (pc := 116) 0 hC dX3_take_116 (by decide) ?_
  refine V.aload_n (pc := 117) 0 hC dX3_take_117 rfl ?_
  refine V.get (pc := 118) (v := .ref (a 19)) hC cf_X3 1 9 fl_X3_30 (by decide) gx_1 rfl dX3_take_118 ?_
  refine V.iconst (pc := 121) 0 hC dX3_take_121 (by decide) ?_
  refine V.bipush (pc := 122) 6 hC dX3_take_122 (by decide) ?_
  refine V.copyi (pc := 124) (f := σ 49) (gg := σ 19) hC 30 14 0 0 6 (wX k g a (va_up (va_up (va_up (va_up (va_up (va_up (va_up (va_up (va_up (va_up σ 10 (fun _ => σ 40 0)) 11 (va_cpy (σ 41) (σ 11) 0 0 4)) 12 (va_cpy (σ 42) (σ 12) 0 0 4)) 13 (fun _ => σ 43 0)) 14 (va_cpy (σ 44) (σ 14) 0 0 8)) 15 (va_cpy (σ 45) (σ 15) 0 0 8)) 16 (fun _ => σ 46 0)) 17 (va_cpy (σ 47) (σ 17) 0 0 6)) 18 (va_cpy (σ 48) (σ 18) 0 0 6)) 19 (va_cpy (σ 49) (σ 19) 0 0 6)) ν) 0 .int (k 0) ml_X3_54 gx_30 gx_14 rfl rfl (nl 0) (nl 0) (nl 6) (by omega) (by omega) (by decide) (by decide) (fun _ _ => rfl) ⟨Nat.le_of_ble_eq_true rfl, Nat.le_of_ble_eq_true rfl⟩ rfl dX3_take_124 ?_
  show V X (wX k g a (va_up (va_up (va_up (va_up (va_up (va_up (va_up (va_up (va_up (va_up σ 10 (fun _ => σ 40 0)) 11 (va_cpy (σ 41) (σ 11) 0 0 4)) 12 (va_cpy (σ 42) (σ 12) 0 0 4)) 13 (fun _ => σ 43 0)) 14 (va_cpy (σ 44) (σ 14) 0 0 8)) 15 (va_cpy (σ 45) (σ 15) 0 0 8)) 16 (fun _ => σ 46 0)) 17 (va_cpy (σ 47) (σ 17) 0 0 6)) 18 (va_cpy (σ 48) (σ 18) 0 0 6)) 19 (va_cpy (σ 49) (σ 19) 0 0 6)) ν) [(0, .ref (a 1)), (1, .ref (a 2))] [] 127
  refine V.aload_n (pc := 127) 0 hC dX3_take_127 rfl ?_
  refine V.aload_n (pc := 128) 1 hC dX3_take_128 rfl ?_
  refine V.get (pc := 129) (v := .int (σ 50 0)) hC cf_X3 2 10 fl_X3_66 (by decide) gx_2 rfl dX3_take_129 ?_
  refine V.put (pc := 132) (v := .int (σ 50 0)) hC cf_X3 1 10 (wX k g a (va_up (va_up (va_up (va_up (va_up (va_up (va_up (va_up (va_up (va_up (va_up σ 10 (fun _ => σ 40 0)) 11 (va_cpy (σ 41) (σ 11) 0 0 4)) 12 (va_cpy (σ 42) (σ 12) 0 0 4)) 13 (fun _ => σ 43 0)) 14 (va_cpy (σ 44) (σ 14) 0 0 8)) 15 (va_cpy (σ 45) (σ 15) 0 0 8)) 16 (fun _ => σ 46 0)) 17 (va_cpy (σ 47) (σ 17) 0 0 6)) 18 (va_cpy (σ 48) (σ 18) 0 0 6)) 19 (va_cpy (σ 49) (σ 19) 0 0 6)) 20 (fun _ => σ 50 0)) ν) fl_X3_66 (by decide) gx_1 rfl rfl rfl (Nat.le_of_ble_eq_true rfl) rfl dX3_take_132 ?_
  refine V.aload_n (pc := 135) 0 hC dX3_take_135 rfl ?_
  refine V.aload_n (pc := 136) 1 hC dX3_take_136 rfl ?_
  refine V.get (pc := 137) (v := .int (σ 51 0)) hC cf_X3 2 11 fl_X3_33 (by decide) gx_2 rfl dX3_take_137 ?_
  refine V.put (pc := 140) (v := .int (σ 51 0)) hC cf_X3 1 11 (wX k g a (va_up (va_up (va_up (va_up (va_up (va_up (va_up (va_up (va_up (va_up (va_up (va_up σ 10 (fun _ => σ 40 0)) 11 (va_cpy (σ 41) (σ 11) 0 0 4)) 12 (va_cpy (σ 42) (σ 12) 0 0 4)) 13 (fun _ => σ 43 0)) 14 (va_cpy (σ 44) (σ 14) 0 0 8)) 15 (va_cpy (σ 45) (σ 15) 0 0 8)) 16 (fun _ => σ 46 0)) 17 (va_cpy (σ 47) (σ 17) 0 0 6)) 18 (va_cpy (σ 48) (σ 18) 0 0 6)) 19 (va_cpy (σ 49) (σ 19) 0 0 6)) 20 (fun _ => σ 50 0)) 21 (fun _ => σ 51 0)) ν) fl_X3_33 (by decide) gx_1 rfl rfl rfl (Nat.le_of_ble_eq_true rfl) rfl dX3_take_140 ?_
  refine V.aload_n (pc := 143) 0 hC dX3_take_143 rfl ?_
  refine V.aload_n (pc := 144) 1 hC dX3_take_144 rfl ?_
  refine V.get (pc := 145) (v := .int (σ 52 0)) hC cf_X3 2 12 fl_X3_69 (by decide) gx_2 rfl dX3_take_145 ?_
  refine V.put (pc := 148) (v := .int (σ 52 0)) hC cf_X3 1 12 (wX k g a (va_up (va_up (va_up (va_up (va_up (va_up (va_up (va_up (va_up (va_up (va_up (va_up (va_up σ 10 (fun _ => σ 40 0)) 11 (va_cpy (σ 41) (σ 11) 0 0 4)) 12 (va_cpy (σ 42) (σ 12) 0 0 4)) 13 (fun _ => σ 43 0)) 14 (va_cpy (σ 44) (σ 14) 0 0 8)) 15 (va_cpy (σ 45) (σ 15) 0 0 8)) 16 (fun _ => σ 46 0)) 17 (va_cpy (σ 47) (σ 17) 0 0 6)) 18 (va_cpy (σ 48) (σ 18) 0 0 6)) 19 (va_cpy (σ 49) (σ 19) 0 0 6)) 20 (fun _ => σ 50 0)) 21 (fun _ => σ 51 0)) 22 (fun _ => σ 52 0)) ν) fl_X3_69 (by decide) gx_1 rfl rfl rfl (Nat.le_of_ble_eq_true rfl) rfl dX3_take_148 ?_
  refine V.aload_n (pc := 151) 1 hC dX3_take_151 rfl ?_
  refine V.get (pc := 152) (v := .ref (a 53)) hC cf_X3 2 13 fl_X3_37 (by decide) gx_2 rfl dX3_take_152 ?_
  refine V.iconst (pc := 155) 0 hC dX3_take_155 (by decide) ?_
  refine V.aload_n (pc := 156) 0 hC dX3_take_156 rfl ?_
  refine V.get (pc := 157) (v := .ref (a 23)) hC cf_X3 1 13 fl_X3_37 (by decide) gx_1 rfl dX3_take_157 ?_
  refine V.iconst (pc := 160) 0 hC dX3_take_160 (by decide) ?_
  refine V.bipush (pc := 161) 60 hC dX3_take_161 (by decide) ?_
  refine V.copyi (pc := 163) (f := σ 53) (gg := σ 23) hC 31 15 0 0 60 (wX k g a (va_up (va_up (va_up (va_up (va_up (va_up (va_up (va_up (va_up (va_up (va_up (va_up (va_up (va_up σ 10 (fun _ => σ 40 0)) 11 (va_cpy (σ 41) (σ 11) 0 0 4)) 12 (va_cpy (σ 42) (σ 12) 0 0 4)) 13 (fun _ => σ 43 0)) 14 (va_cpy (σ 44) (σ 14) 0 0 8)) 15 (va_cpy (σ 45) (σ 15) 0 0 8)) 16 (fun _ => σ 46 0)) 17 (va_cpy (σ 47) (σ 17) 0 0 6)) 18 (va_cpy (σ 48) (σ 18) 0 0 6)) 19 (va_cpy (σ 49) (σ 19) 0 0 6)) 20 (fun _ => σ 50 0)) 21 (fun _ => σ 51 0)) 22 (fun _ => σ 52 0)) 23 (va_cpy (σ 53) (σ 23) 0 0 60)) ν) 1 .byte (k 1) ml_X3_54 gx_31 gx_15 rfl rfl (nl 0) (nl 0) (nl 60) (by omega) (by omega) (by decide) (by decide) (fun i hi => by rw [Nat.zero_add]; exact hbf i hi) ⟨Nat.le_of_ble_eq_true rfl, Nat.le_of_ble_eq_true rfl⟩ rfl dX3_take_163 ?_
  show V X (wX k g a (va_up (va_up (va_up (va_up (va_up (va_up (va_up (va_up (va_up (va_up (va_up (va_up (va_up (va_up σ 10 (fun _ => σ 40 0)) 11 (va_cpy (σ 41) (σ 11) 0 0 4)) 12 (va_cpy (σ 42) (σ 12) 0 0 4)) 13 (fun _ => σ 43 0)) 14 (va_cpy (σ 44) (σ 14) 0 0 8)) 15 (va_cpy (σ 45) (σ 15) 0 0 8)) 16 (fun _ => σ 46 0)) 17 (va_cpy (σ 47) (σ 17) 0 0 6)) 18 (va_cpy (σ 48) (σ 18) 0 0 6)) 19 (va_cpy (σ 49) (σ 19) 0 0 6)) 20 (fun _ => σ 50 0)) 21 (fun _ => σ 51 0)) 22 (fun _ => σ 52 0)) 23 (va_cpy (σ 53) (σ 23) 0 0 60)) ν) [(0, .ref (a 1)), (1, .ref (a 2))] [] 166
  refine V.aload_n (pc := 166) 0 hC dX3_take_166 rfl ?_
  refine V.aload_n (pc := 167) 1 hC dX3_take_167 rfl ?_
  refine V.get (pc := 168) (v := .int (σ 54 0)) hC cf_X3 2 14 fl_X3_72 (by decide) gx_2 rfl dX3_take_168 ?_
  refine V.put (pc := 171) (v := .int (σ 54 0)) hC cf_X3 1 14 (wX k g a (va_up (va_up (va_up (va_up (va_up (va_up (va_up (va_up (va_up (va_up (va_up (va_up (va_up (va_up (va_up σ 10 (fun _ => σ 40 0)) 11 (va_cpy (σ 41) (σ 11) 0 0 4)) 12 (va_cpy (σ 42) (σ 12) 0 0 4)) 13 (fun _ => σ 43 0)) 14 (va_cpy (σ 44) (σ 14) 0 0 8)) 15 (va_cpy (σ 45) (σ 15) 0 0 8)) 16 (fun _ => σ 46 0)) 17 (va_cpy (σ 47) (σ 17) 0 0 6)) 18 (va_cpy (σ 48) (σ 18) 0 0 6)) 19 (va_cpy (σ 49) (σ 19) 0 0 6)) 20 (fun _ => σ 50 0)) 21 (fun _ => σ 51 0)) 22 (fun _ => σ 52 0)) 23 (va_cpy (σ 53) (σ 23) 0 0 60)) 24 (fun _ => σ 54 0)) ν) fl_X3_72 (by decide) gx_1 rfl rfl rfl (Nat.le_of_ble_eq_true rfl) rfl dX3_take_171 ?_
  refine V.aload_n (pc := 174) 1 hC dX3_take_174 rfl ?_
  refine V.get (pc := 175) (v := .ref (a 55)) hC cf_X3 2 15 fl_X3_41 (by decide) gx_2 rfl dX3_take_175 ?_
  refine V.iconst (pc := 178) 0 hC dX3_take_178 (by decide) ?_
  refine V.aload_n (pc := 179) 0 hC dX3_take_179 rfl ?_
  refine V.get (pc := 180) (v := .ref (a 25)) hC cf_X3 1 15 fl_X3_41 (by decide) gx_1 rfl dX3_take_180 ?_
  refine V.iconst (pc := 183) 0 hC dX3_take_183 (by decide) ?_
  refine V.bipush (pc := 184) 24 hC dX3_take_184 (by decide) ?_
  refine V.copyi (pc := 186) (f := σ 55) (gg := σ 25) hC 32 16 0 0 24 (wX k g a (va_up (va_up (va_up (va_up (va_up (va_up (va_up (va_up (va_up (va_up (va_up (va_up (va_up (va_up (va_up (va_up σ 10 (fun _ => σ 40 0)) 11 (va_cpy (σ 41) (σ 11) 0 0 4)) 12 (va_cpy (σ 42) (σ 12) 0 0 4)) 13 (fun _ => σ 43 0)) 14 (va_cpy (σ 44) (σ 14) 0 0 8)) 15 (va_cpy (σ 45) (σ 15) 0 0 8)) 16 (fun _ => σ 46 0)) 17 (va_cpy (σ 47) (σ 17) 0 0 6)) 18 (va_cpy (σ 48) (σ 18) 0 0 6)) 19 (va_cpy (σ 49) (σ 19) 0 0 6)) 20 (fun _ => σ 50 0)) 21 (fun _ => σ 51 0)) 22 (fun _ => σ 52 0)) 23 (va_cpy (σ 53) (σ 23) 0 0 60)) 24 (fun _ => σ 54 0)) 25 (va_cpy (σ 55) (σ 25) 0 0 24)) ν) 0 .int (k 0) ml_X3_54 gx_32 gx_16 rfl rfl (nl 0) (nl 0) (nl 24) (by omega) (by omega) (by decide) (by decide) (fun _ _ => rfl) ⟨Nat.le_of_ble_eq_true rfl, Nat.le_of_ble_eq_true rfl⟩ rfl dX3_take_186 ?_
  show V X (wX k g a (va_up (va_up (va_up (va_up (va_up (va_up (va_up (va_up (va_up (va_up (va_up (va_up (va_up (va_up (va_up (va_up σ 10 (fun _ => σ 40 0)) 11 (va_cpy (σ 41) (σ 11) 0 0 4)) 12 (va_cpy (σ 42) (σ 12) 0 0 4)) 13 (fun _ => σ 43 0)) 14 (va_cpy (σ 44) (σ 14) 0 0 8)) 15 (va_cpy (σ 45) (σ 15) 0 0 8)) 16 (fun _ => σ 46 0)) 17 (va_cpy (σ 47) (σ 17) 0 0 6)) 18 (va_cpy (σ 48) (σ 18) 0 0 6)) 19 (va_cpy (σ 49) (σ 19) 0 0 6)) 20 (fun _ => σ 50 0)) 21 (fun _ => σ 51 0)) 22 (fun _ => σ 52 0)) 23 (va_cpy (σ 53) (σ 23) 0 0 60)) 24 (fun _ => σ 54 0)) 25 (va_cpy (σ 55) (σ 25) 0 0 24)) ν) [(0, .ref (a 1)), (1, .ref (a 2))] [] 189
  refine V.iconst (pc := 189) 0 hC dX3_take_189 (by decide) ?_
  refine V.istore_n (pc := 190) [(2, .int 0), (0, .ref (a 1)), (1, .ref (a 2))] hC dX3_take_190 (by decide) rfl ?_
  refine V.iload_n (pc := 191) 0 hC dX3_take_191 rfl ?_
  refine V.iconst (pc := 192) 1 hC dX3_take_192 (by decide) ?_
  refine V.icmp_gt (pc := 193) 229 hC dX3_take_193 (by decide) (fun c_193 => ?_) (fun c_193 => ?_)
  · have nc_193 : 1 < 0 := (nlt (nl 1) (nl 0) (by omega) (by omega)).mp c_193
    exact absurd c_193 (by decide)
  · have nc_193 : ¬ (1 < 0) := fun z => c_193 ((nlt (nl 1) (nl 0) (by omega) (by omega)).mpr z)
    refine V.aload_n (pc := 196) 1 hC dX3_take_196 rfl ?_
    refine V.get (pc := 197) (v := .ref (a 26)) hC cf_X3 1 16 fl_X3_47 (by decide) gx_1 rfl dX3_take_197 ?_
    refine V.iload_n (pc := 200) 0 hC dX3_take_200 rfl ?_
    refine V.aldL (pc := 201) hC 17 0 (a 27) gx_17 (nl 0) (by omega) (by decide) rfl dX3_take_201 ?_
    refine V.aload_n (pc := 202) 2 hC dX3_take_202 rfl ?_
    refine V.get (pc := 203) (v := .ref (a 56)) hC cf_X3 2 16 fl_X3_47 (by decide) gx_2 rfl dX3_take_203 ?_
    refine V.iload_n (pc := 206) 0 hC dX3_take_206 rfl ?_
    refine V.aldL (pc := 207) hC 33 0 (a 57) gx_33 (nl 0) (by omega) (by decide) rfl dX3_take_207 ?_
    refine V.get (pc := 208) (v := .ref (a 59)) hC cf_X0 34 0 fl_X3_75 (by decide) gx_34 rfl dX3_take_208 ?_
    refine V.aload_n (pc := 211) 2 hC dX3_take_211 rfl ?_
    refine V.get (pc := 212) (v := .ref (a 56)) hC cf_X3 2 16 fl_X3_47 (by decide) gx_2 rfl dX3_take_212 ?_
    refine V.iload_n (pc := 215) 0 hC dX3_take_215 rfl ?_
    refine V.aldL (pc := 216) hC 33 0 (a 57) gx_33 (nl 0) (by omega) (by decide) rfl dX3_take_216 ?_
    refine V.get (pc := 217) (v := .int (σ 57 0)) hC cf_X0 34 2 fl_X3_78 (by decide) gx_34 rfl dX3_take_217 ?_
    refine V.sts (st' := [.int (nI (nN (ρ 133))), .ref (a 59), .ref (a 27)]) (stc hw0 (stk (stk rfl))) ?_
    refine V.callV0 (pc := 220) (as := [.ref (a 59), .int (nI (nN (ρ 133)))]) hC (c_X0_take_27_59 (va_up (va_up (va_up (va_up (va_up (va_up (va_up (va_up (va_up (va_up (va_up (va_up (va_up (va_up (va_up (va_up σ 10 (fun _ => σ 40 0)) 11 (va_cpy (σ 41) (σ 11) 0 0 4)) 12 (va_cpy (σ 42) (σ 12) 0 0 4)) 13 (fun _ => σ 43 0)) 14 (va_cpy (σ 44) (σ 14) 0 0 8)) 15 (va_cpy (σ 45) (σ 15) 0 0 8)) 16 (fun _ => σ 46 0)) 17 (va_cpy (σ 47) (σ 17) 0 0 6)) 18 (va_cpy (σ 48) (σ 18) 0 0 6)) 19 (va_cpy (σ 49) (σ 19) 0 0 6)) 20 (fun _ => σ 50 0)) 21 (fun _ => σ 51 0)) 22 (fun _ => σ 52 0)) 23 (va_cpy (σ 53) (σ 23) 0 0 60)) 24 (fun _ => σ 54 0)) 25 (va_cpy (σ 55) (σ 25) 0 0 24)) ν (nN (ρ 133)) hl0) mu_X0_take ml_X3_81 (by decide) ⟨18, 0, TX0, 3, _, rfl, gx_18⟩ rfl (Nat.le_of_ble_eq_true rfl) dX3_take_220 ?_
    rintro _ ⟨f2200_0, i2200_1⟩ ⟨rfl, hu2200_0, hu2200_1⟩
    have hu2200_0 : f2200_0 = va_cpy ((σ 59)) ((σ 29)) 0 0 (nN (ρ 133)) := hu2200_0
    have hu2200_1 : i2200_1 = nI (nN (ρ 133)) := hu2200_1
    show V X (wX k g a (va_up (va_up (va_up (va_up (va_up (va_up (va_up (va_up (va_up (va_up (va_up (va_up (va_up (va_up (va_up (va_up (va_up (va_up σ 10 (fun _ => σ 40 0)) 11 (va_cpy (σ 41) (σ 11) 0 0 4)) 12 (va_cpy (σ 42) (σ 12) 0 0 4)) 13 (fun _ => σ 43 0)) 14 (va_cpy (σ 44) (σ 14) 0 0 8)) 15 (va_cpy (σ 45) (σ 15) 0 0 8)) 16 (fun _ => σ 46 0)) 17 (va_cpy (σ 47) (σ 17) 0 0 6)) 18 (va_cpy (σ 48) (σ 18) 0 0 6)) 19 (va_cpy (σ 49) (σ 19) 0 0 6)) 20 (fun _ => σ 50 0)) 21 (fun _ => σ 51 0)) 22 (fun _ => σ 52 0)) 23 (va_cpy (σ 53) (σ 23) 0 0 60)) 24 (fun _ => σ 54 0)) 25 (va_cpy (σ 55) (σ 25) 0 0 24)) 29 f2200_0) 27 (fun _ => i2200_1)) ν) [(2, .int 0), (0, .ref (a 1)), (1, .ref (a 2))] [] 223
    refine V.iinc (pc := 223) 0 (nI 1) [(2, .int (nI 1)), (0, .ref (a 1)), (1, .ref (a 2))] hC dX3_take_223 rfl (ncast (nadd (nl 0) (nl 1)) (by omega)) (by decide) rfl ?_
    refine V.goto (pc := 226) 191 hC dX3_take_226 (by decide) ?_
    refine V.iload_n (pc := 191) 0 hC dX3_take_191 rfl ?_
    refine V.iconst (pc := 192) 1 hC dX3_take_192 (by decide) ?_
    refine V.icmp_gt (pc := 193) 229 hC dX3_take_193 (by decide) (fun c_193_2 => ?_) (fun c_193_2 => ?_)
    · have nc_193_2 : 1 < 1 := (nlt (nl 1) rfl (by omega) (by omega)).mp c_193_2
      exact absurd c_193_2 (by decide)
    · have nc_193_2 : ¬ (1 < 1) := fun z => c_193_2 ((nlt (nl 1) rfl (by omega) (by omega)).mpr z)
      refine V.aload_n (pc := 196) 1 hC dX3_take_196 rfl ?_
      refine V.get (pc := 197) (v := .ref (a 26)) hC cf_X3 1 16 fl_X3_47 (by decide) gx_1 rfl dX3_take_197 ?_
      refine V.iload_n (pc := 200) 0 hC dX3_take_200 rfl ?_
      refine V.aldL (pc := 201) hC 17 1 (a 28) gx_17 rfl (by omega) (by decide) rfl dX3_take_201 ?_
      refine V.aload_n (pc := 202) 2 hC dX3_take_202 rfl ?_
      refine V.get (pc := 203) (v := .ref (a 56)) hC cf_X3 2 16 fl_X3_47 (by decide) gx_2 rfl dX3_take_203 ?_
      refine V.iload_n (pc := 206) 0 hC dX3_take_206 rfl ?_
      refine V.aldL (pc := 207) hC 33 1 (a 58) gx_33 rfl (by omega) (by decide) rfl dX3_take_207 ?_
      refine V.get (pc := 208) (v := .ref (a 60)) hC cf_X0 35 0 fl_X3_75 (by decide) gx_35 rfl dX3_take_208 ?_
      refine V.aload_n (pc := 211) 2 hC dX3_take_211 rfl ?_
      refine V.get (pc := 212) (v := .ref (a 56)) hC cf_X3 2 16 fl_X3_47 (by decide) gx_2 rfl dX3_take_212 ?_
      refine V.iload_n (pc := 215) 0 hC dX3_take_215 rfl ?_
      refine V.aldL (pc := 216) hC 33 1 (a 58) gx_33 rfl (by omega) (by decide) rfl dX3_take_216 ?_
      refine V.get (pc := 217) (v := .int (σ 58 0)) hC cf_X0 35 2 fl_X3_78 (by decide) gx_35 rfl dX3_take_217 ?_
      refine V.sts (st' := [.int (nI (nN (ρ 254))), .ref (a 60), .ref (a 28)]) (stc hw1 (stk (stk rfl))) ?_
      refine V.callV0 (pc := 220) (as := [.ref (a 60), .int (nI (nN (ρ 254)))]) hC (c_X0_take_28_60 (va_up (va_up (va_up (va_up (va_up (va_up (va_up (va_up (va_up (va_up (va_up (va_up (va_up (va_up (va_up (va_up (va_up (va_up σ 10 (fun _ => σ 40 0)) 11 (va_cpy (σ 41) (σ 11) 0 0 4)) 12 (va_cpy (σ 42) (σ 12) 0 0 4)) 13 (fun _ => σ 43 0)) 14 (va_cpy (σ 44) (σ 14) 0 0 8)) 15 (va_cpy (σ 45) (σ 15) 0 0 8)) 16 (fun _ => σ 46 0)) 17 (va_cpy (σ 47) (σ 17) 0 0 6)) 18 (va_cpy (σ 48) (σ 18) 0 0 6)) 19 (va_cpy (σ 49) (σ 19) 0 0 6)) 20 (fun _ => σ 50 0)) 21 (fun _ => σ 51 0)) 22 (fun _ => σ 52 0)) 23 (va_cpy (σ 53) (σ 23) 0 0 60)) 24 (fun _ => σ 54 0)) 25 (va_cpy (σ 55) (σ 25) 0 0 24)) 29 f2200_0) 27 (fun _ => i2200_1)) ν (nN (ρ 254)) hl1) mu_X0_take ml_X3_81 (by decide) ⟨19, 0, TX0, 3, _, rfl, gx_19⟩ rfl (Nat.le_of_ble_eq_true rfl) dX3_take_220 ?_
      rintro _ ⟨f2201_0, i2201_1⟩ ⟨rfl, hu2201_0, hu2201_1⟩
      have hu2201_0 : f2201_0 = va_cpy ((σ 60)) ((σ 30)) 0 0 (nN (ρ 254)) := hu2201_0
      have hu2201_1 : i2201_1 = nI (nN (ρ 254)) := hu2201_1
      show V X (wX k g a (va_up (va_up (va_up (va_up (va_up (va_up (va_up (va_up (va_up (va_up (va_up (va_up (va_up (va_up (va_up (va_up (va_up (va_up (va_up (va_up σ 10 (fun _ => σ 40 0)) 11 (va_cpy (σ 41) (σ 11) 0 0 4)) 12 (va_cpy (σ 42) (σ 12) 0 0 4)) 13 (fun _ => σ 43 0)) 14 (va_cpy (σ 44) (σ 14) 0 0 8)) 15 (va_cpy (σ 45) (σ 15) 0 0 8)) 16 (fun _ => σ 46 0)) 17 (va_cpy (σ 47) (σ 17) 0 0 6)) 18 (va_cpy (σ 48) (σ 18) 0 0 6)) 19 (va_cpy (σ 49) (σ 19) 0 0 6)) 20 (fun _ => σ 50 0)) 21 (fun _ => σ 51 0)) 22 (fun _ => σ 52 0)) 23 (va_cpy (σ 53) (σ 23) 0 0 60)) 24 (fun _ => σ 54 0)) 25 (va_cpy (σ 55) (σ 25) 0 0 24)) 29 f2200_0) 27 (fun _ => i2200_1)) 30 f2201_0) 28 (fun _ => i2201_1)) ν) [(2, .int (nI 1)), (0, .ref (a 1)), (1, .ref (a 2))] [] 223
      refine V.iinc (pc := 223) 0 (nI 2) [(2, .int (nI 2)), (0, .ref (a 1)), (1, .ref (a 2))] hC dX3_take_223 rfl (ncast (nadd rfl (nl 1)) (by omega)) (by decide) rfl ?_
      refine V.goto (pc := 226) 191 hC dX3_take_226 (by decide) ?_
      refine V.iload_n (pc := 191) 0 hC dX3_take_191 rfl ?_
      refine V.iconst (pc := 192) 1 hC dX3_take_192 (by decide) ?_
      refine V.icmp_gt (pc := 193) 229 hC dX3_take_193 (by decide) (fun c_193_3 => ?_) (fun c_193_3 => ?_)
      · have nc_193_3 : 1 < 2 := (nlt (nl 1) rfl (by omega) (by omega)).mp c_193_3
        exact hR ((va_up (va_up (va_up (va_up (va_up (va_up (va_up (va_up (va_up (va_up (va_up (va_up (va_up (va_up (va_up (va_up (va_up (va_up (va_up (va_up σ 10 (fun _ => σ 40 0)) 11 (va_cpy (σ 41) (σ 11) 0 0 4)) 12 (va_cpy (σ 42) (σ 12) 0 0 4)) 13 (fun _ => σ 43 0)) 14 (va_cpy (σ 44) (σ 14) 0 0 8)) 15 (va_cpy (σ 45) (σ 15) 0 0 8)) 16 (fun _ => σ 46 0)) 17 (va_cpy (σ 47) (σ 17) 0 0 6)) 18 (va_cpy (σ 48) (σ 18) 0 0 6)) 19 (va_cpy (σ 49) (σ 19) 0 0 6)) 20 (fun _ => σ 50 0)) 21 (fun _ => σ 51 0)) 22 (fun _ => σ 52 0)) 23 (va_cpy (σ 53) (σ 23) 0 0 60)) 24 (fun _ => σ 54 0)) 25 (va_cpy (σ 55) (σ 25) 0 0 24)) 29 f2200_0) 27 (fun _ => i2200_1)) 30 f2201_0) 28 (fun _ => i2201_1))) _ _ dX3_take_229 ⟨rfl, Rx_iff.mpr ⟨⟨gH.1, fun i hi => (cpy_v hi).trans (gH.2.1 i hi), fun i hi => (cpy_v hi).trans (gH.2.2 i hi)⟩, ⟨gM.1, fun i hi => (cpy_v hi).trans (gM.2.1 i hi), fun i hi => (cpy_v hi).trans (gM.2.2 i hi)⟩, ⟨gP.1, fun i hi => (cpy_v hi).trans (gP.2.1 i hi), fun i hi => (cpy_v hi).trans (gP.2.2.1 i hi), fun i hi => (cpy_v hi).trans (gP.2.2.2 i hi)⟩, ⟨gT.1, gT.2⟩, ⟨gB.1, fun i hi => (congrArg (· &&& 255) (cpy_v (by omega))).trans (gB.2 i hi)⟩, ⟨gW.1, fun i hi => (cpy_v hi).trans (gW.2 i hi)⟩, ⟨hu2200_1.trans (hI.ln (u := 0) (by omega)).symm, fun i hi => by show cdR (f2200_0 i) _ _; rw [hu2200_0, cpy_v hi]; exact g0.2 i hi⟩, ⟨hu2201_1.trans (hI.ln (u := 1) (by omega)).symm, fun i hi => by show cdR (f2201_0 i) _ _; rw [hu2201_0, cpy_v hi]; exact g1.2 i hi⟩⟩, fun j hj => by unfold va_up; repeat rw [if_neg (by omega)], BF.cpy hbf⟩
      · have nc_193_3 : ¬ (1 < 2) := fun z => c_193_3 ((nlt (nl 1) rfl (by omega) (by omega)).mpr z)
        exact absurd c_193_3 (by decide)
