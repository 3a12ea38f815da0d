abbrev Tr := Rw × Int32
def bgS (q : Int32) (t : Tr) : Tr := if t.2 < 30 then (upd t.1 (nN t.2) q, t.2 + 1) else t
def bgs : List Int32 → Tr → Tr
  | [], t => t
  | q :: r, t => bgs r (bgS q t)
def hlL (kd : Int32) : List Int32 := if kd = 1 then [20, 10] else if kd = 4 then [50, 20, 10] else if kd = 6 then [70] else [10]
def hlV (kd t x : Int32) : Int32 := if kd = 1 then x + t - 4 else if kd = 4 then (x + t - 4) * 3 else if kd = 6 then 9 else x + t
def boL (kd : Int32) : List Int32 := if kd = 2 then 30 :: 11 :: hlL kd else if kd = 5 then 60 :: 30 :: 11 :: hlL kd else if kd = 6 then 71 :: 11 :: hlL kd else 11 :: hlL kd
def boV (kd m t x : Int32) : Int32 := if kd = 2 then -(hlV kd t x * 2) else if kd = 5 then -(hlV kd t (x + 1) * 2) else if kd = 6 then hlV kd t x * 2 + m else hlV kd t x * 2
def riL (kd : Int32) : List Int32 := if kd = 3 then 40 :: 12 :: boL kd else if kd = 4 then 51 :: 12 :: boL kd else 12 :: boL kd
def riV (kd m t x : Int32) : Int32 := if kd = 3 then boV kd m t (x / 2) - m else if kd = 4 then (boV kd m t x - m) ^^^ t else boV kd m t x - m
def paL (kd m t : Int32) : List Int32 := if kd = 1 ∨ kd = 4 then (if m - t = 0 then [21, 13] else 21 :: 13 :: boL kd) else [13]
def paV (kd m t x : Int32) : Int32 := if m - t = 0 then 0 else if kd = 1 ∨ kd = 4 then x / (m - t) + boV kd m t 1 else x / (m - t)
def voL (v kd m t : Int32) : List Int32 := if v = 0 then hlL kd else if v = 1 then boL kd else if v = 2 then riL kd else paL kd m t
def voV (v kd m t x : Int32) : Int32 := if v = 0 then hlV kd t x else if v = 1 then boV kd m t x else if v = 2 then riV kd m t x else paV kd m t x
def voM (v : Int32) (p : Nat) (μ : St) : St := va_up (va_up μ 18 (fun _ => (bgs (voL v (μ 0 (31 + 3 * p)) (μ 0 (32 + 3 * p)) (nI p)) (μ 17, 0)).2)) 17 (bgs (voL v (μ 0 (31 + 3 * p)) (μ 0 (32 + 3 * p)) (nI p)) (μ 17, 0)).1
def op_voice (p v x : Int32) (μ : St) : Int32 × St := if ¬ prsS μ p then er 1 μ else if ¬ inS v 0 3 then er 1 μ else if v = 3 ∧ μ 0 (32 + 3 * nN p) - nI (nN p) = 0 then er 6 (voM v (nN p) μ) else (voV v (μ 0 (31 + 3 * nN p)) (μ 0 (32 + 3 * nN p)) (nI (nN p)) x, voM v (nN p) μ)
theorem bgs_app {a c : List Int32} {t : Tr} : bgs (a ++ c) t = bgs c (bgs a t) := by
  induction a generalizing t with
  | nil => rfl
  | cons q r ih => exact ih
theorem bgS_n {q : Int32} {t : Tr} (h : isN t.2 30) : isN (bgS q t).2 30 := by
  unfold bgS
  split
  · rename_i hc
    rw [h.1] at hc
    have := (nI_ltI (a := nN t.2) (b := 30) (by have := h.2; omega) (by omega)).mp hc
    exact isN.mk (nadd h.1 (nl 1)) (by omega) (by omega)
  · exact h
theorem bgs_n {a : List Int32} : ∀ {t : Tr}, isN t.2 30 → isN (bgs a t).2 30 := by
  induction a with
  | nil => intro t h; exact h
  | cons q r ih => intro t h; exact ih (bgS_n h)

set_option maxHeartbeats 4000000 in
set_option maxRecDepth 100000 in
theorem c_X7_begins {l : Launch} {D : va_G} {k : Nat → ClassId} {g b : Nat → Nat} (μ ν : St) (q : Int32) (hT : isN (μ 18 0) 30) : Ct l D k g yX7_begins cX7_begins 2 none 0 0 [.ref (b 20), .int q] (S := Rw × Int32) (wM k b μ ν) (fun uu => wM k b (va_up (va_up μ 17 uu.1) 18 (fun _ => uu.2)) ν) (fun vv uu => vv = none ∧ (uu.1, uu.2) = bgS q (μ 17, μ 18 0) ∧ isN uu.2 30) := by
  refine Ct.ofV RX7 rfl (by decide +kernel) (Nat.le_of_ble_eq_true rfl) (fun X hC hR => ?_)
  have hT2 := hT.2
  show V X (wM k b μ ν) [(0, .ref (b 20)), (1, .int q)] [] 0
  refine V.aload_n (pc := 0) 0 hC dX7_begins_0 rfl ?_
  refine V.get (pc := 1) (v := .int (μ 18 0)) hC cf_X7 0 18 fl_X7_206 (by decide) gm_0 rfl dX7_begins_1 ?_
  refine V.bipush (pc := 4) 30 hC dX7_begins_4 (by decide) ?_
  refine V.icmp_ge (pc := 6) 29 hC dX7_begins_6 (by decide) (fun c_6 => ?_) (fun c_6 => ?_)
  · have nc_6 : 30 ≤ nN (μ 18 0) := (nle (nl 30) hT.1 (by omega) (by omega)).mp c_6
    exact hR (μ 17, μ 18 0) _ _ dX7_begins_29 ⟨rfl, (show (μ 17, μ 18 0) = bgS q (μ 17, μ 18 0) by unfold bgS; exact (if_neg (i_ge c_6)).symm), hT⟩
  · have nc_6 : ¬ (30 ≤ nN (μ 18 0)) := fun z => c_6 ((nle (nl 30) hT.1 (by omega) (by omega)).mpr z)
    refine V.aload_n (pc := 9) 0 hC dX7_begins_9 rfl ?_
    refine V.get (pc := 10) (v := .ref (b 17)) hC cf_X7 0 17 fl_X7_43 (by decide) gm_0 rfl dX7_begins_10 ?_
    refine V.aload_n (pc := 13) 0 hC dX7_begins_13 rfl ?_
    refine V.get (pc := 14) (v := .int (μ 18 0)) hC cf_X7 0 18 fl_X7_206 (by decide) gm_0 rfl dX7_begins_14 ?_
    refine V.iload_n (pc := 17) 1 hC dX7_begins_17 rfl ?_
    refine V.iast (pc := 18) (f := μ 17) hC 12 (nN (μ 18 0)) (wM k b (va_up μ 17 (upd (μ 17) (nN (μ 18 0)) q)) ν) gm_12 hT.1 (by omega) (by decide) rfl dX7_begins_18 ?_
    refine V.aload_n (pc := 19) 0 hC dX7_begins_19 rfl ?_
    refine V.dup (pc := 20) hC dX7_begins_20 rfl ?_
    refine V.get (pc := 21) (v := .int (μ 18 0)) hC cf_X7 0 18 fl_X7_206 (by decide) gm_0 rfl dX7_begins_21 ?_
    refine V.iconst (pc := 24) 1 hC dX7_begins_24 (by decide) ?_
    refine V.iadd (pc := 25) hC dX7_begins_25 ?_
    refine V.put (pc := 26) (v := .int ((μ 18 0) + 1)) hC cf_X7 0 18 (wM k b (va_up (va_up μ 17 (upd (μ 17) (nN (μ 18 0)) q)) 18 (fun _ => (μ 18 0) + 1)) ν) fl_X7_206 (by decide) gm_0 rfl rfl rfl (Nat.le_of_ble_eq_true rfl) rfl dX7_begins_26 ?_
    exact hR (upd (μ 17) (nN (μ 18 0)) q, (μ 18 0) + 1) _ _ dX7_begins_29 ⟨rfl, (show (upd (μ 17) (nN (μ 18 0)) q, μ 18 0 + 1) = bgS q (μ 17, μ 18 0) by unfold bgS; exact (if_pos (i_nle c_6)).symm), isN.mk (nadd hT.1 (nl 1)) (by omega) (by omega)⟩
set_option maxHeartbeats 4000000 in
set_option maxRecDepth 100000 in
theorem c_X7_plainHails {l : Launch} {D : va_G} {k : Nat → ClassId} {g b : Nat → Nat} (μ ν : St) (p : Nat) (x : Int32) (hp : p < 6) (hT : isN (μ 18 0) 30) : Ct l D k g yX7_plainHails cX7_plainHails 3 (some .int) 1 21 [.ref (b 20), .int (nI p), .int x] (S := Rw × Int32) (wM k b μ ν) (fun uu => wM k b (va_up (va_up μ 17 uu.1) 18 (fun _ => uu.2)) ν) (fun vv uu => vv = some (.int (x + nI p)) ∧ (uu.1, uu.2) = bgs [10] (μ 17, μ 18 0) ∧ isN uu.2 30) := by
  refine Ct.ofI RX7 rfl (by decide +kernel) (Nat.le_of_ble_eq_true rfl) (fun X hC hR => ?_)
  show V X (wM k b μ ν) [(0, .ref (b 20)), (1, .int (nI p)), (2, .int x)] [] 0
  refine V.aload_n (pc := 0) 0 hC dX7_plainHails_0 rfl ?_
  refine V.bipush (pc := 1) 10 hC dX7_plainHails_1 (by decide) ?_
  refine V.callV0 (pc := 3) (as := [.int 10]) hC (c_X7_begins μ ν 10 hT) mu_X7_begins ml_X7_209 (by decide) ⟨0, 7, TX7, 20, _, rfl, gm_0⟩ rfl (Nat.le_of_ble_eq_true rfl) dX7_plainHails_3 ?_
  rintro _ ⟨f3_0, i3_1⟩ ⟨rfl, hu3_0, hu3_1⟩
  have hu3_0 : (f3_0, i3_1) = bgS 10 (μ 17, μ 18 0) := hu3_0
  have hu3_1 : isN i3_1 30 := hu3_1
  show V X (wM k b (va_up (va_up μ 17 f3_0) 18 (fun _ => i3_1)) ν) [(0, .ref (b 20)), (1, .int (nI p)), (2, .int x)] [] 6
  refine V.iload_n (pc := 6) 2 hC dX7_plainHails_6 rfl ?_
  refine V.iload_n (pc := 7) 1 hC dX7_plainHails_7 rfl ?_
  refine V.iadd (pc := 8) hC dX7_plainHails_8 ?_
  exact hR (x + (nI p)) (f3_0, i3_1) _ _ dX7_plainHails_9 rfl ⟨rfl, by rw [hu3_0]; rfl, hu3_1⟩
set_option maxHeartbeats 4000000 in
set_option maxRecDepth 100000 in
theorem c_X7_jumperHails {l : Launch} {D : va_G} {k : Nat → ClassId} {g b : Nat → Nat} (μ ν : St) (p : Nat) (x : Int32) (hp : p < 6) (hT : isN (μ 18 0) 30) : Ct l D k g yX7_jumperHails cX7_jumperHails 3 (some .int) 2 43 [.ref (b 20), .int (nI p), .int x] (S := Rw × Int32) (wM k b μ ν) (fun uu => wM k b (va_up (va_up μ 17 uu.1) 18 (fun _ => uu.2)) ν) (fun vv uu => vv = some (.int (x + nI p - 4)) ∧ (uu.1, uu.2) = bgs [20, 10] (μ 17, μ 18 0) ∧ isN uu.2 30) := by
  refine Ct.ofI RX7 rfl (by decide +kernel) (Nat.le_of_ble_eq_true rfl) (fun X hC hR => ?_)
  show V X (wM k b μ ν) [(0, .ref (b 20)), (1, .int (nI p)), (2, .int x)] [] 0
  refine V.aload_n (pc := 0) 0 hC dX7_jumperHails_0 rfl ?_
  refine V.bipush (pc := 1) 20 hC dX7_jumperHails_1 (by decide) ?_
  refine V.callV0 (pc := 3) (as := [.int 20]) hC (c_X7_begins μ ν 20 hT) mu_X7_begins ml_X7_209 (by decide) ⟨0, 7, TX7, 20, _, rfl, gm_0⟩ rfl (Nat.le_of_ble_eq_true rfl) dX7_jumperHails_3 ?_
  rintro _ ⟨f3_0, i3_1⟩ ⟨rfl, hu3_0, hu3_1⟩
  have hu3_0 : (f3_0, i3_1) = bgS 20 (μ 17, μ 18 0) := hu3_0
  have hu3_1 : isN i3_1 30 := hu3_1
  show V X (wM k b (va_up (va_up μ 17 f3_0) 18 (fun _ => i3_1)) ν) [(0, .ref (b 20)), (1, .int (nI p)), (2, .int x)] [] 6
  refine V.aload_n (pc := 6) 0 hC dX7_jumperHails_6 rfl ?_
  refine V.iload_n (pc := 7) 1 hC dX7_jumperHails_7 rfl ?_
  refine V.iload_n (pc := 8) 2 hC dX7_jumperHails_8 rfl ?_
  refine V.callV0 (pc := 9) (as := [.int (nI p), .int x]) hC (c_X7_plainHails (va_up (va_up μ 17 f3_0) 18 (fun _ => i3_1)) ν p x hp hu3_1) mu_X7_plainHails ml_X7_212 (by decide) ⟨0, 7, TX7, 20, _, rfl, gm_0⟩ rfl (Nat.le_of_ble_eq_true rfl) dX7_jumperHails_9 ?_
  rintro _ ⟨f9_0, i9_1⟩ ⟨rfl, hu9_0, hu9_1⟩
  have hu9_0 : (f9_0, i9_1) = bgs [10] (f3_0, i3_1) := hu9_0
  have hu9_1 : isN i9_1 30 := hu9_1
  show V X (wM k b (va_up (va_up μ 17 f9_0) 18 (fun _ => i9_1)) ν) [(0, .ref (b 20)), (1, .int (nI p)), (2, .int x)] [.int (x + nI p)] 12
  refine V.iconst (pc := 12) 4 hC dX7_jumperHails_12 (by decide) ?_
  refine V.isub (pc := 13) hC dX7_jumperHails_13 ?_
  exact hR ((x + nI p) - 4) (f9_0, i9_1) _ _ dX7_jumperHails_14 rfl ⟨rfl, by rw [hu9_0, hu3_0]; rfl, hu9_1⟩
set_option maxHeartbeats 4000000 in
set_option maxRecDepth 100000 in
theorem c_X7_hails {l : Launch} {D : va_G} {k : Nat → ClassId} {g b : Nat → Nat} (μ ν : St) (p : Nat) (x : Int32) (hp : p < 6) (hT : isN (μ 18 0) 30) : Ct l D k g yX7_hails cX7_hails 3 (some .int) 3 65 [.ref (b 20), .int (nI p), .int x] (S := Rw × Int32) (wM k b μ ν) (fun uu => wM k b (va_up (va_up μ 17 uu.1) 18 (fun _ => uu.2)) ν) (fun vv uu => vv = some (.int (hlV (μ 0 (31 + 3 * p)) (nI p) x)) ∧ (uu.1, uu.2) = bgs (hlL (μ 0 (31 + 3 * p))) (μ 17, μ 18 0) ∧ isN uu.2 30) := by
  refine Ct.ofI RX7 rfl (by decide +kernel) (Nat.le_of_ble_eq_true rfl) (fun X hC hR => ?_)
  show V X (wM k b μ ν) [(0, .ref (b 20)), (1, .int (nI p)), (2, .int x)] [] 0
  refine V.aload_n (pc := 0) 0 hC dX7_hails_0 rfl ?_
  refine V.iload_n (pc := 1) 1 hC dX7_hails_1 rfl ?_
  refine V.iconst (pc := 2) 0 hC dX7_hails_2 (by decide) ?_
  refine V.sts (st' := [.int (nI 0), .int (nI p), .ref (b 20)]) (stc (nl 0) (stk (stk rfl))) ?_
  refine V.callV0 (pc := 3) (as := [.int (nI p), .int (nI 0)]) hC (c_X7_of μ ν p 0 hp (by omega)) mu_X7_of ml_X7_72 (by decide) ⟨0, 7, TX7, 20, _, rfl, gm_0⟩ rfl (Nat.le_of_ble_eq_true rfl) dX7_hails_3 ?_
  rintro _ _ rfl
  show V X (wM k b μ ν) [(0, .ref (b 20)), (1, .int (nI p)), (2, .int x)] [.int (μ 0 (31 + 3 * p + 0))] 6
  refine V.eqi (y := μ 0 (31 + 3 * p)) (congrArg (μ 0) (by omega)) ?_
  by_cases s_6_1 : μ 0 (31 + 3 * p) = 1
  · refine V.lookup (pc := 6) 40 hC dX7_hails_6 (by decide) (by rw [s_6_1]; first | done | rfl) (by decide) ?_
    refine V.aload_n (pc := 40) 0 hC dX7_hails_40 rfl ?_
    refine V.iload_n (pc := 41) 1 hC dX7_hails_41 rfl ?_
    refine V.iload_n (pc := 42) 2 hC dX7_hails_42 rfl ?_
    refine V.callV0 (pc := 43) (as := [.int (nI p), .int x]) hC (c_X7_jumperHails μ ν p x hp hT) mu_X7_jumperHails ml_X7_215 (by decide) ⟨0, 7, TX7, 20, _, rfl, gm_0⟩ rfl (Nat.le_of_ble_eq_true rfl) dX7_hails_43 ?_
    rintro _ ⟨f43_0, i43_1⟩ ⟨rfl, hu43_0, hu43_1⟩
    have hu43_0 : (f43_0, i43_1) = bgs [20, 10] (μ 17, μ 18 0) := hu43_0
    have hu43_1 : isN i43_1 30 := hu43_1
    show V X (wM k b (va_up (va_up μ 17 f43_0) 18 (fun _ => i43_1)) ν) [(0, .ref (b 20)), (1, .int (nI p)), (2, .int x)] [.int (x + nI p - 4)] 46
    exact hR (x + nI p - 4) (f43_0, i43_1) _ _ dX7_hails_46 rfl ⟨ri (by unfold hlV; rw [s_6_1]; first | done | rfl), by rw [hu43_0]; unfold hlL; rw [s_6_1]; first | done | rfl, hu43_1⟩
  by_cases s_6_4 : μ 0 (31 + 3 * p) = 4
  · refine V.lookup (pc := 6) 47 hC dX7_hails_6 (by decide) (by rw [s_6_4]; first | done | rfl) (by decide) ?_
    refine V.aload_n (pc := 47) 0 hC dX7_hails_47 rfl ?_
    refine V.bipush (pc := 48) 50 hC dX7_hails_48 (by decide) ?_
    refine V.callV0 (pc := 50) (as := [.int 50]) hC (c_X7_begins μ ν 50 hT) mu_X7_begins ml_X7_209 (by decide) ⟨0, 7, TX7, 20, _, rfl, gm_0⟩ rfl (Nat.le_of_ble_eq_true rfl) dX7_hails_50 ?_
    rintro _ ⟨f50_0, i50_1⟩ ⟨rfl, hu50_0, hu50_1⟩
    have hu50_0 : (f50_0, i50_1) = bgS 50 (μ 17, μ 18 0) := hu50_0
    have hu50_1 : isN i50_1 30 := hu50_1
    show V X (wM k b (va_up (va_up μ 17 f50_0) 18 (fun _ => i50_1)) ν) [(0, .ref (b 20)), (1, .int (nI p)), (2, .int x)] [] 53
    refine V.aload_n (pc := 53) 0 hC dX7_hails_53 rfl ?_
    refine V.iload_n (pc := 54) 1 hC dX7_hails_54 rfl ?_
    refine V.iload_n (pc := 55) 2 hC dX7_hails_55 rfl ?_
    refine V.callV0 (pc := 56) (as := [.int (nI p), .int x]) hC (c_X7_jumperHails (va_up (va_up μ 17 f50_0) 18 (fun _ => i50_1)) ν p x hp hu50_1) mu_X7_jumperHails ml_X7_215 (by decide) ⟨0, 7, TX7, 20, _, rfl, gm_0⟩ rfl (Nat.le_of_ble_eq_true rfl) dX7_hails_56 ?_
    rintro _ ⟨f56_0, i56_1⟩ ⟨rfl, hu56_0, hu56_1⟩
    have hu56_0 : (f56_0, i56_1) = bgs [20, 10] (f50_0, i50_1) := hu56_0
    have hu56_1 : isN i56_1 30 := hu56_1
    show V X (wM k b (va_up (va_up μ 17 f56_0) 18 (fun _ => i56_1)) ν) [(0, .ref (b 20)), (1, .int (nI p)), (2, .int x)] [.int (x + nI p - 4)] 59
    refine V.iconst (pc := 59) 3 hC dX7_hails_59 (by decide) ?_
    refine V.imul (pc := 60) hC dX7_hails_60 ?_
    exact hR ((x + nI p - 4) * 3) (f56_0, i56_1) _ _ dX7_hails_61 rfl ⟨ri (by unfold hlV; rw [s_6_4]; first | done | rfl), by rw [hu56_0, hu50_0]; unfold hlL; rw [s_6_4]; first | done | rfl, hu56_1⟩
  by_cases s_6_6 : μ 0 (31 + 3 * p) = 6
  · refine V.lookup (pc := 6) 62 hC dX7_hails_6 (by decide) (by rw [s_6_6]; first | done | rfl) (by decide) ?_
    refine V.aload_n (pc := 62) 0 hC dX7_hails_62 rfl ?_
    refine V.bipush (pc := 63) 70 hC dX7_hails_63 (by decide) ?_
    refine V.callV0 (pc := 65) (as := [.int 70]) hC (c_X7_begins μ ν 70 hT) mu_X7_begins ml_X7_209 (by decide) ⟨0, 7, TX7, 20, _, rfl, gm_0⟩ rfl (Nat.le_of_ble_eq_true rfl) dX7_hails_65 ?_
    rintro _ ⟨f65_0, i65_1⟩ ⟨rfl, hu65_0, hu65_1⟩
    have hu65_0 : (f65_0, i65_1) = bgS 70 (μ 17, μ 18 0) := hu65_0
    have hu65_1 : isN i65_1 30 := hu65_1
    show V X (wM k b (va_up (va_up μ 17 f65_0) 18 (fun _ => i65_1)) ν) [(0, .ref (b 20)), (1, .int (nI p)), (2, .int x)] [] 68
    refine V.bipush (pc := 68) 9 hC dX7_hails_68 (by decide) ?_
    exact hR 9 (f65_0, i65_1) _ _ dX7_hails_70 rfl ⟨ri (by unfold hlV; rw [s_6_6]; first | done | rfl), by rw [hu65_0]; unfold hlL; rw [s_6_6]; first | done | rfl, hu65_1⟩
  refine V.lookup (pc := 6) 71 hC dX7_hails_6 (by decide) ((lv_osw s_6_1 rfl).trans ((lv_osw s_6_4 rfl).trans ((lv_osw s_6_6 rfl).trans rfl))) rfl ?_
  refine V.aload_n (pc := 71) 0 hC dX7_hails_71 rfl ?_
  refine V.iload_n (pc := 72) 1 hC dX7_hails_72 rfl ?_
  refine V.iload_n (pc := 73) 2 hC dX7_hails_73 rfl ?_
  refine V.callV0 (pc := 74) (as := [.int (nI p), .int x]) hC (c_X7_plainHails μ ν p x hp hT) mu_X7_plainHails ml_X7_212 (by decide) ⟨0, 7, TX7, 20, _, rfl, gm_0⟩ rfl (Nat.le_of_ble_eq_true rfl) dX7_hails_74 ?_
  rintro _ ⟨f74_0, i74_1⟩ ⟨rfl, hu74_0, hu74_1⟩
  have hu74_0 : (f74_0, i74_1) = bgs [10] (μ 17, μ 18 0) := hu74_0
  have hu74_1 : isN i74_1 30 := hu74_1
  show V X (wM k b (va_up (va_up μ 17 f74_0) 18 (fun _ => i74_1)) ν) [(0, .ref (b 20)), (1, .int (nI p)), (2, .int x)] [.int (x + nI p)] 77
  exact hR (x + nI p) (f74_0, i74_1) _ _ dX7_hails_77 rfl ⟨ri (by unfold hlV; rw [if_neg s_6_1, if_neg s_6_4, if_neg s_6_6]), by unfold hlL; rw [hu74_0, if_neg s_6_1, if_neg s_6_4, if_neg s_6_6]; first | done | rfl, hu74_1⟩
set_option maxHeartbeats 4000000 in
set_option maxRecDepth 100000 in
theorem c_X7_plainBows {l : Launch} {D : va_G} {k : Nat → ClassId} {g b : Nat → Nat} (μ ν : St) (p : Nat) (x : Int32) (hp : p < 6) (hT : isN (μ 18 0) 30) : Ct l D k g yX7_plainBows cX7_plainBows 3 (some .int) 4 87 [.ref (b 20), .int (nI p), .int x] (S := Rw × Int32) (wM k b μ ν) (fun uu => wM k b (va_up (va_up μ 17 uu.1) 18 (fun _ => uu.2)) ν) (fun vv uu => vv = some (.int (hlV (μ 0 (31 + 3 * p)) (nI p) x * 2)) ∧ (uu.1, uu.2) = bgs (11 :: hlL (μ 0 (31 + 3 * p))) (μ 17, μ 18 0) ∧ isN uu.2 30) := by
  refine Ct.ofI RX7 rfl (by decide +kernel) (Nat.le_of_ble_eq_true rfl) (fun X hC hR => ?_)
  show V X (wM k b μ ν) [(0, .ref (b 20)), (1, .int (nI p)), (2, .int x)] [] 0
  refine V.aload_n (pc := 0) 0 hC dX7_plainBows_0 rfl ?_
  refine V.bipush (pc := 1) 11 hC dX7_plainBows_1 (by decide) ?_
  refine V.callV0 (pc := 3) (as := [.int 11]) hC (c_X7_begins μ ν 11 hT) mu_X7_begins ml_X7_209 (by decide) ⟨0, 7, TX7, 20, _, rfl, gm_0⟩ rfl (Nat.le_of_ble_eq_true rfl) dX7_plainBows_3 ?_
  rintro _ ⟨f3_0, i3_1⟩ ⟨rfl, hu3_0, hu3_1⟩
  have hu3_0 : (f3_0, i3_1) = bgS 11 (μ 17, μ 18 0) := hu3_0
  have hu3_1 : isN i3_1 30 := hu3_1
  show V X (wM k b (va_up (va_up μ 17 f3_0) 18 (fun _ => i3_1)) ν) [(0, .ref (b 20)), (1, .int (nI p)), (2, .int x)] [] 6
  refine V.aload_n (pc := 6) 0 hC dX7_plainBows_6 rfl ?_
  refine V.iload_n (pc := 7) 1 hC dX7_plainBows_7 rfl ?_
  refine V.iload_n (pc := 8) 2 hC dX7_plainBows_8 rfl ?_
  refine V.callV0 (pc := 9) (as := [.int (nI p), .int x]) hC (c_X7_hails (va_up (va_up μ 17 f3_0) 18 (fun _ => i3_1)) ν p x hp hu3_1) mu_X7_hails ml_X7_218 (by decide) ⟨0, 7, TX7, 20, _, rfl, gm_0⟩ rfl (Nat.le_of_ble_eq_true rfl) dX7_plainBows_9 ?_
  rintro _ ⟨f9_0, i9_1⟩ ⟨rfl, hu9_0, hu9_1⟩
  have hu9_0 : (f9_0, i9_1) = bgs (hlL ((μ 0) (31 + 3 * p))) (f3_0, i3_1) := hu9_0
  have hu9_1 : isN i9_1 30 := hu9_1
  show V X (wM k b (va_up (va_up μ 17 f9_0) 18 (fun _ => i9_1)) ν) [(0, .ref (b 20)), (1, .int (nI p)), (2, .int x)] [.int (hlV ((μ 0) (31 + 3 * p)) (nI p) x)] 12
  refine V.iconst (pc := 12) 2 hC dX7_plainBows_12 (by decide) ?_
  refine V.imul (pc := 13) hC dX7_plainBows_13 ?_
  exact hR ((hlV ((μ 0) (31 + 3 * p)) (nI p) x) * 2) (f9_0, i9_1) _ _ dX7_plainBows_14 rfl ⟨rfl, by rw [hu9_0, hu3_0]; rfl, hu9_1⟩
set_option maxHeartbeats 4000000 in
set_option maxRecDepth 100000 in
theorem c_X7_widowBows {l : Launch} {D : va_G} {k : Nat → ClassId} {g b : Nat → Nat} (μ ν : St) (p : Nat) (x : Int32) (hp : p < 6) (hT : isN (μ 18 0) 30) : Ct l D k g yX7_widowBows cX7_widowBows 3 (some .int) 5 109 [.ref (b 20), .int (nI p), .int x] (S := Rw × Int32) (wM k b μ ν) (fun uu => wM k b (va_up (va_up μ 17 uu.1) 18 (fun _ => uu.2)) ν) (fun vv uu => vv = some (.int (-(hlV (μ 0 (31 + 3 * p)) (nI p) x * 2))) ∧ (uu.1, uu.2) = bgs (30 :: 11 :: hlL (μ 0 (31 + 3 * p))) (μ 17, μ 18 0) ∧ isN uu.2 30) := by
  refine Ct.ofI RX7 rfl (by decide +kernel) (Nat.le_of_ble_eq_true rfl) (fun X hC hR => ?_)
  show V X (wM k b μ ν) [(0, .ref (b 20)), (1, .int (nI p)), (2, .int x)] [] 0
  refine V.aload_n (pc := 0) 0 hC dX7_widowBows_0 rfl ?_
  refine V.bipush (pc := 1) 30 hC dX7_widowBows_1 (by decide) ?_
  refine V.callV0 (pc := 3) (as := [.int 30]) hC (c_X7_begins μ ν 30 hT) mu_X7_begins ml_X7_209 (by decide) ⟨0, 7, TX7, 20, _, rfl, gm_0⟩ rfl (Nat.le_of_ble_eq_true rfl) dX7_widowBows_3 ?_
  rintro _ ⟨f3_0, i3_1⟩ ⟨rfl, hu3_0, hu3_1⟩
  have hu3_0 : (f3_0, i3_1) = bgS 30 (μ 17, μ 18 0) := hu3_0
  have hu3_1 : isN i3_1 30 := hu3_1
  show V X (wM k b (va_up (va_up μ 17 f3_0) 18 (fun _ => i3_1)) ν) [(0, .ref (b 20)), (1, .int (nI p)), (2, .int x)] [] 6
  refine V.aload_n (pc := 6) 0 hC dX7_widowBows_6 rfl ?_
  refine V.iload_n (pc := 7) 1 hC dX7_widowBows_7 rfl ?_
  refine V.iload_n (pc := 8) 2 hC dX7_widowBows_8 rfl ?_
  refine V.callV0 (pc := 9) (as := [.int (nI p), .int x]) hC (c_X7_plainBows (va_up (va_up μ 17 f3_0) 18 (fun _ => i3_1)) ν p x hp hu3_1) mu_X7_plainBows ml_X7_221 (by decide) ⟨0, 7, TX7, 20, _, rfl, gm_0⟩ rfl (Nat.le_of_ble_eq_true rfl) dX7_widowBows_9 ?_
  rintro _ ⟨f9_0, i9_1⟩ ⟨rfl, hu9_0, hu9_1⟩
  have hu9_0 : (f9_0, i9_1) = bgs (11 :: hlL ((μ 0) (31 + 3 * p))) (f3_0, i3_1) := hu9_0
  have hu9_1 : isN i9_1 30 := hu9_1
  show V X (wM k b (va_up (va_up μ 17 f9_0) 18 (fun _ => i9_1)) ν) [(0, .ref (b 20)), (1, .int (nI p)), (2, .int x)] [.int (hlV ((μ 0) (31 + 3 * p)) (nI p) x * 2)] 12
  refine V.ineg (pc := 12) hC dX7_widowBows_12 ?_
  exact hR (-(hlV ((μ 0) (31 + 3 * p)) (nI p) x * 2)) (f9_0, i9_1) _ _ dX7_widowBows_13 rfl ⟨rfl, by rw [hu9_0, hu3_0]; rfl, hu9_1⟩
set_option maxHeartbeats 4000000 in
set_option maxRecDepth 100000 in
theorem c_X7_bows {l : Launch} {D : va_G} {k : Nat → ClassId} {g b : Nat → Nat} (μ ν : St) (p : Nat) (x : Int32) (hp : p < 6) (hT : isN (μ 18 0) 30) : Ct l D k g yX7_bows cX7_bows 3 (some .int) 6 131 [.ref (b 20), .int (nI p), .int x] (S := Rw × Int32) (wM k b μ ν) (fun uu => wM k b (va_up (va_up μ 17 uu.1) 18 (fun _ => uu.2)) ν) (fun vv uu => vv = some (.int (boV (μ 0 (31 + 3 * p)) (μ 0 (32 + 3 * p)) (nI p) x)) ∧ (uu.1, uu.2) = bgs (boL (μ 0 (31 + 3 * p))) (μ 17, μ 18 0) ∧ isN uu.2 30) := by
  refine Ct.ofI RX7 rfl (by decide +kernel) (Nat.le_of_ble_eq_true rfl) (fun X hC hR => ?_)
  show V X (wM k b μ ν) [(0, .ref (b 20)), (1, .int (nI p)), (2, .int x)] [] 0
  refine V.aload_n (pc := 0) 0 hC dX7_bows_0 rfl ?_
  refine V.iload_n (pc := 1) 1 hC dX7_bows_1 rfl ?_
  refine V.iconst (pc := 2) 0 hC dX7_bows_2 (by decide) ?_
  refine V.sts (st' := [.int (nI 0), .int (nI p), .ref (b 20)]) (stc (nl 0) (stk (stk rfl))) ?_
  refine V.callV0 (pc := 3) (as := [.int (nI p), .int (nI 0)]) hC (c_X7_of μ ν p 0 hp (by omega)) mu_X7_of ml_X7_72 (by decide) ⟨0, 7, TX7, 20, _, rfl, gm_0⟩ rfl (Nat.le_of_ble_eq_true rfl) dX7_bows_3 ?_
  rintro _ _ rfl
  show V X (wM k b μ ν) [(0, .ref (b 20)), (1, .int (nI p)), (2, .int x)] [.int (μ 0 (31 + 3 * p + 0))] 6
  refine V.eqi (y := μ 0 (31 + 3 * p)) (congrArg (μ 0) (by omega)) ?_
  by_cases s_6_2 : μ 0 (31 + 3 * p) = 2
  · refine V.tableIn (pc := 6) 40 hC dX7_bows_6 (by rw [s_6_2]; decide) (by rw [s_6_2]; decide) (by rw [s_6_2]; rfl) (by decide) ?_
    refine V.aload_n (pc := 40) 0 hC dX7_bows_40 rfl ?_
    refine V.iload_n (pc := 41) 1 hC dX7_bows_41 rfl ?_
    refine V.iload_n (pc := 42) 2 hC dX7_bows_42 rfl ?_
    refine V.callV0 (pc := 43) (as := [.int (nI p), .int x]) hC (c_X7_widowBows μ ν p x hp hT) mu_X7_widowBows ml_X7_224 (by decide) ⟨0, 7, TX7, 20, _, rfl, gm_0⟩ rfl (Nat.le_of_ble_eq_true rfl) dX7_bows_43 ?_
    rintro _ ⟨f43_0, i43_1⟩ ⟨rfl, hu43_0, hu43_1⟩
    have hu43_0 : (f43_0, i43_1) = bgs (30 :: 11 :: hlL (μ 0 (31 + 3 * p))) (μ 17, μ 18 0) := hu43_0
    have hu43_1 : isN i43_1 30 := hu43_1
    show V X (wM k b (va_up (va_up μ 17 f43_0) 18 (fun _ => i43_1)) ν) [(0, .ref (b 20)), (1, .int (nI p)), (2, .int x)] [.int (-(hlV (μ 0 (31 + 3 * p)) (nI p) x * 2))] 46
    exact hR (-(hlV (μ 0 (31 + 3 * p)) (nI p) x * 2)) (f43_0, i43_1) _ _ dX7_bows_46 rfl ⟨ri (by unfold boV; rw [s_6_2]; first | done | rfl), by rw [hu43_0]; unfold boL; rw [s_6_2]; first | done | rfl, hu43_1⟩
  by_cases s_6_3 : μ 0 (31 + 3 * p) = 3
  · refine V.tableIn (pc := 6) 82 hC dX7_bows_6 (by rw [s_6_3]; decide) (by rw [s_6_3]; decide) (by rw [s_6_3]; rfl) (by decide) ?_
    refine V.aload_n (pc := 82) 0 hC dX7_bows_82 rfl ?_
    refine V.iload_n (pc := 83) 1 hC dX7_bows_83 rfl ?_
    refine V.iload_n (pc := 84) 2 hC dX7_bows_84 rfl ?_
    refine V.callV0 (pc := 85) (as := [.int (nI p), .int x]) hC (c_X7_plainBows μ ν p x hp hT) mu_X7_plainBows ml_X7_221 (by decide) ⟨0, 7, TX7, 20, _, rfl, gm_0⟩ rfl (Nat.le_of_ble_eq_true rfl) dX7_bows_85 ?_
    rintro _ ⟨f85_0, i85_1⟩ ⟨rfl, hu85_0, hu85_1⟩
    have hu85_0 : (f85_0, i85_1) = bgs (11 :: hlL (μ 0 (31 + 3 * p))) (μ 17, μ 18 0) := hu85_0
    have hu85_1 : isN i85_1 30 := hu85_1
    show V X (wM k b (va_up (va_up μ 17 f85_0) 18 (fun _ => i85_1)) ν) [(0, .ref (b 20)), (1, .int (nI p)), (2, .int x)] [.int (hlV (μ 0 (31 + 3 * p)) (nI p) x * 2)] 88
    exact hR (hlV (μ 0 (31 + 3 * p)) (nI p) x * 2) (f85_0, i85_1) _ _ dX7_bows_88 rfl ⟨ri (by unfold boV; rw [s_6_3]; first | done | rfl), by rw [hu85_0]; unfold boL; rw [s_6_3]; first | done | rfl, hu85_1⟩
  by_cases s_6_4 : μ 0 (31 + 3 * p) = 4
  · refine V.tableIn (pc := 6) 82 hC dX7_bows_6 (by rw [s_6_4]; decide) (by rw [s_6_4]; decide) (by rw [s_6_4]; rfl) (by decide) ?_
    refine V.aload_n (pc := 82) 0 hC dX7_bows_82 rfl ?_
    refine V.iload_n (pc := 83) 1 hC dX7_bows_83 rfl ?_
    refine V.iload_n (pc := 84) 2 hC dX7_bows_84 rfl ?_
    refine V.callV0 (pc := 85) (as := [.int (nI p), .int x]) hC (c_X7_plainBows μ ν p x hp hT) mu_X7_plainBows ml_X7_221 (by decide) ⟨0, 7, TX7, 20, _, rfl, gm_0⟩ rfl (Nat.le_of_ble_eq_true rfl) dX7_bows_85 ?_
    rintro _ ⟨f85_0, i85_1⟩ ⟨rfl, hu85_0, hu85_1⟩
    have hu85_0 : (f85_0, i85_1) = bgs (11 :: hlL (μ 0 (31 + 3 * p))) (μ 17, μ 18 0) := hu85_0
    have hu85_1 : isN i85_1 30 := hu85_1
    show V X (wM k b (va_up (va_up μ 17 f85_0) 18 (fun _ => i85_1)) ν) [(0, .ref (b 20)), (1, .int (nI p)), (2, .int x)] [.int (hlV (μ 0 (31 + 3 * p)) (nI p) x * 2)] 88
    exact hR (hlV (μ 0 (31 + 3 * p)) (nI p) x * 2) (f85_0, i85_1) _ _ dX7_bows_88 rfl ⟨ri (by unfold boV; rw [s_6_4]; first | done | rfl), by rw [hu85_0]; unfold boL; rw [s_6_4]; first | done | rfl, hu85_1⟩
  by_cases s_6_5 : μ 0 (31 + 3 * p) = 5
  · refine V.tableIn (pc := 6) 47 hC dX7_bows_6 (by rw [s_6_5]; decide) (by rw [s_6_5]; decide) (by rw [s_6_5]; rfl) (by decide) ?_
    refine V.aload_n (pc := 47) 0 hC dX7_bows_47 rfl ?_
    refine V.bipush (pc := 48) 60 hC dX7_bows_48 (by decide) ?_
    refine V.callV0 (pc := 50) (as := [.int 60]) hC (c_X7_begins μ ν 60 hT) mu_X7_begins ml_X7_209 (by decide) ⟨0, 7, TX7, 20, _, rfl, gm_0⟩ rfl (Nat.le_of_ble_eq_true rfl) dX7_bows_50 ?_
    rintro _ ⟨f50_0, i50_1⟩ ⟨rfl, hu50_0, hu50_1⟩
    have hu50_0 : (f50_0, i50_1) = bgS 60 (μ 17, μ 18 0) := hu50_0
    have hu50_1 : isN i50_1 30 := hu50_1
    show V X (wM k b (va_up (va_up μ 17 f50_0) 18 (fun _ => i50_1)) ν) [(0, .ref (b 20)), (1, .int (nI p)), (2, .int x)] [] 53
    refine V.aload_n (pc := 53) 0 hC dX7_bows_53 rfl ?_
    refine V.iload_n (pc := 54) 1 hC dX7_bows_54 rfl ?_
    refine V.iload_n (pc := 55) 2 hC dX7_bows_55 rfl ?_
    refine V.iconst (pc := 56) 1 hC dX7_bows_56 (by decide) ?_
    refine V.iadd (pc := 57) hC dX7_bows_57 ?_
    refine V.callV0 (pc := 58) (as := [.int (nI p), .int (x + 1)]) hC (c_X7_widowBows (va_up (va_up μ 17 f50_0) 18 (fun _ => i50_1)) ν p (x + 1) hp hu50_1) mu_X7_widowBows ml_X7_224 (by decide) ⟨0, 7, TX7, 20, _, rfl, gm_0⟩ rfl (Nat.le_of_ble_eq_true rfl) dX7_bows_58 ?_
    rintro _ ⟨f58_0, i58_1⟩ ⟨rfl, hu58_0, hu58_1⟩
    have hu58_0 : (f58_0, i58_1) = bgs (30 :: 11 :: hlL ((μ 0) (31 + 3 * p))) (f50_0, i50_1) := hu58_0
    have hu58_1 : isN i58_1 30 := hu58_1
    show V X (wM k b (va_up (va_up μ 17 f58_0) 18 (fun _ => i58_1)) ν) [(0, .ref (b 20)), (1, .int (nI p)), (2, .int x)] [.int (-(hlV ((μ 0) (31 + 3 * p)) (nI p) (x + 1) * 2))] 61
    exact hR (-(hlV ((μ 0) (31 + 3 * p)) (nI p) (x + 1) * 2)) (f58_0, i58_1) _ _ dX7_bows_61 rfl ⟨ri (by unfold boV; rw [s_6_5]; first | done | rfl), by rw [hu58_0, hu50_0]; unfold boL; rw [s_6_5]; first | done | rfl, hu58_1⟩
  by_cases s_6_6 : μ 0 (31 + 3 * p) = 6
  · refine V.tableIn (pc := 6) 62 hC dX7_bows_6 (by rw [s_6_6]; decide) (by rw [s_6_6]; decide) (by rw [s_6_6]; rfl) (by decide) ?_
    refine V.aload_n (pc := 62) 0 hC dX7_bows_62 rfl ?_
    refine V.bipush (pc := 63) 71 hC dX7_bows_63 (by decide) ?_
    refine V.callV0 (pc := 65) (as := [.int 71]) hC (c_X7_begins μ ν 71 hT) mu_X7_begins ml_X7_209 (by decide) ⟨0, 7, TX7, 20, _, rfl, gm_0⟩ rfl (Nat.le_of_ble_eq_true rfl) dX7_bows_65 ?_
    rintro _ ⟨f65_0, i65_1⟩ ⟨rfl, hu65_0, hu65_1⟩
    have hu65_0 : (f65_0, i65_1) = bgS 71 (μ 17, μ 18 0) := hu65_0
    have hu65_1 : isN i65_1 30 := hu65_1
    show V X (wM k b (va_up (va_up μ 17 f65_0) 18 (fun _ => i65_1)) ν) [(0, .ref (b 20)), (1, .int (nI p)), (2, .int x)] [] 68
    refine V.aload_n (pc := 68) 0 hC dX7_bows_68 rfl ?_
    refine V.iload_n (pc := 69) 1 hC dX7_bows_69 rfl ?_
    refine V.iload_n (pc := 70) 2 hC dX7_bows_70 rfl ?_
    refine V.callV0 (pc := 71) (as := [.int (nI p), .int x]) hC (c_X7_plainBows (va_up (va_up μ 17 f65_0) 18 (fun _ => i65_1)) ν p x hp hu65_1) mu_X7_plainBows ml_X7_221 (by decide) ⟨0, 7, TX7, 20, _, rfl, gm_0⟩ rfl (Nat.le_of_ble_eq_true rfl) dX7_bows_71 ?_
    rintro _ ⟨f71_0, i71_1⟩ ⟨rfl, hu71_0, hu71_1⟩
    have hu71_0 : (f71_0, i71_1) = bgs (11 :: hlL ((μ 0) (31 + 3 * p))) (f65_0, i65_1) := hu71_0
    have hu71_1 : isN i71_1 30 := hu71_1
    show V X (wM k b (va_up (va_up μ 17 f71_0) 18 (fun _ => i71_1)) ν) [(0, .ref (b 20)), (1, .int (nI p)), (2, .int x)] [.int (hlV ((μ 0) (31 + 3 * p)) (nI p) x * 2)] 74
    refine V.aload_n (pc := 74) 0 hC dX7_bows_74 rfl ?_
    refine V.iload_n (pc := 75) 1 hC dX7_bows_75 rfl ?_
    refine V.iconst (pc := 76) 1 hC dX7_bows_76 (by decide) ?_
    refine V.sts (st' := [.int (nI 1), .int (nI p), .ref (b 20), .int (hlV ((μ 0) (31 + 3 * p)) (nI p) x * 2)]) (stc (nl 1) (stk (stk (stk rfl)))) ?_
    refine V.callV0 (pc := 77) (as := [.int (nI p), .int (nI 1)]) hC (c_X7_of (va_up (va_up μ 17 f71_0) 18 (fun _ => i71_1)) ν p 1 hp (by omega)) mu_X7_of ml_X7_72 (by decide) ⟨0, 7, TX7, 20, _, rfl, gm_0⟩ rfl (Nat.le_of_ble_eq_true rfl) dX7_bows_77 ?_
    rintro _ _ rfl
    show V X (wM k b (va_up (va_up μ 17 f71_0) 18 (fun _ => i71_1)) ν) [(0, .ref (b 20)), (1, .int (nI p)), (2, .int x)] [.int ((μ 0) (31 + 3 * p + 1)), .int (hlV ((μ 0) (31 + 3 * p)) (nI p) x * 2)] 80
    refine V.eqi (y := (μ 0) (32 + 3 * p)) (congrArg ((μ 0)) (by omega)) ?_
    refine V.iadd (pc := 80) hC dX7_bows_80 ?_
    exact hR ((hlV ((μ 0) (31 + 3 * p)) (nI p) x * 2) + ((μ 0) (32 + 3 * p))) (f71_0, i71_1) _ _ dX7_bows_81 rfl ⟨ri (by unfold boV; rw [s_6_6]; first | done | rfl), by rw [hu71_0, hu65_0]; unfold boL; rw [s_6_6]; first | done | rfl, hu71_1⟩
  refine V.tableOut (pc := 6) 82 hC dX7_bows_6 (by have ts_6_2 : ¬ (μ 0 (31 + 3 * p)).toInt = 2 := fun q => s_6_2 (Int32.toInt_inj.mp q); have ts_6_3 : ¬ (μ 0 (31 + 3 * p)).toInt = 3 := fun q => s_6_3 (Int32.toInt_inj.mp q); have ts_6_4 : ¬ (μ 0 (31 + 3 * p)).toInt = 4 := fun q => s_6_4 (Int32.toInt_inj.mp q); have ts_6_5 : ¬ (μ 0 (31 + 3 * p)).toInt = 5 := fun q => s_6_5 (Int32.toInt_inj.mp q); have ts_6_6 : ¬ (μ 0 (31 + 3 * p)).toInt = 6 := fun q => s_6_6 (Int32.toInt_inj.mp q); omega) (by decide) ?_
  refine V.aload_n (pc := 82) 0 hC dX7_bows_82 rfl ?_
  refine V.iload_n (pc := 83) 1 hC dX7_bows_83 rfl ?_
  refine V.iload_n (pc := 84) 2 hC dX7_bows_84 rfl ?_
  refine V.callV0 (pc := 85) (as := [.int (nI p), .int x]) hC (c_X7_plainBows μ ν p x hp hT) mu_X7_plainBows ml_X7_221 (by decide) ⟨0, 7, TX7, 20, _, rfl, gm_0⟩ rfl (Nat.le_of_ble_eq_true rfl) dX7_bows_85 ?_
  rintro _ ⟨f85_0, i85_1⟩ ⟨rfl, hu85_0, hu85_1⟩
  have hu85_0 : (f85_0, i85_1) = bgs (11 :: hlL (μ 0 (31 + 3 * p))) (μ 17, μ 18 0) := hu85_0
  have hu85_1 : isN i85_1 30 := hu85_1
  show V X (wM k b (va_up (va_up μ 17 f85_0) 18 (fun _ => i85_1)) ν) [(0, .ref (b 20)), (1, .int (nI p)), (2, .int x)] [.int (hlV (μ 0 (31 + 3 * p)) (nI p) x * 2)] 88
  exact hR (hlV (μ 0 (31 + 3 * p)) (nI p) x * 2) (f85_0, i85_1) _ _ dX7_bows_88 rfl ⟨ri (by unfold boV; rw [if_neg s_6_2, if_neg s_6_5, if_neg s_6_6]), by unfold boL; rw [hu85_0, if_neg s_6_2, if_neg s_6_5, if_neg s_6_6]; first | done | rfl, hu85_1⟩
set_option maxHeartbeats 4000000 in
set_option maxRecDepth 100000 in
theorem c_X7_plainRings {l : Launch} {D : va_G} {k : Nat → ClassId} {g b : Nat → Nat} (μ ν : St) (p : Nat) (x : Int32) (hp : p < 6) (hT : isN (μ 18 0) 30) : Ct l D k g yX7_plainRings cX7_plainRings 3 (some .int) 7 153 [.ref (b 20), .int (nI p), .int x] (S := Rw × Int32) (wM k b μ ν) (fun uu => wM k b (va_up (va_up μ 17 uu.1) 18 (fun _ => uu.2)) ν) (fun vv uu => vv = some (.int (boV (μ 0 (31 + 3 * p)) (μ 0 (32 + 3 * p)) (nI p) x - (μ 0 (32 + 3 * p)))) ∧ (uu.1, uu.2) = bgs (12 :: boL (μ 0 (31 + 3 * p))) (μ 17, μ 18 0) ∧ isN uu.2 30) := by
  refine Ct.ofI RX7 rfl (by decide +kernel) (Nat.le_of_ble_eq_true rfl) (fun X hC hR => ?_)
  show V X (wM k b μ ν) [(0, .ref (b 20)), (1, .int (nI p)), (2, .int x)] [] 0
  refine V.aload_n (pc := 0) 0 hC dX7_plainRings_0 rfl ?_
  refine V.bipush (pc := 1) 12 hC dX7_plainRings_1 (by decide) ?_
  refine V.callV0 (pc := 3) (as := [.int 12]) hC (c_X7_begins μ ν 12 hT) mu_X7_begins ml_X7_209 (by decide) ⟨0, 7, TX7, 20, _, rfl, gm_0⟩ rfl (Nat.le_of_ble_eq_true rfl) dX7_plainRings_3 ?_
  rintro _ ⟨f3_0, i3_1⟩ ⟨rfl, hu3_0, hu3_1⟩
  have hu3_0 : (f3_0, i3_1) = bgS 12 (μ 17, μ 18 0) := hu3_0
  have hu3_1 : isN i3_1 30 := hu3_1
  show V X (wM k b (va_up (va_up μ 17 f3_0) 18 (fun _ => i3_1)) ν) [(0, .ref (b 20)), (1, .int (nI p)), (2, .int x)] [] 6
  refine V.aload_n (pc := 6) 0 hC dX7_plainRings_6 rfl ?_
  refine V.iload_n (pc := 7) 1 hC dX7_plainRings_7 rfl ?_
  refine V.iload_n (pc := 8) 2 hC dX7_plainRings_8 rfl ?_
  refine V.callV0 (pc := 9) (as := [.int (nI p), .int x]) hC (c_X7_bows (va_up (va_up μ 17 f3_0) 18 (fun _ => i3_1)) ν p x hp hu3_1) mu_X7_bows ml_X7_227 (by decide) ⟨0, 7, TX7, 20, _, rfl, gm_0⟩ rfl (Nat.le_of_ble_eq_true rfl) dX7_plainRings_9 ?_
  rintro _ ⟨f9_0, i9_1⟩ ⟨rfl, hu9_0, hu9_1⟩
  have hu9_0 : (f9_0, i9_1) = bgs (boL ((μ 0) (31 + 3 * p))) (f3_0, i3_1) := hu9_0
  have hu9_1 : isN i9_1 30 := hu9_1
  show V X (wM k b (va_up (va_up μ 17 f9_0) 18 (fun _ => i9_1)) ν) [(0, .ref (b 20)), (1, .int (nI p)), (2, .int x)] [.int (boV ((μ 0) (31 + 3 * p)) ((μ 0) (32 + 3 * p)) (nI p) x)] 12
  refine V.aload_n (pc := 12) 0 hC dX7_plainRings_12 rfl ?_
  refine V.iload_n (pc := 13) 1 hC dX7_plainRings_13 rfl ?_
  refine V.iconst (pc := 14) 1 hC dX7_plainRings_14 (by decide) ?_
  refine V.sts (st' := [.int (nI 1), .int (nI p), .ref (b 20), .int (boV ((μ 0) (31 + 3 * p)) ((μ 0) (32 + 3 * p)) (nI p) x)]) (stc (nl 1) (stk (stk (stk rfl)))) ?_
  refine V.callV0 (pc := 15) (as := [.int (nI p), .int (nI 1)]) hC (c_X7_of (va_up (va_up μ 17 f9_0) 18 (fun _ => i9_1)) ν p 1 hp (by omega)) mu_X7_of ml_X7_72 (by decide) ⟨0, 7, TX7, 20, _, rfl, gm_0⟩ rfl (Nat.le_of_ble_eq_true rfl) dX7_plainRings_15 ?_
  rintro _ _ rfl
  show V X (wM k b (va_up (va_up μ 17 f9_0) 18 (fun _ => i9_1)) ν) [(0, .ref (b 20)), (1, .int (nI p)), (2, .int x)] [.int ((μ 0) (31 + 3 * p + 1)), .int (boV ((μ 0) (31 + 3 * p)) ((μ 0) (32 + 3 * p)) (nI p) x)] 18
  refine V.eqi (y := (μ 0) (32 + 3 * p)) (congrArg ((μ 0)) (by omega)) ?_
  refine V.isub (pc := 18) hC dX7_plainRings_18 ?_
  exact hR ((boV ((μ 0) (31 + 3 * p)) ((μ 0) (32 + 3 * p)) (nI p) x) - ((μ 0) (32 + 3 * p))) (f9_0, i9_1) _ _ dX7_plainRings_19 rfl ⟨rfl, by rw [hu9_0, hu3_0]; rfl, hu9_1⟩
set_option maxHeartbeats 4000000 in
set_option maxRecDepth 100000 in
theorem c_X7_rings {l : Launch} {D : va_G} {k : Nat → ClassId} {g b : Nat → Nat} (μ ν : St) (p : Nat) (x : Int32) (hp : p < 6) (hT : isN (μ 18 0) 30) : Ct l D k g yX7_rings cX7_rings 3 (some .int) 8 175 [.ref (b 20), .int (nI p), .int x] (S := Rw × Int32) (wM k b μ ν) (fun uu => wM k b (va_up (va_up μ 17 uu.1) 18 (fun _ => uu.2)) ν) (fun vv uu => vv = some (.int (riV (μ 0 (31 + 3 * p)) (μ 0 (32 + 3 * p)) (nI p) x)) ∧ (uu.1, uu.2) = bgs (riL (μ 0 (31 + 3 * p))) (μ 17, μ 18 0) ∧ isN uu.2 30) := by
  refine Ct.ofI RX7 rfl (by decide +kernel) (Nat.le_of_ble_eq_true rfl) (fun X hC hR => ?_)
  show V X (wM k b μ ν) [(0, .ref (b 20)), (1, .int (nI p)), (2, .int x)] [] 0
  refine V.aload_n (pc := 0) 0 hC dX7_rings_0 rfl ?_
  refine V.iload_n (pc := 1) 1 hC dX7_rings_1 rfl ?_
  refine V.iconst (pc := 2) 0 hC dX7_rings_2 (by decide) ?_
  refine V.sts (st' := [.int (nI 0), .int (nI p), .ref (b 20)]) (stc (nl 0) (stk (stk rfl))) ?_
  refine V.callV0 (pc := 3) (as := [.int (nI p), .int (nI 0)]) hC (c_X7_of μ ν p 0 hp (by omega)) mu_X7_of ml_X7_72 (by decide) ⟨0, 7, TX7, 20, _, rfl, gm_0⟩ rfl (Nat.le_of_ble_eq_true rfl) dX7_rings_3 ?_
  rintro _ _ rfl
  show V X (wM k b μ ν) [(0, .ref (b 20)), (1, .int (nI p)), (2, .int x)] [.int (μ 0 (31 + 3 * p + 0))] 6
  refine V.eqi (y := μ 0 (31 + 3 * p)) (congrArg (μ 0) (by omega)) ?_
  by_cases s_6_3 : μ 0 (31 + 3 * p) = 3
  · refine V.lookup (pc := 6) 32 hC dX7_rings_6 (by decide) (by rw [s_6_3]; first | done | rfl) (by decide) ?_
    refine V.aload_n (pc := 32) 0 hC dX7_rings_32 rfl ?_
    refine V.bipush (pc := 33) 40 hC dX7_rings_33 (by decide) ?_
    refine V.callV0 (pc := 35) (as := [.int 40]) hC (c_X7_begins μ ν 40 hT) mu_X7_begins ml_X7_209 (by decide) ⟨0, 7, TX7, 20, _, rfl, gm_0⟩ rfl (Nat.le_of_ble_eq_true rfl) dX7_rings_35 ?_
    rintro _ ⟨f35_0, i35_1⟩ ⟨rfl, hu35_0, hu35_1⟩
    have hu35_0 : (f35_0, i35_1) = bgS 40 (μ 17, μ 18 0) := hu35_0
    have hu35_1 : isN i35_1 30 := hu35_1
    show V X (wM k b (va_up (va_up μ 17 f35_0) 18 (fun _ => i35_1)) ν) [(0, .ref (b 20)), (1, .int (nI p)), (2, .int x)] [] 38
    refine V.aload_n (pc := 38) 0 hC dX7_rings_38 rfl ?_
    refine V.iload_n (pc := 39) 1 hC dX7_rings_39 rfl ?_
    refine V.iload_n (pc := 40) 2 hC dX7_rings_40 rfl ?_
    refine V.iconst (pc := 41) 2 hC dX7_rings_41 (by decide) ?_
    refine V.idiv (pc := 42) hC dX7_rings_42 (by decide) ?_
    refine V.callV0 (pc := 43) (as := [.int (nI p), .int (x / 2)]) hC (c_X7_plainRings (va_up (va_up μ 17 f35_0) 18 (fun _ => i35_1)) ν p (x / 2) hp hu35_1) mu_X7_plainRings ml_X7_230 (by decide) ⟨0, 7, TX7, 20, _, rfl, gm_0⟩ rfl (Nat.le_of_ble_eq_true rfl) dX7_rings_43 ?_
    rintro _ ⟨f43_0, i43_1⟩ ⟨rfl, hu43_0, hu43_1⟩
    have hu43_0 : (f43_0, i43_1) = bgs (12 :: boL ((μ 0) (31 + 3 * p))) (f35_0, i35_1) := hu43_0
    have hu43_1 : isN i43_1 30 := hu43_1
    show V X (wM k b (va_up (va_up μ 17 f43_0) 18 (fun _ => i43_1)) ν) [(0, .ref (b 20)), (1, .int (nI p)), (2, .int x)] [.int (boV ((μ 0) (31 + 3 * p)) ((μ 0) (32 + 3 * p)) (nI p) (x / 2) - ((μ 0) (32 + 3 * p)))] 46
    exact hR (boV ((μ 0) (31 + 3 * p)) ((μ 0) (32 + 3 * p)) (nI p) (x / 2) - ((μ 0) (32 + 3 * p))) (f43_0, i43_1) _ _ dX7_rings_46 rfl ⟨ri (by unfold riV; rw [s_6_3]; first | done | rfl), by rw [hu43_0, hu35_0]; unfold riL; rw [s_6_3]; first | done | rfl, hu43_1⟩
  by_cases s_6_4 : μ 0 (31 + 3 * p) = 4
  · refine V.lookup (pc := 6) 47 hC dX7_rings_6 (by decide) (by rw [s_6_4]; first | done | rfl) (by decide) ?_
    refine V.aload_n (pc := 47) 0 hC dX7_rings_47 rfl ?_
    refine V.bipush (pc := 48) 51 hC dX7_rings_48 (by decide) ?_
    refine V.callV0 (pc := 50) (as := [.int 51]) hC (c_X7_begins μ ν 51 hT) mu_X7_begins ml_X7_209 (by decide) ⟨0, 7, TX7, 20, _, rfl, gm_0⟩ rfl (Nat.le_of_ble_eq_true rfl) dX7_rings_50 ?_
    rintro _ ⟨f50_0, i50_1⟩ ⟨rfl, hu50_0, hu50_1⟩
    have hu50_0 : (f50_0, i50_1) = bgS 51 (μ 17, μ 18 0) := hu50_0
    have hu50_1 : isN i50_1 30 := hu50_1
    show V X (wM k b (va_up (va_up μ 17 f50_0) 18 (fun _ => i50_1)) ν) [(0, .ref (b 20)), (1, .int (nI p)), (2, .int x)] [] 53
    refine V.aload_n (pc := 53) 0 hC dX7_rings_53 rfl ?_
    refine V.iload_n (pc := 54) 1 hC dX7_rings_54 rfl ?_
    refine V.iload_n (pc := 55) 2 hC dX7_rings_55 rfl ?_
    refine V.callV0 (pc := 56) (as := [.int (nI p), .int x]) hC (c_X7_plainRings (va_up (va_up μ 17 f50_0) 18 (fun _ => i50_1)) ν p x hp hu50_1) mu_X7_plainRings ml_X7_230 (by decide) ⟨0, 7, TX7, 20, _, rfl, gm_0⟩ rfl (Nat.le_of_ble_eq_true rfl) dX7_rings_56 ?_
    rintro _ ⟨f56_0, i56_1⟩ ⟨rfl, hu56_0, hu56_1⟩
    have hu56_0 : (f56_0, i56_1) = bgs (12 :: boL ((μ 0) (31 + 3 * p))) (f50_0, i50_1) := hu56_0
    have hu56_1 : isN i56_1 30 := hu56_1
    show V X (wM k b (va_up (va_up μ 17 f56_0) 18 (fun _ => i56_1)) ν) [(0, .ref (b 20)), (1, .int (nI p)), (2, .int x)] [.int (boV ((μ 0) (31 + 3 * p)) ((μ 0) (32 + 3 * p)) (nI p) x - ((μ 0) (32 + 3 * p)))] 59
    refine V.iload_n (pc := 59) 1 hC dX7_rings_59 rfl ?_
    refine V.ixor (pc := 60) hC dX7_rings_60 ?_
    exact hR ((boV ((μ 0) (31 + 3 * p)) ((μ 0) (32 + 3 * p)) (nI p) x - ((μ 0) (32 + 3 * p))) ^^^ (nI p)) (f56_0, i56_1) _ _ dX7_rings_61 rfl ⟨ri (by unfold riV; rw [s_6_4]; first | done | rfl), by rw [hu56_0, hu50_0]; unfold riL; rw [s_6_4]; first | done | rfl, hu56_1⟩
  refine V.lookup (pc := 6) 62 hC dX7_rings_6 (by decide) ((lv_osw s_6_3 rfl).trans ((lv_osw s_6_4 rfl).trans rfl)) rfl ?_
  refine V.aload_n (pc := 62) 0 hC dX7_rings_62 rfl ?_
  refine V.iload_n (pc := 63) 1 hC dX7_rings_63 rfl ?_
  refine V.iload_n (pc := 64) 2 hC dX7_rings_64 rfl ?_
  refine V.callV0 (pc := 65) (as := [.int (nI p), .int x]) hC (c_X7_plainRings μ ν p x hp hT) mu_X7_plainRings ml_X7_230 (by decide) ⟨0, 7, TX7, 20, _, rfl, gm_0⟩ rfl (Nat.le_of_ble_eq_true rfl) dX7_rings_65 ?_
  rintro _ ⟨f65_0, i65_1⟩ ⟨rfl, hu65_0, hu65_1⟩
  have hu65_0 : (f65_0, i65_1) = bgs (12 :: boL (μ 0 (31 + 3 * p))) (μ 17, μ 18 0) := hu65_0
  have hu65_1 : isN i65_1 30 := hu65_1
  show V X (wM k b (va_up (va_up μ 17 f65_0) 18 (fun _ => i65_1)) ν) [(0, .ref (b 20)), (1, .int (nI p)), (2, .int x)] [.int (boV (μ 0 (31 + 3 * p)) (μ 0 (32 + 3 * p)) (nI p) x - (μ 0 (32 + 3 * p)))] 68
  exact hR (boV (μ 0 (31 + 3 * p)) (μ 0 (32 + 3 * p)) (nI p) x - (μ 0 (32 + 3 * p))) (f65_0, i65_1) _ _ dX7_rings_68 rfl ⟨ri (by unfold riV; rw [if_neg s_6_3, if_neg s_6_4]), by unfold riL; rw [hu65_0, if_neg s_6_3, if_neg s_6_4]; first | done | rfl, hu65_1⟩
set_option maxHeartbeats 4000000 in
set_option maxRecDepth 100000 in
theorem c_X7_plainParts {l : Launch} {D : va_G} {k : Nat → ClassId} {g b : Nat → Nat} (μ ν : St) (p : Nat) (x : Int32) (hp : p < 6) (hT : isN (μ 18 0) 30) : Ct l D k g yX7_plainParts cX7_plainParts 4 (some .int) 1 22 [.ref (b 20), .int (nI p), .int x] (S := Rw × Int32 × Int32) (wM k b μ ν) (fun uu => wM k b (va_up (va_up μ 17 uu.1) 18 (fun _ => uu.2.1)) (va_up ν 19 (fun _ => uu.2.2))) (fun vv uu => vv = some (.int (if (μ 0 (32 + 3 * p)) - nI p = 0 then 0 else x / ((μ 0 (32 + 3 * p)) - nI p))) ∧ (uu.1, uu.2.1) = bgs [13] (μ 17, μ 18 0) ∧ isN uu.2.1 30 ∧ uu.2.2 = bI ((μ 0 (32 + 3 * p)) - nI p = 0)) := by
  refine Ct.ofI RX7 rfl (by decide +kernel) (Nat.le_of_ble_eq_true rfl) (fun X hC hR => ?_)
  show V X (wM k b μ ν) [(0, .ref (b 20)), (1, .int (nI p)), (2, .int x)] [] 0
  refine V.aload_n (pc := 0) 0 hC dX7_plainParts_0 rfl ?_
  refine V.bipush (pc := 1) 13 hC dX7_plainParts_1 (by decide) ?_
  refine V.callV0 (pc := 3) (as := [.int 13]) hC (c_X7_begins μ ν 13 hT) mu_X7_begins ml_X7_209 (by decide) ⟨0, 7, TX7, 20, _, rfl, gm_0⟩ rfl (Nat.le_of_ble_eq_true rfl) dX7_plainParts_3 ?_
  rintro _ ⟨f3_0, i3_1⟩ ⟨rfl, hu3_0, hu3_1⟩
  have hu3_0 : (f3_0, i3_1) = bgS 13 (μ 17, μ 18 0) := hu3_0
  have hu3_1 : isN i3_1 30 := hu3_1
  show V X (wM k b (va_up (va_up μ 17 f3_0) 18 (fun _ => i3_1)) ν) [(0, .ref (b 20)), (1, .int (nI p)), (2, .int x)] [] 6
  refine V.aload_n (pc := 6) 0 hC dX7_plainParts_6 rfl ?_
  refine V.iload_n (pc := 7) 1 hC dX7_plainParts_7 rfl ?_
  refine V.iconst (pc := 8) 1 hC dX7_plainParts_8 (by decide) ?_
  refine V.sts (st' := [.int (nI 1), .int (nI p), .ref (b 20)]) (stc (nl 1) (stk (stk rfl))) ?_
  refine V.callV0 (pc := 9) (as := [.int (nI p), .int (nI 1)]) hC (c_X7_of (va_up (va_up μ 17 f3_0) 18 (fun _ => i3_1)) ν p 1 hp (by omega)) mu_X7_of ml_X7_72 (by decide) ⟨0, 7, TX7, 20, _, rfl, gm_0⟩ rfl (Nat.le_of_ble_eq_true rfl) dX7_plainParts_9 ?_
  rintro _ _ rfl
  show V X (wM k b (va_up (va_up μ 17 f3_0) 18 (fun _ => i3_1)) ν) [(0, .ref (b 20)), (1, .int (nI p)), (2, .int x)] [.int ((μ 0) (31 + 3 * p + 1))] 12
  refine V.eqi (y := (μ 0) (32 + 3 * p)) (congrArg ((μ 0)) (by omega)) ?_
  refine V.iload_n (pc := 12) 1 hC dX7_plainParts_12 rfl ?_
  refine V.isub (pc := 13) hC dX7_plainParts_13 ?_
  refine V.istore_n (pc := 14) [(3, .int (((μ 0) (32 + 3 * p)) - (nI p))), (0, .ref (b 20)), (1, .int (nI p)), (2, .int x)] hC dX7_plainParts_14 (by decide) rfl ?_
  refine V.aload_n (pc := 15) 1 hC dX7_plainParts_15 rfl ?_
  refine V.iload_n (pc := 16) 0 hC dX7_plainParts_16 rfl ?_
  refine V.if_ne (pc := 17) 24 hC dX7_plainParts_17 (by decide) (fun c_17 => ?_) (fun c_17 => ?_)
  · refine V.iconst (pc := 24) 0 hC dX7_plainParts_24 (by decide) ?_
    refine V.put (pc := 25) (v := .int 0) hC cf_X7 0 19 (wM k b (va_up (va_up μ 17 f3_0) 18 (fun _ => i3_1)) (va_up ν 19 (fun _ => 0))) fl_X7_233 (by decide) gm_0 rfl rfl rfl (Nat.le_of_ble_eq_true rfl) rfl dX7_plainParts_25 ?_
    refine V.aload_n (pc := 28) 1 hC dX7_plainParts_28 rfl ?_
    refine V.get (pc := 29) (v := .int 0) hC cf_X7 0 19 fl_X7_233 (by decide) gm_0 rfl dX7_plainParts_29 ?_
    refine V.if_eq (pc := 32) 39 hC dX7_plainParts_32 (by decide) (fun c_32 => ?_) (fun c_32 => ?_)
    · refine V.iload_n (pc := 39) 3 hC dX7_plainParts_39 rfl ?_
      refine V.iload_n (pc := 40) 0 hC dX7_plainParts_40 rfl ?_
      refine V.idiv (pc := 41) hC dX7_plainParts_41 c_17 ?_
      exact hR (x / (((μ 0) (32 + 3 * p)) - (nI p))) (f3_0, i3_1, 0) _ _ dX7_plainParts_42 rfl ⟨by rw [if_neg c_17], hu3_0, hu3_1, (bI_f c_17).symm⟩
    · exact absurd c_32 (by decide)
  · refine V.iconst (pc := 20) 1 hC dX7_plainParts_20 (by decide) ?_
    refine V.goto (pc := 21) 25 hC dX7_plainParts_21 (by decide) ?_
    refine V.put (pc := 25) (v := .int 1) hC cf_X7 0 19 (wM k b (va_up (va_up μ 17 f3_0) 18 (fun _ => i3_1)) (va_up ν 19 (fun _ => 1))) fl_X7_233 (by decide) gm_0 rfl rfl rfl (Nat.le_of_ble_eq_true rfl) rfl dX7_plainParts_25 ?_
    refine V.aload_n (pc := 28) 1 hC dX7_plainParts_28 rfl ?_
    refine V.get (pc := 29) (v := .int 1) hC cf_X7 0 19 fl_X7_233 (by decide) gm_0 rfl dX7_plainParts_29 ?_
    refine V.if_eq (pc := 32) 39 hC dX7_plainParts_32 (by decide) (fun c_32 => ?_) (fun c_32 => ?_)
    · exact absurd c_32 (by decide)
    · refine V.iconst (pc := 35) 0 hC dX7_plainParts_35 (by decide) ?_
      refine V.goto (pc := 36) 42 hC dX7_plainParts_36 (by decide) ?_
      exact hR 0 (f3_0, i3_1, 1) _ _ dX7_plainParts_42 rfl ⟨by rw [if_pos c_17], hu3_0, hu3_1, (bI_t c_17).symm⟩
set_option maxHeartbeats 4000000 in
set_option maxRecDepth 100000 in
theorem c_X7_parts {l : Launch} {D : va_G} {k : Nat → ClassId} {g b : Nat → Nat} (μ ν : St) (p : Nat) (x : Int32) (hp : p < 6) (hT : isN (μ 18 0) 30) : Ct l D k g yX7_parts cX7_parts 4 (some .int) 7 153 [.ref (b 20), .int (nI p), .int x] (S := Rw × Int32 × Int32) (wM k b μ ν) (fun uu => wM k b (va_up (va_up μ 17 uu.1) 18 (fun _ => uu.2.1)) (va_up ν 19 (fun _ => uu.2.2))) (fun vv uu => vv = some (.int (paV (μ 0 (31 + 3 * p)) (μ 0 (32 + 3 * p)) (nI p) x)) ∧ (uu.1, uu.2.1) = bgs (paL (μ 0 (31 + 3 * p)) (μ 0 (32 + 3 * p)) (nI p)) (μ 17, μ 18 0) ∧ isN uu.2.1 30 ∧ uu.2.2 = bI ((μ 0 (32 + 3 * p)) - nI p = 0)) := by
  refine Ct.ofI RX7 rfl (by decide +kernel) (Nat.le_of_ble_eq_true rfl) (fun X hC hR => ?_)
  show V X (wM k b μ ν) [(0, .ref (b 20)), (1, .int (nI p)), (2, .int x)] [] 0
  refine V.aload_n (pc := 0) 0 hC dX7_parts_0 rfl ?_
  refine V.iload_n (pc := 1) 1 hC dX7_parts_1 rfl ?_
  refine V.iconst (pc := 2) 0 hC dX7_parts_2 (by decide) ?_
  refine V.sts (st' := [.int (nI 0), .int (nI p), .ref (b 20)]) (stc (nl 0) (stk (stk rfl))) ?_
  refine V.callV0 (pc := 3) (as := [.int (nI p), .int (nI 0)]) hC (c_X7_of μ ν p 0 hp (by omega)) mu_X7_of ml_X7_72 (by decide) ⟨0, 7, TX7, 20, _, rfl, gm_0⟩ rfl (Nat.le_of_ble_eq_true rfl) dX7_parts_3 ?_
  rintro _ _ rfl
  show V X (wM k b μ ν) [(0, .ref (b 20)), (1, .int (nI p)), (2, .int x)] [.int (μ 0 (31 + 3 * p + 0))] 6
  refine V.eqi (y := μ 0 (31 + 3 * p)) (congrArg (μ 0) (by omega)) ?_
  refine V.iconst (pc := 6) 1 hC dX7_parts_6 (by decide) ?_
  refine V.icmp_eq (pc := 7) 20 hC dX7_parts_7 (by decide) (fun c_7 => ?_) (fun c_7 => ?_)
  · refine V.aload_n (pc := 20) 0 hC dX7_parts_20 rfl ?_
    refine V.bipush (pc := 21) 21 hC dX7_parts_21 (by decide) ?_
    refine V.callV0 (pc := 23) (as := [.int 21]) hC (c_X7_begins μ ν 21 hT) mu_X7_begins ml_X7_209 (by decide) ⟨0, 7, TX7, 20, _, rfl, gm_0⟩ rfl (Nat.le_of_ble_eq_true rfl) dX7_parts_23 ?_
    rintro _ ⟨f23_0, i23_1⟩ ⟨rfl, hu23_0, hu23_1⟩
    replace hu23_0 : (f23_0, i23_1) = bgS 21 (μ 17, μ 18 0) := hu23_0
    replace hu23_1 : isN i23_1 30 := hu23_1
    show V X (wM k b (va_up (va_up μ 17 f23_0) 18 (fun _ => i23_1)) ν) [(0, .ref (b 20)), (1, .int (nI p)), (2, .int x)] [] 26
    refine V.aload_n (pc := 26) 0 hC dX7_parts_26 rfl ?_
    refine V.iload_n (pc := 27) 1 hC dX7_parts_27 rfl ?_
    refine V.iload_n (pc := 28) 2 hC dX7_parts_28 rfl ?_
    refine V.callV0 (pc := 29) (as := [.int (nI p), .int x]) hC (c_X7_plainParts (va_up (va_up μ 17 f23_0) 18 (fun _ => i23_1)) ν p x hp hu23_1) mu_X7_plainParts ml_X7_236 (by decide) ⟨0, 7, TX7, 20, _, rfl, gm_0⟩ rfl (Nat.le_of_ble_eq_true rfl) dX7_parts_29 ?_
    rintro _ ⟨f29_0, i29_1, i29_2⟩ ⟨rfl, hu29_0, hu29_1, hu29_2⟩
    replace hu29_0 : (f29_0, i29_1) = bgs [13] (f23_0, i23_1) := hu29_0
    replace hu29_1 : isN i29_1 30 := hu29_1
    replace hu29_2 : i29_2 = bI (((μ 0) (32 + 3 * p)) - nI p = 0) := hu29_2
    show V X (wM k b (va_up (va_up μ 17 f29_0) 18 (fun _ => i29_1)) (va_up ν 19 (fun _ => i29_2))) [(0, .ref (b 20)), (1, .int (nI p)), (2, .int x)] [.int (if ((μ 0) (32 + 3 * p)) - nI p = 0 then 0 else x / (((μ 0) (32 + 3 * p)) - nI p))] 32
    by_cases sP : (μ 0 (32 + 3 * p)) - nI p = 0
    · obtain rfl : i29_2 = 1 := hu29_2.trans (bI_t sP)
      refine V.eqi (y := 0) (if_pos sP) ?_
      refine V.istore_n (pc := 32) [(3, .int 0), (0, .ref (b 20)), (1, .int (nI p)), (2, .int x)] hC dX7_parts_32 (by decide) rfl ?_
      refine V.aload_n (pc := 33) 1 hC dX7_parts_33 rfl ?_
      refine V.get (pc := 34) (v := .int 1) hC cf_X7 0 19 fl_X7_233 (by decide) gm_0 rfl dX7_parts_34 ?_
      refine V.if_eq (pc := 37) 44 hC dX7_parts_37 (by decide) (fun c_37 => ?_) (fun c_37 => ?_)
      · exact absurd c_37 (by decide)
      · refine V.iconst (pc := 40) 0 hC dX7_parts_40 (by decide) ?_
        refine V.goto (pc := 41) 52 hC dX7_parts_41 (by decide) ?_
        exact hR 0 (f29_0, i29_1, 1) _ _ dX7_parts_52 rfl ⟨by rw [paV, if_pos sP], by rw [hu29_0, hu23_0, paL, if_pos (Or.inl c_7), if_pos sP]; rfl, hu29_1, (bI_t sP).symm⟩
    · obtain rfl : i29_2 = 0 := hu29_2.trans (bI_f sP)
      refine V.eqi (y := x / ((μ 0 (32 + 3 * p)) - nI p)) (if_neg sP) ?_
      refine V.istore_n (pc := 32) [(3, .int (x / ((μ 0 (32 + 3 * p)) - nI p))), (0, .ref (b 20)), (1, .int (nI p)), (2, .int x)] hC dX7_parts_32 (by decide) rfl ?_
      refine V.aload_n (pc := 33) 1 hC dX7_parts_33 rfl ?_
      refine V.get (pc := 34) (v := .int 0) hC cf_X7 0 19 fl_X7_233 (by decide) gm_0 rfl dX7_parts_34 ?_
      refine V.if_eq (pc := 37) 44 hC dX7_parts_37 (by decide) (fun c_37 => ?_) (fun c_37 => ?_)
      · refine V.iload_n (pc := 44) 0 hC dX7_parts_44 rfl ?_
        refine V.aload_n (pc := 45) 1 hC dX7_parts_45 rfl ?_
        refine V.iload_n (pc := 46) 2 hC dX7_parts_46 rfl ?_
        refine V.iconst (pc := 47) 1 hC dX7_parts_47 (by decide) ?_
        refine V.callV0 (pc := 48) (as := [.int (nI p), .int 1]) hC (c_X7_bows (va_up (va_up μ 17 f29_0) 18 (fun _ => i29_1)) (va_up ν 19 (fun _ => 0)) p 1 hp hu29_1) mu_X7_bows ml_X7_227 (by decide) ⟨0, 7, TX7, 20, _, rfl, gm_0⟩ rfl (Nat.le_of_ble_eq_true rfl) dX7_parts_48 ?_
        rintro _ ⟨f48_0, i48_1⟩ ⟨rfl, hu48_0, hu48_1⟩
        replace hu48_0 : (f48_0, i48_1) = bgs (boL ((μ 0) (31 + 3 * p))) (f29_0, i29_1) := hu48_0
        replace hu48_1 : isN i48_1 30 := hu48_1
        show V X (wM k b (va_up (va_up μ 17 f48_0) 18 (fun _ => i48_1)) (va_up ν 19 (fun _ => 0))) [(3, .int (x / ((μ 0 (32 + 3 * p)) - nI p))), (0, .ref (b 20)), (1, .int (nI p)), (2, .int x)] [.int (boV ((μ 0) (31 + 3 * p)) ((μ 0) (32 + 3 * p)) (nI p) 1), .int (x / ((μ 0 (32 + 3 * p)) - nI p))] 51
        refine V.iadd (pc := 51) hC dX7_parts_51 ?_
        exact hR ((x / ((μ 0 (32 + 3 * p)) - nI p)) + (boV ((μ 0) (31 + 3 * p)) ((μ 0) (32 + 3 * p)) (nI p) 1)) (f48_0, i48_1, 0) _ _ dX7_parts_52 rfl ⟨by rw [paV, if_neg sP, if_pos (Or.inl c_7)], by rw [hu48_0, hu29_0, hu23_0, paL, if_pos (Or.inl c_7), if_neg sP]; rfl, hu48_1, (bI_f sP).symm⟩
      · exact absurd c_37 (by decide)
  · refine V.aload_n (pc := 10) 0 hC dX7_parts_10 rfl ?_
    refine V.iload_n (pc := 11) 1 hC dX7_parts_11 rfl ?_
    refine V.iconst (pc := 12) 0 hC dX7_parts_12 (by decide) ?_
    refine V.sts (st' := [.int (nI 0), .int (nI p), .ref (b 20)]) (stc (nl 0) (stk (stk rfl))) ?_
    refine V.callV0 (pc := 13) (as := [.int (nI p), .int (nI 0)]) hC (c_X7_of μ ν p 0 hp (by omega)) mu_X7_of ml_X7_72 (by decide) ⟨0, 7, TX7, 20, _, rfl, gm_0⟩ rfl (Nat.le_of_ble_eq_true rfl) dX7_parts_13 ?_
    rintro _ _ rfl
    show V X (wM k b μ ν) [(0, .ref (b 20)), (1, .int (nI p)), (2, .int x)] [.int (μ 0 (31 + 3 * p + 0))] 16
    refine V.eqi (y := μ 0 (31 + 3 * p)) (congrArg (μ 0) (by omega)) ?_
    refine V.iconst (pc := 16) 4 hC dX7_parts_16 (by decide) ?_
    refine V.icmp_ne (pc := 17) 53 hC dX7_parts_17 (by decide) (fun c_17 => ?_) (fun c_17 => ?_)
    · refine V.aload_n (pc := 53) 0 hC dX7_parts_53 rfl ?_
      refine V.iload_n (pc := 54) 1 hC dX7_parts_54 rfl ?_
      refine V.iload_n (pc := 55) 2 hC dX7_parts_55 rfl ?_
      refine V.callV0 (pc := 56) (as := [.int (nI p), .int x]) hC (c_X7_plainParts μ ν p x hp hT) mu_X7_plainParts ml_X7_236 (by decide) ⟨0, 7, TX7, 20, _, rfl, gm_0⟩ rfl (Nat.le_of_ble_eq_true rfl) dX7_parts_56 ?_
      rintro _ ⟨f56_0, i56_1, i56_2⟩ ⟨rfl, hu56_0, hu56_1, hu56_2⟩
      replace hu56_0 : (f56_0, i56_1) = bgs [13] (μ 17, μ 18 0) := hu56_0
      replace hu56_1 : isN i56_1 30 := hu56_1
      replace hu56_2 : i56_2 = bI ((μ 0 (32 + 3 * p)) - nI p = 0) := hu56_2
      show V X (wM k b (va_up (va_up μ 17 f56_0) 18 (fun _ => i56_1)) (va_up ν 19 (fun _ => i56_2))) [(0, .ref (b 20)), (1, .int (nI p)), (2, .int x)] [.int (if (μ 0 (32 + 3 * p)) - nI p = 0 then 0 else x / ((μ 0 (32 + 3 * p)) - nI p))] 59
      exact hR (if (μ 0 (32 + 3 * p)) - nI p = 0 then 0 else x / ((μ 0 (32 + 3 * p)) - nI p)) (f56_0, i56_1, i56_2) _ _ dX7_parts_59 rfl ⟨by rw [paV, if_neg (c := (μ 0 (31 + 3 * p)) = 1 ∨ (μ 0 (31 + 3 * p)) = 4) (fun q => q.elim c_7 c_17)], by rw [hu56_0, paL, if_neg (c := (μ 0 (31 + 3 * p)) = 1 ∨ (μ 0 (31 + 3 * p)) = 4) (fun q => q.elim c_7 c_17)], hu56_1, hu56_2⟩
    · refine V.aload_n (pc := 20) 0 hC dX7_parts_20 rfl ?_
      refine V.bipush (pc := 21) 21 hC dX7_parts_21 (by decide) ?_
      refine V.callV0 (pc := 23) (as := [.int 21]) hC (c_X7_begins μ ν 21 hT) mu_X7_begins ml_X7_209 (by decide) ⟨0, 7, TX7, 20, _, rfl, gm_0⟩ rfl (Nat.le_of_ble_eq_true rfl) dX7_parts_23 ?_
      rintro _ ⟨f23_0, i23_1⟩ ⟨rfl, hu23_0, hu23_1⟩
      replace hu23_0 : (f23_0, i23_1) = bgS 21 (μ 17, μ 18 0) := hu23_0
      replace hu23_1 : isN i23_1 30 := hu23_1
      show V X (wM k b (va_up (va_up μ 17 f23_0) 18 (fun _ => i23_1)) ν) [(0, .ref (b 20)), (1, .int (nI p)), (2, .int x)] [] 26
      refine V.aload_n (pc := 26) 0 hC dX7_parts_26 rfl ?_
      refine V.iload_n (pc := 27) 1 hC dX7_parts_27 rfl ?_
      refine V.iload_n (pc := 28) 2 hC dX7_parts_28 rfl ?_
      refine V.callV0 (pc := 29) (as := [.int (nI p), .int x]) hC (c_X7_plainParts (va_up (va_up μ 17 f23_0) 18 (fun _ => i23_1)) ν p x hp hu23_1) mu_X7_plainParts ml_X7_236 (by decide) ⟨0, 7, TX7, 20, _, rfl, gm_0⟩ rfl (Nat.le_of_ble_eq_true rfl) dX7_parts_29 ?_
      rintro _ ⟨f29_0, i29_1, i29_2⟩ ⟨rfl, hu29_0, hu29_1, hu29_2⟩
      replace hu29_0 : (f29_0, i29_1) = bgs [13] (f23_0, i23_1) := hu29_0
      replace hu29_1 : isN i29_1 30 := hu29_1
      replace hu29_2 : i29_2 = bI (((μ 0) (32 + 3 * p)) - nI p = 0) := hu29_2
      show V X (wM k b (va_up (va_up μ 17 f29_0) 18 (fun _ => i29_1)) (va_up ν 19 (fun _ => i29_2))) [(0, .ref (b 20)), (1, .int (nI p)), (2, .int x)] [.int (if ((μ 0) (32 + 3 * p)) - nI p = 0 then 0 else x / (((μ 0) (32 + 3 * p)) - nI p))] 32
      by_cases sP : (μ 0 (32 + 3 * p)) - nI p = 0
      · obtain rfl : i29_2 = 1 := hu29_2.trans (bI_t sP)
        refine V.eqi (y := 0) (if_pos sP) ?_
        refine V.istore_n (pc := 32) [(3, .int 0), (0, .ref (b 20)), (1, .int (nI p)), (2, .int x)] hC dX7_parts_32 (by decide) rfl ?_
        refine V.aload_n (pc := 33) 1 hC dX7_parts_33 rfl ?_
        refine V.get (pc := 34) (v := .int 1) hC cf_X7 0 19 fl_X7_233 (by decide) gm_0 rfl dX7_parts_34 ?_
        refine V.if_eq (pc := 37) 44 hC dX7_parts_37 (by decide) (fun c_37 => ?_) (fun c_37 => ?_)
        · exact absurd c_37 (by decide)
        · refine V.iconst (pc := 40) 0 hC dX7_parts_40 (by decide) ?_
          refine V.goto (pc := 41) 52 hC dX7_parts_41 (by decide) ?_
          exact hR 0 (f29_0, i29_1, 1) _ _ dX7_parts_52 rfl ⟨by rw [paV, if_pos sP], by rw [hu29_0, hu23_0, paL, if_pos (Or.inr c_17), if_pos sP]; rfl, hu29_1, (bI_t sP).symm⟩
      · obtain rfl : i29_2 = 0 := hu29_2.trans (bI_f sP)
        refine V.eqi (y := x / ((μ 0 (32 + 3 * p)) - nI p)) (if_neg sP) ?_
        refine V.istore_n (pc := 32) [(3, .int (x / ((μ 0 (32 + 3 * p)) - nI p))), (0, .ref (b 20)), (1, .int (nI p)), (2, .int x)] hC dX7_parts_32 (by decide) rfl ?_
        refine V.aload_n (pc := 33) 1 hC dX7_parts_33 rfl ?_
        refine V.get (pc := 34) (v := .int 0) hC cf_X7 0 19 fl_X7_233 (by decide) gm_0 rfl dX7_parts_34 ?_
        refine V.if_eq (pc := 37) 44 hC dX7_parts_37 (by decide) (fun c_37 => ?_) (fun c_37 => ?_)
        · refine V.iload_n (pc := 44) 0 hC dX7_parts_44 rfl ?_
          refine V.aload_n (pc := 45) 1 hC dX7_parts_45 rfl ?_
          refine V.iload_n (pc := 46) 2 hC dX7_parts_46 rfl ?_
          refine V.iconst (pc := 47) 1 hC dX7_parts_47 (by decide) ?_
          refine V.callV0 (pc := 48) (as := [.int (nI p), .int 1]) hC (c_X7_bows (va_up (va_up μ 17 f29_0) 18 (fun _ => i29_1)) (va_up ν 19 (fun _ => 0)) p 1 hp hu29_1) mu_X7_bows ml_X7_227 (by decide) ⟨0, 7, TX7, 20, _, rfl, gm_0⟩ rfl (Nat.le_of_ble_eq_true rfl) dX7_parts_48 ?_
          rintro _ ⟨f48_0, i48_1⟩ ⟨rfl, hu48_0, hu48_1⟩
          replace hu48_0 : (f48_0, i48_1) = bgs (boL ((μ 0) (31 + 3 * p))) (f29_0, i29_1) := hu48_0
          replace hu48_1 : isN i48_1 30 := hu48_1
          show V X (wM k b (va_up (va_up μ 17 f48_0) 18 (fun _ => i48_1)) (va_up ν 19 (fun _ => 0))) [(3, .int (x / ((μ 0 (32 + 3 * p)) - nI p))), (0, .ref (b 20)), (1, .int (nI p)), (2, .int x)] [.int (boV ((μ 0) (31 + 3 * p)) ((μ 0) (32 + 3 * p)) (nI p) 1), .int (x / ((μ 0 (32 + 3 * p)) - nI p))] 51
          refine V.iadd (pc := 51) hC dX7_parts_51 ?_
          exact hR ((x / ((μ 0 (32 + 3 * p)) - nI p)) + (boV ((μ 0) (31 + 3 * p)) ((μ 0) (32 + 3 * p)) (nI p) 1)) (f48_0, i48_1, 0) _ _ dX7_parts_52 rfl ⟨by rw [paV, if_neg sP, if_pos (Or.inr c_17)], by rw [hu48_0, hu29_0, hu23_0, paL, if_pos (Or.inr c_17), if_neg sP]; rfl, hu48_1, (bI_f sP).symm⟩
        · exact absurd c_37 (by decide)
set_option maxHeartbeats 4000000 in
set_option maxRecDepth 100000 in
theorem c_X7_voice {l : Launch} {D : va_G} {k : Nat → ClassId} {g b : Nat → Nat} (μ ν : St) (p v x : Int32) (hI : Inv (μ 0)) : Ct l D k g yX7_voice cX7_voice 5 (some .int) 9 197 [.ref (b 20), .int p, .int v, .int x] (S := St × Int32) (wM k b μ ν) (fun uu => wM k b uu.1 (va_up ν 19 (fun _ => uu.2))) (fun vv uu => vv = some (.int ((op_voice p v x μ).1)) ∧ uu.1 = (op_voice p v x μ).2) := by
  refine Ct.ofI RX7 rfl (by decide +kernel) (Nat.le_of_ble_eq_true rfl) (fun X hC hR => ?_)
  have hb4 := hI.hb; have hb8 := hI.mb; have hb6 := hI.pb; have hbm := hI.ob0; have hbt := hI.bb; have hbw := hI.wb
  show V X (wM k b μ ν) [(0, .ref (b 20)), (1, .int p), (2, .int v), (3, .int x)] [] 0
  refine V.aload_n (pc := 0) 0 hC dX7_voice_0 rfl ?_
  refine V.iload_n (pc := 1) 1 hC dX7_voice_1 rfl ?_
  refine V.callV0 (pc := 2) (as := [.int p]) hC (c_X7_isPerson μ ν p ) mu_X7_isPerson ml_X7_104 (by decide) ⟨0, 7, TX7, 20, _, rfl, gm_0⟩ rfl (Nat.le_of_ble_eq_true rfl) dX7_voice_2 ?_
  rintro _ _ rfl
  show V X (wM k b μ ν) [(0, .ref (b 20)), (1, .int p), (2, .int v), (3, .int x)] [.int (bI (inS p 0 (μ 0 4 - 1)))] 5
  refine V.if_eq_b (P := inS p 0 (μ 0 4 - 1)) (pc := 5) 17 hC dX7_voice_5 (by decide) (fun c_5 => ?_) (fun c_5 => ?_)
  · refine V.aload_n (pc := 17) 0 hC dX7_voice_17 rfl ?_
    refine V.ldc (pc := 18) (v := (-1000000001)) hC cn_X7_55 dX7_voice_18 ?_
    refine V.callV0 (pc := 20) (as := [.int (-1000000001)]) hC (c_X7_error μ ν 1 (-1000000001) (by omega) (by decide)) mu_X7_error ml_X7_56 (by decide) ⟨0, 7, TX7, 20, _, rfl, gm_0⟩ rfl (Nat.le_of_ble_eq_true rfl) dX7_voice_20 ?_
    rintro _ _ rfl
    show V X (wM k b (va_up μ 3 (upd (μ 3) 1 (μ 3 1 + 1))) ν) [(0, .ref (b 20)), (1, .int p), (2, .int v), (3, .int x)] [.int (-1000000001)] 23
    exact hR (-1000000001) ((va_up μ 3 (upd (μ 3) 1 (μ 3 1 + 1))), ν 19 0) _ _ dX7_voice_23 rfl (opr (by simp only [op_voice, c_5, inS, hndS, homS, prsS, shtS, if_true, if_false, not_true_eq_false, not_false_eq_true, true_and, and_true, false_and, and_false, true_or, or_true, or_false, false_or, er_1, er_2, er_3, er_4, er_5, er_6] <;> rfl))
  · refine V.iload_n (pc := 8) 2 hC dX7_voice_8 rfl ?_
    refine V.iconst (pc := 9) 0 hC dX7_voice_9 (by decide) ?_
    refine V.iconst (pc := 10) 3 hC dX7_voice_10 (by decide) ?_
    refine V.callS0 (pc := 11) (as := [.int v, .int 0, .int 3]) hC (c_X7_in v 0 3 ) ms_X7_in ml_X7_47 (by decide) rfl (Nat.le_of_ble_eq_true rfl) dX7_voice_11 ?_
    rintro _ _ rfl
    show V X (wM k b μ ν) [(0, .ref (b 20)), (1, .int p), (2, .int v), (3, .int x)] [.int (bI (inS v 0 3))] 14
    refine V.if_ne_b (P := inS v 0 3) (pc := 14) 24 hC dX7_voice_14 (by decide) (fun c_14 => ?_) (fun c_14 => ?_)
    · have hh_p := inS_n c_5 hI.pn (by omega)
      have hh_v := inS_c c_14 (nl 3) (by omega)
      refine V.aload_n (pc := 24) 0 hC dX7_voice_24 rfl ?_
      refine V.iconst (pc := 25) 0 hC dX7_voice_25 (by decide) ?_
      refine V.put (pc := 26) (v := .int 0) hC cf_X7 0 18 (wM k b (va_up μ 18 (fun _ => 0)) ν) fl_X7_206 (by decide) gm_0 rfl rfl rfl (Nat.le_of_ble_eq_true rfl) rfl dX7_voice_26 ?_
      refine V.aload_n (pc := 29) 0 hC dX7_voice_29 rfl ?_
      refine V.iconst (pc := 30) 0 hC dX7_voice_30 (by decide) ?_
      refine V.put (pc := 31) (v := .int 0) hC cf_X7 0 19 (wM k b (va_up μ 18 (fun _ => 0)) (va_up ν 19 (fun _ => 0))) fl_X7_233 (by decide) gm_0 rfl rfl rfl (Nat.le_of_ble_eq_true rfl) rfl dX7_voice_31 ?_
      refine V.iload_n (pc := 34) 2 hC dX7_voice_34 rfl ?_
      refine V.if_ne (pc := 35) 47 hC dX7_voice_35 (by decide) (fun c_35 => ?_) (fun c_35 => ?_)
      · refine V.iload_n (pc := 47) 2 hC dX7_voice_47 rfl ?_
        refine V.iconst (pc := 48) 1 hC dX7_voice_48 (by decide) ?_
        refine V.icmp_ne (pc := 49) 61 hC dX7_voice_49 (by decide) (fun c_49 => ?_) (fun c_49 => ?_)
        · refine V.iload_n (pc := 61) 2 hC dX7_voice_61 rfl ?_
          refine V.iconst (pc := 62) 2 hC dX7_voice_62 (by decide) ?_
          refine V.icmp_ne (pc := 63) 75 hC dX7_voice_63 (by decide) (fun c_63 => ?_) (fun c_63 => ?_)
          · by_cases sP : (μ 0 (32 + 3 * nN p)) - nI (nN p) = 0
            · refine V.aload_n (pc := 75) 0 hC dX7_voice_75 rfl ?_
              refine V.iload_n (pc := 76) 1 hC dX7_voice_76 rfl ?_
              refine V.iload_n (pc := 77) 3 hC dX7_voice_77 rfl ?_
              refine V.sts (st' := [.int x, .int (nI (nN p)), .ref (b 20)]) (stk (stc hh_p.1 (stk rfl))) ?_
              refine V.callV0 (pc := 78) (as := [.int (nI (nN p)), .int x]) hC (c_X7_parts (va_up μ 18 (fun _ => 0)) (va_up ν 19 (fun _ => 0)) (nN p) x (by have := hh_p.2; omega) (isN.mk (n := 0) rfl (by omega) (by omega))) mu_X7_parts ml_X7_242 (by decide) ⟨0, 7, TX7, 20, _, rfl, gm_0⟩ rfl (Nat.le_of_ble_eq_true rfl) dX7_voice_78 ?_
              rintro _ ⟨f78_0, i78_1, i78_2⟩ ⟨rfl, hu78_0, hu78_1, hu78_2⟩
              replace hu78_0 : (f78_0, i78_1) = bgs (paL ((μ 0) (31 + 3 * (nN p))) ((μ 0) (32 + 3 * (nN p))) (nI (nN p))) ((μ 17), 0) := hu78_0
              replace hu78_1 : isN i78_1 30 := hu78_1
              replace hu78_2 : i78_2 = bI (((μ 0) (32 + 3 * (nN p))) - nI (nN p) = 0) := hu78_2
              show V X (wM k b (va_up (va_up μ 18 (fun _ => i78_1)) 17 f78_0) (va_up ν 19 (fun _ => i78_2))) [(0, .ref (b 20)), (1, .int p), (2, .int v), (3, .int x)] [.int (paV ((μ 0) (31 + 3 * (nN p))) ((μ 0) (32 + 3 * (nN p))) (nI (nN p)) x)] 81
              obtain rfl : i78_2 = 1 := hu78_2.trans (bI_t sP)
              refine V.istore (pc := 81) [(4, .int (paV ((μ 0) (31 + 3 * (nN p))) ((μ 0) (32 + 3 * (nN p))) (nI (nN p)) x)), (0, .ref (b 20)), (1, .int p), (2, .int v), (3, .int x)] hC dX7_voice_81 (by decide) rfl ?_
              refine V.aload_n (pc := 83) 1 hC dX7_voice_83 rfl ?_
              refine V.get (pc := 84) (v := .int 1) hC cf_X7 0 19 fl_X7_233 (by decide) gm_0 rfl dX7_voice_84 ?_
              refine V.if_eq (pc := 87) 99 hC dX7_voice_87 (by decide) (fun c_87 => ?_) (fun c_87 => ?_)
              · exact absurd c_87 (by decide)
              · refine V.aload_n (pc := 90) 1 hC dX7_voice_90 rfl ?_
                refine V.ldc (pc := 91) (v := (-1000000006)) hC cn_X7_245 dX7_voice_91 ?_
                refine V.callV0 (pc := 93) (as := [.int (-1000000006)]) hC (c_X7_error (va_up (va_up μ 18 (fun _ => i78_1)) 17 f78_0) (va_up ν 19 (fun _ => 1)) 6 (-1000000006) (by omega) (by decide)) mu_X7_error ml_X7_56 (by decide) ⟨0, 7, TX7, 20, _, rfl, gm_0⟩ rfl (Nat.le_of_ble_eq_true rfl) dX7_voice_93 ?_
                rintro _ _ rfl
                show V X (wM k b (va_up (va_up (va_up μ 18 (fun _ => i78_1)) 17 f78_0) 3 (upd ((μ 3)) 6 ((μ 3) 6 + 1))) (va_up ν 19 (fun _ => 1))) [(4, .int (paV ((μ 0) (31 + 3 * (nN p))) ((μ 0) (32 + 3 * (nN p))) (nI (nN p)) x)), (0, .ref (b 20)), (1, .int p), (2, .int v), (3, .int x)] [.int (-1000000006)] 96
                refine V.goto (pc := 96) 101 hC dX7_voice_96 (by decide) ?_
                exact hR (-1000000006) ((va_up (va_up (va_up μ 18 (fun _ => i78_1)) 17 f78_0) 3 (upd ((μ 3)) 6 ((μ 3) 6 + 1))), 1) _ _ dX7_voice_101 rfl (opr (by rw [op_voice, if_neg (not_not_intro c_5), if_neg (not_not_intro c_14), if_pos ⟨(show v = 3 by rw [hh_v.1, show nN v = 3 by { have h9 := hh_v.2; have g0 : ¬ nN v = 0 := fun q => c_35 (by rw [hh_v.1, q]; rfl); have g1 : ¬ nN v = 1 := fun q => c_49 (by rw [hh_v.1, q]; rfl); have g2 : ¬ nN v = 2 := fun q => c_63 (by rw [hh_v.1, q]; rfl); omega }]; rfl), sP⟩, er_6, show voM v (nN p) μ = va_up (va_up μ 18 (fun _ => i78_1)) 17 f78_0 from by unfold voM; rw [show (voL v (μ 0 (31 + 3 * nN p)) (μ 0 (32 + 3 * nN p)) (nI (nN p))) = paL (μ 0 (31 + 3 * nN p)) (μ 0 (32 + 3 * nN p)) (nI (nN p)) from by unfold voL; rw [if_neg c_35, if_neg c_49, if_neg c_63], ← hu78_0]] <;> rfl))
            · refine V.aload_n (pc := 75) 0 hC dX7_voice_75 rfl ?_
              refine V.iload_n (pc := 76) 1 hC dX7_voice_76 rfl ?_
              refine V.iload_n (pc := 77) 3 hC dX7_voice_77 rfl ?_
              refine V.sts (st' := [.int x, .int (nI (nN p)), .ref (b 20)]) (stk (stc hh_p.1 (stk rfl))) ?_
              refine V.callV0 (pc := 78) (as := [.int (nI (nN p)), .int x]) hC (c_X7_parts (va_up μ 18 (fun _ => 0)) (va_up ν 19 (fun _ => 0)) (nN p) x (by have := hh_p.2; omega) (isN.mk (n := 0) rfl (by omega) (by omega))) mu_X7_parts ml_X7_242 (by decide) ⟨0, 7, TX7, 20, _, rfl, gm_0⟩ rfl (Nat.le_of_ble_eq_true rfl) dX7_voice_78 ?_
              rintro _ ⟨f78_0, i78_1, i78_2⟩ ⟨rfl, hu78_0, hu78_1, hu78_2⟩
              replace hu78_0 : (f78_0, i78_1) = bgs (paL ((μ 0) (31 + 3 * (nN p))) ((μ 0) (32 + 3 * (nN p))) (nI (nN p))) ((μ 17), 0) := hu78_0
              replace hu78_1 : isN i78_1 30 := hu78_1
              replace hu78_2 : i78_2 = bI (((μ 0) (32 + 3 * (nN p))) - nI (nN p) = 0) := hu78_2
              show V X (wM k b (va_up (va_up μ 18 (fun _ => i78_1)) 17 f78_0) (va_up ν 19 (fun _ => i78_2))) [(0, .ref (b 20)), (1, .int p), (2, .int v), (3, .int x)] [.int (paV ((μ 0) (31 + 3 * (nN p))) ((μ 0) (32 + 3 * (nN p))) (nI (nN p)) x)] 81
              obtain rfl : i78_2 = 0 := hu78_2.trans (bI_f sP)
              refine V.istore (pc := 81) [(4, .int (paV ((μ 0) (31 + 3 * (nN p))) ((μ 0) (32 + 3 * (nN p))) (nI (nN p)) x)), (0, .ref (b 20)), (1, .int p), (2, .int v), (3, .int x)] hC dX7_voice_81 (by decide) rfl ?_
              refine V.aload_n (pc := 83) 1 hC dX7_voice_83 rfl ?_
              refine V.get (pc := 84) (v := .int 0) hC cf_X7 0 19 fl_X7_233 (by decide) gm_0 rfl dX7_voice_84 ?_
              refine V.if_eq (pc := 87) 99 hC dX7_voice_87 (by decide) (fun c_87 => ?_) (fun c_87 => ?_)
              · refine V.iload (pc := 99) 0 hC dX7_voice_99 rfl ?_
                exact hR (paV ((μ 0) (31 + 3 * (nN p))) ((μ 0) (32 + 3 * (nN p))) (nI (nN p)) x) ((va_up (va_up μ 18 (fun _ => i78_1)) 17 f78_0), 0) _ _ dX7_voice_101 rfl (opr (by rw [op_voice, if_neg (not_not_intro c_5), if_neg (not_not_intro c_14), if_neg (fun q => sP q.2), show voM v (nN p) μ = va_up (va_up μ 18 (fun _ => i78_1)) 17 f78_0 from by unfold voM; rw [show (voL v (μ 0 (31 + 3 * nN p)) (μ 0 (32 + 3 * nN p)) (nI (nN p))) = paL (μ 0 (31 + 3 * nN p)) (μ 0 (32 + 3 * nN p)) (nI (nN p)) from by unfold voL; rw [if_neg c_35, if_neg c_49, if_neg c_63], ← hu78_0]]; unfold voV; rw [if_neg c_35, if_neg c_49, if_neg c_63]))
              · exact absurd c_87 (by decide)
          · refine V.aload_n (pc := 66) 0 hC dX7_voice_66 rfl ?_
            refine V.iload_n (pc := 67) 1 hC dX7_voice_67 rfl ?_
            refine V.iload_n (pc := 68) 3 hC dX7_voice_68 rfl ?_
            refine V.sts (st' := [.int x, .int (nI (nN p)), .ref (b 20)]) (stk (stc hh_p.1 (stk rfl))) ?_
            refine V.callV0 (pc := 69) (as := [.int (nI (nN p)), .int x]) hC (c_X7_rings (va_up μ 18 (fun _ => 0)) (va_up ν 19 (fun _ => 0)) (nN p) x (by have := hh_p.2; omega) (isN.mk (n := 0) rfl (by omega) (by omega))) mu_X7_rings ml_X7_239 (by decide) ⟨0, 7, TX7, 20, _, rfl, gm_0⟩ rfl (Nat.le_of_ble_eq_true rfl) dX7_voice_69 ?_
            rintro _ ⟨f69_0, i69_1⟩ ⟨rfl, hu69_0, hu69_1⟩
            replace hu69_0 : (f69_0, i69_1) = bgs (riL ((μ 0) (31 + 3 * (nN p)))) ((μ 17), 0) := hu69_0
            replace hu69_1 : isN i69_1 30 := hu69_1
            show V X (wM k b (va_up (va_up μ 18 (fun _ => i69_1)) 17 f69_0) (va_up ν 19 (fun _ => 0))) [(0, .ref (b 20)), (1, .int p), (2, .int v), (3, .int x)] [.int (riV ((μ 0) (31 + 3 * (nN p))) ((μ 0) (32 + 3 * (nN p))) (nI (nN p)) x)] 72
            refine V.goto (pc := 72) 81 hC dX7_voice_72 (by decide) ?_
            refine V.istore (pc := 81) [(4, .int (riV ((μ 0) (31 + 3 * (nN p))) ((μ 0) (32 + 3 * (nN p))) (nI (nN p)) x)), (0, .ref (b 20)), (1, .int p), (2, .int v), (3, .int x)] hC dX7_voice_81 (by decide) rfl ?_
            refine V.aload_n (pc := 83) 1 hC dX7_voice_83 rfl ?_
            refine V.get (pc := 84) (v := .int 0) hC cf_X7 0 19 fl_X7_233 (by decide) gm_0 rfl dX7_voice_84 ?_
            refine V.if_eq (pc := 87) 99 hC dX7_voice_87 (by decide) (fun c_87 => ?_) (fun c_87 => ?_)
            · refine V.iload (pc := 99) 0 hC dX7_voice_99 rfl ?_
              exact hR (riV ((μ 0) (31 + 3 * (nN p))) ((μ 0) (32 + 3 * (nN p))) (nI (nN p)) x) ((va_up (va_up μ 18 (fun _ => i69_1)) 17 f69_0), 0) _ _ dX7_voice_101 rfl (opr (by rw [op_voice, if_neg (not_not_intro c_5), if_neg (not_not_intro c_14), if_neg (fun q => absurd q.1 (by rw [c_63]; decide)), show voM v (nN p) μ = va_up (va_up μ 18 (fun _ => i69_1)) 17 f69_0 from by unfold voM; rw [show (voL v (μ 0 (31 + 3 * nN p)) (μ 0 (32 + 3 * nN p)) (nI (nN p))) = riL (μ 0 (31 + 3 * nN p)) from by unfold voL; rw [if_neg c_35, if_neg c_49, if_pos c_63], ← hu69_0]]; unfold voV; rw [if_neg c_35, if_neg c_49, if_pos c_63]))
            · exact absurd c_87 (by decide)
        · refine V.aload_n (pc := 52) 0 hC dX7_voice_52 rfl ?_
          refine V.iload_n (pc := 53) 1 hC dX7_voice_53 rfl ?_
          refine V.iload_n (pc := 54) 3 hC dX7_voice_54 rfl ?_
          refine V.sts (st' := [.int x, .int (nI (nN p)), .ref (b 20)]) (stk (stc hh_p.1 (stk rfl))) ?_
          refine V.callV0 (pc := 55) (as := [.int (nI (nN p)), .int x]) hC (c_X7_bows (va_up μ 18 (fun _ => 0)) (va_up ν 19 (fun _ => 0)) (nN p) x (by have := hh_p.2; omega) (isN.mk (n := 0) rfl (by omega) (by omega))) mu_X7_bows ml_X7_227 (by decide) ⟨0, 7, TX7, 20, _, rfl, gm_0⟩ rfl (Nat.le_of_ble_eq_true rfl) dX7_voice_55 ?_
          rintro _ ⟨f55_0, i55_1⟩ ⟨rfl, hu55_0, hu55_1⟩
          replace hu55_0 : (f55_0, i55_1) = bgs (boL ((μ 0) (31 + 3 * (nN p)))) ((μ 17), 0) := hu55_0
          replace hu55_1 : isN i55_1 30 := hu55_1
          show V X (wM k b (va_up (va_up μ 18 (fun _ => i55_1)) 17 f55_0) (va_up ν 19 (fun _ => 0))) [(0, .ref (b 20)), (1, .int p), (2, .int v), (3, .int x)] [.int (boV ((μ 0) (31 + 3 * (nN p))) ((μ 0) (32 + 3 * (nN p))) (nI (nN p)) x)] 58
          refine V.goto (pc := 58) 81 hC dX7_voice_58 (by decide) ?_
          refine V.istore (pc := 81) [(4, .int (boV ((μ 0) (31 + 3 * (nN p))) ((μ 0) (32 + 3 * (nN p))) (nI (nN p)) x)), (0, .ref (b 20)), (1, .int p), (2, .int v), (3, .int x)] hC dX7_voice_81 (by decide) rfl ?_
          refine V.aload_n (pc := 83) 1 hC dX7_voice_83 rfl ?_
          refine V.get (pc := 84) (v := .int 0) hC cf_X7 0 19 fl_X7_233 (by decide) gm_0 rfl dX7_voice_84 ?_
          refine V.if_eq (pc := 87) 99 hC dX7_voice_87 (by decide) (fun c_87 => ?_) (fun c_87 => ?_)
          · refine V.iload (pc := 99) 0 hC dX7_voice_99 rfl ?_
            exact hR (boV ((μ 0) (31 + 3 * (nN p))) ((μ 0) (32 + 3 * (nN p))) (nI (nN p)) x) ((va_up (va_up μ 18 (fun _ => i55_1)) 17 f55_0), 0) _ _ dX7_voice_101 rfl (opr (by rw [op_voice, if_neg (not_not_intro c_5), if_neg (not_not_intro c_14), if_neg (fun q => absurd q.1 (by rw [c_49]; decide)), show voM v (nN p) μ = va_up (va_up μ 18 (fun _ => i55_1)) 17 f55_0 from by unfold voM; rw [show (voL v (μ 0 (31 + 3 * nN p)) (μ 0 (32 + 3 * nN p)) (nI (nN p))) = boL (μ 0 (31 + 3 * nN p)) from by unfold voL; rw [if_neg c_35, if_pos c_49], ← hu55_0]]; unfold voV; rw [if_neg c_35, if_pos c_49]))
          · exact absurd c_87 (by decide)
      · refine V.aload_n (pc := 38) 0 hC dX7_voice_38 rfl ?_
        refine V.iload_n (pc := 39) 1 hC dX7_voice_39 rfl ?_
        refine V.iload_n (pc := 40) 3 hC dX7_voice_40 rfl ?_
        refine V.sts (st' := [.int x, .int (nI (nN p)), .ref (b 20)]) (stk (stc hh_p.1 (stk rfl))) ?_
        refine V.callV0 (pc := 41) (as := [.int (nI (nN p)), .int x]) hC (c_X7_hails (va_up μ 18 (fun _ => 0)) (va_up ν 19 (fun _ => 0)) (nN p) x (by have := hh_p.2; omega) (isN.mk (n := 0) rfl (by omega) (by omega))) mu_X7_hails ml_X7_218 (by decide) ⟨0, 7, TX7, 20, _, rfl, gm_0⟩ rfl (Nat.le_of_ble_eq_true rfl) dX7_voice_41 ?_
        rintro _ ⟨f41_0, i41_1⟩ ⟨rfl, hu41_0, hu41_1⟩
        replace hu41_0 : (f41_0, i41_1) = bgs (hlL ((μ 0) (31 + 3 * (nN p)))) ((μ 17), 0) := hu41_0
        replace hu41_1 : isN i41_1 30 := hu41_1
        show V X (wM k b (va_up (va_up μ 18 (fun _ => i41_1)) 17 f41_0) (va_up ν 19 (fun _ => 0))) [(0, .ref (b 20)), (1, .int p), (2, .int v), (3, .int x)] [.int (hlV ((μ 0) (31 + 3 * (nN p))) (nI (nN p)) x)] 44
        refine V.goto (pc := 44) 81 hC dX7_voice_44 (by decide) ?_
        refine V.istore (pc := 81) [(4, .int (hlV ((μ 0) (31 + 3 * (nN p))) (nI (nN p)) x)), (0, .ref (b 20)), (1, .int p), (2, .int v), (3, .int x)] hC dX7_voice_81 (by decide) rfl ?_
        refine V.aload_n (pc := 83) 1 hC dX7_voice_83 rfl ?_
        refine V.get (pc := 84) (v := .int 0) hC cf_X7 0 19 fl_X7_233 (by decide) gm_0 rfl dX7_voice_84 ?_
        refine V.if_eq (pc := 87) 99 hC dX7_voice_87 (by decide) (fun c_87 => ?_) (fun c_87 => ?_)
        · refine V.iload (pc := 99) 0 hC dX7_voice_99 rfl ?_
          exact hR (hlV ((μ 0) (31 + 3 * (nN p))) (nI (nN p)) x) ((va_up (va_up μ 18 (fun _ => i41_1)) 17 f41_0), 0) _ _ dX7_voice_101 rfl (opr (by rw [op_voice, if_neg (not_not_intro c_5), if_neg (not_not_intro c_14), if_neg (fun q => absurd q.1 (by rw [c_35]; decide)), show voM v (nN p) μ = va_up (va_up μ 18 (fun _ => i41_1)) 17 f41_0 from by unfold voM; rw [show (voL v (μ 0 (31 + 3 * nN p)) (μ 0 (32 + 3 * nN p)) (nI (nN p))) = hlL (μ 0 (31 + 3 * nN p)) from by unfold voL; rw [if_pos c_35], ← hu41_0]]; unfold voV; rw [if_pos c_35]))
        · exact absurd c_87 (by decide)
    · refine V.aload_n (pc := 17) 0 hC dX7_voice_17 rfl ?_
      refine V.ldc (pc := 18) (v := (-1000000001)) hC cn_X7_55 dX7_voice_18 ?_
      refine V.callV0 (pc := 20) (as := [.int (-1000000001)]) hC (c_X7_error μ ν 1 (-1000000001) (by omega) (by decide)) mu_X7_error ml_X7_56 (by decide) ⟨0, 7, TX7, 20, _, rfl, gm_0⟩ rfl (Nat.le_of_ble_eq_true rfl) dX7_voice_20 ?_
      rintro _ _ rfl
      show V X (wM k b (va_up μ 3 (upd (μ 3) 1 (μ 3 1 + 1))) ν) [(0, .ref (b 20)), (1, .int p), (2, .int v), (3, .int x)] [.int (-1000000001)] 23
      exact hR (-1000000001) ((va_up μ 3 (upd (μ 3) 1 (μ 3 1 + 1))), ν 19 0) _ _ dX7_voice_23 rfl (opr (by simp only [op_voice, c_5, c_14, inS, hndS, homS, prsS, shtS, if_true, if_false, not_true_eq_false, not_false_eq_true, true_and, and_true, false_and, and_false, true_or, or_true, or_false, false_or, er_1, er_2, er_3, er_4, er_5, er_6] <;> rfl))
