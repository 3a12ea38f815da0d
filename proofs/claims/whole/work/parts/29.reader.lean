def cdW (w : Wd) : Int32 := if w.1 = 1 then w.2 else if w.1 = 2 then -1 - w.2 else if w.1 = 3 then -33 else -w.1
def CIn (N : Nat) (i71 i72 i73 : Int32) (u L p : Nat) : Prop := i73 = nI (u + 1) ∧ i71 = nI L ∧ i72 = nI p ∧ L ≤ p ∧ p ≤ N
def COut (g70 : Rw) (L : Nat) (x : Res) (f70 : Rw) (i71 i72 : Int32) : Prop := i72 = nI x.2.1 ∧ isN i71 60 ∧ (x.1 = true → i71 = nI (L + x.2.2.length) ∧ f70 = lay g70 L (x.2.2.map cdW))
def WtF (g70 : Rw) (i71 w : Int32) (f70 : Rw) (j71 : Int32) : Prop := isN j71 60 ∧ (nN i71 < 60 → j71 = i71 + 1 ∧ f70 = upd g70 (nN i71) w)
theorem cd_op1 {s : Int32} (h : isOp s) : cdW (s, 0) = -s := by
  have := isOp_ne h
  unfold cdW
  rw [if_neg this.1, if_neg this.2.1, if_neg this.2.2]
theorem CO_app {L : Nat} {g70 f70 e70 k70 : Rw} {i71 i72 j71 j72 k71 s c : Int32} {x y : Res} (hx : COut g70 L x f70 i71 i72) (hok : x.1 = true) (hy : COut f70 (L + x.2.2.length) y e70 j71 j72) (hc : c = cdW (s, 0)) (hs : WtF e70 j71 c k70 k71) (hl : y.1 = true → L + x.2.2.length + y.2.2.length < 60) : COut g70 L (appS x y s) k70 k71 j72 := by
  refine ⟨hy.1, hs.1, fun q => ?_⟩
  have h1 := hx.2.2 hok
  have h2 := hy.2.2 q
  have h3 := hl q
  have e12 : nN j71 = L + x.2.2.length + y.2.2.length := nN_of h2.1 (by omega)
  have h4 := hs.2 (by omega)
  refine ⟨?_, ?_⟩
  · rw [h4.1]
    refine ncast (nadd h2.1 (nl 1)) ?_
    show _ = L + (x.2.2 ++ (y.2.2 ++ [(s, 0)])).length
    simp only [List.length_append, List.length_cons, List.length_nil]
    omega
  · rw [h4.2, h2.2, h1.2, e12, hc]
    show _ = lay g70 L ((x.2.2 ++ (y.2.2 ++ [(s, 0)])).map cdW)
    rw [List.map_append, List.map_append, lay_app, lay_app, List.length_map, List.length_map]
    rfl
theorem CO_add {L : Nat} {g70 e70 k70 : Rw} {j71 j72 k71 c : Int32} {y : Res} {w : Wd} (hy : COut g70 L y e70 j71 j72) (hc : c = cdW w) (hs : WtF e70 j71 c k70 k71) (hl : y.1 = true → L + y.2.2.length < 60) : COut g70 L (y.1, y.2.1, y.2.2 ++ [w]) k70 k71 j72 := by
  refine ⟨hy.1, hs.1, fun q => ?_⟩
  have h2 := hy.2.2 q
  have h3 := hl q
  have e12 : nN j71 = L + y.2.2.length := nN_of h2.1 (by omega)
  have h4 := hs.2 (by omega)
  refine ⟨?_, ?_⟩
  · rw [h4.1]
    refine ncast (nadd h2.1 (nl 1)) ?_
    show _ = L + (y.2.2 ++ [w]).length
    simp only [List.length_append, List.length_cons, List.length_nil]
    omega
  · rw [h4.2, h2.2, e12, hc]
    show _ = lay g70 L ((y.2.2 ++ [w]).map cdW)
    rw [List.map_append, lay_app, List.length_map]
    rfl
theorem CO_one {L p : Nat} {g70 f70 : Rw} {i71 j71 j72 c : Int32} {w : Wd} (h12 : i71 = nI L) (hL : L < 60) (hc : c = cdW w) (hs : WtF g70 i71 c f70 j71) (h13 : j72 = nI p) : COut g70 L (true, p, [w]) f70 j71 j72 := by
  refine ⟨h13, hs.1, fun _ => ?_⟩
  have e12 : nN i71 = L := nN_of h12 (by omega)
  have h4 := hs.2 (by omega)
  exact ⟨by rw [h4.1]; exact nadd h12 (nl 1), by rw [h4.2, e12, hc]; rfl⟩
theorem CO_bad {L p : Nat} {g70 f70 : Rw} {j71 j72 : Int32} {x : List Wd} (h13 : j72 = nI p) (h12 : isN j71 60) : COut g70 L (false, p, x) f70 j71 j72 := ⟨h13, h12, fun q => absurd (show false = true from q) (by decide)⟩
theorem rk_b (q : Int32) : rkS q < 6 := by unfold rkS; (repeat' split) <;> omega
theorem rk_e {q : Int32} {r : Nat} (hr : r < 6) : nI (rkS q) = nI r ↔ rkS q = r := nI_eq (by have := rk_b q; omega) (by omega)
theorem lk_n {ρ : Rw} (hI : Inv ρ) {p : Nat} (h : ¬ lkS ρ p = -1) : isN (lkS ρ p) 255 := by
  unfold lkS at h ⊢
  by_cases q : p < nN (ρ 5)
  · rw [if_pos q]; exact hI.by_ q
  · rw [if_neg q] at h; exact absurd rfl h
theorem i2c_n {x : Int32} (h : isN x 255) : (x.toUInt32 % 65536).toInt32 = x := by
  have hq : ∀ w, w < 256 → ((nI w).toUInt32 % 65536).toInt32 = nI w := by decide +kernel
  obtain ⟨w, hw, hwb⟩ : ∃ w, x = nI w ∧ w ≤ 255 := ⟨_, h.1, h.2⟩
  rw [hw]; exact hq w (by omega)
theorem nmA_u {x : Int32} {u : Nat} (h : x = nI (u + 1)) (hu : u < 2) : nmA x = 2 + (u + 1) := by
  rcases (show u = 0 ∨ u = 1 by omega) with e | e
  · subst e; rw [h]; rfl
  · subst e; rw [h]; rfl
theorem dig_nam {u q : Int32} (h : inS q 48 57) : ¬ 0 ≤ namS u q ∧ ¬ (q = 33 ∨ q = 40) := by
  have h1 := inS_1 h (nl 48) (nl 57) (by omega) (by omega)
  obtain ⟨w, hw, hwb⟩ : ∃ w, q = nI w ∧ 48 ≤ w ∧ w ≤ 57 := ⟨_, h1.1, h1.2⟩
  have hk : ∀ v : Nat, v < 256 → ¬ (48 ≤ v ∧ v ≤ 57) → ¬ q = nI v := fun v hv hn z => hn (by rw [hw] at z; have := (nI_eq (by omega) (by omega)).mp z; omega)
  have k1 := hk 109 (by omega) (by omega)
  have k2 := hk 116 (by omega) (by omega)
  have k3 := hk 104 (by omega) (by omega)
  have k4 := hk 114 (by omega) (by omega)
  have k5 := hk 107 (by omega) (by omega)
  have k6 := hk 110 (by omega) (by omega)
  have k7 := hk 33 (by omega) (by omega)
  have k8 := hk 40 (by omega) (by omega)
  refine ⟨?_, fun z => z.elim k7 k8⟩
  unfold namS
  rw [if_neg (fun z => z.elim k1 (fun z => z.elim k2 k3)), if_neg (fun z => z.elim k4 (fun z => z.elim k5 k6))]
  decide
theorem num_no {T : Nat → Int32} {p : Nat} (h : ¬ inS (T p) 48 57) : numS T p = (false, p, []) := if_neg h

set_option maxHeartbeats 4000000 in
set_option maxRecDepth 100000 in
theorem c_X1_next {l : Launch} {D : va_G} {k : Nat → ClassId} {g a : Nat → Nat} (σ ν : St) (ρ : Rw) (p : Nat) (hT : RT σ ρ) (hI : Inv ρ) (hq : ν 72 0 = nI p) (hpb : p ≤ 60) : Ct l D k g yX1_next cX1_next 1 (some .int) 0 0 [.ref (a 3)] (S := Unit) (wX k g a σ ν) (fun _ => wX k g a σ ν) (fun vv _ => vv = some (.int (lkS ρ p))) := by
  refine Ct.ofI RX1 rfl (by decide +kernel) (Nat.le_of_ble_eq_true rfl) (fun X hC hR => ?_)
  have hb60 := hI.bb
  show V X (wX k g a σ ν) [(0, .ref (a 3))] [] 0
  refine V.aload_n (pc := 0) 0 hC dX1_next_0 rfl ?_
  refine V.get (pc := 1) (v := .int (ν 72 0)) hC cf_X1 3 3 fl_X1_29 (by decide) gx_3 rfl dX1_next_1 ?_
  refine V.aload_n (pc := 4) 0 hC dX1_next_4 rfl ?_
  refine V.get (pc := 5) (v := .ref (a 1)) hC cf_X1 3 0 fl_X1_21 (by decide) gx_3 rfl dX1_next_5 ?_
  refine V.get (pc := 8) (v := .int (σ 22 0)) hC cf_X3 1 12 fl_X1_40 (by decide) gx_1 rfl dX1_next_8 ?_
  refine V.eqi (y := ρ 5) (hT.2.2.2.2.1.1) ?_
  refine V.icmp_ge (pc := 11) 33 hC dX1_next_11 (by decide) (fun c_11 => ?_) (fun c_11 => ?_)
  · have nc_11 : nN (ρ 5) ≤ p := (nle hI.bn hq (by omega) (by omega)).mp c_11
    refine V.iconst (pc := 33) (-1) hC dX1_next_33 (by decide) ?_
    exact hR (-1) () _ _ dX1_next_34 rfl (ri (by rw [lkS, if_neg (by omega)]))
  · have nc_11 : ¬ (nN (ρ 5) ≤ p) := fun z => c_11 ((nle hI.bn hq (by omega) (by omega)).mpr z)
    refine V.aload_n (pc := 14) 0 hC dX1_next_14 rfl ?_
    refine V.get (pc := 15) (v := .ref (a 1)) hC cf_X1 3 0 fl_X1_21 (by decide) gx_3 rfl dX1_next_15 ?_
    refine V.get (pc := 18) (v := .ref (a 23)) hC cf_X3 1 13 fl_X1_45 (by decide) gx_1 rfl dX1_next_18 ?_
    refine V.aload_n (pc := 21) 0 hC dX1_next_21 rfl ?_
    refine V.get (pc := 22) (v := .int (ν 72 0)) hC cf_X1 3 3 fl_X1_29 (by decide) gx_3 rfl dX1_next_22 ?_
    refine V.bald (pc := 25) (f := σ 23) hC 15 p gx_15 hq (by omega) (by decide) dX1_next_25 ?_
    refine V.sipush (pc := 26) 255 hC dX1_next_26 (by decide) ?_
    refine V.iand (pc := 29) hC dX1_next_29 ?_
    refine V.goto (pc := 30) 34 hC dX1_next_30 (by decide) ?_
    exact hR ((σ 23 p) &&& 255) () _ _ dX1_next_34 rfl (ri (by rw [lkS, if_pos (by omega)]; exact hT.2.2.2.2.1.2 p (by omega)))
set_option maxHeartbeats 4000000 in
set_option maxRecDepth 100000 in
theorem c_X1_isDigit {l : Launch} {D : va_G} {k : Nat → ClassId} {g : Nat → Nat} (q : Int32)  : Ct l D k g yX1_isDigit cX1_isDigit 1 (some .boolean) 0 0 [.int q] (S := Unit) ([]) (fun _ => []) (fun vv _ => vv = some (.int (bI (inS q 48 57)))) := by
  refine Ct.ofI RX1 rfl (by decide +kernel) (Nat.le_of_ble_eq_true rfl) (fun X hC hR => ?_)
  show V X ([]) [(0, .int q)] [] 0
  refine V.iload_n (pc := 0) 0 hC dX1_isDigit_0 rfl ?_
  refine V.bipush (pc := 1) 48 hC dX1_isDigit_1 (by decide) ?_
  refine V.icmp_lt (pc := 3) 16 hC dX1_isDigit_3 (by decide) (fun c_3 => ?_) (fun c_3 => ?_)
  · refine V.iconst (pc := 16) 0 hC dX1_isDigit_16 (by decide) ?_
    exact hR 0 () _ _ dX1_isDigit_17 (by first | rfl | exact bI_n _) (rb0 (fun z => i_gt c_3 z.1))
  · refine V.iload_n (pc := 6) 0 hC dX1_isDigit_6 rfl ?_
    refine V.bipush (pc := 7) 57 hC dX1_isDigit_7 (by decide) ?_
    refine V.icmp_gt (pc := 9) 16 hC dX1_isDigit_9 (by decide) (fun c_9 => ?_) (fun c_9 => ?_)
    · refine V.iconst (pc := 16) 0 hC dX1_isDigit_16 (by decide) ?_
      exact hR 0 () _ _ dX1_isDigit_17 (by first | rfl | exact bI_n _) (rb0 (fun z => i_gt c_9 z.2))
    · refine V.iconst (pc := 12) 1 hC dX1_isDigit_12 (by decide) ?_
      refine V.goto (pc := 13) 17 hC dX1_isDigit_13 (by decide) ?_
      exact hR 1 () _ _ dX1_isDigit_17 (by first | rfl | exact bI_n _) (rb1 ⟨i_nlt c_3, i_nlt c_9⟩)
set_option maxHeartbeats 4000000 in
set_option maxRecDepth 100000 in
theorem c_X1_rankOf {l : Launch} {D : va_G} {k : Nat → ClassId} {g : Nat → Nat} (q : Int32)  : Ct l D k g yX1_rankOf cX1_rankOf 1 (some .int) 0 0 [.int q] (S := Unit) ([]) (fun _ => []) (fun vv _ => vv = some (.int (nI (rkS q)))) := by
  refine Ct.ofI RX1 rfl (by decide +kernel) (Nat.le_of_ble_eq_true rfl) (fun X hC hR => ?_)
  show V X ([]) [(0, .int q)] [] 0
  refine V.iload_n (pc := 0) 0 hC dX1_rankOf_0 rfl ?_
  by_cases s_1_37 : q = 37
  · refine V.lookup (pc := 1) 100 hC dX1_rankOf_1 (by decide) (by rw [s_1_37]; first | done | rfl) (by decide) ?_
    refine V.iconst (pc := 100) 4 hC dX1_rankOf_100 (by decide) ?_
    exact hR 4 () _ _ dX1_rankOf_101 rfl (ri (by rw [s_1_37]; rfl))
  by_cases s_1_38 : q = 38
  · refine V.lookup (pc := 1) 94 hC dX1_rankOf_1 (by decide) (by rw [s_1_38]; first | done | rfl) (by decide) ?_
    refine V.iconst (pc := 94) 1 hC dX1_rankOf_94 (by decide) ?_
    exact hR 1 () _ _ dX1_rankOf_95 rfl (ri (by rw [s_1_38]; rfl))
  by_cases s_1_42 : q = 42
  · refine V.lookup (pc := 1) 100 hC dX1_rankOf_1 (by decide) (by rw [s_1_42]; first | done | rfl) (by decide) ?_
    refine V.iconst (pc := 100) 4 hC dX1_rankOf_100 (by decide) ?_
    exact hR 4 () _ _ dX1_rankOf_101 rfl (ri (by rw [s_1_42]; rfl))
  by_cases s_1_43 : q = 43
  · refine V.lookup (pc := 1) 98 hC dX1_rankOf_1 (by decide) (by rw [s_1_43]; first | done | rfl) (by decide) ?_
    refine V.iconst (pc := 98) 3 hC dX1_rankOf_98 (by decide) ?_
    exact hR 3 () _ _ dX1_rankOf_99 rfl (ri (by rw [s_1_43]; rfl))
  by_cases s_1_45 : q = 45
  · refine V.lookup (pc := 1) 98 hC dX1_rankOf_1 (by decide) (by rw [s_1_45]; first | done | rfl) (by decide) ?_
    refine V.iconst (pc := 98) 3 hC dX1_rankOf_98 (by decide) ?_
    exact hR 3 () _ _ dX1_rankOf_99 rfl (ri (by rw [s_1_45]; rfl))
  by_cases s_1_47 : q = 47
  · refine V.lookup (pc := 1) 100 hC dX1_rankOf_1 (by decide) (by rw [s_1_47]; first | done | rfl) (by decide) ?_
    refine V.iconst (pc := 100) 4 hC dX1_rankOf_100 (by decide) ?_
    exact hR 4 () _ _ dX1_rankOf_101 rfl (ri (by rw [s_1_47]; rfl))
  by_cases s_1_60 : q = 60
  · refine V.lookup (pc := 1) 96 hC dX1_rankOf_1 (by decide) (by rw [s_1_60]; first | done | rfl) (by decide) ?_
    refine V.iconst (pc := 96) 2 hC dX1_rankOf_96 (by decide) ?_
    exact hR 2 () _ _ dX1_rankOf_97 rfl (ri (by rw [s_1_60]; rfl))
  by_cases s_1_61 : q = 61
  · refine V.lookup (pc := 1) 96 hC dX1_rankOf_1 (by decide) (by rw [s_1_61]; first | done | rfl) (by decide) ?_
    refine V.iconst (pc := 96) 2 hC dX1_rankOf_96 (by decide) ?_
    exact hR 2 () _ _ dX1_rankOf_97 rfl (ri (by rw [s_1_61]; rfl))
  by_cases s_1_62 : q = 62
  · refine V.lookup (pc := 1) 96 hC dX1_rankOf_1 (by decide) (by rw [s_1_62]; first | done | rfl) (by decide) ?_
    refine V.iconst (pc := 96) 2 hC dX1_rankOf_96 (by decide) ?_
    exact hR 2 () _ _ dX1_rankOf_97 rfl (ri (by rw [s_1_62]; rfl))
  by_cases s_1_124 : q = 124
  · refine V.lookup (pc := 1) 92 hC dX1_rankOf_1 (by decide) (by rw [s_1_124]; first | done | rfl) (by decide) ?_
    refine V.iconst (pc := 92) 0 hC dX1_rankOf_92 (by decide) ?_
    exact hR 0 () _ _ dX1_rankOf_93 rfl (ri (by rw [s_1_124]; rfl))
  refine V.lookup (pc := 1) 102 hC dX1_rankOf_1 (by decide) ((lv_osw s_1_37 rfl).trans ((lv_osw s_1_38 rfl).trans ((lv_osw s_1_42 rfl).trans ((lv_osw s_1_43 rfl).trans ((lv_osw s_1_45 rfl).trans ((lv_osw s_1_47 rfl).trans ((lv_osw s_1_60 rfl).trans ((lv_osw s_1_61 rfl).trans ((lv_osw s_1_62 rfl).trans ((lv_osw s_1_124 rfl).trans rfl)))))))))) rfl ?_
  refine V.iconst (pc := 102) 5 hC dX1_rankOf_102 (by decide) ?_
  exact hR 5 () _ _ dX1_rankOf_103 rfl (ri (by unfold rkS; rw [if_neg s_1_124, if_neg s_1_38, if_neg (fun z => z.elim s_1_60 (fun z => z.elim s_1_61 s_1_62)), if_neg (fun z => z.elim s_1_43 s_1_45), if_neg (fun z => z.elim s_1_42 (fun z => z.elim s_1_47 s_1_37))]; rfl))
set_option maxHeartbeats 4000000 in
set_option maxRecDepth 100000 in
theorem c_X1_write {l : Launch} {D : va_G} {k : Nat → ClassId} {g a : Nat → Nat} (σ ν : St) (w : Int32) (hL : isN (ν 71 0) 60) : Ct l D k g yX1_write cX1_write 2 none 0 0 [.ref (a 3), .int w] (S := Rw × Int32) (wX k g a σ ν) (fun uu => wX k g a σ (va_up (va_up ν 70 uu.1) 71 (fun _ => uu.2))) (fun vv uu => vv = none ∧ WtF (ν 70) (ν 71 0) w uu.1 uu.2) := by
  refine Ct.ofV RX1 rfl (by decide +kernel) (Nat.le_of_ble_eq_true rfl) (fun X hC hR => ?_)
  have hL2 := hL.2
  show V X (wX k g a σ ν) [(0, .ref (a 3)), (1, .int w)] [] 0
  refine V.aload_n (pc := 0) 0 hC dX1_write_0 rfl ?_
  refine V.get (pc := 1) (v := .int (ν 71 0)) hC cf_X1 3 2 fl_X1_25 (by decide) gx_3 rfl dX1_write_1 ?_
  refine V.bipush (pc := 4) 60 hC dX1_write_4 (by decide) ?_
  refine V.icmp_ge (pc := 6) 29 hC dX1_write_6 (by decide) (fun c_6 => ?_) (fun c_6 => ?_)
  · have nc_6 : 60 ≤ nN (ν 71 0) := (nle (nl 60) hL.1 (by omega) (by omega)).mp c_6
    exact hR (ν 70, ν 71 0) _ _ dX1_write_29 ⟨rfl, hL, fun q => absurd q (by omega)⟩
  · have nc_6 : ¬ (60 ≤ nN (ν 71 0)) := fun z => c_6 ((nle (nl 60) hL.1 (by omega) (by omega)).mpr z)
    refine V.aload_n (pc := 9) 0 hC dX1_write_9 rfl ?_
    refine V.get (pc := 10) (v := .ref (a 70)) hC cf_X1 3 1 fl_X1_9 (by decide) gx_3 rfl dX1_write_10 ?_
    refine V.aload_n (pc := 13) 0 hC dX1_write_13 rfl ?_
    refine V.get (pc := 14) (v := .int (ν 71 0)) hC cf_X1 3 2 fl_X1_25 (by decide) gx_3 rfl dX1_write_14 ?_
    refine V.iload_n (pc := 17) 1 hC dX1_write_17 rfl ?_
    refine V.iast (pc := 18) (f := ν 70) hC 40 (nN (ν 71 0)) (wX k g a σ (va_up ν 70 (upd (ν 70) (nN (ν 71 0)) w))) gx_40 hL.1 (by omega) (by decide) rfl dX1_write_18 ?_
    refine V.aload_n (pc := 19) 0 hC dX1_write_19 rfl ?_
    refine V.dup (pc := 20) hC dX1_write_20 rfl ?_
    refine V.get (pc := 21) (v := .int (ν 71 0)) hC cf_X1 3 2 fl_X1_25 (by decide) gx_3 rfl dX1_write_21 ?_
    refine V.iconst (pc := 24) 1 hC dX1_write_24 (by decide) ?_
    refine V.iadd (pc := 25) hC dX1_write_25 ?_
    refine V.put (pc := 26) (v := .int ((ν 71 0) + 1)) hC cf_X1 3 2 (wX k g a σ (va_up (va_up ν 70 (upd (ν 70) (nN (ν 71 0)) w)) 71 (fun _ => (ν 71 0) + 1))) fl_X1_25 (by decide) gx_3 rfl rfl rfl (Nat.le_of_ble_eq_true rfl) rfl dX1_write_26 ?_
    exact hR (upd (ν 70) (nN (ν 71 0)) w, (ν 71 0) + 1) _ _ dX1_write_29 ⟨rfl, isN.mk (nadd hL.1 (nl 1)) (by omega) (by omega), fun _ => ⟨rfl, rfl⟩⟩
set_option maxHeartbeats 4000000 in
set_option maxRecDepth 100000 in
theorem c_X1_readNumber {l : Launch} {D : va_G} {k : Nat → ClassId} {g a : Nat → Nat} (σ ν : St) (ρ : Rw) (u L p : Nat) (hT : RT σ ρ) (hI : Inv ρ) (hu2 : u < 2) (hP : CIn (nN (ρ 5)) (ν 71 0) (ν 72 0) (ν 73 0) u L p) (hdg : inS (lkS ρ p) 48 57) : Ct l D k g yX1_readNumber cX1_readNumber 3 none 1 21 [.ref (a 3)] (S := Rw × Int32 × Int32) (wX k g a σ ν) (fun uu => wX k g a σ (va_up (va_up (va_up ν 70 uu.1) 71 (fun _ => uu.2.1)) 72 (fun _ => uu.2.2))) (fun vv uu => vv = none ∧ COut (ν 70) L (numS (lkS ρ) p) uu.1 uu.2.1 uu.2.2) := by
  refine Ct.ofV RX1 rfl (by decide +kernel) (Nat.le_of_ble_eq_true rfl) (fun X hC hR => ?_)
  have hb60 := hI.bb; have hle := hP.2.2.2
  have hlt := dig_lt lk_tok hdg
  show V X (wX k g a σ ν) [(0, .ref (a 3))] [] 0
  refine V.iconst (pc := 0) 0 hC dX1_readNumber_0 (by decide) ?_
  refine V.istore_n (pc := 1) [(1, .int 0), (0, .ref (a 3))] hC dX1_readNumber_1 (by decide) rfl ?_
  refine V.iconst (pc := 2) 0 hC dX1_readNumber_2 (by decide) ?_
  refine V.istore_n (pc := 3) [(2, .int 0), (1, .int 0), (0, .ref (a 3))] hC dX1_readNumber_3 (by decide) rfl ?_
  have loop_4 : ∀ (n : Nat) (j q : Nat) (v i72 : Int32), j + n = 4 → i72 = nI q → q = p + j → q ≤ nN (ρ 5) → nbS (lkS ρ) 4 0 p = nbS (lkS ρ) n v q → V X (wX k g a σ (va_up ν 72 (fun _ => i72))) [(0, .ref (a 3)), (1, .int v), (2, .int (nI j))] [] 4 := by
    intro n
    induction n with
    | zero =>
      intro j q v i72 hj h72 hqp hqN hv
      refine V.iload_n (pc := 4) 2 hC dX1_readNumber_4 rfl ?_
      refine V.iconst (pc := 5) 4 hC dX1_readNumber_5 (by decide) ?_
      refine V.icmp_ge (pc := 6) 48 hC dX1_readNumber_6 (by decide) (fun c_6 => ?_) (fun c_6 => ?_)
      · have nc_6 : 4 ≤ j := (nle (nl 4) rfl (by omega) (by omega)).mp c_6
        refine V.aload_n (pc := 48) 0 hC dX1_readNumber_48 rfl ?_
        refine V.iload_n (pc := 49) 1 hC dX1_readNumber_49 rfl ?_
        refine V.callV0 (pc := 50) (as := [.int v]) hC (c_X1_write σ (va_up ν 72 (fun _ => i72)) v (isN.mk hP.2.1 (by omega) (by omega))) mu_X1_write ml_X1_60 (by decide) ⟨3, 1, TX1, 5, _, rfl, gx_3⟩ rfl (Nat.le_of_ble_eq_true rfl) dX1_readNumber_50 ?_
        rintro _ ⟨f50_0, i50_1⟩ ⟨rfl, hu50_0⟩
        have hu50_0 : WtF ((ν 70)) ((ν 71 0)) v f50_0 i50_1 := hu50_0
        show V X (wX k g a σ (va_up (va_up (va_up ν 72 (fun _ => i72)) 70 f50_0) 71 (fun _ => i50_1))) [(0, .ref (a 3)), (1, .int v), (2, .int (nI j))] [] 53
        exact hR (f50_0, i50_1, i72) _ _ dX1_readNumber_53 ⟨rfl, by rw [numS, if_pos hdg, show nbS (lkS ρ) 4 0 p = (v, q) from hv]; exact CO_one hP.2.1 (by omega) rfl hu50_0 h72⟩
      · have nc_6 : ¬ (4 ≤ j) := fun z => c_6 ((nle (nl 4) rfl (by omega) (by omega)).mpr z)
        exfalso; omega
    | succ n ih =>
      intro j q v i72 hj h72 hqp hqN hv
      refine V.iload_n (pc := 4) 2 hC dX1_readNumber_4 rfl ?_
      refine V.iconst (pc := 5) 4 hC dX1_readNumber_5 (by decide) ?_
      refine V.icmp_ge (pc := 6) 48 hC dX1_readNumber_6 (by decide) (fun c_6 => ?_) (fun c_6 => ?_)
      · have nc_6 : 4 ≤ j := (nle (nl 4) rfl (by omega) (by omega)).mp c_6
        exfalso; omega
      · have nc_6 : ¬ (4 ≤ j) := fun z => c_6 ((nle (nl 4) rfl (by omega) (by omega)).mpr z)
        refine V.aload_n (pc := 9) 0 hC dX1_readNumber_9 rfl ?_
        refine V.callV0 (pc := 10) (as := []) hC (c_X1_next σ (va_up ν 72 (fun _ => i72)) ρ q hT hI h72 (by omega)) mu_X1_next ml_X1_52 (by decide) ⟨3, 1, TX1, 5, _, rfl, gx_3⟩ rfl (Nat.le_of_ble_eq_true rfl) dX1_readNumber_10 ?_
        rintro _ _ rfl
        show V X (wX k g a σ (va_up ν 72 (fun _ => i72))) [(0, .ref (a 3)), (1, .int v), (2, .int (nI j))] [.int (lkS ρ q)] 13
        refine V.callS0 (pc := 13) (as := [.int (lkS ρ q)]) hC (c_X1_isDigit (lkS ρ q) ) ms_X1_isDigit ml_X1_68 (by decide) rfl (Nat.le_of_ble_eq_true rfl) dX1_readNumber_13 ?_
        rintro _ _ rfl
        show V X (wX k g a σ (va_up ν 72 (fun _ => i72))) [(0, .ref (a 3)), (1, .int v), (2, .int (nI j))] [.int (bI (inS (lkS ρ q) 48 57))] 16
        refine V.if_eq_b (P := inS (lkS ρ q) 48 57) (pc := 16) 48 hC dX1_readNumber_16 (by decide) (fun c_16 => ?_) (fun c_16 => ?_)
        · refine V.aload_n (pc := 48) 0 hC dX1_readNumber_48 rfl ?_
          refine V.iload_n (pc := 49) 1 hC dX1_readNumber_49 rfl ?_
          refine V.callV0 (pc := 50) (as := [.int v]) hC (c_X1_write σ (va_up ν 72 (fun _ => i72)) v (isN.mk hP.2.1 (by omega) (by omega))) mu_X1_write ml_X1_60 (by decide) ⟨3, 1, TX1, 5, _, rfl, gx_3⟩ rfl (Nat.le_of_ble_eq_true rfl) dX1_readNumber_50 ?_
          rintro _ ⟨f50_0, i50_1⟩ ⟨rfl, hu50_0⟩
          have hu50_0 : WtF ((ν 70)) ((ν 71 0)) v f50_0 i50_1 := hu50_0
          show V X (wX k g a σ (va_up (va_up (va_up ν 72 (fun _ => i72)) 70 f50_0) 71 (fun _ => i50_1))) [(0, .ref (a 3)), (1, .int v), (2, .int (nI j))] [] 53
          exact hR (f50_0, i50_1, i72) _ _ dX1_readNumber_53 ⟨rfl, by rw [numS, if_pos hdg, show nbS (lkS ρ) 4 0 p = (v, q) from hv.trans (if_neg c_16)]; exact CO_one hP.2.1 (by omega) rfl hu50_0 h72⟩
        · refine V.iload_n (pc := 19) 1 hC dX1_readNumber_19 rfl ?_
          refine V.bipush (pc := 20) 10 hC dX1_readNumber_20 (by decide) ?_
          refine V.imul (pc := 22) hC dX1_readNumber_22 ?_
          refine V.aload_n (pc := 23) 0 hC dX1_readNumber_23 rfl ?_
          refine V.callV0 (pc := 24) (as := []) hC (c_X1_next σ (va_up ν 72 (fun _ => i72)) ρ q hT hI h72 (by omega)) mu_X1_next ml_X1_52 (by decide) ⟨3, 1, TX1, 5, _, rfl, gx_3⟩ rfl (Nat.le_of_ble_eq_true rfl) dX1_readNumber_24 ?_
          rintro _ _ rfl
          show V X (wX k g a σ (va_up ν 72 (fun _ => i72))) [(0, .ref (a 3)), (1, .int v), (2, .int (nI j))] [.int (lkS ρ q), .int (v * 10)] 27
          refine V.iadd (pc := 27) hC dX1_readNumber_27 ?_
          refine V.bipush (pc := 28) 48 hC dX1_readNumber_28 (by decide) ?_
          refine V.isub (pc := 30) hC dX1_readNumber_30 ?_
          refine V.istore_n (pc := 31) [(1, .int (((v * 10) + (lkS ρ q)) - 48)), (0, .ref (a 3)), (2, .int (nI j))] hC dX1_readNumber_31 (by decide) rfl ?_
          refine V.aload_n (pc := 32) 1 hC dX1_readNumber_32 rfl ?_
          refine V.dup (pc := 33) hC dX1_readNumber_33 rfl ?_
          refine V.get (pc := 34) (v := .int i72) hC cf_X1 3 3 fl_X1_29 (by decide) gx_3 rfl dX1_readNumber_34 ?_
          refine V.iconst (pc := 37) 1 hC dX1_readNumber_37 (by decide) ?_
          refine V.iadd (pc := 38) hC dX1_readNumber_38 ?_
          refine V.put (pc := 39) (v := .int (i72 + 1)) hC cf_X1 3 3 (wX k g a σ (va_up ν 72 (fun _ => i72 + 1))) fl_X1_29 (by decide) gx_3 rfl rfl rfl (Nat.le_of_ble_eq_true rfl) rfl dX1_readNumber_39 ?_
          refine V.iinc (pc := 42) 2 (nI (j + 1)) [(2, .int (nI (j + 1))), (1, .int (((v * 10) + (lkS ρ q)) - 48)), (0, .ref (a 3))] hC dX1_readNumber_42 rfl (ncast (nadd rfl (nl 1)) (by omega)) (by decide) rfl ?_
          refine V.goto (pc := 45) 4 hC dX1_readNumber_45 (by decide) ?_
          exact V.sub [2, 1, 0] rfl (ih (j + 1) (q + 1) (((v * 10) + (lkS ρ q)) - 48) (i72 + 1) (by omega) (nadd h72 (nl 1)) (by omega) (dig_lt lk_tok c_16) (hv.trans (by rw [nbS, if_pos c_16, Int32.mul_comm 10 v])))
  exact V.sub [2, 1, 0] rfl (loop_4 4 0 p 0 (ν 72 0) (by omega) hP.2.2.1 (by omega) (by omega) rfl)
set_option maxHeartbeats 4000000 in
set_option maxRecDepth 100000 in
theorem c_X1_single_5 {l : Launch} {D : va_G} {k : Nat → ClassId} {g a : Nat → Nat} (σ ν : St) (ρ : Rw) (u L p : Nat) (hT : RT σ ρ) (hI : Inv ρ) (hu2 : u < 2) (hP : CIn (nN (ρ 5)) (ν 71 0) (ν 72 0) (ν 73 0) u L p) : Ct l D k g yX1_readSingle cX1_readSingle 4 (some .boolean) 4 91 [.ref (a 3), .int 5] (S := Rw × Int32 × Int32) (wX k g a σ ν) (fun uu => wX k g a σ (va_up (va_up (va_up ν 70 uu.1) 71 (fun _ => uu.2.1)) 72 (fun _ => uu.2.2))) (fun vv uu => vv = some (.int (bI (((sgS (lkS ρ) (nI u) 0) p).1 = true))) ∧ COut (ν 70) L ((sgS (lkS ρ) (nI u) 0) p) uu.1 uu.2.1 uu.2.2) := by
  refine Ct.ofI RX1 rfl (by decide +kernel) (Nat.le_of_ble_eq_true rfl) (fun X hC hR => ?_)
  have hb60 := hI.bb; have hle := hP.2.2.2
  have hm1 : ¬ 0 ≤ namS (nI u) (-1) := fun z => (nam_b z).2 rfl
  show V X (wX k g a σ ν) [(0, .ref (a 3)), (1, .int 5)] [] 0
  refine V.aload_n (pc := 0) 0 hC dX1_readSingle_0 rfl ?_
  refine V.callV0 (pc := 1) (as := []) hC (c_X1_next σ ν ρ p hT hI hP.2.2.1 (by omega)) mu_X1_next ml_X1_52 (by decide) ⟨3, 1, TX1, 5, _, rfl, gx_3⟩ rfl (Nat.le_of_ble_eq_true rfl) dX1_readSingle_1 ?_
  rintro _ _ rfl
  show V X (wX k g a σ ν) [(0, .ref (a 3)), (1, .int 5)] [.int (lkS ρ p)] 4
  refine V.istore_n (pc := 4) [(2, .int (lkS ρ p)), (0, .ref (a 3)), (1, .int 5)] hC dX1_readSingle_4 (by decide) rfl ?_
  refine V.iload_n (pc := 5) 0 hC dX1_readSingle_5 rfl ?_
  refine V.callS0 (pc := 6) (as := [.int (lkS ρ p)]) hC (c_X1_isDigit (lkS ρ p) ) ms_X1_isDigit ml_X1_68 (by decide) rfl (Nat.le_of_ble_eq_true rfl) dX1_readSingle_6 ?_
  rintro _ _ rfl
  show V X (wX k g a σ ν) [(2, .int (lkS ρ p)), (0, .ref (a 3)), (1, .int 5)] [.int (bI (inS (lkS ρ p) 48 57))] 9
  refine V.if_eq_b (P := inS (lkS ρ p) 48 57) (pc := 9) 18 hC dX1_readSingle_9 (by decide) (fun c_9 => ?_) (fun c_9 => ?_)
  · refine V.iload_n (pc := 18) 0 hC dX1_readSingle_18 rfl ?_
    refine V.iconst (pc := 19) (-1) hC dX1_readSingle_19 (by decide) ?_
    refine V.icmp_ne (pc := 20) 27 hC dX1_readSingle_20 (by decide) (fun c_20 => ?_) (fun c_20 => ?_)
    · have hbn := lk_n hI c_20
      refine V.aload_n (pc := 27) 1 hC dX1_readSingle_27 rfl ?_
      refine V.get (pc := 28) (v := .ref (g (nmA (ν 73 0)))) hC cf_X1 3 4 fl_X1_17 (by decide) gx_3 rfl dX1_readSingle_28 ?_
      refine V.iload_n (pc := 31) 0 hC dX1_readSingle_31 rfl ?_
      refine V.i2c (pc := 32) hC dX1_readSingle_32 ?_
      refine V.eqi (y := lkS ρ p) (i2c_n hbn) ?_
      refine V.sts (st' := [.int (lkS ρ p), .ref (g (2 + (u + 1)))]) (by rw [nmA_u hP.1 hu2]) ?_
      refine V.callStr (pc := 33) (as := [.int (lkS ρ p)]) (i := (u + 1)) hC (c_ixu u (lkS ρ p) hu2 hbn) mu_J0_indexOf_0f7a4 ml_X1_74 (by decide) (by omega) rfl (Nat.le_of_ble_eq_true rfl) dX1_readSingle_33 ?_
      rintro _ _ rfl
      show V X (wX k g a σ ν) [(2, .int (lkS ρ p)), (0, .ref (a 3)), (1, .int 5)] [.int (namS (nI u) (lkS ρ p))] 36
      refine V.istore_n (pc := 36) [(3, .int (namS (nI u) (lkS ρ p))), (2, .int (lkS ρ p)), (0, .ref (a 3)), (1, .int 5)] hC dX1_readSingle_36 (by decide) rfl ?_
      refine V.iload_n (pc := 37) 0 hC dX1_readSingle_37 rfl ?_
      refine V.if_lt (pc := 38) 60 hC dX1_readSingle_38 (by decide) (fun c_38 => ?_) (fun c_38 => ?_)
      · have c38 : ¬ 0 ≤ (namS (nI u) (lkS ρ p)) := i_gt c_38
        refine V.iload_n (pc := 60) 1 hC dX1_readSingle_60 rfl ?_
        refine V.bipush (pc := 61) 33 hC dX1_readSingle_61 (by decide) ?_
        refine V.icmp_eq (pc := 63) 72 hC dX1_readSingle_63 (by decide) (fun c_63 => ?_) (fun c_63 => ?_)
        · refine V.iload_n (pc := 72) 3 hC dX1_readSingle_72 rfl ?_
          refine V.iconst (pc := 73) 5 hC dX1_readSingle_73 (by decide) ?_
          refine V.icmp_lt (pc := 74) 79 hC dX1_readSingle_74 (by decide) (fun c_74 => ?_) (fun c_74 => ?_)
          · have nc_74 : 5 < 5 := (nlt (nl 5) (nl 5) (by omega) (by omega)).mp c_74
            exact absurd c_74 (by decide)
          · have nc_74 : ¬ (5 < 5) := fun z => c_74 ((nlt (nl 5) (nl 5) (by omega) (by omega)).mpr z)
            have hXb : ((sgS (lkS ρ) (nI u) 0) p) = (false, p, []) := (if_neg c38).trans ((if_pos (Or.inl c_63)).trans (if_pos rfl))
            refine V.iconst (pc := 77) 0 hC dX1_readSingle_77 (by decide) ?_
            exact hR 0 (ν 70, ν 71 0, ν 72 0) _ _ dX1_readSingle_78 (by first | rfl | exact bI_n _) ⟨rb0 (by rw [hXb]; exact fun z => absurd (show false = true from z) (by decide)), by rw [hXb]; exact CO_bad hP.2.2.1 (isN.mk hP.2.1 (by omega) (by omega))⟩
        · refine V.iload_n (pc := 66) 1 hC dX1_readSingle_66 rfl ?_
          refine V.bipush (pc := 67) 40 hC dX1_readSingle_67 (by decide) ?_
          refine V.icmp_ne (pc := 69) 77 hC dX1_readSingle_69 (by decide) (fun c_69 => ?_) (fun c_69 => ?_)
          · have hXb : ((sgS (lkS ρ) (nI u) 0) p) = (false, p, []) := (if_neg c38).trans ((if_neg (fun z => z.elim c_63 c_69)).trans (num_no c_9))
            refine V.iconst (pc := 77) 0 hC dX1_readSingle_77 (by decide) ?_
            exact hR 0 (ν 70, ν 71 0, ν 72 0) _ _ dX1_readSingle_78 (by first | rfl | exact bI_n _) ⟨rb0 (by rw [hXb]; exact fun z => absurd (show false = true from z) (by decide)), by rw [hXb]; exact CO_bad hP.2.2.1 (isN.mk hP.2.1 (by omega) (by omega))⟩
          · refine V.iload_n (pc := 72) 3 hC dX1_readSingle_72 rfl ?_
            refine V.iconst (pc := 73) 5 hC dX1_readSingle_73 (by decide) ?_
            refine V.icmp_lt (pc := 74) 79 hC dX1_readSingle_74 (by decide) (fun c_74 => ?_) (fun c_74 => ?_)
            · have nc_74 : 5 < 5 := (nlt (nl 5) (nl 5) (by omega) (by omega)).mp c_74
              exact absurd c_74 (by decide)
            · have nc_74 : ¬ (5 < 5) := fun z => c_74 ((nlt (nl 5) (nl 5) (by omega) (by omega)).mpr z)
              have hXb : ((sgS (lkS ρ) (nI u) 0) p) = (false, p, []) := (if_neg c38).trans ((if_pos (Or.inr c_69)).trans (if_pos rfl))
              refine V.iconst (pc := 77) 0 hC dX1_readSingle_77 (by decide) ?_
              exact hR 0 (ν 70, ν 71 0, ν 72 0) _ _ dX1_readSingle_78 (by first | rfl | exact bI_n _) ⟨rb0 (by rw [hXb]; exact fun z => absurd (show false = true from z) (by decide)), by rw [hXb]; exact CO_bad hP.2.2.1 (isN.mk hP.2.1 (by omega) (by omega))⟩
      · have hXm : ((sgS (lkS ρ) (nI u) 0) p) = (true, p + 1, [(2, (namS (nI u) (lkS ρ p)))]) := if_pos (i_nlt c_38)
        refine V.aload_n (pc := 41) 2 hC dX1_readSingle_41 rfl ?_
        refine V.dup (pc := 42) hC dX1_readSingle_42 rfl ?_
        refine V.get (pc := 43) (v := .int (ν 72 0)) hC cf_X1 3 3 fl_X1_29 (by decide) gx_3 rfl dX1_readSingle_43 ?_
        refine V.iconst (pc := 46) 1 hC dX1_readSingle_46 (by decide) ?_
        refine V.iadd (pc := 47) hC dX1_readSingle_47 ?_
        refine V.put (pc := 48) (v := .int ((ν 72 0) + 1)) hC cf_X1 3 3 (wX k g a σ (va_up ν 72 (fun _ => (ν 72 0) + 1))) fl_X1_29 (by decide) gx_3 rfl rfl rfl (Nat.le_of_ble_eq_true rfl) rfl dX1_readSingle_48 ?_
        refine V.aload_n (pc := 51) 2 hC dX1_readSingle_51 rfl ?_
        refine V.iconst (pc := 52) (-1) hC dX1_readSingle_52 (by decide) ?_
        refine V.iload_n (pc := 53) 0 hC dX1_readSingle_53 rfl ?_
        refine V.isub (pc := 54) hC dX1_readSingle_54 ?_
        refine V.callV0 (pc := 55) (as := [.int ((-1) - (namS (nI u) (lkS ρ p)))]) hC (c_X1_write σ (va_up ν 72 (fun _ => (ν 72 0) + 1)) ((-1) - (namS (nI u) (lkS ρ p))) (isN.mk hP.2.1 (by omega) (by omega))) mu_X1_write ml_X1_60 (by decide) ⟨3, 1, TX1, 5, _, rfl, gx_3⟩ rfl (Nat.le_of_ble_eq_true rfl) dX1_readSingle_55 ?_
        rintro _ ⟨f55_0, i55_1⟩ ⟨rfl, hu55_0⟩
        have hu55_0 : WtF ((ν 70)) ((ν 71 0)) ((-1) - (namS (nI u) (lkS ρ p))) f55_0 i55_1 := hu55_0
        show V X (wX k g a σ (va_up (va_up (va_up ν 72 (fun _ => (ν 72 0) + 1)) 70 f55_0) 71 (fun _ => i55_1))) [(3, .int (namS (nI u) (lkS ρ p))), (2, .int (lkS ρ p)), (0, .ref (a 3)), (1, .int 5)] [] 58
        refine V.iconst (pc := 58) 1 hC dX1_readSingle_58 (by decide) ?_
        exact hR 1 (f55_0, i55_1, (ν 72 0) + 1) _ _ dX1_readSingle_59 (by first | rfl | exact bI_n _) ⟨rb1 (by rw [hXm]), by rw [hXm]; exact CO_one hP.2.1 (by have := tok_lt lk_tok (nam_b (i_nlt c_38)).2; omega) (by rfl) hu55_0 (nadd hP.2.2.1 (nl 1))⟩
    · refine V.iconst (pc := 23) (-1) hC dX1_readSingle_23 (by decide) ?_
      refine V.goto (pc := 24) 36 hC dX1_readSingle_24 (by decide) ?_
      refine V.istore_n (pc := 36) [(3, .int (-1)), (2, .int (lkS ρ p)), (0, .ref (a 3)), (1, .int 5)] hC dX1_readSingle_36 (by decide) rfl ?_
      refine V.iload_n (pc := 37) 0 hC dX1_readSingle_37 rfl ?_
      refine V.if_lt (pc := 38) 60 hC dX1_readSingle_38 (by decide) (fun c_38 => ?_) (fun c_38 => ?_)
      · have c38 : ¬ 0 ≤ (namS (nI u) (lkS ρ p)) := by rw [c_20]; exact hm1
        refine V.iload_n (pc := 60) 1 hC dX1_readSingle_60 rfl ?_
        refine V.bipush (pc := 61) 33 hC dX1_readSingle_61 (by decide) ?_
        refine V.icmp_eq (pc := 63) 72 hC dX1_readSingle_63 (by decide) (fun c_63 => ?_) (fun c_63 => ?_)
        · refine V.iload_n (pc := 72) 3 hC dX1_readSingle_72 rfl ?_
          refine V.iconst (pc := 73) 5 hC dX1_readSingle_73 (by decide) ?_
          refine V.icmp_lt (pc := 74) 79 hC dX1_readSingle_74 (by decide) (fun c_74 => ?_) (fun c_74 => ?_)
          · have nc_74 : 5 < 5 := (nlt (nl 5) (nl 5) (by omega) (by omega)).mp c_74
            exact absurd c_74 (by decide)
          · have nc_74 : ¬ (5 < 5) := fun z => c_74 ((nlt (nl 5) (nl 5) (by omega) (by omega)).mpr z)
            have hXb : ((sgS (lkS ρ) (nI u) 0) p) = (false, p, []) := (if_neg c38).trans ((if_pos (Or.inl c_63)).trans (if_pos rfl))
            refine V.iconst (pc := 77) 0 hC dX1_readSingle_77 (by decide) ?_
            exact hR 0 (ν 70, ν 71 0, ν 72 0) _ _ dX1_readSingle_78 (by first | rfl | exact bI_n _) ⟨rb0 (by rw [hXb]; exact fun z => absurd (show false = true from z) (by decide)), by rw [hXb]; exact CO_bad hP.2.2.1 (isN.mk hP.2.1 (by omega) (by omega))⟩
        · refine V.iload_n (pc := 66) 1 hC dX1_readSingle_66 rfl ?_
          refine V.bipush (pc := 67) 40 hC dX1_readSingle_67 (by decide) ?_
          refine V.icmp_ne (pc := 69) 77 hC dX1_readSingle_69 (by decide) (fun c_69 => ?_) (fun c_69 => ?_)
          · have hXb : ((sgS (lkS ρ) (nI u) 0) p) = (false, p, []) := (if_neg c38).trans ((if_neg (fun z => z.elim c_63 c_69)).trans (num_no c_9))
            refine V.iconst (pc := 77) 0 hC dX1_readSingle_77 (by decide) ?_
            exact hR 0 (ν 70, ν 71 0, ν 72 0) _ _ dX1_readSingle_78 (by first | rfl | exact bI_n _) ⟨rb0 (by rw [hXb]; exact fun z => absurd (show false = true from z) (by decide)), by rw [hXb]; exact CO_bad hP.2.2.1 (isN.mk hP.2.1 (by omega) (by omega))⟩
          · refine V.iload_n (pc := 72) 3 hC dX1_readSingle_72 rfl ?_
            refine V.iconst (pc := 73) 5 hC dX1_readSingle_73 (by decide) ?_
            refine V.icmp_lt (pc := 74) 79 hC dX1_readSingle_74 (by decide) (fun c_74 => ?_) (fun c_74 => ?_)
            · have nc_74 : 5 < 5 := (nlt (nl 5) (nl 5) (by omega) (by omega)).mp c_74
              exact absurd c_74 (by decide)
            · have nc_74 : ¬ (5 < 5) := fun z => c_74 ((nlt (nl 5) (nl 5) (by omega) (by omega)).mpr z)
              have hXb : ((sgS (lkS ρ) (nI u) 0) p) = (false, p, []) := (if_neg c38).trans ((if_pos (Or.inr c_69)).trans (if_pos rfl))
              refine V.iconst (pc := 77) 0 hC dX1_readSingle_77 (by decide) ?_
              exact hR 0 (ν 70, ν 71 0, ν 72 0) _ _ dX1_readSingle_78 (by first | rfl | exact bI_n _) ⟨rb0 (by rw [hXb]; exact fun z => absurd (show false = true from z) (by decide)), by rw [hXb]; exact CO_bad hP.2.2.1 (isN.mk hP.2.1 (by omega) (by omega))⟩
      · exact absurd c_38 (by decide)
  · have hdn := dig_nam (u := nI u) c_9
    have hXn : ((sgS (lkS ρ) (nI u) 0) p) = numS (lkS ρ) p := (if_neg hdn.1).trans (if_neg hdn.2)
    refine V.aload_n (pc := 12) 1 hC dX1_readSingle_12 rfl ?_
    refine V.callV0 (pc := 13) (as := []) hC (c_X1_readNumber σ ν ρ u L p hT hI hu2 hP c_9) mu_X1_readNumber ml_X1_71 (by decide) ⟨3, 1, TX1, 5, _, rfl, gx_3⟩ rfl (Nat.le_of_ble_eq_true rfl) dX1_readSingle_13 ?_
    rintro _ ⟨f13_0, i13_1, i13_2⟩ ⟨rfl, hu13_0⟩
    have hu13_0 : COut (ν 70) L (numS (lkS ρ) p) f13_0 i13_1 i13_2 := hu13_0
    show V X (wX k g a σ (va_up (va_up (va_up ν 70 f13_0) 71 (fun _ => i13_1)) 72 (fun _ => i13_2))) [(2, .int (lkS ρ p)), (0, .ref (a 3)), (1, .int 5)] [] 16
    refine V.iconst (pc := 16) 1 hC dX1_readSingle_16 (by decide) ?_
    exact hR 1 (f13_0, i13_1, i13_2) _ _ dX1_readSingle_17 (by first | rfl | exact bI_n _) ⟨rb1 (by rw [hXn, numS, if_pos c_9]), by rw [hXn]; exact hu13_0⟩
set_option maxHeartbeats 4000000 in
set_option maxRecDepth 100000 in
theorem c_X1_side_5_5 {l : Launch} {D : va_G} {k : Nat → ClassId} {g a : Nat → Nat} (σ ν : St) (ρ : Rw) (u L p : Nat) (hT : RT σ ρ) (hI : Inv ρ) (hu2 : u < 2) (hP : CIn (nN (ρ 5)) (ν 71 0) (ν 72 0) (ν 73 0) u L p) : Ct l D k g yX1_readSide cX1_readSide 3 (some .boolean) 5 114 [.ref (a 3), .int 5, .int 5] (S := Rw × Int32 × Int32) (wX k g a σ ν) (fun uu => wX k g a σ (va_up (va_up (va_up ν 70 uu.1) 71 (fun _ => uu.2.1)) 72 (fun _ => uu.2.2))) (fun vv uu => vv = some (.int (bI (((sgS (lkS ρ) (nI u) 0) p).1 = true))) ∧ COut (ν 70) L ((sgS (lkS ρ) (nI u) 0) p) uu.1 uu.2.1 uu.2.2) := by
  refine Ct.ofI RX1 rfl (by decide +kernel) (Nat.le_of_ble_eq_true rfl) (fun X hC hR => ?_)
  have hb60 := hI.bb; have hle := hP.2.2.2
  show V X (wX k g a σ ν) [(0, .ref (a 3)), (1, .int 5), (2, .int 5)] [] 0
  refine V.iload_n (pc := 0) 1 hC dX1_readSide_0 rfl ?_
  refine V.iconst (pc := 1) 5 hC dX1_readSide_1 (by decide) ?_
  refine V.icmp_ge (pc := 2) 14 hC dX1_readSide_2 (by decide) (fun c_2 => ?_) (fun c_2 => ?_)
  · have nc_2 : 5 ≤ 5 := (nle (nl 5) (nl 5) (by omega) (by omega)).mp c_2
    refine V.aload_n (pc := 14) 0 hC dX1_readSide_14 rfl ?_
    refine V.iload_n (pc := 15) 2 hC dX1_readSide_15 rfl ?_
    refine V.callV0 (pc := 16) (as := [.int 5]) hC (c_X1_single_5 σ ν ρ u L p hT hI hu2 hP) mu_X1_readSingle ml_X1_64 (by decide) ⟨3, 1, TX1, 5, _, rfl, gx_3⟩ rfl (Nat.le_of_ble_eq_true rfl) dX1_readSide_16 ?_
    rintro _ ⟨f16_0, i16_1, i16_2⟩ ⟨rfl, hu16_0⟩
    have hu16_0 : COut (ν 70) L ((sgS (lkS ρ) (nI u) 0) p) f16_0 i16_1 i16_2 := hu16_0
    show V X (wX k g a σ (va_up (va_up (va_up ν 70 f16_0) 71 (fun _ => i16_1)) 72 (fun _ => i16_2))) [(0, .ref (a 3)), (1, .int 5), (2, .int 5)] [.int (bI (((sgS (lkS ρ) (nI u) 0) p).1 = true))] 19
    exact hR (bI (((sgS (lkS ρ) (nI u) 0) p).1 = true)) (f16_0, i16_1, i16_2) _ _ dX1_readSide_19 (by first | rfl | exact bI_n _) ⟨rfl, hu16_0⟩
  · have nc_2 : ¬ (5 ≤ 5) := fun z => c_2 ((nle (nl 5) (nl 5) (by omega) (by omega)).mpr z)
    exact absurd c_2 (by decide)
set_option maxHeartbeats 4000000 in
set_option maxRecDepth 100000 in
theorem c_X1_part_4_5 {l : Launch} {D : va_G} {k : Nat → ClassId} {g a : Nat → Nat} (σ ν : St) (ρ : Rw) (u L p : Nat) (hT : RT σ ρ) (hI : Inv ρ) (hu2 : u < 2) (hP : CIn (nN (ρ 5)) (ν 71 0) (ν 72 0) (ν 73 0) u L p) : Ct l D k g yX1_readPart cX1_readPart 7 (some .boolean) 6 136 [.ref (a 3), .int 4, .int 5] (S := Rw × Int32 × Int32) (wX k g a σ ν) (fun uu => wX k g a σ (va_up (va_up (va_up ν 70 uu.1) 71 (fun _ => uu.2.1)) 72 (fun _ => uu.2.2))) (fun vv uu => vv = some (.int (bI (((lvS (lkS ρ) (sgS (lkS ρ) (nI u) 0) 1) p).1 = true))) ∧ COut (ν 70) L ((lvS (lkS ρ) (sgS (lkS ρ) (nI u) 0) 1) p) uu.1 uu.2.1 uu.2.2) := by
  refine Ct.ofI RX1 rfl (by decide +kernel) (Nat.le_of_ble_eq_true rfl) (fun X hC hR => ?_)
  have hb60 := hI.bb; have hle := hP.2.2.2
  show V X (wX k g a σ ν) [(0, .ref (a 3)), (1, .int 4), (2, .int 5)] [] 0
  refine V.aload_n (pc := 0) 0 hC dX1_readPart_0 rfl ?_
  refine V.iload_n (pc := 1) 1 hC dX1_readPart_1 rfl ?_
  refine V.iconst (pc := 2) 1 hC dX1_readPart_2 (by decide) ?_
  refine V.iadd (pc := 3) hC dX1_readPart_3 ?_
  refine V.eqi (y := 5) (by decide) ?_
  refine V.iload_n (pc := 4) 2 hC dX1_readPart_4 rfl ?_
  refine V.callV0 (pc := 5) (as := [.int 5, .int 5]) hC (c_X1_side_5_5 σ ν ρ u L p hT hI hu2 hP) mu_X1_readSide ml_X1_49 (by decide) ⟨3, 1, TX1, 5, _, rfl, gx_3⟩ rfl (Nat.le_of_ble_eq_true rfl) dX1_readPart_5 ?_
  rintro _ ⟨f5_0, i5_1, i5_2⟩ ⟨rfl, hu5_0⟩
  have hu5_0 : COut (ν 70) L ((sgS (lkS ρ) (nI u) 0) p) f5_0 i5_1 i5_2 := hu5_0
  show V X (wX k g a σ (va_up (va_up (va_up ν 70 f5_0) 71 (fun _ => i5_1)) 72 (fun _ => i5_2))) [(0, .ref (a 3)), (1, .int 4), (2, .int 5)] [.int (bI (((sgS (lkS ρ) (nI u) 0) p).1 = true))] 8
  refine V.istore_n (pc := 8) [(3, .int (bI (((sgS (lkS ρ) (nI u) 0) p).1 = true))), (0, .ref (a 3)), (1, .int 4), (2, .int 5)] hC dX1_readPart_8 (by decide) rfl ?_
  refine V.iload_n (pc := 9) 2 hC dX1_readPart_9 rfl ?_
  refine V.iconst (pc := 10) 2 hC dX1_readPart_10 (by decide) ?_
  refine V.icmp_ne (pc := 11) 18 hC dX1_readPart_11 (by decide) (fun c_11 => ?_) (fun c_11 => ?_)
  · have nc_11 : ¬ (4 = 2) := fun z => c_11 ((neq (nl 4) (nl 2) (by omega) (by omega)).mpr z)
    refine V.bipush (pc := 18) 60 hC dX1_readPart_18 (by decide) ?_
    refine V.istore (pc := 20) [(4, .int 60), (3, .int (bI (((sgS (lkS ρ) (nI u) 0) p).1 = true))), (0, .ref (a 3)), (1, .int 4), (2, .int 5)] hC dX1_readPart_20 (by decide) rfl ?_
    refine V.iconst (pc := 22) 0 hC dX1_readPart_22 (by decide) ?_
    refine V.istore (pc := 23) [(5, .int 0), (4, .int 60), (3, .int (bI (((sgS (lkS ρ) (nI u) 0) p).1 = true))), (0, .ref (a 3)), (1, .int 4), (2, .int 5)] hC dX1_readPart_23 (by decide) rfl ?_
    have loop_25 : ∀ (n : Nat) (x : Res) (i : Nat) (f70 : Rw) (i71 i72 : Int32), i + n = 60 → GR (nN (ρ 5)) p x → COut (ν 70) L x f70 i71 i72 → (lvS (lkS ρ) (sgS (lkS ρ) (nI u) 0) 1) p = lpS (lkS ρ) (sgS (lkS ρ) (nI u) 0) 4 n x → V X (wX k g a σ (va_up (va_up (va_up ν 70 f70) 71 (fun _ => i71)) 72 (fun _ => i72))) [(0, .ref (a 3)), (1, .int 4), (2, .int 5), (3, .int (bI (x.1 = true))), (4, .int 60), (5, .int (nI i))] [] 25 := by
      intro n
      induction n with
      | zero =>
        intro x i f70 i71 i72 hi hg hx hv
        have hxb := hg.2.1
        refine V.iload (pc := 25) 5 hC dX1_readPart_25 rfl ?_
        refine V.iload (pc := 27) 4 hC dX1_readPart_27 rfl ?_
        refine V.icmp_ge (pc := 29) 85 hC dX1_readPart_29 (by decide) (fun c_29 => ?_) (fun c_29 => ?_)
        · have nc_29 : 60 ≤ i := (nle (nl 60) rfl (by omega) (by omega)).mp c_29
          refine V.iload_n (pc := 85) 3 hC dX1_readPart_85 rfl ?_
          exact hR (bI (x.1 = true)) (f70, i71, i72) _ _ dX1_readPart_86 (by first | rfl | exact bI_n _) ⟨by rw [show (lvS (lkS ρ) (sgS (lkS ρ) (nI u) 0) 1) p = x from hv], by rw [show (lvS (lkS ρ) (sgS (lkS ρ) (nI u) 0) 1) p = x from hv]; exact hx⟩
        · have nc_29 : ¬ (60 ≤ i) := fun z => c_29 ((nle (nl 60) rfl (by omega) (by omega)).mpr z)
          exfalso; omega
      | succ n ih =>
        intro x i f70 i71 i72 hi hg hx hv
        have hxb := hg.2.1
        refine V.iload (pc := 25) 5 hC dX1_readPart_25 rfl ?_
        refine V.iload (pc := 27) 4 hC dX1_readPart_27 rfl ?_
        refine V.icmp_ge (pc := 29) 85 hC dX1_readPart_29 (by decide) (fun c_29 => ?_) (fun c_29 => ?_)
        · have nc_29 : 60 ≤ i := (nle (nl 60) rfl (by omega) (by omega)).mp c_29
          exfalso; omega
        · have nc_29 : ¬ (60 ≤ i) := fun z => c_29 ((nle (nl 60) rfl (by omega) (by omega)).mpr z)
          refine V.iload_n (pc := 32) 3 hC dX1_readPart_32 rfl ?_
          refine V.if_eq_b (P := x.1 = true) (pc := 33) 85 hC dX1_readPart_33 (by decide) (fun c_33 => ?_) (fun c_33 => ?_)
          · refine V.iload_n (pc := 85) 3 hC dX1_readPart_85 rfl ?_
            exact hR (bI (x.1 = true)) (f70, i71, i72) _ _ dX1_readPart_86 (by first | rfl | exact bI_n _) ⟨by rw [show (lvS (lkS ρ) (sgS (lkS ρ) (nI u) 0) 1) p = x from hv.trans (lp_no (fun q => c_33 q.1))], by rw [show (lvS (lkS ρ) (sgS (lkS ρ) (nI u) 0) 1) p = x from hv.trans (lp_no (fun q => c_33 q.1))]; exact hx⟩
          · refine V.aload_n (pc := 36) 0 hC dX1_readPart_36 rfl ?_
            refine V.callV0 (pc := 37) (as := []) hC (c_X1_next σ (va_up (va_up (va_up ν 70 f70) 71 (fun _ => i71)) 72 (fun _ => i72)) ρ x.2.1 hT hI hx.1 (by omega)) mu_X1_next ml_X1_52 (by decide) ⟨3, 1, TX1, 5, _, rfl, gx_3⟩ rfl (Nat.le_of_ble_eq_true rfl) dX1_readPart_37 ?_
            rintro _ _ rfl
            show V X (wX k g a σ (va_up (va_up (va_up ν 70 f70) 71 (fun _ => i71)) 72 (fun _ => i72))) [(0, .ref (a 3)), (1, .int 4), (2, .int 5), (3, .int (bI (x.1 = true))), (4, .int 60), (5, .int (nI i))] [.int (lkS ρ x.2.1)] 40
            refine V.callS0 (pc := 40) (as := [.int (lkS ρ x.2.1)]) hC (c_X1_rankOf (lkS ρ x.2.1) ) ms_X1_rankOf ml_X1_56 (by decide) rfl (Nat.le_of_ble_eq_true rfl) dX1_readPart_40 ?_
            rintro _ _ rfl
            show V X (wX k g a σ (va_up (va_up (va_up ν 70 f70) 71 (fun _ => i71)) 72 (fun _ => i72))) [(0, .ref (a 3)), (1, .int 4), (2, .int 5), (3, .int (bI (x.1 = true))), (4, .int 60), (5, .int (nI i))] [.int (nI (rkS (lkS ρ x.2.1)))] 43
            refine V.iload_n (pc := 43) 1 hC dX1_readPart_43 rfl ?_
            refine V.icmp_ne (pc := 44) 85 hC dX1_readPart_44 (by decide) (fun c_44 => ?_) (fun c_44 => ?_)
            · refine V.iload_n (pc := 85) 3 hC dX1_readPart_85 rfl ?_
              exact hR (bI (x.1 = true)) (f70, i71, i72) _ _ dX1_readPart_86 (by first | rfl | exact bI_n _) ⟨by rw [show (lvS (lkS ρ) (sgS (lkS ρ) (nI u) 0) 1) p = x from hv.trans (lp_no (fun q => c_44 ((rk_e (r := 4) (by omega)).mpr q.2)))], by rw [show (lvS (lkS ρ) (sgS (lkS ρ) (nI u) 0) 1) p = x from hv.trans (lp_no (fun q => c_44 ((rk_e (r := 4) (by omega)).mpr q.2)))]; exact hx⟩
            · have hok := c_33
              have hgx := hg.2.2 hok
              have hrk : rkS (lkS ρ x.2.1) = 4 := (rk_e (r := 4) (by omega)).mp c_44
              have hlt : x.2.1 < nN (ρ 5) := tok_lt lk_tok (rk_op hrk (by omega)).2
              have hgy := (sg_g (u := nI u) (lk_tok (ρ := ρ)) 0) (x.2.1 + 1) hlt
              refine V.aload_n (pc := 47) 0 hC dX1_readPart_47 rfl ?_
              refine V.callV0 (pc := 48) (as := []) hC (c_X1_next σ (va_up (va_up (va_up ν 70 f70) 71 (fun _ => i71)) 72 (fun _ => i72)) ρ x.2.1 hT hI hx.1 (by omega)) mu_X1_next ml_X1_52 (by decide) ⟨3, 1, TX1, 5, _, rfl, gx_3⟩ rfl (Nat.le_of_ble_eq_true rfl) dX1_readPart_48 ?_
              rintro _ _ rfl
              show V X (wX k g a σ (va_up (va_up (va_up ν 70 f70) 71 (fun _ => i71)) 72 (fun _ => i72))) [(0, .ref (a 3)), (1, .int 4), (2, .int 5), (3, .int (bI (x.1 = true))), (4, .int 60), (5, .int (nI i))] [.int (lkS ρ x.2.1)] 51
              refine V.istore (pc := 51) [(6, .int (lkS ρ x.2.1)), (0, .ref (a 3)), (1, .int 4), (2, .int 5), (3, .int (bI (x.1 = true))), (4, .int 60), (5, .int (nI i))] hC dX1_readPart_51 (by decide) rfl ?_
              refine V.aload_n (pc := 53) 1 hC dX1_readPart_53 rfl ?_
              refine V.dup (pc := 54) hC dX1_readPart_54 rfl ?_
              refine V.get (pc := 55) (v := .int i72) hC cf_X1 3 3 fl_X1_29 (by decide) gx_3 rfl dX1_readPart_55 ?_
              refine V.iconst (pc := 58) 1 hC dX1_readPart_58 (by decide) ?_
              refine V.iadd (pc := 59) hC dX1_readPart_59 ?_
              refine V.put (pc := 60) (v := .int (i72 + 1)) hC cf_X1 3 3 (wX k g a σ (va_up (va_up (va_up ν 70 f70) 71 (fun _ => i71)) 72 (fun _ => i72 + 1))) fl_X1_29 (by decide) gx_3 rfl rfl rfl (Nat.le_of_ble_eq_true rfl) rfl dX1_readPart_60 ?_
              refine V.aload_n (pc := 63) 1 hC dX1_readPart_63 rfl ?_
              refine V.iload_n (pc := 64) 2 hC dX1_readPart_64 rfl ?_
              refine V.iconst (pc := 65) 1 hC dX1_readPart_65 (by decide) ?_
              refine V.iadd (pc := 66) hC dX1_readPart_66 ?_
              refine V.eqi (y := 5) (by decide) ?_
              refine V.iload_n (pc := 67) 3 hC dX1_readPart_67 rfl ?_
              refine V.callV0 (pc := 68) (as := [.int 5, .int 5]) hC (c_X1_side_5_5 σ (va_up (va_up (va_up ν 70 f70) 71 (fun _ => i71)) 72 (fun _ => i72 + 1)) ρ u (L + x.2.2.length) (x.2.1 + 1) hT hI hu2 ⟨hP.1, (hx.2.2 hok).1, nadd hx.1 (nl 1), by omega, hlt⟩) mu_X1_readSide ml_X1_49 (by decide) ⟨3, 1, TX1, 5, _, rfl, gx_3⟩ rfl (Nat.le_of_ble_eq_true rfl) dX1_readPart_68 ?_
              rintro _ ⟨f68_0, i68_1, i68_2⟩ ⟨rfl, hu68_0⟩
              have hu68_0 : COut (f70) (L + x.2.2.length) ((sgS (lkS ρ) (nI u) 0) (x.2.1 + 1)) f68_0 i68_1 i68_2 := hu68_0
              show V X (wX k g a σ (va_up (va_up (va_up ν 70 f68_0) 71 (fun _ => i68_1)) 72 (fun _ => i68_2))) [(6, .int (lkS ρ x.2.1)), (0, .ref (a 3)), (1, .int 4), (2, .int 5), (3, .int (bI (x.1 = true))), (4, .int 60), (5, .int (nI i))] [.int (bI (((sgS (lkS ρ) (nI u) 0) (x.2.1 + 1)).1 = true))] 71
              refine V.istore_n (pc := 71) [(3, .int (bI (((sgS (lkS ρ) (nI u) 0) (x.2.1 + 1)).1 = true))), (6, .int (lkS ρ x.2.1)), (0, .ref (a 3)), (1, .int 4), (2, .int 5), (4, .int 60), (5, .int (nI i))] hC dX1_readPart_71 (by decide) rfl ?_
              refine V.aload_n (pc := 72) 2 hC dX1_readPart_72 rfl ?_
              refine V.iload (pc := 73) 1 hC dX1_readPart_73 rfl ?_
              refine V.ineg (pc := 75) hC dX1_readPart_75 ?_
              refine V.callV0 (pc := 76) (as := [.int (-(lkS ρ x.2.1))]) hC (c_X1_write σ (va_up (va_up (va_up ν 70 f68_0) 71 (fun _ => i68_1)) 72 (fun _ => i68_2)) (-(lkS ρ x.2.1)) hu68_0.2.1) mu_X1_write ml_X1_60 (by decide) ⟨3, 1, TX1, 5, _, rfl, gx_3⟩ rfl (Nat.le_of_ble_eq_true rfl) dX1_readPart_76 ?_
              rintro _ ⟨f76_0, i76_1⟩ ⟨rfl, hu76_0⟩
              have hu76_0 : WtF (f68_0) (i68_1) (-(lkS ρ x.2.1)) f76_0 i76_1 := hu76_0
              show V X (wX k g a σ (va_up (va_up (va_up ν 70 f76_0) 71 (fun _ => i76_1)) 72 (fun _ => i68_2))) [(3, .int (bI (((sgS (lkS ρ) (nI u) 0) (x.2.1 + 1)).1 = true))), (6, .int (lkS ρ x.2.1)), (0, .ref (a 3)), (1, .int 4), (2, .int 5), (4, .int 60), (5, .int (nI i))] [] 79
              refine V.iinc (pc := 79) 6 (nI (i + 1)) [(5, .int (nI (i + 1))), (3, .int (bI (((sgS (lkS ρ) (nI u) 0) (x.2.1 + 1)).1 = true))), (6, .int (lkS ρ x.2.1)), (0, .ref (a 3)), (1, .int 4), (2, .int 5), (4, .int 60)] hC dX1_readPart_79 rfl (ncast (nadd rfl (nl 1)) (by omega)) (by decide) rfl ?_
              refine V.goto (pc := 82) 25 hC dX1_readPart_82 (by decide) ?_
              exact V.sub [3, 4, 5, 1, 6, 0] rfl (ih (appS x ((sgS (lkS ρ) (nI u) 0) (x.2.1 + 1)) (lkS ρ x.2.1)) (i + 1) f76_0 i76_1 i68_2 (by omega) (hg.app hok hgy (rk_op hrk (by omega)).1) (CO_app hx hok hu68_0 (cd_op1 (rk_op hrk (by omega)).1).symm hu76_0 (fun q => by have := hgy.2.2 q; have := hgy.2.1; omega)) (hv.trans (lp_yes ⟨hok, hrk⟩)))
    exact V.sub [3, 4, 5, 2, 1, 0] rfl (loop_25 60 ((sgS (lkS ρ) (nI u) 0) p) 0 f5_0 i5_1 i5_2 (by omega) ((sg_g (u := nI u) (lk_tok (ρ := ρ)) 0) p (by omega)) hu5_0 rfl)
  · have nc_11 : 4 = 2 := (neq (nl 4) (nl 2) (by omega) (by omega)).mp c_11
    exact absurd c_11 (by decide)
set_option maxHeartbeats 4000000 in
set_option maxRecDepth 100000 in
theorem c_X1_side_4_5 {l : Launch} {D : va_G} {k : Nat → ClassId} {g a : Nat → Nat} (σ ν : St) (ρ : Rw) (u L p : Nat) (hT : RT σ ρ) (hI : Inv ρ) (hu2 : u < 2) (hP : CIn (nN (ρ 5)) (ν 71 0) (ν 72 0) (ν 73 0) u L p) : Ct l D k g yX1_readSide cX1_readSide 3 (some .boolean) 7 162 [.ref (a 3), .int 4, .int 5] (S := Rw × Int32 × Int32) (wX k g a σ ν) (fun uu => wX k g a σ (va_up (va_up (va_up ν 70 uu.1) 71 (fun _ => uu.2.1)) 72 (fun _ => uu.2.2))) (fun vv uu => vv = some (.int (bI (((lvS (lkS ρ) (sgS (lkS ρ) (nI u) 0) 1) p).1 = true))) ∧ COut (ν 70) L ((lvS (lkS ρ) (sgS (lkS ρ) (nI u) 0) 1) p) uu.1 uu.2.1 uu.2.2) := by
  refine Ct.ofI RX1 rfl (by decide +kernel) (Nat.le_of_ble_eq_true rfl) (fun X hC hR => ?_)
  have hb60 := hI.bb; have hle := hP.2.2.2
  show V X (wX k g a σ ν) [(0, .ref (a 3)), (1, .int 4), (2, .int 5)] [] 0
  refine V.iload_n (pc := 0) 1 hC dX1_readSide_0 rfl ?_
  refine V.iconst (pc := 1) 5 hC dX1_readSide_1 (by decide) ?_
  refine V.icmp_ge (pc := 2) 14 hC dX1_readSide_2 (by decide) (fun c_2 => ?_) (fun c_2 => ?_)
  · have nc_2 : 5 ≤ 4 := (nle (nl 5) (nl 4) (by omega) (by omega)).mp c_2
    exact absurd c_2 (by decide)
  · have nc_2 : ¬ (5 ≤ 4) := fun z => c_2 ((nle (nl 5) (nl 4) (by omega) (by omega)).mpr z)
    refine V.aload_n (pc := 5) 0 hC dX1_readSide_5 rfl ?_
    refine V.iload_n (pc := 6) 1 hC dX1_readSide_6 rfl ?_
    refine V.iload_n (pc := 7) 2 hC dX1_readSide_7 rfl ?_
    refine V.callV0 (pc := 8) (as := [.int 4, .int 5]) hC (c_X1_part_4_5 σ ν ρ u L p hT hI hu2 hP) mu_X1_readPart ml_X1_36 (by decide) ⟨3, 1, TX1, 5, _, rfl, gx_3⟩ rfl (Nat.le_of_ble_eq_true rfl) dX1_readSide_8 ?_
    rintro _ ⟨f8_0, i8_1, i8_2⟩ ⟨rfl, hu8_0⟩
    have hu8_0 : COut (ν 70) L ((lvS (lkS ρ) (sgS (lkS ρ) (nI u) 0) 1) p) f8_0 i8_1 i8_2 := hu8_0
    show V X (wX k g a σ (va_up (va_up (va_up ν 70 f8_0) 71 (fun _ => i8_1)) 72 (fun _ => i8_2))) [(0, .ref (a 3)), (1, .int 4), (2, .int 5)] [.int (bI (((lvS (lkS ρ) (sgS (lkS ρ) (nI u) 0) 1) p).1 = true))] 11
    refine V.goto (pc := 11) 19 hC dX1_readSide_11 (by decide) ?_
    exact hR (bI (((lvS (lkS ρ) (sgS (lkS ρ) (nI u) 0) 1) p).1 = true)) (f8_0, i8_1, i8_2) _ _ dX1_readSide_19 (by first | rfl | exact bI_n _) ⟨rfl, hu8_0⟩
set_option maxHeartbeats 4000000 in
set_option maxRecDepth 100000 in
theorem c_X1_part_3_5 {l : Launch} {D : va_G} {k : Nat → ClassId} {g a : Nat → Nat} (σ ν : St) (ρ : Rw) (u L p : Nat) (hT : RT σ ρ) (hI : Inv ρ) (hu2 : u < 2) (hP : CIn (nN (ρ 5)) (ν 71 0) (ν 72 0) (ν 73 0) u L p) : Ct l D k g yX1_readPart cX1_readPart 7 (some .boolean) 8 184 [.ref (a 3), .int 3, .int 5] (S := Rw × Int32 × Int32) (wX k g a σ ν) (fun uu => wX k g a σ (va_up (va_up (va_up ν 70 uu.1) 71 (fun _ => uu.2.1)) 72 (fun _ => uu.2.2))) (fun vv uu => vv = some (.int (bI (((lvS (lkS ρ) (sgS (lkS ρ) (nI u) 0) 2) p).1 = true))) ∧ COut (ν 70) L ((lvS (lkS ρ) (sgS (lkS ρ) (nI u) 0) 2) p) uu.1 uu.2.1 uu.2.2) := by
  refine Ct.ofI RX1 rfl (by decide +kernel) (Nat.le_of_ble_eq_true rfl) (fun X hC hR => ?_)
  have hb60 := hI.bb; have hle := hP.2.2.2
  show V X (wX k g a σ ν) [(0, .ref (a 3)), (1, .int 3), (2, .int 5)] [] 0
  refine V.aload_n (pc := 0) 0 hC dX1_readPart_0 rfl ?_
  refine V.iload_n (pc := 1) 1 hC dX1_readPart_1 rfl ?_
  refine V.iconst (pc := 2) 1 hC dX1_readPart_2 (by decide) ?_
  refine V.iadd (pc := 3) hC dX1_readPart_3 ?_
  refine V.eqi (y := 4) (by decide) ?_
  refine V.iload_n (pc := 4) 2 hC dX1_readPart_4 rfl ?_
  refine V.callV0 (pc := 5) (as := [.int 4, .int 5]) hC (c_X1_side_4_5 σ ν ρ u L p hT hI hu2 hP) mu_X1_readSide ml_X1_49 (by decide) ⟨3, 1, TX1, 5, _, rfl, gx_3⟩ rfl (Nat.le_of_ble_eq_true rfl) dX1_readPart_5 ?_
  rintro _ ⟨f5_0, i5_1, i5_2⟩ ⟨rfl, hu5_0⟩
  have hu5_0 : COut (ν 70) L ((lvS (lkS ρ) (sgS (lkS ρ) (nI u) 0) 1) p) f5_0 i5_1 i5_2 := hu5_0
  show V X (wX k g a σ (va_up (va_up (va_up ν 70 f5_0) 71 (fun _ => i5_1)) 72 (fun _ => i5_2))) [(0, .ref (a 3)), (1, .int 3), (2, .int 5)] [.int (bI (((lvS (lkS ρ) (sgS (lkS ρ) (nI u) 0) 1) p).1 = true))] 8
  refine V.istore_n (pc := 8) [(3, .int (bI (((lvS (lkS ρ) (sgS (lkS ρ) (nI u) 0) 1) p).1 = true))), (0, .ref (a 3)), (1, .int 3), (2, .int 5)] hC dX1_readPart_8 (by decide) rfl ?_
  refine V.iload_n (pc := 9) 2 hC dX1_readPart_9 rfl ?_
  refine V.iconst (pc := 10) 2 hC dX1_readPart_10 (by decide) ?_
  refine V.icmp_ne (pc := 11) 18 hC dX1_readPart_11 (by decide) (fun c_11 => ?_) (fun c_11 => ?_)
  · have nc_11 : ¬ (3 = 2) := fun z => c_11 ((neq (nl 3) (nl 2) (by omega) (by omega)).mpr z)
    refine V.bipush (pc := 18) 60 hC dX1_readPart_18 (by decide) ?_
    refine V.istore (pc := 20) [(4, .int 60), (3, .int (bI (((lvS (lkS ρ) (sgS (lkS ρ) (nI u) 0) 1) p).1 = true))), (0, .ref (a 3)), (1, .int 3), (2, .int 5)] hC dX1_readPart_20 (by decide) rfl ?_
    refine V.iconst (pc := 22) 0 hC dX1_readPart_22 (by decide) ?_
    refine V.istore (pc := 23) [(5, .int 0), (4, .int 60), (3, .int (bI (((lvS (lkS ρ) (sgS (lkS ρ) (nI u) 0) 1) p).1 = true))), (0, .ref (a 3)), (1, .int 3), (2, .int 5)] hC dX1_readPart_23 (by decide) rfl ?_
    have loop_25 : ∀ (n : Nat) (x : Res) (i : Nat) (f70 : Rw) (i71 i72 : Int32), i + n = 60 → GR (nN (ρ 5)) p x → COut (ν 70) L x f70 i71 i72 → (lvS (lkS ρ) (sgS (lkS ρ) (nI u) 0) 2) p = lpS (lkS ρ) (lvS (lkS ρ) (sgS (lkS ρ) (nI u) 0) 1) 3 n x → V X (wX k g a σ (va_up (va_up (va_up ν 70 f70) 71 (fun _ => i71)) 72 (fun _ => i72))) [(0, .ref (a 3)), (1, .int 3), (2, .int 5), (3, .int (bI (x.1 = true))), (4, .int 60), (5, .int (nI i))] [] 25 := by
      intro n
      induction n with
      | zero =>
        intro x i f70 i71 i72 hi hg hx hv
        have hxb := hg.2.1
        refine V.iload (pc := 25) 5 hC dX1_readPart_25 rfl ?_
        refine V.iload (pc := 27) 4 hC dX1_readPart_27 rfl ?_
        refine V.icmp_ge (pc := 29) 85 hC dX1_readPart_29 (by decide) (fun c_29 => ?_) (fun c_29 => ?_)
        · have nc_29 : 60 ≤ i := (nle (nl 60) rfl (by omega) (by omega)).mp c_29
          refine V.iload_n (pc := 85) 3 hC dX1_readPart_85 rfl ?_
          exact hR (bI (x.1 = true)) (f70, i71, i72) _ _ dX1_readPart_86 (by first | rfl | exact bI_n _) ⟨by rw [show (lvS (lkS ρ) (sgS (lkS ρ) (nI u) 0) 2) p = x from hv], by rw [show (lvS (lkS ρ) (sgS (lkS ρ) (nI u) 0) 2) p = x from hv]; exact hx⟩
        · have nc_29 : ¬ (60 ≤ i) := fun z => c_29 ((nle (nl 60) rfl (by omega) (by omega)).mpr z)
          exfalso; omega
      | succ n ih =>
        intro x i f70 i71 i72 hi hg hx hv
        have hxb := hg.2.1
        refine V.iload (pc := 25) 5 hC dX1_readPart_25 rfl ?_
        refine V.iload (pc := 27) 4 hC dX1_readPart_27 rfl ?_
        refine V.icmp_ge (pc := 29) 85 hC dX1_readPart_29 (by decide) (fun c_29 => ?_) (fun c_29 => ?_)
        · have nc_29 : 60 ≤ i := (nle (nl 60) rfl (by omega) (by omega)).mp c_29
          exfalso; omega
        · have nc_29 : ¬ (60 ≤ i) := fun z => c_29 ((nle (nl 60) rfl (by omega) (by omega)).mpr z)
          refine V.iload_n (pc := 32) 3 hC dX1_readPart_32 rfl ?_
          refine V.if_eq_b (P := x.1 = true) (pc := 33) 85 hC dX1_readPart_33 (by decide) (fun c_33 => ?_) (fun c_33 => ?_)
          · refine V.iload_n (pc := 85) 3 hC dX1_readPart_85 rfl ?_
            exact hR (bI (x.1 = true)) (f70, i71, i72) _ _ dX1_readPart_86 (by first | rfl | exact bI_n _) ⟨by rw [show (lvS (lkS ρ) (sgS (lkS ρ) (nI u) 0) 2) p = x from hv.trans (lp_no (fun q => c_33 q.1))], by rw [show (lvS (lkS ρ) (sgS (lkS ρ) (nI u) 0) 2) p = x from hv.trans (lp_no (fun q => c_33 q.1))]; exact hx⟩
          · refine V.aload_n (pc := 36) 0 hC dX1_readPart_36 rfl ?_
            refine V.callV0 (pc := 37) (as := []) hC (c_X1_next σ (va_up (va_up (va_up ν 70 f70) 71 (fun _ => i71)) 72 (fun _ => i72)) ρ x.2.1 hT hI hx.1 (by omega)) mu_X1_next ml_X1_52 (by decide) ⟨3, 1, TX1, 5, _, rfl, gx_3⟩ rfl (Nat.le_of_ble_eq_true rfl) dX1_readPart_37 ?_
            rintro _ _ rfl
            show V X (wX k g a σ (va_up (va_up (va_up ν 70 f70) 71 (fun _ => i71)) 72 (fun _ => i72))) [(0, .ref (a 3)), (1, .int 3), (2, .int 5), (3, .int (bI (x.1 = true))), (4, .int 60), (5, .int (nI i))] [.int (lkS ρ x.2.1)] 40
            refine V.callS0 (pc := 40) (as := [.int (lkS ρ x.2.1)]) hC (c_X1_rankOf (lkS ρ x.2.1) ) ms_X1_rankOf ml_X1_56 (by decide) rfl (Nat.le_of_ble_eq_true rfl) dX1_readPart_40 ?_
            rintro _ _ rfl
            show V X (wX k g a σ (va_up (va_up (va_up ν 70 f70) 71 (fun _ => i71)) 72 (fun _ => i72))) [(0, .ref (a 3)), (1, .int 3), (2, .int 5), (3, .int (bI (x.1 = true))), (4, .int 60), (5, .int (nI i))] [.int (nI (rkS (lkS ρ x.2.1)))] 43
            refine V.iload_n (pc := 43) 1 hC dX1_readPart_43 rfl ?_
            refine V.icmp_ne (pc := 44) 85 hC dX1_readPart_44 (by decide) (fun c_44 => ?_) (fun c_44 => ?_)
            · refine V.iload_n (pc := 85) 3 hC dX1_readPart_85 rfl ?_
              exact hR (bI (x.1 = true)) (f70, i71, i72) _ _ dX1_readPart_86 (by first | rfl | exact bI_n _) ⟨by rw [show (lvS (lkS ρ) (sgS (lkS ρ) (nI u) 0) 2) p = x from hv.trans (lp_no (fun q => c_44 ((rk_e (r := 3) (by omega)).mpr q.2)))], by rw [show (lvS (lkS ρ) (sgS (lkS ρ) (nI u) 0) 2) p = x from hv.trans (lp_no (fun q => c_44 ((rk_e (r := 3) (by omega)).mpr q.2)))]; exact hx⟩
            · have hok := c_33
              have hgx := hg.2.2 hok
              have hrk : rkS (lkS ρ x.2.1) = 3 := (rk_e (r := 3) (by omega)).mp c_44
              have hlt : x.2.1 < nN (ρ 5) := tok_lt lk_tok (rk_op hrk (by omega)).2
              have hgy := (lv_g (lk_tok (ρ := ρ)) (sg_g (u := nI u) (lk_tok (ρ := ρ)) 0) 1) (x.2.1 + 1) hlt
              refine V.aload_n (pc := 47) 0 hC dX1_readPart_47 rfl ?_
              refine V.callV0 (pc := 48) (as := []) hC (c_X1_next σ (va_up (va_up (va_up ν 70 f70) 71 (fun _ => i71)) 72 (fun _ => i72)) ρ x.2.1 hT hI hx.1 (by omega)) mu_X1_next ml_X1_52 (by decide) ⟨3, 1, TX1, 5, _, rfl, gx_3⟩ rfl (Nat.le_of_ble_eq_true rfl) dX1_readPart_48 ?_
              rintro _ _ rfl
              show V X (wX k g a σ (va_up (va_up (va_up ν 70 f70) 71 (fun _ => i71)) 72 (fun _ => i72))) [(0, .ref (a 3)), (1, .int 3), (2, .int 5), (3, .int (bI (x.1 = true))), (4, .int 60), (5, .int (nI i))] [.int (lkS ρ x.2.1)] 51
              refine V.istore (pc := 51) [(6, .int (lkS ρ x.2.1)), (0, .ref (a 3)), (1, .int 3), (2, .int 5), (3, .int (bI (x.1 = true))), (4, .int 60), (5, .int (nI i))] hC dX1_readPart_51 (by decide) rfl ?_
              refine V.aload_n (pc := 53) 1 hC dX1_readPart_53 rfl ?_
              refine V.dup (pc := 54) hC dX1_readPart_54 rfl ?_
              refine V.get (pc := 55) (v := .int i72) hC cf_X1 3 3 fl_X1_29 (by decide) gx_3 rfl dX1_readPart_55 ?_
              refine V.iconst (pc := 58) 1 hC dX1_readPart_58 (by decide) ?_
              refine V.iadd (pc := 59) hC dX1_readPart_59 ?_
              refine V.put (pc := 60) (v := .int (i72 + 1)) hC cf_X1 3 3 (wX k g a σ (va_up (va_up (va_up ν 70 f70) 71 (fun _ => i71)) 72 (fun _ => i72 + 1))) fl_X1_29 (by decide) gx_3 rfl rfl rfl (Nat.le_of_ble_eq_true rfl) rfl dX1_readPart_60 ?_
              refine V.aload_n (pc := 63) 1 hC dX1_readPart_63 rfl ?_
              refine V.iload_n (pc := 64) 2 hC dX1_readPart_64 rfl ?_
              refine V.iconst (pc := 65) 1 hC dX1_readPart_65 (by decide) ?_
              refine V.iadd (pc := 66) hC dX1_readPart_66 ?_
              refine V.eqi (y := 4) (by decide) ?_
              refine V.iload_n (pc := 67) 3 hC dX1_readPart_67 rfl ?_
              refine V.callV0 (pc := 68) (as := [.int 4, .int 5]) hC (c_X1_side_4_5 σ (va_up (va_up (va_up ν 70 f70) 71 (fun _ => i71)) 72 (fun _ => i72 + 1)) ρ u (L + x.2.2.length) (x.2.1 + 1) hT hI hu2 ⟨hP.1, (hx.2.2 hok).1, nadd hx.1 (nl 1), by omega, hlt⟩) mu_X1_readSide ml_X1_49 (by decide) ⟨3, 1, TX1, 5, _, rfl, gx_3⟩ rfl (Nat.le_of_ble_eq_true rfl) dX1_readPart_68 ?_
              rintro _ ⟨f68_0, i68_1, i68_2⟩ ⟨rfl, hu68_0⟩
              have hu68_0 : COut (f70) (L + x.2.2.length) ((lvS (lkS ρ) (sgS (lkS ρ) (nI u) 0) 1) (x.2.1 + 1)) f68_0 i68_1 i68_2 := hu68_0
              show V X (wX k g a σ (va_up (va_up (va_up ν 70 f68_0) 71 (fun _ => i68_1)) 72 (fun _ => i68_2))) [(6, .int (lkS ρ x.2.1)), (0, .ref (a 3)), (1, .int 3), (2, .int 5), (3, .int (bI (x.1 = true))), (4, .int 60), (5, .int (nI i))] [.int (bI (((lvS (lkS ρ) (sgS (lkS ρ) (nI u) 0) 1) (x.2.1 + 1)).1 = true))] 71
              refine V.istore_n (pc := 71) [(3, .int (bI (((lvS (lkS ρ) (sgS (lkS ρ) (nI u) 0) 1) (x.2.1 + 1)).1 = true))), (6, .int (lkS ρ x.2.1)), (0, .ref (a 3)), (1, .int 3), (2, .int 5), (4, .int 60), (5, .int (nI i))] hC dX1_readPart_71 (by decide) rfl ?_
              refine V.aload_n (pc := 72) 2 hC dX1_readPart_72 rfl ?_
              refine V.iload (pc := 73) 1 hC dX1_readPart_73 rfl ?_
              refine V.ineg (pc := 75) hC dX1_readPart_75 ?_
              refine V.callV0 (pc := 76) (as := [.int (-(lkS ρ x.2.1))]) hC (c_X1_write σ (va_up (va_up (va_up ν 70 f68_0) 71 (fun _ => i68_1)) 72 (fun _ => i68_2)) (-(lkS ρ x.2.1)) hu68_0.2.1) mu_X1_write ml_X1_60 (by decide) ⟨3, 1, TX1, 5, _, rfl, gx_3⟩ rfl (Nat.le_of_ble_eq_true rfl) dX1_readPart_76 ?_
              rintro _ ⟨f76_0, i76_1⟩ ⟨rfl, hu76_0⟩
              have hu76_0 : WtF (f68_0) (i68_1) (-(lkS ρ x.2.1)) f76_0 i76_1 := hu76_0
              show V X (wX k g a σ (va_up (va_up (va_up ν 70 f76_0) 71 (fun _ => i76_1)) 72 (fun _ => i68_2))) [(3, .int (bI (((lvS (lkS ρ) (sgS (lkS ρ) (nI u) 0) 1) (x.2.1 + 1)).1 = true))), (6, .int (lkS ρ x.2.1)), (0, .ref (a 3)), (1, .int 3), (2, .int 5), (4, .int 60), (5, .int (nI i))] [] 79
              refine V.iinc (pc := 79) 6 (nI (i + 1)) [(5, .int (nI (i + 1))), (3, .int (bI (((lvS (lkS ρ) (sgS (lkS ρ) (nI u) 0) 1) (x.2.1 + 1)).1 = true))), (6, .int (lkS ρ x.2.1)), (0, .ref (a 3)), (1, .int 3), (2, .int 5), (4, .int 60)] hC dX1_readPart_79 rfl (ncast (nadd rfl (nl 1)) (by omega)) (by decide) rfl ?_
              refine V.goto (pc := 82) 25 hC dX1_readPart_82 (by decide) ?_
              exact V.sub [3, 4, 5, 1, 6, 0] rfl (ih (appS x ((lvS (lkS ρ) (sgS (lkS ρ) (nI u) 0) 1) (x.2.1 + 1)) (lkS ρ x.2.1)) (i + 1) f76_0 i76_1 i68_2 (by omega) (hg.app hok hgy (rk_op hrk (by omega)).1) (CO_app hx hok hu68_0 (cd_op1 (rk_op hrk (by omega)).1).symm hu76_0 (fun q => by have := hgy.2.2 q; have := hgy.2.1; omega)) (hv.trans (lp_yes ⟨hok, hrk⟩)))
    exact V.sub [3, 4, 5, 2, 1, 0] rfl (loop_25 60 ((lvS (lkS ρ) (sgS (lkS ρ) (nI u) 0) 1) p) 0 f5_0 i5_1 i5_2 (by omega) ((lv_g (lk_tok (ρ := ρ)) (sg_g (u := nI u) (lk_tok (ρ := ρ)) 0) 1) p (by omega)) hu5_0 rfl)
  · have nc_11 : 3 = 2 := (neq (nl 3) (nl 2) (by omega) (by omega)).mp c_11
    exact absurd c_11 (by decide)
set_option maxHeartbeats 4000000 in
set_option maxRecDepth 100000 in
theorem c_X1_side_3_5 {l : Launch} {D : va_G} {k : Nat → ClassId} {g a : Nat → Nat} (σ ν : St) (ρ : Rw) (u L p : Nat) (hT : RT σ ρ) (hI : Inv ρ) (hu2 : u < 2) (hP : CIn (nN (ρ 5)) (ν 71 0) (ν 72 0) (ν 73 0) u L p) : Ct l D k g yX1_readSide cX1_readSide 3 (some .boolean) 9 210 [.ref (a 3), .int 3, .int 5] (S := Rw × Int32 × Int32) (wX k g a σ ν) (fun uu => wX k g a σ (va_up (va_up (va_up ν 70 uu.1) 71 (fun _ => uu.2.1)) 72 (fun _ => uu.2.2))) (fun vv uu => vv = some (.int (bI (((lvS (lkS ρ) (sgS (lkS ρ) (nI u) 0) 2) p).1 = true))) ∧ COut (ν 70) L ((lvS (lkS ρ) (sgS (lkS ρ) (nI u) 0) 2) p) uu.1 uu.2.1 uu.2.2) := by
  refine Ct.ofI RX1 rfl (by decide +kernel) (Nat.le_of_ble_eq_true rfl) (fun X hC hR => ?_)
  have hb60 := hI.bb; have hle := hP.2.2.2
  show V X (wX k g a σ ν) [(0, .ref (a 3)), (1, .int 3), (2, .int 5)] [] 0
  refine V.iload_n (pc := 0) 1 hC dX1_readSide_0 rfl ?_
  refine V.iconst (pc := 1) 5 hC dX1_readSide_1 (by decide) ?_
  refine V.icmp_ge (pc := 2) 14 hC dX1_readSide_2 (by decide) (fun c_2 => ?_) (fun c_2 => ?_)
  · have nc_2 : 5 ≤ 3 := (nle (nl 5) (nl 3) (by omega) (by omega)).mp c_2
    exact absurd c_2 (by decide)
  · have nc_2 : ¬ (5 ≤ 3) := fun z => c_2 ((nle (nl 5) (nl 3) (by omega) (by omega)).mpr z)
    refine V.aload_n (pc := 5) 0 hC dX1_readSide_5 rfl ?_
    refine V.iload_n (pc := 6) 1 hC dX1_readSide_6 rfl ?_
    refine V.iload_n (pc := 7) 2 hC dX1_readSide_7 rfl ?_
    refine V.callV0 (pc := 8) (as := [.int 3, .int 5]) hC (c_X1_part_3_5 σ ν ρ u L p hT hI hu2 hP) mu_X1_readPart ml_X1_36 (by decide) ⟨3, 1, TX1, 5, _, rfl, gx_3⟩ rfl (Nat.le_of_ble_eq_true rfl) dX1_readSide_8 ?_
    rintro _ ⟨f8_0, i8_1, i8_2⟩ ⟨rfl, hu8_0⟩
    have hu8_0 : COut (ν 70) L ((lvS (lkS ρ) (sgS (lkS ρ) (nI u) 0) 2) p) f8_0 i8_1 i8_2 := hu8_0
    show V X (wX k g a σ (va_up (va_up (va_up ν 70 f8_0) 71 (fun _ => i8_1)) 72 (fun _ => i8_2))) [(0, .ref (a 3)), (1, .int 3), (2, .int 5)] [.int (bI (((lvS (lkS ρ) (sgS (lkS ρ) (nI u) 0) 2) p).1 = true))] 11
    refine V.goto (pc := 11) 19 hC dX1_readSide_11 (by decide) ?_
    exact hR (bI (((lvS (lkS ρ) (sgS (lkS ρ) (nI u) 0) 2) p).1 = true)) (f8_0, i8_1, i8_2) _ _ dX1_readSide_19 (by first | rfl | exact bI_n _) ⟨rfl, hu8_0⟩
set_option maxHeartbeats 4000000 in
set_option maxRecDepth 100000 in
theorem c_X1_part_2_5 {l : Launch} {D : va_G} {k : Nat → ClassId} {g a : Nat → Nat} (σ ν : St) (ρ : Rw) (u L p : Nat) (hT : RT σ ρ) (hI : Inv ρ) (hu2 : u < 2) (hP : CIn (nN (ρ 5)) (ν 71 0) (ν 72 0) (ν 73 0) u L p) : Ct l D k g yX1_readPart cX1_readPart 7 (some .boolean) 10 232 [.ref (a 3), .int 2, .int 5] (S := Rw × Int32 × Int32) (wX k g a σ ν) (fun uu => wX k g a σ (va_up (va_up (va_up ν 70 uu.1) 71 (fun _ => uu.2.1)) 72 (fun _ => uu.2.2))) (fun vv uu => vv = some (.int (bI (((lvS (lkS ρ) (sgS (lkS ρ) (nI u) 0) 3) p).1 = true))) ∧ COut (ν 70) L ((lvS (lkS ρ) (sgS (lkS ρ) (nI u) 0) 3) p) uu.1 uu.2.1 uu.2.2) := by
  refine Ct.ofI RX1 rfl (by decide +kernel) (Nat.le_of_ble_eq_true rfl) (fun X hC hR => ?_)
  have hb60 := hI.bb; have hle := hP.2.2.2
  show V X (wX k g a σ ν) [(0, .ref (a 3)), (1, .int 2), (2, .int 5)] [] 0
  refine V.aload_n (pc := 0) 0 hC dX1_readPart_0 rfl ?_
  refine V.iload_n (pc := 1) 1 hC dX1_readPart_1 rfl ?_
  refine V.iconst (pc := 2) 1 hC dX1_readPart_2 (by decide) ?_
  refine V.iadd (pc := 3) hC dX1_readPart_3 ?_
  refine V.eqi (y := 3) (by decide) ?_
  refine V.iload_n (pc := 4) 2 hC dX1_readPart_4 rfl ?_
  refine V.callV0 (pc := 5) (as := [.int 3, .int 5]) hC (c_X1_side_3_5 σ ν ρ u L p hT hI hu2 hP) mu_X1_readSide ml_X1_49 (by decide) ⟨3, 1, TX1, 5, _, rfl, gx_3⟩ rfl (Nat.le_of_ble_eq_true rfl) dX1_readPart_5 ?_
  rintro _ ⟨f5_0, i5_1, i5_2⟩ ⟨rfl, hu5_0⟩
  have hu5_0 : COut (ν 70) L ((lvS (lkS ρ) (sgS (lkS ρ) (nI u) 0) 2) p) f5_0 i5_1 i5_2 := hu5_0
  show V X (wX k g a σ (va_up (va_up (va_up ν 70 f5_0) 71 (fun _ => i5_1)) 72 (fun _ => i5_2))) [(0, .ref (a 3)), (1, .int 2), (2, .int 5)] [.int (bI (((lvS (lkS ρ) (sgS (lkS ρ) (nI u) 0) 2) p).1 = true))] 8
  refine V.istore_n (pc := 8) [(3, .int (bI (((lvS (lkS ρ) (sgS (lkS ρ) (nI u) 0) 2) p).1 = true))), (0, .ref (a 3)), (1, .int 2), (2, .int 5)] hC dX1_readPart_8 (by decide) rfl ?_
  refine V.iload_n (pc := 9) 2 hC dX1_readPart_9 rfl ?_
  refine V.iconst (pc := 10) 2 hC dX1_readPart_10 (by decide) ?_
  refine V.icmp_ne (pc := 11) 18 hC dX1_readPart_11 (by decide) (fun c_11 => ?_) (fun c_11 => ?_)
  · have nc_11 : ¬ (2 = 2) := fun z => c_11 ((neq (nl 2) (nl 2) (by omega) (by omega)).mpr z)
    exact absurd c_11 (by decide)
  · have nc_11 : 2 = 2 := (neq (nl 2) (nl 2) (by omega) (by omega)).mp c_11
    refine V.iconst (pc := 14) 1 hC dX1_readPart_14 (by decide) ?_
    refine V.goto (pc := 15) 20 hC dX1_readPart_15 (by decide) ?_
    refine V.istore (pc := 20) [(4, .int 1), (3, .int (bI (((lvS (lkS ρ) (sgS (lkS ρ) (nI u) 0) 2) p).1 = true))), (0, .ref (a 3)), (1, .int 2), (2, .int 5)] hC dX1_readPart_20 (by decide) rfl ?_
    refine V.iconst (pc := 22) 0 hC dX1_readPart_22 (by decide) ?_
    refine V.istore (pc := 23) [(5, .int 0), (4, .int 1), (3, .int (bI (((lvS (lkS ρ) (sgS (lkS ρ) (nI u) 0) 2) p).1 = true))), (0, .ref (a 3)), (1, .int 2), (2, .int 5)] hC dX1_readPart_23 (by decide) rfl ?_
    have loop_25 : ∀ (n : Nat) (x : Res) (i : Nat) (f70 : Rw) (i71 i72 : Int32), i + n = 1 → GR (nN (ρ 5)) p x → COut (ν 70) L x f70 i71 i72 → (lvS (lkS ρ) (sgS (lkS ρ) (nI u) 0) 3) p = lpS (lkS ρ) (lvS (lkS ρ) (sgS (lkS ρ) (nI u) 0) 2) 2 n x → V X (wX k g a σ (va_up (va_up (va_up ν 70 f70) 71 (fun _ => i71)) 72 (fun _ => i72))) [(0, .ref (a 3)), (1, .int 2), (2, .int 5), (3, .int (bI (x.1 = true))), (4, .int 1), (5, .int (nI i))] [] 25 := by
      intro n
      induction n with
      | zero =>
        intro x i f70 i71 i72 hi hg hx hv
        have hxb := hg.2.1
        refine V.iload (pc := 25) 5 hC dX1_readPart_25 rfl ?_
        refine V.iload (pc := 27) 4 hC dX1_readPart_27 rfl ?_
        refine V.icmp_ge (pc := 29) 85 hC dX1_readPart_29 (by decide) (fun c_29 => ?_) (fun c_29 => ?_)
        · have nc_29 : 1 ≤ i := (nle (nl 1) rfl (by omega) (by omega)).mp c_29
          refine V.iload_n (pc := 85) 3 hC dX1_readPart_85 rfl ?_
          exact hR (bI (x.1 = true)) (f70, i71, i72) _ _ dX1_readPart_86 (by first | rfl | exact bI_n _) ⟨by rw [show (lvS (lkS ρ) (sgS (lkS ρ) (nI u) 0) 3) p = x from hv], by rw [show (lvS (lkS ρ) (sgS (lkS ρ) (nI u) 0) 3) p = x from hv]; exact hx⟩
        · have nc_29 : ¬ (1 ≤ i) := fun z => c_29 ((nle (nl 1) rfl (by omega) (by omega)).mpr z)
          exfalso; omega
      | succ n ih =>
        intro x i f70 i71 i72 hi hg hx hv
        have hxb := hg.2.1
        refine V.iload (pc := 25) 5 hC dX1_readPart_25 rfl ?_
        refine V.iload (pc := 27) 4 hC dX1_readPart_27 rfl ?_
        refine V.icmp_ge (pc := 29) 85 hC dX1_readPart_29 (by decide) (fun c_29 => ?_) (fun c_29 => ?_)
        · have nc_29 : 1 ≤ i := (nle (nl 1) rfl (by omega) (by omega)).mp c_29
          exfalso; omega
        · have nc_29 : ¬ (1 ≤ i) := fun z => c_29 ((nle (nl 1) rfl (by omega) (by omega)).mpr z)
          refine V.iload_n (pc := 32) 3 hC dX1_readPart_32 rfl ?_
          refine V.if_eq_b (P := x.1 = true) (pc := 33) 85 hC dX1_readPart_33 (by decide) (fun c_33 => ?_) (fun c_33 => ?_)
          · refine V.iload_n (pc := 85) 3 hC dX1_readPart_85 rfl ?_
            exact hR (bI (x.1 = true)) (f70, i71, i72) _ _ dX1_readPart_86 (by first | rfl | exact bI_n _) ⟨by rw [show (lvS (lkS ρ) (sgS (lkS ρ) (nI u) 0) 3) p = x from hv.trans (lp_no (fun q => c_33 q.1))], by rw [show (lvS (lkS ρ) (sgS (lkS ρ) (nI u) 0) 3) p = x from hv.trans (lp_no (fun q => c_33 q.1))]; exact hx⟩
          · refine V.aload_n (pc := 36) 0 hC dX1_readPart_36 rfl ?_
            refine V.callV0 (pc := 37) (as := []) hC (c_X1_next σ (va_up (va_up (va_up ν 70 f70) 71 (fun _ => i71)) 72 (fun _ => i72)) ρ x.2.1 hT hI hx.1 (by omega)) mu_X1_next ml_X1_52 (by decide) ⟨3, 1, TX1, 5, _, rfl, gx_3⟩ rfl (Nat.le_of_ble_eq_true rfl) dX1_readPart_37 ?_
            rintro _ _ rfl
            show V X (wX k g a σ (va_up (va_up (va_up ν 70 f70) 71 (fun _ => i71)) 72 (fun _ => i72))) [(0, .ref (a 3)), (1, .int 2), (2, .int 5), (3, .int (bI (x.1 = true))), (4, .int 1), (5, .int (nI i))] [.int (lkS ρ x.2.1)] 40
            refine V.callS0 (pc := 40) (as := [.int (lkS ρ x.2.1)]) hC (c_X1_rankOf (lkS ρ x.2.1) ) ms_X1_rankOf ml_X1_56 (by decide) rfl (Nat.le_of_ble_eq_true rfl) dX1_readPart_40 ?_
            rintro _ _ rfl
            show V X (wX k g a σ (va_up (va_up (va_up ν 70 f70) 71 (fun _ => i71)) 72 (fun _ => i72))) [(0, .ref (a 3)), (1, .int 2), (2, .int 5), (3, .int (bI (x.1 = true))), (4, .int 1), (5, .int (nI i))] [.int (nI (rkS (lkS ρ x.2.1)))] 43
            refine V.iload_n (pc := 43) 1 hC dX1_readPart_43 rfl ?_
            refine V.icmp_ne (pc := 44) 85 hC dX1_readPart_44 (by decide) (fun c_44 => ?_) (fun c_44 => ?_)
            · refine V.iload_n (pc := 85) 3 hC dX1_readPart_85 rfl ?_
              exact hR (bI (x.1 = true)) (f70, i71, i72) _ _ dX1_readPart_86 (by first | rfl | exact bI_n _) ⟨by rw [show (lvS (lkS ρ) (sgS (lkS ρ) (nI u) 0) 3) p = x from hv.trans (lp_no (fun q => c_44 ((rk_e (r := 2) (by omega)).mpr q.2)))], by rw [show (lvS (lkS ρ) (sgS (lkS ρ) (nI u) 0) 3) p = x from hv.trans (lp_no (fun q => c_44 ((rk_e (r := 2) (by omega)).mpr q.2)))]; exact hx⟩
            · have hok := c_33
              have hgx := hg.2.2 hok
              have hrk : rkS (lkS ρ x.2.1) = 2 := (rk_e (r := 2) (by omega)).mp c_44
              have hlt : x.2.1 < nN (ρ 5) := tok_lt lk_tok (rk_op hrk (by omega)).2
              have hgy := (lv_g (lk_tok (ρ := ρ)) (sg_g (u := nI u) (lk_tok (ρ := ρ)) 0) 2) (x.2.1 + 1) hlt
              refine V.aload_n (pc := 47) 0 hC dX1_readPart_47 rfl ?_
              refine V.callV0 (pc := 48) (as := []) hC (c_X1_next σ (va_up (va_up (va_up ν 70 f70) 71 (fun _ => i71)) 72 (fun _ => i72)) ρ x.2.1 hT hI hx.1 (by omega)) mu_X1_next ml_X1_52 (by decide) ⟨3, 1, TX1, 5, _, rfl, gx_3⟩ rfl (Nat.le_of_ble_eq_true rfl) dX1_readPart_48 ?_
              rintro _ _ rfl
              show V X (wX k g a σ (va_up (va_up (va_up ν 70 f70) 71 (fun _ => i71)) 72 (fun _ => i72))) [(0, .ref (a 3)), (1, .int 2), (2, .int 5), (3, .int (bI (x.1 = true))), (4, .int 1), (5, .int (nI i))] [.int (lkS ρ x.2.1)] 51
              refine V.istore (pc := 51) [(6, .int (lkS ρ x.2.1)), (0, .ref (a 3)), (1, .int 2), (2, .int 5), (3, .int (bI (x.1 = true))), (4, .int 1), (5, .int (nI i))] hC dX1_readPart_51 (by decide) rfl ?_
              refine V.aload_n (pc := 53) 1 hC dX1_readPart_53 rfl ?_
              refine V.dup (pc := 54) hC dX1_readPart_54 rfl ?_
              refine V.get (pc := 55) (v := .int i72) hC cf_X1 3 3 fl_X1_29 (by decide) gx_3 rfl dX1_readPart_55 ?_
              refine V.iconst (pc := 58) 1 hC dX1_readPart_58 (by decide) ?_
              refine V.iadd (pc := 59) hC dX1_readPart_59 ?_
              refine V.put (pc := 60) (v := .int (i72 + 1)) hC cf_X1 3 3 (wX k g a σ (va_up (va_up (va_up ν 70 f70) 71 (fun _ => i71)) 72 (fun _ => i72 + 1))) fl_X1_29 (by decide) gx_3 rfl rfl rfl (Nat.le_of_ble_eq_true rfl) rfl dX1_readPart_60 ?_
              refine V.aload_n (pc := 63) 1 hC dX1_readPart_63 rfl ?_
              refine V.iload_n (pc := 64) 2 hC dX1_readPart_64 rfl ?_
              refine V.iconst (pc := 65) 1 hC dX1_readPart_65 (by decide) ?_
              refine V.iadd (pc := 66) hC dX1_readPart_66 ?_
              refine V.eqi (y := 3) (by decide) ?_
              refine V.iload_n (pc := 67) 3 hC dX1_readPart_67 rfl ?_
              refine V.callV0 (pc := 68) (as := [.int 3, .int 5]) hC (c_X1_side_3_5 σ (va_up (va_up (va_up ν 70 f70) 71 (fun _ => i71)) 72 (fun _ => i72 + 1)) ρ u (L + x.2.2.length) (x.2.1 + 1) hT hI hu2 ⟨hP.1, (hx.2.2 hok).1, nadd hx.1 (nl 1), by omega, hlt⟩) mu_X1_readSide ml_X1_49 (by decide) ⟨3, 1, TX1, 5, _, rfl, gx_3⟩ rfl (Nat.le_of_ble_eq_true rfl) dX1_readPart_68 ?_
              rintro _ ⟨f68_0, i68_1, i68_2⟩ ⟨rfl, hu68_0⟩
              have hu68_0 : COut (f70) (L + x.2.2.length) ((lvS (lkS ρ) (sgS (lkS ρ) (nI u) 0) 2) (x.2.1 + 1)) f68_0 i68_1 i68_2 := hu68_0
              show V X (wX k g a σ (va_up (va_up (va_up ν 70 f68_0) 71 (fun _ => i68_1)) 72 (fun _ => i68_2))) [(6, .int (lkS ρ x.2.1)), (0, .ref (a 3)), (1, .int 2), (2, .int 5), (3, .int (bI (x.1 = true))), (4, .int 1), (5, .int (nI i))] [.int (bI (((lvS (lkS ρ) (sgS (lkS ρ) (nI u) 0) 2) (x.2.1 + 1)).1 = true))] 71
              refine V.istore_n (pc := 71) [(3, .int (bI (((lvS (lkS ρ) (sgS (lkS ρ) (nI u) 0) 2) (x.2.1 + 1)).1 = true))), (6, .int (lkS ρ x.2.1)), (0, .ref (a 3)), (1, .int 2), (2, .int 5), (4, .int 1), (5, .int (nI i))] hC dX1_readPart_71 (by decide) rfl ?_
              refine V.aload_n (pc := 72) 2 hC dX1_readPart_72 rfl ?_
              refine V.iload (pc := 73) 1 hC dX1_readPart_73 rfl ?_
              refine V.ineg (pc := 75) hC dX1_readPart_75 ?_
              refine V.callV0 (pc := 76) (as := [.int (-(lkS ρ x.2.1))]) hC (c_X1_write σ (va_up (va_up (va_up ν 70 f68_0) 71 (fun _ => i68_1)) 72 (fun _ => i68_2)) (-(lkS ρ x.2.1)) hu68_0.2.1) mu_X1_write ml_X1_60 (by decide) ⟨3, 1, TX1, 5, _, rfl, gx_3⟩ rfl (Nat.le_of_ble_eq_true rfl) dX1_readPart_76 ?_
              rintro _ ⟨f76_0, i76_1⟩ ⟨rfl, hu76_0⟩
              have hu76_0 : WtF (f68_0) (i68_1) (-(lkS ρ x.2.1)) f76_0 i76_1 := hu76_0
              show V X (wX k g a σ (va_up (va_up (va_up ν 70 f76_0) 71 (fun _ => i76_1)) 72 (fun _ => i68_2))) [(3, .int (bI (((lvS (lkS ρ) (sgS (lkS ρ) (nI u) 0) 2) (x.2.1 + 1)).1 = true))), (6, .int (lkS ρ x.2.1)), (0, .ref (a 3)), (1, .int 2), (2, .int 5), (4, .int 1), (5, .int (nI i))] [] 79
              refine V.iinc (pc := 79) 6 (nI (i + 1)) [(5, .int (nI (i + 1))), (3, .int (bI (((lvS (lkS ρ) (sgS (lkS ρ) (nI u) 0) 2) (x.2.1 + 1)).1 = true))), (6, .int (lkS ρ x.2.1)), (0, .ref (a 3)), (1, .int 2), (2, .int 5), (4, .int 1)] hC dX1_readPart_79 rfl (ncast (nadd rfl (nl 1)) (by omega)) (by decide) rfl ?_
              refine V.goto (pc := 82) 25 hC dX1_readPart_82 (by decide) ?_
              exact V.sub [3, 4, 5, 1, 6, 0] rfl (ih (appS x ((lvS (lkS ρ) (sgS (lkS ρ) (nI u) 0) 2) (x.2.1 + 1)) (lkS ρ x.2.1)) (i + 1) f76_0 i76_1 i68_2 (by omega) (hg.app hok hgy (rk_op hrk (by omega)).1) (CO_app hx hok hu68_0 (cd_op1 (rk_op hrk (by omega)).1).symm hu76_0 (fun q => by have := hgy.2.2 q; have := hgy.2.1; omega)) (hv.trans (lp_yes ⟨hok, hrk⟩)))
    exact V.sub [3, 4, 5, 2, 1, 0] rfl (loop_25 1 ((lvS (lkS ρ) (sgS (lkS ρ) (nI u) 0) 2) p) 0 f5_0 i5_1 i5_2 (by omega) ((lv_g (lk_tok (ρ := ρ)) (sg_g (u := nI u) (lk_tok (ρ := ρ)) 0) 2) p (by omega)) hu5_0 rfl)
set_option maxHeartbeats 4000000 in
set_option maxRecDepth 100000 in
theorem c_X1_side_2_5 {l : Launch} {D : va_G} {k : Nat → ClassId} {g a : Nat → Nat} (σ ν : St) (ρ : Rw) (u L p : Nat) (hT : RT σ ρ) (hI : Inv ρ) (hu2 : u < 2) (hP : CIn (nN (ρ 5)) (ν 71 0) (ν 72 0) (ν 73 0) u L p) : Ct l D k g yX1_readSide cX1_readSide 3 (some .boolean) 11 258 [.ref (a 3), .int 2, .int 5] (S := Rw × Int32 × Int32) (wX k g a σ ν) (fun uu => wX k g a σ (va_up (va_up (va_up ν 70 uu.1) 71 (fun _ => uu.2.1)) 72 (fun _ => uu.2.2))) (fun vv uu => vv = some (.int (bI (((lvS (lkS ρ) (sgS (lkS ρ) (nI u) 0) 3) p).1 = true))) ∧ COut (ν 70) L ((lvS (lkS ρ) (sgS (lkS ρ) (nI u) 0) 3) p) uu.1 uu.2.1 uu.2.2) := by
  refine Ct.ofI RX1 rfl (by decide +kernel) (Nat.le_of_ble_eq_true rfl) (fun X hC hR => ?_)
  have hb60 := hI.bb; have hle := hP.2.2.2
  show V X (wX k g a σ ν) [(0, .ref (a 3)), (1, .int 2), (2, .int 5)] [] 0
  refine V.iload_n (pc := 0) 1 hC dX1_readSide_0 rfl ?_
  refine V.iconst (pc := 1) 5 hC dX1_readSide_1 (by decide) ?_
  refine V.icmp_ge (pc := 2) 14 hC dX1_readSide_2 (by decide) (fun c_2 => ?_) (fun c_2 => ?_)
  · have nc_2 : 5 ≤ 2 := (nle (nl 5) (nl 2) (by omega) (by omega)).mp c_2
    exact absurd c_2 (by decide)
  · have nc_2 : ¬ (5 ≤ 2) := fun z => c_2 ((nle (nl 5) (nl 2) (by omega) (by omega)).mpr z)
    refine V.aload_n (pc := 5) 0 hC dX1_readSide_5 rfl ?_
    refine V.iload_n (pc := 6) 1 hC dX1_readSide_6 rfl ?_
    refine V.iload_n (pc := 7) 2 hC dX1_readSide_7 rfl ?_
    refine V.callV0 (pc := 8) (as := [.int 2, .int 5]) hC (c_X1_part_2_5 σ ν ρ u L p hT hI hu2 hP) mu_X1_readPart ml_X1_36 (by decide) ⟨3, 1, TX1, 5, _, rfl, gx_3⟩ rfl (Nat.le_of_ble_eq_true rfl) dX1_readSide_8 ?_
    rintro _ ⟨f8_0, i8_1, i8_2⟩ ⟨rfl, hu8_0⟩
    have hu8_0 : COut (ν 70) L ((lvS (lkS ρ) (sgS (lkS ρ) (nI u) 0) 3) p) f8_0 i8_1 i8_2 := hu8_0
    show V X (wX k g a σ (va_up (va_up (va_up ν 70 f8_0) 71 (fun _ => i8_1)) 72 (fun _ => i8_2))) [(0, .ref (a 3)), (1, .int 2), (2, .int 5)] [.int (bI (((lvS (lkS ρ) (sgS (lkS ρ) (nI u) 0) 3) p).1 = true))] 11
    refine V.goto (pc := 11) 19 hC dX1_readSide_11 (by decide) ?_
    exact hR (bI (((lvS (lkS ρ) (sgS (lkS ρ) (nI u) 0) 3) p).1 = true)) (f8_0, i8_1, i8_2) _ _ dX1_readSide_19 (by first | rfl | exact bI_n _) ⟨rfl, hu8_0⟩
set_option maxHeartbeats 4000000 in
set_option maxRecDepth 100000 in
theorem c_X1_part_1_5 {l : Launch} {D : va_G} {k : Nat → ClassId} {g a : Nat → Nat} (σ ν : St) (ρ : Rw) (u L p : Nat) (hT : RT σ ρ) (hI : Inv ρ) (hu2 : u < 2) (hP : CIn (nN (ρ 5)) (ν 71 0) (ν 72 0) (ν 73 0) u L p) : Ct l D k g yX1_readPart cX1_readPart 7 (some .boolean) 12 280 [.ref (a 3), .int 1, .int 5] (S := Rw × Int32 × Int32) (wX k g a σ ν) (fun uu => wX k g a σ (va_up (va_up (va_up ν 70 uu.1) 71 (fun _ => uu.2.1)) 72 (fun _ => uu.2.2))) (fun vv uu => vv = some (.int (bI (((lvS (lkS ρ) (sgS (lkS ρ) (nI u) 0) 4) p).1 = true))) ∧ COut (ν 70) L ((lvS (lkS ρ) (sgS (lkS ρ) (nI u) 0) 4) p) uu.1 uu.2.1 uu.2.2) := by
  refine Ct.ofI RX1 rfl (by decide +kernel) (Nat.le_of_ble_eq_true rfl) (fun X hC hR => ?_)
  have hb60 := hI.bb; have hle := hP.2.2.2
  show V X (wX k g a σ ν) [(0, .ref (a 3)), (1, .int 1), (2, .int 5)] [] 0
  refine V.aload_n (pc := 0) 0 hC dX1_readPart_0 rfl ?_
  refine V.iload_n (pc := 1) 1 hC dX1_readPart_1 rfl ?_
  refine V.iconst (pc := 2) 1 hC dX1_readPart_2 (by decide) ?_
  refine V.iadd (pc := 3) hC dX1_readPart_3 ?_
  refine V.eqi (y := 2) (by decide) ?_
  refine V.iload_n (pc := 4) 2 hC dX1_readPart_4 rfl ?_
  refine V.callV0 (pc := 5) (as := [.int 2, .int 5]) hC (c_X1_side_2_5 σ ν ρ u L p hT hI hu2 hP) mu_X1_readSide ml_X1_49 (by decide) ⟨3, 1, TX1, 5, _, rfl, gx_3⟩ rfl (Nat.le_of_ble_eq_true rfl) dX1_readPart_5 ?_
  rintro _ ⟨f5_0, i5_1, i5_2⟩ ⟨rfl, hu5_0⟩
  have hu5_0 : COut (ν 70) L ((lvS (lkS ρ) (sgS (lkS ρ) (nI u) 0) 3) p) f5_0 i5_1 i5_2 := hu5_0
  show V X (wX k g a σ (va_up (va_up (va_up ν 70 f5_0) 71 (fun _ => i5_1)) 72 (fun _ => i5_2))) [(0, .ref (a 3)), (1, .int 1), (2, .int 5)] [.int (bI (((lvS (lkS ρ) (sgS (lkS ρ) (nI u) 0) 3) p).1 = true))] 8
  refine V.istore_n (pc := 8) [(3, .int (bI (((lvS (lkS ρ) (sgS (lkS ρ) (nI u) 0) 3) p).1 = true))), (0, .ref (a 3)), (1, .int 1), (2, .int 5)] hC dX1_readPart_8 (by decide) rfl ?_
  refine V.iload_n (pc := 9) 2 hC dX1_readPart_9 rfl ?_
  refine V.iconst (pc := 10) 2 hC dX1_readPart_10 (by decide) ?_
  refine V.icmp_ne (pc := 11) 18 hC dX1_readPart_11 (by decide) (fun c_11 => ?_) (fun c_11 => ?_)
  · have nc_11 : ¬ (1 = 2) := fun z => c_11 ((neq (nl 1) (nl 2) (by omega) (by omega)).mpr z)
    refine V.bipush (pc := 18) 60 hC dX1_readPart_18 (by decide) ?_
    refine V.istore (pc := 20) [(4, .int 60), (3, .int (bI (((lvS (lkS ρ) (sgS (lkS ρ) (nI u) 0) 3) p).1 = true))), (0, .ref (a 3)), (1, .int 1), (2, .int 5)] hC dX1_readPart_20 (by decide) rfl ?_
    refine V.iconst (pc := 22) 0 hC dX1_readPart_22 (by decide) ?_
    refine V.istore (pc := 23) [(5, .int 0), (4, .int 60), (3, .int (bI (((lvS (lkS ρ) (sgS (lkS ρ) (nI u) 0) 3) p).1 = true))), (0, .ref (a 3)), (1, .int 1), (2, .int 5)] hC dX1_readPart_23 (by decide) rfl ?_
    have loop_25 : ∀ (n : Nat) (x : Res) (i : Nat) (f70 : Rw) (i71 i72 : Int32), i + n = 60 → GR (nN (ρ 5)) p x → COut (ν 70) L x f70 i71 i72 → (lvS (lkS ρ) (sgS (lkS ρ) (nI u) 0) 4) p = lpS (lkS ρ) (lvS (lkS ρ) (sgS (lkS ρ) (nI u) 0) 3) 1 n x → V X (wX k g a σ (va_up (va_up (va_up ν 70 f70) 71 (fun _ => i71)) 72 (fun _ => i72))) [(0, .ref (a 3)), (1, .int 1), (2, .int 5), (3, .int (bI (x.1 = true))), (4, .int 60), (5, .int (nI i))] [] 25 := by
      intro n
      induction n with
      | zero =>
        intro x i f70 i71 i72 hi hg hx hv
        have hxb := hg.2.1
        refine V.iload (pc := 25) 5 hC dX1_readPart_25 rfl ?_
        refine V.iload (pc := 27) 4 hC dX1_readPart_27 rfl ?_
        refine V.icmp_ge (pc := 29) 85 hC dX1_readPart_29 (by decide) (fun c_29 => ?_) (fun c_29 => ?_)
        · have nc_29 : 60 ≤ i := (nle (nl 60) rfl (by omega) (by omega)).mp c_29
          refine V.iload_n (pc := 85) 3 hC dX1_readPart_85 rfl ?_
          exact hR (bI (x.1 = true)) (f70, i71, i72) _ _ dX1_readPart_86 (by first | rfl | exact bI_n _) ⟨by rw [show (lvS (lkS ρ) (sgS (lkS ρ) (nI u) 0) 4) p = x from hv], by rw [show (lvS (lkS ρ) (sgS (lkS ρ) (nI u) 0) 4) p = x from hv]; exact hx⟩
        · have nc_29 : ¬ (60 ≤ i) := fun z => c_29 ((nle (nl 60) rfl (by omega) (by omega)).mpr z)
          exfalso; omega
      | succ n ih =>
        intro x i f70 i71 i72 hi hg hx hv
        have hxb := hg.2.1
        refine V.iload (pc := 25) 5 hC dX1_readPart_25 rfl ?_
        refine V.iload (pc := 27) 4 hC dX1_readPart_27 rfl ?_
        refine V.icmp_ge (pc := 29) 85 hC dX1_readPart_29 (by decide) (fun c_29 => ?_) (fun c_29 => ?_)
        · have nc_29 : 60 ≤ i := (nle (nl 60) rfl (by omega) (by omega)).mp c_29
          exfalso; omega
        · have nc_29 : ¬ (60 ≤ i) := fun z => c_29 ((nle (nl 60) rfl (by omega) (by omega)).mpr z)
          refine V.iload_n (pc := 32) 3 hC dX1_readPart_32 rfl ?_
          refine V.if_eq_b (P := x.1 = true) (pc := 33) 85 hC dX1_readPart_33 (by decide) (fun c_33 => ?_) (fun c_33 => ?_)
          · refine V.iload_n (pc := 85) 3 hC dX1_readPart_85 rfl ?_
            exact hR (bI (x.1 = true)) (f70, i71, i72) _ _ dX1_readPart_86 (by first | rfl | exact bI_n _) ⟨by rw [show (lvS (lkS ρ) (sgS (lkS ρ) (nI u) 0) 4) p = x from hv.trans (lp_no (fun q => c_33 q.1))], by rw [show (lvS (lkS ρ) (sgS (lkS ρ) (nI u) 0) 4) p = x from hv.trans (lp_no (fun q => c_33 q.1))]; exact hx⟩
          · refine V.aload_n (pc := 36) 0 hC dX1_readPart_36 rfl ?_
            refine V.callV0 (pc := 37) (as := []) hC (c_X1_next σ (va_up (va_up (va_up ν 70 f70) 71 (fun _ => i71)) 72 (fun _ => i72)) ρ x.2.1 hT hI hx.1 (by omega)) mu_X1_next ml_X1_52 (by decide) ⟨3, 1, TX1, 5, _, rfl, gx_3⟩ rfl (Nat.le_of_ble_eq_true rfl) dX1_readPart_37 ?_
            rintro _ _ rfl
            show V X (wX k g a σ (va_up (va_up (va_up ν 70 f70) 71 (fun _ => i71)) 72 (fun _ => i72))) [(0, .ref (a 3)), (1, .int 1), (2, .int 5), (3, .int (bI (x.1 = true))), (4, .int 60), (5, .int (nI i))] [.int (lkS ρ x.2.1)] 40
            refine V.callS0 (pc := 40) (as := [.int (lkS ρ x.2.1)]) hC (c_X1_rankOf (lkS ρ x.2.1) ) ms_X1_rankOf ml_X1_56 (by decide) rfl (Nat.le_of_ble_eq_true rfl) dX1_readPart_40 ?_
            rintro _ _ rfl
            show V X (wX k g a σ (va_up (va_up (va_up ν 70 f70) 71 (fun _ => i71)) 72 (fun _ => i72))) [(0, .ref (a 3)), (1, .int 1), (2, .int 5), (3, .int (bI (x.1 = true))), (4, .int 60), (5, .int (nI i))] [.int (nI (rkS (lkS ρ x.2.1)))] 43
            refine V.iload_n (pc := 43) 1 hC dX1_readPart_43 rfl ?_
            refine V.icmp_ne (pc := 44) 85 hC dX1_readPart_44 (by decide) (fun c_44 => ?_) (fun c_44 => ?_)
            · refine V.iload_n (pc := 85) 3 hC dX1_readPart_85 rfl ?_
              exact hR (bI (x.1 = true)) (f70, i71, i72) _ _ dX1_readPart_86 (by first | rfl | exact bI_n _) ⟨by rw [show (lvS (lkS ρ) (sgS (lkS ρ) (nI u) 0) 4) p = x from hv.trans (lp_no (fun q => c_44 ((rk_e (r := 1) (by omega)).mpr q.2)))], by rw [show (lvS (lkS ρ) (sgS (lkS ρ) (nI u) 0) 4) p = x from hv.trans (lp_no (fun q => c_44 ((rk_e (r := 1) (by omega)).mpr q.2)))]; exact hx⟩
            · have hok := c_33
              have hgx := hg.2.2 hok
              have hrk : rkS (lkS ρ x.2.1) = 1 := (rk_e (r := 1) (by omega)).mp c_44
              have hlt : x.2.1 < nN (ρ 5) := tok_lt lk_tok (rk_op hrk (by omega)).2
              have hgy := (lv_g (lk_tok (ρ := ρ)) (sg_g (u := nI u) (lk_tok (ρ := ρ)) 0) 3) (x.2.1 + 1) hlt
              refine V.aload_n (pc := 47) 0 hC dX1_readPart_47 rfl ?_
              refine V.callV0 (pc := 48) (as := []) hC (c_X1_next σ (va_up (va_up (va_up ν 70 f70) 71 (fun _ => i71)) 72 (fun _ => i72)) ρ x.2.1 hT hI hx.1 (by omega)) mu_X1_next ml_X1_52 (by decide) ⟨3, 1, TX1, 5, _, rfl, gx_3⟩ rfl (Nat.le_of_ble_eq_true rfl) dX1_readPart_48 ?_
              rintro _ _ rfl
              show V X (wX k g a σ (va_up (va_up (va_up ν 70 f70) 71 (fun _ => i71)) 72 (fun _ => i72))) [(0, .ref (a 3)), (1, .int 1), (2, .int 5), (3, .int (bI (x.1 = true))), (4, .int 60), (5, .int (nI i))] [.int (lkS ρ x.2.1)] 51
              refine V.istore (pc := 51) [(6, .int (lkS ρ x.2.1)), (0, .ref (a 3)), (1, .int 1), (2, .int 5), (3, .int (bI (x.1 = true))), (4, .int 60), (5, .int (nI i))] hC dX1_readPart_51 (by decide) rfl ?_
              refine V.aload_n (pc := 53) 1 hC dX1_readPart_53 rfl ?_
              refine V.dup (pc := 54) hC dX1_readPart_54 rfl ?_
              refine V.get (pc := 55) (v := .int i72) hC cf_X1 3 3 fl_X1_29 (by decide) gx_3 rfl dX1_readPart_55 ?_
              refine V.iconst (pc := 58) 1 hC dX1_readPart_58 (by decide) ?_
              refine V.iadd (pc := 59) hC dX1_readPart_59 ?_
              refine V.put (pc := 60) (v := .int (i72 + 1)) hC cf_X1 3 3 (wX k g a σ (va_up (va_up (va_up ν 70 f70) 71 (fun _ => i71)) 72 (fun _ => i72 + 1))) fl_X1_29 (by decide) gx_3 rfl rfl rfl (Nat.le_of_ble_eq_true rfl) rfl dX1_readPart_60 ?_
              refine V.aload_n (pc := 63) 1 hC dX1_readPart_63 rfl ?_
              refine V.iload_n (pc := 64) 2 hC dX1_readPart_64 rfl ?_
              refine V.iconst (pc := 65) 1 hC dX1_readPart_65 (by decide) ?_
              refine V.iadd (pc := 66) hC dX1_readPart_66 ?_
              refine V.eqi (y := 2) (by decide) ?_
              refine V.iload_n (pc := 67) 3 hC dX1_readPart_67 rfl ?_
              refine V.callV0 (pc := 68) (as := [.int 2, .int 5]) hC (c_X1_side_2_5 σ (va_up (va_up (va_up ν 70 f70) 71 (fun _ => i71)) 72 (fun _ => i72 + 1)) ρ u (L + x.2.2.length) (x.2.1 + 1) hT hI hu2 ⟨hP.1, (hx.2.2 hok).1, nadd hx.1 (nl 1), by omega, hlt⟩) mu_X1_readSide ml_X1_49 (by decide) ⟨3, 1, TX1, 5, _, rfl, gx_3⟩ rfl (Nat.le_of_ble_eq_true rfl) dX1_readPart_68 ?_
              rintro _ ⟨f68_0, i68_1, i68_2⟩ ⟨rfl, hu68_0⟩
              have hu68_0 : COut (f70) (L + x.2.2.length) ((lvS (lkS ρ) (sgS (lkS ρ) (nI u) 0) 3) (x.2.1 + 1)) f68_0 i68_1 i68_2 := hu68_0
              show V X (wX k g a σ (va_up (va_up (va_up ν 70 f68_0) 71 (fun _ => i68_1)) 72 (fun _ => i68_2))) [(6, .int (lkS ρ x.2.1)), (0, .ref (a 3)), (1, .int 1), (2, .int 5), (3, .int (bI (x.1 = true))), (4, .int 60), (5, .int (nI i))] [.int (bI (((lvS (lkS ρ) (sgS (lkS ρ) (nI u) 0) 3) (x.2.1 + 1)).1 = true))] 71
              refine V.istore_n (pc := 71) [(3, .int (bI (((lvS (lkS ρ) (sgS (lkS ρ) (nI u) 0) 3) (x.2.1 + 1)).1 = true))), (6, .int (lkS ρ x.2.1)), (0, .ref (a 3)), (1, .int 1), (2, .int 5), (4, .int 60), (5, .int (nI i))] hC dX1_readPart_71 (by decide) rfl ?_
              refine V.aload_n (pc := 72) 2 hC dX1_readPart_72 rfl ?_
              refine V.iload (pc := 73) 1 hC dX1_readPart_73 rfl ?_
              refine V.ineg (pc := 75) hC dX1_readPart_75 ?_
              refine V.callV0 (pc := 76) (as := [.int (-(lkS ρ x.2.1))]) hC (c_X1_write σ (va_up (va_up (va_up ν 70 f68_0) 71 (fun _ => i68_1)) 72 (fun _ => i68_2)) (-(lkS ρ x.2.1)) hu68_0.2.1) mu_X1_write ml_X1_60 (by decide) ⟨3, 1, TX1, 5, _, rfl, gx_3⟩ rfl (Nat.le_of_ble_eq_true rfl) dX1_readPart_76 ?_
              rintro _ ⟨f76_0, i76_1⟩ ⟨rfl, hu76_0⟩
              have hu76_0 : WtF (f68_0) (i68_1) (-(lkS ρ x.2.1)) f76_0 i76_1 := hu76_0
              show V X (wX k g a σ (va_up (va_up (va_up ν 70 f76_0) 71 (fun _ => i76_1)) 72 (fun _ => i68_2))) [(3, .int (bI (((lvS (lkS ρ) (sgS (lkS ρ) (nI u) 0) 3) (x.2.1 + 1)).1 = true))), (6, .int (lkS ρ x.2.1)), (0, .ref (a 3)), (1, .int 1), (2, .int 5), (4, .int 60), (5, .int (nI i))] [] 79
              refine V.iinc (pc := 79) 6 (nI (i + 1)) [(5, .int (nI (i + 1))), (3, .int (bI (((lvS (lkS ρ) (sgS (lkS ρ) (nI u) 0) 3) (x.2.1 + 1)).1 = true))), (6, .int (lkS ρ x.2.1)), (0, .ref (a 3)), (1, .int 1), (2, .int 5), (4, .int 60)] hC dX1_readPart_79 rfl (ncast (nadd rfl (nl 1)) (by omega)) (by decide) rfl ?_
              refine V.goto (pc := 82) 25 hC dX1_readPart_82 (by decide) ?_
              exact V.sub [3, 4, 5, 1, 6, 0] rfl (ih (appS x ((lvS (lkS ρ) (sgS (lkS ρ) (nI u) 0) 3) (x.2.1 + 1)) (lkS ρ x.2.1)) (i + 1) f76_0 i76_1 i68_2 (by omega) (hg.app hok hgy (rk_op hrk (by omega)).1) (CO_app hx hok hu68_0 (cd_op1 (rk_op hrk (by omega)).1).symm hu76_0 (fun q => by have := hgy.2.2 q; have := hgy.2.1; omega)) (hv.trans (lp_yes ⟨hok, hrk⟩)))
    exact V.sub [3, 4, 5, 2, 1, 0] rfl (loop_25 60 ((lvS (lkS ρ) (sgS (lkS ρ) (nI u) 0) 3) p) 0 f5_0 i5_1 i5_2 (by omega) ((lv_g (lk_tok (ρ := ρ)) (sg_g (u := nI u) (lk_tok (ρ := ρ)) 0) 3) p (by omega)) hu5_0 rfl)
  · have nc_11 : 1 = 2 := (neq (nl 1) (nl 2) (by omega) (by omega)).mp c_11
    exact absurd c_11 (by decide)
set_option maxHeartbeats 4000000 in
set_option maxRecDepth 100000 in
theorem c_X1_side_1_5 {l : Launch} {D : va_G} {k : Nat → ClassId} {g a : Nat → Nat} (σ ν : St) (ρ : Rw) (u L p : Nat) (hT : RT σ ρ) (hI : Inv ρ) (hu2 : u < 2) (hP : CIn (nN (ρ 5)) (ν 71 0) (ν 72 0) (ν 73 0) u L p) : Ct l D k g yX1_readSide cX1_readSide 3 (some .boolean) 13 306 [.ref (a 3), .int 1, .int 5] (S := Rw × Int32 × Int32) (wX k g a σ ν) (fun uu => wX k g a σ (va_up (va_up (va_up ν 70 uu.1) 71 (fun _ => uu.2.1)) 72 (fun _ => uu.2.2))) (fun vv uu => vv = some (.int (bI (((lvS (lkS ρ) (sgS (lkS ρ) (nI u) 0) 4) p).1 = true))) ∧ COut (ν 70) L ((lvS (lkS ρ) (sgS (lkS ρ) (nI u) 0) 4) p) uu.1 uu.2.1 uu.2.2) := by
  refine Ct.ofI RX1 rfl (by decide +kernel) (Nat.le_of_ble_eq_true rfl) (fun X hC hR => ?_)
  have hb60 := hI.bb; have hle := hP.2.2.2
  show V X (wX k g a σ ν) [(0, .ref (a 3)), (1, .int 1), (2, .int 5)] [] 0
  refine V.iload_n (pc := 0) 1 hC dX1_readSide_0 rfl ?_
  refine V.iconst (pc := 1) 5 hC dX1_readSide_1 (by decide) ?_
  refine V.icmp_ge (pc := 2) 14 hC dX1_readSide_2 (by decide) (fun c_2 => ?_) (fun c_2 => ?_)
  · have nc_2 : 5 ≤ 1 := (nle (nl 5) (nl 1) (by omega) (by omega)).mp c_2
    exact absurd c_2 (by decide)
  · have nc_2 : ¬ (5 ≤ 1) := fun z => c_2 ((nle (nl 5) (nl 1) (by omega) (by omega)).mpr z)
    refine V.aload_n (pc := 5) 0 hC dX1_readSide_5 rfl ?_
    refine V.iload_n (pc := 6) 1 hC dX1_readSide_6 rfl ?_
    refine V.iload_n (pc := 7) 2 hC dX1_readSide_7 rfl ?_
    refine V.callV0 (pc := 8) (as := [.int 1, .int 5]) hC (c_X1_part_1_5 σ ν ρ u L p hT hI hu2 hP) mu_X1_readPart ml_X1_36 (by decide) ⟨3, 1, TX1, 5, _, rfl, gx_3⟩ rfl (Nat.le_of_ble_eq_true rfl) dX1_readSide_8 ?_
    rintro _ ⟨f8_0, i8_1, i8_2⟩ ⟨rfl, hu8_0⟩
    have hu8_0 : COut (ν 70) L ((lvS (lkS ρ) (sgS (lkS ρ) (nI u) 0) 4) p) f8_0 i8_1 i8_2 := hu8_0
    show V X (wX k g a σ (va_up (va_up (va_up ν 70 f8_0) 71 (fun _ => i8_1)) 72 (fun _ => i8_2))) [(0, .ref (a 3)), (1, .int 1), (2, .int 5)] [.int (bI (((lvS (lkS ρ) (sgS (lkS ρ) (nI u) 0) 4) p).1 = true))] 11
    refine V.goto (pc := 11) 19 hC dX1_readSide_11 (by decide) ?_
    exact hR (bI (((lvS (lkS ρ) (sgS (lkS ρ) (nI u) 0) 4) p).1 = true)) (f8_0, i8_1, i8_2) _ _ dX1_readSide_19 (by first | rfl | exact bI_n _) ⟨rfl, hu8_0⟩
set_option maxHeartbeats 4000000 in
set_option maxRecDepth 100000 in
theorem c_X1_part_0_5 {l : Launch} {D : va_G} {k : Nat → ClassId} {g a : Nat → Nat} (σ ν : St) (ρ : Rw) (u L p : Nat) (hT : RT σ ρ) (hI : Inv ρ) (hu2 : u < 2) (hP : CIn (nN (ρ 5)) (ν 71 0) (ν 72 0) (ν 73 0) u L p) : Ct l D k g yX1_readPart cX1_readPart 7 (some .boolean) 14 328 [.ref (a 3), .int 0, .int 5] (S := Rw × Int32 × Int32) (wX k g a σ ν) (fun uu => wX k g a σ (va_up (va_up (va_up ν 70 uu.1) 71 (fun _ => uu.2.1)) 72 (fun _ => uu.2.2))) (fun vv uu => vv = some (.int (bI (((lvS (lkS ρ) (sgS (lkS ρ) (nI u) 0) 5) p).1 = true))) ∧ COut (ν 70) L ((lvS (lkS ρ) (sgS (lkS ρ) (nI u) 0) 5) p) uu.1 uu.2.1 uu.2.2) := by
  refine Ct.ofI RX1 rfl (by decide +kernel) (Nat.le_of_ble_eq_true rfl) (fun X hC hR => ?_)
  have hb60 := hI.bb; have hle := hP.2.2.2
  show V X (wX k g a σ ν) [(0, .ref (a 3)), (1, .int 0), (2, .int 5)] [] 0
  refine V.aload_n (pc := 0) 0 hC dX1_readPart_0 rfl ?_
  refine V.iload_n (pc := 1) 1 hC dX1_readPart_1 rfl ?_
  refine V.iconst (pc := 2) 1 hC dX1_readPart_2 (by decide) ?_
  refine V.iadd (pc := 3) hC dX1_readPart_3 ?_
  refine V.eqi (y := 1) (by decide) ?_
  refine V.iload_n (pc := 4) 2 hC dX1_readPart_4 rfl ?_
  refine V.callV0 (pc := 5) (as := [.int 1, .int 5]) hC (c_X1_side_1_5 σ ν ρ u L p hT hI hu2 hP) mu_X1_readSide ml_X1_49 (by decide) ⟨3, 1, TX1, 5, _, rfl, gx_3⟩ rfl (Nat.le_of_ble_eq_true rfl) dX1_readPart_5 ?_
  rintro _ ⟨f5_0, i5_1, i5_2⟩ ⟨rfl, hu5_0⟩
  have hu5_0 : COut (ν 70) L ((lvS (lkS ρ) (sgS (lkS ρ) (nI u) 0) 4) p) f5_0 i5_1 i5_2 := hu5_0
  show V X (wX k g a σ (va_up (va_up (va_up ν 70 f5_0) 71 (fun _ => i5_1)) 72 (fun _ => i5_2))) [(0, .ref (a 3)), (1, .int 0), (2, .int 5)] [.int (bI (((lvS (lkS ρ) (sgS (lkS ρ) (nI u) 0) 4) p).1 = true))] 8
  refine V.istore_n (pc := 8) [(3, .int (bI (((lvS (lkS ρ) (sgS (lkS ρ) (nI u) 0) 4) p).1 = true))), (0, .ref (a 3)), (1, .int 0), (2, .int 5)] hC dX1_readPart_8 (by decide) rfl ?_
  refine V.iload_n (pc := 9) 2 hC dX1_readPart_9 rfl ?_
  refine V.iconst (pc := 10) 2 hC dX1_readPart_10 (by decide) ?_
  refine V.icmp_ne (pc := 11) 18 hC dX1_readPart_11 (by decide) (fun c_11 => ?_) (fun c_11 => ?_)
  · have nc_11 : ¬ (0 = 2) := fun z => c_11 ((neq (nl 0) (nl 2) (by omega) (by omega)).mpr z)
    refine V.bipush (pc := 18) 60 hC dX1_readPart_18 (by decide) ?_
    refine V.istore (pc := 20) [(4, .int 60), (3, .int (bI (((lvS (lkS ρ) (sgS (lkS ρ) (nI u) 0) 4) p).1 = true))), (0, .ref (a 3)), (1, .int 0), (2, .int 5)] hC dX1_readPart_20 (by decide) rfl ?_
    refine V.iconst (pc := 22) 0 hC dX1_readPart_22 (by decide) ?_
    refine V.istore (pc := 23) [(5, .int 0), (4, .int 60), (3, .int (bI (((lvS (lkS ρ) (sgS (lkS ρ) (nI u) 0) 4) p).1 = true))), (0, .ref (a 3)), (1, .int 0), (2, .int 5)] hC dX1_readPart_23 (by decide) rfl ?_
    have loop_25 : ∀ (n : Nat) (x : Res) (i : Nat) (f70 : Rw) (i71 i72 : Int32), i + n = 60 → GR (nN (ρ 5)) p x → COut (ν 70) L x f70 i71 i72 → (lvS (lkS ρ) (sgS (lkS ρ) (nI u) 0) 5) p = lpS (lkS ρ) (lvS (lkS ρ) (sgS (lkS ρ) (nI u) 0) 4) 0 n x → V X (wX k g a σ (va_up (va_up (va_up ν 70 f70) 71 (fun _ => i71)) 72 (fun _ => i72))) [(0, .ref (a 3)), (1, .int 0), (2, .int 5), (3, .int (bI (x.1 = true))), (4, .int 60), (5, .int (nI i))] [] 25 := by
      intro n
      induction n with
      | zero =>
        intro x i f70 i71 i72 hi hg hx hv
        have hxb := hg.2.1
        refine V.iload (pc := 25) 5 hC dX1_readPart_25 rfl ?_
        refine V.iload (pc := 27) 4 hC dX1_readPart_27 rfl ?_
        refine V.icmp_ge (pc := 29) 85 hC dX1_readPart_29 (by decide) (fun c_29 => ?_) (fun c_29 => ?_)
        · have nc_29 : 60 ≤ i := (nle (nl 60) rfl (by omega) (by omega)).mp c_29
          refine V.iload_n (pc := 85) 3 hC dX1_readPart_85 rfl ?_
          exact hR (bI (x.1 = true)) (f70, i71, i72) _ _ dX1_readPart_86 (by first | rfl | exact bI_n _) ⟨by rw [show (lvS (lkS ρ) (sgS (lkS ρ) (nI u) 0) 5) p = x from hv], by rw [show (lvS (lkS ρ) (sgS (lkS ρ) (nI u) 0) 5) p = x from hv]; exact hx⟩
        · have nc_29 : ¬ (60 ≤ i) := fun z => c_29 ((nle (nl 60) rfl (by omega) (by omega)).mpr z)
          exfalso; omega
      | succ n ih =>
        intro x i f70 i71 i72 hi hg hx hv
        have hxb := hg.2.1
        refine V.iload (pc := 25) 5 hC dX1_readPart_25 rfl ?_
        refine V.iload (pc := 27) 4 hC dX1_readPart_27 rfl ?_
        refine V.icmp_ge (pc := 29) 85 hC dX1_readPart_29 (by decide) (fun c_29 => ?_) (fun c_29 => ?_)
        · have nc_29 : 60 ≤ i := (nle (nl 60) rfl (by omega) (by omega)).mp c_29
          exfalso; omega
        · have nc_29 : ¬ (60 ≤ i) := fun z => c_29 ((nle (nl 60) rfl (by omega) (by omega)).mpr z)
          refine V.iload_n (pc := 32) 3 hC dX1_readPart_32 rfl ?_
          refine V.if_eq_b (P := x.1 = true) (pc := 33) 85 hC dX1_readPart_33 (by decide) (fun c_33 => ?_) (fun c_33 => ?_)
          · refine V.iload_n (pc := 85) 3 hC dX1_readPart_85 rfl ?_
            exact hR (bI (x.1 = true)) (f70, i71, i72) _ _ dX1_readPart_86 (by first | rfl | exact bI_n _) ⟨by rw [show (lvS (lkS ρ) (sgS (lkS ρ) (nI u) 0) 5) p = x from hv.trans (lp_no (fun q => c_33 q.1))], by rw [show (lvS (lkS ρ) (sgS (lkS ρ) (nI u) 0) 5) p = x from hv.trans (lp_no (fun q => c_33 q.1))]; exact hx⟩
          · refine V.aload_n (pc := 36) 0 hC dX1_readPart_36 rfl ?_
            refine V.callV0 (pc := 37) (as := []) hC (c_X1_next σ (va_up (va_up (va_up ν 70 f70) 71 (fun _ => i71)) 72 (fun _ => i72)) ρ x.2.1 hT hI hx.1 (by omega)) mu_X1_next ml_X1_52 (by decide) ⟨3, 1, TX1, 5, _, rfl, gx_3⟩ rfl (Nat.le_of_ble_eq_true rfl) dX1_readPart_37 ?_
            rintro _ _ rfl
            show V X (wX k g a σ (va_up (va_up (va_up ν 70 f70) 71 (fun _ => i71)) 72 (fun _ => i72))) [(0, .ref (a 3)), (1, .int 0), (2, .int 5), (3, .int (bI (x.1 = true))), (4, .int 60), (5, .int (nI i))] [.int (lkS ρ x.2.1)] 40
            refine V.callS0 (pc := 40) (as := [.int (lkS ρ x.2.1)]) hC (c_X1_rankOf (lkS ρ x.2.1) ) ms_X1_rankOf ml_X1_56 (by decide) rfl (Nat.le_of_ble_eq_true rfl) dX1_readPart_40 ?_
            rintro _ _ rfl
            show V X (wX k g a σ (va_up (va_up (va_up ν 70 f70) 71 (fun _ => i71)) 72 (fun _ => i72))) [(0, .ref (a 3)), (1, .int 0), (2, .int 5), (3, .int (bI (x.1 = true))), (4, .int 60), (5, .int (nI i))] [.int (nI (rkS (lkS ρ x.2.1)))] 43
            refine V.iload_n (pc := 43) 1 hC dX1_readPart_43 rfl ?_
            refine V.icmp_ne (pc := 44) 85 hC dX1_readPart_44 (by decide) (fun c_44 => ?_) (fun c_44 => ?_)
            · refine V.iload_n (pc := 85) 3 hC dX1_readPart_85 rfl ?_
              exact hR (bI (x.1 = true)) (f70, i71, i72) _ _ dX1_readPart_86 (by first | rfl | exact bI_n _) ⟨by rw [show (lvS (lkS ρ) (sgS (lkS ρ) (nI u) 0) 5) p = x from hv.trans (lp_no (fun q => c_44 ((rk_e (r := 0) (by omega)).mpr q.2)))], by rw [show (lvS (lkS ρ) (sgS (lkS ρ) (nI u) 0) 5) p = x from hv.trans (lp_no (fun q => c_44 ((rk_e (r := 0) (by omega)).mpr q.2)))]; exact hx⟩
            · have hok := c_33
              have hgx := hg.2.2 hok
              have hrk : rkS (lkS ρ x.2.1) = 0 := (rk_e (r := 0) (by omega)).mp c_44
              have hlt : x.2.1 < nN (ρ 5) := tok_lt lk_tok (rk_op hrk (by omega)).2
              have hgy := (lv_g (lk_tok (ρ := ρ)) (sg_g (u := nI u) (lk_tok (ρ := ρ)) 0) 4) (x.2.1 + 1) hlt
              refine V.aload_n (pc := 47) 0 hC dX1_readPart_47 rfl ?_
              refine V.callV0 (pc := 48) (as := []) hC (c_X1_next σ (va_up (va_up (va_up ν 70 f70) 71 (fun _ => i71)) 72 (fun _ => i72)) ρ x.2.1 hT hI hx.1 (by omega)) mu_X1_next ml_X1_52 (by decide) ⟨3, 1, TX1, 5, _, rfl, gx_3⟩ rfl (Nat.le_of_ble_eq_true rfl) dX1_readPart_48 ?_
              rintro _ _ rfl
              show V X (wX k g a σ (va_up (va_up (va_up ν 70 f70) 71 (fun _ => i71)) 72 (fun _ => i72))) [(0, .ref (a 3)), (1, .int 0), (2, .int 5), (3, .int (bI (x.1 = true))), (4, .int 60), (5, .int (nI i))] [.int (lkS ρ x.2.1)] 51
              refine V.istore (pc := 51) [(6, .int (lkS ρ x.2.1)), (0, .ref (a 3)), (1, .int 0), (2, .int 5), (3, .int (bI (x.1 = true))), (4, .int 60), (5, .int (nI i))] hC dX1_readPart_51 (by decide) rfl ?_
              refine V.aload_n (pc := 53) 1 hC dX1_readPart_53 rfl ?_
              refine V.dup (pc := 54) hC dX1_readPart_54 rfl ?_
              refine V.get (pc := 55) (v := .int i72) hC cf_X1 3 3 fl_X1_29 (by decide) gx_3 rfl dX1_readPart_55 ?_
              refine V.iconst (pc := 58) 1 hC dX1_readPart_58 (by decide) ?_
              refine V.iadd (pc := 59) hC dX1_readPart_59 ?_
              refine V.put (pc := 60) (v := .int (i72 + 1)) hC cf_X1 3 3 (wX k g a σ (va_up (va_up (va_up ν 70 f70) 71 (fun _ => i71)) 72 (fun _ => i72 + 1))) fl_X1_29 (by decide) gx_3 rfl rfl rfl (Nat.le_of_ble_eq_true rfl) rfl dX1_readPart_60 ?_
              refine V.aload_n (pc := 63) 1 hC dX1_readPart_63 rfl ?_
              refine V.iload_n (pc := 64) 2 hC dX1_readPart_64 rfl ?_
              refine V.iconst (pc := 65) 1 hC dX1_readPart_65 (by decide) ?_
              refine V.iadd (pc := 66) hC dX1_readPart_66 ?_
              refine V.eqi (y := 1) (by decide) ?_
              refine V.iload_n (pc := 67) 3 hC dX1_readPart_67 rfl ?_
              refine V.callV0 (pc := 68) (as := [.int 1, .int 5]) hC (c_X1_side_1_5 σ (va_up (va_up (va_up ν 70 f70) 71 (fun _ => i71)) 72 (fun _ => i72 + 1)) ρ u (L + x.2.2.length) (x.2.1 + 1) hT hI hu2 ⟨hP.1, (hx.2.2 hok).1, nadd hx.1 (nl 1), by omega, hlt⟩) mu_X1_readSide ml_X1_49 (by decide) ⟨3, 1, TX1, 5, _, rfl, gx_3⟩ rfl (Nat.le_of_ble_eq_true rfl) dX1_readPart_68 ?_
              rintro _ ⟨f68_0, i68_1, i68_2⟩ ⟨rfl, hu68_0⟩
              have hu68_0 : COut (f70) (L + x.2.2.length) ((lvS (lkS ρ) (sgS (lkS ρ) (nI u) 0) 4) (x.2.1 + 1)) f68_0 i68_1 i68_2 := hu68_0
              show V X (wX k g a σ (va_up (va_up (va_up ν 70 f68_0) 71 (fun _ => i68_1)) 72 (fun _ => i68_2))) [(6, .int (lkS ρ x.2.1)), (0, .ref (a 3)), (1, .int 0), (2, .int 5), (3, .int (bI (x.1 = true))), (4, .int 60), (5, .int (nI i))] [.int (bI (((lvS (lkS ρ) (sgS (lkS ρ) (nI u) 0) 4) (x.2.1 + 1)).1 = true))] 71
              refine V.istore_n (pc := 71) [(3, .int (bI (((lvS (lkS ρ) (sgS (lkS ρ) (nI u) 0) 4) (x.2.1 + 1)).1 = true))), (6, .int (lkS ρ x.2.1)), (0, .ref (a 3)), (1, .int 0), (2, .int 5), (4, .int 60), (5, .int (nI i))] hC dX1_readPart_71 (by decide) rfl ?_
              refine V.aload_n (pc := 72) 2 hC dX1_readPart_72 rfl ?_
              refine V.iload (pc := 73) 1 hC dX1_readPart_73 rfl ?_
              refine V.ineg (pc := 75) hC dX1_readPart_75 ?_
              refine V.callV0 (pc := 76) (as := [.int (-(lkS ρ x.2.1))]) hC (c_X1_write σ (va_up (va_up (va_up ν 70 f68_0) 71 (fun _ => i68_1)) 72 (fun _ => i68_2)) (-(lkS ρ x.2.1)) hu68_0.2.1) mu_X1_write ml_X1_60 (by decide) ⟨3, 1, TX1, 5, _, rfl, gx_3⟩ rfl (Nat.le_of_ble_eq_true rfl) dX1_readPart_76 ?_
              rintro _ ⟨f76_0, i76_1⟩ ⟨rfl, hu76_0⟩
              have hu76_0 : WtF (f68_0) (i68_1) (-(lkS ρ x.2.1)) f76_0 i76_1 := hu76_0
              show V X (wX k g a σ (va_up (va_up (va_up ν 70 f76_0) 71 (fun _ => i76_1)) 72 (fun _ => i68_2))) [(3, .int (bI (((lvS (lkS ρ) (sgS (lkS ρ) (nI u) 0) 4) (x.2.1 + 1)).1 = true))), (6, .int (lkS ρ x.2.1)), (0, .ref (a 3)), (1, .int 0), (2, .int 5), (4, .int 60), (5, .int (nI i))] [] 79
              refine V.iinc (pc := 79) 6 (nI (i + 1)) [(5, .int (nI (i + 1))), (3, .int (bI (((lvS (lkS ρ) (sgS (lkS ρ) (nI u) 0) 4) (x.2.1 + 1)).1 = true))), (6, .int (lkS ρ x.2.1)), (0, .ref (a 3)), (1, .int 0), (2, .int 5), (4, .int 60)] hC dX1_readPart_79 rfl (ncast (nadd rfl (nl 1)) (by omega)) (by decide) rfl ?_
              refine V.goto (pc := 82) 25 hC dX1_readPart_82 (by decide) ?_
              exact V.sub [3, 4, 5, 1, 6, 0] rfl (ih (appS x ((lvS (lkS ρ) (sgS (lkS ρ) (nI u) 0) 4) (x.2.1 + 1)) (lkS ρ x.2.1)) (i + 1) f76_0 i76_1 i68_2 (by omega) (hg.app hok hgy (rk_op hrk (by omega)).1) (CO_app hx hok hu68_0 (cd_op1 (rk_op hrk (by omega)).1).symm hu76_0 (fun q => by have := hgy.2.2 q; have := hgy.2.1; omega)) (hv.trans (lp_yes ⟨hok, hrk⟩)))
    exact V.sub [3, 4, 5, 2, 1, 0] rfl (loop_25 60 ((lvS (lkS ρ) (sgS (lkS ρ) (nI u) 0) 4) p) 0 f5_0 i5_1 i5_2 (by omega) ((lv_g (lk_tok (ρ := ρ)) (sg_g (u := nI u) (lk_tok (ρ := ρ)) 0) 4) p (by omega)) hu5_0 rfl)
  · have nc_11 : 0 = 2 := (neq (nl 0) (nl 2) (by omega) (by omega)).mp c_11
    exact absurd c_11 (by decide)
set_option maxHeartbeats 4000000 in
set_option maxRecDepth 100000 in
theorem c_X1_not_5 {l : Launch} {D : va_G} {k : Nat → ClassId} {g a : Nat → Nat} (σ ν : St) (ρ : Rw) (u L p : Nat) (hT : RT σ ρ) (hI : Inv ρ) (hu2 : u < 2) (hP : CIn (nN (ρ 5)) (ν 71 0) (ν 72 0) (ν 73 0) u L p) (hLp : L < p) : Ct l D k g yX1_readNot cX1_readNot 3 (some .boolean) 5 114 [.ref (a 3), .int 5] (S := Rw × Int32 × Int32) (wX k g a σ ν) (fun uu => wX k g a σ (va_up (va_up (va_up ν 70 uu.1) 71 (fun _ => uu.2.1)) 72 (fun _ => uu.2.2))) (fun vv uu => vv = some (.int (bI (((sgS (lkS ρ) (nI u) 0) p).1 = true))) ∧ COut (ν 70) L (((sgS (lkS ρ) (nI u) 0) p).1, ((sgS (lkS ρ) (nI u) 0) p).2.1, ((sgS (lkS ρ) (nI u) 0) p).2.2 ++ [(3, 0)]) uu.1 uu.2.1 uu.2.2) := by
  refine Ct.ofI RX1 rfl (by decide +kernel) (Nat.le_of_ble_eq_true rfl) (fun X hC hR => ?_)
  have hb60 := hI.bb; have hle := hP.2.2.2
  show V X (wX k g a σ ν) [(0, .ref (a 3)), (1, .int 5)] [] 0
  refine V.aload_n (pc := 0) 0 hC dX1_readNot_0 rfl ?_
  refine V.iload_n (pc := 1) 1 hC dX1_readNot_1 rfl ?_
  refine V.callV0 (pc := 2) (as := [.int 5]) hC (c_X1_single_5 σ ν ρ u L p hT hI hu2 hP) mu_X1_readSingle ml_X1_64 (by decide) ⟨3, 1, TX1, 5, _, rfl, gx_3⟩ rfl (Nat.le_of_ble_eq_true rfl) dX1_readNot_2 ?_
  rintro _ ⟨f2_0, i2_1, i2_2⟩ ⟨rfl, hu2_0⟩
  have hu2_0 : COut (ν 70) L ((sgS (lkS ρ) (nI u) 0) p) f2_0 i2_1 i2_2 := hu2_0
  show V X (wX k g a σ (va_up (va_up (va_up ν 70 f2_0) 71 (fun _ => i2_1)) 72 (fun _ => i2_2))) [(0, .ref (a 3)), (1, .int 5)] [.int (bI (((sgS (lkS ρ) (nI u) 0) p).1 = true))] 5
  refine V.istore_n (pc := 5) [(2, .int (bI (((sgS (lkS ρ) (nI u) 0) p).1 = true))), (0, .ref (a 3)), (1, .int 5)] hC dX1_readNot_5 (by decide) rfl ?_
  refine V.aload_n (pc := 6) 1 hC dX1_readNot_6 rfl ?_
  refine V.bipush (pc := 7) (-33) hC dX1_readNot_7 (by decide) ?_
  refine V.callV0 (pc := 9) (as := [.int (-33)]) hC (c_X1_write σ (va_up (va_up (va_up ν 70 f2_0) 71 (fun _ => i2_1)) 72 (fun _ => i2_2)) (-33) hu2_0.2.1) mu_X1_write ml_X1_60 (by decide) ⟨3, 1, TX1, 5, _, rfl, gx_3⟩ rfl (Nat.le_of_ble_eq_true rfl) dX1_readNot_9 ?_
  rintro _ ⟨f9_0, i9_1⟩ ⟨rfl, hu9_0⟩
  have hu9_0 : WtF (f2_0) (i2_1) (-33) f9_0 i9_1 := hu9_0
  show V X (wX k g a σ (va_up (va_up (va_up ν 70 f9_0) 71 (fun _ => i9_1)) 72 (fun _ => i2_2))) [(2, .int (bI (((sgS (lkS ρ) (nI u) 0) p).1 = true))), (0, .ref (a 3)), (1, .int 5)] [] 12
  refine V.iload_n (pc := 12) 0 hC dX1_readNot_12 rfl ?_
  exact hR (bI (((sgS (lkS ρ) (nI u) 0) p).1 = true)) (f9_0, i9_1, i2_2) _ _ dX1_readNot_13 (by first | rfl | exact bI_n _) ⟨rfl, CO_add hu2_0 (w := (3, 0)) rfl hu9_0 (fun q => by have := ((sg_g (u := nI u) (lk_tok (ρ := ρ)) 0) p (by omega)).2.2 q; have := ((sg_g (u := nI u) (lk_tok (ρ := ρ)) 0) p (by omega)).2.1; have := hLp; omega)⟩
set_option maxHeartbeats 4000000 in
set_option maxRecDepth 100000 in
theorem c_X1_br_5 {l : Launch} {D : va_G} {k : Nat → ClassId} {g a : Nat → Nat} (σ ν : St) (ρ : Rw) (u L p : Nat) (hT : RT σ ρ) (hI : Inv ρ) (hu2 : u < 2) (hP : CIn (nN (ρ 5)) (ν 71 0) (ν 72 0) (ν 73 0) u L p) : Ct l D k g yX1_readBracket cX1_readBracket 2 (some .boolean) 15 354 [.ref (a 3), .int 5] (S := Rw × Int32 × Int32) (wX k g a σ ν) (fun uu => wX k g a σ (va_up (va_up (va_up ν 70 uu.1) 71 (fun _ => uu.2.1)) 72 (fun _ => uu.2.2))) (fun vv uu => vv = some (.int (bI ((if ((lvS (lkS ρ) (sgS (lkS ρ) (nI u) 0) 5) p).1 = true ∧ lkS ρ ((lvS (lkS ρ) (sgS (lkS ρ) (nI u) 0) 5) p).2.1 = 41 then (true, ((lvS (lkS ρ) (sgS (lkS ρ) (nI u) 0) 5) p).2.1 + 1, ((lvS (lkS ρ) (sgS (lkS ρ) (nI u) 0) 5) p).2.2) else (false, ((lvS (lkS ρ) (sgS (lkS ρ) (nI u) 0) 5) p).2.1, ((lvS (lkS ρ) (sgS (lkS ρ) (nI u) 0) 5) p).2.2) : Res).1 = true))) ∧ COut (ν 70) L (if ((lvS (lkS ρ) (sgS (lkS ρ) (nI u) 0) 5) p).1 = true ∧ lkS ρ ((lvS (lkS ρ) (sgS (lkS ρ) (nI u) 0) 5) p).2.1 = 41 then (true, ((lvS (lkS ρ) (sgS (lkS ρ) (nI u) 0) 5) p).2.1 + 1, ((lvS (lkS ρ) (sgS (lkS ρ) (nI u) 0) 5) p).2.2) else (false, ((lvS (lkS ρ) (sgS (lkS ρ) (nI u) 0) 5) p).2.1, ((lvS (lkS ρ) (sgS (lkS ρ) (nI u) 0) 5) p).2.2) : Res) uu.1 uu.2.1 uu.2.2) := by
  refine Ct.ofI RX1 rfl (by decide +kernel) (Nat.le_of_ble_eq_true rfl) (fun X hC hR => ?_)
  have hb60 := hI.bb; have hle := hP.2.2.2
  show V X (wX k g a σ ν) [(0, .ref (a 3)), (1, .int 5)] [] 0
  refine V.aload_n (pc := 0) 0 hC dX1_readBracket_0 rfl ?_
  refine V.iconst (pc := 1) 0 hC dX1_readBracket_1 (by decide) ?_
  refine V.iload_n (pc := 2) 1 hC dX1_readBracket_2 rfl ?_
  refine V.callV0 (pc := 3) (as := [.int 0, .int 5]) hC (c_X1_part_0_5 σ ν ρ u L p hT hI hu2 hP) mu_X1_readPart ml_X1_36 (by decide) ⟨3, 1, TX1, 5, _, rfl, gx_3⟩ rfl (Nat.le_of_ble_eq_true rfl) dX1_readBracket_3 ?_
  rintro _ ⟨f3_0, i3_1, i3_2⟩ ⟨rfl, hu3_0⟩
  have hu3_0 : COut (ν 70) L ((lvS (lkS ρ) (sgS (lkS ρ) (nI u) 0) 5) p) f3_0 i3_1 i3_2 := hu3_0
  show V X (wX k g a σ (va_up (va_up (va_up ν 70 f3_0) 71 (fun _ => i3_1)) 72 (fun _ => i3_2))) [(0, .ref (a 3)), (1, .int 5)] [.int (bI (((lvS (lkS ρ) (sgS (lkS ρ) (nI u) 0) 5) p).1 = true))] 6
  refine V.if_eq_b (P := ((lvS (lkS ρ) (sgS (lkS ρ) (nI u) 0) 5) p).1 = true) (pc := 6) 18 hC dX1_readBracket_6 (by decide) (fun c_6 => ?_) (fun c_6 => ?_)
  · refine V.iconst (pc := 18) 0 hC dX1_readBracket_18 (by decide) ?_
    exact hR 0 (f3_0, i3_1, i3_2) _ _ dX1_readBracket_19 (by first | rfl | exact bI_n _) ⟨rb0 (by rw [if_neg (fun z => c_6 z.1)]; exact fun z => absurd (show false = true from z) (by decide)), by rw [if_neg (fun z => c_6 z.1)]; exact CO_bad hu3_0.1 hu3_0.2.1⟩
  · refine V.aload_n (pc := 9) 0 hC dX1_readBracket_9 rfl ?_
    refine V.callV0 (pc := 10) (as := []) hC (c_X1_next σ (va_up (va_up (va_up ν 70 f3_0) 71 (fun _ => i3_1)) 72 (fun _ => i3_2)) ρ (((lvS (lkS ρ) (sgS (lkS ρ) (nI u) 0) 5) p).2.1) hT hI hu3_0.1 (by have := ((lv_g (lk_tok (ρ := ρ)) (sg_g (u := nI u) (lk_tok (ρ := ρ)) 0) 5) p (by omega)).2.1; omega)) mu_X1_next ml_X1_52 (by decide) ⟨3, 1, TX1, 5, _, rfl, gx_3⟩ rfl (Nat.le_of_ble_eq_true rfl) dX1_readBracket_10 ?_
    rintro _ _ rfl
    show V X (wX k g a σ (va_up (va_up (va_up ν 70 f3_0) 71 (fun _ => i3_1)) 72 (fun _ => i3_2))) [(0, .ref (a 3)), (1, .int 5)] [.int (lkS ρ (((lvS (lkS ρ) (sgS (lkS ρ) (nI u) 0) 5) p).2.1))] 13
    refine V.bipush (pc := 13) 41 hC dX1_readBracket_13 (by decide) ?_
    refine V.icmp_eq (pc := 15) 20 hC dX1_readBracket_15 (by decide) (fun c_15 => ?_) (fun c_15 => ?_)
    · refine V.aload_n (pc := 20) 0 hC dX1_readBracket_20 rfl ?_
      refine V.dup (pc := 21) hC dX1_readBracket_21 rfl ?_
      refine V.get (pc := 22) (v := .int i3_2) hC cf_X1 3 3 fl_X1_29 (by decide) gx_3 rfl dX1_readBracket_22 ?_
      refine V.iconst (pc := 25) 1 hC dX1_readBracket_25 (by decide) ?_
      refine V.iadd (pc := 26) hC dX1_readBracket_26 ?_
      refine V.put (pc := 27) (v := .int (i3_2 + 1)) hC cf_X1 3 3 (wX k g a σ (va_up (va_up (va_up ν 70 f3_0) 71 (fun _ => i3_1)) 72 (fun _ => i3_2 + 1))) fl_X1_29 (by decide) gx_3 rfl rfl rfl (Nat.le_of_ble_eq_true rfl) rfl dX1_readBracket_27 ?_
      refine V.iconst (pc := 30) 1 hC dX1_readBracket_30 (by decide) ?_
      exact hR 1 (f3_0, i3_1, i3_2 + 1) _ _ dX1_readBracket_31 (by first | rfl | exact bI_n _) ⟨rb1 (by rw [if_pos ⟨c_6, c_15⟩]), by rw [if_pos ⟨c_6, c_15⟩]; exact ⟨nadd hu3_0.1 (nl 1), hu3_0.2.1, fun _ => hu3_0.2.2 c_6⟩⟩
    · refine V.iconst (pc := 18) 0 hC dX1_readBracket_18 (by decide) ?_
      exact hR 0 (f3_0, i3_1, i3_2) _ _ dX1_readBracket_19 (by first | rfl | exact bI_n _) ⟨rb0 (by rw [if_neg (fun z => c_15 z.2)]; exact fun z => absurd (show false = true from z) (by decide)), by rw [if_neg (fun z => c_15 z.2)]; exact CO_bad hu3_0.1 hu3_0.2.1⟩
