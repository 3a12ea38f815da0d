def txC (ρ : Rw) (s : Nat) (c w : Rw) (i : Nat) : Rw := fun j => if s ≤ j ∧ j < s + i then c (j - s) else if s + 60 ≤ j ∧ j < s + 60 + i then w (j - (s + 60)) else ρ j
theorem txC_0 {ρ : Rw} {s : Nat} {c w : Rw} : ρ = txC ρ s c w 0 := by
  funext j
  unfold txC
  rw [if_neg (by omega), if_neg (by omega)]
theorem txC_s {ρ : Rw} {s : Nat} {c w : Rw} {i : Nat} (hi : i < 60) : upd (upd (txC ρ s c w i) (s + i) (c i)) (s + 60 + i) (w i) = txC ρ s c w (i + 1) := by
  funext j
  unfold upd txC
  by_cases h1 : j = s + 60 + i
  · rw [if_pos h1, if_neg (by omega), if_pos (by omega)]
    congr 1; omega
  · rw [if_neg h1]
    by_cases h2 : j = s + i
    · rw [if_pos h2, if_pos (by omega)]
      congr 1; omega
    · rw [if_neg h2]
      by_cases h3 : s ≤ j ∧ j < s + i
      · rw [if_pos h3, if_pos (by omega)]
      · have e1 : ¬ (s ≤ j ∧ j < s + (i + 1)) := by omega
        rw [if_neg h3, if_neg e1]
        by_cases h4 : s + 60 ≤ j ∧ j < s + 60 + i
        · have e2 : s + 60 ≤ j ∧ j < s + 60 + (i + 1) := by omega
          rw [if_pos h4, if_pos e2]
        · have e2 : ¬ (s + 60 ≤ j ∧ j < s + 60 + (i + 1)) := by omega
          rw [if_neg h4, if_neg e2]
def txR (ρ : Rw) (u : Int32) : Res := lvS (lkS ρ) (sgS (lkS ρ) u 5) 5 0
def wdA (x : List Wd) : Rw := fun i => (x.getD i (0, 0)).1
def wdW (x : List Wd) : Rw := fun i => (x.getD i (0, 0)).2
def txB (ρ : Rw) (u : Nat) (x : List Wd) : Rw := upd (upd ρ 5 0) (133 + 121 * u) (nI x.length)
def op_text (u : Int32) (μ : St) : Int32 × St := if ¬ inS u 0 1 then er 1 μ else if (txR (μ 0) u).1 = true ∧ (txR (μ 0) u).2.1 = nN (μ 0 5) then (1, row μ (txC (txB (μ 0) (nN u) (txR (μ 0) u).2.2) (134 + 121 * nN u) (wdA (txR (μ 0) u).2.2) (wdW (txR (μ 0) u).2.2) (txR (μ 0) u).2.2.length)) else (-10 - nI (txR (μ 0) u).2.1, row μ (upd (μ 0) 5 0))
theorem getD_1 {x : List Wd} {i : Nat} : (x.map Prod.fst).getD i 0 = wdA x i := by
  unfold wdA
  simp only [List.getD_eq_getElem?_getD, List.getElem?_map]
  cases x[i]? <;> rfl
theorem getD_2 {x : List Wd} {i : Nat} : (x.map Prod.snd).getD i 0 = wdW x i := by
  unfold wdW
  simp only [List.getD_eq_getElem?_getD, List.getElem?_map]
  cases x[i]? <;> rfl
theorem lay0_1 {g : Rw} {x : List Wd} {i : Nat} (h : i < x.length) : lay g 0 (x.map Prod.fst) i = wdA x i := by
  have e := lay_at (x := x.map Prod.fst) (g := g) (L := 0) (i := i) (by rw [List.length_map]; exact h)
  rw [Nat.zero_add] at e
  rw [e, getD_1]
theorem lay0_2 {g : Rw} {x : List Wd} {i : Nat} (h : i < x.length) : lay g 0 (x.map Prod.snd) i = wdW x i := by
  have e := lay_at (x := x.map Prod.snd) (g := g) (L := 0) (i := i) (by rw [List.length_map]; exact h)
  rw [Nat.zero_add] at e
  rw [e, getD_2]
theorem tx_g {ρ : Rw} (h : Inv ρ) (u : Int32) : GR (nN (ρ 5)) 0 (txR ρ u) := lv_g lk_tok (sg_g lk_tok 5) 5 0 (by omega)

set_option maxHeartbeats 4000000 in
set_option maxRecDepth 100000 in
theorem c_X7_text {l : Launch} {D : va_G} {k : Nat → ClassId} {g b : Nat → Nat} (μ ν : St) (u : Int32) (hI : Inv (μ 0)) : Ct l D k g yX7_text cX7_text 4 (some .int) 43 899 [.ref (b 20), .int u] (S := St × St) (wM k b μ ν) (fun uu => wM k b uu.1 uu.2) (fun vv uu => vv = some (.int ((op_text u μ).1)) ∧ uu.1 = (op_text u μ).2) := by
  refine Ct.ofI RX7 rfl (by decide +kernel) (Nat.le_of_ble_eq_true rfl) (fun X hC hR => ?_)
  have hb4 := hI.hb; have hb8 := hI.mb; have hb6 := hI.pb; have hbm := hI.ob0; have hbt := hI.bb; have hbw := hI.wb
  show V X (wM k b μ ν) [(0, .ref (b 20)), (1, .int u)] [] 0
  refine V.iload_n (pc := 0) 1 hC dX7_text_0 rfl ?_
  refine V.iconst (pc := 1) 0 hC dX7_text_1 (by decide) ?_
  refine V.iconst (pc := 2) 1 hC dX7_text_2 (by decide) ?_
  refine V.callS0 (pc := 3) (as := [.int u, .int 0, .int 1]) hC (c_X7_in u 0 1 ) ms_X7_in ml_X7_47 (by decide) rfl (Nat.le_of_ble_eq_true rfl) dX7_text_3 ?_
  rintro _ _ rfl
  show V X (wM k b μ ν) [(0, .ref (b 20)), (1, .int u)] [.int (bI (inS u 0 1))] 6
  refine V.if_ne_b (P := inS u 0 1) (pc := 6) 16 hC dX7_text_6 (by decide) (fun c_6 => ?_) (fun c_6 => ?_)
  · have hh_u := inS_c c_6 (nl 1) (by omega)
    refine V.aload_n (pc := 16) 0 hC dX7_text_16 rfl ?_
    refine V.iload_n (pc := 17) 1 hC dX7_text_17 rfl ?_
    refine V.put (pc := 18) (v := .int u) hC cf_X7 0 16 (wM k b μ (va_up ν 16 (fun _ => u))) fl_X7_128 (by decide) gm_0 rfl rfl rfl (Nat.le_of_ble_eq_true rfl) rfl dX7_text_18 ?_
    refine V.aload_n (pc := 21) 0 hC dX7_text_21 rfl ?_
    refine V.iconst (pc := 22) 0 hC dX7_text_22 (by decide) ?_
    refine V.put (pc := 23) (v := .int 0) hC cf_X7 0 12 (wM k b μ (va_up (va_up ν 16 (fun _ => u)) 12 (fun _ => 0))) fl_X7_125 (by decide) gm_0 rfl rfl rfl (Nat.le_of_ble_eq_true rfl) rfl dX7_text_23 ?_
    refine V.aload_n (pc := 26) 0 hC dX7_text_26 rfl ?_
    refine V.iconst (pc := 27) 0 hC dX7_text_27 (by decide) ?_
    refine V.put (pc := 28) (v := .int 0) hC cf_X7 0 13 (wM k b μ (va_up (va_up (va_up ν 16 (fun _ => u)) 12 (fun _ => 0)) 13 (fun _ => 0))) fl_X7_121 (by decide) gm_0 rfl rfl rfl (Nat.le_of_ble_eq_true rfl) rfl dX7_text_28 ?_
    refine V.aload_n (pc := 31) 0 hC dX7_text_31 rfl ?_
    refine V.iconst (pc := 32) 0 hC dX7_text_32 (by decide) ?_
    refine V.put (pc := 33) (v := .int 0) hC cf_X7 0 14 (wM k b μ (va_up (va_up (va_up (va_up ν 16 (fun _ => u)) 12 (fun _ => 0)) 13 (fun _ => 0)) 14 (fun _ => 0))) fl_X7_143 (by decide) gm_0 rfl rfl rfl (Nat.le_of_ble_eq_true rfl) rfl dX7_text_33 ?_
    refine V.aload_n (pc := 36) 0 hC dX7_text_36 rfl ?_
    refine V.iconst (pc := 37) 0 hC dX7_text_37 (by decide) ?_
    refine V.put (pc := 38) (v := .int 0) hC cf_X7 0 15 (wM k b μ (va_up (va_up (va_up (va_up (va_up ν 16 (fun _ => u)) 12 (fun _ => 0)) 13 (fun _ => 0)) 14 (fun _ => 0)) 15 (fun _ => 0))) fl_X7_135 (by decide) gm_0 rfl rfl rfl (Nat.le_of_ble_eq_true rfl) rfl dX7_text_38 ?_
    refine V.aload_n (pc := 41) 0 hC dX7_text_41 rfl ?_
    refine V.callV0 (pc := 42) (as := []) hC (c_X7_any_5 μ (va_up (va_up (va_up (va_up (va_up ν 16 (fun _ => u)) 12 (fun _ => 0)) 13 (fun _ => 0)) 14 (fun _ => 0)) 15 (fun _ => 0)) u 0 0 hI ⟨rfl, rfl, rfl, rfl, rfl, by omega, by omega⟩) mu_X7_any ml_X7_149 (by decide) ⟨0, 7, TX7, 20, _, rfl, gm_0⟩ rfl (Nat.le_of_ble_eq_true rfl) dX7_text_42 ?_
    rintro _ ⟨f42_0, f42_1, i42_2, i42_3, i42_4, i42_5⟩ ⟨rfl, hu42_0⟩
    have hu42_0 : POut 0 ((ν 8)) ((ν 9)) 0 ((lvS (lkS (μ 0)) (sgS (lkS (μ 0)) u 5) 5) 0) f42_0 f42_1 i42_2 i42_3 i42_4 i42_5 := hu42_0
    show V X (wM k b μ (va_up (va_up (va_up (va_up (va_up (va_up (va_up ν 16 (fun _ => u)) 12 (fun _ => i42_2)) 13 (fun _ => i42_3)) 14 (fun _ => i42_4)) 15 (fun _ => i42_5)) 8 f42_0) 9 f42_1)) [(0, .ref (b 20)), (1, .int u)] [] 45
    have hgx := tx_g hI u
    replace hu42_0 : POut 0 (ν 8) (ν 9) 0 (txR (μ 0) u) f42_0 f42_1 i42_2 i42_3 i42_4 i42_5 := hu42_0
    have hgb := hgx.2.1
    refine V.aload_n (pc := 45) 0 hC dX7_text_45 rfl ?_
    refine V.aload_n (pc := 46) 0 hC dX7_text_46 rfl ?_
    refine V.get (pc := 47) (v := .int i42_5) hC cf_X7 0 15 fl_X7_135 (by decide) gm_0 rfl dX7_text_47 ?_
    refine V.eqi (y := bdS (txR (μ 0) u)) (hu42_0.2.2.1) ?_
    refine V.if_ne (pc := 50) 66 hC dX7_text_50 (by decide) (fun c_50 => ?_) (fun c_50 => ?_)
    · refine V.iconst (pc := 66) 1 hC dX7_text_66 (by decide) ?_
      refine V.goto (pc := 67) 71 hC dX7_text_67 (by decide) ?_
      refine V.put (pc := 71) (v := .int 1) hC cf_X7 0 15 (wM k b μ (va_up (va_up (va_up (va_up (va_up (va_up (va_up ν 16 (fun _ => u)) 12 (fun _ => i42_2)) 13 (fun _ => i42_3)) 14 (fun _ => i42_4)) 15 (fun _ => 1)) 8 f42_0) 9 f42_1)) fl_X7_135 (by decide) gm_0 rfl rfl rfl (Nat.le_of_ble_eq_true rfl) rfl dX7_text_71 ?_
      refine V.aload_n (pc := 74) 0 hC dX7_text_74 rfl ?_
      refine V.get (pc := 75) (v := .ref (b 0)) hC cf_X7 0 0 fl_X7_9 (by decide) gm_0 rfl dX7_text_75 ?_
      refine V.iconst (pc := 78) 5 hC dX7_text_78 (by decide) ?_
      refine V.iconst (pc := 79) 0 hC dX7_text_79 (by decide) ?_
      refine V.iast (pc := 80) (f := μ 0) hC 1 5 (wM k b (va_up μ 0 (upd (μ 0) 5 0)) (va_up (va_up (va_up (va_up (va_up (va_up (va_up ν 16 (fun _ => u)) 12 (fun _ => i42_2)) 13 (fun _ => i42_3)) 14 (fun _ => i42_4)) 15 (fun _ => 1)) 8 f42_0) 9 f42_1)) gm_1 (nl 5) (by omega) (by decide) rfl dX7_text_80 ?_
      refine V.aload_n (pc := 81) 0 hC dX7_text_81 rfl ?_
      refine V.get (pc := 82) (v := .int 1) hC cf_X7 0 15 fl_X7_135 (by decide) gm_0 rfl dX7_text_82 ?_
      refine V.if_eq (pc := 85) 96 hC dX7_text_85 (by decide) (fun c_85 => ?_) (fun c_85 => ?_)
      · exact absurd c_85 (by decide)
      · refine V.bipush (pc := 88) (-10) hC dX7_text_88 (by decide) ?_
        refine V.aload_n (pc := 90) 0 hC dX7_text_90 rfl ?_
        refine V.get (pc := 91) (v := .int i42_3) hC cf_X7 0 13 fl_X7_121 (by decide) gm_0 rfl dX7_text_91 ?_
        refine V.isub (pc := 94) hC dX7_text_94 ?_
        exact hR ((-10) - i42_3) ((va_up μ 0 (upd (μ 0) 5 0)), (va_up (va_up (va_up (va_up (va_up (va_up (va_up ν 16 (fun _ => u)) 12 (fun _ => i42_2)) 13 (fun _ => i42_3)) 14 (fun _ => i42_4)) 15 (fun _ => 1)) 8 f42_0) 9 f42_1)) _ _ dX7_text_95 rfl (opr (by rw [op_text, if_neg (not_not_intro c_6), if_neg (fun q => c_50 (if_pos q.1)), show i42_3 = nI (txR (μ 0) u).2.1 from hu42_0.1] <;> rfl))
    · refine V.aload_n (pc := 53) 0 hC dX7_text_53 rfl ?_
      refine V.get (pc := 54) (v := .int i42_3) hC cf_X7 0 13 fl_X7_121 (by decide) gm_0 rfl dX7_text_54 ?_
      refine V.aload_n (pc := 57) 0 hC dX7_text_57 rfl ?_
      refine V.get (pc := 58) (v := .ref (b 0)) hC cf_X7 0 0 fl_X7_9 (by decide) gm_0 rfl dX7_text_58 ?_
      refine V.iconst (pc := 61) 5 hC dX7_text_61 (by decide) ?_
      refine V.iald (pc := 62) (f := μ 0) hC 1 5 gm_1 (nl 5) (by omega) (by decide) dX7_text_62 ?_
      refine V.icmp_ge (pc := 63) 70 hC dX7_text_63 (by decide) (fun c_63 => ?_) (fun c_63 => ?_)
      · have nc_63 : nN (μ 0 5) ≤ (txR (μ 0) u).2.1 := (nle hI.bn hu42_0.1 (by omega) (by omega)).mp c_63
        refine V.iconst (pc := 70) 0 hC dX7_text_70 (by decide) ?_
        refine V.put (pc := 71) (v := .int 0) hC cf_X7 0 15 (wM k b μ (va_up (va_up (va_up (va_up (va_up (va_up (va_up ν 16 (fun _ => u)) 12 (fun _ => i42_2)) 13 (fun _ => i42_3)) 14 (fun _ => i42_4)) 15 (fun _ => 0)) 8 f42_0) 9 f42_1)) fl_X7_135 (by decide) gm_0 rfl rfl rfl (Nat.le_of_ble_eq_true rfl) rfl dX7_text_71 ?_
        refine V.aload_n (pc := 74) 0 hC dX7_text_74 rfl ?_
        refine V.get (pc := 75) (v := .ref (b 0)) hC cf_X7 0 0 fl_X7_9 (by decide) gm_0 rfl dX7_text_75 ?_
        refine V.iconst (pc := 78) 5 hC dX7_text_78 (by decide) ?_
        refine V.iconst (pc := 79) 0 hC dX7_text_79 (by decide) ?_
        refine V.iast (pc := 80) (f := μ 0) hC 1 5 (wM k b (va_up μ 0 (upd (μ 0) 5 0)) (va_up (va_up (va_up (va_up (va_up (va_up (va_up ν 16 (fun _ => u)) 12 (fun _ => i42_2)) 13 (fun _ => i42_3)) 14 (fun _ => i42_4)) 15 (fun _ => 0)) 8 f42_0) 9 f42_1)) gm_1 (nl 5) (by omega) (by decide) rfl dX7_text_80 ?_
        refine V.aload_n (pc := 81) 0 hC dX7_text_81 rfl ?_
        refine V.get (pc := 82) (v := .int 0) hC cf_X7 0 15 fl_X7_135 (by decide) gm_0 rfl dX7_text_82 ?_
        refine V.if_eq (pc := 85) 96 hC dX7_text_85 (by decide) (fun c_85 => ?_) (fun c_85 => ?_)
        · have hok : (txR (μ 0) u).1 = true := bd_0 c_50
          have hat : (txR (μ 0) u).2.1 = nN (μ 0 5) := by have := hgx.2.1; omega
          have hq := hu42_0.2.2.2.2 hok
          rw [Nat.zero_add] at hq
          have hgl := (hgx.2.2 hok).2.1
          refine V.sipush (pc := 96) 133 hC dX7_text_96 (by decide) ?_
          refine V.bipush (pc := 99) 121 hC dX7_text_99 (by decide) ?_
          refine V.iload_n (pc := 101) 1 hC dX7_text_101 rfl ?_
          refine V.imul (pc := 102) hC dX7_text_102 ?_
          refine V.iadd (pc := 103) hC dX7_text_103 ?_
          refine V.istore_n (pc := 104) [(2, .int (133 + (121 * u))), (0, .ref (b 20)), (1, .int u)] hC dX7_text_104 (by decide) rfl ?_
          refine V.aload_n (pc := 105) 1 hC dX7_text_105 rfl ?_
          refine V.get (pc := 106) (v := .ref (b 0)) hC cf_X7 0 0 fl_X7_9 (by decide) gm_0 rfl dX7_text_106 ?_
          refine V.iload_n (pc := 109) 0 hC dX7_text_109 rfl ?_
          refine V.aload_n (pc := 110) 1 hC dX7_text_110 rfl ?_
          refine V.get (pc := 111) (v := .int i42_2) hC cf_X7 0 12 fl_X7_125 (by decide) gm_0 rfl dX7_text_111 ?_
          refine V.iast (pc := 114) (f := upd (μ 0) 5 0) hC 1 (133 + 121 * nN u) (wM k b (va_up μ 0 (upd (upd (μ 0) 5 0) (133 + 121 * nN u) i42_2)) (va_up (va_up (va_up (va_up (va_up (va_up (va_up ν 16 (fun _ => u)) 12 (fun _ => i42_2)) 13 (fun _ => i42_3)) 14 (fun _ => i42_4)) 15 (fun _ => 0)) 8 f42_0) 9 f42_1)) gm_1 (ncast (b := 133 + 121 * nN u) (nadd (nl 133) (nmul (nl 121) hh_u.1)) (by omega)) (by omega) (by decide) rfl dX7_text_114 ?_
          refine V.iconst (pc := 115) 0 hC dX7_text_115 (by decide) ?_
          refine V.istore_n (pc := 116) [(3, .int 0), (2, .int (133 + (121 * u))), (0, .ref (b 20)), (1, .int u)] hC dX7_text_116 (by decide) rfl ?_
          have loop_117 : ∀ (n : Nat) (i : Nat) (f : Rw), i + n = (txR (μ 0) u).2.2.length → f = txC (txB (μ 0) (nN u) (txR (μ 0) u).2.2) (134 + 121 * nN u) (wdA (txR (μ 0) u).2.2) (wdW (txR (μ 0) u).2.2) i → V X (wM k b (va_up μ 0 f) (va_up (va_up (va_up (va_up (va_up (va_up (va_up ν 16 (fun _ => u)) 12 (fun _ => i42_2)) 13 (fun _ => i42_3)) 14 (fun _ => i42_4)) 15 (fun _ => 0)) 8 f42_0) 9 f42_1)) [(0, .ref (b 20)), (2, .int (133 + (121 * u))), (3, .int (nI i))] [] 117 := by
            intro n
            induction n with
            | zero =>
              intro i f hi hf
              refine V.iload_n (pc := 117) 2 hC dX7_text_117 rfl ?_
              refine V.aload_n (pc := 118) 0 hC dX7_text_118 rfl ?_
              refine V.get (pc := 119) (v := .int i42_2) hC cf_X7 0 12 fl_X7_125 (by decide) gm_0 rfl dX7_text_119 ?_
              refine V.icmp_ge (pc := 122) 164 hC dX7_text_122 (by decide) (fun c_122 => ?_) (fun c_122 => ?_)
              · have nc_122 : (txR (μ 0) u).2.2.length ≤ i := (nle hq.1 rfl (by omega) (by omega)).mp c_122
                refine V.iconst (pc := 164) 1 hC dX7_text_164 (by decide) ?_
                exact hR 1 ((va_up μ 0 f), (va_up (va_up (va_up (va_up (va_up (va_up (va_up ν 16 (fun _ => u)) 12 (fun _ => i42_2)) 13 (fun _ => i42_3)) 14 (fun _ => i42_4)) 15 (fun _ => 0)) 8 f42_0) 9 f42_1)) _ _ dX7_text_165 rfl (opr (by rw [op_text, if_neg (not_not_intro c_6), if_pos ⟨hok, hat⟩, show txC (txB (μ 0) (nN u) (txR (μ 0) u).2.2) (134 + 121 * nN u) (wdA (txR (μ 0) u).2.2) (wdW (txR (μ 0) u).2.2) (txR (μ 0) u).2.2.length = f from by rw [hf, show i = (txR (μ 0) u).2.2.length by omega]]))
              · have nc_122 : ¬ ((txR (μ 0) u).2.2.length ≤ i) := fun z => c_122 ((nle hq.1 rfl (by omega) (by omega)).mpr z)
                exfalso; omega
            | succ n ih =>
              intro i f hi hf
              refine V.iload_n (pc := 117) 2 hC dX7_text_117 rfl ?_
              refine V.aload_n (pc := 118) 0 hC dX7_text_118 rfl ?_
              refine V.get (pc := 119) (v := .int i42_2) hC cf_X7 0 12 fl_X7_125 (by decide) gm_0 rfl dX7_text_119 ?_
              refine V.icmp_ge (pc := 122) 164 hC dX7_text_122 (by decide) (fun c_122 => ?_) (fun c_122 => ?_)
              · have nc_122 : (txR (μ 0) u).2.2.length ≤ i := (nle hq.1 rfl (by omega) (by omega)).mp c_122
                exfalso; omega
              · have nc_122 : ¬ ((txR (μ 0) u).2.2.length ≤ i) := fun z => c_122 ((nle hq.1 rfl (by omega) (by omega)).mpr z)
                refine V.aload_n (pc := 125) 0 hC dX7_text_125 rfl ?_
                refine V.get (pc := 126) (v := .ref (b 0)) hC cf_X7 0 0 fl_X7_9 (by decide) gm_0 rfl dX7_text_126 ?_
                refine V.iload_n (pc := 129) 1 hC dX7_text_129 rfl ?_
                refine V.iconst (pc := 130) 1 hC dX7_text_130 (by decide) ?_
                refine V.iadd (pc := 131) hC dX7_text_131 ?_
                refine V.iload_n (pc := 132) 2 hC dX7_text_132 rfl ?_
                refine V.iadd (pc := 133) hC dX7_text_133 ?_
                refine V.aload_n (pc := 134) 0 hC dX7_text_134 rfl ?_
                refine V.get (pc := 135) (v := .ref (b 8)) hC cf_X7 0 8 fl_X7_31 (by decide) gm_0 rfl dX7_text_135 ?_
                refine V.iload_n (pc := 138) 2 hC dX7_text_138 rfl ?_
                refine V.iald (pc := 139) (f := f42_0) hC 8 i gm_8 rfl (by omega) (by decide) dX7_text_139 ?_
                refine V.eqi (y := wdA (txR (μ 0) u).2.2 i) (by rw [hq.2.1]; exact lay0_1 (by omega)) ?_
                refine V.iast (pc := 140) (f := f) hC 1 (134 + 121 * nN u + i) (wM k b (va_up μ 0 (upd f (134 + 121 * nN u + i) (wdA (txR (μ 0) u).2.2 i))) (va_up (va_up (va_up (va_up (va_up (va_up (va_up ν 16 (fun _ => u)) 12 (fun _ => i42_2)) 13 (fun _ => i42_3)) 14 (fun _ => i42_4)) 15 (fun _ => 0)) 8 f42_0) 9 f42_1)) gm_1 (ncast (b := 134 + 121 * nN u + i) (nadd (nadd (nadd (nl 133) (nmul (nl 121) hh_u.1)) (nl 1)) rfl) (by omega)) (by omega) (by decide) rfl dX7_text_140 ?_
                refine V.aload_n (pc := 141) 0 hC dX7_text_141 rfl ?_
                refine V.get (pc := 142) (v := .ref (b 0)) hC cf_X7 0 0 fl_X7_9 (by decide) gm_0 rfl dX7_text_142 ?_
                refine V.iload_n (pc := 145) 1 hC dX7_text_145 rfl ?_
                refine V.bipush (pc := 146) 61 hC dX7_text_146 (by decide) ?_
                refine V.iadd (pc := 148) hC dX7_text_148 ?_
                refine V.iload_n (pc := 149) 2 hC dX7_text_149 rfl ?_
                refine V.iadd (pc := 150) hC dX7_text_150 ?_
                refine V.aload_n (pc := 151) 0 hC dX7_text_151 rfl ?_
                refine V.get (pc := 152) (v := .ref (b 9)) hC cf_X7 0 9 fl_X7_34 (by decide) gm_0 rfl dX7_text_152 ?_
                refine V.iload_n (pc := 155) 2 hC dX7_text_155 rfl ?_
                refine V.iald (pc := 156) (f := f42_1) hC 9 i gm_9 rfl (by omega) (by decide) dX7_text_156 ?_
                refine V.eqi (y := wdW (txR (μ 0) u).2.2 i) (by rw [hq.2.2]; exact lay0_2 (by omega)) ?_
                refine V.iast (pc := 157) (f := upd f (134 + 121 * nN u + i) (wdA (txR (μ 0) u).2.2 i)) hC 1 (194 + 121 * nN u + i) (wM k b (va_up μ 0 (upd (upd f (134 + 121 * nN u + i) (wdA (txR (μ 0) u).2.2 i)) (194 + 121 * nN u + i) (wdW (txR (μ 0) u).2.2 i))) (va_up (va_up (va_up (va_up (va_up (va_up (va_up ν 16 (fun _ => u)) 12 (fun _ => i42_2)) 13 (fun _ => i42_3)) 14 (fun _ => i42_4)) 15 (fun _ => 0)) 8 f42_0) 9 f42_1)) gm_1 (ncast (b := 194 + 121 * nN u + i) (nadd (nadd (nadd (nl 133) (nmul (nl 121) hh_u.1)) (nl 61)) rfl) (by omega)) (by omega) (by decide) rfl dX7_text_157 ?_
                refine V.iinc (pc := 158) 2 (nI (i + 1)) [(3, .int (nI (i + 1))), (0, .ref (b 20)), (2, .int (133 + (121 * u)))] hC dX7_text_158 rfl (ncast (nadd rfl (nl 1)) (by omega)) (by decide) rfl ?_
                refine V.goto (pc := 161) 117 hC dX7_text_161 (by decide) ?_
                exact V.sub [1, 2, 0] rfl (ih (i + 1) (upd (upd f (134 + 121 * nN u + i) (wdA (txR (μ 0) u).2.2 i)) (194 + 121 * nN u + i) (wdW (txR (μ 0) u).2.2 i)) (by omega) (by rw [hf, show 194 + 121 * nN u + i = (134 + 121 * nN u) + 60 + i by omega]; exact txC_s (by omega)))
          exact V.sub [2, 1, 0] rfl (loop_117 (txR (μ 0) u).2.2.length 0 (upd (upd (μ 0) 5 0) (133 + 121 * nN u) i42_2) (by omega) (by rw [show upd (upd (μ 0) 5 0) (133 + 121 * nN u) i42_2 = txB (μ 0) (nN u) (txR (μ 0) u).2.2 from by rw [hq.1]; rfl]; exact txC_0))
        · exact absurd c_85 (by decide)
      · have nc_63 : ¬ (nN (μ 0 5) ≤ (txR (μ 0) u).2.1) := fun z => c_63 ((nle hI.bn hu42_0.1 (by omega) (by omega)).mpr z)
        refine V.iconst (pc := 66) 1 hC dX7_text_66 (by decide) ?_
        refine V.goto (pc := 67) 71 hC dX7_text_67 (by decide) ?_
        refine V.put (pc := 71) (v := .int 1) hC cf_X7 0 15 (wM k b μ (va_up (va_up (va_up (va_up (va_up (va_up (va_up ν 16 (fun _ => u)) 12 (fun _ => i42_2)) 13 (fun _ => i42_3)) 14 (fun _ => i42_4)) 15 (fun _ => 1)) 8 f42_0) 9 f42_1)) fl_X7_135 (by decide) gm_0 rfl rfl rfl (Nat.le_of_ble_eq_true rfl) rfl dX7_text_71 ?_
        refine V.aload_n (pc := 74) 0 hC dX7_text_74 rfl ?_
        refine V.get (pc := 75) (v := .ref (b 0)) hC cf_X7 0 0 fl_X7_9 (by decide) gm_0 rfl dX7_text_75 ?_
        refine V.iconst (pc := 78) 5 hC dX7_text_78 (by decide) ?_
        refine V.iconst (pc := 79) 0 hC dX7_text_79 (by decide) ?_
        refine V.iast (pc := 80) (f := μ 0) hC 1 5 (wM k b (va_up μ 0 (upd (μ 0) 5 0)) (va_up (va_up (va_up (va_up (va_up (va_up (va_up ν 16 (fun _ => u)) 12 (fun _ => i42_2)) 13 (fun _ => i42_3)) 14 (fun _ => i42_4)) 15 (fun _ => 1)) 8 f42_0) 9 f42_1)) gm_1 (nl 5) (by omega) (by decide) rfl dX7_text_80 ?_
        refine V.aload_n (pc := 81) 0 hC dX7_text_81 rfl ?_
        refine V.get (pc := 82) (v := .int 1) hC cf_X7 0 15 fl_X7_135 (by decide) gm_0 rfl dX7_text_82 ?_
        refine V.if_eq (pc := 85) 96 hC dX7_text_85 (by decide) (fun c_85 => ?_) (fun c_85 => ?_)
        · exact absurd c_85 (by decide)
        · refine V.bipush (pc := 88) (-10) hC dX7_text_88 (by decide) ?_
          refine V.aload_n (pc := 90) 0 hC dX7_text_90 rfl ?_
          refine V.get (pc := 91) (v := .int i42_3) hC cf_X7 0 13 fl_X7_121 (by decide) gm_0 rfl dX7_text_91 ?_
          refine V.isub (pc := 94) hC dX7_text_94 ?_
          exact hR ((-10) - i42_3) ((va_up μ 0 (upd (μ 0) 5 0)), (va_up (va_up (va_up (va_up (va_up (va_up (va_up ν 16 (fun _ => u)) 12 (fun _ => i42_2)) 13 (fun _ => i42_3)) 14 (fun _ => i42_4)) 15 (fun _ => 1)) 8 f42_0) 9 f42_1)) _ _ dX7_text_95 rfl (opr (by rw [op_text, if_neg (not_not_intro c_6), if_neg (fun q => absurd q.2 (by omega)), show i42_3 = nI (txR (μ 0) u).2.1 from hu42_0.1] <;> rfl))
  · refine V.aload_n (pc := 9) 0 hC dX7_text_9 rfl ?_
    refine V.ldc (pc := 10) (v := (-1000000001)) hC cn_X7_55 dX7_text_10 ?_
    refine V.callV0 (pc := 12) (as := [.int (-1000000001)]) hC (c_X7_error μ ν 1 (-1000000001) (by omega) (by decide)) mu_X7_error ml_X7_56 (by decide) ⟨0, 7, TX7, 20, _, rfl, gm_0⟩ rfl (Nat.le_of_ble_eq_true rfl) dX7_text_12 ?_
    rintro _ _ rfl
    show V X (wM k b (va_up μ 3 (upd (μ 3) 1 (μ 3 1 + 1))) ν) [(0, .ref (b 20)), (1, .int u)] [.int (-1000000001)] 15
    exact hR (-1000000001) ((va_up μ 3 (upd (μ 3) 1 (μ 3 1 + 1))), ν) _ _ dX7_text_15 rfl (opr (by simp only [op_text, c_6, inS, hndS, homS, prsS, shtS, if_true, if_false, not_true_eq_false, not_false_eq_true, true_and, and_true, false_and, and_false, true_or, or_true, or_false, false_or, er_1, er_2, er_3, er_4, er_5, er_6] <;> rfl))
